/-- a fund that is being read: no series, no lots yet -/
def rl_FR (g : Nat → Int64) : Prop := rl_I 400000000 g ∧ rl_P g ∧ (g 9).toInt = 0 ∧ rl_T g ≤ 30000000 * (g 8).toInt
/-- a row as lay leaves it -/
def rl_Z (g : Nat → Int64) : Prop := (g 0).toInt = 1 ∧ (g 4).toInt = 100 ∧ ∀ i : Nat, i < 334 → i ≠ 0 → i ≠ 4 → (g i).toInt = 0
theorem rl_Z.of {x : Nat → Int64} {k : Nat} (h : ∀ i : Nat, i < k → x i = 0) (hk : 334 ≤ k) : rl_Z (vp_updL (vp_updL x 0 1) 4 100) := by
  refine ⟨?_, ?_, fun i hi a b => ?_⟩
  · rw [rl_ne (by decide) (rl_eq rfl)]; decide
  · rw [rl_eq rfl]; decide
  · rw [rl_ne b (rl_ne a rfl), h i (by omega)]; decide
theorem rl_fillz {x : Nat → Int64} {k : Nat} (h : ∀ i : Nat, i < k → x i = 0) : ∀ i : Nat, i < 1 + k → vp_updL x k 0 i = 0 := fun i hi => by
  by_cases e : i = k
  · subst e; exact rl_eq rfl
  · rw [rl_ne e rfl]; exact h i (by omega)
/-- the head of a fund: what a row must be before the subscriptions are read -/
theorem rl_FR.head {g : Nat → Int64} (h0 : 1 ≤ (g 0).toInt ∧ (g 0).toInt ≤ 6) (h1 : 0 ≤ (g 1).toInt ∧ (g 1).toInt ≤ 1) (h2 : 0 ≤ (g 2).toInt ∧ (g 2).toInt ≤ 9999) (h3 : 0 ≤ (g 3).toInt ∧ (g 3).toInt ≤ 50) (h4 : 0 ≤ (g 4).toInt ∧ (g 4).toInt ≤ 100) (hz : (g 6).toInt = 0 ∧ (g 7).toInt = 0 ∧ (g 8).toInt = 0 ∧ (g 9).toInt = 0) : rl_FR g := by
  obtain ⟨z6, z7, z8, z9⟩ := hz
  have nS : rnS g = 0 := by unfold rnS; omega
  have nL : rnL g = 0 := by unfold rnL; omega
  have nR : rnR g = 0 := by unfold rnR; omega
  have hT : rl_T g = 0 := by unfold rl_T; rw [nS, nL, nR]; rfl
  refine ⟨⟨⟨⟨h0, h1, by omega, by omega, by omega⟩, h2, h3, h4, fun _ => by omega⟩, fun k hk => ?_, fun a b _ hb => ?_, fun j hj => ?_, fun j hj => ?_, fun k hk => ?_, fun r hr => ?_, by rw [hT]; decide⟩, ⟨fun j hj => ?_, fun k hk => ?_⟩, z9, by rw [hT]; omega⟩
  · rw [nS] at hk; omega
  · rw [nS] at hb; omega
  · rw [nL] at hj; omega
  · rw [nL] at hj; omega
  · rw [nS] at hk; omega
  · rw [nR] at hr; omega
  · rw [nL] at hj; omega
  · rw [nS] at hk; omega
theorem rl_FR.K {B C : Int} {g : Nat → Int64} (h : rl_FR g) (hB : 400000000 ≤ B) (hC : 0 ≤ C) : rl_K B C g := ⟨h.1.mono hB, h.2.1, by rw [h.2.2.1]; exact ⟨Int.le_refl _, hC⟩⟩
theorem rl_FR.ask {f g : Nat → Int64} {a : Int} (h : rl_FR f) (hi : rl_I 400000000 g) (hT : rl_T g = rl_T f + 3 * a) (ha : a ≤ 10000000) (hp : rl_P f → rl_P g) (h9 : g 9 = f 9) (h8 : (g 8).toInt = (f 8).toInt + 1) : rl_FR g := ⟨hi, hp h.2.1, by rw [h9]; exact h.2.2.1, by have := h.2.2.2; omega⟩
