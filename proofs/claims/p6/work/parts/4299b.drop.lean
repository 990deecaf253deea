/-- dealNow at request x: what is still to be dropped -/
def rl_DN (B : Int) (f g : Nat → Int64) (gd : Nat → Int32) (x : Int) : Prop := rl_I B g ∧ rl_P g ∧ (∀ n : Nat, x = (n : Int) - 1 → rl_T g ≤ rl_T f + 3 * rl_sb f gd n ∧ ∀ i : Nat, i < 286 + 4 * n → i ≠ 6 → i ≠ 7 → i ≠ 8 → i ≠ 9 → (i < 10 ∨ 286 ≤ i) → g i = f i) ∧ x < (g 8).toInt ∧ ((f 9).toInt ≤ (g 9).toInt ∧ (g 9).toInt ≤ (f 9).toInt + 12)
theorem rl_DN.skip {B : Int} {f g : Nat → Int64} {gd : Nat → Int32} {x y : Int} {r : Nat} (h : rl_DN B f g gd x) (hx : x = (r : Int)) (hy : y = (r : Int) - 1) (hz : gd r = 0) : rl_DN B f g gd y := by
  obtain ⟨h1, h2, h3, h4, h5⟩ := h
  have h5' := h5
  refine ⟨h1, h2, fun n hn => ?_, by omega, h5'⟩
  have hnr : n = r := by omega
  subst hnr
  obtain ⟨a, b⟩ := h3 (1 + n) (by omega)
  rw [rl_sb.succ, if_neg (fun z => z.2 hz)] at a
  exact ⟨by omega, fun i c => b i (by omega)⟩
theorem rl_DN.drop {B : Int} {f g : Nat → Int64} {gd : Nat → Int32} {x y : Int} {r : Nat} (h : rl_DN B f g gd x) (hx : x = (r : Int)) (hy : y = (r : Int) - 1) (hz : gd r ≠ 0) : rl_DN B f (rg_dQ g r) gd y := by
  obtain ⟨h1, h2, h3, h4, h5⟩ := h
  have hr : r < rnR g := by unfold rnR; omega
  have q := h1.dQ hr
  have el : ∀ i : Nat, i < 286 + 4 * r → i ≠ 8 → rg_dQ g r i = g i := fun i a b => by unfold rg_dQ; rw [rl_ne b rfl, rg_sh_out (by omega)]
  have h5' : (f 9).toInt ≤ (rg_dQ g r 9).toInt ∧ (rg_dQ g r 9).toInt ≤ (f 9).toInt + 12 := by rw [el 9 (by omega) (by decide)]; exact h5
  have e8 : (rg_dQ g r 8).toInt = (g 8).toInt - 1 := by unfold rg_dQ; rw [rl_eq rfl, rg_sh_out (by omega)]; exact rz_dec (by omega)
  refine ⟨q.1, h2.of2 h1 (el 6 (by omega) (by decide)) (el 7 (by omega) (by decide)) (fun i a b => el i (by omega) (by omega)), fun n hn => ?_, by omega, h5'⟩
  have hnr : n = r := by omega
  subst hnr
  obtain ⟨a, b⟩ := h3 (1 + n) (by omega)
  rw [rl_sb.succ] at a
  refine ⟨?_, fun i c d6 d7 d8 d9 d => (el i c d8).trans (b i (by omega) d6 d7 d8 d9 d)⟩
  rw [q.2, b (287 + 4 * n) (by omega) (by omega) (by omega) (by omega) (by omega) (by omega), b (288 + 4 * n) (by omega) (by omega) (by omega) (by omega) (by omega) (by omega)]
  by_cases z : (f (287 + 4 * n)).toInt = 0
  · rw [if_pos ⟨z, hz⟩] at a; rw [if_pos z]; omega
  · rw [if_neg (fun w => z w.1)] at a; rw [if_neg z]; omega
theorem rl_DN.init {B : Int} {f g : Nat → Int64} {fd gd : Nat → Int32} {x : Int} (h : rl_SA B f g fd gd (rnR f)) (h0 : rl_h f) (hx : x = (g 8).toInt - 1) : rl_DN (B + 360000000) f g gd x := by
  obtain ⟨h1, h2, h3, h4, h5, h6, h7⟩ := h
  have e8 : (g 8).toInt = (f 8).toInt := congrArg Int64.toInt (h4 8 (by decide) (by decide) (by decide) (by decide))
  have hr : rnR f ≤ 12 := by have := h0.2.2.2.2; unfold rnR; omega
  have hr2 : ((rnR f : Nat) : Int) = (f 8).toInt := by have := h0.2.2.2.2; unfold rnR; omega
  refine ⟨h1.up (by have := h1.2.2.2.2.2.2.2; omega), h2, fun n hn => ?_, by omega, ⟨by omega, by omega⟩⟩
  have hn2 : n = rnR f := by omega
  subst hn2
  exact ⟨h3, fun i _ a b _ c d => d.elim (fun z => h4 i z a b c) (fun z => h5 i z)⟩
theorem rl_DN.fin {B : Int} {f g : Nat → Int64} {gd : Nat → Int32} {x : Int} (h : rl_DN (B + 360000000) f g gd x) (hx : x = -1) (hB : rl_T f ≤ B) : rl_I B g ∧ rl_P g ∧ rl_T g ≤ rl_T f ∧ (∀ i : Nat, i < 10 → i ≠ 6 → i ≠ 7 → i ≠ 8 → i ≠ 9 → g i = f i) ∧ ((f 9).toInt ≤ (g 9).toInt ∧ (g 9).toInt ≤ (f 9).toInt + 12) := by
  obtain ⟨h1, h2, h3, h4, h5⟩ := h
  obtain ⟨a, b⟩ := h3 0 (by omega)
  have hz : rl_sb f gd 0 = 0 := rfl
  rw [hz] at a
  exact ⟨h1.up (by omega), h2, by omega, fun i z w6 w7 w8 w9 => b i (by omega) w6 w7 w8 w9 (Or.inl z), h5⟩
theorem rl_R.dn {B : Int} {f g : Nat → Int64} {fd : Nat → Int32} (h : rl_R B f g) (hd : rl_dn f fd (rnR f)) : rl_dn g fd (rnR g) := fun a ha hq => by
  have e8 : (g 8).toInt = (f 8).toInt := congrArg Int64.toInt (h.2.2.2.1 8 (by decide) (by decide) (by decide))
  have h8 := h.1.1.1.2.2.2.2
  have ha2 : a < rnR f := by unfold rnR at ha ⊢; omega
  have h12 : a < 12 := by unfold rnR at ha; omega
  exact hd a ha2 (fun z => hq (by rw [h.2.2.2.2 a h12]; exact z))
