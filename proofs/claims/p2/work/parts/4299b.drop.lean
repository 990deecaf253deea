/-- dealNow at request x: what is still to be dropped -/
def rl_DN (B : Int) (f g : Nat → Int64) (gd : Nat → Int32) (x : Int) : Prop := rl_I B g ∧ rl_P g ∧ (∀ n : Nat, x = (n : Int) - 1 → rl_T g ≤ rl_T f + 3 * rl_sb f gd n ∧ ∀ i : Nat, i < 286 + 4 * n → i ≠ 6 → i ≠ 7 → i ≠ 8 → i ≠ 9 → (i < 10 ∨ 286 ≤ i) → g i = f i) ∧ x < (g 8).toInt
theorem rl_DN.skip {B : Int} {f g : Nat → Int64} {gd : Nat → Int32} {x y : Int} {r : Nat} (h : rl_DN B f g gd x) (hx : x = (r : Int)) (hy : y = (r : Int) - 1) (hz : gd r = 0) : rl_DN B f g gd y := by
  obtain ⟨h1, h2, h3, h4⟩ := h
  refine ⟨h1, h2, fun n hn => ?_, by omega⟩
  have hnr : n = r := by omega
  subst hnr
  obtain ⟨a, b⟩ := h3 (1 + n) (by omega)
  rw [rl_sb.succ, if_neg (fun z => z.2 hz)] at a
  exact ⟨by omega, fun i c => b i (by omega)⟩
theorem rl_DN.drop {B : Int} {f g : Nat → Int64} {gd : Nat → Int32} {x y : Int} {r : Nat} (h : rl_DN B f g gd x) (hx : x = (r : Int)) (hy : y = (r : Int) - 1) (hz : gd r ≠ 0) : rl_DN B f (rg_dQ g r) gd y := by
  obtain ⟨h1, h2, h3, h4⟩ := h
  have hr : r < rnR g := by unfold rnR; omega
  have q := h1.dQ hr
  have el : ∀ i : Nat, i < 286 + 4 * r → i ≠ 8 → rg_dQ g r i = g i := fun i a b => by unfold rg_dQ; rw [rl_ne b rfl, rg_sh_out (by omega)]
  have e8 : (rg_dQ g r 8).toInt = (g 8).toInt - 1 := by unfold rg_dQ; rw [rl_eq rfl, rg_sh_out (by omega)]; exact rz_dec (by omega)
  refine ⟨q.1, h2.of2 h1 (el 6 (by omega) (by decide)) (el 7 (by omega) (by decide)) (fun i a b => el i (by omega) (by omega)), fun n hn => ?_, by omega⟩
  have hnr : n = r := by omega
  subst hnr
  obtain ⟨a, b⟩ := h3 (1 + n) (by omega)
  rw [rl_sb.succ] at a
  refine ⟨?_, fun i c d6 d7 d8 d9 d => (el i c d8).trans (b i (by omega) d6 d7 d8 d9 d)⟩
  rw [q.2, b (287 + 4 * n) (by omega) (by omega) (by omega) (by omega) (by omega) (by omega), b (288 + 4 * n) (by omega) (by omega) (by omega) (by omega) (by omega) (by omega)]
  by_cases z : (f (287 + 4 * n)).toInt = 0
  · rw [if_pos ⟨z, hz⟩] at a; rw [if_pos z]; omega
  · rw [if_neg (fun w => z w.1)] at a; rw [if_neg z]; omega
