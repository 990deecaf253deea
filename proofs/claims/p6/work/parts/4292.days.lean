/-- only assets fell, and the day and the accounts changed -/
def rl_G (B : Int) (f g : Nat → Int64) : Prop := rl_I B g ∧ rl_P g ∧ rl_T g ≤ rl_T f ∧ ∀ i : Nat, (i < 10 ∧ i ≠ 5 ∨ 46 ≤ i) → g i = f i
theorem rl_G.init {B : Int} {f : Nat → Int64} (h : rl_I B f) (hp : rl_P f) : rl_G B f f := ⟨h, hp, Int.le_refl _, fun _ _ => rfl⟩
theorem rl_P.of {f g : Nat → Int64} (hp : rl_P f) (e6 : g 6 = f 6) (e7 : g 7 = f 7) (eL : ∀ i : Nat, 46 ≤ i → g i = f i) (eU : ∀ k : Nat, k < rnS f → g (19 + 5 * k) = f (19 + 5 * k)) : rl_P g := by
  have nS : rnS g = rnS f := by unfold rnS; rw [e6]
  have nL : rnL g = rnL f := by unfold rnL; rw [e7]
  refine ⟨fun j hj => ?_, fun k hk => ?_⟩
  · rw [nL] at hj; rw [eL _ (by omega)]; exact hp.1 j hj
  · rw [nS] at hk; rw [eU k hk]; exact hp.2 k hk
theorem rl_G.day {B : Int} {f g : Nat → Int64} (h : rl_G B f g) (hB : B ≤ 43920000000) {k : Nat} (hk : k < rnS g) : rl_G B f (vp_updL g (18 + 5 * k) (g (18 + 5 * k) - g (18 + 5 * k) * g 2 / 3650000)) := by
  obtain ⟨h1, h2, h3, h4⟩ := h
  have hA := h1.abound hk
  have hA0 := (h1.2.1 k hk).1.1
  have hr := h1.1.2.1
  have p0 : 0 ≤ (g (18 + 5 * k)).toInt * (g 2).toInt := Int.mul_nonneg hA0 hr.1
  have p1 : (g (18 + 5 * k)).toInt * (g 2).toInt ≤ (g (18 + 5 * k)).toInt * 9999 := Int.mul_le_mul_of_nonneg_left hr.2 hA0
  have e1 : (g (18 + 5 * k) * g 2).toInt = (g (18 + 5 * k)).toInt * (g 2).toInt := rz_mul (by omega) (by omega)
  have el : (3650000 : Int64).toInt = 3650000 := by decide
  have e2 : (g (18 + 5 * k) * g 2 / 3650000).toInt = (g (18 + 5 * k)).toInt * (g 2).toInt / 3650000 := by rw [rz_div (by rw [e1]; exact p0) (by rw [el]; decide), e1, el]
  have e3 : (g (18 + 5 * k) - g (18 + 5 * k) * g 2 / 3650000).toInt = (g (18 + 5 * k)).toInt - (g (18 + 5 * k)).toInt * (g 2).toInt / 3650000 := by rw [rz_sub (by rw [e2]; omega) (by rw [e2]; omega), e2]
  have ev : ((vp_updL g (18 + 5 * k) (g (18 + 5 * k) - g (18 + 5 * k) * g 2 / 3650000)) (18 + 5 * k)).toInt = (g (18 + 5 * k)).toInt - (g (18 + 5 * k)).toInt * (g 2).toInt / 3650000 := by rw [rl_eq rfl]; exact e3
  have hk6 : k < 6 := by have := h1.1.1.2.2.1; unfold rnS at hk; omega
  have hbd := h1.2.2.2.2.2.2.2
  obtain ⟨q1, q2⟩ := h1.chgA (g := vp_updL g (18 + 5 * k) (g (18 + 5 * k) - g (18 + 5 * k) * g 2 / 3650000)) (B1 := B) hk (fun i _ _ c => rl_ne c rfl) (by rw [ev]; omega) (fun z z2 => by rw [ev]; have := (h1.2.1 k hk).2.2.2.1 z z2; omega) (by rw [ev]; omega)
  refine ⟨q1, h2.of (rl_ne (by omega) rfl) (rl_ne (by omega) rfl) (fun i hi => rl_ne (by omega) rfl) (fun a _ => rl_ne (by omega) rfl), by rw [q2, ev]; omega, fun i hi => ?_⟩
  rw [rl_ne (by omega) rfl]; exact h4 i hi
theorem rl_G.acc {B : Int} {f g : Nat → Int64} (h : rl_G B f g) {j : Nat} (hj : j = 5 ∨ 10 ≤ j ∧ j ≤ 15) (v : Int64) : rl_G B f (vp_updL g j v) := by
  obtain ⟨h1, h2, h3, h4⟩ := h
  obtain ⟨q1, q2⟩ := h1.hdr (g := vp_updL g j v) (fun i a b c => rl_ne (by omega) rfl) (by rw [rl_ne (by omega) rfl]; exact h1.1.2.2.2.1)
  refine ⟨q1, h2.of (rl_ne (by omega) rfl) (rl_ne (by omega) rfl) (fun i hi => rl_ne (by omega) rfl) (fun a _ => rl_ne (by omega) rfl), by rw [q2]; exact h3, fun i hi => ?_⟩
  rw [rl_ne (by omega) rfl]; exact h4 i hi
