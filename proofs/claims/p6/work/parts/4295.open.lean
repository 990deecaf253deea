/-- a series is opened: the row as the reference writes it -/
theorem rl_openw {B : Int} {f : Nat → Int64} (h : rl_I B f) (hn6 : (f 6).toInt < 6) (hm : (f 1).toInt = 1 → (f 6).toInt = 0) (h9 : 0 ≤ (f 9).toInt ∧ (f 9).toInt < 4611686018427387904) {n : Nat} (hn : (f 6).toInt = (n : Int)) {a : Int64} {g : Nat → Int64} (hg : g = vp_updL (vp_updL (vp_updL (vp_updL (vp_updL (vp_updL (vp_updL f (16 + 5 * n) (f 9)) (17 + 5 * n) a) (18 + 5 * n) 0) (19 + 5 * n) 0) (20 + 5 * n) 1000000) 6 (f 6 + 1)) 9 (f 9 + 1)) :
    rl_I B g ∧ rl_T g = rl_T f ∧ (∀ i : Nat, i ≠ 6 → i ≠ 9 → ¬ (16 + 5 * n ≤ i ∧ i ≤ 20 + 5 * n) → g i = f i) ∧ ((g 6).toInt = (f 6).toInt + 1 ∧ (g 9).toInt = (f 9).toInt + 1) ∧ (g (18 + 5 * n)).toInt = 0 ∧ (g (19 + 5 * n)).toInt = 0 ∧ (g (20 + 5 * n)).toInt = 1000000 ∧ (∀ k : Nat, k < n → rl_P f → 1 ≤ (g (19 + 5 * k)).toInt) ∧ (rl_P f → ∀ j : Nat, j < rnL g → 1 ≤ (g (48 + 6 * j)).toInt) := by
  subst hg
  have hnS : rnS f = n := by unfold rnS; omega
  have z0 : (0 : Int64).toInt = 0 := by decide
  have zm : (1000000 : Int64).toInt = 1000000 := by decide
  have eo : ∀ i : Nat, i ≠ 6 → i ≠ 9 → ¬ (16 + 5 * n ≤ i ∧ i ≤ 20 + 5 * n) → (vp_updL (vp_updL (vp_updL (vp_updL (vp_updL (vp_updL (vp_updL f (16 + 5 * n) (f 9)) (17 + 5 * n) a) (18 + 5 * n) 0) (19 + 5 * n) 0) (20 + 5 * n) 1000000) 6 (f 6 + 1)) 9 (f 9 + 1)) i = f i := fun i x y z => by
    rw [rl_ne y rfl, rl_ne x rfl, rl_ne (by omega) rfl, rl_ne (by omega) rfl, rl_ne (by omega) rfl, rl_ne (by omega) rfl, rl_ne (by omega) rfl]
  have e6 : ((vp_updL (vp_updL (vp_updL (vp_updL (vp_updL (vp_updL (vp_updL f (16 + 5 * n) (f 9)) (17 + 5 * n) a) (18 + 5 * n) 0) (19 + 5 * n) 0) (20 + 5 * n) 1000000) 6 (f 6 + 1)) 9 (f 9 + 1)) 6).toInt = (f 6).toInt + 1 := by rw [rl_ne (by omega) rfl, rl_eq rfl]; exact rz_i1 (by omega)
  have e9 : ((vp_updL (vp_updL (vp_updL (vp_updL (vp_updL (vp_updL (vp_updL f (16 + 5 * n) (f 9)) (17 + 5 * n) a) (18 + 5 * n) 0) (19 + 5 * n) 0) (20 + 5 * n) 1000000) 6 (f 6 + 1)) 9 (f 9 + 1)) 9).toInt = (f 9).toInt + 1 := by rw [rl_eq rfl]; exact rz_i1 (by omega)
  have d0 : ((vp_updL (vp_updL (vp_updL (vp_updL (vp_updL (vp_updL (vp_updL f (16 + 5 * n) (f 9)) (17 + 5 * n) a) (18 + 5 * n) 0) (19 + 5 * n) 0) (20 + 5 * n) 1000000) 6 (f 6 + 1)) 9 (f 9 + 1)) (16 + 5 * n)).toInt = (f 9).toInt := by rw [rl_ne (by omega) rfl, rl_ne (by omega) rfl, rl_ne (by omega) rfl, rl_ne (by omega) rfl, rl_ne (by omega) rfl, rl_ne (by omega) rfl, rl_eq rfl]
  have d2 : ((vp_updL (vp_updL (vp_updL (vp_updL (vp_updL (vp_updL (vp_updL f (16 + 5 * n) (f 9)) (17 + 5 * n) a) (18 + 5 * n) 0) (19 + 5 * n) 0) (20 + 5 * n) 1000000) 6 (f 6 + 1)) 9 (f 9 + 1)) (18 + 5 * n)).toInt = 0 := by rw [rl_ne (by omega) rfl, rl_ne (by omega) rfl, rl_ne (by omega) rfl, rl_ne (by omega) rfl, rl_eq rfl]; exact z0
  have d3 : ((vp_updL (vp_updL (vp_updL (vp_updL (vp_updL (vp_updL (vp_updL f (16 + 5 * n) (f 9)) (17 + 5 * n) a) (18 + 5 * n) 0) (19 + 5 * n) 0) (20 + 5 * n) 1000000) 6 (f 6 + 1)) 9 (f 9 + 1)) (19 + 5 * n)).toInt = 0 := by rw [rl_ne (by omega) rfl, rl_ne (by omega) rfl, rl_ne (by omega) rfl, rl_eq rfl]; exact z0
  have d4 : ((vp_updL (vp_updL (vp_updL (vp_updL (vp_updL (vp_updL (vp_updL f (16 + 5 * n) (f 9)) (17 + 5 * n) a) (18 + 5 * n) 0) (19 + 5 * n) 0) (20 + 5 * n) 1000000) 6 (f 6 + 1)) 9 (f 9 + 1)) (20 + 5 * n)).toInt = 1000000 := by rw [rl_ne (by omega) rfl, rl_ne (by omega) rfl, rl_eq rfl]; exact zm
  obtain ⟨q1, q2⟩ := h.opn hn6 hm h9.1 (fun i x y z => eo i x y (by rw [hnS] at z; exact z)) e6 e9 (by rw [hnS]; exact d0) (by rw [hnS]; exact d2) (by rw [hnS]; exact d3) (by rw [hnS]; exact d4)
  refine ⟨q1, q2, eo, ⟨e6, e9⟩, d2, d3, d4, fun k hk hp => ?_, fun hp j hj => ?_⟩
  · rw [eo _ (by omega) (by omega) (by omega)]; exact hp.2 k (by omega)
  · have hj2 : j < rnL f := by unfold rnL at hj ⊢; rw [eo 7 (by decide) (by decide) (by omega)] at hj; exact hj
    rw [eo _ (by omega) (by omega) (by have := h.1.1.2.2.1; omega)]; exact hp.1 j hj2
