theorem rz_i1 {x : Int64} (h : x.toInt < 9223372036854775807) : (x + 1).toInt = x.toInt + 1 := by
  have h1 : (1 : Int64).toInt = 1 := by decide
  have := Int64.le_toInt x
  rw [rz_add (by rw [h1]; omega) (by rw [h1]; omega), h1]
theorem rl_P.of2 {B : Int} {f g : Nat → Int64} (hp : rl_P f) (hI : rl_I B f) (e6 : g 6 = f 6) (e7 : g 7 = f 7) (e : ∀ i : Nat, 16 ≤ i → i < 286 → g i = f i) : rl_P g := by
  have h6 := hI.1.1.2.2.1
  have h7 := hI.1.1.2.2.2.1
  have nS : rnS g = rnS f := by unfold rnS; rw [e6]
  have nL : rnL g = rnL f := by unfold rnL; rw [e7]
  refine ⟨fun j hj => ?_, fun k hk => ?_⟩
  · rw [nL] at hj; rw [e _ (by omega) (by unfold rnL at hj; omega)]; exact hp.1 j hj
  · rw [nS] at hk; rw [e _ (by omega) (by unfold rnS at hk; omega)]; exact hp.2 k hk
/-- a request comes: the row as the reference writes it -/
theorem rl_askw {B B1 : Int} {f : Nat → Int64} (h : rl_I B f) (hr : (f 8).toInt < 12) {n : Nat} (hn : (f 8).toInt = (n : Int)) {a b c d : Int64} (hb : b = 0 ∨ b = 1) (hc : b = 0 → 0 ≤ c.toInt ∧ c.toInt ≤ 10000000) (hB1 : rl_T f + 3 * (if b = 0 then c.toInt else 0) ≤ B1) {g : Nat → Int64} (hg : g = vp_updL (vp_updL (vp_updL (vp_updL (vp_updL f (286 + 4 * n) a) (287 + 4 * n) b) (288 + 4 * n) c) (289 + 4 * n) d) 8 (f 8 + 1)) :
    rl_I B1 g ∧ rl_T g = rl_T f + 3 * (if b = 0 then c.toInt else 0) ∧ (rl_P f → rl_P g) ∧ (∀ i : Nat, i < 286 → i ≠ 8 → g i = f i) ∧ (g 8).toInt = (f 8).toInt + 1 := by
  subst hg
  have hnR : rnR f = n := by unfold rnR; omega
  have e8 : ((vp_updL (vp_updL (vp_updL (vp_updL (vp_updL f (286 + 4 * n) a) (287 + 4 * n) b) (288 + 4 * n) c) (289 + 4 * n) d) 8 (f 8 + 1)) 8).toInt = (f 8).toInt + 1 := by rw [rl_eq rfl]; exact rz_i1 (by omega)
  have eb : (vp_updL (vp_updL (vp_updL (vp_updL (vp_updL f (286 + 4 * n) a) (287 + 4 * n) b) (288 + 4 * n) c) (289 + 4 * n) d) 8 (f 8 + 1)) (287 + 4 * n) = b := by rw [rl_ne (by omega) rfl, rl_ne (by omega) rfl, rl_ne (by omega) rfl, rl_eq rfl]
  have ec : (vp_updL (vp_updL (vp_updL (vp_updL (vp_updL f (286 + 4 * n) a) (287 + 4 * n) b) (288 + 4 * n) c) (289 + 4 * n) d) 8 (f 8 + 1)) (288 + 4 * n) = c := by rw [rl_ne (by omega) rfl, rl_ne (by omega) rfl, rl_eq rfl]
  have eo : ∀ i : Nat, i ≠ 8 → ¬ (286 + 4 * n ≤ i ∧ i ≤ 289 + 4 * n) → (vp_updL (vp_updL (vp_updL (vp_updL (vp_updL f (286 + 4 * n) a) (287 + 4 * n) b) (288 + 4 * n) c) (289 + 4 * n) d) 8 (f 8 + 1)) i = f i := fun i x y => by rw [rl_ne x rfl, rl_ne (by omega) rfl, rl_ne (by omega) rfl, rl_ne (by omega) rfl, rl_ne (by omega) rfl]
  have z0 : (0 : Int64).toInt = 0 := by decide
  have z1 : (1 : Int64).toInt = 1 := by decide
  have hif : (if b.toInt = 0 then c.toInt else 0) = (if b = 0 then c.toInt else 0) := by
    rcases hb with rfl | rfl
    · rw [if_pos z0, if_pos rfl]
    · rw [if_neg (by decide), if_neg (by decide)]
  have hq : rl_Q (vp_updL (vp_updL (vp_updL (vp_updL (vp_updL f (286 + 4 * n) a) (287 + 4 * n) b) (288 + 4 * n) c) (289 + 4 * n) d) 8 (f 8 + 1)) (rnR f) := by
    rw [hnR]; unfold rl_Q; rw [eb, ec]
    refine ⟨?_, fun z => hc ?_⟩
    · rcases hb with rfl | rfl
      · exact Or.inl z0
      · exact Or.inr z1
    · rcases hb with rfl | rfl
      · rfl
      · exact absurd z (by decide)
  obtain ⟨q1, q2⟩ := h.ask (B1 := B1) hr (fun i x y => eo i x (by rw [hnR] at y; exact y)) e8 hq (by rw [hnR, eb, ec, hif]; exact hB1)
  refine ⟨q1, by rw [q2, hnR, eb, ec, hif], fun hp => hp.of2 h (eo 6 (by decide) (by omega)) (eo 7 (by decide) (by omega)) (fun i hi h2 => eo i (by omega) (by omega)), fun i hi h8 => eo i h8 (by omega), e8⟩
theorem rz_divn {x y : Int64} (hx : x.toInt ≤ 0) (hy : 0 < y.toInt) : (x / y).toInt = -((-x.toInt) / y.toInt) := by
  have h3 := Int64.le_toInt x
  have h0 : 0 ≤ -x.toInt := by omega
  have hb : (-x.toInt) / y.toInt ≤ -x.toInt := Int.ediv_le_self _ h0
  have hn : 0 ≤ (-x.toInt) / y.toInt := Int.ediv_nonneg h0 (Int.le_of_lt hy)
  have e : Int.tdiv x.toInt y.toInt = -((-x.toInt) / y.toInt) := by
    have e1 : x.toInt = -(-x.toInt) := by omega
    rw [e1, Int.neg_tdiv, Int.tdiv_eq_ediv_of_nonneg h0]
    simp
  rw [Int64.toInt_div, e]
  exact Int.bmod_eq_of_le (by omega) (by omega)
/-- assets after a rate -/
theorem rz_rate {a r : Int64} (ha : 0 ≤ a.toInt) (ha2 : a.toInt ≤ 21960000000) (hr : -9000 ≤ r.toInt ∧ r.toInt ≤ 9999) : 0 ≤ (a + a * r / 10000).toInt ∧ (a + a * r / 10000).toInt ≤ 43920000000 ∧ (r.toInt ≤ 0 → (a + a * r / 10000).toInt ≤ a.toInt) ∧ (0 ≤ r.toInt → a.toInt ≤ (a + a * r / 10000).toInt) := by
  have el : (10000 : Int64).toInt = 10000 := by decide
  have p1 : a.toInt * r.toInt ≤ a.toInt * 9999 := Int.mul_le_mul_of_nonneg_left hr.2 ha
  have p2 : a.toInt * (-9000) ≤ a.toInt * r.toInt := Int.mul_le_mul_of_nonneg_left hr.1 ha
  have e1 : (a * r).toInt = a.toInt * r.toInt := rz_mul (by omega) (by omega)
  by_cases h : 0 ≤ r.toInt
  · have p0 : 0 ≤ a.toInt * r.toInt := Int.mul_nonneg ha h
    have e2 : (a * r / 10000).toInt = a.toInt * r.toInt / 10000 := by rw [rz_div (by rw [e1]; exact p0) (by rw [el]; decide), e1, el]
    have e3 : (a + a * r / 10000).toInt = a.toInt + a.toInt * r.toInt / 10000 := by rw [rz_add (by rw [e2]; omega) (by rw [e2]; omega), e2]
    rw [e3]
    refine ⟨by omega, by omega, fun z => ?_, fun _ => by omega⟩
    have : r.toInt = 0 := by omega
    rw [this]; omega
  · have p0 : a.toInt * r.toInt ≤ 0 := Int.mul_nonpos_of_nonneg_of_nonpos ha (by omega)
    have e2 : (a * r / 10000).toInt = -((-(a.toInt * r.toInt)) / 10000) := by rw [rz_divn (by rw [e1]; exact p0) (by rw [el]; decide), e1, el]
    have e3 : (a + a * r / 10000).toInt = a.toInt + -((-(a.toInt * r.toInt)) / 10000) := by rw [rz_add (by rw [e2]; omega) (by rw [e2]; omega), e2]
    rw [e3]
    exact ⟨by omega, by omega, fun z => by omega, fun z => absurd z h⟩
