/-- rows that are alike where it counts -/
theorem rl_I.cong {B : Int} {f g : Nat → Int64} (h : rl_I B f) (e : ∀ i : Nat, i < 334 → g i = f i) : rl_I B g ∧ rl_T g = rl_T f := by
  obtain ⟨⟨⟨h0, h1, h6, h7, h8⟩, r2, r3, r4, r5⟩, hS, hN, hL, hE, hU, hQ, hB⟩ := h
  have c0 := e 0 (by decide)
  have c1 := e 1 (by decide)
  have c2 := e 2 (by decide)
  have c3 := e 3 (by decide)
  have c4 := e 4 (by decide)
  have c6 := e 6 (by decide)
  have c7 := e 7 (by decide)
  have c8 := e 8 (by decide)
  have c9 := e 9 (by decide)
  have nS : rnS g = rnS f := by unfold rnS; rw [c6]
  have nL : rnL g = rnL f := by unfold rnL; rw [c7]
  have nR : rnR g = rnR f := by unfold rnR; rw [c8]
  have sb : ∀ a : Nat, a < rnS f → a < 6 := fun a ha => by unfold rnS at ha; omega
  have lb : ∀ a : Nat, a < rnL f → a < 40 := fun a ha => by unfold rnL at ha; omega
  have qb : ∀ a : Nat, a < rnR f → a < 12 := fun a ha => by unfold rnR at ha; omega
  have hT : rl_T g = rl_T f := by
    unfold rl_T
    rw [nS, nL, nR, rsum_congr (g := fun k => (f (18 + 5 * k)).toInt) (h := fun k => (g (18 + 5 * k)).toInt) (fun i hi => by show (g (18 + 5 * i)).toInt = _; rw [e _ (by have := sb i hi; omega)]), rsum_congr (g := fun k => (f (50 + 6 * k)).toInt) (h := fun k => (g (50 + 6 * k)).toInt) (fun i hi => by show (g (50 + 6 * i)).toInt = _; rw [e _ (by have := lb i hi; omega)]), rsum_congr (g := fun r => if (f (287 + 4 * r)).toInt = 0 then (f (288 + 4 * r)).toInt else 0) (h := fun r => if (g (287 + 4 * r)).toInt = 0 then (g (288 + 4 * r)).toInt else 0) (fun i hi => by show (if (g (287 + 4 * i)).toInt = 0 then (g (288 + 4 * i)).toInt else 0) = _; rw [e (287 + 4 * i) (by have := qb i hi; omega), e (288 + 4 * i) (by have := qb i hi; omega)])]
  refine ⟨⟨⟨⟨by rw [c0]; exact h0, by rw [c1]; exact h1, by rw [c6]; exact h6, by rw [c7]; exact h7, by rw [c8]; exact h8⟩, by rw [c2]; exact r2, by rw [c3]; exact r3, by rw [c4]; exact r4, by rw [c1, c6]; exact r5⟩, fun a ha => ?_, fun a b hab hb => ?_, fun a ha => ?_, fun a ha => ?_, fun a ha => ?_, fun a ha => ?_, by rw [hT]; exact hB⟩, hT⟩
  · rw [nS] at ha
    have h9 := sb a ha
    unfold rl_S; rw [c1, c9, e (18 + 5 * a) (by omega), e (19 + 5 * a) (by omega), e (20 + 5 * a) (by omega), e (16 + 5 * a) (by omega)]; exact hS a ha
  · rw [nS] at hb
    have h9 := sb b hb
    rw [e (16 + 5 * a) (by omega), e (16 + 5 * b) (by omega)]; exact hN a b hab hb
  · rw [nL] at ha
    have h9 := lb a ha
    unfold rl_L; rw [c1, e (48 + 6 * a) (by omega), e (49 + 6 * a) (by omega), e (50 + 6 * a) (by omega)]; exact hL a ha
  · rw [nL] at ha
    have h9 := lb a ha
    obtain ⟨b, hb, hbe⟩ := hE a ha
    have h8 := sb b hb
    exact ⟨b, by rw [nS]; exact hb, by rw [e (16 + 5 * b) (by omega), e (47 + 6 * a) (by omega)]; exact hbe⟩
  · rw [nS] at ha
    have h9 := sb a ha
    rw [e (16 + 5 * a) (by omega), e (19 + 5 * a) (by omega), hU a ha]
    unfold rl_u
    rw [nL]
    exact (rsum_congr (fun i hi => by have := lb i hi; rw [e (47 + 6 * i) (by omega), e (48 + 6 * i) (by omega)])).symm
  · rw [nR] at ha
    have h9 := qb a ha
    have := hQ a ha
    unfold rl_Q at this ⊢
    rw [e (287 + 4 * a) (by omega), e (288 + 4 * a) (by omega)]
    exact this
theorem rl_P.cong {B : Int} {f g : Nat → Int64} (h : rl_P f) (hI : rl_I B f) (e : ∀ i : Nat, i < 334 → g i = f i) : rl_P g := by
  have h6 := hI.1.1.2.2.1
  have h7 := hI.1.1.2.2.2.1
  have nS : rnS g = rnS f := by unfold rnS; rw [e 6 (by decide)]
  have nL : rnL g = rnL f := by unfold rnL; rw [e 7 (by decide)]
  refine ⟨fun j hj => ?_, fun k hk => ?_⟩
  · rw [nL] at hj
    rw [e (48 + 6 * j) (by unfold rnL at hj; omega)]; exact h.1 j hj
  · rw [nS] at hk
    rw [e (19 + 5 * k) (by unfold rnS at hk; omega)]; exact h.2 k hk
/-- every row of longs of the pool holds something -/
theorem rl_lcx {tk : Nat → tt_K} {cA : Nat → ClassId} {K : Nat → Nat} {pl : va_W} (hok : tt_ok tk cA K pl) {a kn n : Nat} {t : tt_T} (ha : K a = kn) (hn : kn ≠ 0) (htk : tk kn = (2, 2, n, [t])) : ∃ g : Nat → Int64, tt_lc pl a g := by
  obtain ⟨j, e9, hi, hE⟩ := hok a (by rw [ha]; exact hn)
  rw [ha, htk] at hE
  obtain ⟨g, rfl, -⟩ := (show ∃ g : Nat → Int64, e9 = .inl (cA 2, n, .inr (.inl g)) ∧ ∀ j : Nat, j < n → tt_V K t (.long (g j)) from hE)
  exact ⟨g, j, n, cA 2, hi⟩
