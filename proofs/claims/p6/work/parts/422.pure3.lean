/-- a request goes -/
theorem rl_I.dropQ {B : Int} {f g : Nat → Int64} (h : rl_I B f) {r : Nat} (hr : r < rnR f)
    (e1 : ∀ i : Nat, i ≠ 8 → ¬ (286 + 4 * r ≤ i ∧ i < 330) → g i = f i) (e2 : ∀ i : Nat, 286 + 4 * r ≤ i → i < 330 → g i = f (i + 4)) (e3 : (g 8).toInt = (f 8).toInt - 1) : rl_I B g ∧ rl_T g = rl_T f - 3 * (if (f (287 + 4 * r)).toInt = 0 then (f (288 + 4 * r)).toInt else 0) := by
  obtain ⟨⟨⟨h0, h1, h6, h7, h8⟩, r2, r3, r4, r5⟩, hS, hN, hL, hE, hU, hQ, hB⟩ := h
  have hr12 : r < 12 := by have := hr; unfold rnR at this; omega
  have el : ∀ i : Nat, i < 286 → i ≠ 8 → g i = f i := fun i a b => e1 i b (by omega)
  have c0 := el 0 (by decide) (by decide)
  have c1 := el 1 (by decide) (by decide)
  have c2 := el 2 (by decide) (by decide)
  have c3 := el 3 (by decide) (by decide)
  have c4 := el 4 (by decide) (by decide)
  have c6 := el 6 (by decide) (by decide)
  have c7 := el 7 (by decide) (by decide)
  have c9 := el 9 (by decide) (by decide)
  have nS : rnS g = rnS f := by unfold rnS; rw [c6]
  have nL : rnL g = rnL f := by unfold rnL; rw [c7]
  have nR : rnR f = rnR g + 1 := by unfold rnR at hr ⊢; rw [e3]; omega
  have sb : ∀ a : Nat, a < rnS f → a < 6 := fun a ha => by unfold rnS at ha; omega
  have lb : ∀ a : Nat, a < rnL f → a < 40 := fun a ha => by unfold rnL at ha; omega
  have qb : ∀ a : Nat, a < rnR g → a < 11 := fun a ha => by unfold rnR at ha; rw [e3] at ha; omega
  have es : ∀ a c : Nat, a < 6 → c < 5 → g (16 + c + 5 * a) = f (16 + c + 5 * a) := fun a c ha hc => el _ (by omega) (by omega)
  have eL : ∀ a c : Nat, a < 40 → c < 6 → g (46 + c + 6 * a) = f (46 + c + 6 * a) := fun a c ha hc => el _ (by omega) (by omega)
  have lo : ∀ a c : Nat, a < r → c < 4 → g (286 + c + 4 * a) = f (286 + c + 4 * a) := fun a c ha hc => e1 _ (by omega) (by omega)
  have up : ∀ a c : Nat, r ≤ a → a < 11 → c < 4 → g (286 + c + 4 * a) = f (286 + c + 4 * (a + 1)) := fun a c ha hb hc => by rw [e2 _ (by omega) (by omega)]; congr 1
  have hT : rl_T g = rl_T f - 3 * (if (f (287 + 4 * r)).toInt = 0 then (f (288 + 4 * r)).toInt else 0) := by
    unfold rl_T
    rw [nS, nL, nR, rsum_congr (g := fun k => (f (18 + 5 * k)).toInt) (h := fun k => (g (18 + 5 * k)).toInt) (fun i hi => by show (g (18 + 5 * i)).toInt = _; rw [show g (18 + 5 * i) = f (18 + 5 * i) from es i 2 (sb i hi) (by decide)]), rsum_congr (g := fun k => (f (50 + 6 * k)).toInt) (h := fun k => (g (50 + 6 * k)).toInt) (fun i hi => by show (g (50 + 6 * i)).toInt = _; rw [show g (50 + 6 * i) = f (50 + 6 * i) from eL i 4 (lb i hi) (by decide)])]
    have t := rsum_drop (g := fun r => if (f (287 + 4 * r)).toInt = 0 then (f (288 + 4 * r)).toInt else 0) (h := fun r => if (g (287 + 4 * r)).toInt = 0 then (g (288 + 4 * r)).toInt else 0) (j := r) (n := rnR g) (by omega) (fun i hi => by
      show (if (g (287 + 4 * i)).toInt = 0 then (g (288 + 4 * i)).toInt else 0) = _
      rw [show g (287 + 4 * i) = f (287 + 4 * i) from lo i 1 hi (by decide), show g (288 + 4 * i) = f (288 + 4 * i) from lo i 2 hi (by decide)]) (fun i a b => by
      show (if (g (287 + 4 * i)).toInt = 0 then (g (288 + 4 * i)).toInt else 0) = _
      rw [show g (287 + 4 * i) = f (287 + 4 * (i + 1)) from up i 1 a (qb i b) (by decide), show g (288 + 4 * i) = f (288 + 4 * (i + 1)) from up i 2 a (qb i b) (by decide)])
    have t2 : rsum (fun r => if (g (287 + 4 * r)).toInt = 0 then (g (288 + 4 * r)).toInt else 0) (rnR g) = rsum (fun r => if (f (287 + 4 * r)).toInt = 0 then (f (288 + 4 * r)).toInt else 0) (rnR g + 1) - (if (f (287 + 4 * r)).toInt = 0 then (f (288 + 4 * r)).toInt else 0) := t
    rw [t2]
    omega
  have hV : 0 ≤ (if (f (287 + 4 * r)).toInt = 0 then (f (288 + 4 * r)).toInt else 0) := by
    split
    · rename_i z; exact ((hQ r hr).2 z).1
    · exact Int.le_refl 0
  refine ⟨⟨⟨⟨by rw [c0]; exact h0, by rw [c1]; exact h1, by rw [c6]; exact h6, by rw [c7]; exact h7, by rw [e3]; unfold rnR at hr; omega⟩, by rw [c2]; exact r2, by rw [c3]; exact r3, by rw [c4]; exact r4, by rw [c1, c6]; exact r5⟩, fun a ha => ?_, fun a b hab hb => ?_, fun a ha => ?_, fun a ha => ?_, fun a ha => ?_, fun a ha => ?_, by rw [hT]; omega⟩, hT⟩
  · rw [nS] at ha
    have ha6 := sb a ha
    unfold rl_S
    rw [c1, c9, show g (16 + 5 * a) = f (16 + 5 * a) from es a 0 ha6 (by decide), show g (18 + 5 * a) = f (18 + 5 * a) from es a 2 ha6 (by decide), show g (19 + 5 * a) = f (19 + 5 * a) from es a 3 ha6 (by decide), show g (20 + 5 * a) = f (20 + 5 * a) from es a 4 ha6 (by decide)]
    exact hS a ha
  · rw [nS] at hb
    rw [show g (16 + 5 * a) = f (16 + 5 * a) from es a 0 (by have := sb b hb; omega) (by decide), show g (16 + 5 * b) = f (16 + 5 * b) from es b 0 (sb b hb) (by decide)]
    exact hN a b hab hb
  · rw [nL] at ha
    have a4 := lb a ha
    unfold rl_L
    rw [c1, show g (48 + 6 * a) = f (48 + 6 * a) from eL a 2 a4 (by decide), show g (49 + 6 * a) = f (49 + 6 * a) from eL a 3 a4 (by decide), show g (50 + 6 * a) = f (50 + 6 * a) from eL a 4 a4 (by decide)]
    exact hL a ha
  · rw [nL] at ha
    obtain ⟨k, hk, hke⟩ := hE a ha
    exact ⟨k, by rw [nS]; exact hk, by rw [show g (47 + 6 * a) = f (47 + 6 * a) from eL a 1 (lb a ha) (by decide), show g (16 + 5 * k) = f (16 + 5 * k) from es k 0 (sb k hk) (by decide)]; exact hke⟩
  · rw [nS] at ha
    rw [show g (16 + 5 * a) = f (16 + 5 * a) from es a 0 (sb a ha) (by decide), show g (19 + 5 * a) = f (19 + 5 * a) from es a 3 (sb a ha) (by decide), hU a ha]
    unfold rl_u
    rw [nL]
    exact (rsum_congr (fun i hi => by rw [show g (47 + 6 * i) = f (47 + 6 * i) from eL i 1 (lb i hi) (by decide), show g (48 + 6 * i) = f (48 + 6 * i) from eL i 2 (lb i hi) (by decide)])).symm
  · unfold rl_Q
    by_cases har : a < r
    · rw [show g (287 + 4 * a) = f (287 + 4 * a) from lo a 1 har (by decide), show g (288 + 4 * a) = f (288 + 4 * a) from lo a 2 har (by decide)]
      exact hQ a (by omega)
    · rw [show g (287 + 4 * a) = f (287 + 4 * (a + 1)) from up a 1 (by omega) (qb a ha) (by decide), show g (288 + 4 * a) = f (288 + 4 * (a + 1)) from up a 2 (by omega) (qb a ha) (by decide)]
      exact hQ (a + 1) (by omega)
/-- a request comes -/
theorem rl_I.ask {B B1 : Int} {f g : Nat → Int64} (h : rl_I B f) (hr : (f 8).toInt < 12)
    (e1 : ∀ i : Nat, i ≠ 8 → ¬ (286 + 4 * rnR f ≤ i ∧ i ≤ 289 + 4 * rnR f) → g i = f i) (e3 : (g 8).toInt = (f 8).toInt + 1) (hq : rl_Q g (rnR f))
    (hB1 : rl_T f + 3 * (if (g (287 + 4 * rnR f)).toInt = 0 then (g (288 + 4 * rnR f)).toInt else 0) ≤ B1) : rl_I B1 g ∧ rl_T g = rl_T f + 3 * (if (g (287 + 4 * rnR f)).toInt = 0 then (g (288 + 4 * rnR f)).toInt else 0) := by
  obtain ⟨⟨⟨h0, h1, h6, h7, h8⟩, r2, r3, r4, r5⟩, hS, hN, hL, hE, hU, hQ, hB⟩ := h
  have el : ∀ i : Nat, i < 286 → i ≠ 8 → g i = f i := fun i a b => e1 i b (by omega)
  have c0 := el 0 (by decide) (by decide)
  have c1 := el 1 (by decide) (by decide)
  have c2 := el 2 (by decide) (by decide)
  have c3 := el 3 (by decide) (by decide)
  have c4 := el 4 (by decide) (by decide)
  have c6 := el 6 (by decide) (by decide)
  have c7 := el 7 (by decide) (by decide)
  have c9 := el 9 (by decide) (by decide)
  have nS : rnS g = rnS f := by unfold rnS; rw [c6]
  have nL : rnL g = rnL f := by unfold rnL; rw [c7]
  have nR : rnR g = rnR f + 1 := by unfold rnR; rw [e3]; omega
  have sb : ∀ a : Nat, a < rnS f → a < 6 := fun a ha => by unfold rnS at ha; omega
  have lb : ∀ a : Nat, a < rnL f → a < 40 := fun a ha => by unfold rnL at ha; omega
  have es : ∀ a c : Nat, a < 6 → c < 5 → g (16 + c + 5 * a) = f (16 + c + 5 * a) := fun a c ha hc => el _ (by omega) (by omega)
  have eL : ∀ a c : Nat, a < 40 → c < 6 → g (46 + c + 6 * a) = f (46 + c + 6 * a) := fun a c ha hc => el _ (by omega) (by omega)
  have lo : ∀ a c : Nat, a < rnR f → c < 4 → g (286 + c + 4 * a) = f (286 + c + 4 * a) := fun a c ha hc => e1 _ (by omega) (by omega)
  have hT : rl_T g = rl_T f + 3 * (if (g (287 + 4 * rnR f)).toInt = 0 then (g (288 + 4 * rnR f)).toInt else 0) := by
    unfold rl_T
    rw [nS, nL, nR, rsum_congr (g := fun k => (f (18 + 5 * k)).toInt) (h := fun k => (g (18 + 5 * k)).toInt) (fun i hi => by show (g (18 + 5 * i)).toInt = _; rw [show g (18 + 5 * i) = f (18 + 5 * i) from es i 2 (sb i hi) (by decide)]), rsum_congr (g := fun k => (f (50 + 6 * k)).toInt) (h := fun k => (g (50 + 6 * k)).toInt) (fun i hi => by show (g (50 + 6 * i)).toInt = _; rw [show g (50 + 6 * i) = f (50 + 6 * i) from eL i 4 (lb i hi) (by decide)])]
    have t : rsum (fun r => if (g (287 + 4 * r)).toInt = 0 then (g (288 + 4 * r)).toInt else 0) (rnR f + 1) = rsum (fun r => if (g (287 + 4 * r)).toInt = 0 then (g (288 + 4 * r)).toInt else 0) (rnR f) + (if (g (287 + 4 * rnR f)).toInt = 0 then (g (288 + 4 * rnR f)).toInt else 0) := rfl
    rw [t, rsum_congr (g := fun r => if (f (287 + 4 * r)).toInt = 0 then (f (288 + 4 * r)).toInt else 0) (h := fun r => if (g (287 + 4 * r)).toInt = 0 then (g (288 + 4 * r)).toInt else 0) (fun i hi => by
      show (if (g (287 + 4 * i)).toInt = 0 then (g (288 + 4 * i)).toInt else 0) = _
      rw [show g (287 + 4 * i) = f (287 + 4 * i) from lo i 1 hi (by decide), show g (288 + 4 * i) = f (288 + 4 * i) from lo i 2 hi (by decide)])]
    omega
  refine ⟨⟨⟨⟨by rw [c0]; exact h0, by rw [c1]; exact h1, by rw [c6]; exact h6, by rw [c7]; exact h7, by rw [e3]; omega⟩, by rw [c2]; exact r2, by rw [c3]; exact r3, by rw [c4]; exact r4, by rw [c1, c6]; exact r5⟩, fun a ha => ?_, fun a b hab hb => ?_, fun a ha => ?_, fun a ha => ?_, fun a ha => ?_, fun a ha => ?_, by rw [hT]; exact hB1⟩, hT⟩
  · rw [nS] at ha
    have ha6 := sb a ha
    unfold rl_S
    rw [c1, c9, show g (16 + 5 * a) = f (16 + 5 * a) from es a 0 ha6 (by decide), show g (18 + 5 * a) = f (18 + 5 * a) from es a 2 ha6 (by decide), show g (19 + 5 * a) = f (19 + 5 * a) from es a 3 ha6 (by decide), show g (20 + 5 * a) = f (20 + 5 * a) from es a 4 ha6 (by decide)]
    exact hS a ha
  · rw [nS] at hb
    rw [show g (16 + 5 * a) = f (16 + 5 * a) from es a 0 (by have := sb b hb; omega) (by decide), show g (16 + 5 * b) = f (16 + 5 * b) from es b 0 (sb b hb) (by decide)]
    exact hN a b hab hb
  · rw [nL] at ha
    have a4 := lb a ha
    unfold rl_L
    rw [c1, show g (48 + 6 * a) = f (48 + 6 * a) from eL a 2 a4 (by decide), show g (49 + 6 * a) = f (49 + 6 * a) from eL a 3 a4 (by decide), show g (50 + 6 * a) = f (50 + 6 * a) from eL a 4 a4 (by decide)]
    exact hL a ha
  · rw [nL] at ha
    obtain ⟨k, hk, hke⟩ := hE a ha
    exact ⟨k, by rw [nS]; exact hk, by rw [show g (47 + 6 * a) = f (47 + 6 * a) from eL a 1 (lb a ha) (by decide), show g (16 + 5 * k) = f (16 + 5 * k) from es k 0 (sb k hk) (by decide)]; exact hke⟩
  · rw [nS] at ha
    rw [show g (16 + 5 * a) = f (16 + 5 * a) from es a 0 (sb a ha) (by decide), show g (19 + 5 * a) = f (19 + 5 * a) from es a 3 (sb a ha) (by decide), hU a ha]
    unfold rl_u
    rw [nL]
    exact (rsum_congr (fun i hi => by rw [show g (47 + 6 * i) = f (47 + 6 * i) from eL i 1 (lb i hi) (by decide), show g (48 + 6 * i) = f (48 + 6 * i) from eL i 2 (lb i hi) (by decide)])).symm
  · by_cases har : a = rnR f
    · subst har; exact hq
    · have := hQ a (by omega)
      unfold rl_Q at this ⊢
      rw [show g (287 + 4 * a) = f (287 + 4 * a) from lo a 1 (by omega) (by decide), show g (288 + 4 * a) = f (288 + 4 * a) from lo a 2 (by omega) (by decide)]
      exact this
/-- a series is opened -/
theorem rl_I.opn {B : Int} {f g : Nat → Int64} (h : rl_I B f) (hn : (f 6).toInt < 6) (hm : (f 1).toInt = 1 → (f 6).toInt = 0) (h9 : 0 ≤ (f 9).toInt)
    (e1 : ∀ i : Nat, i ≠ 6 → i ≠ 9 → ¬ (16 + 5 * rnS f ≤ i ∧ i ≤ 20 + 5 * rnS f) → g i = f i) (e6 : (g 6).toInt = (f 6).toInt + 1) (e9 : (g 9).toInt = (f 9).toInt + 1)
    (d0 : (g (16 + 5 * rnS f)).toInt = (f 9).toInt) (d2 : (g (18 + 5 * rnS f)).toInt = 0) (d3 : (g (19 + 5 * rnS f)).toInt = 0) (d4 : (g (20 + 5 * rnS f)).toInt = 1000000) : rl_I B g ∧ rl_T g = rl_T f := by
  obtain ⟨⟨⟨h0, h1, h6, h7, h8⟩, r2, r3, r4, r5⟩, hS, hN, hL, hE, hU, hQ, hB⟩ := h
  have hn6 : rnS f < 6 := by unfold rnS; omega
  have el : ∀ i : Nat, 46 ≤ i → g i = f i := fun i a => e1 i (by omega) (by omega) (by omega)
  have hh : ∀ i : Nat, i < 16 → i ≠ 6 → i ≠ 9 → g i = f i := fun i a b c => e1 i b c (by omega)
  have c0 := hh 0 (by decide) (by decide) (by decide)
  have c1 := hh 1 (by decide) (by decide) (by decide)
  have c2 := hh 2 (by decide) (by decide) (by decide)
  have c3 := hh 3 (by decide) (by decide) (by decide)
  have c4 := hh 4 (by decide) (by decide) (by decide)
  have c7 := hh 7 (by decide) (by decide) (by decide)
  have c8 := hh 8 (by decide) (by decide) (by decide)
  have nS : rnS g = rnS f + 1 := by unfold rnS; rw [e6]; omega
  have nL : rnL g = rnL f := by unfold rnL; rw [c7]
  have nR : rnR g = rnR f := by unfold rnR; rw [c8]
  have es : ∀ a c : Nat, a < rnS f → c < 5 → g (16 + c + 5 * a) = f (16 + c + 5 * a) := fun a c ha hc => e1 _ (by omega) (by omega) (by omega)
  have hT : rl_T g = rl_T f := by
    unfold rl_T
    rw [nS, nL, nR, rsum_congr (g := fun k => (f (50 + 6 * k)).toInt) (h := fun k => (g (50 + 6 * k)).toInt) (fun i _ => by show (g (50 + 6 * i)).toInt = _; rw [el _ (by omega)]), rsum_congr (g := fun r => if (f (287 + 4 * r)).toInt = 0 then (f (288 + 4 * r)).toInt else 0) (h := fun r => if (g (287 + 4 * r)).toInt = 0 then (g (288 + 4 * r)).toInt else 0) (fun i _ => by show (if (g (287 + 4 * i)).toInt = 0 then (g (288 + 4 * i)).toInt else 0) = _; rw [el _ (by omega), el (288 + 4 * i) (by omega)])]
    have t : rsum (fun k => (g (18 + 5 * k)).toInt) (rnS f + 1) = rsum (fun k => (g (18 + 5 * k)).toInt) (rnS f) + (g (18 + 5 * rnS f)).toInt := rfl
    rw [t, d2, rsum_congr (g := fun k => (f (18 + 5 * k)).toInt) (h := fun k => (g (18 + 5 * k)).toInt) (fun i hi => by show (g (18 + 5 * i)).toInt = _; rw [show g (18 + 5 * i) = f (18 + 5 * i) from es i 2 hi (by decide)])]
    omega
  refine ⟨⟨⟨⟨by rw [c0]; exact h0, by rw [c1]; exact h1, by rw [e6]; omega, by rw [c7]; exact h7, by rw [c8]; exact h8⟩, by rw [c2]; exact r2, by rw [c3]; exact r3, by rw [c4]; exact r4, by rw [c1, e6]; intro z; have := hm z; omega⟩, fun a ha => ?_, fun a b hab hb => ?_, fun a ha => ?_, fun a ha => ?_, fun a ha => ?_, fun a ha => ?_, by rw [hT]; exact hB⟩, hT⟩
  · unfold rl_S
    by_cases han : a = rnS f
    · subst han
      rw [d0, d2, d3, d4, e9]
      exact ⟨⟨by omega, by omega⟩, ⟨by omega, by omega⟩, fun _ => by omega, fun _ _ => by omega, by omega, by omega⟩
    · have ha2 : a < rnS f := by omega
      have hs := hS a ha2
      unfold rl_S at hs
      rw [c1, e9, show g (16 + 5 * a) = f (16 + 5 * a) from es a 0 ha2 (by decide), show g (18 + 5 * a) = f (18 + 5 * a) from es a 2 ha2 (by decide), show g (19 + 5 * a) = f (19 + 5 * a) from es a 3 ha2 (by decide), show g (20 + 5 * a) = f (20 + 5 * a) from es a 4 ha2 (by decide)]
      exact ⟨hs.1, hs.2.1, hs.2.2.1, hs.2.2.2.1, hs.2.2.2.2.1, by have := hs.2.2.2.2.2; omega⟩
  · have ha2 : a < rnS f := by omega
    rw [show g (16 + 5 * a) = f (16 + 5 * a) from es a 0 ha2 (by decide)]
    by_cases hbn : b = rnS f
    · subst hbn; rw [d0]; exact (hS a ha2).2.2.2.2.2
    · rw [show g (16 + 5 * b) = f (16 + 5 * b) from es b 0 (by omega) (by decide)]
      exact hN a b hab (by omega)
  · rw [nL] at ha
    unfold rl_L
    rw [c1, el _ (by omega : 46 ≤ 48 + 6 * a), el _ (by omega : 46 ≤ 49 + 6 * a), el _ (by omega : 46 ≤ 50 + 6 * a)]
    exact hL a ha
  · rw [nL] at ha
    obtain ⟨k, hk, hke⟩ := hE a ha
    exact ⟨k, by omega, by rw [el _ (by omega : 46 ≤ 47 + 6 * a), show g (16 + 5 * k) = f (16 + 5 * k) from es k 0 hk (by decide)]; exact hke⟩
  · by_cases han : a = rnS f
    · subst han
      rw [d3, d0]
      unfold rl_u
      rw [nL]
      refine (rsum_z (fun i hi => ?_)).symm
      obtain ⟨k, hk, hke⟩ := hE i hi
      have := (hS k hk).2.2.2.2.2
      show (if (g (47 + 6 * i)).toInt = (f 9).toInt then (g (48 + 6 * i)).toInt else 0) = 0
      rw [el _ (by omega : 46 ≤ 47 + 6 * i)]
      exact if_neg (by omega)
    · have ha2 : a < rnS f := by omega
      rw [show g (16 + 5 * a) = f (16 + 5 * a) from es a 0 ha2 (by decide), show g (19 + 5 * a) = f (19 + 5 * a) from es a 3 ha2 (by decide), hU a ha2]
      unfold rl_u
      rw [nL]
      exact (rsum_congr (fun i _ => by rw [el _ (by omega : 46 ≤ 47 + 6 * i), el _ (by omega : 46 ≤ 48 + 6 * i)])).symm
  · rw [nR] at ha
    have := hQ a ha
    unfold rl_Q at this ⊢
    rw [el _ (by omega : 46 ≤ 287 + 4 * a), el _ (by omega : 46 ≤ 288 + 4 * a)]
    exact this
