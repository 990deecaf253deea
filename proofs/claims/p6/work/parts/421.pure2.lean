/-- a lot without units goes -/
theorem rl_I.dropL {B : Int} {f g : Nat → Int64} (h : rl_I B f) {j : Nat} (hj : j < rnL f) (hz : (f (48 + 6 * j)).toInt = 0)
    (e1 : ∀ i : Nat, i ≠ 7 → ¬ (46 + 6 * j ≤ i ∧ i < 280) → g i = f i) (e2 : ∀ i : Nat, 46 + 6 * j ≤ i → i < 280 → g i = f (i + 6)) (e3 : (g 7).toInt = (f 7).toInt - 1) : rl_I B g ∧ rl_T g ≤ rl_T f := by
  obtain ⟨⟨⟨h0, h1, h6, h7, h8⟩, r2, r3, r4, r5⟩, hS, hN, hL, hE, hU, hQ, hB⟩ := h
  have hj40 : j < 40 := by have := hj; unfold rnL at this; omega
  have hh : ∀ i : Nat, i < 46 → i ≠ 7 → g i = f i := fun i a b => e1 i b (by omega)
  have c0 := hh 0 (by decide) (by decide)
  have c1 := hh 1 (by decide) (by decide)
  have c2 := hh 2 (by decide) (by decide)
  have c3 := hh 3 (by decide) (by decide)
  have c4 := hh 4 (by decide) (by decide)
  have c6 := hh 6 (by decide) (by decide)
  have c8 := hh 8 (by decide) (by decide)
  have c9 := hh 9 (by decide) (by decide)
  have nS : rnS g = rnS f := by unfold rnS; rw [c6]
  have nR : rnR g = rnR f := by unfold rnR; rw [c8]
  have nL : rnL f = rnL g + 1 := by unfold rnL at hj ⊢; rw [e3]; omega
  have sb : ∀ a : Nat, a < rnS f → a < 6 := fun a ha => by unfold rnS at ha; omega
  have lb : ∀ a : Nat, a < rnL g → a < 39 := fun a ha => by unfold rnL at ha; rw [e3] at ha; omega
  have es : ∀ a c : Nat, a < 6 → c < 5 → g (16 + c + 5 * a) = f (16 + c + 5 * a) := fun a c h5 hc => hh _ (by omega) (by omega)
  have lo : ∀ a c : Nat, a < j → c < 6 → g (46 + c + 6 * a) = f (46 + c + 6 * a) := fun a c ha hc => e1 _ (by omega) (by omega)
  have up : ∀ a c : Nat, j ≤ a → a < 39 → c < 6 → g (46 + c + 6 * a) = f (46 + c + 6 * (a + 1)) := fun a c ha hb hc => by rw [e2 _ (by omega) (by omega)]; congr 1
  have eq : ∀ i : Nat, 286 ≤ i → g i = f i := fun i hi => e1 _ (by omega) (by omega)
  have hT : rl_T g ≤ rl_T f := by
    unfold rl_T
    rw [nS, nR, nL, rsum_congr (g := fun k => (f (18 + 5 * k)).toInt) (h := fun k => (g (18 + 5 * k)).toInt) (fun i hi => by show (g (18 + 5 * i)).toInt = _; rw [show g (18 + 5 * i) = f (18 + 5 * i) from es i 2 (sb i hi) (by decide)]), rsum_congr (g := fun r => if (f (287 + 4 * r)).toInt = 0 then (f (288 + 4 * r)).toInt else 0) (h := fun r => if (g (287 + 4 * r)).toInt = 0 then (g (288 + 4 * r)).toInt else 0) (fun i _ => by show (if (g (287 + 4 * i)).toInt = 0 then (g (288 + 4 * i)).toInt else 0) = _; rw [eq _ (by omega), eq (288 + 4 * i) (by omega)])]
    have t := rsum_drop (g := fun j => (f (50 + 6 * j)).toInt) (h := fun j => (g (50 + 6 * j)).toInt) (j := j) (n := rnL g) (by omega) (fun i hi => by show (g (50 + 6 * i)).toInt = _; rw [show g (50 + 6 * i) = f (50 + 6 * i) from lo i 4 hi (by decide)]) (fun i a b => by show (g (50 + 6 * i)).toInt = _; rw [show g (50 + 6 * i) = f (50 + 6 * (i + 1)) from up i 4 a (lb i b) (by decide)])
    have t2 : rsum (fun j => (g (50 + 6 * j)).toInt) (rnL g) = rsum (fun j => (f (50 + 6 * j)).toInt) (rnL g + 1) - (f (50 + 6 * j)).toInt := t
    have := (hL j hj).2.2.1.1
    rw [t2]
    omega
  -- the place of a lot behind: where it was
  have mv : ∀ a : Nat, a < rnL g → ∃ b : Nat, b < rnL f ∧ ∀ c : Nat, c < 6 → g (46 + c + 6 * a) = f (46 + c + 6 * b) := fun a ha => by
    by_cases haj : a < j
    · exact ⟨a, by omega, fun c hc => lo a c haj hc⟩
    · exact ⟨a + 1, by omega, fun c hc => up a c (by omega) (lb a ha) hc⟩
  refine ⟨⟨⟨⟨by rw [c0]; exact h0, by rw [c1]; exact h1, by rw [c6]; exact h6, by rw [e3]; unfold rnL at hj; omega, by rw [c8]; exact h8⟩, by rw [c2]; exact r2, by rw [c3]; exact r3, by rw [c4]; exact r4, by rw [c1, c6]; exact r5⟩, fun a ha => ?_, fun a b hab hb => ?_, fun a ha => ?_, fun a ha => ?_, fun a ha => ?_, fun a ha => ?_, Int.le_trans hT hB⟩, hT⟩
  · rw [nS] at ha
    have ha6 := sb a ha
    unfold rl_S
    rw [c1, c9, show g (16 + 5 * a) = f (16 + 5 * a) from es a 0 ha6 (by decide), show g (18 + 5 * a) = f (18 + 5 * a) from es a 2 ha6 (by decide), show g (19 + 5 * a) = f (19 + 5 * a) from es a 3 ha6 (by decide), show g (20 + 5 * a) = f (20 + 5 * a) from es a 4 ha6 (by decide)]
    exact hS a ha
  · rw [nS] at hb
    rw [show g (16 + 5 * a) = f (16 + 5 * a) from es a 0 (by have := sb b hb; omega) (by decide), show g (16 + 5 * b) = f (16 + 5 * b) from es b 0 (sb b hb) (by decide)]
    exact hN a b hab hb
  · obtain ⟨b, hb, hc⟩ := mv a ha
    unfold rl_L
    rw [c1, show g (48 + 6 * a) = f (48 + 6 * b) from hc 2 (by decide), show g (49 + 6 * a) = f (49 + 6 * b) from hc 3 (by decide), show g (50 + 6 * a) = f (50 + 6 * b) from hc 4 (by decide)]
    exact hL b hb
  · obtain ⟨b, hb, hc⟩ := mv a ha
    obtain ⟨k, hk, hke⟩ := hE b hb
    exact ⟨k, by rw [nS]; exact hk, by rw [show g (47 + 6 * a) = f (47 + 6 * b) from hc 1 (by decide), show g (16 + 5 * k) = f (16 + 5 * k) from es k 0 (sb k hk) (by decide)]; exact hke⟩
  · rw [nS] at ha
    rw [show g (16 + 5 * a) = f (16 + 5 * a) from es a 0 (sb a ha) (by decide), show g (19 + 5 * a) = f (19 + 5 * a) from es a 3 (sb a ha) (by decide), hU a ha]
    unfold rl_u
    rw [nL]
    have t := rsum_drop (g := fun j => if (f (47 + 6 * j)).toInt = (f (16 + 5 * a)).toInt then (f (48 + 6 * j)).toInt else 0) (h := fun j => if (g (47 + 6 * j)).toInt = (f (16 + 5 * a)).toInt then (g (48 + 6 * j)).toInt else 0) (j := j) (n := rnL g) (by omega) (fun i hi => by
      show (if (g (47 + 6 * i)).toInt = (f (16 + 5 * a)).toInt then (g (48 + 6 * i)).toInt else 0) = _
      rw [show g (47 + 6 * i) = f (47 + 6 * i) from lo i 1 hi (by decide), show g (48 + 6 * i) = f (48 + 6 * i) from lo i 2 hi (by decide)]) (fun i x y => by
      show (if (g (47 + 6 * i)).toInt = (f (16 + 5 * a)).toInt then (g (48 + 6 * i)).toInt else 0) = _
      rw [show g (47 + 6 * i) = f (47 + 6 * (i + 1)) from up i 1 x (lb i y) (by decide), show g (48 + 6 * i) = f (48 + 6 * (i + 1)) from up i 2 x (lb i y) (by decide)])
    have z : (if (f (47 + 6 * j)).toInt = (f (16 + 5 * a)).toInt then (f (48 + 6 * j)).toInt else 0) = 0 := by
      split
      · exact hz
      · rfl
    have t2 : rsum (fun j => if (g (47 + 6 * j)).toInt = (f (16 + 5 * a)).toInt then (g (48 + 6 * j)).toInt else 0) (rnL g) = rsum (fun j => if (f (47 + 6 * j)).toInt = (f (16 + 5 * a)).toInt then (f (48 + 6 * j)).toInt else 0) (rnL g + 1) - (if (f (47 + 6 * j)).toInt = (f (16 + 5 * a)).toInt then (f (48 + 6 * j)).toInt else 0) := t
    rw [t2, z]
    omega
  · rw [nR] at ha
    have := hQ a ha
    unfold rl_Q at this ⊢
    rw [eq _ (by omega : 286 ≤ 287 + 4 * a), eq _ (by omega : 286 ≤ 288 + 4 * a)]
    exact this
/-- a series without lots goes -/
theorem rl_I.dropS {B : Int} {f g : Nat → Int64} (h : rl_I B f) {k : Nat} (hk : k < rnS f) (hz : ∀ j : Nat, j < rnL f → (f (47 + 6 * j)).toInt ≠ (f (16 + 5 * k)).toInt)
    (e1 : ∀ i : Nat, i ≠ 6 → ¬ (10 ≤ i ∧ i ≤ 15) → ¬ (16 + 5 * k ≤ i ∧ i < 46) → g i = f i) (e2 : ∀ i : Nat, 16 + 5 * k ≤ i → i < 41 → g i = f (i + 5)) (e3 : (g 6).toInt = (f 6).toInt - 1) : rl_I B g ∧ rl_T g = rl_T f - 2 * (f (18 + 5 * k)).toInt := by
  obtain ⟨⟨⟨h0, h1, h6, h7, h8⟩, r2, r3, r4, r5⟩, hS, hN, hL, hE, hU, hQ, hB⟩ := h
  have hk6 : k < 6 := by have := hk; unfold rnS at this; omega
  have hh : ∀ i : Nat, i < 10 → i ≠ 6 → g i = f i := fun i a b => e1 i b (by omega) (by omega)
  have c0 := hh 0 (by decide) (by decide)
  have c1 := hh 1 (by decide) (by decide)
  have c2 := hh 2 (by decide) (by decide)
  have c3 := hh 3 (by decide) (by decide)
  have c4 := hh 4 (by decide) (by decide)
  have c7 := hh 7 (by decide) (by decide)
  have c8 := hh 8 (by decide) (by decide)
  have c9 := hh 9 (by decide) (by decide)
  have nL : rnL g = rnL f := by unfold rnL; rw [c7]
  have nR : rnR g = rnR f := by unfold rnR; rw [c8]
  have nS : rnS f = rnS g + 1 := by unfold rnS at hk ⊢; rw [e3]; omega
  have sb : ∀ a : Nat, a < rnS g → a < 5 := fun a ha => by unfold rnS at ha; rw [e3] at ha; omega
  have el : ∀ i : Nat, 46 ≤ i → g i = f i := fun i hi => e1 i (by omega) (by omega) (by omega)
  have lo : ∀ a c : Nat, a < k → c < 5 → g (16 + c + 5 * a) = f (16 + c + 5 * a) := fun a c ha hc => e1 _ (by omega) (by omega) (by omega)
  have up : ∀ a c : Nat, k ≤ a → a < 5 → c < 5 → g (16 + c + 5 * a) = f (16 + c + 5 * (a + 1)) := fun a c ha hb hc => by rw [e2 _ (by omega) (by omega)]; congr 1
  have mv : ∀ a : Nat, a < rnS g → ∃ b : Nat, b < rnS f ∧ b ≠ k ∧ a ≤ b ∧ (b = a ∧ a < k ∨ b = a + 1 ∧ k ≤ a) ∧ ∀ c : Nat, c < 5 → g (16 + c + 5 * a) = f (16 + c + 5 * b) := fun a ha => by
    by_cases hak : a < k
    · exact ⟨a, by omega, by omega, by omega, Or.inl ⟨rfl, hak⟩, fun c hc => lo a c hak hc⟩
    · exact ⟨a + 1, by omega, by omega, by omega, Or.inr ⟨rfl, by omega⟩, fun c hc => up a c (by omega) (sb a ha) hc⟩
  have hT : rl_T g = rl_T f - 2 * (f (18 + 5 * k)).toInt := by
    unfold rl_T
    rw [nL, nR, nS, rsum_congr (g := fun k => (f (50 + 6 * k)).toInt) (h := fun k => (g (50 + 6 * k)).toInt) (fun i _ => by show (g (50 + 6 * i)).toInt = _; rw [el _ (by omega)]), rsum_congr (g := fun r => if (f (287 + 4 * r)).toInt = 0 then (f (288 + 4 * r)).toInt else 0) (h := fun r => if (g (287 + 4 * r)).toInt = 0 then (g (288 + 4 * r)).toInt else 0) (fun i _ => by show (if (g (287 + 4 * i)).toInt = 0 then (g (288 + 4 * i)).toInt else 0) = _; rw [el _ (by omega), el (288 + 4 * i) (by omega)])]
    have t := rsum_drop (g := fun j => (f (18 + 5 * j)).toInt) (h := fun j => (g (18 + 5 * j)).toInt) (j := k) (n := rnS g) (by omega) (fun i hi => by show (g (18 + 5 * i)).toInt = _; rw [show g (18 + 5 * i) = f (18 + 5 * i) from lo i 2 hi (by decide)]) (fun i a b => by show (g (18 + 5 * i)).toInt = _; rw [show g (18 + 5 * i) = f (18 + 5 * (i + 1)) from up i 2 a (sb i b) (by decide)])
    have t2 : rsum (fun j => (g (18 + 5 * j)).toInt) (rnS g) = rsum (fun j => (f (18 + 5 * j)).toInt) (rnS g + 1) - (f (18 + 5 * k)).toInt := t
    rw [t2]
    omega
  have hA := (hS k hk).1.1
  refine ⟨⟨⟨⟨by rw [c0]; exact h0, by rw [c1]; exact h1, by rw [e3]; unfold rnS at hk; omega, by rw [c7]; exact h7, by rw [c8]; exact h8⟩, by rw [c2]; exact r2, by rw [c3]; exact r3, by rw [c4]; exact r4, by rw [c1, e3]; intro z; have := r5 z; omega⟩, fun a ha => ?_, fun a b hab hb => ?_, fun a ha => ?_, fun a ha => ?_, fun a ha => ?_, fun a ha => ?_, by rw [hT]; omega⟩, hT⟩
  · obtain ⟨b, hb, hbk, hab, hor, hc⟩ := mv a ha
    have hs := hS b hb
    unfold rl_S at hs ⊢
    rw [c1, c9, show g (16 + 5 * a) = f (16 + 5 * b) from hc 0 (by decide), show g (18 + 5 * a) = f (18 + 5 * b) from hc 2 (by decide), show g (19 + 5 * a) = f (19 + 5 * b) from hc 3 (by decide), show g (20 + 5 * a) = f (20 + 5 * b) from hc 4 (by decide)]
    exact ⟨hs.1, hs.2.1, hs.2.2.1, fun z z2 => hs.2.2.2.1 z (by omega), hs.2.2.2.2⟩
  · obtain ⟨x, hx, hxk, hax, hox, hcx⟩ := mv a (by omega)
    obtain ⟨y, hy, hyk, hby, hoy, hcy⟩ := mv b hb
    rw [show g (16 + 5 * a) = f (16 + 5 * x) from hcx 0 (by decide), show g (16 + 5 * b) = f (16 + 5 * y) from hcy 0 (by decide)]
    exact hN x y (by omega) hy
  · rw [nL] at ha
    unfold rl_L
    rw [c1, el _ (by omega : 46 ≤ 48 + 6 * a), el _ (by omega : 46 ≤ 49 + 6 * a), el _ (by omega : 46 ≤ 50 + 6 * a)]
    exact hL a ha
  · rw [nL] at ha
    obtain ⟨b, hb, hbe⟩ := hE a ha
    rw [el _ (by omega : 46 ≤ 47 + 6 * a)]
    have hbk : b ≠ k := fun z => hz a ha (by rw [← hbe, z])
    by_cases h9 : b < k
    · exact ⟨b, by omega, by rw [show g (16 + 5 * b) = f (16 + 5 * b) from lo b 0 h9 (by decide)]; exact hbe⟩
    · have h10 : b - 1 < rnS g := by omega
      refine ⟨b - 1, h10, ?_⟩
      have h11 : g (16 + 5 * (b - 1)) = f (16 + 5 * (b - 1 + 1)) := up (b - 1) 0 (by omega) (sb _ h10) (by decide)
      rw [h11, show b - 1 + 1 = b by omega]
      exact hbe
  · obtain ⟨b, hb, hbk, hab, hor, hc⟩ := mv a ha
    rw [show g (16 + 5 * a) = f (16 + 5 * b) from hc 0 (by decide), show g (19 + 5 * a) = f (19 + 5 * b) from hc 3 (by decide), hU b hb]
    unfold rl_u
    rw [nL]
    exact (rsum_congr (fun i _ => by rw [el _ (by omega : 46 ≤ 47 + 6 * i), el _ (by omega : 46 ≤ 48 + 6 * i)])).symm
  · rw [nR] at ha
    have := hQ a ha
    unfold rl_Q at this ⊢
    rw [el _ (by omega : 46 ≤ 287 + 4 * a), el _ (by omega : 46 ≤ 288 + 4 * a)]
    exact this
