/-- a lot goes over into the lead -/
theorem rl_I.mov {B : Int} {f g : Nat → Int64} (h : rl_I B f) {s j : Nat} (hs : s < rnS f) (hs0 : 0 < s) (hj : j < rnL f) (m0 : (f 1).toInt = 0) (hn : (f (47 + 6 * j)).toInt = (f (16 + 5 * s)).toInt)
    (e : ∀ i : Nat, i ≠ 19 → i ≠ 19 + 5 * s → ¬ (47 + 6 * j ≤ i ∧ i ≤ 49 + 6 * j) → g i = f i)
    (d1 : (g (47 + 6 * j)).toInt = (f 16).toInt) (d2 : 0 ≤ (g (48 + 6 * j)).toInt ∧ (g (48 + 6 * j)).toInt ≤ 100000000) (d3 : 0 ≤ (g (49 + 6 * j)).toInt ∧ (g (49 + 6 * j)).toInt ≤ 2199023255552000)
    (us : (g (19 + 5 * s)).toInt = (f (19 + 5 * s)).toInt - (f (48 + 6 * j)).toInt) (u0 : (g 19).toInt = (f 19).toInt + (g (48 + 6 * j)).toInt) (hM : (f 20).toInt * (g 19).toInt ≤ 2176000000000000) : rl_I B g ∧ rl_T g = rl_T f := by
  have huj := h.uj hs hj hn
  obtain ⟨⟨⟨h0, h1, h6, h7, h8⟩, r2, r3, r4, r5⟩, hS, hN, hL, hE, hU, hQ, hB⟩ := h
  have hs6 : s < 6 := by have := hs; unfold rnS at this; omega
  have hj40 : j < 40 := by have := hj; unfold rnL at this; omega
  have h0s : 0 < rnS f := by omega
  have hh : ∀ i : Nat, i < 19 → g i = f i := fun i a => e i (by omega) (by omega) (by omega)
  have c0 := hh 0 (by decide)
  have c1 := hh 1 (by decide)
  have c2 := hh 2 (by decide)
  have c3 := hh 3 (by decide)
  have c4 := hh 4 (by decide)
  have c6 := hh 6 (by decide)
  have c7 := hh 7 (by decide)
  have c8 := hh 8 (by decide)
  have c9 := hh 9 (by decide)
  have nS : rnS g = rnS f := by unfold rnS; rw [c6]
  have nL : rnL g = rnL f := by unfold rnL; rw [c7]
  have nR : rnR g = rnR f := by unfold rnR; rw [c8]
  have sb : ∀ a : Nat, a < rnS f → a < 6 := fun a ha => by unfold rnS at ha; omega
  have lb : ∀ a : Nat, a < rnL f → a < 40 := fun a ha => by unfold rnL at ha; omega
  have es : ∀ a c : Nat, a < 6 → (a ≠ s ∧ a ≠ 0 ∨ c ≠ 3) → c < 5 → g (16 + c + 5 * a) = f (16 + c + 5 * a) := fun a c ha hc h5 => e _ (by rcases hc with hc | hc <;> omega) (by rcases hc with hc | hc <;> omega) (by omega)
  have el : ∀ a c : Nat, a < 40 → (a ≠ j ∨ c = 0 ∨ c = 4) → c < 6 → g (46 + c + 6 * a) = f (46 + c + 6 * a) := fun a c ha hc h5 => e _ (by omega) (by omega) (by rcases hc with hc | hc | hc <;> omega)
  have eq : ∀ i : Nat, 286 ≤ i → g i = f i := fun i hi => e _ (by omega) (by omega) (by omega)
  have s0 : ∀ a : Nat, a < 6 → g (16 + 5 * a) = f (16 + 5 * a) := fun a ha => es a 0 ha (Or.inr (by decide)) (by decide)
  have s2 : ∀ a : Nat, a < 6 → g (18 + 5 * a) = f (18 + 5 * a) := fun a ha => es a 2 ha (Or.inr (by decide)) (by decide)
  have s4 : ∀ a : Nat, a < 6 → g (20 + 5 * a) = f (20 + 5 * a) := fun a ha => es a 4 ha (Or.inr (by decide)) (by decide)
  have hT : rl_T g = rl_T f := by
    unfold rl_T
    rw [nS, nL, nR, rsum_congr (g := fun k => (f (18 + 5 * k)).toInt) (h := fun k => (g (18 + 5 * k)).toInt) (fun i hi => by show (g (18 + 5 * i)).toInt = _; rw [s2 i (sb i hi)]), rsum_congr (g := fun k => (f (50 + 6 * k)).toInt) (h := fun k => (g (50 + 6 * k)).toInt) (fun i hi => by show (g (50 + 6 * i)).toInt = _; rw [show g (50 + 6 * i) = f (50 + 6 * i) from el i 4 (lb i hi) (Or.inr (Or.inr rfl)) (by decide)]), rsum_congr (g := fun r => if (f (287 + 4 * r)).toInt = 0 then (f (288 + 4 * r)).toInt else 0) (h := fun r => if (g (287 + 4 * r)).toInt = 0 then (g (288 + 4 * r)).toInt else 0) (fun i _ => by show (if (g (287 + 4 * i)).toInt = 0 then (g (288 + 4 * i)).toInt else 0) = _; rw [eq _ (by omega), eq (288 + 4 * i) (by omega)])]
  have hLj := hL j hj
  have hu0 := (hS 0 h0s).1.2
  refine ⟨⟨⟨⟨by rw [c0]; exact h0, by rw [c1]; exact h1, by rw [c6]; exact h6, by rw [c7]; exact h7, by rw [c8]; exact h8⟩, by rw [c2]; exact r2, by rw [c3]; exact r3, by rw [c4]; exact r4, by rw [c1, c6]; exact r5⟩, fun a ha => ?_, fun a b hab hb => ?_, fun a ha => ?_, fun a ha => ?_, fun a ha => ?_, fun a ha => ?_, by rw [hT]; exact hB⟩, hT⟩
  · rw [nS] at ha
    have ha6 := sb a ha
    have hs9 := hS a ha
    unfold rl_S at hs9 ⊢
    rw [c1, s0 a ha6, c9, s2 a ha6, s4 a ha6]
    by_cases ha0 : a = 0
    · subst ha0
      have hu0' : 0 ≤ (f 19).toInt := hu0
      exact ⟨⟨hs9.1.1, by show 0 ≤ (g 19).toInt; omega⟩, hs9.2.1, fun _ => hM, hs9.2.2.2.1, hs9.2.2.2.2⟩
    · by_cases has : a = s
      · subst has
        have hle : (g (19 + 5 * a)).toInt ≤ (f (19 + 5 * a)).toInt := by have := hLj.1; omega
        refine ⟨⟨hs9.1.1, by omega⟩, hs9.2.1, fun z => ?_, hs9.2.2.2.1, hs9.2.2.2.2⟩
        exact Int.le_trans (Int.mul_le_mul_of_nonneg_left hle (by have := hs9.2.1.1; omega)) (hs9.2.2.1 z)
      · rw [show g (19 + 5 * a) = f (19 + 5 * a) from es a 3 ha6 (Or.inl ⟨has, ha0⟩) (by decide)]
        exact hs9
  · rw [nS] at hb
    rw [s0 a (by have := sb b hb; omega), s0 b (sb b hb)]
    exact hN a b hab hb
  · rw [nL] at ha
    unfold rl_L
    rw [c1, show g (50 + 6 * a) = f (50 + 6 * a) from el a 4 (lb a ha) (Or.inr (Or.inr rfl)) (by decide)]
    by_cases haj : a = j
    · subst haj
      exact ⟨d2.1, d3, hLj.2.2.1, fun z => ⟨d2.2, (hLj.2.2.2.1 z).2⟩, fun z => by omega⟩
    · rw [show g (48 + 6 * a) = f (48 + 6 * a) from el a 2 (lb a ha) (Or.inl haj) (by decide), show g (49 + 6 * a) = f (49 + 6 * a) from el a 3 (lb a ha) (Or.inl haj) (by decide)]
      exact hL a ha
  · rw [nL] at ha
    by_cases haj : a = j
    · subst haj
      exact ⟨0, by rw [nS]; exact h0s, by rw [d1]; show (g 16).toInt = _; rw [hh 16 (by decide)]⟩
    · obtain ⟨b, hb, hbe⟩ := hE a ha
      exact ⟨b, by rw [nS]; exact hb, by rw [s0 b (sb b hb), show g (47 + 6 * a) = f (47 + 6 * a) from el a 1 (lb a ha) (Or.inl haj) (by decide)]; exact hbe⟩
  · rw [nS] at ha
    have ha6 := sb a ha
    rw [s0 a ha6]
    have hold := hU a ha
    unfold rl_u at hold ⊢
    rw [nL]
    have t := rsum_upd (g := fun j => if (f (47 + 6 * j)).toInt = (f (16 + 5 * a)).toInt then (f (48 + 6 * j)).toInt else 0) (h := fun j => if (g (47 + 6 * j)).toInt = (f (16 + 5 * a)).toInt then (g (48 + 6 * j)).toInt else 0) hj (fun i hi hne => by
      show (if (g (47 + 6 * i)).toInt = (f (16 + 5 * a)).toInt then (g (48 + 6 * i)).toInt else 0) = _
      rw [show g (47 + 6 * i) = f (47 + 6 * i) from el i 1 (lb i hi) (Or.inl hne) (by decide), show g (48 + 6 * i) = f (48 + 6 * i) from el i 2 (lb i hi) (Or.inl hne) (by decide)])
    have t2 : rsum (fun j => if (g (47 + 6 * j)).toInt = (f (16 + 5 * a)).toInt then (g (48 + 6 * j)).toInt else 0) (rnL f) = rsum (fun j => if (f (47 + 6 * j)).toInt = (f (16 + 5 * a)).toInt then (f (48 + 6 * j)).toInt else 0) (rnL f) - (if (f (47 + 6 * j)).toInt = (f (16 + 5 * a)).toInt then (f (48 + 6 * j)).toInt else 0) + (if (g (47 + 6 * j)).toInt = (f (16 + 5 * a)).toInt then (g (48 + 6 * j)).toInt else 0) := t
    rw [t2, ← hold, d1, hn]
    have hne0 : (f (16 + 5 * 0)).toInt < (f (16 + 5 * s)).toInt := hN 0 s hs0 hs
    have hne0' : (f 16).toInt < (f (16 + 5 * s)).toInt := hne0
    by_cases ha0 : a = 0
    · subst ha0
      have q1 : ¬ (f (16 + 5 * s)).toInt = (f (16 + 5 * 0)).toInt := by omega
      have q2 : (f 16).toInt = (f (16 + 5 * 0)).toInt := rfl
      rw [if_neg q1, if_pos q2]
      show (g 19).toInt = (f 19).toInt - 0 + _
      omega
    · by_cases has : a = s
      · subst has
        rw [if_pos rfl, if_neg (by omega)]
        omega
      · have q1 : ¬ (f (16 + 5 * s)).toInt = (f (16 + 5 * a)).toInt := fun z => by
          rcases Nat.lt_or_gt_of_ne has with h9 | h9
          · have := hN a s h9 hs; omega
          · have := hN s a h9 ha; omega
        have q2 : ¬ (f 16).toInt = (f (16 + 5 * a)).toInt := fun z => by
          have q3 : (f (16 + 5 * 0)).toInt < (f (16 + 5 * a)).toInt := hN 0 a (by omega) ha
          have q4 : (f 16).toInt < (f (16 + 5 * a)).toInt := q3
          omega
        rw [if_neg q1, if_neg q2, show g (19 + 5 * a) = f (19 + 5 * a) from es a 3 ha6 (Or.inl ⟨has, ha0⟩) (by decide)]
        omega
  · rw [nR] at ha
    have := hQ a ha
    unfold rl_Q at this ⊢
    rw [eq _ (by omega : 286 ≤ 287 + 4 * a), eq _ (by omega : 286 ≤ 288 + 4 * a)]
    exact this
/-! numbers of the machine -/
theorem rz_mul {x y : Int64} (h1 : -9223372036854775808 ≤ x.toInt * y.toInt) (h2 : x.toInt * y.toInt ≤ 9223372036854775807) : (x * y).toInt = x.toInt * y.toInt := by
  rw [Int64.toInt_mul]; exact Int.bmod_eq_of_le (by omega) (by omega)
theorem rz_add {x y : Int64} (h1 : -9223372036854775808 ≤ x.toInt + y.toInt) (h2 : x.toInt + y.toInt ≤ 9223372036854775807) : (x + y).toInt = x.toInt + y.toInt := by
  rw [Int64.toInt_add]; exact Int.bmod_eq_of_le (by omega) (by omega)
theorem rz_sub {x y : Int64} (h1 : -9223372036854775808 ≤ x.toInt - y.toInt) (h2 : x.toInt - y.toInt ≤ 9223372036854775807) : (x - y).toInt = x.toInt - y.toInt := by
  rw [Int64.toInt_sub]; exact Int.bmod_eq_of_le (by omega) (by omega)
theorem rz_div {x y : Int64} (hx : 0 ≤ x.toInt) (hy : 0 < y.toInt) : (x / y).toInt = x.toInt / y.toInt := by
  have hb : x.toInt / y.toInt ≤ x.toInt := Int.ediv_le_self _ hx
  have hn : 0 ≤ x.toInt / y.toInt := Int.ediv_nonneg hx (Int.le_of_lt hy)
  have h3 := Int64.toInt_lt x
  rw [Int64.toInt_div, Int.tdiv_eq_ediv_of_nonneg hx]
  exact Int.bmod_eq_of_le (by omega) (by omega)
