/-- a lot comes, behind the others -/
theorem rl_I.addL {B B1 : Int} {f g : Nat → Int64} (h : rl_I B f) {k : Nat} (hk : k < rnS f) (hl : (f 7).toInt < 40)
    (e1 : ∀ i : Nat, i ≠ 7 → ¬ (10 ≤ i ∧ i ≤ 15) → ¬ (18 + 5 * k ≤ i ∧ i ≤ 20 + 5 * k) → ¬ (46 + 6 * rnL f ≤ i ∧ i ≤ 51 + 6 * rnL f) → g i = f i) (e7 : (g 7).toInt = (f 7).toInt + 1)
    (hn : (g (47 + 6 * rnL f)).toInt = (f (16 + 5 * k)).toInt)
    (cS : (0 ≤ (g (18 + 5 * k)).toInt ∧ 0 ≤ (g (19 + 5 * k)).toInt) ∧ (1000000 ≤ (g (20 + 5 * k)).toInt ∧ (g (20 + 5 * k)).toInt ≤ 2176000000000000) ∧ ((f 1).toInt = 0 → (g (20 + 5 * k)).toInt * (g (19 + 5 * k)).toInt ≤ 2176000000000000) ∧ ((f 1).toInt = 0 → 1 ≤ k → (g (18 + 5 * k)).toInt ≤ 1000000000))
    (cL : 0 ≤ (g (48 + 6 * rnL f)).toInt ∧ (0 ≤ (g (49 + 6 * rnL f)).toInt ∧ (g (49 + 6 * rnL f)).toInt ≤ 2199023255552000) ∧ (0 ≤ (g (50 + 6 * rnL f)).toInt ∧ (g (50 + 6 * rnL f)).toInt ≤ 5000000) ∧ ((f 1).toInt = 0 → (g (48 + 6 * rnL f)).toInt ≤ 100000000 ∧ (g (50 + 6 * rnL f)).toInt = 0) ∧ ((f 1).toInt = 1 → 10 * (g (48 + 6 * rnL f)).toInt + (g (50 + 6 * rnL f)).toInt ≤ 105000000))
    (hu : (g (19 + 5 * k)).toInt = (f (19 + 5 * k)).toInt + (g (48 + 6 * rnL f)).toInt)
    (hB1 : rl_T f + 2 * ((g (18 + 5 * k)).toInt - (f (18 + 5 * k)).toInt) + 2 * (g (50 + 6 * rnL f)).toInt ≤ B1) : rl_I B1 g ∧ rl_T g = rl_T f + 2 * ((g (18 + 5 * k)).toInt - (f (18 + 5 * k)).toInt) + 2 * (g (50 + 6 * rnL f)).toInt := by
  obtain ⟨⟨⟨h0, h1, h6, h7, h8⟩, r2, r3, r4, r5⟩, hS, hN, hL, hE, hU, hQ, hB⟩ := h
  have hk6 : k < 6 := by have := hk; unfold rnS at this; omega
  have hl40 : rnL f < 40 := by unfold rnL; omega
  have hh : ∀ i : Nat, i < 10 → i ≠ 7 → g i = f i := fun i a b => e1 i b (by omega) (by omega) (by omega)
  have c0 := hh 0 (by decide) (by decide)
  have c1 := hh 1 (by decide) (by decide)
  have c2 := hh 2 (by decide) (by decide)
  have c3 := hh 3 (by decide) (by decide)
  have c4 := hh 4 (by decide) (by decide)
  have c6 := hh 6 (by decide) (by decide)
  have c8 := hh 8 (by decide) (by decide)
  have c9 := hh 9 (by decide) (by decide)
  have nS : rnS g = rnS f := by unfold rnS; rw [c6]
  have nL : rnL g = rnL f + 1 := by unfold rnL; rw [e7]; omega
  have nR : rnR g = rnR f := by unfold rnR; rw [c8]
  have sb : ∀ a : Nat, a < rnS f → a < 6 := fun a ha => by unfold rnS at ha; omega
  have es : ∀ a c : Nat, a < 6 → (a ≠ k ∨ c < 2) → c < 5 → g (16 + c + 5 * a) = f (16 + c + 5 * a) := fun a c ha hc h5 => e1 _ (by omega) (by omega) (by rcases hc with hc | hc <;> omega) (by omega)
  have el : ∀ a c : Nat, a < rnL f → c < 6 → g (46 + c + 6 * a) = f (46 + c + 6 * a) := fun a c ha h5 => e1 _ (by omega) (by omega) (by omega) (by omega)
  have eq : ∀ i : Nat, 286 ≤ i → g i = f i := fun i hi => e1 _ (by omega) (by omega) (by omega) (by omega)
  have s0 : ∀ a : Nat, a < 6 → g (16 + 5 * a) = f (16 + 5 * a) := fun a ha => es a 0 ha (Or.inr (by decide)) (by decide)
  have hT : rl_T g = rl_T f + 2 * ((g (18 + 5 * k)).toInt - (f (18 + 5 * k)).toInt) + 2 * (g (50 + 6 * rnL f)).toInt := by
    unfold rl_T
    rw [nS, nL, nR]
    have t1 := rsum_upd (g := fun k => (f (18 + 5 * k)).toInt) (h := fun k => (g (18 + 5 * k)).toInt) hk (fun i hi hne => by show (g (18 + 5 * i)).toInt = (f (18 + 5 * i)).toInt; rw [show g (18 + 5 * i) = f (18 + 5 * i) from es i 2 (sb i hi) (Or.inl hne) (by decide)])
    have t2 : rsum (fun j => (g (50 + 6 * j)).toInt) (rnL f + 1) = rsum (fun j => (f (50 + 6 * j)).toInt) (rnL f) + (g (50 + 6 * rnL f)).toInt := by
      show rsum (fun j => (g (50 + 6 * j)).toInt) (rnL f) + (g (50 + 6 * rnL f)).toInt = _
      rw [rsum_congr (g := fun j => (f (50 + 6 * j)).toInt) (h := fun j => (g (50 + 6 * j)).toInt) (fun i hi => by show (g (50 + 6 * i)).toInt = _; rw [show g (50 + 6 * i) = f (50 + 6 * i) from el i 4 hi (by decide)])]
    have t3 : rsum (fun r => if (g (287 + 4 * r)).toInt = 0 then (g (288 + 4 * r)).toInt else 0) (rnR f) = rsum (fun r => if (f (287 + 4 * r)).toInt = 0 then (f (288 + 4 * r)).toInt else 0) (rnR f) := rsum_congr (fun i _ => by rw [eq _ (by omega), eq (288 + 4 * i) (by omega)])
    rw [t1, t2, t3]
    omega
  refine ⟨⟨⟨⟨by rw [c0]; exact h0, by rw [c1]; exact h1, by rw [c6]; exact h6, by rw [e7]; omega, by rw [c8]; exact h8⟩, by rw [c2]; exact r2, by rw [c3]; exact r3, by rw [c4]; exact r4, by rw [c1, c6]; exact r5⟩, fun a ha => ?_, fun a b hab hb => ?_, fun a ha => ?_, fun a ha => ?_, fun a ha => ?_, fun a ha => ?_, by rw [hT]; exact hB1⟩, hT⟩
  · rw [nS] at ha
    have ha6 := sb a ha
    unfold rl_S
    by_cases hak : a = k
    · subst hak
      rw [c1, s0 a ha6, c9]
      exact ⟨cS.1, cS.2.1, cS.2.2.1, cS.2.2.2, (hS a ha).2.2.2.2⟩
    · rw [c1, s0 a ha6, c9, show g (18 + 5 * a) = f (18 + 5 * a) from es a 2 ha6 (Or.inl hak) (by decide), show g (19 + 5 * a) = f (19 + 5 * a) from es a 3 ha6 (Or.inl hak) (by decide), show g (20 + 5 * a) = f (20 + 5 * a) from es a 4 ha6 (Or.inl hak) (by decide)]
      exact hS a ha
  · rw [nS] at hb
    rw [s0 a (by have := sb b hb; omega), s0 b (sb b hb)]
    exact hN a b hab hb
  · unfold rl_L
    by_cases haj : a = rnL f
    · subst haj; rw [c1]; exact cL
    · have ha2 : a < rnL f := by omega
      rw [c1, show g (48 + 6 * a) = f (48 + 6 * a) from el a 2 ha2 (by decide), show g (49 + 6 * a) = f (49 + 6 * a) from el a 3 ha2 (by decide), show g (50 + 6 * a) = f (50 + 6 * a) from el a 4 ha2 (by decide)]
      exact hL a ha2
  · by_cases haj : a = rnL f
    · subst haj; exact ⟨k, by rw [nS]; exact hk, by rw [s0 k hk6]; exact hn.symm⟩
    · have ha2 : a < rnL f := by omega
      obtain ⟨b, hb, hbe⟩ := hE a ha2
      exact ⟨b, by rw [nS]; exact hb, by rw [s0 b (sb b hb), show g (47 + 6 * a) = f (47 + 6 * a) from el a 1 ha2 (by decide)]; exact hbe⟩
  · rw [nS] at ha
    have ha6 := sb a ha
    rw [s0 a ha6]
    have hold := hU a ha
    unfold rl_u at hold ⊢
    rw [nL]
    show _ = rsum (fun j => if (g (47 + 6 * j)).toInt = (f (16 + 5 * a)).toInt then (g (48 + 6 * j)).toInt else 0) (rnL f) + (if (g (47 + 6 * rnL f)).toInt = (f (16 + 5 * a)).toInt then (g (48 + 6 * rnL f)).toInt else 0)
    rw [rsum_congr (g := fun j => if (f (47 + 6 * j)).toInt = (f (16 + 5 * a)).toInt then (f (48 + 6 * j)).toInt else 0) (h := fun j => if (g (47 + 6 * j)).toInt = (f (16 + 5 * a)).toInt then (g (48 + 6 * j)).toInt else 0) (fun i hi => by
      show (if (g (47 + 6 * i)).toInt = (f (16 + 5 * a)).toInt then (g (48 + 6 * i)).toInt else 0) = _
      rw [show g (47 + 6 * i) = f (47 + 6 * i) from el i 1 hi (by decide), show g (48 + 6 * i) = f (48 + 6 * i) from el i 2 hi (by decide)]), ← hold, hn]
    by_cases hak : a = k
    · subst hak; rw [if_pos rfl]; exact hu
    · have hne : ¬ (f (16 + 5 * k)).toInt = (f (16 + 5 * a)).toInt := fun z => by
        rcases Nat.lt_or_gt_of_ne hak with h9 | h9
        · have := hN a k h9 hk; omega
        · have := hN k a h9 ha; omega
      rw [if_neg hne, show g (19 + 5 * a) = f (19 + 5 * a) from es a 3 ha6 (Or.inl hak) (by decide)]
      omega
  · rw [nR] at ha
    have := hQ a ha
    unfold rl_Q at this ⊢
    rw [eq _ (by omega : 286 ≤ 287 + 4 * a), eq _ (by omega : 286 ≤ 288 + 4 * a)]
    exact this
/-- a lot is split: its owner or a part of it goes to a new lot -/
theorem rl_I.split {B : Int} {f g : Nat → Int64} (h : rl_I B f) {j : Nat} (hj : j < rnL f) (hl : (f 7).toInt < 40)
    (e1 : ∀ i : Nat, i ≠ 7 → ¬ (i = 48 + 6 * j) → ¬ (i = 50 + 6 * j) → ¬ (46 + 6 * rnL f ≤ i ∧ i ≤ 51 + 6 * rnL f) → g i = f i) (e7 : (g 7).toInt = (f 7).toInt + 1)
    (d1 : (g (47 + 6 * rnL f)).toInt = (f (47 + 6 * j)).toInt) (d3 : (g (49 + 6 * rnL f)).toInt = (f (49 + 6 * j)).toInt)
    (u1 : 0 ≤ (g (48 + 6 * rnL f)).toInt) (u2 : 0 ≤ (g (48 + 6 * j)).toInt) (u3 : (g (48 + 6 * j)).toInt + (g (48 + 6 * rnL f)).toInt = (f (48 + 6 * j)).toInt)
    (k1 : 0 ≤ (g (50 + 6 * rnL f)).toInt) (k2 : 0 ≤ (g (50 + 6 * j)).toInt) (k3 : (g (50 + 6 * j)).toInt + (g (50 + 6 * rnL f)).toInt = (f (50 + 6 * j)).toInt) : rl_I B g ∧ rl_T g = rl_T f := by
  obtain ⟨⟨⟨h0, h1, h6, h7, h8⟩, r2, r3, r4, r5⟩, hS, hN, hL, hE, hU, hQ, hB⟩ := h
  have hl40 : rnL f < 40 := by unfold rnL; omega
  have hh : ∀ i : Nat, i < 46 → i ≠ 7 → g i = f i := fun i a b => e1 i b (by omega) (by omega) (by omega)
  have c0 := hh 0 (by decide) (by decide)
  have c1 := hh 1 (by decide) (by decide)
  have c2 := hh 2 (by decide) (by decide)
  have c3 := hh 3 (by decide) (by decide)
  have c4 := hh 4 (by decide) (by decide)
  have c6 := hh 6 (by decide) (by decide)
  have c8 := hh 8 (by decide) (by decide)
  have c9 := hh 9 (by decide) (by decide)
  have nS : rnS g = rnS f := by unfold rnS; rw [c6]
  have nL : rnL g = rnL f + 1 := by unfold rnL; rw [e7]; omega
  have nR : rnR g = rnR f := by unfold rnR; rw [c8]
  have sb : ∀ a : Nat, a < rnS f → a < 6 := fun a ha => by unfold rnS at ha; omega
  have es : ∀ a c : Nat, a < 6 → c < 5 → g (16 + c + 5 * a) = f (16 + c + 5 * a) := fun a c ha h5 => hh _ (by omega) (by omega)
  have el : ∀ a c : Nat, a < rnL f → (a ≠ j ∨ (c ≠ 2 ∧ c ≠ 4)) → c < 6 → g (46 + c + 6 * a) = f (46 + c + 6 * a) := fun a c ha hc h5 => e1 _ (by omega) (by rcases hc with hc | hc <;> omega) (by rcases hc with hc | hc <;> omega) (by omega)
  have eq : ∀ i : Nat, 286 ≤ i → g i = f i := fun i hi => e1 _ (by omega) (by omega) (by omega) (by omega)
  have hT : rl_T g = rl_T f := by
    unfold rl_T
    rw [nS, nL, nR]
    have t1 : rsum (fun k => (g (18 + 5 * k)).toInt) (rnS f) = rsum (fun k => (f (18 + 5 * k)).toInt) (rnS f) := rsum_congr (fun i hi => by rw [show g (18 + 5 * i) = f (18 + 5 * i) from es i 2 (sb i hi) (by decide)])
    have t2 : rsum (fun j => (g (50 + 6 * j)).toInt) (rnL f + 1) = rsum (fun j => (f (50 + 6 * j)).toInt) (rnL f) := by
      show rsum (fun j => (g (50 + 6 * j)).toInt) (rnL f) + (g (50 + 6 * rnL f)).toInt = _
      have t := rsum_upd (g := fun j => (f (50 + 6 * j)).toInt) (h := fun j => (g (50 + 6 * j)).toInt) hj (fun i hi hne => by show (g (50 + 6 * i)).toInt = _; rw [show g (50 + 6 * i) = f (50 + 6 * i) from el i 4 hi (Or.inl hne) (by decide)])
      rw [t]
      omega
    have t3 : rsum (fun r => if (g (287 + 4 * r)).toInt = 0 then (g (288 + 4 * r)).toInt else 0) (rnR f) = rsum (fun r => if (f (287 + 4 * r)).toInt = 0 then (f (288 + 4 * r)).toInt else 0) (rnR f) := rsum_congr (fun i _ => by rw [eq _ (by omega), eq (288 + 4 * i) (by omega)])
    rw [t1, t2, t3]
  have hLj := hL j hj
  unfold rl_L at hLj
  refine ⟨⟨⟨⟨by rw [c0]; exact h0, by rw [c1]; exact h1, by rw [c6]; exact h6, by rw [e7]; omega, by rw [c8]; exact h8⟩, by rw [c2]; exact r2, by rw [c3]; exact r3, by rw [c4]; exact r4, by rw [c1, c6]; exact r5⟩, fun a ha => ?_, fun a b hab hb => ?_, fun a ha => ?_, fun a ha => ?_, fun a ha => ?_, fun a ha => ?_, by rw [hT]; exact hB⟩, hT⟩
  · rw [nS] at ha
    have ha6 := sb a ha
    unfold rl_S
    rw [c1, c9, show g (16 + 5 * a) = f (16 + 5 * a) from es a 0 ha6 (by decide), show g (18 + 5 * a) = f (18 + 5 * a) from es a 2 ha6 (by decide), show g (19 + 5 * a) = f (19 + 5 * a) from es a 3 ha6 (by decide), show g (20 + 5 * a) = f (20 + 5 * a) from es a 4 ha6 (by decide)]
    exact hS a ha
  · rw [nS] at hb
    rw [show g (16 + 5 * a) = f (16 + 5 * a) from es a 0 (by have := sb b hb; omega) (by decide), show g (16 + 5 * b) = f (16 + 5 * b) from es b 0 (sb b hb) (by decide)]
    exact hN a b hab hb
  · unfold rl_L
    by_cases haj : a = rnL f
    · subst haj
      rw [c1, d3]
      exact ⟨u1, hLj.2.1, ⟨k1, by omega⟩, fun z => by have := hLj.2.2.2.1 z; omega, fun z => by have := hLj.2.2.2.2 z; omega⟩
    · have ha2 : a < rnL f := by omega
      by_cases hja : a = j
      · subst hja
        rw [c1, show g (49 + 6 * a) = f (49 + 6 * a) from el a 3 ha2 (Or.inr (by decide)) (by decide)]
        exact ⟨u2, hLj.2.1, ⟨k2, by omega⟩, fun z => by have := hLj.2.2.2.1 z; omega, fun z => by have := hLj.2.2.2.2 z; omega⟩
      · rw [c1, show g (48 + 6 * a) = f (48 + 6 * a) from el a 2 ha2 (Or.inl hja) (by decide), show g (49 + 6 * a) = f (49 + 6 * a) from el a 3 ha2 (Or.inl hja) (by decide), show g (50 + 6 * a) = f (50 + 6 * a) from el a 4 ha2 (Or.inl hja) (by decide)]
        exact hL a ha2
  · by_cases haj : a = rnL f
    · subst haj
      obtain ⟨b, hb, hbe⟩ := hE j hj
      exact ⟨b, by rw [nS]; exact hb, by rw [show g (16 + 5 * b) = f (16 + 5 * b) from es b 0 (sb b hb) (by decide), d1]; exact hbe⟩
    · have ha2 : a < rnL f := by omega
      obtain ⟨b, hb, hbe⟩ := hE a ha2
      exact ⟨b, by rw [nS]; exact hb, by rw [show g (16 + 5 * b) = f (16 + 5 * b) from es b 0 (sb b hb) (by decide), show g (47 + 6 * a) = f (47 + 6 * a) from el a 1 ha2 (Or.inr (by decide)) (by decide)]; exact hbe⟩
  · rw [nS] at ha
    have ha6 := sb a ha
    rw [show g (16 + 5 * a) = f (16 + 5 * a) from es a 0 ha6 (by decide), show g (19 + 5 * a) = f (19 + 5 * a) from es a 3 ha6 (by decide), hU a ha]
    unfold rl_u
    rw [nL]
    show _ = rsum (fun j => if (g (47 + 6 * j)).toInt = (f (16 + 5 * a)).toInt then (g (48 + 6 * j)).toInt else 0) (rnL f) + (if (g (47 + 6 * rnL f)).toInt = (f (16 + 5 * a)).toInt then (g (48 + 6 * rnL f)).toInt else 0)
    have l1 : ∀ i : Nat, i < rnL f → g (47 + 6 * i) = f (47 + 6 * i) := fun i hi => el i 1 hi (Or.inr (by decide)) (by decide)
    have t := rsum_upd (g := fun j => if (f (47 + 6 * j)).toInt = (f (16 + 5 * a)).toInt then (f (48 + 6 * j)).toInt else 0) (h := fun j => if (g (47 + 6 * j)).toInt = (f (16 + 5 * a)).toInt then (g (48 + 6 * j)).toInt else 0) hj (fun i hi hne => by
      show (if (g (47 + 6 * i)).toInt = (f (16 + 5 * a)).toInt then (g (48 + 6 * i)).toInt else 0) = _
      rw [l1 i hi, show g (48 + 6 * i) = f (48 + 6 * i) from el i 2 hi (Or.inl hne) (by decide)])
    have t2 : rsum (fun j => if (g (47 + 6 * j)).toInt = (f (16 + 5 * a)).toInt then (g (48 + 6 * j)).toInt else 0) (rnL f) = rsum (fun j => if (f (47 + 6 * j)).toInt = (f (16 + 5 * a)).toInt then (f (48 + 6 * j)).toInt else 0) (rnL f) - (if (f (47 + 6 * j)).toInt = (f (16 + 5 * a)).toInt then (f (48 + 6 * j)).toInt else 0) + (if (g (47 + 6 * j)).toInt = (f (16 + 5 * a)).toInt then (g (48 + 6 * j)).toInt else 0) := t
    rw [t2, d1, l1 j hj]
    by_cases hm : (f (47 + 6 * j)).toInt = (f (16 + 5 * a)).toInt
    · rw [if_pos hm, if_pos hm, if_pos hm]; omega
    · rw [if_neg hm, if_neg hm, if_neg hm]; omega
  · rw [nR] at ha
    have := hQ a ha
    unfold rl_Q at this ⊢
    rw [eq _ (by omega : 286 ≤ 287 + 4 * a), eq _ (by omega : 286 ≤ 288 + 4 * a)]
    exact this
