theorem rl_cps {f g : Nat → Int64} {k : Nat} (h : ∀ i : Nat, i < k → g i = f i) : ∀ i : Nat, i < 1 + k → vp_updL g k (f k) i = f i := by
  intro i hi
  by_cases hk : i = k
  · subst hk; exact rl_eq rfl
  · rw [rl_ne hk rfl]; exact h i (by omega)
theorem rl_netb {B : Int} {f : Nat → Int64} (h : rl_I B f) (hB : B ≤ 43920000000) {k : Nat} (hk : k < rnS f) : 0 ≤ (f (18 + 5 * k) - rg_acc f k).toInt ∧ (f (18 + 5 * k) - rg_acc f k).toInt ≤ 21960000000 := by
  have hA := h.abound hk
  have h0 := (h.2.1 k hk).1.1
  have ha := h.acc hB hk
  rw [rz_sub (by omega) (by omega)]
  omega
theorem rl_nets {B : Int} {f : Nat → Int64} (h : rl_I B f) (hB : B ≤ 43920000000) {k : Nat} (hk : k < rnS f) {y : Int64} (hy : 0 ≤ y.toInt ∧ y.toInt ≤ 21960000000 * (k : Int)) : 0 ≤ (y + (f (18 + 5 * k) - rg_acc f k)).toInt ∧ (y + (f (18 + 5 * k) - rg_acc f k)).toInt ≤ 21960000000 * ((1 + k : Nat) : Int) := by
  have hn := rl_netb h hB hk
  have h6 := h.1.1.2.2.1.2
  have hk6 : (k : Int) ≤ 6 := by unfold rnS at hk; omega
  rw [rz_add (by omega) (by omega)]
  omega
theorem rl_lim {y g : Int64} (hy : 0 ≤ y.toInt ∧ y.toInt ≤ 131760000000) (hg : 0 ≤ g.toInt ∧ g.toInt ≤ 100) : 0 ≤ (y * g / 100).toInt ∧ (y * g / 100).toInt ≤ 131760000000 := by
  have p0 : 0 ≤ y.toInt * g.toInt := Int.mul_nonneg hy.1 hg.1
  have p1 : y.toInt * g.toInt ≤ 131760000000 * 100 := Int.mul_le_mul hy.2 hg.2 hg.1 (by decide)
  have e1 : (y * g).toInt = y.toInt * g.toInt := rz_mul (by omega) (by omega)
  rw [rz_div (by rw [e1]; exact p0) (by rw [rz_lit2]; decide), e1, rz_lit2]
  omega
/-- the value of a redemption changes -/
theorem rl_I.setV {B : Int} {f : Nat → Int64} (h : rl_I B f) {r : Nat} (hr : r < 12) (hz : (f (287 + 4 * r)).toInt ≠ 0) (v : Int64) : rl_I B (vp_updL f (288 + 4 * r) v) ∧ rl_T (vp_updL f (288 + 4 * r) v) = rl_T f ∧ (rl_P f → rl_P (vp_updL f (288 + 4 * r) v)) := by
  have el : ∀ i : Nat, i < 286 → vp_updL f (288 + 4 * r) v i = f i := fun i hi => rl_ne (by omega) rfl
  have e1 : ∀ a : Nat, vp_updL f (288 + 4 * r) v (287 + 4 * a) = f (287 + 4 * a) := fun a => rl_ne (by omega) rfl
  have hterm : ∀ a : Nat, (if (f (287 + 4 * a)).toInt = 0 then (vp_updL f (288 + 4 * r) v (288 + 4 * a)).toInt else 0) = (if (f (287 + 4 * a)).toInt = 0 then (f (288 + 4 * a)).toInt else 0) := fun a => by
    by_cases har : a = r
    · subst har; rw [if_neg hz, if_neg hz]
    · rw [rl_ne (by omega) rfl]
  obtain ⟨⟨⟨h0, h1, h6, h7, h8⟩, r2, r3, r4, r5⟩, hS, hN, hL, hE, hU, hQ, hB⟩ := h
  have nS : rnS (vp_updL f (288 + 4 * r) v) = rnS f := by unfold rnS; rw [el 6 (by decide)]
  have nL : rnL (vp_updL f (288 + 4 * r) v) = rnL f := by unfold rnL; rw [el 7 (by decide)]
  have nR : rnR (vp_updL f (288 + 4 * r) v) = rnR f := by unfold rnR; rw [el 8 (by decide)]
  have sb : ∀ a : Nat, a < rnS f → a < 6 := fun a ha => by unfold rnS at ha; omega
  have lb : ∀ a : Nat, a < rnL f → a < 40 := fun a ha => by unfold rnL at ha; omega
  have hT : rl_T (vp_updL f (288 + 4 * r) v) = rl_T f := by
    unfold rl_T
    rw [nS, nL, nR, rsum_congr (g := fun k => (f (18 + 5 * k)).toInt) (h := fun k => (vp_updL f (288 + 4 * r) v (18 + 5 * k)).toInt) (fun i hi => by show (vp_updL f (288 + 4 * r) v (18 + 5 * i)).toInt = _; rw [el _ (by have := sb i hi; omega)]), rsum_congr (g := fun k => (f (50 + 6 * k)).toInt) (h := fun k => (vp_updL f (288 + 4 * r) v (50 + 6 * k)).toInt) (fun i hi => by show (vp_updL f (288 + 4 * r) v (50 + 6 * i)).toInt = _; rw [el _ (by have := lb i hi; omega)]), rsum_congr (g := fun r => if (f (287 + 4 * r)).toInt = 0 then (f (288 + 4 * r)).toInt else 0) (h := fun a => if (vp_updL f (288 + 4 * r) v (287 + 4 * a)).toInt = 0 then (vp_updL f (288 + 4 * r) v (288 + 4 * a)).toInt else 0) (fun i _ => by show (if (vp_updL f (288 + 4 * r) v (287 + 4 * i)).toInt = 0 then (vp_updL f (288 + 4 * r) v (288 + 4 * i)).toInt else 0) = _; rw [e1 i]; exact hterm i)]
  refine ⟨⟨⟨⟨by rw [el 0 (by decide)]; exact h0, by rw [el 1 (by decide)]; exact h1, by rw [el 6 (by decide)]; exact h6, by rw [el 7 (by decide)]; exact h7, by rw [el 8 (by decide)]; exact h8⟩, by rw [el 2 (by decide)]; exact r2, by rw [el 3 (by decide)]; exact r3, by rw [el 4 (by decide)]; exact r4, by rw [el 1 (by decide), el 6 (by decide)]; exact r5⟩, fun a ha => ?_, fun a b hab hb => ?_, fun a ha => ?_, fun a ha => ?_, fun a ha => ?_, fun a ha => ?_, by rw [hT]; exact hB⟩, hT, fun hp => ⟨fun j hj => ?_, fun k hk => ?_⟩⟩
  · rw [nS] at ha
    have h9 := sb a ha
    unfold rl_S; rw [el 1 (by decide), el 9 (by decide), el (18 + 5 * a) (by omega), el (19 + 5 * a) (by omega), el (20 + 5 * a) (by omega), el (16 + 5 * a) (by omega)]; exact hS a ha
  · rw [nS] at hb
    have h9 := sb b hb
    rw [el (16 + 5 * a) (by omega), el (16 + 5 * b) (by omega)]; exact hN a b hab hb
  · rw [nL] at ha
    have h9 := lb a ha
    unfold rl_L; rw [el 1 (by decide), el (48 + 6 * a) (by omega), el (49 + 6 * a) (by omega), el (50 + 6 * a) (by omega)]; exact hL a ha
  · rw [nL] at ha
    have h9 := lb a ha
    obtain ⟨b, hb, hbe⟩ := hE a ha
    have h8 := sb b hb
    exact ⟨b, by rw [nS]; exact hb, by rw [el (16 + 5 * b) (by omega), el (47 + 6 * a) (by omega)]; exact hbe⟩
  · rw [nS] at ha
    have h9 := sb a ha
    rw [el (16 + 5 * a) (by omega), el (19 + 5 * a) (by omega), hU a ha]
    unfold rl_u
    rw [nL]
    exact (rsum_congr (fun i hi => by have := lb i hi; rw [el (47 + 6 * i) (by omega), el (48 + 6 * i) (by omega)])).symm
  · rw [nR] at ha
    have := hQ a ha
    unfold rl_Q at this ⊢
    rw [e1 a]
    refine ⟨this.1, fun z => ?_⟩
    by_cases har : a = r
    · subst har; exact absurd z hz
    · rw [rl_ne (by omega) rfl]; exact this.2 z
  · rw [nL] at hj
    rw [el (48 + 6 * j) (by have := lb j hj; omega)]; exact hp.1 j hj
  · rw [nS] at hk
    rw [el (19 + 5 * k) (by have := sb k hk; omega)]; exact hp.2 k hk
