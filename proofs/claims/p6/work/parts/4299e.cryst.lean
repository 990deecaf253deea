/-- the mark of one series changes -/
theorem rl_I.setM {B : Int} {f g : Nat → Int64} (h : rl_I B f) {k : Nat} (hk : k < rnS f)
    (e : ∀ i : Nat, i ≠ 20 + 5 * k → g i = f i) (hM : 1000000 ≤ (g (20 + 5 * k)).toInt ∧ (g (20 + 5 * k)).toInt ≤ 2176000000000000) (hMU : (f 1).toInt = 0 → (g (20 + 5 * k)).toInt * (f (19 + 5 * k)).toInt ≤ 2176000000000000) : rl_I B g ∧ rl_T g = rl_T f := by
  obtain ⟨⟨⟨h0, h1, h6, h7, h8⟩, r2, r3, r4, r5⟩, hS, hN, hL, hE, hU, hQ, hB⟩ := h
  have hh : ∀ i : Nat, i < 16 → g i = f i := fun i a => e i (by omega)
  have e0 := hh 0 (by decide)
  have e1 := hh 1 (by decide)
  have e2 := hh 2 (by decide)
  have e3 := hh 3 (by decide)
  have e4 := hh 4 (by decide)
  have e6 := hh 6 (by decide)
  have e7 := hh 7 (by decide)
  have e8 := hh 8 (by decide)
  have e9 := hh 9 (by decide)
  have nS : rnS g = rnS f := by unfold rnS; rw [e6]
  have nL : rnL g = rnL f := by unfold rnL; rw [e7]
  have nR : rnR g = rnR f := by unfold rnR; rw [e8]
  have hk6 : k < 6 := by unfold rnS at hk; omega
  have es : ∀ a c : Nat, c < 4 → g (16 + c + 5 * a) = f (16 + c + 5 * a) := fun a c h5 => e _ (by omega)
  have el : ∀ i : Nat, 46 ≤ i → g i = f i := fun i hi => e i (by omega)
  have hT : rl_T g = rl_T f := by
    unfold rl_T
    rw [nS, nL, nR]
    have t1 : rsum (fun k => (g (18 + 5 * k)).toInt) (rnS f) = rsum (fun k => (f (18 + 5 * k)).toInt) (rnS f) := rsum_congr (fun i _ => by show (g (18 + 5 * i)).toInt = _; rw [show g (18 + 5 * i) = f (18 + 5 * i) from es i 2 (by decide)])
    have t2 : rsum (fun j => (g (50 + 6 * j)).toInt) (rnL f) = rsum (fun j => (f (50 + 6 * j)).toInt) (rnL f) := rsum_congr (fun i _ => by rw [el _ (by omega)])
    have t3 : rsum (fun r => if (g (287 + 4 * r)).toInt = 0 then (g (288 + 4 * r)).toInt else 0) (rnR f) = rsum (fun r => if (f (287 + 4 * r)).toInt = 0 then (f (288 + 4 * r)).toInt else 0) (rnR f) := rsum_congr (fun i _ => by rw [el _ (by omega), el (288 + 4 * i) (by omega)])
    rw [t1, t2, t3]
  refine ⟨⟨⟨⟨by rw [e0]; exact h0, by rw [e1]; exact h1, by rw [e6]; exact h6, by rw [e7]; exact h7, by rw [e8]; exact h8⟩, by rw [e2]; exact r2, by rw [e3]; exact r3, by rw [e4]; exact r4, by rw [e1, e6]; exact r5⟩, fun a ha => ?_, fun a b hab hb => ?_, fun a ha => ?_, fun a ha => ?_, fun a ha => ?_, fun a ha => ?_, by rw [hT]; exact hB⟩, hT⟩
  · rw [nS] at ha
    have hs := hS a ha
    unfold rl_S at hs ⊢
    rw [e1, show g (16 + 5 * a) = f (16 + 5 * a) from es a 0 (by decide), e9, show g (18 + 5 * a) = f (18 + 5 * a) from es a 2 (by decide), show g (19 + 5 * a) = f (19 + 5 * a) from es a 3 (by decide)]
    by_cases hak : a = k
    · subst hak
      exact ⟨hs.1, hM, hMU, hs.2.2.2.1, hs.2.2.2.2⟩
    · rw [e (20 + 5 * a) (by omega)]
      exact hs
  · rw [nS] at hb
    rw [show g (16 + 5 * a) = f (16 + 5 * a) from es a 0 (by decide), show g (16 + 5 * b) = f (16 + 5 * b) from es b 0 (by decide)]
    exact hN a b hab hb
  · rw [nL] at ha
    unfold rl_L
    rw [e1, el _ (by omega : 46 ≤ 48 + 6 * a), el _ (by omega : 46 ≤ 49 + 6 * a), el _ (by omega : 46 ≤ 50 + 6 * a)]
    exact hL a ha
  · rw [nL] at ha
    obtain ⟨b, hb, hbe⟩ := hE a ha
    exact ⟨b, by rw [nS]; exact hb, by rw [show g (16 + 5 * b) = f (16 + 5 * b) from es b 0 (by decide), el _ (by omega : 46 ≤ 47 + 6 * a)]; exact hbe⟩
  · rw [nS] at ha
    rw [show g (16 + 5 * a) = f (16 + 5 * a) from es a 0 (by decide), show g (19 + 5 * a) = f (19 + 5 * a) from es a 3 (by decide), hU a ha]
    unfold rl_u
    rw [nL]
    exact (rsum_congr (fun i _ => by rw [el _ (by omega : 46 ≤ 47 + 6 * i), el _ (by omega : 46 ≤ 48 + 6 * i)])).symm
  · rw [nR] at ha
    have := hQ a ha
    unfold rl_Q at this ⊢
    rw [el _ (by omega : 46 ≤ 287 + 4 * a), el _ (by omega : 46 ≤ 288 + 4 * a)]
    exact this
/-- money and units move into a series and one of its lots: the row as the reference writes it -/
def rg_mv (f : Nat → Int64) (k j : Nat) (m u : Int64) : Nat → Int64 := vp_updL (vp_updL (vp_updL (vp_updL f (18 + 5 * k) (f (18 + 5 * k) + m)) 10 (f 10 - m)) (48 + 6 * j) (f (48 + 6 * j) + u)) (19 + 5 * k) (f (19 + 5 * k) + u)
/-- what equalizing a lot does -/
def rl_EQ (f g : Nat → Int64) (k j : Nat) (mn : Int) : Prop := (∀ i : Nat, i ≠ 10 → i ≠ 18 + 5 * k → i ≠ 19 + 5 * k → i ≠ 48 + 6 * j → g i = f i) ∧ (0 ≤ (g (18 + 5 * k)).toInt ∧ (g (18 + 5 * k)).toInt ≤ (f (18 + 5 * k)).toInt + (f (50 + 6 * j)).toInt) ∧ (0 ≤ (g (48 + 6 * j)).toInt ∧ 10 * (g (48 + 6 * j)).toInt ≤ 10 * (f (48 + 6 * j)).toInt + (f (50 + 6 * j)).toInt) ∧ (g (19 + 5 * k)).toInt - (f (19 + 5 * k)).toInt = (g (48 + 6 * j)).toInt - (f (48 + 6 * j)).toInt ∧ 200000 * ((f (18 + 5 * k)).toInt - (g (18 + 5 * k)).toInt) ≤ mn * (f (48 + 6 * j)).toInt
theorem rl_EQ.none {B : Int} {f : Nat → Int64} (h : rl_I B f) {k j : Nat} (hk : k < rnS f) (hj : j < rnL f) {mn : Int} (hm : 0 ≤ mn) : rl_EQ f f k j mn := by
  have hs := (h.2.1 k hk).1
  have hl := h.2.2.2.1 j hj
  have hc := hl.2.2.1.1
  have hu := hl.1
  exact ⟨fun _ _ _ _ _ => rfl, ⟨hs.1, by omega⟩, ⟨hu, by omega⟩, by omega, by have := Int.mul_nonneg hm hu; omega⟩
theorem rg_mv_at {f : Nat → Int64} {k j : Nat} {m u : Int64} (hk : k < 6) : (∀ i : Nat, i ≠ 10 → i ≠ 18 + 5 * k → i ≠ 19 + 5 * k → i ≠ 48 + 6 * j → rg_mv f k j m u i = f i) ∧ rg_mv f k j m u (18 + 5 * k) = f (18 + 5 * k) + m ∧ rg_mv f k j m u (19 + 5 * k) = f (19 + 5 * k) + u ∧ rg_mv f k j m u (48 + 6 * j) = f (48 + 6 * j) + u := by
  refine ⟨fun i a b c d => ?_, ?_, ?_, ?_⟩ <;> unfold rg_mv
  · rw [rl_ne c (rl_ne d (rl_ne a (rl_ne b rfl)))]
  · rw [rl_ne (by omega) (rl_ne (by omega) (rl_ne (by omega) (rl_eq rfl)))]
  · rw [rl_eq rfl]
  · rw [rl_ne (by omega) (rl_eq rfl)]
/-- a lot's credit is worth more units -/
theorem rl_EQ.back {B : Int} {f : Nat → Int64} (h : rl_I B f) (hB : B ≤ 43920000000) {k j : Nat} (hk : k < rnS f) (hj : j < rnL f) (m1 : (f 1).toInt = 1) {v p : Int64} (hv : 0 ≤ v.toInt ∧ v.toInt ≤ (f (50 + 6 * j)).toInt) (hp : 1000000 ≤ p.toInt) {mn : Int} (hm : 0 ≤ mn) : rl_EQ f (rg_mv f k j v (v * 100000 / p)) k j mn := by
  have hs := (h.2.1 k hk).1
  have hl := h.2.2.2.1 j hj
  have hc := hl.2.2.1
  have hl0 := hl.1
  have hu := (h.ubound hk).2 m1
  have hA := h.abound hk
  have hlu := hl.2.2.2.2 m1
  have hk6 : k < 6 := by have := h.1.1.2.2.1; unfold rnS at hk; omega
  obtain ⟨a1, a2, a3, a4⟩ := rg_mv_at (f := f) (k := k) (j := j) (m := v) (u := v * 100000 / p) hk6
  have e1 : (v * 100000).toInt = v.toInt * 100000 := by rw [rz_mul (by rw [rz_lit5]; omega) (by rw [rz_lit5]; omega), rz_lit5]
  have e2 : (v * 100000 / p).toInt = v.toInt * 100000 / p.toInt := by rw [rz_div (by rw [e1]; omega) (by omega), e1]
  have q0 : 0 ≤ v.toInt * 100000 / p.toInt := Int.ediv_nonneg (by omega) (by omega)
  have q1 : v.toInt * 100000 / p.toInt * p.toInt ≤ v.toInt * 100000 := Int.ediv_mul_le _ (by omega)
  have q2 : v.toInt * 100000 / p.toInt * 1000000 ≤ v.toInt * 100000 / p.toInt * p.toInt := Int.mul_le_mul_of_nonneg_left hp q0
  have x1 : (f (18 + 5 * k) + v).toInt = (f (18 + 5 * k)).toInt + v.toInt := rz_add (by omega) (by omega)
  have x2 : (f (19 + 5 * k) + v * 100000 / p).toInt = (f (19 + 5 * k)).toInt + v.toInt * 100000 / p.toInt := by rw [rz_add (by rw [e2]; omega) (by rw [e2]; omega), e2]
  have x3 : (f (48 + 6 * j) + v * 100000 / p).toInt = (f (48 + 6 * j)).toInt + v.toInt * 100000 / p.toInt := by rw [rz_add (by rw [e2]; omega) (by rw [e2]; omega), e2]
  refine ⟨a1, ?_, ?_, ?_, ?_⟩
  · rw [a2, x1]; omega
  · rw [a4, x3]; omega
  · rw [a3, a4, x2, x3]; omega
  · rw [a2, x1]; have := Int.mul_nonneg hm hl0; omega
theorem rz_neg {x : Int64} (h : 0 ≤ x.toInt) : (-x).toInt = -x.toInt := by
  have := Int64.toInt_lt x
  rw [Int64.toInt_neg]
  exact Int.bmod_eq_of_le (by omega) (by omega)
/-- what a lot owes -/
theorem rz_due {u t e q : Int64} (hu : 0 ≤ u.toInt) (he : 0 ≤ e.toInt) (ht : e.toInt < t.toInt) (hq : 0 ≤ q.toInt ∧ q.toInt ≤ 50) (hb : t.toInt * u.toInt ≤ 2200000000000000) : 0 ≤ (u * (t - e) * q / 100 / 100000).toInt ∧ 200000 * (u * (t - e) * q / 100 / 100000).toInt ≤ t.toInt * u.toInt := by
  have e0 : (t - e).toInt = t.toInt - e.toInt := by have := Int64.toInt_lt t; exact rz_sub (by omega) (by omega)
  have z0 : 0 ≤ u.toInt * (t.toInt - e.toInt) := Int.mul_nonneg hu (by omega)
  have z1 : u.toInt * (t.toInt - e.toInt) ≤ t.toInt * u.toInt := by
    rw [Int.mul_comm t.toInt]; exact Int.mul_le_mul_of_nonneg_left (by omega) hu
  have e1 : (u * (t - e)).toInt = u.toInt * (t.toInt - e.toInt) := by rw [rz_mul (by rw [e0]; omega) (by rw [e0]; omega), e0]
  generalize u.toInt * (t.toInt - e.toInt) = X at *
  have y0 : 0 ≤ X * q.toInt := Int.mul_nonneg z0 hq.1
  have y1 : X * q.toInt ≤ X * 50 := Int.mul_le_mul_of_nonneg_left hq.2 z0
  have e2 : (u * (t - e) * q).toInt = X * q.toInt := by rw [rz_mul (by rw [e1]; omega) (by rw [e1]; omega), e1]
  have e3 : (u * (t - e) * q / 100).toInt = X * q.toInt / 100 := by rw [rz_div (by rw [e2]; omega) (by rw [rz_lit2]; omega), e2, rz_lit2]
  have e4 : (u * (t - e) * q / 100 / 100000).toInt = X * q.toInt / 100 / 100000 := by rw [rz_div (by rw [e3]; omega) (by rw [rz_lit5]; omega), e3, rz_lit5]
  rw [e4]
  omega
/-- a lot pays what it owes -/
theorem rl_EQ.due {B : Int} {f : Nat → Int64} (h : rl_I B f) (hB : B ≤ 43920000000) {k j : Nat} (hk : k < rnS f) (hj : j < rnL f) (m1 : (f 1).toInt = 1) {d x : Int64} {mn : Int} (hd : 0 ≤ d.toInt ∧ 200000 * d.toInt ≤ mn * (f (48 + 6 * j)).toInt) (hx : 0 ≤ x.toInt ∧ x.toInt ≤ (f (48 + 6 * j)).toInt) (hA1 : mn * (f (48 + 6 * j)).toInt ≤ 100000 * (f (18 + 5 * k)).toInt) (hn : (f (47 + 6 * j)).toInt = (f (16 + 5 * k)).toInt) : rl_EQ f (rg_mv f k j (-d) (-x)) k j mn := by
  have hs := (h.2.1 k hk).1
  have hl := h.2.2.2.1 j hj
  have hc := hl.2.2.1
  have hl0 := hl.1
  have hu := (h.ubound hk).2 m1
  have hA := h.abound hk
  have hlu := hl.2.2.2.2 m1
  have hj1 := h.uj hk hj hn
  have hk6 : k < 6 := by have := h.1.1.2.2.1; unfold rnS at hk; omega
  obtain ⟨a1, a2, a3, a4⟩ := rg_mv_at (f := f) (k := k) (j := j) (m := -d) (u := -x) hk6
  have n1 := rz_neg hd.1
  have n2 := rz_neg hx.1
  have x1 : (f (18 + 5 * k) + -d).toInt = (f (18 + 5 * k)).toInt - d.toInt := by rw [rz_add (by rw [n1]; omega) (by rw [n1]; omega), n1]; omega
  have x2 : (f (19 + 5 * k) + -x).toInt = (f (19 + 5 * k)).toInt - x.toInt := by rw [rz_add (by rw [n2]; omega) (by rw [n2]; omega), n2]; omega
  have x3 : (f (48 + 6 * j) + -x).toInt = (f (48 + 6 * j)).toInt - x.toInt := by rw [rz_add (by rw [n2]; omega) (by rw [n2]; omega), n2]; omega
  refine ⟨a1, ?_, ?_, ?_, ?_⟩
  · rw [a2, x1]; omega
  · rw [a4, x3]; omega
  · rw [a3, a4, x2, x3]; omega
  · rw [a2, x1]; omega
/-- the units of the lots before lot x of a series -/
def rl_ux (f : Nat → Int64) (n : Int) (x : Nat) : Int := rsum (fun j => if (f (47 + 6 * j)).toInt = n then (f (48 + 6 * j)).toInt else 0) x
theorem rl_ux.succ (f : Nat → Int64) (n : Int) (x : Nat) : rl_ux f n (1 + x) = rl_ux f n x + (if (f (47 + 6 * x)).toInt = n then (f (48 + 6 * x)).toInt else 0) := by rw [Nat.add_comm 1 x]; rfl
/-- the lots before one, and itself, hold no more than the series -/
theorem rl_I.uxle {B : Int} {f : Nat → Int64} (h : rl_I B f) {k x : Nat} (hk : k < rnS f) (hx : x < rnL f) (hn : (f (47 + 6 * x)).toInt = (f (16 + 5 * k)).toInt) : rl_ux f (f (16 + 5 * k)).toInt x + (f (48 + 6 * x)).toInt ≤ (f (19 + 5 * k)).toInt := by
  rw [h.2.2.2.2.2.1 k hk]
  have hp : ∀ y : Nat, y ≤ rnL f - (1 + x) → rl_ux f (f (16 + 5 * k)).toInt (1 + x) ≤ rl_ux f (f (16 + 5 * k)).toInt (1 + x + y) := fun y => by
    induction y with
    | zero => intro _; exact Int.le_refl _
    | succ y ih =>
      intro hy
      refine Int.le_trans (ih (by omega)) ?_
      have e : 1 + x + (y + 1) = 1 + (1 + x + y) := by omega
      rw [e, rl_ux.succ]
      have := (h.2.2.2.1 (1 + x + y) (by omega)).1
      split <;> omega
  have h1 := hp (rnL f - (1 + x)) (Nat.le_refl _)
  have e2 : 1 + x + (rnL f - (1 + x)) = rnL f := by omega
  rw [e2, rl_ux.succ, if_pos hn] at h1
  exact h1
/-- crystallizeOne at lot x: f the row behind the fee -/
def rl_CO (B : Int) (f g : Nat → Int64) (k : Nat) (mn : Int) (x : Nat) : Prop := rl_I B g ∧ rl_T g ≤ rl_T f ∧ (∀ i : Nat, i ≠ 10 → i ≠ 18 + 5 * k → i ≠ 19 + 5 * k → ¬ (46 ≤ i ∧ i < 46 + 6 * x) → g i = f i) ∧ ((f 1).toInt = 0 → g (19 + 5 * k) = f (19 + 5 * k)) ∧ ((f 1).toInt = 1 → mn * ((f (19 + 5 * k)).toInt - rl_ux f (f (16 + 5 * k)).toInt x) ≤ 100000 * (g (18 + 5 * k)).toInt) ∧ 0 ≤ mn
theorem rl_CO.init {B : Int} {f : Nat → Int64} (h : rl_I B f) {k : Nat} {mn : Int} (hm : 0 ≤ mn) (hA : mn * (f (19 + 5 * k)).toInt ≤ 100000 * (f (18 + 5 * k)).toInt) : rl_CO B f f k mn 0 := by
  refine ⟨h, Int.le_refl _, fun _ _ _ _ _ => rfl, fun _ => rfl, fun _ => ?_, hm⟩
  have : rl_ux f (f (16 + 5 * k)).toInt 0 = 0 := rfl
  rw [this, Int.sub_zero]; exact hA
theorem rl_CO.skip {B : Int} {f g : Nat → Int64} {k x : Nat} {mn : Int} (h : rl_CO B f g k mn x) (hx6 : k < 6) (hn : ¬ g (47 + 6 * x) = g (16 + 5 * k)) : rl_CO B f g k mn (1 + x) := by
  obtain ⟨h1, h2, h3, h4, h5, h6⟩ := h
  refine ⟨h1, h2, fun i a b c d => h3 i a b c (by omega), h4, fun z => ?_, h6⟩
  have e : ¬ (f (47 + 6 * x)).toInt = (f (16 + 5 * k)).toInt := fun w => hn (by rw [h3 (47 + 6 * x) (by omega) (by omega) (by omega) (by omega), h3 (16 + 5 * k) (by omega) (by omega) (by omega) (by omega)]; exact Int64.toInt_inj.mp w)
  rw [rl_ux.succ, if_neg e, Int.add_zero]
  exact h5 z
/-- a lot's entry and credit are set, behind its equalization where there is one -/
theorem rl_CO.put {B : Int} {f g g2 : Nat → Int64} {k x : Nat} {mn : Int} (h : rl_CO B f g k mn x) (hk : k < rnS g) (hx : x < rnL g) (hn : g (47 + 6 * x) = g (16 + 5 * k)) (q : (g 1).toInt = 1 ∧ rl_EQ g g2 k x mn ∨ (g 1).toInt = 0 ∧ g2 = g) {p : Int64} (hp : 0 ≤ p.toInt ∧ p.toInt ≤ 2199023255552000) : rl_CO B f (vp_updL (vp_updL g2 (49 + 6 * x) p) (50 + 6 * x) 0) k mn (1 + x) := by
  obtain ⟨h1, h2, h3, h4, h5, h6⟩ := h
  have z0 : (0 : Int64).toInt = 0 := by decide
  have hk6 : k < 6 := by have := h1.1.1.2.2.1; unfold rnS at hk; omega
  have hl := h1.2.2.2.1 x hx
  have hs := h1.2.1 k hk
  have hni : (g (47 + 6 * x)).toInt = (g (16 + 5 * k)).toInt := by rw [hn]
  have e1f : g 1 = f 1 := h3 1 (by decide) (by omega) (by omega) (by omega)
  have fr : ∀ i : Nat, i ≠ 10 → i ≠ 18 + 5 * k → i ≠ 19 + 5 * k → i ≠ 48 + 6 * x → g2 i = g i := by
    rcases q with ⟨_, q⟩ | ⟨_, q⟩
    · exact q.1
    · intro i _ _ _ _; rw [q]
  have gA : 0 ≤ (g2 (18 + 5 * k)).toInt ∧ (g2 (18 + 5 * k)).toInt ≤ (g (18 + 5 * k)).toInt + (g (50 + 6 * x)).toInt ∧ ((g 1).toInt = 0 → g2 (18 + 5 * k) = g (18 + 5 * k)) := by
    rcases q with ⟨m, q⟩ | ⟨m, q⟩
    · exact ⟨q.2.1.1, q.2.1.2, fun z => by omega⟩
    · rw [q]; exact ⟨hs.1.1, by have := hl.2.2.1.1; omega, fun _ => rfl⟩
  have gL : 0 ≤ (g2 (48 + 6 * x)).toInt ∧ 10 * (g2 (48 + 6 * x)).toInt ≤ 10 * (g (48 + 6 * x)).toInt + (g (50 + 6 * x)).toInt ∧ (g2 (19 + 5 * k)).toInt - (g (19 + 5 * k)).toInt = (g2 (48 + 6 * x)).toInt - (g (48 + 6 * x)).toInt ∧ ((g 1).toInt = 0 → g2 (48 + 6 * x) = g (48 + 6 * x) ∧ g2 (19 + 5 * k) = g (19 + 5 * k)) := by
    rcases q with ⟨m, q⟩ | ⟨m, q⟩
    · exact ⟨q.2.2.1.1, q.2.2.1.2, q.2.2.2.1, fun z => by omega⟩
    · rw [q]; exact ⟨hl.1, by have := hl.2.2.1.1; omega, by omega, fun _ => ⟨rfl, rfl⟩⟩
  have uj := h1.uj hk hx hni
  have a0 : ∀ i : Nat, i ≠ 49 + 6 * x → i ≠ 50 + 6 * x → vp_updL (vp_updL g2 (49 + 6 * x) p) (50 + 6 * x) 0 i = g2 i := fun i a b => rl_ne b (rl_ne a rfl)
  have a49 : vp_updL (vp_updL g2 (49 + 6 * x) p) (50 + 6 * x) 0 (49 + 6 * x) = p := rl_ne (by omega) (rl_eq rfl)
  have a50 : vp_updL (vp_updL g2 (49 + 6 * x) p) (50 + 6 * x) 0 (50 + 6 * x) = 0 := rl_eq rfl
  have a48 := a0 (48 + 6 * x) (by omega) (by omega)
  have a18 := a0 (18 + 5 * k) (by omega) (by omega)
  have a19 := a0 (19 + 5 * k) (by omega) (by omega)
  have a20 := (a0 (20 + 5 * k) (by omega) (by omega)).trans (fr (20 + 5 * k) (by omega) (by omega) (by omega) (by omega))
  generalize hg3 : vp_updL (vp_updL g2 (49 + 6 * x) p) (50 + 6 * x) 0 = g3 at *
  have c := h1.chg (g := g3) hk hx hni (fun i b1 b2 b3 b4 => (a0 i (by omega) (by omega)).trans (fr i (by omega) (by omega) (by omega) (by omega)))
    (by
      rw [a18, a19, a20]
      refine ⟨⟨gA.1, by omega⟩, hs.2.1, fun z => ?_, fun z z2 => ?_⟩
      · rw [(gL.2.2.2 z).2]; exact hs.2.2.1 z
      · rw [gA.2.2 z]; exact hs.2.2.2.1 z z2)
    (by
      rw [a48, a49, a50, z0]
      refine ⟨gL.1, hp, ⟨by decide, by decide⟩, fun z => ⟨?_, rfl⟩, fun z => ?_⟩
      · rw [(gL.2.2.2 z).1]; exact (hl.2.2.2.1 z).1
      · have := hl.2.2.2.2 z; omega)
    (by rw [a19, a48]; exact gL.2.2.1)
    (by rw [a18, a50, z0]; omega)
  refine ⟨c.1, Int.le_trans c.2 h2, fun i b1 b2 b3 b4 => ((a0 i (by omega) (by omega)).trans (fr i b1 b2 b3 (by omega))).trans (h3 i b1 b2 b3 (by omega)), fun z => ?_, fun z => ?_, h6⟩
  · rw [a19, (gL.2.2.2 (by rw [e1f]; exact z)).2]; exact h4 z
  · have hu := h5 z
    rcases q with ⟨_, q⟩ | ⟨w, _⟩
    · have eL : g (48 + 6 * x) = f (48 + 6 * x) := h3 _ (by omega) (by omega) (by omega) (by omega)
      have en : (f (47 + 6 * x)).toInt = (f (16 + 5 * k)).toInt := by rw [← h3 (47 + 6 * x) (by omega) (by omega) (by omega) (by omega), ← h3 (16 + 5 * k) (by omega) (by omega) (by omega) (by omega), hn]
      rw [rl_ux.succ, if_pos en, a18]
      have qd := q.2.2.2.2
      rw [eL] at qd
      have m0 : 0 ≤ mn * (f (48 + 6 * x)).toInt := Int.mul_nonneg h6 (by rw [← eL]; exact hl.1)
      have e9 : mn * ((f (19 + 5 * k)).toInt - (rl_ux f (f (16 + 5 * k)).toInt x + (f (48 + 6 * x)).toInt)) = mn * ((f (19 + 5 * k)).toInt - rl_ux f (f (16 + 5 * k)).toInt x) - mn * (f (48 + 6 * x)).toInt := by
        rw [← Int.mul_sub]; congr 1; omega
      rw [e9]
      omega
    · rw [e1f] at w; omega
/-- the money of the series bears what lot x may owe -/
theorem rl_CO.bears {B : Int} {f g : Nat → Int64} {k x : Nat} {mn : Int} (h : rl_CO B f g k mn x) (hf : rl_I B f) (hk : k < rnS f) (hx : x < rnL f) (hn : g (47 + 6 * x) = g (16 + 5 * k)) (z : (f 1).toInt = 1) : mn * (g (48 + 6 * x)).toInt ≤ 100000 * (g (18 + 5 * k)).toInt := by
  obtain ⟨h1, h2, h3, h4, h5, h6⟩ := h
  have hk6 : k < 6 := by have := hf.1.1.2.2.1; unfold rnS at hk; omega
  have en : (f (47 + 6 * x)).toInt = (f (16 + 5 * k)).toInt := by rw [← h3 (47 + 6 * x) (by omega) (by omega) (by omega) (by omega), ← h3 (16 + 5 * k) (by omega) (by omega) (by omega) (by omega), hn]
  have a := hf.uxle hk hx en
  rw [h3 (48 + 6 * x) (by omega) (by omega) (by omega) (by omega)]
  have b := h5 z
  have c : mn * (f (48 + 6 * x)).toInt ≤ mn * ((f (19 + 5 * k)).toInt - rl_ux f (f (16 + 5 * k)).toInt x) := Int.mul_le_mul_of_nonneg_left (by omega) h6
  omega
theorem rz_top {g m e : Int64} (hm : 0 ≤ m.toInt) (hg : m.toInt < g.toInt) (he : m.toInt < e.toInt) (he2 : e.toInt ≤ 2199023255552000) : (0 < (e - m).toInt ∧ (e - m).toInt ≤ 2199023255552000000) ∧ 0 ≤ (g - m).toInt := by
  have h1 := Int64.toInt_lt g
  have e1 : (e - m).toInt = e.toInt - m.toInt := rz_sub (by omega) (by omega)
  have e2 : (g - m).toInt = g.toInt - m.toInt := rz_sub (by omega) (by omega)
  omega
theorem rz_dp {d p : Int64} (hd : 0 ≤ d.toInt) (hd2 : d.toInt ≤ 22000000000) (hp : 0 < p.toInt) : 0 ≤ (d * 100000 / p).toInt := by
  have e1 : (d * 100000).toInt = d.toInt * 100000 := by rw [rz_mul (by rw [rz_lit5]; omega) (by rw [rz_lit5]; omega), rz_lit5]
  rw [rz_div (by rw [e1]; omega) hp, e1]
  exact Int.ediv_nonneg (by omega) (by omega)
