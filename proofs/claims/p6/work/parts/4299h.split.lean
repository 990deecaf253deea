/-- a lot's owner changes -/
theorem rl_I.own {B : Int} {f g : Nat → Int64} (h : rl_I B f) (hP : rl_P f) {j : Nat} (hj : j < 40) (e9 : ∀ i : Nat, i ≠ 46 + 6 * j → g i = f i) : rl_I B g ∧ rl_P g ∧ rl_T g = rl_T f := by
  have e := fun (i : Nat) (h9 : i < 334 ∧ i ≠ 46 + 6 * j) => e9 i h9.2
  have hI := h
  obtain ⟨⟨⟨h0, h1, h6, h7, h8⟩, r2, r3, r4, r5⟩, hS, hN, hL, hE, hU, hQ, hB⟩ := h
  have c0 := e 0 (by omega)
  have c1 := e 1 (by omega)
  have c2 := e 2 (by omega)
  have c3 := e 3 (by omega)
  have c4 := e 4 (by omega)
  have c6 := e 6 (by omega)
  have c7 := e 7 (by omega)
  have c8 := e 8 (by omega)
  have c9 := e 9 (by omega)
  have nS : rnS g = rnS f := by unfold rnS; rw [c6]
  have nL : rnL g = rnL f := by unfold rnL; rw [c7]
  have nR : rnR g = rnR f := by unfold rnR; rw [c8]
  have sb : ∀ a : Nat, a < rnS f → a < 6 := fun a ha => by unfold rnS at ha; omega
  have lb : ∀ a : Nat, a < rnL f → a < 40 := fun a ha => by unfold rnL at ha; omega
  have qb : ∀ a : Nat, a < rnR f → a < 12 := fun a ha => by unfold rnR at ha; omega
  have hT : rl_T g = rl_T f := by
    unfold rl_T
    rw [nS, nL, nR, rsum_congr (g := fun k => (f (18 + 5 * k)).toInt) (h := fun k => (g (18 + 5 * k)).toInt) (fun i hi => by show (g (18 + 5 * i)).toInt = _; rw [e _ (by have := sb i hi; omega)]), rsum_congr (g := fun k => (f (50 + 6 * k)).toInt) (h := fun k => (g (50 + 6 * k)).toInt) (fun i hi => by show (g (50 + 6 * i)).toInt = _; rw [e _ (by have := lb i hi; omega)]), rsum_congr (g := fun r => if (f (287 + 4 * r)).toInt = 0 then (f (288 + 4 * r)).toInt else 0) (h := fun r => if (g (287 + 4 * r)).toInt = 0 then (g (288 + 4 * r)).toInt else 0) (fun i hi => by show (if (g (287 + 4 * i)).toInt = 0 then (g (288 + 4 * i)).toInt else 0) = _; rw [e (287 + 4 * i) (by have := qb i hi; omega), e (288 + 4 * i) (by have := qb i hi; omega)])]
  refine ⟨⟨⟨⟨by rw [c0]; exact h0, by rw [c1]; exact h1, by rw [c6]; exact h6, by rw [c7]; exact h7, by rw [c8]; exact h8⟩, by rw [c2]; exact r2, by rw [c3]; exact r3, by rw [c4]; exact r4, by rw [c1, c6]; exact r5⟩, fun a ha => ?_, fun a b hab hb => ?_, fun a ha => ?_, fun a ha => ?_, fun a ha => ?_, fun a ha => ?_, by rw [hT]; exact hB⟩, ⟨fun a ha => ?_, fun k hk => ?_⟩, hT⟩
  · rw [nS] at ha
    have h9 := sb a ha
    unfold rl_S; rw [c1, c9, e (18 + 5 * a) (by omega), e (19 + 5 * a) (by omega), e (20 + 5 * a) (by omega), e (16 + 5 * a) (by omega)]; exact hS a ha
  · rw [nS] at hb
    have h9 := sb b hb
    rw [e (16 + 5 * a) (by omega), e (16 + 5 * b) (by omega)]; exact hN a b hab hb
  · rw [nL] at ha
    have h9 := lb a ha
    unfold rl_L; rw [c1, e (48 + 6 * a) (by omega), e (49 + 6 * a) (by omega), e (50 + 6 * a) (by omega)]; exact hL a ha
  · rw [nL] at ha
    have h9 := lb a ha
    obtain ⟨b, hb, hbe⟩ := hE a ha
    have h8 := sb b hb
    exact ⟨b, by rw [nS]; exact hb, by rw [e (16 + 5 * b) (by omega), e (47 + 6 * a) (by omega)]; exact hbe⟩
  · rw [nS] at ha
    have h9 := sb a ha
    rw [e (16 + 5 * a) (by omega), e (19 + 5 * a) (by omega), hU a ha]
    unfold rl_u
    rw [nL]
    exact (rsum_congr (fun i hi => by have := lb i hi; rw [e (47 + 6 * i) (by omega), e (48 + 6 * i) (by omega)])).symm
  · rw [nR] at ha
    have h9 := qb a ha
    have := hQ a ha
    unfold rl_Q at this ⊢
    rw [e (287 + 4 * a) (by omega), e (288 + 4 * a) (by omega)]
    exact this
  · rw [nL] at ha
    have h9 := lb a ha
    rw [e (48 + 6 * a) (by omega)]; exact hP.1 a ha
  · rw [nS] at hk
    have h9 := sb k hk
    rw [e (19 + 5 * k) (by omega)]; exact hP.2 k hk
/-- the copying of a lot's numbers, behind n of them -/
def rl_LC (f g : Nat → Int64) (j m n : Nat) : Prop := (∀ i : Nat, ¬ (46 + 6 * m ≤ i ∧ i < 46 + 6 * m + n) → g i = f i) ∧ ∀ c : Nat, c < n → g (46 + 6 * m + c) = f (46 + 6 * j + c)
theorem rl_LC.init (f : Nat → Int64) (j m : Nat) : rl_LC f f j m 0 := ⟨fun _ _ => rfl, fun c hc => absurd hc (Nat.not_lt_zero _)⟩
theorem rl_LC.step {f g : Nat → Int64} {j m n a b : Nat} (h : rl_LC f g j m n) (hj : j < m) (hn : n < 6) (ha : a = 46 + 6 * m + n) (hb : b = 46 + 6 * j + n) : rl_LC f (vp_updL g a (g b)) j m (1 + n) := by
  subst ha; subst hb
  refine ⟨fun i hi => ?_, fun c hc => ?_⟩
  · rw [rl_ne (by omega) rfl]; exact h.1 i (by omega)
  · by_cases hcn : c = n
    · subst hcn; rw [rl_eq rfl]; exact h.1 _ (by omega)
    · rw [rl_ne (by omega) rfl]; exact h.2 c (by omega)
/-- a lot is split: the row as the reference writes it -/
theorem rl_LC.fin {B : Int} {f g : Nat → Int64} {j m : Nat} (h : rl_LC f g j m 6) (hI : rl_I B f) (hP : rl_P f) (hB : B ≤ 43920000000) (hj : j < m) (hm : rnL f = m) (hm40 : m < 40) {own x : Int64} (hx : 1 ≤ x.toInt ∧ x.toInt < (f (48 + 6 * j)).toInt) {g2 : Nat → Int64}
    (hg : g2 = vp_updL (vp_updL (vp_updL (vp_updL (vp_updL (vp_updL g (46 + 6 * m) own) (48 + 6 * m) x) (50 + 6 * m) (f (50 + 6 * j) * x / f (48 + 6 * j))) (48 + 6 * j) (f (48 + 6 * j) - x)) (50 + 6 * j) (f (50 + 6 * j) - f (50 + 6 * j) * x / f (48 + 6 * j))) 7 (f 7 + 1)) :
    rl_I B g2 ∧ rl_P g2 ∧ rl_T g2 = rl_T f ∧ (∀ i : Nat, i ≠ 7 → i ≠ 48 + 6 * j → i ≠ 50 + 6 * j → ¬ (46 + 6 * m ≤ i ∧ i ≤ 51 + 6 * m) → g2 i = f i) ∧ (g2 7).toInt = (f 7).toInt + 1 := by
  have hjL : j < rnL f := by omega
  have hl := hI.2.2.2.1 j hjL
  have hlu := hI.lotu hjL
  have hc := hl.2.2.1
  have hm7 : (f 7).toInt = (m : Int) := by have := hI.1.1.2.2.2.1; unfold rnL at hm; omega
  have xm : x.toInt * (f (50 + 6 * j)).toInt ≤ (f (48 + 6 * j)).toInt * (f (50 + 6 * j)).toInt := Int.mul_le_mul_of_nonneg_right (by omega) hc.1
  have x5 : (f (48 + 6 * j)).toInt * (f (50 + 6 * j)).toInt ≤ (f (48 + 6 * j)).toInt * 5000000 := Int.mul_le_mul_of_nonneg_left hc.2 hl.1
  have x0 : 0 ≤ (f (50 + 6 * j)).toInt * x.toInt := Int.mul_nonneg hc.1 (by omega)
  have xc : (f (50 + 6 * j)).toInt * x.toInt = x.toInt * (f (50 + 6 * j)).toInt := Int.mul_comm _ _
  have n1 : (f (50 + 6 * j) * x).toInt = (f (50 + 6 * j)).toInt * x.toInt := rz_mul (by omega) (by omega)
  have n2 : (f (50 + 6 * j) * x / f (48 + 6 * j)).toInt = (f (50 + 6 * j)).toInt * x.toInt / (f (48 + 6 * j)).toInt := by rw [rz_div (by rw [n1]; exact x0) (by omega), n1]
  have fr := rz_frac hc.1 (by omega : 0 ≤ x.toInt) (by omega : x.toInt ≤ (f (48 + 6 * j)).toInt) (by omega)
  rw [← n2] at fr
  generalize hq : f (50 + 6 * j) * x / f (48 + 6 * j) = q at *
  have n3 : (f (50 + 6 * j) - q).toInt = (f (50 + 6 * j)).toInt - q.toInt := rz_sub (by omega) (by omega)
  have n4 : (f (48 + 6 * j) - x).toInt = (f (48 + 6 * j)).toInt - x.toInt := rz_sub (by omega) (by omega)
  have a0 : ∀ i : Nat, i ≠ 7 → i ≠ 48 + 6 * j → i ≠ 50 + 6 * j → i ≠ 46 + 6 * m → i ≠ 48 + 6 * m → i ≠ 50 + 6 * m → g2 i = g i := fun i a b c d e w => by rw [hg, rl_ne a (rl_ne c (rl_ne b (rl_ne w (rl_ne e (rl_ne d rfl)))))]
  have af : ∀ i : Nat, i ≠ 7 → i ≠ 48 + 6 * j → i ≠ 50 + 6 * j → ¬ (46 + 6 * m ≤ i ∧ i ≤ 51 + 6 * m) → g2 i = f i := fun i a b c d => (a0 i a b c (by omega) (by omega) (by omega)).trans (h.1 i (by omega))
  have a7 : (g2 7).toInt = (f 7).toInt + 1 := by rw [hg, rl_eq rfl]; exact rz_i1 (by omega)
  have d1 : g2 (47 + 6 * m) = f (47 + 6 * j) := by
    rw [a0 _ (by omega) (by omega) (by omega) (by omega) (by omega) (by omega)]
    have z := h.2 1 (by decide)
    have e1 : 46 + 6 * m + 1 = 47 + 6 * m := by omega
    have e2 : 46 + 6 * j + 1 = 47 + 6 * j := by omega
    rw [e1, e2] at z; exact z
  have d3 : g2 (49 + 6 * m) = f (49 + 6 * j) := by
    rw [a0 _ (by omega) (by omega) (by omega) (by omega) (by omega) (by omega)]
    have z := h.2 3 (by decide)
    have e1 : 46 + 6 * m + 3 = 49 + 6 * m := by omega
    have e2 : 46 + 6 * j + 3 = 49 + 6 * j := by omega
    rw [e1, e2] at z; exact z
  have d48 : g2 (48 + 6 * m) = x := by rw [hg, rl_ne (by omega) (rl_ne (by omega) (rl_ne (by omega) (rl_ne (by omega) (rl_eq rfl))))]
  have d50 : g2 (50 + 6 * m) = q := by rw [hg, rl_ne (by omega) (rl_ne (by omega) (rl_ne (by omega) (rl_eq rfl)))]
  have s48 : g2 (48 + 6 * j) = f (48 + 6 * j) - x := by rw [hg, rl_ne (by omega) (rl_ne (by omega) (rl_eq rfl))]
  have s50 : g2 (50 + 6 * j) = f (50 + 6 * j) - q := by rw [hg, rl_ne (by omega) (rl_eq rfl)]
  have c := hI.split (g := g2) hjL (by omega) (fun i a b c d => af i a b c (by rw [hm] at d; exact d)) a7 (by rw [hm, d1]) (by rw [hm, d3]) (by rw [hm, d48]; omega) (by rw [s48, n4]; omega) (by rw [hm, s48, d48, n4]; omega) (by rw [hm, d50]; omega) (by rw [s50, n3]; omega) (by rw [hm, s50, d50, n3]; omega)
  refine ⟨c.1, ⟨fun a ha => ?_, fun k hk => ?_⟩, c.2, af, a7⟩
  · have ha2 : a < m + 1 := by unfold rnL at ha; omega
    by_cases ham : a = m
    · subst ham; rw [d48]; exact hx.1
    · by_cases haj : a = j
      · subst haj; rw [s48, n4]; omega
      · rw [af _ (by omega) (by omega) (by omega) (by omega)]; exact hP.1 a (by omega)
  · have hk6 := hI.1.1.2.2.1
    have e6 : g2 6 = f 6 := af 6 (by omega) (by omega) (by omega) (by omega)
    unfold rnS at hk
    rw [e6] at hk
    rw [af _ (by omega) (by omega) (by omega) (by omega)]; exact hP.2 k (by unfold rnS; exact hk)
/-- whether giving units away from lot k on leaves a part of a lot over: n lots are left -/
def rg_sp (f : Nat → Int64) (i : Int64) : Nat → Nat → Int64 → Prop
  | 0, _, _ => False
  | n + 1, k, left => 0 < left ∧ (f (46 + 6 * k) = i ∧ (left < f (48 + 6 * k) ∨ rg_sp f i n (1 + k) (left - f (48 + 6 * k))) ∨ ¬ f (46 + 6 * k) = i ∧ rg_sp f i n (1 + k) left)
theorem rg_sp.le {f : Nat → Int64} {i : Int64} {n k : Nat} {left : Int64} (h : left ≤ 0) : ¬ rg_sp f i n k left := by
  cases n with
  | zero => exact fun z => z
  | succ n => exact fun z => absurd z.1 (Int64.not_lt.mpr h)
theorem rg_sp.skip {f : Nat → Int64} {i : Int64} {n k : Nat} {left : Int64} (h : ¬ f (46 + 6 * k) = i) (hs : ¬ rg_sp f i n (1 + k) left) : ¬ rg_sp f i (n + 1) k left := fun z => z.2.elim (fun w => h w.1) (fun w => hs w.2)
theorem rg_sp.next {f : Nat → Int64} {i : Int64} {n k : Nat} {left : Int64} (h : ¬ left < f (48 + 6 * k)) (hs : ¬ rg_sp f i n (1 + k) (left - f (48 + 6 * k))) (he : f (46 + 6 * k) = i) : ¬ rg_sp f i (n + 1) k left := fun z => z.2.elim (fun w => w.2.elim h hs) (fun w => w.1 he)
/-- splits at lot k -/
def rl_SP (f : Nat → Int64) (i u : Int64) (k : Nat) (left : Int64) : Prop := ¬ rg_sp f i (rnL f - k) k left → ¬ rg_sp f i (rnL f) 0 u
theorem rl_SP.init (f : Nat → Int64) (i u : Int64) : rl_SP f i u 0 u := fun h => h
theorem rl_SP.skip {f : Nat → Int64} {i u : Int64} {k : Nat} {left : Int64} (h : rl_SP f i u k left) (hk : k < rnL f) (hn : ¬ f (46 + 6 * k) = i) : rl_SP f i u (1 + k) left := fun z => h (by
  have e : rnL f - k = (rnL f - (1 + k)) + 1 := by omega
  rw [e]; exact rg_sp.skip hn z)
theorem rl_SP.next {f : Nat → Int64} {i u : Int64} {k : Nat} {left : Int64} (h : rl_SP f i u k left) (hk : k < rnL f) (hl : ¬ left < f (48 + 6 * k)) (hn : f (46 + 6 * k) = i) : rl_SP f i u (1 + k) (left - f (48 + 6 * k)) := fun z => h (by
  have e : rnL f - k = (rnL f - (1 + k)) + 1 := by omega
  rw [e]; exact rg_sp.next hl z hn)
theorem rl_SP.fin0 {f : Nat → Int64} {i u : Int64} {k : Nat} {left : Int64} (h : rl_SP f i u k left) (hk : rnL f ≤ k) : ¬ rg_sp f i (rnL f) 0 u := h (by
  rw [Nat.sub_eq_zero_of_le hk]; exact fun z => z)
theorem rl_SP.finL {f : Nat → Int64} {i u : Int64} {k : Nat} {left : Int64} (h : rl_SP f i u k left) (hl : left ≤ 0) : ¬ rg_sp f i (rnL f) 0 u := h (rg_sp.le hl)
/-- transfer at lot k -/
def rl_TR (B : Int) (f g : Nat → Int64) (i : Int64) (k : Nat) (left : Int64) : Prop := rl_I B g ∧ rl_P g ∧ rl_T g = rl_T f ∧ (∀ a : Nat, (a < 46 ∧ a ≠ 7 ∨ 286 ≤ a) → g a = f a) ∧ (∀ a : Nat, k ≤ a → a < rnL f → g (46 + 6 * a) = f (46 + 6 * a) ∧ g (48 + 6 * a) = f (48 + 6 * a)) ∧ ((f 7).toInt ≤ (g 7).toInt ∧ (0 < left.toInt → (g 7).toInt = (f 7).toInt)) ∧ ((f 7).toInt = 40 → ¬ rg_sp f i (rnL f - k) k left)
theorem rl_TR.init {B : Int} {f : Nat → Int64} (h : rl_I B f) (hp : rl_P f) {i left : Int64} (hs : (f 7).toInt = 40 → ¬ rg_sp f i (rnL f) 0 left) : rl_TR B f f i 0 left := ⟨h, hp, rfl, fun _ _ => rfl, fun _ _ _ => ⟨rfl, rfl⟩, ⟨Int.le_refl _, fun _ => rfl⟩, hs⟩
theorem rl_TR.skip {B : Int} {f g : Nat → Int64} {i : Int64} {k : Nat} {left : Int64} (h : rl_TR B f g i k left) (hk : k < rnL f) (hl : 0 < left.toInt) (hn : ¬ g (46 + 6 * k) = i) : rl_TR B f g i (1 + k) left := by
  obtain ⟨h1, h2, h3, h4, h5, h6, h7⟩ := h
  refine ⟨h1, h2, h3, h4, fun a ha hb => h5 a (by omega) hb, h6, fun z w => h7 z ?_⟩
  have e : rnL f - k = (rnL f - (1 + k)) + 1 := by omega
  rw [e]
  exact ⟨Int64.lt_iff_toInt_lt.mpr hl, Or.inr ⟨fun y => hn (by rw [(h5 k (Nat.le_refl _) hk).1]; exact y), w⟩⟩
theorem rl_TR.lt {B : Int} {f g : Nat → Int64} {i : Int64} {k : Nat} {left : Int64} (h : rl_TR B f g i k left) (hk : k < rnL f) (hl : 0 < left.toInt) (hn : g (46 + 6 * k) = i) (hu : left.toInt < (g (48 + 6 * k)).toInt) : (g 7).toInt < 40 := by
  obtain ⟨h1, h2, h3, h4, h5, h6, h7⟩ := h
  have e7 := h6.2 hl
  have b7 := h1.1.1.2.2.2.1
  have q := h5 k (Nat.le_refl _) hk
  by_cases z : (f 7).toInt = 40
  · exfalso
    refine h7 z ?_
    have e : rnL f - k = (rnL f - (1 + k)) + 1 := by omega
    rw [e]
    exact ⟨Int64.lt_iff_toInt_lt.mpr hl, Or.inl ⟨by rw [← q.1]; exact hn, Or.inl (by rw [← q.2]; exact Int64.lt_iff_toInt_lt.mpr hu)⟩⟩
  · omega
theorem rl_TR.own {B : Int} {f g : Nat → Int64} {i : Int64} {k : Nat} {left left2 o : Int64} (h : rl_TR B f g i k left) (hk : k < rnL f) (hl : 0 < left.toInt) (hn : g (46 + 6 * k) = i) (h2 : left2 = left - g (48 + 6 * k)) (hu : (g (48 + 6 * k)).toInt ≤ left.toInt) : rl_TR B f (vp_updL g (46 + 6 * k) o) i (1 + k) left2 := by
  obtain ⟨h1, hP, h3, h4, h5, h6, h7⟩ := h
  have b7 := h1.1.1.2.2.2.1
  have hk40 : k < 40 := by have := h6.1; unfold rnL at hk; omega
  have q := h5 k (Nat.le_refl _) hk
  have a0 : ∀ a : Nat, a ≠ 46 + 6 * k → vp_updL g (46 + 6 * k) o a = g a := fun a b => rl_ne b rfl
  have c := h1.own hP (g := vp_updL g (46 + 6 * k) o) hk40 a0
  refine ⟨c.1, c.2.1, c.2.2.trans h3, fun a ha => (a0 a (by omega)).trans (h4 a ha), fun a ha hb => ?_, ?_, fun z w => h7 z ?_⟩
  · rw [a0 _ (by omega), a0 _ (by omega)]; exact h5 a (by omega) hb
  · rw [a0 7 (by omega)]; exact ⟨h6.1, fun _ => h6.2 hl⟩
  · have e : rnL f - k = (rnL f - (1 + k)) + 1 := by omega
    rw [e]
    refine ⟨Int64.lt_iff_toInt_lt.mpr hl, Or.inl ⟨by rw [← q.1]; exact hn, Or.inr ?_⟩⟩
    rw [← q.2, ← h2]; exact w
theorem rl_TR.split {B : Int} {f g g2 : Nat → Int64} {i : Int64} {k : Nat} {left left2 : Int64} (h : rl_TR B f g i k left) (hk : k < rnL f) (hl : 0 < left.toInt) (h0 : left2.toInt ≤ 0) (c1 : rl_I B g2) (c2 : rl_P g2) (c3 : rl_T g2 = rl_T g) (c4 : ∀ i : Nat, i ≠ 7 → i ≠ 48 + 6 * k → i ≠ 50 + 6 * k → ¬ (46 + 6 * rnL g ≤ i ∧ i ≤ 51 + 6 * rnL g) → g2 i = g i) (c5 : (g2 7).toInt = (g 7).toInt + 1) : rl_TR B f g2 i (1 + k) left2 := by
  obtain ⟨h1, hP, h3, h4, h5, h6, h7⟩ := h
  have b7 := h1.1.1.2.2.2.1
  have b7' := c1.1.1.2.2.2.1
  have e7 := h6.2 hl
  have hL : rnL g = rnL f := by unfold rnL; rw [e7]
  have hL40 : rnL g < 40 := by unfold rnL; omega
  refine ⟨c1, c2, c3.trans h3, fun a ha => (c4 a (by omega) (by omega) (by omega) (by omega)).trans (h4 a ha), fun a ha hb => ?_, ⟨by omega, fun z => by omega⟩, fun _ => rg_sp.le (Int64.le_iff_toInt_le.mpr h0)⟩
  rw [c4 _ (by omega) (by omega) (by omega) (by omega), c4 _ (by omega) (by omega) (by omega) (by omega)]
  exact h5 a (by omega) hb
