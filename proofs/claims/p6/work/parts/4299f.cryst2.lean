/-- the lesser of two numbers -/
def rz_mn (a b : Int) : Int := if a ≤ b then a else b
theorem rz_mn_le (a b : Int) : rz_mn a b ≤ a ∧ rz_mn a b ≤ b ∧ (rz_mn a b = a ∨ rz_mn a b = b) := by
  unfold rz_mn
  split <;> omega
theorem rz_mn_l {a b : Int} (h : a ≤ b) : rz_mn a b = a := if_pos h
theorem rz_mn_r {a b : Int} (h : b < a) : rz_mn a b = b := if_neg (by omega)
/-- the row behind a series' fee -/
def rg_fee (f : Nat → Int64) (k : Nat) : Nat → Int64 := vp_updL (vp_updL f (18 + 5 * k) (f (18 + 5 * k) - rg_acc f k)) 10 (f 10 + rg_acc f k)
theorem rl_I.fee {B : Int} {f : Nat → Int64} (h : rl_I B f) (hB : B ≤ 43520000000) {k : Nat} (hk : k < rnS f) (hu : 1 ≤ (f (19 + 5 * k)).toInt) :
    rl_I B (rg_fee f k) ∧ rl_T (rg_fee f k) ≤ rl_T f ∧ (∀ i : Nat, i ≠ 10 → i ≠ 18 + 5 * k → rg_fee f k i = f i) ∧ (0 ≤ (rg_gross (rg_fee f k) k).toInt ∧ (rg_gross (rg_fee f k) k).toInt ≤ 2176000000000000) ∧ (0 < (rg_gross f k).toInt → 0 < (rg_gross (rg_fee f k) k).toInt) ∧ ((f (20 + 5 * k)).toInt < (rg_gross f k).toInt → 1000000 ≤ (rg_gross (rg_fee f k) k).toInt) ∧ (0 < (rg_acc f k).toInt → 1000000 ≤ (rg_gross (rg_fee f k) k).toInt ∧ (rg_gross (rg_fee f k) k).toInt * (f (19 + 5 * k)).toInt ≤ 2176000000000000) ∧ rz_mn (rg_gross f k).toInt (f (20 + 5 * k)).toInt * (rg_fee f k (19 + 5 * k)).toInt ≤ 100000 * (rg_fee f k (18 + 5 * k)).toInt ∧ 0 ≤ rz_mn (rg_gross f k).toInt (f (20 + 5 * k)).toInt := by
  have hk6 : k < 6 := by have := h.1.1.2.2.1; unfold rnS at hk; omega
  have hB2 : B ≤ 43920000000 := by omega
  have ha := h.acc hB2 hk
  have hg := h.gross hB2 hk (by omega)
  have hA := h.abound hk
  have hs := h.2.1 k hk
  have e18 : rg_fee f k (18 + 5 * k) = f (18 + 5 * k) - rg_acc f k := by unfold rg_fee; rw [rl_ne (by omega) (rl_eq rfl)]
  have eo : ∀ i : Nat, i ≠ 10 → i ≠ 18 + 5 * k → rg_fee f k i = f i := fun i a b => by unfold rg_fee; rw [rl_ne a (rl_ne b rfl)]
  have t18 : (rg_fee f k (18 + 5 * k)).toInt = (f (18 + 5 * k)).toInt - (rg_acc f k).toInt := by rw [e18]; exact rz_sub (by omega) (by omega)
  have c := h.chgA (B1 := B) (g := rg_fee f k) hk (fun i _ b d => eo i (by omega) d) (by rw [t18]; omega) (fun z z2 => by rw [t18]; have := hs.2.2.2.1 z z2; omega) (by rw [t18]; have := h.2.2.2.2.2.2.2; omega)
  have e19 := eo (19 + 5 * k) (by omega) (by omega)
  have e20 := eo (20 + 5 * k) (by omega) (by omega)
  have hk1 : k < rnS (rg_fee f k) := by unfold rnS; rw [eo 6 (by decide) (by omega)]; exact hk
  have hp := c.1.gross hB2 hk1 (by rw [e19]; omega)
  have mnp := rz_mn_le (rg_gross f k).toInt (f (20 + 5 * k)).toInt
  have hm0 := hs.2.1.1
  generalize hpe : (rg_gross (rg_fee f k) k).toInt = P at *
  generalize hge : (rg_gross f k).toInt = G at *
  rw [e19, t18] at hp
  generalize hUe : (f (19 + 5 * k)).toInt = U at *
  generalize hAe : (f (18 + 5 * k)).toInt = A at *
  generalize hFe : (rg_acc f k).toInt = F at *
  generalize hMe : (f (20 + 5 * k)).toInt = M at *
  generalize hme : rz_mn G M = mn at *
  have pu : P * 1 ≤ P * U := Int.mul_le_mul_of_nonneg_left hu hp.2.1
  have fp : 0 < F → M ≤ P := fun z => by
    have q := ha.2.2 z
    rw [hp.1]
    exact (Int.le_ediv_iff_mul_le (by omega)).mpr (by omega)
  have fz : F = 0 → P = G := fun z => by rw [hp.1, hg.1, z, Int.sub_zero]
  have mn0 : 0 ≤ mn := by rcases mnp.2.2 with w | w <;> rw [w] <;> omega
  refine ⟨c.1, by rw [c.2, t18]; omega, eo, ⟨hp.2.1, by omega⟩, fun z => ?_, fun z => ?_, fun z => ⟨by have := fp z; omega, by omega⟩, ?_, mn0⟩
  · by_cases w : F = 0
    · rw [fz w]; exact z
    · have := fp (by omega); omega
  · by_cases w : F = 0
    · rw [fz w]; omega
    · have := fp (by omega); omega
  · rw [e19, hUe, t18]
    by_cases w : F = 0
    · have q : mn * U ≤ G * U := Int.mul_le_mul_of_nonneg_right mnp.1 (by omega)
      have := hg.2.2
      omega
    · have q : mn * U ≤ M * U := Int.mul_le_mul_of_nonneg_right mnp.2.1 (by omega)
      have := ha.2.2 (by omega)
      omega
/-- crystallizeOne behind its lots -/
theorem rl_CO.fin {B : Int} {f g g2 : Nat → Int64} {k x : Nat} {mn : Int} {P : Int64} (h : rl_CO B (rg_fee f k) g k mn x) (hk6 : k < 6) (hk : k < rnS f) (hx : x ≤ 40) (hT : rl_T (rg_fee f k) ≤ rl_T f) (e : ∀ i : Nat, i ≠ 10 → i ≠ 18 + 5 * k → rg_fee f k i = f i)
    (q : g2 = g ∨ g2 = vp_updL g (20 + 5 * k) P ∧ 1000000 ≤ P.toInt ∧ P.toInt ≤ 2176000000000000 ∧ P.toInt * (f (19 + 5 * k)).toInt ≤ 2176000000000000) : rl_I B g2 ∧ rl_T g2 ≤ rl_T f ∧ (∀ i : Nat, (i < 10 ∨ 286 ≤ i) → g2 i = f i) ∧ ∀ a : Nat, a < 6 → a ≠ k → g2 (19 + 5 * a) = f (19 + 5 * a) := by
  obtain ⟨h1, h2, h3, h4, h5, h6⟩ := h
  have fr : ∀ i : Nat, (i < 10 ∨ 286 ≤ i) → g i = f i := fun i hi => (h3 i (by omega) (by omega) (by omega) (by omega)).trans (e i (by omega) (by omega))
  have fu : ∀ a : Nat, a < 6 → a ≠ k → g (19 + 5 * a) = f (19 + 5 * a) := fun a ha hn => (h3 _ (by omega) (by omega) (by omega) (by omega)).trans (e _ (by omega) (by omega))
  rcases q with q | ⟨q, q1, q2, q3⟩
  · rw [q]; exact ⟨h1, Int.le_trans h2 hT, fr, fu⟩
  · have a0 : ∀ i : Nat, i ≠ 20 + 5 * k → g2 i = g i := fun i hi => by rw [q]; exact rl_ne hi rfl
    have a20 : g2 (20 + 5 * k) = P := by rw [q]; exact rl_eq rfl
    have hkg : k < rnS g := by unfold rnS; rw [fr 6 (by decide)]; exact hk
    have c := h1.setM (g := g2) hkg a0 (by rw [a20]; exact ⟨q1, q2⟩) (fun z => by
      rw [a20, h4 (by rw [e 1 (by decide) (by omega), ← fr 1 (by decide)]; exact z), e (19 + 5 * k) (by omega) (by omega)]; exact q3)
    exact ⟨c.1, by rw [c.2]; exact Int.le_trans h2 hT, fun i hi => (a0 i (by omega)).trans (fr i hi), fun a ha hn => (a0 _ (by omega)).trans (fu a ha hn)⟩
/-- crystallizeAll at series k: those from there on have units -/
def rl_CA (B : Int) (f g : Nat → Int64) (k : Nat) : Prop := rl_I B g ∧ rl_T g ≤ rl_T f ∧ (∀ i : Nat, (i < 10 ∨ 286 ≤ i) → g i = f i) ∧ ∀ a : Nat, k ≤ a → a < rnS g → 1 ≤ (g (19 + 5 * a)).toInt
theorem rl_CA.init {B : Int} {f : Nat → Int64} (h : rl_I B f) (hp : rl_P f) : rl_CA B f f 0 := ⟨h, Int.le_refl _, fun _ _ => rfl, fun a _ ha => hp.2 a ha⟩
theorem rl_CA.step {B : Int} {f g g2 : Nat → Int64} {k : Nat} (h : rl_CA B f g k) (h1 : rl_I B g2) (h2 : rl_T g2 ≤ rl_T g) (h3 : ∀ i : Nat, (i < 10 ∨ 286 ≤ i) → g2 i = g i) (h4 : ∀ a : Nat, a < 6 → a ≠ k → g2 (19 + 5 * a) = g (19 + 5 * a)) : rl_CA B f g2 (1 + k) := by
  obtain ⟨a1, a2, a3, a4⟩ := h
  have e6 := h3 6 (Or.inl (by decide))
  have b6 := a1.1.1.2.2.1
  refine ⟨h1, Int.le_trans h2 a2, fun i hi => (h3 i hi).trans (a3 i hi), fun a ha hb => ?_⟩
  unfold rnS at hb
  rw [e6] at hb
  rw [h4 a (by omega) (by omega)]
  exact a4 a (by omega) (by unfold rnS; exact hb)
/-- what equalizing lot x of series k needs -/
theorem rl_CO.eq {B : Int} {f g : Nat → Int64} {k x : Nat} (h : rl_CO B (rg_fee f k) g k (rz_mn (rg_gross f k).toInt (f (20 + 5 * k)).toInt) x) (hF : rl_I B (rg_fee f k)) (e : ∀ i : Nat, i ≠ 10 → i ≠ 18 + 5 * k → rg_fee f k i = f i) (hk : k < rnS f) (hx : x < rnL g) (hn : g (47 + 6 * x) = g (16 + 5 * k)) : k < rnS g ∧ g (20 + 5 * k) = f (20 + 5 * k) ∧ ((g 1).toInt = 1 → rz_mn (rg_gross f k).toInt (f (20 + 5 * k)).toInt * (g (48 + 6 * x)).toInt ≤ 100000 * (g (18 + 5 * k)).toInt) := by
  have hk6 : k < 6 := by have := hF.1.1.2.2.1; rw [e 6 (by decide) (by omega)] at this; unfold rnS at hk; omega
  have fr : ∀ i : Nat, i < 10 → g i = f i := fun i hi => (h.2.2.1 i (by omega) (by omega) (by omega) (by omega)).trans (e i (by omega) (by omega))
  have e1 : rg_fee f k 1 = f 1 := e 1 (by decide) (by omega)
  refine ⟨by unfold rnS; rw [fr 6 (by decide)]; exact hk, (h.2.2.1 (20 + 5 * k) (by omega) (by omega) (by omega) (by omega)).trans (e _ (by omega) (by omega)), fun z => ?_⟩
  refine h.bears hF (by unfold rnS; rw [e 6 (by decide) (by omega)]; exact hk) (by unfold rnL at hx ⊢; rw [e 7 (by decide) (by omega), ← fr 7 (by decide)]; exact hx) hn (by rw [e1, ← fr 1 (by decide)]; exact z)
