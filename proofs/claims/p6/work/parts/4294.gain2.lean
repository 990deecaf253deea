theorem rl_PU {f : Nat → Int64} (hp : rl_P f) {k : Nat} (hk : k < rnS f) : ¬ f (19 + 5 * k) = 0 := fun z => by
  have h1 := hp.2 k hk
  rw [z] at h1
  exact absurd h1 (by decide)
/-- where no series has more than ten million euros -/
theorem rl_I.cap {B : Int} {f : Nat → Int64} (h : rl_I B f) (ha : ∀ a : Nat, a < rnS f → (f (18 + 5 * a)).toInt ≤ 1000000000) : rl_T f ≤ 12760000000 := by
  have h6 := h.1.1.2.2.1
  have h7 := h.1.1.2.2.2.1
  have h8 := h.1.1.2.2.2.2
  have t1 := rsum_cst (g := fun k => (f (18 + 5 * k)).toInt) (c := 1000000000) (n := rnS f) ha
  have t2 := rsum_cst (g := fun j => (f (50 + 6 * j)).toInt) (c := 5000000) (n := rnL f) (fun i hi => (h.2.2.2.1 i hi).2.2.1.2)
  have t3 := rsum_cst (g := fun r => if (f (287 + 4 * r)).toInt = 0 then (f (288 + 4 * r)).toInt else 0) (c := 10000000) (n := rnR f) (fun i hi => by
    show (if (f (287 + 4 * i)).toInt = 0 then (f (288 + 4 * i)).toInt else 0) ≤ 10000000
    split
    · rename_i z; exact ((h.2.2.2.2.2.2.1 i hi).2 z).2
    · decide)
  have n6 : (rnS f : Int) ≤ 6 := by unfold rnS; omega
  have n7 : (rnL f : Int) ≤ 40 := by unfold rnL; omega
  have n8 : (rnR f : Int) ≤ 12 := by unfold rnR; omega
  unfold rl_T
  omega
/-- earning, at series k -/
def rl_W (B : Int) (f g : Nat → Int64) (p : Int) (k : Nat) : Prop := rl_I B g ∧ rl_P g ∧ (∀ i : Nat, (i < 10 ∨ 46 ≤ i) → g i = f i) ∧ (∀ a : Nat, k ≤ a → a < 6 → g (18 + 5 * a) = f (18 + 5 * a)) ∧ (p ≤ 0 → rl_T g ≤ rl_T f) ∧ (0 < p → ∀ a : Nat, a < rnS g → (g (18 + 5 * a)).toInt ≤ 1000000000)
def rl_TM (f : Nat → Int64) (p : Int) (k : Nat) : Prop := ∀ a : Nat, a < k → ∀ r : Int64, r.toInt = p → (f (18 + 5 * a) + f (18 + 5 * a) * r / 10000).toInt ≤ 1000000000
theorem rl_W.init {B : Int} {f : Nat → Int64} (h : rl_I B f) (hp : rl_P f) (hB : B ≤ 43920000000) {p : Int32} (hq : -9000 ≤ p.toInt ∧ p.toInt ≤ 9999) (hG : 0 < p.toInt → rl_TM f p.toInt (rnS f)) : rl_W B f f p.toInt 0 := by
  refine ⟨h, hp, fun _ _ => rfl, fun _ _ _ => rfl, fun _ => Int.le_refl _, fun z a ha => ?_⟩
  have hr : (p.toInt64).toInt = p.toInt := Int32.toInt_toInt64 p
  have h1 := hG z a ha p.toInt64 hr
  have hA := h.abound ha
  have h2 := (rz_rate (a := f (18 + 5 * a)) (r := p.toInt64) (h.2.1 a ha).1.1 (by omega) (by rw [hr]; exact hq)).2.2.2 (by rw [hr]; omega)
  omega
theorem rl_W.step {B : Int} {f g : Nat → Int64} {p : Int} {k : Nat} (h : rl_W B f g p k) (hB : B ≤ 43920000000) (hB0 : 12760000000 ≤ B) (hq : -9000 ≤ p ∧ p ≤ 9999) (hG : 0 < p → rl_TM f p (rnS f)) (hk : k < rnS g) {r : Int64} (hr : r.toInt = p) : rl_W B f (vp_updL g (18 + 5 * k) (g (18 + 5 * k) + g (18 + 5 * k) * r / 10000)) p (1 + k) := by
  obtain ⟨h1, h2, h3, h4, h5, h6⟩ := h
  have hk6 : k < 6 := by have := h1.1.1.2.2.1; unfold rnS at hk; omega
  have hA := h1.abound hk
  have hs := h1.2.1 k hk
  have hb := h1.2.2.2.2.2.2.2
  have hz := rz_rate (a := g (18 + 5 * k)) (r := r) hs.1.1 (by omega) (by rw [hr]; exact hq)
  rw [hr] at hz
  have eS : rnS g = rnS f := by unfold rnS; rw [h3 6 (by omega)]
  have hG1 : 0 < p → (g (18 + 5 * k) + g (18 + 5 * k) * r / 10000).toInt ≤ 1000000000 := fun z => by
    rw [h4 k (Nat.le_refl _) hk6]; exact hG z k (by rw [← eS]; exact hk) r hr
  have ev : (vp_updL g (18 + 5 * k) (g (18 + 5 * k) + g (18 + 5 * k) * r / 10000)) (18 + 5 * k) = g (18 + 5 * k) + g (18 + 5 * k) * r / 10000 := rl_eq rfl
  obtain ⟨q1, q2⟩ := h1.chgA (g := vp_updL g (18 + 5 * k) (g (18 + 5 * k) + g (18 + 5 * k) * r / 10000)) (B1 := rl_T g - 2 * (g (18 + 5 * k)).toInt + 2 * (g (18 + 5 * k) + g (18 + 5 * k) * r / 10000).toInt) hk (fun i _ _ c => rl_ne c rfl) (by rw [ev]; exact hz.1) (fun z z2 => by
    rw [ev]
    by_cases hp0 : p ≤ 0
    · have := hz.2.2.1 hp0; have := hs.2.2.2.1 z z2; omega
    · exact hG1 (by omega)) (by rw [ev]; omega)
  rw [ev] at q2
  have eS2 : rnS (vp_updL g (18 + 5 * k) (g (18 + 5 * k) + g (18 + 5 * k) * r / 10000)) = rnS g := by unfold rnS; rw [rl_ne (by omega) rfl]
  have h6' : 0 < p → ∀ a : Nat, a < rnS (vp_updL g (18 + 5 * k) (g (18 + 5 * k) + g (18 + 5 * k) * r / 10000)) → ((vp_updL g (18 + 5 * k) (g (18 + 5 * k) + g (18 + 5 * k) * r / 10000)) (18 + 5 * a)).toInt ≤ 1000000000 := fun z a ha => by
    rw [eS2] at ha
    by_cases hak : a = k
    · subst hak; rw [ev]; exact hG1 z
    · rw [rl_ne (by omega) rfl]; exact h6 z a ha
  have hTB : rl_T (vp_updL g (18 + 5 * k) (g (18 + 5 * k) + g (18 + 5 * k) * r / 10000)) ≤ B := by
    by_cases hp0 : p ≤ 0
    · have := hz.2.2.1 hp0; rw [q2]; omega
    · have := q1.cap (h6' (by omega)); omega
  refine ⟨q1.up hTB, h2.of (rl_ne (by omega) rfl) (rl_ne (by omega) rfl) (fun i hi => rl_ne (by omega) rfl) (fun a _ => rl_ne (by omega) rfl), fun i hi => ?_, fun a ha hb6 => ?_, fun z => ?_, h6'⟩
  · rw [rl_ne (by omega) rfl]; exact h3 i hi
  · rw [rl_ne (by omega) rfl]; exact h4 a (by omega) hb6
  · have := hz.2.2.1 z; have := h5 z; rw [q2]; omega
theorem rl_W.fin {B : Int} {f g : Nat → Int64} {p : Int} {k : Nat} (h : rl_W B f g p k) (v : Int64) : rl_I B (vp_updL g 14 v) ∧ rl_P (vp_updL g 14 v) ∧ (p ≤ 0 → rl_T (vp_updL g 14 v) ≤ rl_T f) ∧ (0 < p → rl_T (vp_updL g 14 v) ≤ 12760000000) ∧ ∀ i : Nat, (i < 10 ∨ 46 ≤ i) → vp_updL g 14 v i = f i := by
  obtain ⟨h1, h2, h3, h4, h5, h6⟩ := h
  obtain ⟨q1, q2⟩ := h1.hdr (g := vp_updL g 14 v) (fun i a b c => rl_ne (by omega) rfl) (by rw [rl_ne (by omega) rfl]; exact h1.1.2.2.2.1)
  refine ⟨q1, h2.of (rl_ne (by omega) rfl) (rl_ne (by omega) rfl) (fun i hi => rl_ne (by omega) rfl) (fun a _ => rl_ne (by omega) rfl), fun z => by rw [q2]; exact h5 z, fun z => by rw [q2]; exact h1.cap (h6 z), fun i hi => ?_⟩
  rw [rl_ne (by omega) rfl]; exact h3 i hi
theorem rl_TM.next {f : Nat → Int64} {p : Int} {k : Nat} (h : rl_TM f p k) {r : Int64} (hr : r.toInt = p) (hv : (f (18 + 5 * k) + f (18 + 5 * k) * r / 10000).toInt ≤ 1000000000) : rl_TM f p (1 + k) := by
  intro a ha r2 hr2
  by_cases hak : a = k
  · subst hak
    have : r2 = r := Int64.toInt_inj.mp (hr2.trans hr.symm)
    rw [this]; exact hv
  · exact h a (by omega) r2 hr2
