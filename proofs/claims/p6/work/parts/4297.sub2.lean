theorem rz_pos {x : Int64} (h : ¬ x ≤ 0) : 0 < x.toInt := by
  have h2 := Int64.lt_iff_toInt_lt.mp (Int64.not_le.mp h)
  have h3 : (0 : Int64).toInt = 0 := by decide
  omega
/-- what a unit is worth, where there is one -/
theorem rl_I.grossb {B : Int} {f : Nat → Int64} (h : rl_I B f) (hB : B ≤ 43920000000) (hP : rl_P f) {k : Nat} (hk : k < rnS f) : 0 ≤ (rg_gross f k).toInt ∧ (rg_gross f k).toInt ≤ 2199023255552000 := by
  have hU := hP.2 k hk
  have q := h.gross hB hk (by omega)
  have hA := h.abound hk
  refine ⟨q.2.1, ?_⟩
  have h2 : (rg_gross f k).toInt * 1 ≤ (rg_gross f k).toInt * (f (19 + 5 * k)).toInt := Int.mul_le_mul_of_nonneg_left hU q.2.1
  have := q.2.2
  omega
/-- a subscription at price p goes into series k -/
theorem rl_subA {B B1 : Int} {f : Nat → Int64} (h : rl_I B f) (hB : B ≤ 43920000000) {k m : Nat} (hk : k < rnS f) (hm : (f 7).toInt = (m : Int)) (hl : m < 40) {own pr cr day am pd : Int64}
    (ha : 0 ≤ am.toInt ∧ am.toInt ≤ 10000000) (hp : 0 ≤ pr.toInt ∧ pr.toInt ≤ 2199023255552000) (hz : ¬ pr = 0) (h1 : 1 ≤ (am * 100000 / pr).toInt) (h2 : (am * 100000 / pr).toInt ≤ 10000000)
    (hcr : cr = 0 ∨ (f 1).toInt ≠ 0 ∧ ¬ pr - f (20 + 5 * k) ≤ 0 ∧ cr = am * 100000 / pr * (pr - f (20 + 5 * k)) * f 3 / 100 / 100000)
    (h0 : (f 1).toInt = 0 → (f (20 + 5 * k)).toInt = 1000000 ∧ (f (18 + 5 * k)).toInt ≤ 110000000 ∧ (f (19 + 5 * k)).toInt ≤ 110000000)
    (hB1 : rl_T f + 3 * am.toInt ≤ B1) (hPL : ∀ j : Nat, j < rnL f → 1 ≤ (f (48 + 6 * j)).toInt) (hPS : ∀ a : Nat, a < rnS f → a ≠ k → 1 ≤ (f (19 + 5 * a)).toInt) {g : Nat → Int64}
    (hg : g = vp_updL (vp_updL (vp_updL (vp_updL (vp_updL (vp_updL (vp_updL (vp_updL (vp_updL (vp_updL f (46 + 6 * m) own) (47 + 6 * m) (f (16 + 5 * k))) (48 + 6 * m) (am * 100000 / pr)) (49 + 6 * m) pr) (50 + 6 * m) cr) (51 + 6 * m) day) 7 (f 7 + 1)) (18 + 5 * k) (f (18 + 5 * k) + am)) (19 + 5 * k) (f (19 + 5 * k) + (am * 100000 / pr))) 12 pd) :
    rl_I B1 g ∧ rl_P g ∧ rl_T g ≤ rl_T f + 3 * am.toInt ∧ (∀ i : Nat, i ≠ 7 → i ≠ 12 → ¬ (18 + 5 * k ≤ i ∧ i ≤ 19 + 5 * k) → (i < 46 ∨ 286 ≤ i) → g i = f i) ∧ (g (18 + 5 * k)).toInt ≤ (f (18 + 5 * k)).toInt + 10000000 ∧ (g (19 + 5 * k)).toInt ≤ (f (19 + 5 * k)).toInt + 10000000 := by
  have hs := (h.2.1 k hk).2.1.1
  have hu := rz_units ha hp.1 hz
  have z0 : (0 : Int64).toInt = 0 := by decide
  have hc : 0 ≤ cr.toInt ∧ 2 * cr.toInt ≤ am.toInt := by
    rcases hcr with e | ⟨-, e1, e2⟩
    · rw [e, z0]; omega
    · rw [e2]; exact rz_cred (by omega) h2 hp.1 hu.2.2 ha.2 (by omega) rfl (rz_pos e1) (by omega) h.1.2.2.1
  have q := rl_subw h hB hk hm hl ha ⟨h1, h2⟩ hp hc (fun z => by rcases hcr with e | e; exact e; exact absurd z e.1) h0 hB1 hPL hPS hg
  exact ⟨q.1, q.2.1, q.2.2.1, q.2.2.2.1, by have := q.2.2.2.2.1; omega, by have := q.2.2.2.2.2; omega⟩
/-- a subscription opens a series -/
theorem rl_subO {B B1 : Int} {f g1 : Nat → Int64} (hP : rl_P f) (hB : B ≤ 43920000000) {n m : Nat} (en : (f 6).toInt = (n : Int)) (h6 : n < 6) (hi : rl_I B g1) (q0 : rl_T g1 = rl_T f)
    (q1 : ∀ i : Nat, i ≠ 6 → i ≠ 9 → ¬ (16 + 5 * n ≤ i ∧ i ≤ 20 + 5 * n) → g1 i = f i) (q2 : (g1 6).toInt = (f 6).toInt + 1 ∧ (g1 9).toInt = (f 9).toInt + 1) (q3 : (g1 (18 + 5 * n)).toInt = 0) (q4 : (g1 (19 + 5 * n)).toInt = 0) (q5 : (g1 (20 + 5 * n)).toInt = 1000000)
    (q6 : ∀ k : Nat, k < n → rl_P f → 1 ≤ (g1 (19 + 5 * k)).toInt) (q7 : rl_P f → ∀ j : Nat, j < rnL g1 → 1 ≤ (g1 (48 + 6 * j)).toInt)
    (hm : (g1 7).toInt = (m : Int)) (hl : m < 40) {own cr day am pd : Int64} (ha : 0 ≤ am.toInt ∧ am.toInt ≤ 10000000) (h1 : 1 ≤ (am * 100000 / 1000000).toInt) (h2 : (am * 100000 / 1000000).toInt ≤ 10000000)
    (hcr : cr = 0 ∨ (g1 1).toInt ≠ 0 ∧ ¬ 1000000 - g1 (20 + 5 * n) ≤ 0 ∧ cr = am * 100000 / 1000000 * (1000000 - g1 (20 + 5 * n)) * g1 3 / 100 / 100000) (hB1 : rl_T f + 3 * am.toInt ≤ B1) {g : Nat → Int64}
    (hg : g = vp_updL (vp_updL (vp_updL (vp_updL (vp_updL (vp_updL (vp_updL (vp_updL (vp_updL (vp_updL g1 (46 + 6 * m) own) (47 + 6 * m) (g1 (16 + 5 * n))) (48 + 6 * m) (am * 100000 / 1000000)) (49 + 6 * m) 1000000) (50 + 6 * m) cr) (51 + 6 * m) day) 7 (g1 7 + 1)) (18 + 5 * n) (g1 (18 + 5 * n) + am)) (19 + 5 * n) (g1 (19 + 5 * n) + (am * 100000 / 1000000))) 12 pd) :
    rl_I B1 g ∧ rl_P g ∧ rl_T g ≤ rl_T f + 3 * am.toInt ∧ (∀ i : Nat, i ≠ 6 → i ≠ 7 → i ≠ 9 → i ≠ 12 → ¬ (16 + 5 * n ≤ i ∧ i ≤ 20 + 5 * n) → (i < 46 ∨ 286 ≤ i) → g i = f i) ∧ ((g 6).toInt = (f 6).toInt + 1 ∧ (g 9).toInt = (f 9).toInt + 1) ∧ (g (20 + 5 * n)).toInt = 1000000 ∧ (g (18 + 5 * n)).toInt ≤ 10000000 ∧ (g (19 + 5 * n)).toInt ≤ 10000000 := by
  have zm : (1000000 : Int64).toInt = 1000000 := by decide
  have hk : n < rnS g1 := by unfold rnS; omega
  have q := rl_subA hi hB hk hm hl (pr := 1000000) ha (by rw [zm]; omega) (by decide) h1 h2 hcr (fun _ => ⟨q5, by omega, by omega⟩) (by rw [q0]; exact hB1) (q7 hP) (fun a ha hn => q6 a (by unfold rnS at ha; omega) hP) hg
  refine ⟨q.1, q.2.1, by have := q.2.2.1; omega, fun i a b c d e w => (q.2.2.2.1 i b d (by omega) w).trans (q1 i a c e), ⟨by rw [q.2.2.2.1 6 (by decide) (by decide) (by omega) (by omega)]; exact q2.1, by rw [q.2.2.2.1 9 (by decide) (by decide) (by omega) (by omega)]; exact q2.2⟩, by rw [q.2.2.2.1 (20 + 5 * n) (by omega) (by omega) (by omega) (by omega)]; exact q5, by have := q.2.2.2.2.1; omega, by have := q.2.2.2.2.2; omega⟩
