/-- what a subscription is worth, in units and in credit: the numbers -/
theorem rz_cred {u a m fee am p : Int64} (hu0 : 0 ≤ u.toInt) (hu1 : u.toInt ≤ 10000000) (hp0 : 0 ≤ p.toInt) (hup : u.toInt * p.toInt ≤ am.toInt * 100000) (ham : am.toInt ≤ 10000000) (hm : 0 ≤ m.toInt) (ha : a = p - m) (ha0 : 0 < a.toInt) (hp1 : p.toInt ≤ 4611686018427387904) (hf : 0 ≤ fee.toInt ∧ fee.toInt ≤ 50) :
    0 ≤ (u * a * fee / 100 / 100000).toInt ∧ 2 * (u * a * fee / 100 / 100000).toInt ≤ am.toInt := by
  have e0 : a.toInt = p.toInt - m.toInt := by
    rw [ha]; refine rz_sub ?_ ?_
    · have := Int64.toInt_lt m; omega
    · omega
  have e1 : u.toInt * a.toInt ≤ u.toInt * p.toInt := Int.mul_le_mul_of_nonneg_left (by omega) hu0
  have e1n : 0 ≤ u.toInt * a.toInt := Int.mul_nonneg hu0 (by omega)
  have m1 : (u * a).toInt = u.toInt * a.toInt := rz_mul (by omega) (by omega)
  have e2 : u.toInt * a.toInt * fee.toInt ≤ u.toInt * a.toInt * 50 := Int.mul_le_mul_of_nonneg_left hf.2 e1n
  have e2n : 0 ≤ u.toInt * a.toInt * fee.toInt := Int.mul_nonneg e1n hf.1
  have m2 : (u * a * fee).toInt = u.toInt * a.toInt * fee.toInt := by
    rw [rz_mul (by rw [m1]; omega) (by rw [m1]; omega), m1]
  have m3 : (u * a * fee / 100).toInt = u.toInt * a.toInt * fee.toInt / 100 := by
    rw [rz_div (by omega) (by rw [rz_lit2]; omega), m2, rz_lit2]
  have m4 : (u * a * fee / 100 / 100000).toInt = u.toInt * a.toInt * fee.toInt / 100 / 100000 := by
    rw [rz_div (by rw [m3]; omega) (by rw [rz_lit5]; omega), m3, rz_lit5]
  rw [m4]
  omega
/-- the units that an amount buys -/
theorem rz_units {am p : Int64} (ha : 0 ≤ am.toInt ∧ am.toInt ≤ 10000000) (hp : 0 ≤ p.toInt) (hz : ¬ p = 0) : (am * 100000 / p).toInt = am.toInt * 100000 / p.toInt ∧ 0 ≤ (am * 100000 / p).toInt ∧ (am * 100000 / p).toInt * p.toInt ≤ am.toInt * 100000 := by
  have hp1 : 0 < p.toInt := by have := rz_ne0 hz; omega
  have m1 : (am * 100000).toInt = am.toInt * 100000 := by rw [rz_mul (by rw [rz_lit5]; omega) (by rw [rz_lit5]; omega), rz_lit5]
  have m2 : (am * 100000 / p).toInt = am.toInt * 100000 / p.toInt := by rw [rz_div (by omega) hp1, m1]
  rw [m2]
  exact ⟨rfl, Int.ediv_nonneg (by omega) hp, Int.ediv_mul_le _ (by omega)⟩
/-- a subscription goes into series k: the row as the reference writes it -/
theorem rl_subw {B B1 : Int} {f : Nat → Int64} (h : rl_I B f) (hB : B ≤ 43920000000) {k m : Nat} (hk : k < rnS f) (hm : (f 7).toInt = (m : Int)) (hl : m < 40) {own un pr cr day am pd : Int64}
    (ha : 0 ≤ am.toInt ∧ am.toInt ≤ 10000000) (hu : 1 ≤ un.toInt ∧ un.toInt ≤ 10000000) (hp : 0 ≤ pr.toInt ∧ pr.toInt ≤ 2199023255552000) (hc : 0 ≤ cr.toInt ∧ 2 * cr.toInt ≤ am.toInt) (hc0 : (f 1).toInt = 0 → cr = 0)
    (h0 : (f 1).toInt = 0 → (f (20 + 5 * k)).toInt = 1000000 ∧ (f (18 + 5 * k)).toInt ≤ 110000000 ∧ (f (19 + 5 * k)).toInt ≤ 110000000)
    (hB1 : rl_T f + 3 * am.toInt ≤ B1) (hPL : ∀ j : Nat, j < rnL f → 1 ≤ (f (48 + 6 * j)).toInt) (hPS : ∀ a : Nat, a < rnS f → a ≠ k → 1 ≤ (f (19 + 5 * a)).toInt) {g : Nat → Int64}
    (hg : g = vp_updL (vp_updL (vp_updL (vp_updL (vp_updL (vp_updL (vp_updL (vp_updL (vp_updL (vp_updL f (46 + 6 * m) own) (47 + 6 * m) (f (16 + 5 * k))) (48 + 6 * m) un) (49 + 6 * m) pr) (50 + 6 * m) cr) (51 + 6 * m) day) 7 (f 7 + 1)) (18 + 5 * k) (f (18 + 5 * k) + am)) (19 + 5 * k) (f (19 + 5 * k) + un)) 12 pd) :
    rl_I B1 g ∧ rl_P g ∧ rl_T g ≤ rl_T f + 3 * am.toInt ∧ (∀ i : Nat, i ≠ 7 → i ≠ 12 → ¬ (18 + 5 * k ≤ i ∧ i ≤ 19 + 5 * k) → (i < 46 ∨ 286 ≤ i) → g i = f i) ∧ (g (18 + 5 * k)).toInt = (f (18 + 5 * k)).toInt + am.toInt ∧ (g (19 + 5 * k)).toInt = (f (19 + 5 * k)).toInt + un.toInt := by
  have hnL : rnL f = m := by unfold rnL; omega
  have hk6 : k < 6 := by have := h.1.1.2.2.1; unfold rnS at hk; omega
  have hA := h.abound hk
  have hU := (h.ubound hk).1
  have hs := h.2.1 k hk
  have hs1 := hs.1.1
  have hs2 := hs.1.2
  have eo : ∀ i : Nat, i ≠ 7 → i ≠ 12 → ¬ (18 + 5 * k ≤ i ∧ i ≤ 19 + 5 * k) → ¬ (46 + 6 * m ≤ i ∧ i ≤ 51 + 6 * m) → g i = f i := fun i x y z w => by
    rw [hg, rl_ne y rfl, rl_ne (by omega) rfl, rl_ne (by omega) rfl, rl_ne x rfl, rl_ne (by omega) rfl, rl_ne (by omega) rfl, rl_ne (by omega) rfl, rl_ne (by omega) rfl, rl_ne (by omega) rfl, rl_ne (by omega) rfl]
  have e7 : (g 7).toInt = (f 7).toInt + 1 := by rw [hg, rl_ne (by omega) rfl, rl_ne (by omega) rfl, rl_ne (by omega) rfl, rl_eq rfl]; exact rz_i1 (by omega)
  have d1 : g (47 + 6 * m) = f (16 + 5 * k) := by rw [hg, rl_ne (by omega) rfl, rl_ne (by omega) rfl, rl_ne (by omega) rfl, rl_ne (by omega) rfl, rl_ne (by omega) rfl, rl_ne (by omega) rfl, rl_ne (by omega) rfl, rl_ne (by omega) rfl, rl_eq rfl]
  have d2 : g (48 + 6 * m) = un := by rw [hg, rl_ne (by omega) rfl, rl_ne (by omega) rfl, rl_ne (by omega) rfl, rl_ne (by omega) rfl, rl_ne (by omega) rfl, rl_ne (by omega) rfl, rl_ne (by omega) rfl, rl_eq rfl]
  have d3 : g (49 + 6 * m) = pr := by rw [hg, rl_ne (by omega) rfl, rl_ne (by omega) rfl, rl_ne (by omega) rfl, rl_ne (by omega) rfl, rl_ne (by omega) rfl, rl_ne (by omega) rfl, rl_eq rfl]
  have d4 : g (50 + 6 * m) = cr := by rw [hg, rl_ne (by omega) rfl, rl_ne (by omega) rfl, rl_ne (by omega) rfl, rl_ne (by omega) rfl, rl_ne (by omega) rfl, rl_eq rfl]
  have a1 : (g (18 + 5 * k)).toInt = (f (18 + 5 * k)).toInt + am.toInt := by rw [hg, rl_ne (by omega) rfl, rl_ne (by omega) rfl, rl_eq rfl]; exact rz_add (by omega) (by omega)
  have a2 : (g (19 + 5 * k)).toInt = (f (19 + 5 * k)).toInt + un.toInt := by rw [hg, rl_ne (by omega) rfl, rl_eq rfl]; exact rz_add (by omega) (by omega)
  have a3 : g (20 + 5 * k) = f (20 + 5 * k) := eo _ (by omega) (by omega) (by omega) (by omega)
  have z0 : (0 : Int64).toInt = 0 := by decide
  have q := h.addL (B1 := B1) (g := g) hk (by omega) (fun i x y z w => eo i x (by omega) (by omega) (by rw [hnL] at w; exact w)) e7 (by rw [hnL, d1])
    (by
      rw [a1, a2, a3]
      refine ⟨⟨by omega, by omega⟩, hs.2.1, fun z => ?_, fun z _ => ?_⟩
      · obtain ⟨b1, b2, b3⟩ := h0 z; rw [b1]; omega
      · obtain ⟨b1, b2, b3⟩ := h0 z; omega)
    (by
      rw [hnL, d2, d3, d4]
      refine ⟨by omega, hp, ⟨hc.1, by omega⟩, fun z => ⟨by omega, by rw [hc0 z]; exact z0⟩, fun _ => by omega⟩)
    (by rw [hnL, d2]; exact a2)
    (by rw [hnL, d4, a1]; omega)
  rw [hnL, d4, a1] at q
  refine ⟨q.1, ⟨fun j hj => ?_, fun a ha => ?_⟩, by rw [q.2]; omega, fun i x y z w => eo i x y z (by omega), a1, a2⟩
  · have hj2 : j < m + 1 := by unfold rnL at hj; omega
    by_cases hjm : j = m
    · subst hjm; rw [d2]; exact hu.1
    · rw [eo _ (by omega) (by omega) (by omega) (by omega)]; exact hPL j (by omega)
  · have ha2 : a < rnS f := by unfold rnS at ha ⊢; rw [eo 6 (by decide) (by decide) (by omega) (by omega)] at ha; exact ha
    by_cases hak : a = k
    · subst hak; rw [a2]; omega
    · have ha6 : a < 6 := by have := h.1.1.2.2.1; unfold rnS at ha2; omega
      rw [eo _ (by omega) (by omega) (by omega) (by omega)]; exact hPS a ha2 hak
