/-- redeemAll: what stays -/
def rl_R (B : Int) (f g : Nat → Int64) : Prop := rl_I B g ∧ rl_P g ∧ rl_T g ≤ rl_T f ∧ (∀ i : Nat, i < 10 → i ≠ 6 → i ≠ 7 → g i = f i) ∧ ∀ a : Nat, a < 12 → g (287 + 4 * a) = f (287 + 4 * a)
theorem rl_R.init {B : Int} {f g : Nat → Int64} (h : rl_I B f) (hp : rl_P f) (e : ∀ i : Nat, i < 334 → g i = f i) : rl_R B f g := ⟨(h.cong e).1, hp.cong h e, by rw [(h.cong e).2]; exact Int.le_refl _, fun i a _ _ => e i (by omega), fun a ha => e _ (by omega)⟩
theorem rl_R.step {B : Int} {f g g2 : Nat → Int64} {r : Nat} (h : rl_R B f g) (h1 : rl_I B g2) (h2 : rl_T g2 ≤ rl_T g) (h3 : ∀ i : Nat, ¬ (10 ≤ i ∧ i ≤ 15) → (i < 10 ∧ i ≠ 6 ∧ i ≠ 7 ∨ 286 ≤ i) → g2 i = g i) (hp : rl_P g2) (hr : r < 12) (hq : g (287 + 4 * r) = 1) (v : Int64) : rl_R B f (vp_updL g2 (288 + 4 * r) v) := by
  have hz : (g2 (287 + 4 * r)).toInt ≠ 0 := by rw [h3 _ (by omega) (by omega), hq]; decide
  obtain ⟨q1, q2, q3⟩ := h1.setV hr hz v
  refine ⟨q1, q3 hp, by rw [q2]; exact Int.le_trans h2 h.2.2.1, fun i a b c => ?_, fun a ha => ?_⟩
  · rw [rl_ne (by omega) rfl, h3 i (by omega) (by omega)]; exact h.2.2.2.1 i a b c
  · rw [rl_ne (by omega) rfl, h3 _ (by omega) (by omega)]; exact h.2.2.2.2 a ha
/-- which requests are not marked as done -/
def rl_dn (f : Nat → Int64) (fd : Nat → Int32) (n : Nat) : Prop := ∀ a : Nat, a < n → ¬ f (287 + 4 * a) = 1 → fd a = 0
theorem rl_dn.skip {f : Nat → Int64} {fd : Nat → Int32} {r : Nat} (h : rl_dn f fd r) (hr : r < 12) : rl_dn f (upd fd (nI r).toNatClampNeg (vp_nar .boolean 0)) (1 + r) := by
  intro a ha hn
  rw [nI_clamp (by omega)]
  by_cases har : a = r
  · subst har; show (if a = a then vp_nar .boolean 0 else fd a) = 0; rw [if_pos rfl]; rfl
  · show (if a = r then vp_nar .boolean 0 else fd a) = 0; rw [if_neg har]; exact h a (by omega) hn
theorem rl_dn.red {f : Nat → Int64} {fd : Nat → Int32} {r : Nat} (h : rl_dn f fd r) (hr : r < 12) (hq : f (287 + 4 * r) = 1) (x y : Int32) : rl_dn f (upd (upd fd (nI r).toNatClampNeg x) (nI r).toNatClampNeg y) (1 + r) := by
  intro a ha hn
  rw [nI_clamp (by omega)]
  by_cases har : a = r
  · subst har; exact absurd hq hn
  · show (if a = r then y else (if a = r then x else fd a)) = 0; rw [if_neg har, if_neg har]; exact h a (by omega) hn
/-- the row of done requests, and what it holds -/
theorem rl_done {cA : Nat → ClassId} {K : Nat → Nat} {pl : va_W} (hok : tt_ok rt_tk cA K pl) {h0 : Nat} (hk : K h0 = 1) : ∃ (ad : Nat) (fd : Nat → Int32), K ad = 9 ∧ tt_at pl h0 11 (.ref ad) ∧ tt_ic pl ad fd := by
  obtain ⟨i, e9, hi, hE⟩ := hok h0 (by rw [hk]; decide)
  rw [hk] at hE
  obtain ⟨fs, rfl, hlen, hty⟩ := (show ∃ fs : List Value, e9 = .inr ((rt_tk 1).2.1, fs) ∧ fs.length = (rt_tk 1).2.2.2.length ∧ ∀ (j : Nat) (t : tt_T) (v : Value), (rt_tk 1).2.2.2[j]? = some t → fs[j]? = some v → tt_V K t v from hE)
  have hl : 11 < fs.length := by rw [hlen]; decide
  have hv : fs[11]? = some fs[11] := List.getElem?_eq_getElem hl
  obtain ⟨ad, h1, h2⟩ := tt_vr (hty 11 (2, 9, 0) _ rfl hv)
  have hk9 : K ad = 9 := h2
  obtain ⟨j, e8, hj, hF⟩ := hok ad (by rw [hk9]; decide)
  rw [hk9] at hF
  obtain ⟨g, rfl, -⟩ := (show ∃ g : Nat → Int32, e8 = .inl (cA 3, 12, .inl g) ∧ ∀ j : Nat, j < 12 → tt_V K (0, -2147483648, 2147483647) (.int (g j)) from hF)
  exact ⟨ad, g, hk9, ⟨i, _, fs, hi, by rw [hv, h1]⟩, j, 12, cA 3, hj⟩
