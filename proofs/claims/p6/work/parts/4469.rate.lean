/-- the row of units that are left, and what it holds -/
theorem rl_ulx {cA : Nat → ClassId} {K : Nat → Nat} {pl : va_W} (hok : tt_ok rt_tk cA K pl) {h0 : Nat} (hk : K h0 = 1) : ∃ (au : Nat) (fu : Nat → Int64), K au = 12 ∧ tt_at pl h0 22 (.ref au) ∧ tt_lc pl au fu := by
  obtain ⟨i, e9, hi, hE⟩ := hok h0 (by rw [hk]; decide)
  rw [hk] at hE
  obtain ⟨fs, rfl, hlen, hty⟩ := (show ∃ fs : List Value, e9 = .inr ((rt_tk 1).2.1, fs) ∧ fs.length = (rt_tk 1).2.2.2.length ∧ ∀ (j : Nat) (t : tt_T) (v : Value), (rt_tk 1).2.2.2[j]? = some t → fs[j]? = some v → tt_V K t v from hE)
  have hl : 22 < fs.length := by rw [hlen]; decide
  have hv : fs[22]? = some fs[22] := List.getElem?_eq_getElem hl
  obtain ⟨au, h1, h2⟩ := tt_vr (hty 22 (2, 12, 0) _ rfl hv)
  have hk9 : K au = 12 := h2
  obtain ⟨j, e8, hj, hF⟩ := hok au (by rw [hk9]; decide)
  rw [hk9] at hF
  obtain ⟨g, rfl, -⟩ := (show ∃ g : Nat → Int64, e8 = .inl (cA 2, 6, .inr (.inl g)) ∧ ∀ j : Nat, j < 6 → tt_V K (1, -9223372036854775808, 9223372036854775807) (.long (g j)) from hF)
  exact ⟨au, g, hk9, ⟨i, _, fs, hi, by rw [hv, h1]⟩, j, 6, cA 2, hj⟩
theorem rl_div5 {x : Int32} {n : Nat} (h : x.toInt = ((16 + 5 * n : Nat) : Int) - 16) (hn : n < 6) : x / 5 = nI n := by
  have e : x = nI (5 * n) := Int32.toInt_inj.mp (by rw [rl_ti (by omega), h]; omega)
  have q : ∀ n : Nat, n < 6 → nI (5 * n) / 5 = nI n := by decide
  rw [e]; exact q n hn
/-- the units left, at lot x: no fewer than those of the lots from there on -/
def rl_UL (f fu : Nat → Int64) (x : Nat) : Prop := ∀ k : Nat, k < rnS f → (f (19 + 5 * k)).toInt - rl_ux f (f (16 + 5 * k)).toInt x ≤ (fu k).toInt
theorem rl_UL.init {f fu : Nat → Int64} (h : ∀ a : Nat, a < rnS f → fu a = f (19 + 5 * a)) : rl_UL f fu 0 := fun k hk => by
  have z : rl_ux f (f (16 + 5 * k)).toInt 0 = 0 := rfl
  rw [z, h k hk]; omega
theorem rl_UL.skip {B : Int} {f fu : Nat → Int64} {x : Nat} (h : rl_UL f fu x) (hI : rl_I B f) (hx : x < rnL f) : rl_UL f fu (1 + x) := fun k hk => by
  have a := h k hk
  have b := (hI.2.2.2.1 x hx).1
  rw [rl_ux.succ]
  split <;> omega
/-- a lot's series has its units left -/
theorem rl_UL.has {B : Int} {f fu : Nat → Int64} {x : Nat} (h : rl_UL f fu x) (hI : rl_I B f) (hx : x < rnL f) : ∀ k : Nat, k < rnS f → (f (16 + 5 * k)).toInt = (f (47 + 6 * x)).toInt → (f (48 + 6 * x)).toInt ≤ (fu k).toInt := fun k hk hn => by
  have a := h k hk
  have b := hI.uxle hk hx hn.symm
  omega
theorem rl_UL.use {B : Int} {f fu fv : Nat → Int64} {x : Nat} (h : rl_UL f fu x) (hI : rl_I B f) (hx : x < rnL f) (q : ∃ k : Nat, k < rnS f ∧ (f (16 + 5 * k)).toInt = (f (47 + 6 * x)).toInt ∧ fv = vp_updL fu k (fu k - f (48 + 6 * x))) : rl_UL f fv (1 + x) := fun a ha => by
  obtain ⟨k, hk, hn, rfl⟩ := q
  have hl := (hI.2.2.2.1 x hx).1
  have has := h.has hI hx k hk hn
  have hb := Int64.toInt_lt (fu k)
  rw [rl_ux.succ]
  by_cases e : a = k
  · subst e
    rw [rl_eq rfl, if_pos hn.symm, rz_sub (by omega) (by omega)]
    have := h a ha
    omega
  · rw [rl_ne e rfl]
    have := h a ha
    split <;> omega
theorem rz_d10 {v : Int64} {b : Int} (h : 9 < v.toInt) (hb : v.toInt ≤ 10 * b + 9) : (v / 10).toInt ≤ b := by
  have z : (10 : Int64).toInt = 10 := by decide
  rw [rz_div (by omega) (by rw [z]; decide), z]
  omega
theorem rz_hi (v : Int64) : v.toInt ≤ 9223372036854775807 := by have := Int64.toInt_lt v; omega
theorem rl_fill {f x : Nat → Int64} {k : Nat} (h : ∀ a : Nat, a < k → x a = f (19 + 5 * a)) : ∀ a : Nat, a < 1 + k → vp_updL x k (f (19 + 5 * k)) a = f (19 + 5 * a) := fun a ha => by
  by_cases e : a = k
  · subst e; exact rl_eq rfl
  · rw [rl_ne e rfl]; exact h a (by omega)
