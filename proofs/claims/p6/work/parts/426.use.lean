theorem rz_frac {a x u : Int} (ha : 0 ≤ a) (hx : 0 ≤ x) (hxu : x ≤ u) (hu : 0 < u) : 0 ≤ a * x / u ∧ a * x / u ≤ a := by
  refine ⟨Int.ediv_nonneg (Int.mul_nonneg ha hx) (Int.le_of_lt hu), ?_⟩
  have h1 : a * x ≤ a * u := Int.mul_le_mul_of_nonneg_left hxu ha
  have h2 : a * x / u ≤ a * u / u := Int.ediv_le_ediv hu h1
  rw [Int.mul_ediv_cancel _ (Int.ne_of_gt hu)] at h2
  exact h2
theorem rl_I.lotu {B : Int} {f : Nat → Int64} (h : rl_I B f) {j : Nat} (hj : j < rnL f) : (f (48 + 6 * j)).toInt ≤ 100000000 := by
  have hl := h.2.2.2.1 j hj
  have hm := h.1.1.2.1
  have := hl.2.2.1.1
  rcases (by omega : (f 1).toInt = 0 ∨ (f 1).toInt = 1) with z | z
  · exact (hl.2.2.2.1 z).1
  · have := hl.2.2.2.2 z; omega
/-- units of a lot are redeemed -/
theorem rl_use {B : Int} {f g : Nat → Int64} (h : rl_I B f) (hB : B ≤ 43920000000) {k j : Nat} (hk : k < rnS f) (hj : j < rnL f) (hn : (f (47 + 6 * j)).toInt = (f (16 + 5 * k)).toInt) {x : Int64} (hx1 : 1 ≤ x.toInt) (hx2 : x.toInt ≤ (f (48 + 6 * j)).toInt)
    (e : ∀ i : Nat, ¬ (10 ≤ i ∧ i ≤ 15) → i ≠ 18 + 5 * k → i ≠ 19 + 5 * k → i ≠ 48 + 6 * j → i ≠ 50 + 6 * j → g i = f i)
    (ga : g (18 + 5 * k) = f (18 + 5 * k) - ((f (18 + 5 * k) - rg_acc f k) * x / f (19 + 5 * k) + rg_acc f k * x / f (19 + 5 * k)))
    (gu : g (19 + 5 * k) = f (19 + 5 * k) - x) (gl : g (48 + 6 * j) = f (48 + 6 * j) - x) (gc : g (50 + 6 * j) = f (50 + 6 * j) - f (50 + 6 * j) * x / f (48 + 6 * j)) : rl_I B g ∧ rl_T g ≤ rl_T f := by
  have hs := h.2.1 k hk
  have hl := h.2.2.2.1 j hj
  have hA := h.abound hk
  have hA0 := hs.1.1
  have hU0 := hs.1.2
  have hL0 := hl.1
  have hC0 := hl.2.2.1
  have hub := (h.ubound hk).1
  have hlu := h.lotu hj
  have huj := h.uj hk hj hn
  have hac := h.acc hB hk
  have hk6 : k < 6 := by have := h.1.1.2.2.1; unfold rnS at hk; omega
  have hj40 : j < 40 := by have := h.1.1.2.2.2.1; unfold rnL at hj; omega
  have hup : 0 < (f (19 + 5 * k)).toInt := by omega
  have hlp : 0 < (f (48 + 6 * j)).toInt := by omega
  have n1 : (f (18 + 5 * k) - rg_acc f k).toInt = (f (18 + 5 * k)).toInt - (rg_acc f k).toInt := rz_sub (by omega) (by omega)
  have p1 : 0 ≤ ((f (18 + 5 * k)).toInt - (rg_acc f k).toInt) * x.toInt := Int.mul_nonneg (by omega) (by omega)
  have p2 : ((f (18 + 5 * k)).toInt - (rg_acc f k).toInt) * x.toInt ≤ 21960000000 * 100000000 := Int.mul_le_mul (by omega) (by omega) (by omega) (by decide)
  have n2 : ((f (18 + 5 * k) - rg_acc f k) * x).toInt = ((f (18 + 5 * k)).toInt - (rg_acc f k).toInt) * x.toInt := by rw [rz_mul (by rw [n1]; omega) (by rw [n1]; omega), n1]
  have n3 : ((f (18 + 5 * k) - rg_acc f k) * x / f (19 + 5 * k)).toInt = ((f (18 + 5 * k)).toInt - (rg_acc f k).toInt) * x.toInt / (f (19 + 5 * k)).toInt := by rw [rz_div (by rw [n2]; exact p1) hup, n2]
  have b1 := rz_frac (a := (f (18 + 5 * k)).toInt - (rg_acc f k).toInt) (x := x.toInt) (u := (f (19 + 5 * k)).toInt) (by omega) (by omega) (by omega) hup
  have p3 : 0 ≤ (rg_acc f k).toInt * x.toInt := Int.mul_nonneg hac.1 (by omega)
  have p4 : (rg_acc f k).toInt * x.toInt ≤ 21960000000 * 100000000 := Int.mul_le_mul (by omega) (by omega) (by omega) (by decide)
  have n4 : (rg_acc f k * x).toInt = (rg_acc f k).toInt * x.toInt := rz_mul (by omega) (by omega)
  have n5 : (rg_acc f k * x / f (19 + 5 * k)).toInt = (rg_acc f k).toInt * x.toInt / (f (19 + 5 * k)).toInt := by rw [rz_div (by rw [n4]; exact p3) hup, n4]
  have b2 := rz_frac (a := (rg_acc f k).toInt) (x := x.toInt) (u := (f (19 + 5 * k)).toInt) hac.1 (by omega) (by omega) hup
  have n6 : ((f (18 + 5 * k) - rg_acc f k) * x / f (19 + 5 * k) + rg_acc f k * x / f (19 + 5 * k)).toInt = ((f (18 + 5 * k)).toInt - (rg_acc f k).toInt) * x.toInt / (f (19 + 5 * k)).toInt + (rg_acc f k).toInt * x.toInt / (f (19 + 5 * k)).toInt := by rw [rz_add (by rw [n3, n5]; omega) (by rw [n3, n5]; omega), n3, n5]
  have n7 : (g (18 + 5 * k)).toInt = (f (18 + 5 * k)).toInt - (((f (18 + 5 * k)).toInt - (rg_acc f k).toInt) * x.toInt / (f (19 + 5 * k)).toInt + (rg_acc f k).toInt * x.toInt / (f (19 + 5 * k)).toInt) := by rw [ga, rz_sub (by rw [n6]; omega) (by rw [n6]; omega), n6]
  have n8 : (g (19 + 5 * k)).toInt = (f (19 + 5 * k)).toInt - x.toInt := by rw [gu, rz_sub (by omega) (by omega)]
  have n9 : (g (48 + 6 * j)).toInt = (f (48 + 6 * j)).toInt - x.toInt := by rw [gl, rz_sub (by omega) (by omega)]
  have p5 : 0 ≤ (f (50 + 6 * j)).toInt * x.toInt := Int.mul_nonneg hC0.1 (by omega)
  have p6 : (f (50 + 6 * j)).toInt * x.toInt ≤ 5000000 * 100000000 := Int.mul_le_mul hC0.2 (by omega) (by omega) (by decide)
  have n10 : (f (50 + 6 * j) * x).toInt = (f (50 + 6 * j)).toInt * x.toInt := rz_mul (by omega) (by omega)
  have n11 : (f (50 + 6 * j) * x / f (48 + 6 * j)).toInt = (f (50 + 6 * j)).toInt * x.toInt / (f (48 + 6 * j)).toInt := by rw [rz_div (by rw [n10]; exact p5) hlp, n10]
  have b3 := rz_frac (a := (f (50 + 6 * j)).toInt) (x := x.toInt) (u := (f (48 + 6 * j)).toInt) hC0.1 (by omega) (by omega) hlp
  have n12 : (g (50 + 6 * j)).toInt = (f (50 + 6 * j)).toInt - (f (50 + 6 * j)).toInt * x.toInt / (f (48 + 6 * j)).toInt := by rw [gc, rz_sub (by rw [n11]; omega) (by rw [n11]; omega), n11]
  have e20 : g (20 + 5 * k) = f (20 + 5 * k) := e _ (by omega) (by omega) (by omega) (by omega) (by omega)
  have e49 : g (49 + 6 * j) = f (49 + 6 * j) := e _ (by omega) (by omega) (by omega) (by omega) (by omega)
  refine h.chg hk hj hn (fun i a1 a2 a3 a4 => e i a2 (by omega) (by omega) (by omega) (by omega)) ⟨⟨by omega, by omega⟩, by rw [e20]; exact hs.2.1, fun z => ?_, fun z z2 => by have := hs.2.2.2.1 z z2; omega⟩ ⟨by omega, by rw [e49]; exact hl.2.1, ⟨by omega, by omega⟩, fun z => by have := hl.2.2.2.1 z; omega, fun z => by have := hl.2.2.2.2 z; omega⟩ (by omega) (by omega)
  rw [e20]
  exact Int.le_trans (Int.mul_le_mul_of_nonneg_left (by omega) (by have := hs.2.1.1; omega)) (hs.2.2.1 z)
/-- places that close up -/
def rg_sh (f : Nat → Int64) (a d n : Nat) : Nat → Int64 := fun i => if a ≤ i ∧ i < n then f (d + i) else f i
theorem rg_sh0 (f : Nat → Int64) (a d : Nat) : rg_sh f a d a = f := by
  funext i; unfold rg_sh; exact if_neg (by omega)
theorem rg_shS (f : Nat → Int64) {a d k : Nat} (h : a ≤ k) (hd : 0 < d) : vp_updL (rg_sh f a d k) k (rg_sh f a d k (d + k)) = rg_sh f a d (k + 1) := by
  funext i
  have h1 : rg_sh f a d k (d + k) = f (d + k) := by unfold rg_sh; exact if_neg (by omega)
  rw [h1]
  by_cases hi : i = k
  · subst hi
    rw [rl_eq rfl]
    unfold rg_sh
    rw [if_pos ⟨h, Nat.lt_succ_self _⟩]
  · rw [rl_ne hi rfl]
    unfold rg_sh
    by_cases h2 : a ≤ i ∧ i < k
    · rw [if_pos h2, if_pos ⟨h2.1, by omega⟩]
    · rw [if_neg h2, if_neg (by omega)]
theorem rg_sh_in {f : Nat → Int64} {a d n i : Nat} (h1 : a ≤ i) (h2 : i < n) : rg_sh f a d n i = f (d + i) := by unfold rg_sh; exact if_pos ⟨h1, h2⟩
theorem rg_sh_out {f : Nat → Int64} {a d n i : Nat} (h : ¬ (a ≤ i ∧ i < n)) : rg_sh f a d n i = f i := by unfold rg_sh; exact if_neg h
/-- a lot, a series, a request goes: the row as the reference leaves it -/
def rg_dL (f : Nat → Int64) (j : Nat) : Nat → Int64 := vp_updL (rg_sh f (46 + 6 * j) 6 280) 7 (rg_sh f (46 + 6 * j) 6 280 7 - 1)
def rg_dS (f : Nat → Int64) (k : Nat) : Nat → Int64 := vp_updL (rg_sh f (16 + 5 * k) 5 41) 6 (rg_sh f (16 + 5 * k) 5 41 6 - 1)
def rg_dQ (f : Nat → Int64) (r : Nat) : Nat → Int64 := vp_updL (rg_sh f (286 + 4 * r) 4 330) 8 (rg_sh f (286 + 4 * r) 4 330 8 - 1)
theorem rz_dec {x : Int64} (h : 1 ≤ x.toInt) : (x - 1).toInt = x.toInt - 1 := by
  have h1 : (1 : Int64).toInt = 1 := by decide
  have := Int64.toInt_lt x
  rw [rz_sub (by rw [h1]; omega) (by rw [h1]; omega), h1]
theorem rl_I.dL {B : Int} {f : Nat → Int64} (h : rl_I B f) {j : Nat} (hj : j < rnL f) (hz : (f (48 + 6 * j)).toInt = 0) : rl_I B (rg_dL f j) ∧ rl_T (rg_dL f j) ≤ rl_T f := by
  refine h.dropL hj hz (fun i a b => ?_) (fun i a b => ?_) ?_
  · unfold rg_dL; rw [rl_ne a rfl, rg_sh_out b]
  · unfold rg_dL; rw [rl_ne (by omega) rfl, rg_sh_in a b, Nat.add_comm]
  · unfold rg_dL; rw [rl_eq rfl, rg_sh_out (by omega)]; exact rz_dec (by unfold rnL at hj; omega)
theorem rl_I.dS {B : Int} {f : Nat → Int64} (h : rl_I B f) {k : Nat} (hk : k < rnS f) (hz : ∀ j : Nat, j < rnL f → (f (47 + 6 * j)).toInt ≠ (f (16 + 5 * k)).toInt) : rl_I B (rg_dS f k) ∧ rl_T (rg_dS f k) = rl_T f - 2 * (f (18 + 5 * k)).toInt := by
  refine h.dropS hk hz (fun i a b c => ?_) (fun i a b => ?_) ?_
  · unfold rg_dS; rw [rl_ne a rfl, rg_sh_out (by omega)]
  · unfold rg_dS; rw [rl_ne (by omega) rfl, rg_sh_in a b, Nat.add_comm]
  · unfold rg_dS; rw [rl_eq rfl, rg_sh_out (by omega)]; exact rz_dec (by unfold rnS at hk; omega)
theorem rl_I.dQ {B : Int} {f : Nat → Int64} (h : rl_I B f) {r : Nat} (hr : r < rnR f) : rl_I B (rg_dQ f r) ∧ rl_T (rg_dQ f r) = rl_T f - 3 * (if (f (287 + 4 * r)).toInt = 0 then (f (288 + 4 * r)).toInt else 0) := by
  refine h.dropQ hr (fun i a b => ?_) (fun i a b => ?_) ?_
  · unfold rg_dQ; rw [rl_ne a rfl, rg_sh_out b]
  · unfold rg_dQ; rw [rl_ne (by omega) rfl, rg_sh_in a b, Nat.add_comm]
  · unfold rg_dQ; rw [rl_eq rfl, rg_sh_out (by omega)]; exact rz_dec (by unfold rnR at hr; omega)
