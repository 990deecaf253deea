/-! the reference's prices, fees, dues: bounds -/
def rg_gross (f : Nat → Int64) (k : Nat) : Int64 := f (18 + 5 * k) * 100000 / f (19 + 5 * k)
def rg_worth (m u : Int64) : Int64 := m / 100000 * u + (m - m / 100000 * 100000) * u / 100000
def rg_acc (f : Nat → Int64) (k : Nat) : Int64 := if 0 < f (18 + 5 * k) - rg_worth (f (20 + 5 * k)) (f (19 + 5 * k)) then (f (18 + 5 * k) - rg_worth (f (20 + 5 * k)) (f (19 + 5 * k))) * f 3 / 100 else 0
theorem rz_lit5 : (100000 : Int64).toInt = 100000 := by decide
theorem rz_lit2 : (100 : Int64).toInt = 100 := by decide
theorem rl_I.ubound {B : Int} {f : Nat → Int64} (h : rl_I B f) {k : Nat} (hk : k < rnS f) : (f (19 + 5 * k)).toInt ≤ 2176000000 ∧ ((f 1).toInt = 1 → (f (19 + 5 * k)).toInt ≤ 420000000) := by
  have hm := h.1.1.2.1
  have hs := h.2.1 k hk
  have h1 : (f 1).toInt = 1 → (f (19 + 5 * k)).toInt ≤ 420000000 := fun z => by
    rw [h.2.2.2.2.2.1 k hk]
    unfold rl_u
    have t := rsum_cst (g := fun j => if (f (47 + 6 * j)).toInt = (f (16 + 5 * k)).toInt then (f (48 + 6 * j)).toInt else 0) (c := 10500000) (n := rnL f) (fun i hi => by
      show (if (f (47 + 6 * i)).toInt = (f (16 + 5 * k)).toInt then (f (48 + 6 * i)).toInt else 0) ≤ 10500000
      have hl := h.2.2.2.1 i hi
      have := hl.2.2.2.2 z
      have := hl.2.2.1.1
      split <;> omega)
    have hn : (rnL f : Int) ≤ 40 := by have := h.1.1.2.2.2.1; unfold rnL; omega
    omega
  refine ⟨?_, h1⟩
  rcases (by omega : (f 1).toInt = 0 ∨ (f 1).toInt = 1) with z | z
  · have h2 := hs.2.2.1 z
    have h3 : 1000000 * (f (19 + 5 * k)).toInt ≤ (f (20 + 5 * k)).toInt * (f (19 + 5 * k)).toInt := Int.mul_le_mul_of_nonneg_right hs.2.1.1 hs.1.2
    omega
  · have := h1 z; omega
theorem rz_worth {m u : Int64} (hm0 : 0 ≤ m.toInt) (hm1 : m.toInt ≤ 2176000000000000) (hu0 : 0 ≤ u.toInt) (hu1 : u.toInt ≤ 2176000000) (hw : m.toInt / 100000 * u.toInt ≤ 9139200000000000000) : 0 ≤ (rg_worth m u).toInt ∧ (rg_worth m u).toInt * 100000 ≤ m.toInt * u.toInt ∧ m.toInt * u.toInt < ((rg_worth m u).toInt + 1) * 100000 := by
  have q1 : (m / 100000).toInt = m.toInt / 100000 := by rw [rz_div hm0 (by rw [rz_lit5]; decide), rz_lit5]
  have hq : 0 ≤ m.toInt / 100000 := Int.ediv_nonneg hm0 (by decide)
  have hqu : 0 ≤ m.toInt / 100000 * u.toInt := Int.mul_nonneg hq hu0
  have q2 : (m / 100000 * u).toInt = m.toInt / 100000 * u.toInt := by rw [rz_mul (by rw [q1]; omega) (by rw [q1]; omega), q1]
  have q3 : (m / 100000 * 100000).toInt = m.toInt / 100000 * 100000 := by rw [rz_mul (by rw [q1, rz_lit5]; omega) (by rw [q1, rz_lit5]; omega), q1, rz_lit5]
  have q4 : (m - m / 100000 * 100000).toInt = m.toInt - m.toInt / 100000 * 100000 := by rw [rz_sub (by rw [q3]; omega) (by rw [q3]; omega), q3]
  have hr0 : 0 ≤ m.toInt - m.toInt / 100000 * 100000 := by omega
  have hr1 : m.toInt - m.toInt / 100000 * 100000 ≤ 99999 := by omega
  have hru : 0 ≤ (m.toInt - m.toInt / 100000 * 100000) * u.toInt := Int.mul_nonneg hr0 hu0
  have hru1 : (m.toInt - m.toInt / 100000 * 100000) * u.toInt ≤ 99999 * u.toInt := Int.mul_le_mul_of_nonneg_right hr1 hu0
  have q5 : ((m - m / 100000 * 100000) * u).toInt = (m.toInt - m.toInt / 100000 * 100000) * u.toInt := by rw [rz_mul (by rw [q4]; omega) (by rw [q4]; omega), q4]
  have q6 : ((m - m / 100000 * 100000) * u / 100000).toInt = (m.toInt - m.toInt / 100000 * 100000) * u.toInt / 100000 := by rw [rz_div (by rw [q5]; exact hru) (by rw [rz_lit5]; decide), q5, rz_lit5]
  have q7 : (rg_worth m u).toInt = m.toInt / 100000 * u.toInt + (m.toInt - m.toInt / 100000 * 100000) * u.toInt / 100000 := by
    unfold rg_worth
    rw [rz_add (by rw [q2, q6]; omega) (by rw [q2, q6]; omega), q2, q6]
  have q8 : m.toInt * u.toInt = 100000 * (m.toInt / 100000 * u.toInt) + (m.toInt - m.toInt / 100000 * 100000) * u.toInt := by
    have t : m.toInt / 100000 * 100000 * u.toInt = 100000 * (m.toInt / 100000 * u.toInt) := by rw [Int.mul_assoc, Int.mul_comm 100000 u.toInt, ← Int.mul_assoc, Int.mul_comm]
    rw [Int.sub_mul, t]
    omega
  rw [q7, q8]
  omega
theorem rl_I.worth {B : Int} {f : Nat → Int64} (h : rl_I B f) {k : Nat} (hk : k < rnS f) : 0 ≤ (rg_worth (f (20 + 5 * k)) (f (19 + 5 * k))).toInt ∧ (rg_worth (f (20 + 5 * k)) (f (19 + 5 * k))).toInt * 100000 ≤ (f (20 + 5 * k)).toInt * (f (19 + 5 * k)).toInt ∧ (f (20 + 5 * k)).toInt * (f (19 + 5 * k)).toInt < ((rg_worth (f (20 + 5 * k)) (f (19 + 5 * k))).toInt + 1) * 100000 := by
  have hs := h.2.1 k hk
  have hu := h.ubound hk
  have hm := h.1.1.2.1
  refine rz_worth (by have := hs.2.1.1; omega) hs.2.1.2 hs.1.2 hu.1 ?_
  have hq : (f (20 + 5 * k)).toInt / 100000 ≤ 21760000000 := by have := hs.2.1.2; omega
  rcases (by omega : (f 1).toInt = 0 ∨ (f 1).toInt = 1) with z | z
  · have h2 := hs.2.2.1 z
    have h3 : (f (20 + 5 * k)).toInt / 100000 * (f (19 + 5 * k)).toInt ≤ (f (20 + 5 * k)).toInt * (f (19 + 5 * k)).toInt := Int.mul_le_mul_of_nonneg_right (Int.ediv_le_self _ (by have := hs.2.1.1; omega)) hs.1.2
    omega
  · have h2 := hu.2 z
    have h3 : (f (20 + 5 * k)).toInt / 100000 * (f (19 + 5 * k)).toInt ≤ 21760000000 * (f (19 + 5 * k)).toInt := Int.mul_le_mul_of_nonneg_right hq hs.1.2
    omega
/-- the accrued fee -/
theorem rl_I.acc {B : Int} {f : Nat → Int64} (h : rl_I B f) (hB : B ≤ 43920000000) {k : Nat} (hk : k < rnS f) : 0 ≤ (rg_acc f k).toInt ∧ 2 * (rg_acc f k).toInt ≤ (f (18 + 5 * k)).toInt ∧ (0 < (rg_acc f k).toInt → (f (20 + 5 * k)).toInt * (f (19 + 5 * k)).toInt < ((f (18 + 5 * k)).toInt - (rg_acc f k).toInt) * 100000) := by
  have hs := h.2.1 k hk
  have hw := h.worth hk
  have hA := h.abound hk
  have h3 := h.1.2.2.1
  have e1 : (f (18 + 5 * k) - rg_worth (f (20 + 5 * k)) (f (19 + 5 * k))).toInt = (f (18 + 5 * k)).toInt - (rg_worth (f (20 + 5 * k)) (f (19 + 5 * k))).toInt := by
    have := Int64.toInt_lt (rg_worth (f (20 + 5 * k)) (f (19 + 5 * k)))
    have := hs.1.1
    exact rz_sub (by omega) (by omega)
  unfold rg_acc
  split
  · rename_i hp
    have hp2 : 0 < (f (18 + 5 * k)).toInt - (rg_worth (f (20 + 5 * k)) (f (19 + 5 * k))).toInt := by
      rw [← e1]; exact Int64.lt_iff_toInt_lt.mp hp
    have hx : 0 ≤ ((f (18 + 5 * k)).toInt - (rg_worth (f (20 + 5 * k)) (f (19 + 5 * k))).toInt) * (f 3).toInt := Int.mul_nonneg (by omega) h3.1
    have hy : ((f (18 + 5 * k)).toInt - (rg_worth (f (20 + 5 * k)) (f (19 + 5 * k))).toInt) * (f 3).toInt ≤ ((f (18 + 5 * k)).toInt - (rg_worth (f (20 + 5 * k)) (f (19 + 5 * k))).toInt) * 50 := Int.mul_le_mul_of_nonneg_left h3.2 (by omega)
    have e2 : ((f (18 + 5 * k) - rg_worth (f (20 + 5 * k)) (f (19 + 5 * k))) * f 3).toInt = ((f (18 + 5 * k)).toInt - (rg_worth (f (20 + 5 * k)) (f (19 + 5 * k))).toInt) * (f 3).toInt := by
      rw [rz_mul (by rw [e1]; omega) (by rw [e1]; omega), e1]
    have e3 : ((f (18 + 5 * k) - rg_worth (f (20 + 5 * k)) (f (19 + 5 * k))) * f 3 / 100).toInt = ((f (18 + 5 * k)).toInt - (rg_worth (f (20 + 5 * k)) (f (19 + 5 * k))).toInt) * (f 3).toInt / 100 := by
      rw [rz_div (by rw [e2]; exact hx) (by rw [rz_lit2]; decide), e2, rz_lit2]
    rw [e3]
    refine ⟨by omega, by omega, fun z => by omega⟩
  · have z0 : (0 : Int64).toInt = 0 := by decide
    rw [z0]
    exact ⟨by omega, by have := hs.1.1; omega, fun z => by omega⟩
/-- the gross price -/
theorem rl_I.gross {B : Int} {f : Nat → Int64} (h : rl_I B f) (hB : B ≤ 43920000000) {k : Nat} (hk : k < rnS f) (hu : 0 < (f (19 + 5 * k)).toInt) : (rg_gross f k).toInt = (f (18 + 5 * k)).toInt * 100000 / (f (19 + 5 * k)).toInt ∧ 0 ≤ (rg_gross f k).toInt ∧ (rg_gross f k).toInt * (f (19 + 5 * k)).toInt ≤ (f (18 + 5 * k)).toInt * 100000 := by
  have hs := h.2.1 k hk
  have hA := h.abound hk
  have hA0 := hs.1.1
  have e1 : (f (18 + 5 * k) * 100000).toInt = (f (18 + 5 * k)).toInt * 100000 := by rw [rz_mul (by rw [rz_lit5]; omega) (by rw [rz_lit5]; omega), rz_lit5]
  have e2 : (rg_gross f k).toInt = (f (18 + 5 * k)).toInt * 100000 / (f (19 + 5 * k)).toInt := by
    unfold rg_gross
    rw [rz_div (by rw [e1]; omega) hu, e1]
  refine ⟨e2, ?_, ?_⟩
  · rw [e2]; exact Int.ediv_nonneg (by omega) (Int.le_of_lt hu)
  · rw [e2]; exact Int.ediv_mul_le _ (Int.ne_of_gt hu)
