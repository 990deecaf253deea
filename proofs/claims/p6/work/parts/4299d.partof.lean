theorem rz_shr {cr : Int64} {x : Int32} (hx : 0 ≤ x.toInt) (hx2 : x.toInt ≤ 62) : (cr >>> (x.toInt64 &&& 63)).toInt = cr.toInt / (2 ^ x.toInt.toNat : Nat) := by
  have e1 : (x.toInt64 &&& 63).toBitVec.toNat = x.toInt.toNat := by
    have a : x.toInt64.toBitVec.toNat = x.toInt.toNat := by
      have b : x.toInt64.toInt = x.toInt := Int32.toInt_toInt64 x
      have c : x.toInt64.toBitVec.toInt = x.toInt := b
      rw [BitVec.toInt_eq_toNat_cond] at c
      split at c <;> omega
    rw [Int64.toBitVec_and, BitVec.toNat_and, a]
    have : (63 : Int64).toBitVec.toNat = 2 ^ 6 - 1 := by decide
    rw [this, Nat.and_two_pow_sub_one_eq_mod]
    omega
  have e2 : (cr >>> (x.toInt64 &&& 63)).toBitVec = cr.toBitVec.sshiftRight x.toInt.toNat := by
    rw [Int64.toBitVec_shiftRight, BitVec.sshiftRight']
    congr 1
    have : ((x.toInt64 &&& 63).toBitVec.smod 64).toNat = x.toInt.toNat := by
      have p : (x.toInt64 &&& 63).toBitVec.toNat < 64 := by omega
      have q : (x.toInt64 &&& 63).toBitVec = BitVec.ofNat 64 x.toInt.toNat := by
        apply BitVec.eq_of_toNat_eq; rw [e1, BitVec.toNat_ofNat]; omega
      rw [q]
      have r : ∀ n : Nat, n < 64 → ((BitVec.ofNat 64 n).smod 64).toNat = n := by decide +kernel
      exact r _ (by omega)
    exact this
  show (cr >>> (x.toInt64 &&& 63)).toBitVec.toInt = _
  rw [e2, BitVec.toInt_sshiftRight, Int.shiftRight_eq_div_pow]
  rfl
theorem rz_bit {z : Int64} (h0 : 0 ≤ z.toInt) : (z &&& 1 = 1 → z.toInt % 2 = 1) ∧ (¬ z &&& 1 = 1 → z.toInt % 2 = 0) := by
  have a : z.toInt = (z.toBitVec.toNat : Int) := by
    have c : z.toBitVec.toInt = z.toInt := rfl
    have d := c
    rw [BitVec.toInt_eq_toNat_cond] at c
    split at c
    · omega
    · have := z.toBitVec.isLt; omega
  have b : (z &&& 1).toBitVec.toNat = z.toBitVec.toNat % 2 := by
    rw [Int64.toBitVec_and, BitVec.toNat_and]
    have : (1 : Int64).toBitVec.toNat = 1 := by decide
    rw [this, Nat.and_one_is_mod]
  constructor
  · intro h
    rw [h] at b
    have : (1 : Int64).toBitVec.toNat = 1 := by decide
    omega
  · intro h
    have : ¬ (z &&& 1).toBitVec.toNat = 1 := fun w => h (Int64.toBitVec_inj.mp (BitVec.eq_of_toNat_eq (w.trans (by decide))))
    omega
/-- partOf at bit x: what was taken of the top so far -/
def rl_PO (cr top wh its rest x : Int) : Prop := 0 ≤ its ∧ (0 ≤ rest ∧ rest < wh) ∧ its ≤ cr / (2 ^ (x + 1).toNat : Nat) ∧ its * wh + rest = cr / (2 ^ (x + 1).toNat : Nat) * top
theorem rl_PO.init {cr top wh : Int64} (hc : 0 ≤ cr.toInt ∧ cr.toInt ≤ 5000000) (hw : 0 < wh.toInt) : rl_PO cr.toInt top.toInt wh.toInt (0 : Int64).toInt (0 : Int64).toInt (62 : Int32).toInt := by
  have z : (0 : Int64).toInt = 0 := by decide
  have y : (62 : Int32).toInt = 62 := by decide
  have w : ((2 ^ (62 + 1 : Int).toNat : Nat) : Int) = 9223372036854775808 := by decide
  have q : cr.toInt / (2 ^ (62 + 1 : Int).toNat : Nat) = 0 := Int.ediv_eq_zero_of_lt hc.1 (by rw [w]; omega)
  unfold rl_PO
  rw [z, y, q]
  exact ⟨Int.le_refl _, ⟨Int.le_refl _, hw⟩, Int.le_refl _, by simp⟩
theorem rl_PO.step {cr top wh its rest t r1 : Int64} {x y : Int32} {b : Int} (h : rl_PO cr.toInt top.toInt wh.toInt its.toInt rest.toInt x.toInt) (hc : 0 ≤ cr.toInt ∧ cr.toInt ≤ 5000000) (ht : 0 ≤ top.toInt ∧ top.toInt ≤ wh.toInt) (hw : wh.toInt ≤ 2199023255552000000) (hx : 0 ≤ x.toInt) (hx2 : x.toInt ≤ 62) (hy : y.toInt = x.toInt + -1)
    (hb : 0 ≤ b ∧ b ≤ 1) (hb2 : (cr.toInt / (2 ^ x.toInt.toNat : Nat)) % 2 = b) (htt : t.toInt = b * top.toInt) (hr1 : r1 = 2 * rest + t) : rl_PO cr.toInt top.toInt wh.toInt (its * 2 + r1 / wh).toInt (r1 - r1 / wh * wh).toInt y.toInt := by
  obtain ⟨h1, ⟨h2, h3⟩, h4, h5⟩ := h
  have l2 : (2 : Int64).toInt = 2 := by decide
  have hcd : cr.toInt / (2 ^ (x.toInt + 1).toNat : Nat) = cr.toInt / (2 ^ x.toInt.toNat : Nat) / 2 := by
    rw [Int.ediv_ediv_of_nonneg (by exact Int.natCast_nonneg _)]
    congr 1
    have : (x.toInt + 1).toNat = x.toInt.toNat + 1 := by omega
    rw [this, Nat.pow_succ]
    exact Int.natCast_mul _ _
  have hyd : (y.toInt + 1).toNat = x.toInt.toNat := by omega
  generalize hc1 : cr.toInt / (2 ^ x.toInt.toNat : Nat) = c at *
  have hc0 : 0 ≤ c := by rw [← hc1]; exact Int.ediv_nonneg hc.1 (Int.natCast_nonneg _)
  have hcm : c ≤ 5000000 := by rw [← hc1]; exact Int.le_trans (Int.ediv_le_self _ hc.1) hc.2
  rw [hcd] at h4 h5
  have hc2 : c = 2 * (c / 2) + b := by omega
  have e0 : (2 * rest).toInt = 2 * rest.toInt := by rw [rz_mul (by rw [l2]; omega) (by rw [l2]; omega), l2]
  have ht0 : 0 ≤ t.toInt ∧ t.toInt ≤ wh.toInt := by
    rcases (by omega : b = 0 ∨ b = 1) with z | z <;> rw [htt, z] <;> omega
  have e1 : r1.toInt = 2 * rest.toInt + t.toInt := by rw [hr1, rz_add (by rw [e0]; omega) (by rw [e0]; omega), e0]
  have hr0 : 0 ≤ r1.toInt := by omega
  have e2 : (r1 / wh).toInt = r1.toInt / wh.toInt := rz_div hr0 (by omega)
  have d0 : 0 ≤ r1.toInt / wh.toInt := Int.ediv_nonneg hr0 (by omega)
  have d1 : r1.toInt / wh.toInt * wh.toInt ≤ r1.toInt := Int.ediv_mul_le _ (by omega)
  have d2 : r1.toInt < (r1.toInt / wh.toInt + 1) * wh.toInt := Int.lt_ediv_add_one_mul_self _ (by omega)
  have d3 : r1.toInt / wh.toInt ≤ r1.toInt := Int.ediv_le_self _ hr0
  have e3 : (r1 / wh * wh).toInt = r1.toInt / wh.toInt * wh.toInt := by
    have q0 : 0 ≤ r1.toInt / wh.toInt * wh.toInt := Int.mul_nonneg d0 (by omega)
    rw [rz_mul (by rw [e2]; omega) (by rw [e2]; omega), e2]
  have e4 : (r1 - r1 / wh * wh).toInt = r1.toInt - r1.toInt / wh.toInt * wh.toInt := by
    have q0 : 0 ≤ r1.toInt / wh.toInt * wh.toInt := Int.mul_nonneg d0 (by omega)
    rw [rz_sub (by rw [e3]; omega) (by rw [e3]; omega), e3]
  have e5 : (its * 2).toInt = its.toInt * 2 := by rw [rz_mul (by rw [l2]; omega) (by rw [l2]; omega), l2]
  have e6 : (its * 2 + r1 / wh).toInt = its.toInt * 2 + r1.toInt / wh.toInt := by rw [rz_add (by rw [e5, e2]; omega) (by rw [e5, e2]; omega), e5, e2]
  unfold rl_PO
  rw [hyd, hc1, e6, e4]
  have hd : (r1.toInt / wh.toInt + 1) * wh.toInt = r1.toInt / wh.toInt * wh.toInt + wh.toInt := by rw [Int.add_mul, Int.one_mul]
  have hs : (its.toInt * 2 + r1.toInt / wh.toInt) * wh.toInt + (r1.toInt - r1.toInt / wh.toInt * wh.toInt) = c * top.toInt := by
    have a1 : (its.toInt * 2 + r1.toInt / wh.toInt) * wh.toInt = 2 * (its.toInt * wh.toInt) + r1.toInt / wh.toInt * wh.toInt := by
      rw [Int.add_mul, Int.mul_assoc, Int.mul_comm 2 wh.toInt, ← Int.mul_assoc, Int.mul_comm _ 2]
    have a2 : c * top.toInt = 2 * (c / 2 * top.toInt) + b * top.toInt := by
      conv => lhs; rw [hc2]
      rw [Int.add_mul, Int.mul_assoc]
    rw [a1, a2, e1, htt]
    omega
  refine ⟨by omega, ⟨by omega, by omega⟩, ?_, hs⟩
  have hw0 : 0 < wh.toInt := by omega
  have a3 : c * top.toInt ≤ c * wh.toInt := Int.mul_le_mul_of_nonneg_left ht.2 hc0
  have a4 : (its.toInt * 2 + r1.toInt / wh.toInt) * wh.toInt ≤ c * wh.toInt := by omega
  exact Int.le_of_mul_le_mul_right a4 hw0
theorem rl_PO.one {cr top wh its rest : Int64} {x y : Int32} (h : rl_PO cr.toInt top.toInt wh.toInt its.toInt rest.toInt x.toInt) (hc : 0 ≤ cr.toInt ∧ cr.toInt ≤ 5000000) (ht : 0 ≤ top.toInt ∧ top.toInt ≤ wh.toInt) (hw : wh.toInt ≤ 2199023255552000000) (hx : 0 ≤ x.toInt) (hx2 : x.toInt ≤ 62) (hy : y.toInt = x.toInt + -1) (hq : cr >>> (x.toInt64 &&& 63) &&& 1 = 1) : rl_PO cr.toInt top.toInt wh.toInt (its * 2 + (2 * rest + top) / wh).toInt (2 * rest + top - (2 * rest + top) / wh * wh).toInt y.toInt := by
  have e := rz_shr (cr := cr) hx hx2
  have z := (rz_bit (z := cr >>> (x.toInt64 &&& 63)) (by rw [e]; exact Int.ediv_nonneg hc.1 (Int.natCast_nonneg _))).1 hq
  rw [e] at z
  exact h.step hc ht hw hx hx2 hy (b := 1) ⟨by decide, by decide⟩ z (by omega) rfl
theorem rl_PO.zero {cr top wh its rest : Int64} {x y : Int32} (h : rl_PO cr.toInt top.toInt wh.toInt its.toInt rest.toInt x.toInt) (hc : 0 ≤ cr.toInt ∧ cr.toInt ≤ 5000000) (ht : 0 ≤ top.toInt ∧ top.toInt ≤ wh.toInt) (hw : wh.toInt ≤ 2199023255552000000) (hx : 0 ≤ x.toInt) (hx2 : x.toInt ≤ 62) (hy : y.toInt = x.toInt + -1) (hq : ¬ cr >>> (x.toInt64 &&& 63) &&& 1 = 1) : rl_PO cr.toInt top.toInt wh.toInt (its * 2 + (2 * rest + 0) / wh).toInt (2 * rest + 0 - (2 * rest + 0) / wh * wh).toInt y.toInt := by
  have e := rz_shr (cr := cr) hx hx2
  have z := (rz_bit (z := cr >>> (x.toInt64 &&& 63)) (by rw [e]; exact Int.ediv_nonneg hc.1 (Int.natCast_nonneg _))).2 hq
  rw [e] at z
  exact h.step hc ht hw hx hx2 hy (b := 0) ⟨by decide, by decide⟩ z (by rw [Int.zero_mul]; decide) rfl
theorem rl_PO.fin {cr top wh its rest x : Int} (h : rl_PO cr top wh its rest x) (hx : x = -1) : 0 ≤ its ∧ its ≤ cr := by
  subst hx
  have : cr / (2 ^ (-1 + 1 : Int).toNat : Nat) = cr := by
    have z : (2 ^ (-1 + 1 : Int).toNat : Nat) = 1 := by decide
    rw [z]; exact Int.ediv_one _
  have a := h.2.2.1
  rw [this] at a
  exact ⟨h.1, a⟩
