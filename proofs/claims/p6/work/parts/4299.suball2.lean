/-- a request that is no redemption -/
theorem rl_I.sub0 {B : Int} {g : Nat → Int64} (h : rl_I B g) {q : Nat} (hq : q < rnR g) (hn : ¬ g (287 + 4 * q) = 1) : (g (287 + 4 * q)).toInt = 0 ∧ (0 ≤ (g (288 + 4 * q)).toInt ∧ (g (288 + 4 * q)).toInt ≤ 10000000) := by
  have z := h.2.2.2.2.2.2.1 q hq
  have z0 : (g (287 + 4 * q)).toInt = 0 := by
    rcases z.1 with e | e
    · exact e
    · exact absurd (Int64.toInt_inj.mp (e.trans (by decide))) hn
  exact ⟨z0, z.2 z0⟩
/-- a subscription went into the series: the next one goes there too -/
theorem rl_SS.inn {g g2 : Nat → Int64} {k r : Nat} (hk6 : k < 6) (hk : k < rnS g) (h3 : (g 1).toInt = 0 → (g (20 + 5 * k)).toInt = 1000000 ∧ (g (18 + 5 * k)).toInt ≤ 10000000 * (r : Int) ∧ (g (19 + 5 * k)).toInt ≤ 10000000 * (r : Int))
    (fr : ∀ i : Nat, i ≠ 7 → i ≠ 12 → ¬ (18 + 5 * k ≤ i ∧ i ≤ 19 + 5 * k) → (i < 46 ∨ 286 ≤ i) → g2 i = g i) (a1 : (g2 (18 + 5 * k)).toInt ≤ (g (18 + 5 * k)).toInt + 10000000) (u1 : (g2 (19 + 5 * k)).toInt ≤ (g (19 + 5 * k)).toInt + 10000000) : rl_SS g2 (nI (16 + 5 * k)) (1 + r) := by
  refine Or.inr ⟨k, rfl, ?_, fun z => ?_⟩
  · unfold rnS at hk ⊢; rw [fr 6 (by decide) (by decide) (by omega) (by omega)]; exact hk
  · rw [fr 1 (by decide) (by decide) (by omega) (by omega)] at z
    obtain ⟨b1, b2, b3⟩ := h3 z
    rw [fr (20 + 5 * k) (by omega) (by omega) (by omega) (by omega)]
    exact ⟨b1, by omega, by omega⟩
/-- a subscription opened the series n -/
theorem rl_SS.opn {g g2 : Nat → Int64} {n r : Nat} (en : (g 6).toInt = (n : Int)) (e6 : (g2 6).toInt = (g 6).toInt + 1) (m1 : (g2 (20 + 5 * n)).toInt = 1000000) (a1 : (g2 (18 + 5 * n)).toInt ≤ 10000000) (u1 : (g2 (19 + 5 * n)).toInt ≤ 10000000) : rl_SS g2 (nI (16 + 5 * n)) (1 + r) :=
  Or.inr ⟨n, rfl, by unfold rnS; omega, fun _ => ⟨m1, by omega, by omega⟩⟩
