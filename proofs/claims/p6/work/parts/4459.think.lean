theorem rl_h.cong {f g : Nat → Int64} (h : rl_h f) (e : ∀ i : Nat, i < 10 → g i = f i) : rl_h g := by
  unfold rl_h
  rw [e 0 (by decide), e 1 (by decide), e 6 (by decide), e 7 (by decide), e 8 (by decide)]
  exact h
theorem rl_G.trans {B : Int} {f g k : Nat → Int64} (h : rl_G B f g) (h2 : rl_G B g k) : rl_G B f k := ⟨h2.1, h2.2.1, Int.le_trans h2.2.2.1 h.2.2.1, fun i hi => (h2.2.2.2 i hi).trans (h.2.2.2 i hi)⟩
theorem rl_G.K {B C : Int} {f g : Nat → Int64} (h : rl_G B f g) (hK : rl_K B C f) : rl_K B C g := ⟨h.1, h.2.1, by rw [h.2.2.2 9 (by omega)]; exact hK.2.2⟩
/-- how many investors place themselves: bounds of a place that falls -/
theorem rl_K.h9 {B C : Int} {f : Nat → Int64} (h : rl_K B C f) (hc : C ≤ 4611686018427380000) : 0 ≤ (f 9).toInt ∧ (f 9).toInt < 4611686018427387000 := ⟨h.2.2.1, by have := h.2.2.2; omega⟩
