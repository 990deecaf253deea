/-- what the subscriptions marked as done among the first r brought -/
def rl_sb (f : Nat → Int64) (gd : Nat → Int32) (r : Nat) : Int := rsum (fun a => if (f (287 + 4 * a)).toInt = 0 ∧ gd a ≠ 0 then (f (288 + 4 * a)).toInt else 0) r
/-- subscribeAll, behind r requests: the row and the marks -/
def rl_SA (B : Int) (f g : Nat → Int64) (fd gd : Nat → Int32) (r : Nat) : Prop := rl_I (B + 30000000 * (r : Int)) g ∧ rl_P g ∧ rl_T g ≤ rl_T f + 3 * rl_sb f gd r ∧ (∀ i : Nat, i < 10 → i ≠ 6 → i ≠ 7 → i ≠ 9 → g i = f i) ∧ (∀ i : Nat, 286 ≤ i → g i = f i) ∧ ((f 9).toInt ≤ (g 9).toInt ∧ (g 9).toInt ≤ (f 9).toInt + (r : Int)) ∧ ∀ a : Nat, r ≤ a ∨ (f (287 + 4 * a)).toInt ≠ 0 → gd a = fd a
/-- where the next subscription goes -/
def rl_SS (g : Nat → Int64) (s : Int32) (r : Nat) : Prop := (s = -1 ∧ ((g 1).toInt = 1 → (g 6).toInt = 0)) ∨ ∃ k : Nat, s = nI (16 + 5 * k) ∧ k < rnS g ∧ ((g 1).toInt = 0 → (g (20 + 5 * k)).toInt = 1000000 ∧ (g (18 + 5 * k)).toInt ≤ 10000000 * (r : Int) ∧ (g (19 + 5 * k)).toInt ≤ 10000000 * (r : Int))
theorem rl_SS.next {g : Nat → Int64} {s : Int32} {r : Nat} (h : rl_SS g s r) : rl_SS g s (1 + r) := by
  rcases h with h | ⟨k, h1, h2, h3⟩
  · exact Or.inl h
  · exact Or.inr ⟨k, h1, h2, fun z => by obtain ⟨a, b, c⟩ := h3 z; exact ⟨a, by omega, by omega⟩⟩
theorem rl_SA.init {B : Int} {f : Nat → Int64} (h : rl_I B f) (hp : rl_P f) (fd : Nat → Int32) : rl_SA B f f fd fd 0 := by
  have e : rl_sb f fd 0 = 0 := rfl
  exact ⟨h.up (by have := h.2.2.2.2.2.2.2; omega), hp, by rw [e]; omega, fun _ _ _ _ _ => rfl, fun _ _ => rfl, ⟨Int.le_refl _, by omega⟩, fun _ _ => rfl⟩
theorem rl_sb.succ (f : Nat → Int64) (gd : Nat → Int32) (r : Nat) : rl_sb f gd (1 + r) = rl_sb f gd r + (if (f (287 + 4 * r)).toInt = 0 ∧ gd r ≠ 0 then (f (288 + 4 * r)).toInt else 0) := by
  rw [Nat.add_comm 1 r]; rfl
/-- a request brings nothing -/
theorem rl_SA.skip {B : Int} {f g : Nat → Int64} {fd gd : Nat → Int32} {r : Nat} (h : rl_SA B f g fd gd r) (hd : (f (287 + 4 * r)).toInt = 0 → fd r = 0) : rl_SA B f g fd gd (1 + r) := by
  obtain ⟨h1, h2, h3, h4, h5, h6, h7⟩ := h
  have e : rl_sb f gd (1 + r) = rl_sb f gd r := by
    rw [rl_sb.succ, if_neg (fun z => z.2 (by rw [h7 r (Or.inl (Nat.le_refl _))]; exact hd z.1))]; omega
  exact ⟨h1.up (by have := h1.2.2.2.2.2.2.2; omega), h2, by rw [e]; exact h3, h4, h5, ⟨h6.1, by omega⟩, fun a ha => h7 a (by omega)⟩
/-- a subscription's money comes in -/
theorem rl_SA.put {B : Int} {f g g2 : Nat → Int64} {fd gd : Nat → Int32} {r : Nat} (h : rl_SA B f g fd gd r) (h12 : r < 12) (hq : (f (287 + 4 * r)).toInt = 0) (i1 : rl_I (B + 30000000 * ((1 + r : Nat) : Int)) g2) (p1 : rl_P g2) (t : rl_T g2 ≤ rl_T g + 3 * (g (288 + 4 * r)).toInt)
    (e1 : ∀ i : Nat, i < 10 → i ≠ 6 → i ≠ 7 → i ≠ 9 → g2 i = g i) (e2 : ∀ i : Nat, 286 ≤ i → g2 i = g i) (n9 : (g 9).toInt ≤ (g2 9).toInt ∧ (g2 9).toInt ≤ (g 9).toInt + 1) {x : Int32} (hx : x ≠ 0) : rl_SA B f g2 fd (upd gd (nI r).toNatClampNeg x) (1 + r) := by
  obtain ⟨h1, h2, h3, h4, h5, h6, h7⟩ := h
  rw [nI_clamp (by omega)]
  have u1 : upd gd r x r = x := by show (if r = r then x else gd r) = x; rw [if_pos rfl]
  have u2 : ∀ a : Nat, a ≠ r → upd gd r x a = gd a := fun a ha => by show (if a = r then x else gd a) = gd a; rw [if_neg ha]
  have e : rl_sb f (upd gd r x) (1 + r) = rl_sb f gd r + (f (288 + 4 * r)).toInt := by
    rw [rl_sb.succ, if_pos ⟨hq, by rw [u1]; exact hx⟩]
    have : rl_sb f (upd gd r x) r = rl_sb f gd r := rsum_congr (fun a ha => by rw [u2 a (by omega)])
    rw [this]
  refine ⟨i1, p1, ?_, fun i a b c d => (e1 i a b c d).trans (h4 i a b c d), fun i a => (e2 i a).trans (h5 i a), ⟨by omega, by omega⟩, fun a ha => ?_⟩
  · rw [h5 (288 + 4 * r) (by omega)] at t
    rw [e]; omega
  · by_cases har : a = r
    · subst har; rcases ha with z | z
      · omega
      · exact absurd hq z
    · rw [u2 a har]; exact h7 a (by omega)
