theorem rsum_mem2 {g : Nat → Int} {j k n : Nat} (h : ∀ i : Nat, i < n → 0 ≤ g i) (hj : j < k) (hk : k < n) : g j + g k ≤ rsum g n := by
  induction n with
  | zero => omega
  | succ n ih =>
    show g j + g k ≤ rsum g n + g n
    have hn := h n (Nat.lt_succ_self n)
    by_cases e : k = n
    · subst e
      have := rsum_mem (fun i hi => h i (Nat.lt_succ_of_lt hi)) hj
      omega
    · have := ih (fun i hi => h i (Nat.lt_succ_of_lt hi)) (by omega)
      omega
/-- the lots of a series before lot x hold no more than it -/
theorem rl_I.uxle0 {B : Int} {f : Nat → Int64} (h : rl_I B f) {k : Nat} (hk : k < rnS f) : ∀ x : Nat, x ≤ rnL f → 0 ≤ rl_ux f (f (16 + 5 * k)).toInt x ∧ rl_ux f (f (16 + 5 * k)).toInt x ≤ (f (19 + 5 * k)).toInt := by
  have nn : ∀ i : Nat, i < rnL f → 0 ≤ (if (f (47 + 6 * i)).toInt = (f (16 + 5 * k)).toInt then (f (48 + 6 * i)).toInt else 0) := fun i hi => by
    have := (h.2.2.2.1 i hi).1
    split <;> omega
  intro x hx
  refine ⟨rsum_nn (fun i hi => nn i (by omega)), ?_⟩
  rw [h.2.2.2.2.2.1 k hk]
  obtain ⟨d, hd⟩ : ∃ d : Nat, rnL f = x + d := ⟨rnL f - x, by omega⟩
  have q : ∀ y : Nat, y ≤ d → rl_ux f (f (16 + 5 * k)).toInt x ≤ rl_ux f (f (16 + 5 * k)).toInt (x + y) := fun y => by
    induction y with
    | zero => intro _; exact Int.le_refl _
    | succ y ih =>
      intro hy
      have a := ih (by omega)
      have b := nn (x + y) (by omega)
      show _ ≤ rl_ux f (f (16 + 5 * k)).toInt (x + y) + (if (f (47 + 6 * (x + y))).toInt = (f (16 + 5 * k)).toInt then (f (48 + 6 * (x + y))).toInt else 0)
      omega
  have a := q d (Nat.le_refl _)
  rw [← hd] at a
  exact a
/-- mergeOne at lot x: g the row, v what is left of the units of series k -/
def rl_MO (B : Int) (f g : Nat → Int64) (k : Nat) (P M : Int) (x : Nat) : Prop := (∃ v : Int64, rl_I B (vp_updL g (19 + 5 * k) v) ∧ rl_T (vp_updL g (19 + 5 * k) v) = rl_T f ∧ v.toInt = (f (19 + 5 * k)).toInt - rl_ux f (f (16 + 5 * k)).toInt x) ∧ (∀ i : Nat, i ≠ 19 → ¬ (46 ≤ i ∧ i < 46 + 6 * x) → g i = f i) ∧ (∀ j : Nat, j < x → (g (47 + 6 * j)).toInt ≠ (f (16 + 5 * k)).toInt) ∧ ((f 19).toInt ≤ (g 19).toInt ∧ M * (g 19).toInt + P * ((f (19 + 5 * k)).toInt - rl_ux f (f (16 + 5 * k)).toInt x) ≤ M * (f 19).toInt + P * (f (19 + 5 * k)).toInt) ∧ x ≤ rnL f
theorem rl_MO.init {B : Int} {f : Nat → Int64} (h : rl_I B f) (k : Nat) (P M : Int) : rl_MO B f f k P M 0 := by
  have e : vp_updL f (19 + 5 * k) (f (19 + 5 * k)) = f := by
    funext i
    by_cases hi : i = 19 + 5 * k
    · subst hi; exact rl_eq rfl
    · exact rl_ne hi rfl
  have z : rl_ux f (f (16 + 5 * k)).toInt 0 = 0 := rfl
  refine ⟨⟨f (19 + 5 * k), by rw [e]; exact h, by rw [e], by rw [z]; omega⟩, fun _ _ _ => rfl, fun j hj => absurd hj (Nat.not_lt_zero _), ⟨Int.le_refl _, by rw [z, Int.sub_zero]; exact Int.le_refl _⟩, Nat.zero_le _⟩
theorem rl_MO.skip {B : Int} {f g : Nat → Int64} {k x : Nat} {P M : Int} (h : rl_MO B f g k P M x) (hk6 : k < 6) (hx : x < rnL f) (hn : ¬ g (47 + 6 * x) = g (16 + 5 * k)) : rl_MO B f g k P M (1 + x) := by
  obtain ⟨⟨v, h1, h2, h3⟩, h4, h5, ⟨h6, h7⟩, h8⟩ := h
  have e16 : g (16 + 5 * k) = f (16 + 5 * k) := h4 _ (by omega) (by omega)
  have e : ¬ (f (47 + 6 * x)).toInt = (f (16 + 5 * k)).toInt := fun w => hn (by rw [h4 (47 + 6 * x) (by omega) (by omega), e16]; exact Int64.toInt_inj.mp w)
  have u : rl_ux f (f (16 + 5 * k)).toInt (1 + x) = rl_ux f (f (16 + 5 * k)).toInt x := by rw [rl_ux.succ, if_neg e, Int.add_zero]
  refine ⟨⟨v, h1, h2, by rw [u]; exact h3⟩, fun i a b => h4 i a (by omega), fun j hj => ?_, ⟨h6, by rw [u]; exact h7⟩, by omega⟩
  by_cases hjx : j = x
  · subst hjx; rw [h4 (47 + 6 * j) (by omega) (by omega)]; exact e
  · exact h5 j (by omega)
/-- a lot of the series goes over -/
theorem rl_MO.put {B : Int} {f g : Nat → Int64} {k x : Nat} {p m : Int64} (h : rl_MO B f g k p.toInt m.toInt x) (hf : rl_I B f) (hB : B ≤ 43520000000) (hk : k < rnS f) (hk0 : 1 ≤ k) (m0 : (f 1).toInt = 0) (hx : x < rnL f) (hn : g (47 + 6 * x) = g (16 + 5 * k)) (hp : 0 ≤ p.toInt ∧ p.toInt * (f (19 + 5 * k)).toInt ≤ (f (18 + 5 * k)).toInt * 100000) (hm : m.toInt = (f 20).toInt) (hM : m.toInt * (f 19).toInt ≤ (f 18).toInt * 100000) {g2 : Nat → Int64}
    (hg2 : g2 = vp_updL (vp_updL (vp_updL (vp_updL g (48 + 6 * x) (g (48 + 6 * x) * p / m)) (47 + 6 * x) (g 16)) (49 + 6 * x) m) 19 (g 19 + g (48 + 6 * x) * p / m)) : rl_MO B f g2 k p.toInt m.toInt (1 + x) := by
  obtain ⟨⟨v, h1, h2, h3⟩, h4, h5, ⟨h6, h7⟩, h8⟩ := h
  have hk6 : k < 6 := by have := hf.1.1.2.2.1; unfold rnS at hk; omega
  have e16 : g (16 + 5 * k) = f (16 + 5 * k) := h4 _ (by omega) (by omega)
  have e16' : g 16 = f 16 := h4 16 (by omega) (by omega)
  have e47 : g (47 + 6 * x) = f (47 + 6 * x) := h4 _ (by omega) (by omega)
  have e48 : g (48 + 6 * x) = f (48 + 6 * x) := h4 _ (by omega) (by omega)
  have en : (f (47 + 6 * x)).toInt = (f (16 + 5 * k)).toInt := by rw [← e47, ← e16, hn]
  have e6 : g 6 = f 6 := h4 6 (by omega) (by omega)
  have e7 : g 7 = f 7 := h4 7 (by omega) (by omega)
  have hl := hf.2.2.2.1 x hx
  have hlu := hl.1
  have hs := hf.2.1 k hk
  have hA := hs.2.2.2.1 m0 hk0
  have h0S : 0 < rnS f := by omega
  have hs0 := hf.2.1 0 h0S
  have M0 : 1000000 ≤ (f 20).toInt ∧ (f 20).toInt ≤ 2176000000000000 := hs0.2.1
  have ux := hf.uxle0 hk x (by omega)
  have ux1 := hf.uxle hk hx en
  have u : rl_ux f (f (16 + 5 * k)).toInt (1 + x) = rl_ux f (f (16 + 5 * k)).toInt x + (f (48 + 6 * x)).toInt := by rw [rl_ux.succ, if_pos en]
  -- the numbers
  have pU : (f (48 + 6 * x)).toInt * p.toInt ≤ p.toInt * (f (19 + 5 * k)).toInt := by rw [Int.mul_comm]; exact Int.mul_le_mul_of_nonneg_left (by omega) hp.1
  have p0 : 0 ≤ (f (48 + 6 * x)).toInt * p.toInt := Int.mul_nonneg hlu hp.1
  have n1 : (g (48 + 6 * x) * p).toInt = (f (48 + 6 * x)).toInt * p.toInt := by rw [rz_mul (by rw [e48]; omega) (by rw [e48]; omega), e48]
  have n2 : (g (48 + 6 * x) * p / m).toInt = (f (48 + 6 * x)).toInt * p.toInt / m.toInt := by rw [rz_div (by rw [n1]; exact p0) (by omega), n1]
  generalize hX : (f (48 + 6 * x)).toInt * p.toInt = X at *
  have q0 : 0 ≤ X / m.toInt := Int.ediv_nonneg p0 (by omega)
  have q1 : X / m.toInt * m.toInt ≤ X := Int.ediv_mul_le _ (by omega)
  have q2 : X / m.toInt * 1000000 ≤ X / m.toInt * m.toInt := Int.mul_le_mul_of_nonneg_left (by omega) q0
  have asum := hf.asum
  have as2 := rsum_mem2 (g := fun k => (f (18 + 5 * k)).toInt) (n := rnS f) (j := 0) (k := k) (fun i hi => (hf.2.1 i hi).1.1) (by omega) hk
  have as3 : (f 18).toInt + (f (18 + 5 * k)).toInt ≤ rsum (fun k => (f (18 + 5 * k)).toInt) (rnS f) := as2
  have hu0 := (h1.ubound (k := 0) (by unfold rnS; rw [rl_ne (by omega) rfl, e6]; exact h0S)).1
  have hu0' : (g 19).toInt ≤ 2176000000 := by rw [show vp_updL g (19 + 5 * k) v (19 + 5 * 0) = g 19 from rl_ne (by omega) rfl] at hu0; exact hu0
  have f19 : 0 ≤ (f 19).toInt := hs0.1.2
  have n3 : (g 19 + g (48 + 6 * x) * p / m).toInt = (g 19).toInt + X / m.toInt := by rw [rz_add (by rw [n2]; omega) (by rw [n2]; omega), n2]
  have vle : (f (48 + 6 * x)).toInt ≤ v.toInt := by omega
  have vb := Int64.toInt_lt v
  have n4 : (v - f (48 + 6 * x)).toInt = v.toInt - (f (48 + 6 * x)).toInt := rz_sub (by omega) (by omega)
  -- the row behind
  have a0 : ∀ i : Nat, i ≠ 19 → ¬ (47 + 6 * x ≤ i ∧ i ≤ 49 + 6 * x) → g2 i = g i := fun i a b => by rw [hg2, rl_ne a (rl_ne (by omega) (rl_ne (by omega) (rl_ne (by omega) rfl)))]
  have a19 : g2 19 = g 19 + g (48 + 6 * x) * p / m := by rw [hg2, rl_eq rfl]
  have a47 : g2 (47 + 6 * x) = f 16 := by rw [hg2, rl_ne (by omega) (rl_ne (by omega) (rl_eq rfl)), e16']
  have a48 : g2 (48 + 6 * x) = g (48 + 6 * x) * p / m := by rw [hg2, rl_ne (by omega) (rl_ne (by omega) (rl_ne (by omega) (rl_eq rfl)))]
  have a49 : g2 (49 + 6 * x) = m := by rw [hg2, rl_ne (by omega) (rl_eq rfl)]
  have G : ∀ i : Nat, i ≠ 19 + 5 * k → vp_updL g (19 + 5 * k) v i = g i := fun i a => rl_ne a rfl
  have G2 : ∀ i : Nat, i ≠ 19 + 5 * k → vp_updL g2 (19 + 5 * k) (v - f (48 + 6 * x)) i = g2 i := fun i a => rl_ne a rfl
  have Gk : vp_updL g (19 + 5 * k) v (19 + 5 * k) = v := rl_eq rfl
  have G2k : vp_updL g2 (19 + 5 * k) (v - f (48 + 6 * x)) (19 + 5 * k) = v - f (48 + 6 * x) := rl_eq rfl
  have mexp : m.toInt * ((g 19).toInt + X / m.toInt) = m.toInt * (g 19).toInt + X / m.toInt * m.toInt := by rw [Int.mul_add, Int.mul_comm m.toInt (X / m.toInt)]
  have prem : p.toInt * ((f (19 + 5 * k)).toInt - (rl_ux f (f (16 + 5 * k)).toInt x + (f (48 + 6 * x)).toInt)) = p.toInt * ((f (19 + 5 * k)).toInt - rl_ux f (f (16 + 5 * k)).toInt x) - X := by
    rw [← hX, Int.mul_comm (f (48 + 6 * x)).toInt, ← Int.mul_sub]; congr 1; omega
  have prem0 : 0 ≤ p.toInt * ((f (19 + 5 * k)).toInt - (rl_ux f (f (16 + 5 * k)).toInt x + (f (48 + 6 * x)).toInt)) := Int.mul_nonneg hp.1 (by omega)
  generalize hW : vp_updL g (19 + 5 * k) v = W at *
  generalize hW2 : vp_updL g2 (19 + 5 * k) (v - f (48 + 6 * x)) = W2 at *
  have w1 : W 1 = f 1 := (G 1 (by omega)).trans (h4 1 (by omega) (by omega))
  have c := h1.mov (g := W2) (s := k) (j := x) (by unfold rnS; rw [G 6 (by omega), e6]; exact hk) (by omega) (by unfold rnL; rw [G 7 (by omega), e7]; exact hx) (by rw [w1]; exact m0) (by rw [G (47 + 6 * x) (by omega), G (16 + 5 * k) (by omega), hn])
    (fun i a b d => (G2 i b).trans ((a0 i a d).trans (G i b).symm))
    (by rw [G2 _ (by omega), a47, G 16 (by omega), e16']) (by rw [G2 _ (by omega), a48, n2]; omega) (by rw [G2 _ (by omega), a49]; omega)
    (by rw [G2k, Gk, n4, G (48 + 6 * x) (by omega), e48]) (by rw [G2 19 (by omega), a19, n3, G 19 (by omega), G2 (48 + 6 * x) (by omega), a48, n2])
    (by rw [G 20 (by omega), h4 20 (by omega) (by omega), ← hm, G2 19 (by omega), a19, n3, mexp]; omega)
  refine ⟨⟨v - f (48 + 6 * x), by rw [hW2]; exact c.1, by rw [hW2, c.2]; exact h2, by rw [n4, u, h3]; omega⟩, fun i a b => (a0 i a (by omega)).trans (h4 i a (by omega)), fun j hj => ?_, ⟨by rw [a19, n3]; omega, by rw [a19, n3, u, prem, mexp]; omega⟩, by omega⟩
  by_cases hjx : j = x
  · subst hjx
    rw [a47]
    have := hf.2.2.1 0 k (by omega) hk
    have : (f 16).toInt < (f (16 + 5 * k)).toInt := this
    omega
  · rw [a0 _ (by omega) (by omega)]; exact h5 j (by omega)
/-- the merged series' money goes over, and it is dropped -/
theorem rl_MO.fin {B : Int} {f g g2 : Nat → Int64} {k x : Nat} {P M : Int} (h : rl_MO B f g k P M x) (hf : rl_I B f) (hB : B ≤ 43520000000) (hk : k < rnS f) (hk0 : 1 ≤ k) (hx : rnL f ≤ x) (hP0 : 0 ≤ P) (hg2 : g2 = vp_updL g 18 (g 18 + g (18 + 5 * k))) :
    rl_I B (rg_dS g2 k) ∧ rl_T (rg_dS g2 k) = rl_T f ∧ (∀ i : Nat, i ≠ 6 → i ≠ 18 → i ≠ 19 → ¬ (16 + 5 * k ≤ i ∧ i < 286) → (i < 46 ∨ 286 ≤ i) → rg_dS g2 k i = f i) ∧ (rg_dS g2 k 6).toInt = (f 6).toInt - 1 ∧ (rg_dS g2 k 18).toInt = (f 18).toInt + (f (18 + 5 * k)).toInt ∧ (f 19).toInt ≤ (rg_dS g2 k 19).toInt ∧ M * (rg_dS g2 k 19).toInt ≤ M * (f 19).toInt + P * (f (19 + 5 * k)).toInt ∧ ∀ i : Nat, 16 + 5 * k ≤ i → i < 41 → rg_dS g2 k i = f (5 + i) := by
  obtain ⟨⟨v, h1, h2, h3⟩, h4, h5, ⟨h6, h7⟩, h8⟩ := h
  have hk6 : k < 6 := by have := hf.1.1.2.2.1; unfold rnS at hk; omega
  have e6 : g 6 = f 6 := h4 6 (by omega) (by omega)
  have e7 : g 7 = f 7 := h4 7 (by omega) (by omega)
  have h6f : 1 ≤ (f 6).toInt := by unfold rnS at hk; omega
  have ux := hf.uxle0 hk x h8
  have pr0 : 0 ≤ P * ((f (19 + 5 * k)).toInt - rl_ux f (f (16 + 5 * k)).toInt x) := Int.mul_nonneg hP0 (by omega)
  have eA : g (18 + 5 * k) = f (18 + 5 * k) := h4 _ (by omega) (by omega)
  have e18 : g 18 = f 18 := h4 18 (by omega) (by omega)
  have hA := hf.abound hk
  have hA0 := hf.abound (k := 0) (by omega)
  have hs := (hf.2.1 k hk).1.1
  have hs0 := (hf.2.1 0 (by omega)).1.1
  have hA0' : 2 * (f 18).toInt ≤ B := hA0
  have hs0' : 0 ≤ (f 18).toInt := hs0
  have n18 : (g 18 + g (18 + 5 * k)).toInt = (f 18).toInt + (f (18 + 5 * k)).toInt := by rw [rz_add (by rw [e18, eA]; omega) (by rw [e18, eA]; omega), e18, eA]
  have G : ∀ i : Nat, i ≠ 19 + 5 * k → vp_updL g (19 + 5 * k) v i = g i := fun i a => rl_ne a rfl
  have a0 : ∀ i : Nat, i ≠ 18 → g2 i = g i := fun i a => by rw [hg2]; exact rl_ne a rfl
  have a18 : g2 18 = g 18 + g (18 + 5 * k) := by rw [hg2]; exact rl_eq rfl
  generalize hW : vp_updL g (19 + 5 * k) v = W at *
  have G2 : ∀ i : Nat, i ≠ 18 → vp_updL W 18 (g 18 + g (18 + 5 * k)) i = W i := fun i a => rl_ne a rfl
  have G218 : vp_updL W 18 (g 18 + g (18 + 5 * k)) 18 = g 18 + g (18 + 5 * k) := rl_eq rfl
  generalize hW2 : vp_updL W 18 (g 18 + g (18 + 5 * k)) = W2 at *
  have w6 : W 6 = f 6 := (G 6 (by omega)).trans e6
  have w18 : W (18 + 5 * 0) = f 18 := (G 18 (by omega)).trans e18
  have c := h1.chgA (B1 := 2 * B + rl_T f) (g := W2) (k := 0) (by unfold rnS; rw [w6]; unfold rnS at hk; omega) (fun i _ _ a => G2 i (by omega)) (by rw [show W2 (18 + 5 * 0) = g 18 + g (18 + 5 * k) from G218, n18]; omega) (fun _ z => absurd z (by omega))
    (by rw [show W2 (18 + 5 * 0) = g 18 + g (18 + 5 * k) from G218, n18, w18, h2]; omega)
  rw [show W2 (18 + 5 * 0) = g 18 + g (18 + 5 * k) from G218, n18, w18, h2] at c
  have w2 : ∀ i : Nat, i ≠ 18 → i ≠ 19 + 5 * k → W2 i = g i := fun i a b => (G2 i a).trans (G i b)
  have d1 : ∀ i : Nat, i ≠ 6 → ¬ (16 + 5 * k ≤ i ∧ i < 41) → rg_dS g2 k i = g2 i := fun i a b => by unfold rg_dS; rw [rl_ne a (rg_sh_out b)]
  have d2 : ∀ i : Nat, 16 + 5 * k ≤ i → i < 41 → rg_dS g2 k i = g2 (5 + i) := fun i a b => by unfold rg_dS; rw [rl_ne (by omega) (rg_sh_in a b)]
  have d6 : (rg_dS g2 k 6).toInt = (f 6).toInt - 1 := by unfold rg_dS; rw [rl_eq rfl, rg_sh_out (by omega), a0 6 (by omega), e6]; exact rz_dec h6f
  have g2w : ∀ i : Nat, i ≠ 19 + 5 * k → g2 i = W2 i := fun i a => by
    by_cases hi : i = 18
    · subst hi; rw [a18, G218]
    · rw [a0 i hi, w2 i hi a]
  have w2A : W2 (18 + 5 * k) = f (18 + 5 * k) := (w2 _ (by omega) (by omega)).trans eA
  have dr := c.1.dropS (g := rg_dS g2 k) (k := k) (by unfold rnS; rw [w2 6 (by omega) (by omega), e6]; exact hk) (fun j hj => by
      have hj2 : j < rnL f := by unfold rnL at hj ⊢; rw [w2 7 (by omega) (by omega), e7] at hj; exact hj
      rw [w2 (47 + 6 * j) (by omega) (by omega), w2 (16 + 5 * k) (by omega) (by omega), h4 (16 + 5 * k) (by omega) (by omega)]
      exact h5 j (by omega))
    (fun i a b d => (d1 i a (by omega)).trans (g2w i (by omega))) (fun i a b => by rw [d2 i a b, g2w _ (by omega), Nat.add_comm 5 i]) (by rw [d6, w2 6 (by omega) (by omega), e6])
  rw [c.2, w2A] at dr
  have T2 : rl_T (rg_dS g2 k) = rl_T f := by rw [dr.2]; omega
  refine ⟨dr.1.up (by rw [T2]; exact hf.2.2.2.2.2.2.2), T2, fun i a b d e z => ?_, d6, by rw [d1 18 (by omega) (by omega), a18]; exact n18, by rw [d1 19 (by omega) (by omega), a0 19 (by omega)]; exact h6, by rw [d1 19 (by omega) (by omega), a0 19 (by omega)]; omega, fun i a b => ?_⟩
  · rw [d1 i a (by omega), a0 i b]
    by_cases hi : i < 46
    · exact h4 i d (by omega)
    · have : rnL f ≤ 40 := by have := hf.1.1.2.2.2.1; unfold rnL; omega
      exact h4 i d (by omega)
  · rw [d2 i a b, a0 _ (by omega)]; exact h4 _ (by omega) (by omega)
/-- mergeAll at series k -/
def rl_MA (B : Int) (f g : Nat → Int64) (k : Nat) : Prop := rl_I B g ∧ rl_T g ≤ rl_T f ∧ (∀ i : Nat, (i < 10 ∧ i ≠ 6 ∨ 286 ≤ i) → g i = f i) ∧ (∀ a : Nat, a < rnS g → 1 ≤ (g (19 + 5 * a)).toInt) ∧ (g 20 = f 20 ∧ (g 1).toInt = 0) ∧ (g 20).toInt * (g 19).toInt ≤ (g 18).toInt * 100000 ∧ 1 ≤ k ∧ (k : Int) ≤ (g 6).toInt
theorem rl_MA.init {B : Int} {f : Nat → Int64} (h : rl_I B f) (hp : rl_P f) (hB : B ≤ 43920000000) (m1 : (f 1).toInt = 0) (h6 : 1 ≤ (f 6).toInt) (hg : rg_gross f 0 = f 20) : rl_MA B f f 1 := by
  have q := h.gross hB (k := 0) (by unfold rnS; omega) (by have := hp.2 0 (by unfold rnS; omega); omega)
  rw [hg] at q
  exact ⟨h, Int.le_refl _, fun _ _ => rfl, hp.2, ⟨rfl, m1⟩, q.2.2, Nat.le_refl _, h6⟩
theorem rl_MA.skip {B : Int} {f g : Nat → Int64} {k : Nat} (h : rl_MA B f g k) (hk : (k : Int) < (g 6).toInt) : rl_MA B f g (1 + k) := ⟨h.1, h.2.1, h.2.2.1, h.2.2.2.1, h.2.2.2.2.1, h.2.2.2.2.2.1, by omega, by omega⟩
theorem rl_MA.drop {B : Int} {f g g2 : Nat → Int64} {k : Nat} (h : rl_MA B f g k) (hB : B ≤ 43920000000) (hk : k < rnS g)
    (c1 : rl_I B g2) (c2 : rl_T g2 = rl_T g) (c3 : ∀ i : Nat, i ≠ 6 → i ≠ 18 → i ≠ 19 → ¬ (16 + 5 * k ≤ i ∧ i < 286) → (i < 46 ∨ 286 ≤ i) → g2 i = g i) (c4 : (g2 6).toInt = (g 6).toInt - 1) (c5 : (g2 18).toInt = (g 18).toInt + (g (18 + 5 * k)).toInt) (c6 : (g 19).toInt ≤ (g2 19).toInt)
    (c7 : (g 20).toInt * (g2 19).toInt ≤ (g 20).toInt * (g 19).toInt + (rg_gross g k).toInt * (g (19 + 5 * k)).toInt) (c8 : ∀ i : Nat, 16 + 5 * k ≤ i → i < 41 → g2 i = g (5 + i)) : rl_MA B f g2 k := by
  obtain ⟨h1, h2, h3, h4, ⟨h5, h5b⟩, h6, h7, h8⟩ := h
  have hk6 : k < 6 := by have := h1.1.1.2.2.1; unfold rnS at hk; omega
  have e20 : g2 20 = g 20 := c3 20 (by omega) (by omega) (by omega) (by omega) (by omega)
  have q := h1.gross hB hk (by have := h4 k hk; omega)
  refine ⟨c1, by rw [c2]; exact h2, fun i hi => (c3 i (by omega) (by omega) (by omega) (by omega) (by omega)).trans (h3 i hi), fun a ha => ?_, ⟨e20.trans h5, by rw [c3 1 (by omega) (by omega) (by omega) (by omega) (by omega)]; exact h5b⟩, ?_, h7, by unfold rnS at hk; omega⟩
  · have ha2 : a + 1 < rnS g := by unfold rnS at ha ⊢; rw [c4] at ha; omega
    have ha6 : a < 5 := by have := h1.1.1.2.2.1; unfold rnS at ha2; omega
    by_cases hak : a < k
    · by_cases ha0 : a = 0
      · subst ha0
        have := h4 0 (by omega)
        have w : (g 19).toInt ≤ (g2 19).toInt := c6
        show 1 ≤ (g2 19).toInt
        have w2 : 1 ≤ (g 19).toInt := this
        omega
      · rw [c3 (19 + 5 * a) (by omega) (by omega) (by omega) (by omega) (by omega)]; exact h4 a (by omega)
    · rw [c8 (19 + 5 * a) (by omega) (by omega), show 5 + (19 + 5 * a) = 19 + 5 * (a + 1) by omega]; exact h4 (a + 1) ha2
  · rw [e20, c5, Int.add_mul]
    have := q.2.2
    omega
