/-- dropEmptyLots at place x: the lots behind it are not empty -/
def rl_D (B : Int) (f g : Nat → Int64) (x : Int) : Prop := rl_I B g ∧ rl_T g ≤ rl_T f ∧ (∀ i : Nat, (i < 46 ∧ i ≠ 7 ∨ 286 ≤ i) → g i = f i) ∧ x < (g 7).toInt ∧ (g 7).toInt ≤ (f 7).toInt ∧ ∀ a : Nat, x < (a : Int) → a < rnL g → 1 ≤ (g (48 + 6 * a)).toInt
theorem rl_D.init {B : Int} {f : Nat → Int64} (h : rl_I B f) {x : Int} (hx : x = (f 7).toInt - 1) : rl_D B f f x := ⟨h, Int.le_refl _, fun _ _ => rfl, by omega, Int.le_refl _, fun a ha hb => by unfold rnL at hb; omega⟩
theorem rz_eq0 {y : Int64} (h : y = 0) : y.toInt = 0 := by rw [h]; decide
theorem rz_ne0 {y : Int64} (h : ¬ y = 0) : y.toInt ≠ 0 := fun z => h (Int64.toInt_inj.mp (z.trans (by decide)))
theorem rl_D.skip {B : Int} {f g : Nat → Int64} {x y : Int} {n : Nat} (h : rl_D B f g x) (hx : x = (n : Int)) (hy : y = (n : Int) - 1) (hz : ¬ g (48 + 6 * n) = 0) : rl_D B f g y := by
  obtain ⟨h1, h2, h3, h4, h5, h6⟩ := h
  refine ⟨h1, h2, h3, by omega, h5, fun a ha hb => ?_⟩
  by_cases han : a = n
  · subst han
    have := (h1.2.2.2.1 a hb).1
    have := rz_ne0 hz
    omega
  · exact h6 a (by omega) hb
theorem rl_D.drop {B : Int} {f g : Nat → Int64} {x y : Int} {n : Nat} (h : rl_D B f g x) (hx : x = (n : Int)) (hy : y = (n : Int) - 1) (hz : g (48 + 6 * n) = 0) : rl_D B f (rg_dL g n) y := by
  obtain ⟨h1, h2, h3, h4, h5, h6⟩ := h
  have hn : n < rnL g := by unfold rnL; omega
  obtain ⟨q1, q2⟩ := h1.dL hn (rz_eq0 hz)
  have hn40 : (g 7).toInt ≤ 40 := h1.1.1.2.2.2.1.2
  have e7 : ((rg_dL g n) 7).toInt = (g 7).toInt - 1 := by unfold rg_dL; rw [rl_eq rfl, rg_sh_out (by omega)]; exact rz_dec (by omega)
  refine ⟨q1, Int.le_trans q2 h2, fun i hi => ?_, by omega, by omega, fun a ha hb => ?_⟩
  · unfold rg_dL; rw [rl_ne (by omega) rfl, rg_sh_out (by omega)]; exact h3 i hi
  · have hb2 : (a : Int) < (g 7).toInt - 1 := by unfold rnL at hb; omega
    have e9 : (rg_dL g n) (48 + 6 * a) = g (48 + 6 * (a + 1)) := by
      unfold rg_dL; rw [rl_ne (by omega) rfl, rg_sh_in (by omega) (by omega)]; congr 1; omega
    rw [e9]
    exact h6 (a + 1) (by omega) (by unfold rnL; omega)
/-- closeEmpty at place x: the series behind it are not empty -/
def rl_E (B : Int) (f g : Nat → Int64) (x : Int) : Prop := rl_I B g ∧ rl_T g ≤ rl_T f ∧ (∀ i : Nat, (i < 10 ∧ i ≠ 6 ∨ 46 ≤ i) → g i = f i) ∧ x < (g 6).toInt ∧ (g 6).toInt ≤ (f 6).toInt ∧ (∀ j : Nat, j < rnL g → 1 ≤ (g (48 + 6 * j)).toInt) ∧ ∀ a : Nat, x < (a : Int) → a < rnS g → 1 ≤ (g (19 + 5 * a)).toInt
theorem rl_E.init {B : Int} {f : Nat → Int64} (h : rl_I B f) (hp : ∀ j : Nat, j < rnL f → 1 ≤ (f (48 + 6 * j)).toInt) {x : Int} (hx : x = (f 6).toInt - 1) : rl_E B f f x := ⟨h, Int.le_refl _, fun _ _ => rfl, by omega, Int.le_refl _, hp, fun a ha hb => by unfold rnS at hb; omega⟩
theorem rl_E.skip {B : Int} {f g : Nat → Int64} {x y : Int} {n : Nat} (h : rl_E B f g x) (hx : x = (n : Int)) (hy : y = (n : Int) - 1) (hz : 0 < (g (19 + 5 * n)).toInt) : rl_E B f g y := by
  obtain ⟨h1, h2, h3, h4, h5, h6, h7⟩ := h
  refine ⟨h1, h2, h3, by omega, h5, h6, fun a ha hb => ?_⟩
  by_cases han : a = n
  · subst han; omega
  · exact h7 a (by omega) hb
theorem rl_E.drop {B : Int} {f g : Nat → Int64} {x y : Int} {n : Nat} {v : Int64} (h : rl_E B f g x) (hx : x = (n : Int)) (hy : y = (n : Int) - 1) (hz : (g (19 + 5 * n)).toInt ≤ 0) : rl_E B f (rg_dS (vp_updL g 11 v) n) y := by
  obtain ⟨h1, h2, h3, h4, h5, h6, h7⟩ := h
  have hn : n < rnS g := by unfold rnS; omega
  have hn6 : (g 6).toInt ≤ 6 := h1.1.1.2.2.1.2
  have hg4 : 0 ≤ ((vp_updL g 11 v) 4).toInt ∧ ((vp_updL g 11 v) 4).toInt ≤ 100 := by rw [rl_ne (by decide) rfl]; exact h1.1.2.2.2.1
  obtain ⟨p1, p2⟩ := h1.hdr (g := vp_updL g 11 v) (fun i a b c => rl_ne (by omega) rfl) hg4
  have nS : rnS (vp_updL g 11 v) = rnS g := by unfold rnS; rw [rl_ne (by decide) rfl]
  have nL : rnL (vp_updL g 11 v) = rnL g := by unfold rnL; rw [rl_ne (by decide) rfl]
  have hno : ∀ j : Nat, j < rnL (vp_updL g 11 v) → ((vp_updL g 11 v) (47 + 6 * j)).toInt ≠ ((vp_updL g 11 v) (16 + 5 * n)).toInt := fun j hj => by
    rw [nL] at hj
    rw [rl_ne (by omega) rfl, rl_ne (by omega) rfl]
    intro z
    have := h1.uj hn hj z
    have := h6 j hj
    omega
  obtain ⟨q1, q2⟩ := p1.dS (k := n) (by rw [nS]; exact hn) hno
  have e6 : ((rg_dS (vp_updL g 11 v) n) 6).toInt = (g 6).toInt - 1 := by unfold rg_dS; rw [rl_eq rfl, rg_sh_out (by omega), rl_ne (by decide) rfl]; exact rz_dec (by omega)
  have hA := (p1.2.1 n (by rw [nS]; exact hn)).1.1
  have eo : ∀ i : Nat, (i < 10 ∧ i ≠ 6 ∨ 46 ≤ i) → (rg_dS (vp_updL g 11 v) n) i = g i := fun i hi => by
    unfold rg_dS; rw [rl_ne (by omega) rfl, rg_sh_out (by omega), rl_ne (by omega) rfl]
  refine ⟨q1, by rw [q2]; omega, fun i hi => (eo i hi).trans (h3 i hi), by omega, by omega, fun j hj => ?_, fun a ha hb => ?_⟩
  · rw [eo _ (by omega)]
    exact h6 j (by unfold rnL at hj ⊢; rw [eo 7 (by omega)] at hj; exact hj)
  · have hb2 : (a : Int) < (g 6).toInt - 1 := by unfold rnS at hb; omega
    have e9 : (rg_dS (vp_updL g 11 v) n) (19 + 5 * a) = g (19 + 5 * (a + 1)) := by
      unfold rg_dS; rw [rl_ne (by omega) rfl, rg_sh_in (by omega) (by omega), rl_ne (by omega) rfl]; congr 1; omega
    rw [e9]
    exact h7 (a + 1) (by omega) (by unfold rnS; omega)
/-- redeemFrom at lot k: the lots from there on are as they were -/
def rl_F (B : Int) (f g : Nat → Int64) (k : Nat) : Prop := rl_I B g ∧ rl_T g ≤ rl_T f ∧ (∀ i : Nat, ¬ (10 ≤ i ∧ i ≤ 15) → (i < 16 ∨ 286 ≤ i) → g i = f i) ∧ ∀ a : Nat, k ≤ a → a < rnL g → 1 ≤ (g (48 + 6 * a)).toInt
theorem rl_F.next {B : Int} {f g : Nat → Int64} {k : Nat} (h : rl_F B f g k) : rl_F B f g (1 + k) := ⟨h.1, h.2.1, h.2.2.1, fun a ha hb => h.2.2.2 a (by omega) hb⟩
theorem rl_F.use {B : Int} {f g g2 : Nat → Int64} {k : Nat} (h : rl_F B f g k) (h1 : rl_I B g2) (h2 : rl_T g2 ≤ rl_T g) (h3 : ∀ i : Nat, ¬ (10 ≤ i ∧ i ≤ 15) → (i < 16 ∨ 46 ≤ i) → i ≠ 48 + 6 * k → i ≠ 50 + 6 * k → g2 i = g i) (hk : k < 40) : rl_F B f g2 (1 + k) := by
  refine ⟨h1, Int.le_trans h2 h.2.1, fun i a b => (h3 i a (by omega) (by omega) (by omega)).trans (h.2.2.1 i a b), fun a ha hb => ?_⟩
  rw [h3 _ (by omega) (by omega) (by omega) (by omega)]
  exact h.2.2.2 a (by omega) (by unfold rnL at hb ⊢; rw [h3 7 (by omega) (by omega) (by omega) (by omega)] at hb; exact hb)
