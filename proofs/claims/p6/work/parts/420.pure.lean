/-! THE REFERENCE'S ROW OF NUMBERS: what stays true of it (nothing of the machine here) -/
def rsum (g : Nat → Int) : Nat → Int
  | 0 => 0
  | n + 1 => rsum g n + g n
theorem rsum_congr {g h : Nat → Int} : ∀ {n : Nat}, (∀ i : Nat, i < n → h i = g i) → rsum h n = rsum g n
  | 0, _ => rfl
  | n + 1, e => by
    show rsum h n + h n = rsum g n + g n
    rw [rsum_congr (fun i hi => e i (Nat.lt_succ_of_lt hi)), e n (Nat.lt_succ_self n)]
theorem rsum_upd {g h : Nat → Int} {j : Nat} : ∀ {n : Nat}, j < n → (∀ i : Nat, i < n → i ≠ j → h i = g i) → rsum h n = rsum g n - g j + h j
  | 0, hj, _ => absurd hj (Nat.not_lt_zero _)
  | n + 1, hj, e => by
    show rsum h n + h n = rsum g n + g n - g j + h j
    by_cases hn : j = n
    · subst hn
      rw [rsum_congr (fun i hi => e i (Nat.lt_succ_of_lt hi) (Nat.ne_of_lt hi))]
      omega
    · rw [rsum_upd (n := n) (by omega) (fun i hi hne => e i (Nat.lt_succ_of_lt hi) hne), e n (Nat.lt_succ_self n) (fun z => hn z.symm)]
      omega
theorem rsum_drop {g h : Nat → Int} {j : Nat} : ∀ {n : Nat}, j ≤ n → (∀ i : Nat, i < j → h i = g i) → (∀ i : Nat, j ≤ i → i < n → h i = g (i + 1)) → rsum h n = rsum g (n + 1) - g j
  | 0, hj, _, _ => by
    have : j = 0 := by omega
    subst this
    show (0 : Int) = 0 + g 0 - g 0
    omega
  | n + 1, hj, h1, h2 => by
    show rsum h n + h n = rsum g n + g n + g (n + 1) - g j
    by_cases hn : j = n + 1
    · subst hn
      rw [rsum_congr (fun i hi => h1 i (Nat.lt_succ_of_lt hi)), h1 n (Nat.lt_succ_self n)]
      omega
    · have ih := rsum_drop (n := n) (by omega) h1 (fun i a b => h2 i a (Nat.lt_succ_of_lt b))
      rw [ih, h2 n (by omega) (Nat.lt_succ_self n)]
      show rsum g n + g n - g j + g (n + 1) = _
      omega
theorem rsum_nn {g : Nat → Int} : ∀ {n : Nat}, (∀ i : Nat, i < n → 0 ≤ g i) → 0 ≤ rsum g n
  | 0, _ => Int.le_refl 0
  | n + 1, e => by
    have h1 := rsum_nn (fun i hi => e i (Nat.lt_succ_of_lt hi))
    have h2 := e n (Nat.lt_succ_self n)
    show 0 ≤ rsum g n + g n
    omega
theorem rsum_mem {g : Nat → Int} {j : Nat} : ∀ {n : Nat}, (∀ i : Nat, i < n → 0 ≤ g i) → j < n → g j ≤ rsum g n
  | 0, _, hj => absurd hj (Nat.not_lt_zero _)
  | n + 1, e, hj => by
    show g j ≤ rsum g n + g n
    by_cases hn : j = n
    · subst hn
      have := rsum_nn (fun i hi => e i (Nat.lt_succ_of_lt hi))
      omega
    · have h1 := rsum_mem (fun i hi => e i (Nat.lt_succ_of_lt hi)) (by omega : j < n)
      have h2 := e n (Nat.lt_succ_self n)
      omega
theorem rsum_le {g h : Nat → Int} : ∀ {n : Nat}, (∀ i : Nat, i < n → g i ≤ h i) → rsum g n ≤ rsum h n
  | 0, _ => Int.le_refl 0
  | n + 1, e => by
    have h1 := rsum_le (fun i hi => e i (Nat.lt_succ_of_lt hi))
    have h2 := e n (Nat.lt_succ_self n)
    show rsum g n + g n ≤ rsum h n + h n
    omega
theorem rsum_cst {g : Nat → Int} {c : Int} : ∀ {n : Nat}, (∀ i : Nat, i < n → g i ≤ c) → rsum g n ≤ (n : Int) * c
  | 0, _ => by show (0 : Int) ≤ 0 * c; omega
  | n + 1, e => by
    have h1 := rsum_cst (fun i hi => e i (Nat.lt_succ_of_lt hi))
    have h2 := e n (Nat.lt_succ_self n)
    show rsum g n + g n ≤ ((n + 1 : Nat) : Int) * c
    have h3 : ((n + 1 : Nat) : Int) * c = (n : Int) * c + c := by rw [Int.natCast_add, Int.add_mul]; simp
    omega
theorem rsum_z {g : Nat → Int} : ∀ {n : Nat}, (∀ i : Nat, i < n → g i = 0) → rsum g n = 0
  | 0, _ => rfl
  | n + 1, e => by
    show rsum g n + g n = 0
    rw [rsum_z (fun i hi => e i (Nat.lt_succ_of_lt hi)), e n (Nat.lt_succ_self n)]; rfl
/-- how many series, lots, requests -/
abbrev rnS (f : Nat → Int64) : Nat := (f 6).toInt.toNat
abbrev rnL (f : Nat → Int64) : Nat := (f 7).toInt.toNat
abbrev rnR (f : Nat → Int64) : Nat := (f 8).toInt.toNat
/-- the units of the lots of a series -/
def rl_u (f : Nat → Int64) (n : Int) : Int := rsum (fun j => if (f (47 + 6 * j)).toInt = n then (f (48 + 6 * j)).toInt else 0) (rnL f)
/-- twice the money in the fund and on the way to it -/
def rl_T (f : Nat → Int64) : Int := 2 * rsum (fun k => (f (18 + 5 * k)).toInt) (rnS f) + 2 * rsum (fun j => (f (50 + 6 * j)).toInt) (rnL f) + 3 * rsum (fun r => if (f (287 + 4 * r)).toInt = 0 then (f (288 + 4 * r)).toInt else 0) (rnR f)
/-- a series -/
def rl_S (f : Nat → Int64) (k : Nat) : Prop := (0 ≤ (f (18 + 5 * k)).toInt ∧ 0 ≤ (f (19 + 5 * k)).toInt) ∧ (1000000 ≤ (f (20 + 5 * k)).toInt ∧ (f (20 + 5 * k)).toInt ≤ 2176000000000000) ∧ ((f 1).toInt = 0 → (f (20 + 5 * k)).toInt * (f (19 + 5 * k)).toInt ≤ 2176000000000000) ∧ ((f 1).toInt = 0 → 1 ≤ k → (f (18 + 5 * k)).toInt ≤ 1000000000) ∧ (0 ≤ (f (16 + 5 * k)).toInt ∧ (f (16 + 5 * k)).toInt < (f 9).toInt)
/-- a lot -/
def rl_L (f : Nat → Int64) (j : Nat) : Prop := 0 ≤ (f (48 + 6 * j)).toInt ∧ (0 ≤ (f (49 + 6 * j)).toInt ∧ (f (49 + 6 * j)).toInt ≤ 2199023255552000) ∧ (0 ≤ (f (50 + 6 * j)).toInt ∧ (f (50 + 6 * j)).toInt ≤ 5000000) ∧ ((f 1).toInt = 0 → (f (48 + 6 * j)).toInt ≤ 100000000 ∧ (f (50 + 6 * j)).toInt = 0) ∧ ((f 1).toInt = 1 → 10 * (f (48 + 6 * j)).toInt + (f (50 + 6 * j)).toInt ≤ 105000000)
/-- a request -/
def rl_Q (f : Nat → Int64) (r : Nat) : Prop := ((f (287 + 4 * r)).toInt = 0 ∨ (f (287 + 4 * r)).toInt = 1) ∧ ((f (287 + 4 * r)).toInt = 0 → 0 ≤ (f (288 + 4 * r)).toInt ∧ (f (288 + 4 * r)).toInt ≤ 10000000)
/-- the row: header, series, their order, lots, their series, the sums of units, requests, the money -/
def rl_I (B : Int) (f : Nat → Int64) : Prop := (rl_h f ∧ (0 ≤ (f 2).toInt ∧ (f 2).toInt ≤ 9999) ∧ (0 ≤ (f 3).toInt ∧ (f 3).toInt ≤ 50) ∧ (0 ≤ (f 4).toInt ∧ (f 4).toInt ≤ 100) ∧ ((f 1).toInt = 1 → (f 6).toInt ≤ 1)) ∧ (∀ k : Nat, k < rnS f → rl_S f k) ∧ (∀ a b : Nat, a < b → b < rnS f → (f (16 + 5 * a)).toInt < (f (16 + 5 * b)).toInt) ∧ (∀ j : Nat, j < rnL f → rl_L f j) ∧ (∀ j : Nat, j < rnL f → ∃ k : Nat, k < rnS f ∧ (f (16 + 5 * k)).toInt = (f (47 + 6 * j)).toInt) ∧ (∀ k : Nat, k < rnS f → (f (19 + 5 * k)).toInt = rl_u f (f (16 + 5 * k)).toInt) ∧ (∀ r : Nat, r < rnR f → rl_Q f r) ∧ rl_T f ≤ B
/-- and no lot and no series is empty -/
def rl_P (f : Nat → Int64) : Prop := (∀ j : Nat, j < rnL f → 1 ≤ (f (48 + 6 * j)).toInt) ∧ (∀ k : Nat, k < rnS f → 1 ≤ (f (19 + 5 * k)).toInt)
theorem rl_I.num {B : Int} {f : Nat → Int64} (h : rl_I B f) {a b : Nat} (ha : a < rnS f) (hb : b < rnS f) (e : (f (16 + 5 * a)).toInt = (f (16 + 5 * b)).toInt) : a = b := by
  rcases Nat.lt_trichotomy a b with h1 | h1 | h1
  · have := h.2.2.1 a b h1 hb; omega
  · exact h1
  · have := h.2.2.1 b a h1 ha; omega
/-- a lot's units are among its series' -/
theorem rl_I.uj {B : Int} {f : Nat → Int64} (h : rl_I B f) {k j : Nat} (hk : k < rnS f) (hj : j < rnL f) (e : (f (47 + 6 * j)).toInt = (f (16 + 5 * k)).toInt) : (f (48 + 6 * j)).toInt ≤ (f (19 + 5 * k)).toInt := by
  rw [h.2.2.2.2.2.1 k hk]
  unfold rl_u
  have h1 := rsum_mem (g := fun j => if (f (47 + 6 * j)).toInt = (f (16 + 5 * k)).toInt then (f (48 + 6 * j)).toInt else 0) (n := rnL f) (j := j) (fun i hi => by
    show 0 ≤ (if (f (47 + 6 * i)).toInt = (f (16 + 5 * k)).toInt then (f (48 + 6 * i)).toInt else 0)
    split
    · exact (h.2.2.2.1 i hi).1
    · exact Int.le_refl 0) hj
  have h2 : (if (f (47 + 6 * j)).toInt = (f (16 + 5 * k)).toInt then (f (48 + 6 * j)).toInt else 0) = (f (48 + 6 * j)).toInt := if_pos e
  rw [← h2]; exact h1
/-- the money bounds: a series, a lot -/
theorem rl_I.parts {B : Int} {f : Nat → Int64} (h : rl_I B f) : 0 ≤ rsum (fun k => (f (18 + 5 * k)).toInt) (rnS f) ∧ 0 ≤ rsum (fun j => (f (50 + 6 * j)).toInt) (rnL f) ∧ 0 ≤ rsum (fun r => if (f (287 + 4 * r)).toInt = 0 then (f (288 + 4 * r)).toInt else 0) (rnR f) := by
  refine ⟨rsum_nn fun i hi => (h.2.1 i hi).1.1, rsum_nn fun i hi => (h.2.2.2.1 i hi).2.2.1.1, rsum_nn fun i hi => ?_⟩
  show 0 ≤ (if (f (287 + 4 * i)).toInt = 0 then (f (288 + 4 * i)).toInt else 0)
  split
  · rename_i h1; exact ((h.2.2.2.2.2.2.1 i hi).2 h1).1
  · exact Int.le_refl 0
theorem rl_I.asum {B : Int} {f : Nat → Int64} (h : rl_I B f) : 2 * rsum (fun k => (f (18 + 5 * k)).toInt) (rnS f) ≤ B := by
  obtain ⟨h1, h2, h3⟩ := h.parts
  have h4 := h.2.2.2.2.2.2.2
  unfold rl_T at h4
  omega
theorem rl_I.abound {B : Int} {f : Nat → Int64} (h : rl_I B f) {k : Nat} (hk : k < rnS f) : 2 * (f (18 + 5 * k)).toInt ≤ B := by
  have h1 := rsum_mem (g := fun k => (f (18 + 5 * k)).toInt) (n := rnS f) (j := k) (fun i hi => (h.2.1 i hi).1.1) hk
  have h2 := h.asum
  have h3 : (f (18 + 5 * k)).toInt ≤ rsum (fun k => (f (18 + 5 * k)).toInt) (rnS f) := h1
  omega
/-- one series and one of its lots change -/
theorem rl_I.chg {B : Int} {f g : Nat → Int64} (h : rl_I B f) {k j : Nat} (hk : k < rnS f) (hj : j < rnL f) (hn : (f (47 + 6 * j)).toInt = (f (16 + 5 * k)).toInt)
    (e : ∀ i : Nat, i ≠ 5 → ¬ (10 ≤ i ∧ i ≤ 15) → ¬ (18 + 5 * k ≤ i ∧ i ≤ 20 + 5 * k) → ¬ (48 + 6 * j ≤ i ∧ i ≤ 50 + 6 * j) → g i = f i)
    (cS : (0 ≤ (g (18 + 5 * k)).toInt ∧ 0 ≤ (g (19 + 5 * k)).toInt) ∧ (1000000 ≤ (g (20 + 5 * k)).toInt ∧ (g (20 + 5 * k)).toInt ≤ 2176000000000000) ∧ ((f 1).toInt = 0 → (g (20 + 5 * k)).toInt * (g (19 + 5 * k)).toInt ≤ 2176000000000000) ∧ ((f 1).toInt = 0 → 1 ≤ k → (g (18 + 5 * k)).toInt ≤ 1000000000))
    (cL : 0 ≤ (g (48 + 6 * j)).toInt ∧ (0 ≤ (g (49 + 6 * j)).toInt ∧ (g (49 + 6 * j)).toInt ≤ 2199023255552000) ∧ (0 ≤ (g (50 + 6 * j)).toInt ∧ (g (50 + 6 * j)).toInt ≤ 5000000) ∧ ((f 1).toInt = 0 → (g (48 + 6 * j)).toInt ≤ 100000000 ∧ (g (50 + 6 * j)).toInt = 0) ∧ ((f 1).toInt = 1 → 10 * (g (48 + 6 * j)).toInt + (g (50 + 6 * j)).toInt ≤ 105000000))
    (hu : (g (19 + 5 * k)).toInt - (f (19 + 5 * k)).toInt = (g (48 + 6 * j)).toInt - (f (48 + 6 * j)).toInt)
    (hT : (g (18 + 5 * k)).toInt + (g (50 + 6 * j)).toInt ≤ (f (18 + 5 * k)).toInt + (f (50 + 6 * j)).toInt) : rl_I B g ∧ rl_T g ≤ rl_T f := by
  obtain ⟨⟨⟨h0, h1, h6, h7, h8⟩, r2, r3, r4, r5⟩, hS, hN, hL, hE, hU, hQ, hB⟩ := h
  have hk6 : k < 6 := by have := hk; unfold rnS at this; omega
  have hj40 : j < 40 := by have := hj; unfold rnL at this; omega
  have e0 : g 0 = f 0 := e 0 (by decide) (by omega) (by omega) (by omega)
  have e1 : g 1 = f 1 := e 1 (by decide) (by omega) (by omega) (by omega)
  have e2 : g 2 = f 2 := e 2 (by decide) (by omega) (by omega) (by omega)
  have e3 : g 3 = f 3 := e 3 (by decide) (by omega) (by omega) (by omega)
  have e4 : g 4 = f 4 := e 4 (by decide) (by omega) (by omega) (by omega)
  have e6 : g 6 = f 6 := e 6 (by decide) (by omega) (by omega) (by omega)
  have e7 : g 7 = f 7 := e 7 (by decide) (by omega) (by omega) (by omega)
  have e8 : g 8 = f 8 := e 8 (by decide) (by omega) (by omega) (by omega)
  have e9 : g 9 = f 9 := e 9 (by decide) (by omega) (by omega) (by omega)
  have nS : rnS g = rnS f := by unfold rnS; rw [e6]
  have nL : rnL g = rnL f := by unfold rnL; rw [e7]
  have nR : rnR g = rnR f := by unfold rnR; rw [e8]
  have sb : ∀ a : Nat, a < rnS f → a < 6 := fun a ha => by unfold rnS at ha; omega
  have lb : ∀ a : Nat, a < rnL f → a < 40 := fun a ha => by unfold rnL at ha; omega
  have es : ∀ a c : Nat, a < 6 → (a ≠ k ∨ c < 2) → c < 5 → g (16 + c + 5 * a) = f (16 + c + 5 * a) := fun a c ha hc h5 => e _ (by omega) (by omega) (by rcases hc with hc | hc <;> omega) (by omega)
  have el : ∀ a c : Nat, a < 40 → (a ≠ j ∨ c < 2) → c < 6 → g (46 + c + 6 * a) = f (46 + c + 6 * a) := fun a c ha hc h5 => e _ (by omega) (by omega) (by omega) (by rcases hc with hc | hc <;> omega)
  have eq : ∀ a c : Nat, c < 4 → g (286 + c + 4 * a) = f (286 + c + 4 * a) := fun a c hc => e _ (by omega) (by omega) (by omega) (by omega)
  have s0 : ∀ a : Nat, a < 6 → g (16 + 5 * a) = f (16 + 5 * a) := fun a ha => es a 0 ha (Or.inr (by decide)) (by decide)
  have l1 : ∀ a : Nat, a < 40 → g (47 + 6 * a) = f (47 + 6 * a) := fun a ha => el a 1 ha (Or.inr (by decide)) (by decide)
  have hT2 : rl_T g ≤ rl_T f := by
    unfold rl_T
    rw [nS, nL, nR]
    have t1 := rsum_upd (g := fun k => (f (18 + 5 * k)).toInt) (h := fun k => (g (18 + 5 * k)).toInt) hk (fun i hi hne => by show (g (18 + 5 * i)).toInt = (f (18 + 5 * i)).toInt; rw [es i 2 (sb i hi) (Or.inl hne) (by decide)])
    have t2 := rsum_upd (g := fun k => (f (50 + 6 * k)).toInt) (h := fun k => (g (50 + 6 * k)).toInt) hj (fun i hi hne => by show (g (50 + 6 * i)).toInt = (f (50 + 6 * i)).toInt; rw [el i 4 (lb i hi) (Or.inl hne) (by decide)])
    have t3 : rsum (fun r => if (g (287 + 4 * r)).toInt = 0 then (g (288 + 4 * r)).toInt else 0) (rnR f) = rsum (fun r => if (f (287 + 4 * r)).toInt = 0 then (f (288 + 4 * r)).toInt else 0) (rnR f) := rsum_congr (fun i _ => by rw [eq i 1 (by decide), eq i 2 (by decide)])
    rw [t1, t2, t3]
    omega
  refine ⟨⟨⟨⟨by rw [e0]; exact h0, by rw [e1]; exact h1, by rw [e6]; exact h6, by rw [e7]; exact h7, by rw [e8]; exact h8⟩, by rw [e2]; exact r2, by rw [e3]; exact r3, by rw [e4]; exact r4, by rw [e1, e6]; exact r5⟩, fun a ha => ?_, fun a b hab hb => ?_, fun a ha => ?_, fun a ha => ?_, fun a ha => ?_, fun a ha => ?_, Int.le_trans hT2 hB⟩, hT2⟩
  · rw [nS] at ha
    have ha6 := sb a ha
    unfold rl_S
    by_cases hak : a = k
    · subst hak
      rw [e1, s0 a ha6, e9]
      exact ⟨cS.1, cS.2.1, cS.2.2.1, cS.2.2.2, (hS a ha).2.2.2.2⟩
    · rw [e1, s0 a ha6, e9, es a 2 ha6 (Or.inl hak) (by decide), es a 3 ha6 (Or.inl hak) (by decide), es a 4 ha6 (Or.inl hak) (by decide)]
      exact hS a ha
  · rw [nS] at hb
    rw [s0 a (by have := sb b hb; omega), s0 b (sb b hb)]
    exact hN a b hab hb
  · rw [nL] at ha
    unfold rl_L
    by_cases haj : a = j
    · subst haj; rw [e1]; exact cL
    · rw [e1, el a 2 (lb a ha) (Or.inl haj) (by decide), el a 3 (lb a ha) (Or.inl haj) (by decide), el a 4 (lb a ha) (Or.inl haj) (by decide)]
      exact hL a ha
  · rw [nL] at ha
    obtain ⟨b, hb, hbe⟩ := hE a ha
    exact ⟨b, by rw [nS]; exact hb, by rw [s0 b (sb b hb), l1 a (lb a ha)]; exact hbe⟩
  · rw [nS] at ha
    have ha6 := sb a ha
    rw [s0 a ha6]
    have hold := hU a ha
    unfold rl_u at hold ⊢
    rw [nL]
    have t := rsum_upd (g := fun j => if (f (47 + 6 * j)).toInt = (f (16 + 5 * a)).toInt then (f (48 + 6 * j)).toInt else 0) (h := fun j => if (g (47 + 6 * j)).toInt = (f (16 + 5 * a)).toInt then (g (48 + 6 * j)).toInt else 0) hj (fun i hi hne => by
      show (if (g (47 + 6 * i)).toInt = (f (16 + 5 * a)).toInt then (g (48 + 6 * i)).toInt else 0) = (if (f (47 + 6 * i)).toInt = (f (16 + 5 * a)).toInt then (f (48 + 6 * i)).toInt else 0)
      rw [l1 i (lb i hi), el i 2 (lb i hi) (Or.inl hne) (by decide)])
    rw [t, ← hold]
    by_cases hak : a = k
    · subst hak
      rw [l1 j hj40, if_pos hn, if_pos hn]
      omega
    · have hne : ¬ (f (47 + 6 * j)).toInt = (f (16 + 5 * a)).toInt := fun z => by
        rcases Nat.lt_or_gt_of_ne hak with h9 | h9
        · have := hN a k h9 hk; omega
        · have := hN k a h9 ha; omega
      have c1 : (if (g (47 + 6 * j)).toInt = (f (16 + 5 * a)).toInt then (g (48 + 6 * j)).toInt else 0) = 0 := by rw [l1 j hj40]; exact if_neg hne
      have c2 : (if (f (47 + 6 * j)).toInt = (f (16 + 5 * a)).toInt then (f (48 + 6 * j)).toInt else 0) = 0 := if_neg hne
      have c3 : g (19 + 5 * a) = f (19 + 5 * a) := es a 3 ha6 (Or.inl hak) (by decide)
      show (g (19 + 5 * a)).toInt = (f (19 + 5 * a)).toInt - (if (f (47 + 6 * j)).toInt = (f (16 + 5 * a)).toInt then (f (48 + 6 * j)).toInt else 0) + (if (g (47 + 6 * j)).toInt = (f (16 + 5 * a)).toInt then (g (48 + 6 * j)).toInt else 0)
      rw [c1, c2, c3]; omega
  · rw [nR] at ha
    have := hQ a ha
    unfold rl_Q at this ⊢
    rw [eq a 1 (by decide), eq a 2 (by decide)]
    exact this

theorem rl_I.up {B B1 : Int} {f : Nat → Int64} (h : rl_I B f) (hb : rl_T f ≤ B1) : rl_I B1 f := ⟨h.1, h.2.1, h.2.2.1, h.2.2.2.1, h.2.2.2.2.1, h.2.2.2.2.2.1, h.2.2.2.2.2.2.1, hb⟩
/-- the assets of one series change -/
theorem rl_I.chgA {B B1 : Int} {f g : Nat → Int64} (h : rl_I B f) {k : Nat} (hk : k < rnS f)
    (e : ∀ i : Nat, i ≠ 5 → ¬ (10 ≤ i ∧ i ≤ 15) → i ≠ 18 + 5 * k → g i = f i) (hA : 0 ≤ (g (18 + 5 * k)).toInt) (hA1 : (f 1).toInt = 0 → 1 ≤ k → (g (18 + 5 * k)).toInt ≤ 1000000000)
    (hB : rl_T f - 2 * (f (18 + 5 * k)).toInt + 2 * (g (18 + 5 * k)).toInt ≤ B1) : rl_I B1 g ∧ rl_T g = rl_T f - 2 * (f (18 + 5 * k)).toInt + 2 * (g (18 + 5 * k)).toInt := by
  obtain ⟨⟨⟨h0, h1, h6, h7, h8⟩, r2, r3, r4, r5⟩, hS, hN, hL, hE, hU, hQ, _⟩ := h
  have hk6 : k < 6 := by have := hk; unfold rnS at this; omega
  have hh : ∀ i : Nat, i < 10 → i ≠ 5 → g i = f i := fun i a b => e i b (by omega) (by omega)
  have e0 := hh 0 (by decide) (by decide)
  have e1 := hh 1 (by decide) (by decide)
  have e2 := hh 2 (by decide) (by decide)
  have e3 := hh 3 (by decide) (by decide)
  have e4 := hh 4 (by decide) (by decide)
  have e6 := hh 6 (by decide) (by decide)
  have e7 := hh 7 (by decide) (by decide)
  have e8 := hh 8 (by decide) (by decide)
  have e9 := hh 9 (by decide) (by decide)
  have nS : rnS g = rnS f := by unfold rnS; rw [e6]
  have nL : rnL g = rnL f := by unfold rnL; rw [e7]
  have nR : rnR g = rnR f := by unfold rnR; rw [e8]
  have sb : ∀ a : Nat, a < rnS f → a < 6 := fun a ha => by unfold rnS at ha; omega
  have es : ∀ a c : Nat, c < 5 → a ≠ k ∨ c ≠ 2 → g (16 + c + 5 * a) = f (16 + c + 5 * a) := fun a c h5 hc => e _ (by omega) (by omega) (by rcases hc with hc | hc <;> omega)
  have el : ∀ i : Nat, 46 ≤ i → g i = f i := fun i hi => e i (by omega) (by omega) (by omega)
  have hT : rl_T g = rl_T f - 2 * (f (18 + 5 * k)).toInt + 2 * (g (18 + 5 * k)).toInt := by
    unfold rl_T
    rw [nS, nL, nR]
    have t1 := rsum_upd (g := fun k => (f (18 + 5 * k)).toInt) (h := fun k => (g (18 + 5 * k)).toInt) hk (fun i hi hne => by show (g (18 + 5 * i)).toInt = (f (18 + 5 * i)).toInt; rw [es i 2 (by decide) (Or.inl hne)])
    have t2 : rsum (fun j => (g (50 + 6 * j)).toInt) (rnL f) = rsum (fun j => (f (50 + 6 * j)).toInt) (rnL f) := rsum_congr (fun i _ => by rw [el _ (by omega)])
    have t3 : rsum (fun r => if (g (287 + 4 * r)).toInt = 0 then (g (288 + 4 * r)).toInt else 0) (rnR f) = rsum (fun r => if (f (287 + 4 * r)).toInt = 0 then (f (288 + 4 * r)).toInt else 0) (rnR f) := rsum_congr (fun i _ => by rw [el _ (by omega), el (288 + 4 * i) (by omega)])
    rw [t1, t2, t3]
    omega
  refine ⟨⟨⟨⟨by rw [e0]; exact h0, by rw [e1]; exact h1, by rw [e6]; exact h6, by rw [e7]; exact h7, by rw [e8]; exact h8⟩, by rw [e2]; exact r2, by rw [e3]; exact r3, by rw [e4]; exact r4, by rw [e1, e6]; exact r5⟩, fun a ha => ?_, fun a b hab hb => ?_, fun a ha => ?_, fun a ha => ?_, fun a ha => ?_, fun a ha => ?_, by rw [hT]; exact hB⟩, hT⟩
  · rw [nS] at ha
    have d0 := es a 0 (by decide) (Or.inr (by decide))
    have d3 := es a 3 (by decide) (Or.inr (by decide))
    have d4 := es a 4 (by decide) (Or.inr (by decide))
    have hs := hS a ha
    unfold rl_S at hs ⊢
    by_cases hak : a = k
    · subst hak
      rw [e1, show g (16 + 5 * a) = f (16 + 5 * a) from d0, e9, show g (19 + 5 * a) = f (19 + 5 * a) from d3, show g (20 + 5 * a) = f (20 + 5 * a) from d4]
      exact ⟨⟨hA, hs.1.2⟩, hs.2.1, hs.2.2.1, hA1, hs.2.2.2.2⟩
    · rw [e1, show g (16 + 5 * a) = f (16 + 5 * a) from d0, e9, show g (19 + 5 * a) = f (19 + 5 * a) from d3, show g (20 + 5 * a) = f (20 + 5 * a) from d4, show g (18 + 5 * a) = f (18 + 5 * a) from es a 2 (by decide) (Or.inl hak)]
      exact hs
  · rw [nS] at hb
    rw [show g (16 + 5 * a) = f (16 + 5 * a) from es a 0 (by decide) (Or.inr (by decide)), show g (16 + 5 * b) = f (16 + 5 * b) from es b 0 (by decide) (Or.inr (by decide))]
    exact hN a b hab hb
  · rw [nL] at ha
    unfold rl_L
    rw [e1, el _ (by omega : 46 ≤ 48 + 6 * a), el _ (by omega : 46 ≤ 49 + 6 * a), el _ (by omega : 46 ≤ 50 + 6 * a)]
    exact hL a ha
  · rw [nL] at ha
    obtain ⟨b, hb, hbe⟩ := hE a ha
    exact ⟨b, by rw [nS]; exact hb, by rw [show g (16 + 5 * b) = f (16 + 5 * b) from es b 0 (by decide) (Or.inr (by decide)), el _ (by omega : 46 ≤ 47 + 6 * a)]; exact hbe⟩
  · rw [nS] at ha
    rw [show g (16 + 5 * a) = f (16 + 5 * a) from es a 0 (by decide) (Or.inr (by decide)), show g (19 + 5 * a) = f (19 + 5 * a) from es a 3 (by decide) (Or.inr (by decide)), hU a ha]
    unfold rl_u
    rw [nL]
    exact (rsum_congr (fun i _ => by rw [el _ (by omega : 46 ≤ 47 + 6 * i), el _ (by omega : 46 ≤ 48 + 6 * i)])).symm
  · rw [nR] at ha
    have := hQ a ha
    unfold rl_Q at this ⊢
    rw [el _ (by omega : 46 ≤ 287 + 4 * a), el _ (by omega : 46 ≤ 288 + 4 * a)]
    exact this
/-- the accounts, the day and the gate change -/
theorem rl_I.hdr {B : Int} {f g : Nat → Int64} (h : rl_I B f) (e : ∀ i : Nat, i ≠ 4 → i ≠ 5 → ¬ (10 ≤ i ∧ i ≤ 15) → g i = f i) (hG : 0 ≤ (g 4).toInt ∧ (g 4).toInt ≤ 100) : rl_I B g ∧ rl_T g = rl_T f := by
  obtain ⟨⟨⟨h0, h1, h6, h7, h8⟩, r2, r3, r4, r5⟩, hS, hN, hL, hE, hU, hQ, hB⟩ := h
  have hh : ∀ i : Nat, i < 10 → i ≠ 4 → i ≠ 5 → g i = f i := fun i a b c => e i b c (by omega)
  have e0 := hh 0 (by decide) (by decide) (by decide)
  have e1 := hh 1 (by decide) (by decide) (by decide)
  have e2 := hh 2 (by decide) (by decide) (by decide)
  have e3 := hh 3 (by decide) (by decide) (by decide)
  have e6 := hh 6 (by decide) (by decide) (by decide)
  have e7 := hh 7 (by decide) (by decide) (by decide)
  have e8 := hh 8 (by decide) (by decide) (by decide)
  have e9 := hh 9 (by decide) (by decide) (by decide)
  have el : ∀ i : Nat, 16 ≤ i → g i = f i := fun i hi => e i (by omega) (by omega) (by omega)
  have nS : rnS g = rnS f := by unfold rnS; rw [e6]
  have nL : rnL g = rnL f := by unfold rnL; rw [e7]
  have nR : rnR g = rnR f := by unfold rnR; rw [e8]
  have hT : rl_T g = rl_T f := by
    unfold rl_T
    rw [nS, nL, nR, rsum_congr (g := fun k => (f (18 + 5 * k)).toInt) (h := fun k => (g (18 + 5 * k)).toInt) (fun i _ => by show (g (18 + 5 * i)).toInt = _; rw [el _ (by omega)]), rsum_congr (g := fun k => (f (50 + 6 * k)).toInt) (h := fun k => (g (50 + 6 * k)).toInt) (fun i _ => by show (g (50 + 6 * i)).toInt = _; rw [el _ (by omega)]), rsum_congr (g := fun r => if (f (287 + 4 * r)).toInt = 0 then (f (288 + 4 * r)).toInt else 0) (h := fun r => if (g (287 + 4 * r)).toInt = 0 then (g (288 + 4 * r)).toInt else 0) (fun i _ => by show (if (g (287 + 4 * i)).toInt = 0 then (g (288 + 4 * i)).toInt else 0) = _; rw [el _ (by omega), el (288 + 4 * i) (by omega)])]
  refine ⟨⟨⟨⟨by rw [e0]; exact h0, by rw [e1]; exact h1, by rw [e6]; exact h6, by rw [e7]; exact h7, by rw [e8]; exact h8⟩, by rw [e2]; exact r2, by rw [e3]; exact r3, hG, by rw [e1, e6]; exact r5⟩, fun a ha => ?_, fun a b hab hb => ?_, fun a ha => ?_, fun a ha => ?_, fun a ha => ?_, fun a ha => ?_, by rw [hT]; exact hB⟩, hT⟩
  · rw [nS] at ha; unfold rl_S; rw [e1, e9, el _ (by omega : 16 ≤ 18 + 5 * a), el _ (by omega : 16 ≤ 19 + 5 * a), el _ (by omega : 16 ≤ 20 + 5 * a), el _ (by omega : 16 ≤ 16 + 5 * a)]; exact hS a ha
  · rw [nS] at hb; rw [el _ (by omega : 16 ≤ 16 + 5 * a), el _ (by omega : 16 ≤ 16 + 5 * b)]; exact hN a b hab hb
  · rw [nL] at ha; unfold rl_L; rw [e1, el _ (by omega : 16 ≤ 48 + 6 * a), el _ (by omega : 16 ≤ 49 + 6 * a), el _ (by omega : 16 ≤ 50 + 6 * a)]; exact hL a ha
  · rw [nL] at ha
    obtain ⟨b, hb, hbe⟩ := hE a ha
    exact ⟨b, by rw [nS]; exact hb, by rw [el _ (by omega : 16 ≤ 16 + 5 * b), el _ (by omega : 16 ≤ 47 + 6 * a)]; exact hbe⟩
  · rw [nS] at ha
    rw [el _ (by omega : 16 ≤ 16 + 5 * a), el _ (by omega : 16 ≤ 19 + 5 * a), hU a ha]
    unfold rl_u
    rw [nL]
    exact (rsum_congr (fun i _ => by rw [el _ (by omega : 16 ≤ 47 + 6 * i), el _ (by omega : 16 ≤ 48 + 6 * i)])).symm
  · rw [nR] at ha
    have := hQ a ha
    unfold rl_Q at this ⊢
    rw [el _ (by omega : 16 ≤ 287 + 4 * a), el _ (by omega : 16 ≤ 288 + 4 * a)]
    exact this
