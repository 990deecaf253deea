/-- a row that is kept: its invariants, and how many series it has opened -/
def rl_K (B C : Int) (f : Nat → Int64) : Prop := rl_I B f ∧ rl_P f ∧ (0 ≤ (f 9).toInt ∧ (f 9).toInt ≤ C)
theorem rl_I.mono {B B1 : Int} {f : Nat → Int64} (h : rl_I B f) (hb : B ≤ B1) : rl_I B1 f := h.up (Int.le_trans h.2.2.2.2.2.2.2 hb)
theorem rl_K.mono {B C B1 C1 : Int} {f : Nat → Int64} (h : rl_K B C f) (hb : B ≤ B1) (hc : C ≤ C1) : rl_K B1 C1 f := ⟨h.1.mono hb, h.2.1, h.2.2.1, Int.le_trans h.2.2.2 hc⟩
theorem rl_K.cong {B C : Int} {f g : Nat → Int64} (h : rl_K B C f) (e : ∀ i : Nat, i < 334 → g i = f i) : rl_K B C g := ⟨(h.1.cong e).1, h.2.1.cong h.1 e, by rw [e 9 (by decide)]; exact h.2.2⟩
/-- the rows that undo may bring back -/
def rl_HP (B C : Int) (P : Nat → Int64) (n : Nat) : Prop := ∀ d : Nat, d < n → rl_K B C (fun i => P (334 * d + i))
theorem rl_HP.mono {B C B1 C1 : Int} {P : Nat → Int64} {n : Nat} (h : rl_HP B C P n) (hb : B ≤ B1) (hc : C ≤ C1) : rl_HP B1 C1 P n := fun d hd => (h d hd).mono hb hc
theorem rl_HP.zero (B C : Int) (P : Nat → Int64) : rl_HP B C P 0 := fun d hd => absurd hd (Nat.not_lt_zero _)
/-- the oldest row goes: at place k -/
def rl_SH (P x : Nat → Int64) (k : Nat) : Prop := (∀ i : Nat, i + 334 < k → x i = P (i + 334)) ∧ ∀ i : Nat, k ≤ i + 334 → x i = P i
theorem rl_SH.init (P : Nat → Int64) : rl_SH P P 334 := ⟨fun i hi => absurd hi (by omega), fun _ _ => rfl⟩
theorem rl_SH.step {P x : Nat → Int64} {k n : Nat} (h : rl_SH P x k) (hn : k = n + 334) : rl_SH P (vp_updL x n (x k)) (1 + k) := by
  refine ⟨fun i hi => ?_, fun i hi => ?_⟩
  · by_cases e : i = n
    · subst e; rw [rl_eq rfl, h.2 k (by omega), hn]
    · rw [rl_ne e rfl]; exact h.1 i (by omega)
  · rw [rl_ne (by omega) rfl]; exact h.2 i (by omega)
theorem rl_SH.fin {B C : Int} {P x : Nat → Int64} {k : Nat} (h : rl_SH P x k) (hk : 3340 ≤ k) (hH : rl_HP B C P 10) : rl_HP B C x 9 := fun d hd => (hH (d + 1) (by omega)).cong (fun i hi => by
  show x (334 * d + i) = P (334 * (d + 1) + i)
  rw [h.1 _ (by omega)]; congr 1; omega)
/-- a row is laid at the end of the past: k of its numbers -/
def rl_ST (Q a x : Nat → Int64) (n k : Nat) : Prop := (∀ i : Nat, ¬ (334 * n ≤ i ∧ i < 334 * n + k) → x i = Q i) ∧ ∀ c : Nat, c < k → x (334 * n + c) = a c
theorem rl_ST.init (Q a : Nat → Int64) (n : Nat) : rl_ST Q a Q n 0 := ⟨fun _ _ => rfl, fun c hc => absurd hc (Nat.not_lt_zero _)⟩
theorem rl_ST.step {Q a x : Nat → Int64} {n k i : Nat} (h : rl_ST Q a x n k) (hi : i = 334 * n + k) : rl_ST Q a (vp_updL x i (a k)) n (1 + k) := by
  subst hi
  refine ⟨fun i hi => ?_, fun c hc => ?_⟩
  · rw [rl_ne (by omega) rfl]; exact h.1 i (by omega)
  · by_cases e : c = k
    · subst e; rw [rl_eq rfl]
    · rw [rl_ne (by omega) rfl]; exact h.2 c (by omega)
theorem rl_ST.fin {B C : Int} {Q a x : Nat → Int64} {n k : Nat} (h : rl_ST Q a x n k) (hk : 334 ≤ k) (hH : rl_HP B C Q n) (ha : rl_K B C a) : rl_HP B C x (1 + n) := fun d hd => by
  by_cases e : d = n
  · subst e; exact ha.cong (fun i hi => h.2 i (by omega))
  · exact (hH d (by omega)).cong (fun i hi => h.1 _ (by omega))
/-- a row is taken back -/
def rl_UN (P x : Nat → Int64) (n k : Nat) : Prop := ∀ i : Nat, i < k → x i = P (334 * n + i)
theorem rl_UN.init (P x : Nat → Int64) (n : Nat) : rl_UN P x n 0 := fun i hi => absurd hi (Nat.not_lt_zero _)
theorem rl_UN.step {P x : Nat → Int64} {n k : Nat} {v : Int64} (h : rl_UN P x n k) (hv : v = P (334 * n + k)) : rl_UN P (vp_updL x k v) n (1 + k) := fun i hi => by
  by_cases e : i = k
  · subst e; rw [rl_eq rfl]; exact hv
  · rw [rl_ne e rfl]; exact h i (by omega)
theorem rl_UN.fin {B C : Int} {P x : Nat → Int64} {n k m : Nat} (h : rl_UN P x n k) (hk : 334 ≤ k) (hH : rl_HP B C P m) (hn : n < m) : rl_K B C x := (hH n hn).cong (fun i hi => h i (by omega))
theorem rl_HP.le {B C : Int} {P : Nat → Int64} {n m : Nat} (h : rl_HP B C P m) (hn : n ≤ m) : rl_HP B C P n := fun d hd => h d (by omega)
/-- the model: its row, its past -/
def rl_M (B C : Int) (pl : va_W) (h0 aw ap : Nat) : Prop := ∃ (f P : Nat → Int64) (n : Nat), tt_lc pl aw f ∧ tt_lc pl ap P ∧ tt_at pl h0 6 (.int (nI n)) ∧ n ≤ 10 ∧ rl_K B C f ∧ rl_HP B C P n
theorem rl_M.mono {B C B1 C1 : Int} {pl : va_W} {h0 aw ap : Nat} (h : rl_M B C pl h0 aw ap) (hb : B ≤ B1) (hc : C ≤ C1) : rl_M B1 C1 pl h0 aw ap := by
  obtain ⟨f, P, n, a, b, c, d, e, g⟩ := h
  exact ⟨f, P, n, a, b, c, d, e.mono hb hc, g.mono hb hc⟩
theorem rl_M.fr {K : Nat → Nat} {WS : List (Nat × Nat)} {WA : List Nat} {B C : Int} {pl pl1 : va_W} {h0 aw ap : Nat} (h : rl_M B C pl h0 aw ap) (hf : tt_fr K WS pl pl1) (ha : tt_fa K WA pl pl1) (hk : K h0 = 1) (kw : K aw = 2) (kp : K ap = 7) (h1 : (1, 6) ∉ WS) (h2 : 2 ∉ WA) (h3 : 7 ∉ WA) : rl_M B C pl1 h0 aw ap := by
  obtain ⟨f, P, n, a, b, c, d, e, g⟩ := h
  exact ⟨f, P, n, ha.at kw (by decide) h2 a, ha.at kp (by decide) h3 b, hf.at hk (by decide) h1 c, d, e, g⟩
/-- an int field of the model -/
theorem rl_fld {cA : Nat → ClassId} {K : Nat → Nat} {pl : va_W} (hok : tt_ok rt_tk cA K pl) {h0 : Nat} (hk : K h0 = 1) (j : Nat) {lo hi : Int} (ht : (rt_tk 1).2.2.2[j]? = some (0, lo, hi)) : ∃ x : Int32, tt_at pl h0 j (.int x) ∧ lo ≤ x.toInt ∧ x.toInt ≤ hi := by
  obtain ⟨i, e, hi9, hE⟩ := hok h0 (by rw [hk]; decide)
  rw [hk] at hE
  obtain ⟨fs, rfl, hlen, hel⟩ := (show ∃ fs : List Value, e = .inr ((rt_tk 1).2.1, fs) ∧ fs.length = (rt_tk 1).2.2.2.length ∧ ∀ (j : Nat) (t : tt_T) (v : Value), (rt_tk 1).2.2.2[j]? = some t → fs[j]? = some v → tt_V K t v from hE)
  have hj : j < fs.length := by rw [hlen]; exact (List.getElem?_eq_some_iff.mp ht).1
  obtain ⟨x, hx, h1, h2⟩ := hel j _ _ ht (List.getElem?_eq_getElem hj)
  exact ⟨x, ⟨i, _, fs, hi9, by rw [List.getElem?_eq_getElem hj, hx]⟩, h1, h2⟩
