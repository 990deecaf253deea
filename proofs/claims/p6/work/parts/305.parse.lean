/-! A FUND TEXT, read purely: c k is the k-th character (0 to 255), n the length -/
def ps_bl (x : Int) : Prop := x = 32 ∨ x = 10
def ps_le (x : Int) : Prop := 97 ≤ x ∧ x ≤ 122
def ps_di (x : Int) : Prop := 48 ≤ x ∧ x ≤ 57
/-- from i on, up to j, all are as p says; the one at j is not, or is none -/
def ps_run (p : Int → Prop) (c : Nat → Int) (n i j : Nat) : Prop := i ≤ j ∧ (∀ k : Nat, i ≤ k → k < j → k < n ∧ p (c k)) ∧ ¬ (j < n ∧ p (c j))
theorem ps_run.u {p : Int → Prop} {c : Nat → Int} {n i j k : Nat} (h : ps_run p c n i j) (g : ps_run p c n i k) : j = k := by
  rcases Nat.lt_trichotomy j k with q | q | q
  · exact absurd (g.2.1 j h.1 q) h.2.2
  · exact q
  · exact absurd (h.2.1 k g.1 q) g.2.2
theorem ps_run.le {p : Int → Prop} {c : Nat → Int} {n i j : Nat} (h : ps_run p c n i j) (hi : i ≤ n) : j ≤ n := by
  by_cases q : j ≤ i
  · omega
  · have := (h.2.1 (j - 1) (by omega) (by omega)).1; omega
/-- the token behind e: its first byte s, its end t -/
def ps_tok (c : Nat → Int) (n e s t : Nat) : Prop := ps_run ps_bl c n e s ∧ ((n ≤ s ∧ t = s) ∨ (s < n ∧ ps_le (c s) ∧ ps_run ps_le c n s t) ∨ (s < n ∧ ¬ ps_le (c s) ∧ ps_di (c s) ∧ ps_run ps_di c n s t) ∨ (s < n ∧ ¬ ps_le (c s) ∧ ¬ ps_di (c s) ∧ t = s + 1))
theorem ps_tok.u {c : Nat → Int} {n e s t s1 t1 : Nat} (h : ps_tok c n e s t) (g : ps_tok c n e s1 t1) : s = s1 ∧ t = t1 := by
  have hs := h.1.u g.1
  subst hs
  refine ⟨rfl, ?_⟩
  rcases h.2 with ⟨a, b⟩ | ⟨a, b, d⟩ | ⟨a, b, d, f⟩ | ⟨a, b, d, f⟩ <;> rcases g.2 with ⟨a1, b1⟩ | ⟨a1, b1, d1⟩ | ⟨a1, b1, d1, f1⟩ | ⟨a1, b1, d1, f1⟩
  all_goals first | omega | contradiction | exact d.u d1 | exact f.u f1 | (rw [b, b1]) | (rw [f, f1])
theorem ps_tok.le {c : Nat → Int} {n e s t : Nat} (h : ps_tok c n e s t) (he : e ≤ n) : e ≤ s ∧ s ≤ t ∧ t ≤ n := by
  have h1 := h.1.1
  have h2 := h.1.le he
  rcases h.2 with ⟨a, b⟩ | ⟨a, b, d⟩ | ⟨a, b, d, f⟩ | ⟨a, b, d, f⟩
  · omega
  · have := d.1; have := d.le (by omega); omega
  · have := f.1; have := f.le (by omega); omega
  · omega
/-- the token at s, up to t, is the word w -/
def ps_isw (c : Nat → Int) (s t : Nat) (w : List Int) : Prop := t = s + w.length ∧ ∀ k : Nat, k < w.length → c (s + k) = w.getD k 0
def ps_fund : List Int := [102, 117, 110, 100]
def ps_equal : List Int := [101, 113, 117, 97, 108]
def ps_series : List Int := [115, 101, 114, 105, 101, 115]
def ps_investors : List Int := [105, 110, 118, 101, 115, 116, 111, 114, 115]
def ps_subscribe : List Int := [115, 117, 98, 115, 99, 114, 105, 98, 101]
def ps_semi : List Int := [59]
/-- the value of the k digits from s on -/
def ps_val (c : Nat → Int) (s : Nat) : Nat → Int
  | 0 => 0
  | k + 1 => 10 * ps_val c s k + (c (s + k) - 48)
theorem ps_val.bd {c : Nat → Int} {s : Nat} : ∀ {k : Nat}, (∀ i : Nat, i < k → ps_di (c (s + i))) → 0 ≤ ps_val c s k ∧ ps_val c s k < 10 ^ k
  | 0, _ => ⟨Int.le_refl _, (show (0 : Int) < 1 by decide)⟩
  | k + 1, h => by
    have h1 := ps_val.bd (k := k) (fun i hi => h i (by omega))
    have h2 := h k (by omega)
    unfold ps_di at h2
    have h3 : (10 : Int) ^ (k + 1) = 10 ^ k * 10 := Int.pow_succ 10 k
    show 0 ≤ 10 * ps_val c s k + (c (s + k) - 48) ∧ 10 * ps_val c s k + (c (s + k) - 48) < 10 ^ (k + 1)
    rw [h3]
    omega
/-- what is wrong with a token: 0 nothing -/
def ps_cW (c : Nat → Int) (w : List Int) (s t k : Nat) : Prop := (ps_isw c s t w ∧ k = 0) ∨ (¬ ps_isw c s t w ∧ k = 1)
def ps_cM (c : Nat → Int) (s t k : Nat) : Prop := ((ps_isw c s t ps_equal ∨ ps_isw c s t ps_series) ∧ k = 0) ∨ (¬ (ps_isw c s t ps_equal ∨ ps_isw c s t ps_series) ∧ k = 1)
def ps_ok (c : Nat → Int) (lo hi : Int) (s t : Nat) : Prop := t ≤ s + 7 ∧ lo ≤ ps_val c s (t - s) ∧ ps_val c s (t - s) ≤ hi
def ps_cN (c : Nat → Int) (n : Nat) (lo hi : Int) (s t k : Nat) : Prop := (¬ (s < n ∧ ps_di (c s)) ∧ k = 1) ∨ ((s < n ∧ ps_di (c s)) ∧ ¬ ps_ok c lo hi s t ∧ k = 2) ∨ ((s < n ∧ ps_di (c s)) ∧ ps_ok c lo hi s t ∧ k = 0)
def ps_cS (c : Nat → Int) (j : Nat) (s t k : Nat) : Prop := (¬ ps_isw c s t ps_subscribe ∧ k = 1) ∨ (ps_isw c s t ps_subscribe ∧ j = 12 ∧ k = 3) ∨ (ps_isw c s t ps_subscribe ∧ j ≠ 12 ∧ k = 0)
theorem ps_cW.u {c : Nat → Int} {w : List Int} {s t k m : Nat} (h : ps_cW c w s t k) (g : ps_cW c w s t m) : k = m := by
  rcases h with ⟨a, b⟩ | ⟨a, b⟩ <;> rcases g with ⟨a1, b1⟩ | ⟨a1, b1⟩ <;> first | contradiction | omega
theorem ps_cM.u {c : Nat → Int} {s t k m : Nat} (h : ps_cM c s t k) (g : ps_cM c s t m) : k = m := by
  rcases h with ⟨a, b⟩ | ⟨a, b⟩ <;> rcases g with ⟨a1, b1⟩ | ⟨a1, b1⟩ <;> first | contradiction | omega
theorem ps_cN.u {c : Nat → Int} {n : Nat} {lo hi : Int} {s t k m : Nat} (h : ps_cN c n lo hi s t k) (g : ps_cN c n lo hi s t m) : k = m := by
  rcases h with ⟨a, b⟩ | ⟨a, b, d⟩ | ⟨a, b, d⟩ <;> rcases g with ⟨a1, b1⟩ | ⟨a1, b1, d1⟩ | ⟨a1, b1, d1⟩ <;> first | contradiction | omega
theorem ps_cS.u {c : Nat → Int} {j s t k m : Nat} (h : ps_cS c j s t k) (g : ps_cS c j s t m) : k = m := by
  rcases h with ⟨a, b⟩ | ⟨a, b, d⟩ | ⟨a, b, d⟩ <;> rcases g with ⟨a1, b1⟩ | ⟨a1, b1, d1⟩ | ⟨a1, b1, d1⟩ <;> first | contradiction | omega
/-- how far the reading is: the error's code (0 none), its place, the end of what is read -/
abbrev ps_S : Type := Nat × Nat × Nat
/-- a token is read, and held against what must stand there -/
def ps_step (c : Nat → Int) (n : Nat) (chk : Nat → Nat → Nat → Prop) (x y : ps_S) : Prop := (x.1 ≠ 0 ∧ y = x) ∨ (x.1 = 0 ∧ ∃ s t k : Nat, ps_tok c n x.2.2 s t ∧ chk s t k ∧ ((k = 0 ∧ y = (0, 0, t)) ∨ (k ≠ 0 ∧ y = (k, s, 0))))
theorem ps_step.u {c : Nat → Int} {n : Nat} {chk : Nat → Nat → Nat → Prop} {x y z : ps_S} (h : ps_step c n chk x y) (g : ps_step c n chk x z) (hu : ∀ s t k m : Nat, chk s t k → chk s t m → k = m) : y = z := by
  rcases h with ⟨a, b⟩ | ⟨a, s, t, k, h1, h2, h3⟩ <;> rcases g with ⟨a1, b1⟩ | ⟨a1, s1, t1, k1, g1, g2, g3⟩
  · rw [b, b1]
  · contradiction
  · contradiction
  · obtain ⟨rfl, rfl⟩ := h1.u g1
    obtain rfl := hu _ _ _ _ h2 g2
    rcases h3 with ⟨p, q⟩ | ⟨p, q⟩ <;> rcases g3 with ⟨p1, q1⟩ | ⟨p1, q1⟩
    · rw [q, q1]
    · contradiction
    · contradiction
    · rw [q, q1]
/-- the first two statements: up to the number of investors, i -/
def ps_head (c : Nat → Int) (n : Nat) (y : ps_S) (i : Int) : Prop := ∃ x1 x2 x3 x4 x5 x6 x7 x8 : ps_S, ps_step c n (ps_cW c ps_fund) (0, 0, 0) x1 ∧ ps_step c n (ps_cM c) x1 x2 ∧ ps_step c n (ps_cN c n 0 9999) x2 x3 ∧ ps_step c n (ps_cN c n 0 50) x3 x4 ∧ ps_step c n (ps_cN c n 1 100) x4 x5 ∧ ps_step c n (ps_cW c ps_semi) x5 x6 ∧ ps_step c n (ps_cW c ps_investors) x6 x7 ∧ ps_step c n (ps_cN c n 1 6) x7 x8 ∧ ps_step c n (ps_cW c ps_semi) x8 y ∧ (x7.1 = 0 → ∃ s t : Nat, ps_tok c n x7.2.2 s t ∧ i = ps_val c s (t - s))
theorem ps_step.err {c : Nat → Int} {n : Nat} {chk : Nat → Nat → Nat → Prop} {x y : ps_S} (h : ps_step c n chk x y) (hx : y.1 = 0) : x.1 = 0 := by
  rcases h with ⟨a, b⟩ | ⟨a, -⟩
  · rw [b] at hx; exact hx
  · exact a
theorem ps_head.u {c : Nat → Int} {n : Nat} {y z : ps_S} {i j : Int} (h : ps_head c n y i) (g : ps_head c n z j) : y = z ∧ (y.1 = 0 → i = j) := by
  obtain ⟨x1, x2, x3, x4, x5, x6, x7, x8, h1, h2, h3, h4, h5, h6, h7, h8, h9, hi⟩ := h
  obtain ⟨y1, y2, y3, y4, y5, y6, y7, y8, g1, g2, g3, g4, g5, g6, g7, g8, g9, gi⟩ := g
  obtain rfl := h1.u g1 (fun _ _ _ _ => ps_cW.u)
  obtain rfl := h2.u g2 (fun _ _ _ _ => ps_cM.u)
  obtain rfl := h3.u g3 (fun _ _ _ _ => ps_cN.u)
  obtain rfl := h4.u g4 (fun _ _ _ _ => ps_cN.u)
  obtain rfl := h5.u g5 (fun _ _ _ _ => ps_cN.u)
  obtain rfl := h6.u g6 (fun _ _ _ _ => ps_cW.u)
  obtain rfl := h7.u g7 (fun _ _ _ _ => ps_cW.u)
  obtain rfl := h8.u g8 (fun _ _ _ _ => ps_cN.u)
  obtain rfl := h9.u g9 (fun _ _ _ _ => ps_cW.u)
  refine ⟨rfl, fun e => ?_⟩
  have e7 := h8.err (h9.err e)
  obtain ⟨s, t, a, b⟩ := hi e7
  obtain ⟨s1, t1, a1, b1⟩ := gi e7
  obtain ⟨rfl, rfl⟩ := a.u a1
  rw [b, b1]
/-- a subscription: the j-th -/
def ps_sub (c : Nat → Int) (n : Nat) (i : Int) (j : Nat) (x y : ps_S) : Prop := ∃ x1 x2 x3 : ps_S, ps_step c n (ps_cS c j) x x1 ∧ ps_step c n (ps_cN c n 0 (i - 1)) x1 x2 ∧ ps_step c n (ps_cN c n 1 9999999) x2 x3 ∧ ps_step c n (ps_cW c ps_semi) x3 y
theorem ps_sub.u {c : Nat → Int} {n : Nat} {i : Int} {j : Nat} {x y z : ps_S} (h : ps_sub c n i j x y) (g : ps_sub c n i j x z) : y = z := by
  obtain ⟨x1, x2, x3, h1, h2, h3, h4⟩ := h
  obtain ⟨y1, y2, y3, g1, g2, g3, g4⟩ := g
  obtain rfl := h1.u g1 (fun _ _ _ _ => ps_cS.u)
  obtain rfl := h2.u g2 (fun _ _ _ _ => ps_cN.u)
  obtain rfl := h3.u g3 (fun _ _ _ _ => ps_cN.u)
  exact h4.u g4 (fun _ _ _ _ => ps_cW.u)
/-- the subscriptions: what comes out is the error's code, its place, how many there are -/
def ps_subs (c : Nat → Int) (n : Nat) (i : Int) : Nat → Nat → ps_S → ps_S → Prop
  | 0, _, _, _ => False
  | k + 1, j, x, r => (x.1 ≠ 0 ∧ r = (x.1, x.2.1, 0)) ∨ (x.1 = 0 ∧ ∃ s t : Nat, ps_tok c n x.2.2 s t ∧ ((n ≤ s ∧ r = (0, 0, j)) ∨ (s < n ∧ ∃ y : ps_S, ps_sub c n i j x y ∧ ps_subs c n i k (j + 1) y r)))
theorem ps_subs.u {c : Nat → Int} {n : Nat} {i : Int} : ∀ {k m j : Nat} {x r q : ps_S}, ps_subs c n i k j x r → ps_subs c n i m j x q → r = q
  | 0, _, _, _, _, _, h, _ => h.elim
  | _ + 1, 0, _, _, _, _, _, g => g.elim
  | k + 1, m + 1, j, x, r, q, h, g => by
    rcases h with ⟨a, b⟩ | ⟨a, s, t, h1, h2⟩ <;> rcases g with ⟨a1, b1⟩ | ⟨a1, s1, t1, g1, g2⟩
    · rw [b, b1]
    · contradiction
    · contradiction
    · obtain ⟨rfl, rfl⟩ := h1.u g1
      rcases h2 with ⟨p, e⟩ | ⟨p, y, h3, h4⟩ <;> rcases g2 with ⟨p1, e1⟩ | ⟨p1, z, g3, g4⟩
      · rw [e, e1]
      · omega
      · omega
      · obtain rfl := h3.u g3
        exact ps_subs.u h4 g4
/-- a fund text as a whole -/
def ps_all (c : Nat → Int) (n : Nat) (r : ps_S) : Prop := ∃ (y : ps_S) (i : Int) (k : Nat), ps_head c n y i ∧ ps_subs c n i k 0 y r
theorem ps_subs.err {c : Nat → Int} {n : Nat} {i : Int} {k j : Nat} {x r : ps_S} (h : ps_subs c n i k j x r) (hx : x.1 ≠ 0) : r = (x.1, x.2.1, 0) := by
  cases k with
  | zero => exact h.elim
  | succ k =>
    rcases h with ⟨a, b⟩ | ⟨a, -⟩
    · exact b
    · contradiction
theorem ps_all.u {c : Nat → Int} {n : Nat} {r q : ps_S} (h : ps_all c n r) (g : ps_all c n q) : r = q := by
  obtain ⟨y, i, k, h1, h2⟩ := h
  obtain ⟨z, j, m, g1, g2⟩ := g
  obtain ⟨rfl, e⟩ := h1.u g1
  by_cases hy : y.1 = 0
  · obtain rfl := e hy
    exact h2.u g2
  · rw [h2.err hy, g2.err hy]
/-- texts that are alike as far as they go -/
theorem ps_run.cong {p : Int → Prop} {c d : Nat → Int} {n i j : Nat} (e : ∀ k : Nat, k < n → d k = c k) (h : ps_run p c n i j) : ps_run p d n i j := ⟨h.1, fun k a b => by
  have q := h.2.1 k a b
  rw [e k q.1]; exact q, fun q => h.2.2 (by rw [← e j q.1]; exact q)⟩
theorem ps_val.step {c : Nat → Int} {s b : Nat} (h : s ≤ b) : ps_val c s (b + 1 - s) = 10 * ps_val c s (b - s) + (c b - 48) := by
  have e1 : b + 1 - s = (b - s) + 1 := by omega
  have e2 : s + (b - s) = b := by omega
  rw [e1]
  show 10 * ps_val c s (b - s) + (c (s + (b - s)) - 48) = _
  rw [e2]
theorem ps_val.six {c : Nat → Int} {s b : Nat} (h : b ≤ s + 6) (hd : ∀ k : Nat, s ≤ k → k < b → ps_di (c k)) : 0 ≤ ps_val c s (b - s) ∧ ps_val c s (b - s) ≤ 999999 := by
  have h1 := ps_val.bd (c := c) (s := s) (k := b - s) (fun i hi => hd _ (by omega) (by omega))
  have h2 := (show ∀ k : Nat, k < 7 → (10 : Int) ^ k ≤ 1000000 by decide) (b - s) (by omega)
  omega
theorem ps_step.ok {c : Nat → Int} {n e s t p : Nat} {chk : Nat → Nat → Nat → Prop} (h : ps_tok c n e s t) (g : chk s t 0) : ps_step c n chk (0, p, e) (0, 0, t) := Or.inr ⟨rfl, s, t, 0, h, g, Or.inl ⟨rfl, rfl⟩⟩
theorem ps_step.no {c : Nat → Int} {n e s t p k : Nat} {chk : Nat → Nat → Nat → Prop} (h : ps_tok c n e s t) (g : chk s t k) (hk : k ≠ 0) : ps_step c n chk (0, p, e) (k, s, 0) := Or.inr ⟨rfl, s, t, k, h, g, Or.inr ⟨hk, rfl⟩⟩
theorem ps_step.st {c : Nat → Int} {n : Nat} {chk : Nat → Nat → Nat → Prop} {x : ps_S} (h : x.1 ≠ 0) : ps_step c n chk x x := Or.inl ⟨h, rfl⟩
theorem ps_isw.one {c : Nat → Int} {s t n : Nat} {w : List Int} (h : ps_isw c s t w) (hw : 0 < w.length) (hl : ps_le (w.getD 0 0)) (ht : t ≤ n) : s < n ∧ ps_le (c s) := by
  have h1 := h.2 0 hw
  have h2 := h.1
  rw [Nat.add_zero] at h1
  exact ⟨by omega, by rw [h1]; exact hl⟩
/-- the word's characters, one by one, from the i-th on -/
def ps_alls (c : Nat → Int) (s : Nat) : List Int → Nat → Prop
  | [], _ => True
  | x :: xs, i => c (s + i) = x ∧ ps_alls c s xs (i + 1)
theorem ps_alls.at {c : Nat → Int} {s : Nat} : ∀ {w : List Int} {i : Nat}, ps_alls c s w i → ∀ k : Nat, k < w.length → c (s + (i + k)) = w.getD k 0
  | [], _, _, k, hk => absurd hk (Nat.not_lt_zero k)
  | x :: xs, i, h, k, hk => by
    cases k with
    | zero => exact h.1
    | succ k =>
      have h2 := ps_alls.at h.2 k (Nat.lt_of_succ_lt_succ hk)
      have e : i + (k + 1) = i + 1 + k := by omega
      rw [e]
      exact h2
theorem ps_alls.isw {c : Nat → Int} {s t : Nat} {w : List Int} (h : ps_alls c s w 0) (ht : t = s + w.length) : ps_isw c s t w := ⟨ht, fun k hk => by
  have h2 := h.at k hk
  rw [Nat.zero_add] at h2
  exact h2⟩
/-- the first statement, from where one stands -/
def ps_fu (c : Nat → Int) (n : Nat) (x y : ps_S) : Prop := ∃ x1 x2 x3 x4 x5 : ps_S, ps_step c n (ps_cW c ps_fund) x x1 ∧ ps_step c n (ps_cM c) x1 x2 ∧ ps_step c n (ps_cN c n 0 9999) x2 x3 ∧ ps_step c n (ps_cN c n 0 50) x3 x4 ∧ ps_step c n (ps_cN c n 1 100) x4 x5 ∧ ps_step c n (ps_cW c ps_semi) x5 y
/-- the second -/
def ps_in (c : Nat → Int) (n : Nat) (x y : ps_S) (i : Int) : Prop := ∃ x7 x8 : ps_S, ps_step c n (ps_cW c ps_investors) x x7 ∧ ps_step c n (ps_cN c n 1 6) x7 x8 ∧ ps_step c n (ps_cW c ps_semi) x8 y ∧ (x7.1 = 0 → ∃ s t : Nat, ps_tok c n x7.2.2 s t ∧ i = ps_val c s (t - s))
theorem ps_head.of {c : Nat → Int} {n : Nat} {x y : ps_S} {i : Int} (h : ps_fu c n (0, 0, 0) x) (g : ps_in c n x y i) : ps_head c n y i := by
  obtain ⟨x1, x2, x3, x4, x5, h1, h2, h3, h4, h5, h6⟩ := h
  obtain ⟨x7, x8, g7, g8, g9, gi⟩ := g
  exact ⟨x1, x2, x3, x4, x5, x, x7, x8, h1, h2, h3, h4, h5, h6, g7, g8, g9, gi⟩
theorem ps_fu.err {c : Nat → Int} {n : Nat} {x y : ps_S} (h : ps_fu c n x y) (hx : x.1 ≠ 0) : y = x := by
  have st : ∀ {chk : Nat → Nat → Nat → Prop} {a b : ps_S}, ps_step c n chk a b → a.1 ≠ 0 → b = a := fun h hx => by
    rcases h with ⟨-, b⟩ | ⟨a, -⟩
    · exact b
    · contradiction
  obtain ⟨x1, x2, x3, x4, x5, h1, h2, h3, h4, h5, h6⟩ := h
  obtain rfl := st h1 hx
  obtain rfl := st h2 hx
  obtain rfl := st h3 hx
  obtain rfl := st h4 hx
  obtain rfl := st h5 hx
  exact st h6 hx
theorem ps_in.st {c : Nat → Int} {n : Nat} {x : ps_S} {i : Int} (h : x.1 ≠ 0) : ps_in c n x x i := ⟨x, x, ps_step.st h, ps_step.st h, ps_step.st h, fun e => absurd e h⟩
theorem ps_subs.fin {c : Nat → Int} {n : Nat} {i : Int} {k j p e s t : Nat} (h : ps_tok c n e s t) (g : n ≤ s) : ps_subs c n i (k + 1) j (0, p, e) (0, 0, j) := Or.inr ⟨rfl, s, t, h, Or.inl ⟨g, rfl⟩⟩
theorem ps_subs.nx {c : Nat → Int} {n : Nat} {i : Int} {k j p e s t : Nat} {y r : ps_S} (h : ps_tok c n e s t) (g : s < n) (a : ps_sub c n i j (0, p, e) y) (b : ps_subs c n i k (j + 1) y r) : ps_subs c n i (k + 1) j (0, p, e) r := Or.inr ⟨rfl, s, t, h, Or.inr ⟨g, y, a, b⟩⟩
theorem ps_subs.er {c : Nat → Int} {n : Nat} {i : Int} {k j q s e : Nat} (h : q ≠ 0) : ps_subs c n i (k + 1) j (q, s, e) (q, s, 0) := Or.inl ⟨h, rfl⟩
theorem ps_sub.of {c : Nat → Int} {n : Nat} {i : Int} {j : Nat} {x x1 y : ps_S} (h : ps_step c n (ps_cS c j) x x1) (g : ∃ x2 x3 : ps_S, ps_step c n (ps_cN c n 0 (i - 1)) x1 x2 ∧ ps_step c n (ps_cN c n 1 9999999) x2 x3 ∧ ps_step c n (ps_cW c ps_semi) x3 y) : ps_sub c n i j x y := by
  obtain ⟨x2, x3, a, b, d⟩ := g
  exact ⟨x1, x2, x3, h, a, b, d⟩
/-- where a reader stands that looks a token ahead: m its error's code, a to b the token, x its error's place -/
def ps_at (c : Nat → Int) (n : Nat) (y : ps_S) (m a b : Nat) (x : Int32) : Prop := (m = 0 ∧ y.1 = 0 ∧ ps_tok c n y.2.2 a b ∧ x = -1) ∨ (m ≠ 0 ∧ y.1 = m ∧ x = nI y.2.1)
theorem ps_at.ok {c : Nat → Int} {n : Nat} {y : ps_S} {a b a1 b1 : Nat} {x : Int32} {chk : Nat → Nat → Nat → Prop} (h : ps_at c n y 0 a b x) (g : chk a b 0) (t : ps_tok c n b a1 b1) : ∃ z : ps_S, ps_step c n chk y z ∧ ps_at c n z 0 a1 b1 x := by
  rcases h with ⟨-, h1, h2, h3⟩ | ⟨h1, -⟩
  · exact ⟨(0, 0, b), Or.inr ⟨h1, a, b, 0, h2, g, Or.inl ⟨rfl, rfl⟩⟩, Or.inl ⟨rfl, rfl, t, h3⟩⟩
  · exact absurd rfl h1
theorem ps_at.no {c : Nat → Int} {n : Nat} {y : ps_S} {a b a1 b1 k : Nat} {x : Int32} {chk : Nat → Nat → Nat → Prop} (h : ps_at c n y 0 a b x) (g : chk a b k) (hk : k ≠ 0) : ∃ z : ps_S, ps_step c n chk y z ∧ ps_at c n z k a1 b1 (nI a) := by
  rcases h with ⟨-, h1, h2, -⟩ | ⟨h1, -⟩
  · exact ⟨(k, a, 0), Or.inr ⟨h1, a, b, k, h2, g, Or.inr ⟨hk, rfl⟩⟩, Or.inr ⟨hk, rfl, rfl⟩⟩
  · exact absurd rfl h1
theorem ps_at.st {c : Nat → Int} {n : Nat} {y : ps_S} {m a b a1 b1 : Nat} {x : Int32} {chk : Nat → Nat → Nat → Prop} (h : ps_at c n y m a b x) (hm : m ≠ 0) : ∃ z : ps_S, ps_step c n chk y z ∧ ps_at c n z m a1 b1 x := by
  rcases h with ⟨h1, -⟩ | ⟨h1, h2, h3⟩
  · exact absurd h1 hm
  · exact ⟨y, Or.inl ⟨by rw [h2]; exact hm, rfl⟩, Or.inr ⟨h1, h2, h3⟩⟩
theorem ps_at.tok {c : Nat → Int} {n : Nat} {y : ps_S} {m a b : Nat} {x : Int32} (h : ps_at c n y m a b x) (hy : y.1 = 0) : ps_tok c n y.2.2 a b := by
  rcases h with ⟨-, -, h3, -⟩ | ⟨h1, h2, -⟩
  · exact h3
  · exact absurd (h2.symm.trans hy) h1
theorem ps_at.zero {c : Nat → Int} {n : Nat} {y : ps_S} {a b : Nat} {x : Int32} (h : ps_at c n y 0 a b x) : y.1 = 0 ∧ ps_tok c n y.2.2 a b := by
  rcases h with ⟨-, h2, h3, -⟩ | ⟨h1, -⟩
  · exact ⟨h2, h3⟩
  · exact absurd rfl h1
theorem ps_tok.dig {c : Nat → Int} {n e s t : Nat} (h : ps_tok c n e s t) (hs : s < n) (hd : ps_di (c s)) : s < t ∧ ∀ k : Nat, s ≤ k → k < t → k < n ∧ ps_di (c k) := by
  have hl : ¬ ps_le (c s) := fun q => by unfold ps_le at q; unfold ps_di at hd; omega
  rcases h.2 with ⟨a, b⟩ | ⟨a, b, d⟩ | ⟨a, b, d, f⟩ | ⟨a, b, d, f⟩
  · omega
  · exact absurd b hl
  · refine ⟨?_, f.2.1⟩
    by_cases q : s < t
    · exact q
    · have h1 := f.1
      have h2 : t = s := by omega
      exact absurd ⟨by omega, by rw [h2]; exact hd⟩ f.2.2
  · exact absurd hd d
theorem ps_at.zero2 {c : Nat → Int} {n : Nat} {y : ps_S} {m a b : Nat} {x : Int32} (h : ps_at c n y m a b x) (hm : m = 0) : y.1 = 0 ∧ ps_tok c n y.2.2 a b := by subst hm; exact h.zero
theorem ps_at.mz {c : Nat → Int} {n : Nat} {y : ps_S} {m a b : Nat} {x : Int32} (h : ps_at c n y m a b x) : m = 0 ↔ y.1 = 0 := by
  rcases h with ⟨h1, h2, -⟩ | ⟨h1, h2, -⟩
  · exact ⟨fun _ => h2, fun _ => h1⟩
  · exact ⟨fun q => absurd q h1, fun q => absurd (h2.symm.trans q) h1⟩
theorem ps_at.ok2 {c : Nat → Int} {n : Nat} {y : ps_S} {m a b a1 b1 : Nat} {x : Int32} {chk : Nat → Nat → Nat → Prop} (h : ps_at c n y m a b x) (hm : m = 0) (g : chk a b 0) (t : ps_tok c n b a1 b1) : ∃ z : ps_S, ps_step c n chk y z ∧ ps_at c n z 0 a1 b1 x := by subst hm; exact h.ok g t
theorem ps_at.none {c : Nat → Int} {n : Nat} {y : ps_S} {m a b : Nat} {x : Int32} (h : ps_at c n y m a b x) (hm : m = 0) : x = -1 := by
  rcases h with ⟨-, -, -, h4⟩ | ⟨h1, -⟩
  · exact h4
  · exact absurd hm h1
theorem ps_at.no2 {c : Nat → Int} {n : Nat} {y : ps_S} {m a b k : Nat} (a1 b1 : Nat) {x : Int32} {chk : Nat → Nat → Nat → Prop} (h : ps_at c n y m a b x) (hm : m = 0) (g : chk a b k) (hk : k ≠ 0) : ∃ z : ps_S, ps_step c n chk y z ∧ ps_at c n z k a1 b1 (nI a) := by subst hm; exact h.no g hk
/-- how the subscriptions go on from where the reader stands -/
def ps_go (c : Nat → Int) (n : Nat) (i : Int) (yh y : ps_S) (j : Nat) : Prop := ∀ (k : Nat) (r : ps_S), ps_subs c n i k j y r → ∃ m : Nat, ps_subs c n i m 0 yh r
theorem ps_go.init {c : Nat → Int} {n : Nat} {i : Int} {y : ps_S} : ps_go c n i y y 0 := fun k r h => ⟨k, h⟩
theorem ps_go.step {c : Nat → Int} {n : Nat} {i : Int} {yh y z : ps_S} {j m a b : Nat} {x : Int32} (h : ps_go c n i yh y j) (hy : ps_at c n y m a b x) (hm : m = 0) (ha : a < n) (g : ps_sub c n i j y z) : ps_go c n i yh z (j + 1) := fun k r hr => by
  have q := hy.zero2 hm
  exact h (k + 1) r (Or.inr ⟨q.1, a, b, q.2, Or.inr ⟨ha, z, g, hr⟩⟩)
theorem ps_go.fin {c : Nat → Int} {n : Nat} {i : Int} {yh y : ps_S} {j m a b : Nat} {x : Int32} (h : ps_go c n i yh y j) (hy : ps_at c n y m a b x) (hm : m = 0) (ha : n ≤ a) : ∃ k : Nat, ps_subs c n i k 0 yh (0, 0, j) := by
  have q := hy.zero2 hm
  exact h 1 _ (Or.inr ⟨q.1, a, b, q.2, Or.inl ⟨ha, rfl⟩⟩)
theorem ps_go.err {c : Nat → Int} {n : Nat} {i : Int} {yh y : ps_S} {j m a b : Nat} {x : Int32} (h : ps_go c n i yh y j) (hy : ps_at c n y m a b x) (hm : m ≠ 0) : ∃ (k q : Nat), x = nI q ∧ ps_subs c n i k 0 yh (m, q, 0) := by
  rcases hy with ⟨h1, -⟩ | ⟨h1, h2, h3⟩
  · exact absurd h1 hm
  · obtain ⟨k, hk⟩ := h 1 (y.1, y.2.1, 0) (Or.inl ⟨by rw [h2]; exact h1, rfl⟩)
    exact ⟨k, y.2.1, h3, by rw [← h2]; exact hk⟩
