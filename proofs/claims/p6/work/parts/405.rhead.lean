theorem rl_nz {y : Int64} (h : 0 < y.toInt) : ¬ y = 0 := fun z => by rw [z] at h; exact absurd h (by decide)
theorem rl_iv {K : Nat → Nat} {lo hi : Int} {e : Nat} (h1 : lo ≤ (e : Int)) (h2 : (e : Int) ≤ hi) (h3 : e < 2147483648 := by omega) : tt_V K (0, lo, hi) (.int (nI e)) := tt_iv (by rw [rl_ti h3]; exact h1) (by rw [rl_ti h3]; exact h2)
theorem rl_inc {e : Nat} {n : Int} (h0 : e < 2147483648) (h1 : -2147483648 ≤ (e : Int) + n) (h2 : (e : Int) + n ≤ 2147483647) : ∃ z : Int32, nI e + Int32.ofInt n = z ∧ z.toInt = (e : Int) + n := by
  have h := tt_inc (x := nI e) (n := n) (by rw [rl_ti h0]; exact h1) (by rw [rl_ti h0]; exact h2)
  obtain ⟨z, h3, h4⟩ := h
  exact ⟨z, h3, by rw [h4, rl_ti h0]⟩
theorem rl_nat {x : Int32} (h : 0 ≤ x.toInt) : ∃ k : Nat, x = nI k ∧ k < 2147483648 := by
  have h1 := Int32.toInt_lt x
  refine ⟨x.toInt.toNat, ?_, by omega⟩
  refine Int32.toInt_inj.mp ?_
  rw [rl_ti (by omega)]; omega
/-- the model's rows of longs -/
def rl_m (pl : va_W) (h0 aw aa at0 ai af ap : Nat) : Prop := tt_at pl h0 0 (.ref aw) ∧ tt_at pl h0 1 (.ref aa) ∧ tt_at pl h0 2 (.ref at0) ∧ tt_at pl h0 3 (.ref ai) ∧ tt_at pl h0 4 (.ref af) ∧ tt_at pl h0 5 (.ref ap)
theorem rl_m.arr {pl pl1 : va_W} {h0 aw aa at0 ai af ap : Nat} (h : rl_m pl h0 aw aa at0 ai af ap) (tr : ∀ (b j : Nat) (w : Value), tt_at pl b j w → tt_at pl1 b j w) : rl_m pl1 h0 aw aa at0 ai af ap := ⟨tr _ _ _ h.1, tr _ _ _ h.2.1, tr _ _ _ h.2.2.1, tr _ _ _ h.2.2.2.1, tr _ _ _ h.2.2.2.2.1, tr _ _ _ h.2.2.2.2.2⟩
theorem rl_m.put {pl pl1 : va_W} {h0 aw aa at0 ai af ap o k : Nat} (h : rl_m pl h0 aw aa at0 ai af ap) (tr : ∀ (b j : Nat) (w : Value), (b ≠ o ∨ j ≠ k) → tt_at pl b j w → tt_at pl1 b j w) (hk : 6 ≤ k) : rl_m pl1 h0 aw aa at0 ai af ap := ⟨tr _ _ _ (Or.inr (by omega)) h.1, tr _ _ _ (Or.inr (by omega)) h.2.1, tr _ _ _ (Or.inr (by omega)) h.2.2.1, tr _ _ _ (Or.inr (by omega)) h.2.2.2.1, tr _ _ _ (Or.inr (by omega)) h.2.2.2.2.1, tr _ _ _ (Or.inr (by omega)) h.2.2.2.2.2⟩
theorem rl_m.fr {K : Nat → Nat} {WS : List (Nat × Nat)} {pl pl1 : va_W} {h0 aw aa at0 ai af ap : Nat} (h : rl_m pl h0 aw aa at0 ai af ap) (hf : tt_fr K WS pl pl1) (hk : K h0 = 1) (hw : WS.all (fun q => decide (6 ≤ q.2)) = true) : rl_m pl1 h0 aw aa at0 ai af ap := by
  have hn : ∀ j : Nat, j < 6 → (1, j) ∉ WS := fun j hj hm => by
    have h1 := List.all_eq_true.mp hw _ hm
    have h2 := of_decide_eq_true h1
    exact absurd h2 (Nat.not_le_of_lt hj)
  exact ⟨hf.at hk (by decide) (hn 0 (by decide)) h.1, hf.at hk (by decide) (hn 1 (by decide)) h.2.1, hf.at hk (by decide) (hn 2 (by decide)) h.2.2.1, hf.at hk (by decide) (hn 3 (by decide)) h.2.2.2.1, hf.at hk (by decide) (hn 4 (by decide)) h.2.2.2.2.1, hf.at hk (by decide) (hn 5 (by decide)) h.2.2.2.2.2⟩
/-- the header of a row: its numbers of investors, of open series, lots and requests, and its method -/
def rl_h (f : Nat → Int64) : Prop := (1 ≤ (f 0).toInt ∧ (f 0).toInt ≤ 6) ∧ (0 ≤ (f 1).toInt ∧ (f 1).toInt ≤ 1) ∧ (0 ≤ (f 6).toInt ∧ (f 6).toInt ≤ 6) ∧ (0 ≤ (f 7).toInt ∧ (f 7).toInt ≤ 40) ∧ (0 ≤ (f 8).toInt ∧ (f 8).toInt ≤ 12)
def rt_tk : Nat → tt_K
  | 1 => (0, 12, 0, [(2, 2, 0), (2, 3, 0), (2, 4, 0), (2, 5, 0), (2, 6, 0), (2, 7, 0), (0, 0, 10), (0, (-2147483648), 2147483647), (1, (-9223372036854775808), 9223372036854775807), (1, (-9223372036854775808), 9223372036854775807), (2, 8, 0), (2, 9, 0), (2, 10, 0), (0, 0, 400), (0, 0, 400), (0, 0, 400), (0, 0, 400), (0, (-2147483648), 2147483647), (0, (-2147483648), 2147483647), (0, (-2147483648), 2147483647), (0, (-2147483648), 2147483647), (2, 11, 0), (2, 12, 0), (2, 13, 0), (0, 0, 2400)])
  | 2 => (2, 2, 334, [(1, (-9223372036854775808), 9223372036854775807)])
  | 3 => (2, 2, 334, [(1, (-9223372036854775808), 9223372036854775807)])
  | 4 => (2, 2, 334, [(1, (-9223372036854775808), 9223372036854775807)])
  | 5 => (2, 2, 334, [(1, (-9223372036854775808), 9223372036854775807)])
  | 6 => (2, 2, 334, [(1, (-9223372036854775808), 9223372036854775807)])
  | 7 => (2, 2, 3340, [(1, (-9223372036854775808), 9223372036854775807)])
  | 8 => (2, 2, 12, [(1, (-9223372036854775808), 9223372036854775807)])
  | 9 => (1, 3, 12, [(0, (-2147483648), 2147483647)])
  | 10 => (1, 0, 400, [(0, (-2147483648), 2147483647)])
  | 11 => (2, 2, 6, [(1, (-9223372036854775808), 9223372036854775807)])
  | 12 => (2, 2, 6, [(1, (-9223372036854775808), 9223372036854775807)])
  | 13 => (1, 0, 2400, [(0, (-2147483648), 2147483647)])
  | _ => (0, 0, 0, [])
theorem jw_6245231363 : Cond.code yX11_seriesAt cX11_seriesAt 1 (some .int) ∈ jj_G := jj_t7 (List.mem_of_getElem? (i := 63) (by decide +kernel)) rfl
theorem jw_d540d98a1c : Cond.code yX11_lotAt cX11_lotAt 1 (some .int) ∈ jj_G := jj_t7 (List.mem_of_getElem? (i := 47) (by decide +kernel)) rfl
theorem jw_595411e0f2 : Cond.code yX11_requestAt cX11_requestAt 1 (some .int) ∈ jj_G := jj_t7 (List.mem_of_getElem? (i := 36) (by decide +kernel)) rfl

theorem rn_seriesAt {l : Launch} (hl : l.stackTraces = false) (D : va_G) (cA : Nat → ClassId) (ak : (Nat → Nat) × (Nat → Nat)) (a b : Nat) (h : 16 + 5 * a = b) : jj_M l D cA ak yX11_seriesAt (.code yX11_seriesAt cX11_seriesAt 1 (some .int)) 0 0 0 0 [] [.int (nI a)] (fun (w : va_W) (r : Option Value) => w = [] ∧ r = some (.int (nI b))) jj_noX := by
  refine jj_start hl (by decide) jw_6245231363 (jj_le rfl) ?_
  intro p e s m args below meth c A hargs hA C hex hmn
  refine jj_bipush (v := 16) C dX11_seriesAt_0 (by decide) ?_
  refine jj_iconst (v := 5) C dX11_seriesAt_2 (by decide) ?_
  refine jj_iload_n C dX11_seriesAt_3 rfl ?_
  refine jj_imul (v := nI (5 * a)) C dX11_seriesAt_4 (rl_mulL (by decide) rfl) ?_
  refine jj_iadd (v := nI b) C dX11_seriesAt_5 (rl_addL (by decide) h) ?_
  exact jj_iret C ⟨rfl, rfl⟩ dX11_seriesAt_6 (jj_le rfl) (jj_le rfl)

theorem rn_lotAt {l : Launch} (hl : l.stackTraces = false) (D : va_G) (cA : Nat → ClassId) (ak : (Nat → Nat) × (Nat → Nat)) (a b : Nat) (h : 46 + 6 * a = b) : jj_M l D cA ak yX11_lotAt (.code yX11_lotAt cX11_lotAt 1 (some .int)) 0 0 0 0 [] [.int (nI a)] (fun (w : va_W) (r : Option Value) => w = [] ∧ r = some (.int (nI b))) jj_noX := by
  refine jj_start hl (by decide) jw_d540d98a1c (jj_le rfl) ?_
  intro p e s m args below meth c A hargs hA C hex hmn
  refine jj_bipush (v := 46) C dX11_lotAt_0 (by decide) ?_
  refine jj_bipush (v := 6) C dX11_lotAt_2 (by decide) ?_
  refine jj_iload_n C dX11_lotAt_4 rfl ?_
  refine jj_imul (v := nI (6 * a)) C dX11_lotAt_5 (rl_mulL (by decide) rfl) ?_
  refine jj_iadd (v := nI b) C dX11_lotAt_6 (rl_addL (by decide) h) ?_
  exact jj_iret C ⟨rfl, rfl⟩ dX11_lotAt_7 (jj_le rfl) (jj_le rfl)

theorem rn_requestAt {l : Launch} (hl : l.stackTraces = false) (D : va_G) (cA : Nat → ClassId) (ak : (Nat → Nat) × (Nat → Nat)) (a b : Nat) (h : 286 + 4 * a = b) : jj_M l D cA ak yX11_requestAt (.code yX11_requestAt cX11_requestAt 1 (some .int)) 0 0 0 0 [] [.int (nI a)] (fun (w : va_W) (r : Option Value) => w = [] ∧ r = some (.int (nI b))) jj_noX := by
  refine jj_start hl (by decide) jw_595411e0f2 (jj_le rfl) ?_
  intro p e s m args below meth c A hargs hA C hex hmn
  refine jj_sipush (v := 286) C dX11_requestAt_0 (by decide) ?_
  refine jj_iconst (v := 4) C dX11_requestAt_3 (by decide) ?_
  refine jj_iload_n C dX11_requestAt_4 rfl ?_
  refine jj_imul (v := nI (4 * a)) C dX11_requestAt_5 (rl_mulL (by decide) rfl) ?_
  refine jj_iadd (v := nI b) C dX11_requestAt_6 (rl_addL (by decide) h) ?_
  exact jj_iret C ⟨rfl, rfl⟩ dX11_requestAt_7 (jj_le rfl) (jj_le rfl)
