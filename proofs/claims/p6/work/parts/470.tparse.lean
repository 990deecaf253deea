theorem te_mul10 {x : Int32} (h0 : 0 ≤ x.toInt) (h1 : x.toInt ≤ 999999) : ∃ z : Int32, x * 10 = z ∧ z.toInt = x.toInt * 10 := by
  refine ⟨_, rfl, ?_⟩
  rw [Int32.toInt_mul, show (10 : Int32).toInt = 10 from by decide]
  exact Int.bmod_eq_of_le (by omega) (by omega)
theorem te_10mul {x : Int32} (h0 : 0 ≤ x.toInt) (h1 : x.toInt ≤ 999999) : ∃ z : Int32, 10 * x = z ∧ z.toInt = 10 * x.toInt := by
  refine ⟨_, rfl, ?_⟩
  rw [Int32.toInt_mul, show (10 : Int32).toInt = 10 from by decide]
  exact Int.bmod_eq_of_le (by omega) (by omega)
theorem te_lsub1 {x : Int64} (h0 : 1 ≤ x.toInt) (h1 : x.toInt ≤ 6) : (x - (1 : Int64)).toInt = x.toInt - 1 := by
  rw [Int64.toInt_sub, show (1 : Int64).toInt = 1 from by decide]
  exact Int.bmod_eq_of_le (by omega) (by omega)
theorem te_upS {f : Nat → Int32} {i : Nat} {v : Int32} : upd f i v i = v := if_pos rfl
theorem te_upN {f : Nat → Int32} {i k : Nat} {v : Int32} (h : k ≠ i) : upd f i v k = f k := if_neg h
/-- a character of an int, as the class takes it, and a byte of it, as the model does -/
def te_c (p s : Int32) : Int32 := (p.toUInt32 >>> (s.toUInt32 &&& Int32.toUInt32 31)).toInt32 &&& 255
def te_m (p s : Int32) : Int32 := (p >>> (s &&& 31)).toInt8.toInt32
theorem te_chr {p s x w v : Int32} (h1 : (p.toUInt32 >>> (s.toUInt32 &&& Int32.toUInt32 31)).toInt32 = x) (h2 : x &&& (255 : Int32) = w) (h3 : (w.toUInt32 % 65536).toInt32 = v) : vp_nar .char v = te_c p s := by
  have h4 : narrow .char (.int (x &&& 255)) = .int (x &&& 255) := sc_nar x
  have h5 : ((x &&& 255).toUInt32 % 65536).toInt32 = x &&& 255 := Value.int.inj h4
  have h6 : v = x &&& 255 := by rw [← h3, ← h2]; exact h5
  have h7 : te_c p s = x &&& 255 := by unfold te_c; rw [h1]
  rw [h7, h6]
  unfold vp_nar
  rw [h4]
theorem te_byt {p s x v : Int32} (h1 : p >>> (s &&& 31) = x) (h2 : x.toInt8.toInt32 = v) : vp_nar .byte v = te_m p s := by
  have h3 : te_m p s = v := by unfold te_m; rw [h1, h2]
  rw [h3]
  show v.toInt8.toInt32 = v
  rw [← h2, Int8.toInt8_toInt32]



set_option maxHeartbeats 4000000 in
set_option maxRecDepth 100000 in
theorem te_isLetter {l : Launch} (hl : l.stackTraces = false) (D : va_G) (cA : Nat → ClassId) (ak : (Nat → Nat) × (Nat → Nat)) {Kd : Nat → Nat} (h0 a9 : Nat) (q : Nat) (u : Nat → Int32) (hk0 : Kd h0 = 10) (hk9 : Kd a9 = 11) (hq : q < 400) {pl0 : va_W} (hok : tt_ok tt_tk cA Kd pl0) (hs0 : tt_at pl0 h0 0 (.ref a9)) (hu : tt_ic pl0 a9 u) : jj_M l D cA ak yX9_isLetter (.code yX9_isLetter cX9_isLetter 2 (some .boolean)) 0 0 0 0 ([] ++ pl0) [.ref h0, .int (nI q)] (tt_O (fun rx pl1 r => rx = [] ∧ tt_ok tt_tk cA Kd pl1 ∧ tt_fr Kd [] pl0 pl1 ∧ tt_fa Kd [] pl0 pl1 ∧ ((((u q).toInt < 97 ∨ 122 < (u q).toInt) ∧ r = some (.int 0)) ∨ (97 ≤ (u q).toInt ∧ (u q).toInt ≤ 122 ∧ r = some (.int 1))))) (tt_OX (fun _ _ _ => False)) := by
  refine jj_start hl (by decide) jw_9e97b9dadb (jj_le rfl) ?_
  intro p e s m args below meth c9 A hargs hA C hex hmn
  have hfr := tt_fr.refl (K := Kd) (WS := []) pl0
  have hfa := tt_fa.refl (K := Kd) (WA := []) pl0
  refine jj_aload_n C dX9_isLetter_0 rfl ?_
  refine tt_getF C hok jk_10 0 (by decide) jw_0664e1e086 (t := (2, 11, 0)) hk0 (by decide) rfl rfl hs0 dX9_isLetter_1 ?_
  refine jj_iload_n C dX9_isLetter_4 rfl ?_
  refine tl_caldF C hok (t := (0, (-2147483648), 2147483647)) hk9 (by decide) rfl (k := q) (vp_in_nI (by omega) (by decide)) hu (nI_clamp (by omega)) rfl dX9_isLetter_5 ?_
  refine jj_bipush (v := 97) C dX9_isLetter_6 (by decide) ?_
  refine jj_icmp_lt (tgt := 26) C dX9_isLetter_8 (by decide) (fun c_1 => ?_) (fun c_1 => ?_)
  · have z_c_1 := jc_lt (a := (u q).toInt) (b := 97) c_1 rfl (by decide)
    refine jj_iconst (v := 0) C dX9_isLetter_26 (by decide) ?_
    exact jj_zret C rfl ⟨[], pl0, rfl, rfl, hok, hfr, hfa, (Or.inl ⟨by omega, rfl⟩)⟩ dX9_isLetter_27 (jj_le rfl) (jj_le rfl)
  · have z_c_1 := jc_nlt (a := (u q).toInt) (b := 97) c_1 rfl (by decide)
    refine jj_aload_n C dX9_isLetter_11 rfl ?_
    refine tt_getF C hok jk_10 0 (by decide) jw_0664e1e086 (t := (2, 11, 0)) hk0 (by decide) rfl rfl hs0 dX9_isLetter_12 ?_
    refine jj_iload_n C dX9_isLetter_15 rfl ?_
    refine tl_caldF C hok (t := (0, (-2147483648), 2147483647)) hk9 (by decide) rfl (k := q) (vp_in_nI (by omega) (by decide)) hu (nI_clamp (by omega)) rfl dX9_isLetter_16 ?_
    refine jj_bipush (v := 122) C dX9_isLetter_17 (by decide) ?_
    refine jj_icmp_gt (tgt := 26) C dX9_isLetter_19 (by decide) (fun c_2 => ?_) (fun c_2 => ?_)
    · have z_c_2 := jc_lt (a := 122) (b := (u q).toInt) c_2 (by decide) rfl
      refine jj_iconst (v := 0) C dX9_isLetter_26 (by decide) ?_
      exact jj_zret C rfl ⟨[], pl0, rfl, rfl, hok, hfr, hfa, (Or.inl ⟨by omega, rfl⟩)⟩ dX9_isLetter_27 (jj_le rfl) (jj_le rfl)
    · have z_c_2 := jc_nlt (a := 122) (b := (u q).toInt) c_2 (by decide) rfl
      refine jj_iconst (v := 1) C dX9_isLetter_22 (by decide) ?_
      refine jj_goto (tgt := 27) C dX9_isLetter_23 (by decide) ?_
      exact jj_zret C rfl ⟨[], pl0, rfl, rfl, hok, hfr, hfa, (Or.inr ⟨by omega, by omega, rfl⟩)⟩ dX9_isLetter_27 (jj_le rfl) (jj_le rfl)

set_option maxHeartbeats 4000000 in
set_option maxRecDepth 100000 in
theorem te_isDigit {l : Launch} (hl : l.stackTraces = false) (D : va_G) (cA : Nat → ClassId) (ak : (Nat → Nat) × (Nat → Nat)) {Kd : Nat → Nat} (h0 a9 : Nat) (q : Nat) (u : Nat → Int32) (hk0 : Kd h0 = 10) (hk9 : Kd a9 = 11) (hq : q < 400) {pl0 : va_W} (hok : tt_ok tt_tk cA Kd pl0) (hs0 : tt_at pl0 h0 0 (.ref a9)) (hu : tt_ic pl0 a9 u) : jj_M l D cA ak yX9_isDigit (.code yX9_isDigit cX9_isDigit 2 (some .boolean)) 0 0 0 0 ([] ++ pl0) [.ref h0, .int (nI q)] (tt_O (fun rx pl1 r => rx = [] ∧ tt_ok tt_tk cA Kd pl1 ∧ tt_fr Kd [] pl0 pl1 ∧ tt_fa Kd [] pl0 pl1 ∧ ((((u q).toInt < 48 ∨ 57 < (u q).toInt) ∧ r = some (.int 0)) ∨ (48 ≤ (u q).toInt ∧ (u q).toInt ≤ 57 ∧ r = some (.int 1))))) (tt_OX (fun _ _ _ => False)) := by
  refine jj_start hl (by decide) jw_c365050a25 (jj_le rfl) ?_
  intro p e s m args below meth c9 A hargs hA C hex hmn
  have hfr := tt_fr.refl (K := Kd) (WS := []) pl0
  have hfa := tt_fa.refl (K := Kd) (WA := []) pl0
  refine jj_aload_n C dX9_isDigit_0 rfl ?_
  refine tt_getF C hok jk_10 0 (by decide) jw_0664e1e086 (t := (2, 11, 0)) hk0 (by decide) rfl rfl hs0 dX9_isDigit_1 ?_
  refine jj_iload_n C dX9_isDigit_4 rfl ?_
  refine tl_caldF C hok (t := (0, (-2147483648), 2147483647)) hk9 (by decide) rfl (k := q) (vp_in_nI (by omega) (by decide)) hu (nI_clamp (by omega)) rfl dX9_isDigit_5 ?_
  refine jj_bipush (v := 48) C dX9_isDigit_6 (by decide) ?_
  refine jj_icmp_lt (tgt := 26) C dX9_isDigit_8 (by decide) (fun c_1 => ?_) (fun c_1 => ?_)
  · have z_c_1 := jc_lt (a := (u q).toInt) (b := 48) c_1 rfl (by decide)
    refine jj_iconst (v := 0) C dX9_isDigit_26 (by decide) ?_
    exact jj_zret C rfl ⟨[], pl0, rfl, rfl, hok, hfr, hfa, (Or.inl ⟨by omega, rfl⟩)⟩ dX9_isDigit_27 (jj_le rfl) (jj_le rfl)
  · have z_c_1 := jc_nlt (a := (u q).toInt) (b := 48) c_1 rfl (by decide)
    refine jj_aload_n C dX9_isDigit_11 rfl ?_
    refine tt_getF C hok jk_10 0 (by decide) jw_0664e1e086 (t := (2, 11, 0)) hk0 (by decide) rfl rfl hs0 dX9_isDigit_12 ?_
    refine jj_iload_n C dX9_isDigit_15 rfl ?_
    refine tl_caldF C hok (t := (0, (-2147483648), 2147483647)) hk9 (by decide) rfl (k := q) (vp_in_nI (by omega) (by decide)) hu (nI_clamp (by omega)) rfl dX9_isDigit_16 ?_
    refine jj_bipush (v := 57) C dX9_isDigit_17 (by decide) ?_
    refine jj_icmp_gt (tgt := 26) C dX9_isDigit_19 (by decide) (fun c_2 => ?_) (fun c_2 => ?_)
    · have z_c_2 := jc_lt (a := 57) (b := (u q).toInt) c_2 (by decide) rfl
      refine jj_iconst (v := 0) C dX9_isDigit_26 (by decide) ?_
      exact jj_zret C rfl ⟨[], pl0, rfl, rfl, hok, hfr, hfa, (Or.inl ⟨by omega, rfl⟩)⟩ dX9_isDigit_27 (jj_le rfl) (jj_le rfl)
    · have z_c_2 := jc_nlt (a := 57) (b := (u q).toInt) c_2 (by decide) rfl
      refine jj_iconst (v := 1) C dX9_isDigit_22 (by decide) ?_
      refine jj_goto (tgt := 27) C dX9_isDigit_23 (by decide) ?_
      exact jj_zret C rfl ⟨[], pl0, rfl, rfl, hok, hfr, hfa, (Or.inr ⟨by omega, by omega, rfl⟩)⟩ dX9_isDigit_27 (jj_le rfl) (jj_le rfl)

set_option maxHeartbeats 4000000 in
set_option maxRecDepth 100000 in
theorem te_advance {l : Launch} (hl : l.stackTraces = false) (D : va_G) (cA : Nat → ClassId) (ak : (Nat → Nat) × (Nat → Nat)) {Kd : Nat → Nat} (h0 a9 : Nat) (n2 n3 : Nat) (u : Nat → Int32) (c : Nat → Int) (hk0 : Kd h0 = 10) (hk9 : Kd a9 = 11) (l2 : n2 ≤ 400) (h32 : n3 ≤ n2) (hc : ∀ k : Nat, k < n2 → c k = (u k).toInt) {pl0 : va_W} (hok : tt_ok tt_tk cA Kd pl0) (hs0 : tt_at pl0 h0 0 (.ref a9)) (hs2 : tt_at pl0 h0 2 (.int (nI n2))) (hs3 : tt_at pl0 h0 3 (.int (nI n3))) (hu : tt_ic pl0 a9 u) : jj_M l D cA ak yX9_advance (.code yX9_advance cX9_advance 1 none) 1 21 0 0 ([] ++ pl0) [.ref h0] (tt_O (fun rx pl1 r => rx = [] ∧ tt_ok tt_tk cA Kd pl1 ∧ tt_fr Kd [(10, 3), (10, 4), (10, 5), (10, 6)] pl0 pl1 ∧ tt_fa Kd [] pl0 pl1 ∧ ((∃ s t : Nat, tt_at pl1 h0 4 (.int (nI s)) ∧ tt_at pl1 h0 3 (.int (nI t)) ∧ tt_at pl1 h0 5 (.int 4) ∧ ps_tok c n2 n3 s t ∧ (s < n2 ∧ ¬ ps_le (c s) ∧ ¬ ps_di (c s) ∧ c s ≠ 59 ∧ t = s + 1) ∧ r = none) ∨ (∃ s t : Nat, tt_at pl1 h0 4 (.int (nI s)) ∧ tt_at pl1 h0 3 (.int (nI t)) ∧ tt_at pl1 h0 5 (.int 3) ∧ ps_tok c n2 n3 s t ∧ (s < n2 ∧ ¬ ps_le (c s) ∧ ¬ ps_di (c s) ∧ c s = 59 ∧ t = s + 1) ∧ r = none) ∨ (∃ s t : Nat, tt_at pl1 h0 4 (.int (nI s)) ∧ tt_at pl1 h0 3 (.int (nI t)) ∧ tt_at pl1 h0 5 (.int 2) ∧ ps_tok c n2 n3 s t ∧ (s < n2 ∧ ¬ ps_le (c s) ∧ ps_di (c s)) ∧ (∃ v : Int32, tt_at pl1 h0 6 (.int v) ∧ (t ≤ s + 7 → v.toInt = ps_val c s (t - s)) ∧ (s + 7 < t → v.toInt = -1)) ∧ r = none) ∨ (∃ s t : Nat, tt_at pl1 h0 4 (.int (nI s)) ∧ tt_at pl1 h0 3 (.int (nI t)) ∧ tt_at pl1 h0 5 (.int 1) ∧ ps_tok c n2 n3 s t ∧ (s < n2 ∧ ps_le (c s)) ∧ r = none) ∨ (∃ s t : Nat, tt_at pl1 h0 4 (.int (nI s)) ∧ tt_at pl1 h0 3 (.int (nI t)) ∧ tt_at pl1 h0 5 (.int 0) ∧ ps_tok c n2 n3 s t ∧ n2 ≤ s ∧ r = none)))) (tt_OX (fun _ _ _ => False)) := by
  refine jj_start hl (by decide) jw_0d4db63612 (jj_le rfl) ?_
  intro p e s m args below meth c9 A hargs hA C hex hmn
  have hfr := tt_fr.refl (K := Kd) (WS := [(10, 3), (10, 4), (10, 5), (10, 6)]) pl0
  have hfa := tt_fa.refl (K := Kd) (WA := []) pl0
  refine jj_aload_n C dX9_advance_0 rfl ?_
  refine jj_aload_n C dX9_advance_1 rfl ?_
  refine tt_getF C hok jk_10 3 (by decide) jw_f99bd0ca2b (t := (0, 0, 400)) hk0 (by decide) rfl rfl hs3 dX9_advance_2 ?_
  refine rl_put C hok jk_10 4 (by decide) jw_66bda6962a (t := (0, 0, 400)) hk0 (by decide) rfl rfl rfl (rl_iv (by omega) (by omega)) rfl rfl dX9_advance_5 (fun pl_1 hok_2 tr hn tl => ?_)
  replace hs0 := tr _ _ _ (Or.inr (by decide)) hs0
  replace hs2 := tr _ _ _ (Or.inr (by decide)) hs2
  replace hs3 := tr _ _ _ (Or.inr (by decide)) hs3
  have hf_3 := hn
  replace hfr := hfr.put hk0 tr (by decide)
  replace hu := tl _ _ hu
  replace hfa := hfa.all tl
  have hL_4 : ∀ (N : Nat) (pl : va_W) (n_8 : Nat), True → tt_ok tt_tk cA Kd pl → tt_fr Kd [(10, 3), (10, 4), (10, 5), (10, 6)] pl0 pl → tt_fa Kd [] pl0 pl → tt_at pl h0 0 (.ref a9) → tt_at pl h0 2 (.int (nI n2)) → tt_at pl h0 3 (.int (nI n3)) → tt_ic pl a9 u → tt_at pl h0 4 (.int (nI n_8)) → (0 : Int) ≤ (n_8 : Int) → (n_8 : Int) ≤ 400 → (n3 ≤ n_8 ∧ n_8 ≤ n2 ∧ ∀ k : Nat, n3 ≤ k → k < n_8 → k < n2 ∧ ps_bl (c k)) → (((n2 : Nat) : Int) - ((n_8 : Nat) : Int) + 1 ≤ (N : Int)) → jj_J p l e (jj_rm 1 21 0 0) s m args below meth c9 1 A (vx_MQ below (jj_q D A (tt_O (fun rx pl1 r => rx = [] ∧ tt_ok tt_tk cA Kd pl1 ∧ tt_fr Kd [(10, 3), (10, 4), (10, 5), (10, 6)] pl0 pl1 ∧ tt_fa Kd [] pl0 pl1 ∧ ((∃ s t : Nat, tt_at pl1 h0 4 (.int (nI s)) ∧ tt_at pl1 h0 3 (.int (nI t)) ∧ tt_at pl1 h0 5 (.int 4) ∧ ps_tok c n2 n3 s t ∧ (s < n2 ∧ ¬ ps_le (c s) ∧ ¬ ps_di (c s) ∧ c s ≠ 59 ∧ t = s + 1) ∧ r = none) ∨ (∃ s t : Nat, tt_at pl1 h0 4 (.int (nI s)) ∧ tt_at pl1 h0 3 (.int (nI t)) ∧ tt_at pl1 h0 5 (.int 3) ∧ ps_tok c n2 n3 s t ∧ (s < n2 ∧ ¬ ps_le (c s) ∧ ¬ ps_di (c s) ∧ c s = 59 ∧ t = s + 1) ∧ r = none) ∨ (∃ s t : Nat, tt_at pl1 h0 4 (.int (nI s)) ∧ tt_at pl1 h0 3 (.int (nI t)) ∧ tt_at pl1 h0 5 (.int 2) ∧ ps_tok c n2 n3 s t ∧ (s < n2 ∧ ¬ ps_le (c s) ∧ ps_di (c s)) ∧ (∃ v : Int32, tt_at pl1 h0 6 (.int v) ∧ (t ≤ s + 7 → v.toInt = ps_val c s (t - s)) ∧ (s + 7 < t → v.toInt = -1)) ∧ r = none) ∨ (∃ s t : Nat, tt_at pl1 h0 4 (.int (nI s)) ∧ tt_at pl1 h0 3 (.int (nI t)) ∧ tt_at pl1 h0 5 (.int 1) ∧ ps_tok c n2 n3 s t ∧ (s < n2 ∧ ps_le (c s)) ∧ r = none) ∨ (∃ s t : Nat, tt_at pl1 h0 4 (.int (nI s)) ∧ tt_at pl1 h0 3 (.int (nI t)) ∧ tt_at pl1 h0 5 (.int 0) ∧ ps_tok c n2 n3 s t ∧ n2 ≤ s ∧ r = none))))) (jj_x D A (tt_OX (fun _ _ _ => False))) args s 0 0 A) (jj_X D A ([] ++ pl)) 0 0 8 [(0, .ref h0)] [] := by
    intro NL_4
    induction NL_4 with
    | zero => intro pl n_8 _ hok hfr hfa hf_5 hf_6 hf_7 hu hf_9 ln_8 un_8 hS1 hNL_4; exfalso; omega
    | succ NL_4 ihL_4 =>
      intro pl n_8 _ hok hfr hfa hf_5 hf_6 hf_7 hu hf_9 ln_8 un_8 hS1 hNL_4
      replace ihL_4 := fun pl n_8 h1 => ihL_4 pl n_8 trivial h1
      refine jj_aload_n C dX9_advance_8 rfl ?_
      refine tt_getF C hok jk_10 4 (by decide) jw_66bda6962a (t := (0, 0, 400)) hk0 (by decide) rfl rfl hf_9 dX9_advance_9 ?_
      refine jj_aload_n C dX9_advance_12 rfl ?_
      refine tt_getF C hok jk_10 2 (by decide) jw_bc3c1a7c51 (t := (0, 0, 400)) hk0 (by decide) rfl rfl hf_6 dX9_advance_13 ?_
      refine jj_icmp_ge (tgt := 60) C dX9_advance_16 (by decide) (fun c_10 => ?_) (fun c_10 => ?_)
      · have z_c_10 := jc_le (a := ((n2 : Nat) : Int)) (b := ((n_8 : Nat) : Int)) c_10 (rl_ti (by omega)) (rl_ti (by omega))
        refine jj_aload_n C dX9_advance_60 rfl ?_
        refine jj_aload_n C dX9_advance_61 rfl ?_
        refine tt_getF C hok jk_10 4 (by decide) jw_66bda6962a (t := (0, 0, 400)) hk0 (by decide) rfl rfl hf_9 dX9_advance_62 ?_
        refine rl_put C hok jk_10 3 (by decide) jw_f99bd0ca2b (t := (0, 0, 400)) hk0 (by decide) rfl rfl rfl (rl_iv (by omega) (by omega)) rfl rfl dX9_advance_65 (fun pl_11 hok_12 tr hn tl => ?_)
        replace hf_5 := tr _ _ _ (Or.inr (by decide)) hf_5
        replace hf_6 := tr _ _ _ (Or.inr (by decide)) hf_6
        replace hf_9 := tr _ _ _ (Or.inr (by decide)) hf_9
        have hf_13 := hn
        replace hfr := hfr.put hk0 tr (by decide)
        replace hu := tl _ _ hu
        replace hfa := hfa.all tl
        refine jj_aload_n C dX9_advance_68 rfl ?_
        refine tt_getF C hok_12 jk_10 4 (by decide) jw_66bda6962a (t := (0, 0, 400)) hk0 (by decide) rfl rfl hf_9 dX9_advance_69 ?_
        refine jj_aload_n C dX9_advance_72 rfl ?_
        refine tt_getF C hok_12 jk_10 2 (by decide) jw_bc3c1a7c51 (t := (0, 0, 400)) hk0 (by decide) rfl rfl hf_6 dX9_advance_73 ?_
        refine jj_icmp_lt (tgt := 87) C dX9_advance_76 (by decide) (fun c_14 => ?_) (fun c_14 => ?_)
        · have z_c_14 := jc_lt (a := ((n_8 : Nat) : Int)) (b := ((n2 : Nat) : Int)) c_14 (rl_ti (by omega)) (rl_ti (by omega))
          refine jj_aload_n C dX9_advance_87 rfl ?_
          refine jj_aload_n C dX9_advance_88 rfl ?_
          refine tt_getF C hok_12 jk_10 4 (by decide) jw_66bda6962a (t := (0, 0, 400)) hk0 (by decide) rfl rfl hf_9 dX9_advance_89 ?_
          obtain ⟨qc, gs, hqc⟩ := tt_recv (cx := []) hok_12 hk0 (by decide) rfl
          refine tt_callV (rest := []) C (te_isLetter hl D cA ak h0 a9 n_8 u hk0 hk9 (by omega) hok_12 hf_5 hu) [] [] rfl rfl (by decide) (by decide) (by decide) qc hqc rfl rfl jw_5d32b2c455 jw_c77b9e5a65 jw_cdb619e1fe jw_a9e7b602dc jw_9e97b9dadb jn_X9_isLetter rfl (jj_le rfl) (jj_le rfl) (jj_le rfl) (jj_le rfl) (jj_le rfl) dX9_advance_92 rfl (fun _ _ _ hX => hX.elim) (fun rx pl_15 r O_19 => ?_)
          obtain ⟨rfl, hok_16, hr_17, ha_18, hR_20⟩ := O_19
          replace hf_5 := hr_17.at hk0 (by decide) (by decide) hf_5
          replace hf_6 := hr_17.at hk0 (by decide) (by decide) hf_6
          replace hf_9 := hr_17.at hk0 (by decide) (by decide) hf_9
          replace hf_13 := hr_17.at hk0 (by decide) (by decide) hf_13
          replace hu := ha_18.at hk9 (by decide) (by decide) hu
          replace hfr := hfr.trans (hr_17.sub (by decide))
          replace hfa := hfa.trans (ha_18.sub (by decide))
          rcases hR_20 with ⟨hl_21, rfl⟩ | ⟨hl_22, hl_23, rfl⟩
          · refine jj_if_eqT (tgt := 138) C dX9_advance_95 (by decide) (by decide) ?_
            refine jj_aload_n C dX9_advance_138 rfl ?_
            refine jj_aload_n C dX9_advance_139 rfl ?_
            refine tt_getF C hok_16 jk_10 4 (by decide) jw_66bda6962a (t := (0, 0, 400)) hk0 (by decide) rfl rfl hf_9 dX9_advance_140 ?_
            obtain ⟨qc, gs, hqc⟩ := tt_recv (cx := []) hok_16 hk0 (by decide) rfl
            refine tt_callV (rest := []) C (te_isDigit hl D cA ak h0 a9 n_8 u hk0 hk9 (by omega) hok_16 hf_5 hu) [] [] rfl rfl (by decide) (by decide) (by decide) qc hqc rfl rfl jw_9f660503f9 jw_c0c6c0e094 jw_7656ac4378 jw_a9e7b602dc jw_c365050a25 jn_X9_isDigit rfl (jj_le rfl) (jj_le rfl) (jj_le rfl) (jj_le rfl) (jj_le rfl) dX9_advance_143 rfl (fun _ _ _ hX => hX.elim) (fun rx pl_24 r O_28 => ?_)
            obtain ⟨rfl, hok_25, hr_26, ha_27, hR_29⟩ := O_28
            replace hf_5 := hr_26.at hk0 (by decide) (by decide) hf_5
            replace hf_6 := hr_26.at hk0 (by decide) (by decide) hf_6
            replace hf_9 := hr_26.at hk0 (by decide) (by decide) hf_9
            replace hf_13 := hr_26.at hk0 (by decide) (by decide) hf_13
            replace hu := ha_27.at hk9 (by decide) (by decide) hu
            replace hfr := hfr.trans (hr_26.sub (by decide))
            replace hfa := hfa.trans (ha_27.sub (by decide))
            rcases hR_29 with ⟨hl_30, rfl⟩ | ⟨hl_31, hl_32, rfl⟩
            · refine jj_if_eqT (tgt := 236) C dX9_advance_146 (by decide) (by decide) ?_
              refine jj_aload_n C dX9_advance_236 rfl ?_
              refine jj_aload_n C dX9_advance_237 rfl ?_
              refine tt_getF C hok_25 jk_10 0 (by decide) jw_0664e1e086 (t := (2, 11, 0)) hk0 (by decide) rfl rfl hf_5 dX9_advance_238 ?_
              refine jj_aload_n C dX9_advance_241 rfl ?_
              refine tt_getF C hok_25 jk_10 4 (by decide) jw_66bda6962a (t := (0, 0, 400)) hk0 (by decide) rfl rfl hf_9 dX9_advance_242 ?_
              refine tl_caldF C hok_25 (t := (0, (-2147483648), 2147483647)) hk9 (by decide) rfl (k := n_8) (vp_in_nI (by omega) (by decide)) hu (nI_clamp (by omega)) rfl dX9_advance_245 ?_
              refine jj_bipush (v := 59) C dX9_advance_246 (by decide) ?_
              refine jj_icmp_ne (tgt := 255) C dX9_advance_248 (by decide) (fun c_33 => ?_) (fun c_33 => ?_)
              · have z_c_33 := jc_neq (a := (u n_8).toInt) (b := 59) c_33 rfl (by decide)
                refine jj_iconst (v := 4) C dX9_advance_255 (by decide) ?_
                refine rl_put C hok_25 jk_10 5 (by decide) jw_bde5c0d1a5 (t := (0, (-2147483648), 2147483647)) hk0 (by decide) rfl rfl rfl (tt_ia (4 : Int32)) rfl rfl dX9_advance_256 (fun pl_34 hok_35 tr hn tl => ?_)
                replace hf_5 := tr _ _ _ (Or.inr (by decide)) hf_5
                replace hf_6 := tr _ _ _ (Or.inr (by decide)) hf_6
                replace hf_9 := tr _ _ _ (Or.inr (by decide)) hf_9
                replace hf_13 := tr _ _ _ (Or.inr (by decide)) hf_13
                have hf_36 := hn
                replace hfr := hfr.put hk0 tr (by decide)
                replace hu := tl _ _ hu
                replace hfa := hfa.all tl
                refine jj_aload_n C dX9_advance_259 rfl ?_
                refine jj_aload_n C dX9_advance_260 rfl ?_
                refine tt_getF C hok_35 jk_10 4 (by decide) jw_66bda6962a (t := (0, 0, 400)) hk0 (by decide) rfl rfl hf_9 dX9_advance_261 ?_
                refine jj_iconst (v := 1) C dX9_advance_264 (by decide) ?_
                refine jj_iadd (v := nI (1 + n_8)) C dX9_advance_265 (rl_addR (kn := 1) (by decide) (by omega)) ?_
                refine rl_put C hok_35 jk_10 3 (by decide) jw_f99bd0ca2b (t := (0, 0, 400)) hk0 (by decide) rfl rfl rfl (rl_iv (by omega) (by omega)) rfl rfl dX9_advance_266 (fun pl_37 hok_38 tr hn tl => ?_)
                replace hf_5 := tr _ _ _ (Or.inr (by decide)) hf_5
                replace hf_6 := tr _ _ _ (Or.inr (by decide)) hf_6
                replace hf_9 := tr _ _ _ (Or.inr (by decide)) hf_9
                replace hf_36 := tr _ _ _ (Or.inr (by decide)) hf_36
                have hf_39 := hn
                replace hfr := hfr.put hk0 tr (by decide)
                replace hu := tl _ _ hu
                replace hfa := hfa.all tl
                exact jj_vret C ⟨[], pl_37, rfl, rfl, hok_38, hfr, hfa, (Or.inl (by first | (exfalso; omega) | exact ⟨n_8, (1 + n_8), hf_9, hf_39, hf_36, ⟨⟨hS1.1, hS1.2.2, (fun q => by have q9 := hc _ q.1; have q8 := q.2; unfold ps_bl at q8; omega)⟩, Or.inr (Or.inr (Or.inr ⟨by omega, (fun q => by have q9 := hc n_8 (by omega); unfold ps_le at q; omega), (fun q => by have q9 := hc n_8 (by omega); unfold ps_di at q; omega), by omega⟩))⟩, ⟨by omega, (fun q => by have q9 := hc n_8 (by omega); unfold ps_le at q; omega), (fun q => by have q9 := hc n_8 (by omega); unfold ps_di at q; omega), (by have q9 := hc n_8 (by omega); omega), by omega⟩, rfl⟩))⟩ dX9_advance_269 (jj_le rfl) (jj_le rfl)
              · have z_c_33 := jc_eq (a := (u n_8).toInt) (b := 59) c_33 rfl (by decide)
                refine jj_iconst (v := 3) C dX9_advance_251 (by decide) ?_
                refine jj_goto (tgt := 256) C dX9_advance_252 (by decide) ?_
                refine rl_put C hok_25 jk_10 5 (by decide) jw_bde5c0d1a5 (t := (0, (-2147483648), 2147483647)) hk0 (by decide) rfl rfl rfl (tt_ia (3 : Int32)) rfl rfl dX9_advance_256 (fun pl_40 hok_41 tr hn tl => ?_)
                replace hf_5 := tr _ _ _ (Or.inr (by decide)) hf_5
                replace hf_6 := tr _ _ _ (Or.inr (by decide)) hf_6
                replace hf_9 := tr _ _ _ (Or.inr (by decide)) hf_9
                replace hf_13 := tr _ _ _ (Or.inr (by decide)) hf_13
                have hf_42 := hn
                replace hfr := hfr.put hk0 tr (by decide)
                replace hu := tl _ _ hu
                replace hfa := hfa.all tl
                refine jj_aload_n C dX9_advance_259 rfl ?_
                refine jj_aload_n C dX9_advance_260 rfl ?_
                refine tt_getF C hok_41 jk_10 4 (by decide) jw_66bda6962a (t := (0, 0, 400)) hk0 (by decide) rfl rfl hf_9 dX9_advance_261 ?_
                refine jj_iconst (v := 1) C dX9_advance_264 (by decide) ?_
                refine jj_iadd (v := nI (1 + n_8)) C dX9_advance_265 (rl_addR (kn := 1) (by decide) (by omega)) ?_
                refine rl_put C hok_41 jk_10 3 (by decide) jw_f99bd0ca2b (t := (0, 0, 400)) hk0 (by decide) rfl rfl rfl (rl_iv (by omega) (by omega)) rfl rfl dX9_advance_266 (fun pl_43 hok_44 tr hn tl => ?_)
                replace hf_5 := tr _ _ _ (Or.inr (by decide)) hf_5
                replace hf_6 := tr _ _ _ (Or.inr (by decide)) hf_6
                replace hf_9 := tr _ _ _ (Or.inr (by decide)) hf_9
                replace hf_42 := tr _ _ _ (Or.inr (by decide)) hf_42
                have hf_45 := hn
                replace hfr := hfr.put hk0 tr (by decide)
                replace hu := tl _ _ hu
                replace hfa := hfa.all tl
                exact jj_vret C ⟨[], pl_43, rfl, rfl, hok_44, hfr, hfa, (Or.inr (Or.inl (by first | (exfalso; omega) | exact ⟨n_8, (1 + n_8), hf_9, hf_45, hf_42, ⟨⟨hS1.1, hS1.2.2, (fun q => by have q9 := hc _ q.1; have q8 := q.2; unfold ps_bl at q8; omega)⟩, Or.inr (Or.inr (Or.inr ⟨by omega, (fun q => by have q9 := hc n_8 (by omega); unfold ps_le at q; omega), (fun q => by have q9 := hc n_8 (by omega); unfold ps_di at q; omega), by omega⟩))⟩, ⟨by omega, (fun q => by have q9 := hc n_8 (by omega); unfold ps_le at q; omega), (fun q => by have q9 := hc n_8 (by omega); unfold ps_di at q; omega), (by have q9 := hc n_8 (by omega); omega), by omega⟩, rfl⟩)))⟩ dX9_advance_269 (jj_le rfl) (jj_le rfl)
            · refine jj_if_eqF (tgt := 236) C dX9_advance_146 (by decide) (by decide) ?_
              refine jj_aload_n C dX9_advance_149 rfl ?_
              refine jj_iconst (v := 2) C dX9_advance_150 (by decide) ?_
              refine rl_put C hok_25 jk_10 5 (by decide) jw_bde5c0d1a5 (t := (0, (-2147483648), 2147483647)) hk0 (by decide) rfl rfl rfl (tt_ia (2 : Int32)) rfl rfl dX9_advance_151 (fun pl_46 hok_47 tr hn tl => ?_)
              replace hf_5 := tr _ _ _ (Or.inr (by decide)) hf_5
              replace hf_6 := tr _ _ _ (Or.inr (by decide)) hf_6
              replace hf_9 := tr _ _ _ (Or.inr (by decide)) hf_9
              replace hf_13 := tr _ _ _ (Or.inr (by decide)) hf_13
              have hf_48 := hn
              replace hfr := hfr.put hk0 tr (by decide)
              replace hu := tl _ _ hu
              replace hfa := hfa.all tl
              refine jj_aload_n C dX9_advance_154 rfl ?_
              refine jj_iconst (v := 0) C dX9_advance_155 (by decide) ?_
              refine rl_put C hok_47 jk_10 6 (by decide) jw_f32ea1979e (t := (0, (-2147483648), 2147483647)) hk0 (by decide) rfl rfl rfl (tt_ia (0 : Int32)) rfl rfl dX9_advance_156 (fun pl_49 hok_50 tr hn tl => ?_)
              replace hf_5 := tr _ _ _ (Or.inr (by decide)) hf_5
              replace hf_6 := tr _ _ _ (Or.inr (by decide)) hf_6
              replace hf_9 := tr _ _ _ (Or.inr (by decide)) hf_9
              replace hf_13 := tr _ _ _ (Or.inr (by decide)) hf_13
              replace hf_48 := tr _ _ _ (Or.inr (by decide)) hf_48
              have hf_51 := hn
              replace hfr := hfr.put hk0 tr (by decide)
              replace hu := tl _ _ hu
              replace hfa := hfa.all tl
              have hL_52 : ∀ (N : Nat) (pl : va_W) (n_57 : Nat) (x_58 : Int32), True → tt_ok tt_tk cA Kd pl → tt_fr Kd [(10, 3), (10, 4), (10, 5), (10, 6)] pl0 pl → tt_fa Kd [] pl0 pl → tt_at pl h0 0 (.ref a9) → tt_at pl h0 2 (.int (nI n2)) → tt_at pl h0 4 (.int (nI n_8)) → tt_at pl h0 5 (.int 2) → tt_ic pl a9 u → tt_at pl h0 3 (.int (nI n_57)) → tt_at pl h0 6 (.int x_58) → (0 : Int) ≤ (n_57 : Int) → (n_57 : Int) ≤ 400 → (-1 : Int) ≤ x_58.toInt → x_58.toInt ≤ 9999999 → (n_8 ≤ n_57 ∧ n_57 ≤ n2 ∧ (∀ k : Nat, n_8 ≤ k → k < n_57 → k < n2 ∧ ps_di (c k)) ∧ (n_57 ≤ n_8 + 7 → x_58.toInt = ps_val c n_8 (n_57 - n_8)) ∧ (n_8 + 7 < n_57 → x_58.toInt = -1)) → (((n2 : Nat) : Int) - ((n_57 : Nat) : Int) + 1 ≤ (N : Int)) → jj_J p l e (jj_rm 1 21 0 0) s m args below meth c9 1 A (vx_MQ below (jj_q D A (tt_O (fun rx pl1 r => rx = [] ∧ tt_ok tt_tk cA Kd pl1 ∧ tt_fr Kd [(10, 3), (10, 4), (10, 5), (10, 6)] pl0 pl1 ∧ tt_fa Kd [] pl0 pl1 ∧ ((∃ s t : Nat, tt_at pl1 h0 4 (.int (nI s)) ∧ tt_at pl1 h0 3 (.int (nI t)) ∧ tt_at pl1 h0 5 (.int 4) ∧ ps_tok c n2 n3 s t ∧ (s < n2 ∧ ¬ ps_le (c s) ∧ ¬ ps_di (c s) ∧ c s ≠ 59 ∧ t = s + 1) ∧ r = none) ∨ (∃ s t : Nat, tt_at pl1 h0 4 (.int (nI s)) ∧ tt_at pl1 h0 3 (.int (nI t)) ∧ tt_at pl1 h0 5 (.int 3) ∧ ps_tok c n2 n3 s t ∧ (s < n2 ∧ ¬ ps_le (c s) ∧ ¬ ps_di (c s) ∧ c s = 59 ∧ t = s + 1) ∧ r = none) ∨ (∃ s t : Nat, tt_at pl1 h0 4 (.int (nI s)) ∧ tt_at pl1 h0 3 (.int (nI t)) ∧ tt_at pl1 h0 5 (.int 2) ∧ ps_tok c n2 n3 s t ∧ (s < n2 ∧ ¬ ps_le (c s) ∧ ps_di (c s)) ∧ (∃ v : Int32, tt_at pl1 h0 6 (.int v) ∧ (t ≤ s + 7 → v.toInt = ps_val c s (t - s)) ∧ (s + 7 < t → v.toInt = -1)) ∧ r = none) ∨ (∃ s t : Nat, tt_at pl1 h0 4 (.int (nI s)) ∧ tt_at pl1 h0 3 (.int (nI t)) ∧ tt_at pl1 h0 5 (.int 1) ∧ ps_tok c n2 n3 s t ∧ (s < n2 ∧ ps_le (c s)) ∧ r = none) ∨ (∃ s t : Nat, tt_at pl1 h0 4 (.int (nI s)) ∧ tt_at pl1 h0 3 (.int (nI t)) ∧ tt_at pl1 h0 5 (.int 0) ∧ ps_tok c n2 n3 s t ∧ n2 ≤ s ∧ r = none))))) (jj_x D A (tt_OX (fun _ _ _ => False))) args s 0 0 A) (jj_X D A ([] ++ pl)) 0 0 159 [(0, .ref h0)] [] := by
                intro NL_52
                induction NL_52 with
                | zero => intro pl n_57 x_58 _ hok hfr hfa hf_53 hf_54 hf_55 hf_56 hu hf_59 hf_60 ln_57 un_57 lx_58 ux_58 hS3 hNL_52; exfalso; omega
                | succ NL_52 ihL_52 =>
                  intro pl n_57 x_58 _ hok hfr hfa hf_53 hf_54 hf_55 hf_56 hu hf_59 hf_60 ln_57 un_57 lx_58 ux_58 hS3 hNL_52
                  replace ihL_52 := fun pl n_57 x_58 h1 => ihL_52 pl n_57 x_58 trivial h1
                  refine jj_aload_n C dX9_advance_159 rfl ?_
                  refine tt_getF C hok jk_10 3 (by decide) jw_f99bd0ca2b (t := (0, 0, 400)) hk0 (by decide) rfl rfl hf_59 dX9_advance_160 ?_
                  refine jj_aload_n C dX9_advance_163 rfl ?_
                  refine tt_getF C hok jk_10 2 (by decide) jw_bc3c1a7c51 (t := (0, 0, 400)) hk0 (by decide) rfl rfl hf_54 dX9_advance_164 ?_
                  refine jj_icmp_ge (tgt := 269) C dX9_advance_167 (by decide) (fun c_61 => ?_) (fun c_61 => ?_)
                  · have z_c_61 := jc_le (a := ((n2 : Nat) : Int)) (b := ((n_57 : Nat) : Int)) c_61 (rl_ti (by omega)) (rl_ti (by omega))
                    exact jj_vret C ⟨[], pl, rfl, rfl, hok, hfr, hfa, (Or.inr (Or.inr (Or.inl (by first | (exfalso; omega) | exact ⟨n_8, n_57, hf_55, hf_59, hf_56, ⟨⟨hS1.1, hS1.2.2, (fun q => by have q9 := hc _ q.1; have q8 := q.2; unfold ps_bl at q8; omega)⟩, Or.inr (Or.inr (Or.inl ⟨by omega, (fun q => by have q9 := hc n_8 (by omega); unfold ps_le at q; omega), (by have q9 := hc n_8 (by omega); unfold ps_di; omega), ⟨hS3.1, hS3.2.2.1, (fun q => by have q9 := hc _ q.1; have q8 := q.2; unfold ps_di at q8; omega)⟩⟩))⟩, ⟨by omega, (fun q => by have q9 := hc n_8 (by omega); unfold ps_le at q; omega), (by have q9 := hc n_8 (by omega); unfold ps_di; omega)⟩, ⟨x_58, hf_60, hS3.2.2.2.1, hS3.2.2.2.2⟩, rfl⟩))))⟩ dX9_advance_269 (jj_le rfl) (jj_le rfl)
                  · have z_c_61 := jc_nle (a := ((n2 : Nat) : Int)) (b := ((n_57 : Nat) : Int)) c_61 (rl_ti (by omega)) (rl_ti (by omega))
                    refine jj_aload_n C dX9_advance_170 rfl ?_
                    refine jj_aload_n C dX9_advance_171 rfl ?_
                    refine tt_getF C hok jk_10 3 (by decide) jw_f99bd0ca2b (t := (0, 0, 400)) hk0 (by decide) rfl rfl hf_59 dX9_advance_172 ?_
                    obtain ⟨qc, gs, hqc⟩ := tt_recv (cx := []) hok hk0 (by decide) rfl
                    refine tt_callV (rest := []) C (te_isDigit hl D cA ak h0 a9 n_57 u hk0 hk9 (by omega) hok hf_53 hu) [] [] rfl rfl (by decide) (by decide) (by decide) qc hqc rfl rfl jw_9f660503f9 jw_c0c6c0e094 jw_7656ac4378 jw_a9e7b602dc jw_c365050a25 jn_X9_isDigit rfl (jj_le rfl) (jj_le rfl) (jj_le rfl) (jj_le rfl) (jj_le rfl) dX9_advance_175 rfl (fun _ _ _ hX => hX.elim) (fun rx pl_62 r O_66 => ?_)
                    obtain ⟨rfl, hok_63, hr_64, ha_65, hR_67⟩ := O_66
                    replace hf_53 := hr_64.at hk0 (by decide) (by decide) hf_53
                    replace hf_54 := hr_64.at hk0 (by decide) (by decide) hf_54
                    replace hf_55 := hr_64.at hk0 (by decide) (by decide) hf_55
                    replace hf_56 := hr_64.at hk0 (by decide) (by decide) hf_56
                    replace hf_59 := hr_64.at hk0 (by decide) (by decide) hf_59
                    replace hf_60 := hr_64.at hk0 (by decide) (by decide) hf_60
                    replace hu := ha_65.at hk9 (by decide) (by decide) hu
                    replace hfr := hfr.trans (hr_64.sub (by decide))
                    replace hfa := hfa.trans (ha_65.sub (by decide))
                    rcases hR_67 with ⟨hl_68, rfl⟩ | ⟨hl_69, hl_70, rfl⟩
                    · refine jj_if_eqT (tgt := 269) C dX9_advance_178 (by decide) (by decide) ?_
                      exact jj_vret C ⟨[], pl_62, rfl, rfl, hok_63, hfr, hfa, (Or.inr (Or.inr (Or.inl (by first | (exfalso; omega) | exact ⟨n_8, n_57, hf_55, hf_59, hf_56, ⟨⟨hS1.1, hS1.2.2, (fun q => by have q9 := hc _ q.1; have q8 := q.2; unfold ps_bl at q8; omega)⟩, Or.inr (Or.inr (Or.inl ⟨by omega, (fun q => by have q9 := hc n_8 (by omega); unfold ps_le at q; omega), (by have q9 := hc n_8 (by omega); unfold ps_di; omega), ⟨hS3.1, hS3.2.2.1, (fun q => by have q9 := hc _ q.1; have q8 := q.2; unfold ps_di at q8; omega)⟩⟩))⟩, ⟨by omega, (fun q => by have q9 := hc n_8 (by omega); unfold ps_le at q; omega), (by have q9 := hc n_8 (by omega); unfold ps_di; omega)⟩, ⟨x_58, hf_60, hS3.2.2.2.1, hS3.2.2.2.2⟩, rfl⟩))))⟩ dX9_advance_269 (jj_le rfl) (jj_le rfl)
                    · refine jj_if_eqF (tgt := 269) C dX9_advance_178 (by decide) (by decide) ?_
                      refine jj_aload_n C dX9_advance_181 rfl ?_
                      refine jj_aload_n C dX9_advance_182 rfl ?_
                      refine tt_getF C hok_63 jk_10 3 (by decide) jw_f99bd0ca2b (t := (0, 0, 400)) hk0 (by decide) rfl rfl hf_59 dX9_advance_183 ?_
                      refine jj_aload_n C dX9_advance_186 rfl ?_
                      refine tt_getF C hok_63 jk_10 4 (by decide) jw_66bda6962a (t := (0, 0, 400)) hk0 (by decide) rfl rfl hf_55 dX9_advance_187 ?_
                      obtain ⟨x_71, ex_71, vx_71⟩ := tt_isub (x := (nI n_57)) (y := (nI n_8)) (a := ((n_57 : Nat) : Int)) (rl_ti (by omega)) (b := ((n_8 : Nat) : Int)) (rl_ti (by omega)) (by omega) (by omega)
                      refine jj_isub (v := x_71) C dX9_advance_190 ex_71 ?_
                      refine jj_bipush (v := 7) C dX9_advance_191 (by decide) ?_
                      refine jj_icmp_ge (tgt := 219) C dX9_advance_193 (by decide) (fun c_72 => ?_) (fun c_72 => ?_)
                      · have z_c_72 := jc_le (a := 7) (b := x_71.toInt) c_72 (by decide) rfl
                        refine jj_iconst (v := (-1)) C dX9_advance_219 (by decide) ?_
                        refine rl_put C hok_63 jk_10 6 (by decide) jw_f32ea1979e (t := (0, (-2147483648), 2147483647)) hk0 (by decide) rfl rfl rfl (tt_ia ((-1) : Int32)) rfl rfl dX9_advance_220 (fun pl_73 hok_74 tr hn tl => ?_)
                        replace hf_53 := tr _ _ _ (Or.inr (by decide)) hf_53
                        replace hf_54 := tr _ _ _ (Or.inr (by decide)) hf_54
                        replace hf_55 := tr _ _ _ (Or.inr (by decide)) hf_55
                        replace hf_56 := tr _ _ _ (Or.inr (by decide)) hf_56
                        replace hf_59 := tr _ _ _ (Or.inr (by decide)) hf_59
                        have hf_75 := hn
                        replace hfr := hfr.put hk0 tr (by decide)
                        replace hu := tl _ _ hu
                        replace hfa := hfa.all tl
                        refine jj_aload_n C dX9_advance_223 rfl ?_
                        refine jj_dup C dX9_advance_224 rfl ?_
                        refine tt_getF C hok_74 jk_10 3 (by decide) jw_f99bd0ca2b (t := (0, 0, 400)) hk0 (by decide) rfl rfl hf_59 dX9_advance_225 ?_
                        refine jj_iconst (v := 1) C dX9_advance_228 (by decide) ?_
                        refine jj_iadd (v := nI (1 + n_57)) C dX9_advance_229 (rl_addR (kn := 1) (by decide) (by omega)) ?_
                        refine rl_put C hok_74 jk_10 3 (by decide) jw_f99bd0ca2b (t := (0, 0, 400)) hk0 (by decide) rfl rfl rfl (rl_iv (by omega) (by omega)) rfl rfl dX9_advance_230 (fun pl_76 hok_77 tr hn tl => ?_)
                        replace hf_53 := tr _ _ _ (Or.inr (by decide)) hf_53
                        replace hf_54 := tr _ _ _ (Or.inr (by decide)) hf_54
                        replace hf_55 := tr _ _ _ (Or.inr (by decide)) hf_55
                        replace hf_56 := tr _ _ _ (Or.inr (by decide)) hf_56
                        replace hf_75 := tr _ _ _ (Or.inr (by decide)) hf_75
                        have hf_78 := hn
                        replace hfr := hfr.put hk0 tr (by decide)
                        replace hu := tl _ _ hu
                        replace hfa := hfa.all tl
                        refine jj_goto (tgt := 159) C dX9_advance_233 (by decide) ?_
                        have hT : ∀ k : Nat, n_8 ≤ k → k < 1 + n_57 → k < n2 ∧ ps_di (c k) := fun k p q => by
                          by_cases e9 : k = n_57
                          · rw [e9]; exact ⟨by omega, by have q9 := hc n_57 (by omega); unfold ps_di; omega⟩
                          · exact hS3.2.2.1 k p (by omega)
                        have hE : (1 + n_57) = n_57 + 1 := by omega
                        have hV : (1 + n_57) ≤ n_8 + 7 → ((-1) : Int32).toInt = ps_val c n_8 ((1 + n_57) - n_8) := fun q => by
                          first
                          | (exfalso; omega)
                          | (rw [hE, ps_val.step (by omega)]; have q1 := hS3.2.2.2.1 (by omega); have q9 := hc n_57 (by omega); omega)
                        exact ihL_52 pl_76 (1 + n_57) ((-1) : Int32) hok_77 hfr hfa hf_53 hf_54 hf_55 hf_56 hu hf_78 hf_75 (by first | omega | decide | exact tt_lo _ | exact tt_hi _) (by first | omega | decide | exact tt_lo _ | exact tt_hi _) (by first | omega | decide | exact tt_lo _ | exact tt_hi _) (by first | omega | decide | exact tt_lo _ | exact tt_hi _) ⟨by omega, by omega, hT, hV, fun q => by first | omega | (exfalso; omega) | decide⟩ (by first | omega | decide | exact tt_lo _ | exact tt_hi _)
                      · have z_c_72 := jc_nle (a := 7) (b := x_71.toInt) c_72 (by decide) rfl
                        refine jj_aload_n C dX9_advance_196 rfl ?_
                        refine tt_getF C hok_63 jk_10 6 (by decide) jw_f32ea1979e (t := (0, (-2147483648), 2147483647)) hk0 (by decide) rfl rfl hf_60 dX9_advance_197 ?_
                        refine jj_bipush (v := 10) C dX9_advance_200 (by decide) ?_
                        have hB := ps_val.six (c := c) (s := n_8) (b := n_57) (by omega) (fun k p q => (hS3.2.2.1 k p q).2)
                        have hB1 := hS3.2.2.2.1 (by omega)
                        obtain ⟨x_79, ex_79, vx_79⟩ := te_mul10 (x := x_58) (by omega) (by omega)
                        refine jj_imul (v := x_79) C dX9_advance_202 ex_79 ?_
                        refine jj_aload_n C dX9_advance_203 rfl ?_
                        refine tt_getF C hok_63 jk_10 0 (by decide) jw_0664e1e086 (t := (2, 11, 0)) hk0 (by decide) rfl rfl hf_53 dX9_advance_204 ?_
                        refine jj_aload_n C dX9_advance_207 rfl ?_
                        refine tt_getF C hok_63 jk_10 3 (by decide) jw_f99bd0ca2b (t := (0, 0, 400)) hk0 (by decide) rfl rfl hf_59 dX9_advance_208 ?_
                        refine tl_caldF C hok_63 (t := (0, (-2147483648), 2147483647)) hk9 (by decide) rfl (k := n_57) (vp_in_nI (by omega) (by decide)) hu (nI_clamp (by omega)) rfl dX9_advance_211 ?_
                        refine jj_bipush (v := 48) C dX9_advance_212 (by decide) ?_
                        obtain ⟨x_80, ex_80, vx_80⟩ := tt_isub (x := (u n_57)) (y := (48 : Int32)) (a := (u n_57).toInt) rfl (b := 48) (by decide) (by omega) (by omega)
                        refine jj_isub (v := x_80) C dX9_advance_214 ex_80 ?_
                        obtain ⟨x_81, ex_81, vx_81⟩ := tt_iadd (x := x_79) (y := x_80) (a := x_79.toInt) rfl (b := x_80.toInt) rfl (by omega) (by omega)
                        refine jj_iadd (v := x_81) C dX9_advance_215 ex_81 ?_
                        refine jj_goto (tgt := 220) C dX9_advance_216 (by decide) ?_
                        refine rl_put C hok_63 jk_10 6 (by decide) jw_f32ea1979e (t := (0, (-2147483648), 2147483647)) hk0 (by decide) rfl rfl rfl (tt_ia x_81) rfl rfl dX9_advance_220 (fun pl_82 hok_83 tr hn tl => ?_)
                        replace hf_53 := tr _ _ _ (Or.inr (by decide)) hf_53
                        replace hf_54 := tr _ _ _ (Or.inr (by decide)) hf_54
                        replace hf_55 := tr _ _ _ (Or.inr (by decide)) hf_55
                        replace hf_56 := tr _ _ _ (Or.inr (by decide)) hf_56
                        replace hf_59 := tr _ _ _ (Or.inr (by decide)) hf_59
                        have hf_84 := hn
                        replace hfr := hfr.put hk0 tr (by decide)
                        replace hu := tl _ _ hu
                        replace hfa := hfa.all tl
                        refine jj_aload_n C dX9_advance_223 rfl ?_
                        refine jj_dup C dX9_advance_224 rfl ?_
                        refine tt_getF C hok_83 jk_10 3 (by decide) jw_f99bd0ca2b (t := (0, 0, 400)) hk0 (by decide) rfl rfl hf_59 dX9_advance_225 ?_
                        refine jj_iconst (v := 1) C dX9_advance_228 (by decide) ?_
                        refine jj_iadd (v := nI (1 + n_57)) C dX9_advance_229 (rl_addR (kn := 1) (by decide) (by omega)) ?_
                        refine rl_put C hok_83 jk_10 3 (by decide) jw_f99bd0ca2b (t := (0, 0, 400)) hk0 (by decide) rfl rfl rfl (rl_iv (by omega) (by omega)) rfl rfl dX9_advance_230 (fun pl_85 hok_86 tr hn tl => ?_)
                        replace hf_53 := tr _ _ _ (Or.inr (by decide)) hf_53
                        replace hf_54 := tr _ _ _ (Or.inr (by decide)) hf_54
                        replace hf_55 := tr _ _ _ (Or.inr (by decide)) hf_55
                        replace hf_56 := tr _ _ _ (Or.inr (by decide)) hf_56
                        replace hf_84 := tr _ _ _ (Or.inr (by decide)) hf_84
                        have hf_87 := hn
                        replace hfr := hfr.put hk0 tr (by decide)
                        replace hu := tl _ _ hu
                        replace hfa := hfa.all tl
                        refine jj_goto (tgt := 159) C dX9_advance_233 (by decide) ?_
                        have hT : ∀ k : Nat, n_8 ≤ k → k < 1 + n_57 → k < n2 ∧ ps_di (c k) := fun k p q => by
                          by_cases e9 : k = n_57
                          · rw [e9]; exact ⟨by omega, by have q9 := hc n_57 (by omega); unfold ps_di; omega⟩
                          · exact hS3.2.2.1 k p (by omega)
                        have hE : (1 + n_57) = n_57 + 1 := by omega
                        have hV : (1 + n_57) ≤ n_8 + 7 → x_81.toInt = ps_val c n_8 ((1 + n_57) - n_8) := fun q => by
                          first
                          | (exfalso; omega)
                          | (rw [hE, ps_val.step (by omega)]; have q1 := hS3.2.2.2.1 (by omega); have q9 := hc n_57 (by omega); omega)
                        exact ihL_52 pl_85 (1 + n_57) x_81 hok_86 hfr hfa hf_53 hf_54 hf_55 hf_56 hu hf_87 hf_84 (by first | omega | decide | exact tt_lo _ | exact tt_hi _) (by first | omega | decide | exact tt_lo _ | exact tt_hi _) (by first | omega | decide | exact tt_lo _ | exact tt_hi _) (by first | omega | decide | exact tt_lo _ | exact tt_hi _) ⟨by omega, by omega, hT, hV, fun q => by first | omega | (exfalso; omega) | decide⟩ (by first | omega | decide | exact tt_lo _ | exact tt_hi _)
              exact hL_52 _ pl_49 n_8 (0 : Int32) trivial hok_50 hfr hfa hf_5 hf_6 hf_9 hf_48 hu hf_13 hf_51 (by first | omega | decide | exact tt_lo _ | exact tt_hi _) (by first | omega | decide | exact tt_lo _ | exact tt_hi _) (by first | omega | decide | exact tt_lo _ | exact tt_hi _) (by first | omega | decide | exact tt_lo _ | exact tt_hi _) ⟨by omega, by omega, fun k p q => absurd q (by omega), fun _ => (by rw [Nat.sub_self]; exact (show (0 : Int32).toInt = (0 : Int) from by decide)), fun q => absurd q (by omega)⟩ (Int.self_le_toNat _)
          · refine jj_if_eqF (tgt := 138) C dX9_advance_95 (by decide) (by decide) ?_
            refine jj_aload_n C dX9_advance_98 rfl ?_
            refine jj_iconst (v := 1) C dX9_advance_99 (by decide) ?_
            refine rl_put C hok_16 jk_10 5 (by decide) jw_bde5c0d1a5 (t := (0, (-2147483648), 2147483647)) hk0 (by decide) rfl rfl rfl (tt_ia (1 : Int32)) rfl rfl dX9_advance_100 (fun pl_88 hok_89 tr hn tl => ?_)
            replace hf_5 := tr _ _ _ (Or.inr (by decide)) hf_5
            replace hf_6 := tr _ _ _ (Or.inr (by decide)) hf_6
            replace hf_9 := tr _ _ _ (Or.inr (by decide)) hf_9
            replace hf_13 := tr _ _ _ (Or.inr (by decide)) hf_13
            have hf_90 := hn
            replace hfr := hfr.put hk0 tr (by decide)
            replace hu := tl _ _ hu
            replace hfa := hfa.all tl
            have hL_91 : ∀ (N : Nat) (pl : va_W) (n_96 : Nat), True → tt_ok tt_tk cA Kd pl → tt_fr Kd [(10, 3), (10, 4), (10, 5), (10, 6)] pl0 pl → tt_fa Kd [] pl0 pl → tt_at pl h0 0 (.ref a9) → tt_at pl h0 2 (.int (nI n2)) → tt_at pl h0 4 (.int (nI n_8)) → tt_at pl h0 5 (.int 1) → tt_ic pl a9 u → tt_at pl h0 3 (.int (nI n_96)) → (0 : Int) ≤ (n_96 : Int) → (n_96 : Int) ≤ 400 → (n_8 ≤ n_96 ∧ n_96 ≤ n2 ∧ ∀ k : Nat, n_8 ≤ k → k < n_96 → k < n2 ∧ ps_le (c k)) → (((n2 : Nat) : Int) - ((n_96 : Nat) : Int) + 1 ≤ (N : Int)) → jj_J p l e (jj_rm 1 21 0 0) s m args below meth c9 1 A (vx_MQ below (jj_q D A (tt_O (fun rx pl1 r => rx = [] ∧ tt_ok tt_tk cA Kd pl1 ∧ tt_fr Kd [(10, 3), (10, 4), (10, 5), (10, 6)] pl0 pl1 ∧ tt_fa Kd [] pl0 pl1 ∧ ((∃ s t : Nat, tt_at pl1 h0 4 (.int (nI s)) ∧ tt_at pl1 h0 3 (.int (nI t)) ∧ tt_at pl1 h0 5 (.int 4) ∧ ps_tok c n2 n3 s t ∧ (s < n2 ∧ ¬ ps_le (c s) ∧ ¬ ps_di (c s) ∧ c s ≠ 59 ∧ t = s + 1) ∧ r = none) ∨ (∃ s t : Nat, tt_at pl1 h0 4 (.int (nI s)) ∧ tt_at pl1 h0 3 (.int (nI t)) ∧ tt_at pl1 h0 5 (.int 3) ∧ ps_tok c n2 n3 s t ∧ (s < n2 ∧ ¬ ps_le (c s) ∧ ¬ ps_di (c s) ∧ c s = 59 ∧ t = s + 1) ∧ r = none) ∨ (∃ s t : Nat, tt_at pl1 h0 4 (.int (nI s)) ∧ tt_at pl1 h0 3 (.int (nI t)) ∧ tt_at pl1 h0 5 (.int 2) ∧ ps_tok c n2 n3 s t ∧ (s < n2 ∧ ¬ ps_le (c s) ∧ ps_di (c s)) ∧ (∃ v : Int32, tt_at pl1 h0 6 (.int v) ∧ (t ≤ s + 7 → v.toInt = ps_val c s (t - s)) ∧ (s + 7 < t → v.toInt = -1)) ∧ r = none) ∨ (∃ s t : Nat, tt_at pl1 h0 4 (.int (nI s)) ∧ tt_at pl1 h0 3 (.int (nI t)) ∧ tt_at pl1 h0 5 (.int 1) ∧ ps_tok c n2 n3 s t ∧ (s < n2 ∧ ps_le (c s)) ∧ r = none) ∨ (∃ s t : Nat, tt_at pl1 h0 4 (.int (nI s)) ∧ tt_at pl1 h0 3 (.int (nI t)) ∧ tt_at pl1 h0 5 (.int 0) ∧ ps_tok c n2 n3 s t ∧ n2 ≤ s ∧ r = none))))) (jj_x D A (tt_OX (fun _ _ _ => False))) args s 0 0 A) (jj_X D A ([] ++ pl)) 0 0 103 [(0, .ref h0)] [] := by
              intro NL_91
              induction NL_91 with
              | zero => intro pl n_96 _ hok hfr hfa hf_92 hf_93 hf_94 hf_95 hu hf_97 ln_96 un_96 hS2 hNL_91; exfalso; omega
              | succ NL_91 ihL_91 =>
                intro pl n_96 _ hok hfr hfa hf_92 hf_93 hf_94 hf_95 hu hf_97 ln_96 un_96 hS2 hNL_91
                replace ihL_91 := fun pl n_96 h1 => ihL_91 pl n_96 trivial h1
                refine jj_aload_n C dX9_advance_103 rfl ?_
                refine tt_getF C hok jk_10 3 (by decide) jw_f99bd0ca2b (t := (0, 0, 400)) hk0 (by decide) rfl rfl hf_97 dX9_advance_104 ?_
                refine jj_aload_n C dX9_advance_107 rfl ?_
                refine tt_getF C hok jk_10 2 (by decide) jw_bc3c1a7c51 (t := (0, 0, 400)) hk0 (by decide) rfl rfl hf_93 dX9_advance_108 ?_
                refine jj_icmp_ge (tgt := 269) C dX9_advance_111 (by decide) (fun c_98 => ?_) (fun c_98 => ?_)
                · have z_c_98 := jc_le (a := ((n2 : Nat) : Int)) (b := ((n_96 : Nat) : Int)) c_98 (rl_ti (by omega)) (rl_ti (by omega))
                  exact jj_vret C ⟨[], pl, rfl, rfl, hok, hfr, hfa, (Or.inr (Or.inr (Or.inr (Or.inl (by first | (exfalso; omega) | exact ⟨n_8, n_96, hf_94, hf_97, hf_95, ⟨⟨hS1.1, hS1.2.2, (fun q => by have q9 := hc _ q.1; have q8 := q.2; unfold ps_bl at q8; omega)⟩, Or.inr (Or.inl ⟨by omega, (by have q9 := hc n_8 (by omega); unfold ps_le; omega), ⟨hS2.1, hS2.2.2, (fun q => by have q9 := hc _ q.1; have q8 := q.2; unfold ps_le at q8; omega)⟩⟩)⟩, ⟨by omega, (by have q9 := hc n_8 (by omega); unfold ps_le; omega)⟩, rfl⟩)))))⟩ dX9_advance_269 (jj_le rfl) (jj_le rfl)
                · have z_c_98 := jc_nle (a := ((n2 : Nat) : Int)) (b := ((n_96 : Nat) : Int)) c_98 (rl_ti (by omega)) (rl_ti (by omega))
                  refine jj_aload_n C dX9_advance_114 rfl ?_
                  refine jj_aload_n C dX9_advance_115 rfl ?_
                  refine tt_getF C hok jk_10 3 (by decide) jw_f99bd0ca2b (t := (0, 0, 400)) hk0 (by decide) rfl rfl hf_97 dX9_advance_116 ?_
                  obtain ⟨qc, gs, hqc⟩ := tt_recv (cx := []) hok hk0 (by decide) rfl
                  refine tt_callV (rest := []) C (te_isLetter hl D cA ak h0 a9 n_96 u hk0 hk9 (by omega) hok hf_92 hu) [] [] rfl rfl (by decide) (by decide) (by decide) qc hqc rfl rfl jw_5d32b2c455 jw_c77b9e5a65 jw_cdb619e1fe jw_a9e7b602dc jw_9e97b9dadb jn_X9_isLetter rfl (jj_le rfl) (jj_le rfl) (jj_le rfl) (jj_le rfl) (jj_le rfl) dX9_advance_119 rfl (fun _ _ _ hX => hX.elim) (fun rx pl_99 r O_103 => ?_)
                  obtain ⟨rfl, hok_100, hr_101, ha_102, hR_104⟩ := O_103
                  replace hf_92 := hr_101.at hk0 (by decide) (by decide) hf_92
                  replace hf_93 := hr_101.at hk0 (by decide) (by decide) hf_93
                  replace hf_94 := hr_101.at hk0 (by decide) (by decide) hf_94
                  replace hf_95 := hr_101.at hk0 (by decide) (by decide) hf_95
                  replace hf_97 := hr_101.at hk0 (by decide) (by decide) hf_97
                  replace hu := ha_102.at hk9 (by decide) (by decide) hu
                  replace hfr := hfr.trans (hr_101.sub (by decide))
                  replace hfa := hfa.trans (ha_102.sub (by decide))
                  rcases hR_104 with ⟨hl_105, rfl⟩ | ⟨hl_106, hl_107, rfl⟩
                  · refine jj_if_eqT (tgt := 269) C dX9_advance_122 (by decide) (by decide) ?_
                    exact jj_vret C ⟨[], pl_99, rfl, rfl, hok_100, hfr, hfa, (Or.inr (Or.inr (Or.inr (Or.inl (by first | (exfalso; omega) | exact ⟨n_8, n_96, hf_94, hf_97, hf_95, ⟨⟨hS1.1, hS1.2.2, (fun q => by have q9 := hc _ q.1; have q8 := q.2; unfold ps_bl at q8; omega)⟩, Or.inr (Or.inl ⟨by omega, (by have q9 := hc n_8 (by omega); unfold ps_le; omega), ⟨hS2.1, hS2.2.2, (fun q => by have q9 := hc _ q.1; have q8 := q.2; unfold ps_le at q8; omega)⟩⟩)⟩, ⟨by omega, (by have q9 := hc n_8 (by omega); unfold ps_le; omega)⟩, rfl⟩)))))⟩ dX9_advance_269 (jj_le rfl) (jj_le rfl)
                  · refine jj_if_eqF (tgt := 269) C dX9_advance_122 (by decide) (by decide) ?_
                    refine jj_aload_n C dX9_advance_125 rfl ?_
                    refine jj_dup C dX9_advance_126 rfl ?_
                    refine tt_getF C hok_100 jk_10 3 (by decide) jw_f99bd0ca2b (t := (0, 0, 400)) hk0 (by decide) rfl rfl hf_97 dX9_advance_127 ?_
                    refine jj_iconst (v := 1) C dX9_advance_130 (by decide) ?_
                    refine jj_iadd (v := nI (1 + n_96)) C dX9_advance_131 (rl_addR (kn := 1) (by decide) (by omega)) ?_
                    refine rl_put C hok_100 jk_10 3 (by decide) jw_f99bd0ca2b (t := (0, 0, 400)) hk0 (by decide) rfl rfl rfl (rl_iv (by omega) (by omega)) rfl rfl dX9_advance_132 (fun pl_108 hok_109 tr hn tl => ?_)
                    replace hf_92 := tr _ _ _ (Or.inr (by decide)) hf_92
                    replace hf_93 := tr _ _ _ (Or.inr (by decide)) hf_93
                    replace hf_94 := tr _ _ _ (Or.inr (by decide)) hf_94
                    replace hf_95 := tr _ _ _ (Or.inr (by decide)) hf_95
                    have hf_110 := hn
                    replace hfr := hfr.put hk0 tr (by decide)
                    replace hu := tl _ _ hu
                    replace hfa := hfa.all tl
                    refine jj_goto (tgt := 103) C dX9_advance_135 (by decide) ?_
                    have hT : ∀ k : Nat, n_8 ≤ k → k < 1 + n_96 → k < n2 ∧ ps_le (c k) := fun k p q => by
                      by_cases e9 : k = n_96
                      · rw [e9]; exact ⟨by omega, by have q9 := hc n_96 (by omega); unfold ps_le; omega⟩
                      · exact hS2.2.2 k p (by omega)
                    exact ihL_91 pl_108 (1 + n_96) hok_109 hfr hfa hf_92 hf_93 hf_94 hf_95 hu hf_110 (by first | omega | decide | exact tt_lo _ | exact tt_hi _) (by first | omega | decide | exact tt_lo _ | exact tt_hi _) ⟨by omega, by omega, hT⟩ (by first | omega | decide | exact tt_lo _ | exact tt_hi _)
            exact hL_91 _ pl_88 n_8 trivial hok_89 hfr hfa hf_5 hf_6 hf_9 hf_90 hu hf_13 (by first | omega | decide | exact tt_lo _ | exact tt_hi _) (by first | omega | decide | exact tt_lo _ | exact tt_hi _) ⟨by omega, by omega, fun k p q => absurd q (by omega)⟩ (Int.self_le_toNat _)
        · have z_c_14 := jc_nlt (a := ((n_8 : Nat) : Int)) (b := ((n2 : Nat) : Int)) c_14 (rl_ti (by omega)) (rl_ti (by omega))
          refine jj_aload_n C dX9_advance_79 rfl ?_
          refine jj_iconst (v := 0) C dX9_advance_80 (by decide) ?_
          refine rl_put C hok_12 jk_10 5 (by decide) jw_bde5c0d1a5 (t := (0, (-2147483648), 2147483647)) hk0 (by decide) rfl rfl rfl (tt_ia (0 : Int32)) rfl rfl dX9_advance_81 (fun pl_111 hok_112 tr hn tl => ?_)
          replace hf_5 := tr _ _ _ (Or.inr (by decide)) hf_5
          replace hf_6 := tr _ _ _ (Or.inr (by decide)) hf_6
          replace hf_9 := tr _ _ _ (Or.inr (by decide)) hf_9
          replace hf_13 := tr _ _ _ (Or.inr (by decide)) hf_13
          have hf_113 := hn
          replace hfr := hfr.put hk0 tr (by decide)
          replace hu := tl _ _ hu
          replace hfa := hfa.all tl
          refine jj_goto (tgt := 269) C dX9_advance_84 (by decide) ?_
          exact jj_vret C ⟨[], pl_111, rfl, rfl, hok_112, hfr, hfa, (Or.inr (Or.inr (Or.inr (Or.inr (by first | (exfalso; omega) | exact ⟨n_8, n_8, hf_9, hf_13, hf_113, ⟨⟨hS1.1, hS1.2.2, (fun q => by have q9 := hc _ q.1; have q8 := q.2; unfold ps_bl at q8; omega)⟩, Or.inl ⟨by omega, by omega⟩⟩, by omega, rfl⟩)))))⟩ dX9_advance_269 (jj_le rfl) (jj_le rfl)
      · have z_c_10 := jc_nle (a := ((n2 : Nat) : Int)) (b := ((n_8 : Nat) : Int)) c_10 (rl_ti (by omega)) (rl_ti (by omega))
        refine jj_aload_n C dX9_advance_19 rfl ?_
        refine tt_getF C hok jk_10 0 (by decide) jw_0664e1e086 (t := (2, 11, 0)) hk0 (by decide) rfl rfl hf_5 dX9_advance_20 ?_
        refine jj_aload_n C dX9_advance_23 rfl ?_
        refine tt_getF C hok jk_10 4 (by decide) jw_66bda6962a (t := (0, 0, 400)) hk0 (by decide) rfl rfl hf_9 dX9_advance_24 ?_
        refine tl_caldF C hok (t := (0, (-2147483648), 2147483647)) hk9 (by decide) rfl (k := n_8) (vp_in_nI (by omega) (by decide)) hu (nI_clamp (by omega)) rfl dX9_advance_27 ?_
        refine jj_bipush (v := 32) C dX9_advance_28 (by decide) ?_
        refine jj_icmp_eq (tgt := 47) C dX9_advance_30 (by decide) (fun c_114 => ?_) (fun c_114 => ?_)
        · have z_c_114 := jc_eq (a := (u n_8).toInt) (b := 32) c_114 rfl (by decide)
          refine jj_aload_n C dX9_advance_47 rfl ?_
          refine jj_dup C dX9_advance_48 rfl ?_
          refine tt_getF C hok jk_10 4 (by decide) jw_66bda6962a (t := (0, 0, 400)) hk0 (by decide) rfl rfl hf_9 dX9_advance_49 ?_
          refine jj_iconst (v := 1) C dX9_advance_52 (by decide) ?_
          refine jj_iadd (v := nI (1 + n_8)) C dX9_advance_53 (rl_addR (kn := 1) (by decide) (by omega)) ?_
          refine rl_put C hok jk_10 4 (by decide) jw_66bda6962a (t := (0, 0, 400)) hk0 (by decide) rfl rfl rfl (rl_iv (by omega) (by omega)) rfl rfl dX9_advance_54 (fun pl_115 hok_116 tr hn tl => ?_)
          replace hf_5 := tr _ _ _ (Or.inr (by decide)) hf_5
          replace hf_6 := tr _ _ _ (Or.inr (by decide)) hf_6
          replace hf_7 := tr _ _ _ (Or.inr (by decide)) hf_7
          have hf_117 := hn
          replace hfr := hfr.put hk0 tr (by decide)
          replace hu := tl _ _ hu
          replace hfa := hfa.all tl
          refine jj_goto (tgt := 8) C dX9_advance_57 (by decide) ?_
          have hT : ∀ k : Nat, n3 ≤ k → k < 1 + n_8 → k < n2 ∧ ps_bl (c k) := fun k p q => by
            by_cases e9 : k = n_8
            · rw [e9]; exact ⟨by omega, by have q9 := hc n_8 (by omega); unfold ps_bl; omega⟩
            · exact hS1.2.2 k p (by omega)
          exact ihL_4 pl_115 (1 + n_8) hok_116 hfr hfa hf_5 hf_6 hf_7 hu hf_117 (by first | omega | decide | exact tt_lo _ | exact tt_hi _) (by first | omega | decide | exact tt_lo _ | exact tt_hi _) ⟨by omega, by omega, hT⟩ (by first | omega | decide | exact tt_lo _ | exact tt_hi _)
        · have z_c_114 := jc_neq (a := (u n_8).toInt) (b := 32) c_114 rfl (by decide)
          refine jj_aload_n C dX9_advance_33 rfl ?_
          refine tt_getF C hok jk_10 0 (by decide) jw_0664e1e086 (t := (2, 11, 0)) hk0 (by decide) rfl rfl hf_5 dX9_advance_34 ?_
          refine jj_aload_n C dX9_advance_37 rfl ?_
          refine tt_getF C hok jk_10 4 (by decide) jw_66bda6962a (t := (0, 0, 400)) hk0 (by decide) rfl rfl hf_9 dX9_advance_38 ?_
          refine tl_caldF C hok (t := (0, (-2147483648), 2147483647)) hk9 (by decide) rfl (k := n_8) (vp_in_nI (by omega) (by decide)) hu (nI_clamp (by omega)) rfl dX9_advance_41 ?_
          refine jj_bipush (v := 10) C dX9_advance_42 (by decide) ?_
          refine jj_icmp_ne (tgt := 60) C dX9_advance_44 (by decide) (fun c_118 => ?_) (fun c_118 => ?_)
          · have z_c_118 := jc_neq (a := (u n_8).toInt) (b := 10) c_118 rfl (by decide)
            refine jj_aload_n C dX9_advance_60 rfl ?_
            refine jj_aload_n C dX9_advance_61 rfl ?_
            refine tt_getF C hok jk_10 4 (by decide) jw_66bda6962a (t := (0, 0, 400)) hk0 (by decide) rfl rfl hf_9 dX9_advance_62 ?_
            refine rl_put C hok jk_10 3 (by decide) jw_f99bd0ca2b (t := (0, 0, 400)) hk0 (by decide) rfl rfl rfl (rl_iv (by omega) (by omega)) rfl rfl dX9_advance_65 (fun pl_119 hok_120 tr hn tl => ?_)
            replace hf_5 := tr _ _ _ (Or.inr (by decide)) hf_5
            replace hf_6 := tr _ _ _ (Or.inr (by decide)) hf_6
            replace hf_9 := tr _ _ _ (Or.inr (by decide)) hf_9
            have hf_121 := hn
            replace hfr := hfr.put hk0 tr (by decide)
            replace hu := tl _ _ hu
            replace hfa := hfa.all tl
            refine jj_aload_n C dX9_advance_68 rfl ?_
            refine tt_getF C hok_120 jk_10 4 (by decide) jw_66bda6962a (t := (0, 0, 400)) hk0 (by decide) rfl rfl hf_9 dX9_advance_69 ?_
            refine jj_aload_n C dX9_advance_72 rfl ?_
            refine tt_getF C hok_120 jk_10 2 (by decide) jw_bc3c1a7c51 (t := (0, 0, 400)) hk0 (by decide) rfl rfl hf_6 dX9_advance_73 ?_
            refine jj_icmp_lt (tgt := 87) C dX9_advance_76 (by decide) (fun c_122 => ?_) (fun c_122 => ?_)
            · have z_c_122 := jc_lt (a := ((n_8 : Nat) : Int)) (b := ((n2 : Nat) : Int)) c_122 (rl_ti (by omega)) (rl_ti (by omega))
              refine jj_aload_n C dX9_advance_87 rfl ?_
              refine jj_aload_n C dX9_advance_88 rfl ?_
              refine tt_getF C hok_120 jk_10 4 (by decide) jw_66bda6962a (t := (0, 0, 400)) hk0 (by decide) rfl rfl hf_9 dX9_advance_89 ?_
              obtain ⟨qc, gs, hqc⟩ := tt_recv (cx := []) hok_120 hk0 (by decide) rfl
              refine tt_callV (rest := []) C (te_isLetter hl D cA ak h0 a9 n_8 u hk0 hk9 (by omega) hok_120 hf_5 hu) [] [] rfl rfl (by decide) (by decide) (by decide) qc hqc rfl rfl jw_5d32b2c455 jw_c77b9e5a65 jw_cdb619e1fe jw_a9e7b602dc jw_9e97b9dadb jn_X9_isLetter rfl (jj_le rfl) (jj_le rfl) (jj_le rfl) (jj_le rfl) (jj_le rfl) dX9_advance_92 rfl (fun _ _ _ hX => hX.elim) (fun rx pl_123 r O_127 => ?_)
              obtain ⟨rfl, hok_124, hr_125, ha_126, hR_128⟩ := O_127
              replace hf_5 := hr_125.at hk0 (by decide) (by decide) hf_5
              replace hf_6 := hr_125.at hk0 (by decide) (by decide) hf_6
              replace hf_9 := hr_125.at hk0 (by decide) (by decide) hf_9
              replace hf_121 := hr_125.at hk0 (by decide) (by decide) hf_121
              replace hu := ha_126.at hk9 (by decide) (by decide) hu
              replace hfr := hfr.trans (hr_125.sub (by decide))
              replace hfa := hfa.trans (ha_126.sub (by decide))
              rcases hR_128 with ⟨hl_129, rfl⟩ | ⟨hl_130, hl_131, rfl⟩
              · refine jj_if_eqT (tgt := 138) C dX9_advance_95 (by decide) (by decide) ?_
                refine jj_aload_n C dX9_advance_138 rfl ?_
                refine jj_aload_n C dX9_advance_139 rfl ?_
                refine tt_getF C hok_124 jk_10 4 (by decide) jw_66bda6962a (t := (0, 0, 400)) hk0 (by decide) rfl rfl hf_9 dX9_advance_140 ?_
                obtain ⟨qc, gs, hqc⟩ := tt_recv (cx := []) hok_124 hk0 (by decide) rfl
                refine tt_callV (rest := []) C (te_isDigit hl D cA ak h0 a9 n_8 u hk0 hk9 (by omega) hok_124 hf_5 hu) [] [] rfl rfl (by decide) (by decide) (by decide) qc hqc rfl rfl jw_9f660503f9 jw_c0c6c0e094 jw_7656ac4378 jw_a9e7b602dc jw_c365050a25 jn_X9_isDigit rfl (jj_le rfl) (jj_le rfl) (jj_le rfl) (jj_le rfl) (jj_le rfl) dX9_advance_143 rfl (fun _ _ _ hX => hX.elim) (fun rx pl_132 r O_136 => ?_)
                obtain ⟨rfl, hok_133, hr_134, ha_135, hR_137⟩ := O_136
                replace hf_5 := hr_134.at hk0 (by decide) (by decide) hf_5
                replace hf_6 := hr_134.at hk0 (by decide) (by decide) hf_6
                replace hf_9 := hr_134.at hk0 (by decide) (by decide) hf_9
                replace hf_121 := hr_134.at hk0 (by decide) (by decide) hf_121
                replace hu := ha_135.at hk9 (by decide) (by decide) hu
                replace hfr := hfr.trans (hr_134.sub (by decide))
                replace hfa := hfa.trans (ha_135.sub (by decide))
                rcases hR_137 with ⟨hl_138, rfl⟩ | ⟨hl_139, hl_140, rfl⟩
                · refine jj_if_eqT (tgt := 236) C dX9_advance_146 (by decide) (by decide) ?_
                  refine jj_aload_n C dX9_advance_236 rfl ?_
                  refine jj_aload_n C dX9_advance_237 rfl ?_
                  refine tt_getF C hok_133 jk_10 0 (by decide) jw_0664e1e086 (t := (2, 11, 0)) hk0 (by decide) rfl rfl hf_5 dX9_advance_238 ?_
                  refine jj_aload_n C dX9_advance_241 rfl ?_
                  refine tt_getF C hok_133 jk_10 4 (by decide) jw_66bda6962a (t := (0, 0, 400)) hk0 (by decide) rfl rfl hf_9 dX9_advance_242 ?_
                  refine tl_caldF C hok_133 (t := (0, (-2147483648), 2147483647)) hk9 (by decide) rfl (k := n_8) (vp_in_nI (by omega) (by decide)) hu (nI_clamp (by omega)) rfl dX9_advance_245 ?_
                  refine jj_bipush (v := 59) C dX9_advance_246 (by decide) ?_
                  refine jj_icmp_ne (tgt := 255) C dX9_advance_248 (by decide) (fun c_141 => ?_) (fun c_141 => ?_)
                  · have z_c_141 := jc_neq (a := (u n_8).toInt) (b := 59) c_141 rfl (by decide)
                    refine jj_iconst (v := 4) C dX9_advance_255 (by decide) ?_
                    refine rl_put C hok_133 jk_10 5 (by decide) jw_bde5c0d1a5 (t := (0, (-2147483648), 2147483647)) hk0 (by decide) rfl rfl rfl (tt_ia (4 : Int32)) rfl rfl dX9_advance_256 (fun pl_142 hok_143 tr hn tl => ?_)
                    replace hf_5 := tr _ _ _ (Or.inr (by decide)) hf_5
                    replace hf_6 := tr _ _ _ (Or.inr (by decide)) hf_6
                    replace hf_9 := tr _ _ _ (Or.inr (by decide)) hf_9
                    replace hf_121 := tr _ _ _ (Or.inr (by decide)) hf_121
                    have hf_144 := hn
                    replace hfr := hfr.put hk0 tr (by decide)
                    replace hu := tl _ _ hu
                    replace hfa := hfa.all tl
                    refine jj_aload_n C dX9_advance_259 rfl ?_
                    refine jj_aload_n C dX9_advance_260 rfl ?_
                    refine tt_getF C hok_143 jk_10 4 (by decide) jw_66bda6962a (t := (0, 0, 400)) hk0 (by decide) rfl rfl hf_9 dX9_advance_261 ?_
                    refine jj_iconst (v := 1) C dX9_advance_264 (by decide) ?_
                    refine jj_iadd (v := nI (1 + n_8)) C dX9_advance_265 (rl_addR (kn := 1) (by decide) (by omega)) ?_
                    refine rl_put C hok_143 jk_10 3 (by decide) jw_f99bd0ca2b (t := (0, 0, 400)) hk0 (by decide) rfl rfl rfl (rl_iv (by omega) (by omega)) rfl rfl dX9_advance_266 (fun pl_145 hok_146 tr hn tl => ?_)
                    replace hf_5 := tr _ _ _ (Or.inr (by decide)) hf_5
                    replace hf_6 := tr _ _ _ (Or.inr (by decide)) hf_6
                    replace hf_9 := tr _ _ _ (Or.inr (by decide)) hf_9
                    replace hf_144 := tr _ _ _ (Or.inr (by decide)) hf_144
                    have hf_147 := hn
                    replace hfr := hfr.put hk0 tr (by decide)
                    replace hu := tl _ _ hu
                    replace hfa := hfa.all tl
                    exact jj_vret C ⟨[], pl_145, rfl, rfl, hok_146, hfr, hfa, (Or.inl (by first | (exfalso; omega) | exact ⟨n_8, (1 + n_8), hf_9, hf_147, hf_144, ⟨⟨hS1.1, hS1.2.2, (fun q => by have q9 := hc _ q.1; have q8 := q.2; unfold ps_bl at q8; omega)⟩, Or.inr (Or.inr (Or.inr ⟨by omega, (fun q => by have q9 := hc n_8 (by omega); unfold ps_le at q; omega), (fun q => by have q9 := hc n_8 (by omega); unfold ps_di at q; omega), by omega⟩))⟩, ⟨by omega, (fun q => by have q9 := hc n_8 (by omega); unfold ps_le at q; omega), (fun q => by have q9 := hc n_8 (by omega); unfold ps_di at q; omega), (by have q9 := hc n_8 (by omega); omega), by omega⟩, rfl⟩))⟩ dX9_advance_269 (jj_le rfl) (jj_le rfl)
                  · have z_c_141 := jc_eq (a := (u n_8).toInt) (b := 59) c_141 rfl (by decide)
                    refine jj_iconst (v := 3) C dX9_advance_251 (by decide) ?_
                    refine jj_goto (tgt := 256) C dX9_advance_252 (by decide) ?_
                    refine rl_put C hok_133 jk_10 5 (by decide) jw_bde5c0d1a5 (t := (0, (-2147483648), 2147483647)) hk0 (by decide) rfl rfl rfl (tt_ia (3 : Int32)) rfl rfl dX9_advance_256 (fun pl_148 hok_149 tr hn tl => ?_)
                    replace hf_5 := tr _ _ _ (Or.inr (by decide)) hf_5
                    replace hf_6 := tr _ _ _ (Or.inr (by decide)) hf_6
                    replace hf_9 := tr _ _ _ (Or.inr (by decide)) hf_9
                    replace hf_121 := tr _ _ _ (Or.inr (by decide)) hf_121
                    have hf_150 := hn
                    replace hfr := hfr.put hk0 tr (by decide)
                    replace hu := tl _ _ hu
                    replace hfa := hfa.all tl
                    refine jj_aload_n C dX9_advance_259 rfl ?_
                    refine jj_aload_n C dX9_advance_260 rfl ?_
                    refine tt_getF C hok_149 jk_10 4 (by decide) jw_66bda6962a (t := (0, 0, 400)) hk0 (by decide) rfl rfl hf_9 dX9_advance_261 ?_
                    refine jj_iconst (v := 1) C dX9_advance_264 (by decide) ?_
                    refine jj_iadd (v := nI (1 + n_8)) C dX9_advance_265 (rl_addR (kn := 1) (by decide) (by omega)) ?_
                    refine rl_put C hok_149 jk_10 3 (by decide) jw_f99bd0ca2b (t := (0, 0, 400)) hk0 (by decide) rfl rfl rfl (rl_iv (by omega) (by omega)) rfl rfl dX9_advance_266 (fun pl_151 hok_152 tr hn tl => ?_)
                    replace hf_5 := tr _ _ _ (Or.inr (by decide)) hf_5
                    replace hf_6 := tr _ _ _ (Or.inr (by decide)) hf_6
                    replace hf_9 := tr _ _ _ (Or.inr (by decide)) hf_9
                    replace hf_150 := tr _ _ _ (Or.inr (by decide)) hf_150
                    have hf_153 := hn
                    replace hfr := hfr.put hk0 tr (by decide)
                    replace hu := tl _ _ hu
                    replace hfa := hfa.all tl
                    exact jj_vret C ⟨[], pl_151, rfl, rfl, hok_152, hfr, hfa, (Or.inr (Or.inl (by first | (exfalso; omega) | exact ⟨n_8, (1 + n_8), hf_9, hf_153, hf_150, ⟨⟨hS1.1, hS1.2.2, (fun q => by have q9 := hc _ q.1; have q8 := q.2; unfold ps_bl at q8; omega)⟩, Or.inr (Or.inr (Or.inr ⟨by omega, (fun q => by have q9 := hc n_8 (by omega); unfold ps_le at q; omega), (fun q => by have q9 := hc n_8 (by omega); unfold ps_di at q; omega), by omega⟩))⟩, ⟨by omega, (fun q => by have q9 := hc n_8 (by omega); unfold ps_le at q; omega), (fun q => by have q9 := hc n_8 (by omega); unfold ps_di at q; omega), (by have q9 := hc n_8 (by omega); omega), by omega⟩, rfl⟩)))⟩ dX9_advance_269 (jj_le rfl) (jj_le rfl)
                · refine jj_if_eqF (tgt := 236) C dX9_advance_146 (by decide) (by decide) ?_
                  refine jj_aload_n C dX9_advance_149 rfl ?_
                  refine jj_iconst (v := 2) C dX9_advance_150 (by decide) ?_
                  refine rl_put C hok_133 jk_10 5 (by decide) jw_bde5c0d1a5 (t := (0, (-2147483648), 2147483647)) hk0 (by decide) rfl rfl rfl (tt_ia (2 : Int32)) rfl rfl dX9_advance_151 (fun pl_154 hok_155 tr hn tl => ?_)
                  replace hf_5 := tr _ _ _ (Or.inr (by decide)) hf_5
                  replace hf_6 := tr _ _ _ (Or.inr (by decide)) hf_6
                  replace hf_9 := tr _ _ _ (Or.inr (by decide)) hf_9
                  replace hf_121 := tr _ _ _ (Or.inr (by decide)) hf_121
                  have hf_156 := hn
                  replace hfr := hfr.put hk0 tr (by decide)
                  replace hu := tl _ _ hu
                  replace hfa := hfa.all tl
                  refine jj_aload_n C dX9_advance_154 rfl ?_
                  refine jj_iconst (v := 0) C dX9_advance_155 (by decide) ?_
                  refine rl_put C hok_155 jk_10 6 (by decide) jw_f32ea1979e (t := (0, (-2147483648), 2147483647)) hk0 (by decide) rfl rfl rfl (tt_ia (0 : Int32)) rfl rfl dX9_advance_156 (fun pl_157 hok_158 tr hn tl => ?_)
                  replace hf_5 := tr _ _ _ (Or.inr (by decide)) hf_5
                  replace hf_6 := tr _ _ _ (Or.inr (by decide)) hf_6
                  replace hf_9 := tr _ _ _ (Or.inr (by decide)) hf_9
                  replace hf_121 := tr _ _ _ (Or.inr (by decide)) hf_121
                  replace hf_156 := tr _ _ _ (Or.inr (by decide)) hf_156
                  have hf_159 := hn
                  replace hfr := hfr.put hk0 tr (by decide)
                  replace hu := tl _ _ hu
                  replace hfa := hfa.all tl
                  have hL_160 : ∀ (N : Nat) (pl : va_W) (n_165 : Nat) (x_166 : Int32), True → tt_ok tt_tk cA Kd pl → tt_fr Kd [(10, 3), (10, 4), (10, 5), (10, 6)] pl0 pl → tt_fa Kd [] pl0 pl → tt_at pl h0 0 (.ref a9) → tt_at pl h0 2 (.int (nI n2)) → tt_at pl h0 4 (.int (nI n_8)) → tt_at pl h0 5 (.int 2) → tt_ic pl a9 u → tt_at pl h0 3 (.int (nI n_165)) → tt_at pl h0 6 (.int x_166) → (0 : Int) ≤ (n_165 : Int) → (n_165 : Int) ≤ 400 → (-1 : Int) ≤ x_166.toInt → x_166.toInt ≤ 9999999 → (n_8 ≤ n_165 ∧ n_165 ≤ n2 ∧ (∀ k : Nat, n_8 ≤ k → k < n_165 → k < n2 ∧ ps_di (c k)) ∧ (n_165 ≤ n_8 + 7 → x_166.toInt = ps_val c n_8 (n_165 - n_8)) ∧ (n_8 + 7 < n_165 → x_166.toInt = -1)) → (((n2 : Nat) : Int) - ((n_165 : Nat) : Int) + 1 ≤ (N : Int)) → jj_J p l e (jj_rm 1 21 0 0) s m args below meth c9 1 A (vx_MQ below (jj_q D A (tt_O (fun rx pl1 r => rx = [] ∧ tt_ok tt_tk cA Kd pl1 ∧ tt_fr Kd [(10, 3), (10, 4), (10, 5), (10, 6)] pl0 pl1 ∧ tt_fa Kd [] pl0 pl1 ∧ ((∃ s t : Nat, tt_at pl1 h0 4 (.int (nI s)) ∧ tt_at pl1 h0 3 (.int (nI t)) ∧ tt_at pl1 h0 5 (.int 4) ∧ ps_tok c n2 n3 s t ∧ (s < n2 ∧ ¬ ps_le (c s) ∧ ¬ ps_di (c s) ∧ c s ≠ 59 ∧ t = s + 1) ∧ r = none) ∨ (∃ s t : Nat, tt_at pl1 h0 4 (.int (nI s)) ∧ tt_at pl1 h0 3 (.int (nI t)) ∧ tt_at pl1 h0 5 (.int 3) ∧ ps_tok c n2 n3 s t ∧ (s < n2 ∧ ¬ ps_le (c s) ∧ ¬ ps_di (c s) ∧ c s = 59 ∧ t = s + 1) ∧ r = none) ∨ (∃ s t : Nat, tt_at pl1 h0 4 (.int (nI s)) ∧ tt_at pl1 h0 3 (.int (nI t)) ∧ tt_at pl1 h0 5 (.int 2) ∧ ps_tok c n2 n3 s t ∧ (s < n2 ∧ ¬ ps_le (c s) ∧ ps_di (c s)) ∧ (∃ v : Int32, tt_at pl1 h0 6 (.int v) ∧ (t ≤ s + 7 → v.toInt = ps_val c s (t - s)) ∧ (s + 7 < t → v.toInt = -1)) ∧ r = none) ∨ (∃ s t : Nat, tt_at pl1 h0 4 (.int (nI s)) ∧ tt_at pl1 h0 3 (.int (nI t)) ∧ tt_at pl1 h0 5 (.int 1) ∧ ps_tok c n2 n3 s t ∧ (s < n2 ∧ ps_le (c s)) ∧ r = none) ∨ (∃ s t : Nat, tt_at pl1 h0 4 (.int (nI s)) ∧ tt_at pl1 h0 3 (.int (nI t)) ∧ tt_at pl1 h0 5 (.int 0) ∧ ps_tok c n2 n3 s t ∧ n2 ≤ s ∧ r = none))))) (jj_x D A (tt_OX (fun _ _ _ => False))) args s 0 0 A) (jj_X D A ([] ++ pl)) 0 0 159 [(0, .ref h0)] [] := by
                    intro NL_160
                    induction NL_160 with
                    | zero => intro pl n_165 x_166 _ hok hfr hfa hf_161 hf_162 hf_163 hf_164 hu hf_167 hf_168 ln_165 un_165 lx_166 ux_166 hS3 hNL_160; exfalso; omega
                    | succ NL_160 ihL_160 =>
                      intro pl n_165 x_166 _ hok hfr hfa hf_161 hf_162 hf_163 hf_164 hu hf_167 hf_168 ln_165 un_165 lx_166 ux_166 hS3 hNL_160
                      replace ihL_160 := fun pl n_165 x_166 h1 => ihL_160 pl n_165 x_166 trivial h1
                      refine jj_aload_n C dX9_advance_159 rfl ?_
                      refine tt_getF C hok jk_10 3 (by decide) jw_f99bd0ca2b (t := (0, 0, 400)) hk0 (by decide) rfl rfl hf_167 dX9_advance_160 ?_
                      refine jj_aload_n C dX9_advance_163 rfl ?_
                      refine tt_getF C hok jk_10 2 (by decide) jw_bc3c1a7c51 (t := (0, 0, 400)) hk0 (by decide) rfl rfl hf_162 dX9_advance_164 ?_
                      refine jj_icmp_ge (tgt := 269) C dX9_advance_167 (by decide) (fun c_169 => ?_) (fun c_169 => ?_)
                      · have z_c_169 := jc_le (a := ((n2 : Nat) : Int)) (b := ((n_165 : Nat) : Int)) c_169 (rl_ti (by omega)) (rl_ti (by omega))
                        exact jj_vret C ⟨[], pl, rfl, rfl, hok, hfr, hfa, (Or.inr (Or.inr (Or.inl (by first | (exfalso; omega) | exact ⟨n_8, n_165, hf_163, hf_167, hf_164, ⟨⟨hS1.1, hS1.2.2, (fun q => by have q9 := hc _ q.1; have q8 := q.2; unfold ps_bl at q8; omega)⟩, Or.inr (Or.inr (Or.inl ⟨by omega, (fun q => by have q9 := hc n_8 (by omega); unfold ps_le at q; omega), (by have q9 := hc n_8 (by omega); unfold ps_di; omega), ⟨hS3.1, hS3.2.2.1, (fun q => by have q9 := hc _ q.1; have q8 := q.2; unfold ps_di at q8; omega)⟩⟩))⟩, ⟨by omega, (fun q => by have q9 := hc n_8 (by omega); unfold ps_le at q; omega), (by have q9 := hc n_8 (by omega); unfold ps_di; omega)⟩, ⟨x_166, hf_168, hS3.2.2.2.1, hS3.2.2.2.2⟩, rfl⟩))))⟩ dX9_advance_269 (jj_le rfl) (jj_le rfl)
                      · have z_c_169 := jc_nle (a := ((n2 : Nat) : Int)) (b := ((n_165 : Nat) : Int)) c_169 (rl_ti (by omega)) (rl_ti (by omega))
                        refine jj_aload_n C dX9_advance_170 rfl ?_
                        refine jj_aload_n C dX9_advance_171 rfl ?_
                        refine tt_getF C hok jk_10 3 (by decide) jw_f99bd0ca2b (t := (0, 0, 400)) hk0 (by decide) rfl rfl hf_167 dX9_advance_172 ?_
                        obtain ⟨qc, gs, hqc⟩ := tt_recv (cx := []) hok hk0 (by decide) rfl
                        refine tt_callV (rest := []) C (te_isDigit hl D cA ak h0 a9 n_165 u hk0 hk9 (by omega) hok hf_161 hu) [] [] rfl rfl (by decide) (by decide) (by decide) qc hqc rfl rfl jw_9f660503f9 jw_c0c6c0e094 jw_7656ac4378 jw_a9e7b602dc jw_c365050a25 jn_X9_isDigit rfl (jj_le rfl) (jj_le rfl) (jj_le rfl) (jj_le rfl) (jj_le rfl) dX9_advance_175 rfl (fun _ _ _ hX => hX.elim) (fun rx pl_170 r O_174 => ?_)
                        obtain ⟨rfl, hok_171, hr_172, ha_173, hR_175⟩ := O_174
                        replace hf_161 := hr_172.at hk0 (by decide) (by decide) hf_161
                        replace hf_162 := hr_172.at hk0 (by decide) (by decide) hf_162
                        replace hf_163 := hr_172.at hk0 (by decide) (by decide) hf_163
                        replace hf_164 := hr_172.at hk0 (by decide) (by decide) hf_164
                        replace hf_167 := hr_172.at hk0 (by decide) (by decide) hf_167
                        replace hf_168 := hr_172.at hk0 (by decide) (by decide) hf_168
                        replace hu := ha_173.at hk9 (by decide) (by decide) hu
                        replace hfr := hfr.trans (hr_172.sub (by decide))
                        replace hfa := hfa.trans (ha_173.sub (by decide))
                        rcases hR_175 with ⟨hl_176, rfl⟩ | ⟨hl_177, hl_178, rfl⟩
                        · refine jj_if_eqT (tgt := 269) C dX9_advance_178 (by decide) (by decide) ?_
                          exact jj_vret C ⟨[], pl_170, rfl, rfl, hok_171, hfr, hfa, (Or.inr (Or.inr (Or.inl (by first | (exfalso; omega) | exact ⟨n_8, n_165, hf_163, hf_167, hf_164, ⟨⟨hS1.1, hS1.2.2, (fun q => by have q9 := hc _ q.1; have q8 := q.2; unfold ps_bl at q8; omega)⟩, Or.inr (Or.inr (Or.inl ⟨by omega, (fun q => by have q9 := hc n_8 (by omega); unfold ps_le at q; omega), (by have q9 := hc n_8 (by omega); unfold ps_di; omega), ⟨hS3.1, hS3.2.2.1, (fun q => by have q9 := hc _ q.1; have q8 := q.2; unfold ps_di at q8; omega)⟩⟩))⟩, ⟨by omega, (fun q => by have q9 := hc n_8 (by omega); unfold ps_le at q; omega), (by have q9 := hc n_8 (by omega); unfold ps_di; omega)⟩, ⟨x_166, hf_168, hS3.2.2.2.1, hS3.2.2.2.2⟩, rfl⟩))))⟩ dX9_advance_269 (jj_le rfl) (jj_le rfl)
                        · refine jj_if_eqF (tgt := 269) C dX9_advance_178 (by decide) (by decide) ?_
                          refine jj_aload_n C dX9_advance_181 rfl ?_
                          refine jj_aload_n C dX9_advance_182 rfl ?_
                          refine tt_getF C hok_171 jk_10 3 (by decide) jw_f99bd0ca2b (t := (0, 0, 400)) hk0 (by decide) rfl rfl hf_167 dX9_advance_183 ?_
                          refine jj_aload_n C dX9_advance_186 rfl ?_
                          refine tt_getF C hok_171 jk_10 4 (by decide) jw_66bda6962a (t := (0, 0, 400)) hk0 (by decide) rfl rfl hf_163 dX9_advance_187 ?_
                          obtain ⟨x_179, ex_179, vx_179⟩ := tt_isub (x := (nI n_165)) (y := (nI n_8)) (a := ((n_165 : Nat) : Int)) (rl_ti (by omega)) (b := ((n_8 : Nat) : Int)) (rl_ti (by omega)) (by omega) (by omega)
                          refine jj_isub (v := x_179) C dX9_advance_190 ex_179 ?_
                          refine jj_bipush (v := 7) C dX9_advance_191 (by decide) ?_
                          refine jj_icmp_ge (tgt := 219) C dX9_advance_193 (by decide) (fun c_180 => ?_) (fun c_180 => ?_)
                          · have z_c_180 := jc_le (a := 7) (b := x_179.toInt) c_180 (by decide) rfl
                            refine jj_iconst (v := (-1)) C dX9_advance_219 (by decide) ?_
                            refine rl_put C hok_171 jk_10 6 (by decide) jw_f32ea1979e (t := (0, (-2147483648), 2147483647)) hk0 (by decide) rfl rfl rfl (tt_ia ((-1) : Int32)) rfl rfl dX9_advance_220 (fun pl_181 hok_182 tr hn tl => ?_)
                            replace hf_161 := tr _ _ _ (Or.inr (by decide)) hf_161
                            replace hf_162 := tr _ _ _ (Or.inr (by decide)) hf_162
                            replace hf_163 := tr _ _ _ (Or.inr (by decide)) hf_163
                            replace hf_164 := tr _ _ _ (Or.inr (by decide)) hf_164
                            replace hf_167 := tr _ _ _ (Or.inr (by decide)) hf_167
                            have hf_183 := hn
                            replace hfr := hfr.put hk0 tr (by decide)
                            replace hu := tl _ _ hu
                            replace hfa := hfa.all tl
                            refine jj_aload_n C dX9_advance_223 rfl ?_
                            refine jj_dup C dX9_advance_224 rfl ?_
                            refine tt_getF C hok_182 jk_10 3 (by decide) jw_f99bd0ca2b (t := (0, 0, 400)) hk0 (by decide) rfl rfl hf_167 dX9_advance_225 ?_
                            refine jj_iconst (v := 1) C dX9_advance_228 (by decide) ?_
                            refine jj_iadd (v := nI (1 + n_165)) C dX9_advance_229 (rl_addR (kn := 1) (by decide) (by omega)) ?_
                            refine rl_put C hok_182 jk_10 3 (by decide) jw_f99bd0ca2b (t := (0, 0, 400)) hk0 (by decide) rfl rfl rfl (rl_iv (by omega) (by omega)) rfl rfl dX9_advance_230 (fun pl_184 hok_185 tr hn tl => ?_)
                            replace hf_161 := tr _ _ _ (Or.inr (by decide)) hf_161
                            replace hf_162 := tr _ _ _ (Or.inr (by decide)) hf_162
                            replace hf_163 := tr _ _ _ (Or.inr (by decide)) hf_163
                            replace hf_164 := tr _ _ _ (Or.inr (by decide)) hf_164
                            replace hf_183 := tr _ _ _ (Or.inr (by decide)) hf_183
                            have hf_186 := hn
                            replace hfr := hfr.put hk0 tr (by decide)
                            replace hu := tl _ _ hu
                            replace hfa := hfa.all tl
                            refine jj_goto (tgt := 159) C dX9_advance_233 (by decide) ?_
                            have hT : ∀ k : Nat, n_8 ≤ k → k < 1 + n_165 → k < n2 ∧ ps_di (c k) := fun k p q => by
                              by_cases e9 : k = n_165
                              · rw [e9]; exact ⟨by omega, by have q9 := hc n_165 (by omega); unfold ps_di; omega⟩
                              · exact hS3.2.2.1 k p (by omega)
                            have hE : (1 + n_165) = n_165 + 1 := by omega
                            have hV : (1 + n_165) ≤ n_8 + 7 → ((-1) : Int32).toInt = ps_val c n_8 ((1 + n_165) - n_8) := fun q => by
                              first
                              | (exfalso; omega)
                              | (rw [hE, ps_val.step (by omega)]; have q1 := hS3.2.2.2.1 (by omega); have q9 := hc n_165 (by omega); omega)
                            exact ihL_160 pl_184 (1 + n_165) ((-1) : Int32) hok_185 hfr hfa hf_161 hf_162 hf_163 hf_164 hu hf_186 hf_183 (by first | omega | decide | exact tt_lo _ | exact tt_hi _) (by first | omega | decide | exact tt_lo _ | exact tt_hi _) (by first | omega | decide | exact tt_lo _ | exact tt_hi _) (by first | omega | decide | exact tt_lo _ | exact tt_hi _) ⟨by omega, by omega, hT, hV, fun q => by first | omega | (exfalso; omega) | decide⟩ (by first | omega | decide | exact tt_lo _ | exact tt_hi _)
                          · have z_c_180 := jc_nle (a := 7) (b := x_179.toInt) c_180 (by decide) rfl
                            refine jj_aload_n C dX9_advance_196 rfl ?_
                            refine tt_getF C hok_171 jk_10 6 (by decide) jw_f32ea1979e (t := (0, (-2147483648), 2147483647)) hk0 (by decide) rfl rfl hf_168 dX9_advance_197 ?_
                            refine jj_bipush (v := 10) C dX9_advance_200 (by decide) ?_
                            have hB := ps_val.six (c := c) (s := n_8) (b := n_165) (by omega) (fun k p q => (hS3.2.2.1 k p q).2)
                            have hB1 := hS3.2.2.2.1 (by omega)
                            obtain ⟨x_187, ex_187, vx_187⟩ := te_mul10 (x := x_166) (by omega) (by omega)
                            refine jj_imul (v := x_187) C dX9_advance_202 ex_187 ?_
                            refine jj_aload_n C dX9_advance_203 rfl ?_
                            refine tt_getF C hok_171 jk_10 0 (by decide) jw_0664e1e086 (t := (2, 11, 0)) hk0 (by decide) rfl rfl hf_161 dX9_advance_204 ?_
                            refine jj_aload_n C dX9_advance_207 rfl ?_
                            refine tt_getF C hok_171 jk_10 3 (by decide) jw_f99bd0ca2b (t := (0, 0, 400)) hk0 (by decide) rfl rfl hf_167 dX9_advance_208 ?_
                            refine tl_caldF C hok_171 (t := (0, (-2147483648), 2147483647)) hk9 (by decide) rfl (k := n_165) (vp_in_nI (by omega) (by decide)) hu (nI_clamp (by omega)) rfl dX9_advance_211 ?_
                            refine jj_bipush (v := 48) C dX9_advance_212 (by decide) ?_
                            obtain ⟨x_188, ex_188, vx_188⟩ := tt_isub (x := (u n_165)) (y := (48 : Int32)) (a := (u n_165).toInt) rfl (b := 48) (by decide) (by omega) (by omega)
                            refine jj_isub (v := x_188) C dX9_advance_214 ex_188 ?_
                            obtain ⟨x_189, ex_189, vx_189⟩ := tt_iadd (x := x_187) (y := x_188) (a := x_187.toInt) rfl (b := x_188.toInt) rfl (by omega) (by omega)
                            refine jj_iadd (v := x_189) C dX9_advance_215 ex_189 ?_
                            refine jj_goto (tgt := 220) C dX9_advance_216 (by decide) ?_
                            refine rl_put C hok_171 jk_10 6 (by decide) jw_f32ea1979e (t := (0, (-2147483648), 2147483647)) hk0 (by decide) rfl rfl rfl (tt_ia x_189) rfl rfl dX9_advance_220 (fun pl_190 hok_191 tr hn tl => ?_)
                            replace hf_161 := tr _ _ _ (Or.inr (by decide)) hf_161
                            replace hf_162 := tr _ _ _ (Or.inr (by decide)) hf_162
                            replace hf_163 := tr _ _ _ (Or.inr (by decide)) hf_163
                            replace hf_164 := tr _ _ _ (Or.inr (by decide)) hf_164
                            replace hf_167 := tr _ _ _ (Or.inr (by decide)) hf_167
                            have hf_192 := hn
                            replace hfr := hfr.put hk0 tr (by decide)
                            replace hu := tl _ _ hu
                            replace hfa := hfa.all tl
                            refine jj_aload_n C dX9_advance_223 rfl ?_
                            refine jj_dup C dX9_advance_224 rfl ?_
                            refine tt_getF C hok_191 jk_10 3 (by decide) jw_f99bd0ca2b (t := (0, 0, 400)) hk0 (by decide) rfl rfl hf_167 dX9_advance_225 ?_
                            refine jj_iconst (v := 1) C dX9_advance_228 (by decide) ?_
                            refine jj_iadd (v := nI (1 + n_165)) C dX9_advance_229 (rl_addR (kn := 1) (by decide) (by omega)) ?_
                            refine rl_put C hok_191 jk_10 3 (by decide) jw_f99bd0ca2b (t := (0, 0, 400)) hk0 (by decide) rfl rfl rfl (rl_iv (by omega) (by omega)) rfl rfl dX9_advance_230 (fun pl_193 hok_194 tr hn tl => ?_)
                            replace hf_161 := tr _ _ _ (Or.inr (by decide)) hf_161
                            replace hf_162 := tr _ _ _ (Or.inr (by decide)) hf_162
                            replace hf_163 := tr _ _ _ (Or.inr (by decide)) hf_163
                            replace hf_164 := tr _ _ _ (Or.inr (by decide)) hf_164
                            replace hf_192 := tr _ _ _ (Or.inr (by decide)) hf_192
                            have hf_195 := hn
                            replace hfr := hfr.put hk0 tr (by decide)
                            replace hu := tl _ _ hu
                            replace hfa := hfa.all tl
                            refine jj_goto (tgt := 159) C dX9_advance_233 (by decide) ?_
                            have hT : ∀ k : Nat, n_8 ≤ k → k < 1 + n_165 → k < n2 ∧ ps_di (c k) := fun k p q => by
                              by_cases e9 : k = n_165
                              · rw [e9]; exact ⟨by omega, by have q9 := hc n_165 (by omega); unfold ps_di; omega⟩
                              · exact hS3.2.2.1 k p (by omega)
                            have hE : (1 + n_165) = n_165 + 1 := by omega
                            have hV : (1 + n_165) ≤ n_8 + 7 → x_189.toInt = ps_val c n_8 ((1 + n_165) - n_8) := fun q => by
                              first
                              | (exfalso; omega)
                              | (rw [hE, ps_val.step (by omega)]; have q1 := hS3.2.2.2.1 (by omega); have q9 := hc n_165 (by omega); omega)
                            exact ihL_160 pl_193 (1 + n_165) x_189 hok_194 hfr hfa hf_161 hf_162 hf_163 hf_164 hu hf_195 hf_192 (by first | omega | decide | exact tt_lo _ | exact tt_hi _) (by first | omega | decide | exact tt_lo _ | exact tt_hi _) (by first | omega | decide | exact tt_lo _ | exact tt_hi _) (by first | omega | decide | exact tt_lo _ | exact tt_hi _) ⟨by omega, by omega, hT, hV, fun q => by first | omega | (exfalso; omega) | decide⟩ (by first | omega | decide | exact tt_lo _ | exact tt_hi _)
                  exact hL_160 _ pl_157 n_8 (0 : Int32) trivial hok_158 hfr hfa hf_5 hf_6 hf_9 hf_156 hu hf_121 hf_159 (by first | omega | decide | exact tt_lo _ | exact tt_hi _) (by first | omega | decide | exact tt_lo _ | exact tt_hi _) (by first | omega | decide | exact tt_lo _ | exact tt_hi _) (by first | omega | decide | exact tt_lo _ | exact tt_hi _) ⟨by omega, by omega, fun k p q => absurd q (by omega), fun _ => (by rw [Nat.sub_self]; exact (show (0 : Int32).toInt = (0 : Int) from by decide)), fun q => absurd q (by omega)⟩ (Int.self_le_toNat _)
              · refine jj_if_eqF (tgt := 138) C dX9_advance_95 (by decide) (by decide) ?_
                refine jj_aload_n C dX9_advance_98 rfl ?_
                refine jj_iconst (v := 1) C dX9_advance_99 (by decide) ?_
                refine rl_put C hok_124 jk_10 5 (by decide) jw_bde5c0d1a5 (t := (0, (-2147483648), 2147483647)) hk0 (by decide) rfl rfl rfl (tt_ia (1 : Int32)) rfl rfl dX9_advance_100 (fun pl_196 hok_197 tr hn tl => ?_)
                replace hf_5 := tr _ _ _ (Or.inr (by decide)) hf_5
                replace hf_6 := tr _ _ _ (Or.inr (by decide)) hf_6
                replace hf_9 := tr _ _ _ (Or.inr (by decide)) hf_9
                replace hf_121 := tr _ _ _ (Or.inr (by decide)) hf_121
                have hf_198 := hn
                replace hfr := hfr.put hk0 tr (by decide)
                replace hu := tl _ _ hu
                replace hfa := hfa.all tl
                have hL_199 : ∀ (N : Nat) (pl : va_W) (n_204 : Nat), True → tt_ok tt_tk cA Kd pl → tt_fr Kd [(10, 3), (10, 4), (10, 5), (10, 6)] pl0 pl → tt_fa Kd [] pl0 pl → tt_at pl h0 0 (.ref a9) → tt_at pl h0 2 (.int (nI n2)) → tt_at pl h0 4 (.int (nI n_8)) → tt_at pl h0 5 (.int 1) → tt_ic pl a9 u → tt_at pl h0 3 (.int (nI n_204)) → (0 : Int) ≤ (n_204 : Int) → (n_204 : Int) ≤ 400 → (n_8 ≤ n_204 ∧ n_204 ≤ n2 ∧ ∀ k : Nat, n_8 ≤ k → k < n_204 → k < n2 ∧ ps_le (c k)) → (((n2 : Nat) : Int) - ((n_204 : Nat) : Int) + 1 ≤ (N : Int)) → jj_J p l e (jj_rm 1 21 0 0) s m args below meth c9 1 A (vx_MQ below (jj_q D A (tt_O (fun rx pl1 r => rx = [] ∧ tt_ok tt_tk cA Kd pl1 ∧ tt_fr Kd [(10, 3), (10, 4), (10, 5), (10, 6)] pl0 pl1 ∧ tt_fa Kd [] pl0 pl1 ∧ ((∃ s t : Nat, tt_at pl1 h0 4 (.int (nI s)) ∧ tt_at pl1 h0 3 (.int (nI t)) ∧ tt_at pl1 h0 5 (.int 4) ∧ ps_tok c n2 n3 s t ∧ (s < n2 ∧ ¬ ps_le (c s) ∧ ¬ ps_di (c s) ∧ c s ≠ 59 ∧ t = s + 1) ∧ r = none) ∨ (∃ s t : Nat, tt_at pl1 h0 4 (.int (nI s)) ∧ tt_at pl1 h0 3 (.int (nI t)) ∧ tt_at pl1 h0 5 (.int 3) ∧ ps_tok c n2 n3 s t ∧ (s < n2 ∧ ¬ ps_le (c s) ∧ ¬ ps_di (c s) ∧ c s = 59 ∧ t = s + 1) ∧ r = none) ∨ (∃ s t : Nat, tt_at pl1 h0 4 (.int (nI s)) ∧ tt_at pl1 h0 3 (.int (nI t)) ∧ tt_at pl1 h0 5 (.int 2) ∧ ps_tok c n2 n3 s t ∧ (s < n2 ∧ ¬ ps_le (c s) ∧ ps_di (c s)) ∧ (∃ v : Int32, tt_at pl1 h0 6 (.int v) ∧ (t ≤ s + 7 → v.toInt = ps_val c s (t - s)) ∧ (s + 7 < t → v.toInt = -1)) ∧ r = none) ∨ (∃ s t : Nat, tt_at pl1 h0 4 (.int (nI s)) ∧ tt_at pl1 h0 3 (.int (nI t)) ∧ tt_at pl1 h0 5 (.int 1) ∧ ps_tok c n2 n3 s t ∧ (s < n2 ∧ ps_le (c s)) ∧ r = none) ∨ (∃ s t : Nat, tt_at pl1 h0 4 (.int (nI s)) ∧ tt_at pl1 h0 3 (.int (nI t)) ∧ tt_at pl1 h0 5 (.int 0) ∧ ps_tok c n2 n3 s t ∧ n2 ≤ s ∧ r = none))))) (jj_x D A (tt_OX (fun _ _ _ => False))) args s 0 0 A) (jj_X D A ([] ++ pl)) 0 0 103 [(0, .ref h0)] [] := by
                  intro NL_199
                  induction NL_199 with
                  | zero => intro pl n_204 _ hok hfr hfa hf_200 hf_201 hf_202 hf_203 hu hf_205 ln_204 un_204 hS2 hNL_199; exfalso; omega
                  | succ NL_199 ihL_199 =>
                    intro pl n_204 _ hok hfr hfa hf_200 hf_201 hf_202 hf_203 hu hf_205 ln_204 un_204 hS2 hNL_199
                    replace ihL_199 := fun pl n_204 h1 => ihL_199 pl n_204 trivial h1
                    refine jj_aload_n C dX9_advance_103 rfl ?_
                    refine tt_getF C hok jk_10 3 (by decide) jw_f99bd0ca2b (t := (0, 0, 400)) hk0 (by decide) rfl rfl hf_205 dX9_advance_104 ?_
                    refine jj_aload_n C dX9_advance_107 rfl ?_
                    refine tt_getF C hok jk_10 2 (by decide) jw_bc3c1a7c51 (t := (0, 0, 400)) hk0 (by decide) rfl rfl hf_201 dX9_advance_108 ?_
                    refine jj_icmp_ge (tgt := 269) C dX9_advance_111 (by decide) (fun c_206 => ?_) (fun c_206 => ?_)
                    · have z_c_206 := jc_le (a := ((n2 : Nat) : Int)) (b := ((n_204 : Nat) : Int)) c_206 (rl_ti (by omega)) (rl_ti (by omega))
                      exact jj_vret C ⟨[], pl, rfl, rfl, hok, hfr, hfa, (Or.inr (Or.inr (Or.inr (Or.inl (by first | (exfalso; omega) | exact ⟨n_8, n_204, hf_202, hf_205, hf_203, ⟨⟨hS1.1, hS1.2.2, (fun q => by have q9 := hc _ q.1; have q8 := q.2; unfold ps_bl at q8; omega)⟩, Or.inr (Or.inl ⟨by omega, (by have q9 := hc n_8 (by omega); unfold ps_le; omega), ⟨hS2.1, hS2.2.2, (fun q => by have q9 := hc _ q.1; have q8 := q.2; unfold ps_le at q8; omega)⟩⟩)⟩, ⟨by omega, (by have q9 := hc n_8 (by omega); unfold ps_le; omega)⟩, rfl⟩)))))⟩ dX9_advance_269 (jj_le rfl) (jj_le rfl)
                    · have z_c_206 := jc_nle (a := ((n2 : Nat) : Int)) (b := ((n_204 : Nat) : Int)) c_206 (rl_ti (by omega)) (rl_ti (by omega))
                      refine jj_aload_n C dX9_advance_114 rfl ?_
                      refine jj_aload_n C dX9_advance_115 rfl ?_
                      refine tt_getF C hok jk_10 3 (by decide) jw_f99bd0ca2b (t := (0, 0, 400)) hk0 (by decide) rfl rfl hf_205 dX9_advance_116 ?_
                      obtain ⟨qc, gs, hqc⟩ := tt_recv (cx := []) hok hk0 (by decide) rfl
                      refine tt_callV (rest := []) C (te_isLetter hl D cA ak h0 a9 n_204 u hk0 hk9 (by omega) hok hf_200 hu) [] [] rfl rfl (by decide) (by decide) (by decide) qc hqc rfl rfl jw_5d32b2c455 jw_c77b9e5a65 jw_cdb619e1fe jw_a9e7b602dc jw_9e97b9dadb jn_X9_isLetter rfl (jj_le rfl) (jj_le rfl) (jj_le rfl) (jj_le rfl) (jj_le rfl) dX9_advance_119 rfl (fun _ _ _ hX => hX.elim) (fun rx pl_207 r O_211 => ?_)
                      obtain ⟨rfl, hok_208, hr_209, ha_210, hR_212⟩ := O_211
                      replace hf_200 := hr_209.at hk0 (by decide) (by decide) hf_200
                      replace hf_201 := hr_209.at hk0 (by decide) (by decide) hf_201
                      replace hf_202 := hr_209.at hk0 (by decide) (by decide) hf_202
                      replace hf_203 := hr_209.at hk0 (by decide) (by decide) hf_203
                      replace hf_205 := hr_209.at hk0 (by decide) (by decide) hf_205
                      replace hu := ha_210.at hk9 (by decide) (by decide) hu
                      replace hfr := hfr.trans (hr_209.sub (by decide))
                      replace hfa := hfa.trans (ha_210.sub (by decide))
                      rcases hR_212 with ⟨hl_213, rfl⟩ | ⟨hl_214, hl_215, rfl⟩
                      · refine jj_if_eqT (tgt := 269) C dX9_advance_122 (by decide) (by decide) ?_
                        exact jj_vret C ⟨[], pl_207, rfl, rfl, hok_208, hfr, hfa, (Or.inr (Or.inr (Or.inr (Or.inl (by first | (exfalso; omega) | exact ⟨n_8, n_204, hf_202, hf_205, hf_203, ⟨⟨hS1.1, hS1.2.2, (fun q => by have q9 := hc _ q.1; have q8 := q.2; unfold ps_bl at q8; omega)⟩, Or.inr (Or.inl ⟨by omega, (by have q9 := hc n_8 (by omega); unfold ps_le; omega), ⟨hS2.1, hS2.2.2, (fun q => by have q9 := hc _ q.1; have q8 := q.2; unfold ps_le at q8; omega)⟩⟩)⟩, ⟨by omega, (by have q9 := hc n_8 (by omega); unfold ps_le; omega)⟩, rfl⟩)))))⟩ dX9_advance_269 (jj_le rfl) (jj_le rfl)
                      · refine jj_if_eqF (tgt := 269) C dX9_advance_122 (by decide) (by decide) ?_
                        refine jj_aload_n C dX9_advance_125 rfl ?_
                        refine jj_dup C dX9_advance_126 rfl ?_
                        refine tt_getF C hok_208 jk_10 3 (by decide) jw_f99bd0ca2b (t := (0, 0, 400)) hk0 (by decide) rfl rfl hf_205 dX9_advance_127 ?_
                        refine jj_iconst (v := 1) C dX9_advance_130 (by decide) ?_
                        refine jj_iadd (v := nI (1 + n_204)) C dX9_advance_131 (rl_addR (kn := 1) (by decide) (by omega)) ?_
                        refine rl_put C hok_208 jk_10 3 (by decide) jw_f99bd0ca2b (t := (0, 0, 400)) hk0 (by decide) rfl rfl rfl (rl_iv (by omega) (by omega)) rfl rfl dX9_advance_132 (fun pl_216 hok_217 tr hn tl => ?_)
                        replace hf_200 := tr _ _ _ (Or.inr (by decide)) hf_200
                        replace hf_201 := tr _ _ _ (Or.inr (by decide)) hf_201
                        replace hf_202 := tr _ _ _ (Or.inr (by decide)) hf_202
                        replace hf_203 := tr _ _ _ (Or.inr (by decide)) hf_203
                        have hf_218 := hn
                        replace hfr := hfr.put hk0 tr (by decide)
                        replace hu := tl _ _ hu
                        replace hfa := hfa.all tl
                        refine jj_goto (tgt := 103) C dX9_advance_135 (by decide) ?_
                        have hT : ∀ k : Nat, n_8 ≤ k → k < 1 + n_204 → k < n2 ∧ ps_le (c k) := fun k p q => by
                          by_cases e9 : k = n_204
                          · rw [e9]; exact ⟨by omega, by have q9 := hc n_204 (by omega); unfold ps_le; omega⟩
                          · exact hS2.2.2 k p (by omega)
                        exact ihL_199 pl_216 (1 + n_204) hok_217 hfr hfa hf_200 hf_201 hf_202 hf_203 hu hf_218 (by first | omega | decide | exact tt_lo _ | exact tt_hi _) (by first | omega | decide | exact tt_lo _ | exact tt_hi _) ⟨by omega, by omega, hT⟩ (by first | omega | decide | exact tt_lo _ | exact tt_hi _)
                exact hL_199 _ pl_196 n_8 trivial hok_197 hfr hfa hf_5 hf_6 hf_9 hf_198 hu hf_121 (by first | omega | decide | exact tt_lo _ | exact tt_hi _) (by first | omega | decide | exact tt_lo _ | exact tt_hi _) ⟨by omega, by omega, fun k p q => absurd q (by omega)⟩ (Int.self_le_toNat _)
            · have z_c_122 := jc_nlt (a := ((n_8 : Nat) : Int)) (b := ((n2 : Nat) : Int)) c_122 (rl_ti (by omega)) (rl_ti (by omega))
              refine jj_aload_n C dX9_advance_79 rfl ?_
              refine jj_iconst (v := 0) C dX9_advance_80 (by decide) ?_
              refine rl_put C hok_120 jk_10 5 (by decide) jw_bde5c0d1a5 (t := (0, (-2147483648), 2147483647)) hk0 (by decide) rfl rfl rfl (tt_ia (0 : Int32)) rfl rfl dX9_advance_81 (fun pl_219 hok_220 tr hn tl => ?_)
              replace hf_5 := tr _ _ _ (Or.inr (by decide)) hf_5
              replace hf_6 := tr _ _ _ (Or.inr (by decide)) hf_6
              replace hf_9 := tr _ _ _ (Or.inr (by decide)) hf_9
              replace hf_121 := tr _ _ _ (Or.inr (by decide)) hf_121
              have hf_221 := hn
              replace hfr := hfr.put hk0 tr (by decide)
              replace hu := tl _ _ hu
              replace hfa := hfa.all tl
              refine jj_goto (tgt := 269) C dX9_advance_84 (by decide) ?_
              exact jj_vret C ⟨[], pl_219, rfl, rfl, hok_220, hfr, hfa, (Or.inr (Or.inr (Or.inr (Or.inr (by first | (exfalso; omega) | exact ⟨n_8, n_8, hf_9, hf_121, hf_221, ⟨⟨hS1.1, hS1.2.2, (fun q => by have q9 := hc _ q.1; have q8 := q.2; unfold ps_bl at q8; omega)⟩, Or.inl ⟨by omega, by omega⟩⟩, by omega, rfl⟩)))))⟩ dX9_advance_269 (jj_le rfl) (jj_le rfl)
          · have z_c_118 := jc_eq (a := (u n_8).toInt) (b := 10) c_118 rfl (by decide)
            refine jj_aload_n C dX9_advance_47 rfl ?_
            refine jj_dup C dX9_advance_48 rfl ?_
            refine tt_getF C hok jk_10 4 (by decide) jw_66bda6962a (t := (0, 0, 400)) hk0 (by decide) rfl rfl hf_9 dX9_advance_49 ?_
            refine jj_iconst (v := 1) C dX9_advance_52 (by decide) ?_
            refine jj_iadd (v := nI (1 + n_8)) C dX9_advance_53 (rl_addR (kn := 1) (by decide) (by omega)) ?_
            refine rl_put C hok jk_10 4 (by decide) jw_66bda6962a (t := (0, 0, 400)) hk0 (by decide) rfl rfl rfl (rl_iv (by omega) (by omega)) rfl rfl dX9_advance_54 (fun pl_222 hok_223 tr hn tl => ?_)
            replace hf_5 := tr _ _ _ (Or.inr (by decide)) hf_5
            replace hf_6 := tr _ _ _ (Or.inr (by decide)) hf_6
            replace hf_7 := tr _ _ _ (Or.inr (by decide)) hf_7
            have hf_224 := hn
            replace hfr := hfr.put hk0 tr (by decide)
            replace hu := tl _ _ hu
            replace hfa := hfa.all tl
            refine jj_goto (tgt := 8) C dX9_advance_57 (by decide) ?_
            have hT : ∀ k : Nat, n3 ≤ k → k < 1 + n_8 → k < n2 ∧ ps_bl (c k) := fun k p q => by
              by_cases e9 : k = n_8
              · rw [e9]; exact ⟨by omega, by have q9 := hc n_8 (by omega); unfold ps_bl; omega⟩
              · exact hS1.2.2 k p (by omega)
            exact ihL_4 pl_222 (1 + n_8) hok_223 hfr hfa hf_5 hf_6 hf_7 hu hf_224 (by first | omega | decide | exact tt_lo _ | exact tt_hi _) (by first | omega | decide | exact tt_lo _ | exact tt_hi _) ⟨by omega, by omega, hT⟩ (by first | omega | decide | exact tt_lo _ | exact tt_hi _)
  exact hL_4 _ pl_1 n3 trivial hok_2 hfr hfa hs0 hs2 hs3 hu hf_3 (by first | omega | decide | exact tt_lo _ | exact tt_hi _) (by first | omega | decide | exact tt_lo _ | exact tt_hi _) ⟨by omega, by omega, fun k p q => absurd q (by omega)⟩ (Int.self_le_toNat _)
