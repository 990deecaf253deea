
set_option maxHeartbeats 4000000 in
set_option maxRecDepth 100000 in
theorem te_addRequest {l : Launch} (hl : l.stackTraces = false) (D : va_G) (cA : Nat → ClassId) (ak : (Nat → Nat) × (Nat → Nat)) {Kd : Nat → Nat} (h0 : Nat) (q : Nat) (p1 : Int32) (p2 : Int32) (p3 : Int64) (hk0 : Kd h0 = 1) (hq : q ≤ 11) (lz2 : 0 ≤ p2.toInt) (uz2 : p2.toInt ≤ 1) {pl0 : va_W} (hok : tt_ok tt_tk cA Kd pl0) (hsq : tt_at pl0 h0 9 (.int (nI q))) : jj_M l D cA ak yX0_addRequest (.code yX0_addRequest cX0_addRequest 7 (some .int)) 1 21 0 0 ([] ++ pl0) [.ref h0, .int p1, .int p2, .long p3] (tt_O (fun rx pl1 r => rx = [] ∧ tt_ok tt_tk cA Kd pl1 ∧ tt_fr Kd [(1, 9), (4, 0), (4, 1), (4, 2), (4, 3), (4, 4)] pl0 pl1 ∧ tt_fa Kd [] pl0 pl1 ∧ ((tt_at pl1 h0 9 (.int (nI (q + 1))) ∧ ∃ v : Int32, r = some (.int v))))) (tt_OX (fun _ _ _ => False)) := by
  refine jj_start hl (by decide) jw_1fad268463 (jj_le rfl) ?_
  intro p e s m args below meth c9 A hargs hA C hex hmn
  have hfr := tt_fr.refl (K := Kd) (WS := [(1, 9), (4, 0), (4, 1), (4, 2), (4, 3), (4, 4)]) pl0
  have hfa := tt_fa.refl (K := Kd) (WA := []) pl0
  have lp1 := tt_lo p1
  have up1 := tt_hi p1
  refine jj_aload_n C dX0_addRequest_0 rfl ?_
  refine tt_getF C hok jk_2 9 (by decide) jw_a6a6052378 (t := (0, 0, 12)) hk0 (by decide) rfl rfl hsq dX0_addRequest_1 ?_
  refine jj_bipush (v := 11) C dX0_addRequest_4 (by decide) ?_
  refine tt_call0S (rest := []) C (ct_J9_min_7cf53_3 hl D cA ak (nI q)) jw_91b79dc18e jw_bd781c2022 jw_a731c8553d jw_7adaf59315 jn_J9_min_7cf53 rfl (jj_le rfl) (jj_le rfl) (jj_le rfl) (jj_le rfl) (jj_le rfl) dX0_addRequest_6 rfl (fun w1 r O_1 => ?_)
  rcases O_1 with ⟨c_2, -, rfl⟩ | ⟨c_3, -, rfl⟩
  · have z_c_2 := jc_lt (a := 11) (b := ((q : Nat) : Int)) c_2 (by decide) (rl_ti (by omega))
    exfalso; omega
  · have z_c_3 := jc_nlt (a := 11) (b := ((q : Nat) : Int)) c_3 (by decide) (rl_ti (by omega))
    refine jj_istore C dX0_addRequest_9 (by decide) rfl ?_
    refine jj_aload_n C dX0_addRequest_11 rfl ?_
    refine tt_get C hok jk_2 13 (by decide) jw_241b9bc751 (t := (2, 8, 0)) hk0 (by decide) rfl rfl dX0_addRequest_12 (fun v_4 hv_4 hf_5 => ?_)
    obtain ⟨a_6, rfl, ka_6⟩ := tt_vr hv_4
    refine jj_iload C dX0_addRequest_15 rfl ?_
    refine tt_aald C hok (t := (2, 4, 0)) ka_6 (by decide) rfl rfl rfl (vp_in_nI (by omega) (by decide)) dX0_addRequest_17 (fun v_7 hv_7 => ?_)
    obtain ⟨a_8, rfl, ka_8⟩ := tt_vr hv_7
    refine jj_astore C dX0_addRequest_18 (by decide) rfl ?_
    refine jj_aload C dX0_addRequest_20 rfl ?_
    refine jj_iload_n C dX0_addRequest_22 rfl ?_
    refine rl_put C hok jk_7 0 (by decide) jw_5338707ba1 (t := (0, (-2147483648), 2147483647)) ka_8 (by decide) rfl rfl rfl (tt_ia p1) rfl rfl dX0_addRequest_23 (fun pl_9 hok_10 tr hn tl => ?_)
    replace hsq := tr _ _ _ (Or.inl (tt_ne hk0 ka_8 (by decide))) hsq
    replace hf_5 := tr _ _ _ (Or.inl (tt_ne hk0 ka_8 (by decide))) hf_5
    have hf_11 := hn
    replace hfr := hfr.put ka_8 tr (by decide)
    replace hfa := hfa.all tl
    refine jj_aload C dX0_addRequest_26 rfl ?_
    refine jj_iload_n C dX0_addRequest_28 rfl ?_
    refine rl_put C hok_10 jk_7 2 (by decide) jw_9e238e4277 (t := (0, 0, 1)) ka_8 (by decide) rfl rfl rfl (tt_iv (by omega) (by omega)) (tt_narZ (by omega) (by omega)) (tt_fitZ (by omega) (by omega)) dX0_addRequest_29 (fun pl_12 hok_13 tr hn tl => ?_)
    replace hsq := tr _ _ _ (Or.inl (tt_ne hk0 ka_8 (by decide))) hsq
    replace hf_5 := tr _ _ _ (Or.inl (tt_ne hk0 ka_8 (by decide))) hf_5
    replace hf_11 := tr _ _ _ (Or.inr (by decide)) hf_11
    have hf_14 := hn
    replace hfr := hfr.put ka_8 tr (by decide)
    replace hfa := hfa.all tl
    refine jj_aload C dX0_addRequest_32 rfl ?_
    refine jj_lload_n C dX0_addRequest_34 rfl ?_
    refine rl_put C hok_13 jk_7 3 (by decide) jw_bfa82f796d (t := (1, (-9223372036854775808), 9223372036854775807)) ka_8 (by decide) rfl rfl rfl (tt_ja p3) rfl rfl dX0_addRequest_35 (fun pl_15 hok_16 tr hn tl => ?_)
    replace hsq := tr _ _ _ (Or.inl (tt_ne hk0 ka_8 (by decide))) hsq
    replace hf_5 := tr _ _ _ (Or.inl (tt_ne hk0 ka_8 (by decide))) hf_5
    replace hf_11 := tr _ _ _ (Or.inr (by decide)) hf_11
    replace hf_14 := tr _ _ _ (Or.inr (by decide)) hf_14
    have hf_17 := hn
    replace hfr := hfr.put ka_8 tr (by decide)
    replace hfa := hfa.all tl
    refine jj_aload C dX0_addRequest_38 rfl ?_
    refine jj_lconst (v := 0) C dX0_addRequest_40 (by decide) ?_
    refine rl_put C hok_16 jk_7 4 (by decide) jw_2f9658d53e (t := (1, (-9223372036854775808), 9223372036854775807)) ka_8 (by decide) rfl rfl rfl (tt_ja (0 : Int64)) rfl rfl dX0_addRequest_41 (fun pl_18 hok_19 tr hn tl => ?_)
    replace hsq := tr _ _ _ (Or.inl (tt_ne hk0 ka_8 (by decide))) hsq
    replace hf_5 := tr _ _ _ (Or.inl (tt_ne hk0 ka_8 (by decide))) hf_5
    replace hf_11 := tr _ _ _ (Or.inr (by decide)) hf_11
    replace hf_14 := tr _ _ _ (Or.inr (by decide)) hf_14
    replace hf_17 := tr _ _ _ (Or.inr (by decide)) hf_17
    have hf_20 := hn
    replace hfr := hfr.put ka_8 tr (by decide)
    replace hfa := hfa.all tl
    refine jj_aload C dX0_addRequest_44 rfl ?_
    refine jj_aload_n C dX0_addRequest_46 rfl ?_
    refine tt_get C hok_19 jk_2 5 (by decide) jw_cd8f4320e7 (t := (0, (-2147483648), 2147483647)) hk0 (by decide) rfl rfl dX0_addRequest_47 (fun v_21 hv_21 hf_22 => ?_)
    obtain ⟨x_23, rfl, lx_23, ux_23⟩ := tt_vi hv_21
    refine rl_put C hok_19 jk_7 1 (by decide) jw_beab64789a (t := (0, (-2147483648), 2147483647)) ka_8 (by decide) rfl rfl rfl (tt_ia x_23) rfl rfl dX0_addRequest_50 (fun pl_24 hok_25 tr hn tl => ?_)
    replace hsq := tr _ _ _ (Or.inl (tt_ne hk0 ka_8 (by decide))) hsq
    replace hf_5 := tr _ _ _ (Or.inl (tt_ne hk0 ka_8 (by decide))) hf_5
    replace hf_11 := tr _ _ _ (Or.inr (by decide)) hf_11
    replace hf_14 := tr _ _ _ (Or.inr (by decide)) hf_14
    replace hf_17 := tr _ _ _ (Or.inr (by decide)) hf_17
    replace hf_20 := tr _ _ _ (Or.inr (by decide)) hf_20
    replace hf_22 := tr _ _ _ (Or.inl (tt_ne hk0 ka_8 (by decide))) hf_22
    have hf_26 := hn
    replace hfr := hfr.put ka_8 tr (by decide)
    replace hfa := hfa.all tl
    refine jj_aload_n C dX0_addRequest_53 rfl ?_
    refine jj_iload C dX0_addRequest_54 rfl ?_
    refine jj_iconst (v := 1) C dX0_addRequest_56 (by decide) ?_
    refine jj_iadd (v := nI (1 + q)) C dX0_addRequest_57 (rl_addR (kn := 1) (by decide) (by omega)) ?_
    refine rl_put C hok_25 jk_2 9 (by decide) jw_a6a6052378 (t := (0, 0, 12)) hk0 (by decide) rfl rfl rfl (rl_iv (by omega) (by omega)) rfl rfl dX0_addRequest_58 (fun pl_27 hok_28 tr hn tl => ?_)
    replace hf_5 := tr _ _ _ (Or.inr (by decide)) hf_5
    replace hf_11 := tr _ _ _ (Or.inl (tt_ne ka_8 hk0 (by decide))) hf_11
    replace hf_14 := tr _ _ _ (Or.inl (tt_ne ka_8 hk0 (by decide))) hf_14
    replace hf_17 := tr _ _ _ (Or.inl (tt_ne ka_8 hk0 (by decide))) hf_17
    replace hf_20 := tr _ _ _ (Or.inl (tt_ne ka_8 hk0 (by decide))) hf_20
    replace hf_22 := tr _ _ _ (Or.inr (by decide)) hf_22
    replace hf_26 := tr _ _ _ (Or.inl (tt_ne ka_8 hk0 (by decide))) hf_26
    have hf_29 := hn
    replace hfr := hfr.put hk0 tr (by decide)
    replace hfa := hfa.all tl
    refine jj_iload C dX0_addRequest_61 rfl ?_
    exact jj_iret C ⟨[], pl_27, rfl, rfl, hok_28, hfr, hfa, ⟨(by have e9 : 1 + q = q + 1 := (by omega); rw [← e9]; exact hf_29), (nI q), rfl⟩⟩ dX0_addRequest_63 (jj_le rfl) (jj_le rfl)

set_option maxHeartbeats 4000000 in
set_option maxRecDepth 100000 in
theorem te_readSubscription {l : Launch} (hl : l.stackTraces = false) (D : va_G) (cA : Nat → ClassId) (ak : (Nat → Nat) × (Nat → Nat)) {Kd : Nat → Nat} (h0 tk a9 bk : Nat) (n2 n3 : Nat) (u : Nat → Int32) (c : Nat → Int) (iv : Int32) (q : Nat) (hk0 : Kd h0 = 17) (hkt : Kd tk = 10) (hk9 : Kd a9 = 11) (hkb : Kd bk = 1) (l2 : n2 ≤ 400) (h32 : n3 ≤ n2) (hc : ∀ k : Nat, k < n2 → c k = (u k).toInt) (liv : 1 ≤ iv.toInt) (uiv : iv.toInt ≤ 6) (hq : q ≤ 11) {pl0 : va_W} (hok : tt_ok tt_tk cA Kd pl0) (hs0 : tt_at pl0 h0 0 (.ref tk)) (hx0 : tt_at pl0 tk 0 (.ref a9)) (hx2 : tt_at pl0 tk 2 (.int (nI n2))) (hx3 : tt_at pl0 tk 3 (.int (nI n3))) (hs1 : tt_at pl0 h0 1 (.ref bk)) (hsi : tt_at pl0 bk 0 (.int iv)) (hsq : tt_at pl0 bk 9 (.int (nI q))) (hu : tt_ic pl0 a9 u) : jj_M l D cA ak yX3_readSubscription (.code yX3_readSubscription cX3_readSubscription 2 (some .boolean)) 3 63 0 0 ([] ++ pl0) [.ref h0] (tt_O (fun rx pl1 r => rx = [] ∧ tt_ok tt_tk cA Kd pl1 ∧ tt_fr Kd [(1, 9), (4, 0), (4, 1), (4, 2), (4, 3), (4, 4), (10, 3), (10, 4), (10, 5), (10, 6), (17, 2)] pl0 pl1 ∧ tt_fa Kd [] pl0 pl1 ∧ ((∃ k s : Nat, k ≠ 0 ∧ tt_at pl1 tk 4 (.int (nI s)) ∧ tt_at pl1 h0 2 (.int (nI k)) ∧ (∃ x1 x2 : ps_S, ps_step c n2 (ps_cN c n2 0 (iv.toInt - 1)) (0, 0, n3) x1 ∧ ps_step c n2 (ps_cN c n2 1 9999999) x1 x2 ∧ ps_step c n2 (ps_cW c ps_semi) x2 (k, s, 0)) ∧ r = some (.int 0)) ∨ (∃ t : Nat, t ≤ n2 ∧ tt_at pl1 tk 3 (.int (nI t)) ∧ tt_at pl1 bk 9 (.int (nI (q + 1))) ∧ (∃ x1 x2 : ps_S, ps_step c n2 (ps_cN c n2 0 (iv.toInt - 1)) (0, 0, n3) x1 ∧ ps_step c n2 (ps_cN c n2 1 9999999) x1 x2 ∧ ps_step c n2 (ps_cW c ps_semi) x2 (0, 0, t)) ∧ r = some (.int 1))))) (tt_OX (fun _ _ _ => False)) := by
  refine jj_start hl (by decide) jw_0cc88cc191 (jj_le rfl) ?_
  intro p e s m args below meth c9 A hargs hA C hex hmn
  have hfr := tt_fr.refl (K := Kd) (WS := [(1, 9), (4, 0), (4, 1), (4, 2), (4, 3), (4, 4), (10, 3), (10, 4), (10, 5), (10, 6), (17, 2)]) pl0
  have hfa := tt_fa.refl (K := Kd) (WA := []) pl0
  refine jj_aload_n C dX3_readSubscription_0 rfl ?_
  refine jj_iconst (v := 0) C dX3_readSubscription_1 (by decide) ?_
  refine jj_aload_n C dX3_readSubscription_2 rfl ?_
  refine tt_getF C hok jk_4 1 (by decide) jw_bdf52ddf93 (t := (2, 1, 0)) hk0 (by decide) rfl rfl hs1 dX3_readSubscription_3 ?_
  refine tt_getF C hok jk_2 0 (by decide) jw_b7c31a179b (t := (0, (-2147483648), 2147483647)) hkb (by decide) rfl rfl hsi dX3_readSubscription_6 ?_
  refine jj_iconst (v := 1) C dX3_readSubscription_9 (by decide) ?_
  obtain ⟨x_1, ex_1, vx_1⟩ := tt_isub (x := iv) (y := (1 : Int32)) (a := iv.toInt) rfl (b := 1) (by decide) (by omega) (by omega)
  refine jj_isub (v := x_1) C dX3_readSubscription_10 ex_1 ?_
  obtain ⟨qc, gs, hqc⟩ := tt_recv (cx := []) hok hk0 (by decide) rfl
  refine tt_callV (rest := []) C (te_readNumber hl D cA ak h0 tk a9 n2 n3 u c (0 : Int32) x_1 0 (iv.toInt - 1) hk0 hkt hk9 (by omega) (by omega) hc (by decide) (by omega) (by omega) hok hs0 hx0 hx2 hx3 hu) [] [] rfl rfl (by decide) (by decide) (by decide) qc hqc rfl rfl jw_012f0d7bd3 jw_3c1e5a080b jw_1f143bff8b jw_9d546d0b6f jw_ad178c7ce3 jn_X3_readNumber rfl (jj_le rfl) (jj_le rfl) (jj_le rfl) (jj_le rfl) (jj_le rfl) dX3_readSubscription_11 rfl (fun _ _ _ hX => hX.elim) (fun rx pl_2 r O_6 => ?_)
  obtain ⟨rfl, hok_3, hr_4, ha_5, hR_7⟩ := O_6
  replace hs0 := hr_4.at hk0 (by decide) (by decide) hs0
  replace hx0 := hr_4.at hkt (by decide) (by decide) hx0
  replace hx2 := hr_4.at hkt (by decide) (by decide) hx2
  replace hs1 := hr_4.at hk0 (by decide) (by decide) hs1
  replace hsi := hr_4.at hkb (by decide) (by decide) hsi
  replace hsq := hr_4.at hkb (by decide) (by decide) hsq
  replace hu := ha_5.at hk9 (by decide) (by decide) hu
  replace hfr := hfr.trans (hr_4.sub (by decide))
  replace hfa := hfa.trans (ha_5.sub (by decide))
  rcases hR_7 with ⟨n_8, n_9, hf_10, hf_11, ht_12, hq_13, rfl⟩ | ⟨n_14, n_15, hf_16, hf_17, ht_18, hq_19, rfl⟩ | ⟨n_20, n_21, hf_22, ht_23, hq_27, hq_24, ⟨x_25, hf_26, hq_28⟩, rfl⟩
  · refine jj_if_neF (tgt := 19) C dX3_readSubscription_14 (by decide) (by decide) ?_
    refine jj_iconst (v := 0) C dX3_readSubscription_17 (by decide) ?_
    exact jj_zret C rfl ⟨[], pl_2, rfl, rfl, hok_3, hfr, hfa, (Or.inl ⟨1, n_8, (by decide), hf_10, hf_11, ⟨(1, n_8, 0), (1, n_8, 0), (ps_step.no ht_12 (Or.inl ⟨hq_13, rfl⟩) (by decide)), (ps_step.st (show (1 : Nat) ≠ 0 by decide)), (ps_step.st (show (1 : Nat) ≠ 0 by decide))⟩, rfl⟩)⟩ dX3_readSubscription_18 (jj_le rfl) (jj_le rfl)
  · refine jj_if_neF (tgt := 19) C dX3_readSubscription_14 (by decide) (by decide) ?_
    refine jj_iconst (v := 0) C dX3_readSubscription_17 (by decide) ?_
    exact jj_zret C rfl ⟨[], pl_2, rfl, rfl, hok_3, hfr, hfa, (Or.inl ⟨2, n_14, (by decide), hf_16, hf_17, ⟨(2, n_14, 0), (2, n_14, 0), (ps_step.no ht_18 (Or.inr (Or.inl ⟨hq_19.1, hq_19.2, rfl⟩)) (by decide)), (ps_step.st (show (2 : Nat) ≠ 0 by decide)), (ps_step.st (show (2 : Nat) ≠ 0 by decide))⟩, rfl⟩)⟩ dX3_readSubscription_18 (jj_le rfl) (jj_le rfl)
  · have hzn_20 := ht_23.le (by omega)
    have lx_25 := hq_24.2.1
    have ux_25 := hq_24.2.2
    rw [← hq_28] at lx_25 ux_25
    refine jj_if_neT (tgt := 19) C dX3_readSubscription_14 (by decide) (by decide) ?_
    refine jj_aload_n C dX3_readSubscription_19 rfl ?_
    refine tt_getF C hok_3 jk_4 0 (by decide) jw_70cd29f103 (t := (2, 10, 0)) hk0 (by decide) rfl rfl hs0 dX3_readSubscription_20 ?_
    refine tt_getF C hok_3 jk_10 6 (by decide) jw_c96d139a1d (t := (0, (-2147483648), 2147483647)) hkt (by decide) rfl rfl hf_26 dX3_readSubscription_23 ?_
    refine jj_istore_n C dX3_readSubscription_26 (by decide) rfl ?_
    refine jj_aload_n C dX3_readSubscription_27 rfl ?_
    refine jj_iconst (v := 1) C dX3_readSubscription_28 (by decide) ?_
    refine jj_ldc (v := 9999999) C dX3_readSubscription_29 jw_fca8450242 ?_
    obtain ⟨qc, gs, hqc⟩ := tt_recv (cx := []) hok_3 hk0 (by decide) rfl
    refine tt_callV (rest := []) C (te_readNumber hl D cA ak h0 tk a9 n2 n_21 u c (1 : Int32) (9999999 : Int32) 1 9999999 hk0 hkt hk9 (by omega) (by omega) hc (by decide) (by decide) (by omega) hok_3 hs0 hx0 hx2 hf_22 hu) [] [] rfl rfl (by decide) (by decide) (by decide) qc hqc rfl rfl jw_012f0d7bd3 jw_3c1e5a080b jw_1f143bff8b jw_9d546d0b6f jw_ad178c7ce3 jn_X3_readNumber rfl (jj_le rfl) (jj_le rfl) (jj_le rfl) (jj_le rfl) (jj_le rfl) dX3_readSubscription_31 rfl (fun _ _ _ hX => hX.elim) (fun rx pl_29 r O_33 => ?_)
    obtain ⟨rfl, hok_30, hr_31, ha_32, hR_34⟩ := O_33
    replace hs0 := hr_31.at hk0 (by decide) (by decide) hs0
    replace hx0 := hr_31.at hkt (by decide) (by decide) hx0
    replace hx2 := hr_31.at hkt (by decide) (by decide) hx2
    replace hs1 := hr_31.at hk0 (by decide) (by decide) hs1
    replace hsi := hr_31.at hkb (by decide) (by decide) hsi
    replace hsq := hr_31.at hkb (by decide) (by decide) hsq
    replace hu := ha_32.at hk9 (by decide) (by decide) hu
    replace hfr := hfr.trans (hr_31.sub (by decide))
    replace hfa := hfa.trans (ha_32.sub (by decide))
    rcases hR_34 with ⟨n_35, n_36, hf_37, hf_38, ht_39, hq_40, rfl⟩ | ⟨n_41, n_42, hf_43, hf_44, ht_45, hq_46, rfl⟩ | ⟨n_47, n_48, hf_49, ht_50, hq_54, hq_51, ⟨x_52, hf_53, hq_55⟩, rfl⟩
    · refine jj_if_neF (tgt := 39) C dX3_readSubscription_34 (by decide) (by decide) ?_
      refine jj_iconst (v := 0) C dX3_readSubscription_37 (by decide) ?_
      exact jj_zret C rfl ⟨[], pl_29, rfl, rfl, hok_30, hfr, hfa, (Or.inl ⟨1, n_35, (by decide), hf_37, hf_38, ⟨(0, 0, n_21), (1, n_35, 0), (ps_step.ok ht_23 (Or.inr (Or.inr ⟨hq_27, hq_24, rfl⟩))), (ps_step.no ht_39 (Or.inl ⟨hq_40, rfl⟩) (by decide)), (ps_step.st (show (1 : Nat) ≠ 0 by decide))⟩, rfl⟩)⟩ dX3_readSubscription_38 (jj_le rfl) (jj_le rfl)
    · refine jj_if_neF (tgt := 39) C dX3_readSubscription_34 (by decide) (by decide) ?_
      refine jj_iconst (v := 0) C dX3_readSubscription_37 (by decide) ?_
      exact jj_zret C rfl ⟨[], pl_29, rfl, rfl, hok_30, hfr, hfa, (Or.inl ⟨2, n_41, (by decide), hf_43, hf_44, ⟨(0, 0, n_21), (2, n_41, 0), (ps_step.ok ht_23 (Or.inr (Or.inr ⟨hq_27, hq_24, rfl⟩))), (ps_step.no ht_45 (Or.inr (Or.inl ⟨hq_46.1, hq_46.2, rfl⟩)) (by decide)), (ps_step.st (show (2 : Nat) ≠ 0 by decide))⟩, rfl⟩)⟩ dX3_readSubscription_38 (jj_le rfl) (jj_le rfl)
    · have hzn_47 := ht_50.le (by omega)
      have lx_52 := hq_51.2.1
      have ux_52 := hq_51.2.2
      rw [← hq_55] at lx_52 ux_52
      refine jj_if_neT (tgt := 39) C dX3_readSubscription_34 (by decide) (by decide) ?_
      refine jj_aload_n C dX3_readSubscription_39 rfl ?_
      refine tt_getF C hok_30 jk_4 1 (by decide) jw_bdf52ddf93 (t := (2, 1, 0)) hk0 (by decide) rfl rfl hs1 dX3_readSubscription_40 ?_
      refine jj_iload_n C dX3_readSubscription_43 rfl ?_
      refine jj_iconst (v := 0) C dX3_readSubscription_44 (by decide) ?_
      refine jj_aload_n C dX3_readSubscription_45 rfl ?_
      refine tt_getF C hok_30 jk_4 0 (by decide) jw_70cd29f103 (t := (2, 10, 0)) hk0 (by decide) rfl rfl hs0 dX3_readSubscription_46 ?_
      refine tt_getF C hok_30 jk_10 6 (by decide) jw_c96d139a1d (t := (0, (-2147483648), 2147483647)) hkt (by decide) rfl rfl hf_53 dX3_readSubscription_49 ?_
      obtain ⟨y_56, ey_56, vy_56⟩ := tt_i2l x_52
      refine jj_i2l (v := y_56) C dX3_readSubscription_52 ey_56 ?_
      obtain ⟨qc, gs, hqc⟩ := tt_recv (cx := []) hok_30 hkb (by decide) rfl
      refine tt_callV (rest := []) C (te_addRequest hl D cA ak bk q x_25 (0 : Int32) y_56 hkb (by omega) (by first | omega | decide) (by first | omega | decide) hok_30 hsq) [] [] rfl rfl (by decide) (by decide) (by decide) qc hqc rfl rfl jw_1ad2c848e8 jw_4cd88e9d91 jw_a895762d25 jw_7d25d4fd32 jw_1fad268463 jn_X0_addRequest rfl (jj_le rfl) (jj_le rfl) (jj_le rfl) (jj_le rfl) (jj_le rfl) dX3_readSubscription_53 rfl (fun _ _ _ hX => hX.elim) (fun rx pl_57 r O_61 => ?_)
      obtain ⟨rfl, hok_58, hr_59, ha_60, hR_62⟩ := O_61
      replace hs0 := hr_59.at hk0 (by decide) (by decide) hs0
      replace hx0 := hr_59.at hkt (by decide) (by decide) hx0
      replace hx2 := hr_59.at hkt (by decide) (by decide) hx2
      replace hs1 := hr_59.at hk0 (by decide) (by decide) hs1
      replace hsi := hr_59.at hkb (by decide) (by decide) hsi
      replace hf_49 := hr_59.at hkt (by decide) (by decide) hf_49
      replace hf_53 := hr_59.at hkt (by decide) (by decide) hf_53
      replace hu := ha_60.at hk9 (by decide) (by decide) hu
      replace hfr := hfr.trans (hr_59.sub (by decide))
      replace hfa := hfa.trans (ha_60.sub (by decide))
      obtain ⟨hf_63, x_64, rfl⟩ := hR_62
      have lx_64 := tt_lo x_64
      have ux_64 := tt_hi x_64
      refine jj_pop C dX3_readSubscription_56 rfl ?_
      refine jj_aload_n C dX3_readSubscription_57 rfl ?_
      obtain ⟨qc, gs, hqc⟩ := tt_recv (cx := []) hok_58 hk0 (by decide) rfl
      refine tt_callV (rest := []) C (te_readSemicolon hl D cA ak h0 tk a9 n2 n_48 u c hk0 hkt hk9 (by omega) (by omega) hc hok_58 hs0 hx0 hx2 hf_49 hu) [] [] rfl rfl (by decide) (by decide) (by decide) qc hqc rfl rfl jw_3b321ba845 jw_25d4a051a9 jw_00e33b0681 jw_9d546d0b6f jw_469c7bc0ab jn_X3_readSemicolon rfl (jj_le rfl) (jj_le rfl) (jj_le rfl) (jj_le rfl) (jj_le rfl) dX3_readSubscription_58 rfl (fun _ _ _ hX => hX.elim) (fun rx pl_65 r O_69 => ?_)
      obtain ⟨rfl, hok_66, hr_67, ha_68, hR_70⟩ := O_69
      replace hs0 := hr_67.at hk0 (by decide) (by decide) hs0
      replace hx0 := hr_67.at hkt (by decide) (by decide) hx0
      replace hx2 := hr_67.at hkt (by decide) (by decide) hx2
      replace hs1 := hr_67.at hk0 (by decide) (by decide) hs1
      replace hsi := hr_67.at hkb (by decide) (by decide) hsi
      replace hf_63 := hr_67.at hkb (by decide) (by decide) hf_63
      replace hu := ha_68.at hk9 (by decide) (by decide) hu
      replace hfr := hfr.trans (hr_67.sub (by decide))
      replace hfa := hfa.trans (ha_68.sub (by decide))
      rcases hR_70 with ⟨n_71, n_72, hf_73, hf_74, ht_75, hq_76, rfl⟩ | ⟨n_77, n_78, hf_79, ht_80, hq_81, rfl⟩
      · exact jj_zret C rfl ⟨[], pl_65, rfl, rfl, hok_66, hfr, hfa, (Or.inl ⟨1, n_71, (by decide), hf_73, hf_74, ⟨(0, 0, n_21), (0, 0, n_48), (ps_step.ok ht_23 (Or.inr (Or.inr ⟨hq_27, hq_24, rfl⟩))), (ps_step.ok ht_50 (Or.inr (Or.inr ⟨hq_54, hq_51, rfl⟩))), (ps_step.no ht_75 (Or.inr ⟨hq_76, rfl⟩) (by decide))⟩, rfl⟩)⟩ dX3_readSubscription_61 (jj_le rfl) (jj_le rfl)
      · have hzn_77 := ht_80.le (by omega)
        exact jj_zret C rfl ⟨[], pl_65, rfl, rfl, hok_66, hfr, hfa, (Or.inr ⟨n_78, (by omega), hf_79, hf_63, ⟨(0, 0, n_21), (0, 0, n_48), (ps_step.ok ht_23 (Or.inr (Or.inr ⟨hq_27, hq_24, rfl⟩))), (ps_step.ok ht_50 (Or.inr (Or.inr ⟨hq_54, hq_51, rfl⟩))), (ps_step.ok ht_80 (Or.inl ⟨hq_81, rfl⟩))⟩, rfl⟩)⟩ dX3_readSubscription_61 (jj_le rfl) (jj_le rfl)

set_option maxHeartbeats 4000000 in
set_option maxRecDepth 100000 in
theorem te_readSubscriptions {l : Launch} (hl : l.stackTraces = false) (D : va_G) (cA : Nat → ClassId) (ak : (Nat → Nat) × (Nat → Nat)) {Kd : Nat → Nat} (h0 tk a9 bk : Nat) (n2 n3 : Nat) (u : Nat → Int32) (c : Nat → Int) (iv : Int32) (hk0 : Kd h0 = 17) (hkt : Kd tk = 10) (hk9 : Kd a9 = 11) (hkb : Kd bk = 1) (l2 : n2 ≤ 400) (h32 : n3 ≤ n2) (hc : ∀ k : Nat, k < n2 → c k = (u k).toInt) (liv : 1 ≤ iv.toInt) (uiv : iv.toInt ≤ 6) {pl0 : va_W} (hok : tt_ok tt_tk cA Kd pl0) (hs0 : tt_at pl0 h0 0 (.ref tk)) (hx0 : tt_at pl0 tk 0 (.ref a9)) (hx2 : tt_at pl0 tk 2 (.int (nI n2))) (hx3 : tt_at pl0 tk 3 (.int (nI n3))) (hs1 : tt_at pl0 h0 1 (.ref bk)) (hsi : tt_at pl0 bk 0 (.int iv)) (hsq : tt_at pl0 bk 9 (.int 0)) (hu : tt_ic pl0 a9 u) : jj_M l D cA ak yX3_readSubscriptions (.code yX3_readSubscriptions cX3_readSubscriptions 2 (some .boolean)) 5 107 0 0 ([] ++ pl0) [.ref h0] (tt_O (fun rx pl1 r => rx = [] ∧ tt_ok tt_tk cA Kd pl1 ∧ tt_fr Kd [(1, 9), (4, 0), (4, 1), (4, 2), (4, 3), (4, 4), (10, 3), (10, 4), (10, 5), (10, 6), (17, 2)] pl0 pl1 ∧ tt_fa Kd [] pl0 pl1 ∧ ((∃ k s m : Nat, k ≠ 0 ∧ tt_at pl1 tk 4 (.int (nI s)) ∧ tt_at pl1 h0 2 (.int (nI k)) ∧ ps_subs c n2 iv.toInt m 0 (0, 0, n3) (k, s, 0) ∧ r = some (.int 0)) ∨ (∃ j k : Nat, j ≤ 12 ∧ tt_at pl1 bk 9 (.int (nI j)) ∧ ps_subs c n2 iv.toInt k 0 (0, 0, n3) (0, 0, j) ∧ r = some (.int 1))))) (tt_OX (fun _ _ _ => False)) := by
  refine jj_start hl (by decide) jw_66b02ab29d (jj_le rfl) ?_
  intro p e s m args below meth c9 A hargs hA C hex hmn
  have hfr := tt_fr.refl (K := Kd) (WS := [(1, 9), (4, 0), (4, 1), (4, 2), (4, 3), (4, 4), (10, 3), (10, 4), (10, 5), (10, 6), (17, 2)]) pl0
  have hfa := tt_fa.refl (K := Kd) (WA := []) pl0
  refine jj_iconst (v := 0) C dX3_readSubscriptions_0 (by decide) ?_
  refine jj_istore_n C dX3_readSubscriptions_1 (by decide) rfl ?_
  refine jj_iload_n C dX3_readSubscriptions_2 rfl ?_
  refine jj_bipush (v := 12) C dX3_readSubscriptions_3 (by decide) ?_
  refine jj_icmp_gtF (tgt := 78) C dX3_readSubscriptions_5 (by decide) (by decide) ?_
  refine jj_aload_n C dX3_readSubscriptions_8 rfl ?_
  refine tt_getF C hok jk_4 0 (by decide) jw_70cd29f103 (t := (2, 10, 0)) hk0 (by decide) rfl rfl hs0 dX3_readSubscriptions_9 ?_
  obtain ⟨qc, gs, hqc⟩ := tt_recv (cx := []) hok hkt (by decide) rfl
  refine tt_callV (rest := []) C (te_advance hl D cA ak tk a9 n2 n3 u c hkt hk9 (by omega) (by omega) hc hok hx0 hx2 hx3 hu) [] [] rfl rfl (by decide) (by decide) (by decide) qc hqc rfl rfl jw_97c023d194 jw_37f6ee43e0 jw_46baf1fc7b jw_a9e7b602dc jw_0d4db63612 jn_X9_advance rfl (jj_le rfl) (jj_le rfl) (jj_le rfl) (jj_le rfl) (jj_le rfl) dX3_readSubscriptions_12 rfl (fun _ _ _ hX => hX.elim) (fun rx pl_1 r O_5 => ?_)
  obtain ⟨rfl, hok_2, hr_3, ha_4, hR_6⟩ := O_5
  replace hs0 := hr_3.at hk0 (by decide) (by decide) hs0
  replace hx0 := hr_3.at hkt (by decide) (by decide) hx0
  replace hx2 := hr_3.at hkt (by decide) (by decide) hx2
  replace hs1 := hr_3.at hk0 (by decide) (by decide) hs1
  replace hsi := hr_3.at hkb (by decide) (by decide) hsi
  replace hsq := hr_3.at hkb (by decide) (by decide) hsq
  replace hu := ha_4.at hk9 (by decide) (by decide) hu
  replace hfr := hfr.trans (hr_3.sub (by decide))
  replace hfa := hfa.trans (ha_4.sub (by decide))
  rcases hR_6 with ⟨n_7, n_8, hf_9, hf_10, hf_11, ht_12, hkd_13, rfl⟩ | ⟨n_14, n_15, hf_16, hf_17, hf_18, ht_19, hkd_20, rfl⟩ | ⟨n_21, n_22, hf_23, hf_24, hf_25, ht_26, hkd_27, ⟨x_28, hf_29, hq_30, hq_31⟩, rfl⟩ | ⟨n_32, n_33, hf_34, hf_35, hf_36, ht_37, hkd_38, rfl⟩ | ⟨n_39, n_40, hf_41, hf_42, hf_43, ht_44, hkd_45, rfl⟩
  · have hzn_7 := ht_12.le (by omega)
    refine jj_aload_n C dX3_readSubscriptions_15 rfl ?_
    refine tt_getF C hok_2 jk_4 0 (by decide) jw_70cd29f103 (t := (2, 10, 0)) hk0 (by decide) rfl rfl hs0 dX3_readSubscriptions_16 ?_
    refine tt_getF C hok_2 jk_10 5 (by decide) jw_601d0e39ae (t := (0, (-2147483648), 2147483647)) hkt (by decide) rfl rfl hf_11 dX3_readSubscriptions_19 ?_
    refine jj_if_neT (tgt := 27) C dX3_readSubscriptions_22 (by decide) (by decide) ?_
    refine jj_aload_n C dX3_readSubscriptions_27 rfl ?_
    refine jj_aload_n C dX3_readSubscriptions_28 rfl ?_
    refine tt_getF C hok_2 jk_4 0 (by decide) jw_70cd29f103 (t := (2, 10, 0)) hk0 (by decide) rfl rfl hs0 dX3_readSubscriptions_29 ?_
    refine jj_ldcs (k := 4) (tx := "subscribe") C dX3_readSubscriptions_32 (by decide +kernel) ?_
    obtain ⟨qc, gs, hqc⟩ := tt_recv (cx := []) hok_2 hkt (by decide) rfl
    refine tt_callV (rest := [.ref h0]) C (te_isWord_subscribe hl D cA ak tk a9 n2 n_8 n_7 (4 : Int32) u c hkt hk9 (by omega) (by omega) (by omega) hc ⟨fun q => absurd q (by decide), fun q => absurd q.2 hkd_13.2.1⟩ hok_2 hx0 hf_10 hf_9 hf_11 hu) [] [] rfl rfl (by decide) (by decide) (by decide) qc hqc rfl rfl jw_b0fe72c6f4 jw_5e9522a00c jw_73cf9edcb7 jw_a9e7b602dc jw_ce1c1f12e9 jn_X9_isWord rfl (jj_le rfl) (jj_le rfl) (jj_le rfl) (jj_le rfl) (jj_le rfl) dX3_readSubscriptions_34 rfl (fun _ _ _ hX => hX.elim) (fun rx pl_46 r O_50 => ?_)
    obtain ⟨rfl, hok_47, hr_48, ha_49, hR_51⟩ := O_50
    replace hs0 := hr_48.at hk0 (by decide) (by decide) hs0
    replace hx0 := hr_48.at hkt (by decide) (by decide) hx0
    replace hx2 := hr_48.at hkt (by decide) (by decide) hx2
    replace hs1 := hr_48.at hk0 (by decide) (by decide) hs1
    replace hsi := hr_48.at hkb (by decide) (by decide) hsi
    replace hsq := hr_48.at hkb (by decide) (by decide) hsq
    replace hf_9 := hr_48.at hkt (by decide) (by decide) hf_9
    replace hf_10 := hr_48.at hkt (by decide) (by decide) hf_10
    replace hf_11 := hr_48.at hkt (by decide) (by decide) hf_11
    replace hu := ha_49.at hk9 (by decide) (by decide) hu
    replace hfr := hfr.trans (hr_48.sub (by decide))
    replace hfa := hfa.trans (ha_49.sub (by decide))
    rcases hR_51 with ⟨hw_52, rfl⟩ | ⟨hw_53, rfl⟩
    · refine jj_iconst (v := 1) C dX3_readSubscriptions_37 (by decide) ?_
      obtain ⟨qc, gs, hqc⟩ := tt_recv (cx := []) hok_47 hk0 (by decide) rfl
      refine tt_callV (rest := []) C (te_accept_01 hl D cA ak h0 hk0 hok_47) [] [] rfl rfl (by decide) (by decide) (by decide) qc hqc rfl rfl jw_713f4d2af1 jw_b3e457240a jw_58c48ce796 jw_9d546d0b6f jw_0001e2e84f jn_X3_accept rfl (jj_le rfl) (jj_le rfl) (jj_le rfl) (jj_le rfl) (jj_le rfl) dX3_readSubscriptions_38 rfl (fun _ _ _ hX => hX.elim) (fun rx pl_54 r O_58 => ?_)
      obtain ⟨rfl, hok_55, hr_56, ha_57, hR_59⟩ := O_58
      replace hs0 := hr_56.at hk0 (by decide) (by decide) hs0
      replace hx0 := hr_56.at hkt (by decide) (by decide) hx0
      replace hx2 := hr_56.at hkt (by decide) (by decide) hx2
      replace hs1 := hr_56.at hk0 (by decide) (by decide) hs1
      replace hsi := hr_56.at hkb (by decide) (by decide) hsi
      replace hsq := hr_56.at hkb (by decide) (by decide) hsq
      replace hf_9 := hr_56.at hkt (by decide) (by decide) hf_9
      replace hf_10 := hr_56.at hkt (by decide) (by decide) hf_10
      replace hf_11 := hr_56.at hkt (by decide) (by decide) hf_11
      replace hu := ha_57.at hk9 (by decide) (by decide) hu
      replace hfr := hfr.trans (hr_56.sub (by decide))
      replace hfa := hfa.trans (ha_57.sub (by decide))
      obtain ⟨hf_60, rfl⟩ := hR_59
      refine jj_if_eqT (tgt := 70) C dX3_readSubscriptions_41 (by decide) (by decide) ?_
      refine jj_iconst (v := 0) C dX3_readSubscriptions_70 (by decide) ?_
      exact jj_zret C rfl ⟨[], pl_54, rfl, rfl, hok_55, hfr, hfa, (Or.inl ⟨1, n_7, _, (by decide), hf_9, hf_60, (ps_subs.nx ht_12 hkd_13.1 ⟨(1, n_7, 0), (1, n_7, 0), (1, n_7, 0), (ps_step.no ht_12 (Or.inl ⟨hw_52, rfl⟩) (by decide)), (ps_step.st (show (1 : Nat) ≠ 0 by decide)), (ps_step.st (show (1 : Nat) ≠ 0 by decide)), (ps_step.st (show (1 : Nat) ≠ 0 by decide))⟩ (ps_subs.er (k := 0) (by decide))), rfl⟩)⟩ dX3_readSubscriptions_71 (jj_le rfl) (jj_le rfl)
    · exact absurd (hw_53.one (n := n2) (by decide) (by unfold ps_le; decide) (by omega)).2 hkd_13.2.1
  · have hzn_14 := ht_19.le (by omega)
    refine jj_aload_n C dX3_readSubscriptions_15 rfl ?_
    refine tt_getF C hok_2 jk_4 0 (by decide) jw_70cd29f103 (t := (2, 10, 0)) hk0 (by decide) rfl rfl hs0 dX3_readSubscriptions_16 ?_
    refine tt_getF C hok_2 jk_10 5 (by decide) jw_601d0e39ae (t := (0, (-2147483648), 2147483647)) hkt (by decide) rfl rfl hf_18 dX3_readSubscriptions_19 ?_
    refine jj_if_neT (tgt := 27) C dX3_readSubscriptions_22 (by decide) (by decide) ?_
    refine jj_aload_n C dX3_readSubscriptions_27 rfl ?_
    refine jj_aload_n C dX3_readSubscriptions_28 rfl ?_
    refine tt_getF C hok_2 jk_4 0 (by decide) jw_70cd29f103 (t := (2, 10, 0)) hk0 (by decide) rfl rfl hs0 dX3_readSubscriptions_29 ?_
    refine jj_ldcs (k := 4) (tx := "subscribe") C dX3_readSubscriptions_32 (by decide +kernel) ?_
    obtain ⟨qc, gs, hqc⟩ := tt_recv (cx := []) hok_2 hkt (by decide) rfl
    refine tt_callV (rest := [.ref h0]) C (te_isWord_subscribe hl D cA ak tk a9 n2 n_15 n_14 (3 : Int32) u c hkt hk9 (by omega) (by omega) (by omega) hc ⟨fun q => absurd q (by decide), fun q => absurd q.2 hkd_20.2.1⟩ hok_2 hx0 hf_17 hf_16 hf_18 hu) [] [] rfl rfl (by decide) (by decide) (by decide) qc hqc rfl rfl jw_b0fe72c6f4 jw_5e9522a00c jw_73cf9edcb7 jw_a9e7b602dc jw_ce1c1f12e9 jn_X9_isWord rfl (jj_le rfl) (jj_le rfl) (jj_le rfl) (jj_le rfl) (jj_le rfl) dX3_readSubscriptions_34 rfl (fun _ _ _ hX => hX.elim) (fun rx pl_61 r O_65 => ?_)
    obtain ⟨rfl, hok_62, hr_63, ha_64, hR_66⟩ := O_65
    replace hs0 := hr_63.at hk0 (by decide) (by decide) hs0
    replace hx0 := hr_63.at hkt (by decide) (by decide) hx0
    replace hx2 := hr_63.at hkt (by decide) (by decide) hx2
    replace hs1 := hr_63.at hk0 (by decide) (by decide) hs1
    replace hsi := hr_63.at hkb (by decide) (by decide) hsi
    replace hsq := hr_63.at hkb (by decide) (by decide) hsq
    replace hf_16 := hr_63.at hkt (by decide) (by decide) hf_16
    replace hf_17 := hr_63.at hkt (by decide) (by decide) hf_17
    replace hf_18 := hr_63.at hkt (by decide) (by decide) hf_18
    replace hu := ha_64.at hk9 (by decide) (by decide) hu
    replace hfr := hfr.trans (hr_63.sub (by decide))
    replace hfa := hfa.trans (ha_64.sub (by decide))
    rcases hR_66 with ⟨hw_67, rfl⟩ | ⟨hw_68, rfl⟩
    · refine jj_iconst (v := 1) C dX3_readSubscriptions_37 (by decide) ?_
      obtain ⟨qc, gs, hqc⟩ := tt_recv (cx := []) hok_62 hk0 (by decide) rfl
      refine tt_callV (rest := []) C (te_accept_01 hl D cA ak h0 hk0 hok_62) [] [] rfl rfl (by decide) (by decide) (by decide) qc hqc rfl rfl jw_713f4d2af1 jw_b3e457240a jw_58c48ce796 jw_9d546d0b6f jw_0001e2e84f jn_X3_accept rfl (jj_le rfl) (jj_le rfl) (jj_le rfl) (jj_le rfl) (jj_le rfl) dX3_readSubscriptions_38 rfl (fun _ _ _ hX => hX.elim) (fun rx pl_69 r O_73 => ?_)
      obtain ⟨rfl, hok_70, hr_71, ha_72, hR_74⟩ := O_73
      replace hs0 := hr_71.at hk0 (by decide) (by decide) hs0
      replace hx0 := hr_71.at hkt (by decide) (by decide) hx0
      replace hx2 := hr_71.at hkt (by decide) (by decide) hx2
      replace hs1 := hr_71.at hk0 (by decide) (by decide) hs1
      replace hsi := hr_71.at hkb (by decide) (by decide) hsi
      replace hsq := hr_71.at hkb (by decide) (by decide) hsq
      replace hf_16 := hr_71.at hkt (by decide) (by decide) hf_16
      replace hf_17 := hr_71.at hkt (by decide) (by decide) hf_17
      replace hf_18 := hr_71.at hkt (by decide) (by decide) hf_18
      replace hu := ha_72.at hk9 (by decide) (by decide) hu
      replace hfr := hfr.trans (hr_71.sub (by decide))
      replace hfa := hfa.trans (ha_72.sub (by decide))
      obtain ⟨hf_75, rfl⟩ := hR_74
      refine jj_if_eqT (tgt := 70) C dX3_readSubscriptions_41 (by decide) (by decide) ?_
      refine jj_iconst (v := 0) C dX3_readSubscriptions_70 (by decide) ?_
      exact jj_zret C rfl ⟨[], pl_69, rfl, rfl, hok_70, hfr, hfa, (Or.inl ⟨1, n_14, _, (by decide), hf_16, hf_75, (ps_subs.nx ht_19 hkd_20.1 ⟨(1, n_14, 0), (1, n_14, 0), (1, n_14, 0), (ps_step.no ht_19 (Or.inl ⟨hw_67, rfl⟩) (by decide)), (ps_step.st (show (1 : Nat) ≠ 0 by decide)), (ps_step.st (show (1 : Nat) ≠ 0 by decide)), (ps_step.st (show (1 : Nat) ≠ 0 by decide))⟩ (ps_subs.er (k := 0) (by decide))), rfl⟩)⟩ dX3_readSubscriptions_71 (jj_le rfl) (jj_le rfl)
    · exact absurd (hw_68.one (n := n2) (by decide) (by unfold ps_le; decide) (by omega)).2 hkd_20.2.1
  · have hzn_21 := ht_26.le (by omega)
    have lx_28 := tt_lo x_28
    have ux_28 := tt_hi x_28
    refine jj_aload_n C dX3_readSubscriptions_15 rfl ?_
    refine tt_getF C hok_2 jk_4 0 (by decide) jw_70cd29f103 (t := (2, 10, 0)) hk0 (by decide) rfl rfl hs0 dX3_readSubscriptions_16 ?_
    refine tt_getF C hok_2 jk_10 5 (by decide) jw_601d0e39ae (t := (0, (-2147483648), 2147483647)) hkt (by decide) rfl rfl hf_25 dX3_readSubscriptions_19 ?_
    refine jj_if_neT (tgt := 27) C dX3_readSubscriptions_22 (by decide) (by decide) ?_
    refine jj_aload_n C dX3_readSubscriptions_27 rfl ?_
    refine jj_aload_n C dX3_readSubscriptions_28 rfl ?_
    refine tt_getF C hok_2 jk_4 0 (by decide) jw_70cd29f103 (t := (2, 10, 0)) hk0 (by decide) rfl rfl hs0 dX3_readSubscriptions_29 ?_
    refine jj_ldcs (k := 4) (tx := "subscribe") C dX3_readSubscriptions_32 (by decide +kernel) ?_
    obtain ⟨qc, gs, hqc⟩ := tt_recv (cx := []) hok_2 hkt (by decide) rfl
    refine tt_callV (rest := [.ref h0]) C (te_isWord_subscribe hl D cA ak tk a9 n2 n_22 n_21 (2 : Int32) u c hkt hk9 (by omega) (by omega) (by omega) hc ⟨fun q => absurd q (by decide), fun q => absurd q.2 hkd_27.2.1⟩ hok_2 hx0 hf_24 hf_23 hf_25 hu) [] [] rfl rfl (by decide) (by decide) (by decide) qc hqc rfl rfl jw_b0fe72c6f4 jw_5e9522a00c jw_73cf9edcb7 jw_a9e7b602dc jw_ce1c1f12e9 jn_X9_isWord rfl (jj_le rfl) (jj_le rfl) (jj_le rfl) (jj_le rfl) (jj_le rfl) dX3_readSubscriptions_34 rfl (fun _ _ _ hX => hX.elim) (fun rx pl_76 r O_80 => ?_)
    obtain ⟨rfl, hok_77, hr_78, ha_79, hR_81⟩ := O_80
    replace hs0 := hr_78.at hk0 (by decide) (by decide) hs0
    replace hx0 := hr_78.at hkt (by decide) (by decide) hx0
    replace hx2 := hr_78.at hkt (by decide) (by decide) hx2
    replace hs1 := hr_78.at hk0 (by decide) (by decide) hs1
    replace hsi := hr_78.at hkb (by decide) (by decide) hsi
    replace hsq := hr_78.at hkb (by decide) (by decide) hsq
    replace hf_23 := hr_78.at hkt (by decide) (by decide) hf_23
    replace hf_24 := hr_78.at hkt (by decide) (by decide) hf_24
    replace hf_25 := hr_78.at hkt (by decide) (by decide) hf_25
    replace hf_29 := hr_78.at hkt (by decide) (by decide) hf_29
    replace hu := ha_79.at hk9 (by decide) (by decide) hu
    replace hfr := hfr.trans (hr_78.sub (by decide))
    replace hfa := hfa.trans (ha_79.sub (by decide))
    rcases hR_81 with ⟨hw_82, rfl⟩ | ⟨hw_83, rfl⟩
    · refine jj_iconst (v := 1) C dX3_readSubscriptions_37 (by decide) ?_
      obtain ⟨qc, gs, hqc⟩ := tt_recv (cx := []) hok_77 hk0 (by decide) rfl
      refine tt_callV (rest := []) C (te_accept_01 hl D cA ak h0 hk0 hok_77) [] [] rfl rfl (by decide) (by decide) (by decide) qc hqc rfl rfl jw_713f4d2af1 jw_b3e457240a jw_58c48ce796 jw_9d546d0b6f jw_0001e2e84f jn_X3_accept rfl (jj_le rfl) (jj_le rfl) (jj_le rfl) (jj_le rfl) (jj_le rfl) dX3_readSubscriptions_38 rfl (fun _ _ _ hX => hX.elim) (fun rx pl_84 r O_88 => ?_)
      obtain ⟨rfl, hok_85, hr_86, ha_87, hR_89⟩ := O_88
      replace hs0 := hr_86.at hk0 (by decide) (by decide) hs0
      replace hx0 := hr_86.at hkt (by decide) (by decide) hx0
      replace hx2 := hr_86.at hkt (by decide) (by decide) hx2
      replace hs1 := hr_86.at hk0 (by decide) (by decide) hs1
      replace hsi := hr_86.at hkb (by decide) (by decide) hsi
      replace hsq := hr_86.at hkb (by decide) (by decide) hsq
      replace hf_23 := hr_86.at hkt (by decide) (by decide) hf_23
      replace hf_24 := hr_86.at hkt (by decide) (by decide) hf_24
      replace hf_25 := hr_86.at hkt (by decide) (by decide) hf_25
      replace hf_29 := hr_86.at hkt (by decide) (by decide) hf_29
      replace hu := ha_87.at hk9 (by decide) (by decide) hu
      replace hfr := hfr.trans (hr_86.sub (by decide))
      replace hfa := hfa.trans (ha_87.sub (by decide))
      obtain ⟨hf_90, rfl⟩ := hR_89
      refine jj_if_eqT (tgt := 70) C dX3_readSubscriptions_41 (by decide) (by decide) ?_
      refine jj_iconst (v := 0) C dX3_readSubscriptions_70 (by decide) ?_
      exact jj_zret C rfl ⟨[], pl_84, rfl, rfl, hok_85, hfr, hfa, (Or.inl ⟨1, n_21, _, (by decide), hf_23, hf_90, (ps_subs.nx ht_26 hkd_27.1 ⟨(1, n_21, 0), (1, n_21, 0), (1, n_21, 0), (ps_step.no ht_26 (Or.inl ⟨hw_82, rfl⟩) (by decide)), (ps_step.st (show (1 : Nat) ≠ 0 by decide)), (ps_step.st (show (1 : Nat) ≠ 0 by decide)), (ps_step.st (show (1 : Nat) ≠ 0 by decide))⟩ (ps_subs.er (k := 0) (by decide))), rfl⟩)⟩ dX3_readSubscriptions_71 (jj_le rfl) (jj_le rfl)
    · exact absurd (hw_83.one (n := n2) (by decide) (by unfold ps_le; decide) (by omega)).2 hkd_27.2.1
  · have hzn_32 := ht_37.le (by omega)
    refine jj_aload_n C dX3_readSubscriptions_15 rfl ?_
    refine tt_getF C hok_2 jk_4 0 (by decide) jw_70cd29f103 (t := (2, 10, 0)) hk0 (by decide) rfl rfl hs0 dX3_readSubscriptions_16 ?_
    refine tt_getF C hok_2 jk_10 5 (by decide) jw_601d0e39ae (t := (0, (-2147483648), 2147483647)) hkt (by decide) rfl rfl hf_36 dX3_readSubscriptions_19 ?_
    refine jj_if_neT (tgt := 27) C dX3_readSubscriptions_22 (by decide) (by decide) ?_
    refine jj_aload_n C dX3_readSubscriptions_27 rfl ?_
    refine jj_aload_n C dX3_readSubscriptions_28 rfl ?_
    refine tt_getF C hok_2 jk_4 0 (by decide) jw_70cd29f103 (t := (2, 10, 0)) hk0 (by decide) rfl rfl hs0 dX3_readSubscriptions_29 ?_
    refine jj_ldcs (k := 4) (tx := "subscribe") C dX3_readSubscriptions_32 (by decide +kernel) ?_
    obtain ⟨qc, gs, hqc⟩ := tt_recv (cx := []) hok_2 hkt (by decide) rfl
    refine tt_callV (rest := [.ref h0]) C (te_isWord_subscribe hl D cA ak tk a9 n2 n_33 n_32 (1 : Int32) u c hkt hk9 (by omega) (by omega) (by omega) hc ⟨fun _ => hkd_38, fun _ => rfl⟩ hok_2 hx0 hf_35 hf_34 hf_36 hu) [] [] rfl rfl (by decide) (by decide) (by decide) qc hqc rfl rfl jw_b0fe72c6f4 jw_5e9522a00c jw_73cf9edcb7 jw_a9e7b602dc jw_ce1c1f12e9 jn_X9_isWord rfl (jj_le rfl) (jj_le rfl) (jj_le rfl) (jj_le rfl) (jj_le rfl) dX3_readSubscriptions_34 rfl (fun _ _ _ hX => hX.elim) (fun rx pl_91 r O_95 => ?_)
    obtain ⟨rfl, hok_92, hr_93, ha_94, hR_96⟩ := O_95
    replace hs0 := hr_93.at hk0 (by decide) (by decide) hs0
    replace hx0 := hr_93.at hkt (by decide) (by decide) hx0
    replace hx2 := hr_93.at hkt (by decide) (by decide) hx2
    replace hs1 := hr_93.at hk0 (by decide) (by decide) hs1
    replace hsi := hr_93.at hkb (by decide) (by decide) hsi
    replace hsq := hr_93.at hkb (by decide) (by decide) hsq
    replace hf_34 := hr_93.at hkt (by decide) (by decide) hf_34
    replace hf_35 := hr_93.at hkt (by decide) (by decide) hf_35
    replace hf_36 := hr_93.at hkt (by decide) (by decide) hf_36
    replace hu := ha_94.at hk9 (by decide) (by decide) hu
    replace hfr := hfr.trans (hr_93.sub (by decide))
    replace hfa := hfa.trans (ha_94.sub (by decide))
    rcases hR_96 with ⟨hw_97, rfl⟩ | ⟨hw_98, rfl⟩
    · refine jj_iconst (v := 1) C dX3_readSubscriptions_37 (by decide) ?_
      obtain ⟨qc, gs, hqc⟩ := tt_recv (cx := []) hok_92 hk0 (by decide) rfl
      refine tt_callV (rest := []) C (te_accept_01 hl D cA ak h0 hk0 hok_92) [] [] rfl rfl (by decide) (by decide) (by decide) qc hqc rfl rfl jw_713f4d2af1 jw_b3e457240a jw_58c48ce796 jw_9d546d0b6f jw_0001e2e84f jn_X3_accept rfl (jj_le rfl) (jj_le rfl) (jj_le rfl) (jj_le rfl) (jj_le rfl) dX3_readSubscriptions_38 rfl (fun _ _ _ hX => hX.elim) (fun rx pl_99 r O_103 => ?_)
      obtain ⟨rfl, hok_100, hr_101, ha_102, hR_104⟩ := O_103
      replace hs0 := hr_101.at hk0 (by decide) (by decide) hs0
      replace hx0 := hr_101.at hkt (by decide) (by decide) hx0
      replace hx2 := hr_101.at hkt (by decide) (by decide) hx2
      replace hs1 := hr_101.at hk0 (by decide) (by decide) hs1
      replace hsi := hr_101.at hkb (by decide) (by decide) hsi
      replace hsq := hr_101.at hkb (by decide) (by decide) hsq
      replace hf_34 := hr_101.at hkt (by decide) (by decide) hf_34
      replace hf_35 := hr_101.at hkt (by decide) (by decide) hf_35
      replace hf_36 := hr_101.at hkt (by decide) (by decide) hf_36
      replace hu := ha_102.at hk9 (by decide) (by decide) hu
      replace hfr := hfr.trans (hr_101.sub (by decide))
      replace hfa := hfa.trans (ha_102.sub (by decide))
      obtain ⟨hf_105, rfl⟩ := hR_104
      refine jj_if_eqT (tgt := 70) C dX3_readSubscriptions_41 (by decide) (by decide) ?_
      refine jj_iconst (v := 0) C dX3_readSubscriptions_70 (by decide) ?_
      exact jj_zret C rfl ⟨[], pl_99, rfl, rfl, hok_100, hfr, hfa, (Or.inl ⟨1, n_32, _, (by decide), hf_34, hf_105, (ps_subs.nx ht_37 hkd_38.1 ⟨(1, n_32, 0), (1, n_32, 0), (1, n_32, 0), (ps_step.no ht_37 (Or.inl ⟨hw_97, rfl⟩) (by decide)), (ps_step.st (show (1 : Nat) ≠ 0 by decide)), (ps_step.st (show (1 : Nat) ≠ 0 by decide)), (ps_step.st (show (1 : Nat) ≠ 0 by decide))⟩ (ps_subs.er (k := 0) (by decide))), rfl⟩)⟩ dX3_readSubscriptions_71 (jj_le rfl) (jj_le rfl)
    · refine jj_iconst (v := 1) C dX3_readSubscriptions_37 (by decide) ?_
      obtain ⟨qc, gs, hqc⟩ := tt_recv (cx := []) hok_92 hk0 (by decide) rfl
      refine tt_callV (rest := []) C (te_accept_11 hl D cA ak h0 hk0 hok_92) [] [] rfl rfl (by decide) (by decide) (by decide) qc hqc rfl rfl jw_713f4d2af1 jw_b3e457240a jw_58c48ce796 jw_9d546d0b6f jw_0001e2e84f jn_X3_accept rfl (jj_le rfl) (jj_le rfl) (jj_le rfl) (jj_le rfl) (jj_le rfl) dX3_readSubscriptions_38 rfl (fun _ _ _ hX => hX.elim) (fun rx pl_106 r O_110 => ?_)
      obtain ⟨rfl, hok_107, hr_108, ha_109, hR_111⟩ := O_110
      replace hs0 := hr_108.at hk0 (by decide) (by decide) hs0
      replace hx0 := hr_108.at hkt (by decide) (by decide) hx0
      replace hx2 := hr_108.at hkt (by decide) (by decide) hx2
      replace hs1 := hr_108.at hk0 (by decide) (by decide) hs1
      replace hsi := hr_108.at hkb (by decide) (by decide) hsi
      replace hsq := hr_108.at hkb (by decide) (by decide) hsq
      replace hf_34 := hr_108.at hkt (by decide) (by decide) hf_34
      replace hf_35 := hr_108.at hkt (by decide) (by decide) hf_35
      replace hf_36 := hr_108.at hkt (by decide) (by decide) hf_36
      replace hu := ha_109.at hk9 (by decide) (by decide) hu
      replace hfr := hfr.trans (hr_108.sub (by decide))
      replace hfa := hfa.trans (ha_109.sub (by decide))
      obtain rfl := hR_111
      refine jj_if_eqF (tgt := 70) C dX3_readSubscriptions_41 (by decide) (by decide) ?_
      refine jj_aload_n C dX3_readSubscriptions_44 rfl ?_
      refine jj_iload_n C dX3_readSubscriptions_45 rfl ?_
      refine jj_bipush (v := 12) C dX3_readSubscriptions_46 (by decide) ?_
      refine jj_icmp_geF (tgt := 55) C dX3_readSubscriptions_48 (by decide) (by decide) ?_
      refine jj_iconst (v := 1) C dX3_readSubscriptions_51 (by decide) ?_
      refine jj_goto (tgt := 56) C dX3_readSubscriptions_52 (by decide) ?_
      refine jj_iconst (v := 3) C dX3_readSubscriptions_56 (by decide) ?_
      obtain ⟨qc, gs, hqc⟩ := tt_recv (cx := []) hok_107 hk0 (by decide) rfl
      refine tt_callV (rest := []) C (te_accept_13 hl D cA ak h0 hk0 hok_107) [] [] rfl rfl (by decide) (by decide) (by decide) qc hqc rfl rfl jw_713f4d2af1 jw_b3e457240a jw_58c48ce796 jw_9d546d0b6f jw_0001e2e84f jn_X3_accept rfl (jj_le rfl) (jj_le rfl) (jj_le rfl) (jj_le rfl) (jj_le rfl) dX3_readSubscriptions_57 rfl (fun _ _ _ hX => hX.elim) (fun rx pl_112 r O_116 => ?_)
      obtain ⟨rfl, hok_113, hr_114, ha_115, hR_117⟩ := O_116
      replace hs0 := hr_114.at hk0 (by decide) (by decide) hs0
      replace hx0 := hr_114.at hkt (by decide) (by decide) hx0
      replace hx2 := hr_114.at hkt (by decide) (by decide) hx2
      replace hs1 := hr_114.at hk0 (by decide) (by decide) hs1
      replace hsi := hr_114.at hkb (by decide) (by decide) hsi
      replace hsq := hr_114.at hkb (by decide) (by decide) hsq
      replace hf_34 := hr_114.at hkt (by decide) (by decide) hf_34
      replace hf_35 := hr_114.at hkt (by decide) (by decide) hf_35
      replace hf_36 := hr_114.at hkt (by decide) (by decide) hf_36
      replace hu := ha_115.at hk9 (by decide) (by decide) hu
      replace hfr := hfr.trans (hr_114.sub (by decide))
      replace hfa := hfa.trans (ha_115.sub (by decide))
      obtain rfl := hR_117
      refine jj_if_eqF (tgt := 70) C dX3_readSubscriptions_60 (by decide) (by decide) ?_
      refine jj_aload_n C dX3_readSubscriptions_63 rfl ?_
      obtain ⟨qc, gs, hqc⟩ := tt_recv (cx := []) hok_113 hk0 (by decide) rfl
      refine tt_callV (rest := []) C (te_readSubscription hl D cA ak h0 tk a9 bk n2 n_33 u c iv 0 hk0 hkt hk9 hkb (by omega) (by omega) hc (by omega) (by omega) (by omega) hok_113 hs0 hx0 hx2 hf_35 hs1 hsi hsq hu) [] [] rfl rfl (by decide) (by decide) (by decide) qc hqc rfl rfl jw_b50e5c10ea jw_23105775d0 jw_16355fb5ab jw_9d546d0b6f jw_0cc88cc191 jn_X3_readSubscription rfl (jj_le rfl) (jj_le rfl) (jj_le rfl) (jj_le rfl) (jj_le rfl) dX3_readSubscriptions_64 rfl (fun _ _ _ hX => hX.elim) (fun rx pl_118 r O_122 => ?_)
      obtain ⟨rfl, hok_119, hr_120, ha_121, hR_123⟩ := O_122
      replace hs0 := hr_120.at hk0 (by decide) (by decide) hs0
      replace hx0 := hr_120.at hkt (by decide) (by decide) hx0
      replace hx2 := hr_120.at hkt (by decide) (by decide) hx2
      replace hs1 := hr_120.at hk0 (by decide) (by decide) hs1
      replace hsi := hr_120.at hkb (by decide) (by decide) hsi
      replace hu := ha_121.at hk9 (by decide) (by decide) hu
      replace hfr := hfr.trans (hr_120.sub (by decide))
      replace hfa := hfa.trans (ha_121.sub (by decide))
      rcases hR_123 with ⟨n_125, n_124, hn_129, hf_126, hf_127, hq_128, rfl⟩ | ⟨n_130, hle_133, hf_131, hf_134, hq_132, rfl⟩
      · refine jj_if_neF (tgt := 72) C dX3_readSubscriptions_67 (by decide) (by decide) ?_
        refine jj_iconst (v := 0) C dX3_readSubscriptions_70 (by decide) ?_
        exact jj_zret C rfl ⟨[], pl_118, rfl, rfl, hok_119, hfr, hfa, (Or.inl ⟨n_125, n_124, _, hn_129, hf_126, hf_127, (ps_subs.nx ht_37 hkd_38.1 (ps_sub.of (ps_step.ok ht_37 (Or.inr (Or.inr ⟨hw_98, by decide, rfl⟩))) hq_128) (ps_subs.er (k := 0) hn_129)), rfl⟩)⟩ dX3_readSubscriptions_71 (jj_le rfl) (jj_le rfl)
      · refine jj_if_neT (tgt := 72) C dX3_readSubscriptions_67 (by decide) (by decide) ?_
        refine jj_iinc (v := 1) C dX3_readSubscriptions_72 rfl (by decide) (by decide) rfl ?_
        refine jj_goto (tgt := 2) C dX3_readSubscriptions_75 (by decide) ?_
        refine jj_iload_n C dX3_readSubscriptions_2 rfl ?_
        refine jj_bipush (v := 12) C dX3_readSubscriptions_3 (by decide) ?_
        refine jj_icmp_gtF (tgt := 78) C dX3_readSubscriptions_5 (by decide) (by decide) ?_
        refine jj_aload_n C dX3_readSubscriptions_8 rfl ?_
        refine tt_getF C hok_119 jk_4 0 (by decide) jw_70cd29f103 (t := (2, 10, 0)) hk0 (by decide) rfl rfl hs0 dX3_readSubscriptions_9 ?_
        obtain ⟨qc, gs, hqc⟩ := tt_recv (cx := []) hok_119 hkt (by decide) rfl
        refine tt_callV (rest := []) C (te_advance hl D cA ak tk a9 n2 n_130 u c hkt hk9 (by omega) (by omega) hc hok_119 hx0 hx2 hf_131 hu) [] [] rfl rfl (by decide) (by decide) (by decide) qc hqc rfl rfl jw_97c023d194 jw_37f6ee43e0 jw_46baf1fc7b jw_a9e7b602dc jw_0d4db63612 jn_X9_advance rfl (jj_le rfl) (jj_le rfl) (jj_le rfl) (jj_le rfl) (jj_le rfl) dX3_readSubscriptions_12 rfl (fun _ _ _ hX => hX.elim) (fun rx pl_135 r O_139 => ?_)
        obtain ⟨rfl, hok_136, hr_137, ha_138, hR_140⟩ := O_139
        replace hs0 := hr_137.at hk0 (by decide) (by decide) hs0
        replace hx0 := hr_137.at hkt (by decide) (by decide) hx0
        replace hx2 := hr_137.at hkt (by decide) (by decide) hx2
        replace hs1 := hr_137.at hk0 (by decide) (by decide) hs1
        replace hsi := hr_137.at hkb (by decide) (by decide) hsi
        replace hf_134 := hr_137.at hkb (by decide) (by decide) hf_134
        replace hu := ha_138.at hk9 (by decide) (by decide) hu
        replace hfr := hfr.trans (hr_137.sub (by decide))
        replace hfa := hfa.trans (ha_138.sub (by decide))
        rcases hR_140 with ⟨n_141, n_142, hf_143, hf_144, hf_145, ht_146, hkd_147, rfl⟩ | ⟨n_148, n_149, hf_150, hf_151, hf_152, ht_153, hkd_154, rfl⟩ | ⟨n_155, n_156, hf_157, hf_158, hf_159, ht_160, hkd_161, ⟨x_162, hf_163, hq_164, hq_165⟩, rfl⟩ | ⟨n_166, n_167, hf_168, hf_169, hf_170, ht_171, hkd_172, rfl⟩ | ⟨n_173, n_174, hf_175, hf_176, hf_177, ht_178, hkd_179, rfl⟩
        · have hzn_141 := ht_146.le (by omega)
          refine jj_aload_n C dX3_readSubscriptions_15 rfl ?_
          refine tt_getF C hok_136 jk_4 0 (by decide) jw_70cd29f103 (t := (2, 10, 0)) hk0 (by decide) rfl rfl hs0 dX3_readSubscriptions_16 ?_
          refine tt_getF C hok_136 jk_10 5 (by decide) jw_601d0e39ae (t := (0, (-2147483648), 2147483647)) hkt (by decide) rfl rfl hf_145 dX3_readSubscriptions_19 ?_
          refine jj_if_neT (tgt := 27) C dX3_readSubscriptions_22 (by decide) (by decide) ?_
          refine jj_aload_n C dX3_readSubscriptions_27 rfl ?_
          refine jj_aload_n C dX3_readSubscriptions_28 rfl ?_
          refine tt_getF C hok_136 jk_4 0 (by decide) jw_70cd29f103 (t := (2, 10, 0)) hk0 (by decide) rfl rfl hs0 dX3_readSubscriptions_29 ?_
          refine jj_ldcs (k := 4) (tx := "subscribe") C dX3_readSubscriptions_32 (by decide +kernel) ?_
          obtain ⟨qc, gs, hqc⟩ := tt_recv (cx := []) hok_136 hkt (by decide) rfl
          refine tt_callV (rest := [.ref h0]) C (te_isWord_subscribe hl D cA ak tk a9 n2 n_142 n_141 (4 : Int32) u c hkt hk9 (by omega) (by omega) (by omega) hc ⟨fun q => absurd q (by decide), fun q => absurd q.2 hkd_147.2.1⟩ hok_136 hx0 hf_144 hf_143 hf_145 hu) [] [] rfl rfl (by decide) (by decide) (by decide) qc hqc rfl rfl jw_b0fe72c6f4 jw_5e9522a00c jw_73cf9edcb7 jw_a9e7b602dc jw_ce1c1f12e9 jn_X9_isWord rfl (jj_le rfl) (jj_le rfl) (jj_le rfl) (jj_le rfl) (jj_le rfl) dX3_readSubscriptions_34 rfl (fun _ _ _ hX => hX.elim) (fun rx pl_180 r O_184 => ?_)
          obtain ⟨rfl, hok_181, hr_182, ha_183, hR_185⟩ := O_184
          replace hs0 := hr_182.at hk0 (by decide) (by decide) hs0
          replace hx0 := hr_182.at hkt (by decide) (by decide) hx0
          replace hx2 := hr_182.at hkt (by decide) (by decide) hx2
          replace hs1 := hr_182.at hk0 (by decide) (by decide) hs1
          replace hsi := hr_182.at hkb (by decide) (by decide) hsi
          replace hf_134 := hr_182.at hkb (by decide) (by decide) hf_134
          replace hf_143 := hr_182.at hkt (by decide) (by decide) hf_143
          replace hf_144 := hr_182.at hkt (by decide) (by decide) hf_144
          replace hf_145 := hr_182.at hkt (by decide) (by decide) hf_145
          replace hu := ha_183.at hk9 (by decide) (by decide) hu
          replace hfr := hfr.trans (hr_182.sub (by decide))
          replace hfa := hfa.trans (ha_183.sub (by decide))
          rcases hR_185 with ⟨hw_186, rfl⟩ | ⟨hw_187, rfl⟩
          · refine jj_iconst (v := 1) C dX3_readSubscriptions_37 (by decide) ?_
            obtain ⟨qc, gs, hqc⟩ := tt_recv (cx := []) hok_181 hk0 (by decide) rfl
            refine tt_callV (rest := []) C (te_accept_01 hl D cA ak h0 hk0 hok_181) [] [] rfl rfl (by decide) (by decide) (by decide) qc hqc rfl rfl jw_713f4d2af1 jw_b3e457240a jw_58c48ce796 jw_9d546d0b6f jw_0001e2e84f jn_X3_accept rfl (jj_le rfl) (jj_le rfl) (jj_le rfl) (jj_le rfl) (jj_le rfl) dX3_readSubscriptions_38 rfl (fun _ _ _ hX => hX.elim) (fun rx pl_188 r O_192 => ?_)
            obtain ⟨rfl, hok_189, hr_190, ha_191, hR_193⟩ := O_192
            replace hs0 := hr_190.at hk0 (by decide) (by decide) hs0
            replace hx0 := hr_190.at hkt (by decide) (by decide) hx0
            replace hx2 := hr_190.at hkt (by decide) (by decide) hx2
            replace hs1 := hr_190.at hk0 (by decide) (by decide) hs1
            replace hsi := hr_190.at hkb (by decide) (by decide) hsi
            replace hf_134 := hr_190.at hkb (by decide) (by decide) hf_134
            replace hf_143 := hr_190.at hkt (by decide) (by decide) hf_143
            replace hf_144 := hr_190.at hkt (by decide) (by decide) hf_144
            replace hf_145 := hr_190.at hkt (by decide) (by decide) hf_145
            replace hu := ha_191.at hk9 (by decide) (by decide) hu
            replace hfr := hfr.trans (hr_190.sub (by decide))
            replace hfa := hfa.trans (ha_191.sub (by decide))
            obtain ⟨hf_194, rfl⟩ := hR_193
            refine jj_if_eqT (tgt := 70) C dX3_readSubscriptions_41 (by decide) (by decide) ?_
            refine jj_iconst (v := 0) C dX3_readSubscriptions_70 (by decide) ?_
            exact jj_zret C rfl ⟨[], pl_188, rfl, rfl, hok_189, hfr, hfa, (Or.inl ⟨1, n_141, _, (by decide), hf_143, hf_194, (ps_subs.nx ht_37 hkd_38.1 (ps_sub.of (ps_step.ok ht_37 (Or.inr (Or.inr ⟨hw_98, by decide, rfl⟩))) hq_132) (ps_subs.nx ht_146 hkd_147.1 ⟨(1, n_141, 0), (1, n_141, 0), (1, n_141, 0), (ps_step.no ht_146 (Or.inl ⟨hw_186, rfl⟩) (by decide)), (ps_step.st (show (1 : Nat) ≠ 0 by decide)), (ps_step.st (show (1 : Nat) ≠ 0 by decide)), (ps_step.st (show (1 : Nat) ≠ 0 by decide))⟩ (ps_subs.er (k := 0) (by decide)))), rfl⟩)⟩ dX3_readSubscriptions_71 (jj_le rfl) (jj_le rfl)
          · exact absurd (hw_187.one (n := n2) (by decide) (by unfold ps_le; decide) (by omega)).2 hkd_147.2.1
        · have hzn_148 := ht_153.le (by omega)
          refine jj_aload_n C dX3_readSubscriptions_15 rfl ?_
          refine tt_getF C hok_136 jk_4 0 (by decide) jw_70cd29f103 (t := (2, 10, 0)) hk0 (by decide) rfl rfl hs0 dX3_readSubscriptions_16 ?_
          refine tt_getF C hok_136 jk_10 5 (by decide) jw_601d0e39ae (t := (0, (-2147483648), 2147483647)) hkt (by decide) rfl rfl hf_152 dX3_readSubscriptions_19 ?_
          refine jj_if_neT (tgt := 27) C dX3_readSubscriptions_22 (by decide) (by decide) ?_
          refine jj_aload_n C dX3_readSubscriptions_27 rfl ?_
          refine jj_aload_n C dX3_readSubscriptions_28 rfl ?_
          refine tt_getF C hok_136 jk_4 0 (by decide) jw_70cd29f103 (t := (2, 10, 0)) hk0 (by decide) rfl rfl hs0 dX3_readSubscriptions_29 ?_
          refine jj_ldcs (k := 4) (tx := "subscribe") C dX3_readSubscriptions_32 (by decide +kernel) ?_
          obtain ⟨qc, gs, hqc⟩ := tt_recv (cx := []) hok_136 hkt (by decide) rfl
          refine tt_callV (rest := [.ref h0]) C (te_isWord_subscribe hl D cA ak tk a9 n2 n_149 n_148 (3 : Int32) u c hkt hk9 (by omega) (by omega) (by omega) hc ⟨fun q => absurd q (by decide), fun q => absurd q.2 hkd_154.2.1⟩ hok_136 hx0 hf_151 hf_150 hf_152 hu) [] [] rfl rfl (by decide) (by decide) (by decide) qc hqc rfl rfl jw_b0fe72c6f4 jw_5e9522a00c jw_73cf9edcb7 jw_a9e7b602dc jw_ce1c1f12e9 jn_X9_isWord rfl (jj_le rfl) (jj_le rfl) (jj_le rfl) (jj_le rfl) (jj_le rfl) dX3_readSubscriptions_34 rfl (fun _ _ _ hX => hX.elim) (fun rx pl_195 r O_199 => ?_)
          obtain ⟨rfl, hok_196, hr_197, ha_198, hR_200⟩ := O_199
          replace hs0 := hr_197.at hk0 (by decide) (by decide) hs0
          replace hx0 := hr_197.at hkt (by decide) (by decide) hx0
          replace hx2 := hr_197.at hkt (by decide) (by decide) hx2
          replace hs1 := hr_197.at hk0 (by decide) (by decide) hs1
          replace hsi := hr_197.at hkb (by decide) (by decide) hsi
          replace hf_134 := hr_197.at hkb (by decide) (by decide) hf_134
          replace hf_150 := hr_197.at hkt (by decide) (by decide) hf_150
          replace hf_151 := hr_197.at hkt (by decide) (by decide) hf_151
          replace hf_152 := hr_197.at hkt (by decide) (by decide) hf_152
          replace hu := ha_198.at hk9 (by decide) (by decide) hu
          replace hfr := hfr.trans (hr_197.sub (by decide))
          replace hfa := hfa.trans (ha_198.sub (by decide))
          rcases hR_200 with ⟨hw_201, rfl⟩ | ⟨hw_202, rfl⟩
          · refine jj_iconst (v := 1) C dX3_readSubscriptions_37 (by decide) ?_
            obtain ⟨qc, gs, hqc⟩ := tt_recv (cx := []) hok_196 hk0 (by decide) rfl
            refine tt_callV (rest := []) C (te_accept_01 hl D cA ak h0 hk0 hok_196) [] [] rfl rfl (by decide) (by decide) (by decide) qc hqc rfl rfl jw_713f4d2af1 jw_b3e457240a jw_58c48ce796 jw_9d546d0b6f jw_0001e2e84f jn_X3_accept rfl (jj_le rfl) (jj_le rfl) (jj_le rfl) (jj_le rfl) (jj_le rfl) dX3_readSubscriptions_38 rfl (fun _ _ _ hX => hX.elim) (fun rx pl_203 r O_207 => ?_)
            obtain ⟨rfl, hok_204, hr_205, ha_206, hR_208⟩ := O_207
            replace hs0 := hr_205.at hk0 (by decide) (by decide) hs0
            replace hx0 := hr_205.at hkt (by decide) (by decide) hx0
            replace hx2 := hr_205.at hkt (by decide) (by decide) hx2
            replace hs1 := hr_205.at hk0 (by decide) (by decide) hs1
            replace hsi := hr_205.at hkb (by decide) (by decide) hsi
            replace hf_134 := hr_205.at hkb (by decide) (by decide) hf_134
            replace hf_150 := hr_205.at hkt (by decide) (by decide) hf_150
            replace hf_151 := hr_205.at hkt (by decide) (by decide) hf_151
            replace hf_152 := hr_205.at hkt (by decide) (by decide) hf_152
            replace hu := ha_206.at hk9 (by decide) (by decide) hu
            replace hfr := hfr.trans (hr_205.sub (by decide))
            replace hfa := hfa.trans (ha_206.sub (by decide))
            obtain ⟨hf_209, rfl⟩ := hR_208
            refine jj_if_eqT (tgt := 70) C dX3_readSubscriptions_41 (by decide) (by decide) ?_
            refine jj_iconst (v := 0) C dX3_readSubscriptions_70 (by decide) ?_
            exact jj_zret C rfl ⟨[], pl_203, rfl, rfl, hok_204, hfr, hfa, (Or.inl ⟨1, n_148, _, (by decide), hf_150, hf_209, (ps_subs.nx ht_37 hkd_38.1 (ps_sub.of (ps_step.ok ht_37 (Or.inr (Or.inr ⟨hw_98, by decide, rfl⟩))) hq_132) (ps_subs.nx ht_153 hkd_154.1 ⟨(1, n_148, 0), (1, n_148, 0), (1, n_148, 0), (ps_step.no ht_153 (Or.inl ⟨hw_201, rfl⟩) (by decide)), (ps_step.st (show (1 : Nat) ≠ 0 by decide)), (ps_step.st (show (1 : Nat) ≠ 0 by decide)), (ps_step.st (show (1 : Nat) ≠ 0 by decide))⟩ (ps_subs.er (k := 0) (by decide)))), rfl⟩)⟩ dX3_readSubscriptions_71 (jj_le rfl) (jj_le rfl)
          · exact absurd (hw_202.one (n := n2) (by decide) (by unfold ps_le; decide) (by omega)).2 hkd_154.2.1
        · have hzn_155 := ht_160.le (by omega)
          have lx_162 := tt_lo x_162
          have ux_162 := tt_hi x_162
          refine jj_aload_n C dX3_readSubscriptions_15 rfl ?_
          refine tt_getF C hok_136 jk_4 0 (by decide) jw_70cd29f103 (t := (2, 10, 0)) hk0 (by decide) rfl rfl hs0 dX3_readSubscriptions_16 ?_
          refine tt_getF C hok_136 jk_10 5 (by decide) jw_601d0e39ae (t := (0, (-2147483648), 2147483647)) hkt (by decide) rfl rfl hf_159 dX3_readSubscriptions_19 ?_
          refine jj_if_neT (tgt := 27) C dX3_readSubscriptions_22 (by decide) (by decide) ?_
          refine jj_aload_n C dX3_readSubscriptions_27 rfl ?_
          refine jj_aload_n C dX3_readSubscriptions_28 rfl ?_
          refine tt_getF C hok_136 jk_4 0 (by decide) jw_70cd29f103 (t := (2, 10, 0)) hk0 (by decide) rfl rfl hs0 dX3_readSubscriptions_29 ?_
          refine jj_ldcs (k := 4) (tx := "subscribe") C dX3_readSubscriptions_32 (by decide +kernel) ?_
          obtain ⟨qc, gs, hqc⟩ := tt_recv (cx := []) hok_136 hkt (by decide) rfl
          refine tt_callV (rest := [.ref h0]) C (te_isWord_subscribe hl D cA ak tk a9 n2 n_156 n_155 (2 : Int32) u c hkt hk9 (by omega) (by omega) (by omega) hc ⟨fun q => absurd q (by decide), fun q => absurd q.2 hkd_161.2.1⟩ hok_136 hx0 hf_158 hf_157 hf_159 hu) [] [] rfl rfl (by decide) (by decide) (by decide) qc hqc rfl rfl jw_b0fe72c6f4 jw_5e9522a00c jw_73cf9edcb7 jw_a9e7b602dc jw_ce1c1f12e9 jn_X9_isWord rfl (jj_le rfl) (jj_le rfl) (jj_le rfl) (jj_le rfl) (jj_le rfl) dX3_readSubscriptions_34 rfl (fun _ _ _ hX => hX.elim) (fun rx pl_210 r O_214 => ?_)
          obtain ⟨rfl, hok_211, hr_212, ha_213, hR_215⟩ := O_214
          replace hs0 := hr_212.at hk0 (by decide) (by decide) hs0
          replace hx0 := hr_212.at hkt (by decide) (by decide) hx0
          replace hx2 := hr_212.at hkt (by decide) (by decide) hx2
          replace hs1 := hr_212.at hk0 (by decide) (by decide) hs1
          replace hsi := hr_212.at hkb (by decide) (by decide) hsi
          replace hf_134 := hr_212.at hkb (by decide) (by decide) hf_134
          replace hf_157 := hr_212.at hkt (by decide) (by decide) hf_157
          replace hf_158 := hr_212.at hkt (by decide) (by decide) hf_158
          replace hf_159 := hr_212.at hkt (by decide) (by decide) hf_159
          replace hf_163 := hr_212.at hkt (by decide) (by decide) hf_163
          replace hu := ha_213.at hk9 (by decide) (by decide) hu
          replace hfr := hfr.trans (hr_212.sub (by decide))
          replace hfa := hfa.trans (ha_213.sub (by decide))
          rcases hR_215 with ⟨hw_216, rfl⟩ | ⟨hw_217, rfl⟩
          · refine jj_iconst (v := 1) C dX3_readSubscriptions_37 (by decide) ?_
            obtain ⟨qc, gs, hqc⟩ := tt_recv (cx := []) hok_211 hk0 (by decide) rfl
            refine tt_callV (rest := []) C (te_accept_01 hl D cA ak h0 hk0 hok_211) [] [] rfl rfl (by decide) (by decide) (by decide) qc hqc rfl rfl jw_713f4d2af1 jw_b3e457240a jw_58c48ce796 jw_9d546d0b6f jw_0001e2e84f jn_X3_accept rfl (jj_le rfl) (jj_le rfl) (jj_le rfl) (jj_le rfl) (jj_le rfl) dX3_readSubscriptions_38 rfl (fun _ _ _ hX => hX.elim) (fun rx pl_218 r O_222 => ?_)
            obtain ⟨rfl, hok_219, hr_220, ha_221, hR_223⟩ := O_222
            replace hs0 := hr_220.at hk0 (by decide) (by decide) hs0
            replace hx0 := hr_220.at hkt (by decide) (by decide) hx0
            replace hx2 := hr_220.at hkt (by decide) (by decide) hx2
            replace hs1 := hr_220.at hk0 (by decide) (by decide) hs1
            replace hsi := hr_220.at hkb (by decide) (by decide) hsi
            replace hf_134 := hr_220.at hkb (by decide) (by decide) hf_134
            replace hf_157 := hr_220.at hkt (by decide) (by decide) hf_157
            replace hf_158 := hr_220.at hkt (by decide) (by decide) hf_158
            replace hf_159 := hr_220.at hkt (by decide) (by decide) hf_159
            replace hf_163 := hr_220.at hkt (by decide) (by decide) hf_163
            replace hu := ha_221.at hk9 (by decide) (by decide) hu
            replace hfr := hfr.trans (hr_220.sub (by decide))
            replace hfa := hfa.trans (ha_221.sub (by decide))
            obtain ⟨hf_224, rfl⟩ := hR_223
            refine jj_if_eqT (tgt := 70) C dX3_readSubscriptions_41 (by decide) (by decide) ?_
            refine jj_iconst (v := 0) C dX3_readSubscriptions_70 (by decide) ?_
            exact jj_zret C rfl ⟨[], pl_218, rfl, rfl, hok_219, hfr, hfa, (Or.inl ⟨1, n_155, _, (by decide), hf_157, hf_224, (ps_subs.nx ht_37 hkd_38.1 (ps_sub.of (ps_step.ok ht_37 (Or.inr (Or.inr ⟨hw_98, by decide, rfl⟩))) hq_132) (ps_subs.nx ht_160 hkd_161.1 ⟨(1, n_155, 0), (1, n_155, 0), (1, n_155, 0), (ps_step.no ht_160 (Or.inl ⟨hw_216, rfl⟩) (by decide)), (ps_step.st (show (1 : Nat) ≠ 0 by decide)), (ps_step.st (show (1 : Nat) ≠ 0 by decide)), (ps_step.st (show (1 : Nat) ≠ 0 by decide))⟩ (ps_subs.er (k := 0) (by decide)))), rfl⟩)⟩ dX3_readSubscriptions_71 (jj_le rfl) (jj_le rfl)
          · exact absurd (hw_217.one (n := n2) (by decide) (by unfold ps_le; decide) (by omega)).2 hkd_161.2.1
        · have hzn_166 := ht_171.le (by omega)
          refine jj_aload_n C dX3_readSubscriptions_15 rfl ?_
          refine tt_getF C hok_136 jk_4 0 (by decide) jw_70cd29f103 (t := (2, 10, 0)) hk0 (by decide) rfl rfl hs0 dX3_readSubscriptions_16 ?_
          refine tt_getF C hok_136 jk_10 5 (by decide) jw_601d0e39ae (t := (0, (-2147483648), 2147483647)) hkt (by decide) rfl rfl hf_170 dX3_readSubscriptions_19 ?_
          refine jj_if_neT (tgt := 27) C dX3_readSubscriptions_22 (by decide) (by decide) ?_
          refine jj_aload_n C dX3_readSubscriptions_27 rfl ?_
          refine jj_aload_n C dX3_readSubscriptions_28 rfl ?_
          refine tt_getF C hok_136 jk_4 0 (by decide) jw_70cd29f103 (t := (2, 10, 0)) hk0 (by decide) rfl rfl hs0 dX3_readSubscriptions_29 ?_
          refine jj_ldcs (k := 4) (tx := "subscribe") C dX3_readSubscriptions_32 (by decide +kernel) ?_
          obtain ⟨qc, gs, hqc⟩ := tt_recv (cx := []) hok_136 hkt (by decide) rfl
          refine tt_callV (rest := [.ref h0]) C (te_isWord_subscribe hl D cA ak tk a9 n2 n_167 n_166 (1 : Int32) u c hkt hk9 (by omega) (by omega) (by omega) hc ⟨fun _ => hkd_172, fun _ => rfl⟩ hok_136 hx0 hf_169 hf_168 hf_170 hu) [] [] rfl rfl (by decide) (by decide) (by decide) qc hqc rfl rfl jw_b0fe72c6f4 jw_5e9522a00c jw_73cf9edcb7 jw_a9e7b602dc jw_ce1c1f12e9 jn_X9_isWord rfl (jj_le rfl) (jj_le rfl) (jj_le rfl) (jj_le rfl) (jj_le rfl) dX3_readSubscriptions_34 rfl (fun _ _ _ hX => hX.elim) (fun rx pl_225 r O_229 => ?_)
          obtain ⟨rfl, hok_226, hr_227, ha_228, hR_230⟩ := O_229
          replace hs0 := hr_227.at hk0 (by decide) (by decide) hs0
          replace hx0 := hr_227.at hkt (by decide) (by decide) hx0
          replace hx2 := hr_227.at hkt (by decide) (by decide) hx2
          replace hs1 := hr_227.at hk0 (by decide) (by decide) hs1
          replace hsi := hr_227.at hkb (by decide) (by decide) hsi
          replace hf_134 := hr_227.at hkb (by decide) (by decide) hf_134
          replace hf_168 := hr_227.at hkt (by decide) (by decide) hf_168
          replace hf_169 := hr_227.at hkt (by decide) (by decide) hf_169
          replace hf_170 := hr_227.at hkt (by decide) (by decide) hf_170
          replace hu := ha_228.at hk9 (by decide) (by decide) hu
          replace hfr := hfr.trans (hr_227.sub (by decide))
          replace hfa := hfa.trans (ha_228.sub (by decide))
          rcases hR_230 with ⟨hw_231, rfl⟩ | ⟨hw_232, rfl⟩
          · refine jj_iconst (v := 1) C dX3_readSubscriptions_37 (by decide) ?_
            obtain ⟨qc, gs, hqc⟩ := tt_recv (cx := []) hok_226 hk0 (by decide) rfl
            refine tt_callV (rest := []) C (te_accept_01 hl D cA ak h0 hk0 hok_226) [] [] rfl rfl (by decide) (by decide) (by decide) qc hqc rfl rfl jw_713f4d2af1 jw_b3e457240a jw_58c48ce796 jw_9d546d0b6f jw_0001e2e84f jn_X3_accept rfl (jj_le rfl) (jj_le rfl) (jj_le rfl) (jj_le rfl) (jj_le rfl) dX3_readSubscriptions_38 rfl (fun _ _ _ hX => hX.elim) (fun rx pl_233 r O_237 => ?_)
            obtain ⟨rfl, hok_234, hr_235, ha_236, hR_238⟩ := O_237
            replace hs0 := hr_235.at hk0 (by decide) (by decide) hs0
            replace hx0 := hr_235.at hkt (by decide) (by decide) hx0
            replace hx2 := hr_235.at hkt (by decide) (by decide) hx2
            replace hs1 := hr_235.at hk0 (by decide) (by decide) hs1
            replace hsi := hr_235.at hkb (by decide) (by decide) hsi
            replace hf_134 := hr_235.at hkb (by decide) (by decide) hf_134
            replace hf_168 := hr_235.at hkt (by decide) (by decide) hf_168
            replace hf_169 := hr_235.at hkt (by decide) (by decide) hf_169
            replace hf_170 := hr_235.at hkt (by decide) (by decide) hf_170
            replace hu := ha_236.at hk9 (by decide) (by decide) hu
            replace hfr := hfr.trans (hr_235.sub (by decide))
            replace hfa := hfa.trans (ha_236.sub (by decide))
            obtain ⟨hf_239, rfl⟩ := hR_238
            refine jj_if_eqT (tgt := 70) C dX3_readSubscriptions_41 (by decide) (by decide) ?_
            refine jj_iconst (v := 0) C dX3_readSubscriptions_70 (by decide) ?_
            exact jj_zret C rfl ⟨[], pl_233, rfl, rfl, hok_234, hfr, hfa, (Or.inl ⟨1, n_166, _, (by decide), hf_168, hf_239, (ps_subs.nx ht_37 hkd_38.1 (ps_sub.of (ps_step.ok ht_37 (Or.inr (Or.inr ⟨hw_98, by decide, rfl⟩))) hq_132) (ps_subs.nx ht_171 hkd_172.1 ⟨(1, n_166, 0), (1, n_166, 0), (1, n_166, 0), (ps_step.no ht_171 (Or.inl ⟨hw_231, rfl⟩) (by decide)), (ps_step.st (show (1 : Nat) ≠ 0 by decide)), (ps_step.st (show (1 : Nat) ≠ 0 by decide)), (ps_step.st (show (1 : Nat) ≠ 0 by decide))⟩ (ps_subs.er (k := 0) (by decide)))), rfl⟩)⟩ dX3_readSubscriptions_71 (jj_le rfl) (jj_le rfl)
          · refine jj_iconst (v := 1) C dX3_readSubscriptions_37 (by decide) ?_
            obtain ⟨qc, gs, hqc⟩ := tt_recv (cx := []) hok_226 hk0 (by decide) rfl
            refine tt_callV (rest := []) C (te_accept_11 hl D cA ak h0 hk0 hok_226) [] [] rfl rfl (by decide) (by decide) (by decide) qc hqc rfl rfl jw_713f4d2af1 jw_b3e457240a jw_58c48ce796 jw_9d546d0b6f jw_0001e2e84f jn_X3_accept rfl (jj_le rfl) (jj_le rfl) (jj_le rfl) (jj_le rfl) (jj_le rfl) dX3_readSubscriptions_38 rfl (fun _ _ _ hX => hX.elim) (fun rx pl_240 r O_244 => ?_)
            obtain ⟨rfl, hok_241, hr_242, ha_243, hR_245⟩ := O_244
            replace hs0 := hr_242.at hk0 (by decide) (by decide) hs0
            replace hx0 := hr_242.at hkt (by decide) (by decide) hx0
            replace hx2 := hr_242.at hkt (by decide) (by decide) hx2
            replace hs1 := hr_242.at hk0 (by decide) (by decide) hs1
            replace hsi := hr_242.at hkb (by decide) (by decide) hsi
            replace hf_134 := hr_242.at hkb (by decide) (by decide) hf_134
            replace hf_168 := hr_242.at hkt (by decide) (by decide) hf_168
            replace hf_169 := hr_242.at hkt (by decide) (by decide) hf_169
            replace hf_170 := hr_242.at hkt (by decide) (by decide) hf_170
            replace hu := ha_243.at hk9 (by decide) (by decide) hu
            replace hfr := hfr.trans (hr_242.sub (by decide))
            replace hfa := hfa.trans (ha_243.sub (by decide))
            obtain rfl := hR_245
            refine jj_if_eqF (tgt := 70) C dX3_readSubscriptions_41 (by decide) (by decide) ?_
            refine jj_aload_n C dX3_readSubscriptions_44 rfl ?_
            refine jj_iload_n C dX3_readSubscriptions_45 rfl ?_
            refine jj_bipush (v := 12) C dX3_readSubscriptions_46 (by decide) ?_
            refine jj_icmp_geF (tgt := 55) C dX3_readSubscriptions_48 (by decide) (by decide) ?_
            refine jj_iconst (v := 1) C dX3_readSubscriptions_51 (by decide) ?_
            refine jj_goto (tgt := 56) C dX3_readSubscriptions_52 (by decide) ?_
            refine jj_iconst (v := 3) C dX3_readSubscriptions_56 (by decide) ?_
            obtain ⟨qc, gs, hqc⟩ := tt_recv (cx := []) hok_241 hk0 (by decide) rfl
            refine tt_callV (rest := []) C (te_accept_13 hl D cA ak h0 hk0 hok_241) [] [] rfl rfl (by decide) (by decide) (by decide) qc hqc rfl rfl jw_713f4d2af1 jw_b3e457240a jw_58c48ce796 jw_9d546d0b6f jw_0001e2e84f jn_X3_accept rfl (jj_le rfl) (jj_le rfl) (jj_le rfl) (jj_le rfl) (jj_le rfl) dX3_readSubscriptions_57 rfl (fun _ _ _ hX => hX.elim) (fun rx pl_246 r O_250 => ?_)
            obtain ⟨rfl, hok_247, hr_248, ha_249, hR_251⟩ := O_250
            replace hs0 := hr_248.at hk0 (by decide) (by decide) hs0
            replace hx0 := hr_248.at hkt (by decide) (by decide) hx0
            replace hx2 := hr_248.at hkt (by decide) (by decide) hx2
            replace hs1 := hr_248.at hk0 (by decide) (by decide) hs1
            replace hsi := hr_248.at hkb (by decide) (by decide) hsi
            replace hf_134 := hr_248.at hkb (by decide) (by decide) hf_134
            replace hf_168 := hr_248.at hkt (by decide) (by decide) hf_168
            replace hf_169 := hr_248.at hkt (by decide) (by decide) hf_169
            replace hf_170 := hr_248.at hkt (by decide) (by decide) hf_170
            replace hu := ha_249.at hk9 (by decide) (by decide) hu
            replace hfr := hfr.trans (hr_248.sub (by decide))
            replace hfa := hfa.trans (ha_249.sub (by decide))
            obtain rfl := hR_251
            refine jj_if_eqF (tgt := 70) C dX3_readSubscriptions_60 (by decide) (by decide) ?_
            refine jj_aload_n C dX3_readSubscriptions_63 rfl ?_
            obtain ⟨qc, gs, hqc⟩ := tt_recv (cx := []) hok_247 hk0 (by decide) rfl
            refine tt_callV (rest := []) C (te_readSubscription hl D cA ak h0 tk a9 bk n2 n_167 u c iv 1 hk0 hkt hk9 hkb (by omega) (by omega) hc (by omega) (by omega) (by omega) hok_247 hs0 hx0 hx2 hf_169 hs1 hsi hf_134 hu) [] [] rfl rfl (by decide) (by decide) (by decide) qc hqc rfl rfl jw_b50e5c10ea jw_23105775d0 jw_16355fb5ab jw_9d546d0b6f jw_0cc88cc191 jn_X3_readSubscription rfl (jj_le rfl) (jj_le rfl) (jj_le rfl) (jj_le rfl) (jj_le rfl) dX3_readSubscriptions_64 rfl (fun _ _ _ hX => hX.elim) (fun rx pl_252 r O_256 => ?_)
            obtain ⟨rfl, hok_253, hr_254, ha_255, hR_257⟩ := O_256
            replace hs0 := hr_254.at hk0 (by decide) (by decide) hs0
            replace hx0 := hr_254.at hkt (by decide) (by decide) hx0
            replace hx2 := hr_254.at hkt (by decide) (by decide) hx2
            replace hs1 := hr_254.at hk0 (by decide) (by decide) hs1
            replace hsi := hr_254.at hkb (by decide) (by decide) hsi
            replace hu := ha_255.at hk9 (by decide) (by decide) hu
            replace hfr := hfr.trans (hr_254.sub (by decide))
            replace hfa := hfa.trans (ha_255.sub (by decide))
            rcases hR_257 with ⟨n_259, n_258, hn_263, hf_260, hf_261, hq_262, rfl⟩ | ⟨n_264, hle_267, hf_265, hf_268, hq_266, rfl⟩
            · refine jj_if_neF (tgt := 72) C dX3_readSubscriptions_67 (by decide) (by decide) ?_
              refine jj_iconst (v := 0) C dX3_readSubscriptions_70 (by decide) ?_
              exact jj_zret C rfl ⟨[], pl_252, rfl, rfl, hok_253, hfr, hfa, (Or.inl ⟨n_259, n_258, _, hn_263, hf_260, hf_261, (ps_subs.nx ht_37 hkd_38.1 (ps_sub.of (ps_step.ok ht_37 (Or.inr (Or.inr ⟨hw_98, by decide, rfl⟩))) hq_132) (ps_subs.nx ht_171 hkd_172.1 (ps_sub.of (ps_step.ok ht_171 (Or.inr (Or.inr ⟨hw_232, by decide, rfl⟩))) hq_262) (ps_subs.er (k := 0) hn_263))), rfl⟩)⟩ dX3_readSubscriptions_71 (jj_le rfl) (jj_le rfl)
            · refine jj_if_neT (tgt := 72) C dX3_readSubscriptions_67 (by decide) (by decide) ?_
              refine jj_iinc (v := 2) C dX3_readSubscriptions_72 rfl (by decide) (by decide) rfl ?_
              refine jj_goto (tgt := 2) C dX3_readSubscriptions_75 (by decide) ?_
              refine jj_iload_n C dX3_readSubscriptions_2 rfl ?_
              refine jj_bipush (v := 12) C dX3_readSubscriptions_3 (by decide) ?_
              refine jj_icmp_gtF (tgt := 78) C dX3_readSubscriptions_5 (by decide) (by decide) ?_
              refine jj_aload_n C dX3_readSubscriptions_8 rfl ?_
              refine tt_getF C hok_253 jk_4 0 (by decide) jw_70cd29f103 (t := (2, 10, 0)) hk0 (by decide) rfl rfl hs0 dX3_readSubscriptions_9 ?_
              obtain ⟨qc, gs, hqc⟩ := tt_recv (cx := []) hok_253 hkt (by decide) rfl
              refine tt_callV (rest := []) C (te_advance hl D cA ak tk a9 n2 n_264 u c hkt hk9 (by omega) (by omega) hc hok_253 hx0 hx2 hf_265 hu) [] [] rfl rfl (by decide) (by decide) (by decide) qc hqc rfl rfl jw_97c023d194 jw_37f6ee43e0 jw_46baf1fc7b jw_a9e7b602dc jw_0d4db63612 jn_X9_advance rfl (jj_le rfl) (jj_le rfl) (jj_le rfl) (jj_le rfl) (jj_le rfl) dX3_readSubscriptions_12 rfl (fun _ _ _ hX => hX.elim) (fun rx pl_269 r O_273 => ?_)
              obtain ⟨rfl, hok_270, hr_271, ha_272, hR_274⟩ := O_273
              replace hs0 := hr_271.at hk0 (by decide) (by decide) hs0
              replace hx0 := hr_271.at hkt (by decide) (by decide) hx0
              replace hx2 := hr_271.at hkt (by decide) (by decide) hx2
              replace hs1 := hr_271.at hk0 (by decide) (by decide) hs1
              replace hsi := hr_271.at hkb (by decide) (by decide) hsi
              replace hf_268 := hr_271.at hkb (by decide) (by decide) hf_268
              replace hu := ha_272.at hk9 (by decide) (by decide) hu
              replace hfr := hfr.trans (hr_271.sub (by decide))
              replace hfa := hfa.trans (ha_272.sub (by decide))
              rcases hR_274 with ⟨n_275, n_276, hf_277, hf_278, hf_279, ht_280, hkd_281, rfl⟩ | ⟨n_282, n_283, hf_284, hf_285, hf_286, ht_287, hkd_288, rfl⟩ | ⟨n_289, n_290, hf_291, hf_292, hf_293, ht_294, hkd_295, ⟨x_296, hf_297, hq_298, hq_299⟩, rfl⟩ | ⟨n_300, n_301, hf_302, hf_303, hf_304, ht_305, hkd_306, rfl⟩ | ⟨n_307, n_308, hf_309, hf_310, hf_311, ht_312, hkd_313, rfl⟩
              · have hzn_275 := ht_280.le (by omega)
                refine jj_aload_n C dX3_readSubscriptions_15 rfl ?_
                refine tt_getF C hok_270 jk_4 0 (by decide) jw_70cd29f103 (t := (2, 10, 0)) hk0 (by decide) rfl rfl hs0 dX3_readSubscriptions_16 ?_
                refine tt_getF C hok_270 jk_10 5 (by decide) jw_601d0e39ae (t := (0, (-2147483648), 2147483647)) hkt (by decide) rfl rfl hf_279 dX3_readSubscriptions_19 ?_
                refine jj_if_neT (tgt := 27) C dX3_readSubscriptions_22 (by decide) (by decide) ?_
                refine jj_aload_n C dX3_readSubscriptions_27 rfl ?_
                refine jj_aload_n C dX3_readSubscriptions_28 rfl ?_
                refine tt_getF C hok_270 jk_4 0 (by decide) jw_70cd29f103 (t := (2, 10, 0)) hk0 (by decide) rfl rfl hs0 dX3_readSubscriptions_29 ?_
                refine jj_ldcs (k := 4) (tx := "subscribe") C dX3_readSubscriptions_32 (by decide +kernel) ?_
                obtain ⟨qc, gs, hqc⟩ := tt_recv (cx := []) hok_270 hkt (by decide) rfl
                refine tt_callV (rest := [.ref h0]) C (te_isWord_subscribe hl D cA ak tk a9 n2 n_276 n_275 (4 : Int32) u c hkt hk9 (by omega) (by omega) (by omega) hc ⟨fun q => absurd q (by decide), fun q => absurd q.2 hkd_281.2.1⟩ hok_270 hx0 hf_278 hf_277 hf_279 hu) [] [] rfl rfl (by decide) (by decide) (by decide) qc hqc rfl rfl jw_b0fe72c6f4 jw_5e9522a00c jw_73cf9edcb7 jw_a9e7b602dc jw_ce1c1f12e9 jn_X9_isWord rfl (jj_le rfl) (jj_le rfl) (jj_le rfl) (jj_le rfl) (jj_le rfl) dX3_readSubscriptions_34 rfl (fun _ _ _ hX => hX.elim) (fun rx pl_314 r O_318 => ?_)
                obtain ⟨rfl, hok_315, hr_316, ha_317, hR_319⟩ := O_318
                replace hs0 := hr_316.at hk0 (by decide) (by decide) hs0
                replace hx0 := hr_316.at hkt (by decide) (by decide) hx0
                replace hx2 := hr_316.at hkt (by decide) (by decide) hx2
                replace hs1 := hr_316.at hk0 (by decide) (by decide) hs1
                replace hsi := hr_316.at hkb (by decide) (by decide) hsi
                replace hf_268 := hr_316.at hkb (by decide) (by decide) hf_268
                replace hf_277 := hr_316.at hkt (by decide) (by decide) hf_277
                replace hf_278 := hr_316.at hkt (by decide) (by decide) hf_278
                replace hf_279 := hr_316.at hkt (by decide) (by decide) hf_279
                replace hu := ha_317.at hk9 (by decide) (by decide) hu
                replace hfr := hfr.trans (hr_316.sub (by decide))
                replace hfa := hfa.trans (ha_317.sub (by decide))
                rcases hR_319 with ⟨hw_320, rfl⟩ | ⟨hw_321, rfl⟩
                · refine jj_iconst (v := 1) C dX3_readSubscriptions_37 (by decide) ?_
                  obtain ⟨qc, gs, hqc⟩ := tt_recv (cx := []) hok_315 hk0 (by decide) rfl
                  refine tt_callV (rest := []) C (te_accept_01 hl D cA ak h0 hk0 hok_315) [] [] rfl rfl (by decide) (by decide) (by decide) qc hqc rfl rfl jw_713f4d2af1 jw_b3e457240a jw_58c48ce796 jw_9d546d0b6f jw_0001e2e84f jn_X3_accept rfl (jj_le rfl) (jj_le rfl) (jj_le rfl) (jj_le rfl) (jj_le rfl) dX3_readSubscriptions_38 rfl (fun _ _ _ hX => hX.elim) (fun rx pl_322 r O_326 => ?_)
                  obtain ⟨rfl, hok_323, hr_324, ha_325, hR_327⟩ := O_326
                  replace hs0 := hr_324.at hk0 (by decide) (by decide) hs0
                  replace hx0 := hr_324.at hkt (by decide) (by decide) hx0
                  replace hx2 := hr_324.at hkt (by decide) (by decide) hx2
                  replace hs1 := hr_324.at hk0 (by decide) (by decide) hs1
                  replace hsi := hr_324.at hkb (by decide) (by decide) hsi
                  replace hf_268 := hr_324.at hkb (by decide) (by decide) hf_268
                  replace hf_277 := hr_324.at hkt (by decide) (by decide) hf_277
                  replace hf_278 := hr_324.at hkt (by decide) (by decide) hf_278
                  replace hf_279 := hr_324.at hkt (by decide) (by decide) hf_279
                  replace hu := ha_325.at hk9 (by decide) (by decide) hu
                  replace hfr := hfr.trans (hr_324.sub (by decide))
                  replace hfa := hfa.trans (ha_325.sub (by decide))
                  obtain ⟨hf_328, rfl⟩ := hR_327
                  refine jj_if_eqT (tgt := 70) C dX3_readSubscriptions_41 (by decide) (by decide) ?_
                  refine jj_iconst (v := 0) C dX3_readSubscriptions_70 (by decide) ?_
                  exact jj_zret C rfl ⟨[], pl_322, rfl, rfl, hok_323, hfr, hfa, (Or.inl ⟨1, n_275, _, (by decide), hf_277, hf_328, (ps_subs.nx ht_37 hkd_38.1 (ps_sub.of (ps_step.ok ht_37 (Or.inr (Or.inr ⟨hw_98, by decide, rfl⟩))) hq_132) (ps_subs.nx ht_171 hkd_172.1 (ps_sub.of (ps_step.ok ht_171 (Or.inr (Or.inr ⟨hw_232, by decide, rfl⟩))) hq_266) (ps_subs.nx ht_280 hkd_281.1 ⟨(1, n_275, 0), (1, n_275, 0), (1, n_275, 0), (ps_step.no ht_280 (Or.inl ⟨hw_320, rfl⟩) (by decide)), (ps_step.st (show (1 : Nat) ≠ 0 by decide)), (ps_step.st (show (1 : Nat) ≠ 0 by decide)), (ps_step.st (show (1 : Nat) ≠ 0 by decide))⟩ (ps_subs.er (k := 0) (by decide))))), rfl⟩)⟩ dX3_readSubscriptions_71 (jj_le rfl) (jj_le rfl)
                · exact absurd (hw_321.one (n := n2) (by decide) (by unfold ps_le; decide) (by omega)).2 hkd_281.2.1
              · have hzn_282 := ht_287.le (by omega)
                refine jj_aload_n C dX3_readSubscriptions_15 rfl ?_
                refine tt_getF C hok_270 jk_4 0 (by decide) jw_70cd29f103 (t := (2, 10, 0)) hk0 (by decide) rfl rfl hs0 dX3_readSubscriptions_16 ?_
                refine tt_getF C hok_270 jk_10 5 (by decide) jw_601d0e39ae (t := (0, (-2147483648), 2147483647)) hkt (by decide) rfl rfl hf_286 dX3_readSubscriptions_19 ?_
                refine jj_if_neT (tgt := 27) C dX3_readSubscriptions_22 (by decide) (by decide) ?_
                refine jj_aload_n C dX3_readSubscriptions_27 rfl ?_
                refine jj_aload_n C dX3_readSubscriptions_28 rfl ?_
                refine tt_getF C hok_270 jk_4 0 (by decide) jw_70cd29f103 (t := (2, 10, 0)) hk0 (by decide) rfl rfl hs0 dX3_readSubscriptions_29 ?_
                refine jj_ldcs (k := 4) (tx := "subscribe") C dX3_readSubscriptions_32 (by decide +kernel) ?_
                obtain ⟨qc, gs, hqc⟩ := tt_recv (cx := []) hok_270 hkt (by decide) rfl
                refine tt_callV (rest := [.ref h0]) C (te_isWord_subscribe hl D cA ak tk a9 n2 n_283 n_282 (3 : Int32) u c hkt hk9 (by omega) (by omega) (by omega) hc ⟨fun q => absurd q (by decide), fun q => absurd q.2 hkd_288.2.1⟩ hok_270 hx0 hf_285 hf_284 hf_286 hu) [] [] rfl rfl (by decide) (by decide) (by decide) qc hqc rfl rfl jw_b0fe72c6f4 jw_5e9522a00c jw_73cf9edcb7 jw_a9e7b602dc jw_ce1c1f12e9 jn_X9_isWord rfl (jj_le rfl) (jj_le rfl) (jj_le rfl) (jj_le rfl) (jj_le rfl) dX3_readSubscriptions_34 rfl (fun _ _ _ hX => hX.elim) (fun rx pl_329 r O_333 => ?_)
                obtain ⟨rfl, hok_330, hr_331, ha_332, hR_334⟩ := O_333
                replace hs0 := hr_331.at hk0 (by decide) (by decide) hs0
                replace hx0 := hr_331.at hkt (by decide) (by decide) hx0
                replace hx2 := hr_331.at hkt (by decide) (by decide) hx2
                replace hs1 := hr_331.at hk0 (by decide) (by decide) hs1
                replace hsi := hr_331.at hkb (by decide) (by decide) hsi
                replace hf_268 := hr_331.at hkb (by decide) (by decide) hf_268
                replace hf_284 := hr_331.at hkt (by decide) (by decide) hf_284
                replace hf_285 := hr_331.at hkt (by decide) (by decide) hf_285
                replace hf_286 := hr_331.at hkt (by decide) (by decide) hf_286
                replace hu := ha_332.at hk9 (by decide) (by decide) hu
                replace hfr := hfr.trans (hr_331.sub (by decide))
                replace hfa := hfa.trans (ha_332.sub (by decide))
                rcases hR_334 with ⟨hw_335, rfl⟩ | ⟨hw_336, rfl⟩
                · refine jj_iconst (v := 1) C dX3_readSubscriptions_37 (by decide) ?_
                  obtain ⟨qc, gs, hqc⟩ := tt_recv (cx := []) hok_330 hk0 (by decide) rfl
                  refine tt_callV (rest := []) C (te_accept_01 hl D cA ak h0 hk0 hok_330) [] [] rfl rfl (by decide) (by decide) (by decide) qc hqc rfl rfl jw_713f4d2af1 jw_b3e457240a jw_58c48ce796 jw_9d546d0b6f jw_0001e2e84f jn_X3_accept rfl (jj_le rfl) (jj_le rfl) (jj_le rfl) (jj_le rfl) (jj_le rfl) dX3_readSubscriptions_38 rfl (fun _ _ _ hX => hX.elim) (fun rx pl_337 r O_341 => ?_)
                  obtain ⟨rfl, hok_338, hr_339, ha_340, hR_342⟩ := O_341
                  replace hs0 := hr_339.at hk0 (by decide) (by decide) hs0
                  replace hx0 := hr_339.at hkt (by decide) (by decide) hx0
                  replace hx2 := hr_339.at hkt (by decide) (by decide) hx2
                  replace hs1 := hr_339.at hk0 (by decide) (by decide) hs1
                  replace hsi := hr_339.at hkb (by decide) (by decide) hsi
                  replace hf_268 := hr_339.at hkb (by decide) (by decide) hf_268
                  replace hf_284 := hr_339.at hkt (by decide) (by decide) hf_284
                  replace hf_285 := hr_339.at hkt (by decide) (by decide) hf_285
                  replace hf_286 := hr_339.at hkt (by decide) (by decide) hf_286
                  replace hu := ha_340.at hk9 (by decide) (by decide) hu
                  replace hfr := hfr.trans (hr_339.sub (by decide))
                  replace hfa := hfa.trans (ha_340.sub (by decide))
                  obtain ⟨hf_343, rfl⟩ := hR_342
                  refine jj_if_eqT (tgt := 70) C dX3_readSubscriptions_41 (by decide) (by decide) ?_
                  refine jj_iconst (v := 0) C dX3_readSubscriptions_70 (by decide) ?_
                  exact jj_zret C rfl ⟨[], pl_337, rfl, rfl, hok_338, hfr, hfa, (Or.inl ⟨1, n_282, _, (by decide), hf_284, hf_343, (ps_subs.nx ht_37 hkd_38.1 (ps_sub.of (ps_step.ok ht_37 (Or.inr (Or.inr ⟨hw_98, by decide, rfl⟩))) hq_132) (ps_subs.nx ht_171 hkd_172.1 (ps_sub.of (ps_step.ok ht_171 (Or.inr (Or.inr ⟨hw_232, by decide, rfl⟩))) hq_266) (ps_subs.nx ht_287 hkd_288.1 ⟨(1, n_282, 0), (1, n_282, 0), (1, n_282, 0), (ps_step.no ht_287 (Or.inl ⟨hw_335, rfl⟩) (by decide)), (ps_step.st (show (1 : Nat) ≠ 0 by decide)), (ps_step.st (show (1 : Nat) ≠ 0 by decide)), (ps_step.st (show (1 : Nat) ≠ 0 by decide))⟩ (ps_subs.er (k := 0) (by decide))))), rfl⟩)⟩ dX3_readSubscriptions_71 (jj_le rfl) (jj_le rfl)
                · exact absurd (hw_336.one (n := n2) (by decide) (by unfold ps_le; decide) (by omega)).2 hkd_288.2.1
              · have hzn_289 := ht_294.le (by omega)
                have lx_296 := tt_lo x_296
                have ux_296 := tt_hi x_296
                refine jj_aload_n C dX3_readSubscriptions_15 rfl ?_
                refine tt_getF C hok_270 jk_4 0 (by decide) jw_70cd29f103 (t := (2, 10, 0)) hk0 (by decide) rfl rfl hs0 dX3_readSubscriptions_16 ?_
                refine tt_getF C hok_270 jk_10 5 (by decide) jw_601d0e39ae (t := (0, (-2147483648), 2147483647)) hkt (by decide) rfl rfl hf_293 dX3_readSubscriptions_19 ?_
                refine jj_if_neT (tgt := 27) C dX3_readSubscriptions_22 (by decide) (by decide) ?_
                refine jj_aload_n C dX3_readSubscriptions_27 rfl ?_
                refine jj_aload_n C dX3_readSubscriptions_28 rfl ?_
                refine tt_getF C hok_270 jk_4 0 (by decide) jw_70cd29f103 (t := (2, 10, 0)) hk0 (by decide) rfl rfl hs0 dX3_readSubscriptions_29 ?_
                refine jj_ldcs (k := 4) (tx := "subscribe") C dX3_readSubscriptions_32 (by decide +kernel) ?_
                obtain ⟨qc, gs, hqc⟩ := tt_recv (cx := []) hok_270 hkt (by decide) rfl
                refine tt_callV (rest := [.ref h0]) C (te_isWord_subscribe hl D cA ak tk a9 n2 n_290 n_289 (2 : Int32) u c hkt hk9 (by omega) (by omega) (by omega) hc ⟨fun q => absurd q (by decide), fun q => absurd q.2 hkd_295.2.1⟩ hok_270 hx0 hf_292 hf_291 hf_293 hu) [] [] rfl rfl (by decide) (by decide) (by decide) qc hqc rfl rfl jw_b0fe72c6f4 jw_5e9522a00c jw_73cf9edcb7 jw_a9e7b602dc jw_ce1c1f12e9 jn_X9_isWord rfl (jj_le rfl) (jj_le rfl) (jj_le rfl) (jj_le rfl) (jj_le rfl) dX3_readSubscriptions_34 rfl (fun _ _ _ hX => hX.elim) (fun rx pl_344 r O_348 => ?_)
                obtain ⟨rfl, hok_345, hr_346, ha_347, hR_349⟩ := O_348
                replace hs0 := hr_346.at hk0 (by decide) (by decide) hs0
                replace hx0 := hr_346.at hkt (by decide) (by decide) hx0
                replace hx2 := hr_346.at hkt (by decide) (by decide) hx2
                replace hs1 := hr_346.at hk0 (by decide) (by decide) hs1
                replace hsi := hr_346.at hkb (by decide) (by decide) hsi
                replace hf_268 := hr_346.at hkb (by decide) (by decide) hf_268
                replace hf_291 := hr_346.at hkt (by decide) (by decide) hf_291
                replace hf_292 := hr_346.at hkt (by decide) (by decide) hf_292
                replace hf_293 := hr_346.at hkt (by decide) (by decide) hf_293
                replace hf_297 := hr_346.at hkt (by decide) (by decide) hf_297
                replace hu := ha_347.at hk9 (by decide) (by decide) hu
                replace hfr := hfr.trans (hr_346.sub (by decide))
                replace hfa := hfa.trans (ha_347.sub (by decide))
                rcases hR_349 with ⟨hw_350, rfl⟩ | ⟨hw_351, rfl⟩
                · refine jj_iconst (v := 1) C dX3_readSubscriptions_37 (by decide) ?_
                  obtain ⟨qc, gs, hqc⟩ := tt_recv (cx := []) hok_345 hk0 (by decide) rfl
                  refine tt_callV (rest := []) C (te_accept_01 hl D cA ak h0 hk0 hok_345) [] [] rfl rfl (by decide) (by decide) (by decide) qc hqc rfl rfl jw_713f4d2af1 jw_b3e457240a jw_58c48ce796 jw_9d546d0b6f jw_0001e2e84f jn_X3_accept rfl (jj_le rfl) (jj_le rfl) (jj_le rfl) (jj_le rfl) (jj_le rfl) dX3_readSubscriptions_38 rfl (fun _ _ _ hX => hX.elim) (fun rx pl_352 r O_356 => ?_)
                  obtain ⟨rfl, hok_353, hr_354, ha_355, hR_357⟩ := O_356
                  replace hs0 := hr_354.at hk0 (by decide) (by decide) hs0
                  replace hx0 := hr_354.at hkt (by decide) (by decide) hx0
                  replace hx2 := hr_354.at hkt (by decide) (by decide) hx2
                  replace hs1 := hr_354.at hk0 (by decide) (by decide) hs1
                  replace hsi := hr_354.at hkb (by decide) (by decide) hsi
                  replace hf_268 := hr_354.at hkb (by decide) (by decide) hf_268
                  replace hf_291 := hr_354.at hkt (by decide) (by decide) hf_291
                  replace hf_292 := hr_354.at hkt (by decide) (by decide) hf_292
                  replace hf_293 := hr_354.at hkt (by decide) (by decide) hf_293
                  replace hf_297 := hr_354.at hkt (by decide) (by decide) hf_297
                  replace hu := ha_355.at hk9 (by decide) (by decide) hu
                  replace hfr := hfr.trans (hr_354.sub (by decide))
                  replace hfa := hfa.trans (ha_355.sub (by decide))
                  obtain ⟨hf_358, rfl⟩ := hR_357
                  refine jj_if_eqT (tgt := 70) C dX3_readSubscriptions_41 (by decide) (by decide) ?_
                  refine jj_iconst (v := 0) C dX3_readSubscriptions_70 (by decide) ?_
                  exact jj_zret C rfl ⟨[], pl_352, rfl, rfl, hok_353, hfr, hfa, (Or.inl ⟨1, n_289, _, (by decide), hf_291, hf_358, (ps_subs.nx ht_37 hkd_38.1 (ps_sub.of (ps_step.ok ht_37 (Or.inr (Or.inr ⟨hw_98, by decide, rfl⟩))) hq_132) (ps_subs.nx ht_171 hkd_172.1 (ps_sub.of (ps_step.ok ht_171 (Or.inr (Or.inr ⟨hw_232, by decide, rfl⟩))) hq_266) (ps_subs.nx ht_294 hkd_295.1 ⟨(1, n_289, 0), (1, n_289, 0), (1, n_289, 0), (ps_step.no ht_294 (Or.inl ⟨hw_350, rfl⟩) (by decide)), (ps_step.st (show (1 : Nat) ≠ 0 by decide)), (ps_step.st (show (1 : Nat) ≠ 0 by decide)), (ps_step.st (show (1 : Nat) ≠ 0 by decide))⟩ (ps_subs.er (k := 0) (by decide))))), rfl⟩)⟩ dX3_readSubscriptions_71 (jj_le rfl) (jj_le rfl)
                · exact absurd (hw_351.one (n := n2) (by decide) (by unfold ps_le; decide) (by omega)).2 hkd_295.2.1
              · have hzn_300 := ht_305.le (by omega)
                refine jj_aload_n C dX3_readSubscriptions_15 rfl ?_
                refine tt_getF C hok_270 jk_4 0 (by decide) jw_70cd29f103 (t := (2, 10, 0)) hk0 (by decide) rfl rfl hs0 dX3_readSubscriptions_16 ?_
                refine tt_getF C hok_270 jk_10 5 (by decide) jw_601d0e39ae (t := (0, (-2147483648), 2147483647)) hkt (by decide) rfl rfl hf_304 dX3_readSubscriptions_19 ?_
                refine jj_if_neT (tgt := 27) C dX3_readSubscriptions_22 (by decide) (by decide) ?_
                refine jj_aload_n C dX3_readSubscriptions_27 rfl ?_
                refine jj_aload_n C dX3_readSubscriptions_28 rfl ?_
                refine tt_getF C hok_270 jk_4 0 (by decide) jw_70cd29f103 (t := (2, 10, 0)) hk0 (by decide) rfl rfl hs0 dX3_readSubscriptions_29 ?_
                refine jj_ldcs (k := 4) (tx := "subscribe") C dX3_readSubscriptions_32 (by decide +kernel) ?_
                obtain ⟨qc, gs, hqc⟩ := tt_recv (cx := []) hok_270 hkt (by decide) rfl
                refine tt_callV (rest := [.ref h0]) C (te_isWord_subscribe hl D cA ak tk a9 n2 n_301 n_300 (1 : Int32) u c hkt hk9 (by omega) (by omega) (by omega) hc ⟨fun _ => hkd_306, fun _ => rfl⟩ hok_270 hx0 hf_303 hf_302 hf_304 hu) [] [] rfl rfl (by decide) (by decide) (by decide) qc hqc rfl rfl jw_b0fe72c6f4 jw_5e9522a00c jw_73cf9edcb7 jw_a9e7b602dc jw_ce1c1f12e9 jn_X9_isWord rfl (jj_le rfl) (jj_le rfl) (jj_le rfl) (jj_le rfl) (jj_le rfl) dX3_readSubscriptions_34 rfl (fun _ _ _ hX => hX.elim) (fun rx pl_359 r O_363 => ?_)
                obtain ⟨rfl, hok_360, hr_361, ha_362, hR_364⟩ := O_363
                replace hs0 := hr_361.at hk0 (by decide) (by decide) hs0
                replace hx0 := hr_361.at hkt (by decide) (by decide) hx0
                replace hx2 := hr_361.at hkt (by decide) (by decide) hx2
                replace hs1 := hr_361.at hk0 (by decide) (by decide) hs1
                replace hsi := hr_361.at hkb (by decide) (by decide) hsi
                replace hf_268 := hr_361.at hkb (by decide) (by decide) hf_268
                replace hf_302 := hr_361.at hkt (by decide) (by decide) hf_302
                replace hf_303 := hr_361.at hkt (by decide) (by decide) hf_303
                replace hf_304 := hr_361.at hkt (by decide) (by decide) hf_304
                replace hu := ha_362.at hk9 (by decide) (by decide) hu
                replace hfr := hfr.trans (hr_361.sub (by decide))
                replace hfa := hfa.trans (ha_362.sub (by decide))
                rcases hR_364 with ⟨hw_365, rfl⟩ | ⟨hw_366, rfl⟩
                · refine jj_iconst (v := 1) C dX3_readSubscriptions_37 (by decide) ?_
                  obtain ⟨qc, gs, hqc⟩ := tt_recv (cx := []) hok_360 hk0 (by decide) rfl
                  refine tt_callV (rest := []) C (te_accept_01 hl D cA ak h0 hk0 hok_360) [] [] rfl rfl (by decide) (by decide) (by decide) qc hqc rfl rfl jw_713f4d2af1 jw_b3e457240a jw_58c48ce796 jw_9d546d0b6f jw_0001e2e84f jn_X3_accept rfl (jj_le rfl) (jj_le rfl) (jj_le rfl) (jj_le rfl) (jj_le rfl) dX3_readSubscriptions_38 rfl (fun _ _ _ hX => hX.elim) (fun rx pl_367 r O_371 => ?_)
                  obtain ⟨rfl, hok_368, hr_369, ha_370, hR_372⟩ := O_371
                  replace hs0 := hr_369.at hk0 (by decide) (by decide) hs0
                  replace hx0 := hr_369.at hkt (by decide) (by decide) hx0
                  replace hx2 := hr_369.at hkt (by decide) (by decide) hx2
                  replace hs1 := hr_369.at hk0 (by decide) (by decide) hs1
                  replace hsi := hr_369.at hkb (by decide) (by decide) hsi
                  replace hf_268 := hr_369.at hkb (by decide) (by decide) hf_268
                  replace hf_302 := hr_369.at hkt (by decide) (by decide) hf_302
                  replace hf_303 := hr_369.at hkt (by decide) (by decide) hf_303
                  replace hf_304 := hr_369.at hkt (by decide) (by decide) hf_304
                  replace hu := ha_370.at hk9 (by decide) (by decide) hu
                  replace hfr := hfr.trans (hr_369.sub (by decide))
                  replace hfa := hfa.trans (ha_370.sub (by decide))
                  obtain ⟨hf_373, rfl⟩ := hR_372
                  refine jj_if_eqT (tgt := 70) C dX3_readSubscriptions_41 (by decide) (by decide) ?_
                  refine jj_iconst (v := 0) C dX3_readSubscriptions_70 (by decide) ?_
                  exact jj_zret C rfl ⟨[], pl_367, rfl, rfl, hok_368, hfr, hfa, (Or.inl ⟨1, n_300, _, (by decide), hf_302, hf_373, (ps_subs.nx ht_37 hkd_38.1 (ps_sub.of (ps_step.ok ht_37 (Or.inr (Or.inr ⟨hw_98, by decide, rfl⟩))) hq_132) (ps_subs.nx ht_171 hkd_172.1 (ps_sub.of (ps_step.ok ht_171 (Or.inr (Or.inr ⟨hw_232, by decide, rfl⟩))) hq_266) (ps_subs.nx ht_305 hkd_306.1 ⟨(1, n_300, 0), (1, n_300, 0), (1, n_300, 0), (ps_step.no ht_305 (Or.inl ⟨hw_365, rfl⟩) (by decide)), (ps_step.st (show (1 : Nat) ≠ 0 by decide)), (ps_step.st (show (1 : Nat) ≠ 0 by decide)), (ps_step.st (show (1 : Nat) ≠ 0 by decide))⟩ (ps_subs.er (k := 0) (by decide))))), rfl⟩)⟩ dX3_readSubscriptions_71 (jj_le rfl) (jj_le rfl)
                · refine jj_iconst (v := 1) C dX3_readSubscriptions_37 (by decide) ?_
                  obtain ⟨qc, gs, hqc⟩ := tt_recv (cx := []) hok_360 hk0 (by decide) rfl
                  refine tt_callV (rest := []) C (te_accept_11 hl D cA ak h0 hk0 hok_360) [] [] rfl rfl (by decide) (by decide) (by decide) qc hqc rfl rfl jw_713f4d2af1 jw_b3e457240a jw_58c48ce796 jw_9d546d0b6f jw_0001e2e84f jn_X3_accept rfl (jj_le rfl) (jj_le rfl) (jj_le rfl) (jj_le rfl) (jj_le rfl) dX3_readSubscriptions_38 rfl (fun _ _ _ hX => hX.elim) (fun rx pl_374 r O_378 => ?_)
                  obtain ⟨rfl, hok_375, hr_376, ha_377, hR_379⟩ := O_378
                  replace hs0 := hr_376.at hk0 (by decide) (by decide) hs0
                  replace hx0 := hr_376.at hkt (by decide) (by decide) hx0
                  replace hx2 := hr_376.at hkt (by decide) (by decide) hx2
                  replace hs1 := hr_376.at hk0 (by decide) (by decide) hs1
                  replace hsi := hr_376.at hkb (by decide) (by decide) hsi
                  replace hf_268 := hr_376.at hkb (by decide) (by decide) hf_268
                  replace hf_302 := hr_376.at hkt (by decide) (by decide) hf_302
                  replace hf_303 := hr_376.at hkt (by decide) (by decide) hf_303
                  replace hf_304 := hr_376.at hkt (by decide) (by decide) hf_304
                  replace hu := ha_377.at hk9 (by decide) (by decide) hu
                  replace hfr := hfr.trans (hr_376.sub (by decide))
                  replace hfa := hfa.trans (ha_377.sub (by decide))
                  obtain rfl := hR_379
                  refine jj_if_eqF (tgt := 70) C dX3_readSubscriptions_41 (by decide) (by decide) ?_
                  refine jj_aload_n C dX3_readSubscriptions_44 rfl ?_
                  refine jj_iload_n C dX3_readSubscriptions_45 rfl ?_
                  refine jj_bipush (v := 12) C dX3_readSubscriptions_46 (by decide) ?_
                  refine jj_icmp_geF (tgt := 55) C dX3_readSubscriptions_48 (by decide) (by decide) ?_
                  refine jj_iconst (v := 1) C dX3_readSubscriptions_51 (by decide) ?_
                  refine jj_goto (tgt := 56) C dX3_readSubscriptions_52 (by decide) ?_
                  refine jj_iconst (v := 3) C dX3_readSubscriptions_56 (by decide) ?_
                  obtain ⟨qc, gs, hqc⟩ := tt_recv (cx := []) hok_375 hk0 (by decide) rfl
                  refine tt_callV (rest := []) C (te_accept_13 hl D cA ak h0 hk0 hok_375) [] [] rfl rfl (by decide) (by decide) (by decide) qc hqc rfl rfl jw_713f4d2af1 jw_b3e457240a jw_58c48ce796 jw_9d546d0b6f jw_0001e2e84f jn_X3_accept rfl (jj_le rfl) (jj_le rfl) (jj_le rfl) (jj_le rfl) (jj_le rfl) dX3_readSubscriptions_57 rfl (fun _ _ _ hX => hX.elim) (fun rx pl_380 r O_384 => ?_)
                  obtain ⟨rfl, hok_381, hr_382, ha_383, hR_385⟩ := O_384
                  replace hs0 := hr_382.at hk0 (by decide) (by decide) hs0
                  replace hx0 := hr_382.at hkt (by decide) (by decide) hx0
                  replace hx2 := hr_382.at hkt (by decide) (by decide) hx2
                  replace hs1 := hr_382.at hk0 (by decide) (by decide) hs1
                  replace hsi := hr_382.at hkb (by decide) (by decide) hsi
                  replace hf_268 := hr_382.at hkb (by decide) (by decide) hf_268
                  replace hf_302 := hr_382.at hkt (by decide) (by decide) hf_302
                  replace hf_303 := hr_382.at hkt (by decide) (by decide) hf_303
                  replace hf_304 := hr_382.at hkt (by decide) (by decide) hf_304
                  replace hu := ha_383.at hk9 (by decide) (by decide) hu
                  replace hfr := hfr.trans (hr_382.sub (by decide))
                  replace hfa := hfa.trans (ha_383.sub (by decide))
                  obtain rfl := hR_385
                  refine jj_if_eqF (tgt := 70) C dX3_readSubscriptions_60 (by decide) (by decide) ?_
                  refine jj_aload_n C dX3_readSubscriptions_63 rfl ?_
                  obtain ⟨qc, gs, hqc⟩ := tt_recv (cx := []) hok_381 hk0 (by decide) rfl
                  refine tt_callV (rest := []) C (te_readSubscription hl D cA ak h0 tk a9 bk n2 n_301 u c iv 2 hk0 hkt hk9 hkb (by omega) (by omega) hc (by omega) (by omega) (by omega) hok_381 hs0 hx0 hx2 hf_303 hs1 hsi hf_268 hu) [] [] rfl rfl (by decide) (by decide) (by decide) qc hqc rfl rfl jw_b50e5c10ea jw_23105775d0 jw_16355fb5ab jw_9d546d0b6f jw_0cc88cc191 jn_X3_readSubscription rfl (jj_le rfl) (jj_le rfl) (jj_le rfl) (jj_le rfl) (jj_le rfl) dX3_readSubscriptions_64 rfl (fun _ _ _ hX => hX.elim) (fun rx pl_386 r O_390 => ?_)
                  obtain ⟨rfl, hok_387, hr_388, ha_389, hR_391⟩ := O_390
                  replace hs0 := hr_388.at hk0 (by decide) (by decide) hs0
                  replace hx0 := hr_388.at hkt (by decide) (by decide) hx0
                  replace hx2 := hr_388.at hkt (by decide) (by decide) hx2
                  replace hs1 := hr_388.at hk0 (by decide) (by decide) hs1
                  replace hsi := hr_388.at hkb (by decide) (by decide) hsi
                  replace hu := ha_389.at hk9 (by decide) (by decide) hu
                  replace hfr := hfr.trans (hr_388.sub (by decide))
                  replace hfa := hfa.trans (ha_389.sub (by decide))
                  rcases hR_391 with ⟨n_393, n_392, hn_397, hf_394, hf_395, hq_396, rfl⟩ | ⟨n_398, hle_401, hf_399, hf_402, hq_400, rfl⟩
                  · refine jj_if_neF (tgt := 72) C dX3_readSubscriptions_67 (by decide) (by decide) ?_
                    refine jj_iconst (v := 0) C dX3_readSubscriptions_70 (by decide) ?_
                    exact jj_zret C rfl ⟨[], pl_386, rfl, rfl, hok_387, hfr, hfa, (Or.inl ⟨n_393, n_392, _, hn_397, hf_394, hf_395, (ps_subs.nx ht_37 hkd_38.1 (ps_sub.of (ps_step.ok ht_37 (Or.inr (Or.inr ⟨hw_98, by decide, rfl⟩))) hq_132) (ps_subs.nx ht_171 hkd_172.1 (ps_sub.of (ps_step.ok ht_171 (Or.inr (Or.inr ⟨hw_232, by decide, rfl⟩))) hq_266) (ps_subs.nx ht_305 hkd_306.1 (ps_sub.of (ps_step.ok ht_305 (Or.inr (Or.inr ⟨hw_366, by decide, rfl⟩))) hq_396) (ps_subs.er (k := 0) hn_397)))), rfl⟩)⟩ dX3_readSubscriptions_71 (jj_le rfl) (jj_le rfl)
                  · refine jj_if_neT (tgt := 72) C dX3_readSubscriptions_67 (by decide) (by decide) ?_
                    refine jj_iinc (v := 3) C dX3_readSubscriptions_72 rfl (by decide) (by decide) rfl ?_
                    refine jj_goto (tgt := 2) C dX3_readSubscriptions_75 (by decide) ?_
                    refine jj_iload_n C dX3_readSubscriptions_2 rfl ?_
                    refine jj_bipush (v := 12) C dX3_readSubscriptions_3 (by decide) ?_
                    refine jj_icmp_gtF (tgt := 78) C dX3_readSubscriptions_5 (by decide) (by decide) ?_
                    refine jj_aload_n C dX3_readSubscriptions_8 rfl ?_
                    refine tt_getF C hok_387 jk_4 0 (by decide) jw_70cd29f103 (t := (2, 10, 0)) hk0 (by decide) rfl rfl hs0 dX3_readSubscriptions_9 ?_
                    obtain ⟨qc, gs, hqc⟩ := tt_recv (cx := []) hok_387 hkt (by decide) rfl
                    refine tt_callV (rest := []) C (te_advance hl D cA ak tk a9 n2 n_398 u c hkt hk9 (by omega) (by omega) hc hok_387 hx0 hx2 hf_399 hu) [] [] rfl rfl (by decide) (by decide) (by decide) qc hqc rfl rfl jw_97c023d194 jw_37f6ee43e0 jw_46baf1fc7b jw_a9e7b602dc jw_0d4db63612 jn_X9_advance rfl (jj_le rfl) (jj_le rfl) (jj_le rfl) (jj_le rfl) (jj_le rfl) dX3_readSubscriptions_12 rfl (fun _ _ _ hX => hX.elim) (fun rx pl_403 r O_407 => ?_)
                    obtain ⟨rfl, hok_404, hr_405, ha_406, hR_408⟩ := O_407
                    replace hs0 := hr_405.at hk0 (by decide) (by decide) hs0
                    replace hx0 := hr_405.at hkt (by decide) (by decide) hx0
                    replace hx2 := hr_405.at hkt (by decide) (by decide) hx2
                    replace hs1 := hr_405.at hk0 (by decide) (by decide) hs1
                    replace hsi := hr_405.at hkb (by decide) (by decide) hsi
                    replace hf_402 := hr_405.at hkb (by decide) (by decide) hf_402
                    replace hu := ha_406.at hk9 (by decide) (by decide) hu
                    replace hfr := hfr.trans (hr_405.sub (by decide))
                    replace hfa := hfa.trans (ha_406.sub (by decide))
                    rcases hR_408 with ⟨n_409, n_410, hf_411, hf_412, hf_413, ht_414, hkd_415, rfl⟩ | ⟨n_416, n_417, hf_418, hf_419, hf_420, ht_421, hkd_422, rfl⟩ | ⟨n_423, n_424, hf_425, hf_426, hf_427, ht_428, hkd_429, ⟨x_430, hf_431, hq_432, hq_433⟩, rfl⟩ | ⟨n_434, n_435, hf_436, hf_437, hf_438, ht_439, hkd_440, rfl⟩ | ⟨n_441, n_442, hf_443, hf_444, hf_445, ht_446, hkd_447, rfl⟩
                    · have hzn_409 := ht_414.le (by omega)
                      refine jj_aload_n C dX3_readSubscriptions_15 rfl ?_
                      refine tt_getF C hok_404 jk_4 0 (by decide) jw_70cd29f103 (t := (2, 10, 0)) hk0 (by decide) rfl rfl hs0 dX3_readSubscriptions_16 ?_
                      refine tt_getF C hok_404 jk_10 5 (by decide) jw_601d0e39ae (t := (0, (-2147483648), 2147483647)) hkt (by decide) rfl rfl hf_413 dX3_readSubscriptions_19 ?_
                      refine jj_if_neT (tgt := 27) C dX3_readSubscriptions_22 (by decide) (by decide) ?_
                      refine jj_aload_n C dX3_readSubscriptions_27 rfl ?_
                      refine jj_aload_n C dX3_readSubscriptions_28 rfl ?_
                      refine tt_getF C hok_404 jk_4 0 (by decide) jw_70cd29f103 (t := (2, 10, 0)) hk0 (by decide) rfl rfl hs0 dX3_readSubscriptions_29 ?_
                      refine jj_ldcs (k := 4) (tx := "subscribe") C dX3_readSubscriptions_32 (by decide +kernel) ?_
                      obtain ⟨qc, gs, hqc⟩ := tt_recv (cx := []) hok_404 hkt (by decide) rfl
                      refine tt_callV (rest := [.ref h0]) C (te_isWord_subscribe hl D cA ak tk a9 n2 n_410 n_409 (4 : Int32) u c hkt hk9 (by omega) (by omega) (by omega) hc ⟨fun q => absurd q (by decide), fun q => absurd q.2 hkd_415.2.1⟩ hok_404 hx0 hf_412 hf_411 hf_413 hu) [] [] rfl rfl (by decide) (by decide) (by decide) qc hqc rfl rfl jw_b0fe72c6f4 jw_5e9522a00c jw_73cf9edcb7 jw_a9e7b602dc jw_ce1c1f12e9 jn_X9_isWord rfl (jj_le rfl) (jj_le rfl) (jj_le rfl) (jj_le rfl) (jj_le rfl) dX3_readSubscriptions_34 rfl (fun _ _ _ hX => hX.elim) (fun rx pl_448 r O_452 => ?_)
                      obtain ⟨rfl, hok_449, hr_450, ha_451, hR_453⟩ := O_452
                      replace hs0 := hr_450.at hk0 (by decide) (by decide) hs0
                      replace hx0 := hr_450.at hkt (by decide) (by decide) hx0
                      replace hx2 := hr_450.at hkt (by decide) (by decide) hx2
                      replace hs1 := hr_450.at hk0 (by decide) (by decide) hs1
                      replace hsi := hr_450.at hkb (by decide) (by decide) hsi
                      replace hf_402 := hr_450.at hkb (by decide) (by decide) hf_402
                      replace hf_411 := hr_450.at hkt (by decide) (by decide) hf_411
                      replace hf_412 := hr_450.at hkt (by decide) (by decide) hf_412
                      replace hf_413 := hr_450.at hkt (by decide) (by decide) hf_413
                      replace hu := ha_451.at hk9 (by decide) (by decide) hu
                      replace hfr := hfr.trans (hr_450.sub (by decide))
                      replace hfa := hfa.trans (ha_451.sub (by decide))
                      rcases hR_453 with ⟨hw_454, rfl⟩ | ⟨hw_455, rfl⟩
                      · refine jj_iconst (v := 1) C dX3_readSubscriptions_37 (by decide) ?_
                        obtain ⟨qc, gs, hqc⟩ := tt_recv (cx := []) hok_449 hk0 (by decide) rfl
                        refine tt_callV (rest := []) C (te_accept_01 hl D cA ak h0 hk0 hok_449) [] [] rfl rfl (by decide) (by decide) (by decide) qc hqc rfl rfl jw_713f4d2af1 jw_b3e457240a jw_58c48ce796 jw_9d546d0b6f jw_0001e2e84f jn_X3_accept rfl (jj_le rfl) (jj_le rfl) (jj_le rfl) (jj_le rfl) (jj_le rfl) dX3_readSubscriptions_38 rfl (fun _ _ _ hX => hX.elim) (fun rx pl_456 r O_460 => ?_)
                        obtain ⟨rfl, hok_457, hr_458, ha_459, hR_461⟩ := O_460
                        replace hs0 := hr_458.at hk0 (by decide) (by decide) hs0
                        replace hx0 := hr_458.at hkt (by decide) (by decide) hx0
                        replace hx2 := hr_458.at hkt (by decide) (by decide) hx2
                        replace hs1 := hr_458.at hk0 (by decide) (by decide) hs1
                        replace hsi := hr_458.at hkb (by decide) (by decide) hsi
                        replace hf_402 := hr_458.at hkb (by decide) (by decide) hf_402
                        replace hf_411 := hr_458.at hkt (by decide) (by decide) hf_411
                        replace hf_412 := hr_458.at hkt (by decide) (by decide) hf_412
                        replace hf_413 := hr_458.at hkt (by decide) (by decide) hf_413
                        replace hu := ha_459.at hk9 (by decide) (by decide) hu
                        replace hfr := hfr.trans (hr_458.sub (by decide))
                        replace hfa := hfa.trans (ha_459.sub (by decide))
                        obtain ⟨hf_462, rfl⟩ := hR_461
                        refine jj_if_eqT (tgt := 70) C dX3_readSubscriptions_41 (by decide) (by decide) ?_
                        refine jj_iconst (v := 0) C dX3_readSubscriptions_70 (by decide) ?_
                        exact jj_zret C rfl ⟨[], pl_456, rfl, rfl, hok_457, hfr, hfa, (Or.inl ⟨1, n_409, _, (by decide), hf_411, hf_462, (ps_subs.nx ht_37 hkd_38.1 (ps_sub.of (ps_step.ok ht_37 (Or.inr (Or.inr ⟨hw_98, by decide, rfl⟩))) hq_132) (ps_subs.nx ht_171 hkd_172.1 (ps_sub.of (ps_step.ok ht_171 (Or.inr (Or.inr ⟨hw_232, by decide, rfl⟩))) hq_266) (ps_subs.nx ht_305 hkd_306.1 (ps_sub.of (ps_step.ok ht_305 (Or.inr (Or.inr ⟨hw_366, by decide, rfl⟩))) hq_400) (ps_subs.nx ht_414 hkd_415.1 ⟨(1, n_409, 0), (1, n_409, 0), (1, n_409, 0), (ps_step.no ht_414 (Or.inl ⟨hw_454, rfl⟩) (by decide)), (ps_step.st (show (1 : Nat) ≠ 0 by decide)), (ps_step.st (show (1 : Nat) ≠ 0 by decide)), (ps_step.st (show (1 : Nat) ≠ 0 by decide))⟩ (ps_subs.er (k := 0) (by decide)))))), rfl⟩)⟩ dX3_readSubscriptions_71 (jj_le rfl) (jj_le rfl)
                      · exact absurd (hw_455.one (n := n2) (by decide) (by unfold ps_le; decide) (by omega)).2 hkd_415.2.1
                    · have hzn_416 := ht_421.le (by omega)
                      refine jj_aload_n C dX3_readSubscriptions_15 rfl ?_
                      refine tt_getF C hok_404 jk_4 0 (by decide) jw_70cd29f103 (t := (2, 10, 0)) hk0 (by decide) rfl rfl hs0 dX3_readSubscriptions_16 ?_
                      refine tt_getF C hok_404 jk_10 5 (by decide) jw_601d0e39ae (t := (0, (-2147483648), 2147483647)) hkt (by decide) rfl rfl hf_420 dX3_readSubscriptions_19 ?_
                      refine jj_if_neT (tgt := 27) C dX3_readSubscriptions_22 (by decide) (by decide) ?_
                      refine jj_aload_n C dX3_readSubscriptions_27 rfl ?_
                      refine jj_aload_n C dX3_readSubscriptions_28 rfl ?_
                      refine tt_getF C hok_404 jk_4 0 (by decide) jw_70cd29f103 (t := (2, 10, 0)) hk0 (by decide) rfl rfl hs0 dX3_readSubscriptions_29 ?_
                      refine jj_ldcs (k := 4) (tx := "subscribe") C dX3_readSubscriptions_32 (by decide +kernel) ?_
                      obtain ⟨qc, gs, hqc⟩ := tt_recv (cx := []) hok_404 hkt (by decide) rfl
                      refine tt_callV (rest := [.ref h0]) C (te_isWord_subscribe hl D cA ak tk a9 n2 n_417 n_416 (3 : Int32) u c hkt hk9 (by omega) (by omega) (by omega) hc ⟨fun q => absurd q (by decide), fun q => absurd q.2 hkd_422.2.1⟩ hok_404 hx0 hf_419 hf_418 hf_420 hu) [] [] rfl rfl (by decide) (by decide) (by decide) qc hqc rfl rfl jw_b0fe72c6f4 jw_5e9522a00c jw_73cf9edcb7 jw_a9e7b602dc jw_ce1c1f12e9 jn_X9_isWord rfl (jj_le rfl) (jj_le rfl) (jj_le rfl) (jj_le rfl) (jj_le rfl) dX3_readSubscriptions_34 rfl (fun _ _ _ hX => hX.elim) (fun rx pl_463 r O_467 => ?_)
                      obtain ⟨rfl, hok_464, hr_465, ha_466, hR_468⟩ := O_467
                      replace hs0 := hr_465.at hk0 (by decide) (by decide) hs0
                      replace hx0 := hr_465.at hkt (by decide) (by decide) hx0
                      replace hx2 := hr_465.at hkt (by decide) (by decide) hx2
                      replace hs1 := hr_465.at hk0 (by decide) (by decide) hs1
                      replace hsi := hr_465.at hkb (by decide) (by decide) hsi
                      replace hf_402 := hr_465.at hkb (by decide) (by decide) hf_402
                      replace hf_418 := hr_465.at hkt (by decide) (by decide) hf_418
                      replace hf_419 := hr_465.at hkt (by decide) (by decide) hf_419
                      replace hf_420 := hr_465.at hkt (by decide) (by decide) hf_420
                      replace hu := ha_466.at hk9 (by decide) (by decide) hu
                      replace hfr := hfr.trans (hr_465.sub (by decide))
                      replace hfa := hfa.trans (ha_466.sub (by decide))
                      rcases hR_468 with ⟨hw_469, rfl⟩ | ⟨hw_470, rfl⟩
                      · refine jj_iconst (v := 1) C dX3_readSubscriptions_37 (by decide) ?_
                        obtain ⟨qc, gs, hqc⟩ := tt_recv (cx := []) hok_464 hk0 (by decide) rfl
                        refine tt_callV (rest := []) C (te_accept_01 hl D cA ak h0 hk0 hok_464) [] [] rfl rfl (by decide) (by decide) (by decide) qc hqc rfl rfl jw_713f4d2af1 jw_b3e457240a jw_58c48ce796 jw_9d546d0b6f jw_0001e2e84f jn_X3_accept rfl (jj_le rfl) (jj_le rfl) (jj_le rfl) (jj_le rfl) (jj_le rfl) dX3_readSubscriptions_38 rfl (fun _ _ _ hX => hX.elim) (fun rx pl_471 r O_475 => ?_)
                        obtain ⟨rfl, hok_472, hr_473, ha_474, hR_476⟩ := O_475
                        replace hs0 := hr_473.at hk0 (by decide) (by decide) hs0
                        replace hx0 := hr_473.at hkt (by decide) (by decide) hx0
                        replace hx2 := hr_473.at hkt (by decide) (by decide) hx2
                        replace hs1 := hr_473.at hk0 (by decide) (by decide) hs1
                        replace hsi := hr_473.at hkb (by decide) (by decide) hsi
                        replace hf_402 := hr_473.at hkb (by decide) (by decide) hf_402
                        replace hf_418 := hr_473.at hkt (by decide) (by decide) hf_418
                        replace hf_419 := hr_473.at hkt (by decide) (by decide) hf_419
                        replace hf_420 := hr_473.at hkt (by decide) (by decide) hf_420
                        replace hu := ha_474.at hk9 (by decide) (by decide) hu
                        replace hfr := hfr.trans (hr_473.sub (by decide))
                        replace hfa := hfa.trans (ha_474.sub (by decide))
                        obtain ⟨hf_477, rfl⟩ := hR_476
                        refine jj_if_eqT (tgt := 70) C dX3_readSubscriptions_41 (by decide) (by decide) ?_
                        refine jj_iconst (v := 0) C dX3_readSubscriptions_70 (by decide) ?_
                        exact jj_zret C rfl ⟨[], pl_471, rfl, rfl, hok_472, hfr, hfa, (Or.inl ⟨1, n_416, _, (by decide), hf_418, hf_477, (ps_subs.nx ht_37 hkd_38.1 (ps_sub.of (ps_step.ok ht_37 (Or.inr (Or.inr ⟨hw_98, by decide, rfl⟩))) hq_132) (ps_subs.nx ht_171 hkd_172.1 (ps_sub.of (ps_step.ok ht_171 (Or.inr (Or.inr ⟨hw_232, by decide, rfl⟩))) hq_266) (ps_subs.nx ht_305 hkd_306.1 (ps_sub.of (ps_step.ok ht_305 (Or.inr (Or.inr ⟨hw_366, by decide, rfl⟩))) hq_400) (ps_subs.nx ht_421 hkd_422.1 ⟨(1, n_416, 0), (1, n_416, 0), (1, n_416, 0), (ps_step.no ht_421 (Or.inl ⟨hw_469, rfl⟩) (by decide)), (ps_step.st (show (1 : Nat) ≠ 0 by decide)), (ps_step.st (show (1 : Nat) ≠ 0 by decide)), (ps_step.st (show (1 : Nat) ≠ 0 by decide))⟩ (ps_subs.er (k := 0) (by decide)))))), rfl⟩)⟩ dX3_readSubscriptions_71 (jj_le rfl) (jj_le rfl)
                      · exact absurd (hw_470.one (n := n2) (by decide) (by unfold ps_le; decide) (by omega)).2 hkd_422.2.1
                    · have hzn_423 := ht_428.le (by omega)
                      have lx_430 := tt_lo x_430
                      have ux_430 := tt_hi x_430
                      refine jj_aload_n C dX3_readSubscriptions_15 rfl ?_
                      refine tt_getF C hok_404 jk_4 0 (by decide) jw_70cd29f103 (t := (2, 10, 0)) hk0 (by decide) rfl rfl hs0 dX3_readSubscriptions_16 ?_
                      refine tt_getF C hok_404 jk_10 5 (by decide) jw_601d0e39ae (t := (0, (-2147483648), 2147483647)) hkt (by decide) rfl rfl hf_427 dX3_readSubscriptions_19 ?_
                      refine jj_if_neT (tgt := 27) C dX3_readSubscriptions_22 (by decide) (by decide) ?_
                      refine jj_aload_n C dX3_readSubscriptions_27 rfl ?_
                      refine jj_aload_n C dX3_readSubscriptions_28 rfl ?_
                      refine tt_getF C hok_404 jk_4 0 (by decide) jw_70cd29f103 (t := (2, 10, 0)) hk0 (by decide) rfl rfl hs0 dX3_readSubscriptions_29 ?_
                      refine jj_ldcs (k := 4) (tx := "subscribe") C dX3_readSubscriptions_32 (by decide +kernel) ?_
                      obtain ⟨qc, gs, hqc⟩ := tt_recv (cx := []) hok_404 hkt (by decide) rfl
                      refine tt_callV (rest := [.ref h0]) C (te_isWord_subscribe hl D cA ak tk a9 n2 n_424 n_423 (2 : Int32) u c hkt hk9 (by omega) (by omega) (by omega) hc ⟨fun q => absurd q (by decide), fun q => absurd q.2 hkd_429.2.1⟩ hok_404 hx0 hf_426 hf_425 hf_427 hu) [] [] rfl rfl (by decide) (by decide) (by decide) qc hqc rfl rfl jw_b0fe72c6f4 jw_5e9522a00c jw_73cf9edcb7 jw_a9e7b602dc jw_ce1c1f12e9 jn_X9_isWord rfl (jj_le rfl) (jj_le rfl) (jj_le rfl) (jj_le rfl) (jj_le rfl) dX3_readSubscriptions_34 rfl (fun _ _ _ hX => hX.elim) (fun rx pl_478 r O_482 => ?_)
                      obtain ⟨rfl, hok_479, hr_480, ha_481, hR_483⟩ := O_482
                      replace hs0 := hr_480.at hk0 (by decide) (by decide) hs0
                      replace hx0 := hr_480.at hkt (by decide) (by decide) hx0
                      replace hx2 := hr_480.at hkt (by decide) (by decide) hx2
                      replace hs1 := hr_480.at hk0 (by decide) (by decide) hs1
                      replace hsi := hr_480.at hkb (by decide) (by decide) hsi
                      replace hf_402 := hr_480.at hkb (by decide) (by decide) hf_402
                      replace hf_425 := hr_480.at hkt (by decide) (by decide) hf_425
                      replace hf_426 := hr_480.at hkt (by decide) (by decide) hf_426
                      replace hf_427 := hr_480.at hkt (by decide) (by decide) hf_427
                      replace hf_431 := hr_480.at hkt (by decide) (by decide) hf_431
                      replace hu := ha_481.at hk9 (by decide) (by decide) hu
                      replace hfr := hfr.trans (hr_480.sub (by decide))
                      replace hfa := hfa.trans (ha_481.sub (by decide))
                      rcases hR_483 with ⟨hw_484, rfl⟩ | ⟨hw_485, rfl⟩
                      · refine jj_iconst (v := 1) C dX3_readSubscriptions_37 (by decide) ?_
                        obtain ⟨qc, gs, hqc⟩ := tt_recv (cx := []) hok_479 hk0 (by decide) rfl
                        refine tt_callV (rest := []) C (te_accept_01 hl D cA ak h0 hk0 hok_479) [] [] rfl rfl (by decide) (by decide) (by decide) qc hqc rfl rfl jw_713f4d2af1 jw_b3e457240a jw_58c48ce796 jw_9d546d0b6f jw_0001e2e84f jn_X3_accept rfl (jj_le rfl) (jj_le rfl) (jj_le rfl) (jj_le rfl) (jj_le rfl) dX3_readSubscriptions_38 rfl (fun _ _ _ hX => hX.elim) (fun rx pl_486 r O_490 => ?_)
                        obtain ⟨rfl, hok_487, hr_488, ha_489, hR_491⟩ := O_490
                        replace hs0 := hr_488.at hk0 (by decide) (by decide) hs0
                        replace hx0 := hr_488.at hkt (by decide) (by decide) hx0
                        replace hx2 := hr_488.at hkt (by decide) (by decide) hx2
                        replace hs1 := hr_488.at hk0 (by decide) (by decide) hs1
                        replace hsi := hr_488.at hkb (by decide) (by decide) hsi
                        replace hf_402 := hr_488.at hkb (by decide) (by decide) hf_402
                        replace hf_425 := hr_488.at hkt (by decide) (by decide) hf_425
                        replace hf_426 := hr_488.at hkt (by decide) (by decide) hf_426
                        replace hf_427 := hr_488.at hkt (by decide) (by decide) hf_427
                        replace hf_431 := hr_488.at hkt (by decide) (by decide) hf_431
                        replace hu := ha_489.at hk9 (by decide) (by decide) hu
                        replace hfr := hfr.trans (hr_488.sub (by decide))
                        replace hfa := hfa.trans (ha_489.sub (by decide))
                        obtain ⟨hf_492, rfl⟩ := hR_491
                        refine jj_if_eqT (tgt := 70) C dX3_readSubscriptions_41 (by decide) (by decide) ?_
                        refine jj_iconst (v := 0) C dX3_readSubscriptions_70 (by decide) ?_
                        exact jj_zret C rfl ⟨[], pl_486, rfl, rfl, hok_487, hfr, hfa, (Or.inl ⟨1, n_423, _, (by decide), hf_425, hf_492, (ps_subs.nx ht_37 hkd_38.1 (ps_sub.of (ps_step.ok ht_37 (Or.inr (Or.inr ⟨hw_98, by decide, rfl⟩))) hq_132) (ps_subs.nx ht_171 hkd_172.1 (ps_sub.of (ps_step.ok ht_171 (Or.inr (Or.inr ⟨hw_232, by decide, rfl⟩))) hq_266) (ps_subs.nx ht_305 hkd_306.1 (ps_sub.of (ps_step.ok ht_305 (Or.inr (Or.inr ⟨hw_366, by decide, rfl⟩))) hq_400) (ps_subs.nx ht_428 hkd_429.1 ⟨(1, n_423, 0), (1, n_423, 0), (1, n_423, 0), (ps_step.no ht_428 (Or.inl ⟨hw_484, rfl⟩) (by decide)), (ps_step.st (show (1 : Nat) ≠ 0 by decide)), (ps_step.st (show (1 : Nat) ≠ 0 by decide)), (ps_step.st (show (1 : Nat) ≠ 0 by decide))⟩ (ps_subs.er (k := 0) (by decide)))))), rfl⟩)⟩ dX3_readSubscriptions_71 (jj_le rfl) (jj_le rfl)
                      · exact absurd (hw_485.one (n := n2) (by decide) (by unfold ps_le; decide) (by omega)).2 hkd_429.2.1
                    · have hzn_434 := ht_439.le (by omega)
                      refine jj_aload_n C dX3_readSubscriptions_15 rfl ?_
                      refine tt_getF C hok_404 jk_4 0 (by decide) jw_70cd29f103 (t := (2, 10, 0)) hk0 (by decide) rfl rfl hs0 dX3_readSubscriptions_16 ?_
                      refine tt_getF C hok_404 jk_10 5 (by decide) jw_601d0e39ae (t := (0, (-2147483648), 2147483647)) hkt (by decide) rfl rfl hf_438 dX3_readSubscriptions_19 ?_
                      refine jj_if_neT (tgt := 27) C dX3_readSubscriptions_22 (by decide) (by decide) ?_
                      refine jj_aload_n C dX3_readSubscriptions_27 rfl ?_
                      refine jj_aload_n C dX3_readSubscriptions_28 rfl ?_
                      refine tt_getF C hok_404 jk_4 0 (by decide) jw_70cd29f103 (t := (2, 10, 0)) hk0 (by decide) rfl rfl hs0 dX3_readSubscriptions_29 ?_
                      refine jj_ldcs (k := 4) (tx := "subscribe") C dX3_readSubscriptions_32 (by decide +kernel) ?_
                      obtain ⟨qc, gs, hqc⟩ := tt_recv (cx := []) hok_404 hkt (by decide) rfl
                      refine tt_callV (rest := [.ref h0]) C (te_isWord_subscribe hl D cA ak tk a9 n2 n_435 n_434 (1 : Int32) u c hkt hk9 (by omega) (by omega) (by omega) hc ⟨fun _ => hkd_440, fun _ => rfl⟩ hok_404 hx0 hf_437 hf_436 hf_438 hu) [] [] rfl rfl (by decide) (by decide) (by decide) qc hqc rfl rfl jw_b0fe72c6f4 jw_5e9522a00c jw_73cf9edcb7 jw_a9e7b602dc jw_ce1c1f12e9 jn_X9_isWord rfl (jj_le rfl) (jj_le rfl) (jj_le rfl) (jj_le rfl) (jj_le rfl) dX3_readSubscriptions_34 rfl (fun _ _ _ hX => hX.elim) (fun rx pl_493 r O_497 => ?_)
                      obtain ⟨rfl, hok_494, hr_495, ha_496, hR_498⟩ := O_497
                      replace hs0 := hr_495.at hk0 (by decide) (by decide) hs0
                      replace hx0 := hr_495.at hkt (by decide) (by decide) hx0
                      replace hx2 := hr_495.at hkt (by decide) (by decide) hx2
                      replace hs1 := hr_495.at hk0 (by decide) (by decide) hs1
                      replace hsi := hr_495.at hkb (by decide) (by decide) hsi
                      replace hf_402 := hr_495.at hkb (by decide) (by decide) hf_402
                      replace hf_436 := hr_495.at hkt (by decide) (by decide) hf_436
                      replace hf_437 := hr_495.at hkt (by decide) (by decide) hf_437
                      replace hf_438 := hr_495.at hkt (by decide) (by decide) hf_438
                      replace hu := ha_496.at hk9 (by decide) (by decide) hu
                      replace hfr := hfr.trans (hr_495.sub (by decide))
                      replace hfa := hfa.trans (ha_496.sub (by decide))
                      rcases hR_498 with ⟨hw_499, rfl⟩ | ⟨hw_500, rfl⟩
                      · refine jj_iconst (v := 1) C dX3_readSubscriptions_37 (by decide) ?_
                        obtain ⟨qc, gs, hqc⟩ := tt_recv (cx := []) hok_494 hk0 (by decide) rfl
                        refine tt_callV (rest := []) C (te_accept_01 hl D cA ak h0 hk0 hok_494) [] [] rfl rfl (by decide) (by decide) (by decide) qc hqc rfl rfl jw_713f4d2af1 jw_b3e457240a jw_58c48ce796 jw_9d546d0b6f jw_0001e2e84f jn_X3_accept rfl (jj_le rfl) (jj_le rfl) (jj_le rfl) (jj_le rfl) (jj_le rfl) dX3_readSubscriptions_38 rfl (fun _ _ _ hX => hX.elim) (fun rx pl_501 r O_505 => ?_)
                        obtain ⟨rfl, hok_502, hr_503, ha_504, hR_506⟩ := O_505
                        replace hs0 := hr_503.at hk0 (by decide) (by decide) hs0
                        replace hx0 := hr_503.at hkt (by decide) (by decide) hx0
                        replace hx2 := hr_503.at hkt (by decide) (by decide) hx2
                        replace hs1 := hr_503.at hk0 (by decide) (by decide) hs1
                        replace hsi := hr_503.at hkb (by decide) (by decide) hsi
                        replace hf_402 := hr_503.at hkb (by decide) (by decide) hf_402
                        replace hf_436 := hr_503.at hkt (by decide) (by decide) hf_436
                        replace hf_437 := hr_503.at hkt (by decide) (by decide) hf_437
                        replace hf_438 := hr_503.at hkt (by decide) (by decide) hf_438
                        replace hu := ha_504.at hk9 (by decide) (by decide) hu
                        replace hfr := hfr.trans (hr_503.sub (by decide))
                        replace hfa := hfa.trans (ha_504.sub (by decide))
                        obtain ⟨hf_507, rfl⟩ := hR_506
                        refine jj_if_eqT (tgt := 70) C dX3_readSubscriptions_41 (by decide) (by decide) ?_
                        refine jj_iconst (v := 0) C dX3_readSubscriptions_70 (by decide) ?_
                        exact jj_zret C rfl ⟨[], pl_501, rfl, rfl, hok_502, hfr, hfa, (Or.inl ⟨1, n_434, _, (by decide), hf_436, hf_507, (ps_subs.nx ht_37 hkd_38.1 (ps_sub.of (ps_step.ok ht_37 (Or.inr (Or.inr ⟨hw_98, by decide, rfl⟩))) hq_132) (ps_subs.nx ht_171 hkd_172.1 (ps_sub.of (ps_step.ok ht_171 (Or.inr (Or.inr ⟨hw_232, by decide, rfl⟩))) hq_266) (ps_subs.nx ht_305 hkd_306.1 (ps_sub.of (ps_step.ok ht_305 (Or.inr (Or.inr ⟨hw_366, by decide, rfl⟩))) hq_400) (ps_subs.nx ht_439 hkd_440.1 ⟨(1, n_434, 0), (1, n_434, 0), (1, n_434, 0), (ps_step.no ht_439 (Or.inl ⟨hw_499, rfl⟩) (by decide)), (ps_step.st (show (1 : Nat) ≠ 0 by decide)), (ps_step.st (show (1 : Nat) ≠ 0 by decide)), (ps_step.st (show (1 : Nat) ≠ 0 by decide))⟩ (ps_subs.er (k := 0) (by decide)))))), rfl⟩)⟩ dX3_readSubscriptions_71 (jj_le rfl) (jj_le rfl)
                      · refine jj_iconst (v := 1) C dX3_readSubscriptions_37 (by decide) ?_
                        obtain ⟨qc, gs, hqc⟩ := tt_recv (cx := []) hok_494 hk0 (by decide) rfl
                        refine tt_callV (rest := []) C (te_accept_11 hl D cA ak h0 hk0 hok_494) [] [] rfl rfl (by decide) (by decide) (by decide) qc hqc rfl rfl jw_713f4d2af1 jw_b3e457240a jw_58c48ce796 jw_9d546d0b6f jw_0001e2e84f jn_X3_accept rfl (jj_le rfl) (jj_le rfl) (jj_le rfl) (jj_le rfl) (jj_le rfl) dX3_readSubscriptions_38 rfl (fun _ _ _ hX => hX.elim) (fun rx pl_508 r O_512 => ?_)
                        obtain ⟨rfl, hok_509, hr_510, ha_511, hR_513⟩ := O_512
                        replace hs0 := hr_510.at hk0 (by decide) (by decide) hs0
                        replace hx0 := hr_510.at hkt (by decide) (by decide) hx0
                        replace hx2 := hr_510.at hkt (by decide) (by decide) hx2
                        replace hs1 := hr_510.at hk0 (by decide) (by decide) hs1
                        replace hsi := hr_510.at hkb (by decide) (by decide) hsi
                        replace hf_402 := hr_510.at hkb (by decide) (by decide) hf_402
                        replace hf_436 := hr_510.at hkt (by decide) (by decide) hf_436
                        replace hf_437 := hr_510.at hkt (by decide) (by decide) hf_437
                        replace hf_438 := hr_510.at hkt (by decide) (by decide) hf_438
                        replace hu := ha_511.at hk9 (by decide) (by decide) hu
                        replace hfr := hfr.trans (hr_510.sub (by decide))
                        replace hfa := hfa.trans (ha_511.sub (by decide))
                        obtain rfl := hR_513
                        refine jj_if_eqF (tgt := 70) C dX3_readSubscriptions_41 (by decide) (by decide) ?_
                        refine jj_aload_n C dX3_readSubscriptions_44 rfl ?_
                        refine jj_iload_n C dX3_readSubscriptions_45 rfl ?_
                        refine jj_bipush (v := 12) C dX3_readSubscriptions_46 (by decide) ?_
                        refine jj_icmp_geF (tgt := 55) C dX3_readSubscriptions_48 (by decide) (by decide) ?_
                        refine jj_iconst (v := 1) C dX3_readSubscriptions_51 (by decide) ?_
                        refine jj_goto (tgt := 56) C dX3_readSubscriptions_52 (by decide) ?_
                        refine jj_iconst (v := 3) C dX3_readSubscriptions_56 (by decide) ?_
                        obtain ⟨qc, gs, hqc⟩ := tt_recv (cx := []) hok_509 hk0 (by decide) rfl
                        refine tt_callV (rest := []) C (te_accept_13 hl D cA ak h0 hk0 hok_509) [] [] rfl rfl (by decide) (by decide) (by decide) qc hqc rfl rfl jw_713f4d2af1 jw_b3e457240a jw_58c48ce796 jw_9d546d0b6f jw_0001e2e84f jn_X3_accept rfl (jj_le rfl) (jj_le rfl) (jj_le rfl) (jj_le rfl) (jj_le rfl) dX3_readSubscriptions_57 rfl (fun _ _ _ hX => hX.elim) (fun rx pl_514 r O_518 => ?_)
                        obtain ⟨rfl, hok_515, hr_516, ha_517, hR_519⟩ := O_518
                        replace hs0 := hr_516.at hk0 (by decide) (by decide) hs0
                        replace hx0 := hr_516.at hkt (by decide) (by decide) hx0
                        replace hx2 := hr_516.at hkt (by decide) (by decide) hx2
                        replace hs1 := hr_516.at hk0 (by decide) (by decide) hs1
                        replace hsi := hr_516.at hkb (by decide) (by decide) hsi
                        replace hf_402 := hr_516.at hkb (by decide) (by decide) hf_402
                        replace hf_436 := hr_516.at hkt (by decide) (by decide) hf_436
                        replace hf_437 := hr_516.at hkt (by decide) (by decide) hf_437
                        replace hf_438 := hr_516.at hkt (by decide) (by decide) hf_438
                        replace hu := ha_517.at hk9 (by decide) (by decide) hu
                        replace hfr := hfr.trans (hr_516.sub (by decide))
                        replace hfa := hfa.trans (ha_517.sub (by decide))
                        obtain rfl := hR_519
                        refine jj_if_eqF (tgt := 70) C dX3_readSubscriptions_60 (by decide) (by decide) ?_
                        refine jj_aload_n C dX3_readSubscriptions_63 rfl ?_
                        obtain ⟨qc, gs, hqc⟩ := tt_recv (cx := []) hok_515 hk0 (by decide) rfl
                        refine tt_callV (rest := []) C (te_readSubscription hl D cA ak h0 tk a9 bk n2 n_435 u c iv 3 hk0 hkt hk9 hkb (by omega) (by omega) hc (by omega) (by omega) (by omega) hok_515 hs0 hx0 hx2 hf_437 hs1 hsi hf_402 hu) [] [] rfl rfl (by decide) (by decide) (by decide) qc hqc rfl rfl jw_b50e5c10ea jw_23105775d0 jw_16355fb5ab jw_9d546d0b6f jw_0cc88cc191 jn_X3_readSubscription rfl (jj_le rfl) (jj_le rfl) (jj_le rfl) (jj_le rfl) (jj_le rfl) dX3_readSubscriptions_64 rfl (fun _ _ _ hX => hX.elim) (fun rx pl_520 r O_524 => ?_)
                        obtain ⟨rfl, hok_521, hr_522, ha_523, hR_525⟩ := O_524
                        replace hs0 := hr_522.at hk0 (by decide) (by decide) hs0
                        replace hx0 := hr_522.at hkt (by decide) (by decide) hx0
                        replace hx2 := hr_522.at hkt (by decide) (by decide) hx2
                        replace hs1 := hr_522.at hk0 (by decide) (by decide) hs1
                        replace hsi := hr_522.at hkb (by decide) (by decide) hsi
                        replace hu := ha_523.at hk9 (by decide) (by decide) hu
                        replace hfr := hfr.trans (hr_522.sub (by decide))
                        replace hfa := hfa.trans (ha_523.sub (by decide))
                        rcases hR_525 with ⟨n_527, n_526, hn_531, hf_528, hf_529, hq_530, rfl⟩ | ⟨n_532, hle_535, hf_533, hf_536, hq_534, rfl⟩
                        · refine jj_if_neF (tgt := 72) C dX3_readSubscriptions_67 (by decide) (by decide) ?_
                          refine jj_iconst (v := 0) C dX3_readSubscriptions_70 (by decide) ?_
                          exact jj_zret C rfl ⟨[], pl_520, rfl, rfl, hok_521, hfr, hfa, (Or.inl ⟨n_527, n_526, _, hn_531, hf_528, hf_529, (ps_subs.nx ht_37 hkd_38.1 (ps_sub.of (ps_step.ok ht_37 (Or.inr (Or.inr ⟨hw_98, by decide, rfl⟩))) hq_132) (ps_subs.nx ht_171 hkd_172.1 (ps_sub.of (ps_step.ok ht_171 (Or.inr (Or.inr ⟨hw_232, by decide, rfl⟩))) hq_266) (ps_subs.nx ht_305 hkd_306.1 (ps_sub.of (ps_step.ok ht_305 (Or.inr (Or.inr ⟨hw_366, by decide, rfl⟩))) hq_400) (ps_subs.nx ht_439 hkd_440.1 (ps_sub.of (ps_step.ok ht_439 (Or.inr (Or.inr ⟨hw_500, by decide, rfl⟩))) hq_530) (ps_subs.er (k := 0) hn_531))))), rfl⟩)⟩ dX3_readSubscriptions_71 (jj_le rfl) (jj_le rfl)
                        · refine jj_if_neT (tgt := 72) C dX3_readSubscriptions_67 (by decide) (by decide) ?_
                          refine jj_iinc (v := 4) C dX3_readSubscriptions_72 rfl (by decide) (by decide) rfl ?_
                          refine jj_goto (tgt := 2) C dX3_readSubscriptions_75 (by decide) ?_
                          refine jj_iload_n C dX3_readSubscriptions_2 rfl ?_
                          refine jj_bipush (v := 12) C dX3_readSubscriptions_3 (by decide) ?_
                          refine jj_icmp_gtF (tgt := 78) C dX3_readSubscriptions_5 (by decide) (by decide) ?_
                          refine jj_aload_n C dX3_readSubscriptions_8 rfl ?_
                          refine tt_getF C hok_521 jk_4 0 (by decide) jw_70cd29f103 (t := (2, 10, 0)) hk0 (by decide) rfl rfl hs0 dX3_readSubscriptions_9 ?_
                          obtain ⟨qc, gs, hqc⟩ := tt_recv (cx := []) hok_521 hkt (by decide) rfl
                          refine tt_callV (rest := []) C (te_advance hl D cA ak tk a9 n2 n_532 u c hkt hk9 (by omega) (by omega) hc hok_521 hx0 hx2 hf_533 hu) [] [] rfl rfl (by decide) (by decide) (by decide) qc hqc rfl rfl jw_97c023d194 jw_37f6ee43e0 jw_46baf1fc7b jw_a9e7b602dc jw_0d4db63612 jn_X9_advance rfl (jj_le rfl) (jj_le rfl) (jj_le rfl) (jj_le rfl) (jj_le rfl) dX3_readSubscriptions_12 rfl (fun _ _ _ hX => hX.elim) (fun rx pl_537 r O_541 => ?_)
                          obtain ⟨rfl, hok_538, hr_539, ha_540, hR_542⟩ := O_541
                          replace hs0 := hr_539.at hk0 (by decide) (by decide) hs0
                          replace hx0 := hr_539.at hkt (by decide) (by decide) hx0
                          replace hx2 := hr_539.at hkt (by decide) (by decide) hx2
                          replace hs1 := hr_539.at hk0 (by decide) (by decide) hs1
                          replace hsi := hr_539.at hkb (by decide) (by decide) hsi
                          replace hf_536 := hr_539.at hkb (by decide) (by decide) hf_536
                          replace hu := ha_540.at hk9 (by decide) (by decide) hu
                          replace hfr := hfr.trans (hr_539.sub (by decide))
                          replace hfa := hfa.trans (ha_540.sub (by decide))
                          rcases hR_542 with ⟨n_543, n_544, hf_545, hf_546, hf_547, ht_548, hkd_549, rfl⟩ | ⟨n_550, n_551, hf_552, hf_553, hf_554, ht_555, hkd_556, rfl⟩ | ⟨n_557, n_558, hf_559, hf_560, hf_561, ht_562, hkd_563, ⟨x_564, hf_565, hq_566, hq_567⟩, rfl⟩ | ⟨n_568, n_569, hf_570, hf_571, hf_572, ht_573, hkd_574, rfl⟩ | ⟨n_575, n_576, hf_577, hf_578, hf_579, ht_580, hkd_581, rfl⟩
                          · have hzn_543 := ht_548.le (by omega)
                            refine jj_aload_n C dX3_readSubscriptions_15 rfl ?_
                            refine tt_getF C hok_538 jk_4 0 (by decide) jw_70cd29f103 (t := (2, 10, 0)) hk0 (by decide) rfl rfl hs0 dX3_readSubscriptions_16 ?_
                            refine tt_getF C hok_538 jk_10 5 (by decide) jw_601d0e39ae (t := (0, (-2147483648), 2147483647)) hkt (by decide) rfl rfl hf_547 dX3_readSubscriptions_19 ?_
                            refine jj_if_neT (tgt := 27) C dX3_readSubscriptions_22 (by decide) (by decide) ?_
                            refine jj_aload_n C dX3_readSubscriptions_27 rfl ?_
                            refine jj_aload_n C dX3_readSubscriptions_28 rfl ?_
                            refine tt_getF C hok_538 jk_4 0 (by decide) jw_70cd29f103 (t := (2, 10, 0)) hk0 (by decide) rfl rfl hs0 dX3_readSubscriptions_29 ?_
                            refine jj_ldcs (k := 4) (tx := "subscribe") C dX3_readSubscriptions_32 (by decide +kernel) ?_
                            obtain ⟨qc, gs, hqc⟩ := tt_recv (cx := []) hok_538 hkt (by decide) rfl
                            refine tt_callV (rest := [.ref h0]) C (te_isWord_subscribe hl D cA ak tk a9 n2 n_544 n_543 (4 : Int32) u c hkt hk9 (by omega) (by omega) (by omega) hc ⟨fun q => absurd q (by decide), fun q => absurd q.2 hkd_549.2.1⟩ hok_538 hx0 hf_546 hf_545 hf_547 hu) [] [] rfl rfl (by decide) (by decide) (by decide) qc hqc rfl rfl jw_b0fe72c6f4 jw_5e9522a00c jw_73cf9edcb7 jw_a9e7b602dc jw_ce1c1f12e9 jn_X9_isWord rfl (jj_le rfl) (jj_le rfl) (jj_le rfl) (jj_le rfl) (jj_le rfl) dX3_readSubscriptions_34 rfl (fun _ _ _ hX => hX.elim) (fun rx pl_582 r O_586 => ?_)
                            obtain ⟨rfl, hok_583, hr_584, ha_585, hR_587⟩ := O_586
                            replace hs0 := hr_584.at hk0 (by decide) (by decide) hs0
                            replace hx0 := hr_584.at hkt (by decide) (by decide) hx0
                            replace hx2 := hr_584.at hkt (by decide) (by decide) hx2
                            replace hs1 := hr_584.at hk0 (by decide) (by decide) hs1
                            replace hsi := hr_584.at hkb (by decide) (by decide) hsi
                            replace hf_536 := hr_584.at hkb (by decide) (by decide) hf_536
                            replace hf_545 := hr_584.at hkt (by decide) (by decide) hf_545
                            replace hf_546 := hr_584.at hkt (by decide) (by decide) hf_546
                            replace hf_547 := hr_584.at hkt (by decide) (by decide) hf_547
                            replace hu := ha_585.at hk9 (by decide) (by decide) hu
                            replace hfr := hfr.trans (hr_584.sub (by decide))
                            replace hfa := hfa.trans (ha_585.sub (by decide))
                            rcases hR_587 with ⟨hw_588, rfl⟩ | ⟨hw_589, rfl⟩
                            · refine jj_iconst (v := 1) C dX3_readSubscriptions_37 (by decide) ?_
                              obtain ⟨qc, gs, hqc⟩ := tt_recv (cx := []) hok_583 hk0 (by decide) rfl
                              refine tt_callV (rest := []) C (te_accept_01 hl D cA ak h0 hk0 hok_583) [] [] rfl rfl (by decide) (by decide) (by decide) qc hqc rfl rfl jw_713f4d2af1 jw_b3e457240a jw_58c48ce796 jw_9d546d0b6f jw_0001e2e84f jn_X3_accept rfl (jj_le rfl) (jj_le rfl) (jj_le rfl) (jj_le rfl) (jj_le rfl) dX3_readSubscriptions_38 rfl (fun _ _ _ hX => hX.elim) (fun rx pl_590 r O_594 => ?_)
                              obtain ⟨rfl, hok_591, hr_592, ha_593, hR_595⟩ := O_594
                              replace hs0 := hr_592.at hk0 (by decide) (by decide) hs0
                              replace hx0 := hr_592.at hkt (by decide) (by decide) hx0
                              replace hx2 := hr_592.at hkt (by decide) (by decide) hx2
                              replace hs1 := hr_592.at hk0 (by decide) (by decide) hs1
                              replace hsi := hr_592.at hkb (by decide) (by decide) hsi
                              replace hf_536 := hr_592.at hkb (by decide) (by decide) hf_536
                              replace hf_545 := hr_592.at hkt (by decide) (by decide) hf_545
                              replace hf_546 := hr_592.at hkt (by decide) (by decide) hf_546
                              replace hf_547 := hr_592.at hkt (by decide) (by decide) hf_547
                              replace hu := ha_593.at hk9 (by decide) (by decide) hu
                              replace hfr := hfr.trans (hr_592.sub (by decide))
                              replace hfa := hfa.trans (ha_593.sub (by decide))
                              obtain ⟨hf_596, rfl⟩ := hR_595
                              refine jj_if_eqT (tgt := 70) C dX3_readSubscriptions_41 (by decide) (by decide) ?_
                              refine jj_iconst (v := 0) C dX3_readSubscriptions_70 (by decide) ?_
                              exact jj_zret C rfl ⟨[], pl_590, rfl, rfl, hok_591, hfr, hfa, (Or.inl ⟨1, n_543, _, (by decide), hf_545, hf_596, (ps_subs.nx ht_37 hkd_38.1 (ps_sub.of (ps_step.ok ht_37 (Or.inr (Or.inr ⟨hw_98, by decide, rfl⟩))) hq_132) (ps_subs.nx ht_171 hkd_172.1 (ps_sub.of (ps_step.ok ht_171 (Or.inr (Or.inr ⟨hw_232, by decide, rfl⟩))) hq_266) (ps_subs.nx ht_305 hkd_306.1 (ps_sub.of (ps_step.ok ht_305 (Or.inr (Or.inr ⟨hw_366, by decide, rfl⟩))) hq_400) (ps_subs.nx ht_439 hkd_440.1 (ps_sub.of (ps_step.ok ht_439 (Or.inr (Or.inr ⟨hw_500, by decide, rfl⟩))) hq_534) (ps_subs.nx ht_548 hkd_549.1 ⟨(1, n_543, 0), (1, n_543, 0), (1, n_543, 0), (ps_step.no ht_548 (Or.inl ⟨hw_588, rfl⟩) (by decide)), (ps_step.st (show (1 : Nat) ≠ 0 by decide)), (ps_step.st (show (1 : Nat) ≠ 0 by decide)), (ps_step.st (show (1 : Nat) ≠ 0 by decide))⟩ (ps_subs.er (k := 0) (by decide))))))), rfl⟩)⟩ dX3_readSubscriptions_71 (jj_le rfl) (jj_le rfl)
                            · exact absurd (hw_589.one (n := n2) (by decide) (by unfold ps_le; decide) (by omega)).2 hkd_549.2.1
                          · have hzn_550 := ht_555.le (by omega)
                            refine jj_aload_n C dX3_readSubscriptions_15 rfl ?_
                            refine tt_getF C hok_538 jk_4 0 (by decide) jw_70cd29f103 (t := (2, 10, 0)) hk0 (by decide) rfl rfl hs0 dX3_readSubscriptions_16 ?_
                            refine tt_getF C hok_538 jk_10 5 (by decide) jw_601d0e39ae (t := (0, (-2147483648), 2147483647)) hkt (by decide) rfl rfl hf_554 dX3_readSubscriptions_19 ?_
                            refine jj_if_neT (tgt := 27) C dX3_readSubscriptions_22 (by decide) (by decide) ?_
                            refine jj_aload_n C dX3_readSubscriptions_27 rfl ?_
                            refine jj_aload_n C dX3_readSubscriptions_28 rfl ?_
                            refine tt_getF C hok_538 jk_4 0 (by decide) jw_70cd29f103 (t := (2, 10, 0)) hk0 (by decide) rfl rfl hs0 dX3_readSubscriptions_29 ?_
                            refine jj_ldcs (k := 4) (tx := "subscribe") C dX3_readSubscriptions_32 (by decide +kernel) ?_
                            obtain ⟨qc, gs, hqc⟩ := tt_recv (cx := []) hok_538 hkt (by decide) rfl
                            refine tt_callV (rest := [.ref h0]) C (te_isWord_subscribe hl D cA ak tk a9 n2 n_551 n_550 (3 : Int32) u c hkt hk9 (by omega) (by omega) (by omega) hc ⟨fun q => absurd q (by decide), fun q => absurd q.2 hkd_556.2.1⟩ hok_538 hx0 hf_553 hf_552 hf_554 hu) [] [] rfl rfl (by decide) (by decide) (by decide) qc hqc rfl rfl jw_b0fe72c6f4 jw_5e9522a00c jw_73cf9edcb7 jw_a9e7b602dc jw_ce1c1f12e9 jn_X9_isWord rfl (jj_le rfl) (jj_le rfl) (jj_le rfl) (jj_le rfl) (jj_le rfl) dX3_readSubscriptions_34 rfl (fun _ _ _ hX => hX.elim) (fun rx pl_597 r O_601 => ?_)
                            obtain ⟨rfl, hok_598, hr_599, ha_600, hR_602⟩ := O_601
                            replace hs0 := hr_599.at hk0 (by decide) (by decide) hs0
                            replace hx0 := hr_599.at hkt (by decide) (by decide) hx0
                            replace hx2 := hr_599.at hkt (by decide) (by decide) hx2
                            replace hs1 := hr_599.at hk0 (by decide) (by decide) hs1
                            replace hsi := hr_599.at hkb (by decide) (by decide) hsi
                            replace hf_536 := hr_599.at hkb (by decide) (by decide) hf_536
                            replace hf_552 := hr_599.at hkt (by decide) (by decide) hf_552
                            replace hf_553 := hr_599.at hkt (by decide) (by decide) hf_553
                            replace hf_554 := hr_599.at hkt (by decide) (by decide) hf_554
                            replace hu := ha_600.at hk9 (by decide) (by decide) hu
                            replace hfr := hfr.trans (hr_599.sub (by decide))
                            replace hfa := hfa.trans (ha_600.sub (by decide))
                            rcases hR_602 with ⟨hw_603, rfl⟩ | ⟨hw_604, rfl⟩
                            · refine jj_iconst (v := 1) C dX3_readSubscriptions_37 (by decide) ?_
                              obtain ⟨qc, gs, hqc⟩ := tt_recv (cx := []) hok_598 hk0 (by decide) rfl
                              refine tt_callV (rest := []) C (te_accept_01 hl D cA ak h0 hk0 hok_598) [] [] rfl rfl (by decide) (by decide) (by decide) qc hqc rfl rfl jw_713f4d2af1 jw_b3e457240a jw_58c48ce796 jw_9d546d0b6f jw_0001e2e84f jn_X3_accept rfl (jj_le rfl) (jj_le rfl) (jj_le rfl) (jj_le rfl) (jj_le rfl) dX3_readSubscriptions_38 rfl (fun _ _ _ hX => hX.elim) (fun rx pl_605 r O_609 => ?_)
                              obtain ⟨rfl, hok_606, hr_607, ha_608, hR_610⟩ := O_609
                              replace hs0 := hr_607.at hk0 (by decide) (by decide) hs0
                              replace hx0 := hr_607.at hkt (by decide) (by decide) hx0
                              replace hx2 := hr_607.at hkt (by decide) (by decide) hx2
                              replace hs1 := hr_607.at hk0 (by decide) (by decide) hs1
                              replace hsi := hr_607.at hkb (by decide) (by decide) hsi
                              replace hf_536 := hr_607.at hkb (by decide) (by decide) hf_536
                              replace hf_552 := hr_607.at hkt (by decide) (by decide) hf_552
                              replace hf_553 := hr_607.at hkt (by decide) (by decide) hf_553
                              replace hf_554 := hr_607.at hkt (by decide) (by decide) hf_554
                              replace hu := ha_608.at hk9 (by decide) (by decide) hu
                              replace hfr := hfr.trans (hr_607.sub (by decide))
                              replace hfa := hfa.trans (ha_608.sub (by decide))
                              obtain ⟨hf_611, rfl⟩ := hR_610
                              refine jj_if_eqT (tgt := 70) C dX3_readSubscriptions_41 (by decide) (by decide) ?_
                              refine jj_iconst (v := 0) C dX3_readSubscriptions_70 (by decide) ?_
                              exact jj_zret C rfl ⟨[], pl_605, rfl, rfl, hok_606, hfr, hfa, (Or.inl ⟨1, n_550, _, (by decide), hf_552, hf_611, (ps_subs.nx ht_37 hkd_38.1 (ps_sub.of (ps_step.ok ht_37 (Or.inr (Or.inr ⟨hw_98, by decide, rfl⟩))) hq_132) (ps_subs.nx ht_171 hkd_172.1 (ps_sub.of (ps_step.ok ht_171 (Or.inr (Or.inr ⟨hw_232, by decide, rfl⟩))) hq_266) (ps_subs.nx ht_305 hkd_306.1 (ps_sub.of (ps_step.ok ht_305 (Or.inr (Or.inr ⟨hw_366, by decide, rfl⟩))) hq_400) (ps_subs.nx ht_439 hkd_440.1 (ps_sub.of (ps_step.ok ht_439 (Or.inr (Or.inr ⟨hw_500, by decide, rfl⟩))) hq_534) (ps_subs.nx ht_555 hkd_556.1 ⟨(1, n_550, 0), (1, n_550, 0), (1, n_550, 0), (ps_step.no ht_555 (Or.inl ⟨hw_603, rfl⟩) (by decide)), (ps_step.st (show (1 : Nat) ≠ 0 by decide)), (ps_step.st (show (1 : Nat) ≠ 0 by decide)), (ps_step.st (show (1 : Nat) ≠ 0 by decide))⟩ (ps_subs.er (k := 0) (by decide))))))), rfl⟩)⟩ dX3_readSubscriptions_71 (jj_le rfl) (jj_le rfl)
                            · exact absurd (hw_604.one (n := n2) (by decide) (by unfold ps_le; decide) (by omega)).2 hkd_556.2.1
                          · have hzn_557 := ht_562.le (by omega)
                            have lx_564 := tt_lo x_564
                            have ux_564 := tt_hi x_564
                            refine jj_aload_n C dX3_readSubscriptions_15 rfl ?_
                            refine tt_getF C hok_538 jk_4 0 (by decide) jw_70cd29f103 (t := (2, 10, 0)) hk0 (by decide) rfl rfl hs0 dX3_readSubscriptions_16 ?_
                            refine tt_getF C hok_538 jk_10 5 (by decide) jw_601d0e39ae (t := (0, (-2147483648), 2147483647)) hkt (by decide) rfl rfl hf_561 dX3_readSubscriptions_19 ?_
                            refine jj_if_neT (tgt := 27) C dX3_readSubscriptions_22 (by decide) (by decide) ?_
                            refine jj_aload_n C dX3_readSubscriptions_27 rfl ?_
                            refine jj_aload_n C dX3_readSubscriptions_28 rfl ?_
                            refine tt_getF C hok_538 jk_4 0 (by decide) jw_70cd29f103 (t := (2, 10, 0)) hk0 (by decide) rfl rfl hs0 dX3_readSubscriptions_29 ?_
                            refine jj_ldcs (k := 4) (tx := "subscribe") C dX3_readSubscriptions_32 (by decide +kernel) ?_
                            obtain ⟨qc, gs, hqc⟩ := tt_recv (cx := []) hok_538 hkt (by decide) rfl
                            refine tt_callV (rest := [.ref h0]) C (te_isWord_subscribe hl D cA ak tk a9 n2 n_558 n_557 (2 : Int32) u c hkt hk9 (by omega) (by omega) (by omega) hc ⟨fun q => absurd q (by decide), fun q => absurd q.2 hkd_563.2.1⟩ hok_538 hx0 hf_560 hf_559 hf_561 hu) [] [] rfl rfl (by decide) (by decide) (by decide) qc hqc rfl rfl jw_b0fe72c6f4 jw_5e9522a00c jw_73cf9edcb7 jw_a9e7b602dc jw_ce1c1f12e9 jn_X9_isWord rfl (jj_le rfl) (jj_le rfl) (jj_le rfl) (jj_le rfl) (jj_le rfl) dX3_readSubscriptions_34 rfl (fun _ _ _ hX => hX.elim) (fun rx pl_612 r O_616 => ?_)
                            obtain ⟨rfl, hok_613, hr_614, ha_615, hR_617⟩ := O_616
                            replace hs0 := hr_614.at hk0 (by decide) (by decide) hs0
                            replace hx0 := hr_614.at hkt (by decide) (by decide) hx0
                            replace hx2 := hr_614.at hkt (by decide) (by decide) hx2
                            replace hs1 := hr_614.at hk0 (by decide) (by decide) hs1
                            replace hsi := hr_614.at hkb (by decide) (by decide) hsi
                            replace hf_536 := hr_614.at hkb (by decide) (by decide) hf_536
                            replace hf_559 := hr_614.at hkt (by decide) (by decide) hf_559
                            replace hf_560 := hr_614.at hkt (by decide) (by decide) hf_560
                            replace hf_561 := hr_614.at hkt (by decide) (by decide) hf_561
                            replace hf_565 := hr_614.at hkt (by decide) (by decide) hf_565
                            replace hu := ha_615.at hk9 (by decide) (by decide) hu
                            replace hfr := hfr.trans (hr_614.sub (by decide))
                            replace hfa := hfa.trans (ha_615.sub (by decide))
                            rcases hR_617 with ⟨hw_618, rfl⟩ | ⟨hw_619, rfl⟩
                            · refine jj_iconst (v := 1) C dX3_readSubscriptions_37 (by decide) ?_
                              obtain ⟨qc, gs, hqc⟩ := tt_recv (cx := []) hok_613 hk0 (by decide) rfl
                              refine tt_callV (rest := []) C (te_accept_01 hl D cA ak h0 hk0 hok_613) [] [] rfl rfl (by decide) (by decide) (by decide) qc hqc rfl rfl jw_713f4d2af1 jw_b3e457240a jw_58c48ce796 jw_9d546d0b6f jw_0001e2e84f jn_X3_accept rfl (jj_le rfl) (jj_le rfl) (jj_le rfl) (jj_le rfl) (jj_le rfl) dX3_readSubscriptions_38 rfl (fun _ _ _ hX => hX.elim) (fun rx pl_620 r O_624 => ?_)
                              obtain ⟨rfl, hok_621, hr_622, ha_623, hR_625⟩ := O_624
                              replace hs0 := hr_622.at hk0 (by decide) (by decide) hs0
                              replace hx0 := hr_622.at hkt (by decide) (by decide) hx0
                              replace hx2 := hr_622.at hkt (by decide) (by decide) hx2
                              replace hs1 := hr_622.at hk0 (by decide) (by decide) hs1
                              replace hsi := hr_622.at hkb (by decide) (by decide) hsi
                              replace hf_536 := hr_622.at hkb (by decide) (by decide) hf_536
                              replace hf_559 := hr_622.at hkt (by decide) (by decide) hf_559
                              replace hf_560 := hr_622.at hkt (by decide) (by decide) hf_560
                              replace hf_561 := hr_622.at hkt (by decide) (by decide) hf_561
                              replace hf_565 := hr_622.at hkt (by decide) (by decide) hf_565
                              replace hu := ha_623.at hk9 (by decide) (by decide) hu
                              replace hfr := hfr.trans (hr_622.sub (by decide))
                              replace hfa := hfa.trans (ha_623.sub (by decide))
                              obtain ⟨hf_626, rfl⟩ := hR_625
                              refine jj_if_eqT (tgt := 70) C dX3_readSubscriptions_41 (by decide) (by decide) ?_
                              refine jj_iconst (v := 0) C dX3_readSubscriptions_70 (by decide) ?_
                              exact jj_zret C rfl ⟨[], pl_620, rfl, rfl, hok_621, hfr, hfa, (Or.inl ⟨1, n_557, _, (by decide), hf_559, hf_626, (ps_subs.nx ht_37 hkd_38.1 (ps_sub.of (ps_step.ok ht_37 (Or.inr (Or.inr ⟨hw_98, by decide, rfl⟩))) hq_132) (ps_subs.nx ht_171 hkd_172.1 (ps_sub.of (ps_step.ok ht_171 (Or.inr (Or.inr ⟨hw_232, by decide, rfl⟩))) hq_266) (ps_subs.nx ht_305 hkd_306.1 (ps_sub.of (ps_step.ok ht_305 (Or.inr (Or.inr ⟨hw_366, by decide, rfl⟩))) hq_400) (ps_subs.nx ht_439 hkd_440.1 (ps_sub.of (ps_step.ok ht_439 (Or.inr (Or.inr ⟨hw_500, by decide, rfl⟩))) hq_534) (ps_subs.nx ht_562 hkd_563.1 ⟨(1, n_557, 0), (1, n_557, 0), (1, n_557, 0), (ps_step.no ht_562 (Or.inl ⟨hw_618, rfl⟩) (by decide)), (ps_step.st (show (1 : Nat) ≠ 0 by decide)), (ps_step.st (show (1 : Nat) ≠ 0 by decide)), (ps_step.st (show (1 : Nat) ≠ 0 by decide))⟩ (ps_subs.er (k := 0) (by decide))))))), rfl⟩)⟩ dX3_readSubscriptions_71 (jj_le rfl) (jj_le rfl)
                            · exact absurd (hw_619.one (n := n2) (by decide) (by unfold ps_le; decide) (by omega)).2 hkd_563.2.1
                          · have hzn_568 := ht_573.le (by omega)
                            refine jj_aload_n C dX3_readSubscriptions_15 rfl ?_
                            refine tt_getF C hok_538 jk_4 0 (by decide) jw_70cd29f103 (t := (2, 10, 0)) hk0 (by decide) rfl rfl hs0 dX3_readSubscriptions_16 ?_
                            refine tt_getF C hok_538 jk_10 5 (by decide) jw_601d0e39ae (t := (0, (-2147483648), 2147483647)) hkt (by decide) rfl rfl hf_572 dX3_readSubscriptions_19 ?_
                            refine jj_if_neT (tgt := 27) C dX3_readSubscriptions_22 (by decide) (by decide) ?_
                            refine jj_aload_n C dX3_readSubscriptions_27 rfl ?_
                            refine jj_aload_n C dX3_readSubscriptions_28 rfl ?_
                            refine tt_getF C hok_538 jk_4 0 (by decide) jw_70cd29f103 (t := (2, 10, 0)) hk0 (by decide) rfl rfl hs0 dX3_readSubscriptions_29 ?_
                            refine jj_ldcs (k := 4) (tx := "subscribe") C dX3_readSubscriptions_32 (by decide +kernel) ?_
                            obtain ⟨qc, gs, hqc⟩ := tt_recv (cx := []) hok_538 hkt (by decide) rfl
                            refine tt_callV (rest := [.ref h0]) C (te_isWord_subscribe hl D cA ak tk a9 n2 n_569 n_568 (1 : Int32) u c hkt hk9 (by omega) (by omega) (by omega) hc ⟨fun _ => hkd_574, fun _ => rfl⟩ hok_538 hx0 hf_571 hf_570 hf_572 hu) [] [] rfl rfl (by decide) (by decide) (by decide) qc hqc rfl rfl jw_b0fe72c6f4 jw_5e9522a00c jw_73cf9edcb7 jw_a9e7b602dc jw_ce1c1f12e9 jn_X9_isWord rfl (jj_le rfl) (jj_le rfl) (jj_le rfl) (jj_le rfl) (jj_le rfl) dX3_readSubscriptions_34 rfl (fun _ _ _ hX => hX.elim) (fun rx pl_627 r O_631 => ?_)
                            obtain ⟨rfl, hok_628, hr_629, ha_630, hR_632⟩ := O_631
                            replace hs0 := hr_629.at hk0 (by decide) (by decide) hs0
                            replace hx0 := hr_629.at hkt (by decide) (by decide) hx0
                            replace hx2 := hr_629.at hkt (by decide) (by decide) hx2
                            replace hs1 := hr_629.at hk0 (by decide) (by decide) hs1
                            replace hsi := hr_629.at hkb (by decide) (by decide) hsi
                            replace hf_536 := hr_629.at hkb (by decide) (by decide) hf_536
                            replace hf_570 := hr_629.at hkt (by decide) (by decide) hf_570
                            replace hf_571 := hr_629.at hkt (by decide) (by decide) hf_571
                            replace hf_572 := hr_629.at hkt (by decide) (by decide) hf_572
                            replace hu := ha_630.at hk9 (by decide) (by decide) hu
                            replace hfr := hfr.trans (hr_629.sub (by decide))
                            replace hfa := hfa.trans (ha_630.sub (by decide))
                            rcases hR_632 with ⟨hw_633, rfl⟩ | ⟨hw_634, rfl⟩
                            · refine jj_iconst (v := 1) C dX3_readSubscriptions_37 (by decide) ?_
                              obtain ⟨qc, gs, hqc⟩ := tt_recv (cx := []) hok_628 hk0 (by decide) rfl
                              refine tt_callV (rest := []) C (te_accept_01 hl D cA ak h0 hk0 hok_628) [] [] rfl rfl (by decide) (by decide) (by decide) qc hqc rfl rfl jw_713f4d2af1 jw_b3e457240a jw_58c48ce796 jw_9d546d0b6f jw_0001e2e84f jn_X3_accept rfl (jj_le rfl) (jj_le rfl) (jj_le rfl) (jj_le rfl) (jj_le rfl) dX3_readSubscriptions_38 rfl (fun _ _ _ hX => hX.elim) (fun rx pl_635 r O_639 => ?_)
                              obtain ⟨rfl, hok_636, hr_637, ha_638, hR_640⟩ := O_639
                              replace hs0 := hr_637.at hk0 (by decide) (by decide) hs0
                              replace hx0 := hr_637.at hkt (by decide) (by decide) hx0
                              replace hx2 := hr_637.at hkt (by decide) (by decide) hx2
                              replace hs1 := hr_637.at hk0 (by decide) (by decide) hs1
                              replace hsi := hr_637.at hkb (by decide) (by decide) hsi
                              replace hf_536 := hr_637.at hkb (by decide) (by decide) hf_536
                              replace hf_570 := hr_637.at hkt (by decide) (by decide) hf_570
                              replace hf_571 := hr_637.at hkt (by decide) (by decide) hf_571
                              replace hf_572 := hr_637.at hkt (by decide) (by decide) hf_572
                              replace hu := ha_638.at hk9 (by decide) (by decide) hu
                              replace hfr := hfr.trans (hr_637.sub (by decide))
                              replace hfa := hfa.trans (ha_638.sub (by decide))
                              obtain ⟨hf_641, rfl⟩ := hR_640
                              refine jj_if_eqT (tgt := 70) C dX3_readSubscriptions_41 (by decide) (by decide) ?_
                              refine jj_iconst (v := 0) C dX3_readSubscriptions_70 (by decide) ?_
                              exact jj_zret C rfl ⟨[], pl_635, rfl, rfl, hok_636, hfr, hfa, (Or.inl ⟨1, n_568, _, (by decide), hf_570, hf_641, (ps_subs.nx ht_37 hkd_38.1 (ps_sub.of (ps_step.ok ht_37 (Or.inr (Or.inr ⟨hw_98, by decide, rfl⟩))) hq_132) (ps_subs.nx ht_171 hkd_172.1 (ps_sub.of (ps_step.ok ht_171 (Or.inr (Or.inr ⟨hw_232, by decide, rfl⟩))) hq_266) (ps_subs.nx ht_305 hkd_306.1 (ps_sub.of (ps_step.ok ht_305 (Or.inr (Or.inr ⟨hw_366, by decide, rfl⟩))) hq_400) (ps_subs.nx ht_439 hkd_440.1 (ps_sub.of (ps_step.ok ht_439 (Or.inr (Or.inr ⟨hw_500, by decide, rfl⟩))) hq_534) (ps_subs.nx ht_573 hkd_574.1 ⟨(1, n_568, 0), (1, n_568, 0), (1, n_568, 0), (ps_step.no ht_573 (Or.inl ⟨hw_633, rfl⟩) (by decide)), (ps_step.st (show (1 : Nat) ≠ 0 by decide)), (ps_step.st (show (1 : Nat) ≠ 0 by decide)), (ps_step.st (show (1 : Nat) ≠ 0 by decide))⟩ (ps_subs.er (k := 0) (by decide))))))), rfl⟩)⟩ dX3_readSubscriptions_71 (jj_le rfl) (jj_le rfl)
                            · refine jj_iconst (v := 1) C dX3_readSubscriptions_37 (by decide) ?_
                              obtain ⟨qc, gs, hqc⟩ := tt_recv (cx := []) hok_628 hk0 (by decide) rfl
                              refine tt_callV (rest := []) C (te_accept_11 hl D cA ak h0 hk0 hok_628) [] [] rfl rfl (by decide) (by decide) (by decide) qc hqc rfl rfl jw_713f4d2af1 jw_b3e457240a jw_58c48ce796 jw_9d546d0b6f jw_0001e2e84f jn_X3_accept rfl (jj_le rfl) (jj_le rfl) (jj_le rfl) (jj_le rfl) (jj_le rfl) dX3_readSubscriptions_38 rfl (fun _ _ _ hX => hX.elim) (fun rx pl_642 r O_646 => ?_)
                              obtain ⟨rfl, hok_643, hr_644, ha_645, hR_647⟩ := O_646
                              replace hs0 := hr_644.at hk0 (by decide) (by decide) hs0
                              replace hx0 := hr_644.at hkt (by decide) (by decide) hx0
                              replace hx2 := hr_644.at hkt (by decide) (by decide) hx2
                              replace hs1 := hr_644.at hk0 (by decide) (by decide) hs1
                              replace hsi := hr_644.at hkb (by decide) (by decide) hsi
                              replace hf_536 := hr_644.at hkb (by decide) (by decide) hf_536
                              replace hf_570 := hr_644.at hkt (by decide) (by decide) hf_570
                              replace hf_571 := hr_644.at hkt (by decide) (by decide) hf_571
                              replace hf_572 := hr_644.at hkt (by decide) (by decide) hf_572
                              replace hu := ha_645.at hk9 (by decide) (by decide) hu
                              replace hfr := hfr.trans (hr_644.sub (by decide))
                              replace hfa := hfa.trans (ha_645.sub (by decide))
                              obtain rfl := hR_647
                              refine jj_if_eqF (tgt := 70) C dX3_readSubscriptions_41 (by decide) (by decide) ?_
                              refine jj_aload_n C dX3_readSubscriptions_44 rfl ?_
                              refine jj_iload_n C dX3_readSubscriptions_45 rfl ?_
                              refine jj_bipush (v := 12) C dX3_readSubscriptions_46 (by decide) ?_
                              refine jj_icmp_geF (tgt := 55) C dX3_readSubscriptions_48 (by decide) (by decide) ?_
                              refine jj_iconst (v := 1) C dX3_readSubscriptions_51 (by decide) ?_
                              refine jj_goto (tgt := 56) C dX3_readSubscriptions_52 (by decide) ?_
                              refine jj_iconst (v := 3) C dX3_readSubscriptions_56 (by decide) ?_
                              obtain ⟨qc, gs, hqc⟩ := tt_recv (cx := []) hok_643 hk0 (by decide) rfl
                              refine tt_callV (rest := []) C (te_accept_13 hl D cA ak h0 hk0 hok_643) [] [] rfl rfl (by decide) (by decide) (by decide) qc hqc rfl rfl jw_713f4d2af1 jw_b3e457240a jw_58c48ce796 jw_9d546d0b6f jw_0001e2e84f jn_X3_accept rfl (jj_le rfl) (jj_le rfl) (jj_le rfl) (jj_le rfl) (jj_le rfl) dX3_readSubscriptions_57 rfl (fun _ _ _ hX => hX.elim) (fun rx pl_648 r O_652 => ?_)
                              obtain ⟨rfl, hok_649, hr_650, ha_651, hR_653⟩ := O_652
                              replace hs0 := hr_650.at hk0 (by decide) (by decide) hs0
                              replace hx0 := hr_650.at hkt (by decide) (by decide) hx0
                              replace hx2 := hr_650.at hkt (by decide) (by decide) hx2
                              replace hs1 := hr_650.at hk0 (by decide) (by decide) hs1
                              replace hsi := hr_650.at hkb (by decide) (by decide) hsi
                              replace hf_536 := hr_650.at hkb (by decide) (by decide) hf_536
                              replace hf_570 := hr_650.at hkt (by decide) (by decide) hf_570
                              replace hf_571 := hr_650.at hkt (by decide) (by decide) hf_571
                              replace hf_572 := hr_650.at hkt (by decide) (by decide) hf_572
                              replace hu := ha_651.at hk9 (by decide) (by decide) hu
                              replace hfr := hfr.trans (hr_650.sub (by decide))
                              replace hfa := hfa.trans (ha_651.sub (by decide))
                              obtain rfl := hR_653
                              refine jj_if_eqF (tgt := 70) C dX3_readSubscriptions_60 (by decide) (by decide) ?_
                              refine jj_aload_n C dX3_readSubscriptions_63 rfl ?_
                              obtain ⟨qc, gs, hqc⟩ := tt_recv (cx := []) hok_649 hk0 (by decide) rfl
                              refine tt_callV (rest := []) C (te_readSubscription hl D cA ak h0 tk a9 bk n2 n_569 u c iv 4 hk0 hkt hk9 hkb (by omega) (by omega) hc (by omega) (by omega) (by omega) hok_649 hs0 hx0 hx2 hf_571 hs1 hsi hf_536 hu) [] [] rfl rfl (by decide) (by decide) (by decide) qc hqc rfl rfl jw_b50e5c10ea jw_23105775d0 jw_16355fb5ab jw_9d546d0b6f jw_0cc88cc191 jn_X3_readSubscription rfl (jj_le rfl) (jj_le rfl) (jj_le rfl) (jj_le rfl) (jj_le rfl) dX3_readSubscriptions_64 rfl (fun _ _ _ hX => hX.elim) (fun rx pl_654 r O_658 => ?_)
                              obtain ⟨rfl, hok_655, hr_656, ha_657, hR_659⟩ := O_658
                              replace hs0 := hr_656.at hk0 (by decide) (by decide) hs0
                              replace hx0 := hr_656.at hkt (by decide) (by decide) hx0
                              replace hx2 := hr_656.at hkt (by decide) (by decide) hx2
                              replace hs1 := hr_656.at hk0 (by decide) (by decide) hs1
                              replace hsi := hr_656.at hkb (by decide) (by decide) hsi
                              replace hu := ha_657.at hk9 (by decide) (by decide) hu
                              replace hfr := hfr.trans (hr_656.sub (by decide))
                              replace hfa := hfa.trans (ha_657.sub (by decide))
                              rcases hR_659 with ⟨n_661, n_660, hn_665, hf_662, hf_663, hq_664, rfl⟩ | ⟨n_666, hle_669, hf_667, hf_670, hq_668, rfl⟩
                              · refine jj_if_neF (tgt := 72) C dX3_readSubscriptions_67 (by decide) (by decide) ?_
                                refine jj_iconst (v := 0) C dX3_readSubscriptions_70 (by decide) ?_
                                exact jj_zret C rfl ⟨[], pl_654, rfl, rfl, hok_655, hfr, hfa, (Or.inl ⟨n_661, n_660, _, hn_665, hf_662, hf_663, (ps_subs.nx ht_37 hkd_38.1 (ps_sub.of (ps_step.ok ht_37 (Or.inr (Or.inr ⟨hw_98, by decide, rfl⟩))) hq_132) (ps_subs.nx ht_171 hkd_172.1 (ps_sub.of (ps_step.ok ht_171 (Or.inr (Or.inr ⟨hw_232, by decide, rfl⟩))) hq_266) (ps_subs.nx ht_305 hkd_306.1 (ps_sub.of (ps_step.ok ht_305 (Or.inr (Or.inr ⟨hw_366, by decide, rfl⟩))) hq_400) (ps_subs.nx ht_439 hkd_440.1 (ps_sub.of (ps_step.ok ht_439 (Or.inr (Or.inr ⟨hw_500, by decide, rfl⟩))) hq_534) (ps_subs.nx ht_573 hkd_574.1 (ps_sub.of (ps_step.ok ht_573 (Or.inr (Or.inr ⟨hw_634, by decide, rfl⟩))) hq_664) (ps_subs.er (k := 0) hn_665)))))), rfl⟩)⟩ dX3_readSubscriptions_71 (jj_le rfl) (jj_le rfl)
                              · refine jj_if_neT (tgt := 72) C dX3_readSubscriptions_67 (by decide) (by decide) ?_
                                refine jj_iinc (v := 5) C dX3_readSubscriptions_72 rfl (by decide) (by decide) rfl ?_
                                refine jj_goto (tgt := 2) C dX3_readSubscriptions_75 (by decide) ?_
                                refine jj_iload_n C dX3_readSubscriptions_2 rfl ?_
                                refine jj_bipush (v := 12) C dX3_readSubscriptions_3 (by decide) ?_
                                refine jj_icmp_gtF (tgt := 78) C dX3_readSubscriptions_5 (by decide) (by decide) ?_
                                refine jj_aload_n C dX3_readSubscriptions_8 rfl ?_
                                refine tt_getF C hok_655 jk_4 0 (by decide) jw_70cd29f103 (t := (2, 10, 0)) hk0 (by decide) rfl rfl hs0 dX3_readSubscriptions_9 ?_
                                obtain ⟨qc, gs, hqc⟩ := tt_recv (cx := []) hok_655 hkt (by decide) rfl
                                refine tt_callV (rest := []) C (te_advance hl D cA ak tk a9 n2 n_666 u c hkt hk9 (by omega) (by omega) hc hok_655 hx0 hx2 hf_667 hu) [] [] rfl rfl (by decide) (by decide) (by decide) qc hqc rfl rfl jw_97c023d194 jw_37f6ee43e0 jw_46baf1fc7b jw_a9e7b602dc jw_0d4db63612 jn_X9_advance rfl (jj_le rfl) (jj_le rfl) (jj_le rfl) (jj_le rfl) (jj_le rfl) dX3_readSubscriptions_12 rfl (fun _ _ _ hX => hX.elim) (fun rx pl_671 r O_675 => ?_)
                                obtain ⟨rfl, hok_672, hr_673, ha_674, hR_676⟩ := O_675
                                replace hs0 := hr_673.at hk0 (by decide) (by decide) hs0
                                replace hx0 := hr_673.at hkt (by decide) (by decide) hx0
                                replace hx2 := hr_673.at hkt (by decide) (by decide) hx2
                                replace hs1 := hr_673.at hk0 (by decide) (by decide) hs1
                                replace hsi := hr_673.at hkb (by decide) (by decide) hsi
                                replace hf_670 := hr_673.at hkb (by decide) (by decide) hf_670
                                replace hu := ha_674.at hk9 (by decide) (by decide) hu
                                replace hfr := hfr.trans (hr_673.sub (by decide))
                                replace hfa := hfa.trans (ha_674.sub (by decide))
                                rcases hR_676 with ⟨n_677, n_678, hf_679, hf_680, hf_681, ht_682, hkd_683, rfl⟩ | ⟨n_684, n_685, hf_686, hf_687, hf_688, ht_689, hkd_690, rfl⟩ | ⟨n_691, n_692, hf_693, hf_694, hf_695, ht_696, hkd_697, ⟨x_698, hf_699, hq_700, hq_701⟩, rfl⟩ | ⟨n_702, n_703, hf_704, hf_705, hf_706, ht_707, hkd_708, rfl⟩ | ⟨n_709, n_710, hf_711, hf_712, hf_713, ht_714, hkd_715, rfl⟩
                                · have hzn_677 := ht_682.le (by omega)
                                  refine jj_aload_n C dX3_readSubscriptions_15 rfl ?_
                                  refine tt_getF C hok_672 jk_4 0 (by decide) jw_70cd29f103 (t := (2, 10, 0)) hk0 (by decide) rfl rfl hs0 dX3_readSubscriptions_16 ?_
                                  refine tt_getF C hok_672 jk_10 5 (by decide) jw_601d0e39ae (t := (0, (-2147483648), 2147483647)) hkt (by decide) rfl rfl hf_681 dX3_readSubscriptions_19 ?_
                                  refine jj_if_neT (tgt := 27) C dX3_readSubscriptions_22 (by decide) (by decide) ?_
                                  refine jj_aload_n C dX3_readSubscriptions_27 rfl ?_
                                  refine jj_aload_n C dX3_readSubscriptions_28 rfl ?_
                                  refine tt_getF C hok_672 jk_4 0 (by decide) jw_70cd29f103 (t := (2, 10, 0)) hk0 (by decide) rfl rfl hs0 dX3_readSubscriptions_29 ?_
                                  refine jj_ldcs (k := 4) (tx := "subscribe") C dX3_readSubscriptions_32 (by decide +kernel) ?_
                                  obtain ⟨qc, gs, hqc⟩ := tt_recv (cx := []) hok_672 hkt (by decide) rfl
                                  refine tt_callV (rest := [.ref h0]) C (te_isWord_subscribe hl D cA ak tk a9 n2 n_678 n_677 (4 : Int32) u c hkt hk9 (by omega) (by omega) (by omega) hc ⟨fun q => absurd q (by decide), fun q => absurd q.2 hkd_683.2.1⟩ hok_672 hx0 hf_680 hf_679 hf_681 hu) [] [] rfl rfl (by decide) (by decide) (by decide) qc hqc rfl rfl jw_b0fe72c6f4 jw_5e9522a00c jw_73cf9edcb7 jw_a9e7b602dc jw_ce1c1f12e9 jn_X9_isWord rfl (jj_le rfl) (jj_le rfl) (jj_le rfl) (jj_le rfl) (jj_le rfl) dX3_readSubscriptions_34 rfl (fun _ _ _ hX => hX.elim) (fun rx pl_716 r O_720 => ?_)
                                  obtain ⟨rfl, hok_717, hr_718, ha_719, hR_721⟩ := O_720
                                  replace hs0 := hr_718.at hk0 (by decide) (by decide) hs0
                                  replace hx0 := hr_718.at hkt (by decide) (by decide) hx0
                                  replace hx2 := hr_718.at hkt (by decide) (by decide) hx2
                                  replace hs1 := hr_718.at hk0 (by decide) (by decide) hs1
                                  replace hsi := hr_718.at hkb (by decide) (by decide) hsi
                                  replace hf_670 := hr_718.at hkb (by decide) (by decide) hf_670
                                  replace hf_679 := hr_718.at hkt (by decide) (by decide) hf_679
                                  replace hf_680 := hr_718.at hkt (by decide) (by decide) hf_680
                                  replace hf_681 := hr_718.at hkt (by decide) (by decide) hf_681
                                  replace hu := ha_719.at hk9 (by decide) (by decide) hu
                                  replace hfr := hfr.trans (hr_718.sub (by decide))
                                  replace hfa := hfa.trans (ha_719.sub (by decide))
                                  rcases hR_721 with ⟨hw_722, rfl⟩ | ⟨hw_723, rfl⟩
                                  · refine jj_iconst (v := 1) C dX3_readSubscriptions_37 (by decide) ?_
                                    obtain ⟨qc, gs, hqc⟩ := tt_recv (cx := []) hok_717 hk0 (by decide) rfl
                                    refine tt_callV (rest := []) C (te_accept_01 hl D cA ak h0 hk0 hok_717) [] [] rfl rfl (by decide) (by decide) (by decide) qc hqc rfl rfl jw_713f4d2af1 jw_b3e457240a jw_58c48ce796 jw_9d546d0b6f jw_0001e2e84f jn_X3_accept rfl (jj_le rfl) (jj_le rfl) (jj_le rfl) (jj_le rfl) (jj_le rfl) dX3_readSubscriptions_38 rfl (fun _ _ _ hX => hX.elim) (fun rx pl_724 r O_728 => ?_)
                                    obtain ⟨rfl, hok_725, hr_726, ha_727, hR_729⟩ := O_728
                                    replace hs0 := hr_726.at hk0 (by decide) (by decide) hs0
                                    replace hx0 := hr_726.at hkt (by decide) (by decide) hx0
                                    replace hx2 := hr_726.at hkt (by decide) (by decide) hx2
                                    replace hs1 := hr_726.at hk0 (by decide) (by decide) hs1
                                    replace hsi := hr_726.at hkb (by decide) (by decide) hsi
                                    replace hf_670 := hr_726.at hkb (by decide) (by decide) hf_670
                                    replace hf_679 := hr_726.at hkt (by decide) (by decide) hf_679
                                    replace hf_680 := hr_726.at hkt (by decide) (by decide) hf_680
                                    replace hf_681 := hr_726.at hkt (by decide) (by decide) hf_681
                                    replace hu := ha_727.at hk9 (by decide) (by decide) hu
                                    replace hfr := hfr.trans (hr_726.sub (by decide))
                                    replace hfa := hfa.trans (ha_727.sub (by decide))
                                    obtain ⟨hf_730, rfl⟩ := hR_729
                                    refine jj_if_eqT (tgt := 70) C dX3_readSubscriptions_41 (by decide) (by decide) ?_
                                    refine jj_iconst (v := 0) C dX3_readSubscriptions_70 (by decide) ?_
                                    exact jj_zret C rfl ⟨[], pl_724, rfl, rfl, hok_725, hfr, hfa, (Or.inl ⟨1, n_677, _, (by decide), hf_679, hf_730, (ps_subs.nx ht_37 hkd_38.1 (ps_sub.of (ps_step.ok ht_37 (Or.inr (Or.inr ⟨hw_98, by decide, rfl⟩))) hq_132) (ps_subs.nx ht_171 hkd_172.1 (ps_sub.of (ps_step.ok ht_171 (Or.inr (Or.inr ⟨hw_232, by decide, rfl⟩))) hq_266) (ps_subs.nx ht_305 hkd_306.1 (ps_sub.of (ps_step.ok ht_305 (Or.inr (Or.inr ⟨hw_366, by decide, rfl⟩))) hq_400) (ps_subs.nx ht_439 hkd_440.1 (ps_sub.of (ps_step.ok ht_439 (Or.inr (Or.inr ⟨hw_500, by decide, rfl⟩))) hq_534) (ps_subs.nx ht_573 hkd_574.1 (ps_sub.of (ps_step.ok ht_573 (Or.inr (Or.inr ⟨hw_634, by decide, rfl⟩))) hq_668) (ps_subs.nx ht_682 hkd_683.1 ⟨(1, n_677, 0), (1, n_677, 0), (1, n_677, 0), (ps_step.no ht_682 (Or.inl ⟨hw_722, rfl⟩) (by decide)), (ps_step.st (show (1 : Nat) ≠ 0 by decide)), (ps_step.st (show (1 : Nat) ≠ 0 by decide)), (ps_step.st (show (1 : Nat) ≠ 0 by decide))⟩ (ps_subs.er (k := 0) (by decide)))))))), rfl⟩)⟩ dX3_readSubscriptions_71 (jj_le rfl) (jj_le rfl)
                                  · exact absurd (hw_723.one (n := n2) (by decide) (by unfold ps_le; decide) (by omega)).2 hkd_683.2.1
                                · have hzn_684 := ht_689.le (by omega)
                                  refine jj_aload_n C dX3_readSubscriptions_15 rfl ?_
                                  refine tt_getF C hok_672 jk_4 0 (by decide) jw_70cd29f103 (t := (2, 10, 0)) hk0 (by decide) rfl rfl hs0 dX3_readSubscriptions_16 ?_
                                  refine tt_getF C hok_672 jk_10 5 (by decide) jw_601d0e39ae (t := (0, (-2147483648), 2147483647)) hkt (by decide) rfl rfl hf_688 dX3_readSubscriptions_19 ?_
                                  refine jj_if_neT (tgt := 27) C dX3_readSubscriptions_22 (by decide) (by decide) ?_
                                  refine jj_aload_n C dX3_readSubscriptions_27 rfl ?_
                                  refine jj_aload_n C dX3_readSubscriptions_28 rfl ?_
                                  refine tt_getF C hok_672 jk_4 0 (by decide) jw_70cd29f103 (t := (2, 10, 0)) hk0 (by decide) rfl rfl hs0 dX3_readSubscriptions_29 ?_
                                  refine jj_ldcs (k := 4) (tx := "subscribe") C dX3_readSubscriptions_32 (by decide +kernel) ?_
                                  obtain ⟨qc, gs, hqc⟩ := tt_recv (cx := []) hok_672 hkt (by decide) rfl
                                  refine tt_callV (rest := [.ref h0]) C (te_isWord_subscribe hl D cA ak tk a9 n2 n_685 n_684 (3 : Int32) u c hkt hk9 (by omega) (by omega) (by omega) hc ⟨fun q => absurd q (by decide), fun q => absurd q.2 hkd_690.2.1⟩ hok_672 hx0 hf_687 hf_686 hf_688 hu) [] [] rfl rfl (by decide) (by decide) (by decide) qc hqc rfl rfl jw_b0fe72c6f4 jw_5e9522a00c jw_73cf9edcb7 jw_a9e7b602dc jw_ce1c1f12e9 jn_X9_isWord rfl (jj_le rfl) (jj_le rfl) (jj_le rfl) (jj_le rfl) (jj_le rfl) dX3_readSubscriptions_34 rfl (fun _ _ _ hX => hX.elim) (fun rx pl_731 r O_735 => ?_)
                                  obtain ⟨rfl, hok_732, hr_733, ha_734, hR_736⟩ := O_735
                                  replace hs0 := hr_733.at hk0 (by decide) (by decide) hs0
                                  replace hx0 := hr_733.at hkt (by decide) (by decide) hx0
                                  replace hx2 := hr_733.at hkt (by decide) (by decide) hx2
                                  replace hs1 := hr_733.at hk0 (by decide) (by decide) hs1
                                  replace hsi := hr_733.at hkb (by decide) (by decide) hsi
                                  replace hf_670 := hr_733.at hkb (by decide) (by decide) hf_670
                                  replace hf_686 := hr_733.at hkt (by decide) (by decide) hf_686
                                  replace hf_687 := hr_733.at hkt (by decide) (by decide) hf_687
                                  replace hf_688 := hr_733.at hkt (by decide) (by decide) hf_688
                                  replace hu := ha_734.at hk9 (by decide) (by decide) hu
                                  replace hfr := hfr.trans (hr_733.sub (by decide))
                                  replace hfa := hfa.trans (ha_734.sub (by decide))
                                  rcases hR_736 with ⟨hw_737, rfl⟩ | ⟨hw_738, rfl⟩
                                  · refine jj_iconst (v := 1) C dX3_readSubscriptions_37 (by decide) ?_
                                    obtain ⟨qc, gs, hqc⟩ := tt_recv (cx := []) hok_732 hk0 (by decide) rfl
                                    refine tt_callV (rest := []) C (te_accept_01 hl D cA ak h0 hk0 hok_732) [] [] rfl rfl (by decide) (by decide) (by decide) qc hqc rfl rfl jw_713f4d2af1 jw_b3e457240a jw_58c48ce796 jw_9d546d0b6f jw_0001e2e84f jn_X3_accept rfl (jj_le rfl) (jj_le rfl) (jj_le rfl) (jj_le rfl) (jj_le rfl) dX3_readSubscriptions_38 rfl (fun _ _ _ hX => hX.elim) (fun rx pl_739 r O_743 => ?_)
                                    obtain ⟨rfl, hok_740, hr_741, ha_742, hR_744⟩ := O_743
                                    replace hs0 := hr_741.at hk0 (by decide) (by decide) hs0
                                    replace hx0 := hr_741.at hkt (by decide) (by decide) hx0
                                    replace hx2 := hr_741.at hkt (by decide) (by decide) hx2
                                    replace hs1 := hr_741.at hk0 (by decide) (by decide) hs1
                                    replace hsi := hr_741.at hkb (by decide) (by decide) hsi
                                    replace hf_670 := hr_741.at hkb (by decide) (by decide) hf_670
                                    replace hf_686 := hr_741.at hkt (by decide) (by decide) hf_686
                                    replace hf_687 := hr_741.at hkt (by decide) (by decide) hf_687
                                    replace hf_688 := hr_741.at hkt (by decide) (by decide) hf_688
                                    replace hu := ha_742.at hk9 (by decide) (by decide) hu
                                    replace hfr := hfr.trans (hr_741.sub (by decide))
                                    replace hfa := hfa.trans (ha_742.sub (by decide))
                                    obtain ⟨hf_745, rfl⟩ := hR_744
                                    refine jj_if_eqT (tgt := 70) C dX3_readSubscriptions_41 (by decide) (by decide) ?_
                                    refine jj_iconst (v := 0) C dX3_readSubscriptions_70 (by decide) ?_
                                    exact jj_zret C rfl ⟨[], pl_739, rfl, rfl, hok_740, hfr, hfa, (Or.inl ⟨1, n_684, _, (by decide), hf_686, hf_745, (ps_subs.nx ht_37 hkd_38.1 (ps_sub.of (ps_step.ok ht_37 (Or.inr (Or.inr ⟨hw_98, by decide, rfl⟩))) hq_132) (ps_subs.nx ht_171 hkd_172.1 (ps_sub.of (ps_step.ok ht_171 (Or.inr (Or.inr ⟨hw_232, by decide, rfl⟩))) hq_266) (ps_subs.nx ht_305 hkd_306.1 (ps_sub.of (ps_step.ok ht_305 (Or.inr (Or.inr ⟨hw_366, by decide, rfl⟩))) hq_400) (ps_subs.nx ht_439 hkd_440.1 (ps_sub.of (ps_step.ok ht_439 (Or.inr (Or.inr ⟨hw_500, by decide, rfl⟩))) hq_534) (ps_subs.nx ht_573 hkd_574.1 (ps_sub.of (ps_step.ok ht_573 (Or.inr (Or.inr ⟨hw_634, by decide, rfl⟩))) hq_668) (ps_subs.nx ht_689 hkd_690.1 ⟨(1, n_684, 0), (1, n_684, 0), (1, n_684, 0), (ps_step.no ht_689 (Or.inl ⟨hw_737, rfl⟩) (by decide)), (ps_step.st (show (1 : Nat) ≠ 0 by decide)), (ps_step.st (show (1 : Nat) ≠ 0 by decide)), (ps_step.st (show (1 : Nat) ≠ 0 by decide))⟩ (ps_subs.er (k := 0) (by decide)))))))), rfl⟩)⟩ dX3_readSubscriptions_71 (jj_le rfl) (jj_le rfl)
                                  · exact absurd (hw_738.one (n := n2) (by decide) (by unfold ps_le; decide) (by omega)).2 hkd_690.2.1
                                · have hzn_691 := ht_696.le (by omega)
                                  have lx_698 := tt_lo x_698
                                  have ux_698 := tt_hi x_698
                                  refine jj_aload_n C dX3_readSubscriptions_15 rfl ?_
                                  refine tt_getF C hok_672 jk_4 0 (by decide) jw_70cd29f103 (t := (2, 10, 0)) hk0 (by decide) rfl rfl hs0 dX3_readSubscriptions_16 ?_
                                  refine tt_getF C hok_672 jk_10 5 (by decide) jw_601d0e39ae (t := (0, (-2147483648), 2147483647)) hkt (by decide) rfl rfl hf_695 dX3_readSubscriptions_19 ?_
                                  refine jj_if_neT (tgt := 27) C dX3_readSubscriptions_22 (by decide) (by decide) ?_
                                  refine jj_aload_n C dX3_readSubscriptions_27 rfl ?_
                                  refine jj_aload_n C dX3_readSubscriptions_28 rfl ?_
                                  refine tt_getF C hok_672 jk_4 0 (by decide) jw_70cd29f103 (t := (2, 10, 0)) hk0 (by decide) rfl rfl hs0 dX3_readSubscriptions_29 ?_
                                  refine jj_ldcs (k := 4) (tx := "subscribe") C dX3_readSubscriptions_32 (by decide +kernel) ?_
                                  obtain ⟨qc, gs, hqc⟩ := tt_recv (cx := []) hok_672 hkt (by decide) rfl
                                  refine tt_callV (rest := [.ref h0]) C (te_isWord_subscribe hl D cA ak tk a9 n2 n_692 n_691 (2 : Int32) u c hkt hk9 (by omega) (by omega) (by omega) hc ⟨fun q => absurd q (by decide), fun q => absurd q.2 hkd_697.2.1⟩ hok_672 hx0 hf_694 hf_693 hf_695 hu) [] [] rfl rfl (by decide) (by decide) (by decide) qc hqc rfl rfl jw_b0fe72c6f4 jw_5e9522a00c jw_73cf9edcb7 jw_a9e7b602dc jw_ce1c1f12e9 jn_X9_isWord rfl (jj_le rfl) (jj_le rfl) (jj_le rfl) (jj_le rfl) (jj_le rfl) dX3_readSubscriptions_34 rfl (fun _ _ _ hX => hX.elim) (fun rx pl_746 r O_750 => ?_)
                                  obtain ⟨rfl, hok_747, hr_748, ha_749, hR_751⟩ := O_750
                                  replace hs0 := hr_748.at hk0 (by decide) (by decide) hs0
                                  replace hx0 := hr_748.at hkt (by decide) (by decide) hx0
                                  replace hx2 := hr_748.at hkt (by decide) (by decide) hx2
                                  replace hs1 := hr_748.at hk0 (by decide) (by decide) hs1
                                  replace hsi := hr_748.at hkb (by decide) (by decide) hsi
                                  replace hf_670 := hr_748.at hkb (by decide) (by decide) hf_670
                                  replace hf_693 := hr_748.at hkt (by decide) (by decide) hf_693
                                  replace hf_694 := hr_748.at hkt (by decide) (by decide) hf_694
                                  replace hf_695 := hr_748.at hkt (by decide) (by decide) hf_695
                                  replace hf_699 := hr_748.at hkt (by decide) (by decide) hf_699
                                  replace hu := ha_749.at hk9 (by decide) (by decide) hu
                                  replace hfr := hfr.trans (hr_748.sub (by decide))
                                  replace hfa := hfa.trans (ha_749.sub (by decide))
                                  rcases hR_751 with ⟨hw_752, rfl⟩ | ⟨hw_753, rfl⟩
                                  · refine jj_iconst (v := 1) C dX3_readSubscriptions_37 (by decide) ?_
                                    obtain ⟨qc, gs, hqc⟩ := tt_recv (cx := []) hok_747 hk0 (by decide) rfl
                                    refine tt_callV (rest := []) C (te_accept_01 hl D cA ak h0 hk0 hok_747) [] [] rfl rfl (by decide) (by decide) (by decide) qc hqc rfl rfl jw_713f4d2af1 jw_b3e457240a jw_58c48ce796 jw_9d546d0b6f jw_0001e2e84f jn_X3_accept rfl (jj_le rfl) (jj_le rfl) (jj_le rfl) (jj_le rfl) (jj_le rfl) dX3_readSubscriptions_38 rfl (fun _ _ _ hX => hX.elim) (fun rx pl_754 r O_758 => ?_)
                                    obtain ⟨rfl, hok_755, hr_756, ha_757, hR_759⟩ := O_758
                                    replace hs0 := hr_756.at hk0 (by decide) (by decide) hs0
                                    replace hx0 := hr_756.at hkt (by decide) (by decide) hx0
                                    replace hx2 := hr_756.at hkt (by decide) (by decide) hx2
                                    replace hs1 := hr_756.at hk0 (by decide) (by decide) hs1
                                    replace hsi := hr_756.at hkb (by decide) (by decide) hsi
                                    replace hf_670 := hr_756.at hkb (by decide) (by decide) hf_670
                                    replace hf_693 := hr_756.at hkt (by decide) (by decide) hf_693
                                    replace hf_694 := hr_756.at hkt (by decide) (by decide) hf_694
                                    replace hf_695 := hr_756.at hkt (by decide) (by decide) hf_695
                                    replace hf_699 := hr_756.at hkt (by decide) (by decide) hf_699
                                    replace hu := ha_757.at hk9 (by decide) (by decide) hu
                                    replace hfr := hfr.trans (hr_756.sub (by decide))
                                    replace hfa := hfa.trans (ha_757.sub (by decide))
                                    obtain ⟨hf_760, rfl⟩ := hR_759
                                    refine jj_if_eqT (tgt := 70) C dX3_readSubscriptions_41 (by decide) (by decide) ?_
                                    refine jj_iconst (v := 0) C dX3_readSubscriptions_70 (by decide) ?_
                                    exact jj_zret C rfl ⟨[], pl_754, rfl, rfl, hok_755, hfr, hfa, (Or.inl ⟨1, n_691, _, (by decide), hf_693, hf_760, (ps_subs.nx ht_37 hkd_38.1 (ps_sub.of (ps_step.ok ht_37 (Or.inr (Or.inr ⟨hw_98, by decide, rfl⟩))) hq_132) (ps_subs.nx ht_171 hkd_172.1 (ps_sub.of (ps_step.ok ht_171 (Or.inr (Or.inr ⟨hw_232, by decide, rfl⟩))) hq_266) (ps_subs.nx ht_305 hkd_306.1 (ps_sub.of (ps_step.ok ht_305 (Or.inr (Or.inr ⟨hw_366, by decide, rfl⟩))) hq_400) (ps_subs.nx ht_439 hkd_440.1 (ps_sub.of (ps_step.ok ht_439 (Or.inr (Or.inr ⟨hw_500, by decide, rfl⟩))) hq_534) (ps_subs.nx ht_573 hkd_574.1 (ps_sub.of (ps_step.ok ht_573 (Or.inr (Or.inr ⟨hw_634, by decide, rfl⟩))) hq_668) (ps_subs.nx ht_696 hkd_697.1 ⟨(1, n_691, 0), (1, n_691, 0), (1, n_691, 0), (ps_step.no ht_696 (Or.inl ⟨hw_752, rfl⟩) (by decide)), (ps_step.st (show (1 : Nat) ≠ 0 by decide)), (ps_step.st (show (1 : Nat) ≠ 0 by decide)), (ps_step.st (show (1 : Nat) ≠ 0 by decide))⟩ (ps_subs.er (k := 0) (by decide)))))))), rfl⟩)⟩ dX3_readSubscriptions_71 (jj_le rfl) (jj_le rfl)
                                  · exact absurd (hw_753.one (n := n2) (by decide) (by unfold ps_le; decide) (by omega)).2 hkd_697.2.1
                                · have hzn_702 := ht_707.le (by omega)
                                  refine jj_aload_n C dX3_readSubscriptions_15 rfl ?_
                                  refine tt_getF C hok_672 jk_4 0 (by decide) jw_70cd29f103 (t := (2, 10, 0)) hk0 (by decide) rfl rfl hs0 dX3_readSubscriptions_16 ?_
                                  refine tt_getF C hok_672 jk_10 5 (by decide) jw_601d0e39ae (t := (0, (-2147483648), 2147483647)) hkt (by decide) rfl rfl hf_706 dX3_readSubscriptions_19 ?_
                                  refine jj_if_neT (tgt := 27) C dX3_readSubscriptions_22 (by decide) (by decide) ?_
                                  refine jj_aload_n C dX3_readSubscriptions_27 rfl ?_
                                  refine jj_aload_n C dX3_readSubscriptions_28 rfl ?_
                                  refine tt_getF C hok_672 jk_4 0 (by decide) jw_70cd29f103 (t := (2, 10, 0)) hk0 (by decide) rfl rfl hs0 dX3_readSubscriptions_29 ?_
                                  refine jj_ldcs (k := 4) (tx := "subscribe") C dX3_readSubscriptions_32 (by decide +kernel) ?_
                                  obtain ⟨qc, gs, hqc⟩ := tt_recv (cx := []) hok_672 hkt (by decide) rfl
                                  refine tt_callV (rest := [.ref h0]) C (te_isWord_subscribe hl D cA ak tk a9 n2 n_703 n_702 (1 : Int32) u c hkt hk9 (by omega) (by omega) (by omega) hc ⟨fun _ => hkd_708, fun _ => rfl⟩ hok_672 hx0 hf_705 hf_704 hf_706 hu) [] [] rfl rfl (by decide) (by decide) (by decide) qc hqc rfl rfl jw_b0fe72c6f4 jw_5e9522a00c jw_73cf9edcb7 jw_a9e7b602dc jw_ce1c1f12e9 jn_X9_isWord rfl (jj_le rfl) (jj_le rfl) (jj_le rfl) (jj_le rfl) (jj_le rfl) dX3_readSubscriptions_34 rfl (fun _ _ _ hX => hX.elim) (fun rx pl_761 r O_765 => ?_)
                                  obtain ⟨rfl, hok_762, hr_763, ha_764, hR_766⟩ := O_765
                                  replace hs0 := hr_763.at hk0 (by decide) (by decide) hs0
                                  replace hx0 := hr_763.at hkt (by decide) (by decide) hx0
                                  replace hx2 := hr_763.at hkt (by decide) (by decide) hx2
                                  replace hs1 := hr_763.at hk0 (by decide) (by decide) hs1
                                  replace hsi := hr_763.at hkb (by decide) (by decide) hsi
                                  replace hf_670 := hr_763.at hkb (by decide) (by decide) hf_670
                                  replace hf_704 := hr_763.at hkt (by decide) (by decide) hf_704
                                  replace hf_705 := hr_763.at hkt (by decide) (by decide) hf_705
                                  replace hf_706 := hr_763.at hkt (by decide) (by decide) hf_706
                                  replace hu := ha_764.at hk9 (by decide) (by decide) hu
                                  replace hfr := hfr.trans (hr_763.sub (by decide))
                                  replace hfa := hfa.trans (ha_764.sub (by decide))
                                  rcases hR_766 with ⟨hw_767, rfl⟩ | ⟨hw_768, rfl⟩
                                  · refine jj_iconst (v := 1) C dX3_readSubscriptions_37 (by decide) ?_
                                    obtain ⟨qc, gs, hqc⟩ := tt_recv (cx := []) hok_762 hk0 (by decide) rfl
                                    refine tt_callV (rest := []) C (te_accept_01 hl D cA ak h0 hk0 hok_762) [] [] rfl rfl (by decide) (by decide) (by decide) qc hqc rfl rfl jw_713f4d2af1 jw_b3e457240a jw_58c48ce796 jw_9d546d0b6f jw_0001e2e84f jn_X3_accept rfl (jj_le rfl) (jj_le rfl) (jj_le rfl) (jj_le rfl) (jj_le rfl) dX3_readSubscriptions_38 rfl (fun _ _ _ hX => hX.elim) (fun rx pl_769 r O_773 => ?_)
                                    obtain ⟨rfl, hok_770, hr_771, ha_772, hR_774⟩ := O_773
                                    replace hs0 := hr_771.at hk0 (by decide) (by decide) hs0
                                    replace hx0 := hr_771.at hkt (by decide) (by decide) hx0
                                    replace hx2 := hr_771.at hkt (by decide) (by decide) hx2
                                    replace hs1 := hr_771.at hk0 (by decide) (by decide) hs1
                                    replace hsi := hr_771.at hkb (by decide) (by decide) hsi
                                    replace hf_670 := hr_771.at hkb (by decide) (by decide) hf_670
                                    replace hf_704 := hr_771.at hkt (by decide) (by decide) hf_704
                                    replace hf_705 := hr_771.at hkt (by decide) (by decide) hf_705
                                    replace hf_706 := hr_771.at hkt (by decide) (by decide) hf_706
                                    replace hu := ha_772.at hk9 (by decide) (by decide) hu
                                    replace hfr := hfr.trans (hr_771.sub (by decide))
                                    replace hfa := hfa.trans (ha_772.sub (by decide))
                                    obtain ⟨hf_775, rfl⟩ := hR_774
                                    refine jj_if_eqT (tgt := 70) C dX3_readSubscriptions_41 (by decide) (by decide) ?_
                                    refine jj_iconst (v := 0) C dX3_readSubscriptions_70 (by decide) ?_
                                    exact jj_zret C rfl ⟨[], pl_769, rfl, rfl, hok_770, hfr, hfa, (Or.inl ⟨1, n_702, _, (by decide), hf_704, hf_775, (ps_subs.nx ht_37 hkd_38.1 (ps_sub.of (ps_step.ok ht_37 (Or.inr (Or.inr ⟨hw_98, by decide, rfl⟩))) hq_132) (ps_subs.nx ht_171 hkd_172.1 (ps_sub.of (ps_step.ok ht_171 (Or.inr (Or.inr ⟨hw_232, by decide, rfl⟩))) hq_266) (ps_subs.nx ht_305 hkd_306.1 (ps_sub.of (ps_step.ok ht_305 (Or.inr (Or.inr ⟨hw_366, by decide, rfl⟩))) hq_400) (ps_subs.nx ht_439 hkd_440.1 (ps_sub.of (ps_step.ok ht_439 (Or.inr (Or.inr ⟨hw_500, by decide, rfl⟩))) hq_534) (ps_subs.nx ht_573 hkd_574.1 (ps_sub.of (ps_step.ok ht_573 (Or.inr (Or.inr ⟨hw_634, by decide, rfl⟩))) hq_668) (ps_subs.nx ht_707 hkd_708.1 ⟨(1, n_702, 0), (1, n_702, 0), (1, n_702, 0), (ps_step.no ht_707 (Or.inl ⟨hw_767, rfl⟩) (by decide)), (ps_step.st (show (1 : Nat) ≠ 0 by decide)), (ps_step.st (show (1 : Nat) ≠ 0 by decide)), (ps_step.st (show (1 : Nat) ≠ 0 by decide))⟩ (ps_subs.er (k := 0) (by decide)))))))), rfl⟩)⟩ dX3_readSubscriptions_71 (jj_le rfl) (jj_le rfl)
                                  · refine jj_iconst (v := 1) C dX3_readSubscriptions_37 (by decide) ?_
                                    obtain ⟨qc, gs, hqc⟩ := tt_recv (cx := []) hok_762 hk0 (by decide) rfl
                                    refine tt_callV (rest := []) C (te_accept_11 hl D cA ak h0 hk0 hok_762) [] [] rfl rfl (by decide) (by decide) (by decide) qc hqc rfl rfl jw_713f4d2af1 jw_b3e457240a jw_58c48ce796 jw_9d546d0b6f jw_0001e2e84f jn_X3_accept rfl (jj_le rfl) (jj_le rfl) (jj_le rfl) (jj_le rfl) (jj_le rfl) dX3_readSubscriptions_38 rfl (fun _ _ _ hX => hX.elim) (fun rx pl_776 r O_780 => ?_)
                                    obtain ⟨rfl, hok_777, hr_778, ha_779, hR_781⟩ := O_780
                                    replace hs0 := hr_778.at hk0 (by decide) (by decide) hs0
                                    replace hx0 := hr_778.at hkt (by decide) (by decide) hx0
                                    replace hx2 := hr_778.at hkt (by decide) (by decide) hx2
                                    replace hs1 := hr_778.at hk0 (by decide) (by decide) hs1
                                    replace hsi := hr_778.at hkb (by decide) (by decide) hsi
                                    replace hf_670 := hr_778.at hkb (by decide) (by decide) hf_670
                                    replace hf_704 := hr_778.at hkt (by decide) (by decide) hf_704
                                    replace hf_705 := hr_778.at hkt (by decide) (by decide) hf_705
                                    replace hf_706 := hr_778.at hkt (by decide) (by decide) hf_706
                                    replace hu := ha_779.at hk9 (by decide) (by decide) hu
                                    replace hfr := hfr.trans (hr_778.sub (by decide))
                                    replace hfa := hfa.trans (ha_779.sub (by decide))
                                    obtain rfl := hR_781
                                    refine jj_if_eqF (tgt := 70) C dX3_readSubscriptions_41 (by decide) (by decide) ?_
                                    refine jj_aload_n C dX3_readSubscriptions_44 rfl ?_
                                    refine jj_iload_n C dX3_readSubscriptions_45 rfl ?_
                                    refine jj_bipush (v := 12) C dX3_readSubscriptions_46 (by decide) ?_
                                    refine jj_icmp_geF (tgt := 55) C dX3_readSubscriptions_48 (by decide) (by decide) ?_
                                    refine jj_iconst (v := 1) C dX3_readSubscriptions_51 (by decide) ?_
                                    refine jj_goto (tgt := 56) C dX3_readSubscriptions_52 (by decide) ?_
                                    refine jj_iconst (v := 3) C dX3_readSubscriptions_56 (by decide) ?_
                                    obtain ⟨qc, gs, hqc⟩ := tt_recv (cx := []) hok_777 hk0 (by decide) rfl
                                    refine tt_callV (rest := []) C (te_accept_13 hl D cA ak h0 hk0 hok_777) [] [] rfl rfl (by decide) (by decide) (by decide) qc hqc rfl rfl jw_713f4d2af1 jw_b3e457240a jw_58c48ce796 jw_9d546d0b6f jw_0001e2e84f jn_X3_accept rfl (jj_le rfl) (jj_le rfl) (jj_le rfl) (jj_le rfl) (jj_le rfl) dX3_readSubscriptions_57 rfl (fun _ _ _ hX => hX.elim) (fun rx pl_782 r O_786 => ?_)
                                    obtain ⟨rfl, hok_783, hr_784, ha_785, hR_787⟩ := O_786
                                    replace hs0 := hr_784.at hk0 (by decide) (by decide) hs0
                                    replace hx0 := hr_784.at hkt (by decide) (by decide) hx0
                                    replace hx2 := hr_784.at hkt (by decide) (by decide) hx2
                                    replace hs1 := hr_784.at hk0 (by decide) (by decide) hs1
                                    replace hsi := hr_784.at hkb (by decide) (by decide) hsi
                                    replace hf_670 := hr_784.at hkb (by decide) (by decide) hf_670
                                    replace hf_704 := hr_784.at hkt (by decide) (by decide) hf_704
                                    replace hf_705 := hr_784.at hkt (by decide) (by decide) hf_705
                                    replace hf_706 := hr_784.at hkt (by decide) (by decide) hf_706
                                    replace hu := ha_785.at hk9 (by decide) (by decide) hu
                                    replace hfr := hfr.trans (hr_784.sub (by decide))
                                    replace hfa := hfa.trans (ha_785.sub (by decide))
                                    obtain rfl := hR_787
                                    refine jj_if_eqF (tgt := 70) C dX3_readSubscriptions_60 (by decide) (by decide) ?_
                                    refine jj_aload_n C dX3_readSubscriptions_63 rfl ?_
                                    obtain ⟨qc, gs, hqc⟩ := tt_recv (cx := []) hok_783 hk0 (by decide) rfl
                                    refine tt_callV (rest := []) C (te_readSubscription hl D cA ak h0 tk a9 bk n2 n_703 u c iv 5 hk0 hkt hk9 hkb (by omega) (by omega) hc (by omega) (by omega) (by omega) hok_783 hs0 hx0 hx2 hf_705 hs1 hsi hf_670 hu) [] [] rfl rfl (by decide) (by decide) (by decide) qc hqc rfl rfl jw_b50e5c10ea jw_23105775d0 jw_16355fb5ab jw_9d546d0b6f jw_0cc88cc191 jn_X3_readSubscription rfl (jj_le rfl) (jj_le rfl) (jj_le rfl) (jj_le rfl) (jj_le rfl) dX3_readSubscriptions_64 rfl (fun _ _ _ hX => hX.elim) (fun rx pl_788 r O_792 => ?_)
                                    obtain ⟨rfl, hok_789, hr_790, ha_791, hR_793⟩ := O_792
                                    replace hs0 := hr_790.at hk0 (by decide) (by decide) hs0
                                    replace hx0 := hr_790.at hkt (by decide) (by decide) hx0
                                    replace hx2 := hr_790.at hkt (by decide) (by decide) hx2
                                    replace hs1 := hr_790.at hk0 (by decide) (by decide) hs1
                                    replace hsi := hr_790.at hkb (by decide) (by decide) hsi
                                    replace hu := ha_791.at hk9 (by decide) (by decide) hu
                                    replace hfr := hfr.trans (hr_790.sub (by decide))
                                    replace hfa := hfa.trans (ha_791.sub (by decide))
                                    rcases hR_793 with ⟨n_795, n_794, hn_799, hf_796, hf_797, hq_798, rfl⟩ | ⟨n_800, hle_803, hf_801, hf_804, hq_802, rfl⟩
                                    · refine jj_if_neF (tgt := 72) C dX3_readSubscriptions_67 (by decide) (by decide) ?_
                                      refine jj_iconst (v := 0) C dX3_readSubscriptions_70 (by decide) ?_
                                      exact jj_zret C rfl ⟨[], pl_788, rfl, rfl, hok_789, hfr, hfa, (Or.inl ⟨n_795, n_794, _, hn_799, hf_796, hf_797, (ps_subs.nx ht_37 hkd_38.1 (ps_sub.of (ps_step.ok ht_37 (Or.inr (Or.inr ⟨hw_98, by decide, rfl⟩))) hq_132) (ps_subs.nx ht_171 hkd_172.1 (ps_sub.of (ps_step.ok ht_171 (Or.inr (Or.inr ⟨hw_232, by decide, rfl⟩))) hq_266) (ps_subs.nx ht_305 hkd_306.1 (ps_sub.of (ps_step.ok ht_305 (Or.inr (Or.inr ⟨hw_366, by decide, rfl⟩))) hq_400) (ps_subs.nx ht_439 hkd_440.1 (ps_sub.of (ps_step.ok ht_439 (Or.inr (Or.inr ⟨hw_500, by decide, rfl⟩))) hq_534) (ps_subs.nx ht_573 hkd_574.1 (ps_sub.of (ps_step.ok ht_573 (Or.inr (Or.inr ⟨hw_634, by decide, rfl⟩))) hq_668) (ps_subs.nx ht_707 hkd_708.1 (ps_sub.of (ps_step.ok ht_707 (Or.inr (Or.inr ⟨hw_768, by decide, rfl⟩))) hq_798) (ps_subs.er (k := 0) hn_799))))))), rfl⟩)⟩ dX3_readSubscriptions_71 (jj_le rfl) (jj_le rfl)
                                    · refine jj_if_neT (tgt := 72) C dX3_readSubscriptions_67 (by decide) (by decide) ?_
                                      refine jj_iinc (v := 6) C dX3_readSubscriptions_72 rfl (by decide) (by decide) rfl ?_
                                      refine jj_goto (tgt := 2) C dX3_readSubscriptions_75 (by decide) ?_
                                      refine jj_iload_n C dX3_readSubscriptions_2 rfl ?_
                                      refine jj_bipush (v := 12) C dX3_readSubscriptions_3 (by decide) ?_
                                      refine jj_icmp_gtF (tgt := 78) C dX3_readSubscriptions_5 (by decide) (by decide) ?_
                                      refine jj_aload_n C dX3_readSubscriptions_8 rfl ?_
                                      refine tt_getF C hok_789 jk_4 0 (by decide) jw_70cd29f103 (t := (2, 10, 0)) hk0 (by decide) rfl rfl hs0 dX3_readSubscriptions_9 ?_
                                      obtain ⟨qc, gs, hqc⟩ := tt_recv (cx := []) hok_789 hkt (by decide) rfl
                                      refine tt_callV (rest := []) C (te_advance hl D cA ak tk a9 n2 n_800 u c hkt hk9 (by omega) (by omega) hc hok_789 hx0 hx2 hf_801 hu) [] [] rfl rfl (by decide) (by decide) (by decide) qc hqc rfl rfl jw_97c023d194 jw_37f6ee43e0 jw_46baf1fc7b jw_a9e7b602dc jw_0d4db63612 jn_X9_advance rfl (jj_le rfl) (jj_le rfl) (jj_le rfl) (jj_le rfl) (jj_le rfl) dX3_readSubscriptions_12 rfl (fun _ _ _ hX => hX.elim) (fun rx pl_805 r O_809 => ?_)
                                      obtain ⟨rfl, hok_806, hr_807, ha_808, hR_810⟩ := O_809
                                      replace hs0 := hr_807.at hk0 (by decide) (by decide) hs0
                                      replace hx0 := hr_807.at hkt (by decide) (by decide) hx0
                                      replace hx2 := hr_807.at hkt (by decide) (by decide) hx2
                                      replace hs1 := hr_807.at hk0 (by decide) (by decide) hs1
                                      replace hsi := hr_807.at hkb (by decide) (by decide) hsi
                                      replace hf_804 := hr_807.at hkb (by decide) (by decide) hf_804
                                      replace hu := ha_808.at hk9 (by decide) (by decide) hu
                                      replace hfr := hfr.trans (hr_807.sub (by decide))
                                      replace hfa := hfa.trans (ha_808.sub (by decide))
                                      rcases hR_810 with ⟨n_811, n_812, hf_813, hf_814, hf_815, ht_816, hkd_817, rfl⟩ | ⟨n_818, n_819, hf_820, hf_821, hf_822, ht_823, hkd_824, rfl⟩ | ⟨n_825, n_826, hf_827, hf_828, hf_829, ht_830, hkd_831, ⟨x_832, hf_833, hq_834, hq_835⟩, rfl⟩ | ⟨n_836, n_837, hf_838, hf_839, hf_840, ht_841, hkd_842, rfl⟩ | ⟨n_843, n_844, hf_845, hf_846, hf_847, ht_848, hkd_849, rfl⟩
                                      · have hzn_811 := ht_816.le (by omega)
                                        refine jj_aload_n C dX3_readSubscriptions_15 rfl ?_
                                        refine tt_getF C hok_806 jk_4 0 (by decide) jw_70cd29f103 (t := (2, 10, 0)) hk0 (by decide) rfl rfl hs0 dX3_readSubscriptions_16 ?_
                                        refine tt_getF C hok_806 jk_10 5 (by decide) jw_601d0e39ae (t := (0, (-2147483648), 2147483647)) hkt (by decide) rfl rfl hf_815 dX3_readSubscriptions_19 ?_
                                        refine jj_if_neT (tgt := 27) C dX3_readSubscriptions_22 (by decide) (by decide) ?_
                                        refine jj_aload_n C dX3_readSubscriptions_27 rfl ?_
                                        refine jj_aload_n C dX3_readSubscriptions_28 rfl ?_
                                        refine tt_getF C hok_806 jk_4 0 (by decide) jw_70cd29f103 (t := (2, 10, 0)) hk0 (by decide) rfl rfl hs0 dX3_readSubscriptions_29 ?_
                                        refine jj_ldcs (k := 4) (tx := "subscribe") C dX3_readSubscriptions_32 (by decide +kernel) ?_
                                        obtain ⟨qc, gs, hqc⟩ := tt_recv (cx := []) hok_806 hkt (by decide) rfl
                                        refine tt_callV (rest := [.ref h0]) C (te_isWord_subscribe hl D cA ak tk a9 n2 n_812 n_811 (4 : Int32) u c hkt hk9 (by omega) (by omega) (by omega) hc ⟨fun q => absurd q (by decide), fun q => absurd q.2 hkd_817.2.1⟩ hok_806 hx0 hf_814 hf_813 hf_815 hu) [] [] rfl rfl (by decide) (by decide) (by decide) qc hqc rfl rfl jw_b0fe72c6f4 jw_5e9522a00c jw_73cf9edcb7 jw_a9e7b602dc jw_ce1c1f12e9 jn_X9_isWord rfl (jj_le rfl) (jj_le rfl) (jj_le rfl) (jj_le rfl) (jj_le rfl) dX3_readSubscriptions_34 rfl (fun _ _ _ hX => hX.elim) (fun rx pl_850 r O_854 => ?_)
                                        obtain ⟨rfl, hok_851, hr_852, ha_853, hR_855⟩ := O_854
                                        replace hs0 := hr_852.at hk0 (by decide) (by decide) hs0
                                        replace hx0 := hr_852.at hkt (by decide) (by decide) hx0
                                        replace hx2 := hr_852.at hkt (by decide) (by decide) hx2
                                        replace hs1 := hr_852.at hk0 (by decide) (by decide) hs1
                                        replace hsi := hr_852.at hkb (by decide) (by decide) hsi
                                        replace hf_804 := hr_852.at hkb (by decide) (by decide) hf_804
                                        replace hf_813 := hr_852.at hkt (by decide) (by decide) hf_813
                                        replace hf_814 := hr_852.at hkt (by decide) (by decide) hf_814
                                        replace hf_815 := hr_852.at hkt (by decide) (by decide) hf_815
                                        replace hu := ha_853.at hk9 (by decide) (by decide) hu
                                        replace hfr := hfr.trans (hr_852.sub (by decide))
                                        replace hfa := hfa.trans (ha_853.sub (by decide))
                                        rcases hR_855 with ⟨hw_856, rfl⟩ | ⟨hw_857, rfl⟩
                                        · refine jj_iconst (v := 1) C dX3_readSubscriptions_37 (by decide) ?_
                                          obtain ⟨qc, gs, hqc⟩ := tt_recv (cx := []) hok_851 hk0 (by decide) rfl
                                          refine tt_callV (rest := []) C (te_accept_01 hl D cA ak h0 hk0 hok_851) [] [] rfl rfl (by decide) (by decide) (by decide) qc hqc rfl rfl jw_713f4d2af1 jw_b3e457240a jw_58c48ce796 jw_9d546d0b6f jw_0001e2e84f jn_X3_accept rfl (jj_le rfl) (jj_le rfl) (jj_le rfl) (jj_le rfl) (jj_le rfl) dX3_readSubscriptions_38 rfl (fun _ _ _ hX => hX.elim) (fun rx pl_858 r O_862 => ?_)
                                          obtain ⟨rfl, hok_859, hr_860, ha_861, hR_863⟩ := O_862
                                          replace hs0 := hr_860.at hk0 (by decide) (by decide) hs0
                                          replace hx0 := hr_860.at hkt (by decide) (by decide) hx0
                                          replace hx2 := hr_860.at hkt (by decide) (by decide) hx2
                                          replace hs1 := hr_860.at hk0 (by decide) (by decide) hs1
                                          replace hsi := hr_860.at hkb (by decide) (by decide) hsi
                                          replace hf_804 := hr_860.at hkb (by decide) (by decide) hf_804
                                          replace hf_813 := hr_860.at hkt (by decide) (by decide) hf_813
                                          replace hf_814 := hr_860.at hkt (by decide) (by decide) hf_814
                                          replace hf_815 := hr_860.at hkt (by decide) (by decide) hf_815
                                          replace hu := ha_861.at hk9 (by decide) (by decide) hu
                                          replace hfr := hfr.trans (hr_860.sub (by decide))
                                          replace hfa := hfa.trans (ha_861.sub (by decide))
                                          obtain ⟨hf_864, rfl⟩ := hR_863
                                          refine jj_if_eqT (tgt := 70) C dX3_readSubscriptions_41 (by decide) (by decide) ?_
                                          refine jj_iconst (v := 0) C dX3_readSubscriptions_70 (by decide) ?_
                                          exact jj_zret C rfl ⟨[], pl_858, rfl, rfl, hok_859, hfr, hfa, (Or.inl ⟨1, n_811, _, (by decide), hf_813, hf_864, (ps_subs.nx ht_37 hkd_38.1 (ps_sub.of (ps_step.ok ht_37 (Or.inr (Or.inr ⟨hw_98, by decide, rfl⟩))) hq_132) (ps_subs.nx ht_171 hkd_172.1 (ps_sub.of (ps_step.ok ht_171 (Or.inr (Or.inr ⟨hw_232, by decide, rfl⟩))) hq_266) (ps_subs.nx ht_305 hkd_306.1 (ps_sub.of (ps_step.ok ht_305 (Or.inr (Or.inr ⟨hw_366, by decide, rfl⟩))) hq_400) (ps_subs.nx ht_439 hkd_440.1 (ps_sub.of (ps_step.ok ht_439 (Or.inr (Or.inr ⟨hw_500, by decide, rfl⟩))) hq_534) (ps_subs.nx ht_573 hkd_574.1 (ps_sub.of (ps_step.ok ht_573 (Or.inr (Or.inr ⟨hw_634, by decide, rfl⟩))) hq_668) (ps_subs.nx ht_707 hkd_708.1 (ps_sub.of (ps_step.ok ht_707 (Or.inr (Or.inr ⟨hw_768, by decide, rfl⟩))) hq_802) (ps_subs.nx ht_816 hkd_817.1 ⟨(1, n_811, 0), (1, n_811, 0), (1, n_811, 0), (ps_step.no ht_816 (Or.inl ⟨hw_856, rfl⟩) (by decide)), (ps_step.st (show (1 : Nat) ≠ 0 by decide)), (ps_step.st (show (1 : Nat) ≠ 0 by decide)), (ps_step.st (show (1 : Nat) ≠ 0 by decide))⟩ (ps_subs.er (k := 0) (by decide))))))))), rfl⟩)⟩ dX3_readSubscriptions_71 (jj_le rfl) (jj_le rfl)
                                        · exact absurd (hw_857.one (n := n2) (by decide) (by unfold ps_le; decide) (by omega)).2 hkd_817.2.1
                                      · have hzn_818 := ht_823.le (by omega)
                                        refine jj_aload_n C dX3_readSubscriptions_15 rfl ?_
                                        refine tt_getF C hok_806 jk_4 0 (by decide) jw_70cd29f103 (t := (2, 10, 0)) hk0 (by decide) rfl rfl hs0 dX3_readSubscriptions_16 ?_
                                        refine tt_getF C hok_806 jk_10 5 (by decide) jw_601d0e39ae (t := (0, (-2147483648), 2147483647)) hkt (by decide) rfl rfl hf_822 dX3_readSubscriptions_19 ?_
                                        refine jj_if_neT (tgt := 27) C dX3_readSubscriptions_22 (by decide) (by decide) ?_
                                        refine jj_aload_n C dX3_readSubscriptions_27 rfl ?_
                                        refine jj_aload_n C dX3_readSubscriptions_28 rfl ?_
                                        refine tt_getF C hok_806 jk_4 0 (by decide) jw_70cd29f103 (t := (2, 10, 0)) hk0 (by decide) rfl rfl hs0 dX3_readSubscriptions_29 ?_
                                        refine jj_ldcs (k := 4) (tx := "subscribe") C dX3_readSubscriptions_32 (by decide +kernel) ?_
                                        obtain ⟨qc, gs, hqc⟩ := tt_recv (cx := []) hok_806 hkt (by decide) rfl
                                        refine tt_callV (rest := [.ref h0]) C (te_isWord_subscribe hl D cA ak tk a9 n2 n_819 n_818 (3 : Int32) u c hkt hk9 (by omega) (by omega) (by omega) hc ⟨fun q => absurd q (by decide), fun q => absurd q.2 hkd_824.2.1⟩ hok_806 hx0 hf_821 hf_820 hf_822 hu) [] [] rfl rfl (by decide) (by decide) (by decide) qc hqc rfl rfl jw_b0fe72c6f4 jw_5e9522a00c jw_73cf9edcb7 jw_a9e7b602dc jw_ce1c1f12e9 jn_X9_isWord rfl (jj_le rfl) (jj_le rfl) (jj_le rfl) (jj_le rfl) (jj_le rfl) dX3_readSubscriptions_34 rfl (fun _ _ _ hX => hX.elim) (fun rx pl_865 r O_869 => ?_)
                                        obtain ⟨rfl, hok_866, hr_867, ha_868, hR_870⟩ := O_869
                                        replace hs0 := hr_867.at hk0 (by decide) (by decide) hs0
                                        replace hx0 := hr_867.at hkt (by decide) (by decide) hx0
                                        replace hx2 := hr_867.at hkt (by decide) (by decide) hx2
                                        replace hs1 := hr_867.at hk0 (by decide) (by decide) hs1
                                        replace hsi := hr_867.at hkb (by decide) (by decide) hsi
                                        replace hf_804 := hr_867.at hkb (by decide) (by decide) hf_804
                                        replace hf_820 := hr_867.at hkt (by decide) (by decide) hf_820
                                        replace hf_821 := hr_867.at hkt (by decide) (by decide) hf_821
                                        replace hf_822 := hr_867.at hkt (by decide) (by decide) hf_822
                                        replace hu := ha_868.at hk9 (by decide) (by decide) hu
                                        replace hfr := hfr.trans (hr_867.sub (by decide))
                                        replace hfa := hfa.trans (ha_868.sub (by decide))
                                        rcases hR_870 with ⟨hw_871, rfl⟩ | ⟨hw_872, rfl⟩
                                        · refine jj_iconst (v := 1) C dX3_readSubscriptions_37 (by decide) ?_
                                          obtain ⟨qc, gs, hqc⟩ := tt_recv (cx := []) hok_866 hk0 (by decide) rfl
                                          refine tt_callV (rest := []) C (te_accept_01 hl D cA ak h0 hk0 hok_866) [] [] rfl rfl (by decide) (by decide) (by decide) qc hqc rfl rfl jw_713f4d2af1 jw_b3e457240a jw_58c48ce796 jw_9d546d0b6f jw_0001e2e84f jn_X3_accept rfl (jj_le rfl) (jj_le rfl) (jj_le rfl) (jj_le rfl) (jj_le rfl) dX3_readSubscriptions_38 rfl (fun _ _ _ hX => hX.elim) (fun rx pl_873 r O_877 => ?_)
                                          obtain ⟨rfl, hok_874, hr_875, ha_876, hR_878⟩ := O_877
                                          replace hs0 := hr_875.at hk0 (by decide) (by decide) hs0
                                          replace hx0 := hr_875.at hkt (by decide) (by decide) hx0
                                          replace hx2 := hr_875.at hkt (by decide) (by decide) hx2
                                          replace hs1 := hr_875.at hk0 (by decide) (by decide) hs1
                                          replace hsi := hr_875.at hkb (by decide) (by decide) hsi
                                          replace hf_804 := hr_875.at hkb (by decide) (by decide) hf_804
                                          replace hf_820 := hr_875.at hkt (by decide) (by decide) hf_820
                                          replace hf_821 := hr_875.at hkt (by decide) (by decide) hf_821
                                          replace hf_822 := hr_875.at hkt (by decide) (by decide) hf_822
                                          replace hu := ha_876.at hk9 (by decide) (by decide) hu
                                          replace hfr := hfr.trans (hr_875.sub (by decide))
                                          replace hfa := hfa.trans (ha_876.sub (by decide))
                                          obtain ⟨hf_879, rfl⟩ := hR_878
                                          refine jj_if_eqT (tgt := 70) C dX3_readSubscriptions_41 (by decide) (by decide) ?_
                                          refine jj_iconst (v := 0) C dX3_readSubscriptions_70 (by decide) ?_
                                          exact jj_zret C rfl ⟨[], pl_873, rfl, rfl, hok_874, hfr, hfa, (Or.inl ⟨1, n_818, _, (by decide), hf_820, hf_879, (ps_subs.nx ht_37 hkd_38.1 (ps_sub.of (ps_step.ok ht_37 (Or.inr (Or.inr ⟨hw_98, by decide, rfl⟩))) hq_132) (ps_subs.nx ht_171 hkd_172.1 (ps_sub.of (ps_step.ok ht_171 (Or.inr (Or.inr ⟨hw_232, by decide, rfl⟩))) hq_266) (ps_subs.nx ht_305 hkd_306.1 (ps_sub.of (ps_step.ok ht_305 (Or.inr (Or.inr ⟨hw_366, by decide, rfl⟩))) hq_400) (ps_subs.nx ht_439 hkd_440.1 (ps_sub.of (ps_step.ok ht_439 (Or.inr (Or.inr ⟨hw_500, by decide, rfl⟩))) hq_534) (ps_subs.nx ht_573 hkd_574.1 (ps_sub.of (ps_step.ok ht_573 (Or.inr (Or.inr ⟨hw_634, by decide, rfl⟩))) hq_668) (ps_subs.nx ht_707 hkd_708.1 (ps_sub.of (ps_step.ok ht_707 (Or.inr (Or.inr ⟨hw_768, by decide, rfl⟩))) hq_802) (ps_subs.nx ht_823 hkd_824.1 ⟨(1, n_818, 0), (1, n_818, 0), (1, n_818, 0), (ps_step.no ht_823 (Or.inl ⟨hw_871, rfl⟩) (by decide)), (ps_step.st (show (1 : Nat) ≠ 0 by decide)), (ps_step.st (show (1 : Nat) ≠ 0 by decide)), (ps_step.st (show (1 : Nat) ≠ 0 by decide))⟩ (ps_subs.er (k := 0) (by decide))))))))), rfl⟩)⟩ dX3_readSubscriptions_71 (jj_le rfl) (jj_le rfl)
                                        · exact absurd (hw_872.one (n := n2) (by decide) (by unfold ps_le; decide) (by omega)).2 hkd_824.2.1
                                      · have hzn_825 := ht_830.le (by omega)
                                        have lx_832 := tt_lo x_832
                                        have ux_832 := tt_hi x_832
                                        refine jj_aload_n C dX3_readSubscriptions_15 rfl ?_
                                        refine tt_getF C hok_806 jk_4 0 (by decide) jw_70cd29f103 (t := (2, 10, 0)) hk0 (by decide) rfl rfl hs0 dX3_readSubscriptions_16 ?_
                                        refine tt_getF C hok_806 jk_10 5 (by decide) jw_601d0e39ae (t := (0, (-2147483648), 2147483647)) hkt (by decide) rfl rfl hf_829 dX3_readSubscriptions_19 ?_
                                        refine jj_if_neT (tgt := 27) C dX3_readSubscriptions_22 (by decide) (by decide) ?_
                                        refine jj_aload_n C dX3_readSubscriptions_27 rfl ?_
                                        refine jj_aload_n C dX3_readSubscriptions_28 rfl ?_
                                        refine tt_getF C hok_806 jk_4 0 (by decide) jw_70cd29f103 (t := (2, 10, 0)) hk0 (by decide) rfl rfl hs0 dX3_readSubscriptions_29 ?_
                                        refine jj_ldcs (k := 4) (tx := "subscribe") C dX3_readSubscriptions_32 (by decide +kernel) ?_
                                        obtain ⟨qc, gs, hqc⟩ := tt_recv (cx := []) hok_806 hkt (by decide) rfl
                                        refine tt_callV (rest := [.ref h0]) C (te_isWord_subscribe hl D cA ak tk a9 n2 n_826 n_825 (2 : Int32) u c hkt hk9 (by omega) (by omega) (by omega) hc ⟨fun q => absurd q (by decide), fun q => absurd q.2 hkd_831.2.1⟩ hok_806 hx0 hf_828 hf_827 hf_829 hu) [] [] rfl rfl (by decide) (by decide) (by decide) qc hqc rfl rfl jw_b0fe72c6f4 jw_5e9522a00c jw_73cf9edcb7 jw_a9e7b602dc jw_ce1c1f12e9 jn_X9_isWord rfl (jj_le rfl) (jj_le rfl) (jj_le rfl) (jj_le rfl) (jj_le rfl) dX3_readSubscriptions_34 rfl (fun _ _ _ hX => hX.elim) (fun rx pl_880 r O_884 => ?_)
                                        obtain ⟨rfl, hok_881, hr_882, ha_883, hR_885⟩ := O_884
                                        replace hs0 := hr_882.at hk0 (by decide) (by decide) hs0
                                        replace hx0 := hr_882.at hkt (by decide) (by decide) hx0
                                        replace hx2 := hr_882.at hkt (by decide) (by decide) hx2
                                        replace hs1 := hr_882.at hk0 (by decide) (by decide) hs1
                                        replace hsi := hr_882.at hkb (by decide) (by decide) hsi
                                        replace hf_804 := hr_882.at hkb (by decide) (by decide) hf_804
                                        replace hf_827 := hr_882.at hkt (by decide) (by decide) hf_827
                                        replace hf_828 := hr_882.at hkt (by decide) (by decide) hf_828
                                        replace hf_829 := hr_882.at hkt (by decide) (by decide) hf_829
                                        replace hf_833 := hr_882.at hkt (by decide) (by decide) hf_833
                                        replace hu := ha_883.at hk9 (by decide) (by decide) hu
                                        replace hfr := hfr.trans (hr_882.sub (by decide))
                                        replace hfa := hfa.trans (ha_883.sub (by decide))
                                        rcases hR_885 with ⟨hw_886, rfl⟩ | ⟨hw_887, rfl⟩
                                        · refine jj_iconst (v := 1) C dX3_readSubscriptions_37 (by decide) ?_
                                          obtain ⟨qc, gs, hqc⟩ := tt_recv (cx := []) hok_881 hk0 (by decide) rfl
                                          refine tt_callV (rest := []) C (te_accept_01 hl D cA ak h0 hk0 hok_881) [] [] rfl rfl (by decide) (by decide) (by decide) qc hqc rfl rfl jw_713f4d2af1 jw_b3e457240a jw_58c48ce796 jw_9d546d0b6f jw_0001e2e84f jn_X3_accept rfl (jj_le rfl) (jj_le rfl) (jj_le rfl) (jj_le rfl) (jj_le rfl) dX3_readSubscriptions_38 rfl (fun _ _ _ hX => hX.elim) (fun rx pl_888 r O_892 => ?_)
                                          obtain ⟨rfl, hok_889, hr_890, ha_891, hR_893⟩ := O_892
                                          replace hs0 := hr_890.at hk0 (by decide) (by decide) hs0
                                          replace hx0 := hr_890.at hkt (by decide) (by decide) hx0
                                          replace hx2 := hr_890.at hkt (by decide) (by decide) hx2
                                          replace hs1 := hr_890.at hk0 (by decide) (by decide) hs1
                                          replace hsi := hr_890.at hkb (by decide) (by decide) hsi
                                          replace hf_804 := hr_890.at hkb (by decide) (by decide) hf_804
                                          replace hf_827 := hr_890.at hkt (by decide) (by decide) hf_827
                                          replace hf_828 := hr_890.at hkt (by decide) (by decide) hf_828
                                          replace hf_829 := hr_890.at hkt (by decide) (by decide) hf_829
                                          replace hf_833 := hr_890.at hkt (by decide) (by decide) hf_833
                                          replace hu := ha_891.at hk9 (by decide) (by decide) hu
                                          replace hfr := hfr.trans (hr_890.sub (by decide))
                                          replace hfa := hfa.trans (ha_891.sub (by decide))
                                          obtain ⟨hf_894, rfl⟩ := hR_893
                                          refine jj_if_eqT (tgt := 70) C dX3_readSubscriptions_41 (by decide) (by decide) ?_
                                          refine jj_iconst (v := 0) C dX3_readSubscriptions_70 (by decide) ?_
                                          exact jj_zret C rfl ⟨[], pl_888, rfl, rfl, hok_889, hfr, hfa, (Or.inl ⟨1, n_825, _, (by decide), hf_827, hf_894, (ps_subs.nx ht_37 hkd_38.1 (ps_sub.of (ps_step.ok ht_37 (Or.inr (Or.inr ⟨hw_98, by decide, rfl⟩))) hq_132) (ps_subs.nx ht_171 hkd_172.1 (ps_sub.of (ps_step.ok ht_171 (Or.inr (Or.inr ⟨hw_232, by decide, rfl⟩))) hq_266) (ps_subs.nx ht_305 hkd_306.1 (ps_sub.of (ps_step.ok ht_305 (Or.inr (Or.inr ⟨hw_366, by decide, rfl⟩))) hq_400) (ps_subs.nx ht_439 hkd_440.1 (ps_sub.of (ps_step.ok ht_439 (Or.inr (Or.inr ⟨hw_500, by decide, rfl⟩))) hq_534) (ps_subs.nx ht_573 hkd_574.1 (ps_sub.of (ps_step.ok ht_573 (Or.inr (Or.inr ⟨hw_634, by decide, rfl⟩))) hq_668) (ps_subs.nx ht_707 hkd_708.1 (ps_sub.of (ps_step.ok ht_707 (Or.inr (Or.inr ⟨hw_768, by decide, rfl⟩))) hq_802) (ps_subs.nx ht_830 hkd_831.1 ⟨(1, n_825, 0), (1, n_825, 0), (1, n_825, 0), (ps_step.no ht_830 (Or.inl ⟨hw_886, rfl⟩) (by decide)), (ps_step.st (show (1 : Nat) ≠ 0 by decide)), (ps_step.st (show (1 : Nat) ≠ 0 by decide)), (ps_step.st (show (1 : Nat) ≠ 0 by decide))⟩ (ps_subs.er (k := 0) (by decide))))))))), rfl⟩)⟩ dX3_readSubscriptions_71 (jj_le rfl) (jj_le rfl)
                                        · exact absurd (hw_887.one (n := n2) (by decide) (by unfold ps_le; decide) (by omega)).2 hkd_831.2.1
                                      · have hzn_836 := ht_841.le (by omega)
                                        refine jj_aload_n C dX3_readSubscriptions_15 rfl ?_
                                        refine tt_getF C hok_806 jk_4 0 (by decide) jw_70cd29f103 (t := (2, 10, 0)) hk0 (by decide) rfl rfl hs0 dX3_readSubscriptions_16 ?_
                                        refine tt_getF C hok_806 jk_10 5 (by decide) jw_601d0e39ae (t := (0, (-2147483648), 2147483647)) hkt (by decide) rfl rfl hf_840 dX3_readSubscriptions_19 ?_
                                        refine jj_if_neT (tgt := 27) C dX3_readSubscriptions_22 (by decide) (by decide) ?_
                                        refine jj_aload_n C dX3_readSubscriptions_27 rfl ?_
                                        refine jj_aload_n C dX3_readSubscriptions_28 rfl ?_
                                        refine tt_getF C hok_806 jk_4 0 (by decide) jw_70cd29f103 (t := (2, 10, 0)) hk0 (by decide) rfl rfl hs0 dX3_readSubscriptions_29 ?_
                                        refine jj_ldcs (k := 4) (tx := "subscribe") C dX3_readSubscriptions_32 (by decide +kernel) ?_
                                        obtain ⟨qc, gs, hqc⟩ := tt_recv (cx := []) hok_806 hkt (by decide) rfl
                                        refine tt_callV (rest := [.ref h0]) C (te_isWord_subscribe hl D cA ak tk a9 n2 n_837 n_836 (1 : Int32) u c hkt hk9 (by omega) (by omega) (by omega) hc ⟨fun _ => hkd_842, fun _ => rfl⟩ hok_806 hx0 hf_839 hf_838 hf_840 hu) [] [] rfl rfl (by decide) (by decide) (by decide) qc hqc rfl rfl jw_b0fe72c6f4 jw_5e9522a00c jw_73cf9edcb7 jw_a9e7b602dc jw_ce1c1f12e9 jn_X9_isWord rfl (jj_le rfl) (jj_le rfl) (jj_le rfl) (jj_le rfl) (jj_le rfl) dX3_readSubscriptions_34 rfl (fun _ _ _ hX => hX.elim) (fun rx pl_895 r O_899 => ?_)
                                        obtain ⟨rfl, hok_896, hr_897, ha_898, hR_900⟩ := O_899
                                        replace hs0 := hr_897.at hk0 (by decide) (by decide) hs0
                                        replace hx0 := hr_897.at hkt (by decide) (by decide) hx0
                                        replace hx2 := hr_897.at hkt (by decide) (by decide) hx2
                                        replace hs1 := hr_897.at hk0 (by decide) (by decide) hs1
                                        replace hsi := hr_897.at hkb (by decide) (by decide) hsi
                                        replace hf_804 := hr_897.at hkb (by decide) (by decide) hf_804
                                        replace hf_838 := hr_897.at hkt (by decide) (by decide) hf_838
                                        replace hf_839 := hr_897.at hkt (by decide) (by decide) hf_839
                                        replace hf_840 := hr_897.at hkt (by decide) (by decide) hf_840
                                        replace hu := ha_898.at hk9 (by decide) (by decide) hu
                                        replace hfr := hfr.trans (hr_897.sub (by decide))
                                        replace hfa := hfa.trans (ha_898.sub (by decide))
                                        rcases hR_900 with ⟨hw_901, rfl⟩ | ⟨hw_902, rfl⟩
                                        · refine jj_iconst (v := 1) C dX3_readSubscriptions_37 (by decide) ?_
                                          obtain ⟨qc, gs, hqc⟩ := tt_recv (cx := []) hok_896 hk0 (by decide) rfl
                                          refine tt_callV (rest := []) C (te_accept_01 hl D cA ak h0 hk0 hok_896) [] [] rfl rfl (by decide) (by decide) (by decide) qc hqc rfl rfl jw_713f4d2af1 jw_b3e457240a jw_58c48ce796 jw_9d546d0b6f jw_0001e2e84f jn_X3_accept rfl (jj_le rfl) (jj_le rfl) (jj_le rfl) (jj_le rfl) (jj_le rfl) dX3_readSubscriptions_38 rfl (fun _ _ _ hX => hX.elim) (fun rx pl_903 r O_907 => ?_)
                                          obtain ⟨rfl, hok_904, hr_905, ha_906, hR_908⟩ := O_907
                                          replace hs0 := hr_905.at hk0 (by decide) (by decide) hs0
                                          replace hx0 := hr_905.at hkt (by decide) (by decide) hx0
                                          replace hx2 := hr_905.at hkt (by decide) (by decide) hx2
                                          replace hs1 := hr_905.at hk0 (by decide) (by decide) hs1
                                          replace hsi := hr_905.at hkb (by decide) (by decide) hsi
                                          replace hf_804 := hr_905.at hkb (by decide) (by decide) hf_804
                                          replace hf_838 := hr_905.at hkt (by decide) (by decide) hf_838
                                          replace hf_839 := hr_905.at hkt (by decide) (by decide) hf_839
                                          replace hf_840 := hr_905.at hkt (by decide) (by decide) hf_840
                                          replace hu := ha_906.at hk9 (by decide) (by decide) hu
                                          replace hfr := hfr.trans (hr_905.sub (by decide))
                                          replace hfa := hfa.trans (ha_906.sub (by decide))
                                          obtain ⟨hf_909, rfl⟩ := hR_908
                                          refine jj_if_eqT (tgt := 70) C dX3_readSubscriptions_41 (by decide) (by decide) ?_
                                          refine jj_iconst (v := 0) C dX3_readSubscriptions_70 (by decide) ?_
                                          exact jj_zret C rfl ⟨[], pl_903, rfl, rfl, hok_904, hfr, hfa, (Or.inl ⟨1, n_836, _, (by decide), hf_838, hf_909, (ps_subs.nx ht_37 hkd_38.1 (ps_sub.of (ps_step.ok ht_37 (Or.inr (Or.inr ⟨hw_98, by decide, rfl⟩))) hq_132) (ps_subs.nx ht_171 hkd_172.1 (ps_sub.of (ps_step.ok ht_171 (Or.inr (Or.inr ⟨hw_232, by decide, rfl⟩))) hq_266) (ps_subs.nx ht_305 hkd_306.1 (ps_sub.of (ps_step.ok ht_305 (Or.inr (Or.inr ⟨hw_366, by decide, rfl⟩))) hq_400) (ps_subs.nx ht_439 hkd_440.1 (ps_sub.of (ps_step.ok ht_439 (Or.inr (Or.inr ⟨hw_500, by decide, rfl⟩))) hq_534) (ps_subs.nx ht_573 hkd_574.1 (ps_sub.of (ps_step.ok ht_573 (Or.inr (Or.inr ⟨hw_634, by decide, rfl⟩))) hq_668) (ps_subs.nx ht_707 hkd_708.1 (ps_sub.of (ps_step.ok ht_707 (Or.inr (Or.inr ⟨hw_768, by decide, rfl⟩))) hq_802) (ps_subs.nx ht_841 hkd_842.1 ⟨(1, n_836, 0), (1, n_836, 0), (1, n_836, 0), (ps_step.no ht_841 (Or.inl ⟨hw_901, rfl⟩) (by decide)), (ps_step.st (show (1 : Nat) ≠ 0 by decide)), (ps_step.st (show (1 : Nat) ≠ 0 by decide)), (ps_step.st (show (1 : Nat) ≠ 0 by decide))⟩ (ps_subs.er (k := 0) (by decide))))))))), rfl⟩)⟩ dX3_readSubscriptions_71 (jj_le rfl) (jj_le rfl)
                                        · refine jj_iconst (v := 1) C dX3_readSubscriptions_37 (by decide) ?_
                                          obtain ⟨qc, gs, hqc⟩ := tt_recv (cx := []) hok_896 hk0 (by decide) rfl
                                          refine tt_callV (rest := []) C (te_accept_11 hl D cA ak h0 hk0 hok_896) [] [] rfl rfl (by decide) (by decide) (by decide) qc hqc rfl rfl jw_713f4d2af1 jw_b3e457240a jw_58c48ce796 jw_9d546d0b6f jw_0001e2e84f jn_X3_accept rfl (jj_le rfl) (jj_le rfl) (jj_le rfl) (jj_le rfl) (jj_le rfl) dX3_readSubscriptions_38 rfl (fun _ _ _ hX => hX.elim) (fun rx pl_910 r O_914 => ?_)
                                          obtain ⟨rfl, hok_911, hr_912, ha_913, hR_915⟩ := O_914
                                          replace hs0 := hr_912.at hk0 (by decide) (by decide) hs0
                                          replace hx0 := hr_912.at hkt (by decide) (by decide) hx0
                                          replace hx2 := hr_912.at hkt (by decide) (by decide) hx2
                                          replace hs1 := hr_912.at hk0 (by decide) (by decide) hs1
                                          replace hsi := hr_912.at hkb (by decide) (by decide) hsi
                                          replace hf_804 := hr_912.at hkb (by decide) (by decide) hf_804
                                          replace hf_838 := hr_912.at hkt (by decide) (by decide) hf_838
                                          replace hf_839 := hr_912.at hkt (by decide) (by decide) hf_839
                                          replace hf_840 := hr_912.at hkt (by decide) (by decide) hf_840
                                          replace hu := ha_913.at hk9 (by decide) (by decide) hu
                                          replace hfr := hfr.trans (hr_912.sub (by decide))
                                          replace hfa := hfa.trans (ha_913.sub (by decide))
                                          obtain rfl := hR_915
                                          refine jj_if_eqF (tgt := 70) C dX3_readSubscriptions_41 (by decide) (by decide) ?_
                                          refine jj_aload_n C dX3_readSubscriptions_44 rfl ?_
                                          refine jj_iload_n C dX3_readSubscriptions_45 rfl ?_
                                          refine jj_bipush (v := 12) C dX3_readSubscriptions_46 (by decide) ?_
                                          refine jj_icmp_geF (tgt := 55) C dX3_readSubscriptions_48 (by decide) (by decide) ?_
                                          refine jj_iconst (v := 1) C dX3_readSubscriptions_51 (by decide) ?_
                                          refine jj_goto (tgt := 56) C dX3_readSubscriptions_52 (by decide) ?_
                                          refine jj_iconst (v := 3) C dX3_readSubscriptions_56 (by decide) ?_
                                          obtain ⟨qc, gs, hqc⟩ := tt_recv (cx := []) hok_911 hk0 (by decide) rfl
                                          refine tt_callV (rest := []) C (te_accept_13 hl D cA ak h0 hk0 hok_911) [] [] rfl rfl (by decide) (by decide) (by decide) qc hqc rfl rfl jw_713f4d2af1 jw_b3e457240a jw_58c48ce796 jw_9d546d0b6f jw_0001e2e84f jn_X3_accept rfl (jj_le rfl) (jj_le rfl) (jj_le rfl) (jj_le rfl) (jj_le rfl) dX3_readSubscriptions_57 rfl (fun _ _ _ hX => hX.elim) (fun rx pl_916 r O_920 => ?_)
                                          obtain ⟨rfl, hok_917, hr_918, ha_919, hR_921⟩ := O_920
                                          replace hs0 := hr_918.at hk0 (by decide) (by decide) hs0
                                          replace hx0 := hr_918.at hkt (by decide) (by decide) hx0
                                          replace hx2 := hr_918.at hkt (by decide) (by decide) hx2
                                          replace hs1 := hr_918.at hk0 (by decide) (by decide) hs1
                                          replace hsi := hr_918.at hkb (by decide) (by decide) hsi
                                          replace hf_804 := hr_918.at hkb (by decide) (by decide) hf_804
                                          replace hf_838 := hr_918.at hkt (by decide) (by decide) hf_838
                                          replace hf_839 := hr_918.at hkt (by decide) (by decide) hf_839
                                          replace hf_840 := hr_918.at hkt (by decide) (by decide) hf_840
                                          replace hu := ha_919.at hk9 (by decide) (by decide) hu
                                          replace hfr := hfr.trans (hr_918.sub (by decide))
                                          replace hfa := hfa.trans (ha_919.sub (by decide))
                                          obtain rfl := hR_921
                                          refine jj_if_eqF (tgt := 70) C dX3_readSubscriptions_60 (by decide) (by decide) ?_
                                          refine jj_aload_n C dX3_readSubscriptions_63 rfl ?_
                                          obtain ⟨qc, gs, hqc⟩ := tt_recv (cx := []) hok_917 hk0 (by decide) rfl
                                          refine tt_callV (rest := []) C (te_readSubscription hl D cA ak h0 tk a9 bk n2 n_837 u c iv 6 hk0 hkt hk9 hkb (by omega) (by omega) hc (by omega) (by omega) (by omega) hok_917 hs0 hx0 hx2 hf_839 hs1 hsi hf_804 hu) [] [] rfl rfl (by decide) (by decide) (by decide) qc hqc rfl rfl jw_b50e5c10ea jw_23105775d0 jw_16355fb5ab jw_9d546d0b6f jw_0cc88cc191 jn_X3_readSubscription rfl (jj_le rfl) (jj_le rfl) (jj_le rfl) (jj_le rfl) (jj_le rfl) dX3_readSubscriptions_64 rfl (fun _ _ _ hX => hX.elim) (fun rx pl_922 r O_926 => ?_)
                                          obtain ⟨rfl, hok_923, hr_924, ha_925, hR_927⟩ := O_926
                                          replace hs0 := hr_924.at hk0 (by decide) (by decide) hs0
                                          replace hx0 := hr_924.at hkt (by decide) (by decide) hx0
                                          replace hx2 := hr_924.at hkt (by decide) (by decide) hx2
                                          replace hs1 := hr_924.at hk0 (by decide) (by decide) hs1
                                          replace hsi := hr_924.at hkb (by decide) (by decide) hsi
                                          replace hu := ha_925.at hk9 (by decide) (by decide) hu
                                          replace hfr := hfr.trans (hr_924.sub (by decide))
                                          replace hfa := hfa.trans (ha_925.sub (by decide))
                                          rcases hR_927 with ⟨n_929, n_928, hn_933, hf_930, hf_931, hq_932, rfl⟩ | ⟨n_934, hle_937, hf_935, hf_938, hq_936, rfl⟩
                                          · refine jj_if_neF (tgt := 72) C dX3_readSubscriptions_67 (by decide) (by decide) ?_
                                            refine jj_iconst (v := 0) C dX3_readSubscriptions_70 (by decide) ?_
                                            exact jj_zret C rfl ⟨[], pl_922, rfl, rfl, hok_923, hfr, hfa, (Or.inl ⟨n_929, n_928, _, hn_933, hf_930, hf_931, (ps_subs.nx ht_37 hkd_38.1 (ps_sub.of (ps_step.ok ht_37 (Or.inr (Or.inr ⟨hw_98, by decide, rfl⟩))) hq_132) (ps_subs.nx ht_171 hkd_172.1 (ps_sub.of (ps_step.ok ht_171 (Or.inr (Or.inr ⟨hw_232, by decide, rfl⟩))) hq_266) (ps_subs.nx ht_305 hkd_306.1 (ps_sub.of (ps_step.ok ht_305 (Or.inr (Or.inr ⟨hw_366, by decide, rfl⟩))) hq_400) (ps_subs.nx ht_439 hkd_440.1 (ps_sub.of (ps_step.ok ht_439 (Or.inr (Or.inr ⟨hw_500, by decide, rfl⟩))) hq_534) (ps_subs.nx ht_573 hkd_574.1 (ps_sub.of (ps_step.ok ht_573 (Or.inr (Or.inr ⟨hw_634, by decide, rfl⟩))) hq_668) (ps_subs.nx ht_707 hkd_708.1 (ps_sub.of (ps_step.ok ht_707 (Or.inr (Or.inr ⟨hw_768, by decide, rfl⟩))) hq_802) (ps_subs.nx ht_841 hkd_842.1 (ps_sub.of (ps_step.ok ht_841 (Or.inr (Or.inr ⟨hw_902, by decide, rfl⟩))) hq_932) (ps_subs.er (k := 0) hn_933)))))))), rfl⟩)⟩ dX3_readSubscriptions_71 (jj_le rfl) (jj_le rfl)
                                          · refine jj_if_neT (tgt := 72) C dX3_readSubscriptions_67 (by decide) (by decide) ?_
                                            refine jj_iinc (v := 7) C dX3_readSubscriptions_72 rfl (by decide) (by decide) rfl ?_
                                            refine jj_goto (tgt := 2) C dX3_readSubscriptions_75 (by decide) ?_
                                            refine jj_iload_n C dX3_readSubscriptions_2 rfl ?_
                                            refine jj_bipush (v := 12) C dX3_readSubscriptions_3 (by decide) ?_
                                            refine jj_icmp_gtF (tgt := 78) C dX3_readSubscriptions_5 (by decide) (by decide) ?_
                                            refine jj_aload_n C dX3_readSubscriptions_8 rfl ?_
                                            refine tt_getF C hok_923 jk_4 0 (by decide) jw_70cd29f103 (t := (2, 10, 0)) hk0 (by decide) rfl rfl hs0 dX3_readSubscriptions_9 ?_
                                            obtain ⟨qc, gs, hqc⟩ := tt_recv (cx := []) hok_923 hkt (by decide) rfl
                                            refine tt_callV (rest := []) C (te_advance hl D cA ak tk a9 n2 n_934 u c hkt hk9 (by omega) (by omega) hc hok_923 hx0 hx2 hf_935 hu) [] [] rfl rfl (by decide) (by decide) (by decide) qc hqc rfl rfl jw_97c023d194 jw_37f6ee43e0 jw_46baf1fc7b jw_a9e7b602dc jw_0d4db63612 jn_X9_advance rfl (jj_le rfl) (jj_le rfl) (jj_le rfl) (jj_le rfl) (jj_le rfl) dX3_readSubscriptions_12 rfl (fun _ _ _ hX => hX.elim) (fun rx pl_939 r O_943 => ?_)
                                            obtain ⟨rfl, hok_940, hr_941, ha_942, hR_944⟩ := O_943
                                            replace hs0 := hr_941.at hk0 (by decide) (by decide) hs0
                                            replace hx0 := hr_941.at hkt (by decide) (by decide) hx0
                                            replace hx2 := hr_941.at hkt (by decide) (by decide) hx2
                                            replace hs1 := hr_941.at hk0 (by decide) (by decide) hs1
                                            replace hsi := hr_941.at hkb (by decide) (by decide) hsi
                                            replace hf_938 := hr_941.at hkb (by decide) (by decide) hf_938
                                            replace hu := ha_942.at hk9 (by decide) (by decide) hu
                                            replace hfr := hfr.trans (hr_941.sub (by decide))
                                            replace hfa := hfa.trans (ha_942.sub (by decide))
                                            rcases hR_944 with ⟨n_945, n_946, hf_947, hf_948, hf_949, ht_950, hkd_951, rfl⟩ | ⟨n_952, n_953, hf_954, hf_955, hf_956, ht_957, hkd_958, rfl⟩ | ⟨n_959, n_960, hf_961, hf_962, hf_963, ht_964, hkd_965, ⟨x_966, hf_967, hq_968, hq_969⟩, rfl⟩ | ⟨n_970, n_971, hf_972, hf_973, hf_974, ht_975, hkd_976, rfl⟩ | ⟨n_977, n_978, hf_979, hf_980, hf_981, ht_982, hkd_983, rfl⟩
                                            · have hzn_945 := ht_950.le (by omega)
                                              refine jj_aload_n C dX3_readSubscriptions_15 rfl ?_
                                              refine tt_getF C hok_940 jk_4 0 (by decide) jw_70cd29f103 (t := (2, 10, 0)) hk0 (by decide) rfl rfl hs0 dX3_readSubscriptions_16 ?_
                                              refine tt_getF C hok_940 jk_10 5 (by decide) jw_601d0e39ae (t := (0, (-2147483648), 2147483647)) hkt (by decide) rfl rfl hf_949 dX3_readSubscriptions_19 ?_
                                              refine jj_if_neT (tgt := 27) C dX3_readSubscriptions_22 (by decide) (by decide) ?_
                                              refine jj_aload_n C dX3_readSubscriptions_27 rfl ?_
                                              refine jj_aload_n C dX3_readSubscriptions_28 rfl ?_
                                              refine tt_getF C hok_940 jk_4 0 (by decide) jw_70cd29f103 (t := (2, 10, 0)) hk0 (by decide) rfl rfl hs0 dX3_readSubscriptions_29 ?_
                                              refine jj_ldcs (k := 4) (tx := "subscribe") C dX3_readSubscriptions_32 (by decide +kernel) ?_
                                              obtain ⟨qc, gs, hqc⟩ := tt_recv (cx := []) hok_940 hkt (by decide) rfl
                                              refine tt_callV (rest := [.ref h0]) C (te_isWord_subscribe hl D cA ak tk a9 n2 n_946 n_945 (4 : Int32) u c hkt hk9 (by omega) (by omega) (by omega) hc ⟨fun q => absurd q (by decide), fun q => absurd q.2 hkd_951.2.1⟩ hok_940 hx0 hf_948 hf_947 hf_949 hu) [] [] rfl rfl (by decide) (by decide) (by decide) qc hqc rfl rfl jw_b0fe72c6f4 jw_5e9522a00c jw_73cf9edcb7 jw_a9e7b602dc jw_ce1c1f12e9 jn_X9_isWord rfl (jj_le rfl) (jj_le rfl) (jj_le rfl) (jj_le rfl) (jj_le rfl) dX3_readSubscriptions_34 rfl (fun _ _ _ hX => hX.elim) (fun rx pl_984 r O_988 => ?_)
                                              obtain ⟨rfl, hok_985, hr_986, ha_987, hR_989⟩ := O_988
                                              replace hs0 := hr_986.at hk0 (by decide) (by decide) hs0
                                              replace hx0 := hr_986.at hkt (by decide) (by decide) hx0
                                              replace hx2 := hr_986.at hkt (by decide) (by decide) hx2
                                              replace hs1 := hr_986.at hk0 (by decide) (by decide) hs1
                                              replace hsi := hr_986.at hkb (by decide) (by decide) hsi
                                              replace hf_938 := hr_986.at hkb (by decide) (by decide) hf_938
                                              replace hf_947 := hr_986.at hkt (by decide) (by decide) hf_947
                                              replace hf_948 := hr_986.at hkt (by decide) (by decide) hf_948
                                              replace hf_949 := hr_986.at hkt (by decide) (by decide) hf_949
                                              replace hu := ha_987.at hk9 (by decide) (by decide) hu
                                              replace hfr := hfr.trans (hr_986.sub (by decide))
                                              replace hfa := hfa.trans (ha_987.sub (by decide))
                                              rcases hR_989 with ⟨hw_990, rfl⟩ | ⟨hw_991, rfl⟩
                                              · refine jj_iconst (v := 1) C dX3_readSubscriptions_37 (by decide) ?_
                                                obtain ⟨qc, gs, hqc⟩ := tt_recv (cx := []) hok_985 hk0 (by decide) rfl
                                                refine tt_callV (rest := []) C (te_accept_01 hl D cA ak h0 hk0 hok_985) [] [] rfl rfl (by decide) (by decide) (by decide) qc hqc rfl rfl jw_713f4d2af1 jw_b3e457240a jw_58c48ce796 jw_9d546d0b6f jw_0001e2e84f jn_X3_accept rfl (jj_le rfl) (jj_le rfl) (jj_le rfl) (jj_le rfl) (jj_le rfl) dX3_readSubscriptions_38 rfl (fun _ _ _ hX => hX.elim) (fun rx pl_992 r O_996 => ?_)
                                                obtain ⟨rfl, hok_993, hr_994, ha_995, hR_997⟩ := O_996
                                                replace hs0 := hr_994.at hk0 (by decide) (by decide) hs0
                                                replace hx0 := hr_994.at hkt (by decide) (by decide) hx0
                                                replace hx2 := hr_994.at hkt (by decide) (by decide) hx2
                                                replace hs1 := hr_994.at hk0 (by decide) (by decide) hs1
                                                replace hsi := hr_994.at hkb (by decide) (by decide) hsi
                                                replace hf_938 := hr_994.at hkb (by decide) (by decide) hf_938
                                                replace hf_947 := hr_994.at hkt (by decide) (by decide) hf_947
                                                replace hf_948 := hr_994.at hkt (by decide) (by decide) hf_948
                                                replace hf_949 := hr_994.at hkt (by decide) (by decide) hf_949
                                                replace hu := ha_995.at hk9 (by decide) (by decide) hu
                                                replace hfr := hfr.trans (hr_994.sub (by decide))
                                                replace hfa := hfa.trans (ha_995.sub (by decide))
                                                obtain ⟨hf_998, rfl⟩ := hR_997
                                                refine jj_if_eqT (tgt := 70) C dX3_readSubscriptions_41 (by decide) (by decide) ?_
                                                refine jj_iconst (v := 0) C dX3_readSubscriptions_70 (by decide) ?_
                                                exact jj_zret C rfl ⟨[], pl_992, rfl, rfl, hok_993, hfr, hfa, (Or.inl ⟨1, n_945, _, (by decide), hf_947, hf_998, (ps_subs.nx ht_37 hkd_38.1 (ps_sub.of (ps_step.ok ht_37 (Or.inr (Or.inr ⟨hw_98, by decide, rfl⟩))) hq_132) (ps_subs.nx ht_171 hkd_172.1 (ps_sub.of (ps_step.ok ht_171 (Or.inr (Or.inr ⟨hw_232, by decide, rfl⟩))) hq_266) (ps_subs.nx ht_305 hkd_306.1 (ps_sub.of (ps_step.ok ht_305 (Or.inr (Or.inr ⟨hw_366, by decide, rfl⟩))) hq_400) (ps_subs.nx ht_439 hkd_440.1 (ps_sub.of (ps_step.ok ht_439 (Or.inr (Or.inr ⟨hw_500, by decide, rfl⟩))) hq_534) (ps_subs.nx ht_573 hkd_574.1 (ps_sub.of (ps_step.ok ht_573 (Or.inr (Or.inr ⟨hw_634, by decide, rfl⟩))) hq_668) (ps_subs.nx ht_707 hkd_708.1 (ps_sub.of (ps_step.ok ht_707 (Or.inr (Or.inr ⟨hw_768, by decide, rfl⟩))) hq_802) (ps_subs.nx ht_841 hkd_842.1 (ps_sub.of (ps_step.ok ht_841 (Or.inr (Or.inr ⟨hw_902, by decide, rfl⟩))) hq_936) (ps_subs.nx ht_950 hkd_951.1 ⟨(1, n_945, 0), (1, n_945, 0), (1, n_945, 0), (ps_step.no ht_950 (Or.inl ⟨hw_990, rfl⟩) (by decide)), (ps_step.st (show (1 : Nat) ≠ 0 by decide)), (ps_step.st (show (1 : Nat) ≠ 0 by decide)), (ps_step.st (show (1 : Nat) ≠ 0 by decide))⟩ (ps_subs.er (k := 0) (by decide)))))))))), rfl⟩)⟩ dX3_readSubscriptions_71 (jj_le rfl) (jj_le rfl)
                                              · exact absurd (hw_991.one (n := n2) (by decide) (by unfold ps_le; decide) (by omega)).2 hkd_951.2.1
                                            · have hzn_952 := ht_957.le (by omega)
                                              refine jj_aload_n C dX3_readSubscriptions_15 rfl ?_
                                              refine tt_getF C hok_940 jk_4 0 (by decide) jw_70cd29f103 (t := (2, 10, 0)) hk0 (by decide) rfl rfl hs0 dX3_readSubscriptions_16 ?_
                                              refine tt_getF C hok_940 jk_10 5 (by decide) jw_601d0e39ae (t := (0, (-2147483648), 2147483647)) hkt (by decide) rfl rfl hf_956 dX3_readSubscriptions_19 ?_
                                              refine jj_if_neT (tgt := 27) C dX3_readSubscriptions_22 (by decide) (by decide) ?_
                                              refine jj_aload_n C dX3_readSubscriptions_27 rfl ?_
                                              refine jj_aload_n C dX3_readSubscriptions_28 rfl ?_
                                              refine tt_getF C hok_940 jk_4 0 (by decide) jw_70cd29f103 (t := (2, 10, 0)) hk0 (by decide) rfl rfl hs0 dX3_readSubscriptions_29 ?_
                                              refine jj_ldcs (k := 4) (tx := "subscribe") C dX3_readSubscriptions_32 (by decide +kernel) ?_
                                              obtain ⟨qc, gs, hqc⟩ := tt_recv (cx := []) hok_940 hkt (by decide) rfl
                                              refine tt_callV (rest := [.ref h0]) C (te_isWord_subscribe hl D cA ak tk a9 n2 n_953 n_952 (3 : Int32) u c hkt hk9 (by omega) (by omega) (by omega) hc ⟨fun q => absurd q (by decide), fun q => absurd q.2 hkd_958.2.1⟩ hok_940 hx0 hf_955 hf_954 hf_956 hu) [] [] rfl rfl (by decide) (by decide) (by decide) qc hqc rfl rfl jw_b0fe72c6f4 jw_5e9522a00c jw_73cf9edcb7 jw_a9e7b602dc jw_ce1c1f12e9 jn_X9_isWord rfl (jj_le rfl) (jj_le rfl) (jj_le rfl) (jj_le rfl) (jj_le rfl) dX3_readSubscriptions_34 rfl (fun _ _ _ hX => hX.elim) (fun rx pl_999 r O_1003 => ?_)
                                              obtain ⟨rfl, hok_1000, hr_1001, ha_1002, hR_1004⟩ := O_1003
                                              replace hs0 := hr_1001.at hk0 (by decide) (by decide) hs0
                                              replace hx0 := hr_1001.at hkt (by decide) (by decide) hx0
                                              replace hx2 := hr_1001.at hkt (by decide) (by decide) hx2
                                              replace hs1 := hr_1001.at hk0 (by decide) (by decide) hs1
                                              replace hsi := hr_1001.at hkb (by decide) (by decide) hsi
                                              replace hf_938 := hr_1001.at hkb (by decide) (by decide) hf_938
                                              replace hf_954 := hr_1001.at hkt (by decide) (by decide) hf_954
                                              replace hf_955 := hr_1001.at hkt (by decide) (by decide) hf_955
                                              replace hf_956 := hr_1001.at hkt (by decide) (by decide) hf_956
                                              replace hu := ha_1002.at hk9 (by decide) (by decide) hu
                                              replace hfr := hfr.trans (hr_1001.sub (by decide))
                                              replace hfa := hfa.trans (ha_1002.sub (by decide))
                                              rcases hR_1004 with ⟨hw_1005, rfl⟩ | ⟨hw_1006, rfl⟩
                                              · refine jj_iconst (v := 1) C dX3_readSubscriptions_37 (by decide) ?_
                                                obtain ⟨qc, gs, hqc⟩ := tt_recv (cx := []) hok_1000 hk0 (by decide) rfl
                                                refine tt_callV (rest := []) C (te_accept_01 hl D cA ak h0 hk0 hok_1000) [] [] rfl rfl (by decide) (by decide) (by decide) qc hqc rfl rfl jw_713f4d2af1 jw_b3e457240a jw_58c48ce796 jw_9d546d0b6f jw_0001e2e84f jn_X3_accept rfl (jj_le rfl) (jj_le rfl) (jj_le rfl) (jj_le rfl) (jj_le rfl) dX3_readSubscriptions_38 rfl (fun _ _ _ hX => hX.elim) (fun rx pl_1007 r O_1011 => ?_)
                                                obtain ⟨rfl, hok_1008, hr_1009, ha_1010, hR_1012⟩ := O_1011
                                                replace hs0 := hr_1009.at hk0 (by decide) (by decide) hs0
                                                replace hx0 := hr_1009.at hkt (by decide) (by decide) hx0
                                                replace hx2 := hr_1009.at hkt (by decide) (by decide) hx2
                                                replace hs1 := hr_1009.at hk0 (by decide) (by decide) hs1
                                                replace hsi := hr_1009.at hkb (by decide) (by decide) hsi
                                                replace hf_938 := hr_1009.at hkb (by decide) (by decide) hf_938
                                                replace hf_954 := hr_1009.at hkt (by decide) (by decide) hf_954
                                                replace hf_955 := hr_1009.at hkt (by decide) (by decide) hf_955
                                                replace hf_956 := hr_1009.at hkt (by decide) (by decide) hf_956
                                                replace hu := ha_1010.at hk9 (by decide) (by decide) hu
                                                replace hfr := hfr.trans (hr_1009.sub (by decide))
                                                replace hfa := hfa.trans (ha_1010.sub (by decide))
                                                obtain ⟨hf_1013, rfl⟩ := hR_1012
                                                refine jj_if_eqT (tgt := 70) C dX3_readSubscriptions_41 (by decide) (by decide) ?_
                                                refine jj_iconst (v := 0) C dX3_readSubscriptions_70 (by decide) ?_
                                                exact jj_zret C rfl ⟨[], pl_1007, rfl, rfl, hok_1008, hfr, hfa, (Or.inl ⟨1, n_952, _, (by decide), hf_954, hf_1013, (ps_subs.nx ht_37 hkd_38.1 (ps_sub.of (ps_step.ok ht_37 (Or.inr (Or.inr ⟨hw_98, by decide, rfl⟩))) hq_132) (ps_subs.nx ht_171 hkd_172.1 (ps_sub.of (ps_step.ok ht_171 (Or.inr (Or.inr ⟨hw_232, by decide, rfl⟩))) hq_266) (ps_subs.nx ht_305 hkd_306.1 (ps_sub.of (ps_step.ok ht_305 (Or.inr (Or.inr ⟨hw_366, by decide, rfl⟩))) hq_400) (ps_subs.nx ht_439 hkd_440.1 (ps_sub.of (ps_step.ok ht_439 (Or.inr (Or.inr ⟨hw_500, by decide, rfl⟩))) hq_534) (ps_subs.nx ht_573 hkd_574.1 (ps_sub.of (ps_step.ok ht_573 (Or.inr (Or.inr ⟨hw_634, by decide, rfl⟩))) hq_668) (ps_subs.nx ht_707 hkd_708.1 (ps_sub.of (ps_step.ok ht_707 (Or.inr (Or.inr ⟨hw_768, by decide, rfl⟩))) hq_802) (ps_subs.nx ht_841 hkd_842.1 (ps_sub.of (ps_step.ok ht_841 (Or.inr (Or.inr ⟨hw_902, by decide, rfl⟩))) hq_936) (ps_subs.nx ht_957 hkd_958.1 ⟨(1, n_952, 0), (1, n_952, 0), (1, n_952, 0), (ps_step.no ht_957 (Or.inl ⟨hw_1005, rfl⟩) (by decide)), (ps_step.st (show (1 : Nat) ≠ 0 by decide)), (ps_step.st (show (1 : Nat) ≠ 0 by decide)), (ps_step.st (show (1 : Nat) ≠ 0 by decide))⟩ (ps_subs.er (k := 0) (by decide)))))))))), rfl⟩)⟩ dX3_readSubscriptions_71 (jj_le rfl) (jj_le rfl)
                                              · exact absurd (hw_1006.one (n := n2) (by decide) (by unfold ps_le; decide) (by omega)).2 hkd_958.2.1
                                            · have hzn_959 := ht_964.le (by omega)
                                              have lx_966 := tt_lo x_966
                                              have ux_966 := tt_hi x_966
                                              refine jj_aload_n C dX3_readSubscriptions_15 rfl ?_
                                              refine tt_getF C hok_940 jk_4 0 (by decide) jw_70cd29f103 (t := (2, 10, 0)) hk0 (by decide) rfl rfl hs0 dX3_readSubscriptions_16 ?_
                                              refine tt_getF C hok_940 jk_10 5 (by decide) jw_601d0e39ae (t := (0, (-2147483648), 2147483647)) hkt (by decide) rfl rfl hf_963 dX3_readSubscriptions_19 ?_
                                              refine jj_if_neT (tgt := 27) C dX3_readSubscriptions_22 (by decide) (by decide) ?_
                                              refine jj_aload_n C dX3_readSubscriptions_27 rfl ?_
                                              refine jj_aload_n C dX3_readSubscriptions_28 rfl ?_
                                              refine tt_getF C hok_940 jk_4 0 (by decide) jw_70cd29f103 (t := (2, 10, 0)) hk0 (by decide) rfl rfl hs0 dX3_readSubscriptions_29 ?_
                                              refine jj_ldcs (k := 4) (tx := "subscribe") C dX3_readSubscriptions_32 (by decide +kernel) ?_
                                              obtain ⟨qc, gs, hqc⟩ := tt_recv (cx := []) hok_940 hkt (by decide) rfl
                                              refine tt_callV (rest := [.ref h0]) C (te_isWord_subscribe hl D cA ak tk a9 n2 n_960 n_959 (2 : Int32) u c hkt hk9 (by omega) (by omega) (by omega) hc ⟨fun q => absurd q (by decide), fun q => absurd q.2 hkd_965.2.1⟩ hok_940 hx0 hf_962 hf_961 hf_963 hu) [] [] rfl rfl (by decide) (by decide) (by decide) qc hqc rfl rfl jw_b0fe72c6f4 jw_5e9522a00c jw_73cf9edcb7 jw_a9e7b602dc jw_ce1c1f12e9 jn_X9_isWord rfl (jj_le rfl) (jj_le rfl) (jj_le rfl) (jj_le rfl) (jj_le rfl) dX3_readSubscriptions_34 rfl (fun _ _ _ hX => hX.elim) (fun rx pl_1014 r O_1018 => ?_)
                                              obtain ⟨rfl, hok_1015, hr_1016, ha_1017, hR_1019⟩ := O_1018
                                              replace hs0 := hr_1016.at hk0 (by decide) (by decide) hs0
                                              replace hx0 := hr_1016.at hkt (by decide) (by decide) hx0
                                              replace hx2 := hr_1016.at hkt (by decide) (by decide) hx2
                                              replace hs1 := hr_1016.at hk0 (by decide) (by decide) hs1
                                              replace hsi := hr_1016.at hkb (by decide) (by decide) hsi
                                              replace hf_938 := hr_1016.at hkb (by decide) (by decide) hf_938
                                              replace hf_961 := hr_1016.at hkt (by decide) (by decide) hf_961
                                              replace hf_962 := hr_1016.at hkt (by decide) (by decide) hf_962
                                              replace hf_963 := hr_1016.at hkt (by decide) (by decide) hf_963
                                              replace hf_967 := hr_1016.at hkt (by decide) (by decide) hf_967
                                              replace hu := ha_1017.at hk9 (by decide) (by decide) hu
                                              replace hfr := hfr.trans (hr_1016.sub (by decide))
                                              replace hfa := hfa.trans (ha_1017.sub (by decide))
                                              rcases hR_1019 with ⟨hw_1020, rfl⟩ | ⟨hw_1021, rfl⟩
                                              · refine jj_iconst (v := 1) C dX3_readSubscriptions_37 (by decide) ?_
                                                obtain ⟨qc, gs, hqc⟩ := tt_recv (cx := []) hok_1015 hk0 (by decide) rfl
                                                refine tt_callV (rest := []) C (te_accept_01 hl D cA ak h0 hk0 hok_1015) [] [] rfl rfl (by decide) (by decide) (by decide) qc hqc rfl rfl jw_713f4d2af1 jw_b3e457240a jw_58c48ce796 jw_9d546d0b6f jw_0001e2e84f jn_X3_accept rfl (jj_le rfl) (jj_le rfl) (jj_le rfl) (jj_le rfl) (jj_le rfl) dX3_readSubscriptions_38 rfl (fun _ _ _ hX => hX.elim) (fun rx pl_1022 r O_1026 => ?_)
                                                obtain ⟨rfl, hok_1023, hr_1024, ha_1025, hR_1027⟩ := O_1026
                                                replace hs0 := hr_1024.at hk0 (by decide) (by decide) hs0
                                                replace hx0 := hr_1024.at hkt (by decide) (by decide) hx0
                                                replace hx2 := hr_1024.at hkt (by decide) (by decide) hx2
                                                replace hs1 := hr_1024.at hk0 (by decide) (by decide) hs1
                                                replace hsi := hr_1024.at hkb (by decide) (by decide) hsi
                                                replace hf_938 := hr_1024.at hkb (by decide) (by decide) hf_938
                                                replace hf_961 := hr_1024.at hkt (by decide) (by decide) hf_961
                                                replace hf_962 := hr_1024.at hkt (by decide) (by decide) hf_962
                                                replace hf_963 := hr_1024.at hkt (by decide) (by decide) hf_963
                                                replace hf_967 := hr_1024.at hkt (by decide) (by decide) hf_967
                                                replace hu := ha_1025.at hk9 (by decide) (by decide) hu
                                                replace hfr := hfr.trans (hr_1024.sub (by decide))
                                                replace hfa := hfa.trans (ha_1025.sub (by decide))
                                                obtain ⟨hf_1028, rfl⟩ := hR_1027
                                                refine jj_if_eqT (tgt := 70) C dX3_readSubscriptions_41 (by decide) (by decide) ?_
                                                refine jj_iconst (v := 0) C dX3_readSubscriptions_70 (by decide) ?_
                                                exact jj_zret C rfl ⟨[], pl_1022, rfl, rfl, hok_1023, hfr, hfa, (Or.inl ⟨1, n_959, _, (by decide), hf_961, hf_1028, (ps_subs.nx ht_37 hkd_38.1 (ps_sub.of (ps_step.ok ht_37 (Or.inr (Or.inr ⟨hw_98, by decide, rfl⟩))) hq_132) (ps_subs.nx ht_171 hkd_172.1 (ps_sub.of (ps_step.ok ht_171 (Or.inr (Or.inr ⟨hw_232, by decide, rfl⟩))) hq_266) (ps_subs.nx ht_305 hkd_306.1 (ps_sub.of (ps_step.ok ht_305 (Or.inr (Or.inr ⟨hw_366, by decide, rfl⟩))) hq_400) (ps_subs.nx ht_439 hkd_440.1 (ps_sub.of (ps_step.ok ht_439 (Or.inr (Or.inr ⟨hw_500, by decide, rfl⟩))) hq_534) (ps_subs.nx ht_573 hkd_574.1 (ps_sub.of (ps_step.ok ht_573 (Or.inr (Or.inr ⟨hw_634, by decide, rfl⟩))) hq_668) (ps_subs.nx ht_707 hkd_708.1 (ps_sub.of (ps_step.ok ht_707 (Or.inr (Or.inr ⟨hw_768, by decide, rfl⟩))) hq_802) (ps_subs.nx ht_841 hkd_842.1 (ps_sub.of (ps_step.ok ht_841 (Or.inr (Or.inr ⟨hw_902, by decide, rfl⟩))) hq_936) (ps_subs.nx ht_964 hkd_965.1 ⟨(1, n_959, 0), (1, n_959, 0), (1, n_959, 0), (ps_step.no ht_964 (Or.inl ⟨hw_1020, rfl⟩) (by decide)), (ps_step.st (show (1 : Nat) ≠ 0 by decide)), (ps_step.st (show (1 : Nat) ≠ 0 by decide)), (ps_step.st (show (1 : Nat) ≠ 0 by decide))⟩ (ps_subs.er (k := 0) (by decide)))))))))), rfl⟩)⟩ dX3_readSubscriptions_71 (jj_le rfl) (jj_le rfl)
                                              · exact absurd (hw_1021.one (n := n2) (by decide) (by unfold ps_le; decide) (by omega)).2 hkd_965.2.1
                                            · have hzn_970 := ht_975.le (by omega)
                                              refine jj_aload_n C dX3_readSubscriptions_15 rfl ?_
                                              refine tt_getF C hok_940 jk_4 0 (by decide) jw_70cd29f103 (t := (2, 10, 0)) hk0 (by decide) rfl rfl hs0 dX3_readSubscriptions_16 ?_
                                              refine tt_getF C hok_940 jk_10 5 (by decide) jw_601d0e39ae (t := (0, (-2147483648), 2147483647)) hkt (by decide) rfl rfl hf_974 dX3_readSubscriptions_19 ?_
                                              refine jj_if_neT (tgt := 27) C dX3_readSubscriptions_22 (by decide) (by decide) ?_
                                              refine jj_aload_n C dX3_readSubscriptions_27 rfl ?_
                                              refine jj_aload_n C dX3_readSubscriptions_28 rfl ?_
                                              refine tt_getF C hok_940 jk_4 0 (by decide) jw_70cd29f103 (t := (2, 10, 0)) hk0 (by decide) rfl rfl hs0 dX3_readSubscriptions_29 ?_
                                              refine jj_ldcs (k := 4) (tx := "subscribe") C dX3_readSubscriptions_32 (by decide +kernel) ?_
                                              obtain ⟨qc, gs, hqc⟩ := tt_recv (cx := []) hok_940 hkt (by decide) rfl
                                              refine tt_callV (rest := [.ref h0]) C (te_isWord_subscribe hl D cA ak tk a9 n2 n_971 n_970 (1 : Int32) u c hkt hk9 (by omega) (by omega) (by omega) hc ⟨fun _ => hkd_976, fun _ => rfl⟩ hok_940 hx0 hf_973 hf_972 hf_974 hu) [] [] rfl rfl (by decide) (by decide) (by decide) qc hqc rfl rfl jw_b0fe72c6f4 jw_5e9522a00c jw_73cf9edcb7 jw_a9e7b602dc jw_ce1c1f12e9 jn_X9_isWord rfl (jj_le rfl) (jj_le rfl) (jj_le rfl) (jj_le rfl) (jj_le rfl) dX3_readSubscriptions_34 rfl (fun _ _ _ hX => hX.elim) (fun rx pl_1029 r O_1033 => ?_)
                                              obtain ⟨rfl, hok_1030, hr_1031, ha_1032, hR_1034⟩ := O_1033
                                              replace hs0 := hr_1031.at hk0 (by decide) (by decide) hs0
                                              replace hx0 := hr_1031.at hkt (by decide) (by decide) hx0
                                              replace hx2 := hr_1031.at hkt (by decide) (by decide) hx2
                                              replace hs1 := hr_1031.at hk0 (by decide) (by decide) hs1
                                              replace hsi := hr_1031.at hkb (by decide) (by decide) hsi
                                              replace hf_938 := hr_1031.at hkb (by decide) (by decide) hf_938
                                              replace hf_972 := hr_1031.at hkt (by decide) (by decide) hf_972
                                              replace hf_973 := hr_1031.at hkt (by decide) (by decide) hf_973
                                              replace hf_974 := hr_1031.at hkt (by decide) (by decide) hf_974
                                              replace hu := ha_1032.at hk9 (by decide) (by decide) hu
                                              replace hfr := hfr.trans (hr_1031.sub (by decide))
                                              replace hfa := hfa.trans (ha_1032.sub (by decide))
                                              rcases hR_1034 with ⟨hw_1035, rfl⟩ | ⟨hw_1036, rfl⟩
                                              · refine jj_iconst (v := 1) C dX3_readSubscriptions_37 (by decide) ?_
                                                obtain ⟨qc, gs, hqc⟩ := tt_recv (cx := []) hok_1030 hk0 (by decide) rfl
                                                refine tt_callV (rest := []) C (te_accept_01 hl D cA ak h0 hk0 hok_1030) [] [] rfl rfl (by decide) (by decide) (by decide) qc hqc rfl rfl jw_713f4d2af1 jw_b3e457240a jw_58c48ce796 jw_9d546d0b6f jw_0001e2e84f jn_X3_accept rfl (jj_le rfl) (jj_le rfl) (jj_le rfl) (jj_le rfl) (jj_le rfl) dX3_readSubscriptions_38 rfl (fun _ _ _ hX => hX.elim) (fun rx pl_1037 r O_1041 => ?_)
                                                obtain ⟨rfl, hok_1038, hr_1039, ha_1040, hR_1042⟩ := O_1041
                                                replace hs0 := hr_1039.at hk0 (by decide) (by decide) hs0
                                                replace hx0 := hr_1039.at hkt (by decide) (by decide) hx0
                                                replace hx2 := hr_1039.at hkt (by decide) (by decide) hx2
                                                replace hs1 := hr_1039.at hk0 (by decide) (by decide) hs1
                                                replace hsi := hr_1039.at hkb (by decide) (by decide) hsi
                                                replace hf_938 := hr_1039.at hkb (by decide) (by decide) hf_938
                                                replace hf_972 := hr_1039.at hkt (by decide) (by decide) hf_972
                                                replace hf_973 := hr_1039.at hkt (by decide) (by decide) hf_973
                                                replace hf_974 := hr_1039.at hkt (by decide) (by decide) hf_974
                                                replace hu := ha_1040.at hk9 (by decide) (by decide) hu
                                                replace hfr := hfr.trans (hr_1039.sub (by decide))
                                                replace hfa := hfa.trans (ha_1040.sub (by decide))
                                                obtain ⟨hf_1043, rfl⟩ := hR_1042
                                                refine jj_if_eqT (tgt := 70) C dX3_readSubscriptions_41 (by decide) (by decide) ?_
                                                refine jj_iconst (v := 0) C dX3_readSubscriptions_70 (by decide) ?_
                                                exact jj_zret C rfl ⟨[], pl_1037, rfl, rfl, hok_1038, hfr, hfa, (Or.inl ⟨1, n_970, _, (by decide), hf_972, hf_1043, (ps_subs.nx ht_37 hkd_38.1 (ps_sub.of (ps_step.ok ht_37 (Or.inr (Or.inr ⟨hw_98, by decide, rfl⟩))) hq_132) (ps_subs.nx ht_171 hkd_172.1 (ps_sub.of (ps_step.ok ht_171 (Or.inr (Or.inr ⟨hw_232, by decide, rfl⟩))) hq_266) (ps_subs.nx ht_305 hkd_306.1 (ps_sub.of (ps_step.ok ht_305 (Or.inr (Or.inr ⟨hw_366, by decide, rfl⟩))) hq_400) (ps_subs.nx ht_439 hkd_440.1 (ps_sub.of (ps_step.ok ht_439 (Or.inr (Or.inr ⟨hw_500, by decide, rfl⟩))) hq_534) (ps_subs.nx ht_573 hkd_574.1 (ps_sub.of (ps_step.ok ht_573 (Or.inr (Or.inr ⟨hw_634, by decide, rfl⟩))) hq_668) (ps_subs.nx ht_707 hkd_708.1 (ps_sub.of (ps_step.ok ht_707 (Or.inr (Or.inr ⟨hw_768, by decide, rfl⟩))) hq_802) (ps_subs.nx ht_841 hkd_842.1 (ps_sub.of (ps_step.ok ht_841 (Or.inr (Or.inr ⟨hw_902, by decide, rfl⟩))) hq_936) (ps_subs.nx ht_975 hkd_976.1 ⟨(1, n_970, 0), (1, n_970, 0), (1, n_970, 0), (ps_step.no ht_975 (Or.inl ⟨hw_1035, rfl⟩) (by decide)), (ps_step.st (show (1 : Nat) ≠ 0 by decide)), (ps_step.st (show (1 : Nat) ≠ 0 by decide)), (ps_step.st (show (1 : Nat) ≠ 0 by decide))⟩ (ps_subs.er (k := 0) (by decide)))))))))), rfl⟩)⟩ dX3_readSubscriptions_71 (jj_le rfl) (jj_le rfl)
                                              · refine jj_iconst (v := 1) C dX3_readSubscriptions_37 (by decide) ?_
                                                obtain ⟨qc, gs, hqc⟩ := tt_recv (cx := []) hok_1030 hk0 (by decide) rfl
                                                refine tt_callV (rest := []) C (te_accept_11 hl D cA ak h0 hk0 hok_1030) [] [] rfl rfl (by decide) (by decide) (by decide) qc hqc rfl rfl jw_713f4d2af1 jw_b3e457240a jw_58c48ce796 jw_9d546d0b6f jw_0001e2e84f jn_X3_accept rfl (jj_le rfl) (jj_le rfl) (jj_le rfl) (jj_le rfl) (jj_le rfl) dX3_readSubscriptions_38 rfl (fun _ _ _ hX => hX.elim) (fun rx pl_1044 r O_1048 => ?_)
                                                obtain ⟨rfl, hok_1045, hr_1046, ha_1047, hR_1049⟩ := O_1048
                                                replace hs0 := hr_1046.at hk0 (by decide) (by decide) hs0
                                                replace hx0 := hr_1046.at hkt (by decide) (by decide) hx0
                                                replace hx2 := hr_1046.at hkt (by decide) (by decide) hx2
                                                replace hs1 := hr_1046.at hk0 (by decide) (by decide) hs1
                                                replace hsi := hr_1046.at hkb (by decide) (by decide) hsi
                                                replace hf_938 := hr_1046.at hkb (by decide) (by decide) hf_938
                                                replace hf_972 := hr_1046.at hkt (by decide) (by decide) hf_972
                                                replace hf_973 := hr_1046.at hkt (by decide) (by decide) hf_973
                                                replace hf_974 := hr_1046.at hkt (by decide) (by decide) hf_974
                                                replace hu := ha_1047.at hk9 (by decide) (by decide) hu
                                                replace hfr := hfr.trans (hr_1046.sub (by decide))
                                                replace hfa := hfa.trans (ha_1047.sub (by decide))
                                                obtain rfl := hR_1049
                                                refine jj_if_eqF (tgt := 70) C dX3_readSubscriptions_41 (by decide) (by decide) ?_
                                                refine jj_aload_n C dX3_readSubscriptions_44 rfl ?_
                                                refine jj_iload_n C dX3_readSubscriptions_45 rfl ?_
                                                refine jj_bipush (v := 12) C dX3_readSubscriptions_46 (by decide) ?_
                                                refine jj_icmp_geF (tgt := 55) C dX3_readSubscriptions_48 (by decide) (by decide) ?_
                                                refine jj_iconst (v := 1) C dX3_readSubscriptions_51 (by decide) ?_
                                                refine jj_goto (tgt := 56) C dX3_readSubscriptions_52 (by decide) ?_
                                                refine jj_iconst (v := 3) C dX3_readSubscriptions_56 (by decide) ?_
                                                obtain ⟨qc, gs, hqc⟩ := tt_recv (cx := []) hok_1045 hk0 (by decide) rfl
                                                refine tt_callV (rest := []) C (te_accept_13 hl D cA ak h0 hk0 hok_1045) [] [] rfl rfl (by decide) (by decide) (by decide) qc hqc rfl rfl jw_713f4d2af1 jw_b3e457240a jw_58c48ce796 jw_9d546d0b6f jw_0001e2e84f jn_X3_accept rfl (jj_le rfl) (jj_le rfl) (jj_le rfl) (jj_le rfl) (jj_le rfl) dX3_readSubscriptions_57 rfl (fun _ _ _ hX => hX.elim) (fun rx pl_1050 r O_1054 => ?_)
                                                obtain ⟨rfl, hok_1051, hr_1052, ha_1053, hR_1055⟩ := O_1054
                                                replace hs0 := hr_1052.at hk0 (by decide) (by decide) hs0
                                                replace hx0 := hr_1052.at hkt (by decide) (by decide) hx0
                                                replace hx2 := hr_1052.at hkt (by decide) (by decide) hx2
                                                replace hs1 := hr_1052.at hk0 (by decide) (by decide) hs1
                                                replace hsi := hr_1052.at hkb (by decide) (by decide) hsi
                                                replace hf_938 := hr_1052.at hkb (by decide) (by decide) hf_938
                                                replace hf_972 := hr_1052.at hkt (by decide) (by decide) hf_972
                                                replace hf_973 := hr_1052.at hkt (by decide) (by decide) hf_973
                                                replace hf_974 := hr_1052.at hkt (by decide) (by decide) hf_974
                                                replace hu := ha_1053.at hk9 (by decide) (by decide) hu
                                                replace hfr := hfr.trans (hr_1052.sub (by decide))
                                                replace hfa := hfa.trans (ha_1053.sub (by decide))
                                                obtain rfl := hR_1055
                                                refine jj_if_eqF (tgt := 70) C dX3_readSubscriptions_60 (by decide) (by decide) ?_
                                                refine jj_aload_n C dX3_readSubscriptions_63 rfl ?_
                                                obtain ⟨qc, gs, hqc⟩ := tt_recv (cx := []) hok_1051 hk0 (by decide) rfl
                                                refine tt_callV (rest := []) C (te_readSubscription hl D cA ak h0 tk a9 bk n2 n_971 u c iv 7 hk0 hkt hk9 hkb (by omega) (by omega) hc (by omega) (by omega) (by omega) hok_1051 hs0 hx0 hx2 hf_973 hs1 hsi hf_938 hu) [] [] rfl rfl (by decide) (by decide) (by decide) qc hqc rfl rfl jw_b50e5c10ea jw_23105775d0 jw_16355fb5ab jw_9d546d0b6f jw_0cc88cc191 jn_X3_readSubscription rfl (jj_le rfl) (jj_le rfl) (jj_le rfl) (jj_le rfl) (jj_le rfl) dX3_readSubscriptions_64 rfl (fun _ _ _ hX => hX.elim) (fun rx pl_1056 r O_1060 => ?_)
                                                obtain ⟨rfl, hok_1057, hr_1058, ha_1059, hR_1061⟩ := O_1060
                                                replace hs0 := hr_1058.at hk0 (by decide) (by decide) hs0
                                                replace hx0 := hr_1058.at hkt (by decide) (by decide) hx0
                                                replace hx2 := hr_1058.at hkt (by decide) (by decide) hx2
                                                replace hs1 := hr_1058.at hk0 (by decide) (by decide) hs1
                                                replace hsi := hr_1058.at hkb (by decide) (by decide) hsi
                                                replace hu := ha_1059.at hk9 (by decide) (by decide) hu
                                                replace hfr := hfr.trans (hr_1058.sub (by decide))
                                                replace hfa := hfa.trans (ha_1059.sub (by decide))
                                                rcases hR_1061 with ⟨n_1063, n_1062, hn_1067, hf_1064, hf_1065, hq_1066, rfl⟩ | ⟨n_1068, hle_1071, hf_1069, hf_1072, hq_1070, rfl⟩
                                                · refine jj_if_neF (tgt := 72) C dX3_readSubscriptions_67 (by decide) (by decide) ?_
                                                  refine jj_iconst (v := 0) C dX3_readSubscriptions_70 (by decide) ?_
                                                  exact jj_zret C rfl ⟨[], pl_1056, rfl, rfl, hok_1057, hfr, hfa, (Or.inl ⟨n_1063, n_1062, _, hn_1067, hf_1064, hf_1065, (ps_subs.nx ht_37 hkd_38.1 (ps_sub.of (ps_step.ok ht_37 (Or.inr (Or.inr ⟨hw_98, by decide, rfl⟩))) hq_132) (ps_subs.nx ht_171 hkd_172.1 (ps_sub.of (ps_step.ok ht_171 (Or.inr (Or.inr ⟨hw_232, by decide, rfl⟩))) hq_266) (ps_subs.nx ht_305 hkd_306.1 (ps_sub.of (ps_step.ok ht_305 (Or.inr (Or.inr ⟨hw_366, by decide, rfl⟩))) hq_400) (ps_subs.nx ht_439 hkd_440.1 (ps_sub.of (ps_step.ok ht_439 (Or.inr (Or.inr ⟨hw_500, by decide, rfl⟩))) hq_534) (ps_subs.nx ht_573 hkd_574.1 (ps_sub.of (ps_step.ok ht_573 (Or.inr (Or.inr ⟨hw_634, by decide, rfl⟩))) hq_668) (ps_subs.nx ht_707 hkd_708.1 (ps_sub.of (ps_step.ok ht_707 (Or.inr (Or.inr ⟨hw_768, by decide, rfl⟩))) hq_802) (ps_subs.nx ht_841 hkd_842.1 (ps_sub.of (ps_step.ok ht_841 (Or.inr (Or.inr ⟨hw_902, by decide, rfl⟩))) hq_936) (ps_subs.nx ht_975 hkd_976.1 (ps_sub.of (ps_step.ok ht_975 (Or.inr (Or.inr ⟨hw_1036, by decide, rfl⟩))) hq_1066) (ps_subs.er (k := 0) hn_1067))))))))), rfl⟩)⟩ dX3_readSubscriptions_71 (jj_le rfl) (jj_le rfl)
                                                · refine jj_if_neT (tgt := 72) C dX3_readSubscriptions_67 (by decide) (by decide) ?_
                                                  refine jj_iinc (v := 8) C dX3_readSubscriptions_72 rfl (by decide) (by decide) rfl ?_
                                                  refine jj_goto (tgt := 2) C dX3_readSubscriptions_75 (by decide) ?_
                                                  refine jj_iload_n C dX3_readSubscriptions_2 rfl ?_
                                                  refine jj_bipush (v := 12) C dX3_readSubscriptions_3 (by decide) ?_
                                                  refine jj_icmp_gtF (tgt := 78) C dX3_readSubscriptions_5 (by decide) (by decide) ?_
                                                  refine jj_aload_n C dX3_readSubscriptions_8 rfl ?_
                                                  refine tt_getF C hok_1057 jk_4 0 (by decide) jw_70cd29f103 (t := (2, 10, 0)) hk0 (by decide) rfl rfl hs0 dX3_readSubscriptions_9 ?_
                                                  obtain ⟨qc, gs, hqc⟩ := tt_recv (cx := []) hok_1057 hkt (by decide) rfl
                                                  refine tt_callV (rest := []) C (te_advance hl D cA ak tk a9 n2 n_1068 u c hkt hk9 (by omega) (by omega) hc hok_1057 hx0 hx2 hf_1069 hu) [] [] rfl rfl (by decide) (by decide) (by decide) qc hqc rfl rfl jw_97c023d194 jw_37f6ee43e0 jw_46baf1fc7b jw_a9e7b602dc jw_0d4db63612 jn_X9_advance rfl (jj_le rfl) (jj_le rfl) (jj_le rfl) (jj_le rfl) (jj_le rfl) dX3_readSubscriptions_12 rfl (fun _ _ _ hX => hX.elim) (fun rx pl_1073 r O_1077 => ?_)
                                                  obtain ⟨rfl, hok_1074, hr_1075, ha_1076, hR_1078⟩ := O_1077
                                                  replace hs0 := hr_1075.at hk0 (by decide) (by decide) hs0
                                                  replace hx0 := hr_1075.at hkt (by decide) (by decide) hx0
                                                  replace hx2 := hr_1075.at hkt (by decide) (by decide) hx2
                                                  replace hs1 := hr_1075.at hk0 (by decide) (by decide) hs1
                                                  replace hsi := hr_1075.at hkb (by decide) (by decide) hsi
                                                  replace hf_1072 := hr_1075.at hkb (by decide) (by decide) hf_1072
                                                  replace hu := ha_1076.at hk9 (by decide) (by decide) hu
                                                  replace hfr := hfr.trans (hr_1075.sub (by decide))
                                                  replace hfa := hfa.trans (ha_1076.sub (by decide))
                                                  rcases hR_1078 with ⟨n_1079, n_1080, hf_1081, hf_1082, hf_1083, ht_1084, hkd_1085, rfl⟩ | ⟨n_1086, n_1087, hf_1088, hf_1089, hf_1090, ht_1091, hkd_1092, rfl⟩ | ⟨n_1093, n_1094, hf_1095, hf_1096, hf_1097, ht_1098, hkd_1099, ⟨x_1100, hf_1101, hq_1102, hq_1103⟩, rfl⟩ | ⟨n_1104, n_1105, hf_1106, hf_1107, hf_1108, ht_1109, hkd_1110, rfl⟩ | ⟨n_1111, n_1112, hf_1113, hf_1114, hf_1115, ht_1116, hkd_1117, rfl⟩
                                                  · have hzn_1079 := ht_1084.le (by omega)
                                                    refine jj_aload_n C dX3_readSubscriptions_15 rfl ?_
                                                    refine tt_getF C hok_1074 jk_4 0 (by decide) jw_70cd29f103 (t := (2, 10, 0)) hk0 (by decide) rfl rfl hs0 dX3_readSubscriptions_16 ?_
                                                    refine tt_getF C hok_1074 jk_10 5 (by decide) jw_601d0e39ae (t := (0, (-2147483648), 2147483647)) hkt (by decide) rfl rfl hf_1083 dX3_readSubscriptions_19 ?_
                                                    refine jj_if_neT (tgt := 27) C dX3_readSubscriptions_22 (by decide) (by decide) ?_
                                                    refine jj_aload_n C dX3_readSubscriptions_27 rfl ?_
                                                    refine jj_aload_n C dX3_readSubscriptions_28 rfl ?_
                                                    refine tt_getF C hok_1074 jk_4 0 (by decide) jw_70cd29f103 (t := (2, 10, 0)) hk0 (by decide) rfl rfl hs0 dX3_readSubscriptions_29 ?_
                                                    refine jj_ldcs (k := 4) (tx := "subscribe") C dX3_readSubscriptions_32 (by decide +kernel) ?_
                                                    obtain ⟨qc, gs, hqc⟩ := tt_recv (cx := []) hok_1074 hkt (by decide) rfl
                                                    refine tt_callV (rest := [.ref h0]) C (te_isWord_subscribe hl D cA ak tk a9 n2 n_1080 n_1079 (4 : Int32) u c hkt hk9 (by omega) (by omega) (by omega) hc ⟨fun q => absurd q (by decide), fun q => absurd q.2 hkd_1085.2.1⟩ hok_1074 hx0 hf_1082 hf_1081 hf_1083 hu) [] [] rfl rfl (by decide) (by decide) (by decide) qc hqc rfl rfl jw_b0fe72c6f4 jw_5e9522a00c jw_73cf9edcb7 jw_a9e7b602dc jw_ce1c1f12e9 jn_X9_isWord rfl (jj_le rfl) (jj_le rfl) (jj_le rfl) (jj_le rfl) (jj_le rfl) dX3_readSubscriptions_34 rfl (fun _ _ _ hX => hX.elim) (fun rx pl_1118 r O_1122 => ?_)
                                                    obtain ⟨rfl, hok_1119, hr_1120, ha_1121, hR_1123⟩ := O_1122
                                                    replace hs0 := hr_1120.at hk0 (by decide) (by decide) hs0
                                                    replace hx0 := hr_1120.at hkt (by decide) (by decide) hx0
                                                    replace hx2 := hr_1120.at hkt (by decide) (by decide) hx2
                                                    replace hs1 := hr_1120.at hk0 (by decide) (by decide) hs1
                                                    replace hsi := hr_1120.at hkb (by decide) (by decide) hsi
                                                    replace hf_1072 := hr_1120.at hkb (by decide) (by decide) hf_1072
                                                    replace hf_1081 := hr_1120.at hkt (by decide) (by decide) hf_1081
                                                    replace hf_1082 := hr_1120.at hkt (by decide) (by decide) hf_1082
                                                    replace hf_1083 := hr_1120.at hkt (by decide) (by decide) hf_1083
                                                    replace hu := ha_1121.at hk9 (by decide) (by decide) hu
                                                    replace hfr := hfr.trans (hr_1120.sub (by decide))
                                                    replace hfa := hfa.trans (ha_1121.sub (by decide))
                                                    rcases hR_1123 with ⟨hw_1124, rfl⟩ | ⟨hw_1125, rfl⟩
                                                    · refine jj_iconst (v := 1) C dX3_readSubscriptions_37 (by decide) ?_
                                                      obtain ⟨qc, gs, hqc⟩ := tt_recv (cx := []) hok_1119 hk0 (by decide) rfl
                                                      refine tt_callV (rest := []) C (te_accept_01 hl D cA ak h0 hk0 hok_1119) [] [] rfl rfl (by decide) (by decide) (by decide) qc hqc rfl rfl jw_713f4d2af1 jw_b3e457240a jw_58c48ce796 jw_9d546d0b6f jw_0001e2e84f jn_X3_accept rfl (jj_le rfl) (jj_le rfl) (jj_le rfl) (jj_le rfl) (jj_le rfl) dX3_readSubscriptions_38 rfl (fun _ _ _ hX => hX.elim) (fun rx pl_1126 r O_1130 => ?_)
                                                      obtain ⟨rfl, hok_1127, hr_1128, ha_1129, hR_1131⟩ := O_1130
                                                      replace hs0 := hr_1128.at hk0 (by decide) (by decide) hs0
                                                      replace hx0 := hr_1128.at hkt (by decide) (by decide) hx0
                                                      replace hx2 := hr_1128.at hkt (by decide) (by decide) hx2
                                                      replace hs1 := hr_1128.at hk0 (by decide) (by decide) hs1
                                                      replace hsi := hr_1128.at hkb (by decide) (by decide) hsi
                                                      replace hf_1072 := hr_1128.at hkb (by decide) (by decide) hf_1072
                                                      replace hf_1081 := hr_1128.at hkt (by decide) (by decide) hf_1081
                                                      replace hf_1082 := hr_1128.at hkt (by decide) (by decide) hf_1082
                                                      replace hf_1083 := hr_1128.at hkt (by decide) (by decide) hf_1083
                                                      replace hu := ha_1129.at hk9 (by decide) (by decide) hu
                                                      replace hfr := hfr.trans (hr_1128.sub (by decide))
                                                      replace hfa := hfa.trans (ha_1129.sub (by decide))
                                                      obtain ⟨hf_1132, rfl⟩ := hR_1131
                                                      refine jj_if_eqT (tgt := 70) C dX3_readSubscriptions_41 (by decide) (by decide) ?_
                                                      refine jj_iconst (v := 0) C dX3_readSubscriptions_70 (by decide) ?_
                                                      exact jj_zret C rfl ⟨[], pl_1126, rfl, rfl, hok_1127, hfr, hfa, (Or.inl ⟨1, n_1079, _, (by decide), hf_1081, hf_1132, (ps_subs.nx ht_37 hkd_38.1 (ps_sub.of (ps_step.ok ht_37 (Or.inr (Or.inr ⟨hw_98, by decide, rfl⟩))) hq_132) (ps_subs.nx ht_171 hkd_172.1 (ps_sub.of (ps_step.ok ht_171 (Or.inr (Or.inr ⟨hw_232, by decide, rfl⟩))) hq_266) (ps_subs.nx ht_305 hkd_306.1 (ps_sub.of (ps_step.ok ht_305 (Or.inr (Or.inr ⟨hw_366, by decide, rfl⟩))) hq_400) (ps_subs.nx ht_439 hkd_440.1 (ps_sub.of (ps_step.ok ht_439 (Or.inr (Or.inr ⟨hw_500, by decide, rfl⟩))) hq_534) (ps_subs.nx ht_573 hkd_574.1 (ps_sub.of (ps_step.ok ht_573 (Or.inr (Or.inr ⟨hw_634, by decide, rfl⟩))) hq_668) (ps_subs.nx ht_707 hkd_708.1 (ps_sub.of (ps_step.ok ht_707 (Or.inr (Or.inr ⟨hw_768, by decide, rfl⟩))) hq_802) (ps_subs.nx ht_841 hkd_842.1 (ps_sub.of (ps_step.ok ht_841 (Or.inr (Or.inr ⟨hw_902, by decide, rfl⟩))) hq_936) (ps_subs.nx ht_975 hkd_976.1 (ps_sub.of (ps_step.ok ht_975 (Or.inr (Or.inr ⟨hw_1036, by decide, rfl⟩))) hq_1070) (ps_subs.nx ht_1084 hkd_1085.1 ⟨(1, n_1079, 0), (1, n_1079, 0), (1, n_1079, 0), (ps_step.no ht_1084 (Or.inl ⟨hw_1124, rfl⟩) (by decide)), (ps_step.st (show (1 : Nat) ≠ 0 by decide)), (ps_step.st (show (1 : Nat) ≠ 0 by decide)), (ps_step.st (show (1 : Nat) ≠ 0 by decide))⟩ (ps_subs.er (k := 0) (by decide))))))))))), rfl⟩)⟩ dX3_readSubscriptions_71 (jj_le rfl) (jj_le rfl)
                                                    · exact absurd (hw_1125.one (n := n2) (by decide) (by unfold ps_le; decide) (by omega)).2 hkd_1085.2.1
                                                  · have hzn_1086 := ht_1091.le (by omega)
                                                    refine jj_aload_n C dX3_readSubscriptions_15 rfl ?_
                                                    refine tt_getF C hok_1074 jk_4 0 (by decide) jw_70cd29f103 (t := (2, 10, 0)) hk0 (by decide) rfl rfl hs0 dX3_readSubscriptions_16 ?_
                                                    refine tt_getF C hok_1074 jk_10 5 (by decide) jw_601d0e39ae (t := (0, (-2147483648), 2147483647)) hkt (by decide) rfl rfl hf_1090 dX3_readSubscriptions_19 ?_
                                                    refine jj_if_neT (tgt := 27) C dX3_readSubscriptions_22 (by decide) (by decide) ?_
                                                    refine jj_aload_n C dX3_readSubscriptions_27 rfl ?_
                                                    refine jj_aload_n C dX3_readSubscriptions_28 rfl ?_
                                                    refine tt_getF C hok_1074 jk_4 0 (by decide) jw_70cd29f103 (t := (2, 10, 0)) hk0 (by decide) rfl rfl hs0 dX3_readSubscriptions_29 ?_
                                                    refine jj_ldcs (k := 4) (tx := "subscribe") C dX3_readSubscriptions_32 (by decide +kernel) ?_
                                                    obtain ⟨qc, gs, hqc⟩ := tt_recv (cx := []) hok_1074 hkt (by decide) rfl
                                                    refine tt_callV (rest := [.ref h0]) C (te_isWord_subscribe hl D cA ak tk a9 n2 n_1087 n_1086 (3 : Int32) u c hkt hk9 (by omega) (by omega) (by omega) hc ⟨fun q => absurd q (by decide), fun q => absurd q.2 hkd_1092.2.1⟩ hok_1074 hx0 hf_1089 hf_1088 hf_1090 hu) [] [] rfl rfl (by decide) (by decide) (by decide) qc hqc rfl rfl jw_b0fe72c6f4 jw_5e9522a00c jw_73cf9edcb7 jw_a9e7b602dc jw_ce1c1f12e9 jn_X9_isWord rfl (jj_le rfl) (jj_le rfl) (jj_le rfl) (jj_le rfl) (jj_le rfl) dX3_readSubscriptions_34 rfl (fun _ _ _ hX => hX.elim) (fun rx pl_1133 r O_1137 => ?_)
                                                    obtain ⟨rfl, hok_1134, hr_1135, ha_1136, hR_1138⟩ := O_1137
                                                    replace hs0 := hr_1135.at hk0 (by decide) (by decide) hs0
                                                    replace hx0 := hr_1135.at hkt (by decide) (by decide) hx0
                                                    replace hx2 := hr_1135.at hkt (by decide) (by decide) hx2
                                                    replace hs1 := hr_1135.at hk0 (by decide) (by decide) hs1
                                                    replace hsi := hr_1135.at hkb (by decide) (by decide) hsi
                                                    replace hf_1072 := hr_1135.at hkb (by decide) (by decide) hf_1072
                                                    replace hf_1088 := hr_1135.at hkt (by decide) (by decide) hf_1088
                                                    replace hf_1089 := hr_1135.at hkt (by decide) (by decide) hf_1089
                                                    replace hf_1090 := hr_1135.at hkt (by decide) (by decide) hf_1090
                                                    replace hu := ha_1136.at hk9 (by decide) (by decide) hu
                                                    replace hfr := hfr.trans (hr_1135.sub (by decide))
                                                    replace hfa := hfa.trans (ha_1136.sub (by decide))
                                                    rcases hR_1138 with ⟨hw_1139, rfl⟩ | ⟨hw_1140, rfl⟩
                                                    · refine jj_iconst (v := 1) C dX3_readSubscriptions_37 (by decide) ?_
                                                      obtain ⟨qc, gs, hqc⟩ := tt_recv (cx := []) hok_1134 hk0 (by decide) rfl
                                                      refine tt_callV (rest := []) C (te_accept_01 hl D cA ak h0 hk0 hok_1134) [] [] rfl rfl (by decide) (by decide) (by decide) qc hqc rfl rfl jw_713f4d2af1 jw_b3e457240a jw_58c48ce796 jw_9d546d0b6f jw_0001e2e84f jn_X3_accept rfl (jj_le rfl) (jj_le rfl) (jj_le rfl) (jj_le rfl) (jj_le rfl) dX3_readSubscriptions_38 rfl (fun _ _ _ hX => hX.elim) (fun rx pl_1141 r O_1145 => ?_)
                                                      obtain ⟨rfl, hok_1142, hr_1143, ha_1144, hR_1146⟩ := O_1145
                                                      replace hs0 := hr_1143.at hk0 (by decide) (by decide) hs0
                                                      replace hx0 := hr_1143.at hkt (by decide) (by decide) hx0
                                                      replace hx2 := hr_1143.at hkt (by decide) (by decide) hx2
                                                      replace hs1 := hr_1143.at hk0 (by decide) (by decide) hs1
                                                      replace hsi := hr_1143.at hkb (by decide) (by decide) hsi
                                                      replace hf_1072 := hr_1143.at hkb (by decide) (by decide) hf_1072
                                                      replace hf_1088 := hr_1143.at hkt (by decide) (by decide) hf_1088
                                                      replace hf_1089 := hr_1143.at hkt (by decide) (by decide) hf_1089
                                                      replace hf_1090 := hr_1143.at hkt (by decide) (by decide) hf_1090
                                                      replace hu := ha_1144.at hk9 (by decide) (by decide) hu
                                                      replace hfr := hfr.trans (hr_1143.sub (by decide))
                                                      replace hfa := hfa.trans (ha_1144.sub (by decide))
                                                      obtain ⟨hf_1147, rfl⟩ := hR_1146
                                                      refine jj_if_eqT (tgt := 70) C dX3_readSubscriptions_41 (by decide) (by decide) ?_
                                                      refine jj_iconst (v := 0) C dX3_readSubscriptions_70 (by decide) ?_
                                                      exact jj_zret C rfl ⟨[], pl_1141, rfl, rfl, hok_1142, hfr, hfa, (Or.inl ⟨1, n_1086, _, (by decide), hf_1088, hf_1147, (ps_subs.nx ht_37 hkd_38.1 (ps_sub.of (ps_step.ok ht_37 (Or.inr (Or.inr ⟨hw_98, by decide, rfl⟩))) hq_132) (ps_subs.nx ht_171 hkd_172.1 (ps_sub.of (ps_step.ok ht_171 (Or.inr (Or.inr ⟨hw_232, by decide, rfl⟩))) hq_266) (ps_subs.nx ht_305 hkd_306.1 (ps_sub.of (ps_step.ok ht_305 (Or.inr (Or.inr ⟨hw_366, by decide, rfl⟩))) hq_400) (ps_subs.nx ht_439 hkd_440.1 (ps_sub.of (ps_step.ok ht_439 (Or.inr (Or.inr ⟨hw_500, by decide, rfl⟩))) hq_534) (ps_subs.nx ht_573 hkd_574.1 (ps_sub.of (ps_step.ok ht_573 (Or.inr (Or.inr ⟨hw_634, by decide, rfl⟩))) hq_668) (ps_subs.nx ht_707 hkd_708.1 (ps_sub.of (ps_step.ok ht_707 (Or.inr (Or.inr ⟨hw_768, by decide, rfl⟩))) hq_802) (ps_subs.nx ht_841 hkd_842.1 (ps_sub.of (ps_step.ok ht_841 (Or.inr (Or.inr ⟨hw_902, by decide, rfl⟩))) hq_936) (ps_subs.nx ht_975 hkd_976.1 (ps_sub.of (ps_step.ok ht_975 (Or.inr (Or.inr ⟨hw_1036, by decide, rfl⟩))) hq_1070) (ps_subs.nx ht_1091 hkd_1092.1 ⟨(1, n_1086, 0), (1, n_1086, 0), (1, n_1086, 0), (ps_step.no ht_1091 (Or.inl ⟨hw_1139, rfl⟩) (by decide)), (ps_step.st (show (1 : Nat) ≠ 0 by decide)), (ps_step.st (show (1 : Nat) ≠ 0 by decide)), (ps_step.st (show (1 : Nat) ≠ 0 by decide))⟩ (ps_subs.er (k := 0) (by decide))))))))))), rfl⟩)⟩ dX3_readSubscriptions_71 (jj_le rfl) (jj_le rfl)
                                                    · exact absurd (hw_1140.one (n := n2) (by decide) (by unfold ps_le; decide) (by omega)).2 hkd_1092.2.1
                                                  · have hzn_1093 := ht_1098.le (by omega)
                                                    have lx_1100 := tt_lo x_1100
                                                    have ux_1100 := tt_hi x_1100
                                                    refine jj_aload_n C dX3_readSubscriptions_15 rfl ?_
                                                    refine tt_getF C hok_1074 jk_4 0 (by decide) jw_70cd29f103 (t := (2, 10, 0)) hk0 (by decide) rfl rfl hs0 dX3_readSubscriptions_16 ?_
                                                    refine tt_getF C hok_1074 jk_10 5 (by decide) jw_601d0e39ae (t := (0, (-2147483648), 2147483647)) hkt (by decide) rfl rfl hf_1097 dX3_readSubscriptions_19 ?_
                                                    refine jj_if_neT (tgt := 27) C dX3_readSubscriptions_22 (by decide) (by decide) ?_
                                                    refine jj_aload_n C dX3_readSubscriptions_27 rfl ?_
                                                    refine jj_aload_n C dX3_readSubscriptions_28 rfl ?_
                                                    refine tt_getF C hok_1074 jk_4 0 (by decide) jw_70cd29f103 (t := (2, 10, 0)) hk0 (by decide) rfl rfl hs0 dX3_readSubscriptions_29 ?_
                                                    refine jj_ldcs (k := 4) (tx := "subscribe") C dX3_readSubscriptions_32 (by decide +kernel) ?_
                                                    obtain ⟨qc, gs, hqc⟩ := tt_recv (cx := []) hok_1074 hkt (by decide) rfl
                                                    refine tt_callV (rest := [.ref h0]) C (te_isWord_subscribe hl D cA ak tk a9 n2 n_1094 n_1093 (2 : Int32) u c hkt hk9 (by omega) (by omega) (by omega) hc ⟨fun q => absurd q (by decide), fun q => absurd q.2 hkd_1099.2.1⟩ hok_1074 hx0 hf_1096 hf_1095 hf_1097 hu) [] [] rfl rfl (by decide) (by decide) (by decide) qc hqc rfl rfl jw_b0fe72c6f4 jw_5e9522a00c jw_73cf9edcb7 jw_a9e7b602dc jw_ce1c1f12e9 jn_X9_isWord rfl (jj_le rfl) (jj_le rfl) (jj_le rfl) (jj_le rfl) (jj_le rfl) dX3_readSubscriptions_34 rfl (fun _ _ _ hX => hX.elim) (fun rx pl_1148 r O_1152 => ?_)
                                                    obtain ⟨rfl, hok_1149, hr_1150, ha_1151, hR_1153⟩ := O_1152
                                                    replace hs0 := hr_1150.at hk0 (by decide) (by decide) hs0
                                                    replace hx0 := hr_1150.at hkt (by decide) (by decide) hx0
                                                    replace hx2 := hr_1150.at hkt (by decide) (by decide) hx2
                                                    replace hs1 := hr_1150.at hk0 (by decide) (by decide) hs1
                                                    replace hsi := hr_1150.at hkb (by decide) (by decide) hsi
                                                    replace hf_1072 := hr_1150.at hkb (by decide) (by decide) hf_1072
                                                    replace hf_1095 := hr_1150.at hkt (by decide) (by decide) hf_1095
                                                    replace hf_1096 := hr_1150.at hkt (by decide) (by decide) hf_1096
                                                    replace hf_1097 := hr_1150.at hkt (by decide) (by decide) hf_1097
                                                    replace hf_1101 := hr_1150.at hkt (by decide) (by decide) hf_1101
                                                    replace hu := ha_1151.at hk9 (by decide) (by decide) hu
                                                    replace hfr := hfr.trans (hr_1150.sub (by decide))
                                                    replace hfa := hfa.trans (ha_1151.sub (by decide))
                                                    rcases hR_1153 with ⟨hw_1154, rfl⟩ | ⟨hw_1155, rfl⟩
                                                    · refine jj_iconst (v := 1) C dX3_readSubscriptions_37 (by decide) ?_
                                                      obtain ⟨qc, gs, hqc⟩ := tt_recv (cx := []) hok_1149 hk0 (by decide) rfl
                                                      refine tt_callV (rest := []) C (te_accept_01 hl D cA ak h0 hk0 hok_1149) [] [] rfl rfl (by decide) (by decide) (by decide) qc hqc rfl rfl jw_713f4d2af1 jw_b3e457240a jw_58c48ce796 jw_9d546d0b6f jw_0001e2e84f jn_X3_accept rfl (jj_le rfl) (jj_le rfl) (jj_le rfl) (jj_le rfl) (jj_le rfl) dX3_readSubscriptions_38 rfl (fun _ _ _ hX => hX.elim) (fun rx pl_1156 r O_1160 => ?_)
                                                      obtain ⟨rfl, hok_1157, hr_1158, ha_1159, hR_1161⟩ := O_1160
                                                      replace hs0 := hr_1158.at hk0 (by decide) (by decide) hs0
                                                      replace hx0 := hr_1158.at hkt (by decide) (by decide) hx0
                                                      replace hx2 := hr_1158.at hkt (by decide) (by decide) hx2
                                                      replace hs1 := hr_1158.at hk0 (by decide) (by decide) hs1
                                                      replace hsi := hr_1158.at hkb (by decide) (by decide) hsi
                                                      replace hf_1072 := hr_1158.at hkb (by decide) (by decide) hf_1072
                                                      replace hf_1095 := hr_1158.at hkt (by decide) (by decide) hf_1095
                                                      replace hf_1096 := hr_1158.at hkt (by decide) (by decide) hf_1096
                                                      replace hf_1097 := hr_1158.at hkt (by decide) (by decide) hf_1097
                                                      replace hf_1101 := hr_1158.at hkt (by decide) (by decide) hf_1101
                                                      replace hu := ha_1159.at hk9 (by decide) (by decide) hu
                                                      replace hfr := hfr.trans (hr_1158.sub (by decide))
                                                      replace hfa := hfa.trans (ha_1159.sub (by decide))
                                                      obtain ⟨hf_1162, rfl⟩ := hR_1161
                                                      refine jj_if_eqT (tgt := 70) C dX3_readSubscriptions_41 (by decide) (by decide) ?_
                                                      refine jj_iconst (v := 0) C dX3_readSubscriptions_70 (by decide) ?_
                                                      exact jj_zret C rfl ⟨[], pl_1156, rfl, rfl, hok_1157, hfr, hfa, (Or.inl ⟨1, n_1093, _, (by decide), hf_1095, hf_1162, (ps_subs.nx ht_37 hkd_38.1 (ps_sub.of (ps_step.ok ht_37 (Or.inr (Or.inr ⟨hw_98, by decide, rfl⟩))) hq_132) (ps_subs.nx ht_171 hkd_172.1 (ps_sub.of (ps_step.ok ht_171 (Or.inr (Or.inr ⟨hw_232, by decide, rfl⟩))) hq_266) (ps_subs.nx ht_305 hkd_306.1 (ps_sub.of (ps_step.ok ht_305 (Or.inr (Or.inr ⟨hw_366, by decide, rfl⟩))) hq_400) (ps_subs.nx ht_439 hkd_440.1 (ps_sub.of (ps_step.ok ht_439 (Or.inr (Or.inr ⟨hw_500, by decide, rfl⟩))) hq_534) (ps_subs.nx ht_573 hkd_574.1 (ps_sub.of (ps_step.ok ht_573 (Or.inr (Or.inr ⟨hw_634, by decide, rfl⟩))) hq_668) (ps_subs.nx ht_707 hkd_708.1 (ps_sub.of (ps_step.ok ht_707 (Or.inr (Or.inr ⟨hw_768, by decide, rfl⟩))) hq_802) (ps_subs.nx ht_841 hkd_842.1 (ps_sub.of (ps_step.ok ht_841 (Or.inr (Or.inr ⟨hw_902, by decide, rfl⟩))) hq_936) (ps_subs.nx ht_975 hkd_976.1 (ps_sub.of (ps_step.ok ht_975 (Or.inr (Or.inr ⟨hw_1036, by decide, rfl⟩))) hq_1070) (ps_subs.nx ht_1098 hkd_1099.1 ⟨(1, n_1093, 0), (1, n_1093, 0), (1, n_1093, 0), (ps_step.no ht_1098 (Or.inl ⟨hw_1154, rfl⟩) (by decide)), (ps_step.st (show (1 : Nat) ≠ 0 by decide)), (ps_step.st (show (1 : Nat) ≠ 0 by decide)), (ps_step.st (show (1 : Nat) ≠ 0 by decide))⟩ (ps_subs.er (k := 0) (by decide))))))))))), rfl⟩)⟩ dX3_readSubscriptions_71 (jj_le rfl) (jj_le rfl)
                                                    · exact absurd (hw_1155.one (n := n2) (by decide) (by unfold ps_le; decide) (by omega)).2 hkd_1099.2.1
                                                  · have hzn_1104 := ht_1109.le (by omega)
                                                    refine jj_aload_n C dX3_readSubscriptions_15 rfl ?_
                                                    refine tt_getF C hok_1074 jk_4 0 (by decide) jw_70cd29f103 (t := (2, 10, 0)) hk0 (by decide) rfl rfl hs0 dX3_readSubscriptions_16 ?_
                                                    refine tt_getF C hok_1074 jk_10 5 (by decide) jw_601d0e39ae (t := (0, (-2147483648), 2147483647)) hkt (by decide) rfl rfl hf_1108 dX3_readSubscriptions_19 ?_
                                                    refine jj_if_neT (tgt := 27) C dX3_readSubscriptions_22 (by decide) (by decide) ?_
                                                    refine jj_aload_n C dX3_readSubscriptions_27 rfl ?_
                                                    refine jj_aload_n C dX3_readSubscriptions_28 rfl ?_
                                                    refine tt_getF C hok_1074 jk_4 0 (by decide) jw_70cd29f103 (t := (2, 10, 0)) hk0 (by decide) rfl rfl hs0 dX3_readSubscriptions_29 ?_
                                                    refine jj_ldcs (k := 4) (tx := "subscribe") C dX3_readSubscriptions_32 (by decide +kernel) ?_
                                                    obtain ⟨qc, gs, hqc⟩ := tt_recv (cx := []) hok_1074 hkt (by decide) rfl
                                                    refine tt_callV (rest := [.ref h0]) C (te_isWord_subscribe hl D cA ak tk a9 n2 n_1105 n_1104 (1 : Int32) u c hkt hk9 (by omega) (by omega) (by omega) hc ⟨fun _ => hkd_1110, fun _ => rfl⟩ hok_1074 hx0 hf_1107 hf_1106 hf_1108 hu) [] [] rfl rfl (by decide) (by decide) (by decide) qc hqc rfl rfl jw_b0fe72c6f4 jw_5e9522a00c jw_73cf9edcb7 jw_a9e7b602dc jw_ce1c1f12e9 jn_X9_isWord rfl (jj_le rfl) (jj_le rfl) (jj_le rfl) (jj_le rfl) (jj_le rfl) dX3_readSubscriptions_34 rfl (fun _ _ _ hX => hX.elim) (fun rx pl_1163 r O_1167 => ?_)
                                                    obtain ⟨rfl, hok_1164, hr_1165, ha_1166, hR_1168⟩ := O_1167
                                                    replace hs0 := hr_1165.at hk0 (by decide) (by decide) hs0
                                                    replace hx0 := hr_1165.at hkt (by decide) (by decide) hx0
                                                    replace hx2 := hr_1165.at hkt (by decide) (by decide) hx2
                                                    replace hs1 := hr_1165.at hk0 (by decide) (by decide) hs1
                                                    replace hsi := hr_1165.at hkb (by decide) (by decide) hsi
                                                    replace hf_1072 := hr_1165.at hkb (by decide) (by decide) hf_1072
                                                    replace hf_1106 := hr_1165.at hkt (by decide) (by decide) hf_1106
                                                    replace hf_1107 := hr_1165.at hkt (by decide) (by decide) hf_1107
                                                    replace hf_1108 := hr_1165.at hkt (by decide) (by decide) hf_1108
                                                    replace hu := ha_1166.at hk9 (by decide) (by decide) hu
                                                    replace hfr := hfr.trans (hr_1165.sub (by decide))
                                                    replace hfa := hfa.trans (ha_1166.sub (by decide))
                                                    rcases hR_1168 with ⟨hw_1169, rfl⟩ | ⟨hw_1170, rfl⟩
                                                    · refine jj_iconst (v := 1) C dX3_readSubscriptions_37 (by decide) ?_
                                                      obtain ⟨qc, gs, hqc⟩ := tt_recv (cx := []) hok_1164 hk0 (by decide) rfl
                                                      refine tt_callV (rest := []) C (te_accept_01 hl D cA ak h0 hk0 hok_1164) [] [] rfl rfl (by decide) (by decide) (by decide) qc hqc rfl rfl jw_713f4d2af1 jw_b3e457240a jw_58c48ce796 jw_9d546d0b6f jw_0001e2e84f jn_X3_accept rfl (jj_le rfl) (jj_le rfl) (jj_le rfl) (jj_le rfl) (jj_le rfl) dX3_readSubscriptions_38 rfl (fun _ _ _ hX => hX.elim) (fun rx pl_1171 r O_1175 => ?_)
                                                      obtain ⟨rfl, hok_1172, hr_1173, ha_1174, hR_1176⟩ := O_1175
                                                      replace hs0 := hr_1173.at hk0 (by decide) (by decide) hs0
                                                      replace hx0 := hr_1173.at hkt (by decide) (by decide) hx0
                                                      replace hx2 := hr_1173.at hkt (by decide) (by decide) hx2
                                                      replace hs1 := hr_1173.at hk0 (by decide) (by decide) hs1
                                                      replace hsi := hr_1173.at hkb (by decide) (by decide) hsi
                                                      replace hf_1072 := hr_1173.at hkb (by decide) (by decide) hf_1072
                                                      replace hf_1106 := hr_1173.at hkt (by decide) (by decide) hf_1106
                                                      replace hf_1107 := hr_1173.at hkt (by decide) (by decide) hf_1107
                                                      replace hf_1108 := hr_1173.at hkt (by decide) (by decide) hf_1108
                                                      replace hu := ha_1174.at hk9 (by decide) (by decide) hu
                                                      replace hfr := hfr.trans (hr_1173.sub (by decide))
                                                      replace hfa := hfa.trans (ha_1174.sub (by decide))
                                                      obtain ⟨hf_1177, rfl⟩ := hR_1176
                                                      refine jj_if_eqT (tgt := 70) C dX3_readSubscriptions_41 (by decide) (by decide) ?_
                                                      refine jj_iconst (v := 0) C dX3_readSubscriptions_70 (by decide) ?_
                                                      exact jj_zret C rfl ⟨[], pl_1171, rfl, rfl, hok_1172, hfr, hfa, (Or.inl ⟨1, n_1104, _, (by decide), hf_1106, hf_1177, (ps_subs.nx ht_37 hkd_38.1 (ps_sub.of (ps_step.ok ht_37 (Or.inr (Or.inr ⟨hw_98, by decide, rfl⟩))) hq_132) (ps_subs.nx ht_171 hkd_172.1 (ps_sub.of (ps_step.ok ht_171 (Or.inr (Or.inr ⟨hw_232, by decide, rfl⟩))) hq_266) (ps_subs.nx ht_305 hkd_306.1 (ps_sub.of (ps_step.ok ht_305 (Or.inr (Or.inr ⟨hw_366, by decide, rfl⟩))) hq_400) (ps_subs.nx ht_439 hkd_440.1 (ps_sub.of (ps_step.ok ht_439 (Or.inr (Or.inr ⟨hw_500, by decide, rfl⟩))) hq_534) (ps_subs.nx ht_573 hkd_574.1 (ps_sub.of (ps_step.ok ht_573 (Or.inr (Or.inr ⟨hw_634, by decide, rfl⟩))) hq_668) (ps_subs.nx ht_707 hkd_708.1 (ps_sub.of (ps_step.ok ht_707 (Or.inr (Or.inr ⟨hw_768, by decide, rfl⟩))) hq_802) (ps_subs.nx ht_841 hkd_842.1 (ps_sub.of (ps_step.ok ht_841 (Or.inr (Or.inr ⟨hw_902, by decide, rfl⟩))) hq_936) (ps_subs.nx ht_975 hkd_976.1 (ps_sub.of (ps_step.ok ht_975 (Or.inr (Or.inr ⟨hw_1036, by decide, rfl⟩))) hq_1070) (ps_subs.nx ht_1109 hkd_1110.1 ⟨(1, n_1104, 0), (1, n_1104, 0), (1, n_1104, 0), (ps_step.no ht_1109 (Or.inl ⟨hw_1169, rfl⟩) (by decide)), (ps_step.st (show (1 : Nat) ≠ 0 by decide)), (ps_step.st (show (1 : Nat) ≠ 0 by decide)), (ps_step.st (show (1 : Nat) ≠ 0 by decide))⟩ (ps_subs.er (k := 0) (by decide))))))))))), rfl⟩)⟩ dX3_readSubscriptions_71 (jj_le rfl) (jj_le rfl)
                                                    · refine jj_iconst (v := 1) C dX3_readSubscriptions_37 (by decide) ?_
                                                      obtain ⟨qc, gs, hqc⟩ := tt_recv (cx := []) hok_1164 hk0 (by decide) rfl
                                                      refine tt_callV (rest := []) C (te_accept_11 hl D cA ak h0 hk0 hok_1164) [] [] rfl rfl (by decide) (by decide) (by decide) qc hqc rfl rfl jw_713f4d2af1 jw_b3e457240a jw_58c48ce796 jw_9d546d0b6f jw_0001e2e84f jn_X3_accept rfl (jj_le rfl) (jj_le rfl) (jj_le rfl) (jj_le rfl) (jj_le rfl) dX3_readSubscriptions_38 rfl (fun _ _ _ hX => hX.elim) (fun rx pl_1178 r O_1182 => ?_)
                                                      obtain ⟨rfl, hok_1179, hr_1180, ha_1181, hR_1183⟩ := O_1182
                                                      replace hs0 := hr_1180.at hk0 (by decide) (by decide) hs0
                                                      replace hx0 := hr_1180.at hkt (by decide) (by decide) hx0
                                                      replace hx2 := hr_1180.at hkt (by decide) (by decide) hx2
                                                      replace hs1 := hr_1180.at hk0 (by decide) (by decide) hs1
                                                      replace hsi := hr_1180.at hkb (by decide) (by decide) hsi
                                                      replace hf_1072 := hr_1180.at hkb (by decide) (by decide) hf_1072
                                                      replace hf_1106 := hr_1180.at hkt (by decide) (by decide) hf_1106
                                                      replace hf_1107 := hr_1180.at hkt (by decide) (by decide) hf_1107
                                                      replace hf_1108 := hr_1180.at hkt (by decide) (by decide) hf_1108
                                                      replace hu := ha_1181.at hk9 (by decide) (by decide) hu
                                                      replace hfr := hfr.trans (hr_1180.sub (by decide))
                                                      replace hfa := hfa.trans (ha_1181.sub (by decide))
                                                      obtain rfl := hR_1183
                                                      refine jj_if_eqF (tgt := 70) C dX3_readSubscriptions_41 (by decide) (by decide) ?_
                                                      refine jj_aload_n C dX3_readSubscriptions_44 rfl ?_
                                                      refine jj_iload_n C dX3_readSubscriptions_45 rfl ?_
                                                      refine jj_bipush (v := 12) C dX3_readSubscriptions_46 (by decide) ?_
                                                      refine jj_icmp_geF (tgt := 55) C dX3_readSubscriptions_48 (by decide) (by decide) ?_
                                                      refine jj_iconst (v := 1) C dX3_readSubscriptions_51 (by decide) ?_
                                                      refine jj_goto (tgt := 56) C dX3_readSubscriptions_52 (by decide) ?_
                                                      refine jj_iconst (v := 3) C dX3_readSubscriptions_56 (by decide) ?_
                                                      obtain ⟨qc, gs, hqc⟩ := tt_recv (cx := []) hok_1179 hk0 (by decide) rfl
                                                      refine tt_callV (rest := []) C (te_accept_13 hl D cA ak h0 hk0 hok_1179) [] [] rfl rfl (by decide) (by decide) (by decide) qc hqc rfl rfl jw_713f4d2af1 jw_b3e457240a jw_58c48ce796 jw_9d546d0b6f jw_0001e2e84f jn_X3_accept rfl (jj_le rfl) (jj_le rfl) (jj_le rfl) (jj_le rfl) (jj_le rfl) dX3_readSubscriptions_57 rfl (fun _ _ _ hX => hX.elim) (fun rx pl_1184 r O_1188 => ?_)
                                                      obtain ⟨rfl, hok_1185, hr_1186, ha_1187, hR_1189⟩ := O_1188
                                                      replace hs0 := hr_1186.at hk0 (by decide) (by decide) hs0
                                                      replace hx0 := hr_1186.at hkt (by decide) (by decide) hx0
                                                      replace hx2 := hr_1186.at hkt (by decide) (by decide) hx2
                                                      replace hs1 := hr_1186.at hk0 (by decide) (by decide) hs1
                                                      replace hsi := hr_1186.at hkb (by decide) (by decide) hsi
                                                      replace hf_1072 := hr_1186.at hkb (by decide) (by decide) hf_1072
                                                      replace hf_1106 := hr_1186.at hkt (by decide) (by decide) hf_1106
                                                      replace hf_1107 := hr_1186.at hkt (by decide) (by decide) hf_1107
                                                      replace hf_1108 := hr_1186.at hkt (by decide) (by decide) hf_1108
                                                      replace hu := ha_1187.at hk9 (by decide) (by decide) hu
                                                      replace hfr := hfr.trans (hr_1186.sub (by decide))
                                                      replace hfa := hfa.trans (ha_1187.sub (by decide))
                                                      obtain rfl := hR_1189
                                                      refine jj_if_eqF (tgt := 70) C dX3_readSubscriptions_60 (by decide) (by decide) ?_
                                                      refine jj_aload_n C dX3_readSubscriptions_63 rfl ?_
                                                      obtain ⟨qc, gs, hqc⟩ := tt_recv (cx := []) hok_1185 hk0 (by decide) rfl
                                                      refine tt_callV (rest := []) C (te_readSubscription hl D cA ak h0 tk a9 bk n2 n_1105 u c iv 8 hk0 hkt hk9 hkb (by omega) (by omega) hc (by omega) (by omega) (by omega) hok_1185 hs0 hx0 hx2 hf_1107 hs1 hsi hf_1072 hu) [] [] rfl rfl (by decide) (by decide) (by decide) qc hqc rfl rfl jw_b50e5c10ea jw_23105775d0 jw_16355fb5ab jw_9d546d0b6f jw_0cc88cc191 jn_X3_readSubscription rfl (jj_le rfl) (jj_le rfl) (jj_le rfl) (jj_le rfl) (jj_le rfl) dX3_readSubscriptions_64 rfl (fun _ _ _ hX => hX.elim) (fun rx pl_1190 r O_1194 => ?_)
                                                      obtain ⟨rfl, hok_1191, hr_1192, ha_1193, hR_1195⟩ := O_1194
                                                      replace hs0 := hr_1192.at hk0 (by decide) (by decide) hs0
                                                      replace hx0 := hr_1192.at hkt (by decide) (by decide) hx0
                                                      replace hx2 := hr_1192.at hkt (by decide) (by decide) hx2
                                                      replace hs1 := hr_1192.at hk0 (by decide) (by decide) hs1
                                                      replace hsi := hr_1192.at hkb (by decide) (by decide) hsi
                                                      replace hu := ha_1193.at hk9 (by decide) (by decide) hu
                                                      replace hfr := hfr.trans (hr_1192.sub (by decide))
                                                      replace hfa := hfa.trans (ha_1193.sub (by decide))
                                                      rcases hR_1195 with ⟨n_1197, n_1196, hn_1201, hf_1198, hf_1199, hq_1200, rfl⟩ | ⟨n_1202, hle_1205, hf_1203, hf_1206, hq_1204, rfl⟩
                                                      · refine jj_if_neF (tgt := 72) C dX3_readSubscriptions_67 (by decide) (by decide) ?_
                                                        refine jj_iconst (v := 0) C dX3_readSubscriptions_70 (by decide) ?_
                                                        exact jj_zret C rfl ⟨[], pl_1190, rfl, rfl, hok_1191, hfr, hfa, (Or.inl ⟨n_1197, n_1196, _, hn_1201, hf_1198, hf_1199, (ps_subs.nx ht_37 hkd_38.1 (ps_sub.of (ps_step.ok ht_37 (Or.inr (Or.inr ⟨hw_98, by decide, rfl⟩))) hq_132) (ps_subs.nx ht_171 hkd_172.1 (ps_sub.of (ps_step.ok ht_171 (Or.inr (Or.inr ⟨hw_232, by decide, rfl⟩))) hq_266) (ps_subs.nx ht_305 hkd_306.1 (ps_sub.of (ps_step.ok ht_305 (Or.inr (Or.inr ⟨hw_366, by decide, rfl⟩))) hq_400) (ps_subs.nx ht_439 hkd_440.1 (ps_sub.of (ps_step.ok ht_439 (Or.inr (Or.inr ⟨hw_500, by decide, rfl⟩))) hq_534) (ps_subs.nx ht_573 hkd_574.1 (ps_sub.of (ps_step.ok ht_573 (Or.inr (Or.inr ⟨hw_634, by decide, rfl⟩))) hq_668) (ps_subs.nx ht_707 hkd_708.1 (ps_sub.of (ps_step.ok ht_707 (Or.inr (Or.inr ⟨hw_768, by decide, rfl⟩))) hq_802) (ps_subs.nx ht_841 hkd_842.1 (ps_sub.of (ps_step.ok ht_841 (Or.inr (Or.inr ⟨hw_902, by decide, rfl⟩))) hq_936) (ps_subs.nx ht_975 hkd_976.1 (ps_sub.of (ps_step.ok ht_975 (Or.inr (Or.inr ⟨hw_1036, by decide, rfl⟩))) hq_1070) (ps_subs.nx ht_1109 hkd_1110.1 (ps_sub.of (ps_step.ok ht_1109 (Or.inr (Or.inr ⟨hw_1170, by decide, rfl⟩))) hq_1200) (ps_subs.er (k := 0) hn_1201)))))))))), rfl⟩)⟩ dX3_readSubscriptions_71 (jj_le rfl) (jj_le rfl)
                                                      · refine jj_if_neT (tgt := 72) C dX3_readSubscriptions_67 (by decide) (by decide) ?_
                                                        refine jj_iinc (v := 9) C dX3_readSubscriptions_72 rfl (by decide) (by decide) rfl ?_
                                                        refine jj_goto (tgt := 2) C dX3_readSubscriptions_75 (by decide) ?_
                                                        refine jj_iload_n C dX3_readSubscriptions_2 rfl ?_
                                                        refine jj_bipush (v := 12) C dX3_readSubscriptions_3 (by decide) ?_
                                                        refine jj_icmp_gtF (tgt := 78) C dX3_readSubscriptions_5 (by decide) (by decide) ?_
                                                        refine jj_aload_n C dX3_readSubscriptions_8 rfl ?_
                                                        refine tt_getF C hok_1191 jk_4 0 (by decide) jw_70cd29f103 (t := (2, 10, 0)) hk0 (by decide) rfl rfl hs0 dX3_readSubscriptions_9 ?_
                                                        obtain ⟨qc, gs, hqc⟩ := tt_recv (cx := []) hok_1191 hkt (by decide) rfl
                                                        refine tt_callV (rest := []) C (te_advance hl D cA ak tk a9 n2 n_1202 u c hkt hk9 (by omega) (by omega) hc hok_1191 hx0 hx2 hf_1203 hu) [] [] rfl rfl (by decide) (by decide) (by decide) qc hqc rfl rfl jw_97c023d194 jw_37f6ee43e0 jw_46baf1fc7b jw_a9e7b602dc jw_0d4db63612 jn_X9_advance rfl (jj_le rfl) (jj_le rfl) (jj_le rfl) (jj_le rfl) (jj_le rfl) dX3_readSubscriptions_12 rfl (fun _ _ _ hX => hX.elim) (fun rx pl_1207 r O_1211 => ?_)
                                                        obtain ⟨rfl, hok_1208, hr_1209, ha_1210, hR_1212⟩ := O_1211
                                                        replace hs0 := hr_1209.at hk0 (by decide) (by decide) hs0
                                                        replace hx0 := hr_1209.at hkt (by decide) (by decide) hx0
                                                        replace hx2 := hr_1209.at hkt (by decide) (by decide) hx2
                                                        replace hs1 := hr_1209.at hk0 (by decide) (by decide) hs1
                                                        replace hsi := hr_1209.at hkb (by decide) (by decide) hsi
                                                        replace hf_1206 := hr_1209.at hkb (by decide) (by decide) hf_1206
                                                        replace hu := ha_1210.at hk9 (by decide) (by decide) hu
                                                        replace hfr := hfr.trans (hr_1209.sub (by decide))
                                                        replace hfa := hfa.trans (ha_1210.sub (by decide))
                                                        rcases hR_1212 with ⟨n_1213, n_1214, hf_1215, hf_1216, hf_1217, ht_1218, hkd_1219, rfl⟩ | ⟨n_1220, n_1221, hf_1222, hf_1223, hf_1224, ht_1225, hkd_1226, rfl⟩ | ⟨n_1227, n_1228, hf_1229, hf_1230, hf_1231, ht_1232, hkd_1233, ⟨x_1234, hf_1235, hq_1236, hq_1237⟩, rfl⟩ | ⟨n_1238, n_1239, hf_1240, hf_1241, hf_1242, ht_1243, hkd_1244, rfl⟩ | ⟨n_1245, n_1246, hf_1247, hf_1248, hf_1249, ht_1250, hkd_1251, rfl⟩
                                                        · have hzn_1213 := ht_1218.le (by omega)
                                                          refine jj_aload_n C dX3_readSubscriptions_15 rfl ?_
                                                          refine tt_getF C hok_1208 jk_4 0 (by decide) jw_70cd29f103 (t := (2, 10, 0)) hk0 (by decide) rfl rfl hs0 dX3_readSubscriptions_16 ?_
                                                          refine tt_getF C hok_1208 jk_10 5 (by decide) jw_601d0e39ae (t := (0, (-2147483648), 2147483647)) hkt (by decide) rfl rfl hf_1217 dX3_readSubscriptions_19 ?_
                                                          refine jj_if_neT (tgt := 27) C dX3_readSubscriptions_22 (by decide) (by decide) ?_
                                                          refine jj_aload_n C dX3_readSubscriptions_27 rfl ?_
                                                          refine jj_aload_n C dX3_readSubscriptions_28 rfl ?_
                                                          refine tt_getF C hok_1208 jk_4 0 (by decide) jw_70cd29f103 (t := (2, 10, 0)) hk0 (by decide) rfl rfl hs0 dX3_readSubscriptions_29 ?_
                                                          refine jj_ldcs (k := 4) (tx := "subscribe") C dX3_readSubscriptions_32 (by decide +kernel) ?_
                                                          obtain ⟨qc, gs, hqc⟩ := tt_recv (cx := []) hok_1208 hkt (by decide) rfl
                                                          refine tt_callV (rest := [.ref h0]) C (te_isWord_subscribe hl D cA ak tk a9 n2 n_1214 n_1213 (4 : Int32) u c hkt hk9 (by omega) (by omega) (by omega) hc ⟨fun q => absurd q (by decide), fun q => absurd q.2 hkd_1219.2.1⟩ hok_1208 hx0 hf_1216 hf_1215 hf_1217 hu) [] [] rfl rfl (by decide) (by decide) (by decide) qc hqc rfl rfl jw_b0fe72c6f4 jw_5e9522a00c jw_73cf9edcb7 jw_a9e7b602dc jw_ce1c1f12e9 jn_X9_isWord rfl (jj_le rfl) (jj_le rfl) (jj_le rfl) (jj_le rfl) (jj_le rfl) dX3_readSubscriptions_34 rfl (fun _ _ _ hX => hX.elim) (fun rx pl_1252 r O_1256 => ?_)
                                                          obtain ⟨rfl, hok_1253, hr_1254, ha_1255, hR_1257⟩ := O_1256
                                                          replace hs0 := hr_1254.at hk0 (by decide) (by decide) hs0
                                                          replace hx0 := hr_1254.at hkt (by decide) (by decide) hx0
                                                          replace hx2 := hr_1254.at hkt (by decide) (by decide) hx2
                                                          replace hs1 := hr_1254.at hk0 (by decide) (by decide) hs1
                                                          replace hsi := hr_1254.at hkb (by decide) (by decide) hsi
                                                          replace hf_1206 := hr_1254.at hkb (by decide) (by decide) hf_1206
                                                          replace hf_1215 := hr_1254.at hkt (by decide) (by decide) hf_1215
                                                          replace hf_1216 := hr_1254.at hkt (by decide) (by decide) hf_1216
                                                          replace hf_1217 := hr_1254.at hkt (by decide) (by decide) hf_1217
                                                          replace hu := ha_1255.at hk9 (by decide) (by decide) hu
                                                          replace hfr := hfr.trans (hr_1254.sub (by decide))
                                                          replace hfa := hfa.trans (ha_1255.sub (by decide))
                                                          rcases hR_1257 with ⟨hw_1258, rfl⟩ | ⟨hw_1259, rfl⟩
                                                          · refine jj_iconst (v := 1) C dX3_readSubscriptions_37 (by decide) ?_
                                                            obtain ⟨qc, gs, hqc⟩ := tt_recv (cx := []) hok_1253 hk0 (by decide) rfl
                                                            refine tt_callV (rest := []) C (te_accept_01 hl D cA ak h0 hk0 hok_1253) [] [] rfl rfl (by decide) (by decide) (by decide) qc hqc rfl rfl jw_713f4d2af1 jw_b3e457240a jw_58c48ce796 jw_9d546d0b6f jw_0001e2e84f jn_X3_accept rfl (jj_le rfl) (jj_le rfl) (jj_le rfl) (jj_le rfl) (jj_le rfl) dX3_readSubscriptions_38 rfl (fun _ _ _ hX => hX.elim) (fun rx pl_1260 r O_1264 => ?_)
                                                            obtain ⟨rfl, hok_1261, hr_1262, ha_1263, hR_1265⟩ := O_1264
                                                            replace hs0 := hr_1262.at hk0 (by decide) (by decide) hs0
                                                            replace hx0 := hr_1262.at hkt (by decide) (by decide) hx0
                                                            replace hx2 := hr_1262.at hkt (by decide) (by decide) hx2
                                                            replace hs1 := hr_1262.at hk0 (by decide) (by decide) hs1
                                                            replace hsi := hr_1262.at hkb (by decide) (by decide) hsi
                                                            replace hf_1206 := hr_1262.at hkb (by decide) (by decide) hf_1206
                                                            replace hf_1215 := hr_1262.at hkt (by decide) (by decide) hf_1215
                                                            replace hf_1216 := hr_1262.at hkt (by decide) (by decide) hf_1216
                                                            replace hf_1217 := hr_1262.at hkt (by decide) (by decide) hf_1217
                                                            replace hu := ha_1263.at hk9 (by decide) (by decide) hu
                                                            replace hfr := hfr.trans (hr_1262.sub (by decide))
                                                            replace hfa := hfa.trans (ha_1263.sub (by decide))
                                                            obtain ⟨hf_1266, rfl⟩ := hR_1265
                                                            refine jj_if_eqT (tgt := 70) C dX3_readSubscriptions_41 (by decide) (by decide) ?_
                                                            refine jj_iconst (v := 0) C dX3_readSubscriptions_70 (by decide) ?_
                                                            exact jj_zret C rfl ⟨[], pl_1260, rfl, rfl, hok_1261, hfr, hfa, (Or.inl ⟨1, n_1213, _, (by decide), hf_1215, hf_1266, (ps_subs.nx ht_37 hkd_38.1 (ps_sub.of (ps_step.ok ht_37 (Or.inr (Or.inr ⟨hw_98, by decide, rfl⟩))) hq_132) (ps_subs.nx ht_171 hkd_172.1 (ps_sub.of (ps_step.ok ht_171 (Or.inr (Or.inr ⟨hw_232, by decide, rfl⟩))) hq_266) (ps_subs.nx ht_305 hkd_306.1 (ps_sub.of (ps_step.ok ht_305 (Or.inr (Or.inr ⟨hw_366, by decide, rfl⟩))) hq_400) (ps_subs.nx ht_439 hkd_440.1 (ps_sub.of (ps_step.ok ht_439 (Or.inr (Or.inr ⟨hw_500, by decide, rfl⟩))) hq_534) (ps_subs.nx ht_573 hkd_574.1 (ps_sub.of (ps_step.ok ht_573 (Or.inr (Or.inr ⟨hw_634, by decide, rfl⟩))) hq_668) (ps_subs.nx ht_707 hkd_708.1 (ps_sub.of (ps_step.ok ht_707 (Or.inr (Or.inr ⟨hw_768, by decide, rfl⟩))) hq_802) (ps_subs.nx ht_841 hkd_842.1 (ps_sub.of (ps_step.ok ht_841 (Or.inr (Or.inr ⟨hw_902, by decide, rfl⟩))) hq_936) (ps_subs.nx ht_975 hkd_976.1 (ps_sub.of (ps_step.ok ht_975 (Or.inr (Or.inr ⟨hw_1036, by decide, rfl⟩))) hq_1070) (ps_subs.nx ht_1109 hkd_1110.1 (ps_sub.of (ps_step.ok ht_1109 (Or.inr (Or.inr ⟨hw_1170, by decide, rfl⟩))) hq_1204) (ps_subs.nx ht_1218 hkd_1219.1 ⟨(1, n_1213, 0), (1, n_1213, 0), (1, n_1213, 0), (ps_step.no ht_1218 (Or.inl ⟨hw_1258, rfl⟩) (by decide)), (ps_step.st (show (1 : Nat) ≠ 0 by decide)), (ps_step.st (show (1 : Nat) ≠ 0 by decide)), (ps_step.st (show (1 : Nat) ≠ 0 by decide))⟩ (ps_subs.er (k := 0) (by decide)))))))))))), rfl⟩)⟩ dX3_readSubscriptions_71 (jj_le rfl) (jj_le rfl)
                                                          · exact absurd (hw_1259.one (n := n2) (by decide) (by unfold ps_le; decide) (by omega)).2 hkd_1219.2.1
                                                        · have hzn_1220 := ht_1225.le (by omega)
                                                          refine jj_aload_n C dX3_readSubscriptions_15 rfl ?_
                                                          refine tt_getF C hok_1208 jk_4 0 (by decide) jw_70cd29f103 (t := (2, 10, 0)) hk0 (by decide) rfl rfl hs0 dX3_readSubscriptions_16 ?_
                                                          refine tt_getF C hok_1208 jk_10 5 (by decide) jw_601d0e39ae (t := (0, (-2147483648), 2147483647)) hkt (by decide) rfl rfl hf_1224 dX3_readSubscriptions_19 ?_
                                                          refine jj_if_neT (tgt := 27) C dX3_readSubscriptions_22 (by decide) (by decide) ?_
                                                          refine jj_aload_n C dX3_readSubscriptions_27 rfl ?_
                                                          refine jj_aload_n C dX3_readSubscriptions_28 rfl ?_
                                                          refine tt_getF C hok_1208 jk_4 0 (by decide) jw_70cd29f103 (t := (2, 10, 0)) hk0 (by decide) rfl rfl hs0 dX3_readSubscriptions_29 ?_
                                                          refine jj_ldcs (k := 4) (tx := "subscribe") C dX3_readSubscriptions_32 (by decide +kernel) ?_
                                                          obtain ⟨qc, gs, hqc⟩ := tt_recv (cx := []) hok_1208 hkt (by decide) rfl
                                                          refine tt_callV (rest := [.ref h0]) C (te_isWord_subscribe hl D cA ak tk a9 n2 n_1221 n_1220 (3 : Int32) u c hkt hk9 (by omega) (by omega) (by omega) hc ⟨fun q => absurd q (by decide), fun q => absurd q.2 hkd_1226.2.1⟩ hok_1208 hx0 hf_1223 hf_1222 hf_1224 hu) [] [] rfl rfl (by decide) (by decide) (by decide) qc hqc rfl rfl jw_b0fe72c6f4 jw_5e9522a00c jw_73cf9edcb7 jw_a9e7b602dc jw_ce1c1f12e9 jn_X9_isWord rfl (jj_le rfl) (jj_le rfl) (jj_le rfl) (jj_le rfl) (jj_le rfl) dX3_readSubscriptions_34 rfl (fun _ _ _ hX => hX.elim) (fun rx pl_1267 r O_1271 => ?_)
                                                          obtain ⟨rfl, hok_1268, hr_1269, ha_1270, hR_1272⟩ := O_1271
                                                          replace hs0 := hr_1269.at hk0 (by decide) (by decide) hs0
                                                          replace hx0 := hr_1269.at hkt (by decide) (by decide) hx0
                                                          replace hx2 := hr_1269.at hkt (by decide) (by decide) hx2
                                                          replace hs1 := hr_1269.at hk0 (by decide) (by decide) hs1
                                                          replace hsi := hr_1269.at hkb (by decide) (by decide) hsi
                                                          replace hf_1206 := hr_1269.at hkb (by decide) (by decide) hf_1206
                                                          replace hf_1222 := hr_1269.at hkt (by decide) (by decide) hf_1222
                                                          replace hf_1223 := hr_1269.at hkt (by decide) (by decide) hf_1223
                                                          replace hf_1224 := hr_1269.at hkt (by decide) (by decide) hf_1224
                                                          replace hu := ha_1270.at hk9 (by decide) (by decide) hu
                                                          replace hfr := hfr.trans (hr_1269.sub (by decide))
                                                          replace hfa := hfa.trans (ha_1270.sub (by decide))
                                                          rcases hR_1272 with ⟨hw_1273, rfl⟩ | ⟨hw_1274, rfl⟩
                                                          · refine jj_iconst (v := 1) C dX3_readSubscriptions_37 (by decide) ?_
                                                            obtain ⟨qc, gs, hqc⟩ := tt_recv (cx := []) hok_1268 hk0 (by decide) rfl
                                                            refine tt_callV (rest := []) C (te_accept_01 hl D cA ak h0 hk0 hok_1268) [] [] rfl rfl (by decide) (by decide) (by decide) qc hqc rfl rfl jw_713f4d2af1 jw_b3e457240a jw_58c48ce796 jw_9d546d0b6f jw_0001e2e84f jn_X3_accept rfl (jj_le rfl) (jj_le rfl) (jj_le rfl) (jj_le rfl) (jj_le rfl) dX3_readSubscriptions_38 rfl (fun _ _ _ hX => hX.elim) (fun rx pl_1275 r O_1279 => ?_)
                                                            obtain ⟨rfl, hok_1276, hr_1277, ha_1278, hR_1280⟩ := O_1279
                                                            replace hs0 := hr_1277.at hk0 (by decide) (by decide) hs0
                                                            replace hx0 := hr_1277.at hkt (by decide) (by decide) hx0
                                                            replace hx2 := hr_1277.at hkt (by decide) (by decide) hx2
                                                            replace hs1 := hr_1277.at hk0 (by decide) (by decide) hs1
                                                            replace hsi := hr_1277.at hkb (by decide) (by decide) hsi
                                                            replace hf_1206 := hr_1277.at hkb (by decide) (by decide) hf_1206
                                                            replace hf_1222 := hr_1277.at hkt (by decide) (by decide) hf_1222
                                                            replace hf_1223 := hr_1277.at hkt (by decide) (by decide) hf_1223
                                                            replace hf_1224 := hr_1277.at hkt (by decide) (by decide) hf_1224
                                                            replace hu := ha_1278.at hk9 (by decide) (by decide) hu
                                                            replace hfr := hfr.trans (hr_1277.sub (by decide))
                                                            replace hfa := hfa.trans (ha_1278.sub (by decide))
                                                            obtain ⟨hf_1281, rfl⟩ := hR_1280
                                                            refine jj_if_eqT (tgt := 70) C dX3_readSubscriptions_41 (by decide) (by decide) ?_
                                                            refine jj_iconst (v := 0) C dX3_readSubscriptions_70 (by decide) ?_
                                                            exact jj_zret C rfl ⟨[], pl_1275, rfl, rfl, hok_1276, hfr, hfa, (Or.inl ⟨1, n_1220, _, (by decide), hf_1222, hf_1281, (ps_subs.nx ht_37 hkd_38.1 (ps_sub.of (ps_step.ok ht_37 (Or.inr (Or.inr ⟨hw_98, by decide, rfl⟩))) hq_132) (ps_subs.nx ht_171 hkd_172.1 (ps_sub.of (ps_step.ok ht_171 (Or.inr (Or.inr ⟨hw_232, by decide, rfl⟩))) hq_266) (ps_subs.nx ht_305 hkd_306.1 (ps_sub.of (ps_step.ok ht_305 (Or.inr (Or.inr ⟨hw_366, by decide, rfl⟩))) hq_400) (ps_subs.nx ht_439 hkd_440.1 (ps_sub.of (ps_step.ok ht_439 (Or.inr (Or.inr ⟨hw_500, by decide, rfl⟩))) hq_534) (ps_subs.nx ht_573 hkd_574.1 (ps_sub.of (ps_step.ok ht_573 (Or.inr (Or.inr ⟨hw_634, by decide, rfl⟩))) hq_668) (ps_subs.nx ht_707 hkd_708.1 (ps_sub.of (ps_step.ok ht_707 (Or.inr (Or.inr ⟨hw_768, by decide, rfl⟩))) hq_802) (ps_subs.nx ht_841 hkd_842.1 (ps_sub.of (ps_step.ok ht_841 (Or.inr (Or.inr ⟨hw_902, by decide, rfl⟩))) hq_936) (ps_subs.nx ht_975 hkd_976.1 (ps_sub.of (ps_step.ok ht_975 (Or.inr (Or.inr ⟨hw_1036, by decide, rfl⟩))) hq_1070) (ps_subs.nx ht_1109 hkd_1110.1 (ps_sub.of (ps_step.ok ht_1109 (Or.inr (Or.inr ⟨hw_1170, by decide, rfl⟩))) hq_1204) (ps_subs.nx ht_1225 hkd_1226.1 ⟨(1, n_1220, 0), (1, n_1220, 0), (1, n_1220, 0), (ps_step.no ht_1225 (Or.inl ⟨hw_1273, rfl⟩) (by decide)), (ps_step.st (show (1 : Nat) ≠ 0 by decide)), (ps_step.st (show (1 : Nat) ≠ 0 by decide)), (ps_step.st (show (1 : Nat) ≠ 0 by decide))⟩ (ps_subs.er (k := 0) (by decide)))))))))))), rfl⟩)⟩ dX3_readSubscriptions_71 (jj_le rfl) (jj_le rfl)
                                                          · exact absurd (hw_1274.one (n := n2) (by decide) (by unfold ps_le; decide) (by omega)).2 hkd_1226.2.1
                                                        · have hzn_1227 := ht_1232.le (by omega)
                                                          have lx_1234 := tt_lo x_1234
                                                          have ux_1234 := tt_hi x_1234
                                                          refine jj_aload_n C dX3_readSubscriptions_15 rfl ?_
                                                          refine tt_getF C hok_1208 jk_4 0 (by decide) jw_70cd29f103 (t := (2, 10, 0)) hk0 (by decide) rfl rfl hs0 dX3_readSubscriptions_16 ?_
                                                          refine tt_getF C hok_1208 jk_10 5 (by decide) jw_601d0e39ae (t := (0, (-2147483648), 2147483647)) hkt (by decide) rfl rfl hf_1231 dX3_readSubscriptions_19 ?_
                                                          refine jj_if_neT (tgt := 27) C dX3_readSubscriptions_22 (by decide) (by decide) ?_
                                                          refine jj_aload_n C dX3_readSubscriptions_27 rfl ?_
                                                          refine jj_aload_n C dX3_readSubscriptions_28 rfl ?_
                                                          refine tt_getF C hok_1208 jk_4 0 (by decide) jw_70cd29f103 (t := (2, 10, 0)) hk0 (by decide) rfl rfl hs0 dX3_readSubscriptions_29 ?_
                                                          refine jj_ldcs (k := 4) (tx := "subscribe") C dX3_readSubscriptions_32 (by decide +kernel) ?_
                                                          obtain ⟨qc, gs, hqc⟩ := tt_recv (cx := []) hok_1208 hkt (by decide) rfl
                                                          refine tt_callV (rest := [.ref h0]) C (te_isWord_subscribe hl D cA ak tk a9 n2 n_1228 n_1227 (2 : Int32) u c hkt hk9 (by omega) (by omega) (by omega) hc ⟨fun q => absurd q (by decide), fun q => absurd q.2 hkd_1233.2.1⟩ hok_1208 hx0 hf_1230 hf_1229 hf_1231 hu) [] [] rfl rfl (by decide) (by decide) (by decide) qc hqc rfl rfl jw_b0fe72c6f4 jw_5e9522a00c jw_73cf9edcb7 jw_a9e7b602dc jw_ce1c1f12e9 jn_X9_isWord rfl (jj_le rfl) (jj_le rfl) (jj_le rfl) (jj_le rfl) (jj_le rfl) dX3_readSubscriptions_34 rfl (fun _ _ _ hX => hX.elim) (fun rx pl_1282 r O_1286 => ?_)
                                                          obtain ⟨rfl, hok_1283, hr_1284, ha_1285, hR_1287⟩ := O_1286
                                                          replace hs0 := hr_1284.at hk0 (by decide) (by decide) hs0
                                                          replace hx0 := hr_1284.at hkt (by decide) (by decide) hx0
                                                          replace hx2 := hr_1284.at hkt (by decide) (by decide) hx2
                                                          replace hs1 := hr_1284.at hk0 (by decide) (by decide) hs1
                                                          replace hsi := hr_1284.at hkb (by decide) (by decide) hsi
                                                          replace hf_1206 := hr_1284.at hkb (by decide) (by decide) hf_1206
                                                          replace hf_1229 := hr_1284.at hkt (by decide) (by decide) hf_1229
                                                          replace hf_1230 := hr_1284.at hkt (by decide) (by decide) hf_1230
                                                          replace hf_1231 := hr_1284.at hkt (by decide) (by decide) hf_1231
                                                          replace hf_1235 := hr_1284.at hkt (by decide) (by decide) hf_1235
                                                          replace hu := ha_1285.at hk9 (by decide) (by decide) hu
                                                          replace hfr := hfr.trans (hr_1284.sub (by decide))
                                                          replace hfa := hfa.trans (ha_1285.sub (by decide))
                                                          rcases hR_1287 with ⟨hw_1288, rfl⟩ | ⟨hw_1289, rfl⟩
                                                          · refine jj_iconst (v := 1) C dX3_readSubscriptions_37 (by decide) ?_
                                                            obtain ⟨qc, gs, hqc⟩ := tt_recv (cx := []) hok_1283 hk0 (by decide) rfl
                                                            refine tt_callV (rest := []) C (te_accept_01 hl D cA ak h0 hk0 hok_1283) [] [] rfl rfl (by decide) (by decide) (by decide) qc hqc rfl rfl jw_713f4d2af1 jw_b3e457240a jw_58c48ce796 jw_9d546d0b6f jw_0001e2e84f jn_X3_accept rfl (jj_le rfl) (jj_le rfl) (jj_le rfl) (jj_le rfl) (jj_le rfl) dX3_readSubscriptions_38 rfl (fun _ _ _ hX => hX.elim) (fun rx pl_1290 r O_1294 => ?_)
                                                            obtain ⟨rfl, hok_1291, hr_1292, ha_1293, hR_1295⟩ := O_1294
                                                            replace hs0 := hr_1292.at hk0 (by decide) (by decide) hs0
                                                            replace hx0 := hr_1292.at hkt (by decide) (by decide) hx0
                                                            replace hx2 := hr_1292.at hkt (by decide) (by decide) hx2
                                                            replace hs1 := hr_1292.at hk0 (by decide) (by decide) hs1
                                                            replace hsi := hr_1292.at hkb (by decide) (by decide) hsi
                                                            replace hf_1206 := hr_1292.at hkb (by decide) (by decide) hf_1206
                                                            replace hf_1229 := hr_1292.at hkt (by decide) (by decide) hf_1229
                                                            replace hf_1230 := hr_1292.at hkt (by decide) (by decide) hf_1230
                                                            replace hf_1231 := hr_1292.at hkt (by decide) (by decide) hf_1231
                                                            replace hf_1235 := hr_1292.at hkt (by decide) (by decide) hf_1235
                                                            replace hu := ha_1293.at hk9 (by decide) (by decide) hu
                                                            replace hfr := hfr.trans (hr_1292.sub (by decide))
                                                            replace hfa := hfa.trans (ha_1293.sub (by decide))
                                                            obtain ⟨hf_1296, rfl⟩ := hR_1295
                                                            refine jj_if_eqT (tgt := 70) C dX3_readSubscriptions_41 (by decide) (by decide) ?_
                                                            refine jj_iconst (v := 0) C dX3_readSubscriptions_70 (by decide) ?_
                                                            exact jj_zret C rfl ⟨[], pl_1290, rfl, rfl, hok_1291, hfr, hfa, (Or.inl ⟨1, n_1227, _, (by decide), hf_1229, hf_1296, (ps_subs.nx ht_37 hkd_38.1 (ps_sub.of (ps_step.ok ht_37 (Or.inr (Or.inr ⟨hw_98, by decide, rfl⟩))) hq_132) (ps_subs.nx ht_171 hkd_172.1 (ps_sub.of (ps_step.ok ht_171 (Or.inr (Or.inr ⟨hw_232, by decide, rfl⟩))) hq_266) (ps_subs.nx ht_305 hkd_306.1 (ps_sub.of (ps_step.ok ht_305 (Or.inr (Or.inr ⟨hw_366, by decide, rfl⟩))) hq_400) (ps_subs.nx ht_439 hkd_440.1 (ps_sub.of (ps_step.ok ht_439 (Or.inr (Or.inr ⟨hw_500, by decide, rfl⟩))) hq_534) (ps_subs.nx ht_573 hkd_574.1 (ps_sub.of (ps_step.ok ht_573 (Or.inr (Or.inr ⟨hw_634, by decide, rfl⟩))) hq_668) (ps_subs.nx ht_707 hkd_708.1 (ps_sub.of (ps_step.ok ht_707 (Or.inr (Or.inr ⟨hw_768, by decide, rfl⟩))) hq_802) (ps_subs.nx ht_841 hkd_842.1 (ps_sub.of (ps_step.ok ht_841 (Or.inr (Or.inr ⟨hw_902, by decide, rfl⟩))) hq_936) (ps_subs.nx ht_975 hkd_976.1 (ps_sub.of (ps_step.ok ht_975 (Or.inr (Or.inr ⟨hw_1036, by decide, rfl⟩))) hq_1070) (ps_subs.nx ht_1109 hkd_1110.1 (ps_sub.of (ps_step.ok ht_1109 (Or.inr (Or.inr ⟨hw_1170, by decide, rfl⟩))) hq_1204) (ps_subs.nx ht_1232 hkd_1233.1 ⟨(1, n_1227, 0), (1, n_1227, 0), (1, n_1227, 0), (ps_step.no ht_1232 (Or.inl ⟨hw_1288, rfl⟩) (by decide)), (ps_step.st (show (1 : Nat) ≠ 0 by decide)), (ps_step.st (show (1 : Nat) ≠ 0 by decide)), (ps_step.st (show (1 : Nat) ≠ 0 by decide))⟩ (ps_subs.er (k := 0) (by decide)))))))))))), rfl⟩)⟩ dX3_readSubscriptions_71 (jj_le rfl) (jj_le rfl)
                                                          · exact absurd (hw_1289.one (n := n2) (by decide) (by unfold ps_le; decide) (by omega)).2 hkd_1233.2.1
                                                        · have hzn_1238 := ht_1243.le (by omega)
                                                          refine jj_aload_n C dX3_readSubscriptions_15 rfl ?_
                                                          refine tt_getF C hok_1208 jk_4 0 (by decide) jw_70cd29f103 (t := (2, 10, 0)) hk0 (by decide) rfl rfl hs0 dX3_readSubscriptions_16 ?_
                                                          refine tt_getF C hok_1208 jk_10 5 (by decide) jw_601d0e39ae (t := (0, (-2147483648), 2147483647)) hkt (by decide) rfl rfl hf_1242 dX3_readSubscriptions_19 ?_
                                                          refine jj_if_neT (tgt := 27) C dX3_readSubscriptions_22 (by decide) (by decide) ?_
                                                          refine jj_aload_n C dX3_readSubscriptions_27 rfl ?_
                                                          refine jj_aload_n C dX3_readSubscriptions_28 rfl ?_
                                                          refine tt_getF C hok_1208 jk_4 0 (by decide) jw_70cd29f103 (t := (2, 10, 0)) hk0 (by decide) rfl rfl hs0 dX3_readSubscriptions_29 ?_
                                                          refine jj_ldcs (k := 4) (tx := "subscribe") C dX3_readSubscriptions_32 (by decide +kernel) ?_
                                                          obtain ⟨qc, gs, hqc⟩ := tt_recv (cx := []) hok_1208 hkt (by decide) rfl
                                                          refine tt_callV (rest := [.ref h0]) C (te_isWord_subscribe hl D cA ak tk a9 n2 n_1239 n_1238 (1 : Int32) u c hkt hk9 (by omega) (by omega) (by omega) hc ⟨fun _ => hkd_1244, fun _ => rfl⟩ hok_1208 hx0 hf_1241 hf_1240 hf_1242 hu) [] [] rfl rfl (by decide) (by decide) (by decide) qc hqc rfl rfl jw_b0fe72c6f4 jw_5e9522a00c jw_73cf9edcb7 jw_a9e7b602dc jw_ce1c1f12e9 jn_X9_isWord rfl (jj_le rfl) (jj_le rfl) (jj_le rfl) (jj_le rfl) (jj_le rfl) dX3_readSubscriptions_34 rfl (fun _ _ _ hX => hX.elim) (fun rx pl_1297 r O_1301 => ?_)
                                                          obtain ⟨rfl, hok_1298, hr_1299, ha_1300, hR_1302⟩ := O_1301
                                                          replace hs0 := hr_1299.at hk0 (by decide) (by decide) hs0
                                                          replace hx0 := hr_1299.at hkt (by decide) (by decide) hx0
                                                          replace hx2 := hr_1299.at hkt (by decide) (by decide) hx2
                                                          replace hs1 := hr_1299.at hk0 (by decide) (by decide) hs1
                                                          replace hsi := hr_1299.at hkb (by decide) (by decide) hsi
                                                          replace hf_1206 := hr_1299.at hkb (by decide) (by decide) hf_1206
                                                          replace hf_1240 := hr_1299.at hkt (by decide) (by decide) hf_1240
                                                          replace hf_1241 := hr_1299.at hkt (by decide) (by decide) hf_1241
                                                          replace hf_1242 := hr_1299.at hkt (by decide) (by decide) hf_1242
                                                          replace hu := ha_1300.at hk9 (by decide) (by decide) hu
                                                          replace hfr := hfr.trans (hr_1299.sub (by decide))
                                                          replace hfa := hfa.trans (ha_1300.sub (by decide))
                                                          rcases hR_1302 with ⟨hw_1303, rfl⟩ | ⟨hw_1304, rfl⟩
                                                          · refine jj_iconst (v := 1) C dX3_readSubscriptions_37 (by decide) ?_
                                                            obtain ⟨qc, gs, hqc⟩ := tt_recv (cx := []) hok_1298 hk0 (by decide) rfl
                                                            refine tt_callV (rest := []) C (te_accept_01 hl D cA ak h0 hk0 hok_1298) [] [] rfl rfl (by decide) (by decide) (by decide) qc hqc rfl rfl jw_713f4d2af1 jw_b3e457240a jw_58c48ce796 jw_9d546d0b6f jw_0001e2e84f jn_X3_accept rfl (jj_le rfl) (jj_le rfl) (jj_le rfl) (jj_le rfl) (jj_le rfl) dX3_readSubscriptions_38 rfl (fun _ _ _ hX => hX.elim) (fun rx pl_1305 r O_1309 => ?_)
                                                            obtain ⟨rfl, hok_1306, hr_1307, ha_1308, hR_1310⟩ := O_1309
                                                            replace hs0 := hr_1307.at hk0 (by decide) (by decide) hs0
                                                            replace hx0 := hr_1307.at hkt (by decide) (by decide) hx0
                                                            replace hx2 := hr_1307.at hkt (by decide) (by decide) hx2
                                                            replace hs1 := hr_1307.at hk0 (by decide) (by decide) hs1
                                                            replace hsi := hr_1307.at hkb (by decide) (by decide) hsi
                                                            replace hf_1206 := hr_1307.at hkb (by decide) (by decide) hf_1206
                                                            replace hf_1240 := hr_1307.at hkt (by decide) (by decide) hf_1240
                                                            replace hf_1241 := hr_1307.at hkt (by decide) (by decide) hf_1241
                                                            replace hf_1242 := hr_1307.at hkt (by decide) (by decide) hf_1242
                                                            replace hu := ha_1308.at hk9 (by decide) (by decide) hu
                                                            replace hfr := hfr.trans (hr_1307.sub (by decide))
                                                            replace hfa := hfa.trans (ha_1308.sub (by decide))
                                                            obtain ⟨hf_1311, rfl⟩ := hR_1310
                                                            refine jj_if_eqT (tgt := 70) C dX3_readSubscriptions_41 (by decide) (by decide) ?_
                                                            refine jj_iconst (v := 0) C dX3_readSubscriptions_70 (by decide) ?_
                                                            exact jj_zret C rfl ⟨[], pl_1305, rfl, rfl, hok_1306, hfr, hfa, (Or.inl ⟨1, n_1238, _, (by decide), hf_1240, hf_1311, (ps_subs.nx ht_37 hkd_38.1 (ps_sub.of (ps_step.ok ht_37 (Or.inr (Or.inr ⟨hw_98, by decide, rfl⟩))) hq_132) (ps_subs.nx ht_171 hkd_172.1 (ps_sub.of (ps_step.ok ht_171 (Or.inr (Or.inr ⟨hw_232, by decide, rfl⟩))) hq_266) (ps_subs.nx ht_305 hkd_306.1 (ps_sub.of (ps_step.ok ht_305 (Or.inr (Or.inr ⟨hw_366, by decide, rfl⟩))) hq_400) (ps_subs.nx ht_439 hkd_440.1 (ps_sub.of (ps_step.ok ht_439 (Or.inr (Or.inr ⟨hw_500, by decide, rfl⟩))) hq_534) (ps_subs.nx ht_573 hkd_574.1 (ps_sub.of (ps_step.ok ht_573 (Or.inr (Or.inr ⟨hw_634, by decide, rfl⟩))) hq_668) (ps_subs.nx ht_707 hkd_708.1 (ps_sub.of (ps_step.ok ht_707 (Or.inr (Or.inr ⟨hw_768, by decide, rfl⟩))) hq_802) (ps_subs.nx ht_841 hkd_842.1 (ps_sub.of (ps_step.ok ht_841 (Or.inr (Or.inr ⟨hw_902, by decide, rfl⟩))) hq_936) (ps_subs.nx ht_975 hkd_976.1 (ps_sub.of (ps_step.ok ht_975 (Or.inr (Or.inr ⟨hw_1036, by decide, rfl⟩))) hq_1070) (ps_subs.nx ht_1109 hkd_1110.1 (ps_sub.of (ps_step.ok ht_1109 (Or.inr (Or.inr ⟨hw_1170, by decide, rfl⟩))) hq_1204) (ps_subs.nx ht_1243 hkd_1244.1 ⟨(1, n_1238, 0), (1, n_1238, 0), (1, n_1238, 0), (ps_step.no ht_1243 (Or.inl ⟨hw_1303, rfl⟩) (by decide)), (ps_step.st (show (1 : Nat) ≠ 0 by decide)), (ps_step.st (show (1 : Nat) ≠ 0 by decide)), (ps_step.st (show (1 : Nat) ≠ 0 by decide))⟩ (ps_subs.er (k := 0) (by decide)))))))))))), rfl⟩)⟩ dX3_readSubscriptions_71 (jj_le rfl) (jj_le rfl)
                                                          · refine jj_iconst (v := 1) C dX3_readSubscriptions_37 (by decide) ?_
                                                            obtain ⟨qc, gs, hqc⟩ := tt_recv (cx := []) hok_1298 hk0 (by decide) rfl
                                                            refine tt_callV (rest := []) C (te_accept_11 hl D cA ak h0 hk0 hok_1298) [] [] rfl rfl (by decide) (by decide) (by decide) qc hqc rfl rfl jw_713f4d2af1 jw_b3e457240a jw_58c48ce796 jw_9d546d0b6f jw_0001e2e84f jn_X3_accept rfl (jj_le rfl) (jj_le rfl) (jj_le rfl) (jj_le rfl) (jj_le rfl) dX3_readSubscriptions_38 rfl (fun _ _ _ hX => hX.elim) (fun rx pl_1312 r O_1316 => ?_)
                                                            obtain ⟨rfl, hok_1313, hr_1314, ha_1315, hR_1317⟩ := O_1316
                                                            replace hs0 := hr_1314.at hk0 (by decide) (by decide) hs0
                                                            replace hx0 := hr_1314.at hkt (by decide) (by decide) hx0
                                                            replace hx2 := hr_1314.at hkt (by decide) (by decide) hx2
                                                            replace hs1 := hr_1314.at hk0 (by decide) (by decide) hs1
                                                            replace hsi := hr_1314.at hkb (by decide) (by decide) hsi
                                                            replace hf_1206 := hr_1314.at hkb (by decide) (by decide) hf_1206
                                                            replace hf_1240 := hr_1314.at hkt (by decide) (by decide) hf_1240
                                                            replace hf_1241 := hr_1314.at hkt (by decide) (by decide) hf_1241
                                                            replace hf_1242 := hr_1314.at hkt (by decide) (by decide) hf_1242
                                                            replace hu := ha_1315.at hk9 (by decide) (by decide) hu
                                                            replace hfr := hfr.trans (hr_1314.sub (by decide))
                                                            replace hfa := hfa.trans (ha_1315.sub (by decide))
                                                            obtain rfl := hR_1317
                                                            refine jj_if_eqF (tgt := 70) C dX3_readSubscriptions_41 (by decide) (by decide) ?_
                                                            refine jj_aload_n C dX3_readSubscriptions_44 rfl ?_
                                                            refine jj_iload_n C dX3_readSubscriptions_45 rfl ?_
                                                            refine jj_bipush (v := 12) C dX3_readSubscriptions_46 (by decide) ?_
                                                            refine jj_icmp_geF (tgt := 55) C dX3_readSubscriptions_48 (by decide) (by decide) ?_
                                                            refine jj_iconst (v := 1) C dX3_readSubscriptions_51 (by decide) ?_
                                                            refine jj_goto (tgt := 56) C dX3_readSubscriptions_52 (by decide) ?_
                                                            refine jj_iconst (v := 3) C dX3_readSubscriptions_56 (by decide) ?_
                                                            obtain ⟨qc, gs, hqc⟩ := tt_recv (cx := []) hok_1313 hk0 (by decide) rfl
                                                            refine tt_callV (rest := []) C (te_accept_13 hl D cA ak h0 hk0 hok_1313) [] [] rfl rfl (by decide) (by decide) (by decide) qc hqc rfl rfl jw_713f4d2af1 jw_b3e457240a jw_58c48ce796 jw_9d546d0b6f jw_0001e2e84f jn_X3_accept rfl (jj_le rfl) (jj_le rfl) (jj_le rfl) (jj_le rfl) (jj_le rfl) dX3_readSubscriptions_57 rfl (fun _ _ _ hX => hX.elim) (fun rx pl_1318 r O_1322 => ?_)
                                                            obtain ⟨rfl, hok_1319, hr_1320, ha_1321, hR_1323⟩ := O_1322
                                                            replace hs0 := hr_1320.at hk0 (by decide) (by decide) hs0
                                                            replace hx0 := hr_1320.at hkt (by decide) (by decide) hx0
                                                            replace hx2 := hr_1320.at hkt (by decide) (by decide) hx2
                                                            replace hs1 := hr_1320.at hk0 (by decide) (by decide) hs1
                                                            replace hsi := hr_1320.at hkb (by decide) (by decide) hsi
                                                            replace hf_1206 := hr_1320.at hkb (by decide) (by decide) hf_1206
                                                            replace hf_1240 := hr_1320.at hkt (by decide) (by decide) hf_1240
                                                            replace hf_1241 := hr_1320.at hkt (by decide) (by decide) hf_1241
                                                            replace hf_1242 := hr_1320.at hkt (by decide) (by decide) hf_1242
                                                            replace hu := ha_1321.at hk9 (by decide) (by decide) hu
                                                            replace hfr := hfr.trans (hr_1320.sub (by decide))
                                                            replace hfa := hfa.trans (ha_1321.sub (by decide))
                                                            obtain rfl := hR_1323
                                                            refine jj_if_eqF (tgt := 70) C dX3_readSubscriptions_60 (by decide) (by decide) ?_
                                                            refine jj_aload_n C dX3_readSubscriptions_63 rfl ?_
                                                            obtain ⟨qc, gs, hqc⟩ := tt_recv (cx := []) hok_1319 hk0 (by decide) rfl
                                                            refine tt_callV (rest := []) C (te_readSubscription hl D cA ak h0 tk a9 bk n2 n_1239 u c iv 9 hk0 hkt hk9 hkb (by omega) (by omega) hc (by omega) (by omega) (by omega) hok_1319 hs0 hx0 hx2 hf_1241 hs1 hsi hf_1206 hu) [] [] rfl rfl (by decide) (by decide) (by decide) qc hqc rfl rfl jw_b50e5c10ea jw_23105775d0 jw_16355fb5ab jw_9d546d0b6f jw_0cc88cc191 jn_X3_readSubscription rfl (jj_le rfl) (jj_le rfl) (jj_le rfl) (jj_le rfl) (jj_le rfl) dX3_readSubscriptions_64 rfl (fun _ _ _ hX => hX.elim) (fun rx pl_1324 r O_1328 => ?_)
                                                            obtain ⟨rfl, hok_1325, hr_1326, ha_1327, hR_1329⟩ := O_1328
                                                            replace hs0 := hr_1326.at hk0 (by decide) (by decide) hs0
                                                            replace hx0 := hr_1326.at hkt (by decide) (by decide) hx0
                                                            replace hx2 := hr_1326.at hkt (by decide) (by decide) hx2
                                                            replace hs1 := hr_1326.at hk0 (by decide) (by decide) hs1
                                                            replace hsi := hr_1326.at hkb (by decide) (by decide) hsi
                                                            replace hu := ha_1327.at hk9 (by decide) (by decide) hu
                                                            replace hfr := hfr.trans (hr_1326.sub (by decide))
                                                            replace hfa := hfa.trans (ha_1327.sub (by decide))
                                                            rcases hR_1329 with ⟨n_1331, n_1330, hn_1335, hf_1332, hf_1333, hq_1334, rfl⟩ | ⟨n_1336, hle_1339, hf_1337, hf_1340, hq_1338, rfl⟩
                                                            · refine jj_if_neF (tgt := 72) C dX3_readSubscriptions_67 (by decide) (by decide) ?_
                                                              refine jj_iconst (v := 0) C dX3_readSubscriptions_70 (by decide) ?_
                                                              exact jj_zret C rfl ⟨[], pl_1324, rfl, rfl, hok_1325, hfr, hfa, (Or.inl ⟨n_1331, n_1330, _, hn_1335, hf_1332, hf_1333, (ps_subs.nx ht_37 hkd_38.1 (ps_sub.of (ps_step.ok ht_37 (Or.inr (Or.inr ⟨hw_98, by decide, rfl⟩))) hq_132) (ps_subs.nx ht_171 hkd_172.1 (ps_sub.of (ps_step.ok ht_171 (Or.inr (Or.inr ⟨hw_232, by decide, rfl⟩))) hq_266) (ps_subs.nx ht_305 hkd_306.1 (ps_sub.of (ps_step.ok ht_305 (Or.inr (Or.inr ⟨hw_366, by decide, rfl⟩))) hq_400) (ps_subs.nx ht_439 hkd_440.1 (ps_sub.of (ps_step.ok ht_439 (Or.inr (Or.inr ⟨hw_500, by decide, rfl⟩))) hq_534) (ps_subs.nx ht_573 hkd_574.1 (ps_sub.of (ps_step.ok ht_573 (Or.inr (Or.inr ⟨hw_634, by decide, rfl⟩))) hq_668) (ps_subs.nx ht_707 hkd_708.1 (ps_sub.of (ps_step.ok ht_707 (Or.inr (Or.inr ⟨hw_768, by decide, rfl⟩))) hq_802) (ps_subs.nx ht_841 hkd_842.1 (ps_sub.of (ps_step.ok ht_841 (Or.inr (Or.inr ⟨hw_902, by decide, rfl⟩))) hq_936) (ps_subs.nx ht_975 hkd_976.1 (ps_sub.of (ps_step.ok ht_975 (Or.inr (Or.inr ⟨hw_1036, by decide, rfl⟩))) hq_1070) (ps_subs.nx ht_1109 hkd_1110.1 (ps_sub.of (ps_step.ok ht_1109 (Or.inr (Or.inr ⟨hw_1170, by decide, rfl⟩))) hq_1204) (ps_subs.nx ht_1243 hkd_1244.1 (ps_sub.of (ps_step.ok ht_1243 (Or.inr (Or.inr ⟨hw_1304, by decide, rfl⟩))) hq_1334) (ps_subs.er (k := 0) hn_1335))))))))))), rfl⟩)⟩ dX3_readSubscriptions_71 (jj_le rfl) (jj_le rfl)
                                                            · refine jj_if_neT (tgt := 72) C dX3_readSubscriptions_67 (by decide) (by decide) ?_
                                                              refine jj_iinc (v := 10) C dX3_readSubscriptions_72 rfl (by decide) (by decide) rfl ?_
                                                              refine jj_goto (tgt := 2) C dX3_readSubscriptions_75 (by decide) ?_
                                                              refine jj_iload_n C dX3_readSubscriptions_2 rfl ?_
                                                              refine jj_bipush (v := 12) C dX3_readSubscriptions_3 (by decide) ?_
                                                              refine jj_icmp_gtF (tgt := 78) C dX3_readSubscriptions_5 (by decide) (by decide) ?_
                                                              refine jj_aload_n C dX3_readSubscriptions_8 rfl ?_
                                                              refine tt_getF C hok_1325 jk_4 0 (by decide) jw_70cd29f103 (t := (2, 10, 0)) hk0 (by decide) rfl rfl hs0 dX3_readSubscriptions_9 ?_
                                                              obtain ⟨qc, gs, hqc⟩ := tt_recv (cx := []) hok_1325 hkt (by decide) rfl
                                                              refine tt_callV (rest := []) C (te_advance hl D cA ak tk a9 n2 n_1336 u c hkt hk9 (by omega) (by omega) hc hok_1325 hx0 hx2 hf_1337 hu) [] [] rfl rfl (by decide) (by decide) (by decide) qc hqc rfl rfl jw_97c023d194 jw_37f6ee43e0 jw_46baf1fc7b jw_a9e7b602dc jw_0d4db63612 jn_X9_advance rfl (jj_le rfl) (jj_le rfl) (jj_le rfl) (jj_le rfl) (jj_le rfl) dX3_readSubscriptions_12 rfl (fun _ _ _ hX => hX.elim) (fun rx pl_1341 r O_1345 => ?_)
                                                              obtain ⟨rfl, hok_1342, hr_1343, ha_1344, hR_1346⟩ := O_1345
                                                              replace hs0 := hr_1343.at hk0 (by decide) (by decide) hs0
                                                              replace hx0 := hr_1343.at hkt (by decide) (by decide) hx0
                                                              replace hx2 := hr_1343.at hkt (by decide) (by decide) hx2
                                                              replace hs1 := hr_1343.at hk0 (by decide) (by decide) hs1
                                                              replace hsi := hr_1343.at hkb (by decide) (by decide) hsi
                                                              replace hf_1340 := hr_1343.at hkb (by decide) (by decide) hf_1340
                                                              replace hu := ha_1344.at hk9 (by decide) (by decide) hu
                                                              replace hfr := hfr.trans (hr_1343.sub (by decide))
                                                              replace hfa := hfa.trans (ha_1344.sub (by decide))
                                                              rcases hR_1346 with ⟨n_1347, n_1348, hf_1349, hf_1350, hf_1351, ht_1352, hkd_1353, rfl⟩ | ⟨n_1354, n_1355, hf_1356, hf_1357, hf_1358, ht_1359, hkd_1360, rfl⟩ | ⟨n_1361, n_1362, hf_1363, hf_1364, hf_1365, ht_1366, hkd_1367, ⟨x_1368, hf_1369, hq_1370, hq_1371⟩, rfl⟩ | ⟨n_1372, n_1373, hf_1374, hf_1375, hf_1376, ht_1377, hkd_1378, rfl⟩ | ⟨n_1379, n_1380, hf_1381, hf_1382, hf_1383, ht_1384, hkd_1385, rfl⟩
                                                              · have hzn_1347 := ht_1352.le (by omega)
                                                                refine jj_aload_n C dX3_readSubscriptions_15 rfl ?_
                                                                refine tt_getF C hok_1342 jk_4 0 (by decide) jw_70cd29f103 (t := (2, 10, 0)) hk0 (by decide) rfl rfl hs0 dX3_readSubscriptions_16 ?_
                                                                refine tt_getF C hok_1342 jk_10 5 (by decide) jw_601d0e39ae (t := (0, (-2147483648), 2147483647)) hkt (by decide) rfl rfl hf_1351 dX3_readSubscriptions_19 ?_
                                                                refine jj_if_neT (tgt := 27) C dX3_readSubscriptions_22 (by decide) (by decide) ?_
                                                                refine jj_aload_n C dX3_readSubscriptions_27 rfl ?_
                                                                refine jj_aload_n C dX3_readSubscriptions_28 rfl ?_
                                                                refine tt_getF C hok_1342 jk_4 0 (by decide) jw_70cd29f103 (t := (2, 10, 0)) hk0 (by decide) rfl rfl hs0 dX3_readSubscriptions_29 ?_
                                                                refine jj_ldcs (k := 4) (tx := "subscribe") C dX3_readSubscriptions_32 (by decide +kernel) ?_
                                                                obtain ⟨qc, gs, hqc⟩ := tt_recv (cx := []) hok_1342 hkt (by decide) rfl
                                                                refine tt_callV (rest := [.ref h0]) C (te_isWord_subscribe hl D cA ak tk a9 n2 n_1348 n_1347 (4 : Int32) u c hkt hk9 (by omega) (by omega) (by omega) hc ⟨fun q => absurd q (by decide), fun q => absurd q.2 hkd_1353.2.1⟩ hok_1342 hx0 hf_1350 hf_1349 hf_1351 hu) [] [] rfl rfl (by decide) (by decide) (by decide) qc hqc rfl rfl jw_b0fe72c6f4 jw_5e9522a00c jw_73cf9edcb7 jw_a9e7b602dc jw_ce1c1f12e9 jn_X9_isWord rfl (jj_le rfl) (jj_le rfl) (jj_le rfl) (jj_le rfl) (jj_le rfl) dX3_readSubscriptions_34 rfl (fun _ _ _ hX => hX.elim) (fun rx pl_1386 r O_1390 => ?_)
                                                                obtain ⟨rfl, hok_1387, hr_1388, ha_1389, hR_1391⟩ := O_1390
                                                                replace hs0 := hr_1388.at hk0 (by decide) (by decide) hs0
                                                                replace hx0 := hr_1388.at hkt (by decide) (by decide) hx0
                                                                replace hx2 := hr_1388.at hkt (by decide) (by decide) hx2
                                                                replace hs1 := hr_1388.at hk0 (by decide) (by decide) hs1
                                                                replace hsi := hr_1388.at hkb (by decide) (by decide) hsi
                                                                replace hf_1340 := hr_1388.at hkb (by decide) (by decide) hf_1340
                                                                replace hf_1349 := hr_1388.at hkt (by decide) (by decide) hf_1349
                                                                replace hf_1350 := hr_1388.at hkt (by decide) (by decide) hf_1350
                                                                replace hf_1351 := hr_1388.at hkt (by decide) (by decide) hf_1351
                                                                replace hu := ha_1389.at hk9 (by decide) (by decide) hu
                                                                replace hfr := hfr.trans (hr_1388.sub (by decide))
                                                                replace hfa := hfa.trans (ha_1389.sub (by decide))
                                                                rcases hR_1391 with ⟨hw_1392, rfl⟩ | ⟨hw_1393, rfl⟩
                                                                · refine jj_iconst (v := 1) C dX3_readSubscriptions_37 (by decide) ?_
                                                                  obtain ⟨qc, gs, hqc⟩ := tt_recv (cx := []) hok_1387 hk0 (by decide) rfl
                                                                  refine tt_callV (rest := []) C (te_accept_01 hl D cA ak h0 hk0 hok_1387) [] [] rfl rfl (by decide) (by decide) (by decide) qc hqc rfl rfl jw_713f4d2af1 jw_b3e457240a jw_58c48ce796 jw_9d546d0b6f jw_0001e2e84f jn_X3_accept rfl (jj_le rfl) (jj_le rfl) (jj_le rfl) (jj_le rfl) (jj_le rfl) dX3_readSubscriptions_38 rfl (fun _ _ _ hX => hX.elim) (fun rx pl_1394 r O_1398 => ?_)
                                                                  obtain ⟨rfl, hok_1395, hr_1396, ha_1397, hR_1399⟩ := O_1398
                                                                  replace hs0 := hr_1396.at hk0 (by decide) (by decide) hs0
                                                                  replace hx0 := hr_1396.at hkt (by decide) (by decide) hx0
                                                                  replace hx2 := hr_1396.at hkt (by decide) (by decide) hx2
                                                                  replace hs1 := hr_1396.at hk0 (by decide) (by decide) hs1
                                                                  replace hsi := hr_1396.at hkb (by decide) (by decide) hsi
                                                                  replace hf_1340 := hr_1396.at hkb (by decide) (by decide) hf_1340
                                                                  replace hf_1349 := hr_1396.at hkt (by decide) (by decide) hf_1349
                                                                  replace hf_1350 := hr_1396.at hkt (by decide) (by decide) hf_1350
                                                                  replace hf_1351 := hr_1396.at hkt (by decide) (by decide) hf_1351
                                                                  replace hu := ha_1397.at hk9 (by decide) (by decide) hu
                                                                  replace hfr := hfr.trans (hr_1396.sub (by decide))
                                                                  replace hfa := hfa.trans (ha_1397.sub (by decide))
                                                                  obtain ⟨hf_1400, rfl⟩ := hR_1399
                                                                  refine jj_if_eqT (tgt := 70) C dX3_readSubscriptions_41 (by decide) (by decide) ?_
                                                                  refine jj_iconst (v := 0) C dX3_readSubscriptions_70 (by decide) ?_
                                                                  exact jj_zret C rfl ⟨[], pl_1394, rfl, rfl, hok_1395, hfr, hfa, (Or.inl ⟨1, n_1347, _, (by decide), hf_1349, hf_1400, (ps_subs.nx ht_37 hkd_38.1 (ps_sub.of (ps_step.ok ht_37 (Or.inr (Or.inr ⟨hw_98, by decide, rfl⟩))) hq_132) (ps_subs.nx ht_171 hkd_172.1 (ps_sub.of (ps_step.ok ht_171 (Or.inr (Or.inr ⟨hw_232, by decide, rfl⟩))) hq_266) (ps_subs.nx ht_305 hkd_306.1 (ps_sub.of (ps_step.ok ht_305 (Or.inr (Or.inr ⟨hw_366, by decide, rfl⟩))) hq_400) (ps_subs.nx ht_439 hkd_440.1 (ps_sub.of (ps_step.ok ht_439 (Or.inr (Or.inr ⟨hw_500, by decide, rfl⟩))) hq_534) (ps_subs.nx ht_573 hkd_574.1 (ps_sub.of (ps_step.ok ht_573 (Or.inr (Or.inr ⟨hw_634, by decide, rfl⟩))) hq_668) (ps_subs.nx ht_707 hkd_708.1 (ps_sub.of (ps_step.ok ht_707 (Or.inr (Or.inr ⟨hw_768, by decide, rfl⟩))) hq_802) (ps_subs.nx ht_841 hkd_842.1 (ps_sub.of (ps_step.ok ht_841 (Or.inr (Or.inr ⟨hw_902, by decide, rfl⟩))) hq_936) (ps_subs.nx ht_975 hkd_976.1 (ps_sub.of (ps_step.ok ht_975 (Or.inr (Or.inr ⟨hw_1036, by decide, rfl⟩))) hq_1070) (ps_subs.nx ht_1109 hkd_1110.1 (ps_sub.of (ps_step.ok ht_1109 (Or.inr (Or.inr ⟨hw_1170, by decide, rfl⟩))) hq_1204) (ps_subs.nx ht_1243 hkd_1244.1 (ps_sub.of (ps_step.ok ht_1243 (Or.inr (Or.inr ⟨hw_1304, by decide, rfl⟩))) hq_1338) (ps_subs.nx ht_1352 hkd_1353.1 ⟨(1, n_1347, 0), (1, n_1347, 0), (1, n_1347, 0), (ps_step.no ht_1352 (Or.inl ⟨hw_1392, rfl⟩) (by decide)), (ps_step.st (show (1 : Nat) ≠ 0 by decide)), (ps_step.st (show (1 : Nat) ≠ 0 by decide)), (ps_step.st (show (1 : Nat) ≠ 0 by decide))⟩ (ps_subs.er (k := 0) (by decide))))))))))))), rfl⟩)⟩ dX3_readSubscriptions_71 (jj_le rfl) (jj_le rfl)
                                                                · exact absurd (hw_1393.one (n := n2) (by decide) (by unfold ps_le; decide) (by omega)).2 hkd_1353.2.1
                                                              · have hzn_1354 := ht_1359.le (by omega)
                                                                refine jj_aload_n C dX3_readSubscriptions_15 rfl ?_
                                                                refine tt_getF C hok_1342 jk_4 0 (by decide) jw_70cd29f103 (t := (2, 10, 0)) hk0 (by decide) rfl rfl hs0 dX3_readSubscriptions_16 ?_
                                                                refine tt_getF C hok_1342 jk_10 5 (by decide) jw_601d0e39ae (t := (0, (-2147483648), 2147483647)) hkt (by decide) rfl rfl hf_1358 dX3_readSubscriptions_19 ?_
                                                                refine jj_if_neT (tgt := 27) C dX3_readSubscriptions_22 (by decide) (by decide) ?_
                                                                refine jj_aload_n C dX3_readSubscriptions_27 rfl ?_
                                                                refine jj_aload_n C dX3_readSubscriptions_28 rfl ?_
                                                                refine tt_getF C hok_1342 jk_4 0 (by decide) jw_70cd29f103 (t := (2, 10, 0)) hk0 (by decide) rfl rfl hs0 dX3_readSubscriptions_29 ?_
                                                                refine jj_ldcs (k := 4) (tx := "subscribe") C dX3_readSubscriptions_32 (by decide +kernel) ?_
                                                                obtain ⟨qc, gs, hqc⟩ := tt_recv (cx := []) hok_1342 hkt (by decide) rfl
                                                                refine tt_callV (rest := [.ref h0]) C (te_isWord_subscribe hl D cA ak tk a9 n2 n_1355 n_1354 (3 : Int32) u c hkt hk9 (by omega) (by omega) (by omega) hc ⟨fun q => absurd q (by decide), fun q => absurd q.2 hkd_1360.2.1⟩ hok_1342 hx0 hf_1357 hf_1356 hf_1358 hu) [] [] rfl rfl (by decide) (by decide) (by decide) qc hqc rfl rfl jw_b0fe72c6f4 jw_5e9522a00c jw_73cf9edcb7 jw_a9e7b602dc jw_ce1c1f12e9 jn_X9_isWord rfl (jj_le rfl) (jj_le rfl) (jj_le rfl) (jj_le rfl) (jj_le rfl) dX3_readSubscriptions_34 rfl (fun _ _ _ hX => hX.elim) (fun rx pl_1401 r O_1405 => ?_)
                                                                obtain ⟨rfl, hok_1402, hr_1403, ha_1404, hR_1406⟩ := O_1405
                                                                replace hs0 := hr_1403.at hk0 (by decide) (by decide) hs0
                                                                replace hx0 := hr_1403.at hkt (by decide) (by decide) hx0
                                                                replace hx2 := hr_1403.at hkt (by decide) (by decide) hx2
                                                                replace hs1 := hr_1403.at hk0 (by decide) (by decide) hs1
                                                                replace hsi := hr_1403.at hkb (by decide) (by decide) hsi
                                                                replace hf_1340 := hr_1403.at hkb (by decide) (by decide) hf_1340
                                                                replace hf_1356 := hr_1403.at hkt (by decide) (by decide) hf_1356
                                                                replace hf_1357 := hr_1403.at hkt (by decide) (by decide) hf_1357
                                                                replace hf_1358 := hr_1403.at hkt (by decide) (by decide) hf_1358
                                                                replace hu := ha_1404.at hk9 (by decide) (by decide) hu
                                                                replace hfr := hfr.trans (hr_1403.sub (by decide))
                                                                replace hfa := hfa.trans (ha_1404.sub (by decide))
                                                                rcases hR_1406 with ⟨hw_1407, rfl⟩ | ⟨hw_1408, rfl⟩
                                                                · refine jj_iconst (v := 1) C dX3_readSubscriptions_37 (by decide) ?_
                                                                  obtain ⟨qc, gs, hqc⟩ := tt_recv (cx := []) hok_1402 hk0 (by decide) rfl
                                                                  refine tt_callV (rest := []) C (te_accept_01 hl D cA ak h0 hk0 hok_1402) [] [] rfl rfl (by decide) (by decide) (by decide) qc hqc rfl rfl jw_713f4d2af1 jw_b3e457240a jw_58c48ce796 jw_9d546d0b6f jw_0001e2e84f jn_X3_accept rfl (jj_le rfl) (jj_le rfl) (jj_le rfl) (jj_le rfl) (jj_le rfl) dX3_readSubscriptions_38 rfl (fun _ _ _ hX => hX.elim) (fun rx pl_1409 r O_1413 => ?_)
                                                                  obtain ⟨rfl, hok_1410, hr_1411, ha_1412, hR_1414⟩ := O_1413
                                                                  replace hs0 := hr_1411.at hk0 (by decide) (by decide) hs0
                                                                  replace hx0 := hr_1411.at hkt (by decide) (by decide) hx0
                                                                  replace hx2 := hr_1411.at hkt (by decide) (by decide) hx2
                                                                  replace hs1 := hr_1411.at hk0 (by decide) (by decide) hs1
                                                                  replace hsi := hr_1411.at hkb (by decide) (by decide) hsi
                                                                  replace hf_1340 := hr_1411.at hkb (by decide) (by decide) hf_1340
                                                                  replace hf_1356 := hr_1411.at hkt (by decide) (by decide) hf_1356
                                                                  replace hf_1357 := hr_1411.at hkt (by decide) (by decide) hf_1357
                                                                  replace hf_1358 := hr_1411.at hkt (by decide) (by decide) hf_1358
                                                                  replace hu := ha_1412.at hk9 (by decide) (by decide) hu
                                                                  replace hfr := hfr.trans (hr_1411.sub (by decide))
                                                                  replace hfa := hfa.trans (ha_1412.sub (by decide))
                                                                  obtain ⟨hf_1415, rfl⟩ := hR_1414
                                                                  refine jj_if_eqT (tgt := 70) C dX3_readSubscriptions_41 (by decide) (by decide) ?_
                                                                  refine jj_iconst (v := 0) C dX3_readSubscriptions_70 (by decide) ?_
                                                                  exact jj_zret C rfl ⟨[], pl_1409, rfl, rfl, hok_1410, hfr, hfa, (Or.inl ⟨1, n_1354, _, (by decide), hf_1356, hf_1415, (ps_subs.nx ht_37 hkd_38.1 (ps_sub.of (ps_step.ok ht_37 (Or.inr (Or.inr ⟨hw_98, by decide, rfl⟩))) hq_132) (ps_subs.nx ht_171 hkd_172.1 (ps_sub.of (ps_step.ok ht_171 (Or.inr (Or.inr ⟨hw_232, by decide, rfl⟩))) hq_266) (ps_subs.nx ht_305 hkd_306.1 (ps_sub.of (ps_step.ok ht_305 (Or.inr (Or.inr ⟨hw_366, by decide, rfl⟩))) hq_400) (ps_subs.nx ht_439 hkd_440.1 (ps_sub.of (ps_step.ok ht_439 (Or.inr (Or.inr ⟨hw_500, by decide, rfl⟩))) hq_534) (ps_subs.nx ht_573 hkd_574.1 (ps_sub.of (ps_step.ok ht_573 (Or.inr (Or.inr ⟨hw_634, by decide, rfl⟩))) hq_668) (ps_subs.nx ht_707 hkd_708.1 (ps_sub.of (ps_step.ok ht_707 (Or.inr (Or.inr ⟨hw_768, by decide, rfl⟩))) hq_802) (ps_subs.nx ht_841 hkd_842.1 (ps_sub.of (ps_step.ok ht_841 (Or.inr (Or.inr ⟨hw_902, by decide, rfl⟩))) hq_936) (ps_subs.nx ht_975 hkd_976.1 (ps_sub.of (ps_step.ok ht_975 (Or.inr (Or.inr ⟨hw_1036, by decide, rfl⟩))) hq_1070) (ps_subs.nx ht_1109 hkd_1110.1 (ps_sub.of (ps_step.ok ht_1109 (Or.inr (Or.inr ⟨hw_1170, by decide, rfl⟩))) hq_1204) (ps_subs.nx ht_1243 hkd_1244.1 (ps_sub.of (ps_step.ok ht_1243 (Or.inr (Or.inr ⟨hw_1304, by decide, rfl⟩))) hq_1338) (ps_subs.nx ht_1359 hkd_1360.1 ⟨(1, n_1354, 0), (1, n_1354, 0), (1, n_1354, 0), (ps_step.no ht_1359 (Or.inl ⟨hw_1407, rfl⟩) (by decide)), (ps_step.st (show (1 : Nat) ≠ 0 by decide)), (ps_step.st (show (1 : Nat) ≠ 0 by decide)), (ps_step.st (show (1 : Nat) ≠ 0 by decide))⟩ (ps_subs.er (k := 0) (by decide))))))))))))), rfl⟩)⟩ dX3_readSubscriptions_71 (jj_le rfl) (jj_le rfl)
                                                                · exact absurd (hw_1408.one (n := n2) (by decide) (by unfold ps_le; decide) (by omega)).2 hkd_1360.2.1
                                                              · have hzn_1361 := ht_1366.le (by omega)
                                                                have lx_1368 := tt_lo x_1368
                                                                have ux_1368 := tt_hi x_1368
                                                                refine jj_aload_n C dX3_readSubscriptions_15 rfl ?_
                                                                refine tt_getF C hok_1342 jk_4 0 (by decide) jw_70cd29f103 (t := (2, 10, 0)) hk0 (by decide) rfl rfl hs0 dX3_readSubscriptions_16 ?_
                                                                refine tt_getF C hok_1342 jk_10 5 (by decide) jw_601d0e39ae (t := (0, (-2147483648), 2147483647)) hkt (by decide) rfl rfl hf_1365 dX3_readSubscriptions_19 ?_
                                                                refine jj_if_neT (tgt := 27) C dX3_readSubscriptions_22 (by decide) (by decide) ?_
                                                                refine jj_aload_n C dX3_readSubscriptions_27 rfl ?_
                                                                refine jj_aload_n C dX3_readSubscriptions_28 rfl ?_
                                                                refine tt_getF C hok_1342 jk_4 0 (by decide) jw_70cd29f103 (t := (2, 10, 0)) hk0 (by decide) rfl rfl hs0 dX3_readSubscriptions_29 ?_
                                                                refine jj_ldcs (k := 4) (tx := "subscribe") C dX3_readSubscriptions_32 (by decide +kernel) ?_
                                                                obtain ⟨qc, gs, hqc⟩ := tt_recv (cx := []) hok_1342 hkt (by decide) rfl
                                                                refine tt_callV (rest := [.ref h0]) C (te_isWord_subscribe hl D cA ak tk a9 n2 n_1362 n_1361 (2 : Int32) u c hkt hk9 (by omega) (by omega) (by omega) hc ⟨fun q => absurd q (by decide), fun q => absurd q.2 hkd_1367.2.1⟩ hok_1342 hx0 hf_1364 hf_1363 hf_1365 hu) [] [] rfl rfl (by decide) (by decide) (by decide) qc hqc rfl rfl jw_b0fe72c6f4 jw_5e9522a00c jw_73cf9edcb7 jw_a9e7b602dc jw_ce1c1f12e9 jn_X9_isWord rfl (jj_le rfl) (jj_le rfl) (jj_le rfl) (jj_le rfl) (jj_le rfl) dX3_readSubscriptions_34 rfl (fun _ _ _ hX => hX.elim) (fun rx pl_1416 r O_1420 => ?_)
                                                                obtain ⟨rfl, hok_1417, hr_1418, ha_1419, hR_1421⟩ := O_1420
                                                                replace hs0 := hr_1418.at hk0 (by decide) (by decide) hs0
                                                                replace hx0 := hr_1418.at hkt (by decide) (by decide) hx0
                                                                replace hx2 := hr_1418.at hkt (by decide) (by decide) hx2
                                                                replace hs1 := hr_1418.at hk0 (by decide) (by decide) hs1
                                                                replace hsi := hr_1418.at hkb (by decide) (by decide) hsi
                                                                replace hf_1340 := hr_1418.at hkb (by decide) (by decide) hf_1340
                                                                replace hf_1363 := hr_1418.at hkt (by decide) (by decide) hf_1363
                                                                replace hf_1364 := hr_1418.at hkt (by decide) (by decide) hf_1364
                                                                replace hf_1365 := hr_1418.at hkt (by decide) (by decide) hf_1365
                                                                replace hf_1369 := hr_1418.at hkt (by decide) (by decide) hf_1369
                                                                replace hu := ha_1419.at hk9 (by decide) (by decide) hu
                                                                replace hfr := hfr.trans (hr_1418.sub (by decide))
                                                                replace hfa := hfa.trans (ha_1419.sub (by decide))
                                                                rcases hR_1421 with ⟨hw_1422, rfl⟩ | ⟨hw_1423, rfl⟩
                                                                · refine jj_iconst (v := 1) C dX3_readSubscriptions_37 (by decide) ?_
                                                                  obtain ⟨qc, gs, hqc⟩ := tt_recv (cx := []) hok_1417 hk0 (by decide) rfl
                                                                  refine tt_callV (rest := []) C (te_accept_01 hl D cA ak h0 hk0 hok_1417) [] [] rfl rfl (by decide) (by decide) (by decide) qc hqc rfl rfl jw_713f4d2af1 jw_b3e457240a jw_58c48ce796 jw_9d546d0b6f jw_0001e2e84f jn_X3_accept rfl (jj_le rfl) (jj_le rfl) (jj_le rfl) (jj_le rfl) (jj_le rfl) dX3_readSubscriptions_38 rfl (fun _ _ _ hX => hX.elim) (fun rx pl_1424 r O_1428 => ?_)
                                                                  obtain ⟨rfl, hok_1425, hr_1426, ha_1427, hR_1429⟩ := O_1428
                                                                  replace hs0 := hr_1426.at hk0 (by decide) (by decide) hs0
                                                                  replace hx0 := hr_1426.at hkt (by decide) (by decide) hx0
                                                                  replace hx2 := hr_1426.at hkt (by decide) (by decide) hx2
                                                                  replace hs1 := hr_1426.at hk0 (by decide) (by decide) hs1
                                                                  replace hsi := hr_1426.at hkb (by decide) (by decide) hsi
                                                                  replace hf_1340 := hr_1426.at hkb (by decide) (by decide) hf_1340
                                                                  replace hf_1363 := hr_1426.at hkt (by decide) (by decide) hf_1363
                                                                  replace hf_1364 := hr_1426.at hkt (by decide) (by decide) hf_1364
                                                                  replace hf_1365 := hr_1426.at hkt (by decide) (by decide) hf_1365
                                                                  replace hf_1369 := hr_1426.at hkt (by decide) (by decide) hf_1369
                                                                  replace hu := ha_1427.at hk9 (by decide) (by decide) hu
                                                                  replace hfr := hfr.trans (hr_1426.sub (by decide))
                                                                  replace hfa := hfa.trans (ha_1427.sub (by decide))
                                                                  obtain ⟨hf_1430, rfl⟩ := hR_1429
                                                                  refine jj_if_eqT (tgt := 70) C dX3_readSubscriptions_41 (by decide) (by decide) ?_
                                                                  refine jj_iconst (v := 0) C dX3_readSubscriptions_70 (by decide) ?_
                                                                  exact jj_zret C rfl ⟨[], pl_1424, rfl, rfl, hok_1425, hfr, hfa, (Or.inl ⟨1, n_1361, _, (by decide), hf_1363, hf_1430, (ps_subs.nx ht_37 hkd_38.1 (ps_sub.of (ps_step.ok ht_37 (Or.inr (Or.inr ⟨hw_98, by decide, rfl⟩))) hq_132) (ps_subs.nx ht_171 hkd_172.1 (ps_sub.of (ps_step.ok ht_171 (Or.inr (Or.inr ⟨hw_232, by decide, rfl⟩))) hq_266) (ps_subs.nx ht_305 hkd_306.1 (ps_sub.of (ps_step.ok ht_305 (Or.inr (Or.inr ⟨hw_366, by decide, rfl⟩))) hq_400) (ps_subs.nx ht_439 hkd_440.1 (ps_sub.of (ps_step.ok ht_439 (Or.inr (Or.inr ⟨hw_500, by decide, rfl⟩))) hq_534) (ps_subs.nx ht_573 hkd_574.1 (ps_sub.of (ps_step.ok ht_573 (Or.inr (Or.inr ⟨hw_634, by decide, rfl⟩))) hq_668) (ps_subs.nx ht_707 hkd_708.1 (ps_sub.of (ps_step.ok ht_707 (Or.inr (Or.inr ⟨hw_768, by decide, rfl⟩))) hq_802) (ps_subs.nx ht_841 hkd_842.1 (ps_sub.of (ps_step.ok ht_841 (Or.inr (Or.inr ⟨hw_902, by decide, rfl⟩))) hq_936) (ps_subs.nx ht_975 hkd_976.1 (ps_sub.of (ps_step.ok ht_975 (Or.inr (Or.inr ⟨hw_1036, by decide, rfl⟩))) hq_1070) (ps_subs.nx ht_1109 hkd_1110.1 (ps_sub.of (ps_step.ok ht_1109 (Or.inr (Or.inr ⟨hw_1170, by decide, rfl⟩))) hq_1204) (ps_subs.nx ht_1243 hkd_1244.1 (ps_sub.of (ps_step.ok ht_1243 (Or.inr (Or.inr ⟨hw_1304, by decide, rfl⟩))) hq_1338) (ps_subs.nx ht_1366 hkd_1367.1 ⟨(1, n_1361, 0), (1, n_1361, 0), (1, n_1361, 0), (ps_step.no ht_1366 (Or.inl ⟨hw_1422, rfl⟩) (by decide)), (ps_step.st (show (1 : Nat) ≠ 0 by decide)), (ps_step.st (show (1 : Nat) ≠ 0 by decide)), (ps_step.st (show (1 : Nat) ≠ 0 by decide))⟩ (ps_subs.er (k := 0) (by decide))))))))))))), rfl⟩)⟩ dX3_readSubscriptions_71 (jj_le rfl) (jj_le rfl)
                                                                · exact absurd (hw_1423.one (n := n2) (by decide) (by unfold ps_le; decide) (by omega)).2 hkd_1367.2.1
                                                              · have hzn_1372 := ht_1377.le (by omega)
                                                                refine jj_aload_n C dX3_readSubscriptions_15 rfl ?_
                                                                refine tt_getF C hok_1342 jk_4 0 (by decide) jw_70cd29f103 (t := (2, 10, 0)) hk0 (by decide) rfl rfl hs0 dX3_readSubscriptions_16 ?_
                                                                refine tt_getF C hok_1342 jk_10 5 (by decide) jw_601d0e39ae (t := (0, (-2147483648), 2147483647)) hkt (by decide) rfl rfl hf_1376 dX3_readSubscriptions_19 ?_
                                                                refine jj_if_neT (tgt := 27) C dX3_readSubscriptions_22 (by decide) (by decide) ?_
                                                                refine jj_aload_n C dX3_readSubscriptions_27 rfl ?_
                                                                refine jj_aload_n C dX3_readSubscriptions_28 rfl ?_
                                                                refine tt_getF C hok_1342 jk_4 0 (by decide) jw_70cd29f103 (t := (2, 10, 0)) hk0 (by decide) rfl rfl hs0 dX3_readSubscriptions_29 ?_
                                                                refine jj_ldcs (k := 4) (tx := "subscribe") C dX3_readSubscriptions_32 (by decide +kernel) ?_
                                                                obtain ⟨qc, gs, hqc⟩ := tt_recv (cx := []) hok_1342 hkt (by decide) rfl
                                                                refine tt_callV (rest := [.ref h0]) C (te_isWord_subscribe hl D cA ak tk a9 n2 n_1373 n_1372 (1 : Int32) u c hkt hk9 (by omega) (by omega) (by omega) hc ⟨fun _ => hkd_1378, fun _ => rfl⟩ hok_1342 hx0 hf_1375 hf_1374 hf_1376 hu) [] [] rfl rfl (by decide) (by decide) (by decide) qc hqc rfl rfl jw_b0fe72c6f4 jw_5e9522a00c jw_73cf9edcb7 jw_a9e7b602dc jw_ce1c1f12e9 jn_X9_isWord rfl (jj_le rfl) (jj_le rfl) (jj_le rfl) (jj_le rfl) (jj_le rfl) dX3_readSubscriptions_34 rfl (fun _ _ _ hX => hX.elim) (fun rx pl_1431 r O_1435 => ?_)
                                                                obtain ⟨rfl, hok_1432, hr_1433, ha_1434, hR_1436⟩ := O_1435
                                                                replace hs0 := hr_1433.at hk0 (by decide) (by decide) hs0
                                                                replace hx0 := hr_1433.at hkt (by decide) (by decide) hx0
                                                                replace hx2 := hr_1433.at hkt (by decide) (by decide) hx2
                                                                replace hs1 := hr_1433.at hk0 (by decide) (by decide) hs1
                                                                replace hsi := hr_1433.at hkb (by decide) (by decide) hsi
                                                                replace hf_1340 := hr_1433.at hkb (by decide) (by decide) hf_1340
                                                                replace hf_1374 := hr_1433.at hkt (by decide) (by decide) hf_1374
                                                                replace hf_1375 := hr_1433.at hkt (by decide) (by decide) hf_1375
                                                                replace hf_1376 := hr_1433.at hkt (by decide) (by decide) hf_1376
                                                                replace hu := ha_1434.at hk9 (by decide) (by decide) hu
                                                                replace hfr := hfr.trans (hr_1433.sub (by decide))
                                                                replace hfa := hfa.trans (ha_1434.sub (by decide))
                                                                rcases hR_1436 with ⟨hw_1437, rfl⟩ | ⟨hw_1438, rfl⟩
                                                                · refine jj_iconst (v := 1) C dX3_readSubscriptions_37 (by decide) ?_
                                                                  obtain ⟨qc, gs, hqc⟩ := tt_recv (cx := []) hok_1432 hk0 (by decide) rfl
                                                                  refine tt_callV (rest := []) C (te_accept_01 hl D cA ak h0 hk0 hok_1432) [] [] rfl rfl (by decide) (by decide) (by decide) qc hqc rfl rfl jw_713f4d2af1 jw_b3e457240a jw_58c48ce796 jw_9d546d0b6f jw_0001e2e84f jn_X3_accept rfl (jj_le rfl) (jj_le rfl) (jj_le rfl) (jj_le rfl) (jj_le rfl) dX3_readSubscriptions_38 rfl (fun _ _ _ hX => hX.elim) (fun rx pl_1439 r O_1443 => ?_)
                                                                  obtain ⟨rfl, hok_1440, hr_1441, ha_1442, hR_1444⟩ := O_1443
                                                                  replace hs0 := hr_1441.at hk0 (by decide) (by decide) hs0
                                                                  replace hx0 := hr_1441.at hkt (by decide) (by decide) hx0
                                                                  replace hx2 := hr_1441.at hkt (by decide) (by decide) hx2
                                                                  replace hs1 := hr_1441.at hk0 (by decide) (by decide) hs1
                                                                  replace hsi := hr_1441.at hkb (by decide) (by decide) hsi
                                                                  replace hf_1340 := hr_1441.at hkb (by decide) (by decide) hf_1340
                                                                  replace hf_1374 := hr_1441.at hkt (by decide) (by decide) hf_1374
                                                                  replace hf_1375 := hr_1441.at hkt (by decide) (by decide) hf_1375
                                                                  replace hf_1376 := hr_1441.at hkt (by decide) (by decide) hf_1376
                                                                  replace hu := ha_1442.at hk9 (by decide) (by decide) hu
                                                                  replace hfr := hfr.trans (hr_1441.sub (by decide))
                                                                  replace hfa := hfa.trans (ha_1442.sub (by decide))
                                                                  obtain ⟨hf_1445, rfl⟩ := hR_1444
                                                                  refine jj_if_eqT (tgt := 70) C dX3_readSubscriptions_41 (by decide) (by decide) ?_
                                                                  refine jj_iconst (v := 0) C dX3_readSubscriptions_70 (by decide) ?_
                                                                  exact jj_zret C rfl ⟨[], pl_1439, rfl, rfl, hok_1440, hfr, hfa, (Or.inl ⟨1, n_1372, _, (by decide), hf_1374, hf_1445, (ps_subs.nx ht_37 hkd_38.1 (ps_sub.of (ps_step.ok ht_37 (Or.inr (Or.inr ⟨hw_98, by decide, rfl⟩))) hq_132) (ps_subs.nx ht_171 hkd_172.1 (ps_sub.of (ps_step.ok ht_171 (Or.inr (Or.inr ⟨hw_232, by decide, rfl⟩))) hq_266) (ps_subs.nx ht_305 hkd_306.1 (ps_sub.of (ps_step.ok ht_305 (Or.inr (Or.inr ⟨hw_366, by decide, rfl⟩))) hq_400) (ps_subs.nx ht_439 hkd_440.1 (ps_sub.of (ps_step.ok ht_439 (Or.inr (Or.inr ⟨hw_500, by decide, rfl⟩))) hq_534) (ps_subs.nx ht_573 hkd_574.1 (ps_sub.of (ps_step.ok ht_573 (Or.inr (Or.inr ⟨hw_634, by decide, rfl⟩))) hq_668) (ps_subs.nx ht_707 hkd_708.1 (ps_sub.of (ps_step.ok ht_707 (Or.inr (Or.inr ⟨hw_768, by decide, rfl⟩))) hq_802) (ps_subs.nx ht_841 hkd_842.1 (ps_sub.of (ps_step.ok ht_841 (Or.inr (Or.inr ⟨hw_902, by decide, rfl⟩))) hq_936) (ps_subs.nx ht_975 hkd_976.1 (ps_sub.of (ps_step.ok ht_975 (Or.inr (Or.inr ⟨hw_1036, by decide, rfl⟩))) hq_1070) (ps_subs.nx ht_1109 hkd_1110.1 (ps_sub.of (ps_step.ok ht_1109 (Or.inr (Or.inr ⟨hw_1170, by decide, rfl⟩))) hq_1204) (ps_subs.nx ht_1243 hkd_1244.1 (ps_sub.of (ps_step.ok ht_1243 (Or.inr (Or.inr ⟨hw_1304, by decide, rfl⟩))) hq_1338) (ps_subs.nx ht_1377 hkd_1378.1 ⟨(1, n_1372, 0), (1, n_1372, 0), (1, n_1372, 0), (ps_step.no ht_1377 (Or.inl ⟨hw_1437, rfl⟩) (by decide)), (ps_step.st (show (1 : Nat) ≠ 0 by decide)), (ps_step.st (show (1 : Nat) ≠ 0 by decide)), (ps_step.st (show (1 : Nat) ≠ 0 by decide))⟩ (ps_subs.er (k := 0) (by decide))))))))))))), rfl⟩)⟩ dX3_readSubscriptions_71 (jj_le rfl) (jj_le rfl)
                                                                · refine jj_iconst (v := 1) C dX3_readSubscriptions_37 (by decide) ?_
                                                                  obtain ⟨qc, gs, hqc⟩ := tt_recv (cx := []) hok_1432 hk0 (by decide) rfl
                                                                  refine tt_callV (rest := []) C (te_accept_11 hl D cA ak h0 hk0 hok_1432) [] [] rfl rfl (by decide) (by decide) (by decide) qc hqc rfl rfl jw_713f4d2af1 jw_b3e457240a jw_58c48ce796 jw_9d546d0b6f jw_0001e2e84f jn_X3_accept rfl (jj_le rfl) (jj_le rfl) (jj_le rfl) (jj_le rfl) (jj_le rfl) dX3_readSubscriptions_38 rfl (fun _ _ _ hX => hX.elim) (fun rx pl_1446 r O_1450 => ?_)
                                                                  obtain ⟨rfl, hok_1447, hr_1448, ha_1449, hR_1451⟩ := O_1450
                                                                  replace hs0 := hr_1448.at hk0 (by decide) (by decide) hs0
                                                                  replace hx0 := hr_1448.at hkt (by decide) (by decide) hx0
                                                                  replace hx2 := hr_1448.at hkt (by decide) (by decide) hx2
                                                                  replace hs1 := hr_1448.at hk0 (by decide) (by decide) hs1
                                                                  replace hsi := hr_1448.at hkb (by decide) (by decide) hsi
                                                                  replace hf_1340 := hr_1448.at hkb (by decide) (by decide) hf_1340
                                                                  replace hf_1374 := hr_1448.at hkt (by decide) (by decide) hf_1374
                                                                  replace hf_1375 := hr_1448.at hkt (by decide) (by decide) hf_1375
                                                                  replace hf_1376 := hr_1448.at hkt (by decide) (by decide) hf_1376
                                                                  replace hu := ha_1449.at hk9 (by decide) (by decide) hu
                                                                  replace hfr := hfr.trans (hr_1448.sub (by decide))
                                                                  replace hfa := hfa.trans (ha_1449.sub (by decide))
                                                                  obtain rfl := hR_1451
                                                                  refine jj_if_eqF (tgt := 70) C dX3_readSubscriptions_41 (by decide) (by decide) ?_
                                                                  refine jj_aload_n C dX3_readSubscriptions_44 rfl ?_
                                                                  refine jj_iload_n C dX3_readSubscriptions_45 rfl ?_
                                                                  refine jj_bipush (v := 12) C dX3_readSubscriptions_46 (by decide) ?_
                                                                  refine jj_icmp_geF (tgt := 55) C dX3_readSubscriptions_48 (by decide) (by decide) ?_
                                                                  refine jj_iconst (v := 1) C dX3_readSubscriptions_51 (by decide) ?_
                                                                  refine jj_goto (tgt := 56) C dX3_readSubscriptions_52 (by decide) ?_
                                                                  refine jj_iconst (v := 3) C dX3_readSubscriptions_56 (by decide) ?_
                                                                  obtain ⟨qc, gs, hqc⟩ := tt_recv (cx := []) hok_1447 hk0 (by decide) rfl
                                                                  refine tt_callV (rest := []) C (te_accept_13 hl D cA ak h0 hk0 hok_1447) [] [] rfl rfl (by decide) (by decide) (by decide) qc hqc rfl rfl jw_713f4d2af1 jw_b3e457240a jw_58c48ce796 jw_9d546d0b6f jw_0001e2e84f jn_X3_accept rfl (jj_le rfl) (jj_le rfl) (jj_le rfl) (jj_le rfl) (jj_le rfl) dX3_readSubscriptions_57 rfl (fun _ _ _ hX => hX.elim) (fun rx pl_1452 r O_1456 => ?_)
                                                                  obtain ⟨rfl, hok_1453, hr_1454, ha_1455, hR_1457⟩ := O_1456
                                                                  replace hs0 := hr_1454.at hk0 (by decide) (by decide) hs0
                                                                  replace hx0 := hr_1454.at hkt (by decide) (by decide) hx0
                                                                  replace hx2 := hr_1454.at hkt (by decide) (by decide) hx2
                                                                  replace hs1 := hr_1454.at hk0 (by decide) (by decide) hs1
                                                                  replace hsi := hr_1454.at hkb (by decide) (by decide) hsi
                                                                  replace hf_1340 := hr_1454.at hkb (by decide) (by decide) hf_1340
                                                                  replace hf_1374 := hr_1454.at hkt (by decide) (by decide) hf_1374
                                                                  replace hf_1375 := hr_1454.at hkt (by decide) (by decide) hf_1375
                                                                  replace hf_1376 := hr_1454.at hkt (by decide) (by decide) hf_1376
                                                                  replace hu := ha_1455.at hk9 (by decide) (by decide) hu
                                                                  replace hfr := hfr.trans (hr_1454.sub (by decide))
                                                                  replace hfa := hfa.trans (ha_1455.sub (by decide))
                                                                  obtain rfl := hR_1457
                                                                  refine jj_if_eqF (tgt := 70) C dX3_readSubscriptions_60 (by decide) (by decide) ?_
                                                                  refine jj_aload_n C dX3_readSubscriptions_63 rfl ?_
                                                                  obtain ⟨qc, gs, hqc⟩ := tt_recv (cx := []) hok_1453 hk0 (by decide) rfl
                                                                  refine tt_callV (rest := []) C (te_readSubscription hl D cA ak h0 tk a9 bk n2 n_1373 u c iv 10 hk0 hkt hk9 hkb (by omega) (by omega) hc (by omega) (by omega) (by omega) hok_1453 hs0 hx0 hx2 hf_1375 hs1 hsi hf_1340 hu) [] [] rfl rfl (by decide) (by decide) (by decide) qc hqc rfl rfl jw_b50e5c10ea jw_23105775d0 jw_16355fb5ab jw_9d546d0b6f jw_0cc88cc191 jn_X3_readSubscription rfl (jj_le rfl) (jj_le rfl) (jj_le rfl) (jj_le rfl) (jj_le rfl) dX3_readSubscriptions_64 rfl (fun _ _ _ hX => hX.elim) (fun rx pl_1458 r O_1462 => ?_)
                                                                  obtain ⟨rfl, hok_1459, hr_1460, ha_1461, hR_1463⟩ := O_1462
                                                                  replace hs0 := hr_1460.at hk0 (by decide) (by decide) hs0
                                                                  replace hx0 := hr_1460.at hkt (by decide) (by decide) hx0
                                                                  replace hx2 := hr_1460.at hkt (by decide) (by decide) hx2
                                                                  replace hs1 := hr_1460.at hk0 (by decide) (by decide) hs1
                                                                  replace hsi := hr_1460.at hkb (by decide) (by decide) hsi
                                                                  replace hu := ha_1461.at hk9 (by decide) (by decide) hu
                                                                  replace hfr := hfr.trans (hr_1460.sub (by decide))
                                                                  replace hfa := hfa.trans (ha_1461.sub (by decide))
                                                                  rcases hR_1463 with ⟨n_1465, n_1464, hn_1469, hf_1466, hf_1467, hq_1468, rfl⟩ | ⟨n_1470, hle_1473, hf_1471, hf_1474, hq_1472, rfl⟩
                                                                  · refine jj_if_neF (tgt := 72) C dX3_readSubscriptions_67 (by decide) (by decide) ?_
                                                                    refine jj_iconst (v := 0) C dX3_readSubscriptions_70 (by decide) ?_
                                                                    exact jj_zret C rfl ⟨[], pl_1458, rfl, rfl, hok_1459, hfr, hfa, (Or.inl ⟨n_1465, n_1464, _, hn_1469, hf_1466, hf_1467, (ps_subs.nx ht_37 hkd_38.1 (ps_sub.of (ps_step.ok ht_37 (Or.inr (Or.inr ⟨hw_98, by decide, rfl⟩))) hq_132) (ps_subs.nx ht_171 hkd_172.1 (ps_sub.of (ps_step.ok ht_171 (Or.inr (Or.inr ⟨hw_232, by decide, rfl⟩))) hq_266) (ps_subs.nx ht_305 hkd_306.1 (ps_sub.of (ps_step.ok ht_305 (Or.inr (Or.inr ⟨hw_366, by decide, rfl⟩))) hq_400) (ps_subs.nx ht_439 hkd_440.1 (ps_sub.of (ps_step.ok ht_439 (Or.inr (Or.inr ⟨hw_500, by decide, rfl⟩))) hq_534) (ps_subs.nx ht_573 hkd_574.1 (ps_sub.of (ps_step.ok ht_573 (Or.inr (Or.inr ⟨hw_634, by decide, rfl⟩))) hq_668) (ps_subs.nx ht_707 hkd_708.1 (ps_sub.of (ps_step.ok ht_707 (Or.inr (Or.inr ⟨hw_768, by decide, rfl⟩))) hq_802) (ps_subs.nx ht_841 hkd_842.1 (ps_sub.of (ps_step.ok ht_841 (Or.inr (Or.inr ⟨hw_902, by decide, rfl⟩))) hq_936) (ps_subs.nx ht_975 hkd_976.1 (ps_sub.of (ps_step.ok ht_975 (Or.inr (Or.inr ⟨hw_1036, by decide, rfl⟩))) hq_1070) (ps_subs.nx ht_1109 hkd_1110.1 (ps_sub.of (ps_step.ok ht_1109 (Or.inr (Or.inr ⟨hw_1170, by decide, rfl⟩))) hq_1204) (ps_subs.nx ht_1243 hkd_1244.1 (ps_sub.of (ps_step.ok ht_1243 (Or.inr (Or.inr ⟨hw_1304, by decide, rfl⟩))) hq_1338) (ps_subs.nx ht_1377 hkd_1378.1 (ps_sub.of (ps_step.ok ht_1377 (Or.inr (Or.inr ⟨hw_1438, by decide, rfl⟩))) hq_1468) (ps_subs.er (k := 0) hn_1469)))))))))))), rfl⟩)⟩ dX3_readSubscriptions_71 (jj_le rfl) (jj_le rfl)
                                                                  · refine jj_if_neT (tgt := 72) C dX3_readSubscriptions_67 (by decide) (by decide) ?_
                                                                    refine jj_iinc (v := 11) C dX3_readSubscriptions_72 rfl (by decide) (by decide) rfl ?_
                                                                    refine jj_goto (tgt := 2) C dX3_readSubscriptions_75 (by decide) ?_
                                                                    refine jj_iload_n C dX3_readSubscriptions_2 rfl ?_
                                                                    refine jj_bipush (v := 12) C dX3_readSubscriptions_3 (by decide) ?_
                                                                    refine jj_icmp_gtF (tgt := 78) C dX3_readSubscriptions_5 (by decide) (by decide) ?_
                                                                    refine jj_aload_n C dX3_readSubscriptions_8 rfl ?_
                                                                    refine tt_getF C hok_1459 jk_4 0 (by decide) jw_70cd29f103 (t := (2, 10, 0)) hk0 (by decide) rfl rfl hs0 dX3_readSubscriptions_9 ?_
                                                                    obtain ⟨qc, gs, hqc⟩ := tt_recv (cx := []) hok_1459 hkt (by decide) rfl
                                                                    refine tt_callV (rest := []) C (te_advance hl D cA ak tk a9 n2 n_1470 u c hkt hk9 (by omega) (by omega) hc hok_1459 hx0 hx2 hf_1471 hu) [] [] rfl rfl (by decide) (by decide) (by decide) qc hqc rfl rfl jw_97c023d194 jw_37f6ee43e0 jw_46baf1fc7b jw_a9e7b602dc jw_0d4db63612 jn_X9_advance rfl (jj_le rfl) (jj_le rfl) (jj_le rfl) (jj_le rfl) (jj_le rfl) dX3_readSubscriptions_12 rfl (fun _ _ _ hX => hX.elim) (fun rx pl_1475 r O_1479 => ?_)
                                                                    obtain ⟨rfl, hok_1476, hr_1477, ha_1478, hR_1480⟩ := O_1479
                                                                    replace hs0 := hr_1477.at hk0 (by decide) (by decide) hs0
                                                                    replace hx0 := hr_1477.at hkt (by decide) (by decide) hx0
                                                                    replace hx2 := hr_1477.at hkt (by decide) (by decide) hx2
                                                                    replace hs1 := hr_1477.at hk0 (by decide) (by decide) hs1
                                                                    replace hsi := hr_1477.at hkb (by decide) (by decide) hsi
                                                                    replace hf_1474 := hr_1477.at hkb (by decide) (by decide) hf_1474
                                                                    replace hu := ha_1478.at hk9 (by decide) (by decide) hu
                                                                    replace hfr := hfr.trans (hr_1477.sub (by decide))
                                                                    replace hfa := hfa.trans (ha_1478.sub (by decide))
                                                                    rcases hR_1480 with ⟨n_1481, n_1482, hf_1483, hf_1484, hf_1485, ht_1486, hkd_1487, rfl⟩ | ⟨n_1488, n_1489, hf_1490, hf_1491, hf_1492, ht_1493, hkd_1494, rfl⟩ | ⟨n_1495, n_1496, hf_1497, hf_1498, hf_1499, ht_1500, hkd_1501, ⟨x_1502, hf_1503, hq_1504, hq_1505⟩, rfl⟩ | ⟨n_1506, n_1507, hf_1508, hf_1509, hf_1510, ht_1511, hkd_1512, rfl⟩ | ⟨n_1513, n_1514, hf_1515, hf_1516, hf_1517, ht_1518, hkd_1519, rfl⟩
                                                                    · have hzn_1481 := ht_1486.le (by omega)
                                                                      refine jj_aload_n C dX3_readSubscriptions_15 rfl ?_
                                                                      refine tt_getF C hok_1476 jk_4 0 (by decide) jw_70cd29f103 (t := (2, 10, 0)) hk0 (by decide) rfl rfl hs0 dX3_readSubscriptions_16 ?_
                                                                      refine tt_getF C hok_1476 jk_10 5 (by decide) jw_601d0e39ae (t := (0, (-2147483648), 2147483647)) hkt (by decide) rfl rfl hf_1485 dX3_readSubscriptions_19 ?_
                                                                      refine jj_if_neT (tgt := 27) C dX3_readSubscriptions_22 (by decide) (by decide) ?_
                                                                      refine jj_aload_n C dX3_readSubscriptions_27 rfl ?_
                                                                      refine jj_aload_n C dX3_readSubscriptions_28 rfl ?_
                                                                      refine tt_getF C hok_1476 jk_4 0 (by decide) jw_70cd29f103 (t := (2, 10, 0)) hk0 (by decide) rfl rfl hs0 dX3_readSubscriptions_29 ?_
                                                                      refine jj_ldcs (k := 4) (tx := "subscribe") C dX3_readSubscriptions_32 (by decide +kernel) ?_
                                                                      obtain ⟨qc, gs, hqc⟩ := tt_recv (cx := []) hok_1476 hkt (by decide) rfl
                                                                      refine tt_callV (rest := [.ref h0]) C (te_isWord_subscribe hl D cA ak tk a9 n2 n_1482 n_1481 (4 : Int32) u c hkt hk9 (by omega) (by omega) (by omega) hc ⟨fun q => absurd q (by decide), fun q => absurd q.2 hkd_1487.2.1⟩ hok_1476 hx0 hf_1484 hf_1483 hf_1485 hu) [] [] rfl rfl (by decide) (by decide) (by decide) qc hqc rfl rfl jw_b0fe72c6f4 jw_5e9522a00c jw_73cf9edcb7 jw_a9e7b602dc jw_ce1c1f12e9 jn_X9_isWord rfl (jj_le rfl) (jj_le rfl) (jj_le rfl) (jj_le rfl) (jj_le rfl) dX3_readSubscriptions_34 rfl (fun _ _ _ hX => hX.elim) (fun rx pl_1520 r O_1524 => ?_)
                                                                      obtain ⟨rfl, hok_1521, hr_1522, ha_1523, hR_1525⟩ := O_1524
                                                                      replace hs0 := hr_1522.at hk0 (by decide) (by decide) hs0
                                                                      replace hx0 := hr_1522.at hkt (by decide) (by decide) hx0
                                                                      replace hx2 := hr_1522.at hkt (by decide) (by decide) hx2
                                                                      replace hs1 := hr_1522.at hk0 (by decide) (by decide) hs1
                                                                      replace hsi := hr_1522.at hkb (by decide) (by decide) hsi
                                                                      replace hf_1474 := hr_1522.at hkb (by decide) (by decide) hf_1474
                                                                      replace hf_1483 := hr_1522.at hkt (by decide) (by decide) hf_1483
                                                                      replace hf_1484 := hr_1522.at hkt (by decide) (by decide) hf_1484
                                                                      replace hf_1485 := hr_1522.at hkt (by decide) (by decide) hf_1485
                                                                      replace hu := ha_1523.at hk9 (by decide) (by decide) hu
                                                                      replace hfr := hfr.trans (hr_1522.sub (by decide))
                                                                      replace hfa := hfa.trans (ha_1523.sub (by decide))
                                                                      rcases hR_1525 with ⟨hw_1526, rfl⟩ | ⟨hw_1527, rfl⟩
                                                                      · refine jj_iconst (v := 1) C dX3_readSubscriptions_37 (by decide) ?_
                                                                        obtain ⟨qc, gs, hqc⟩ := tt_recv (cx := []) hok_1521 hk0 (by decide) rfl
                                                                        refine tt_callV (rest := []) C (te_accept_01 hl D cA ak h0 hk0 hok_1521) [] [] rfl rfl (by decide) (by decide) (by decide) qc hqc rfl rfl jw_713f4d2af1 jw_b3e457240a jw_58c48ce796 jw_9d546d0b6f jw_0001e2e84f jn_X3_accept rfl (jj_le rfl) (jj_le rfl) (jj_le rfl) (jj_le rfl) (jj_le rfl) dX3_readSubscriptions_38 rfl (fun _ _ _ hX => hX.elim) (fun rx pl_1528 r O_1532 => ?_)
                                                                        obtain ⟨rfl, hok_1529, hr_1530, ha_1531, hR_1533⟩ := O_1532
                                                                        replace hs0 := hr_1530.at hk0 (by decide) (by decide) hs0
                                                                        replace hx0 := hr_1530.at hkt (by decide) (by decide) hx0
                                                                        replace hx2 := hr_1530.at hkt (by decide) (by decide) hx2
                                                                        replace hs1 := hr_1530.at hk0 (by decide) (by decide) hs1
                                                                        replace hsi := hr_1530.at hkb (by decide) (by decide) hsi
                                                                        replace hf_1474 := hr_1530.at hkb (by decide) (by decide) hf_1474
                                                                        replace hf_1483 := hr_1530.at hkt (by decide) (by decide) hf_1483
                                                                        replace hf_1484 := hr_1530.at hkt (by decide) (by decide) hf_1484
                                                                        replace hf_1485 := hr_1530.at hkt (by decide) (by decide) hf_1485
                                                                        replace hu := ha_1531.at hk9 (by decide) (by decide) hu
                                                                        replace hfr := hfr.trans (hr_1530.sub (by decide))
                                                                        replace hfa := hfa.trans (ha_1531.sub (by decide))
                                                                        obtain ⟨hf_1534, rfl⟩ := hR_1533
                                                                        refine jj_if_eqT (tgt := 70) C dX3_readSubscriptions_41 (by decide) (by decide) ?_
                                                                        refine jj_iconst (v := 0) C dX3_readSubscriptions_70 (by decide) ?_
                                                                        exact jj_zret C rfl ⟨[], pl_1528, rfl, rfl, hok_1529, hfr, hfa, (Or.inl ⟨1, n_1481, _, (by decide), hf_1483, hf_1534, (ps_subs.nx ht_37 hkd_38.1 (ps_sub.of (ps_step.ok ht_37 (Or.inr (Or.inr ⟨hw_98, by decide, rfl⟩))) hq_132) (ps_subs.nx ht_171 hkd_172.1 (ps_sub.of (ps_step.ok ht_171 (Or.inr (Or.inr ⟨hw_232, by decide, rfl⟩))) hq_266) (ps_subs.nx ht_305 hkd_306.1 (ps_sub.of (ps_step.ok ht_305 (Or.inr (Or.inr ⟨hw_366, by decide, rfl⟩))) hq_400) (ps_subs.nx ht_439 hkd_440.1 (ps_sub.of (ps_step.ok ht_439 (Or.inr (Or.inr ⟨hw_500, by decide, rfl⟩))) hq_534) (ps_subs.nx ht_573 hkd_574.1 (ps_sub.of (ps_step.ok ht_573 (Or.inr (Or.inr ⟨hw_634, by decide, rfl⟩))) hq_668) (ps_subs.nx ht_707 hkd_708.1 (ps_sub.of (ps_step.ok ht_707 (Or.inr (Or.inr ⟨hw_768, by decide, rfl⟩))) hq_802) (ps_subs.nx ht_841 hkd_842.1 (ps_sub.of (ps_step.ok ht_841 (Or.inr (Or.inr ⟨hw_902, by decide, rfl⟩))) hq_936) (ps_subs.nx ht_975 hkd_976.1 (ps_sub.of (ps_step.ok ht_975 (Or.inr (Or.inr ⟨hw_1036, by decide, rfl⟩))) hq_1070) (ps_subs.nx ht_1109 hkd_1110.1 (ps_sub.of (ps_step.ok ht_1109 (Or.inr (Or.inr ⟨hw_1170, by decide, rfl⟩))) hq_1204) (ps_subs.nx ht_1243 hkd_1244.1 (ps_sub.of (ps_step.ok ht_1243 (Or.inr (Or.inr ⟨hw_1304, by decide, rfl⟩))) hq_1338) (ps_subs.nx ht_1377 hkd_1378.1 (ps_sub.of (ps_step.ok ht_1377 (Or.inr (Or.inr ⟨hw_1438, by decide, rfl⟩))) hq_1472) (ps_subs.nx ht_1486 hkd_1487.1 ⟨(1, n_1481, 0), (1, n_1481, 0), (1, n_1481, 0), (ps_step.no ht_1486 (Or.inl ⟨hw_1526, rfl⟩) (by decide)), (ps_step.st (show (1 : Nat) ≠ 0 by decide)), (ps_step.st (show (1 : Nat) ≠ 0 by decide)), (ps_step.st (show (1 : Nat) ≠ 0 by decide))⟩ (ps_subs.er (k := 0) (by decide)))))))))))))), rfl⟩)⟩ dX3_readSubscriptions_71 (jj_le rfl) (jj_le rfl)
                                                                      · exact absurd (hw_1527.one (n := n2) (by decide) (by unfold ps_le; decide) (by omega)).2 hkd_1487.2.1
                                                                    · have hzn_1488 := ht_1493.le (by omega)
                                                                      refine jj_aload_n C dX3_readSubscriptions_15 rfl ?_
                                                                      refine tt_getF C hok_1476 jk_4 0 (by decide) jw_70cd29f103 (t := (2, 10, 0)) hk0 (by decide) rfl rfl hs0 dX3_readSubscriptions_16 ?_
                                                                      refine tt_getF C hok_1476 jk_10 5 (by decide) jw_601d0e39ae (t := (0, (-2147483648), 2147483647)) hkt (by decide) rfl rfl hf_1492 dX3_readSubscriptions_19 ?_
                                                                      refine jj_if_neT (tgt := 27) C dX3_readSubscriptions_22 (by decide) (by decide) ?_
                                                                      refine jj_aload_n C dX3_readSubscriptions_27 rfl ?_
                                                                      refine jj_aload_n C dX3_readSubscriptions_28 rfl ?_
                                                                      refine tt_getF C hok_1476 jk_4 0 (by decide) jw_70cd29f103 (t := (2, 10, 0)) hk0 (by decide) rfl rfl hs0 dX3_readSubscriptions_29 ?_
                                                                      refine jj_ldcs (k := 4) (tx := "subscribe") C dX3_readSubscriptions_32 (by decide +kernel) ?_
                                                                      obtain ⟨qc, gs, hqc⟩ := tt_recv (cx := []) hok_1476 hkt (by decide) rfl
                                                                      refine tt_callV (rest := [.ref h0]) C (te_isWord_subscribe hl D cA ak tk a9 n2 n_1489 n_1488 (3 : Int32) u c hkt hk9 (by omega) (by omega) (by omega) hc ⟨fun q => absurd q (by decide), fun q => absurd q.2 hkd_1494.2.1⟩ hok_1476 hx0 hf_1491 hf_1490 hf_1492 hu) [] [] rfl rfl (by decide) (by decide) (by decide) qc hqc rfl rfl jw_b0fe72c6f4 jw_5e9522a00c jw_73cf9edcb7 jw_a9e7b602dc jw_ce1c1f12e9 jn_X9_isWord rfl (jj_le rfl) (jj_le rfl) (jj_le rfl) (jj_le rfl) (jj_le rfl) dX3_readSubscriptions_34 rfl (fun _ _ _ hX => hX.elim) (fun rx pl_1535 r O_1539 => ?_)
                                                                      obtain ⟨rfl, hok_1536, hr_1537, ha_1538, hR_1540⟩ := O_1539
                                                                      replace hs0 := hr_1537.at hk0 (by decide) (by decide) hs0
                                                                      replace hx0 := hr_1537.at hkt (by decide) (by decide) hx0
                                                                      replace hx2 := hr_1537.at hkt (by decide) (by decide) hx2
                                                                      replace hs1 := hr_1537.at hk0 (by decide) (by decide) hs1
                                                                      replace hsi := hr_1537.at hkb (by decide) (by decide) hsi
                                                                      replace hf_1474 := hr_1537.at hkb (by decide) (by decide) hf_1474
                                                                      replace hf_1490 := hr_1537.at hkt (by decide) (by decide) hf_1490
                                                                      replace hf_1491 := hr_1537.at hkt (by decide) (by decide) hf_1491
                                                                      replace hf_1492 := hr_1537.at hkt (by decide) (by decide) hf_1492
                                                                      replace hu := ha_1538.at hk9 (by decide) (by decide) hu
                                                                      replace hfr := hfr.trans (hr_1537.sub (by decide))
                                                                      replace hfa := hfa.trans (ha_1538.sub (by decide))
                                                                      rcases hR_1540 with ⟨hw_1541, rfl⟩ | ⟨hw_1542, rfl⟩
                                                                      · refine jj_iconst (v := 1) C dX3_readSubscriptions_37 (by decide) ?_
                                                                        obtain ⟨qc, gs, hqc⟩ := tt_recv (cx := []) hok_1536 hk0 (by decide) rfl
                                                                        refine tt_callV (rest := []) C (te_accept_01 hl D cA ak h0 hk0 hok_1536) [] [] rfl rfl (by decide) (by decide) (by decide) qc hqc rfl rfl jw_713f4d2af1 jw_b3e457240a jw_58c48ce796 jw_9d546d0b6f jw_0001e2e84f jn_X3_accept rfl (jj_le rfl) (jj_le rfl) (jj_le rfl) (jj_le rfl) (jj_le rfl) dX3_readSubscriptions_38 rfl (fun _ _ _ hX => hX.elim) (fun rx pl_1543 r O_1547 => ?_)
                                                                        obtain ⟨rfl, hok_1544, hr_1545, ha_1546, hR_1548⟩ := O_1547
                                                                        replace hs0 := hr_1545.at hk0 (by decide) (by decide) hs0
                                                                        replace hx0 := hr_1545.at hkt (by decide) (by decide) hx0
                                                                        replace hx2 := hr_1545.at hkt (by decide) (by decide) hx2
                                                                        replace hs1 := hr_1545.at hk0 (by decide) (by decide) hs1
                                                                        replace hsi := hr_1545.at hkb (by decide) (by decide) hsi
                                                                        replace hf_1474 := hr_1545.at hkb (by decide) (by decide) hf_1474
                                                                        replace hf_1490 := hr_1545.at hkt (by decide) (by decide) hf_1490
                                                                        replace hf_1491 := hr_1545.at hkt (by decide) (by decide) hf_1491
                                                                        replace hf_1492 := hr_1545.at hkt (by decide) (by decide) hf_1492
                                                                        replace hu := ha_1546.at hk9 (by decide) (by decide) hu
                                                                        replace hfr := hfr.trans (hr_1545.sub (by decide))
                                                                        replace hfa := hfa.trans (ha_1546.sub (by decide))
                                                                        obtain ⟨hf_1549, rfl⟩ := hR_1548
                                                                        refine jj_if_eqT (tgt := 70) C dX3_readSubscriptions_41 (by decide) (by decide) ?_
                                                                        refine jj_iconst (v := 0) C dX3_readSubscriptions_70 (by decide) ?_
                                                                        exact jj_zret C rfl ⟨[], pl_1543, rfl, rfl, hok_1544, hfr, hfa, (Or.inl ⟨1, n_1488, _, (by decide), hf_1490, hf_1549, (ps_subs.nx ht_37 hkd_38.1 (ps_sub.of (ps_step.ok ht_37 (Or.inr (Or.inr ⟨hw_98, by decide, rfl⟩))) hq_132) (ps_subs.nx ht_171 hkd_172.1 (ps_sub.of (ps_step.ok ht_171 (Or.inr (Or.inr ⟨hw_232, by decide, rfl⟩))) hq_266) (ps_subs.nx ht_305 hkd_306.1 (ps_sub.of (ps_step.ok ht_305 (Or.inr (Or.inr ⟨hw_366, by decide, rfl⟩))) hq_400) (ps_subs.nx ht_439 hkd_440.1 (ps_sub.of (ps_step.ok ht_439 (Or.inr (Or.inr ⟨hw_500, by decide, rfl⟩))) hq_534) (ps_subs.nx ht_573 hkd_574.1 (ps_sub.of (ps_step.ok ht_573 (Or.inr (Or.inr ⟨hw_634, by decide, rfl⟩))) hq_668) (ps_subs.nx ht_707 hkd_708.1 (ps_sub.of (ps_step.ok ht_707 (Or.inr (Or.inr ⟨hw_768, by decide, rfl⟩))) hq_802) (ps_subs.nx ht_841 hkd_842.1 (ps_sub.of (ps_step.ok ht_841 (Or.inr (Or.inr ⟨hw_902, by decide, rfl⟩))) hq_936) (ps_subs.nx ht_975 hkd_976.1 (ps_sub.of (ps_step.ok ht_975 (Or.inr (Or.inr ⟨hw_1036, by decide, rfl⟩))) hq_1070) (ps_subs.nx ht_1109 hkd_1110.1 (ps_sub.of (ps_step.ok ht_1109 (Or.inr (Or.inr ⟨hw_1170, by decide, rfl⟩))) hq_1204) (ps_subs.nx ht_1243 hkd_1244.1 (ps_sub.of (ps_step.ok ht_1243 (Or.inr (Or.inr ⟨hw_1304, by decide, rfl⟩))) hq_1338) (ps_subs.nx ht_1377 hkd_1378.1 (ps_sub.of (ps_step.ok ht_1377 (Or.inr (Or.inr ⟨hw_1438, by decide, rfl⟩))) hq_1472) (ps_subs.nx ht_1493 hkd_1494.1 ⟨(1, n_1488, 0), (1, n_1488, 0), (1, n_1488, 0), (ps_step.no ht_1493 (Or.inl ⟨hw_1541, rfl⟩) (by decide)), (ps_step.st (show (1 : Nat) ≠ 0 by decide)), (ps_step.st (show (1 : Nat) ≠ 0 by decide)), (ps_step.st (show (1 : Nat) ≠ 0 by decide))⟩ (ps_subs.er (k := 0) (by decide)))))))))))))), rfl⟩)⟩ dX3_readSubscriptions_71 (jj_le rfl) (jj_le rfl)
                                                                      · exact absurd (hw_1542.one (n := n2) (by decide) (by unfold ps_le; decide) (by omega)).2 hkd_1494.2.1
                                                                    · have hzn_1495 := ht_1500.le (by omega)
                                                                      have lx_1502 := tt_lo x_1502
                                                                      have ux_1502 := tt_hi x_1502
                                                                      refine jj_aload_n C dX3_readSubscriptions_15 rfl ?_
                                                                      refine tt_getF C hok_1476 jk_4 0 (by decide) jw_70cd29f103 (t := (2, 10, 0)) hk0 (by decide) rfl rfl hs0 dX3_readSubscriptions_16 ?_
                                                                      refine tt_getF C hok_1476 jk_10 5 (by decide) jw_601d0e39ae (t := (0, (-2147483648), 2147483647)) hkt (by decide) rfl rfl hf_1499 dX3_readSubscriptions_19 ?_
                                                                      refine jj_if_neT (tgt := 27) C dX3_readSubscriptions_22 (by decide) (by decide) ?_
                                                                      refine jj_aload_n C dX3_readSubscriptions_27 rfl ?_
                                                                      refine jj_aload_n C dX3_readSubscriptions_28 rfl ?_
                                                                      refine tt_getF C hok_1476 jk_4 0 (by decide) jw_70cd29f103 (t := (2, 10, 0)) hk0 (by decide) rfl rfl hs0 dX3_readSubscriptions_29 ?_
                                                                      refine jj_ldcs (k := 4) (tx := "subscribe") C dX3_readSubscriptions_32 (by decide +kernel) ?_
                                                                      obtain ⟨qc, gs, hqc⟩ := tt_recv (cx := []) hok_1476 hkt (by decide) rfl
                                                                      refine tt_callV (rest := [.ref h0]) C (te_isWord_subscribe hl D cA ak tk a9 n2 n_1496 n_1495 (2 : Int32) u c hkt hk9 (by omega) (by omega) (by omega) hc ⟨fun q => absurd q (by decide), fun q => absurd q.2 hkd_1501.2.1⟩ hok_1476 hx0 hf_1498 hf_1497 hf_1499 hu) [] [] rfl rfl (by decide) (by decide) (by decide) qc hqc rfl rfl jw_b0fe72c6f4 jw_5e9522a00c jw_73cf9edcb7 jw_a9e7b602dc jw_ce1c1f12e9 jn_X9_isWord rfl (jj_le rfl) (jj_le rfl) (jj_le rfl) (jj_le rfl) (jj_le rfl) dX3_readSubscriptions_34 rfl (fun _ _ _ hX => hX.elim) (fun rx pl_1550 r O_1554 => ?_)
                                                                      obtain ⟨rfl, hok_1551, hr_1552, ha_1553, hR_1555⟩ := O_1554
                                                                      replace hs0 := hr_1552.at hk0 (by decide) (by decide) hs0
                                                                      replace hx0 := hr_1552.at hkt (by decide) (by decide) hx0
                                                                      replace hx2 := hr_1552.at hkt (by decide) (by decide) hx2
                                                                      replace hs1 := hr_1552.at hk0 (by decide) (by decide) hs1
                                                                      replace hsi := hr_1552.at hkb (by decide) (by decide) hsi
                                                                      replace hf_1474 := hr_1552.at hkb (by decide) (by decide) hf_1474
                                                                      replace hf_1497 := hr_1552.at hkt (by decide) (by decide) hf_1497
                                                                      replace hf_1498 := hr_1552.at hkt (by decide) (by decide) hf_1498
                                                                      replace hf_1499 := hr_1552.at hkt (by decide) (by decide) hf_1499
                                                                      replace hf_1503 := hr_1552.at hkt (by decide) (by decide) hf_1503
                                                                      replace hu := ha_1553.at hk9 (by decide) (by decide) hu
                                                                      replace hfr := hfr.trans (hr_1552.sub (by decide))
                                                                      replace hfa := hfa.trans (ha_1553.sub (by decide))
                                                                      rcases hR_1555 with ⟨hw_1556, rfl⟩ | ⟨hw_1557, rfl⟩
                                                                      · refine jj_iconst (v := 1) C dX3_readSubscriptions_37 (by decide) ?_
                                                                        obtain ⟨qc, gs, hqc⟩ := tt_recv (cx := []) hok_1551 hk0 (by decide) rfl
                                                                        refine tt_callV (rest := []) C (te_accept_01 hl D cA ak h0 hk0 hok_1551) [] [] rfl rfl (by decide) (by decide) (by decide) qc hqc rfl rfl jw_713f4d2af1 jw_b3e457240a jw_58c48ce796 jw_9d546d0b6f jw_0001e2e84f jn_X3_accept rfl (jj_le rfl) (jj_le rfl) (jj_le rfl) (jj_le rfl) (jj_le rfl) dX3_readSubscriptions_38 rfl (fun _ _ _ hX => hX.elim) (fun rx pl_1558 r O_1562 => ?_)
                                                                        obtain ⟨rfl, hok_1559, hr_1560, ha_1561, hR_1563⟩ := O_1562
                                                                        replace hs0 := hr_1560.at hk0 (by decide) (by decide) hs0
                                                                        replace hx0 := hr_1560.at hkt (by decide) (by decide) hx0
                                                                        replace hx2 := hr_1560.at hkt (by decide) (by decide) hx2
                                                                        replace hs1 := hr_1560.at hk0 (by decide) (by decide) hs1
                                                                        replace hsi := hr_1560.at hkb (by decide) (by decide) hsi
                                                                        replace hf_1474 := hr_1560.at hkb (by decide) (by decide) hf_1474
                                                                        replace hf_1497 := hr_1560.at hkt (by decide) (by decide) hf_1497
                                                                        replace hf_1498 := hr_1560.at hkt (by decide) (by decide) hf_1498
                                                                        replace hf_1499 := hr_1560.at hkt (by decide) (by decide) hf_1499
                                                                        replace hf_1503 := hr_1560.at hkt (by decide) (by decide) hf_1503
                                                                        replace hu := ha_1561.at hk9 (by decide) (by decide) hu
                                                                        replace hfr := hfr.trans (hr_1560.sub (by decide))
                                                                        replace hfa := hfa.trans (ha_1561.sub (by decide))
                                                                        obtain ⟨hf_1564, rfl⟩ := hR_1563
                                                                        refine jj_if_eqT (tgt := 70) C dX3_readSubscriptions_41 (by decide) (by decide) ?_
                                                                        refine jj_iconst (v := 0) C dX3_readSubscriptions_70 (by decide) ?_
                                                                        exact jj_zret C rfl ⟨[], pl_1558, rfl, rfl, hok_1559, hfr, hfa, (Or.inl ⟨1, n_1495, _, (by decide), hf_1497, hf_1564, (ps_subs.nx ht_37 hkd_38.1 (ps_sub.of (ps_step.ok ht_37 (Or.inr (Or.inr ⟨hw_98, by decide, rfl⟩))) hq_132) (ps_subs.nx ht_171 hkd_172.1 (ps_sub.of (ps_step.ok ht_171 (Or.inr (Or.inr ⟨hw_232, by decide, rfl⟩))) hq_266) (ps_subs.nx ht_305 hkd_306.1 (ps_sub.of (ps_step.ok ht_305 (Or.inr (Or.inr ⟨hw_366, by decide, rfl⟩))) hq_400) (ps_subs.nx ht_439 hkd_440.1 (ps_sub.of (ps_step.ok ht_439 (Or.inr (Or.inr ⟨hw_500, by decide, rfl⟩))) hq_534) (ps_subs.nx ht_573 hkd_574.1 (ps_sub.of (ps_step.ok ht_573 (Or.inr (Or.inr ⟨hw_634, by decide, rfl⟩))) hq_668) (ps_subs.nx ht_707 hkd_708.1 (ps_sub.of (ps_step.ok ht_707 (Or.inr (Or.inr ⟨hw_768, by decide, rfl⟩))) hq_802) (ps_subs.nx ht_841 hkd_842.1 (ps_sub.of (ps_step.ok ht_841 (Or.inr (Or.inr ⟨hw_902, by decide, rfl⟩))) hq_936) (ps_subs.nx ht_975 hkd_976.1 (ps_sub.of (ps_step.ok ht_975 (Or.inr (Or.inr ⟨hw_1036, by decide, rfl⟩))) hq_1070) (ps_subs.nx ht_1109 hkd_1110.1 (ps_sub.of (ps_step.ok ht_1109 (Or.inr (Or.inr ⟨hw_1170, by decide, rfl⟩))) hq_1204) (ps_subs.nx ht_1243 hkd_1244.1 (ps_sub.of (ps_step.ok ht_1243 (Or.inr (Or.inr ⟨hw_1304, by decide, rfl⟩))) hq_1338) (ps_subs.nx ht_1377 hkd_1378.1 (ps_sub.of (ps_step.ok ht_1377 (Or.inr (Or.inr ⟨hw_1438, by decide, rfl⟩))) hq_1472) (ps_subs.nx ht_1500 hkd_1501.1 ⟨(1, n_1495, 0), (1, n_1495, 0), (1, n_1495, 0), (ps_step.no ht_1500 (Or.inl ⟨hw_1556, rfl⟩) (by decide)), (ps_step.st (show (1 : Nat) ≠ 0 by decide)), (ps_step.st (show (1 : Nat) ≠ 0 by decide)), (ps_step.st (show (1 : Nat) ≠ 0 by decide))⟩ (ps_subs.er (k := 0) (by decide)))))))))))))), rfl⟩)⟩ dX3_readSubscriptions_71 (jj_le rfl) (jj_le rfl)
                                                                      · exact absurd (hw_1557.one (n := n2) (by decide) (by unfold ps_le; decide) (by omega)).2 hkd_1501.2.1
                                                                    · have hzn_1506 := ht_1511.le (by omega)
                                                                      refine jj_aload_n C dX3_readSubscriptions_15 rfl ?_
                                                                      refine tt_getF C hok_1476 jk_4 0 (by decide) jw_70cd29f103 (t := (2, 10, 0)) hk0 (by decide) rfl rfl hs0 dX3_readSubscriptions_16 ?_
                                                                      refine tt_getF C hok_1476 jk_10 5 (by decide) jw_601d0e39ae (t := (0, (-2147483648), 2147483647)) hkt (by decide) rfl rfl hf_1510 dX3_readSubscriptions_19 ?_
                                                                      refine jj_if_neT (tgt := 27) C dX3_readSubscriptions_22 (by decide) (by decide) ?_
                                                                      refine jj_aload_n C dX3_readSubscriptions_27 rfl ?_
                                                                      refine jj_aload_n C dX3_readSubscriptions_28 rfl ?_
                                                                      refine tt_getF C hok_1476 jk_4 0 (by decide) jw_70cd29f103 (t := (2, 10, 0)) hk0 (by decide) rfl rfl hs0 dX3_readSubscriptions_29 ?_
                                                                      refine jj_ldcs (k := 4) (tx := "subscribe") C dX3_readSubscriptions_32 (by decide +kernel) ?_
                                                                      obtain ⟨qc, gs, hqc⟩ := tt_recv (cx := []) hok_1476 hkt (by decide) rfl
                                                                      refine tt_callV (rest := [.ref h0]) C (te_isWord_subscribe hl D cA ak tk a9 n2 n_1507 n_1506 (1 : Int32) u c hkt hk9 (by omega) (by omega) (by omega) hc ⟨fun _ => hkd_1512, fun _ => rfl⟩ hok_1476 hx0 hf_1509 hf_1508 hf_1510 hu) [] [] rfl rfl (by decide) (by decide) (by decide) qc hqc rfl rfl jw_b0fe72c6f4 jw_5e9522a00c jw_73cf9edcb7 jw_a9e7b602dc jw_ce1c1f12e9 jn_X9_isWord rfl (jj_le rfl) (jj_le rfl) (jj_le rfl) (jj_le rfl) (jj_le rfl) dX3_readSubscriptions_34 rfl (fun _ _ _ hX => hX.elim) (fun rx pl_1565 r O_1569 => ?_)
                                                                      obtain ⟨rfl, hok_1566, hr_1567, ha_1568, hR_1570⟩ := O_1569
                                                                      replace hs0 := hr_1567.at hk0 (by decide) (by decide) hs0
                                                                      replace hx0 := hr_1567.at hkt (by decide) (by decide) hx0
                                                                      replace hx2 := hr_1567.at hkt (by decide) (by decide) hx2
                                                                      replace hs1 := hr_1567.at hk0 (by decide) (by decide) hs1
                                                                      replace hsi := hr_1567.at hkb (by decide) (by decide) hsi
                                                                      replace hf_1474 := hr_1567.at hkb (by decide) (by decide) hf_1474
                                                                      replace hf_1508 := hr_1567.at hkt (by decide) (by decide) hf_1508
                                                                      replace hf_1509 := hr_1567.at hkt (by decide) (by decide) hf_1509
                                                                      replace hf_1510 := hr_1567.at hkt (by decide) (by decide) hf_1510
                                                                      replace hu := ha_1568.at hk9 (by decide) (by decide) hu
                                                                      replace hfr := hfr.trans (hr_1567.sub (by decide))
                                                                      replace hfa := hfa.trans (ha_1568.sub (by decide))
                                                                      rcases hR_1570 with ⟨hw_1571, rfl⟩ | ⟨hw_1572, rfl⟩
                                                                      · refine jj_iconst (v := 1) C dX3_readSubscriptions_37 (by decide) ?_
                                                                        obtain ⟨qc, gs, hqc⟩ := tt_recv (cx := []) hok_1566 hk0 (by decide) rfl
                                                                        refine tt_callV (rest := []) C (te_accept_01 hl D cA ak h0 hk0 hok_1566) [] [] rfl rfl (by decide) (by decide) (by decide) qc hqc rfl rfl jw_713f4d2af1 jw_b3e457240a jw_58c48ce796 jw_9d546d0b6f jw_0001e2e84f jn_X3_accept rfl (jj_le rfl) (jj_le rfl) (jj_le rfl) (jj_le rfl) (jj_le rfl) dX3_readSubscriptions_38 rfl (fun _ _ _ hX => hX.elim) (fun rx pl_1573 r O_1577 => ?_)
                                                                        obtain ⟨rfl, hok_1574, hr_1575, ha_1576, hR_1578⟩ := O_1577
                                                                        replace hs0 := hr_1575.at hk0 (by decide) (by decide) hs0
                                                                        replace hx0 := hr_1575.at hkt (by decide) (by decide) hx0
                                                                        replace hx2 := hr_1575.at hkt (by decide) (by decide) hx2
                                                                        replace hs1 := hr_1575.at hk0 (by decide) (by decide) hs1
                                                                        replace hsi := hr_1575.at hkb (by decide) (by decide) hsi
                                                                        replace hf_1474 := hr_1575.at hkb (by decide) (by decide) hf_1474
                                                                        replace hf_1508 := hr_1575.at hkt (by decide) (by decide) hf_1508
                                                                        replace hf_1509 := hr_1575.at hkt (by decide) (by decide) hf_1509
                                                                        replace hf_1510 := hr_1575.at hkt (by decide) (by decide) hf_1510
                                                                        replace hu := ha_1576.at hk9 (by decide) (by decide) hu
                                                                        replace hfr := hfr.trans (hr_1575.sub (by decide))
                                                                        replace hfa := hfa.trans (ha_1576.sub (by decide))
                                                                        obtain ⟨hf_1579, rfl⟩ := hR_1578
                                                                        refine jj_if_eqT (tgt := 70) C dX3_readSubscriptions_41 (by decide) (by decide) ?_
                                                                        refine jj_iconst (v := 0) C dX3_readSubscriptions_70 (by decide) ?_
                                                                        exact jj_zret C rfl ⟨[], pl_1573, rfl, rfl, hok_1574, hfr, hfa, (Or.inl ⟨1, n_1506, _, (by decide), hf_1508, hf_1579, (ps_subs.nx ht_37 hkd_38.1 (ps_sub.of (ps_step.ok ht_37 (Or.inr (Or.inr ⟨hw_98, by decide, rfl⟩))) hq_132) (ps_subs.nx ht_171 hkd_172.1 (ps_sub.of (ps_step.ok ht_171 (Or.inr (Or.inr ⟨hw_232, by decide, rfl⟩))) hq_266) (ps_subs.nx ht_305 hkd_306.1 (ps_sub.of (ps_step.ok ht_305 (Or.inr (Or.inr ⟨hw_366, by decide, rfl⟩))) hq_400) (ps_subs.nx ht_439 hkd_440.1 (ps_sub.of (ps_step.ok ht_439 (Or.inr (Or.inr ⟨hw_500, by decide, rfl⟩))) hq_534) (ps_subs.nx ht_573 hkd_574.1 (ps_sub.of (ps_step.ok ht_573 (Or.inr (Or.inr ⟨hw_634, by decide, rfl⟩))) hq_668) (ps_subs.nx ht_707 hkd_708.1 (ps_sub.of (ps_step.ok ht_707 (Or.inr (Or.inr ⟨hw_768, by decide, rfl⟩))) hq_802) (ps_subs.nx ht_841 hkd_842.1 (ps_sub.of (ps_step.ok ht_841 (Or.inr (Or.inr ⟨hw_902, by decide, rfl⟩))) hq_936) (ps_subs.nx ht_975 hkd_976.1 (ps_sub.of (ps_step.ok ht_975 (Or.inr (Or.inr ⟨hw_1036, by decide, rfl⟩))) hq_1070) (ps_subs.nx ht_1109 hkd_1110.1 (ps_sub.of (ps_step.ok ht_1109 (Or.inr (Or.inr ⟨hw_1170, by decide, rfl⟩))) hq_1204) (ps_subs.nx ht_1243 hkd_1244.1 (ps_sub.of (ps_step.ok ht_1243 (Or.inr (Or.inr ⟨hw_1304, by decide, rfl⟩))) hq_1338) (ps_subs.nx ht_1377 hkd_1378.1 (ps_sub.of (ps_step.ok ht_1377 (Or.inr (Or.inr ⟨hw_1438, by decide, rfl⟩))) hq_1472) (ps_subs.nx ht_1511 hkd_1512.1 ⟨(1, n_1506, 0), (1, n_1506, 0), (1, n_1506, 0), (ps_step.no ht_1511 (Or.inl ⟨hw_1571, rfl⟩) (by decide)), (ps_step.st (show (1 : Nat) ≠ 0 by decide)), (ps_step.st (show (1 : Nat) ≠ 0 by decide)), (ps_step.st (show (1 : Nat) ≠ 0 by decide))⟩ (ps_subs.er (k := 0) (by decide)))))))))))))), rfl⟩)⟩ dX3_readSubscriptions_71 (jj_le rfl) (jj_le rfl)
                                                                      · refine jj_iconst (v := 1) C dX3_readSubscriptions_37 (by decide) ?_
                                                                        obtain ⟨qc, gs, hqc⟩ := tt_recv (cx := []) hok_1566 hk0 (by decide) rfl
                                                                        refine tt_callV (rest := []) C (te_accept_11 hl D cA ak h0 hk0 hok_1566) [] [] rfl rfl (by decide) (by decide) (by decide) qc hqc rfl rfl jw_713f4d2af1 jw_b3e457240a jw_58c48ce796 jw_9d546d0b6f jw_0001e2e84f jn_X3_accept rfl (jj_le rfl) (jj_le rfl) (jj_le rfl) (jj_le rfl) (jj_le rfl) dX3_readSubscriptions_38 rfl (fun _ _ _ hX => hX.elim) (fun rx pl_1580 r O_1584 => ?_)
                                                                        obtain ⟨rfl, hok_1581, hr_1582, ha_1583, hR_1585⟩ := O_1584
                                                                        replace hs0 := hr_1582.at hk0 (by decide) (by decide) hs0
                                                                        replace hx0 := hr_1582.at hkt (by decide) (by decide) hx0
                                                                        replace hx2 := hr_1582.at hkt (by decide) (by decide) hx2
                                                                        replace hs1 := hr_1582.at hk0 (by decide) (by decide) hs1
                                                                        replace hsi := hr_1582.at hkb (by decide) (by decide) hsi
                                                                        replace hf_1474 := hr_1582.at hkb (by decide) (by decide) hf_1474
                                                                        replace hf_1508 := hr_1582.at hkt (by decide) (by decide) hf_1508
                                                                        replace hf_1509 := hr_1582.at hkt (by decide) (by decide) hf_1509
                                                                        replace hf_1510 := hr_1582.at hkt (by decide) (by decide) hf_1510
                                                                        replace hu := ha_1583.at hk9 (by decide) (by decide) hu
                                                                        replace hfr := hfr.trans (hr_1582.sub (by decide))
                                                                        replace hfa := hfa.trans (ha_1583.sub (by decide))
                                                                        obtain rfl := hR_1585
                                                                        refine jj_if_eqF (tgt := 70) C dX3_readSubscriptions_41 (by decide) (by decide) ?_
                                                                        refine jj_aload_n C dX3_readSubscriptions_44 rfl ?_
                                                                        refine jj_iload_n C dX3_readSubscriptions_45 rfl ?_
                                                                        refine jj_bipush (v := 12) C dX3_readSubscriptions_46 (by decide) ?_
                                                                        refine jj_icmp_geF (tgt := 55) C dX3_readSubscriptions_48 (by decide) (by decide) ?_
                                                                        refine jj_iconst (v := 1) C dX3_readSubscriptions_51 (by decide) ?_
                                                                        refine jj_goto (tgt := 56) C dX3_readSubscriptions_52 (by decide) ?_
                                                                        refine jj_iconst (v := 3) C dX3_readSubscriptions_56 (by decide) ?_
                                                                        obtain ⟨qc, gs, hqc⟩ := tt_recv (cx := []) hok_1581 hk0 (by decide) rfl
                                                                        refine tt_callV (rest := []) C (te_accept_13 hl D cA ak h0 hk0 hok_1581) [] [] rfl rfl (by decide) (by decide) (by decide) qc hqc rfl rfl jw_713f4d2af1 jw_b3e457240a jw_58c48ce796 jw_9d546d0b6f jw_0001e2e84f jn_X3_accept rfl (jj_le rfl) (jj_le rfl) (jj_le rfl) (jj_le rfl) (jj_le rfl) dX3_readSubscriptions_57 rfl (fun _ _ _ hX => hX.elim) (fun rx pl_1586 r O_1590 => ?_)
                                                                        obtain ⟨rfl, hok_1587, hr_1588, ha_1589, hR_1591⟩ := O_1590
                                                                        replace hs0 := hr_1588.at hk0 (by decide) (by decide) hs0
                                                                        replace hx0 := hr_1588.at hkt (by decide) (by decide) hx0
                                                                        replace hx2 := hr_1588.at hkt (by decide) (by decide) hx2
                                                                        replace hs1 := hr_1588.at hk0 (by decide) (by decide) hs1
                                                                        replace hsi := hr_1588.at hkb (by decide) (by decide) hsi
                                                                        replace hf_1474 := hr_1588.at hkb (by decide) (by decide) hf_1474
                                                                        replace hf_1508 := hr_1588.at hkt (by decide) (by decide) hf_1508
                                                                        replace hf_1509 := hr_1588.at hkt (by decide) (by decide) hf_1509
                                                                        replace hf_1510 := hr_1588.at hkt (by decide) (by decide) hf_1510
                                                                        replace hu := ha_1589.at hk9 (by decide) (by decide) hu
                                                                        replace hfr := hfr.trans (hr_1588.sub (by decide))
                                                                        replace hfa := hfa.trans (ha_1589.sub (by decide))
                                                                        obtain rfl := hR_1591
                                                                        refine jj_if_eqF (tgt := 70) C dX3_readSubscriptions_60 (by decide) (by decide) ?_
                                                                        refine jj_aload_n C dX3_readSubscriptions_63 rfl ?_
                                                                        obtain ⟨qc, gs, hqc⟩ := tt_recv (cx := []) hok_1587 hk0 (by decide) rfl
                                                                        refine tt_callV (rest := []) C (te_readSubscription hl D cA ak h0 tk a9 bk n2 n_1507 u c iv 11 hk0 hkt hk9 hkb (by omega) (by omega) hc (by omega) (by omega) (by omega) hok_1587 hs0 hx0 hx2 hf_1509 hs1 hsi hf_1474 hu) [] [] rfl rfl (by decide) (by decide) (by decide) qc hqc rfl rfl jw_b50e5c10ea jw_23105775d0 jw_16355fb5ab jw_9d546d0b6f jw_0cc88cc191 jn_X3_readSubscription rfl (jj_le rfl) (jj_le rfl) (jj_le rfl) (jj_le rfl) (jj_le rfl) dX3_readSubscriptions_64 rfl (fun _ _ _ hX => hX.elim) (fun rx pl_1592 r O_1596 => ?_)
                                                                        obtain ⟨rfl, hok_1593, hr_1594, ha_1595, hR_1597⟩ := O_1596
                                                                        replace hs0 := hr_1594.at hk0 (by decide) (by decide) hs0
                                                                        replace hx0 := hr_1594.at hkt (by decide) (by decide) hx0
                                                                        replace hx2 := hr_1594.at hkt (by decide) (by decide) hx2
                                                                        replace hs1 := hr_1594.at hk0 (by decide) (by decide) hs1
                                                                        replace hsi := hr_1594.at hkb (by decide) (by decide) hsi
                                                                        replace hu := ha_1595.at hk9 (by decide) (by decide) hu
                                                                        replace hfr := hfr.trans (hr_1594.sub (by decide))
                                                                        replace hfa := hfa.trans (ha_1595.sub (by decide))
                                                                        rcases hR_1597 with ⟨n_1599, n_1598, hn_1603, hf_1600, hf_1601, hq_1602, rfl⟩ | ⟨n_1604, hle_1607, hf_1605, hf_1608, hq_1606, rfl⟩
                                                                        · refine jj_if_neF (tgt := 72) C dX3_readSubscriptions_67 (by decide) (by decide) ?_
                                                                          refine jj_iconst (v := 0) C dX3_readSubscriptions_70 (by decide) ?_
                                                                          exact jj_zret C rfl ⟨[], pl_1592, rfl, rfl, hok_1593, hfr, hfa, (Or.inl ⟨n_1599, n_1598, _, hn_1603, hf_1600, hf_1601, (ps_subs.nx ht_37 hkd_38.1 (ps_sub.of (ps_step.ok ht_37 (Or.inr (Or.inr ⟨hw_98, by decide, rfl⟩))) hq_132) (ps_subs.nx ht_171 hkd_172.1 (ps_sub.of (ps_step.ok ht_171 (Or.inr (Or.inr ⟨hw_232, by decide, rfl⟩))) hq_266) (ps_subs.nx ht_305 hkd_306.1 (ps_sub.of (ps_step.ok ht_305 (Or.inr (Or.inr ⟨hw_366, by decide, rfl⟩))) hq_400) (ps_subs.nx ht_439 hkd_440.1 (ps_sub.of (ps_step.ok ht_439 (Or.inr (Or.inr ⟨hw_500, by decide, rfl⟩))) hq_534) (ps_subs.nx ht_573 hkd_574.1 (ps_sub.of (ps_step.ok ht_573 (Or.inr (Or.inr ⟨hw_634, by decide, rfl⟩))) hq_668) (ps_subs.nx ht_707 hkd_708.1 (ps_sub.of (ps_step.ok ht_707 (Or.inr (Or.inr ⟨hw_768, by decide, rfl⟩))) hq_802) (ps_subs.nx ht_841 hkd_842.1 (ps_sub.of (ps_step.ok ht_841 (Or.inr (Or.inr ⟨hw_902, by decide, rfl⟩))) hq_936) (ps_subs.nx ht_975 hkd_976.1 (ps_sub.of (ps_step.ok ht_975 (Or.inr (Or.inr ⟨hw_1036, by decide, rfl⟩))) hq_1070) (ps_subs.nx ht_1109 hkd_1110.1 (ps_sub.of (ps_step.ok ht_1109 (Or.inr (Or.inr ⟨hw_1170, by decide, rfl⟩))) hq_1204) (ps_subs.nx ht_1243 hkd_1244.1 (ps_sub.of (ps_step.ok ht_1243 (Or.inr (Or.inr ⟨hw_1304, by decide, rfl⟩))) hq_1338) (ps_subs.nx ht_1377 hkd_1378.1 (ps_sub.of (ps_step.ok ht_1377 (Or.inr (Or.inr ⟨hw_1438, by decide, rfl⟩))) hq_1472) (ps_subs.nx ht_1511 hkd_1512.1 (ps_sub.of (ps_step.ok ht_1511 (Or.inr (Or.inr ⟨hw_1572, by decide, rfl⟩))) hq_1602) (ps_subs.er (k := 0) hn_1603))))))))))))), rfl⟩)⟩ dX3_readSubscriptions_71 (jj_le rfl) (jj_le rfl)
                                                                        · refine jj_if_neT (tgt := 72) C dX3_readSubscriptions_67 (by decide) (by decide) ?_
                                                                          refine jj_iinc (v := 12) C dX3_readSubscriptions_72 rfl (by decide) (by decide) rfl ?_
                                                                          refine jj_goto (tgt := 2) C dX3_readSubscriptions_75 (by decide) ?_
                                                                          refine jj_iload_n C dX3_readSubscriptions_2 rfl ?_
                                                                          refine jj_bipush (v := 12) C dX3_readSubscriptions_3 (by decide) ?_
                                                                          refine jj_icmp_gtF (tgt := 78) C dX3_readSubscriptions_5 (by decide) (by decide) ?_
                                                                          refine jj_aload_n C dX3_readSubscriptions_8 rfl ?_
                                                                          refine tt_getF C hok_1593 jk_4 0 (by decide) jw_70cd29f103 (t := (2, 10, 0)) hk0 (by decide) rfl rfl hs0 dX3_readSubscriptions_9 ?_
                                                                          obtain ⟨qc, gs, hqc⟩ := tt_recv (cx := []) hok_1593 hkt (by decide) rfl
                                                                          refine tt_callV (rest := []) C (te_advance hl D cA ak tk a9 n2 n_1604 u c hkt hk9 (by omega) (by omega) hc hok_1593 hx0 hx2 hf_1605 hu) [] [] rfl rfl (by decide) (by decide) (by decide) qc hqc rfl rfl jw_97c023d194 jw_37f6ee43e0 jw_46baf1fc7b jw_a9e7b602dc jw_0d4db63612 jn_X9_advance rfl (jj_le rfl) (jj_le rfl) (jj_le rfl) (jj_le rfl) (jj_le rfl) dX3_readSubscriptions_12 rfl (fun _ _ _ hX => hX.elim) (fun rx pl_1609 r O_1613 => ?_)
                                                                          obtain ⟨rfl, hok_1610, hr_1611, ha_1612, hR_1614⟩ := O_1613
                                                                          replace hs0 := hr_1611.at hk0 (by decide) (by decide) hs0
                                                                          replace hx0 := hr_1611.at hkt (by decide) (by decide) hx0
                                                                          replace hx2 := hr_1611.at hkt (by decide) (by decide) hx2
                                                                          replace hs1 := hr_1611.at hk0 (by decide) (by decide) hs1
                                                                          replace hsi := hr_1611.at hkb (by decide) (by decide) hsi
                                                                          replace hf_1608 := hr_1611.at hkb (by decide) (by decide) hf_1608
                                                                          replace hu := ha_1612.at hk9 (by decide) (by decide) hu
                                                                          replace hfr := hfr.trans (hr_1611.sub (by decide))
                                                                          replace hfa := hfa.trans (ha_1612.sub (by decide))
                                                                          rcases hR_1614 with ⟨n_1615, n_1616, hf_1617, hf_1618, hf_1619, ht_1620, hkd_1621, rfl⟩ | ⟨n_1622, n_1623, hf_1624, hf_1625, hf_1626, ht_1627, hkd_1628, rfl⟩ | ⟨n_1629, n_1630, hf_1631, hf_1632, hf_1633, ht_1634, hkd_1635, ⟨x_1636, hf_1637, hq_1638, hq_1639⟩, rfl⟩ | ⟨n_1640, n_1641, hf_1642, hf_1643, hf_1644, ht_1645, hkd_1646, rfl⟩ | ⟨n_1647, n_1648, hf_1649, hf_1650, hf_1651, ht_1652, hkd_1653, rfl⟩
                                                                          · have hzn_1615 := ht_1620.le (by omega)
                                                                            refine jj_aload_n C dX3_readSubscriptions_15 rfl ?_
                                                                            refine tt_getF C hok_1610 jk_4 0 (by decide) jw_70cd29f103 (t := (2, 10, 0)) hk0 (by decide) rfl rfl hs0 dX3_readSubscriptions_16 ?_
                                                                            refine tt_getF C hok_1610 jk_10 5 (by decide) jw_601d0e39ae (t := (0, (-2147483648), 2147483647)) hkt (by decide) rfl rfl hf_1619 dX3_readSubscriptions_19 ?_
                                                                            refine jj_if_neT (tgt := 27) C dX3_readSubscriptions_22 (by decide) (by decide) ?_
                                                                            refine jj_aload_n C dX3_readSubscriptions_27 rfl ?_
                                                                            refine jj_aload_n C dX3_readSubscriptions_28 rfl ?_
                                                                            refine tt_getF C hok_1610 jk_4 0 (by decide) jw_70cd29f103 (t := (2, 10, 0)) hk0 (by decide) rfl rfl hs0 dX3_readSubscriptions_29 ?_
                                                                            refine jj_ldcs (k := 4) (tx := "subscribe") C dX3_readSubscriptions_32 (by decide +kernel) ?_
                                                                            obtain ⟨qc, gs, hqc⟩ := tt_recv (cx := []) hok_1610 hkt (by decide) rfl
                                                                            refine tt_callV (rest := [.ref h0]) C (te_isWord_subscribe hl D cA ak tk a9 n2 n_1616 n_1615 (4 : Int32) u c hkt hk9 (by omega) (by omega) (by omega) hc ⟨fun q => absurd q (by decide), fun q => absurd q.2 hkd_1621.2.1⟩ hok_1610 hx0 hf_1618 hf_1617 hf_1619 hu) [] [] rfl rfl (by decide) (by decide) (by decide) qc hqc rfl rfl jw_b0fe72c6f4 jw_5e9522a00c jw_73cf9edcb7 jw_a9e7b602dc jw_ce1c1f12e9 jn_X9_isWord rfl (jj_le rfl) (jj_le rfl) (jj_le rfl) (jj_le rfl) (jj_le rfl) dX3_readSubscriptions_34 rfl (fun _ _ _ hX => hX.elim) (fun rx pl_1654 r O_1658 => ?_)
                                                                            obtain ⟨rfl, hok_1655, hr_1656, ha_1657, hR_1659⟩ := O_1658
                                                                            replace hs0 := hr_1656.at hk0 (by decide) (by decide) hs0
                                                                            replace hx0 := hr_1656.at hkt (by decide) (by decide) hx0
                                                                            replace hx2 := hr_1656.at hkt (by decide) (by decide) hx2
                                                                            replace hs1 := hr_1656.at hk0 (by decide) (by decide) hs1
                                                                            replace hsi := hr_1656.at hkb (by decide) (by decide) hsi
                                                                            replace hf_1608 := hr_1656.at hkb (by decide) (by decide) hf_1608
                                                                            replace hf_1617 := hr_1656.at hkt (by decide) (by decide) hf_1617
                                                                            replace hf_1618 := hr_1656.at hkt (by decide) (by decide) hf_1618
                                                                            replace hf_1619 := hr_1656.at hkt (by decide) (by decide) hf_1619
                                                                            replace hu := ha_1657.at hk9 (by decide) (by decide) hu
                                                                            replace hfr := hfr.trans (hr_1656.sub (by decide))
                                                                            replace hfa := hfa.trans (ha_1657.sub (by decide))
                                                                            rcases hR_1659 with ⟨hw_1660, rfl⟩ | ⟨hw_1661, rfl⟩
                                                                            · refine jj_iconst (v := 1) C dX3_readSubscriptions_37 (by decide) ?_
                                                                              obtain ⟨qc, gs, hqc⟩ := tt_recv (cx := []) hok_1655 hk0 (by decide) rfl
                                                                              refine tt_callV (rest := []) C (te_accept_01 hl D cA ak h0 hk0 hok_1655) [] [] rfl rfl (by decide) (by decide) (by decide) qc hqc rfl rfl jw_713f4d2af1 jw_b3e457240a jw_58c48ce796 jw_9d546d0b6f jw_0001e2e84f jn_X3_accept rfl (jj_le rfl) (jj_le rfl) (jj_le rfl) (jj_le rfl) (jj_le rfl) dX3_readSubscriptions_38 rfl (fun _ _ _ hX => hX.elim) (fun rx pl_1662 r O_1666 => ?_)
                                                                              obtain ⟨rfl, hok_1663, hr_1664, ha_1665, hR_1667⟩ := O_1666
                                                                              replace hs0 := hr_1664.at hk0 (by decide) (by decide) hs0
                                                                              replace hx0 := hr_1664.at hkt (by decide) (by decide) hx0
                                                                              replace hx2 := hr_1664.at hkt (by decide) (by decide) hx2
                                                                              replace hs1 := hr_1664.at hk0 (by decide) (by decide) hs1
                                                                              replace hsi := hr_1664.at hkb (by decide) (by decide) hsi
                                                                              replace hf_1608 := hr_1664.at hkb (by decide) (by decide) hf_1608
                                                                              replace hf_1617 := hr_1664.at hkt (by decide) (by decide) hf_1617
                                                                              replace hf_1618 := hr_1664.at hkt (by decide) (by decide) hf_1618
                                                                              replace hf_1619 := hr_1664.at hkt (by decide) (by decide) hf_1619
                                                                              replace hu := ha_1665.at hk9 (by decide) (by decide) hu
                                                                              replace hfr := hfr.trans (hr_1664.sub (by decide))
                                                                              replace hfa := hfa.trans (ha_1665.sub (by decide))
                                                                              obtain ⟨hf_1668, rfl⟩ := hR_1667
                                                                              refine jj_if_eqT (tgt := 70) C dX3_readSubscriptions_41 (by decide) (by decide) ?_
                                                                              refine jj_iconst (v := 0) C dX3_readSubscriptions_70 (by decide) ?_
                                                                              exact jj_zret C rfl ⟨[], pl_1662, rfl, rfl, hok_1663, hfr, hfa, (Or.inl ⟨1, n_1615, _, (by decide), hf_1617, hf_1668, (ps_subs.nx ht_37 hkd_38.1 (ps_sub.of (ps_step.ok ht_37 (Or.inr (Or.inr ⟨hw_98, by decide, rfl⟩))) hq_132) (ps_subs.nx ht_171 hkd_172.1 (ps_sub.of (ps_step.ok ht_171 (Or.inr (Or.inr ⟨hw_232, by decide, rfl⟩))) hq_266) (ps_subs.nx ht_305 hkd_306.1 (ps_sub.of (ps_step.ok ht_305 (Or.inr (Or.inr ⟨hw_366, by decide, rfl⟩))) hq_400) (ps_subs.nx ht_439 hkd_440.1 (ps_sub.of (ps_step.ok ht_439 (Or.inr (Or.inr ⟨hw_500, by decide, rfl⟩))) hq_534) (ps_subs.nx ht_573 hkd_574.1 (ps_sub.of (ps_step.ok ht_573 (Or.inr (Or.inr ⟨hw_634, by decide, rfl⟩))) hq_668) (ps_subs.nx ht_707 hkd_708.1 (ps_sub.of (ps_step.ok ht_707 (Or.inr (Or.inr ⟨hw_768, by decide, rfl⟩))) hq_802) (ps_subs.nx ht_841 hkd_842.1 (ps_sub.of (ps_step.ok ht_841 (Or.inr (Or.inr ⟨hw_902, by decide, rfl⟩))) hq_936) (ps_subs.nx ht_975 hkd_976.1 (ps_sub.of (ps_step.ok ht_975 (Or.inr (Or.inr ⟨hw_1036, by decide, rfl⟩))) hq_1070) (ps_subs.nx ht_1109 hkd_1110.1 (ps_sub.of (ps_step.ok ht_1109 (Or.inr (Or.inr ⟨hw_1170, by decide, rfl⟩))) hq_1204) (ps_subs.nx ht_1243 hkd_1244.1 (ps_sub.of (ps_step.ok ht_1243 (Or.inr (Or.inr ⟨hw_1304, by decide, rfl⟩))) hq_1338) (ps_subs.nx ht_1377 hkd_1378.1 (ps_sub.of (ps_step.ok ht_1377 (Or.inr (Or.inr ⟨hw_1438, by decide, rfl⟩))) hq_1472) (ps_subs.nx ht_1511 hkd_1512.1 (ps_sub.of (ps_step.ok ht_1511 (Or.inr (Or.inr ⟨hw_1572, by decide, rfl⟩))) hq_1606) (ps_subs.nx ht_1620 hkd_1621.1 ⟨(1, n_1615, 0), (1, n_1615, 0), (1, n_1615, 0), (ps_step.no ht_1620 (Or.inl ⟨hw_1660, rfl⟩) (by decide)), (ps_step.st (show (1 : Nat) ≠ 0 by decide)), (ps_step.st (show (1 : Nat) ≠ 0 by decide)), (ps_step.st (show (1 : Nat) ≠ 0 by decide))⟩ (ps_subs.er (k := 0) (by decide))))))))))))))), rfl⟩)⟩ dX3_readSubscriptions_71 (jj_le rfl) (jj_le rfl)
                                                                            · exact absurd (hw_1661.one (n := n2) (by decide) (by unfold ps_le; decide) (by omega)).2 hkd_1621.2.1
                                                                          · have hzn_1622 := ht_1627.le (by omega)
                                                                            refine jj_aload_n C dX3_readSubscriptions_15 rfl ?_
                                                                            refine tt_getF C hok_1610 jk_4 0 (by decide) jw_70cd29f103 (t := (2, 10, 0)) hk0 (by decide) rfl rfl hs0 dX3_readSubscriptions_16 ?_
                                                                            refine tt_getF C hok_1610 jk_10 5 (by decide) jw_601d0e39ae (t := (0, (-2147483648), 2147483647)) hkt (by decide) rfl rfl hf_1626 dX3_readSubscriptions_19 ?_
                                                                            refine jj_if_neT (tgt := 27) C dX3_readSubscriptions_22 (by decide) (by decide) ?_
                                                                            refine jj_aload_n C dX3_readSubscriptions_27 rfl ?_
                                                                            refine jj_aload_n C dX3_readSubscriptions_28 rfl ?_
                                                                            refine tt_getF C hok_1610 jk_4 0 (by decide) jw_70cd29f103 (t := (2, 10, 0)) hk0 (by decide) rfl rfl hs0 dX3_readSubscriptions_29 ?_
                                                                            refine jj_ldcs (k := 4) (tx := "subscribe") C dX3_readSubscriptions_32 (by decide +kernel) ?_
                                                                            obtain ⟨qc, gs, hqc⟩ := tt_recv (cx := []) hok_1610 hkt (by decide) rfl
                                                                            refine tt_callV (rest := [.ref h0]) C (te_isWord_subscribe hl D cA ak tk a9 n2 n_1623 n_1622 (3 : Int32) u c hkt hk9 (by omega) (by omega) (by omega) hc ⟨fun q => absurd q (by decide), fun q => absurd q.2 hkd_1628.2.1⟩ hok_1610 hx0 hf_1625 hf_1624 hf_1626 hu) [] [] rfl rfl (by decide) (by decide) (by decide) qc hqc rfl rfl jw_b0fe72c6f4 jw_5e9522a00c jw_73cf9edcb7 jw_a9e7b602dc jw_ce1c1f12e9 jn_X9_isWord rfl (jj_le rfl) (jj_le rfl) (jj_le rfl) (jj_le rfl) (jj_le rfl) dX3_readSubscriptions_34 rfl (fun _ _ _ hX => hX.elim) (fun rx pl_1669 r O_1673 => ?_)
                                                                            obtain ⟨rfl, hok_1670, hr_1671, ha_1672, hR_1674⟩ := O_1673
                                                                            replace hs0 := hr_1671.at hk0 (by decide) (by decide) hs0
                                                                            replace hx0 := hr_1671.at hkt (by decide) (by decide) hx0
                                                                            replace hx2 := hr_1671.at hkt (by decide) (by decide) hx2
                                                                            replace hs1 := hr_1671.at hk0 (by decide) (by decide) hs1
                                                                            replace hsi := hr_1671.at hkb (by decide) (by decide) hsi
                                                                            replace hf_1608 := hr_1671.at hkb (by decide) (by decide) hf_1608
                                                                            replace hf_1624 := hr_1671.at hkt (by decide) (by decide) hf_1624
                                                                            replace hf_1625 := hr_1671.at hkt (by decide) (by decide) hf_1625
                                                                            replace hf_1626 := hr_1671.at hkt (by decide) (by decide) hf_1626
                                                                            replace hu := ha_1672.at hk9 (by decide) (by decide) hu
                                                                            replace hfr := hfr.trans (hr_1671.sub (by decide))
                                                                            replace hfa := hfa.trans (ha_1672.sub (by decide))
                                                                            rcases hR_1674 with ⟨hw_1675, rfl⟩ | ⟨hw_1676, rfl⟩
                                                                            · refine jj_iconst (v := 1) C dX3_readSubscriptions_37 (by decide) ?_
                                                                              obtain ⟨qc, gs, hqc⟩ := tt_recv (cx := []) hok_1670 hk0 (by decide) rfl
                                                                              refine tt_callV (rest := []) C (te_accept_01 hl D cA ak h0 hk0 hok_1670) [] [] rfl rfl (by decide) (by decide) (by decide) qc hqc rfl rfl jw_713f4d2af1 jw_b3e457240a jw_58c48ce796 jw_9d546d0b6f jw_0001e2e84f jn_X3_accept rfl (jj_le rfl) (jj_le rfl) (jj_le rfl) (jj_le rfl) (jj_le rfl) dX3_readSubscriptions_38 rfl (fun _ _ _ hX => hX.elim) (fun rx pl_1677 r O_1681 => ?_)
                                                                              obtain ⟨rfl, hok_1678, hr_1679, ha_1680, hR_1682⟩ := O_1681
                                                                              replace hs0 := hr_1679.at hk0 (by decide) (by decide) hs0
                                                                              replace hx0 := hr_1679.at hkt (by decide) (by decide) hx0
                                                                              replace hx2 := hr_1679.at hkt (by decide) (by decide) hx2
                                                                              replace hs1 := hr_1679.at hk0 (by decide) (by decide) hs1
                                                                              replace hsi := hr_1679.at hkb (by decide) (by decide) hsi
                                                                              replace hf_1608 := hr_1679.at hkb (by decide) (by decide) hf_1608
                                                                              replace hf_1624 := hr_1679.at hkt (by decide) (by decide) hf_1624
                                                                              replace hf_1625 := hr_1679.at hkt (by decide) (by decide) hf_1625
                                                                              replace hf_1626 := hr_1679.at hkt (by decide) (by decide) hf_1626
                                                                              replace hu := ha_1680.at hk9 (by decide) (by decide) hu
                                                                              replace hfr := hfr.trans (hr_1679.sub (by decide))
                                                                              replace hfa := hfa.trans (ha_1680.sub (by decide))
                                                                              obtain ⟨hf_1683, rfl⟩ := hR_1682
                                                                              refine jj_if_eqT (tgt := 70) C dX3_readSubscriptions_41 (by decide) (by decide) ?_
                                                                              refine jj_iconst (v := 0) C dX3_readSubscriptions_70 (by decide) ?_
                                                                              exact jj_zret C rfl ⟨[], pl_1677, rfl, rfl, hok_1678, hfr, hfa, (Or.inl ⟨1, n_1622, _, (by decide), hf_1624, hf_1683, (ps_subs.nx ht_37 hkd_38.1 (ps_sub.of (ps_step.ok ht_37 (Or.inr (Or.inr ⟨hw_98, by decide, rfl⟩))) hq_132) (ps_subs.nx ht_171 hkd_172.1 (ps_sub.of (ps_step.ok ht_171 (Or.inr (Or.inr ⟨hw_232, by decide, rfl⟩))) hq_266) (ps_subs.nx ht_305 hkd_306.1 (ps_sub.of (ps_step.ok ht_305 (Or.inr (Or.inr ⟨hw_366, by decide, rfl⟩))) hq_400) (ps_subs.nx ht_439 hkd_440.1 (ps_sub.of (ps_step.ok ht_439 (Or.inr (Or.inr ⟨hw_500, by decide, rfl⟩))) hq_534) (ps_subs.nx ht_573 hkd_574.1 (ps_sub.of (ps_step.ok ht_573 (Or.inr (Or.inr ⟨hw_634, by decide, rfl⟩))) hq_668) (ps_subs.nx ht_707 hkd_708.1 (ps_sub.of (ps_step.ok ht_707 (Or.inr (Or.inr ⟨hw_768, by decide, rfl⟩))) hq_802) (ps_subs.nx ht_841 hkd_842.1 (ps_sub.of (ps_step.ok ht_841 (Or.inr (Or.inr ⟨hw_902, by decide, rfl⟩))) hq_936) (ps_subs.nx ht_975 hkd_976.1 (ps_sub.of (ps_step.ok ht_975 (Or.inr (Or.inr ⟨hw_1036, by decide, rfl⟩))) hq_1070) (ps_subs.nx ht_1109 hkd_1110.1 (ps_sub.of (ps_step.ok ht_1109 (Or.inr (Or.inr ⟨hw_1170, by decide, rfl⟩))) hq_1204) (ps_subs.nx ht_1243 hkd_1244.1 (ps_sub.of (ps_step.ok ht_1243 (Or.inr (Or.inr ⟨hw_1304, by decide, rfl⟩))) hq_1338) (ps_subs.nx ht_1377 hkd_1378.1 (ps_sub.of (ps_step.ok ht_1377 (Or.inr (Or.inr ⟨hw_1438, by decide, rfl⟩))) hq_1472) (ps_subs.nx ht_1511 hkd_1512.1 (ps_sub.of (ps_step.ok ht_1511 (Or.inr (Or.inr ⟨hw_1572, by decide, rfl⟩))) hq_1606) (ps_subs.nx ht_1627 hkd_1628.1 ⟨(1, n_1622, 0), (1, n_1622, 0), (1, n_1622, 0), (ps_step.no ht_1627 (Or.inl ⟨hw_1675, rfl⟩) (by decide)), (ps_step.st (show (1 : Nat) ≠ 0 by decide)), (ps_step.st (show (1 : Nat) ≠ 0 by decide)), (ps_step.st (show (1 : Nat) ≠ 0 by decide))⟩ (ps_subs.er (k := 0) (by decide))))))))))))))), rfl⟩)⟩ dX3_readSubscriptions_71 (jj_le rfl) (jj_le rfl)
                                                                            · exact absurd (hw_1676.one (n := n2) (by decide) (by unfold ps_le; decide) (by omega)).2 hkd_1628.2.1
                                                                          · have hzn_1629 := ht_1634.le (by omega)
                                                                            have lx_1636 := tt_lo x_1636
                                                                            have ux_1636 := tt_hi x_1636
                                                                            refine jj_aload_n C dX3_readSubscriptions_15 rfl ?_
                                                                            refine tt_getF C hok_1610 jk_4 0 (by decide) jw_70cd29f103 (t := (2, 10, 0)) hk0 (by decide) rfl rfl hs0 dX3_readSubscriptions_16 ?_
                                                                            refine tt_getF C hok_1610 jk_10 5 (by decide) jw_601d0e39ae (t := (0, (-2147483648), 2147483647)) hkt (by decide) rfl rfl hf_1633 dX3_readSubscriptions_19 ?_
                                                                            refine jj_if_neT (tgt := 27) C dX3_readSubscriptions_22 (by decide) (by decide) ?_
                                                                            refine jj_aload_n C dX3_readSubscriptions_27 rfl ?_
                                                                            refine jj_aload_n C dX3_readSubscriptions_28 rfl ?_
                                                                            refine tt_getF C hok_1610 jk_4 0 (by decide) jw_70cd29f103 (t := (2, 10, 0)) hk0 (by decide) rfl rfl hs0 dX3_readSubscriptions_29 ?_
                                                                            refine jj_ldcs (k := 4) (tx := "subscribe") C dX3_readSubscriptions_32 (by decide +kernel) ?_
                                                                            obtain ⟨qc, gs, hqc⟩ := tt_recv (cx := []) hok_1610 hkt (by decide) rfl
                                                                            refine tt_callV (rest := [.ref h0]) C (te_isWord_subscribe hl D cA ak tk a9 n2 n_1630 n_1629 (2 : Int32) u c hkt hk9 (by omega) (by omega) (by omega) hc ⟨fun q => absurd q (by decide), fun q => absurd q.2 hkd_1635.2.1⟩ hok_1610 hx0 hf_1632 hf_1631 hf_1633 hu) [] [] rfl rfl (by decide) (by decide) (by decide) qc hqc rfl rfl jw_b0fe72c6f4 jw_5e9522a00c jw_73cf9edcb7 jw_a9e7b602dc jw_ce1c1f12e9 jn_X9_isWord rfl (jj_le rfl) (jj_le rfl) (jj_le rfl) (jj_le rfl) (jj_le rfl) dX3_readSubscriptions_34 rfl (fun _ _ _ hX => hX.elim) (fun rx pl_1684 r O_1688 => ?_)
                                                                            obtain ⟨rfl, hok_1685, hr_1686, ha_1687, hR_1689⟩ := O_1688
                                                                            replace hs0 := hr_1686.at hk0 (by decide) (by decide) hs0
                                                                            replace hx0 := hr_1686.at hkt (by decide) (by decide) hx0
                                                                            replace hx2 := hr_1686.at hkt (by decide) (by decide) hx2
                                                                            replace hs1 := hr_1686.at hk0 (by decide) (by decide) hs1
                                                                            replace hsi := hr_1686.at hkb (by decide) (by decide) hsi
                                                                            replace hf_1608 := hr_1686.at hkb (by decide) (by decide) hf_1608
                                                                            replace hf_1631 := hr_1686.at hkt (by decide) (by decide) hf_1631
                                                                            replace hf_1632 := hr_1686.at hkt (by decide) (by decide) hf_1632
                                                                            replace hf_1633 := hr_1686.at hkt (by decide) (by decide) hf_1633
                                                                            replace hf_1637 := hr_1686.at hkt (by decide) (by decide) hf_1637
                                                                            replace hu := ha_1687.at hk9 (by decide) (by decide) hu
                                                                            replace hfr := hfr.trans (hr_1686.sub (by decide))
                                                                            replace hfa := hfa.trans (ha_1687.sub (by decide))
                                                                            rcases hR_1689 with ⟨hw_1690, rfl⟩ | ⟨hw_1691, rfl⟩
                                                                            · refine jj_iconst (v := 1) C dX3_readSubscriptions_37 (by decide) ?_
                                                                              obtain ⟨qc, gs, hqc⟩ := tt_recv (cx := []) hok_1685 hk0 (by decide) rfl
                                                                              refine tt_callV (rest := []) C (te_accept_01 hl D cA ak h0 hk0 hok_1685) [] [] rfl rfl (by decide) (by decide) (by decide) qc hqc rfl rfl jw_713f4d2af1 jw_b3e457240a jw_58c48ce796 jw_9d546d0b6f jw_0001e2e84f jn_X3_accept rfl (jj_le rfl) (jj_le rfl) (jj_le rfl) (jj_le rfl) (jj_le rfl) dX3_readSubscriptions_38 rfl (fun _ _ _ hX => hX.elim) (fun rx pl_1692 r O_1696 => ?_)
                                                                              obtain ⟨rfl, hok_1693, hr_1694, ha_1695, hR_1697⟩ := O_1696
                                                                              replace hs0 := hr_1694.at hk0 (by decide) (by decide) hs0
                                                                              replace hx0 := hr_1694.at hkt (by decide) (by decide) hx0
                                                                              replace hx2 := hr_1694.at hkt (by decide) (by decide) hx2
                                                                              replace hs1 := hr_1694.at hk0 (by decide) (by decide) hs1
                                                                              replace hsi := hr_1694.at hkb (by decide) (by decide) hsi
                                                                              replace hf_1608 := hr_1694.at hkb (by decide) (by decide) hf_1608
                                                                              replace hf_1631 := hr_1694.at hkt (by decide) (by decide) hf_1631
                                                                              replace hf_1632 := hr_1694.at hkt (by decide) (by decide) hf_1632
                                                                              replace hf_1633 := hr_1694.at hkt (by decide) (by decide) hf_1633
                                                                              replace hf_1637 := hr_1694.at hkt (by decide) (by decide) hf_1637
                                                                              replace hu := ha_1695.at hk9 (by decide) (by decide) hu
                                                                              replace hfr := hfr.trans (hr_1694.sub (by decide))
                                                                              replace hfa := hfa.trans (ha_1695.sub (by decide))
                                                                              obtain ⟨hf_1698, rfl⟩ := hR_1697
                                                                              refine jj_if_eqT (tgt := 70) C dX3_readSubscriptions_41 (by decide) (by decide) ?_
                                                                              refine jj_iconst (v := 0) C dX3_readSubscriptions_70 (by decide) ?_
                                                                              exact jj_zret C rfl ⟨[], pl_1692, rfl, rfl, hok_1693, hfr, hfa, (Or.inl ⟨1, n_1629, _, (by decide), hf_1631, hf_1698, (ps_subs.nx ht_37 hkd_38.1 (ps_sub.of (ps_step.ok ht_37 (Or.inr (Or.inr ⟨hw_98, by decide, rfl⟩))) hq_132) (ps_subs.nx ht_171 hkd_172.1 (ps_sub.of (ps_step.ok ht_171 (Or.inr (Or.inr ⟨hw_232, by decide, rfl⟩))) hq_266) (ps_subs.nx ht_305 hkd_306.1 (ps_sub.of (ps_step.ok ht_305 (Or.inr (Or.inr ⟨hw_366, by decide, rfl⟩))) hq_400) (ps_subs.nx ht_439 hkd_440.1 (ps_sub.of (ps_step.ok ht_439 (Or.inr (Or.inr ⟨hw_500, by decide, rfl⟩))) hq_534) (ps_subs.nx ht_573 hkd_574.1 (ps_sub.of (ps_step.ok ht_573 (Or.inr (Or.inr ⟨hw_634, by decide, rfl⟩))) hq_668) (ps_subs.nx ht_707 hkd_708.1 (ps_sub.of (ps_step.ok ht_707 (Or.inr (Or.inr ⟨hw_768, by decide, rfl⟩))) hq_802) (ps_subs.nx ht_841 hkd_842.1 (ps_sub.of (ps_step.ok ht_841 (Or.inr (Or.inr ⟨hw_902, by decide, rfl⟩))) hq_936) (ps_subs.nx ht_975 hkd_976.1 (ps_sub.of (ps_step.ok ht_975 (Or.inr (Or.inr ⟨hw_1036, by decide, rfl⟩))) hq_1070) (ps_subs.nx ht_1109 hkd_1110.1 (ps_sub.of (ps_step.ok ht_1109 (Or.inr (Or.inr ⟨hw_1170, by decide, rfl⟩))) hq_1204) (ps_subs.nx ht_1243 hkd_1244.1 (ps_sub.of (ps_step.ok ht_1243 (Or.inr (Or.inr ⟨hw_1304, by decide, rfl⟩))) hq_1338) (ps_subs.nx ht_1377 hkd_1378.1 (ps_sub.of (ps_step.ok ht_1377 (Or.inr (Or.inr ⟨hw_1438, by decide, rfl⟩))) hq_1472) (ps_subs.nx ht_1511 hkd_1512.1 (ps_sub.of (ps_step.ok ht_1511 (Or.inr (Or.inr ⟨hw_1572, by decide, rfl⟩))) hq_1606) (ps_subs.nx ht_1634 hkd_1635.1 ⟨(1, n_1629, 0), (1, n_1629, 0), (1, n_1629, 0), (ps_step.no ht_1634 (Or.inl ⟨hw_1690, rfl⟩) (by decide)), (ps_step.st (show (1 : Nat) ≠ 0 by decide)), (ps_step.st (show (1 : Nat) ≠ 0 by decide)), (ps_step.st (show (1 : Nat) ≠ 0 by decide))⟩ (ps_subs.er (k := 0) (by decide))))))))))))))), rfl⟩)⟩ dX3_readSubscriptions_71 (jj_le rfl) (jj_le rfl)
                                                                            · exact absurd (hw_1691.one (n := n2) (by decide) (by unfold ps_le; decide) (by omega)).2 hkd_1635.2.1
                                                                          · have hzn_1640 := ht_1645.le (by omega)
                                                                            refine jj_aload_n C dX3_readSubscriptions_15 rfl ?_
                                                                            refine tt_getF C hok_1610 jk_4 0 (by decide) jw_70cd29f103 (t := (2, 10, 0)) hk0 (by decide) rfl rfl hs0 dX3_readSubscriptions_16 ?_
                                                                            refine tt_getF C hok_1610 jk_10 5 (by decide) jw_601d0e39ae (t := (0, (-2147483648), 2147483647)) hkt (by decide) rfl rfl hf_1644 dX3_readSubscriptions_19 ?_
                                                                            refine jj_if_neT (tgt := 27) C dX3_readSubscriptions_22 (by decide) (by decide) ?_
                                                                            refine jj_aload_n C dX3_readSubscriptions_27 rfl ?_
                                                                            refine jj_aload_n C dX3_readSubscriptions_28 rfl ?_
                                                                            refine tt_getF C hok_1610 jk_4 0 (by decide) jw_70cd29f103 (t := (2, 10, 0)) hk0 (by decide) rfl rfl hs0 dX3_readSubscriptions_29 ?_
                                                                            refine jj_ldcs (k := 4) (tx := "subscribe") C dX3_readSubscriptions_32 (by decide +kernel) ?_
                                                                            obtain ⟨qc, gs, hqc⟩ := tt_recv (cx := []) hok_1610 hkt (by decide) rfl
                                                                            refine tt_callV (rest := [.ref h0]) C (te_isWord_subscribe hl D cA ak tk a9 n2 n_1641 n_1640 (1 : Int32) u c hkt hk9 (by omega) (by omega) (by omega) hc ⟨fun _ => hkd_1646, fun _ => rfl⟩ hok_1610 hx0 hf_1643 hf_1642 hf_1644 hu) [] [] rfl rfl (by decide) (by decide) (by decide) qc hqc rfl rfl jw_b0fe72c6f4 jw_5e9522a00c jw_73cf9edcb7 jw_a9e7b602dc jw_ce1c1f12e9 jn_X9_isWord rfl (jj_le rfl) (jj_le rfl) (jj_le rfl) (jj_le rfl) (jj_le rfl) dX3_readSubscriptions_34 rfl (fun _ _ _ hX => hX.elim) (fun rx pl_1699 r O_1703 => ?_)
                                                                            obtain ⟨rfl, hok_1700, hr_1701, ha_1702, hR_1704⟩ := O_1703
                                                                            replace hs0 := hr_1701.at hk0 (by decide) (by decide) hs0
                                                                            replace hx0 := hr_1701.at hkt (by decide) (by decide) hx0
                                                                            replace hx2 := hr_1701.at hkt (by decide) (by decide) hx2
                                                                            replace hs1 := hr_1701.at hk0 (by decide) (by decide) hs1
                                                                            replace hsi := hr_1701.at hkb (by decide) (by decide) hsi
                                                                            replace hf_1608 := hr_1701.at hkb (by decide) (by decide) hf_1608
                                                                            replace hf_1642 := hr_1701.at hkt (by decide) (by decide) hf_1642
                                                                            replace hf_1643 := hr_1701.at hkt (by decide) (by decide) hf_1643
                                                                            replace hf_1644 := hr_1701.at hkt (by decide) (by decide) hf_1644
                                                                            replace hu := ha_1702.at hk9 (by decide) (by decide) hu
                                                                            replace hfr := hfr.trans (hr_1701.sub (by decide))
                                                                            replace hfa := hfa.trans (ha_1702.sub (by decide))
                                                                            rcases hR_1704 with ⟨hw_1705, rfl⟩ | ⟨hw_1706, rfl⟩
                                                                            · refine jj_iconst (v := 1) C dX3_readSubscriptions_37 (by decide) ?_
                                                                              obtain ⟨qc, gs, hqc⟩ := tt_recv (cx := []) hok_1700 hk0 (by decide) rfl
                                                                              refine tt_callV (rest := []) C (te_accept_01 hl D cA ak h0 hk0 hok_1700) [] [] rfl rfl (by decide) (by decide) (by decide) qc hqc rfl rfl jw_713f4d2af1 jw_b3e457240a jw_58c48ce796 jw_9d546d0b6f jw_0001e2e84f jn_X3_accept rfl (jj_le rfl) (jj_le rfl) (jj_le rfl) (jj_le rfl) (jj_le rfl) dX3_readSubscriptions_38 rfl (fun _ _ _ hX => hX.elim) (fun rx pl_1707 r O_1711 => ?_)
                                                                              obtain ⟨rfl, hok_1708, hr_1709, ha_1710, hR_1712⟩ := O_1711
                                                                              replace hs0 := hr_1709.at hk0 (by decide) (by decide) hs0
                                                                              replace hx0 := hr_1709.at hkt (by decide) (by decide) hx0
                                                                              replace hx2 := hr_1709.at hkt (by decide) (by decide) hx2
                                                                              replace hs1 := hr_1709.at hk0 (by decide) (by decide) hs1
                                                                              replace hsi := hr_1709.at hkb (by decide) (by decide) hsi
                                                                              replace hf_1608 := hr_1709.at hkb (by decide) (by decide) hf_1608
                                                                              replace hf_1642 := hr_1709.at hkt (by decide) (by decide) hf_1642
                                                                              replace hf_1643 := hr_1709.at hkt (by decide) (by decide) hf_1643
                                                                              replace hf_1644 := hr_1709.at hkt (by decide) (by decide) hf_1644
                                                                              replace hu := ha_1710.at hk9 (by decide) (by decide) hu
                                                                              replace hfr := hfr.trans (hr_1709.sub (by decide))
                                                                              replace hfa := hfa.trans (ha_1710.sub (by decide))
                                                                              obtain ⟨hf_1713, rfl⟩ := hR_1712
                                                                              refine jj_if_eqT (tgt := 70) C dX3_readSubscriptions_41 (by decide) (by decide) ?_
                                                                              refine jj_iconst (v := 0) C dX3_readSubscriptions_70 (by decide) ?_
                                                                              exact jj_zret C rfl ⟨[], pl_1707, rfl, rfl, hok_1708, hfr, hfa, (Or.inl ⟨1, n_1640, _, (by decide), hf_1642, hf_1713, (ps_subs.nx ht_37 hkd_38.1 (ps_sub.of (ps_step.ok ht_37 (Or.inr (Or.inr ⟨hw_98, by decide, rfl⟩))) hq_132) (ps_subs.nx ht_171 hkd_172.1 (ps_sub.of (ps_step.ok ht_171 (Or.inr (Or.inr ⟨hw_232, by decide, rfl⟩))) hq_266) (ps_subs.nx ht_305 hkd_306.1 (ps_sub.of (ps_step.ok ht_305 (Or.inr (Or.inr ⟨hw_366, by decide, rfl⟩))) hq_400) (ps_subs.nx ht_439 hkd_440.1 (ps_sub.of (ps_step.ok ht_439 (Or.inr (Or.inr ⟨hw_500, by decide, rfl⟩))) hq_534) (ps_subs.nx ht_573 hkd_574.1 (ps_sub.of (ps_step.ok ht_573 (Or.inr (Or.inr ⟨hw_634, by decide, rfl⟩))) hq_668) (ps_subs.nx ht_707 hkd_708.1 (ps_sub.of (ps_step.ok ht_707 (Or.inr (Or.inr ⟨hw_768, by decide, rfl⟩))) hq_802) (ps_subs.nx ht_841 hkd_842.1 (ps_sub.of (ps_step.ok ht_841 (Or.inr (Or.inr ⟨hw_902, by decide, rfl⟩))) hq_936) (ps_subs.nx ht_975 hkd_976.1 (ps_sub.of (ps_step.ok ht_975 (Or.inr (Or.inr ⟨hw_1036, by decide, rfl⟩))) hq_1070) (ps_subs.nx ht_1109 hkd_1110.1 (ps_sub.of (ps_step.ok ht_1109 (Or.inr (Or.inr ⟨hw_1170, by decide, rfl⟩))) hq_1204) (ps_subs.nx ht_1243 hkd_1244.1 (ps_sub.of (ps_step.ok ht_1243 (Or.inr (Or.inr ⟨hw_1304, by decide, rfl⟩))) hq_1338) (ps_subs.nx ht_1377 hkd_1378.1 (ps_sub.of (ps_step.ok ht_1377 (Or.inr (Or.inr ⟨hw_1438, by decide, rfl⟩))) hq_1472) (ps_subs.nx ht_1511 hkd_1512.1 (ps_sub.of (ps_step.ok ht_1511 (Or.inr (Or.inr ⟨hw_1572, by decide, rfl⟩))) hq_1606) (ps_subs.nx ht_1645 hkd_1646.1 ⟨(1, n_1640, 0), (1, n_1640, 0), (1, n_1640, 0), (ps_step.no ht_1645 (Or.inl ⟨hw_1705, rfl⟩) (by decide)), (ps_step.st (show (1 : Nat) ≠ 0 by decide)), (ps_step.st (show (1 : Nat) ≠ 0 by decide)), (ps_step.st (show (1 : Nat) ≠ 0 by decide))⟩ (ps_subs.er (k := 0) (by decide))))))))))))))), rfl⟩)⟩ dX3_readSubscriptions_71 (jj_le rfl) (jj_le rfl)
                                                                            · refine jj_iconst (v := 1) C dX3_readSubscriptions_37 (by decide) ?_
                                                                              obtain ⟨qc, gs, hqc⟩ := tt_recv (cx := []) hok_1700 hk0 (by decide) rfl
                                                                              refine tt_callV (rest := []) C (te_accept_11 hl D cA ak h0 hk0 hok_1700) [] [] rfl rfl (by decide) (by decide) (by decide) qc hqc rfl rfl jw_713f4d2af1 jw_b3e457240a jw_58c48ce796 jw_9d546d0b6f jw_0001e2e84f jn_X3_accept rfl (jj_le rfl) (jj_le rfl) (jj_le rfl) (jj_le rfl) (jj_le rfl) dX3_readSubscriptions_38 rfl (fun _ _ _ hX => hX.elim) (fun rx pl_1714 r O_1718 => ?_)
                                                                              obtain ⟨rfl, hok_1715, hr_1716, ha_1717, hR_1719⟩ := O_1718
                                                                              replace hs0 := hr_1716.at hk0 (by decide) (by decide) hs0
                                                                              replace hx0 := hr_1716.at hkt (by decide) (by decide) hx0
                                                                              replace hx2 := hr_1716.at hkt (by decide) (by decide) hx2
                                                                              replace hs1 := hr_1716.at hk0 (by decide) (by decide) hs1
                                                                              replace hsi := hr_1716.at hkb (by decide) (by decide) hsi
                                                                              replace hf_1608 := hr_1716.at hkb (by decide) (by decide) hf_1608
                                                                              replace hf_1642 := hr_1716.at hkt (by decide) (by decide) hf_1642
                                                                              replace hf_1643 := hr_1716.at hkt (by decide) (by decide) hf_1643
                                                                              replace hf_1644 := hr_1716.at hkt (by decide) (by decide) hf_1644
                                                                              replace hu := ha_1717.at hk9 (by decide) (by decide) hu
                                                                              replace hfr := hfr.trans (hr_1716.sub (by decide))
                                                                              replace hfa := hfa.trans (ha_1717.sub (by decide))
                                                                              obtain rfl := hR_1719
                                                                              refine jj_if_eqF (tgt := 70) C dX3_readSubscriptions_41 (by decide) (by decide) ?_
                                                                              refine jj_aload_n C dX3_readSubscriptions_44 rfl ?_
                                                                              refine jj_iload_n C dX3_readSubscriptions_45 rfl ?_
                                                                              refine jj_bipush (v := 12) C dX3_readSubscriptions_46 (by decide) ?_
                                                                              refine jj_icmp_geT (tgt := 55) C dX3_readSubscriptions_48 (by decide) (by decide) ?_
                                                                              refine jj_iconst (v := 0) C dX3_readSubscriptions_55 (by decide) ?_
                                                                              refine jj_iconst (v := 3) C dX3_readSubscriptions_56 (by decide) ?_
                                                                              obtain ⟨qc, gs, hqc⟩ := tt_recv (cx := []) hok_1715 hk0 (by decide) rfl
                                                                              refine tt_callV (rest := []) C (te_accept_03 hl D cA ak h0 hk0 hok_1715) [] [] rfl rfl (by decide) (by decide) (by decide) qc hqc rfl rfl jw_713f4d2af1 jw_b3e457240a jw_58c48ce796 jw_9d546d0b6f jw_0001e2e84f jn_X3_accept rfl (jj_le rfl) (jj_le rfl) (jj_le rfl) (jj_le rfl) (jj_le rfl) dX3_readSubscriptions_57 rfl (fun _ _ _ hX => hX.elim) (fun rx pl_1720 r O_1724 => ?_)
                                                                              obtain ⟨rfl, hok_1721, hr_1722, ha_1723, hR_1725⟩ := O_1724
                                                                              replace hs0 := hr_1722.at hk0 (by decide) (by decide) hs0
                                                                              replace hx0 := hr_1722.at hkt (by decide) (by decide) hx0
                                                                              replace hx2 := hr_1722.at hkt (by decide) (by decide) hx2
                                                                              replace hs1 := hr_1722.at hk0 (by decide) (by decide) hs1
                                                                              replace hsi := hr_1722.at hkb (by decide) (by decide) hsi
                                                                              replace hf_1608 := hr_1722.at hkb (by decide) (by decide) hf_1608
                                                                              replace hf_1642 := hr_1722.at hkt (by decide) (by decide) hf_1642
                                                                              replace hf_1643 := hr_1722.at hkt (by decide) (by decide) hf_1643
                                                                              replace hf_1644 := hr_1722.at hkt (by decide) (by decide) hf_1644
                                                                              replace hu := ha_1723.at hk9 (by decide) (by decide) hu
                                                                              replace hfr := hfr.trans (hr_1722.sub (by decide))
                                                                              replace hfa := hfa.trans (ha_1723.sub (by decide))
                                                                              obtain ⟨hf_1726, rfl⟩ := hR_1725
                                                                              refine jj_if_eqT (tgt := 70) C dX3_readSubscriptions_60 (by decide) (by decide) ?_
                                                                              refine jj_iconst (v := 0) C dX3_readSubscriptions_70 (by decide) ?_
                                                                              exact jj_zret C rfl ⟨[], pl_1720, rfl, rfl, hok_1721, hfr, hfa, (Or.inl ⟨3, n_1640, _, (by decide), hf_1642, hf_1726, (ps_subs.nx ht_37 hkd_38.1 (ps_sub.of (ps_step.ok ht_37 (Or.inr (Or.inr ⟨hw_98, by decide, rfl⟩))) hq_132) (ps_subs.nx ht_171 hkd_172.1 (ps_sub.of (ps_step.ok ht_171 (Or.inr (Or.inr ⟨hw_232, by decide, rfl⟩))) hq_266) (ps_subs.nx ht_305 hkd_306.1 (ps_sub.of (ps_step.ok ht_305 (Or.inr (Or.inr ⟨hw_366, by decide, rfl⟩))) hq_400) (ps_subs.nx ht_439 hkd_440.1 (ps_sub.of (ps_step.ok ht_439 (Or.inr (Or.inr ⟨hw_500, by decide, rfl⟩))) hq_534) (ps_subs.nx ht_573 hkd_574.1 (ps_sub.of (ps_step.ok ht_573 (Or.inr (Or.inr ⟨hw_634, by decide, rfl⟩))) hq_668) (ps_subs.nx ht_707 hkd_708.1 (ps_sub.of (ps_step.ok ht_707 (Or.inr (Or.inr ⟨hw_768, by decide, rfl⟩))) hq_802) (ps_subs.nx ht_841 hkd_842.1 (ps_sub.of (ps_step.ok ht_841 (Or.inr (Or.inr ⟨hw_902, by decide, rfl⟩))) hq_936) (ps_subs.nx ht_975 hkd_976.1 (ps_sub.of (ps_step.ok ht_975 (Or.inr (Or.inr ⟨hw_1036, by decide, rfl⟩))) hq_1070) (ps_subs.nx ht_1109 hkd_1110.1 (ps_sub.of (ps_step.ok ht_1109 (Or.inr (Or.inr ⟨hw_1170, by decide, rfl⟩))) hq_1204) (ps_subs.nx ht_1243 hkd_1244.1 (ps_sub.of (ps_step.ok ht_1243 (Or.inr (Or.inr ⟨hw_1304, by decide, rfl⟩))) hq_1338) (ps_subs.nx ht_1377 hkd_1378.1 (ps_sub.of (ps_step.ok ht_1377 (Or.inr (Or.inr ⟨hw_1438, by decide, rfl⟩))) hq_1472) (ps_subs.nx ht_1511 hkd_1512.1 (ps_sub.of (ps_step.ok ht_1511 (Or.inr (Or.inr ⟨hw_1572, by decide, rfl⟩))) hq_1606) (ps_subs.nx ht_1645 hkd_1646.1 ⟨(3, n_1640, 0), (3, n_1640, 0), (3, n_1640, 0), (ps_step.no ht_1645 (Or.inr (Or.inl ⟨hw_1706, rfl, rfl⟩)) (by decide)), (ps_step.st (show (3 : Nat) ≠ 0 by decide)), (ps_step.st (show (3 : Nat) ≠ 0 by decide)), (ps_step.st (show (3 : Nat) ≠ 0 by decide))⟩ (ps_subs.er (k := 0) (by decide))))))))))))))), rfl⟩)⟩ dX3_readSubscriptions_71 (jj_le rfl) (jj_le rfl)
                                                                          · have hzn_1647 := ht_1652.le (by omega)
                                                                            refine jj_aload_n C dX3_readSubscriptions_15 rfl ?_
                                                                            refine tt_getF C hok_1610 jk_4 0 (by decide) jw_70cd29f103 (t := (2, 10, 0)) hk0 (by decide) rfl rfl hs0 dX3_readSubscriptions_16 ?_
                                                                            refine tt_getF C hok_1610 jk_10 5 (by decide) jw_601d0e39ae (t := (0, (-2147483648), 2147483647)) hkt (by decide) rfl rfl hf_1651 dX3_readSubscriptions_19 ?_
                                                                            refine jj_if_neF (tgt := 27) C dX3_readSubscriptions_22 (by decide) (by decide) ?_
                                                                            refine jj_iconst (v := 1) C dX3_readSubscriptions_25 (by decide) ?_
                                                                            exact jj_zret C rfl ⟨[], pl_1609, rfl, rfl, hok_1610, hfr, hfa, (Or.inr ⟨12, _, (by decide), hf_1608, (ps_subs.nx ht_37 hkd_38.1 (ps_sub.of (ps_step.ok ht_37 (Or.inr (Or.inr ⟨hw_98, by decide, rfl⟩))) hq_132) (ps_subs.nx ht_171 hkd_172.1 (ps_sub.of (ps_step.ok ht_171 (Or.inr (Or.inr ⟨hw_232, by decide, rfl⟩))) hq_266) (ps_subs.nx ht_305 hkd_306.1 (ps_sub.of (ps_step.ok ht_305 (Or.inr (Or.inr ⟨hw_366, by decide, rfl⟩))) hq_400) (ps_subs.nx ht_439 hkd_440.1 (ps_sub.of (ps_step.ok ht_439 (Or.inr (Or.inr ⟨hw_500, by decide, rfl⟩))) hq_534) (ps_subs.nx ht_573 hkd_574.1 (ps_sub.of (ps_step.ok ht_573 (Or.inr (Or.inr ⟨hw_634, by decide, rfl⟩))) hq_668) (ps_subs.nx ht_707 hkd_708.1 (ps_sub.of (ps_step.ok ht_707 (Or.inr (Or.inr ⟨hw_768, by decide, rfl⟩))) hq_802) (ps_subs.nx ht_841 hkd_842.1 (ps_sub.of (ps_step.ok ht_841 (Or.inr (Or.inr ⟨hw_902, by decide, rfl⟩))) hq_936) (ps_subs.nx ht_975 hkd_976.1 (ps_sub.of (ps_step.ok ht_975 (Or.inr (Or.inr ⟨hw_1036, by decide, rfl⟩))) hq_1070) (ps_subs.nx ht_1109 hkd_1110.1 (ps_sub.of (ps_step.ok ht_1109 (Or.inr (Or.inr ⟨hw_1170, by decide, rfl⟩))) hq_1204) (ps_subs.nx ht_1243 hkd_1244.1 (ps_sub.of (ps_step.ok ht_1243 (Or.inr (Or.inr ⟨hw_1304, by decide, rfl⟩))) hq_1338) (ps_subs.nx ht_1377 hkd_1378.1 (ps_sub.of (ps_step.ok ht_1377 (Or.inr (Or.inr ⟨hw_1438, by decide, rfl⟩))) hq_1472) (ps_subs.nx ht_1511 hkd_1512.1 (ps_sub.of (ps_step.ok ht_1511 (Or.inr (Or.inr ⟨hw_1572, by decide, rfl⟩))) hq_1606) (ps_subs.fin (k := 0) ht_1652 hkd_1653))))))))))))), rfl⟩)⟩ dX3_readSubscriptions_26 (jj_le rfl) (jj_le rfl)
                                                                    · have hzn_1513 := ht_1518.le (by omega)
                                                                      refine jj_aload_n C dX3_readSubscriptions_15 rfl ?_
                                                                      refine tt_getF C hok_1476 jk_4 0 (by decide) jw_70cd29f103 (t := (2, 10, 0)) hk0 (by decide) rfl rfl hs0 dX3_readSubscriptions_16 ?_
                                                                      refine tt_getF C hok_1476 jk_10 5 (by decide) jw_601d0e39ae (t := (0, (-2147483648), 2147483647)) hkt (by decide) rfl rfl hf_1517 dX3_readSubscriptions_19 ?_
                                                                      refine jj_if_neF (tgt := 27) C dX3_readSubscriptions_22 (by decide) (by decide) ?_
                                                                      refine jj_iconst (v := 1) C dX3_readSubscriptions_25 (by decide) ?_
                                                                      exact jj_zret C rfl ⟨[], pl_1475, rfl, rfl, hok_1476, hfr, hfa, (Or.inr ⟨11, _, (by decide), hf_1474, (ps_subs.nx ht_37 hkd_38.1 (ps_sub.of (ps_step.ok ht_37 (Or.inr (Or.inr ⟨hw_98, by decide, rfl⟩))) hq_132) (ps_subs.nx ht_171 hkd_172.1 (ps_sub.of (ps_step.ok ht_171 (Or.inr (Or.inr ⟨hw_232, by decide, rfl⟩))) hq_266) (ps_subs.nx ht_305 hkd_306.1 (ps_sub.of (ps_step.ok ht_305 (Or.inr (Or.inr ⟨hw_366, by decide, rfl⟩))) hq_400) (ps_subs.nx ht_439 hkd_440.1 (ps_sub.of (ps_step.ok ht_439 (Or.inr (Or.inr ⟨hw_500, by decide, rfl⟩))) hq_534) (ps_subs.nx ht_573 hkd_574.1 (ps_sub.of (ps_step.ok ht_573 (Or.inr (Or.inr ⟨hw_634, by decide, rfl⟩))) hq_668) (ps_subs.nx ht_707 hkd_708.1 (ps_sub.of (ps_step.ok ht_707 (Or.inr (Or.inr ⟨hw_768, by decide, rfl⟩))) hq_802) (ps_subs.nx ht_841 hkd_842.1 (ps_sub.of (ps_step.ok ht_841 (Or.inr (Or.inr ⟨hw_902, by decide, rfl⟩))) hq_936) (ps_subs.nx ht_975 hkd_976.1 (ps_sub.of (ps_step.ok ht_975 (Or.inr (Or.inr ⟨hw_1036, by decide, rfl⟩))) hq_1070) (ps_subs.nx ht_1109 hkd_1110.1 (ps_sub.of (ps_step.ok ht_1109 (Or.inr (Or.inr ⟨hw_1170, by decide, rfl⟩))) hq_1204) (ps_subs.nx ht_1243 hkd_1244.1 (ps_sub.of (ps_step.ok ht_1243 (Or.inr (Or.inr ⟨hw_1304, by decide, rfl⟩))) hq_1338) (ps_subs.nx ht_1377 hkd_1378.1 (ps_sub.of (ps_step.ok ht_1377 (Or.inr (Or.inr ⟨hw_1438, by decide, rfl⟩))) hq_1472) (ps_subs.fin (k := 0) ht_1518 hkd_1519)))))))))))), rfl⟩)⟩ dX3_readSubscriptions_26 (jj_le rfl) (jj_le rfl)
                                                              · have hzn_1379 := ht_1384.le (by omega)
                                                                refine jj_aload_n C dX3_readSubscriptions_15 rfl ?_
                                                                refine tt_getF C hok_1342 jk_4 0 (by decide) jw_70cd29f103 (t := (2, 10, 0)) hk0 (by decide) rfl rfl hs0 dX3_readSubscriptions_16 ?_
                                                                refine tt_getF C hok_1342 jk_10 5 (by decide) jw_601d0e39ae (t := (0, (-2147483648), 2147483647)) hkt (by decide) rfl rfl hf_1383 dX3_readSubscriptions_19 ?_
                                                                refine jj_if_neF (tgt := 27) C dX3_readSubscriptions_22 (by decide) (by decide) ?_
                                                                refine jj_iconst (v := 1) C dX3_readSubscriptions_25 (by decide) ?_
                                                                exact jj_zret C rfl ⟨[], pl_1341, rfl, rfl, hok_1342, hfr, hfa, (Or.inr ⟨10, _, (by decide), hf_1340, (ps_subs.nx ht_37 hkd_38.1 (ps_sub.of (ps_step.ok ht_37 (Or.inr (Or.inr ⟨hw_98, by decide, rfl⟩))) hq_132) (ps_subs.nx ht_171 hkd_172.1 (ps_sub.of (ps_step.ok ht_171 (Or.inr (Or.inr ⟨hw_232, by decide, rfl⟩))) hq_266) (ps_subs.nx ht_305 hkd_306.1 (ps_sub.of (ps_step.ok ht_305 (Or.inr (Or.inr ⟨hw_366, by decide, rfl⟩))) hq_400) (ps_subs.nx ht_439 hkd_440.1 (ps_sub.of (ps_step.ok ht_439 (Or.inr (Or.inr ⟨hw_500, by decide, rfl⟩))) hq_534) (ps_subs.nx ht_573 hkd_574.1 (ps_sub.of (ps_step.ok ht_573 (Or.inr (Or.inr ⟨hw_634, by decide, rfl⟩))) hq_668) (ps_subs.nx ht_707 hkd_708.1 (ps_sub.of (ps_step.ok ht_707 (Or.inr (Or.inr ⟨hw_768, by decide, rfl⟩))) hq_802) (ps_subs.nx ht_841 hkd_842.1 (ps_sub.of (ps_step.ok ht_841 (Or.inr (Or.inr ⟨hw_902, by decide, rfl⟩))) hq_936) (ps_subs.nx ht_975 hkd_976.1 (ps_sub.of (ps_step.ok ht_975 (Or.inr (Or.inr ⟨hw_1036, by decide, rfl⟩))) hq_1070) (ps_subs.nx ht_1109 hkd_1110.1 (ps_sub.of (ps_step.ok ht_1109 (Or.inr (Or.inr ⟨hw_1170, by decide, rfl⟩))) hq_1204) (ps_subs.nx ht_1243 hkd_1244.1 (ps_sub.of (ps_step.ok ht_1243 (Or.inr (Or.inr ⟨hw_1304, by decide, rfl⟩))) hq_1338) (ps_subs.fin (k := 0) ht_1384 hkd_1385))))))))))), rfl⟩)⟩ dX3_readSubscriptions_26 (jj_le rfl) (jj_le rfl)
                                                        · have hzn_1245 := ht_1250.le (by omega)
                                                          refine jj_aload_n C dX3_readSubscriptions_15 rfl ?_
                                                          refine tt_getF C hok_1208 jk_4 0 (by decide) jw_70cd29f103 (t := (2, 10, 0)) hk0 (by decide) rfl rfl hs0 dX3_readSubscriptions_16 ?_
                                                          refine tt_getF C hok_1208 jk_10 5 (by decide) jw_601d0e39ae (t := (0, (-2147483648), 2147483647)) hkt (by decide) rfl rfl hf_1249 dX3_readSubscriptions_19 ?_
                                                          refine jj_if_neF (tgt := 27) C dX3_readSubscriptions_22 (by decide) (by decide) ?_
                                                          refine jj_iconst (v := 1) C dX3_readSubscriptions_25 (by decide) ?_
                                                          exact jj_zret C rfl ⟨[], pl_1207, rfl, rfl, hok_1208, hfr, hfa, (Or.inr ⟨9, _, (by decide), hf_1206, (ps_subs.nx ht_37 hkd_38.1 (ps_sub.of (ps_step.ok ht_37 (Or.inr (Or.inr ⟨hw_98, by decide, rfl⟩))) hq_132) (ps_subs.nx ht_171 hkd_172.1 (ps_sub.of (ps_step.ok ht_171 (Or.inr (Or.inr ⟨hw_232, by decide, rfl⟩))) hq_266) (ps_subs.nx ht_305 hkd_306.1 (ps_sub.of (ps_step.ok ht_305 (Or.inr (Or.inr ⟨hw_366, by decide, rfl⟩))) hq_400) (ps_subs.nx ht_439 hkd_440.1 (ps_sub.of (ps_step.ok ht_439 (Or.inr (Or.inr ⟨hw_500, by decide, rfl⟩))) hq_534) (ps_subs.nx ht_573 hkd_574.1 (ps_sub.of (ps_step.ok ht_573 (Or.inr (Or.inr ⟨hw_634, by decide, rfl⟩))) hq_668) (ps_subs.nx ht_707 hkd_708.1 (ps_sub.of (ps_step.ok ht_707 (Or.inr (Or.inr ⟨hw_768, by decide, rfl⟩))) hq_802) (ps_subs.nx ht_841 hkd_842.1 (ps_sub.of (ps_step.ok ht_841 (Or.inr (Or.inr ⟨hw_902, by decide, rfl⟩))) hq_936) (ps_subs.nx ht_975 hkd_976.1 (ps_sub.of (ps_step.ok ht_975 (Or.inr (Or.inr ⟨hw_1036, by decide, rfl⟩))) hq_1070) (ps_subs.nx ht_1109 hkd_1110.1 (ps_sub.of (ps_step.ok ht_1109 (Or.inr (Or.inr ⟨hw_1170, by decide, rfl⟩))) hq_1204) (ps_subs.fin (k := 0) ht_1250 hkd_1251)))))))))), rfl⟩)⟩ dX3_readSubscriptions_26 (jj_le rfl) (jj_le rfl)
                                                  · have hzn_1111 := ht_1116.le (by omega)
                                                    refine jj_aload_n C dX3_readSubscriptions_15 rfl ?_
                                                    refine tt_getF C hok_1074 jk_4 0 (by decide) jw_70cd29f103 (t := (2, 10, 0)) hk0 (by decide) rfl rfl hs0 dX3_readSubscriptions_16 ?_
                                                    refine tt_getF C hok_1074 jk_10 5 (by decide) jw_601d0e39ae (t := (0, (-2147483648), 2147483647)) hkt (by decide) rfl rfl hf_1115 dX3_readSubscriptions_19 ?_
                                                    refine jj_if_neF (tgt := 27) C dX3_readSubscriptions_22 (by decide) (by decide) ?_
                                                    refine jj_iconst (v := 1) C dX3_readSubscriptions_25 (by decide) ?_
                                                    exact jj_zret C rfl ⟨[], pl_1073, rfl, rfl, hok_1074, hfr, hfa, (Or.inr ⟨8, _, (by decide), hf_1072, (ps_subs.nx ht_37 hkd_38.1 (ps_sub.of (ps_step.ok ht_37 (Or.inr (Or.inr ⟨hw_98, by decide, rfl⟩))) hq_132) (ps_subs.nx ht_171 hkd_172.1 (ps_sub.of (ps_step.ok ht_171 (Or.inr (Or.inr ⟨hw_232, by decide, rfl⟩))) hq_266) (ps_subs.nx ht_305 hkd_306.1 (ps_sub.of (ps_step.ok ht_305 (Or.inr (Or.inr ⟨hw_366, by decide, rfl⟩))) hq_400) (ps_subs.nx ht_439 hkd_440.1 (ps_sub.of (ps_step.ok ht_439 (Or.inr (Or.inr ⟨hw_500, by decide, rfl⟩))) hq_534) (ps_subs.nx ht_573 hkd_574.1 (ps_sub.of (ps_step.ok ht_573 (Or.inr (Or.inr ⟨hw_634, by decide, rfl⟩))) hq_668) (ps_subs.nx ht_707 hkd_708.1 (ps_sub.of (ps_step.ok ht_707 (Or.inr (Or.inr ⟨hw_768, by decide, rfl⟩))) hq_802) (ps_subs.nx ht_841 hkd_842.1 (ps_sub.of (ps_step.ok ht_841 (Or.inr (Or.inr ⟨hw_902, by decide, rfl⟩))) hq_936) (ps_subs.nx ht_975 hkd_976.1 (ps_sub.of (ps_step.ok ht_975 (Or.inr (Or.inr ⟨hw_1036, by decide, rfl⟩))) hq_1070) (ps_subs.fin (k := 0) ht_1116 hkd_1117))))))))), rfl⟩)⟩ dX3_readSubscriptions_26 (jj_le rfl) (jj_le rfl)
                                            · have hzn_977 := ht_982.le (by omega)
                                              refine jj_aload_n C dX3_readSubscriptions_15 rfl ?_
                                              refine tt_getF C hok_940 jk_4 0 (by decide) jw_70cd29f103 (t := (2, 10, 0)) hk0 (by decide) rfl rfl hs0 dX3_readSubscriptions_16 ?_
                                              refine tt_getF C hok_940 jk_10 5 (by decide) jw_601d0e39ae (t := (0, (-2147483648), 2147483647)) hkt (by decide) rfl rfl hf_981 dX3_readSubscriptions_19 ?_
                                              refine jj_if_neF (tgt := 27) C dX3_readSubscriptions_22 (by decide) (by decide) ?_
                                              refine jj_iconst (v := 1) C dX3_readSubscriptions_25 (by decide) ?_
                                              exact jj_zret C rfl ⟨[], pl_939, rfl, rfl, hok_940, hfr, hfa, (Or.inr ⟨7, _, (by decide), hf_938, (ps_subs.nx ht_37 hkd_38.1 (ps_sub.of (ps_step.ok ht_37 (Or.inr (Or.inr ⟨hw_98, by decide, rfl⟩))) hq_132) (ps_subs.nx ht_171 hkd_172.1 (ps_sub.of (ps_step.ok ht_171 (Or.inr (Or.inr ⟨hw_232, by decide, rfl⟩))) hq_266) (ps_subs.nx ht_305 hkd_306.1 (ps_sub.of (ps_step.ok ht_305 (Or.inr (Or.inr ⟨hw_366, by decide, rfl⟩))) hq_400) (ps_subs.nx ht_439 hkd_440.1 (ps_sub.of (ps_step.ok ht_439 (Or.inr (Or.inr ⟨hw_500, by decide, rfl⟩))) hq_534) (ps_subs.nx ht_573 hkd_574.1 (ps_sub.of (ps_step.ok ht_573 (Or.inr (Or.inr ⟨hw_634, by decide, rfl⟩))) hq_668) (ps_subs.nx ht_707 hkd_708.1 (ps_sub.of (ps_step.ok ht_707 (Or.inr (Or.inr ⟨hw_768, by decide, rfl⟩))) hq_802) (ps_subs.nx ht_841 hkd_842.1 (ps_sub.of (ps_step.ok ht_841 (Or.inr (Or.inr ⟨hw_902, by decide, rfl⟩))) hq_936) (ps_subs.fin (k := 0) ht_982 hkd_983)))))))), rfl⟩)⟩ dX3_readSubscriptions_26 (jj_le rfl) (jj_le rfl)
                                      · have hzn_843 := ht_848.le (by omega)
                                        refine jj_aload_n C dX3_readSubscriptions_15 rfl ?_
                                        refine tt_getF C hok_806 jk_4 0 (by decide) jw_70cd29f103 (t := (2, 10, 0)) hk0 (by decide) rfl rfl hs0 dX3_readSubscriptions_16 ?_
                                        refine tt_getF C hok_806 jk_10 5 (by decide) jw_601d0e39ae (t := (0, (-2147483648), 2147483647)) hkt (by decide) rfl rfl hf_847 dX3_readSubscriptions_19 ?_
                                        refine jj_if_neF (tgt := 27) C dX3_readSubscriptions_22 (by decide) (by decide) ?_
                                        refine jj_iconst (v := 1) C dX3_readSubscriptions_25 (by decide) ?_
                                        exact jj_zret C rfl ⟨[], pl_805, rfl, rfl, hok_806, hfr, hfa, (Or.inr ⟨6, _, (by decide), hf_804, (ps_subs.nx ht_37 hkd_38.1 (ps_sub.of (ps_step.ok ht_37 (Or.inr (Or.inr ⟨hw_98, by decide, rfl⟩))) hq_132) (ps_subs.nx ht_171 hkd_172.1 (ps_sub.of (ps_step.ok ht_171 (Or.inr (Or.inr ⟨hw_232, by decide, rfl⟩))) hq_266) (ps_subs.nx ht_305 hkd_306.1 (ps_sub.of (ps_step.ok ht_305 (Or.inr (Or.inr ⟨hw_366, by decide, rfl⟩))) hq_400) (ps_subs.nx ht_439 hkd_440.1 (ps_sub.of (ps_step.ok ht_439 (Or.inr (Or.inr ⟨hw_500, by decide, rfl⟩))) hq_534) (ps_subs.nx ht_573 hkd_574.1 (ps_sub.of (ps_step.ok ht_573 (Or.inr (Or.inr ⟨hw_634, by decide, rfl⟩))) hq_668) (ps_subs.nx ht_707 hkd_708.1 (ps_sub.of (ps_step.ok ht_707 (Or.inr (Or.inr ⟨hw_768, by decide, rfl⟩))) hq_802) (ps_subs.fin (k := 0) ht_848 hkd_849))))))), rfl⟩)⟩ dX3_readSubscriptions_26 (jj_le rfl) (jj_le rfl)
                                · have hzn_709 := ht_714.le (by omega)
                                  refine jj_aload_n C dX3_readSubscriptions_15 rfl ?_
                                  refine tt_getF C hok_672 jk_4 0 (by decide) jw_70cd29f103 (t := (2, 10, 0)) hk0 (by decide) rfl rfl hs0 dX3_readSubscriptions_16 ?_
                                  refine tt_getF C hok_672 jk_10 5 (by decide) jw_601d0e39ae (t := (0, (-2147483648), 2147483647)) hkt (by decide) rfl rfl hf_713 dX3_readSubscriptions_19 ?_
                                  refine jj_if_neF (tgt := 27) C dX3_readSubscriptions_22 (by decide) (by decide) ?_
                                  refine jj_iconst (v := 1) C dX3_readSubscriptions_25 (by decide) ?_
                                  exact jj_zret C rfl ⟨[], pl_671, rfl, rfl, hok_672, hfr, hfa, (Or.inr ⟨5, _, (by decide), hf_670, (ps_subs.nx ht_37 hkd_38.1 (ps_sub.of (ps_step.ok ht_37 (Or.inr (Or.inr ⟨hw_98, by decide, rfl⟩))) hq_132) (ps_subs.nx ht_171 hkd_172.1 (ps_sub.of (ps_step.ok ht_171 (Or.inr (Or.inr ⟨hw_232, by decide, rfl⟩))) hq_266) (ps_subs.nx ht_305 hkd_306.1 (ps_sub.of (ps_step.ok ht_305 (Or.inr (Or.inr ⟨hw_366, by decide, rfl⟩))) hq_400) (ps_subs.nx ht_439 hkd_440.1 (ps_sub.of (ps_step.ok ht_439 (Or.inr (Or.inr ⟨hw_500, by decide, rfl⟩))) hq_534) (ps_subs.nx ht_573 hkd_574.1 (ps_sub.of (ps_step.ok ht_573 (Or.inr (Or.inr ⟨hw_634, by decide, rfl⟩))) hq_668) (ps_subs.fin (k := 0) ht_714 hkd_715)))))), rfl⟩)⟩ dX3_readSubscriptions_26 (jj_le rfl) (jj_le rfl)
                          · have hzn_575 := ht_580.le (by omega)
                            refine jj_aload_n C dX3_readSubscriptions_15 rfl ?_
                            refine tt_getF C hok_538 jk_4 0 (by decide) jw_70cd29f103 (t := (2, 10, 0)) hk0 (by decide) rfl rfl hs0 dX3_readSubscriptions_16 ?_
                            refine tt_getF C hok_538 jk_10 5 (by decide) jw_601d0e39ae (t := (0, (-2147483648), 2147483647)) hkt (by decide) rfl rfl hf_579 dX3_readSubscriptions_19 ?_
                            refine jj_if_neF (tgt := 27) C dX3_readSubscriptions_22 (by decide) (by decide) ?_
                            refine jj_iconst (v := 1) C dX3_readSubscriptions_25 (by decide) ?_
                            exact jj_zret C rfl ⟨[], pl_537, rfl, rfl, hok_538, hfr, hfa, (Or.inr ⟨4, _, (by decide), hf_536, (ps_subs.nx ht_37 hkd_38.1 (ps_sub.of (ps_step.ok ht_37 (Or.inr (Or.inr ⟨hw_98, by decide, rfl⟩))) hq_132) (ps_subs.nx ht_171 hkd_172.1 (ps_sub.of (ps_step.ok ht_171 (Or.inr (Or.inr ⟨hw_232, by decide, rfl⟩))) hq_266) (ps_subs.nx ht_305 hkd_306.1 (ps_sub.of (ps_step.ok ht_305 (Or.inr (Or.inr ⟨hw_366, by decide, rfl⟩))) hq_400) (ps_subs.nx ht_439 hkd_440.1 (ps_sub.of (ps_step.ok ht_439 (Or.inr (Or.inr ⟨hw_500, by decide, rfl⟩))) hq_534) (ps_subs.fin (k := 0) ht_580 hkd_581))))), rfl⟩)⟩ dX3_readSubscriptions_26 (jj_le rfl) (jj_le rfl)
                    · have hzn_441 := ht_446.le (by omega)
                      refine jj_aload_n C dX3_readSubscriptions_15 rfl ?_
                      refine tt_getF C hok_404 jk_4 0 (by decide) jw_70cd29f103 (t := (2, 10, 0)) hk0 (by decide) rfl rfl hs0 dX3_readSubscriptions_16 ?_
                      refine tt_getF C hok_404 jk_10 5 (by decide) jw_601d0e39ae (t := (0, (-2147483648), 2147483647)) hkt (by decide) rfl rfl hf_445 dX3_readSubscriptions_19 ?_
                      refine jj_if_neF (tgt := 27) C dX3_readSubscriptions_22 (by decide) (by decide) ?_
                      refine jj_iconst (v := 1) C dX3_readSubscriptions_25 (by decide) ?_
                      exact jj_zret C rfl ⟨[], pl_403, rfl, rfl, hok_404, hfr, hfa, (Or.inr ⟨3, _, (by decide), hf_402, (ps_subs.nx ht_37 hkd_38.1 (ps_sub.of (ps_step.ok ht_37 (Or.inr (Or.inr ⟨hw_98, by decide, rfl⟩))) hq_132) (ps_subs.nx ht_171 hkd_172.1 (ps_sub.of (ps_step.ok ht_171 (Or.inr (Or.inr ⟨hw_232, by decide, rfl⟩))) hq_266) (ps_subs.nx ht_305 hkd_306.1 (ps_sub.of (ps_step.ok ht_305 (Or.inr (Or.inr ⟨hw_366, by decide, rfl⟩))) hq_400) (ps_subs.fin (k := 0) ht_446 hkd_447)))), rfl⟩)⟩ dX3_readSubscriptions_26 (jj_le rfl) (jj_le rfl)
              · have hzn_307 := ht_312.le (by omega)
                refine jj_aload_n C dX3_readSubscriptions_15 rfl ?_
                refine tt_getF C hok_270 jk_4 0 (by decide) jw_70cd29f103 (t := (2, 10, 0)) hk0 (by decide) rfl rfl hs0 dX3_readSubscriptions_16 ?_
                refine tt_getF C hok_270 jk_10 5 (by decide) jw_601d0e39ae (t := (0, (-2147483648), 2147483647)) hkt (by decide) rfl rfl hf_311 dX3_readSubscriptions_19 ?_
                refine jj_if_neF (tgt := 27) C dX3_readSubscriptions_22 (by decide) (by decide) ?_
                refine jj_iconst (v := 1) C dX3_readSubscriptions_25 (by decide) ?_
                exact jj_zret C rfl ⟨[], pl_269, rfl, rfl, hok_270, hfr, hfa, (Or.inr ⟨2, _, (by decide), hf_268, (ps_subs.nx ht_37 hkd_38.1 (ps_sub.of (ps_step.ok ht_37 (Or.inr (Or.inr ⟨hw_98, by decide, rfl⟩))) hq_132) (ps_subs.nx ht_171 hkd_172.1 (ps_sub.of (ps_step.ok ht_171 (Or.inr (Or.inr ⟨hw_232, by decide, rfl⟩))) hq_266) (ps_subs.fin (k := 0) ht_312 hkd_313))), rfl⟩)⟩ dX3_readSubscriptions_26 (jj_le rfl) (jj_le rfl)
        · have hzn_173 := ht_178.le (by omega)
          refine jj_aload_n C dX3_readSubscriptions_15 rfl ?_
          refine tt_getF C hok_136 jk_4 0 (by decide) jw_70cd29f103 (t := (2, 10, 0)) hk0 (by decide) rfl rfl hs0 dX3_readSubscriptions_16 ?_
          refine tt_getF C hok_136 jk_10 5 (by decide) jw_601d0e39ae (t := (0, (-2147483648), 2147483647)) hkt (by decide) rfl rfl hf_177 dX3_readSubscriptions_19 ?_
          refine jj_if_neF (tgt := 27) C dX3_readSubscriptions_22 (by decide) (by decide) ?_
          refine jj_iconst (v := 1) C dX3_readSubscriptions_25 (by decide) ?_
          exact jj_zret C rfl ⟨[], pl_135, rfl, rfl, hok_136, hfr, hfa, (Or.inr ⟨1, _, (by decide), hf_134, (ps_subs.nx ht_37 hkd_38.1 (ps_sub.of (ps_step.ok ht_37 (Or.inr (Or.inr ⟨hw_98, by decide, rfl⟩))) hq_132) (ps_subs.fin (k := 0) ht_178 hkd_179)), rfl⟩)⟩ dX3_readSubscriptions_26 (jj_le rfl) (jj_le rfl)
  · have hzn_39 := ht_44.le (by omega)
    refine jj_aload_n C dX3_readSubscriptions_15 rfl ?_
    refine tt_getF C hok_2 jk_4 0 (by decide) jw_70cd29f103 (t := (2, 10, 0)) hk0 (by decide) rfl rfl hs0 dX3_readSubscriptions_16 ?_
    refine tt_getF C hok_2 jk_10 5 (by decide) jw_601d0e39ae (t := (0, (-2147483648), 2147483647)) hkt (by decide) rfl rfl hf_43 dX3_readSubscriptions_19 ?_
    refine jj_if_neF (tgt := 27) C dX3_readSubscriptions_22 (by decide) (by decide) ?_
    refine jj_iconst (v := 1) C dX3_readSubscriptions_25 (by decide) ?_
    exact jj_zret C rfl ⟨[], pl_1, rfl, rfl, hok_2, hfr, hfa, (Or.inr ⟨0, _, (by decide), hsq, (ps_subs.fin (k := 0) ht_44 hkd_45), rfl⟩)⟩ dX3_readSubscriptions_26 (jj_le rfl) (jj_le rfl)
