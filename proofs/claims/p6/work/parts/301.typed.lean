set_option maxHeartbeats 4000000 in
set_option maxRecDepth 100000 in
theorem tc_X10_crystallize_1 {l : Launch} (hl : l.stackTraces = false) (D : va_G) (cA : Nat → ClassId) (ak : (Nat → Nat) × (Nat → Nat)) {Kd : Nat → Nat} (h0 : Nat) (hk0 : Kd h0 = 15) {pl0 : va_W} (hok : tt_ok tt_tk cA Kd pl0) : jj_M l D cA ak yX10_crystallize (.code yX10_crystallize cX10_crystallize 1 (some .long)) 4 110 63 408 ([] ++ pl0) [.ref h0] (tt_O (fun rx pl1 r => ∃ K1 : Nat → Nat, tt_ex Kd K1 ∧ rx = [] ∧ tt_ok tt_tk cA K1 pl1 ∧ tt_fr Kd [(1, 0), (1, 1), (1, 2), (1, 3), (1, 4), (1, 5), (1, 6), (1, 7), (1, 8), (1, 9), (2, 0), (2, 1), (2, 2), (2, 3), (2, 4), (3, 0), (3, 1), (3, 2), (3, 3), (3, 4), (3, 5), (4, 0), (4, 1), (4, 2), (4, 3), (4, 4), (15, 7), (15, 8)] pl0 pl1 ∧ tt_fa Kd [5] pl0 pl1 ∧ ((∃ v : Int64, r = some (.long v))))) (tt_OX (fun _ _ _ => False)) := by
  refine jj_start hl (by decide) jw_ac965d7551 (jj_le rfl) ?_
  intro p e s m args below meth c A hargs hA C hex hmn
  have hfr := tt_fr.refl (K := Kd) (WS := [(1, 0), (1, 1), (1, 2), (1, 3), (1, 4), (1, 5), (1, 6), (1, 7), (1, 8), (1, 9), (2, 0), (2, 1), (2, 2), (2, 3), (2, 4), (3, 0), (3, 1), (3, 2), (3, 3), (3, 4), (3, 5), (4, 0), (4, 1), (4, 2), (4, 3), (4, 4), (15, 7), (15, 8)]) pl0
  have hfa := tt_fa.refl (K := Kd) (WA := [5]) pl0
  refine jj_aload_n C dX10_crystallize_0 rfl ?_
  obtain ⟨qc, gs, hqc⟩ := tt_recv (cx := []) hok hk0 (by decide) rfl
  refine tt_callV (rest := []) C (tc_X10_remember_1 hl D cA ak h0 hk0 hok) [] [] rfl rfl (by decide) (by decide) (by decide) qc hqc rfl rfl jw_0283246098 jw_467be33587 jw_328a25009e jw_6f6d707074 jw_eabf0b0f0c jn_X10_remember rfl (jj_le rfl) (jj_le rfl) (jj_le rfl) (jj_le rfl) (jj_le rfl) dX10_crystallize_1 rfl (fun _ _ _ hX => hX.elim) (fun rx pl_1 r O_4 => ?_)
  obtain ⟨K_8, hx_7, rfl, hok_2, hr_3, hfa9, hR_6⟩ := O_4
  replace hfr := hfr.trans (hr_3.sub (by decide))
  replace hfa := hfa.trans (hfa9.sub (by decide))
  have hk0 := hx_7.kd hk0 (by decide)
  have hx_9 := hx_7
  obtain rfl := hR_6
  refine jj_aload_n C dX10_crystallize_4 rfl ?_
  refine tt_get C hok_2 jk_11 3 (by decide) jw_f82a97e333 (t := (2, 1, 0)) hk0 (by decide) rfl rfl dX10_crystallize_5 (fun v_10 hv_10 hf_11 => ?_)
  obtain ⟨a_12, rfl, ka_12⟩ := tt_vr hv_10
  refine tt_callS (rest := []) C (tc_X2_settleAll_1 hl D cA ak a_12 ka_12 hok_2) [] [] rfl rfl (by decide) (by decide) (by decide) jw_3731182a18 jw_9fa2db52e4 jw_79af3f4029 jw_b11dd9fe50 jn_X2_settleAll rfl (jj_le rfl) (jj_le rfl) (jj_le rfl) (jj_le rfl) (jj_le rfl) dX10_crystallize_8 rfl (fun _ _ _ hX => hX.elim) (fun rx pl_13 r O_16 => ?_)
  obtain ⟨rfl, hok_14, hr_15, hfa9, hR_18⟩ := O_16
  replace hf_11 := hr_15.at hk0 (by decide) (by decide) hf_11
  replace hfr := hfr.transX hx_9 (hr_15.sub (by decide))
  replace hfa := hfa.transX hx_9 (hfa9.sub (by decide))
  obtain ⟨y_21, rfl⟩ := hR_18
  exact jj_lret C ⟨[], pl_13, rfl, K_8, hx_9, rfl, hok_14, hfr, hfa, ⟨y_21, rfl⟩⟩ dX10_crystallize_11 (jj_le rfl) (jj_le rfl)

set_option maxHeartbeats 4000000 in
set_option maxRecDepth 100000 in
theorem tc_X10_merge_1 {l : Launch} (hl : l.stackTraces = false) (D : va_G) (cA : Nat → ClassId) (ak : (Nat → Nat) × (Nat → Nat)) {Kd : Nat → Nat} (h0 : Nat) (hk0 : Kd h0 = 15) {pl0 : va_W} (hok : tt_ok tt_tk cA Kd pl0) : jj_M l D cA ak yX10_merge (.code yX10_merge cX10_merge 1 (some .int)) 4 73 63 408 ([] ++ pl0) [.ref h0] (tt_O (fun rx pl1 r => ∃ K1 : Nat → Nat, tt_ex Kd K1 ∧ rx = [] ∧ tt_ok tt_tk cA K1 pl1 ∧ tt_fr Kd [(1, 0), (1, 1), (1, 2), (1, 3), (1, 4), (1, 5), (1, 6), (1, 7), (1, 8), (1, 9), (2, 0), (2, 1), (2, 2), (2, 3), (2, 4), (3, 0), (3, 1), (3, 2), (3, 3), (3, 4), (3, 5), (4, 0), (4, 1), (4, 2), (4, 3), (4, 4), (15, 7), (15, 8)] pl0 pl1 ∧ tt_fa Kd [5] pl0 pl1 ∧ ((r = some (.int 0)) ∨ (∃ v : Int32, (-2147483648 : Int) ≤ v.toInt ∧ v.toInt ≤ 2147483647 ∧ r = some (.int v))))) (tt_OX (fun _ _ _ => False)) := by
  refine jj_start hl (by decide) jw_ecf0a5f18f (jj_le rfl) ?_
  intro p e s m args below meth c A hargs hA C hex hmn
  have hfr := tt_fr.refl (K := Kd) (WS := [(1, 0), (1, 1), (1, 2), (1, 3), (1, 4), (1, 5), (1, 6), (1, 7), (1, 8), (1, 9), (2, 0), (2, 1), (2, 2), (2, 3), (2, 4), (3, 0), (3, 1), (3, 2), (3, 3), (3, 4), (3, 5), (4, 0), (4, 1), (4, 2), (4, 3), (4, 4), (15, 7), (15, 8)]) pl0
  have hfa := tt_fa.refl (K := Kd) (WA := [5]) pl0
  refine jj_aload_n C dX10_merge_0 rfl ?_
  obtain ⟨qc, gs, hqc⟩ := tt_recv (cx := []) hok hk0 (by decide) rfl
  refine tt_callV (rest := []) C (tc_X10_remember_1 hl D cA ak h0 hk0 hok) [] [] rfl rfl (by decide) (by decide) (by decide) qc hqc rfl rfl jw_0283246098 jw_467be33587 jw_328a25009e jw_6f6d707074 jw_eabf0b0f0c jn_X10_remember rfl (jj_le rfl) (jj_le rfl) (jj_le rfl) (jj_le rfl) (jj_le rfl) dX10_merge_1 rfl (fun _ _ _ hX => hX.elim) (fun rx pl_1 r O_4 => ?_)
  obtain ⟨K_8, hx_7, rfl, hok_2, hr_3, hfa9, hR_6⟩ := O_4
  replace hfr := hfr.trans (hr_3.sub (by decide))
  replace hfa := hfa.trans (hfa9.sub (by decide))
  have hk0 := hx_7.kd hk0 (by decide)
  have hx_9 := hx_7
  obtain rfl := hR_6
  refine jj_aload_n C dX10_merge_4 rfl ?_
  refine tt_get C hok_2 jk_11 3 (by decide) jw_f82a97e333 (t := (2, 1, 0)) hk0 (by decide) rfl rfl dX10_merge_5 (fun v_10 hv_10 hf_11 => ?_)
  obtain ⟨a_12, rfl, ka_12⟩ := tt_vr hv_10
  refine tt_callS (rest := []) C (tc_X2_mergeAll_1 hl D cA ak a_12 ka_12 hok_2) [] [] rfl rfl (by decide) (by decide) (by decide) jw_76cf85b7ab jw_da92a5531b jw_79af3f4029 jw_c94a21e571 jn_X2_mergeAll rfl (jj_le rfl) (jj_le rfl) (jj_le rfl) (jj_le rfl) (jj_le rfl) dX10_merge_8 rfl (fun _ _ _ hX => hX.elim) (fun rx pl_13 r O_16 => ?_)
  obtain ⟨rfl, hok_14, hr_15, hfa9, hR_18⟩ := O_16
  replace hf_11 := hr_15.at hk0 (by decide) (by decide) hf_11
  replace hfr := hfr.transX hx_9 (hr_15.sub (by decide))
  replace hfa := hfa.transX hx_9 (hfa9.sub (by decide))
  rcases hR_18 with rfl | ⟨x_21, lx_21, ux_21, rfl⟩
  · exact jj_iret C ⟨[], pl_13, rfl, K_8, hx_9, rfl, hok_14, hfr, hfa, (Or.inl rfl)⟩ dX10_merge_11 (jj_le rfl) (jj_le rfl)
  · exact jj_iret C ⟨[], pl_13, rfl, K_8, hx_9, rfl, hok_14, hfr, hfa, (Or.inr ⟨x_21, (by first | omega | exact tt_lo _ | exact tt_hi _), (by first | omega | exact tt_lo _ | exact tt_hi _), rfl⟩)⟩ dX10_merge_11 (jj_le rfl) (jj_le rfl)

set_option maxHeartbeats 4000000 in
set_option maxRecDepth 100000 in
theorem tc_X10_runScript_1 {l : Launch} (hl : l.stackTraces = false) (D : va_G) (cA : Nat → ClassId) (ak : (Nat → Nat) × (Nat → Nat)) {Kd : Nat → Nat} (h0 : Nat) (hk0 : Kd h0 = 15) {pl0 : va_W} (hok : tt_ok tt_tk cA Kd pl0) : jj_M l D cA ak yX10_runScript (.code yX10_runScript cX10_runScript 4 (some .int)) 7 155 64 414 ([] ++ pl0) [.ref h0] (tt_O (fun rx pl1 r => ∃ K1 : Nat → Nat, tt_ex Kd K1 ∧ rx = [] ∧ tt_ok tt_tk cA K1 pl1 ∧ tt_fr Kd [(1, 0), (1, 1), (1, 2), (1, 3), (1, 4), (1, 5), (1, 6), (1, 7), (1, 8), (1, 9), (2, 0), (2, 1), (2, 2), (2, 3), (2, 4), (3, 0), (3, 1), (3, 2), (3, 3), (3, 4), (3, 5), (4, 0), (4, 1), (4, 2), (4, 3), (4, 4), (9, 1), (9, 2), (9, 3), (9, 4), (9, 5), (10, 1), (10, 2), (10, 3), (10, 4), (10, 5), (10, 6), (15, 7), (15, 8), (18, 3), (18, 4), (18, 5)] pl0 pl1 ∧ tt_fa Kd [5] pl0 pl1 ∧ ((∃ v : Int32, (-401 : Int) ≤ v.toInt ∧ v.toInt ≤ 400 ∧ r = some (.int v))))) (tt_OX (fun _ _ _ => False)) := by
  refine jj_start hl (by decide) jw_afb4873726 (jj_le rfl) ?_
  intro p e s m args below meth c A hargs hA C hex hmn
  have hfr := tt_fr.refl (K := Kd) (WS := [(1, 0), (1, 1), (1, 2), (1, 3), (1, 4), (1, 5), (1, 6), (1, 7), (1, 8), (1, 9), (2, 0), (2, 1), (2, 2), (2, 3), (2, 4), (3, 0), (3, 1), (3, 2), (3, 3), (3, 4), (3, 5), (4, 0), (4, 1), (4, 2), (4, 3), (4, 4), (9, 1), (9, 2), (9, 3), (9, 4), (9, 5), (10, 1), (10, 2), (10, 3), (10, 4), (10, 5), (10, 6), (15, 7), (15, 8), (18, 3), (18, 4), (18, 5)]) pl0
  have hfa := tt_fa.refl (K := Kd) (WA := [5]) pl0
  refine jj_aload_n C dX10_runScript_0 rfl ?_
  refine tt_get C hok jk_11 0 (by decide) jw_4836d4133c (t := (2, 10, 0)) hk0 (by decide) rfl rfl dX10_runScript_1 (fun v_1 hv_1 hf_2 => ?_)
  obtain ⟨a_3, rfl, ka_3⟩ := tt_vr hv_1
  obtain ⟨qc, gs, hqc⟩ := tt_recv (cx := []) hok ka_3 (by decide) rfl
  refine tt_callV (rest := []) C (tc_X9_takeBuffer_1 hl D cA ak a_3 ka_3 hok) [] [] rfl rfl (by decide) (by decide) (by decide) qc hqc rfl rfl jw_5efda3794a jw_30b807515b jw_13e4836c11 jw_a9e7b602dc jw_e4fa8c07c9 jn_X9_takeBuffer rfl (jj_le rfl) (jj_le rfl) (jj_le rfl) (jj_le rfl) (jj_le rfl) dX10_runScript_4 rfl (fun _ _ _ hX => hX.elim) (fun rx pl_4 r O_7 => ?_)
  obtain ⟨rfl, hok_5, hr_6, hfa9, hR_9⟩ := O_7
  replace hf_2 := hr_6.at hk0 (by decide) (by decide) hf_2
  replace hfr := hfr.trans (hr_6.sub (by decide))
  replace hfa := hfa.trans (hfa9.sub (by decide))
  obtain rfl := hR_9
  refine jj_aload_n C dX10_runScript_7 rfl ?_
  refine tt_get C hok_5 jk_11 4 (by decide) jw_a0e4d790fa (t := (2, 1, 0)) hk0 (by decide) rfl rfl dX10_runScript_8 (fun v_12 hv_12 hf_13 => ?_)
  obtain ⟨a_14, rfl, ka_14⟩ := tt_vr hv_12
  refine jj_aload_n C dX10_runScript_11 rfl ?_
  refine tt_get C hok_5 jk_11 3 (by decide) jw_f82a97e333 (t := (2, 1, 0)) hk0 (by decide) rfl rfl dX10_runScript_12 (fun v_15 hv_15 hf_16 => ?_)
  obtain ⟨a_17, rfl, ka_17⟩ := tt_vr hv_15
  obtain ⟨qc, gs, hqc⟩ := tt_recv (cx := []) hok_5 ka_14 (by decide) rfl
  refine tt_callV (rest := []) C (tc_X0_copyFrom_1 hl D cA ak a_14 a_17 ka_14 ka_17 hok_5) [] [] rfl rfl (by decide) (by decide) (by decide) qc hqc rfl rfl jw_4d0cb05860 jw_8aa1bdb2cc jw_ac98d74d03 jw_7d25d4fd32 jw_58241735d3 jn_X0_copyFrom rfl (jj_le rfl) (jj_le rfl) (jj_le rfl) (jj_le rfl) (jj_le rfl) dX10_runScript_15 rfl (fun _ _ _ hX => hX.elim) (fun rx pl_18 r O_21 => ?_)
  obtain ⟨rfl, hok_19, hr_20, hfa9, hR_23⟩ := O_21
  replace hf_2 := hr_20.at hk0 (by decide) (by decide) hf_2
  replace hf_13 := hr_20.at hk0 (by decide) (by decide) hf_13
  replace hf_16 := hr_20.at hk0 (by decide) (by decide) hf_16
  replace hfr := hfr.trans (hr_20.sub (by decide))
  replace hfa := hfa.trans (hfa9.sub (by decide))
  obtain rfl := hR_23
  refine jj_new (wt := []) C jk_8 jw_dcae64b9ab jw_bbdab67eb7 jw_ab600d7316 jd_8 (jj_le rfl) (jj_le rfl) dX10_runScript_18 (fun q_26 => ?_)
  refine tt_swp rfl ?_
  refine jj_dup C dX10_runScript_21 rfl ?_
  refine jj_aload_n C dX10_runScript_22 rfl ?_
  refine tt_getF C hok_19 jk_11 0 (by decide) jw_4836d4133c (t := (2, 10, 0)) hk0 (by decide) rfl rfl hf_2 dX10_runScript_23 ?_
  refine jj_aload_n C dX10_runScript_26 rfl ?_
  refine tt_getF C hok_19 jk_11 4 (by decide) jw_a0e4d790fa (t := (2, 1, 0)) hk0 (by decide) rfl rfl hf_13 dX10_runScript_27 ?_
  refine jj_aload_n C dX10_runScript_30 rfl ?_
  refine tt_get C hok_19 jk_11 5 (by decide) jw_34b8702fe2 (t := (2, 9, 0)) hk0 (by decide) rfl rfl dX10_runScript_31 (fun v_27 hv_27 hf_28 => ?_)
  obtain ⟨a_29, rfl, ka_29⟩ := tt_vr hv_27
  refine tt_callI0 (rest := [.ref q_26]) C (ct_X7_init_1 hl D cA ak q_26 a_3 a_14 a_29) [0] [] rfl rfl (by decide) (by decide) (by decide) jw_88ef7d888c jw_61caa2835f jw_ab600d7316 jw_05338e0863 rfl jn_X7_init rfl (jj_le rfl) (jj_le rfl) (jj_le rfl) (jj_le rfl) (jj_le rfl) dX10_runScript_34 rfl (fun w1 r hO => ?_)
  obtain ⟨rfl, rfl⟩ := hO
  refine tt_apd rfl ?_
  refine tl_prom (k := 18) [] rfl hok_19 (fun K1 hz _ => tt_Eo (fts := [(2, 10, 0), (2, 1, 0), (2, 9, 0), (0, (-2147483648), 2147483647), (0, (-2147483648), 2147483647), (0, (-2147483648), 2147483647)]) rfl ⟨tt_rv (hz.kd ka_3 (by decide)), tt_rv (hz.kd ka_14 (by decide)), tt_rv (hz.kd ka_29 (by decide)), (tt_ia _), (tt_ia _), (tt_ia _), trivial⟩) (fun K_30 pl_31 hok_32 hx_34 kq_26 tr tr2 tl => ?_)
  replace hf_2 := tr _ _ _ hf_2
  replace hf_13 := tr _ _ _ hf_13
  replace hf_16 := tr _ _ _ hf_16
  replace hf_28 := tr _ _ _ hf_28
  replace hfr := hfr.arr tr
  replace hfa := hfa.all tl
  have hk0 := hx_34.kd hk0 (by decide)
  have ka_3 := hx_34.kd ka_3 (by decide)
  have ka_14 := hx_34.kd ka_14 (by decide)
  have ka_17 := hx_34.kd ka_17 (by decide)
  have ka_29 := hx_34.kd ka_29 (by decide)
  have hx_33 := hx_34
  have hf_35 := tr2 _ 0 _ _ rfl rfl
  have hf_36 := tr2 _ 1 _ _ rfl rfl
  have hf_37 := tr2 _ 2 _ _ rfl rfl
  have hf_38 := tr2 _ 3 _ _ rfl rfl
  have hf_39 := tr2 _ 4 _ _ rfl rfl
  have hf_40 := tr2 _ 5 _ _ rfl rfl
  refine jj_astore_n C dX10_runScript_37 (by decide) rfl ?_
  refine jj_iconst (v := 0) C dX10_runScript_38 (by decide) ?_
  refine jj_istore_n C dX10_runScript_39 (by decide) rfl ?_
  refine jj_aload_n C dX10_runScript_40 rfl ?_
  refine tt_getF C hok_32 jk_11 0 (by decide) jw_4836d4133c (t := (2, 10, 0)) hk0 (by decide) rfl rfl hf_2 dX10_runScript_41 ?_
  obtain ⟨qc, gs, hqc⟩ := tt_recv (cx := []) hok_32 ka_3 (by decide) rfl
  refine tt_callV (rest := []) C (tc_X9_advance_1 hl D cA ak a_3 ka_3 hok_32) [] [] rfl rfl (by decide) (by decide) (by decide) qc hqc rfl rfl jw_e348f4fe02 jw_37f6ee43e0 jw_46baf1fc7b jw_a9e7b602dc jw_0d4db63612 jn_X9_advance rfl (jj_le rfl) (jj_le rfl) (jj_le rfl) (jj_le rfl) (jj_le rfl) dX10_runScript_44 rfl (fun _ _ _ hX => hX.elim) (fun rx pl_41 r O_44 => ?_)
  obtain ⟨rfl, hok_42, hr_43, hfa9, hR_46⟩ := O_44
  replace hf_2 := hr_43.at hk0 (by decide) (by decide) hf_2
  replace hf_13 := hr_43.at hk0 (by decide) (by decide) hf_13
  replace hf_16 := hr_43.at hk0 (by decide) (by decide) hf_16
  replace hf_28 := hr_43.at hk0 (by decide) (by decide) hf_28
  replace hf_35 := hr_43.at kq_26 (by decide) (by decide) hf_35
  replace hf_36 := hr_43.at kq_26 (by decide) (by decide) hf_36
  replace hf_37 := hr_43.at kq_26 (by decide) (by decide) hf_37
  replace hf_38 := hr_43.at kq_26 (by decide) (by decide) hf_38
  replace hf_39 := hr_43.at kq_26 (by decide) (by decide) hf_39
  replace hf_40 := hr_43.at kq_26 (by decide) (by decide) hf_40
  replace hfr := hfr.transX hx_33 (hr_43.sub (by decide))
  replace hfa := hfa.transX hx_33 (hfa9.sub (by decide))
  obtain rfl := hR_46
  have hL_49 : ∀ (N : Nat) (pl : va_W) (x_50 : Int32), True → tt_ok tt_tk cA K_30 pl → tt_fr Kd [(1, 0), (1, 1), (1, 2), (1, 3), (1, 4), (1, 5), (1, 6), (1, 7), (1, 8), (1, 9), (2, 0), (2, 1), (2, 2), (2, 3), (2, 4), (3, 0), (3, 1), (3, 2), (3, 3), (3, 4), (3, 5), (4, 0), (4, 1), (4, 2), (4, 3), (4, 4), (9, 1), (9, 2), (9, 3), (9, 4), (9, 5), (10, 1), (10, 2), (10, 3), (10, 4), (10, 5), (10, 6), (15, 7), (15, 8), (18, 3), (18, 4), (18, 5)] pl0 pl → tt_fa Kd [5] pl0 pl → tt_at pl h0 0 (.ref a_3) → tt_at pl h0 4 (.ref a_14) → tt_at pl h0 3 (.ref a_17) → tt_at pl h0 5 (.ref a_29) → tt_at pl q_26 0 (.ref a_3) → tt_at pl q_26 1 (.ref a_14) → tt_at pl q_26 2 (.ref a_29) → (0 : Int) ≤ x_50.toInt → x_50.toInt ≤ 400 → (2147483648 - x_50.toInt ≤ (N : Int)) → jj_J p l e (jj_rm 7 155 64 414) s m args below meth c 4 A (vx_MQ below (jj_q D A (tt_O (fun rx pl1 r => ∃ K1 : Nat → Nat, tt_ex Kd K1 ∧ rx = [] ∧ tt_ok tt_tk cA K1 pl1 ∧ tt_fr Kd [(1, 0), (1, 1), (1, 2), (1, 3), (1, 4), (1, 5), (1, 6), (1, 7), (1, 8), (1, 9), (2, 0), (2, 1), (2, 2), (2, 3), (2, 4), (3, 0), (3, 1), (3, 2), (3, 3), (3, 4), (3, 5), (4, 0), (4, 1), (4, 2), (4, 3), (4, 4), (9, 1), (9, 2), (9, 3), (9, 4), (9, 5), (10, 1), (10, 2), (10, 3), (10, 4), (10, 5), (10, 6), (15, 7), (15, 8), (18, 3), (18, 4), (18, 5)] pl0 pl1 ∧ tt_fa Kd [5] pl0 pl1 ∧ ((∃ v : Int32, (-401 : Int) ≤ v.toInt ∧ v.toInt ≤ 400 ∧ r = some (.int v)))))) (jj_x D A (tt_OX (fun _ _ _ => False))) args s 64 414 A) (jj_X D A ([] ++ pl)) 1 6 47 [(2, .int x_50), (1, .ref q_26), (0, .ref h0)] [] := by
    intro NL_49
    induction NL_49 with
    | zero => intro pl x_50 _ hok hfr hfa hf_51 hf_52 hf_53 hf_54 hf_55 hf_56 hf_57 lx_50 ux_50 hNL_49; exfalso; omega
    | succ NL_49 ihL_49 =>
      intro pl x_50 _ hok hfr hfa hf_51 hf_52 hf_53 hf_54 hf_55 hf_56 hf_57 lx_50 ux_50 hNL_49
      replace ihL_49 := fun pl x_50 h1 => ihL_49 pl x_50 trivial h1
      refine jj_aload_n C dX10_runScript_47 rfl ?_
      refine tt_getF C hok jk_11 0 (by decide) jw_4836d4133c (t := (2, 10, 0)) hk0 (by decide) rfl rfl hf_51 dX10_runScript_48 ?_
      refine tt_get C hok jk_10 5 (by decide) jw_cd2663a0ff (t := (0, (-2147483648), 2147483647)) ka_3 (by decide) rfl rfl dX10_runScript_51 (fun v_58 hv_58 hf_59 => ?_)
      obtain ⟨x_60, rfl, lx_60, ux_60⟩ := tt_vi hv_58
      refine jj_if_eq (tgt := 113) C dX10_runScript_54 (by decide) (fun c_61 => ?_) (fun c_61 => ?_)
      · have z_c_61 := jc_eq (a := (x_60).toInt) (b := (0)) c_61 rfl (by decide)
        refine jj_aload_n C dX10_runScript_113 rfl ?_
        obtain ⟨qc, gs, hqc⟩ := tt_recv (cx := []) hok hk0 (by decide) rfl
        refine tt_callV (rest := []) C (tc_X10_remember_1 hl D cA ak h0 hk0 hok) [] [] rfl rfl (by decide) (by decide) (by decide) qc hqc rfl rfl jw_0283246098 jw_467be33587 jw_328a25009e jw_6f6d707074 jw_eabf0b0f0c jn_X10_remember rfl (jj_le rfl) (jj_le rfl) (jj_le rfl) (jj_le rfl) (jj_le rfl) dX10_runScript_114 rfl (fun _ _ _ hX => hX.elim) (fun rx pl_62 r O_65 => ?_)
        obtain ⟨K_69, hx_68, rfl, hok_63, hr_64, hfa9, hR_67⟩ := O_65
        replace hf_51 := hr_64.at hk0 (by decide) (by decide) hf_51
        replace hf_52 := hr_64.at hk0 (by decide) (by decide) hf_52
        replace hf_53 := hr_64.at hk0 (by decide) (by decide) hf_53
        replace hf_54 := hr_64.at hk0 (by decide) (by decide) hf_54
        replace hf_55 := hr_64.at kq_26 (by decide) (by decide) hf_55
        replace hf_56 := hr_64.at kq_26 (by decide) (by decide) hf_56
        replace hf_57 := hr_64.at kq_26 (by decide) (by decide) hf_57
        replace hf_59 := hr_64.at ka_3 (by decide) (by decide) hf_59
        replace hfr := hfr.transX hx_33 (hr_64.sub (by decide))
        replace hfa := hfa.transX hx_33 (hfa9.sub (by decide))
        have hk0 := hx_68.kd hk0 (by decide)
        have ka_3 := hx_68.kd ka_3 (by decide)
        have ka_14 := hx_68.kd ka_14 (by decide)
        have ka_17 := hx_68.kd ka_17 (by decide)
        have ka_29 := hx_68.kd ka_29 (by decide)
        have kq_26 := hx_68.kd kq_26 (by decide)
        have hx_70 := hx_33.trans hx_68
        obtain rfl := hR_67
        refine jj_aload_n C dX10_runScript_117 rfl ?_
        refine tt_getF C hok_63 jk_11 3 (by decide) jw_f82a97e333 (t := (2, 1, 0)) hk0 (by decide) rfl rfl hf_53 dX10_runScript_118 ?_
        refine jj_aload_n C dX10_runScript_121 rfl ?_
        refine tt_getF C hok_63 jk_11 4 (by decide) jw_a0e4d790fa (t := (2, 1, 0)) hk0 (by decide) rfl rfl hf_52 dX10_runScript_122 ?_
        obtain ⟨qc, gs, hqc⟩ := tt_recv (cx := []) hok_63 ka_17 (by decide) rfl
        refine tt_callV (rest := []) C (tc_X0_copyFrom_1 hl D cA ak a_17 a_14 ka_17 ka_14 hok_63) [] [] rfl rfl (by decide) (by decide) (by decide) qc hqc rfl rfl jw_4d0cb05860 jw_8aa1bdb2cc jw_ac98d74d03 jw_7d25d4fd32 jw_58241735d3 jn_X0_copyFrom rfl (jj_le rfl) (jj_le rfl) (jj_le rfl) (jj_le rfl) (jj_le rfl) dX10_runScript_125 rfl (fun _ _ _ hX => hX.elim) (fun rx pl_71 r O_74 => ?_)
        obtain ⟨rfl, hok_72, hr_73, hfa9, hR_76⟩ := O_74
        replace hf_51 := hr_73.at hk0 (by decide) (by decide) hf_51
        replace hf_52 := hr_73.at hk0 (by decide) (by decide) hf_52
        replace hf_53 := hr_73.at hk0 (by decide) (by decide) hf_53
        replace hf_54 := hr_73.at hk0 (by decide) (by decide) hf_54
        replace hf_55 := hr_73.at kq_26 (by decide) (by decide) hf_55
        replace hf_56 := hr_73.at kq_26 (by decide) (by decide) hf_56
        replace hf_57 := hr_73.at kq_26 (by decide) (by decide) hf_57
        replace hf_59 := hr_73.at ka_3 (by decide) (by decide) hf_59
        replace hfr := hfr.transX hx_70 (hr_73.sub (by decide))
        replace hfa := hfa.transX hx_70 (hfa9.sub (by decide))
        obtain rfl := hR_76
        refine jj_iload_n C dX10_runScript_128 rfl ?_
        exact jj_iret C ⟨[], pl_71, rfl, K_69, hx_70, rfl, hok_72, hfr, hfa, ⟨x_50, (by first | omega | exact tt_lo _ | exact tt_hi _), (by first | omega | exact tt_lo _ | exact tt_hi _), rfl⟩⟩ dX10_runScript_129 (jj_le rfl) (jj_le rfl)
      · have z_c_61 := jc_neq (a := (x_60).toInt) (b := (0)) c_61 rfl (by decide)
        refine jj_iload_n C dX10_runScript_57 rfl ?_
        refine jj_sipush (v := 400) C dX10_runScript_58 (by decide) ?_
        refine jj_icmp_ge (tgt := 113) C dX10_runScript_61 (by decide) (fun c_79 => ?_) (fun c_79 => ?_)
        · have z_c_79 := jc_le (a := (400)) (b := (x_50).toInt) c_79 (by decide) rfl
          refine jj_aload_n C dX10_runScript_113 rfl ?_
          obtain ⟨qc, gs, hqc⟩ := tt_recv (cx := []) hok hk0 (by decide) rfl
          refine tt_callV (rest := []) C (tc_X10_remember_1 hl D cA ak h0 hk0 hok) [] [] rfl rfl (by decide) (by decide) (by decide) qc hqc rfl rfl jw_0283246098 jw_467be33587 jw_328a25009e jw_6f6d707074 jw_eabf0b0f0c jn_X10_remember rfl (jj_le rfl) (jj_le rfl) (jj_le rfl) (jj_le rfl) (jj_le rfl) dX10_runScript_114 rfl (fun _ _ _ hX => hX.elim) (fun rx pl_80 r O_83 => ?_)
          obtain ⟨K_87, hx_86, rfl, hok_81, hr_82, hfa9, hR_85⟩ := O_83
          replace hf_51 := hr_82.at hk0 (by decide) (by decide) hf_51
          replace hf_52 := hr_82.at hk0 (by decide) (by decide) hf_52
          replace hf_53 := hr_82.at hk0 (by decide) (by decide) hf_53
          replace hf_54 := hr_82.at hk0 (by decide) (by decide) hf_54
          replace hf_55 := hr_82.at kq_26 (by decide) (by decide) hf_55
          replace hf_56 := hr_82.at kq_26 (by decide) (by decide) hf_56
          replace hf_57 := hr_82.at kq_26 (by decide) (by decide) hf_57
          replace hf_59 := hr_82.at ka_3 (by decide) (by decide) hf_59
          replace hfr := hfr.transX hx_33 (hr_82.sub (by decide))
          replace hfa := hfa.transX hx_33 (hfa9.sub (by decide))
          have hk0 := hx_86.kd hk0 (by decide)
          have ka_3 := hx_86.kd ka_3 (by decide)
          have ka_14 := hx_86.kd ka_14 (by decide)
          have ka_17 := hx_86.kd ka_17 (by decide)
          have ka_29 := hx_86.kd ka_29 (by decide)
          have kq_26 := hx_86.kd kq_26 (by decide)
          have hx_88 := hx_33.trans hx_86
          obtain rfl := hR_85
          refine jj_aload_n C dX10_runScript_117 rfl ?_
          refine tt_getF C hok_81 jk_11 3 (by decide) jw_f82a97e333 (t := (2, 1, 0)) hk0 (by decide) rfl rfl hf_53 dX10_runScript_118 ?_
          refine jj_aload_n C dX10_runScript_121 rfl ?_
          refine tt_getF C hok_81 jk_11 4 (by decide) jw_a0e4d790fa (t := (2, 1, 0)) hk0 (by decide) rfl rfl hf_52 dX10_runScript_122 ?_
          obtain ⟨qc, gs, hqc⟩ := tt_recv (cx := []) hok_81 ka_17 (by decide) rfl
          refine tt_callV (rest := []) C (tc_X0_copyFrom_1 hl D cA ak a_17 a_14 ka_17 ka_14 hok_81) [] [] rfl rfl (by decide) (by decide) (by decide) qc hqc rfl rfl jw_4d0cb05860 jw_8aa1bdb2cc jw_ac98d74d03 jw_7d25d4fd32 jw_58241735d3 jn_X0_copyFrom rfl (jj_le rfl) (jj_le rfl) (jj_le rfl) (jj_le rfl) (jj_le rfl) dX10_runScript_125 rfl (fun _ _ _ hX => hX.elim) (fun rx pl_89 r O_92 => ?_)
          obtain ⟨rfl, hok_90, hr_91, hfa9, hR_94⟩ := O_92
          replace hf_51 := hr_91.at hk0 (by decide) (by decide) hf_51
          replace hf_52 := hr_91.at hk0 (by decide) (by decide) hf_52
          replace hf_53 := hr_91.at hk0 (by decide) (by decide) hf_53
          replace hf_54 := hr_91.at hk0 (by decide) (by decide) hf_54
          replace hf_55 := hr_91.at kq_26 (by decide) (by decide) hf_55
          replace hf_56 := hr_91.at kq_26 (by decide) (by decide) hf_56
          replace hf_57 := hr_91.at kq_26 (by decide) (by decide) hf_57
          replace hf_59 := hr_91.at ka_3 (by decide) (by decide) hf_59
          replace hfr := hfr.transX hx_88 (hr_91.sub (by decide))
          replace hfa := hfa.transX hx_88 (hfa9.sub (by decide))
          obtain rfl := hR_94
          refine jj_iload_n C dX10_runScript_128 rfl ?_
          exact jj_iret C ⟨[], pl_89, rfl, K_87, hx_88, rfl, hok_90, hfr, hfa, ⟨x_50, (by first | omega | exact tt_lo _ | exact tt_hi _), (by first | omega | exact tt_lo _ | exact tt_hi _), rfl⟩⟩ dX10_runScript_129 (jj_le rfl) (jj_le rfl)
        · have z_c_79 := jc_nle (a := (400)) (b := (x_50).toInt) c_79 (by decide) rfl
          refine jj_aload_n C dX10_runScript_64 rfl ?_
          refine tt_getF C hok jk_11 0 (by decide) jw_4836d4133c (t := (2, 10, 0)) hk0 (by decide) rfl rfl hf_51 dX10_runScript_65 ?_
          refine tt_get C hok jk_10 4 (by decide) jw_26ab74fd32 (t := (0, 0, 400)) ka_3 (by decide) rfl rfl dX10_runScript_68 (fun v_97 hv_97 hf_98 => ?_)
          obtain ⟨x_99, rfl, lx_99, ux_99⟩ := tt_vi hv_97
          refine jj_istore_n C dX10_runScript_71 (by decide) rfl ?_
          refine jj_aload_n C dX10_runScript_72 rfl ?_
          obtain ⟨qc, gs, hqc⟩ := tt_recv (cx := []) hok kq_26 (by decide) rfl
          refine tt_callV (rest := []) C (tc_X7_readOperation_1 hl D cA ak q_26 kq_26 hok) [] [] rfl rfl (by decide) (by decide) (by decide) qc hqc rfl rfl jw_94b317b503 jw_f3e3f3c0e3 jw_c9488e7a7e jw_ab600d7316 jw_da6eced28d jn_X7_readOperation rfl (jj_le rfl) (jj_le rfl) (jj_le rfl) (jj_le rfl) (jj_le rfl) dX10_runScript_73 rfl (fun _ _ _ hX => hX.elim) (fun rx pl_100 r O_103 => ?_)
          obtain ⟨rfl, hok_101, hr_102, hfa9, hR_105⟩ := O_103
          replace hf_51 := hr_102.at hk0 (by decide) (by decide) hf_51
          replace hf_52 := hr_102.at hk0 (by decide) (by decide) hf_52
          replace hf_53 := hr_102.at hk0 (by decide) (by decide) hf_53
          replace hf_54 := hr_102.at hk0 (by decide) (by decide) hf_54
          replace hf_55 := hr_102.at kq_26 (by decide) (by decide) hf_55
          replace hf_56 := hr_102.at kq_26 (by decide) (by decide) hf_56
          replace hf_57 := hr_102.at kq_26 (by decide) (by decide) hf_57
          replace hfr := hfr.transX hx_33 (hr_102.sub (by decide))
          replace hfa := hfa.transX hx_33 (hfa9.sub (by decide))
          rcases hR_105 with rfl | rfl
          · refine jj_if_neF (tgt := 89) C dX10_runScript_76 (by decide) (by decide) ?_
            refine jj_iconst (v := (-1)) C dX10_runScript_79 (by decide) ?_
            refine jj_aload_n C dX10_runScript_80 rfl ?_
            refine tt_getF C hok_101 jk_11 0 (by decide) jw_4836d4133c (t := (2, 10, 0)) hk0 (by decide) rfl rfl hf_51 dX10_runScript_81 ?_
            refine tt_get C hok_101 jk_10 4 (by decide) jw_26ab74fd32 (t := (0, 0, 400)) ka_3 (by decide) rfl rfl dX10_runScript_84 (fun v_108 hv_108 hf_109 => ?_)
            obtain ⟨x_110, rfl, lx_110, ux_110⟩ := tt_vi hv_108
            obtain ⟨x_111, ex_111, vx_111⟩ := tt_isub (x := ((-1) : Int32)) (y := x_110) (a := (-1)) (by decide) (b := x_110.toInt) rfl (by omega) (by omega)
            refine jj_isub (v := x_111) C dX10_runScript_87 ex_111 ?_
            exact jj_iret C ⟨[], pl_100, rfl, K_30, hx_33, rfl, hok_101, hfr, hfa, ⟨x_111, (by first | omega | exact tt_lo _ | exact tt_hi _), (by first | omega | exact tt_lo _ | exact tt_hi _), rfl⟩⟩ dX10_runScript_88 (jj_le rfl) (jj_le rfl)
          · refine jj_if_neT (tgt := 89) C dX10_runScript_76 (by decide) (by decide) ?_
            refine jj_aload_n C dX10_runScript_89 rfl ?_
            obtain ⟨qc, gs, hqc⟩ := tt_recv (cx := []) hok_101 kq_26 (by decide) rfl
            refine tt_callV (rest := []) C (tc_X7_execute_1 hl D cA ak q_26 kq_26 hok_101) [] [] rfl rfl (by decide) (by decide) (by decide) qc hqc rfl rfl jw_048b460b76 jw_e3f2ab3506 jw_701169423c jw_ab600d7316 jw_e890299aba jn_X7_execute rfl (jj_le rfl) (jj_le rfl) (jj_le rfl) (jj_le rfl) (jj_le rfl) dX10_runScript_90 rfl (fun _ _ _ hX => hX.elim) (fun rx pl_112 r O_115 => ?_)
            obtain ⟨rfl, hok_113, hr_114, hfa9, hR_117⟩ := O_115
            replace hf_51 := hr_114.at hk0 (by decide) (by decide) hf_51
            replace hf_52 := hr_114.at hk0 (by decide) (by decide) hf_52
            replace hf_53 := hr_114.at hk0 (by decide) (by decide) hf_53
            replace hf_54 := hr_114.at hk0 (by decide) (by decide) hf_54
            replace hf_55 := hr_114.at kq_26 (by decide) (by decide) hf_55
            replace hf_56 := hr_114.at kq_26 (by decide) (by decide) hf_56
            replace hf_57 := hr_114.at kq_26 (by decide) (by decide) hf_57
            replace hfr := hfr.transX hx_33 (hr_114.sub (by decide))
            replace hfa := hfa.transX hx_33 (hfa9.sub (by decide))
            rcases hR_117 with rfl | rfl
            · refine jj_if_neF (tgt := 100) C dX10_runScript_93 (by decide) (by decide) ?_
              refine jj_iconst (v := (-1)) C dX10_runScript_96 (by decide) ?_
              refine jj_iload_n C dX10_runScript_97 rfl ?_
              obtain ⟨x_120, ex_120, vx_120⟩ := tt_isub (x := ((-1) : Int32)) (y := x_99) (a := (-1)) (by decide) (b := x_99.toInt) rfl (by omega) (by omega)
              refine jj_isub (v := x_120) C dX10_runScript_98 ex_120 ?_
              exact jj_iret C ⟨[], pl_112, rfl, K_30, hx_33, rfl, hok_113, hfr, hfa, ⟨x_120, (by first | omega | exact tt_lo _ | exact tt_hi _), (by first | omega | exact tt_lo _ | exact tt_hi _), rfl⟩⟩ dX10_runScript_99 (jj_le rfl) (jj_le rfl)
            · refine jj_if_neT (tgt := 100) C dX10_runScript_93 (by decide) (by decide) ?_
              obtain ⟨x_121, ex_121, vx_121⟩ := tt_inc (x := x_50) (n := 1) (by omega) (by omega)
              refine jj_iinc (v := x_121) C dX10_runScript_100 rfl ex_121 (by decide) rfl ?_
              refine jj_aload_n C dX10_runScript_103 rfl ?_
              refine tt_getF C hok_113 jk_11 0 (by decide) jw_4836d4133c (t := (2, 10, 0)) hk0 (by decide) rfl rfl hf_51 dX10_runScript_104 ?_
              obtain ⟨qc, gs, hqc⟩ := tt_recv (cx := []) hok_113 ka_3 (by decide) rfl
              refine tt_callV (rest := []) C (tc_X9_advance_1 hl D cA ak a_3 ka_3 hok_113) [] [] rfl rfl (by decide) (by decide) (by decide) qc hqc rfl rfl jw_e348f4fe02 jw_37f6ee43e0 jw_46baf1fc7b jw_a9e7b602dc jw_0d4db63612 jn_X9_advance rfl (jj_le rfl) (jj_le rfl) (jj_le rfl) (jj_le rfl) (jj_le rfl) dX10_runScript_107 rfl (fun _ _ _ hX => hX.elim) (fun rx pl_122 r O_125 => ?_)
              obtain ⟨rfl, hok_123, hr_124, hfa9, hR_127⟩ := O_125
              replace hf_51 := hr_124.at hk0 (by decide) (by decide) hf_51
              replace hf_52 := hr_124.at hk0 (by decide) (by decide) hf_52
              replace hf_53 := hr_124.at hk0 (by decide) (by decide) hf_53
              replace hf_54 := hr_124.at hk0 (by decide) (by decide) hf_54
              replace hf_55 := hr_124.at kq_26 (by decide) (by decide) hf_55
              replace hf_56 := hr_124.at kq_26 (by decide) (by decide) hf_56
              replace hf_57 := hr_124.at kq_26 (by decide) (by decide) hf_57
              replace hfr := hfr.transX hx_33 (hr_124.sub (by decide))
              replace hfa := hfa.transX hx_33 (hfa9.sub (by decide))
              obtain rfl := hR_127
              refine jj_goto (tgt := 47) C dX10_runScript_110 (by decide) ?_
              refine jj_loc [0, 2, 3] rfl ?_
              exact ihL_49 pl_122 x_121 hok_123 hfr hfa hf_51 hf_52 hf_53 hf_54 hf_55 hf_56 hf_57 (by first | omega | decide | exact tt_lo _ | exact tt_hi _) (by first | omega | decide | exact tt_lo _ | exact tt_hi _) (by first | omega | decide | exact tt_lo _ | exact tt_hi _)
  exact hL_49 _ pl_41 (0 : Int32) trivial hok_42 hfr hfa hf_2 hf_13 hf_16 hf_28 hf_35 hf_36 hf_37 (by first | omega | decide | exact tt_lo _ | exact tt_hi _) (by first | omega | decide | exact tt_lo _ | exact tt_hi _) (Int.self_le_toNat _)

