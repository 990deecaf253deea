set_option maxHeartbeats 4000000 in
set_option maxRecDepth 100000 in
theorem tc_X10_valueOf_1 {l : Launch} (hl : l.stackTraces = false) (D : va_G) (cA : Nat → ClassId) (ak : (Nat → Nat) × (Nat → Nat)) {Kd : Nat → Nat} (h0 : Nat) (p1 : Int32) (hk0 : Kd h0 = 15) {pl0 : va_W} (hok : tt_ok tt_tk cA Kd pl0) : jj_M l D cA ak yX10_valueOf (.code yX10_valueOf cX10_valueOf 2 (some .long)) 8 123 1 6 ([] ++ pl0) [.ref h0, .int p1] (tt_O (fun rx pl1 r => rx = [] ∧ tt_ok tt_tk cA Kd pl1 ∧ tt_fr Kd [(2, 0), (2, 1), (2, 2), (2, 3), (2, 4), (9, 1), (9, 2), (9, 3), (9, 4), (9, 5)] pl0 pl1 ∧ ((∃ v : Int64, (0 : Int) ≤ p1.toInt ∧ p1.toInt ≤ 2147483646 ∧ r = some (.long v))))) (tt_OX (fun E rx pl1 => rx = [] ∧ tt_ok tt_tk cA Kd pl1 ∧ tt_fr Kd [(2, 0), (2, 1), (2, 2), (2, 3), (2, 4), (9, 1), (9, 2), (9, 3), (9, 4), (9, 5)] pl0 pl1 ∧ (E = "java/lang/IndexOutOfBoundsException"))) := by
  refine jj_start hl (by decide) jw_865 (jj_le rfl) ?_
  intro p e s m args below meth c A hargs hA C hex hmn
  have hfr := tt_fr.refl (K := Kd) (WS := [(2, 0), (2, 1), (2, 2), (2, 3), (2, 4), (9, 1), (9, 2), (9, 3), (9, 4), (9, 5)]) pl0
  have lp1 := tt_lo p1
  have up1 := tt_hi p1
  refine jj_aload_n C dX10_valueOf_0 rfl ?_
  refine jj_iload_n C dX10_valueOf_1 rfl ?_
  obtain ⟨qc, gs, hqc⟩ := tt_recv (cx := []) hok hk0 (by decide) rfl
  refine tt_callV (rest := []) C (tc_X10_checkInvestor_1 hl D cA ak h0 p1 hk0 hok) [] [] rfl rfl (by decide) (by decide) (by decide) qc hqc rfl rfl jw_394 jw_401 jw_402 jw_52 jw_395 jn_X10_checkInvestor rfl (jj_le rfl) (jj_le rfl) (jj_le rfl) (jj_le rfl) (jj_le rfl) dX10_valueOf_2 rfl (fun E rx pl_1 X_5 => ?_) (fun rx pl_1 r O_4 => ?_)
  · obtain ⟨rfl, hok_2, hr_3, hE_6⟩ := X_5
    replace hfr := hfr.trans (hr_3.sub (by decide))
    obtain rfl := hE_6
    exact jj_out C hex ⟨[], pl_1, rfl, rfl, hok_2, hfr, rfl⟩ (jj_le rfl) (jj_le rfl)
  · obtain ⟨rfl, hok_2, hr_3, hR_7⟩ := O_4
    replace hfr := hfr.trans (hr_3.sub (by decide))
    obtain ⟨l_8, u_9, rfl⟩ := hR_7
    refine jj_aload_n C dX10_valueOf_5 rfl ?_
    refine tt_get C hok_2 jk_11 5 (by decide) jw_71 (t := (2, 9, 0)) hk0 (by decide) rfl rfl dX10_valueOf_6 (fun v_10 hv_10 hf_11 => ?_)
    obtain ⟨a_12, rfl, ka_12⟩ := tt_vr hv_10
    refine jj_aload_n C dX10_valueOf_9 rfl ?_
    refine tt_get C hok_2 jk_11 3 (by decide) jw_2 (t := (2, 1, 0)) hk0 (by decide) rfl rfl dX10_valueOf_10 (fun v_13 hv_13 hf_14 => ?_)
    obtain ⟨a_15, rfl, ka_15⟩ := tt_vr hv_13
    refine jj_iload_n C dX10_valueOf_13 rfl ?_
    refine jj_iconst (v := 0) C dX10_valueOf_14 (by decide) ?_
    obtain ⟨qc, gs, hqc⟩ := tt_recv (cx := []) hok_2 ka_12 (by decide) rfl
    refine tt_callV (rest := []) C (tc_X1_payAfterRate_15 hl D cA ak a_12 a_15 p1 ka_12 ka_15 hok_2) [] [] rfl rfl (by decide) (by decide) (by decide) qc hqc rfl rfl jw_437 jw_440 jw_441 jw_74 jw_438 jn_X1_payAfterRate rfl (jj_le rfl) (jj_le rfl) (jj_le rfl) (jj_le rfl) (jj_le rfl) dX10_valueOf_15 rfl (fun _ _ _ hX => hX.elim) (fun rx pl_16 r O_19 => ?_)
    obtain ⟨rfl, hok_17, hr_18, hR_21⟩ := O_19
    replace hf_11 := hr_18.at hk0 (by decide) (by decide) hf_11
    replace hf_14 := hr_18.at hk0 (by decide) (by decide) hf_14
    replace hfr := hfr.trans (hr_18.sub (by decide))
    obtain ⟨y_22, rfl⟩ := hR_21
    exact jj_lret C ⟨[], pl_16, rfl, rfl, hok_17, hfr, ⟨y_22, (by first | omega | exact tt_lo _ | exact tt_hi _), (by first | omega | exact tt_lo _ | exact tt_hi _), rfl⟩⟩ dX10_valueOf_18 (jj_le rfl) (jj_le rfl)

set_option maxHeartbeats 4000000 in
set_option maxRecDepth 100000 in
theorem tc_X0_removeRequest_1 {l : Launch} (hl : l.stackTraces = false) (D : va_G) (cA : Nat → ClassId) (ak : (Nat → Nat) × (Nat → Nat)) {Kd : Nat → Nat} (h0 : Nat) (p1 : Int32) (hk0 : Kd h0 = 1) (lp1 : (0 : Int) ≤ p1.toInt) (up1 : p1.toInt ≤ 11) {pl0 : va_W} (hok : tt_ok tt_tk cA Kd pl0) : jj_M l D cA ak yX0_removeRequest (.code yX0_removeRequest cX0_removeRequest 2 none) 1 23 0 0 ([] ++ pl0) [.ref h0, .int p1] (tt_O (fun rx pl1 r => rx = [] ∧ tt_ok tt_tk cA Kd pl1 ∧ tt_fr Kd [(1, 9), (4, 3)] pl0 pl1 ∧ ((r = none)))) (tt_OX (fun _ _ _ => False)) := by
  refine jj_start hl (by decide) jw_531 (jj_le rfl) ?_
  intro p e s m args below meth c A hargs hA C hex hmn
  have hfr := tt_fr.refl (K := Kd) (WS := [(1, 9), (4, 3)]) pl0
  refine jj_iload_n C dX0_removeRequest_0 rfl ?_
  refine jj_if_lt (tgt := 27) C dX0_removeRequest_1 (by decide) (fun c_1 => ?_) (fun c_1 => ?_)
  · have z_c_1 := jc_lt (a := (p1).toInt) (b := (0)) c_1 rfl (by decide)
    exfalso; omega
  · have z_c_1 := jc_nlt (a := (p1).toInt) (b := (0)) c_1 rfl (by decide)
    refine jj_iload_n C dX0_removeRequest_4 rfl ?_
    refine jj_aload_n C dX0_removeRequest_5 rfl ?_
    refine tt_get C hok jk_2 9 (by decide) jw_200 (t := (0, 0, 12)) hk0 (by decide) rfl rfl dX0_removeRequest_6 (fun v_2 hv_2 hf_3 => ?_)
    obtain ⟨x_4, rfl, lx_4, ux_4⟩ := tt_vi hv_2
    refine jj_icmp_ge (tgt := 27) C dX0_removeRequest_9 (by decide) (fun c_5 => ?_) (fun c_5 => ?_)
    · have z_c_5 := jc_le (a := (x_4).toInt) (b := (p1).toInt) c_5 rfl rfl
      exact jj_vret C ⟨[], pl0, rfl, rfl, hok, hfr, rfl⟩ dX0_removeRequest_27 (jj_le rfl) (jj_le rfl)
    · have z_c_5 := jc_nle (a := (x_4).toInt) (b := (p1).toInt) c_5 rfl rfl
      refine jj_aload_n C dX0_removeRequest_12 rfl ?_
      refine tt_get C hok jk_2 13 (by decide) jw_202 (t := (2, 8, 0)) hk0 (by decide) rfl rfl dX0_removeRequest_13 (fun v_6 hv_6 hf_7 => ?_)
      obtain ⟨a_8, rfl, ka_8⟩ := tt_vr hv_6
      refine jj_iload_n C dX0_removeRequest_16 rfl ?_
      refine tt_aald C hok (t := (2, 4, 0)) ka_8 (by decide) rfl rfl rfl (vp_in_iff.mpr ⟨by omega, by omega⟩) dX0_removeRequest_17 (fun v_9 hv_9 => ?_)
      obtain ⟨a_10, rfl, ka_10⟩ := tt_vr hv_9
      refine jj_lconst (v := 0) C dX0_removeRequest_18 (by decide) ?_
      refine tt_put C hok jk_7 3 (by decide) jw_282 (t := (1, (-9223372036854775808), 9223372036854775807)) ka_10 (by decide) rfl rfl rfl (tt_ja (0 : Int64)) rfl rfl dX0_removeRequest_19 (fun pl_11 hok_12 tr hn => ?_)
      replace hf_3 := tr _ _ _ (Or.inl (tt_ne hk0 ka_10 (by decide))) hf_3
      replace hf_7 := tr _ _ _ (Or.inl (tt_ne hk0 ka_10 (by decide))) hf_7
      have hf_13 := hn
      replace hfr := hfr.put ka_10 tr (by decide)
      refine jj_aload_n C dX0_removeRequest_22 rfl ?_
      obtain ⟨qc, gs, hqc⟩ := tt_recv (cx := []) hok_12 hk0 (by decide) rfl
      refine tt_callV (rest := []) C (tc_X0_dropDoneRequests_1 hl D cA ak h0 hk0 hok_12) [] [] rfl rfl (by decide) (by decide) (by decide) qc hqc rfl rfl jw_532 jw_370 jw_371 jw_133 jw_369 jn_X0_dropDoneRequests rfl (jj_le rfl) (jj_le rfl) (jj_le rfl) (jj_le rfl) (jj_le rfl) dX0_removeRequest_23 rfl (fun _ _ _ hX => hX.elim) (fun rx pl_14 r O_17 => ?_)
      obtain ⟨rfl, hok_15, hr_16, hR_19⟩ := O_17
      replace hf_7 := hr_16.at hk0 (by decide) (by decide) hf_7
      replace hf_13 := hr_16.at ka_10 (by decide) (by decide) hf_13
      replace hfr := hfr.trans (hr_16.sub (by decide))
      obtain ⟨x_20, lx_20, ux_20, rfl⟩ := hR_19
      refine jj_pop C dX0_removeRequest_26 rfl ?_
      exact jj_vret C ⟨[], pl_14, rfl, rfl, hok_15, hfr, rfl⟩ dX0_removeRequest_27 (jj_le rfl) (jj_le rfl)

set_option maxHeartbeats 4000000 in
set_option maxRecDepth 100000 in
theorem tc_X10_wouldRedeem_1 {l : Launch} (hl : l.stackTraces = false) (D : va_G) (cA : Nat → ClassId) (ak : (Nat → Nat) × (Nat → Nat)) {Kd : Nat → Nat} (h0 : Nat) (p1 : Int32) (hk0 : Kd h0 = 15) {pl0 : va_W} (hok : tt_ok tt_tk cA Kd pl0) : jj_M l D cA ak yX10_wouldRedeem (.code yX10_wouldRedeem cX10_wouldRedeem 2 (some .long)) 8 123 1 6 ([] ++ pl0) [.ref h0, .int p1] (tt_O (fun rx pl1 r => rx = [] ∧ tt_ok tt_tk cA Kd pl1 ∧ tt_fr Kd [(1, 0), (1, 1), (1, 2), (1, 3), (1, 4), (1, 5), (1, 6), (1, 7), (1, 8), (1, 9), (2, 0), (2, 1), (2, 2), (2, 3), (2, 4), (3, 0), (3, 1), (3, 2), (3, 3), (3, 4), (3, 5), (4, 0), (4, 1), (4, 2), (4, 3), (4, 4), (9, 1), (9, 2), (9, 3), (9, 4), (9, 5)] pl0 pl1 ∧ ((∃ v : Int64, (0 : Int) ≤ p1.toInt ∧ p1.toInt ≤ 11 ∧ r = some (.long v)) ∨ ((0 : Int) ≤ p1.toInt ∧ p1.toInt ≤ 11 ∧ r = some (.long 0))))) (tt_OX (fun E rx pl1 => rx = [] ∧ tt_ok tt_tk cA Kd pl1 ∧ tt_fr Kd [(1, 0), (1, 1), (1, 2), (1, 3), (1, 4), (1, 5), (1, 6), (1, 7), (1, 8), (1, 9), (2, 0), (2, 1), (2, 2), (2, 3), (2, 4), (3, 0), (3, 1), (3, 2), (3, 3), (3, 4), (3, 5), (4, 0), (4, 1), (4, 2), (4, 3), (4, 4), (9, 1), (9, 2), (9, 3), (9, 4), (9, 5)] pl0 pl1 ∧ (E = "java/lang/IndexOutOfBoundsException"))) := by
  refine jj_start hl (by decide) jw_867 (jj_le rfl) ?_
  intro p e s m args below meth c A hargs hA C hex hmn
  have hfr := tt_fr.refl (K := Kd) (WS := [(1, 0), (1, 1), (1, 2), (1, 3), (1, 4), (1, 5), (1, 6), (1, 7), (1, 8), (1, 9), (2, 0), (2, 1), (2, 2), (2, 3), (2, 4), (3, 0), (3, 1), (3, 2), (3, 3), (3, 4), (3, 5), (4, 0), (4, 1), (4, 2), (4, 3), (4, 4), (9, 1), (9, 2), (9, 3), (9, 4), (9, 5)]) pl0
  have lp1 := tt_lo p1
  have up1 := tt_hi p1
  refine jj_aload_n C dX10_wouldRedeem_0 rfl ?_
  refine jj_iload_n C dX10_wouldRedeem_1 rfl ?_
  obtain ⟨qc, gs, hqc⟩ := tt_recv (cx := []) hok hk0 (by decide) rfl
  refine tt_callV (rest := []) C (tc_X10_checkRequest_1 hl D cA ak h0 p1 hk0 hok) [] [] rfl rfl (by decide) (by decide) (by decide) qc hqc rfl rfl jw_50 jw_60 jw_61 jw_52 jw_51 jn_X10_checkRequest rfl (jj_le rfl) (jj_le rfl) (jj_le rfl) (jj_le rfl) (jj_le rfl) dX10_wouldRedeem_2 rfl (fun E rx pl_1 X_5 => ?_) (fun rx pl_1 r O_4 => ?_)
  · obtain ⟨rfl, hok_2, hr_3, hE_6⟩ := X_5
    replace hfr := hfr.trans (hr_3.sub (by decide))
    obtain rfl := hE_6
    exact jj_out C hex ⟨[], pl_1, rfl, rfl, hok_2, hfr, rfl⟩ (jj_le rfl) (jj_le rfl)
  · obtain ⟨rfl, hok_2, hr_3, hR_7⟩ := O_4
    replace hfr := hfr.trans (hr_3.sub (by decide))
    obtain ⟨l_8, u_9, rfl⟩ := hR_7
    refine jj_aload_n C dX10_wouldRedeem_5 rfl ?_
    refine tt_get C hok_2 jk_11 3 (by decide) jw_2 (t := (2, 1, 0)) hk0 (by decide) rfl rfl dX10_wouldRedeem_6 (fun v_10 hv_10 hf_11 => ?_)
    obtain ⟨a_12, rfl, ka_12⟩ := tt_vr hv_10
    refine tt_get C hok_2 jk_2 13 (by decide) jw_63 (t := (2, 8, 0)) ka_12 (by decide) rfl rfl dX10_wouldRedeem_9 (fun v_13 hv_13 hf_14 => ?_)
    obtain ⟨a_15, rfl, ka_15⟩ := tt_vr hv_13
    refine jj_iload_n C dX10_wouldRedeem_12 rfl ?_
    refine tt_aald C hok_2 (t := (2, 4, 0)) ka_15 (by decide) rfl rfl rfl (vp_in_iff.mpr ⟨by omega, by omega⟩) dX10_wouldRedeem_13 (fun v_16 hv_16 => ?_)
    obtain ⟨a_17, rfl, ka_17⟩ := tt_vr hv_16
    refine tt_get C hok_2 jk_7 2 (by decide) jw_64 (t := (0, 0, 1)) ka_17 (by decide) rfl rfl dX10_wouldRedeem_14 (fun v_18 hv_18 hf_19 => ?_)
    obtain ⟨x_20, rfl, lx_20, ux_20⟩ := tt_vi hv_18
    refine jj_if_ne (tgt := 22) C dX10_wouldRedeem_17 (by decide) (fun c_21 => ?_) (fun c_21 => ?_)
    · have z_c_21 := jc_neq (a := (x_20).toInt) (b := (0)) c_21 rfl (by decide)
      refine jj_aload_n C dX10_wouldRedeem_22 rfl ?_
      refine tt_get C hok_2 jk_11 4 (by decide) jw_189 (t := (2, 1, 0)) hk0 (by decide) rfl rfl dX10_wouldRedeem_23 (fun v_22 hv_22 hf_23 => ?_)
      obtain ⟨a_24, rfl, ka_24⟩ := tt_vr hv_22
      refine jj_aload_n C dX10_wouldRedeem_26 rfl ?_
      refine tt_getF C hok_2 jk_11 3 (by decide) jw_2 (t := (2, 1, 0)) hk0 (by decide) rfl rfl hf_11 dX10_wouldRedeem_27 ?_
      obtain ⟨qc, gs, hqc⟩ := tt_recv (cx := []) hok_2 ka_24 (by decide) rfl
      refine tt_callV (rest := []) C (tc_X0_copyFrom_1 hl D cA ak a_24 a_12 ka_24 ka_12 hok_2) [] [] rfl rfl (by decide) (by decide) (by decide) qc hqc rfl rfl jw_190 jw_228 jw_229 jw_133 jw_191 jn_X0_copyFrom rfl (jj_le rfl) (jj_le rfl) (jj_le rfl) (jj_le rfl) (jj_le rfl) dX10_wouldRedeem_30 rfl (fun _ _ _ hX => hX.elim) (fun rx pl_25 r O_28 => ?_)
      obtain ⟨rfl, hok_26, hr_27, hR_30⟩ := O_28
      replace hf_11 := hr_27.at hk0 (by decide) (by decide) hf_11
      replace hf_14 := hr_27.at ka_12 (by decide) (by decide) hf_14
      replace hf_23 := hr_27.at hk0 (by decide) (by decide) hf_23
      replace hfr := hfr.trans (hr_27.sub (by decide))
      obtain rfl := hR_30
      refine jj_aload_n C dX10_wouldRedeem_33 rfl ?_
      refine tt_get C hok_26 jk_11 5 (by decide) jw_71 (t := (2, 9, 0)) hk0 (by decide) rfl rfl dX10_wouldRedeem_34 (fun v_31 hv_31 hf_32 => ?_)
      obtain ⟨a_33, rfl, ka_33⟩ := tt_vr hv_31
      refine jj_aload_n C dX10_wouldRedeem_37 rfl ?_
      refine tt_getF C hok_26 jk_11 4 (by decide) jw_189 (t := (2, 1, 0)) hk0 (by decide) rfl rfl hf_23 dX10_wouldRedeem_38 ?_
      refine jj_aload_n C dX10_wouldRedeem_41 rfl ?_
      refine tt_getF C hok_26 jk_11 5 (by decide) jw_71 (t := (2, 9, 0)) hk0 (by decide) rfl rfl hf_32 dX10_wouldRedeem_42 ?_
      refine jj_aload_n C dX10_wouldRedeem_45 rfl ?_
      refine tt_getF C hok_26 jk_11 4 (by decide) jw_189 (t := (2, 1, 0)) hk0 (by decide) rfl rfl hf_23 dX10_wouldRedeem_46 ?_
      obtain ⟨qc, gs, hqc⟩ := tt_recv (cx := []) hok_26 ka_33 (by decide) rfl
      refine tt_callV (rest := [.ref a_24, .ref a_33]) C (tc_X1_baseOfRedemptions_1 hl D cA ak a_33 a_24 ka_33 ka_24 hok_26) [] [] rfl rfl (by decide) (by decide) (by decide) qc hqc rfl rfl jw_72 jw_186 jw_187 jw_74 jw_73 jn_X1_baseOfRedemptions rfl (jj_le rfl) (jj_le rfl) (jj_le rfl) (jj_le rfl) (jj_le rfl) dX10_wouldRedeem_49 rfl (fun _ _ _ hX => hX.elim) (fun rx pl_34 r O_37 => ?_)
      obtain ⟨rfl, hok_35, hr_36, hR_39⟩ := O_37
      replace hf_11 := hr_36.at hk0 (by decide) (by decide) hf_11
      replace hf_14 := hr_36.at ka_12 (by decide) (by decide) hf_14
      replace hf_23 := hr_36.at hk0 (by decide) (by decide) hf_23
      replace hf_32 := hr_36.at hk0 (by decide) (by decide) hf_32
      replace hfr := hfr.trans (hr_36.sub (by decide))
      obtain ⟨y_40, rfl⟩ := hR_39
      obtain ⟨qc, gs, hqc⟩ := tt_recv (cx := []) hok_35 ka_33 (by decide) rfl
      refine tt_callV (rest := []) C (tc_X1_redeemWaiting_1 hl D cA ak a_33 a_24 y_40 ka_33 ka_24 hok_35) [] [] rfl rfl (by decide) (by decide) (by decide) qc hqc rfl rfl jw_232 jw_277 jw_278 jw_74 jw_233 jn_X1_redeemWaiting rfl (jj_le rfl) (jj_le rfl) (jj_le rfl) (jj_le rfl) (jj_le rfl) dX10_wouldRedeem_52 rfl (fun _ _ _ hX => hX.elim) (fun rx pl_41 r O_44 => ?_)
      obtain ⟨rfl, hok_42, hr_43, hR_46⟩ := O_44
      replace hf_11 := hr_43.at hk0 (by decide) (by decide) hf_11
      replace hf_14 := hr_43.at ka_12 (by decide) (by decide) hf_14
      replace hf_23 := hr_43.at hk0 (by decide) (by decide) hf_23
      replace hf_32 := hr_43.at hk0 (by decide) (by decide) hf_32
      replace hfr := hfr.trans (hr_43.sub (by decide))
      obtain rfl := hR_46
      refine jj_aload_n C dX10_wouldRedeem_55 rfl ?_
      refine tt_getF C hok_42 jk_11 4 (by decide) jw_189 (t := (2, 1, 0)) hk0 (by decide) rfl rfl hf_23 dX10_wouldRedeem_56 ?_
      refine tt_get C hok_42 jk_2 13 (by decide) jw_63 (t := (2, 8, 0)) ka_24 (by decide) rfl rfl dX10_wouldRedeem_59 (fun v_47 hv_47 hf_48 => ?_)
      obtain ⟨a_49, rfl, ka_49⟩ := tt_vr hv_47
      refine jj_iload_n C dX10_wouldRedeem_62 rfl ?_
      refine tt_aald C hok_42 (t := (2, 4, 0)) ka_49 (by decide) rfl rfl rfl (vp_in_iff.mpr ⟨by omega, by omega⟩) dX10_wouldRedeem_63 (fun v_50 hv_50 => ?_)
      obtain ⟨a_51, rfl, ka_51⟩ := tt_vr hv_50
      refine tt_get C hok_42 jk_7 4 (by decide) jw_536 (t := (1, (-9223372036854775808), 9223372036854775807)) ka_51 (by decide) rfl rfl dX10_wouldRedeem_64 (fun v_52 hv_52 hf_53 => ?_)
      obtain ⟨y_54, rfl, -, -⟩ := tt_vj hv_52
      exact jj_lret C ⟨[], pl_41, rfl, rfl, hok_42, hfr, (Or.inl ⟨y_54, (by first | omega | exact tt_lo _ | exact tt_hi _), (by first | omega | exact tt_lo _ | exact tt_hi _), rfl⟩)⟩ dX10_wouldRedeem_67 (jj_le rfl) (jj_le rfl)
    · have z_c_21 := jc_eq (a := (x_20).toInt) (b := (0)) c_21 rfl (by decide)
      refine jj_lconst (v := 0) C dX10_wouldRedeem_20 (by decide) ?_
      exact jj_lret C ⟨[], pl_1, rfl, rfl, hok_2, hfr, (Or.inl ⟨(0 : Int64), (by first | omega | exact tt_lo _ | exact tt_hi _), (by first | omega | exact tt_lo _ | exact tt_hi _), rfl⟩)⟩ dX10_wouldRedeem_21 (jj_le rfl) (jj_le rfl)

set_option maxHeartbeats 4000000 in
set_option maxRecDepth 100000 in
theorem tc_X9_takeBuffer_1 {l : Launch} (hl : l.stackTraces = false) (D : va_G) (cA : Nat → ClassId) (ak : (Nat → Nat) × (Nat → Nat)) {Kd : Nat → Nat} (h0 : Nat) (hk0 : Kd h0 = 10) {pl0 : va_W} (hok : tt_ok tt_tk cA Kd pl0) : jj_M l D cA ak yX9_takeBuffer (.code yX9_takeBuffer cX9_takeBuffer 1 none) 0 0 0 0 ([] ++ pl0) [.ref h0] (tt_O (fun rx pl1 r => rx = [] ∧ tt_ok tt_tk cA Kd pl1 ∧ tt_fr Kd [(10, 1), (10, 2), (10, 3), (10, 4), (10, 5)] pl0 pl1 ∧ ((r = none)))) (tt_OX (fun _ _ _ => False)) := by
  refine jj_start hl (by decide) jw_538 (jj_le rfl) ?_
  intro p e s m args below meth c A hargs hA C hex hmn
  have hfr := tt_fr.refl (K := Kd) (WS := [(10, 1), (10, 2), (10, 3), (10, 4), (10, 5)]) pl0
  refine jj_aload_n C dX9_takeBuffer_0 rfl ?_
  refine jj_aload_n C dX9_takeBuffer_1 rfl ?_
  refine tt_get C hok jk_10 1 (by decide) jw_43 (t := (0, 0, 400)) hk0 (by decide) rfl rfl dX9_takeBuffer_2 (fun v_1 hv_1 hf_2 => ?_)
  obtain ⟨x_3, rfl, lx_3, ux_3⟩ := tt_vi hv_1
  refine tt_put C hok jk_10 2 (by decide) jw_539 (t := (0, 0, 400)) hk0 (by decide) rfl rfl rfl (tt_iv (by omega) (by omega)) rfl rfl dX9_takeBuffer_5 (fun pl_4 hok_5 tr hn => ?_)
  replace hf_2 := tr _ _ _ (Or.inr (by decide)) hf_2
  have hf_6 := hn
  replace hfr := hfr.put hk0 tr (by decide)
  refine jj_aload_n C dX9_takeBuffer_8 rfl ?_
  refine jj_iconst (v := 0) C dX9_takeBuffer_9 (by decide) ?_
  refine tt_put C hok_5 jk_10 1 (by decide) jw_43 (t := (0, 0, 400)) hk0 (by decide) rfl rfl rfl (tt_iv (by decide) (by decide)) rfl rfl dX9_takeBuffer_10 (fun pl_7 hok_8 tr hn => ?_)
  replace hf_6 := tr _ _ _ (Or.inr (by decide)) hf_6
  have hf_9 := hn
  replace hfr := hfr.put hk0 tr (by decide)
  refine jj_aload_n C dX9_takeBuffer_13 rfl ?_
  refine jj_iconst (v := 0) C dX9_takeBuffer_14 (by decide) ?_
  refine tt_put C hok_8 jk_10 4 (by decide) jw_540 (t := (0, 0, 400)) hk0 (by decide) rfl rfl rfl (tt_iv (by decide) (by decide)) rfl rfl dX9_takeBuffer_15 (fun pl_10 hok_11 tr hn => ?_)
  replace hf_6 := tr _ _ _ (Or.inr (by decide)) hf_6
  replace hf_9 := tr _ _ _ (Or.inr (by decide)) hf_9
  have hf_12 := hn
  replace hfr := hfr.put hk0 tr (by decide)
  refine jj_aload_n C dX9_takeBuffer_18 rfl ?_
  refine jj_iconst (v := 0) C dX9_takeBuffer_19 (by decide) ?_
  refine tt_put C hok_11 jk_10 3 (by decide) jw_541 (t := (0, 0, 400)) hk0 (by decide) rfl rfl rfl (tt_iv (by decide) (by decide)) rfl rfl dX9_takeBuffer_20 (fun pl_13 hok_14 tr hn => ?_)
  replace hf_6 := tr _ _ _ (Or.inr (by decide)) hf_6
  replace hf_9 := tr _ _ _ (Or.inr (by decide)) hf_9
  replace hf_12 := tr _ _ _ (Or.inr (by decide)) hf_12
  have hf_15 := hn
  replace hfr := hfr.put hk0 tr (by decide)
  refine jj_aload_n C dX9_takeBuffer_23 rfl ?_
  refine jj_iconst (v := 0) C dX9_takeBuffer_24 (by decide) ?_
  refine tt_put C hok_14 jk_10 5 (by decide) jw_542 (t := (0, (-2147483648), 2147483647)) hk0 (by decide) rfl rfl rfl (tt_ia (0 : Int32)) rfl rfl dX9_takeBuffer_25 (fun pl_16 hok_17 tr hn => ?_)
  replace hf_6 := tr _ _ _ (Or.inr (by decide)) hf_6
  replace hf_9 := tr _ _ _ (Or.inr (by decide)) hf_9
  replace hf_12 := tr _ _ _ (Or.inr (by decide)) hf_12
  replace hf_15 := tr _ _ _ (Or.inr (by decide)) hf_15
  have hf_18 := hn
  replace hfr := hfr.put hk0 tr (by decide)
  exact jj_vret C ⟨[], pl_16, rfl, rfl, hok_17, hfr, rfl⟩ dX9_takeBuffer_28 (jj_le rfl) (jj_le rfl)

set_option maxHeartbeats 4000000 in
set_option maxRecDepth 100000 in
theorem tc_X0_empty_1 {l : Launch} (hl : l.stackTraces = false) (D : va_G) (cA : Nat → ClassId) (ak : (Nat → Nat) × (Nat → Nat)) {Kd : Nat → Nat} (h0 : Nat) (hk0 : Kd h0 = 1) {pl0 : va_W} (hok : tt_ok tt_tk cA Kd pl0) : jj_M l D cA ak yX0_empty (.code yX0_empty cX0_empty 2 none) 0 0 0 0 ([] ++ pl0) [.ref h0] (tt_O (fun rx pl1 r => rx = [] ∧ tt_ok tt_tk cA Kd pl1 ∧ tt_fr Kd [(1, 5), (1, 6), (1, 7), (1, 8), (1, 9)] pl0 pl1 ∧ ((r = none)))) (tt_OX (fun _ _ _ => False)) := by
  refine jj_start hl (by decide) jw_555 (jj_le rfl) ?_
  intro p e s m args below meth c A hargs hA C hex hmn
  have hfr := tt_fr.refl (K := Kd) (WS := [(1, 5), (1, 6), (1, 7), (1, 8), (1, 9)]) pl0
  refine jj_aload_n C dX0_empty_0 rfl ?_
  refine jj_iconst (v := 0) C dX0_empty_1 (by decide) ?_
  refine tt_put C hok jk_2 5 (by decide) jw_197 (t := (0, (-2147483648), 2147483647)) hk0 (by decide) rfl rfl rfl (tt_ia (0 : Int32)) rfl rfl dX0_empty_2 (fun pl_1 hok_2 tr hn => ?_)
  have hf_3 := hn
  replace hfr := hfr.put hk0 tr (by decide)
  refine jj_aload_n C dX0_empty_5 rfl ?_
  refine jj_iconst (v := 0) C dX0_empty_6 (by decide) ?_
  refine tt_put C hok_2 jk_2 6 (by decide) jw_198 (t := (0, (-2147483648), 2147483647)) hk0 (by decide) rfl rfl rfl (tt_ia (0 : Int32)) rfl rfl dX0_empty_7 (fun pl_4 hok_5 tr hn => ?_)
  replace hf_3 := tr _ _ _ (Or.inr (by decide)) hf_3
  have hf_6 := hn
  replace hfr := hfr.put hk0 tr (by decide)
  refine jj_aload_n C dX0_empty_10 rfl ?_
  refine jj_iconst (v := 0) C dX0_empty_11 (by decide) ?_
  refine tt_put C hok_5 jk_2 7 (by decide) jw_134 (t := (0, 0, 6)) hk0 (by decide) rfl rfl rfl (tt_iv (by decide) (by decide)) rfl rfl dX0_empty_12 (fun pl_7 hok_8 tr hn => ?_)
  replace hf_3 := tr _ _ _ (Or.inr (by decide)) hf_3
  replace hf_6 := tr _ _ _ (Or.inr (by decide)) hf_6
  have hf_9 := hn
  replace hfr := hfr.put hk0 tr (by decide)
  refine jj_aload_n C dX0_empty_15 rfl ?_
  refine jj_iconst (v := 0) C dX0_empty_16 (by decide) ?_
  refine tt_put C hok_8 jk_2 8 (by decide) jw_199 (t := (0, 0, 40)) hk0 (by decide) rfl rfl rfl (tt_iv (by decide) (by decide)) rfl rfl dX0_empty_17 (fun pl_10 hok_11 tr hn => ?_)
  replace hf_3 := tr _ _ _ (Or.inr (by decide)) hf_3
  replace hf_6 := tr _ _ _ (Or.inr (by decide)) hf_6
  replace hf_9 := tr _ _ _ (Or.inr (by decide)) hf_9
  have hf_12 := hn
  replace hfr := hfr.put hk0 tr (by decide)
  refine jj_aload_n C dX0_empty_20 rfl ?_
  refine jj_iconst (v := 0) C dX0_empty_21 (by decide) ?_
  refine tt_put C hok_11 jk_2 9 (by decide) jw_200 (t := (0, 0, 12)) hk0 (by decide) rfl rfl rfl (tt_iv (by decide) (by decide)) rfl rfl dX0_empty_22 (fun pl_13 hok_14 tr hn => ?_)
  replace hf_3 := tr _ _ _ (Or.inr (by decide)) hf_3
  replace hf_6 := tr _ _ _ (Or.inr (by decide)) hf_6
  replace hf_9 := tr _ _ _ (Or.inr (by decide)) hf_9
  replace hf_12 := tr _ _ _ (Or.inr (by decide)) hf_12
  have hf_15 := hn
  replace hfr := hfr.put hk0 tr (by decide)
  refine jj_iconst (v := 0) C dX0_empty_25 (by decide) ?_
  refine jj_istore_n C dX0_empty_26 (by decide) rfl ?_
  have hL_16 : ∀ (N : Nat) (pl : va_W) (x_17 : Int32), True → tt_ok tt_tk cA Kd pl → tt_fr Kd [(1, 5), (1, 6), (1, 7), (1, 8), (1, 9)] pl0 pl → (0 : Int) ≤ x_17.toInt → x_17.toInt ≤ 6 → (2147483648 - x_17.toInt ≤ (N : Int)) → jj_J p l e (jj_rm 0 0 0 0) s m args below meth c 2 A (vx_MQ below (jj_q D A (tt_O (fun rx pl1 r => rx = [] ∧ tt_ok tt_tk cA Kd pl1 ∧ tt_fr Kd [(1, 5), (1, 6), (1, 7), (1, 8), (1, 9)] pl0 pl1 ∧ ((r = none))))) (jj_x D A (tt_OX (fun _ _ _ => False))) args s 0 0 A) (jj_X D A ([] ++ pl)) 0 0 27 [(1, .int x_17), (0, .ref h0)] [] := by
    intro NL_16
    induction NL_16 with
    | zero => intro pl x_17 _ hok hfr lx_17 ux_17 hNL_16; exfalso; omega
    | succ NL_16 ihL_16 =>
      intro pl x_17 _ hok hfr lx_17 ux_17 hNL_16
      replace ihL_16 := fun pl x_17 h1 => ihL_16 pl x_17 trivial h1
      refine jj_iload_n C dX0_empty_27 rfl ?_
      refine jj_bipush (v := 6) C dX0_empty_28 (by decide) ?_
      refine jj_icmp_ge (tgt := 46) C dX0_empty_30 (by decide) (fun c_18 => ?_) (fun c_18 => ?_)
      · have z_c_18 := jc_le (a := (6)) (b := (x_17).toInt) c_18 (by decide) rfl
        exact jj_vret C ⟨[], pl, rfl, rfl, hok, hfr, rfl⟩ dX0_empty_46 (jj_le rfl) (jj_le rfl)
      · have z_c_18 := jc_nle (a := (6)) (b := (x_17).toInt) c_18 (by decide) rfl
        refine jj_aload_n C dX0_empty_33 rfl ?_
        refine tt_get C hok jk_2 10 (by decide) jw_201 (t := (2, 5, 0)) hk0 (by decide) rfl rfl dX0_empty_34 (fun v_19 hv_19 hf_20 => ?_)
        obtain ⟨a_21, rfl, ka_21⟩ := tt_vr hv_19
        refine jj_iload_n C dX0_empty_37 rfl ?_
        refine jj_lconst (v := 0) C dX0_empty_38 (by decide) ?_
        refine tt_last C hok (t := (1, (-9223372036854775808), 9223372036854775807)) ka_21 (by decide) rfl (vp_in_iff.mpr ⟨by omega, by omega⟩) (tt_ja _) dX0_empty_39 (fun pl_22 hok_23 tr => ?_)
        replace hf_20 := tr _ _ _ hf_20
        replace hfr := hfr.arr tr
        obtain ⟨x_24, ex_24, vx_24⟩ := tt_inc (x := x_17) (n := 1) (by omega) (by omega)
        refine jj_iinc (v := x_24) C dX0_empty_40 rfl ex_24 (by decide) rfl ?_
        refine jj_goto (tgt := 27) C dX0_empty_43 (by decide) ?_
        exact ihL_16 pl_22 x_24 hok_23 hfr (by first | omega | decide | exact tt_lo _ | exact tt_hi _) (by first | omega | decide | exact tt_lo _ | exact tt_hi _) (by first | omega | decide | exact tt_lo _ | exact tt_hi _)
  exact hL_16 _ pl_13 (0 : Int32) trivial hok_14 hfr (by first | omega | decide | exact tt_lo _ | exact tt_hi _) (by first | omega | decide | exact tt_lo _ | exact tt_hi _) (Int.self_le_toNat _)

set_option maxHeartbeats 4000000 in
set_option maxRecDepth 100000 in
theorem tc_X9_isLetter_1 {l : Launch} (hl : l.stackTraces = false) (D : va_G) (cA : Nat → ClassId) (ak : (Nat → Nat) × (Nat → Nat)) {Kd : Nat → Nat} (h0 : Nat) (p1 : Int32) (hk0 : Kd h0 = 10) (lp1 : (0 : Int) ≤ p1.toInt) (up1 : p1.toInt ≤ 399) {pl0 : va_W} (hok : tt_ok tt_tk cA Kd pl0) : jj_M l D cA ak yX9_isLetter (.code yX9_isLetter cX9_isLetter 2 (some .boolean)) 0 0 0 0 ([] ++ pl0) [.ref h0, .int p1] (tt_O (fun rx pl1 r => rx = [] ∧ tt_ok tt_tk cA Kd pl1 ∧ tt_fr Kd [] pl0 pl1 ∧ ((r = some (.int 0)) ∨ (r = some (.int 1))))) (tt_OX (fun _ _ _ => False)) := by
  refine jj_start hl (by decide) jw_567 (jj_le rfl) ?_
  intro p e s m args below meth c A hargs hA C hex hmn
  have hfr := tt_fr.refl (K := Kd) (WS := []) pl0
  refine jj_aload_n C dX9_isLetter_0 rfl ?_
  refine tt_get C hok jk_10 0 (by decide) jw_44 (t := (2, 11, 0)) hk0 (by decide) rfl rfl dX9_isLetter_1 (fun v_1 hv_1 hf_2 => ?_)
  obtain ⟨a_3, rfl, ka_3⟩ := tt_vr hv_1
  refine jj_iload_n C dX9_isLetter_4 rfl ?_
  refine tt_cald C hok (t := (0, (-2147483648), 2147483647)) ka_3 (by decide) rfl (vp_in_iff.mpr ⟨by omega, by omega⟩) dX9_isLetter_5 (fun v_4 hv_4 => ?_)
  refine jj_bipush (v := 97) C dX9_isLetter_6 (by decide) ?_
  refine jj_icmp_lt (tgt := 26) C dX9_isLetter_8 (by decide) (fun c_5 => ?_) (fun c_5 => ?_)
  · have z_c_5 := jc_lt (a := (v_4).toInt) (b := (97)) c_5 rfl (by decide)
    refine jj_iconst (v := 0) C dX9_isLetter_26 (by decide) ?_
    exact jj_zret C rfl ⟨[], pl0, rfl, rfl, hok, hfr, (Or.inl rfl)⟩ dX9_isLetter_27 (jj_le rfl) (jj_le rfl)
  · have z_c_5 := jc_nlt (a := (v_4).toInt) (b := (97)) c_5 rfl (by decide)
    refine jj_aload_n C dX9_isLetter_11 rfl ?_
    refine tt_getF C hok jk_10 0 (by decide) jw_44 (t := (2, 11, 0)) hk0 (by decide) rfl rfl hf_2 dX9_isLetter_12 ?_
    refine jj_iload_n C dX9_isLetter_15 rfl ?_
    refine tt_cald C hok (t := (0, (-2147483648), 2147483647)) ka_3 (by decide) rfl (vp_in_iff.mpr ⟨by omega, by omega⟩) dX9_isLetter_16 (fun v_6 hv_6 => ?_)
    refine jj_bipush (v := 122) C dX9_isLetter_17 (by decide) ?_
    refine jj_icmp_gt (tgt := 26) C dX9_isLetter_19 (by decide) (fun c_7 => ?_) (fun c_7 => ?_)
    · have z_c_7 := jc_lt (a := (122)) (b := (v_6).toInt) c_7 (by decide) rfl
      refine jj_iconst (v := 0) C dX9_isLetter_26 (by decide) ?_
      exact jj_zret C rfl ⟨[], pl0, rfl, rfl, hok, hfr, (Or.inl rfl)⟩ dX9_isLetter_27 (jj_le rfl) (jj_le rfl)
    · have z_c_7 := jc_nlt (a := (122)) (b := (v_6).toInt) c_7 (by decide) rfl
      refine jj_iconst (v := 1) C dX9_isLetter_22 (by decide) ?_
      refine jj_goto (tgt := 27) C dX9_isLetter_23 (by decide) ?_
      exact jj_zret C rfl ⟨[], pl0, rfl, rfl, hok, hfr, (Or.inr rfl)⟩ dX9_isLetter_27 (jj_le rfl) (jj_le rfl)

set_option maxHeartbeats 4000000 in
set_option maxRecDepth 100000 in
theorem tc_X9_isDigit_1 {l : Launch} (hl : l.stackTraces = false) (D : va_G) (cA : Nat → ClassId) (ak : (Nat → Nat) × (Nat → Nat)) {Kd : Nat → Nat} (h0 : Nat) (p1 : Int32) (hk0 : Kd h0 = 10) (lp1 : (0 : Int) ≤ p1.toInt) (up1 : p1.toInt ≤ 399) {pl0 : va_W} (hok : tt_ok tt_tk cA Kd pl0) : jj_M l D cA ak yX9_isDigit (.code yX9_isDigit cX9_isDigit 2 (some .boolean)) 0 0 0 0 ([] ++ pl0) [.ref h0, .int p1] (tt_O (fun rx pl1 r => rx = [] ∧ tt_ok tt_tk cA Kd pl1 ∧ tt_fr Kd [] pl0 pl1 ∧ ((r = some (.int 0)) ∨ (r = some (.int 1))))) (tt_OX (fun _ _ _ => False)) := by
  refine jj_start hl (by decide) jw_572 (jj_le rfl) ?_
  intro p e s m args below meth c A hargs hA C hex hmn
  have hfr := tt_fr.refl (K := Kd) (WS := []) pl0
  refine jj_aload_n C dX9_isDigit_0 rfl ?_
  refine tt_get C hok jk_10 0 (by decide) jw_44 (t := (2, 11, 0)) hk0 (by decide) rfl rfl dX9_isDigit_1 (fun v_1 hv_1 hf_2 => ?_)
  obtain ⟨a_3, rfl, ka_3⟩ := tt_vr hv_1
  refine jj_iload_n C dX9_isDigit_4 rfl ?_
  refine tt_cald C hok (t := (0, (-2147483648), 2147483647)) ka_3 (by decide) rfl (vp_in_iff.mpr ⟨by omega, by omega⟩) dX9_isDigit_5 (fun v_4 hv_4 => ?_)
  refine jj_bipush (v := 48) C dX9_isDigit_6 (by decide) ?_
  refine jj_icmp_lt (tgt := 26) C dX9_isDigit_8 (by decide) (fun c_5 => ?_) (fun c_5 => ?_)
  · have z_c_5 := jc_lt (a := (v_4).toInt) (b := (48)) c_5 rfl (by decide)
    refine jj_iconst (v := 0) C dX9_isDigit_26 (by decide) ?_
    exact jj_zret C rfl ⟨[], pl0, rfl, rfl, hok, hfr, (Or.inl rfl)⟩ dX9_isDigit_27 (jj_le rfl) (jj_le rfl)
  · have z_c_5 := jc_nlt (a := (v_4).toInt) (b := (48)) c_5 rfl (by decide)
    refine jj_aload_n C dX9_isDigit_11 rfl ?_
    refine tt_getF C hok jk_10 0 (by decide) jw_44 (t := (2, 11, 0)) hk0 (by decide) rfl rfl hf_2 dX9_isDigit_12 ?_
    refine jj_iload_n C dX9_isDigit_15 rfl ?_
    refine tt_cald C hok (t := (0, (-2147483648), 2147483647)) ka_3 (by decide) rfl (vp_in_iff.mpr ⟨by omega, by omega⟩) dX9_isDigit_16 (fun v_6 hv_6 => ?_)
    refine jj_bipush (v := 57) C dX9_isDigit_17 (by decide) ?_
    refine jj_icmp_gt (tgt := 26) C dX9_isDigit_19 (by decide) (fun c_7 => ?_) (fun c_7 => ?_)
    · have z_c_7 := jc_lt (a := (57)) (b := (v_6).toInt) c_7 (by decide) rfl
      refine jj_iconst (v := 0) C dX9_isDigit_26 (by decide) ?_
      exact jj_zret C rfl ⟨[], pl0, rfl, rfl, hok, hfr, (Or.inl rfl)⟩ dX9_isDigit_27 (jj_le rfl) (jj_le rfl)
    · have z_c_7 := jc_nlt (a := (57)) (b := (v_6).toInt) c_7 (by decide) rfl
      refine jj_iconst (v := 1) C dX9_isDigit_22 (by decide) ?_
      refine jj_goto (tgt := 27) C dX9_isDigit_23 (by decide) ?_
      exact jj_zret C rfl ⟨[], pl0, rfl, rfl, hok, hfr, (Or.inr rfl)⟩ dX9_isDigit_27 (jj_le rfl) (jj_le rfl)

set_option maxHeartbeats 4000000 in
set_option maxRecDepth 100000 in
theorem tc_X9_advance_1 {l : Launch} (hl : l.stackTraces = false) (D : va_G) (cA : Nat → ClassId) (ak : (Nat → Nat) × (Nat → Nat)) {Kd : Nat → Nat} (h0 : Nat) (hk0 : Kd h0 = 10) {pl0 : va_W} (hok : tt_ok tt_tk cA Kd pl0) : jj_M l D cA ak yX9_advance (.code yX9_advance cX9_advance 1 none) 1 21 0 0 ([] ++ pl0) [.ref h0] (tt_O (fun rx pl1 r => rx = [] ∧ tt_ok tt_tk cA Kd pl1 ∧ tt_fr Kd [(10, 3), (10, 4), (10, 5), (10, 6)] pl0 pl1 ∧ ((r = none)))) (tt_OX (fun _ _ _ => False)) := by
  refine jj_start hl (by decide) jw_565 (jj_le rfl) ?_
  intro p e s m args below meth c A hargs hA C hex hmn
  have hfr := tt_fr.refl (K := Kd) (WS := [(10, 3), (10, 4), (10, 5), (10, 6)]) pl0
  refine jj_aload_n C dX9_advance_0 rfl ?_
  refine jj_aload_n C dX9_advance_1 rfl ?_
  refine tt_get C hok jk_10 3 (by decide) jw_541 (t := (0, 0, 400)) hk0 (by decide) rfl rfl dX9_advance_2 (fun v_1 hv_1 hf_2 => ?_)
  obtain ⟨x_3, rfl, lx_3, ux_3⟩ := tt_vi hv_1
  refine tt_put C hok jk_10 4 (by decide) jw_540 (t := (0, 0, 400)) hk0 (by decide) rfl rfl rfl (tt_iv (by omega) (by omega)) rfl rfl dX9_advance_5 (fun pl_4 hok_5 tr hn => ?_)
  replace hf_2 := tr _ _ _ (Or.inr (by decide)) hf_2
  have hf_6 := hn
  replace hfr := hfr.put hk0 tr (by decide)
  have hL_7 : ∀ (N : Nat) (pl : va_W) (x_8 : Int32), True → tt_ok tt_tk cA Kd pl → tt_fr Kd [(10, 3), (10, 4), (10, 5), (10, 6)] pl0 pl → tt_at pl h0 4 (.int x_8) → (0 : Int) ≤ x_8.toInt → x_8.toInt ≤ 400 → (401 - x_8.toInt ≤ (N : Int)) → jj_J p l e (jj_rm 1 21 0 0) s m args below meth c 1 A (vx_MQ below (jj_q D A (tt_O (fun rx pl1 r => rx = [] ∧ tt_ok tt_tk cA Kd pl1 ∧ tt_fr Kd [(10, 3), (10, 4), (10, 5), (10, 6)] pl0 pl1 ∧ ((r = none))))) (jj_x D A (tt_OX (fun _ _ _ => False))) args s 0 0 A) (jj_X D A ([] ++ pl)) 0 0 8 [(0, .ref h0)] [] := by
    intro NL_7
    induction NL_7 with
    | zero => intro pl x_8 _ hok hfr hf_9 lx_8 ux_8 hNL_7; exfalso; omega
    | succ NL_7 ihL_7 =>
      intro pl x_8 _ hok hfr hf_9 lx_8 ux_8 hNL_7
      replace ihL_7 := fun pl x_8 h1 => ihL_7 pl x_8 trivial h1
      refine jj_aload_n C dX9_advance_8 rfl ?_
      refine tt_getF C hok jk_10 4 (by decide) jw_540 (t := (0, 0, 400)) hk0 (by decide) rfl rfl hf_9 dX9_advance_9 ?_
      refine jj_aload_n C dX9_advance_12 rfl ?_
      refine tt_get C hok jk_10 2 (by decide) jw_539 (t := (0, 0, 400)) hk0 (by decide) rfl rfl dX9_advance_13 (fun v_10 hv_10 hf_11 => ?_)
      obtain ⟨x_12, rfl, lx_12, ux_12⟩ := tt_vi hv_10
      refine jj_icmp_ge (tgt := 60) C dX9_advance_16 (by decide) (fun c_13 => ?_) (fun c_13 => ?_)
      · have z_c_13 := jc_le (a := (x_12).toInt) (b := (x_8).toInt) c_13 rfl rfl
        refine jj_aload_n C dX9_advance_60 rfl ?_
        refine jj_aload_n C dX9_advance_61 rfl ?_
        refine tt_getF C hok jk_10 4 (by decide) jw_540 (t := (0, 0, 400)) hk0 (by decide) rfl rfl hf_9 dX9_advance_62 ?_
        refine tt_put C hok jk_10 3 (by decide) jw_541 (t := (0, 0, 400)) hk0 (by decide) rfl rfl rfl (tt_iv (by omega) (by omega)) rfl rfl dX9_advance_65 (fun pl_14 hok_15 tr hn => ?_)
        replace hf_9 := tr _ _ _ (Or.inr (by decide)) hf_9
        replace hf_11 := tr _ _ _ (Or.inr (by decide)) hf_11
        have hf_16 := hn
        replace hfr := hfr.put hk0 tr (by decide)
        refine jj_aload_n C dX9_advance_68 rfl ?_
        refine tt_getF C hok_15 jk_10 4 (by decide) jw_540 (t := (0, 0, 400)) hk0 (by decide) rfl rfl hf_9 dX9_advance_69 ?_
        refine jj_aload_n C dX9_advance_72 rfl ?_
        refine tt_getF C hok_15 jk_10 2 (by decide) jw_539 (t := (0, 0, 400)) hk0 (by decide) rfl rfl hf_11 dX9_advance_73 ?_
        refine jj_icmp_ltF (tgt := 87) C dX9_advance_76 (by decide) (by first | exact Int64.not_lt.mpr c_13 | exact Int32.not_lt.mpr c_13) ?_
        refine jj_aload_n C dX9_advance_79 rfl ?_
        refine jj_iconst (v := 0) C dX9_advance_80 (by decide) ?_
        refine tt_put C hok_15 jk_10 5 (by decide) jw_542 (t := (0, (-2147483648), 2147483647)) hk0 (by decide) rfl rfl rfl (tt_ia (0 : Int32)) rfl rfl dX9_advance_81 (fun pl_17 hok_18 tr hn => ?_)
        replace hf_9 := tr _ _ _ (Or.inr (by decide)) hf_9
        replace hf_11 := tr _ _ _ (Or.inr (by decide)) hf_11
        replace hf_16 := tr _ _ _ (Or.inr (by decide)) hf_16
        have hf_19 := hn
        replace hfr := hfr.put hk0 tr (by decide)
        refine jj_goto (tgt := 269) C dX9_advance_84 (by decide) ?_
        exact jj_vret C ⟨[], pl_17, rfl, rfl, hok_18, hfr, rfl⟩ dX9_advance_269 (jj_le rfl) (jj_le rfl)
      · have z_c_13 := jc_nle (a := (x_12).toInt) (b := (x_8).toInt) c_13 rfl rfl
        refine jj_aload_n C dX9_advance_19 rfl ?_
        refine tt_get C hok jk_10 0 (by decide) jw_44 (t := (2, 11, 0)) hk0 (by decide) rfl rfl dX9_advance_20 (fun v_20 hv_20 hf_21 => ?_)
        obtain ⟨a_22, rfl, ka_22⟩ := tt_vr hv_20
        refine jj_aload_n C dX9_advance_23 rfl ?_
        refine tt_getF C hok jk_10 4 (by decide) jw_540 (t := (0, 0, 400)) hk0 (by decide) rfl rfl hf_9 dX9_advance_24 ?_
        refine tt_cald C hok (t := (0, (-2147483648), 2147483647)) ka_22 (by decide) rfl (vp_in_iff.mpr ⟨by omega, by omega⟩) dX9_advance_27 (fun v_23 hv_23 => ?_)
        refine jj_bipush (v := 32) C dX9_advance_28 (by decide) ?_
        refine jj_icmp_eq (tgt := 47) C dX9_advance_30 (by decide) (fun c_24 => ?_) (fun c_24 => ?_)
        · have z_c_24 := jc_eq (a := (v_23).toInt) (b := (32)) c_24 rfl (by decide)
          refine jj_aload_n C dX9_advance_47 rfl ?_
          refine jj_dup C dX9_advance_48 rfl ?_
          refine tt_getF C hok jk_10 4 (by decide) jw_540 (t := (0, 0, 400)) hk0 (by decide) rfl rfl hf_9 dX9_advance_49 ?_
          refine jj_iconst (v := 1) C dX9_advance_52 (by decide) ?_
          obtain ⟨x_25, ex_25, vx_25⟩ := tt_iadd (x := x_8) (y := (1 : Int32)) (a := x_8.toInt) rfl (b := 1) (by decide) (by omega) (by omega)
          refine jj_iadd (v := x_25) C dX9_advance_53 ex_25 ?_
          refine tt_put C hok jk_10 4 (by decide) jw_540 (t := (0, 0, 400)) hk0 (by decide) rfl rfl rfl (tt_iv (by omega) (by omega)) rfl rfl dX9_advance_54 (fun pl_26 hok_27 tr hn => ?_)
          replace hf_11 := tr _ _ _ (Or.inr (by decide)) hf_11
          replace hf_21 := tr _ _ _ (Or.inr (by decide)) hf_21
          have hf_28 := hn
          replace hfr := hfr.put hk0 tr (by decide)
          refine jj_goto (tgt := 8) C dX9_advance_57 (by decide) ?_
          exact ihL_7 pl_26 x_25 hok_27 hfr hf_28 (by first | omega | decide | exact tt_lo _ | exact tt_hi _) (by first | omega | decide | exact tt_lo _ | exact tt_hi _) (by first | omega | decide | exact tt_lo _ | exact tt_hi _)
        · have z_c_24 := jc_neq (a := (v_23).toInt) (b := (32)) c_24 rfl (by decide)
          refine jj_aload_n C dX9_advance_33 rfl ?_
          refine tt_getF C hok jk_10 0 (by decide) jw_44 (t := (2, 11, 0)) hk0 (by decide) rfl rfl hf_21 dX9_advance_34 ?_
          refine jj_aload_n C dX9_advance_37 rfl ?_
          refine tt_getF C hok jk_10 4 (by decide) jw_540 (t := (0, 0, 400)) hk0 (by decide) rfl rfl hf_9 dX9_advance_38 ?_
          refine tt_cald C hok (t := (0, (-2147483648), 2147483647)) ka_22 (by decide) rfl (vp_in_iff.mpr ⟨by omega, by omega⟩) dX9_advance_41 (fun v_29 hv_29 => ?_)
          refine jj_bipush (v := 10) C dX9_advance_42 (by decide) ?_
          refine jj_icmp_ne (tgt := 60) C dX9_advance_44 (by decide) (fun c_30 => ?_) (fun c_30 => ?_)
          · have z_c_30 := jc_neq (a := (v_29).toInt) (b := (10)) c_30 rfl (by decide)
            refine jj_aload_n C dX9_advance_60 rfl ?_
            refine jj_aload_n C dX9_advance_61 rfl ?_
            refine tt_getF C hok jk_10 4 (by decide) jw_540 (t := (0, 0, 400)) hk0 (by decide) rfl rfl hf_9 dX9_advance_62 ?_
            refine tt_put C hok jk_10 3 (by decide) jw_541 (t := (0, 0, 400)) hk0 (by decide) rfl rfl rfl (tt_iv (by omega) (by omega)) rfl rfl dX9_advance_65 (fun pl_31 hok_32 tr hn => ?_)
            replace hf_9 := tr _ _ _ (Or.inr (by decide)) hf_9
            replace hf_11 := tr _ _ _ (Or.inr (by decide)) hf_11
            replace hf_21 := tr _ _ _ (Or.inr (by decide)) hf_21
            have hf_33 := hn
            replace hfr := hfr.put hk0 tr (by decide)
            refine jj_aload_n C dX9_advance_68 rfl ?_
            refine tt_getF C hok_32 jk_10 4 (by decide) jw_540 (t := (0, 0, 400)) hk0 (by decide) rfl rfl hf_9 dX9_advance_69 ?_
            refine jj_aload_n C dX9_advance_72 rfl ?_
            refine tt_getF C hok_32 jk_10 2 (by decide) jw_539 (t := (0, 0, 400)) hk0 (by decide) rfl rfl hf_11 dX9_advance_73 ?_
            refine jj_icmp_ltT (tgt := 87) C dX9_advance_76 (by decide) (by first | exact Int64.not_le.mp c_13 | exact Int32.not_le.mp c_13) ?_
            refine jj_aload_n C dX9_advance_87 rfl ?_
            refine jj_aload_n C dX9_advance_88 rfl ?_
            refine tt_getF C hok_32 jk_10 4 (by decide) jw_540 (t := (0, 0, 400)) hk0 (by decide) rfl rfl hf_9 dX9_advance_89 ?_
            obtain ⟨qc, gs, hqc⟩ := tt_recv (cx := []) hok_32 hk0 (by decide) rfl
            refine tt_callV (rest := []) C (tc_X9_isLetter_1 hl D cA ak h0 x_8 hk0 (by omega) (by omega) hok_32) [] [] rfl rfl (by decide) (by decide) (by decide) qc hqc rfl rfl jw_566 jw_568 jw_569 jw_42 jw_567 jn_X9_isLetter rfl (jj_le rfl) (jj_le rfl) (jj_le rfl) (jj_le rfl) (jj_le rfl) dX9_advance_92 rfl (fun _ _ _ hX => hX.elim) (fun rx pl_34 r O_37 => ?_)
            obtain ⟨rfl, hok_35, hr_36, hR_39⟩ := O_37
            replace hf_9 := hr_36.at hk0 (by decide) (by decide) hf_9
            replace hf_11 := hr_36.at hk0 (by decide) (by decide) hf_11
            replace hf_21 := hr_36.at hk0 (by decide) (by decide) hf_21
            replace hf_33 := hr_36.at hk0 (by decide) (by decide) hf_33
            replace hfr := hfr.trans (hr_36.sub (by decide))
            rcases hR_39 with rfl | rfl
            · refine jj_if_eqT (tgt := 138) C dX9_advance_95 (by decide) (by decide) ?_
              refine jj_aload_n C dX9_advance_138 rfl ?_
              refine jj_aload_n C dX9_advance_139 rfl ?_
              refine tt_getF C hok_35 jk_10 4 (by decide) jw_540 (t := (0, 0, 400)) hk0 (by decide) rfl rfl hf_9 dX9_advance_140 ?_
              obtain ⟨qc, gs, hqc⟩ := tt_recv (cx := []) hok_35 hk0 (by decide) rfl
              refine tt_callV (rest := []) C (tc_X9_isDigit_1 hl D cA ak h0 x_8 hk0 (by omega) (by omega) hok_35) [] [] rfl rfl (by decide) (by decide) (by decide) qc hqc rfl rfl jw_571 jw_573 jw_574 jw_42 jw_572 jn_X9_isDigit rfl (jj_le rfl) (jj_le rfl) (jj_le rfl) (jj_le rfl) (jj_le rfl) dX9_advance_143 rfl (fun _ _ _ hX => hX.elim) (fun rx pl_40 r O_43 => ?_)
              obtain ⟨rfl, hok_41, hr_42, hR_45⟩ := O_43
              replace hf_9 := hr_42.at hk0 (by decide) (by decide) hf_9
              replace hf_11 := hr_42.at hk0 (by decide) (by decide) hf_11
              replace hf_21 := hr_42.at hk0 (by decide) (by decide) hf_21
              replace hf_33 := hr_42.at hk0 (by decide) (by decide) hf_33
              replace hfr := hfr.trans (hr_42.sub (by decide))
              rcases hR_45 with rfl | rfl
              · refine jj_if_eqT (tgt := 236) C dX9_advance_146 (by decide) (by decide) ?_
                refine jj_aload_n C dX9_advance_236 rfl ?_
                refine jj_aload_n C dX9_advance_237 rfl ?_
                refine tt_getF C hok_41 jk_10 0 (by decide) jw_44 (t := (2, 11, 0)) hk0 (by decide) rfl rfl hf_21 dX9_advance_238 ?_
                refine jj_aload_n C dX9_advance_241 rfl ?_
                refine tt_getF C hok_41 jk_10 4 (by decide) jw_540 (t := (0, 0, 400)) hk0 (by decide) rfl rfl hf_9 dX9_advance_242 ?_
                refine tt_cald C hok_41 (t := (0, (-2147483648), 2147483647)) ka_22 (by decide) rfl (vp_in_iff.mpr ⟨by omega, by omega⟩) dX9_advance_245 (fun v_46 hv_46 => ?_)
                refine jj_bipush (v := 59) C dX9_advance_246 (by decide) ?_
                refine jj_icmp_ne (tgt := 255) C dX9_advance_248 (by decide) (fun c_47 => ?_) (fun c_47 => ?_)
                · have z_c_47 := jc_neq (a := (v_46).toInt) (b := (59)) c_47 rfl (by decide)
                  refine jj_iconst (v := 4) C dX9_advance_255 (by decide) ?_
                  refine tt_put C hok_41 jk_10 5 (by decide) jw_542 (t := (0, (-2147483648), 2147483647)) hk0 (by decide) rfl rfl rfl (tt_ia (4 : Int32)) rfl rfl dX9_advance_256 (fun pl_48 hok_49 tr hn => ?_)
                  replace hf_9 := tr _ _ _ (Or.inr (by decide)) hf_9
                  replace hf_11 := tr _ _ _ (Or.inr (by decide)) hf_11
                  replace hf_21 := tr _ _ _ (Or.inr (by decide)) hf_21
                  replace hf_33 := tr _ _ _ (Or.inr (by decide)) hf_33
                  have hf_50 := hn
                  replace hfr := hfr.put hk0 tr (by decide)
                  refine jj_aload_n C dX9_advance_259 rfl ?_
                  refine jj_aload_n C dX9_advance_260 rfl ?_
                  refine tt_getF C hok_49 jk_10 4 (by decide) jw_540 (t := (0, 0, 400)) hk0 (by decide) rfl rfl hf_9 dX9_advance_261 ?_
                  refine jj_iconst (v := 1) C dX9_advance_264 (by decide) ?_
                  obtain ⟨x_51, ex_51, vx_51⟩ := tt_iadd (x := x_8) (y := (1 : Int32)) (a := x_8.toInt) rfl (b := 1) (by decide) (by omega) (by omega)
                  refine jj_iadd (v := x_51) C dX9_advance_265 ex_51 ?_
                  refine tt_put C hok_49 jk_10 3 (by decide) jw_541 (t := (0, 0, 400)) hk0 (by decide) rfl rfl rfl (tt_iv (by omega) (by omega)) rfl rfl dX9_advance_266 (fun pl_52 hok_53 tr hn => ?_)
                  replace hf_9 := tr _ _ _ (Or.inr (by decide)) hf_9
                  replace hf_11 := tr _ _ _ (Or.inr (by decide)) hf_11
                  replace hf_21 := tr _ _ _ (Or.inr (by decide)) hf_21
                  replace hf_50 := tr _ _ _ (Or.inr (by decide)) hf_50
                  have hf_54 := hn
                  replace hfr := hfr.put hk0 tr (by decide)
                  exact jj_vret C ⟨[], pl_52, rfl, rfl, hok_53, hfr, rfl⟩ dX9_advance_269 (jj_le rfl) (jj_le rfl)
                · have z_c_47 := jc_eq (a := (v_46).toInt) (b := (59)) c_47 rfl (by decide)
                  refine jj_iconst (v := 3) C dX9_advance_251 (by decide) ?_
                  refine jj_goto (tgt := 256) C dX9_advance_252 (by decide) ?_
                  refine tt_put C hok_41 jk_10 5 (by decide) jw_542 (t := (0, (-2147483648), 2147483647)) hk0 (by decide) rfl rfl rfl (tt_ia (3 : Int32)) rfl rfl dX9_advance_256 (fun pl_55 hok_56 tr hn => ?_)
                  replace hf_9 := tr _ _ _ (Or.inr (by decide)) hf_9
                  replace hf_11 := tr _ _ _ (Or.inr (by decide)) hf_11
                  replace hf_21 := tr _ _ _ (Or.inr (by decide)) hf_21
                  replace hf_33 := tr _ _ _ (Or.inr (by decide)) hf_33
                  have hf_57 := hn
                  replace hfr := hfr.put hk0 tr (by decide)
                  refine jj_aload_n C dX9_advance_259 rfl ?_
                  refine jj_aload_n C dX9_advance_260 rfl ?_
                  refine tt_getF C hok_56 jk_10 4 (by decide) jw_540 (t := (0, 0, 400)) hk0 (by decide) rfl rfl hf_9 dX9_advance_261 ?_
                  refine jj_iconst (v := 1) C dX9_advance_264 (by decide) ?_
                  obtain ⟨x_58, ex_58, vx_58⟩ := tt_iadd (x := x_8) (y := (1 : Int32)) (a := x_8.toInt) rfl (b := 1) (by decide) (by omega) (by omega)
                  refine jj_iadd (v := x_58) C dX9_advance_265 ex_58 ?_
                  refine tt_put C hok_56 jk_10 3 (by decide) jw_541 (t := (0, 0, 400)) hk0 (by decide) rfl rfl rfl (tt_iv (by omega) (by omega)) rfl rfl dX9_advance_266 (fun pl_59 hok_60 tr hn => ?_)
                  replace hf_9 := tr _ _ _ (Or.inr (by decide)) hf_9
                  replace hf_11 := tr _ _ _ (Or.inr (by decide)) hf_11
                  replace hf_21 := tr _ _ _ (Or.inr (by decide)) hf_21
                  replace hf_57 := tr _ _ _ (Or.inr (by decide)) hf_57
                  have hf_61 := hn
                  replace hfr := hfr.put hk0 tr (by decide)
                  exact jj_vret C ⟨[], pl_59, rfl, rfl, hok_60, hfr, rfl⟩ dX9_advance_269 (jj_le rfl) (jj_le rfl)
              · refine jj_if_eqF (tgt := 236) C dX9_advance_146 (by decide) (by decide) ?_
                refine jj_aload_n C dX9_advance_149 rfl ?_
                refine jj_iconst (v := 2) C dX9_advance_150 (by decide) ?_
                refine tt_put C hok_41 jk_10 5 (by decide) jw_542 (t := (0, (-2147483648), 2147483647)) hk0 (by decide) rfl rfl rfl (tt_ia (2 : Int32)) rfl rfl dX9_advance_151 (fun pl_62 hok_63 tr hn => ?_)
                replace hf_9 := tr _ _ _ (Or.inr (by decide)) hf_9
                replace hf_11 := tr _ _ _ (Or.inr (by decide)) hf_11
                replace hf_21 := tr _ _ _ (Or.inr (by decide)) hf_21
                replace hf_33 := tr _ _ _ (Or.inr (by decide)) hf_33
                have hf_64 := hn
                replace hfr := hfr.put hk0 tr (by decide)
                refine jj_aload_n C dX9_advance_154 rfl ?_
                refine jj_iconst (v := 0) C dX9_advance_155 (by decide) ?_
                refine tt_put C hok_63 jk_10 6 (by decide) jw_576 (t := (0, (-2147483648), 2147483647)) hk0 (by decide) rfl rfl rfl (tt_ia (0 : Int32)) rfl rfl dX9_advance_156 (fun pl_65 hok_66 tr hn => ?_)
                replace hf_9 := tr _ _ _ (Or.inr (by decide)) hf_9
                replace hf_11 := tr _ _ _ (Or.inr (by decide)) hf_11
                replace hf_21 := tr _ _ _ (Or.inr (by decide)) hf_21
                replace hf_33 := tr _ _ _ (Or.inr (by decide)) hf_33
                replace hf_64 := tr _ _ _ (Or.inr (by decide)) hf_64
                have hf_67 := hn
                replace hfr := hfr.put hk0 tr (by decide)
                have hL_68 : ∀ (N : Nat) (pl : va_W) (x_71 : Int32), True → tt_ok tt_tk cA Kd pl → tt_fr Kd [(10, 3), (10, 4), (10, 5), (10, 6)] pl0 pl → tt_at pl h0 2 (.int x_12) → tt_at pl h0 0 (.ref a_22) → tt_at pl h0 3 (.int x_71) → (0 : Int) ≤ x_71.toInt → x_71.toInt ≤ 400 → (401 - x_71.toInt ≤ (N : Int)) → jj_J p l e (jj_rm 1 21 0 0) s m args below meth c 1 A (vx_MQ below (jj_q D A (tt_O (fun rx pl1 r => rx = [] ∧ tt_ok tt_tk cA Kd pl1 ∧ tt_fr Kd [(10, 3), (10, 4), (10, 5), (10, 6)] pl0 pl1 ∧ ((r = none))))) (jj_x D A (tt_OX (fun _ _ _ => False))) args s 0 0 A) (jj_X D A ([] ++ pl)) 0 0 159 [(0, .ref h0)] [] := by
                  intro NL_68
                  induction NL_68 with
                  | zero => intro pl x_71 _ hok hfr hf_69 hf_70 hf_72 lx_71 ux_71 hNL_68; exfalso; omega
                  | succ NL_68 ihL_68 =>
                    intro pl x_71 _ hok hfr hf_69 hf_70 hf_72 lx_71 ux_71 hNL_68
                    replace ihL_68 := fun pl x_71 h1 => ihL_68 pl x_71 trivial h1
                    refine jj_aload_n C dX9_advance_159 rfl ?_
                    refine tt_getF C hok jk_10 3 (by decide) jw_541 (t := (0, 0, 400)) hk0 (by decide) rfl rfl hf_72 dX9_advance_160 ?_
                    refine jj_aload_n C dX9_advance_163 rfl ?_
                    refine tt_getF C hok jk_10 2 (by decide) jw_539 (t := (0, 0, 400)) hk0 (by decide) rfl rfl hf_69 dX9_advance_164 ?_
                    refine jj_icmp_ge (tgt := 269) C dX9_advance_167 (by decide) (fun c_73 => ?_) (fun c_73 => ?_)
                    · have z_c_73 := jc_le (a := (x_12).toInt) (b := (x_71).toInt) c_73 rfl rfl
                      exact jj_vret C ⟨[], pl, rfl, rfl, hok, hfr, rfl⟩ dX9_advance_269 (jj_le rfl) (jj_le rfl)
                    · have z_c_73 := jc_nle (a := (x_12).toInt) (b := (x_71).toInt) c_73 rfl rfl
                      refine jj_aload_n C dX9_advance_170 rfl ?_
                      refine jj_aload_n C dX9_advance_171 rfl ?_
                      refine tt_getF C hok jk_10 3 (by decide) jw_541 (t := (0, 0, 400)) hk0 (by decide) rfl rfl hf_72 dX9_advance_172 ?_
                      obtain ⟨qc, gs, hqc⟩ := tt_recv (cx := []) hok hk0 (by decide) rfl
                      refine tt_callV (rest := []) C (tc_X9_isDigit_1 hl D cA ak h0 x_71 hk0 (by omega) (by omega) hok) [] [] rfl rfl (by decide) (by decide) (by decide) qc hqc rfl rfl jw_571 jw_573 jw_574 jw_42 jw_572 jn_X9_isDigit rfl (jj_le rfl) (jj_le rfl) (jj_le rfl) (jj_le rfl) (jj_le rfl) dX9_advance_175 rfl (fun _ _ _ hX => hX.elim) (fun rx pl_74 r O_77 => ?_)
                      obtain ⟨rfl, hok_75, hr_76, hR_79⟩ := O_77
                      replace hf_69 := hr_76.at hk0 (by decide) (by decide) hf_69
                      replace hf_70 := hr_76.at hk0 (by decide) (by decide) hf_70
                      replace hf_72 := hr_76.at hk0 (by decide) (by decide) hf_72
                      replace hfr := hfr.trans (hr_76.sub (by decide))
                      rcases hR_79 with rfl | rfl
                      · refine jj_if_eqT (tgt := 269) C dX9_advance_178 (by decide) (by decide) ?_
                        exact jj_vret C ⟨[], pl_74, rfl, rfl, hok_75, hfr, rfl⟩ dX9_advance_269 (jj_le rfl) (jj_le rfl)
                      · refine jj_if_eqF (tgt := 269) C dX9_advance_178 (by decide) (by decide) ?_
                        refine jj_aload_n C dX9_advance_181 rfl ?_
                        refine jj_aload_n C dX9_advance_182 rfl ?_
                        refine tt_getF C hok_75 jk_10 3 (by decide) jw_541 (t := (0, 0, 400)) hk0 (by decide) rfl rfl hf_72 dX9_advance_183 ?_
                        refine jj_aload_n C dX9_advance_186 rfl ?_
                        refine tt_get C hok_75 jk_10 4 (by decide) jw_540 (t := (0, 0, 400)) hk0 (by decide) rfl rfl dX9_advance_187 (fun v_80 hv_80 hf_81 => ?_)
                        obtain ⟨x_82, rfl, lx_82, ux_82⟩ := tt_vi hv_80
                        obtain ⟨x_83, ex_83, vx_83⟩ := tt_isub (x := x_71) (y := x_82) (a := x_71.toInt) rfl (b := x_82.toInt) rfl (by omega) (by omega)
                        refine jj_isub (v := x_83) C dX9_advance_190 ex_83 ?_
                        refine jj_bipush (v := 7) C dX9_advance_191 (by decide) ?_
                        refine jj_icmp_ge (tgt := 219) C dX9_advance_193 (by decide) (fun c_84 => ?_) (fun c_84 => ?_)
                        · have z_c_84 := jc_le (a := (7)) (b := (x_83).toInt) c_84 (by decide) rfl
                          refine jj_iconst (v := (-1)) C dX9_advance_219 (by decide) ?_
                          refine tt_put C hok_75 jk_10 6 (by decide) jw_576 (t := (0, (-2147483648), 2147483647)) hk0 (by decide) rfl rfl rfl (tt_ia ((-1) : Int32)) rfl rfl dX9_advance_220 (fun pl_85 hok_86 tr hn => ?_)
                          replace hf_69 := tr _ _ _ (Or.inr (by decide)) hf_69
                          replace hf_70 := tr _ _ _ (Or.inr (by decide)) hf_70
                          replace hf_72 := tr _ _ _ (Or.inr (by decide)) hf_72
                          replace hf_81 := tr _ _ _ (Or.inr (by decide)) hf_81
                          have hf_87 := hn
                          replace hfr := hfr.put hk0 tr (by decide)
                          refine jj_aload_n C dX9_advance_223 rfl ?_
                          refine jj_dup C dX9_advance_224 rfl ?_
                          refine tt_getF C hok_86 jk_10 3 (by decide) jw_541 (t := (0, 0, 400)) hk0 (by decide) rfl rfl hf_72 dX9_advance_225 ?_
                          refine jj_iconst (v := 1) C dX9_advance_228 (by decide) ?_
                          obtain ⟨x_88, ex_88, vx_88⟩ := tt_iadd (x := x_71) (y := (1 : Int32)) (a := x_71.toInt) rfl (b := 1) (by decide) (by omega) (by omega)
                          refine jj_iadd (v := x_88) C dX9_advance_229 ex_88 ?_
                          refine tt_put C hok_86 jk_10 3 (by decide) jw_541 (t := (0, 0, 400)) hk0 (by decide) rfl rfl rfl (tt_iv (by omega) (by omega)) rfl rfl dX9_advance_230 (fun pl_89 hok_90 tr hn => ?_)
                          replace hf_69 := tr _ _ _ (Or.inr (by decide)) hf_69
                          replace hf_70 := tr _ _ _ (Or.inr (by decide)) hf_70
                          replace hf_81 := tr _ _ _ (Or.inr (by decide)) hf_81
                          replace hf_87 := tr _ _ _ (Or.inr (by decide)) hf_87
                          have hf_91 := hn
                          replace hfr := hfr.put hk0 tr (by decide)
                          refine jj_goto (tgt := 159) C dX9_advance_233 (by decide) ?_
                          exact ihL_68 pl_89 x_88 hok_90 hfr hf_69 hf_70 hf_91 (by first | omega | decide | exact tt_lo _ | exact tt_hi _) (by first | omega | decide | exact tt_lo _ | exact tt_hi _) (by first | omega | decide | exact tt_lo _ | exact tt_hi _)
                        · have z_c_84 := jc_nle (a := (7)) (b := (x_83).toInt) c_84 (by decide) rfl
                          refine jj_aload_n C dX9_advance_196 rfl ?_
                          refine tt_get C hok_75 jk_10 6 (by decide) jw_576 (t := (0, (-2147483648), 2147483647)) hk0 (by decide) rfl rfl dX9_advance_197 (fun v_92 hv_92 hf_93 => ?_)
                          obtain ⟨x_94, rfl, lx_94, ux_94⟩ := tt_vi hv_92
                          refine jj_bipush (v := 10) C dX9_advance_200 (by decide) ?_
                          obtain ⟨x_95, ex_95⟩ : ∃ z : Int32, x_94 * (10 : Int32) = z := ⟨_, rfl⟩
                          refine jj_imul (v := x_95) C dX9_advance_202 ex_95 ?_
                          refine jj_aload_n C dX9_advance_203 rfl ?_
                          refine tt_getF C hok_75 jk_10 0 (by decide) jw_44 (t := (2, 11, 0)) hk0 (by decide) rfl rfl hf_70 dX9_advance_204 ?_
                          refine jj_aload_n C dX9_advance_207 rfl ?_
                          refine tt_getF C hok_75 jk_10 3 (by decide) jw_541 (t := (0, 0, 400)) hk0 (by decide) rfl rfl hf_72 dX9_advance_208 ?_
                          refine tt_cald C hok_75 (t := (0, (-2147483648), 2147483647)) ka_22 (by decide) rfl (vp_in_iff.mpr ⟨by omega, by omega⟩) dX9_advance_211 (fun v_96 hv_96 => ?_)
                          refine jj_bipush (v := 48) C dX9_advance_212 (by decide) ?_
                          obtain ⟨x_97, ex_97⟩ : ∃ z : Int32, v_96 - (48 : Int32) = z := ⟨_, rfl⟩
                          refine jj_isub (v := x_97) C dX9_advance_214 ex_97 ?_
                          obtain ⟨x_98, ex_98⟩ : ∃ z : Int32, x_95 + x_97 = z := ⟨_, rfl⟩
                          refine jj_iadd (v := x_98) C dX9_advance_215 ex_98 ?_
                          refine jj_goto (tgt := 220) C dX9_advance_216 (by decide) ?_
                          refine tt_put C hok_75 jk_10 6 (by decide) jw_576 (t := (0, (-2147483648), 2147483647)) hk0 (by decide) rfl rfl rfl (tt_ia x_98) rfl rfl dX9_advance_220 (fun pl_99 hok_100 tr hn => ?_)
                          replace hf_69 := tr _ _ _ (Or.inr (by decide)) hf_69
                          replace hf_70 := tr _ _ _ (Or.inr (by decide)) hf_70
                          replace hf_72 := tr _ _ _ (Or.inr (by decide)) hf_72
                          replace hf_81 := tr _ _ _ (Or.inr (by decide)) hf_81
                          have hf_101 := hn
                          replace hfr := hfr.put hk0 tr (by decide)
                          refine jj_aload_n C dX9_advance_223 rfl ?_
                          refine jj_dup C dX9_advance_224 rfl ?_
                          refine tt_getF C hok_100 jk_10 3 (by decide) jw_541 (t := (0, 0, 400)) hk0 (by decide) rfl rfl hf_72 dX9_advance_225 ?_
                          refine jj_iconst (v := 1) C dX9_advance_228 (by decide) ?_
                          obtain ⟨x_102, ex_102, vx_102⟩ := tt_iadd (x := x_71) (y := (1 : Int32)) (a := x_71.toInt) rfl (b := 1) (by decide) (by omega) (by omega)
                          refine jj_iadd (v := x_102) C dX9_advance_229 ex_102 ?_
                          refine tt_put C hok_100 jk_10 3 (by decide) jw_541 (t := (0, 0, 400)) hk0 (by decide) rfl rfl rfl (tt_iv (by omega) (by omega)) rfl rfl dX9_advance_230 (fun pl_103 hok_104 tr hn => ?_)
                          replace hf_69 := tr _ _ _ (Or.inr (by decide)) hf_69
                          replace hf_70 := tr _ _ _ (Or.inr (by decide)) hf_70
                          replace hf_81 := tr _ _ _ (Or.inr (by decide)) hf_81
                          replace hf_101 := tr _ _ _ (Or.inr (by decide)) hf_101
                          have hf_105 := hn
                          replace hfr := hfr.put hk0 tr (by decide)
                          refine jj_goto (tgt := 159) C dX9_advance_233 (by decide) ?_
                          exact ihL_68 pl_103 x_102 hok_104 hfr hf_69 hf_70 hf_105 (by first | omega | decide | exact tt_lo _ | exact tt_hi _) (by first | omega | decide | exact tt_lo _ | exact tt_hi _) (by first | omega | decide | exact tt_lo _ | exact tt_hi _)
                exact hL_68 _ pl_65 x_8 trivial hok_66 hfr hf_11 hf_21 hf_33 (by first | omega | decide | exact tt_lo _ | exact tt_hi _) (by first | omega | decide | exact tt_lo _ | exact tt_hi _) (Int.self_le_toNat _)
            · refine jj_if_eqF (tgt := 138) C dX9_advance_95 (by decide) (by decide) ?_
              refine jj_aload_n C dX9_advance_98 rfl ?_
              refine jj_iconst (v := 1) C dX9_advance_99 (by decide) ?_
              refine tt_put C hok_35 jk_10 5 (by decide) jw_542 (t := (0, (-2147483648), 2147483647)) hk0 (by decide) rfl rfl rfl (tt_ia (1 : Int32)) rfl rfl dX9_advance_100 (fun pl_106 hok_107 tr hn => ?_)
              replace hf_9 := tr _ _ _ (Or.inr (by decide)) hf_9
              replace hf_11 := tr _ _ _ (Or.inr (by decide)) hf_11
              replace hf_21 := tr _ _ _ (Or.inr (by decide)) hf_21
              replace hf_33 := tr _ _ _ (Or.inr (by decide)) hf_33
              have hf_108 := hn
              replace hfr := hfr.put hk0 tr (by decide)
              have hL_109 : ∀ (N : Nat) (pl : va_W) (x_112 : Int32), True → tt_ok tt_tk cA Kd pl → tt_fr Kd [(10, 3), (10, 4), (10, 5), (10, 6)] pl0 pl → tt_at pl h0 2 (.int x_12) → tt_at pl h0 0 (.ref a_22) → tt_at pl h0 3 (.int x_112) → (0 : Int) ≤ x_112.toInt → x_112.toInt ≤ 400 → (401 - x_112.toInt ≤ (N : Int)) → jj_J p l e (jj_rm 1 21 0 0) s m args below meth c 1 A (vx_MQ below (jj_q D A (tt_O (fun rx pl1 r => rx = [] ∧ tt_ok tt_tk cA Kd pl1 ∧ tt_fr Kd [(10, 3), (10, 4), (10, 5), (10, 6)] pl0 pl1 ∧ ((r = none))))) (jj_x D A (tt_OX (fun _ _ _ => False))) args s 0 0 A) (jj_X D A ([] ++ pl)) 0 0 103 [(0, .ref h0)] [] := by
                intro NL_109
                induction NL_109 with
                | zero => intro pl x_112 _ hok hfr hf_110 hf_111 hf_113 lx_112 ux_112 hNL_109; exfalso; omega
                | succ NL_109 ihL_109 =>
                  intro pl x_112 _ hok hfr hf_110 hf_111 hf_113 lx_112 ux_112 hNL_109
                  replace ihL_109 := fun pl x_112 h1 => ihL_109 pl x_112 trivial h1
                  refine jj_aload_n C dX9_advance_103 rfl ?_
                  refine tt_getF C hok jk_10 3 (by decide) jw_541 (t := (0, 0, 400)) hk0 (by decide) rfl rfl hf_113 dX9_advance_104 ?_
                  refine jj_aload_n C dX9_advance_107 rfl ?_
                  refine tt_getF C hok jk_10 2 (by decide) jw_539 (t := (0, 0, 400)) hk0 (by decide) rfl rfl hf_110 dX9_advance_108 ?_
                  refine jj_icmp_ge (tgt := 269) C dX9_advance_111 (by decide) (fun c_114 => ?_) (fun c_114 => ?_)
                  · have z_c_114 := jc_le (a := (x_12).toInt) (b := (x_112).toInt) c_114 rfl rfl
                    exact jj_vret C ⟨[], pl, rfl, rfl, hok, hfr, rfl⟩ dX9_advance_269 (jj_le rfl) (jj_le rfl)
                  · have z_c_114 := jc_nle (a := (x_12).toInt) (b := (x_112).toInt) c_114 rfl rfl
                    refine jj_aload_n C dX9_advance_114 rfl ?_
                    refine jj_aload_n C dX9_advance_115 rfl ?_
                    refine tt_getF C hok jk_10 3 (by decide) jw_541 (t := (0, 0, 400)) hk0 (by decide) rfl rfl hf_113 dX9_advance_116 ?_
                    obtain ⟨qc, gs, hqc⟩ := tt_recv (cx := []) hok hk0 (by decide) rfl
                    refine tt_callV (rest := []) C (tc_X9_isLetter_1 hl D cA ak h0 x_112 hk0 (by omega) (by omega) hok) [] [] rfl rfl (by decide) (by decide) (by decide) qc hqc rfl rfl jw_566 jw_568 jw_569 jw_42 jw_567 jn_X9_isLetter rfl (jj_le rfl) (jj_le rfl) (jj_le rfl) (jj_le rfl) (jj_le rfl) dX9_advance_119 rfl (fun _ _ _ hX => hX.elim) (fun rx pl_115 r O_118 => ?_)
                    obtain ⟨rfl, hok_116, hr_117, hR_120⟩ := O_118
                    replace hf_110 := hr_117.at hk0 (by decide) (by decide) hf_110
                    replace hf_111 := hr_117.at hk0 (by decide) (by decide) hf_111
                    replace hf_113 := hr_117.at hk0 (by decide) (by decide) hf_113
                    replace hfr := hfr.trans (hr_117.sub (by decide))
                    rcases hR_120 with rfl | rfl
                    · refine jj_if_eqT (tgt := 269) C dX9_advance_122 (by decide) (by decide) ?_
                      exact jj_vret C ⟨[], pl_115, rfl, rfl, hok_116, hfr, rfl⟩ dX9_advance_269 (jj_le rfl) (jj_le rfl)
                    · refine jj_if_eqF (tgt := 269) C dX9_advance_122 (by decide) (by decide) ?_
                      refine jj_aload_n C dX9_advance_125 rfl ?_
                      refine jj_dup C dX9_advance_126 rfl ?_
                      refine tt_getF C hok_116 jk_10 3 (by decide) jw_541 (t := (0, 0, 400)) hk0 (by decide) rfl rfl hf_113 dX9_advance_127 ?_
                      refine jj_iconst (v := 1) C dX9_advance_130 (by decide) ?_
                      obtain ⟨x_121, ex_121, vx_121⟩ := tt_iadd (x := x_112) (y := (1 : Int32)) (a := x_112.toInt) rfl (b := 1) (by decide) (by omega) (by omega)
                      refine jj_iadd (v := x_121) C dX9_advance_131 ex_121 ?_
                      refine tt_put C hok_116 jk_10 3 (by decide) jw_541 (t := (0, 0, 400)) hk0 (by decide) rfl rfl rfl (tt_iv (by omega) (by omega)) rfl rfl dX9_advance_132 (fun pl_122 hok_123 tr hn => ?_)
                      replace hf_110 := tr _ _ _ (Or.inr (by decide)) hf_110
                      replace hf_111 := tr _ _ _ (Or.inr (by decide)) hf_111
                      have hf_124 := hn
                      replace hfr := hfr.put hk0 tr (by decide)
                      refine jj_goto (tgt := 103) C dX9_advance_135 (by decide) ?_
                      exact ihL_109 pl_122 x_121 hok_123 hfr hf_110 hf_111 hf_124 (by first | omega | decide | exact tt_lo _ | exact tt_hi _) (by first | omega | decide | exact tt_lo _ | exact tt_hi _) (by first | omega | decide | exact tt_lo _ | exact tt_hi _)
              exact hL_109 _ pl_106 x_8 trivial hok_107 hfr hf_11 hf_21 hf_33 (by first | omega | decide | exact tt_lo _ | exact tt_hi _) (by first | omega | decide | exact tt_lo _ | exact tt_hi _) (Int.self_le_toNat _)
          · have z_c_30 := jc_eq (a := (v_29).toInt) (b := (10)) c_30 rfl (by decide)
            refine jj_aload_n C dX9_advance_47 rfl ?_
            refine jj_dup C dX9_advance_48 rfl ?_
            refine tt_getF C hok jk_10 4 (by decide) jw_540 (t := (0, 0, 400)) hk0 (by decide) rfl rfl hf_9 dX9_advance_49 ?_
            refine jj_iconst (v := 1) C dX9_advance_52 (by decide) ?_
            obtain ⟨x_125, ex_125, vx_125⟩ := tt_iadd (x := x_8) (y := (1 : Int32)) (a := x_8.toInt) rfl (b := 1) (by decide) (by omega) (by omega)
            refine jj_iadd (v := x_125) C dX9_advance_53 ex_125 ?_
            refine tt_put C hok jk_10 4 (by decide) jw_540 (t := (0, 0, 400)) hk0 (by decide) rfl rfl rfl (tt_iv (by omega) (by omega)) rfl rfl dX9_advance_54 (fun pl_126 hok_127 tr hn => ?_)
            replace hf_11 := tr _ _ _ (Or.inr (by decide)) hf_11
            replace hf_21 := tr _ _ _ (Or.inr (by decide)) hf_21
            have hf_128 := hn
            replace hfr := hfr.put hk0 tr (by decide)
            refine jj_goto (tgt := 8) C dX9_advance_57 (by decide) ?_
            exact ihL_7 pl_126 x_125 hok_127 hfr hf_128 (by first | omega | decide | exact tt_lo _ | exact tt_hi _) (by first | omega | decide | exact tt_lo _ | exact tt_hi _) (by first | omega | decide | exact tt_lo _ | exact tt_hi _)
  exact hL_7 _ pl_4 x_3 trivial hok_5 hfr hf_6 (by first | omega | decide | exact tt_lo _ | exact tt_hi _) (by first | omega | decide | exact tt_lo _ | exact tt_hi _) (Int.self_le_toNat _)

set_option maxHeartbeats 4000000 in
set_option maxRecDepth 100000 in
theorem tc_X9_isWord_1 {l : Launch} (hl : l.stackTraces = false) (D : va_G) (cA : Nat → ClassId) (ak : (Nat → Nat) × (Nat → Nat)) {Kd : Nat → Nat} (h0 : Nat) (hk0 : Kd h0 = 10) {pl0 : va_W} (hok : tt_ok tt_tk cA Kd pl0) : jj_M l D cA ak yX9_isWord (.code yX9_isWord cX9_isWord 3 (some .boolean)) 4 85 0 0 ([] ++ pl0) [.ref h0, .ref (ak.1 0)] (tt_O (fun rx pl1 r => rx = [] ∧ tt_ok tt_tk cA Kd pl1 ∧ tt_fr Kd [] pl0 pl1 ∧ ((r = some (.int 0)) ∨ (r = some (.int 1))))) (tt_OX (fun _ _ _ => False)) := by
  refine jj_start hl (by decide) jw_581 (jj_le rfl) ?_
  intro p e s m args below meth c A hargs hA C hex hmn
  have hfr := tt_fr.refl (K := Kd) (WS := []) pl0
  refine jj_aload_n C dX9_isWord_0 rfl ?_
  refine tt_get C hok jk_10 5 (by decide) jw_542 (t := (0, (-2147483648), 2147483647)) hk0 (by decide) rfl rfl dX9_isWord_1 (fun v_1 hv_1 hf_2 => ?_)
  obtain ⟨x_3, rfl, lx_3, ux_3⟩ := tt_vi hv_1
  refine jj_iconst (v := 1) C dX9_isWord_4 (by decide) ?_
  refine jj_icmp_ne (tgt := 24) C dX9_isWord_5 (by decide) (fun c_4 => ?_) (fun c_4 => ?_)
  · have z_c_4 := jc_neq (a := (x_3).toInt) (b := (1)) c_4 rfl (by decide)
    refine jj_iconst (v := 0) C dX9_isWord_24 (by decide) ?_
    exact jj_zret C rfl ⟨[], pl0, rfl, rfl, hok, hfr, (Or.inl rfl)⟩ dX9_isWord_25 (jj_le rfl) (jj_le rfl)
  · have z_c_4 := jc_eq (a := (x_3).toInt) (b := (1)) c_4 rfl (by decide)
    refine jj_aload_n C dX9_isWord_8 rfl ?_
    refine tt_get C hok jk_10 3 (by decide) jw_541 (t := (0, 0, 400)) hk0 (by decide) rfl rfl dX9_isWord_9 (fun v_5 hv_5 hf_6 => ?_)
    obtain ⟨x_7, rfl, lx_7, ux_7⟩ := tt_vi hv_5
    refine jj_aload_n C dX9_isWord_12 rfl ?_
    refine tt_get C hok jk_10 4 (by decide) jw_540 (t := (0, 0, 400)) hk0 (by decide) rfl rfl dX9_isWord_13 (fun v_8 hv_8 hf_9 => ?_)
    obtain ⟨x_10, rfl, lx_10, ux_10⟩ := tt_vi hv_8
    obtain ⟨x_11, ex_11, vx_11⟩ := tt_isub (x := x_7) (y := x_10) (a := x_7.toInt) rfl (b := x_10.toInt) rfl (by omega) (by omega)
    refine jj_isub (v := x_11) C dX9_isWord_16 ex_11 ?_
    refine jj_aload_n C dX9_isWord_17 rfl ?_
    refine tt_call0Vs (rest := [.int x_11]) C (ct_J0_length_8abf5_1 hl D cA ak) 0 (by decide) rfl jw_582 jw_593 jw_594 jw_584 jw_583 jn_J0_length_8abf5 rfl (jj_le rfl) (jj_le rfl) (jj_le rfl) (jj_le rfl) (jj_le rfl) dX9_isWord_18 rfl (fun w1 r O_12 => ?_)
    obtain ⟨-, rfl⟩ := O_12
    refine jj_icmp_eq (tgt := 26) C dX9_isWord_21 (by decide) (fun c_13 => ?_) (fun c_13 => ?_)
    · have z_c_13 := jc_eq (a := (x_11).toInt) (b := (4)) c_13 rfl (by decide)
      refine jj_iconst (v := 0) C dX9_isWord_26 (by decide) ?_
      refine jj_istore_n C dX9_isWord_27 (by decide) rfl ?_
      refine jj_iload_n C dX9_isWord_28 rfl ?_
      refine jj_aload_n C dX9_isWord_29 rfl ?_
      refine tt_call0Vs (rest := [.int 0]) C (ct_J0_length_8abf5_1 hl D cA ak) 0 (by decide) rfl jw_582 jw_593 jw_594 jw_584 jw_583 jn_J0_length_8abf5 rfl (jj_le rfl) (jj_le rfl) (jj_le rfl) (jj_le rfl) (jj_le rfl) dX9_isWord_30 rfl (fun w1 r O_14 => ?_)
      obtain ⟨-, rfl⟩ := O_14
      refine jj_icmp_geF (tgt := 63) C dX9_isWord_33 (by decide) (by decide) ?_
      refine jj_aload_n C dX9_isWord_36 rfl ?_
      refine tt_get C hok jk_10 0 (by decide) jw_44 (t := (2, 11, 0)) hk0 (by decide) rfl rfl dX9_isWord_37 (fun v_15 hv_15 hf_16 => ?_)
      obtain ⟨a_17, rfl, ka_17⟩ := tt_vr hv_15
      refine jj_aload_n C dX9_isWord_40 rfl ?_
      refine tt_getF C hok jk_10 4 (by decide) jw_540 (t := (0, 0, 400)) hk0 (by decide) rfl rfl hf_9 dX9_isWord_41 ?_
      refine jj_iload_n C dX9_isWord_44 rfl ?_
      obtain ⟨x_18, ex_18, vx_18⟩ := tt_iadd (x := x_10) (y := (0 : Int32)) (a := x_10.toInt) rfl (b := 0) (by decide) (by omega) (by omega)
      refine jj_iadd (v := x_18) C dX9_isWord_45 ex_18 ?_
      refine tt_cald C hok (t := (0, (-2147483648), 2147483647)) ka_17 (by decide) rfl (vp_in_iff.mpr ⟨by omega, by omega⟩) dX9_isWord_46 (fun v_19 hv_19 => ?_)
      refine jj_aload_n C dX9_isWord_47 rfl ?_
      refine jj_iload_n C dX9_isWord_48 rfl ?_
      refine tt_call0Vs (rest := [.int v_19]) C (ct_J0_charAt_5068e_1 hl D cA ak) 0 (by decide) rfl jw_596 jw_618 jw_619 jw_584 jw_597 jn_J0_charAt_5068e rfl (jj_le rfl) (jj_le rfl) (jj_le rfl) (jj_le rfl) (jj_le rfl) dX9_isWord_49 rfl (fun w1 r O_20 => ?_)
      obtain ⟨-, rfl⟩ := O_20
      refine jj_icmp_eq (tgt := 57) C dX9_isWord_52 (by decide) (fun c_21 => ?_) (fun c_21 => ?_)
      · have z_c_21 := jc_eq (a := (v_19).toInt) (b := (102)) c_21 rfl (by decide)
        refine jj_iinc (v := 1) C dX9_isWord_57 rfl (by decide) (by decide) rfl ?_
        refine jj_goto (tgt := 28) C dX9_isWord_60 (by decide) ?_
        refine jj_iload_n C dX9_isWord_28 rfl ?_
        refine jj_aload_n C dX9_isWord_29 rfl ?_
        refine tt_call0Vs (rest := [.int 1]) C (ct_J0_length_8abf5_1 hl D cA ak) 0 (by decide) rfl jw_582 jw_593 jw_594 jw_584 jw_583 jn_J0_length_8abf5 rfl (jj_le rfl) (jj_le rfl) (jj_le rfl) (jj_le rfl) (jj_le rfl) dX9_isWord_30 rfl (fun w1 r O_22 => ?_)
        obtain ⟨-, rfl⟩ := O_22
        refine jj_icmp_geF (tgt := 63) C dX9_isWord_33 (by decide) (by decide) ?_
        refine jj_aload_n C dX9_isWord_36 rfl ?_
        refine tt_getF C hok jk_10 0 (by decide) jw_44 (t := (2, 11, 0)) hk0 (by decide) rfl rfl hf_16 dX9_isWord_37 ?_
        refine jj_aload_n C dX9_isWord_40 rfl ?_
        refine tt_getF C hok jk_10 4 (by decide) jw_540 (t := (0, 0, 400)) hk0 (by decide) rfl rfl hf_9 dX9_isWord_41 ?_
        refine jj_iload_n C dX9_isWord_44 rfl ?_
        obtain ⟨x_23, ex_23, vx_23⟩ := tt_iadd (x := x_10) (y := (1 : Int32)) (a := x_10.toInt) rfl (b := 1) (by decide) (by omega) (by omega)
        refine jj_iadd (v := x_23) C dX9_isWord_45 ex_23 ?_
        refine tt_cald C hok (t := (0, (-2147483648), 2147483647)) ka_17 (by decide) rfl (vp_in_iff.mpr ⟨by omega, by omega⟩) dX9_isWord_46 (fun v_24 hv_24 => ?_)
        refine jj_aload_n C dX9_isWord_47 rfl ?_
        refine jj_iload_n C dX9_isWord_48 rfl ?_
        refine tt_call0Vs (rest := [.int v_24]) C (ct_J0_charAt_5068e_2 hl D cA ak) 0 (by decide) rfl jw_596 jw_618 jw_619 jw_584 jw_597 jn_J0_charAt_5068e rfl (jj_le rfl) (jj_le rfl) (jj_le rfl) (jj_le rfl) (jj_le rfl) dX9_isWord_49 rfl (fun w1 r O_25 => ?_)
        obtain ⟨-, rfl⟩ := O_25
        refine jj_icmp_eq (tgt := 57) C dX9_isWord_52 (by decide) (fun c_26 => ?_) (fun c_26 => ?_)
        · have z_c_26 := jc_eq (a := (v_24).toInt) (b := (117)) c_26 rfl (by decide)
          refine jj_iinc (v := 2) C dX9_isWord_57 rfl (by decide) (by decide) rfl ?_
          refine jj_goto (tgt := 28) C dX9_isWord_60 (by decide) ?_
          refine jj_iload_n C dX9_isWord_28 rfl ?_
          refine jj_aload_n C dX9_isWord_29 rfl ?_
          refine tt_call0Vs (rest := [.int 2]) C (ct_J0_length_8abf5_1 hl D cA ak) 0 (by decide) rfl jw_582 jw_593 jw_594 jw_584 jw_583 jn_J0_length_8abf5 rfl (jj_le rfl) (jj_le rfl) (jj_le rfl) (jj_le rfl) (jj_le rfl) dX9_isWord_30 rfl (fun w1 r O_27 => ?_)
          obtain ⟨-, rfl⟩ := O_27
          refine jj_icmp_geF (tgt := 63) C dX9_isWord_33 (by decide) (by decide) ?_
          refine jj_aload_n C dX9_isWord_36 rfl ?_
          refine tt_getF C hok jk_10 0 (by decide) jw_44 (t := (2, 11, 0)) hk0 (by decide) rfl rfl hf_16 dX9_isWord_37 ?_
          refine jj_aload_n C dX9_isWord_40 rfl ?_
          refine tt_getF C hok jk_10 4 (by decide) jw_540 (t := (0, 0, 400)) hk0 (by decide) rfl rfl hf_9 dX9_isWord_41 ?_
          refine jj_iload_n C dX9_isWord_44 rfl ?_
          obtain ⟨x_28, ex_28, vx_28⟩ := tt_iadd (x := x_10) (y := (2 : Int32)) (a := x_10.toInt) rfl (b := 2) (by decide) (by omega) (by omega)
          refine jj_iadd (v := x_28) C dX9_isWord_45 ex_28 ?_
          refine tt_cald C hok (t := (0, (-2147483648), 2147483647)) ka_17 (by decide) rfl (vp_in_iff.mpr ⟨by omega, by omega⟩) dX9_isWord_46 (fun v_29 hv_29 => ?_)
          refine jj_aload_n C dX9_isWord_47 rfl ?_
          refine jj_iload_n C dX9_isWord_48 rfl ?_
          refine tt_call0Vs (rest := [.int v_29]) C (ct_J0_charAt_5068e_3 hl D cA ak) 0 (by decide) rfl jw_596 jw_618 jw_619 jw_584 jw_597 jn_J0_charAt_5068e rfl (jj_le rfl) (jj_le rfl) (jj_le rfl) (jj_le rfl) (jj_le rfl) dX9_isWord_49 rfl (fun w1 r O_30 => ?_)
          obtain ⟨-, rfl⟩ := O_30
          refine jj_icmp_eq (tgt := 57) C dX9_isWord_52 (by decide) (fun c_31 => ?_) (fun c_31 => ?_)
          · have z_c_31 := jc_eq (a := (v_29).toInt) (b := (110)) c_31 rfl (by decide)
            refine jj_iinc (v := 3) C dX9_isWord_57 rfl (by decide) (by decide) rfl ?_
            refine jj_goto (tgt := 28) C dX9_isWord_60 (by decide) ?_
            refine jj_iload_n C dX9_isWord_28 rfl ?_
            refine jj_aload_n C dX9_isWord_29 rfl ?_
            refine tt_call0Vs (rest := [.int 3]) C (ct_J0_length_8abf5_1 hl D cA ak) 0 (by decide) rfl jw_582 jw_593 jw_594 jw_584 jw_583 jn_J0_length_8abf5 rfl (jj_le rfl) (jj_le rfl) (jj_le rfl) (jj_le rfl) (jj_le rfl) dX9_isWord_30 rfl (fun w1 r O_32 => ?_)
            obtain ⟨-, rfl⟩ := O_32
            refine jj_icmp_geF (tgt := 63) C dX9_isWord_33 (by decide) (by decide) ?_
            refine jj_aload_n C dX9_isWord_36 rfl ?_
            refine tt_getF C hok jk_10 0 (by decide) jw_44 (t := (2, 11, 0)) hk0 (by decide) rfl rfl hf_16 dX9_isWord_37 ?_
            refine jj_aload_n C dX9_isWord_40 rfl ?_
            refine tt_getF C hok jk_10 4 (by decide) jw_540 (t := (0, 0, 400)) hk0 (by decide) rfl rfl hf_9 dX9_isWord_41 ?_
            refine jj_iload_n C dX9_isWord_44 rfl ?_
            obtain ⟨x_33, ex_33, vx_33⟩ := tt_iadd (x := x_10) (y := (3 : Int32)) (a := x_10.toInt) rfl (b := 3) (by decide) (by omega) (by omega)
            refine jj_iadd (v := x_33) C dX9_isWord_45 ex_33 ?_
            refine tt_cald C hok (t := (0, (-2147483648), 2147483647)) ka_17 (by decide) rfl (vp_in_iff.mpr ⟨by omega, by omega⟩) dX9_isWord_46 (fun v_34 hv_34 => ?_)
            refine jj_aload_n C dX9_isWord_47 rfl ?_
            refine jj_iload_n C dX9_isWord_48 rfl ?_
            refine tt_call0Vs (rest := [.int v_34]) C (ct_J0_charAt_5068e_4 hl D cA ak) 0 (by decide) rfl jw_596 jw_618 jw_619 jw_584 jw_597 jn_J0_charAt_5068e rfl (jj_le rfl) (jj_le rfl) (jj_le rfl) (jj_le rfl) (jj_le rfl) dX9_isWord_49 rfl (fun w1 r O_35 => ?_)
            obtain ⟨-, rfl⟩ := O_35
            refine jj_icmp_eq (tgt := 57) C dX9_isWord_52 (by decide) (fun c_36 => ?_) (fun c_36 => ?_)
            · have z_c_36 := jc_eq (a := (v_34).toInt) (b := (100)) c_36 rfl (by decide)
              refine jj_iinc (v := 4) C dX9_isWord_57 rfl (by decide) (by decide) rfl ?_
              refine jj_goto (tgt := 28) C dX9_isWord_60 (by decide) ?_
              refine jj_iload_n C dX9_isWord_28 rfl ?_
              refine jj_aload_n C dX9_isWord_29 rfl ?_
              refine tt_call0Vs (rest := [.int 4]) C (ct_J0_length_8abf5_1 hl D cA ak) 0 (by decide) rfl jw_582 jw_593 jw_594 jw_584 jw_583 jn_J0_length_8abf5 rfl (jj_le rfl) (jj_le rfl) (jj_le rfl) (jj_le rfl) (jj_le rfl) dX9_isWord_30 rfl (fun w1 r O_37 => ?_)
              obtain ⟨-, rfl⟩ := O_37
              refine jj_icmp_geT (tgt := 63) C dX9_isWord_33 (by decide) (by decide) ?_
              refine jj_iconst (v := 1) C dX9_isWord_63 (by decide) ?_
              exact jj_zret C rfl ⟨[], pl0, rfl, rfl, hok, hfr, (Or.inr rfl)⟩ dX9_isWord_64 (jj_le rfl) (jj_le rfl)
            · have z_c_36 := jc_neq (a := (v_34).toInt) (b := (100)) c_36 rfl (by decide)
              refine jj_iconst (v := 0) C dX9_isWord_55 (by decide) ?_
              exact jj_zret C rfl ⟨[], pl0, rfl, rfl, hok, hfr, (Or.inl rfl)⟩ dX9_isWord_56 (jj_le rfl) (jj_le rfl)
          · have z_c_31 := jc_neq (a := (v_29).toInt) (b := (110)) c_31 rfl (by decide)
            refine jj_iconst (v := 0) C dX9_isWord_55 (by decide) ?_
            exact jj_zret C rfl ⟨[], pl0, rfl, rfl, hok, hfr, (Or.inl rfl)⟩ dX9_isWord_56 (jj_le rfl) (jj_le rfl)
        · have z_c_26 := jc_neq (a := (v_24).toInt) (b := (117)) c_26 rfl (by decide)
          refine jj_iconst (v := 0) C dX9_isWord_55 (by decide) ?_
          exact jj_zret C rfl ⟨[], pl0, rfl, rfl, hok, hfr, (Or.inl rfl)⟩ dX9_isWord_56 (jj_le rfl) (jj_le rfl)
      · have z_c_21 := jc_neq (a := (v_19).toInt) (b := (102)) c_21 rfl (by decide)
        refine jj_iconst (v := 0) C dX9_isWord_55 (by decide) ?_
        exact jj_zret C rfl ⟨[], pl0, rfl, rfl, hok, hfr, (Or.inl rfl)⟩ dX9_isWord_56 (jj_le rfl) (jj_le rfl)
    · have z_c_13 := jc_neq (a := (x_11).toInt) (b := (4)) c_13 rfl (by decide)
      refine jj_iconst (v := 0) C dX9_isWord_24 (by decide) ?_
      exact jj_zret C rfl ⟨[], pl0, rfl, rfl, hok, hfr, (Or.inl rfl)⟩ dX9_isWord_25 (jj_le rfl) (jj_le rfl)

set_option maxHeartbeats 4000000 in
set_option maxRecDepth 100000 in
theorem tc_X3_accept_1 {l : Launch} (hl : l.stackTraces = false) (D : va_G) (cA : Nat → ClassId) (ak : (Nat → Nat) × (Nat → Nat)) {Kd : Nat → Nat} (h0 : Nat) (hk0 : Kd h0 = 17) {pl0 : va_W} (hok : tt_ok tt_tk cA Kd pl0) : jj_M l D cA ak yX3_accept (.code yX3_accept cX3_accept 3 (some .boolean)) 0 0 0 0 ([] ++ pl0) [.ref h0, .int 0, .int 1] (tt_O (fun rx pl1 r => rx = [] ∧ tt_ok tt_tk cA Kd pl1 ∧ tt_fr Kd [(17, 2)] pl0 pl1 ∧ ((r = some (.int 0))))) (tt_OX (fun _ _ _ => False)) := by
  refine jj_start hl (by decide) jw_625 (jj_le rfl) ?_
  intro p e s m args below meth c A hargs hA C hex hmn
  have hfr := tt_fr.refl (K := Kd) (WS := [(17, 2)]) pl0
  refine jj_iload_n C dX3_accept_0 rfl ?_
  refine jj_if_neF (tgt := 9) C dX3_accept_1 (by decide) (by decide) ?_
  refine jj_aload_n C dX3_accept_4 rfl ?_
  refine jj_iload_n C dX3_accept_5 rfl ?_
  refine tt_put C hok jk_4 2 (by decide) jw_626 (t := (0, (-2147483648), 2147483647)) hk0 (by decide) rfl rfl rfl (tt_ia (1 : Int32)) rfl rfl dX3_accept_6 (fun pl_1 hok_2 tr hn => ?_)
  have hf_3 := hn
  replace hfr := hfr.put hk0 tr (by decide)
  refine jj_iload_n C dX3_accept_9 rfl ?_
  exact jj_zret C rfl ⟨[], pl_1, rfl, rfl, hok_2, hfr, rfl⟩ dX3_accept_10 (jj_le rfl) (jj_le rfl)

set_option maxHeartbeats 4000000 in
set_option maxRecDepth 100000 in
theorem tc_X3_accept_2 {l : Launch} (hl : l.stackTraces = false) (D : va_G) (cA : Nat → ClassId) (ak : (Nat → Nat) × (Nat → Nat)) {Kd : Nat → Nat} (h0 : Nat) (hk0 : Kd h0 = 17) {pl0 : va_W} (hok : tt_ok tt_tk cA Kd pl0) : jj_M l D cA ak yX3_accept (.code yX3_accept cX3_accept 3 (some .boolean)) 0 0 0 0 ([] ++ pl0) [.ref h0, .int 1, .int 1] (tt_O (fun rx pl1 r => rx = [] ∧ tt_ok tt_tk cA Kd pl1 ∧ tt_fr Kd [] pl0 pl1 ∧ ((r = some (.int 1))))) (tt_OX (fun _ _ _ => False)) := by
  refine jj_start hl (by decide) jw_625 (jj_le rfl) ?_
  intro p e s m args below meth c A hargs hA C hex hmn
  have hfr := tt_fr.refl (K := Kd) (WS := []) pl0
  refine jj_iload_n C dX3_accept_0 rfl ?_
  refine jj_if_neT (tgt := 9) C dX3_accept_1 (by decide) (by decide) ?_
  refine jj_iload_n C dX3_accept_9 rfl ?_
  exact jj_zret C rfl ⟨[], pl0, rfl, rfl, hok, hfr, rfl⟩ dX3_accept_10 (jj_le rfl) (jj_le rfl)

set_option maxHeartbeats 4000000 in
set_option maxRecDepth 100000 in
theorem tc_X3_readWord_1 {l : Launch} (hl : l.stackTraces = false) (D : va_G) (cA : Nat → ClassId) (ak : (Nat → Nat) × (Nat → Nat)) {Kd : Nat → Nat} (h0 : Nat) (hk0 : Kd h0 = 17) {pl0 : va_W} (hok : tt_ok tt_tk cA Kd pl0) : jj_M l D cA ak yX3_readWord (.code yX3_readWord cX3_readWord 2 (some .boolean)) 5 107 0 0 ([] ++ pl0) [.ref h0, .ref (ak.1 0)] (tt_O (fun rx pl1 r => rx = [] ∧ tt_ok tt_tk cA Kd pl1 ∧ tt_fr Kd [(10, 3), (10, 4), (10, 5), (10, 6), (17, 2)] pl0 pl1 ∧ ((r = some (.int 0)) ∨ (r = some (.int 1))))) (tt_OX (fun _ _ _ => False)) := by
  refine jj_start hl (by decide) jw_562 (jj_le rfl) ?_
  intro p e s m args below meth c A hargs hA C hex hmn
  have hfr := tt_fr.refl (K := Kd) (WS := [(10, 3), (10, 4), (10, 5), (10, 6), (17, 2)]) pl0
  refine jj_aload_n C dX3_readWord_0 rfl ?_
  refine tt_get C hok jk_4 0 (by decide) jw_563 (t := (2, 10, 0)) hk0 (by decide) rfl rfl dX3_readWord_1 (fun v_1 hv_1 hf_2 => ?_)
  obtain ⟨a_3, rfl, ka_3⟩ := tt_vr hv_1
  obtain ⟨qc, gs, hqc⟩ := tt_recv (cx := []) hok ka_3 (by decide) rfl
  refine tt_callV (rest := []) C (tc_X9_advance_1 hl D cA ak a_3 ka_3 hok) [] [] rfl rfl (by decide) (by decide) (by decide) qc hqc rfl rfl jw_564 jw_577 jw_578 jw_42 jw_565 jn_X9_advance rfl (jj_le rfl) (jj_le rfl) (jj_le rfl) (jj_le rfl) (jj_le rfl) dX3_readWord_4 rfl (fun _ _ _ hX => hX.elim) (fun rx pl_4 r O_7 => ?_)
  obtain ⟨rfl, hok_5, hr_6, hR_9⟩ := O_7
  replace hf_2 := hr_6.at hk0 (by decide) (by decide) hf_2
  replace hfr := hfr.trans (hr_6.sub (by decide))
  obtain rfl := hR_9
  refine jj_aload_n C dX3_readWord_7 rfl ?_
  refine jj_aload_n C dX3_readWord_8 rfl ?_
  refine tt_getF C hok_5 jk_4 0 (by decide) jw_563 (t := (2, 10, 0)) hk0 (by decide) rfl rfl hf_2 dX3_readWord_9 ?_
  refine jj_aload_n C dX3_readWord_12 rfl ?_
  obtain ⟨qc, gs, hqc⟩ := tt_recv (cx := []) hok_5 ka_3 (by decide) rfl
  refine tt_callV (rest := [.ref h0]) C (tc_X9_isWord_1 hl D cA ak a_3 ka_3 hok_5) [] [] rfl rfl (by decide) (by decide) (by decide) qc hqc rfl rfl jw_580 jw_621 jw_622 jw_42 jw_581 jn_X9_isWord rfl (jj_le rfl) (jj_le rfl) (jj_le rfl) (jj_le rfl) (jj_le rfl) dX3_readWord_13 rfl (fun _ _ _ hX => hX.elim) (fun rx pl_10 r O_13 => ?_)
  obtain ⟨rfl, hok_11, hr_12, hR_15⟩ := O_13
  replace hf_2 := hr_12.at hk0 (by decide) (by decide) hf_2
  replace hfr := hfr.trans (hr_12.sub (by decide))
  rcases hR_15 with rfl | rfl
  · refine jj_iconst (v := 1) C dX3_readWord_16 (by decide) ?_
    obtain ⟨qc, gs, hqc⟩ := tt_recv (cx := []) hok_11 hk0 (by decide) rfl
    refine tt_callV (rest := []) C (tc_X3_accept_1 hl D cA ak h0 hk0 hok_11) [] [] rfl rfl (by decide) (by decide) (by decide) qc hqc rfl rfl jw_624 jw_627 jw_628 jw_548 jw_625 jn_X3_accept rfl (jj_le rfl) (jj_le rfl) (jj_le rfl) (jj_le rfl) (jj_le rfl) dX3_readWord_17 rfl (fun _ _ _ hX => hX.elim) (fun rx pl_16 r O_19 => ?_)
    obtain ⟨rfl, hok_17, hr_18, hR_21⟩ := O_19
    replace hf_2 := hr_18.at hk0 (by decide) (by decide) hf_2
    replace hfr := hfr.trans (hr_18.sub (by decide))
    obtain rfl := hR_21
    exact jj_zret C rfl ⟨[], pl_16, rfl, rfl, hok_17, hfr, (Or.inl rfl)⟩ dX3_readWord_20 (jj_le rfl) (jj_le rfl)
  · refine jj_iconst (v := 1) C dX3_readWord_16 (by decide) ?_
    obtain ⟨qc, gs, hqc⟩ := tt_recv (cx := []) hok_11 hk0 (by decide) rfl
    refine tt_callV (rest := []) C (tc_X3_accept_2 hl D cA ak h0 hk0 hok_11) [] [] rfl rfl (by decide) (by decide) (by decide) qc hqc rfl rfl jw_624 jw_627 jw_628 jw_548 jw_625 jn_X3_accept rfl (jj_le rfl) (jj_le rfl) (jj_le rfl) (jj_le rfl) (jj_le rfl) dX3_readWord_17 rfl (fun _ _ _ hX => hX.elim) (fun rx pl_22 r O_25 => ?_)
    obtain ⟨rfl, hok_23, hr_24, hR_27⟩ := O_25
    replace hf_2 := hr_24.at hk0 (by decide) (by decide) hf_2
    replace hfr := hfr.trans (hr_24.sub (by decide))
    obtain rfl := hR_27
    exact jj_zret C rfl ⟨[], pl_22, rfl, rfl, hok_23, hfr, (Or.inr rfl)⟩ dX3_readWord_20 (jj_le rfl) (jj_le rfl)

set_option maxHeartbeats 4000000 in
set_option maxRecDepth 100000 in
theorem tc_X9_isWord_2 {l : Launch} (hl : l.stackTraces = false) (D : va_G) (cA : Nat → ClassId) (ak : (Nat → Nat) × (Nat → Nat)) {Kd : Nat → Nat} (h0 : Nat) (hk0 : Kd h0 = 10) {pl0 : va_W} (hok : tt_ok tt_tk cA Kd pl0) : jj_M l D cA ak yX9_isWord (.code yX9_isWord cX9_isWord 3 (some .boolean)) 4 85 0 0 ([] ++ pl0) [.ref h0, .ref (ak.1 1)] (tt_O (fun rx pl1 r => rx = [] ∧ tt_ok tt_tk cA Kd pl1 ∧ tt_fr Kd [] pl0 pl1 ∧ ((r = some (.int 0)) ∨ (r = some (.int 1))))) (tt_OX (fun _ _ _ => False)) := by
  refine jj_start hl (by decide) jw_581 (jj_le rfl) ?_
  intro p e s m args below meth c A hargs hA C hex hmn
  have hfr := tt_fr.refl (K := Kd) (WS := []) pl0
  refine jj_aload_n C dX9_isWord_0 rfl ?_
  refine tt_get C hok jk_10 5 (by decide) jw_542 (t := (0, (-2147483648), 2147483647)) hk0 (by decide) rfl rfl dX9_isWord_1 (fun v_1 hv_1 hf_2 => ?_)
  obtain ⟨x_3, rfl, lx_3, ux_3⟩ := tt_vi hv_1
  refine jj_iconst (v := 1) C dX9_isWord_4 (by decide) ?_
  refine jj_icmp_ne (tgt := 24) C dX9_isWord_5 (by decide) (fun c_4 => ?_) (fun c_4 => ?_)
  · have z_c_4 := jc_neq (a := (x_3).toInt) (b := (1)) c_4 rfl (by decide)
    refine jj_iconst (v := 0) C dX9_isWord_24 (by decide) ?_
    exact jj_zret C rfl ⟨[], pl0, rfl, rfl, hok, hfr, (Or.inl rfl)⟩ dX9_isWord_25 (jj_le rfl) (jj_le rfl)
  · have z_c_4 := jc_eq (a := (x_3).toInt) (b := (1)) c_4 rfl (by decide)
    refine jj_aload_n C dX9_isWord_8 rfl ?_
    refine tt_get C hok jk_10 3 (by decide) jw_541 (t := (0, 0, 400)) hk0 (by decide) rfl rfl dX9_isWord_9 (fun v_5 hv_5 hf_6 => ?_)
    obtain ⟨x_7, rfl, lx_7, ux_7⟩ := tt_vi hv_5
    refine jj_aload_n C dX9_isWord_12 rfl ?_
    refine tt_get C hok jk_10 4 (by decide) jw_540 (t := (0, 0, 400)) hk0 (by decide) rfl rfl dX9_isWord_13 (fun v_8 hv_8 hf_9 => ?_)
    obtain ⟨x_10, rfl, lx_10, ux_10⟩ := tt_vi hv_8
    obtain ⟨x_11, ex_11, vx_11⟩ := tt_isub (x := x_7) (y := x_10) (a := x_7.toInt) rfl (b := x_10.toInt) rfl (by omega) (by omega)
    refine jj_isub (v := x_11) C dX9_isWord_16 ex_11 ?_
    refine jj_aload_n C dX9_isWord_17 rfl ?_
    refine tt_call0Vs (rest := [.int x_11]) C (ct_J0_length_8abf5_2 hl D cA ak) 1 (by decide) rfl jw_582 jw_593 jw_594 jw_584 jw_583 jn_J0_length_8abf5 rfl (jj_le rfl) (jj_le rfl) (jj_le rfl) (jj_le rfl) (jj_le rfl) dX9_isWord_18 rfl (fun w1 r O_12 => ?_)
    obtain ⟨-, rfl⟩ := O_12
    refine jj_icmp_eq (tgt := 26) C dX9_isWord_21 (by decide) (fun c_13 => ?_) (fun c_13 => ?_)
    · have z_c_13 := jc_eq (a := (x_11).toInt) (b := (5)) c_13 rfl (by decide)
      refine jj_iconst (v := 0) C dX9_isWord_26 (by decide) ?_
      refine jj_istore_n C dX9_isWord_27 (by decide) rfl ?_
      refine jj_iload_n C dX9_isWord_28 rfl ?_
      refine jj_aload_n C dX9_isWord_29 rfl ?_
      refine tt_call0Vs (rest := [.int 0]) C (ct_J0_length_8abf5_2 hl D cA ak) 1 (by decide) rfl jw_582 jw_593 jw_594 jw_584 jw_583 jn_J0_length_8abf5 rfl (jj_le rfl) (jj_le rfl) (jj_le rfl) (jj_le rfl) (jj_le rfl) dX9_isWord_30 rfl (fun w1 r O_14 => ?_)
      obtain ⟨-, rfl⟩ := O_14
      refine jj_icmp_geF (tgt := 63) C dX9_isWord_33 (by decide) (by decide) ?_
      refine jj_aload_n C dX9_isWord_36 rfl ?_
      refine tt_get C hok jk_10 0 (by decide) jw_44 (t := (2, 11, 0)) hk0 (by decide) rfl rfl dX9_isWord_37 (fun v_15 hv_15 hf_16 => ?_)
      obtain ⟨a_17, rfl, ka_17⟩ := tt_vr hv_15
      refine jj_aload_n C dX9_isWord_40 rfl ?_
      refine tt_getF C hok jk_10 4 (by decide) jw_540 (t := (0, 0, 400)) hk0 (by decide) rfl rfl hf_9 dX9_isWord_41 ?_
      refine jj_iload_n C dX9_isWord_44 rfl ?_
      obtain ⟨x_18, ex_18, vx_18⟩ := tt_iadd (x := x_10) (y := (0 : Int32)) (a := x_10.toInt) rfl (b := 0) (by decide) (by omega) (by omega)
      refine jj_iadd (v := x_18) C dX9_isWord_45 ex_18 ?_
      refine tt_cald C hok (t := (0, (-2147483648), 2147483647)) ka_17 (by decide) rfl (vp_in_iff.mpr ⟨by omega, by omega⟩) dX9_isWord_46 (fun v_19 hv_19 => ?_)
      refine jj_aload_n C dX9_isWord_47 rfl ?_
      refine jj_iload_n C dX9_isWord_48 rfl ?_
      refine tt_call0Vs (rest := [.int v_19]) C (ct_J0_charAt_5068e_5 hl D cA ak) 1 (by decide) rfl jw_596 jw_618 jw_619 jw_584 jw_597 jn_J0_charAt_5068e rfl (jj_le rfl) (jj_le rfl) (jj_le rfl) (jj_le rfl) (jj_le rfl) dX9_isWord_49 rfl (fun w1 r O_20 => ?_)
      obtain ⟨-, rfl⟩ := O_20
      refine jj_icmp_eq (tgt := 57) C dX9_isWord_52 (by decide) (fun c_21 => ?_) (fun c_21 => ?_)
      · have z_c_21 := jc_eq (a := (v_19).toInt) (b := (101)) c_21 rfl (by decide)
        refine jj_iinc (v := 1) C dX9_isWord_57 rfl (by decide) (by decide) rfl ?_
        refine jj_goto (tgt := 28) C dX9_isWord_60 (by decide) ?_
        refine jj_iload_n C dX9_isWord_28 rfl ?_
        refine jj_aload_n C dX9_isWord_29 rfl ?_
        refine tt_call0Vs (rest := [.int 1]) C (ct_J0_length_8abf5_2 hl D cA ak) 1 (by decide) rfl jw_582 jw_593 jw_594 jw_584 jw_583 jn_J0_length_8abf5 rfl (jj_le rfl) (jj_le rfl) (jj_le rfl) (jj_le rfl) (jj_le rfl) dX9_isWord_30 rfl (fun w1 r O_22 => ?_)
        obtain ⟨-, rfl⟩ := O_22
        refine jj_icmp_geF (tgt := 63) C dX9_isWord_33 (by decide) (by decide) ?_
        refine jj_aload_n C dX9_isWord_36 rfl ?_
        refine tt_getF C hok jk_10 0 (by decide) jw_44 (t := (2, 11, 0)) hk0 (by decide) rfl rfl hf_16 dX9_isWord_37 ?_
        refine jj_aload_n C dX9_isWord_40 rfl ?_
        refine tt_getF C hok jk_10 4 (by decide) jw_540 (t := (0, 0, 400)) hk0 (by decide) rfl rfl hf_9 dX9_isWord_41 ?_
        refine jj_iload_n C dX9_isWord_44 rfl ?_
        obtain ⟨x_23, ex_23, vx_23⟩ := tt_iadd (x := x_10) (y := (1 : Int32)) (a := x_10.toInt) rfl (b := 1) (by decide) (by omega) (by omega)
        refine jj_iadd (v := x_23) C dX9_isWord_45 ex_23 ?_
        refine tt_cald C hok (t := (0, (-2147483648), 2147483647)) ka_17 (by decide) rfl (vp_in_iff.mpr ⟨by omega, by omega⟩) dX9_isWord_46 (fun v_24 hv_24 => ?_)
        refine jj_aload_n C dX9_isWord_47 rfl ?_
        refine jj_iload_n C dX9_isWord_48 rfl ?_
        refine tt_call0Vs (rest := [.int v_24]) C (ct_J0_charAt_5068e_6 hl D cA ak) 1 (by decide) rfl jw_596 jw_618 jw_619 jw_584 jw_597 jn_J0_charAt_5068e rfl (jj_le rfl) (jj_le rfl) (jj_le rfl) (jj_le rfl) (jj_le rfl) dX9_isWord_49 rfl (fun w1 r O_25 => ?_)
        obtain ⟨-, rfl⟩ := O_25
        refine jj_icmp_eq (tgt := 57) C dX9_isWord_52 (by decide) (fun c_26 => ?_) (fun c_26 => ?_)
        · have z_c_26 := jc_eq (a := (v_24).toInt) (b := (113)) c_26 rfl (by decide)
          refine jj_iinc (v := 2) C dX9_isWord_57 rfl (by decide) (by decide) rfl ?_
          refine jj_goto (tgt := 28) C dX9_isWord_60 (by decide) ?_
          refine jj_iload_n C dX9_isWord_28 rfl ?_
          refine jj_aload_n C dX9_isWord_29 rfl ?_
          refine tt_call0Vs (rest := [.int 2]) C (ct_J0_length_8abf5_2 hl D cA ak) 1 (by decide) rfl jw_582 jw_593 jw_594 jw_584 jw_583 jn_J0_length_8abf5 rfl (jj_le rfl) (jj_le rfl) (jj_le rfl) (jj_le rfl) (jj_le rfl) dX9_isWord_30 rfl (fun w1 r O_27 => ?_)
          obtain ⟨-, rfl⟩ := O_27
          refine jj_icmp_geF (tgt := 63) C dX9_isWord_33 (by decide) (by decide) ?_
          refine jj_aload_n C dX9_isWord_36 rfl ?_
          refine tt_getF C hok jk_10 0 (by decide) jw_44 (t := (2, 11, 0)) hk0 (by decide) rfl rfl hf_16 dX9_isWord_37 ?_
          refine jj_aload_n C dX9_isWord_40 rfl ?_
          refine tt_getF C hok jk_10 4 (by decide) jw_540 (t := (0, 0, 400)) hk0 (by decide) rfl rfl hf_9 dX9_isWord_41 ?_
          refine jj_iload_n C dX9_isWord_44 rfl ?_
          obtain ⟨x_28, ex_28, vx_28⟩ := tt_iadd (x := x_10) (y := (2 : Int32)) (a := x_10.toInt) rfl (b := 2) (by decide) (by omega) (by omega)
          refine jj_iadd (v := x_28) C dX9_isWord_45 ex_28 ?_
          refine tt_cald C hok (t := (0, (-2147483648), 2147483647)) ka_17 (by decide) rfl (vp_in_iff.mpr ⟨by omega, by omega⟩) dX9_isWord_46 (fun v_29 hv_29 => ?_)
          refine jj_aload_n C dX9_isWord_47 rfl ?_
          refine jj_iload_n C dX9_isWord_48 rfl ?_
          refine tt_call0Vs (rest := [.int v_29]) C (ct_J0_charAt_5068e_7 hl D cA ak) 1 (by decide) rfl jw_596 jw_618 jw_619 jw_584 jw_597 jn_J0_charAt_5068e rfl (jj_le rfl) (jj_le rfl) (jj_le rfl) (jj_le rfl) (jj_le rfl) dX9_isWord_49 rfl (fun w1 r O_30 => ?_)
          obtain ⟨-, rfl⟩ := O_30
          refine jj_icmp_eq (tgt := 57) C dX9_isWord_52 (by decide) (fun c_31 => ?_) (fun c_31 => ?_)
          · have z_c_31 := jc_eq (a := (v_29).toInt) (b := (117)) c_31 rfl (by decide)
            refine jj_iinc (v := 3) C dX9_isWord_57 rfl (by decide) (by decide) rfl ?_
            refine jj_goto (tgt := 28) C dX9_isWord_60 (by decide) ?_
            refine jj_iload_n C dX9_isWord_28 rfl ?_
            refine jj_aload_n C dX9_isWord_29 rfl ?_
            refine tt_call0Vs (rest := [.int 3]) C (ct_J0_length_8abf5_2 hl D cA ak) 1 (by decide) rfl jw_582 jw_593 jw_594 jw_584 jw_583 jn_J0_length_8abf5 rfl (jj_le rfl) (jj_le rfl) (jj_le rfl) (jj_le rfl) (jj_le rfl) dX9_isWord_30 rfl (fun w1 r O_32 => ?_)
            obtain ⟨-, rfl⟩ := O_32
            refine jj_icmp_geF (tgt := 63) C dX9_isWord_33 (by decide) (by decide) ?_
            refine jj_aload_n C dX9_isWord_36 rfl ?_
            refine tt_getF C hok jk_10 0 (by decide) jw_44 (t := (2, 11, 0)) hk0 (by decide) rfl rfl hf_16 dX9_isWord_37 ?_
            refine jj_aload_n C dX9_isWord_40 rfl ?_
            refine tt_getF C hok jk_10 4 (by decide) jw_540 (t := (0, 0, 400)) hk0 (by decide) rfl rfl hf_9 dX9_isWord_41 ?_
            refine jj_iload_n C dX9_isWord_44 rfl ?_
            obtain ⟨x_33, ex_33, vx_33⟩ := tt_iadd (x := x_10) (y := (3 : Int32)) (a := x_10.toInt) rfl (b := 3) (by decide) (by omega) (by omega)
            refine jj_iadd (v := x_33) C dX9_isWord_45 ex_33 ?_
            refine tt_cald C hok (t := (0, (-2147483648), 2147483647)) ka_17 (by decide) rfl (vp_in_iff.mpr ⟨by omega, by omega⟩) dX9_isWord_46 (fun v_34 hv_34 => ?_)
            refine jj_aload_n C dX9_isWord_47 rfl ?_
            refine jj_iload_n C dX9_isWord_48 rfl ?_
            refine tt_call0Vs (rest := [.int v_34]) C (ct_J0_charAt_5068e_8 hl D cA ak) 1 (by decide) rfl jw_596 jw_618 jw_619 jw_584 jw_597 jn_J0_charAt_5068e rfl (jj_le rfl) (jj_le rfl) (jj_le rfl) (jj_le rfl) (jj_le rfl) dX9_isWord_49 rfl (fun w1 r O_35 => ?_)
            obtain ⟨-, rfl⟩ := O_35
            refine jj_icmp_eq (tgt := 57) C dX9_isWord_52 (by decide) (fun c_36 => ?_) (fun c_36 => ?_)
            · have z_c_36 := jc_eq (a := (v_34).toInt) (b := (97)) c_36 rfl (by decide)
              refine jj_iinc (v := 4) C dX9_isWord_57 rfl (by decide) (by decide) rfl ?_
              refine jj_goto (tgt := 28) C dX9_isWord_60 (by decide) ?_
              refine jj_iload_n C dX9_isWord_28 rfl ?_
              refine jj_aload_n C dX9_isWord_29 rfl ?_
              refine tt_call0Vs (rest := [.int 4]) C (ct_J0_length_8abf5_2 hl D cA ak) 1 (by decide) rfl jw_582 jw_593 jw_594 jw_584 jw_583 jn_J0_length_8abf5 rfl (jj_le rfl) (jj_le rfl) (jj_le rfl) (jj_le rfl) (jj_le rfl) dX9_isWord_30 rfl (fun w1 r O_37 => ?_)
              obtain ⟨-, rfl⟩ := O_37
              refine jj_icmp_geF (tgt := 63) C dX9_isWord_33 (by decide) (by decide) ?_
              refine jj_aload_n C dX9_isWord_36 rfl ?_
              refine tt_getF C hok jk_10 0 (by decide) jw_44 (t := (2, 11, 0)) hk0 (by decide) rfl rfl hf_16 dX9_isWord_37 ?_
              refine jj_aload_n C dX9_isWord_40 rfl ?_
              refine tt_getF C hok jk_10 4 (by decide) jw_540 (t := (0, 0, 400)) hk0 (by decide) rfl rfl hf_9 dX9_isWord_41 ?_
              refine jj_iload_n C dX9_isWord_44 rfl ?_
              obtain ⟨x_38, ex_38, vx_38⟩ := tt_iadd (x := x_10) (y := (4 : Int32)) (a := x_10.toInt) rfl (b := 4) (by decide) (by omega) (by omega)
              refine jj_iadd (v := x_38) C dX9_isWord_45 ex_38 ?_
              refine tt_cald C hok (t := (0, (-2147483648), 2147483647)) ka_17 (by decide) rfl (vp_in_iff.mpr ⟨by omega, by omega⟩) dX9_isWord_46 (fun v_39 hv_39 => ?_)
              refine jj_aload_n C dX9_isWord_47 rfl ?_
              refine jj_iload_n C dX9_isWord_48 rfl ?_
              refine tt_call0Vs (rest := [.int v_39]) C (ct_J0_charAt_5068e_9 hl D cA ak) 1 (by decide) rfl jw_596 jw_618 jw_619 jw_584 jw_597 jn_J0_charAt_5068e rfl (jj_le rfl) (jj_le rfl) (jj_le rfl) (jj_le rfl) (jj_le rfl) dX9_isWord_49 rfl (fun w1 r O_40 => ?_)
              obtain ⟨-, rfl⟩ := O_40
              refine jj_icmp_eq (tgt := 57) C dX9_isWord_52 (by decide) (fun c_41 => ?_) (fun c_41 => ?_)
              · have z_c_41 := jc_eq (a := (v_39).toInt) (b := (108)) c_41 rfl (by decide)
                refine jj_iinc (v := 5) C dX9_isWord_57 rfl (by decide) (by decide) rfl ?_
                refine jj_goto (tgt := 28) C dX9_isWord_60 (by decide) ?_
                refine jj_iload_n C dX9_isWord_28 rfl ?_
                refine jj_aload_n C dX9_isWord_29 rfl ?_
                refine tt_call0Vs (rest := [.int 5]) C (ct_J0_length_8abf5_2 hl D cA ak) 1 (by decide) rfl jw_582 jw_593 jw_594 jw_584 jw_583 jn_J0_length_8abf5 rfl (jj_le rfl) (jj_le rfl) (jj_le rfl) (jj_le rfl) (jj_le rfl) dX9_isWord_30 rfl (fun w1 r O_42 => ?_)
                obtain ⟨-, rfl⟩ := O_42
                refine jj_icmp_geT (tgt := 63) C dX9_isWord_33 (by decide) (by decide) ?_
                refine jj_iconst (v := 1) C dX9_isWord_63 (by decide) ?_
                exact jj_zret C rfl ⟨[], pl0, rfl, rfl, hok, hfr, (Or.inr rfl)⟩ dX9_isWord_64 (jj_le rfl) (jj_le rfl)
              · have z_c_41 := jc_neq (a := (v_39).toInt) (b := (108)) c_41 rfl (by decide)
                refine jj_iconst (v := 0) C dX9_isWord_55 (by decide) ?_
                exact jj_zret C rfl ⟨[], pl0, rfl, rfl, hok, hfr, (Or.inl rfl)⟩ dX9_isWord_56 (jj_le rfl) (jj_le rfl)
            · have z_c_36 := jc_neq (a := (v_34).toInt) (b := (97)) c_36 rfl (by decide)
              refine jj_iconst (v := 0) C dX9_isWord_55 (by decide) ?_
              exact jj_zret C rfl ⟨[], pl0, rfl, rfl, hok, hfr, (Or.inl rfl)⟩ dX9_isWord_56 (jj_le rfl) (jj_le rfl)
          · have z_c_31 := jc_neq (a := (v_29).toInt) (b := (117)) c_31 rfl (by decide)
            refine jj_iconst (v := 0) C dX9_isWord_55 (by decide) ?_
            exact jj_zret C rfl ⟨[], pl0, rfl, rfl, hok, hfr, (Or.inl rfl)⟩ dX9_isWord_56 (jj_le rfl) (jj_le rfl)
        · have z_c_26 := jc_neq (a := (v_24).toInt) (b := (113)) c_26 rfl (by decide)
          refine jj_iconst (v := 0) C dX9_isWord_55 (by decide) ?_
          exact jj_zret C rfl ⟨[], pl0, rfl, rfl, hok, hfr, (Or.inl rfl)⟩ dX9_isWord_56 (jj_le rfl) (jj_le rfl)
      · have z_c_21 := jc_neq (a := (v_19).toInt) (b := (101)) c_21 rfl (by decide)
        refine jj_iconst (v := 0) C dX9_isWord_55 (by decide) ?_
        exact jj_zret C rfl ⟨[], pl0, rfl, rfl, hok, hfr, (Or.inl rfl)⟩ dX9_isWord_56 (jj_le rfl) (jj_le rfl)
    · have z_c_13 := jc_neq (a := (x_11).toInt) (b := (5)) c_13 rfl (by decide)
      refine jj_iconst (v := 0) C dX9_isWord_24 (by decide) ?_
      exact jj_zret C rfl ⟨[], pl0, rfl, rfl, hok, hfr, (Or.inl rfl)⟩ dX9_isWord_25 (jj_le rfl) (jj_le rfl)

