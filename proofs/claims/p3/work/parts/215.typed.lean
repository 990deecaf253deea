set_option maxHeartbeats 4000000 in
set_option maxRecDepth 100000 in
theorem tc_X10_valueOf_1 {l : Launch} (hl : l.stackTraces = false) (D : va_G) (cA : Nat → ClassId) (ak : (Nat → Nat) × (Nat → Nat)) {Kd : Nat → Nat} (h0 : Nat) (p1 : Int32) (hk0 : Kd h0 = 15) {pl0 : va_W} (hok : tt_ok tt_tk cA Kd pl0) : jj_M l D cA ak yX10_valueOf (.code yX10_valueOf cX10_valueOf 2 (some .long)) 8 123 1 6 ([] ++ pl0) [.ref h0, .int p1] (tt_O (fun rx pl1 r => rx = [] ∧ tt_ok tt_tk cA Kd pl1 ∧ tt_fr Kd [(2, 0), (2, 1), (2, 2), (2, 3), (2, 4), (9, 1), (9, 2), (9, 3), (9, 4), (9, 5)] pl0 pl1 ∧ ((∃ v : Int64, (0 : Int) ≤ p1.toInt ∧ p1.toInt ≤ 2147483646 ∧ r = some (.long v))))) (tt_OX (fun E rx pl1 => rx = [] ∧ tt_ok tt_tk cA Kd pl1 ∧ tt_fr Kd [(2, 0), (2, 1), (2, 2), (2, 3), (2, 4), (9, 1), (9, 2), (9, 3), (9, 4), (9, 5)] pl0 pl1 ∧ (E = "java/lang/IndexOutOfBoundsException"))) := by
  refine jj_start hl (by decide) jw_0fd6256d51 (jj_le rfl) ?_
  intro p e s m args below meth c A hargs hA C hex hmn
  have hfr := tt_fr.refl (K := Kd) (WS := [(2, 0), (2, 1), (2, 2), (2, 3), (2, 4), (9, 1), (9, 2), (9, 3), (9, 4), (9, 5)]) pl0
  have lp1 := tt_lo p1
  have up1 := tt_hi p1
  refine jj_aload_n C dX10_valueOf_0 rfl ?_
  refine jj_iload_n C dX10_valueOf_1 rfl ?_
  obtain ⟨qc, gs, hqc⟩ := tt_recv (cx := []) hok hk0 (by decide) rfl
  refine tt_callV (rest := []) C (tc_X10_checkInvestor_1 hl D cA ak h0 p1 hk0 hok) [] [] rfl rfl (by decide) (by decide) (by decide) qc hqc rfl rfl jw_c489a67580 jw_a350a61418 jw_0e27b6f20c jw_6f6d707074 jw_a8b8d648f8 jn_X10_checkInvestor rfl (jj_le rfl) (jj_le rfl) (jj_le rfl) (jj_le rfl) (jj_le rfl) dX10_valueOf_2 rfl (fun E rx pl_1 X_5 => ?_) (fun rx pl_1 r O_4 => ?_)
  · obtain ⟨rfl, hok_2, hr_3, hE_6⟩ := X_5
    replace hfr := hfr.trans (hr_3.sub (by decide))
    obtain rfl := hE_6
    exact jj_out C hex ⟨[], pl_1, rfl, rfl, hok_2, hfr, rfl⟩ (jj_le rfl) (jj_le rfl)
  · obtain ⟨rfl, hok_2, hr_3, hR_9⟩ := O_4
    replace hfr := hfr.trans (hr_3.sub (by decide))
    obtain ⟨l_12, u_13, rfl⟩ := hR_9
    refine jj_aload_n C dX10_valueOf_5 rfl ?_
    refine tt_get C hok_2 jk_11 5 (by decide) jw_34b8702fe2 (t := (2, 9, 0)) hk0 (by decide) rfl rfl dX10_valueOf_6 (fun v_14 hv_14 hf_15 => ?_)
    obtain ⟨a_16, rfl, ka_16⟩ := tt_vr hv_14
    refine jj_aload_n C dX10_valueOf_9 rfl ?_
    refine tt_get C hok_2 jk_11 3 (by decide) jw_f82a97e333 (t := (2, 1, 0)) hk0 (by decide) rfl rfl dX10_valueOf_10 (fun v_17 hv_17 hf_18 => ?_)
    obtain ⟨a_19, rfl, ka_19⟩ := tt_vr hv_17
    refine jj_iload_n C dX10_valueOf_13 rfl ?_
    refine jj_iconst (v := 0) C dX10_valueOf_14 (by decide) ?_
    obtain ⟨qc, gs, hqc⟩ := tt_recv (cx := []) hok_2 ka_16 (by decide) rfl
    refine tt_callV (rest := []) C (tc_X1_payAfterRate_15 hl D cA ak a_16 a_19 p1 ka_16 ka_19 hok_2) [] [] rfl rfl (by decide) (by decide) (by decide) qc hqc rfl rfl jw_40c49444b1 jw_86c6c6dedf jw_610440679d jw_944cf9c3ab jw_8658218399 jn_X1_payAfterRate rfl (jj_le rfl) (jj_le rfl) (jj_le rfl) (jj_le rfl) (jj_le rfl) dX10_valueOf_15 rfl (fun _ _ _ hX => hX.elim) (fun rx pl_20 r O_23 => ?_)
    obtain ⟨rfl, hok_21, hr_22, hR_25⟩ := O_23
    replace hf_15 := hr_22.at hk0 (by decide) (by decide) hf_15
    replace hf_18 := hr_22.at hk0 (by decide) (by decide) hf_18
    replace hfr := hfr.trans (hr_22.sub (by decide))
    obtain ⟨y_28, rfl⟩ := hR_25
    exact jj_lret C ⟨[], pl_20, rfl, rfl, hok_21, hfr, ⟨y_28, (by first | omega | exact tt_lo _ | exact tt_hi _), (by first | omega | exact tt_lo _ | exact tt_hi _), rfl⟩⟩ dX10_valueOf_18 (jj_le rfl) (jj_le rfl)

set_option maxHeartbeats 4000000 in
set_option maxRecDepth 100000 in
theorem tc_X0_removeRequest_1 {l : Launch} (hl : l.stackTraces = false) (D : va_G) (cA : Nat → ClassId) (ak : (Nat → Nat) × (Nat → Nat)) {Kd : Nat → Nat} (h0 : Nat) (p1 : Int32) (hk0 : Kd h0 = 1) (lp1 : (0 : Int) ≤ p1.toInt) (up1 : p1.toInt ≤ 11) {pl0 : va_W} (hok : tt_ok tt_tk cA Kd pl0) : jj_M l D cA ak yX0_removeRequest (.code yX0_removeRequest cX0_removeRequest 2 none) 1 23 0 0 ([] ++ pl0) [.ref h0, .int p1] (tt_O (fun rx pl1 r => rx = [] ∧ tt_ok tt_tk cA Kd pl1 ∧ tt_fr Kd [(1, 9), (4, 3)] pl0 pl1 ∧ ((r = none)))) (tt_OX (fun _ _ _ => False)) := by
  refine jj_start hl (by decide) jw_c84efe0986 (jj_le rfl) ?_
  intro p e s m args below meth c A hargs hA C hex hmn
  have hfr := tt_fr.refl (K := Kd) (WS := [(1, 9), (4, 3)]) pl0
  refine jj_iload_n C dX0_removeRequest_0 rfl ?_
  refine jj_if_lt (tgt := 27) C dX0_removeRequest_1 (by decide) (fun c_1 => ?_) (fun c_1 => ?_)
  · have z_c_1 := jc_lt (a := (p1).toInt) (b := (0)) c_1 rfl (by decide)
    exfalso; omega
  · have z_c_1 := jc_nlt (a := (p1).toInt) (b := (0)) c_1 rfl (by decide)
    refine jj_iload_n C dX0_removeRequest_4 rfl ?_
    refine jj_aload_n C dX0_removeRequest_5 rfl ?_
    refine tt_get C hok jk_2 9 (by decide) jw_a6a6052378 (t := (0, 0, 12)) hk0 (by decide) rfl rfl dX0_removeRequest_6 (fun v_2 hv_2 hf_3 => ?_)
    obtain ⟨x_4, rfl, lx_4, ux_4⟩ := tt_vi hv_2
    refine jj_icmp_ge (tgt := 27) C dX0_removeRequest_9 (by decide) (fun c_5 => ?_) (fun c_5 => ?_)
    · have z_c_5 := jc_le (a := (x_4).toInt) (b := (p1).toInt) c_5 rfl rfl
      exact jj_vret C ⟨[], pl0, rfl, rfl, hok, hfr, rfl⟩ dX0_removeRequest_27 (jj_le rfl) (jj_le rfl)
    · have z_c_5 := jc_nle (a := (x_4).toInt) (b := (p1).toInt) c_5 rfl rfl
      refine jj_aload_n C dX0_removeRequest_12 rfl ?_
      refine tt_get C hok jk_2 13 (by decide) jw_241b9bc751 (t := (2, 8, 0)) hk0 (by decide) rfl rfl dX0_removeRequest_13 (fun v_6 hv_6 hf_7 => ?_)
      obtain ⟨a_8, rfl, ka_8⟩ := tt_vr hv_6
      refine jj_iload_n C dX0_removeRequest_16 rfl ?_
      refine tt_aald C hok (t := (2, 4, 0)) ka_8 (by decide) rfl rfl rfl (vp_in_iff.mpr ⟨by omega, by omega⟩) dX0_removeRequest_17 (fun v_9 hv_9 => ?_)
      obtain ⟨a_10, rfl, ka_10⟩ := tt_vr hv_9
      refine jj_lconst (v := 0) C dX0_removeRequest_18 (by decide) ?_
      refine tt_put C hok jk_7 3 (by decide) jw_bfa82f796d (t := (1, (-9223372036854775808), 9223372036854775807)) ka_10 (by decide) rfl rfl rfl (tt_ja (0 : Int64)) rfl rfl dX0_removeRequest_19 (fun pl_11 hok_12 tr hn => ?_)
      replace hf_3 := tr _ _ _ (Or.inl (tt_ne hk0 ka_10 (by decide))) hf_3
      replace hf_7 := tr _ _ _ (Or.inl (tt_ne hk0 ka_10 (by decide))) hf_7
      have hf_13 := hn
      replace hfr := hfr.put ka_10 tr (by decide)
      refine jj_aload_n C dX0_removeRequest_22 rfl ?_
      obtain ⟨qc, gs, hqc⟩ := tt_recv (cx := []) hok_12 hk0 (by decide) rfl
      refine tt_callV (rest := []) C (tc_X0_dropDoneRequests_1 hl D cA ak h0 hk0 hok_12) [] [] rfl rfl (by decide) (by decide) (by decide) qc hqc rfl rfl jw_0b1f3c3696 jw_8c2aa441ca jw_a9b330a1c3 jw_7d25d4fd32 jw_77bdbcf71c jn_X0_dropDoneRequests rfl (jj_le rfl) (jj_le rfl) (jj_le rfl) (jj_le rfl) (jj_le rfl) dX0_removeRequest_23 rfl (fun _ _ _ hX => hX.elim) (fun rx pl_14 r O_17 => ?_)
      obtain ⟨rfl, hok_15, hr_16, hR_19⟩ := O_17
      replace hf_7 := hr_16.at hk0 (by decide) (by decide) hf_7
      replace hf_13 := hr_16.at ka_10 (by decide) (by decide) hf_13
      replace hfr := hfr.trans (hr_16.sub (by decide))
      obtain ⟨x_22, lx_22, ux_22, rfl⟩ := hR_19
      refine jj_pop C dX0_removeRequest_26 rfl ?_
      exact jj_vret C ⟨[], pl_14, rfl, rfl, hok_15, hfr, rfl⟩ dX0_removeRequest_27 (jj_le rfl) (jj_le rfl)

set_option maxHeartbeats 4000000 in
set_option maxRecDepth 100000 in
theorem tc_X10_wouldRedeem_1 {l : Launch} (hl : l.stackTraces = false) (D : va_G) (cA : Nat → ClassId) (ak : (Nat → Nat) × (Nat → Nat)) {Kd : Nat → Nat} (h0 : Nat) (p1 : Int32) (hk0 : Kd h0 = 15) {pl0 : va_W} (hok : tt_ok tt_tk cA Kd pl0) : jj_M l D cA ak yX10_wouldRedeem (.code yX10_wouldRedeem cX10_wouldRedeem 2 (some .long)) 8 123 1 6 ([] ++ pl0) [.ref h0, .int p1] (tt_O (fun rx pl1 r => rx = [] ∧ tt_ok tt_tk cA Kd pl1 ∧ tt_fr Kd [(1, 0), (1, 1), (1, 2), (1, 3), (1, 4), (1, 5), (1, 6), (1, 7), (1, 8), (1, 9), (2, 0), (2, 1), (2, 2), (2, 3), (2, 4), (3, 0), (3, 1), (3, 2), (3, 3), (3, 4), (3, 5), (4, 0), (4, 1), (4, 2), (4, 3), (4, 4), (9, 1), (9, 2), (9, 3), (9, 4), (9, 5)] pl0 pl1 ∧ ((∃ v : Int64, (0 : Int) ≤ p1.toInt ∧ p1.toInt ≤ 11 ∧ r = some (.long v)) ∨ ((0 : Int) ≤ p1.toInt ∧ p1.toInt ≤ 11 ∧ r = some (.long 0))))) (tt_OX (fun E rx pl1 => rx = [] ∧ tt_ok tt_tk cA Kd pl1 ∧ tt_fr Kd [(1, 0), (1, 1), (1, 2), (1, 3), (1, 4), (1, 5), (1, 6), (1, 7), (1, 8), (1, 9), (2, 0), (2, 1), (2, 2), (2, 3), (2, 4), (3, 0), (3, 1), (3, 2), (3, 3), (3, 4), (3, 5), (4, 0), (4, 1), (4, 2), (4, 3), (4, 4), (9, 1), (9, 2), (9, 3), (9, 4), (9, 5)] pl0 pl1 ∧ (E = "java/lang/IndexOutOfBoundsException"))) := by
  refine jj_start hl (by decide) jw_4fd80d1b98 (jj_le rfl) ?_
  intro p e s m args below meth c A hargs hA C hex hmn
  have hfr := tt_fr.refl (K := Kd) (WS := [(1, 0), (1, 1), (1, 2), (1, 3), (1, 4), (1, 5), (1, 6), (1, 7), (1, 8), (1, 9), (2, 0), (2, 1), (2, 2), (2, 3), (2, 4), (3, 0), (3, 1), (3, 2), (3, 3), (3, 4), (3, 5), (4, 0), (4, 1), (4, 2), (4, 3), (4, 4), (9, 1), (9, 2), (9, 3), (9, 4), (9, 5)]) pl0
  have lp1 := tt_lo p1
  have up1 := tt_hi p1
  refine jj_aload_n C dX10_wouldRedeem_0 rfl ?_
  refine jj_iload_n C dX10_wouldRedeem_1 rfl ?_
  obtain ⟨qc, gs, hqc⟩ := tt_recv (cx := []) hok hk0 (by decide) rfl
  refine tt_callV (rest := []) C (tc_X10_checkRequest_1 hl D cA ak h0 p1 hk0 hok) [] [] rfl rfl (by decide) (by decide) (by decide) qc hqc rfl rfl jw_8393dc7999 jw_19ebf3d629 jw_0700398a86 jw_6f6d707074 jw_31f2a3897e jn_X10_checkRequest rfl (jj_le rfl) (jj_le rfl) (jj_le rfl) (jj_le rfl) (jj_le rfl) dX10_wouldRedeem_2 rfl (fun E rx pl_1 X_5 => ?_) (fun rx pl_1 r O_4 => ?_)
  · obtain ⟨rfl, hok_2, hr_3, hE_6⟩ := X_5
    replace hfr := hfr.trans (hr_3.sub (by decide))
    obtain rfl := hE_6
    exact jj_out C hex ⟨[], pl_1, rfl, rfl, hok_2, hfr, rfl⟩ (jj_le rfl) (jj_le rfl)
  · obtain ⟨rfl, hok_2, hr_3, hR_9⟩ := O_4
    replace hfr := hfr.trans (hr_3.sub (by decide))
    obtain ⟨l_12, u_13, rfl⟩ := hR_9
    refine jj_aload_n C dX10_wouldRedeem_5 rfl ?_
    refine tt_get C hok_2 jk_11 3 (by decide) jw_f82a97e333 (t := (2, 1, 0)) hk0 (by decide) rfl rfl dX10_wouldRedeem_6 (fun v_14 hv_14 hf_15 => ?_)
    obtain ⟨a_16, rfl, ka_16⟩ := tt_vr hv_14
    refine tt_get C hok_2 jk_2 13 (by decide) jw_68e650e198 (t := (2, 8, 0)) ka_16 (by decide) rfl rfl dX10_wouldRedeem_9 (fun v_17 hv_17 hf_18 => ?_)
    obtain ⟨a_19, rfl, ka_19⟩ := tt_vr hv_17
    refine jj_iload_n C dX10_wouldRedeem_12 rfl ?_
    refine tt_aald C hok_2 (t := (2, 4, 0)) ka_19 (by decide) rfl rfl rfl (vp_in_iff.mpr ⟨by omega, by omega⟩) dX10_wouldRedeem_13 (fun v_20 hv_20 => ?_)
    obtain ⟨a_21, rfl, ka_21⟩ := tt_vr hv_20
    refine tt_get C hok_2 jk_7 2 (by decide) jw_1fa8e983d6 (t := (0, 0, 1)) ka_21 (by decide) rfl rfl dX10_wouldRedeem_14 (fun v_22 hv_22 hf_23 => ?_)
    obtain ⟨x_24, rfl, lx_24, ux_24⟩ := tt_vi hv_22
    refine jj_if_ne (tgt := 22) C dX10_wouldRedeem_17 (by decide) (fun c_25 => ?_) (fun c_25 => ?_)
    · have z_c_25 := jc_neq (a := (x_24).toInt) (b := (0)) c_25 rfl (by decide)
      refine jj_aload_n C dX10_wouldRedeem_22 rfl ?_
      refine tt_get C hok_2 jk_11 4 (by decide) jw_a0e4d790fa (t := (2, 1, 0)) hk0 (by decide) rfl rfl dX10_wouldRedeem_23 (fun v_26 hv_26 hf_27 => ?_)
      obtain ⟨a_28, rfl, ka_28⟩ := tt_vr hv_26
      refine jj_aload_n C dX10_wouldRedeem_26 rfl ?_
      refine tt_getF C hok_2 jk_11 3 (by decide) jw_f82a97e333 (t := (2, 1, 0)) hk0 (by decide) rfl rfl hf_15 dX10_wouldRedeem_27 ?_
      obtain ⟨qc, gs, hqc⟩ := tt_recv (cx := []) hok_2 ka_28 (by decide) rfl
      refine tt_callV (rest := []) C (tc_X0_copyFrom_1 hl D cA ak a_28 a_16 ka_28 ka_16 hok_2) [] [] rfl rfl (by decide) (by decide) (by decide) qc hqc rfl rfl jw_4d0cb05860 jw_8aa1bdb2cc jw_ac98d74d03 jw_7d25d4fd32 jw_58241735d3 jn_X0_copyFrom rfl (jj_le rfl) (jj_le rfl) (jj_le rfl) (jj_le rfl) (jj_le rfl) dX10_wouldRedeem_30 rfl (fun _ _ _ hX => hX.elim) (fun rx pl_29 r O_32 => ?_)
      obtain ⟨rfl, hok_30, hr_31, hR_34⟩ := O_32
      replace hf_15 := hr_31.at hk0 (by decide) (by decide) hf_15
      replace hf_18 := hr_31.at ka_16 (by decide) (by decide) hf_18
      replace hf_27 := hr_31.at hk0 (by decide) (by decide) hf_27
      replace hfr := hfr.trans (hr_31.sub (by decide))
      obtain rfl := hR_34
      refine jj_aload_n C dX10_wouldRedeem_33 rfl ?_
      refine tt_get C hok_30 jk_11 5 (by decide) jw_34b8702fe2 (t := (2, 9, 0)) hk0 (by decide) rfl rfl dX10_wouldRedeem_34 (fun v_37 hv_37 hf_38 => ?_)
      obtain ⟨a_39, rfl, ka_39⟩ := tt_vr hv_37
      refine jj_aload_n C dX10_wouldRedeem_37 rfl ?_
      refine tt_getF C hok_30 jk_11 4 (by decide) jw_a0e4d790fa (t := (2, 1, 0)) hk0 (by decide) rfl rfl hf_27 dX10_wouldRedeem_38 ?_
      refine jj_aload_n C dX10_wouldRedeem_41 rfl ?_
      refine tt_getF C hok_30 jk_11 5 (by decide) jw_34b8702fe2 (t := (2, 9, 0)) hk0 (by decide) rfl rfl hf_38 dX10_wouldRedeem_42 ?_
      refine jj_aload_n C dX10_wouldRedeem_45 rfl ?_
      refine tt_getF C hok_30 jk_11 4 (by decide) jw_a0e4d790fa (t := (2, 1, 0)) hk0 (by decide) rfl rfl hf_27 dX10_wouldRedeem_46 ?_
      obtain ⟨qc, gs, hqc⟩ := tt_recv (cx := []) hok_30 ka_39 (by decide) rfl
      refine tt_callV (rest := [.ref a_28, .ref a_39]) C (tc_X1_baseOfRedemptions_1 hl D cA ak a_39 a_28 ka_39 ka_28 hok_30) [] [] rfl rfl (by decide) (by decide) (by decide) qc hqc rfl rfl jw_0c87748527 jw_36bb45001b jw_b21f9198d3 jw_944cf9c3ab jw_77ee4174d9 jn_X1_baseOfRedemptions rfl (jj_le rfl) (jj_le rfl) (jj_le rfl) (jj_le rfl) (jj_le rfl) dX10_wouldRedeem_49 rfl (fun _ _ _ hX => hX.elim) (fun rx pl_40 r O_43 => ?_)
      obtain ⟨rfl, hok_41, hr_42, hR_45⟩ := O_43
      replace hf_15 := hr_42.at hk0 (by decide) (by decide) hf_15
      replace hf_18 := hr_42.at ka_16 (by decide) (by decide) hf_18
      replace hf_27 := hr_42.at hk0 (by decide) (by decide) hf_27
      replace hf_38 := hr_42.at hk0 (by decide) (by decide) hf_38
      replace hfr := hfr.trans (hr_42.sub (by decide))
      obtain ⟨y_48, rfl⟩ := hR_45
      obtain ⟨qc, gs, hqc⟩ := tt_recv (cx := []) hok_41 ka_39 (by decide) rfl
      refine tt_callV (rest := []) C (tc_X1_redeemWaiting_1 hl D cA ak a_39 a_28 y_48 ka_39 ka_28 hok_41) [] [] rfl rfl (by decide) (by decide) (by decide) qc hqc rfl rfl jw_4ebc084d1c jw_1a80919bc4 jw_88c712b448 jw_944cf9c3ab jw_4b6b3c5714 jn_X1_redeemWaiting rfl (jj_le rfl) (jj_le rfl) (jj_le rfl) (jj_le rfl) (jj_le rfl) dX10_wouldRedeem_52 rfl (fun _ _ _ hX => hX.elim) (fun rx pl_49 r O_52 => ?_)
      obtain ⟨rfl, hok_50, hr_51, hR_54⟩ := O_52
      replace hf_15 := hr_51.at hk0 (by decide) (by decide) hf_15
      replace hf_18 := hr_51.at ka_16 (by decide) (by decide) hf_18
      replace hf_27 := hr_51.at hk0 (by decide) (by decide) hf_27
      replace hf_38 := hr_51.at hk0 (by decide) (by decide) hf_38
      replace hfr := hfr.trans (hr_51.sub (by decide))
      obtain rfl := hR_54
      refine jj_aload_n C dX10_wouldRedeem_55 rfl ?_
      refine tt_getF C hok_50 jk_11 4 (by decide) jw_a0e4d790fa (t := (2, 1, 0)) hk0 (by decide) rfl rfl hf_27 dX10_wouldRedeem_56 ?_
      refine tt_get C hok_50 jk_2 13 (by decide) jw_68e650e198 (t := (2, 8, 0)) ka_28 (by decide) rfl rfl dX10_wouldRedeem_59 (fun v_57 hv_57 hf_58 => ?_)
      obtain ⟨a_59, rfl, ka_59⟩ := tt_vr hv_57
      refine jj_iload_n C dX10_wouldRedeem_62 rfl ?_
      refine tt_aald C hok_50 (t := (2, 4, 0)) ka_59 (by decide) rfl rfl rfl (vp_in_iff.mpr ⟨by omega, by omega⟩) dX10_wouldRedeem_63 (fun v_60 hv_60 => ?_)
      obtain ⟨a_61, rfl, ka_61⟩ := tt_vr hv_60
      refine tt_get C hok_50 jk_7 4 (by decide) jw_63419c06a6 (t := (1, (-9223372036854775808), 9223372036854775807)) ka_61 (by decide) rfl rfl dX10_wouldRedeem_64 (fun v_62 hv_62 hf_63 => ?_)
      obtain ⟨y_64, rfl, -, -⟩ := tt_vj hv_62
      exact jj_lret C ⟨[], pl_49, rfl, rfl, hok_50, hfr, (Or.inl ⟨y_64, (by first | omega | exact tt_lo _ | exact tt_hi _), (by first | omega | exact tt_lo _ | exact tt_hi _), rfl⟩)⟩ dX10_wouldRedeem_67 (jj_le rfl) (jj_le rfl)
    · have z_c_25 := jc_eq (a := (x_24).toInt) (b := (0)) c_25 rfl (by decide)
      refine jj_lconst (v := 0) C dX10_wouldRedeem_20 (by decide) ?_
      exact jj_lret C ⟨[], pl_1, rfl, rfl, hok_2, hfr, (Or.inl ⟨(0 : Int64), (by first | omega | exact tt_lo _ | exact tt_hi _), (by first | omega | exact tt_lo _ | exact tt_hi _), rfl⟩)⟩ dX10_wouldRedeem_21 (jj_le rfl) (jj_le rfl)

set_option maxHeartbeats 4000000 in
set_option maxRecDepth 100000 in
theorem tc_X9_takeBuffer_1 {l : Launch} (hl : l.stackTraces = false) (D : va_G) (cA : Nat → ClassId) (ak : (Nat → Nat) × (Nat → Nat)) {Kd : Nat → Nat} (h0 : Nat) (hk0 : Kd h0 = 10) {pl0 : va_W} (hok : tt_ok tt_tk cA Kd pl0) : jj_M l D cA ak yX9_takeBuffer (.code yX9_takeBuffer cX9_takeBuffer 1 none) 0 0 0 0 ([] ++ pl0) [.ref h0] (tt_O (fun rx pl1 r => rx = [] ∧ tt_ok tt_tk cA Kd pl1 ∧ tt_fr Kd [(10, 1), (10, 2), (10, 3), (10, 4), (10, 5)] pl0 pl1 ∧ ((r = none)))) (tt_OX (fun _ _ _ => False)) := by
  refine jj_start hl (by decide) jw_e4fa8c07c9 (jj_le rfl) ?_
  intro p e s m args below meth c A hargs hA C hex hmn
  have hfr := tt_fr.refl (K := Kd) (WS := [(10, 1), (10, 2), (10, 3), (10, 4), (10, 5)]) pl0
  refine jj_aload_n C dX9_takeBuffer_0 rfl ?_
  refine jj_aload_n C dX9_takeBuffer_1 rfl ?_
  refine tt_get C hok jk_10 1 (by decide) jw_133bcadae3 (t := (0, 0, 400)) hk0 (by decide) rfl rfl dX9_takeBuffer_2 (fun v_1 hv_1 hf_2 => ?_)
  obtain ⟨x_3, rfl, lx_3, ux_3⟩ := tt_vi hv_1
  refine tt_put C hok jk_10 2 (by decide) jw_bc3c1a7c51 (t := (0, 0, 400)) hk0 (by decide) rfl rfl rfl (tt_iv (by omega) (by omega)) rfl rfl dX9_takeBuffer_5 (fun pl_4 hok_5 tr hn => ?_)
  replace hf_2 := tr _ _ _ (Or.inr (by decide)) hf_2
  have hf_6 := hn
  replace hfr := hfr.put hk0 tr (by decide)
  refine jj_aload_n C dX9_takeBuffer_8 rfl ?_
  refine jj_iconst (v := 0) C dX9_takeBuffer_9 (by decide) ?_
  refine tt_put C hok_5 jk_10 1 (by decide) jw_133bcadae3 (t := (0, 0, 400)) hk0 (by decide) rfl rfl rfl (tt_iv (by decide) (by decide)) rfl rfl dX9_takeBuffer_10 (fun pl_7 hok_8 tr hn => ?_)
  replace hf_6 := tr _ _ _ (Or.inr (by decide)) hf_6
  have hf_9 := hn
  replace hfr := hfr.put hk0 tr (by decide)
  refine jj_aload_n C dX9_takeBuffer_13 rfl ?_
  refine jj_iconst (v := 0) C dX9_takeBuffer_14 (by decide) ?_
  refine tt_put C hok_8 jk_10 4 (by decide) jw_66bda6962a (t := (0, 0, 400)) hk0 (by decide) rfl rfl rfl (tt_iv (by decide) (by decide)) rfl rfl dX9_takeBuffer_15 (fun pl_10 hok_11 tr hn => ?_)
  replace hf_6 := tr _ _ _ (Or.inr (by decide)) hf_6
  replace hf_9 := tr _ _ _ (Or.inr (by decide)) hf_9
  have hf_12 := hn
  replace hfr := hfr.put hk0 tr (by decide)
  refine jj_aload_n C dX9_takeBuffer_18 rfl ?_
  refine jj_iconst (v := 0) C dX9_takeBuffer_19 (by decide) ?_
  refine tt_put C hok_11 jk_10 3 (by decide) jw_f99bd0ca2b (t := (0, 0, 400)) hk0 (by decide) rfl rfl rfl (tt_iv (by decide) (by decide)) rfl rfl dX9_takeBuffer_20 (fun pl_13 hok_14 tr hn => ?_)
  replace hf_6 := tr _ _ _ (Or.inr (by decide)) hf_6
  replace hf_9 := tr _ _ _ (Or.inr (by decide)) hf_9
  replace hf_12 := tr _ _ _ (Or.inr (by decide)) hf_12
  have hf_15 := hn
  replace hfr := hfr.put hk0 tr (by decide)
  refine jj_aload_n C dX9_takeBuffer_23 rfl ?_
  refine jj_iconst (v := 0) C dX9_takeBuffer_24 (by decide) ?_
  refine tt_put C hok_14 jk_10 5 (by decide) jw_bde5c0d1a5 (t := (0, (-2147483648), 2147483647)) hk0 (by decide) rfl rfl rfl (tt_ia (0 : Int32)) rfl rfl dX9_takeBuffer_25 (fun pl_16 hok_17 tr hn => ?_)
  replace hf_6 := tr _ _ _ (Or.inr (by decide)) hf_6
  replace hf_9 := tr _ _ _ (Or.inr (by decide)) hf_9
  replace hf_12 := tr _ _ _ (Or.inr (by decide)) hf_12
  replace hf_15 := tr _ _ _ (Or.inr (by decide)) hf_15
  have hf_18 := hn
  replace hfr := hfr.put hk0 tr (by decide)
  exact jj_vret C ⟨[], pl_16, rfl, rfl, hok_17, hfr, rfl⟩ dX9_takeBuffer_28 (jj_le rfl) (jj_le rfl)

set_option maxHeartbeats 4000000 in
set_option maxRecDepth 100000 in
theorem tc_X0_empty_1 {l : Launch} (hl : l.stackTraces = false) (D : va_G) (cA : Nat → ClassId) (ak : (Nat → Nat) × (Nat → Nat)) {Kd : Nat → Nat} (h0 : Nat) (hk0 : Kd h0 = 1) {pl0 : va_W} (hok : tt_ok tt_tk cA Kd pl0) : jj_M l D cA ak yX0_empty (.code yX0_empty cX0_empty 2 none) 0 0 0 0 ([] ++ pl0) [.ref h0] (tt_O (fun rx pl1 r => rx = [] ∧ tt_ok tt_tk cA Kd pl1 ∧ tt_fr Kd [(1, 5), (1, 6), (1, 7), (1, 8), (1, 9)] pl0 pl1 ∧ ((r = none)))) (tt_OX (fun _ _ _ => False)) := by
  refine jj_start hl (by decide) jw_3b60f34034 (jj_le rfl) ?_
  intro p e s m args below meth c A hargs hA C hex hmn
  have hfr := tt_fr.refl (K := Kd) (WS := [(1, 5), (1, 6), (1, 7), (1, 8), (1, 9)]) pl0
  refine jj_aload_n C dX0_empty_0 rfl ?_
  refine jj_iconst (v := 0) C dX0_empty_1 (by decide) ?_
  refine tt_put C hok jk_2 5 (by decide) jw_cd8f4320e7 (t := (0, (-2147483648), 2147483647)) hk0 (by decide) rfl rfl rfl (tt_ia (0 : Int32)) rfl rfl dX0_empty_2 (fun pl_1 hok_2 tr hn => ?_)
  have hf_3 := hn
  replace hfr := hfr.put hk0 tr (by decide)
  refine jj_aload_n C dX0_empty_5 rfl ?_
  refine jj_iconst (v := 0) C dX0_empty_6 (by decide) ?_
  refine tt_put C hok_2 jk_2 6 (by decide) jw_cb51088522 (t := (0, (-2147483648), 2147483647)) hk0 (by decide) rfl rfl rfl (tt_ia (0 : Int32)) rfl rfl dX0_empty_7 (fun pl_4 hok_5 tr hn => ?_)
  replace hf_3 := tr _ _ _ (Or.inr (by decide)) hf_3
  have hf_6 := hn
  replace hfr := hfr.put hk0 tr (by decide)
  refine jj_aload_n C dX0_empty_10 rfl ?_
  refine jj_iconst (v := 0) C dX0_empty_11 (by decide) ?_
  refine tt_put C hok_5 jk_2 7 (by decide) jw_4839b30b4b (t := (0, 0, 6)) hk0 (by decide) rfl rfl rfl (tt_iv (by decide) (by decide)) rfl rfl dX0_empty_12 (fun pl_7 hok_8 tr hn => ?_)
  replace hf_3 := tr _ _ _ (Or.inr (by decide)) hf_3
  replace hf_6 := tr _ _ _ (Or.inr (by decide)) hf_6
  have hf_9 := hn
  replace hfr := hfr.put hk0 tr (by decide)
  refine jj_aload_n C dX0_empty_15 rfl ?_
  refine jj_iconst (v := 0) C dX0_empty_16 (by decide) ?_
  refine tt_put C hok_8 jk_2 8 (by decide) jw_9d0ccd4490 (t := (0, 0, 40)) hk0 (by decide) rfl rfl rfl (tt_iv (by decide) (by decide)) rfl rfl dX0_empty_17 (fun pl_10 hok_11 tr hn => ?_)
  replace hf_3 := tr _ _ _ (Or.inr (by decide)) hf_3
  replace hf_6 := tr _ _ _ (Or.inr (by decide)) hf_6
  replace hf_9 := tr _ _ _ (Or.inr (by decide)) hf_9
  have hf_12 := hn
  replace hfr := hfr.put hk0 tr (by decide)
  refine jj_aload_n C dX0_empty_20 rfl ?_
  refine jj_iconst (v := 0) C dX0_empty_21 (by decide) ?_
  refine tt_put C hok_11 jk_2 9 (by decide) jw_a6a6052378 (t := (0, 0, 12)) hk0 (by decide) rfl rfl rfl (tt_iv (by decide) (by decide)) rfl rfl dX0_empty_22 (fun pl_13 hok_14 tr hn => ?_)
  replace hf_3 := tr _ _ _ (Or.inr (by decide)) hf_3
  replace hf_6 := tr _ _ _ (Or.inr (by decide)) hf_6
  replace hf_9 := tr _ _ _ (Or.inr (by decide)) hf_9
  replace hf_12 := tr _ _ _ (Or.inr (by decide)) hf_12
  have hf_15 := hn
  replace hfr := hfr.put hk0 tr (by decide)
  refine jj_iconst (v := 0) C dX0_empty_25 (by decide) ?_
  refine jj_istore_n C dX0_empty_26 (by decide) rfl ?_
  have hL_16 : ∀ (N : Nat) (pl : va_W) (x_17 : Int32), True → tt_ok tt_tk cA Kd pl → tt_fr Kd [(1, 5), (1, 6), (1, 7), (1, 8), (1, 9)] pl0 pl → (0 : Int) ≤ x_17.toInt → x_17.toInt ≤ 6 → (2147483648 - x_17.toInt ≤ (N : Int)) → jj_J p l e (jj_rm 0 0 0 0) s m args below meth c 2 A (vx_MQ below (jj_q D A (tt_O (fun rx pl1 r => rx = [] ∧ tt_ok tt_tk cA Kd pl1 ∧ tt_fr Kd [(1, 5), (1, 6), (1, 7), (1, 8), (1, 9)] pl0 pl1 ∧ ((r = none))))) (jj_x D A (tt_OX (fun _ _ _ => False))) args s 0 0 A) (jj_X D A ([] ++ pl)) 0 0 27 [(1, .int x_17), (0, .ref h0)] [] := by
    intro NL_16
    induction NL_16 with
    | zero => intro pl x_17 _ hok hfr lx_17 ux_17 hNL_16; exfalso; omega
    | succ NL_16 ihL_16 =>
      intro pl x_17 _ hok hfr lx_17 ux_17 hNL_16
      replace ihL_16 := fun pl x_17 h1 => ihL_16 pl x_17 trivial h1
      refine jj_iload_n C dX0_empty_27 rfl ?_
      refine jj_bipush (v := 6) C dX0_empty_28 (by decide) ?_
      refine jj_icmp_ge (tgt := 46) C dX0_empty_30 (by decide) (fun c_18 => ?_) (fun c_18 => ?_)
      · have z_c_18 := jc_le (a := (6)) (b := (x_17).toInt) c_18 (by decide) rfl
        exact jj_vret C ⟨[], pl, rfl, rfl, hok, hfr, rfl⟩ dX0_empty_46 (jj_le rfl) (jj_le rfl)
      · have z_c_18 := jc_nle (a := (6)) (b := (x_17).toInt) c_18 (by decide) rfl
        refine jj_aload_n C dX0_empty_33 rfl ?_
        refine tt_get C hok jk_2 10 (by decide) jw_10b3e82d95 (t := (2, 5, 0)) hk0 (by decide) rfl rfl dX0_empty_34 (fun v_19 hv_19 hf_20 => ?_)
        obtain ⟨a_21, rfl, ka_21⟩ := tt_vr hv_19
        refine jj_iload_n C dX0_empty_37 rfl ?_
        refine jj_lconst (v := 0) C dX0_empty_38 (by decide) ?_
        refine tt_last C hok (t := (1, (-9223372036854775808), 9223372036854775807)) ka_21 (by decide) rfl (vp_in_iff.mpr ⟨by omega, by omega⟩) (tt_ja _) dX0_empty_39 (fun pl_22 hok_23 tr => ?_)
        replace hf_20 := tr _ _ _ hf_20
        replace hfr := hfr.arr tr
        obtain ⟨x_24, ex_24, vx_24⟩ := tt_inc (x := x_17) (n := 1) (by omega) (by omega)
        refine jj_iinc (v := x_24) C dX0_empty_40 rfl ex_24 (by decide) rfl ?_
        refine jj_goto (tgt := 27) C dX0_empty_43 (by decide) ?_
        exact ihL_16 pl_22 x_24 hok_23 hfr (by first | omega | decide | exact tt_lo _ | exact tt_hi _) (by first | omega | decide | exact tt_lo _ | exact tt_hi _) (by first | omega | decide | exact tt_lo _ | exact tt_hi _)
  exact hL_16 _ pl_13 (0 : Int32) trivial hok_14 hfr (by first | omega | decide | exact tt_lo _ | exact tt_hi _) (by first | omega | decide | exact tt_lo _ | exact tt_hi _) (Int.self_le_toNat _)

set_option maxHeartbeats 4000000 in
set_option maxRecDepth 100000 in
theorem tc_X9_isLetter_1 {l : Launch} (hl : l.stackTraces = false) (D : va_G) (cA : Nat → ClassId) (ak : (Nat → Nat) × (Nat → Nat)) {Kd : Nat → Nat} (h0 : Nat) (p1 : Int32) (hk0 : Kd h0 = 10) (lp1 : (0 : Int) ≤ p1.toInt) (up1 : p1.toInt ≤ 399) {pl0 : va_W} (hok : tt_ok tt_tk cA Kd pl0) : jj_M l D cA ak yX9_isLetter (.code yX9_isLetter cX9_isLetter 2 (some .boolean)) 0 0 0 0 ([] ++ pl0) [.ref h0, .int p1] (tt_O (fun rx pl1 r => rx = [] ∧ tt_ok tt_tk cA Kd pl1 ∧ tt_fr Kd [] pl0 pl1 ∧ ((r = some (.int 0)) ∨ (r = some (.int 1))))) (tt_OX (fun _ _ _ => False)) := by
  refine jj_start hl (by decide) jw_9e97b9dadb (jj_le rfl) ?_
  intro p e s m args below meth c A hargs hA C hex hmn
  have hfr := tt_fr.refl (K := Kd) (WS := []) pl0
  refine jj_aload_n C dX9_isLetter_0 rfl ?_
  refine tt_get C hok jk_10 0 (by decide) jw_0664e1e086 (t := (2, 11, 0)) hk0 (by decide) rfl rfl dX9_isLetter_1 (fun v_1 hv_1 hf_2 => ?_)
  obtain ⟨a_3, rfl, ka_3⟩ := tt_vr hv_1
  refine jj_iload_n C dX9_isLetter_4 rfl ?_
  refine tt_cald C hok (t := (0, (-2147483648), 2147483647)) ka_3 (by decide) rfl (vp_in_iff.mpr ⟨by omega, by omega⟩) dX9_isLetter_5 (fun v_4 hv_4 => ?_)
  refine jj_bipush (v := 97) C dX9_isLetter_6 (by decide) ?_
  refine jj_icmp_lt (tgt := 26) C dX9_isLetter_8 (by decide) (fun c_5 => ?_) (fun c_5 => ?_)
  · have z_c_5 := jc_lt (a := (v_4).toInt) (b := (97)) c_5 rfl (by decide)
    refine jj_iconst (v := 0) C dX9_isLetter_26 (by decide) ?_
    exact jj_zret C rfl ⟨[], pl0, rfl, rfl, hok, hfr, (Or.inl rfl)⟩ dX9_isLetter_27 (jj_le rfl) (jj_le rfl)
  · have z_c_5 := jc_nlt (a := (v_4).toInt) (b := (97)) c_5 rfl (by decide)
    refine jj_aload_n C dX9_isLetter_11 rfl ?_
    refine tt_getF C hok jk_10 0 (by decide) jw_0664e1e086 (t := (2, 11, 0)) hk0 (by decide) rfl rfl hf_2 dX9_isLetter_12 ?_
    refine jj_iload_n C dX9_isLetter_15 rfl ?_
    refine tt_cald C hok (t := (0, (-2147483648), 2147483647)) ka_3 (by decide) rfl (vp_in_iff.mpr ⟨by omega, by omega⟩) dX9_isLetter_16 (fun v_6 hv_6 => ?_)
    refine jj_bipush (v := 122) C dX9_isLetter_17 (by decide) ?_
    refine jj_icmp_gt (tgt := 26) C dX9_isLetter_19 (by decide) (fun c_7 => ?_) (fun c_7 => ?_)
    · have z_c_7 := jc_lt (a := (122)) (b := (v_6).toInt) c_7 (by decide) rfl
      refine jj_iconst (v := 0) C dX9_isLetter_26 (by decide) ?_
      exact jj_zret C rfl ⟨[], pl0, rfl, rfl, hok, hfr, (Or.inl rfl)⟩ dX9_isLetter_27 (jj_le rfl) (jj_le rfl)
    · have z_c_7 := jc_nlt (a := (122)) (b := (v_6).toInt) c_7 (by decide) rfl
      refine jj_iconst (v := 1) C dX9_isLetter_22 (by decide) ?_
      refine jj_goto (tgt := 27) C dX9_isLetter_23 (by decide) ?_
      exact jj_zret C rfl ⟨[], pl0, rfl, rfl, hok, hfr, (Or.inr rfl)⟩ dX9_isLetter_27 (jj_le rfl) (jj_le rfl)

set_option maxHeartbeats 4000000 in
set_option maxRecDepth 100000 in
theorem tc_X9_isDigit_1 {l : Launch} (hl : l.stackTraces = false) (D : va_G) (cA : Nat → ClassId) (ak : (Nat → Nat) × (Nat → Nat)) {Kd : Nat → Nat} (h0 : Nat) (p1 : Int32) (hk0 : Kd h0 = 10) (lp1 : (0 : Int) ≤ p1.toInt) (up1 : p1.toInt ≤ 399) {pl0 : va_W} (hok : tt_ok tt_tk cA Kd pl0) : jj_M l D cA ak yX9_isDigit (.code yX9_isDigit cX9_isDigit 2 (some .boolean)) 0 0 0 0 ([] ++ pl0) [.ref h0, .int p1] (tt_O (fun rx pl1 r => rx = [] ∧ tt_ok tt_tk cA Kd pl1 ∧ tt_fr Kd [] pl0 pl1 ∧ ((r = some (.int 0)) ∨ (r = some (.int 1))))) (tt_OX (fun _ _ _ => False)) := by
  refine jj_start hl (by decide) jw_c365050a25 (jj_le rfl) ?_
  intro p e s m args below meth c A hargs hA C hex hmn
  have hfr := tt_fr.refl (K := Kd) (WS := []) pl0
  refine jj_aload_n C dX9_isDigit_0 rfl ?_
  refine tt_get C hok jk_10 0 (by decide) jw_0664e1e086 (t := (2, 11, 0)) hk0 (by decide) rfl rfl dX9_isDigit_1 (fun v_1 hv_1 hf_2 => ?_)
  obtain ⟨a_3, rfl, ka_3⟩ := tt_vr hv_1
  refine jj_iload_n C dX9_isDigit_4 rfl ?_
  refine tt_cald C hok (t := (0, (-2147483648), 2147483647)) ka_3 (by decide) rfl (vp_in_iff.mpr ⟨by omega, by omega⟩) dX9_isDigit_5 (fun v_4 hv_4 => ?_)
  refine jj_bipush (v := 48) C dX9_isDigit_6 (by decide) ?_
  refine jj_icmp_lt (tgt := 26) C dX9_isDigit_8 (by decide) (fun c_5 => ?_) (fun c_5 => ?_)
  · have z_c_5 := jc_lt (a := (v_4).toInt) (b := (48)) c_5 rfl (by decide)
    refine jj_iconst (v := 0) C dX9_isDigit_26 (by decide) ?_
    exact jj_zret C rfl ⟨[], pl0, rfl, rfl, hok, hfr, (Or.inl rfl)⟩ dX9_isDigit_27 (jj_le rfl) (jj_le rfl)
  · have z_c_5 := jc_nlt (a := (v_4).toInt) (b := (48)) c_5 rfl (by decide)
    refine jj_aload_n C dX9_isDigit_11 rfl ?_
    refine tt_getF C hok jk_10 0 (by decide) jw_0664e1e086 (t := (2, 11, 0)) hk0 (by decide) rfl rfl hf_2 dX9_isDigit_12 ?_
    refine jj_iload_n C dX9_isDigit_15 rfl ?_
    refine tt_cald C hok (t := (0, (-2147483648), 2147483647)) ka_3 (by decide) rfl (vp_in_iff.mpr ⟨by omega, by omega⟩) dX9_isDigit_16 (fun v_6 hv_6 => ?_)
    refine jj_bipush (v := 57) C dX9_isDigit_17 (by decide) ?_
    refine jj_icmp_gt (tgt := 26) C dX9_isDigit_19 (by decide) (fun c_7 => ?_) (fun c_7 => ?_)
    · have z_c_7 := jc_lt (a := (57)) (b := (v_6).toInt) c_7 (by decide) rfl
      refine jj_iconst (v := 0) C dX9_isDigit_26 (by decide) ?_
      exact jj_zret C rfl ⟨[], pl0, rfl, rfl, hok, hfr, (Or.inl rfl)⟩ dX9_isDigit_27 (jj_le rfl) (jj_le rfl)
    · have z_c_7 := jc_nlt (a := (57)) (b := (v_6).toInt) c_7 (by decide) rfl
      refine jj_iconst (v := 1) C dX9_isDigit_22 (by decide) ?_
      refine jj_goto (tgt := 27) C dX9_isDigit_23 (by decide) ?_
      exact jj_zret C rfl ⟨[], pl0, rfl, rfl, hok, hfr, (Or.inr rfl)⟩ dX9_isDigit_27 (jj_le rfl) (jj_le rfl)

set_option maxHeartbeats 4000000 in
set_option maxRecDepth 100000 in
theorem tc_X9_advance_1 {l : Launch} (hl : l.stackTraces = false) (D : va_G) (cA : Nat → ClassId) (ak : (Nat → Nat) × (Nat → Nat)) {Kd : Nat → Nat} (h0 : Nat) (hk0 : Kd h0 = 10) {pl0 : va_W} (hok : tt_ok tt_tk cA Kd pl0) : jj_M l D cA ak yX9_advance (.code yX9_advance cX9_advance 1 none) 1 21 0 0 ([] ++ pl0) [.ref h0] (tt_O (fun rx pl1 r => rx = [] ∧ tt_ok tt_tk cA Kd pl1 ∧ tt_fr Kd [(10, 3), (10, 4), (10, 5), (10, 6)] pl0 pl1 ∧ ((r = none)))) (tt_OX (fun _ _ _ => False)) := by
  refine jj_start hl (by decide) jw_0d4db63612 (jj_le rfl) ?_
  intro p e s m args below meth c A hargs hA C hex hmn
  have hfr := tt_fr.refl (K := Kd) (WS := [(10, 3), (10, 4), (10, 5), (10, 6)]) pl0
  refine jj_aload_n C dX9_advance_0 rfl ?_
  refine jj_aload_n C dX9_advance_1 rfl ?_
  refine tt_get C hok jk_10 3 (by decide) jw_f99bd0ca2b (t := (0, 0, 400)) hk0 (by decide) rfl rfl dX9_advance_2 (fun v_1 hv_1 hf_2 => ?_)
  obtain ⟨x_3, rfl, lx_3, ux_3⟩ := tt_vi hv_1
  refine tt_put C hok jk_10 4 (by decide) jw_66bda6962a (t := (0, 0, 400)) hk0 (by decide) rfl rfl rfl (tt_iv (by omega) (by omega)) rfl rfl dX9_advance_5 (fun pl_4 hok_5 tr hn => ?_)
  replace hf_2 := tr _ _ _ (Or.inr (by decide)) hf_2
  have hf_6 := hn
  replace hfr := hfr.put hk0 tr (by decide)
  have hL_7 : ∀ (N : Nat) (pl : va_W) (x_8 : Int32), True → tt_ok tt_tk cA Kd pl → tt_fr Kd [(10, 3), (10, 4), (10, 5), (10, 6)] pl0 pl → tt_at pl h0 4 (.int x_8) → (0 : Int) ≤ x_8.toInt → x_8.toInt ≤ 400 → (401 - x_8.toInt ≤ (N : Int)) → jj_J p l e (jj_rm 1 21 0 0) s m args below meth c 1 A (vx_MQ below (jj_q D A (tt_O (fun rx pl1 r => rx = [] ∧ tt_ok tt_tk cA Kd pl1 ∧ tt_fr Kd [(10, 3), (10, 4), (10, 5), (10, 6)] pl0 pl1 ∧ ((r = none))))) (jj_x D A (tt_OX (fun _ _ _ => False))) args s 0 0 A) (jj_X D A ([] ++ pl)) 0 0 8 [(0, .ref h0)] [] := by
    intro NL_7
    induction NL_7 with
    | zero => intro pl x_8 _ hok hfr hf_9 lx_8 ux_8 hNL_7; exfalso; omega
    | succ NL_7 ihL_7 =>
      intro pl x_8 _ hok hfr hf_9 lx_8 ux_8 hNL_7
      replace ihL_7 := fun pl x_8 h1 => ihL_7 pl x_8 trivial h1
      refine jj_aload_n C dX9_advance_8 rfl ?_
      refine tt_getF C hok jk_10 4 (by decide) jw_66bda6962a (t := (0, 0, 400)) hk0 (by decide) rfl rfl hf_9 dX9_advance_9 ?_
      refine jj_aload_n C dX9_advance_12 rfl ?_
      refine tt_get C hok jk_10 2 (by decide) jw_bc3c1a7c51 (t := (0, 0, 400)) hk0 (by decide) rfl rfl dX9_advance_13 (fun v_10 hv_10 hf_11 => ?_)
      obtain ⟨x_12, rfl, lx_12, ux_12⟩ := tt_vi hv_10
      refine jj_icmp_ge (tgt := 60) C dX9_advance_16 (by decide) (fun c_13 => ?_) (fun c_13 => ?_)
      · have z_c_13 := jc_le (a := (x_12).toInt) (b := (x_8).toInt) c_13 rfl rfl
        refine jj_aload_n C dX9_advance_60 rfl ?_
        refine jj_aload_n C dX9_advance_61 rfl ?_
        refine tt_getF C hok jk_10 4 (by decide) jw_66bda6962a (t := (0, 0, 400)) hk0 (by decide) rfl rfl hf_9 dX9_advance_62 ?_
        refine tt_put C hok jk_10 3 (by decide) jw_f99bd0ca2b (t := (0, 0, 400)) hk0 (by decide) rfl rfl rfl (tt_iv (by omega) (by omega)) rfl rfl dX9_advance_65 (fun pl_14 hok_15 tr hn => ?_)
        replace hf_9 := tr _ _ _ (Or.inr (by decide)) hf_9
        replace hf_11 := tr _ _ _ (Or.inr (by decide)) hf_11
        have hf_16 := hn
        replace hfr := hfr.put hk0 tr (by decide)
        refine jj_aload_n C dX9_advance_68 rfl ?_
        refine tt_getF C hok_15 jk_10 4 (by decide) jw_66bda6962a (t := (0, 0, 400)) hk0 (by decide) rfl rfl hf_9 dX9_advance_69 ?_
        refine jj_aload_n C dX9_advance_72 rfl ?_
        refine tt_getF C hok_15 jk_10 2 (by decide) jw_bc3c1a7c51 (t := (0, 0, 400)) hk0 (by decide) rfl rfl hf_11 dX9_advance_73 ?_
        refine jj_icmp_ltF (tgt := 87) C dX9_advance_76 (by decide) (by first | exact Int64.not_lt.mpr c_13 | exact Int32.not_lt.mpr c_13) ?_
        refine jj_aload_n C dX9_advance_79 rfl ?_
        refine jj_iconst (v := 0) C dX9_advance_80 (by decide) ?_
        refine tt_put C hok_15 jk_10 5 (by decide) jw_bde5c0d1a5 (t := (0, (-2147483648), 2147483647)) hk0 (by decide) rfl rfl rfl (tt_ia (0 : Int32)) rfl rfl dX9_advance_81 (fun pl_17 hok_18 tr hn => ?_)
        replace hf_9 := tr _ _ _ (Or.inr (by decide)) hf_9
        replace hf_11 := tr _ _ _ (Or.inr (by decide)) hf_11
        replace hf_16 := tr _ _ _ (Or.inr (by decide)) hf_16
        have hf_19 := hn
        replace hfr := hfr.put hk0 tr (by decide)
        refine jj_goto (tgt := 269) C dX9_advance_84 (by decide) ?_
        exact jj_vret C ⟨[], pl_17, rfl, rfl, hok_18, hfr, rfl⟩ dX9_advance_269 (jj_le rfl) (jj_le rfl)
      · have z_c_13 := jc_nle (a := (x_12).toInt) (b := (x_8).toInt) c_13 rfl rfl
        refine jj_aload_n C dX9_advance_19 rfl ?_
        refine tt_get C hok jk_10 0 (by decide) jw_0664e1e086 (t := (2, 11, 0)) hk0 (by decide) rfl rfl dX9_advance_20 (fun v_20 hv_20 hf_21 => ?_)
        obtain ⟨a_22, rfl, ka_22⟩ := tt_vr hv_20
        refine jj_aload_n C dX9_advance_23 rfl ?_
        refine tt_getF C hok jk_10 4 (by decide) jw_66bda6962a (t := (0, 0, 400)) hk0 (by decide) rfl rfl hf_9 dX9_advance_24 ?_
        refine tt_cald C hok (t := (0, (-2147483648), 2147483647)) ka_22 (by decide) rfl (vp_in_iff.mpr ⟨by omega, by omega⟩) dX9_advance_27 (fun v_23 hv_23 => ?_)
        refine jj_bipush (v := 32) C dX9_advance_28 (by decide) ?_
        refine jj_icmp_eq (tgt := 47) C dX9_advance_30 (by decide) (fun c_24 => ?_) (fun c_24 => ?_)
        · have z_c_24 := jc_eq (a := (v_23).toInt) (b := (32)) c_24 rfl (by decide)
          refine jj_aload_n C dX9_advance_47 rfl ?_
          refine jj_dup C dX9_advance_48 rfl ?_
          refine tt_getF C hok jk_10 4 (by decide) jw_66bda6962a (t := (0, 0, 400)) hk0 (by decide) rfl rfl hf_9 dX9_advance_49 ?_
          refine jj_iconst (v := 1) C dX9_advance_52 (by decide) ?_
          obtain ⟨x_25, ex_25, vx_25⟩ := tt_iadd (x := x_8) (y := (1 : Int32)) (a := x_8.toInt) rfl (b := 1) (by decide) (by omega) (by omega)
          refine jj_iadd (v := x_25) C dX9_advance_53 ex_25 ?_
          refine tt_put C hok jk_10 4 (by decide) jw_66bda6962a (t := (0, 0, 400)) hk0 (by decide) rfl rfl rfl (tt_iv (by omega) (by omega)) rfl rfl dX9_advance_54 (fun pl_26 hok_27 tr hn => ?_)
          replace hf_11 := tr _ _ _ (Or.inr (by decide)) hf_11
          replace hf_21 := tr _ _ _ (Or.inr (by decide)) hf_21
          have hf_28 := hn
          replace hfr := hfr.put hk0 tr (by decide)
          refine jj_goto (tgt := 8) C dX9_advance_57 (by decide) ?_
          exact ihL_7 pl_26 x_25 hok_27 hfr hf_28 (by first | omega | decide | exact tt_lo _ | exact tt_hi _) (by first | omega | decide | exact tt_lo _ | exact tt_hi _) (by first | omega | decide | exact tt_lo _ | exact tt_hi _)
        · have z_c_24 := jc_neq (a := (v_23).toInt) (b := (32)) c_24 rfl (by decide)
          refine jj_aload_n C dX9_advance_33 rfl ?_
          refine tt_getF C hok jk_10 0 (by decide) jw_0664e1e086 (t := (2, 11, 0)) hk0 (by decide) rfl rfl hf_21 dX9_advance_34 ?_
          refine jj_aload_n C dX9_advance_37 rfl ?_
          refine tt_getF C hok jk_10 4 (by decide) jw_66bda6962a (t := (0, 0, 400)) hk0 (by decide) rfl rfl hf_9 dX9_advance_38 ?_
          refine tt_cald C hok (t := (0, (-2147483648), 2147483647)) ka_22 (by decide) rfl (vp_in_iff.mpr ⟨by omega, by omega⟩) dX9_advance_41 (fun v_29 hv_29 => ?_)
          refine jj_bipush (v := 10) C dX9_advance_42 (by decide) ?_
          refine jj_icmp_ne (tgt := 60) C dX9_advance_44 (by decide) (fun c_30 => ?_) (fun c_30 => ?_)
          · have z_c_30 := jc_neq (a := (v_29).toInt) (b := (10)) c_30 rfl (by decide)
            refine jj_aload_n C dX9_advance_60 rfl ?_
            refine jj_aload_n C dX9_advance_61 rfl ?_
            refine tt_getF C hok jk_10 4 (by decide) jw_66bda6962a (t := (0, 0, 400)) hk0 (by decide) rfl rfl hf_9 dX9_advance_62 ?_
            refine tt_put C hok jk_10 3 (by decide) jw_f99bd0ca2b (t := (0, 0, 400)) hk0 (by decide) rfl rfl rfl (tt_iv (by omega) (by omega)) rfl rfl dX9_advance_65 (fun pl_31 hok_32 tr hn => ?_)
            replace hf_9 := tr _ _ _ (Or.inr (by decide)) hf_9
            replace hf_11 := tr _ _ _ (Or.inr (by decide)) hf_11
            replace hf_21 := tr _ _ _ (Or.inr (by decide)) hf_21
            have hf_33 := hn
            replace hfr := hfr.put hk0 tr (by decide)
            refine jj_aload_n C dX9_advance_68 rfl ?_
            refine tt_getF C hok_32 jk_10 4 (by decide) jw_66bda6962a (t := (0, 0, 400)) hk0 (by decide) rfl rfl hf_9 dX9_advance_69 ?_
            refine jj_aload_n C dX9_advance_72 rfl ?_
            refine tt_getF C hok_32 jk_10 2 (by decide) jw_bc3c1a7c51 (t := (0, 0, 400)) hk0 (by decide) rfl rfl hf_11 dX9_advance_73 ?_
            refine jj_icmp_ltT (tgt := 87) C dX9_advance_76 (by decide) (by first | exact Int64.not_le.mp c_13 | exact Int32.not_le.mp c_13) ?_
            refine jj_aload_n C dX9_advance_87 rfl ?_
            refine jj_aload_n C dX9_advance_88 rfl ?_
            refine tt_getF C hok_32 jk_10 4 (by decide) jw_66bda6962a (t := (0, 0, 400)) hk0 (by decide) rfl rfl hf_9 dX9_advance_89 ?_
            obtain ⟨qc, gs, hqc⟩ := tt_recv (cx := []) hok_32 hk0 (by decide) rfl
            refine tt_callV (rest := []) C (tc_X9_isLetter_1 hl D cA ak h0 x_8 hk0 (by omega) (by omega) hok_32) [] [] rfl rfl (by decide) (by decide) (by decide) qc hqc rfl rfl jw_5d32b2c455 jw_c77b9e5a65 jw_cdb619e1fe jw_a9e7b602dc jw_9e97b9dadb jn_X9_isLetter rfl (jj_le rfl) (jj_le rfl) (jj_le rfl) (jj_le rfl) (jj_le rfl) dX9_advance_92 rfl (fun _ _ _ hX => hX.elim) (fun rx pl_34 r O_37 => ?_)
            obtain ⟨rfl, hok_35, hr_36, hR_39⟩ := O_37
            replace hf_9 := hr_36.at hk0 (by decide) (by decide) hf_9
            replace hf_11 := hr_36.at hk0 (by decide) (by decide) hf_11
            replace hf_21 := hr_36.at hk0 (by decide) (by decide) hf_21
            replace hf_33 := hr_36.at hk0 (by decide) (by decide) hf_33
            replace hfr := hfr.trans (hr_36.sub (by decide))
            rcases hR_39 with rfl | rfl
            · refine jj_if_eqT (tgt := 138) C dX9_advance_95 (by decide) (by decide) ?_
              refine jj_aload_n C dX9_advance_138 rfl ?_
              refine jj_aload_n C dX9_advance_139 rfl ?_
              refine tt_getF C hok_35 jk_10 4 (by decide) jw_66bda6962a (t := (0, 0, 400)) hk0 (by decide) rfl rfl hf_9 dX9_advance_140 ?_
              obtain ⟨qc, gs, hqc⟩ := tt_recv (cx := []) hok_35 hk0 (by decide) rfl
              refine tt_callV (rest := []) C (tc_X9_isDigit_1 hl D cA ak h0 x_8 hk0 (by omega) (by omega) hok_35) [] [] rfl rfl (by decide) (by decide) (by decide) qc hqc rfl rfl jw_9f660503f9 jw_c0c6c0e094 jw_7656ac4378 jw_a9e7b602dc jw_c365050a25 jn_X9_isDigit rfl (jj_le rfl) (jj_le rfl) (jj_le rfl) (jj_le rfl) (jj_le rfl) dX9_advance_143 rfl (fun _ _ _ hX => hX.elim) (fun rx pl_42 r O_45 => ?_)
              obtain ⟨rfl, hok_43, hr_44, hR_47⟩ := O_45
              replace hf_9 := hr_44.at hk0 (by decide) (by decide) hf_9
              replace hf_11 := hr_44.at hk0 (by decide) (by decide) hf_11
              replace hf_21 := hr_44.at hk0 (by decide) (by decide) hf_21
              replace hf_33 := hr_44.at hk0 (by decide) (by decide) hf_33
              replace hfr := hfr.trans (hr_44.sub (by decide))
              rcases hR_47 with rfl | rfl
              · refine jj_if_eqT (tgt := 236) C dX9_advance_146 (by decide) (by decide) ?_
                refine jj_aload_n C dX9_advance_236 rfl ?_
                refine jj_aload_n C dX9_advance_237 rfl ?_
                refine tt_getF C hok_43 jk_10 0 (by decide) jw_0664e1e086 (t := (2, 11, 0)) hk0 (by decide) rfl rfl hf_21 dX9_advance_238 ?_
                refine jj_aload_n C dX9_advance_241 rfl ?_
                refine tt_getF C hok_43 jk_10 4 (by decide) jw_66bda6962a (t := (0, 0, 400)) hk0 (by decide) rfl rfl hf_9 dX9_advance_242 ?_
                refine tt_cald C hok_43 (t := (0, (-2147483648), 2147483647)) ka_22 (by decide) rfl (vp_in_iff.mpr ⟨by omega, by omega⟩) dX9_advance_245 (fun v_50 hv_50 => ?_)
                refine jj_bipush (v := 59) C dX9_advance_246 (by decide) ?_
                refine jj_icmp_ne (tgt := 255) C dX9_advance_248 (by decide) (fun c_51 => ?_) (fun c_51 => ?_)
                · have z_c_51 := jc_neq (a := (v_50).toInt) (b := (59)) c_51 rfl (by decide)
                  refine jj_iconst (v := 4) C dX9_advance_255 (by decide) ?_
                  refine tt_put C hok_43 jk_10 5 (by decide) jw_bde5c0d1a5 (t := (0, (-2147483648), 2147483647)) hk0 (by decide) rfl rfl rfl (tt_ia (4 : Int32)) rfl rfl dX9_advance_256 (fun pl_52 hok_53 tr hn => ?_)
                  replace hf_9 := tr _ _ _ (Or.inr (by decide)) hf_9
                  replace hf_11 := tr _ _ _ (Or.inr (by decide)) hf_11
                  replace hf_21 := tr _ _ _ (Or.inr (by decide)) hf_21
                  replace hf_33 := tr _ _ _ (Or.inr (by decide)) hf_33
                  have hf_54 := hn
                  replace hfr := hfr.put hk0 tr (by decide)
                  refine jj_aload_n C dX9_advance_259 rfl ?_
                  refine jj_aload_n C dX9_advance_260 rfl ?_
                  refine tt_getF C hok_53 jk_10 4 (by decide) jw_66bda6962a (t := (0, 0, 400)) hk0 (by decide) rfl rfl hf_9 dX9_advance_261 ?_
                  refine jj_iconst (v := 1) C dX9_advance_264 (by decide) ?_
                  obtain ⟨x_55, ex_55, vx_55⟩ := tt_iadd (x := x_8) (y := (1 : Int32)) (a := x_8.toInt) rfl (b := 1) (by decide) (by omega) (by omega)
                  refine jj_iadd (v := x_55) C dX9_advance_265 ex_55 ?_
                  refine tt_put C hok_53 jk_10 3 (by decide) jw_f99bd0ca2b (t := (0, 0, 400)) hk0 (by decide) rfl rfl rfl (tt_iv (by omega) (by omega)) rfl rfl dX9_advance_266 (fun pl_56 hok_57 tr hn => ?_)
                  replace hf_9 := tr _ _ _ (Or.inr (by decide)) hf_9
                  replace hf_11 := tr _ _ _ (Or.inr (by decide)) hf_11
                  replace hf_21 := tr _ _ _ (Or.inr (by decide)) hf_21
                  replace hf_54 := tr _ _ _ (Or.inr (by decide)) hf_54
                  have hf_58 := hn
                  replace hfr := hfr.put hk0 tr (by decide)
                  exact jj_vret C ⟨[], pl_56, rfl, rfl, hok_57, hfr, rfl⟩ dX9_advance_269 (jj_le rfl) (jj_le rfl)
                · have z_c_51 := jc_eq (a := (v_50).toInt) (b := (59)) c_51 rfl (by decide)
                  refine jj_iconst (v := 3) C dX9_advance_251 (by decide) ?_
                  refine jj_goto (tgt := 256) C dX9_advance_252 (by decide) ?_
                  refine tt_put C hok_43 jk_10 5 (by decide) jw_bde5c0d1a5 (t := (0, (-2147483648), 2147483647)) hk0 (by decide) rfl rfl rfl (tt_ia (3 : Int32)) rfl rfl dX9_advance_256 (fun pl_59 hok_60 tr hn => ?_)
                  replace hf_9 := tr _ _ _ (Or.inr (by decide)) hf_9
                  replace hf_11 := tr _ _ _ (Or.inr (by decide)) hf_11
                  replace hf_21 := tr _ _ _ (Or.inr (by decide)) hf_21
                  replace hf_33 := tr _ _ _ (Or.inr (by decide)) hf_33
                  have hf_61 := hn
                  replace hfr := hfr.put hk0 tr (by decide)
                  refine jj_aload_n C dX9_advance_259 rfl ?_
                  refine jj_aload_n C dX9_advance_260 rfl ?_
                  refine tt_getF C hok_60 jk_10 4 (by decide) jw_66bda6962a (t := (0, 0, 400)) hk0 (by decide) rfl rfl hf_9 dX9_advance_261 ?_
                  refine jj_iconst (v := 1) C dX9_advance_264 (by decide) ?_
                  obtain ⟨x_62, ex_62, vx_62⟩ := tt_iadd (x := x_8) (y := (1 : Int32)) (a := x_8.toInt) rfl (b := 1) (by decide) (by omega) (by omega)
                  refine jj_iadd (v := x_62) C dX9_advance_265 ex_62 ?_
                  refine tt_put C hok_60 jk_10 3 (by decide) jw_f99bd0ca2b (t := (0, 0, 400)) hk0 (by decide) rfl rfl rfl (tt_iv (by omega) (by omega)) rfl rfl dX9_advance_266 (fun pl_63 hok_64 tr hn => ?_)
                  replace hf_9 := tr _ _ _ (Or.inr (by decide)) hf_9
                  replace hf_11 := tr _ _ _ (Or.inr (by decide)) hf_11
                  replace hf_21 := tr _ _ _ (Or.inr (by decide)) hf_21
                  replace hf_61 := tr _ _ _ (Or.inr (by decide)) hf_61
                  have hf_65 := hn
                  replace hfr := hfr.put hk0 tr (by decide)
                  exact jj_vret C ⟨[], pl_63, rfl, rfl, hok_64, hfr, rfl⟩ dX9_advance_269 (jj_le rfl) (jj_le rfl)
              · refine jj_if_eqF (tgt := 236) C dX9_advance_146 (by decide) (by decide) ?_
                refine jj_aload_n C dX9_advance_149 rfl ?_
                refine jj_iconst (v := 2) C dX9_advance_150 (by decide) ?_
                refine tt_put C hok_43 jk_10 5 (by decide) jw_bde5c0d1a5 (t := (0, (-2147483648), 2147483647)) hk0 (by decide) rfl rfl rfl (tt_ia (2 : Int32)) rfl rfl dX9_advance_151 (fun pl_66 hok_67 tr hn => ?_)
                replace hf_9 := tr _ _ _ (Or.inr (by decide)) hf_9
                replace hf_11 := tr _ _ _ (Or.inr (by decide)) hf_11
                replace hf_21 := tr _ _ _ (Or.inr (by decide)) hf_21
                replace hf_33 := tr _ _ _ (Or.inr (by decide)) hf_33
                have hf_68 := hn
                replace hfr := hfr.put hk0 tr (by decide)
                refine jj_aload_n C dX9_advance_154 rfl ?_
                refine jj_iconst (v := 0) C dX9_advance_155 (by decide) ?_
                refine tt_put C hok_67 jk_10 6 (by decide) jw_f32ea1979e (t := (0, (-2147483648), 2147483647)) hk0 (by decide) rfl rfl rfl (tt_ia (0 : Int32)) rfl rfl dX9_advance_156 (fun pl_69 hok_70 tr hn => ?_)
                replace hf_9 := tr _ _ _ (Or.inr (by decide)) hf_9
                replace hf_11 := tr _ _ _ (Or.inr (by decide)) hf_11
                replace hf_21 := tr _ _ _ (Or.inr (by decide)) hf_21
                replace hf_33 := tr _ _ _ (Or.inr (by decide)) hf_33
                replace hf_68 := tr _ _ _ (Or.inr (by decide)) hf_68
                have hf_71 := hn
                replace hfr := hfr.put hk0 tr (by decide)
                have hL_72 : ∀ (N : Nat) (pl : va_W) (x_75 : Int32), True → tt_ok tt_tk cA Kd pl → tt_fr Kd [(10, 3), (10, 4), (10, 5), (10, 6)] pl0 pl → tt_at pl h0 2 (.int x_12) → tt_at pl h0 0 (.ref a_22) → tt_at pl h0 3 (.int x_75) → (0 : Int) ≤ x_75.toInt → x_75.toInt ≤ 400 → (401 - x_75.toInt ≤ (N : Int)) → jj_J p l e (jj_rm 1 21 0 0) s m args below meth c 1 A (vx_MQ below (jj_q D A (tt_O (fun rx pl1 r => rx = [] ∧ tt_ok tt_tk cA Kd pl1 ∧ tt_fr Kd [(10, 3), (10, 4), (10, 5), (10, 6)] pl0 pl1 ∧ ((r = none))))) (jj_x D A (tt_OX (fun _ _ _ => False))) args s 0 0 A) (jj_X D A ([] ++ pl)) 0 0 159 [(0, .ref h0)] [] := by
                  intro NL_72
                  induction NL_72 with
                  | zero => intro pl x_75 _ hok hfr hf_73 hf_74 hf_76 lx_75 ux_75 hNL_72; exfalso; omega
                  | succ NL_72 ihL_72 =>
                    intro pl x_75 _ hok hfr hf_73 hf_74 hf_76 lx_75 ux_75 hNL_72
                    replace ihL_72 := fun pl x_75 h1 => ihL_72 pl x_75 trivial h1
                    refine jj_aload_n C dX9_advance_159 rfl ?_
                    refine tt_getF C hok jk_10 3 (by decide) jw_f99bd0ca2b (t := (0, 0, 400)) hk0 (by decide) rfl rfl hf_76 dX9_advance_160 ?_
                    refine jj_aload_n C dX9_advance_163 rfl ?_
                    refine tt_getF C hok jk_10 2 (by decide) jw_bc3c1a7c51 (t := (0, 0, 400)) hk0 (by decide) rfl rfl hf_73 dX9_advance_164 ?_
                    refine jj_icmp_ge (tgt := 269) C dX9_advance_167 (by decide) (fun c_77 => ?_) (fun c_77 => ?_)
                    · have z_c_77 := jc_le (a := (x_12).toInt) (b := (x_75).toInt) c_77 rfl rfl
                      exact jj_vret C ⟨[], pl, rfl, rfl, hok, hfr, rfl⟩ dX9_advance_269 (jj_le rfl) (jj_le rfl)
                    · have z_c_77 := jc_nle (a := (x_12).toInt) (b := (x_75).toInt) c_77 rfl rfl
                      refine jj_aload_n C dX9_advance_170 rfl ?_
                      refine jj_aload_n C dX9_advance_171 rfl ?_
                      refine tt_getF C hok jk_10 3 (by decide) jw_f99bd0ca2b (t := (0, 0, 400)) hk0 (by decide) rfl rfl hf_76 dX9_advance_172 ?_
                      obtain ⟨qc, gs, hqc⟩ := tt_recv (cx := []) hok hk0 (by decide) rfl
                      refine tt_callV (rest := []) C (tc_X9_isDigit_1 hl D cA ak h0 x_75 hk0 (by omega) (by omega) hok) [] [] rfl rfl (by decide) (by decide) (by decide) qc hqc rfl rfl jw_9f660503f9 jw_c0c6c0e094 jw_7656ac4378 jw_a9e7b602dc jw_c365050a25 jn_X9_isDigit rfl (jj_le rfl) (jj_le rfl) (jj_le rfl) (jj_le rfl) (jj_le rfl) dX9_advance_175 rfl (fun _ _ _ hX => hX.elim) (fun rx pl_78 r O_81 => ?_)
                      obtain ⟨rfl, hok_79, hr_80, hR_83⟩ := O_81
                      replace hf_73 := hr_80.at hk0 (by decide) (by decide) hf_73
                      replace hf_74 := hr_80.at hk0 (by decide) (by decide) hf_74
                      replace hf_76 := hr_80.at hk0 (by decide) (by decide) hf_76
                      replace hfr := hfr.trans (hr_80.sub (by decide))
                      rcases hR_83 with rfl | rfl
                      · refine jj_if_eqT (tgt := 269) C dX9_advance_178 (by decide) (by decide) ?_
                        exact jj_vret C ⟨[], pl_78, rfl, rfl, hok_79, hfr, rfl⟩ dX9_advance_269 (jj_le rfl) (jj_le rfl)
                      · refine jj_if_eqF (tgt := 269) C dX9_advance_178 (by decide) (by decide) ?_
                        refine jj_aload_n C dX9_advance_181 rfl ?_
                        refine jj_aload_n C dX9_advance_182 rfl ?_
                        refine tt_getF C hok_79 jk_10 3 (by decide) jw_f99bd0ca2b (t := (0, 0, 400)) hk0 (by decide) rfl rfl hf_76 dX9_advance_183 ?_
                        refine jj_aload_n C dX9_advance_186 rfl ?_
                        refine tt_get C hok_79 jk_10 4 (by decide) jw_66bda6962a (t := (0, 0, 400)) hk0 (by decide) rfl rfl dX9_advance_187 (fun v_86 hv_86 hf_87 => ?_)
                        obtain ⟨x_88, rfl, lx_88, ux_88⟩ := tt_vi hv_86
                        obtain ⟨x_89, ex_89, vx_89⟩ := tt_isub (x := x_75) (y := x_88) (a := x_75.toInt) rfl (b := x_88.toInt) rfl (by omega) (by omega)
                        refine jj_isub (v := x_89) C dX9_advance_190 ex_89 ?_
                        refine jj_bipush (v := 7) C dX9_advance_191 (by decide) ?_
                        refine jj_icmp_ge (tgt := 219) C dX9_advance_193 (by decide) (fun c_90 => ?_) (fun c_90 => ?_)
                        · have z_c_90 := jc_le (a := (7)) (b := (x_89).toInt) c_90 (by decide) rfl
                          refine jj_iconst (v := (-1)) C dX9_advance_219 (by decide) ?_
                          refine tt_put C hok_79 jk_10 6 (by decide) jw_f32ea1979e (t := (0, (-2147483648), 2147483647)) hk0 (by decide) rfl rfl rfl (tt_ia ((-1) : Int32)) rfl rfl dX9_advance_220 (fun pl_91 hok_92 tr hn => ?_)
                          replace hf_73 := tr _ _ _ (Or.inr (by decide)) hf_73
                          replace hf_74 := tr _ _ _ (Or.inr (by decide)) hf_74
                          replace hf_76 := tr _ _ _ (Or.inr (by decide)) hf_76
                          replace hf_87 := tr _ _ _ (Or.inr (by decide)) hf_87
                          have hf_93 := hn
                          replace hfr := hfr.put hk0 tr (by decide)
                          refine jj_aload_n C dX9_advance_223 rfl ?_
                          refine jj_dup C dX9_advance_224 rfl ?_
                          refine tt_getF C hok_92 jk_10 3 (by decide) jw_f99bd0ca2b (t := (0, 0, 400)) hk0 (by decide) rfl rfl hf_76 dX9_advance_225 ?_
                          refine jj_iconst (v := 1) C dX9_advance_228 (by decide) ?_
                          obtain ⟨x_94, ex_94, vx_94⟩ := tt_iadd (x := x_75) (y := (1 : Int32)) (a := x_75.toInt) rfl (b := 1) (by decide) (by omega) (by omega)
                          refine jj_iadd (v := x_94) C dX9_advance_229 ex_94 ?_
                          refine tt_put C hok_92 jk_10 3 (by decide) jw_f99bd0ca2b (t := (0, 0, 400)) hk0 (by decide) rfl rfl rfl (tt_iv (by omega) (by omega)) rfl rfl dX9_advance_230 (fun pl_95 hok_96 tr hn => ?_)
                          replace hf_73 := tr _ _ _ (Or.inr (by decide)) hf_73
                          replace hf_74 := tr _ _ _ (Or.inr (by decide)) hf_74
                          replace hf_87 := tr _ _ _ (Or.inr (by decide)) hf_87
                          replace hf_93 := tr _ _ _ (Or.inr (by decide)) hf_93
                          have hf_97 := hn
                          replace hfr := hfr.put hk0 tr (by decide)
                          refine jj_goto (tgt := 159) C dX9_advance_233 (by decide) ?_
                          exact ihL_72 pl_95 x_94 hok_96 hfr hf_73 hf_74 hf_97 (by first | omega | decide | exact tt_lo _ | exact tt_hi _) (by first | omega | decide | exact tt_lo _ | exact tt_hi _) (by first | omega | decide | exact tt_lo _ | exact tt_hi _)
                        · have z_c_90 := jc_nle (a := (7)) (b := (x_89).toInt) c_90 (by decide) rfl
                          refine jj_aload_n C dX9_advance_196 rfl ?_
                          refine tt_get C hok_79 jk_10 6 (by decide) jw_f32ea1979e (t := (0, (-2147483648), 2147483647)) hk0 (by decide) rfl rfl dX9_advance_197 (fun v_98 hv_98 hf_99 => ?_)
                          obtain ⟨x_100, rfl, lx_100, ux_100⟩ := tt_vi hv_98
                          refine jj_bipush (v := 10) C dX9_advance_200 (by decide) ?_
                          obtain ⟨x_101, ex_101⟩ : ∃ z : Int32, x_100 * (10 : Int32) = z := ⟨_, rfl⟩
                          refine jj_imul (v := x_101) C dX9_advance_202 ex_101 ?_
                          refine jj_aload_n C dX9_advance_203 rfl ?_
                          refine tt_getF C hok_79 jk_10 0 (by decide) jw_0664e1e086 (t := (2, 11, 0)) hk0 (by decide) rfl rfl hf_74 dX9_advance_204 ?_
                          refine jj_aload_n C dX9_advance_207 rfl ?_
                          refine tt_getF C hok_79 jk_10 3 (by decide) jw_f99bd0ca2b (t := (0, 0, 400)) hk0 (by decide) rfl rfl hf_76 dX9_advance_208 ?_
                          refine tt_cald C hok_79 (t := (0, (-2147483648), 2147483647)) ka_22 (by decide) rfl (vp_in_iff.mpr ⟨by omega, by omega⟩) dX9_advance_211 (fun v_102 hv_102 => ?_)
                          refine jj_bipush (v := 48) C dX9_advance_212 (by decide) ?_
                          obtain ⟨x_103, ex_103⟩ : ∃ z : Int32, v_102 - (48 : Int32) = z := ⟨_, rfl⟩
                          refine jj_isub (v := x_103) C dX9_advance_214 ex_103 ?_
                          obtain ⟨x_104, ex_104⟩ : ∃ z : Int32, x_101 + x_103 = z := ⟨_, rfl⟩
                          refine jj_iadd (v := x_104) C dX9_advance_215 ex_104 ?_
                          refine jj_goto (tgt := 220) C dX9_advance_216 (by decide) ?_
                          refine tt_put C hok_79 jk_10 6 (by decide) jw_f32ea1979e (t := (0, (-2147483648), 2147483647)) hk0 (by decide) rfl rfl rfl (tt_ia x_104) rfl rfl dX9_advance_220 (fun pl_105 hok_106 tr hn => ?_)
                          replace hf_73 := tr _ _ _ (Or.inr (by decide)) hf_73
                          replace hf_74 := tr _ _ _ (Or.inr (by decide)) hf_74
                          replace hf_76 := tr _ _ _ (Or.inr (by decide)) hf_76
                          replace hf_87 := tr _ _ _ (Or.inr (by decide)) hf_87
                          have hf_107 := hn
                          replace hfr := hfr.put hk0 tr (by decide)
                          refine jj_aload_n C dX9_advance_223 rfl ?_
                          refine jj_dup C dX9_advance_224 rfl ?_
                          refine tt_getF C hok_106 jk_10 3 (by decide) jw_f99bd0ca2b (t := (0, 0, 400)) hk0 (by decide) rfl rfl hf_76 dX9_advance_225 ?_
                          refine jj_iconst (v := 1) C dX9_advance_228 (by decide) ?_
                          obtain ⟨x_108, ex_108, vx_108⟩ := tt_iadd (x := x_75) (y := (1 : Int32)) (a := x_75.toInt) rfl (b := 1) (by decide) (by omega) (by omega)
                          refine jj_iadd (v := x_108) C dX9_advance_229 ex_108 ?_
                          refine tt_put C hok_106 jk_10 3 (by decide) jw_f99bd0ca2b (t := (0, 0, 400)) hk0 (by decide) rfl rfl rfl (tt_iv (by omega) (by omega)) rfl rfl dX9_advance_230 (fun pl_109 hok_110 tr hn => ?_)
                          replace hf_73 := tr _ _ _ (Or.inr (by decide)) hf_73
                          replace hf_74 := tr _ _ _ (Or.inr (by decide)) hf_74
                          replace hf_87 := tr _ _ _ (Or.inr (by decide)) hf_87
                          replace hf_107 := tr _ _ _ (Or.inr (by decide)) hf_107
                          have hf_111 := hn
                          replace hfr := hfr.put hk0 tr (by decide)
                          refine jj_goto (tgt := 159) C dX9_advance_233 (by decide) ?_
                          exact ihL_72 pl_109 x_108 hok_110 hfr hf_73 hf_74 hf_111 (by first | omega | decide | exact tt_lo _ | exact tt_hi _) (by first | omega | decide | exact tt_lo _ | exact tt_hi _) (by first | omega | decide | exact tt_lo _ | exact tt_hi _)
                exact hL_72 _ pl_69 x_8 trivial hok_70 hfr hf_11 hf_21 hf_33 (by first | omega | decide | exact tt_lo _ | exact tt_hi _) (by first | omega | decide | exact tt_lo _ | exact tt_hi _) (Int.self_le_toNat _)
            · refine jj_if_eqF (tgt := 138) C dX9_advance_95 (by decide) (by decide) ?_
              refine jj_aload_n C dX9_advance_98 rfl ?_
              refine jj_iconst (v := 1) C dX9_advance_99 (by decide) ?_
              refine tt_put C hok_35 jk_10 5 (by decide) jw_bde5c0d1a5 (t := (0, (-2147483648), 2147483647)) hk0 (by decide) rfl rfl rfl (tt_ia (1 : Int32)) rfl rfl dX9_advance_100 (fun pl_112 hok_113 tr hn => ?_)
              replace hf_9 := tr _ _ _ (Or.inr (by decide)) hf_9
              replace hf_11 := tr _ _ _ (Or.inr (by decide)) hf_11
              replace hf_21 := tr _ _ _ (Or.inr (by decide)) hf_21
              replace hf_33 := tr _ _ _ (Or.inr (by decide)) hf_33
              have hf_114 := hn
              replace hfr := hfr.put hk0 tr (by decide)
              have hL_115 : ∀ (N : Nat) (pl : va_W) (x_118 : Int32), True → tt_ok tt_tk cA Kd pl → tt_fr Kd [(10, 3), (10, 4), (10, 5), (10, 6)] pl0 pl → tt_at pl h0 2 (.int x_12) → tt_at pl h0 0 (.ref a_22) → tt_at pl h0 3 (.int x_118) → (0 : Int) ≤ x_118.toInt → x_118.toInt ≤ 400 → (401 - x_118.toInt ≤ (N : Int)) → jj_J p l e (jj_rm 1 21 0 0) s m args below meth c 1 A (vx_MQ below (jj_q D A (tt_O (fun rx pl1 r => rx = [] ∧ tt_ok tt_tk cA Kd pl1 ∧ tt_fr Kd [(10, 3), (10, 4), (10, 5), (10, 6)] pl0 pl1 ∧ ((r = none))))) (jj_x D A (tt_OX (fun _ _ _ => False))) args s 0 0 A) (jj_X D A ([] ++ pl)) 0 0 103 [(0, .ref h0)] [] := by
                intro NL_115
                induction NL_115 with
                | zero => intro pl x_118 _ hok hfr hf_116 hf_117 hf_119 lx_118 ux_118 hNL_115; exfalso; omega
                | succ NL_115 ihL_115 =>
                  intro pl x_118 _ hok hfr hf_116 hf_117 hf_119 lx_118 ux_118 hNL_115
                  replace ihL_115 := fun pl x_118 h1 => ihL_115 pl x_118 trivial h1
                  refine jj_aload_n C dX9_advance_103 rfl ?_
                  refine tt_getF C hok jk_10 3 (by decide) jw_f99bd0ca2b (t := (0, 0, 400)) hk0 (by decide) rfl rfl hf_119 dX9_advance_104 ?_
                  refine jj_aload_n C dX9_advance_107 rfl ?_
                  refine tt_getF C hok jk_10 2 (by decide) jw_bc3c1a7c51 (t := (0, 0, 400)) hk0 (by decide) rfl rfl hf_116 dX9_advance_108 ?_
                  refine jj_icmp_ge (tgt := 269) C dX9_advance_111 (by decide) (fun c_120 => ?_) (fun c_120 => ?_)
                  · have z_c_120 := jc_le (a := (x_12).toInt) (b := (x_118).toInt) c_120 rfl rfl
                    exact jj_vret C ⟨[], pl, rfl, rfl, hok, hfr, rfl⟩ dX9_advance_269 (jj_le rfl) (jj_le rfl)
                  · have z_c_120 := jc_nle (a := (x_12).toInt) (b := (x_118).toInt) c_120 rfl rfl
                    refine jj_aload_n C dX9_advance_114 rfl ?_
                    refine jj_aload_n C dX9_advance_115 rfl ?_
                    refine tt_getF C hok jk_10 3 (by decide) jw_f99bd0ca2b (t := (0, 0, 400)) hk0 (by decide) rfl rfl hf_119 dX9_advance_116 ?_
                    obtain ⟨qc, gs, hqc⟩ := tt_recv (cx := []) hok hk0 (by decide) rfl
                    refine tt_callV (rest := []) C (tc_X9_isLetter_1 hl D cA ak h0 x_118 hk0 (by omega) (by omega) hok) [] [] rfl rfl (by decide) (by decide) (by decide) qc hqc rfl rfl jw_5d32b2c455 jw_c77b9e5a65 jw_cdb619e1fe jw_a9e7b602dc jw_9e97b9dadb jn_X9_isLetter rfl (jj_le rfl) (jj_le rfl) (jj_le rfl) (jj_le rfl) (jj_le rfl) dX9_advance_119 rfl (fun _ _ _ hX => hX.elim) (fun rx pl_121 r O_124 => ?_)
                    obtain ⟨rfl, hok_122, hr_123, hR_126⟩ := O_124
                    replace hf_116 := hr_123.at hk0 (by decide) (by decide) hf_116
                    replace hf_117 := hr_123.at hk0 (by decide) (by decide) hf_117
                    replace hf_119 := hr_123.at hk0 (by decide) (by decide) hf_119
                    replace hfr := hfr.trans (hr_123.sub (by decide))
                    rcases hR_126 with rfl | rfl
                    · refine jj_if_eqT (tgt := 269) C dX9_advance_122 (by decide) (by decide) ?_
                      exact jj_vret C ⟨[], pl_121, rfl, rfl, hok_122, hfr, rfl⟩ dX9_advance_269 (jj_le rfl) (jj_le rfl)
                    · refine jj_if_eqF (tgt := 269) C dX9_advance_122 (by decide) (by decide) ?_
                      refine jj_aload_n C dX9_advance_125 rfl ?_
                      refine jj_dup C dX9_advance_126 rfl ?_
                      refine tt_getF C hok_122 jk_10 3 (by decide) jw_f99bd0ca2b (t := (0, 0, 400)) hk0 (by decide) rfl rfl hf_119 dX9_advance_127 ?_
                      refine jj_iconst (v := 1) C dX9_advance_130 (by decide) ?_
                      obtain ⟨x_129, ex_129, vx_129⟩ := tt_iadd (x := x_118) (y := (1 : Int32)) (a := x_118.toInt) rfl (b := 1) (by decide) (by omega) (by omega)
                      refine jj_iadd (v := x_129) C dX9_advance_131 ex_129 ?_
                      refine tt_put C hok_122 jk_10 3 (by decide) jw_f99bd0ca2b (t := (0, 0, 400)) hk0 (by decide) rfl rfl rfl (tt_iv (by omega) (by omega)) rfl rfl dX9_advance_132 (fun pl_130 hok_131 tr hn => ?_)
                      replace hf_116 := tr _ _ _ (Or.inr (by decide)) hf_116
                      replace hf_117 := tr _ _ _ (Or.inr (by decide)) hf_117
                      have hf_132 := hn
                      replace hfr := hfr.put hk0 tr (by decide)
                      refine jj_goto (tgt := 103) C dX9_advance_135 (by decide) ?_
                      exact ihL_115 pl_130 x_129 hok_131 hfr hf_116 hf_117 hf_132 (by first | omega | decide | exact tt_lo _ | exact tt_hi _) (by first | omega | decide | exact tt_lo _ | exact tt_hi _) (by first | omega | decide | exact tt_lo _ | exact tt_hi _)
              exact hL_115 _ pl_112 x_8 trivial hok_113 hfr hf_11 hf_21 hf_33 (by first | omega | decide | exact tt_lo _ | exact tt_hi _) (by first | omega | decide | exact tt_lo _ | exact tt_hi _) (Int.self_le_toNat _)
          · have z_c_30 := jc_eq (a := (v_29).toInt) (b := (10)) c_30 rfl (by decide)
            refine jj_aload_n C dX9_advance_47 rfl ?_
            refine jj_dup C dX9_advance_48 rfl ?_
            refine tt_getF C hok jk_10 4 (by decide) jw_66bda6962a (t := (0, 0, 400)) hk0 (by decide) rfl rfl hf_9 dX9_advance_49 ?_
            refine jj_iconst (v := 1) C dX9_advance_52 (by decide) ?_
            obtain ⟨x_133, ex_133, vx_133⟩ := tt_iadd (x := x_8) (y := (1 : Int32)) (a := x_8.toInt) rfl (b := 1) (by decide) (by omega) (by omega)
            refine jj_iadd (v := x_133) C dX9_advance_53 ex_133 ?_
            refine tt_put C hok jk_10 4 (by decide) jw_66bda6962a (t := (0, 0, 400)) hk0 (by decide) rfl rfl rfl (tt_iv (by omega) (by omega)) rfl rfl dX9_advance_54 (fun pl_134 hok_135 tr hn => ?_)
            replace hf_11 := tr _ _ _ (Or.inr (by decide)) hf_11
            replace hf_21 := tr _ _ _ (Or.inr (by decide)) hf_21
            have hf_136 := hn
            replace hfr := hfr.put hk0 tr (by decide)
            refine jj_goto (tgt := 8) C dX9_advance_57 (by decide) ?_
            exact ihL_7 pl_134 x_133 hok_135 hfr hf_136 (by first | omega | decide | exact tt_lo _ | exact tt_hi _) (by first | omega | decide | exact tt_lo _ | exact tt_hi _) (by first | omega | decide | exact tt_lo _ | exact tt_hi _)
  exact hL_7 _ pl_4 x_3 trivial hok_5 hfr hf_6 (by first | omega | decide | exact tt_lo _ | exact tt_hi _) (by first | omega | decide | exact tt_lo _ | exact tt_hi _) (Int.self_le_toNat _)

set_option maxHeartbeats 4000000 in
set_option maxRecDepth 100000 in
theorem tc_X9_isWord_1 {l : Launch} (hl : l.stackTraces = false) (D : va_G) (cA : Nat → ClassId) (ak : (Nat → Nat) × (Nat → Nat)) {Kd : Nat → Nat} (h0 : Nat) (hk0 : Kd h0 = 10) {pl0 : va_W} (hok : tt_ok tt_tk cA Kd pl0) : jj_M l D cA ak yX9_isWord (.code yX9_isWord cX9_isWord 3 (some .boolean)) 4 85 0 0 ([] ++ pl0) [.ref h0, .ref (ak.1 0)] (tt_O (fun rx pl1 r => rx = [] ∧ tt_ok tt_tk cA Kd pl1 ∧ tt_fr Kd [] pl0 pl1 ∧ ((r = some (.int 0)) ∨ (r = some (.int 1))))) (tt_OX (fun _ _ _ => False)) := by
  refine jj_start hl (by decide) jw_ce1c1f12e9 (jj_le rfl) ?_
  intro p e s m args below meth c A hargs hA C hex hmn
  have hfr := tt_fr.refl (K := Kd) (WS := []) pl0
  refine jj_aload_n C dX9_isWord_0 rfl ?_
  refine tt_get C hok jk_10 5 (by decide) jw_bde5c0d1a5 (t := (0, (-2147483648), 2147483647)) hk0 (by decide) rfl rfl dX9_isWord_1 (fun v_1 hv_1 hf_2 => ?_)
  obtain ⟨x_3, rfl, lx_3, ux_3⟩ := tt_vi hv_1
  refine jj_iconst (v := 1) C dX9_isWord_4 (by decide) ?_
  refine jj_icmp_ne (tgt := 24) C dX9_isWord_5 (by decide) (fun c_4 => ?_) (fun c_4 => ?_)
  · have z_c_4 := jc_neq (a := (x_3).toInt) (b := (1)) c_4 rfl (by decide)
    refine jj_iconst (v := 0) C dX9_isWord_24 (by decide) ?_
    exact jj_zret C rfl ⟨[], pl0, rfl, rfl, hok, hfr, (Or.inl rfl)⟩ dX9_isWord_25 (jj_le rfl) (jj_le rfl)
  · have z_c_4 := jc_eq (a := (x_3).toInt) (b := (1)) c_4 rfl (by decide)
    refine jj_aload_n C dX9_isWord_8 rfl ?_
    refine tt_get C hok jk_10 3 (by decide) jw_f99bd0ca2b (t := (0, 0, 400)) hk0 (by decide) rfl rfl dX9_isWord_9 (fun v_5 hv_5 hf_6 => ?_)
    obtain ⟨x_7, rfl, lx_7, ux_7⟩ := tt_vi hv_5
    refine jj_aload_n C dX9_isWord_12 rfl ?_
    refine tt_get C hok jk_10 4 (by decide) jw_66bda6962a (t := (0, 0, 400)) hk0 (by decide) rfl rfl dX9_isWord_13 (fun v_8 hv_8 hf_9 => ?_)
    obtain ⟨x_10, rfl, lx_10, ux_10⟩ := tt_vi hv_8
    obtain ⟨x_11, ex_11, vx_11⟩ := tt_isub (x := x_7) (y := x_10) (a := x_7.toInt) rfl (b := x_10.toInt) rfl (by omega) (by omega)
    refine jj_isub (v := x_11) C dX9_isWord_16 ex_11 ?_
    refine jj_aload_n C dX9_isWord_17 rfl ?_
    refine tt_call0Vs (rest := [.int x_11]) C (ct_J0_length_8abf5_1 hl D cA ak) 0 (by decide) rfl jw_f27063fded jw_b1ce304435 jw_d08f03a22e jw_4ea6285965 jw_bbc7045666 jn_J0_length_8abf5 rfl (jj_le rfl) (jj_le rfl) (jj_le rfl) (jj_le rfl) (jj_le rfl) dX9_isWord_18 rfl (fun w1 r O_12 => ?_)
    obtain ⟨-, rfl⟩ := O_12
    refine jj_icmp_eq (tgt := 26) C dX9_isWord_21 (by decide) (fun c_13 => ?_) (fun c_13 => ?_)
    · have z_c_13 := jc_eq (a := (x_11).toInt) (b := (4)) c_13 rfl (by decide)
      refine jj_iconst (v := 0) C dX9_isWord_26 (by decide) ?_
      refine jj_istore_n C dX9_isWord_27 (by decide) rfl ?_
      refine jj_iload_n C dX9_isWord_28 rfl ?_
      refine jj_aload_n C dX9_isWord_29 rfl ?_
      refine tt_call0Vs (rest := [.int 0]) C (ct_J0_length_8abf5_1 hl D cA ak) 0 (by decide) rfl jw_f27063fded jw_b1ce304435 jw_d08f03a22e jw_4ea6285965 jw_bbc7045666 jn_J0_length_8abf5 rfl (jj_le rfl) (jj_le rfl) (jj_le rfl) (jj_le rfl) (jj_le rfl) dX9_isWord_30 rfl (fun w1 r O_14 => ?_)
      obtain ⟨-, rfl⟩ := O_14
      refine jj_icmp_geF (tgt := 63) C dX9_isWord_33 (by decide) (by decide) ?_
      refine jj_aload_n C dX9_isWord_36 rfl ?_
      refine tt_get C hok jk_10 0 (by decide) jw_0664e1e086 (t := (2, 11, 0)) hk0 (by decide) rfl rfl dX9_isWord_37 (fun v_15 hv_15 hf_16 => ?_)
      obtain ⟨a_17, rfl, ka_17⟩ := tt_vr hv_15
      refine jj_aload_n C dX9_isWord_40 rfl ?_
      refine tt_getF C hok jk_10 4 (by decide) jw_66bda6962a (t := (0, 0, 400)) hk0 (by decide) rfl rfl hf_9 dX9_isWord_41 ?_
      refine jj_iload_n C dX9_isWord_44 rfl ?_
      obtain ⟨x_18, ex_18, vx_18⟩ := tt_iadd (x := x_10) (y := (0 : Int32)) (a := x_10.toInt) rfl (b := 0) (by decide) (by omega) (by omega)
      refine jj_iadd (v := x_18) C dX9_isWord_45 ex_18 ?_
      refine tt_cald C hok (t := (0, (-2147483648), 2147483647)) ka_17 (by decide) rfl (vp_in_iff.mpr ⟨by omega, by omega⟩) dX9_isWord_46 (fun v_19 hv_19 => ?_)
      refine jj_aload_n C dX9_isWord_47 rfl ?_
      refine jj_iload_n C dX9_isWord_48 rfl ?_
      refine tt_call0Vs (rest := [.int v_19]) C (ct_J0_charAt_5068e_1 hl D cA ak) 0 (by decide) rfl jw_076e8de8e0 jw_acb9174fef jw_675efe837b jw_4ea6285965 jw_391c0f56bd jn_J0_charAt_5068e rfl (jj_le rfl) (jj_le rfl) (jj_le rfl) (jj_le rfl) (jj_le rfl) dX9_isWord_49 rfl (fun w1 r O_20 => ?_)
      obtain ⟨-, rfl⟩ := O_20
      refine jj_icmp_eq (tgt := 57) C dX9_isWord_52 (by decide) (fun c_21 => ?_) (fun c_21 => ?_)
      · have z_c_21 := jc_eq (a := (v_19).toInt) (b := (102)) c_21 rfl (by decide)
        refine jj_iinc (v := 1) C dX9_isWord_57 rfl (by decide) (by decide) rfl ?_
        refine jj_goto (tgt := 28) C dX9_isWord_60 (by decide) ?_
        refine jj_iload_n C dX9_isWord_28 rfl ?_
        refine jj_aload_n C dX9_isWord_29 rfl ?_
        refine tt_call0Vs (rest := [.int 1]) C (ct_J0_length_8abf5_1 hl D cA ak) 0 (by decide) rfl jw_f27063fded jw_b1ce304435 jw_d08f03a22e jw_4ea6285965 jw_bbc7045666 jn_J0_length_8abf5 rfl (jj_le rfl) (jj_le rfl) (jj_le rfl) (jj_le rfl) (jj_le rfl) dX9_isWord_30 rfl (fun w1 r O_22 => ?_)
        obtain ⟨-, rfl⟩ := O_22
        refine jj_icmp_geF (tgt := 63) C dX9_isWord_33 (by decide) (by decide) ?_
        refine jj_aload_n C dX9_isWord_36 rfl ?_
        refine tt_getF C hok jk_10 0 (by decide) jw_0664e1e086 (t := (2, 11, 0)) hk0 (by decide) rfl rfl hf_16 dX9_isWord_37 ?_
        refine jj_aload_n C dX9_isWord_40 rfl ?_
        refine tt_getF C hok jk_10 4 (by decide) jw_66bda6962a (t := (0, 0, 400)) hk0 (by decide) rfl rfl hf_9 dX9_isWord_41 ?_
        refine jj_iload_n C dX9_isWord_44 rfl ?_
        obtain ⟨x_23, ex_23, vx_23⟩ := tt_iadd (x := x_10) (y := (1 : Int32)) (a := x_10.toInt) rfl (b := 1) (by decide) (by omega) (by omega)
        refine jj_iadd (v := x_23) C dX9_isWord_45 ex_23 ?_
        refine tt_cald C hok (t := (0, (-2147483648), 2147483647)) ka_17 (by decide) rfl (vp_in_iff.mpr ⟨by omega, by omega⟩) dX9_isWord_46 (fun v_24 hv_24 => ?_)
        refine jj_aload_n C dX9_isWord_47 rfl ?_
        refine jj_iload_n C dX9_isWord_48 rfl ?_
        refine tt_call0Vs (rest := [.int v_24]) C (ct_J0_charAt_5068e_2 hl D cA ak) 0 (by decide) rfl jw_076e8de8e0 jw_acb9174fef jw_675efe837b jw_4ea6285965 jw_391c0f56bd jn_J0_charAt_5068e rfl (jj_le rfl) (jj_le rfl) (jj_le rfl) (jj_le rfl) (jj_le rfl) dX9_isWord_49 rfl (fun w1 r O_25 => ?_)
        obtain ⟨-, rfl⟩ := O_25
        refine jj_icmp_eq (tgt := 57) C dX9_isWord_52 (by decide) (fun c_26 => ?_) (fun c_26 => ?_)
        · have z_c_26 := jc_eq (a := (v_24).toInt) (b := (117)) c_26 rfl (by decide)
          refine jj_iinc (v := 2) C dX9_isWord_57 rfl (by decide) (by decide) rfl ?_
          refine jj_goto (tgt := 28) C dX9_isWord_60 (by decide) ?_
          refine jj_iload_n C dX9_isWord_28 rfl ?_
          refine jj_aload_n C dX9_isWord_29 rfl ?_
          refine tt_call0Vs (rest := [.int 2]) C (ct_J0_length_8abf5_1 hl D cA ak) 0 (by decide) rfl jw_f27063fded jw_b1ce304435 jw_d08f03a22e jw_4ea6285965 jw_bbc7045666 jn_J0_length_8abf5 rfl (jj_le rfl) (jj_le rfl) (jj_le rfl) (jj_le rfl) (jj_le rfl) dX9_isWord_30 rfl (fun w1 r O_27 => ?_)
          obtain ⟨-, rfl⟩ := O_27
          refine jj_icmp_geF (tgt := 63) C dX9_isWord_33 (by decide) (by decide) ?_
          refine jj_aload_n C dX9_isWord_36 rfl ?_
          refine tt_getF C hok jk_10 0 (by decide) jw_0664e1e086 (t := (2, 11, 0)) hk0 (by decide) rfl rfl hf_16 dX9_isWord_37 ?_
          refine jj_aload_n C dX9_isWord_40 rfl ?_
          refine tt_getF C hok jk_10 4 (by decide) jw_66bda6962a (t := (0, 0, 400)) hk0 (by decide) rfl rfl hf_9 dX9_isWord_41 ?_
          refine jj_iload_n C dX9_isWord_44 rfl ?_
          obtain ⟨x_28, ex_28, vx_28⟩ := tt_iadd (x := x_10) (y := (2 : Int32)) (a := x_10.toInt) rfl (b := 2) (by decide) (by omega) (by omega)
          refine jj_iadd (v := x_28) C dX9_isWord_45 ex_28 ?_
          refine tt_cald C hok (t := (0, (-2147483648), 2147483647)) ka_17 (by decide) rfl (vp_in_iff.mpr ⟨by omega, by omega⟩) dX9_isWord_46 (fun v_29 hv_29 => ?_)
          refine jj_aload_n C dX9_isWord_47 rfl ?_
          refine jj_iload_n C dX9_isWord_48 rfl ?_
          refine tt_call0Vs (rest := [.int v_29]) C (ct_J0_charAt_5068e_3 hl D cA ak) 0 (by decide) rfl jw_076e8de8e0 jw_acb9174fef jw_675efe837b jw_4ea6285965 jw_391c0f56bd jn_J0_charAt_5068e rfl (jj_le rfl) (jj_le rfl) (jj_le rfl) (jj_le rfl) (jj_le rfl) dX9_isWord_49 rfl (fun w1 r O_30 => ?_)
          obtain ⟨-, rfl⟩ := O_30
          refine jj_icmp_eq (tgt := 57) C dX9_isWord_52 (by decide) (fun c_31 => ?_) (fun c_31 => ?_)
          · have z_c_31 := jc_eq (a := (v_29).toInt) (b := (110)) c_31 rfl (by decide)
            refine jj_iinc (v := 3) C dX9_isWord_57 rfl (by decide) (by decide) rfl ?_
            refine jj_goto (tgt := 28) C dX9_isWord_60 (by decide) ?_
            refine jj_iload_n C dX9_isWord_28 rfl ?_
            refine jj_aload_n C dX9_isWord_29 rfl ?_
            refine tt_call0Vs (rest := [.int 3]) C (ct_J0_length_8abf5_1 hl D cA ak) 0 (by decide) rfl jw_f27063fded jw_b1ce304435 jw_d08f03a22e jw_4ea6285965 jw_bbc7045666 jn_J0_length_8abf5 rfl (jj_le rfl) (jj_le rfl) (jj_le rfl) (jj_le rfl) (jj_le rfl) dX9_isWord_30 rfl (fun w1 r O_32 => ?_)
            obtain ⟨-, rfl⟩ := O_32
            refine jj_icmp_geF (tgt := 63) C dX9_isWord_33 (by decide) (by decide) ?_
            refine jj_aload_n C dX9_isWord_36 rfl ?_
            refine tt_getF C hok jk_10 0 (by decide) jw_0664e1e086 (t := (2, 11, 0)) hk0 (by decide) rfl rfl hf_16 dX9_isWord_37 ?_
            refine jj_aload_n C dX9_isWord_40 rfl ?_
            refine tt_getF C hok jk_10 4 (by decide) jw_66bda6962a (t := (0, 0, 400)) hk0 (by decide) rfl rfl hf_9 dX9_isWord_41 ?_
            refine jj_iload_n C dX9_isWord_44 rfl ?_
            obtain ⟨x_33, ex_33, vx_33⟩ := tt_iadd (x := x_10) (y := (3 : Int32)) (a := x_10.toInt) rfl (b := 3) (by decide) (by omega) (by omega)
            refine jj_iadd (v := x_33) C dX9_isWord_45 ex_33 ?_
            refine tt_cald C hok (t := (0, (-2147483648), 2147483647)) ka_17 (by decide) rfl (vp_in_iff.mpr ⟨by omega, by omega⟩) dX9_isWord_46 (fun v_34 hv_34 => ?_)
            refine jj_aload_n C dX9_isWord_47 rfl ?_
            refine jj_iload_n C dX9_isWord_48 rfl ?_
            refine tt_call0Vs (rest := [.int v_34]) C (ct_J0_charAt_5068e_4 hl D cA ak) 0 (by decide) rfl jw_076e8de8e0 jw_acb9174fef jw_675efe837b jw_4ea6285965 jw_391c0f56bd jn_J0_charAt_5068e rfl (jj_le rfl) (jj_le rfl) (jj_le rfl) (jj_le rfl) (jj_le rfl) dX9_isWord_49 rfl (fun w1 r O_35 => ?_)
            obtain ⟨-, rfl⟩ := O_35
            refine jj_icmp_eq (tgt := 57) C dX9_isWord_52 (by decide) (fun c_36 => ?_) (fun c_36 => ?_)
            · have z_c_36 := jc_eq (a := (v_34).toInt) (b := (100)) c_36 rfl (by decide)
              refine jj_iinc (v := 4) C dX9_isWord_57 rfl (by decide) (by decide) rfl ?_
              refine jj_goto (tgt := 28) C dX9_isWord_60 (by decide) ?_
              refine jj_iload_n C dX9_isWord_28 rfl ?_
              refine jj_aload_n C dX9_isWord_29 rfl ?_
              refine tt_call0Vs (rest := [.int 4]) C (ct_J0_length_8abf5_1 hl D cA ak) 0 (by decide) rfl jw_f27063fded jw_b1ce304435 jw_d08f03a22e jw_4ea6285965 jw_bbc7045666 jn_J0_length_8abf5 rfl (jj_le rfl) (jj_le rfl) (jj_le rfl) (jj_le rfl) (jj_le rfl) dX9_isWord_30 rfl (fun w1 r O_37 => ?_)
              obtain ⟨-, rfl⟩ := O_37
              refine jj_icmp_geT (tgt := 63) C dX9_isWord_33 (by decide) (by decide) ?_
              refine jj_iconst (v := 1) C dX9_isWord_63 (by decide) ?_
              exact jj_zret C rfl ⟨[], pl0, rfl, rfl, hok, hfr, (Or.inr rfl)⟩ dX9_isWord_64 (jj_le rfl) (jj_le rfl)
            · have z_c_36 := jc_neq (a := (v_34).toInt) (b := (100)) c_36 rfl (by decide)
              refine jj_iconst (v := 0) C dX9_isWord_55 (by decide) ?_
              exact jj_zret C rfl ⟨[], pl0, rfl, rfl, hok, hfr, (Or.inl rfl)⟩ dX9_isWord_56 (jj_le rfl) (jj_le rfl)
          · have z_c_31 := jc_neq (a := (v_29).toInt) (b := (110)) c_31 rfl (by decide)
            refine jj_iconst (v := 0) C dX9_isWord_55 (by decide) ?_
            exact jj_zret C rfl ⟨[], pl0, rfl, rfl, hok, hfr, (Or.inl rfl)⟩ dX9_isWord_56 (jj_le rfl) (jj_le rfl)
        · have z_c_26 := jc_neq (a := (v_24).toInt) (b := (117)) c_26 rfl (by decide)
          refine jj_iconst (v := 0) C dX9_isWord_55 (by decide) ?_
          exact jj_zret C rfl ⟨[], pl0, rfl, rfl, hok, hfr, (Or.inl rfl)⟩ dX9_isWord_56 (jj_le rfl) (jj_le rfl)
      · have z_c_21 := jc_neq (a := (v_19).toInt) (b := (102)) c_21 rfl (by decide)
        refine jj_iconst (v := 0) C dX9_isWord_55 (by decide) ?_
        exact jj_zret C rfl ⟨[], pl0, rfl, rfl, hok, hfr, (Or.inl rfl)⟩ dX9_isWord_56 (jj_le rfl) (jj_le rfl)
    · have z_c_13 := jc_neq (a := (x_11).toInt) (b := (4)) c_13 rfl (by decide)
      refine jj_iconst (v := 0) C dX9_isWord_24 (by decide) ?_
      exact jj_zret C rfl ⟨[], pl0, rfl, rfl, hok, hfr, (Or.inl rfl)⟩ dX9_isWord_25 (jj_le rfl) (jj_le rfl)

set_option maxHeartbeats 4000000 in
set_option maxRecDepth 100000 in
theorem tc_X3_accept_1 {l : Launch} (hl : l.stackTraces = false) (D : va_G) (cA : Nat → ClassId) (ak : (Nat → Nat) × (Nat → Nat)) {Kd : Nat → Nat} (h0 : Nat) (hk0 : Kd h0 = 17) {pl0 : va_W} (hok : tt_ok tt_tk cA Kd pl0) : jj_M l D cA ak yX3_accept (.code yX3_accept cX3_accept 3 (some .boolean)) 0 0 0 0 ([] ++ pl0) [.ref h0, .int 0, .int 1] (tt_O (fun rx pl1 r => rx = [] ∧ tt_ok tt_tk cA Kd pl1 ∧ tt_fr Kd [(17, 2)] pl0 pl1 ∧ ((r = some (.int 0))))) (tt_OX (fun _ _ _ => False)) := by
  refine jj_start hl (by decide) jw_0001e2e84f (jj_le rfl) ?_
  intro p e s m args below meth c A hargs hA C hex hmn
  have hfr := tt_fr.refl (K := Kd) (WS := [(17, 2)]) pl0
  refine jj_iload_n C dX3_accept_0 rfl ?_
  refine jj_if_neF (tgt := 9) C dX3_accept_1 (by decide) (by decide) ?_
  refine jj_aload_n C dX3_accept_4 rfl ?_
  refine jj_iload_n C dX3_accept_5 rfl ?_
  refine tt_put C hok jk_4 2 (by decide) jw_c9663815d9 (t := (0, (-2147483648), 2147483647)) hk0 (by decide) rfl rfl rfl (tt_ia (1 : Int32)) rfl rfl dX3_accept_6 (fun pl_1 hok_2 tr hn => ?_)
  have hf_3 := hn
  replace hfr := hfr.put hk0 tr (by decide)
  refine jj_iload_n C dX3_accept_9 rfl ?_
  exact jj_zret C rfl ⟨[], pl_1, rfl, rfl, hok_2, hfr, rfl⟩ dX3_accept_10 (jj_le rfl) (jj_le rfl)

set_option maxHeartbeats 4000000 in
set_option maxRecDepth 100000 in
theorem tc_X3_accept_2 {l : Launch} (hl : l.stackTraces = false) (D : va_G) (cA : Nat → ClassId) (ak : (Nat → Nat) × (Nat → Nat)) {Kd : Nat → Nat} (h0 : Nat) (hk0 : Kd h0 = 17) {pl0 : va_W} (hok : tt_ok tt_tk cA Kd pl0) : jj_M l D cA ak yX3_accept (.code yX3_accept cX3_accept 3 (some .boolean)) 0 0 0 0 ([] ++ pl0) [.ref h0, .int 1, .int 1] (tt_O (fun rx pl1 r => rx = [] ∧ tt_ok tt_tk cA Kd pl1 ∧ tt_fr Kd [] pl0 pl1 ∧ ((r = some (.int 1))))) (tt_OX (fun _ _ _ => False)) := by
  refine jj_start hl (by decide) jw_0001e2e84f (jj_le rfl) ?_
  intro p e s m args below meth c A hargs hA C hex hmn
  have hfr := tt_fr.refl (K := Kd) (WS := []) pl0
  refine jj_iload_n C dX3_accept_0 rfl ?_
  refine jj_if_neT (tgt := 9) C dX3_accept_1 (by decide) (by decide) ?_
  refine jj_iload_n C dX3_accept_9 rfl ?_
  exact jj_zret C rfl ⟨[], pl0, rfl, rfl, hok, hfr, rfl⟩ dX3_accept_10 (jj_le rfl) (jj_le rfl)

set_option maxHeartbeats 4000000 in
set_option maxRecDepth 100000 in
theorem tc_X3_readWord_1 {l : Launch} (hl : l.stackTraces = false) (D : va_G) (cA : Nat → ClassId) (ak : (Nat → Nat) × (Nat → Nat)) {Kd : Nat → Nat} (h0 : Nat) (hk0 : Kd h0 = 17) {pl0 : va_W} (hok : tt_ok tt_tk cA Kd pl0) : jj_M l D cA ak yX3_readWord (.code yX3_readWord cX3_readWord 2 (some .boolean)) 5 107 0 0 ([] ++ pl0) [.ref h0, .ref (ak.1 0)] (tt_O (fun rx pl1 r => rx = [] ∧ tt_ok tt_tk cA Kd pl1 ∧ tt_fr Kd [(10, 3), (10, 4), (10, 5), (10, 6), (17, 2)] pl0 pl1 ∧ ((r = some (.int 0)) ∨ (r = some (.int 1))))) (tt_OX (fun _ _ _ => False)) := by
  refine jj_start hl (by decide) jw_e40f0ddd13 (jj_le rfl) ?_
  intro p e s m args below meth c A hargs hA C hex hmn
  have hfr := tt_fr.refl (K := Kd) (WS := [(10, 3), (10, 4), (10, 5), (10, 6), (17, 2)]) pl0
  refine jj_aload_n C dX3_readWord_0 rfl ?_
  refine tt_get C hok jk_4 0 (by decide) jw_70cd29f103 (t := (2, 10, 0)) hk0 (by decide) rfl rfl dX3_readWord_1 (fun v_1 hv_1 hf_2 => ?_)
  obtain ⟨a_3, rfl, ka_3⟩ := tt_vr hv_1
  obtain ⟨qc, gs, hqc⟩ := tt_recv (cx := []) hok ka_3 (by decide) rfl
  refine tt_callV (rest := []) C (tc_X9_advance_1 hl D cA ak a_3 ka_3 hok) [] [] rfl rfl (by decide) (by decide) (by decide) qc hqc rfl rfl jw_97c023d194 jw_37f6ee43e0 jw_46baf1fc7b jw_a9e7b602dc jw_0d4db63612 jn_X9_advance rfl (jj_le rfl) (jj_le rfl) (jj_le rfl) (jj_le rfl) (jj_le rfl) dX3_readWord_4 rfl (fun _ _ _ hX => hX.elim) (fun rx pl_4 r O_7 => ?_)
  obtain ⟨rfl, hok_5, hr_6, hR_9⟩ := O_7
  replace hf_2 := hr_6.at hk0 (by decide) (by decide) hf_2
  replace hfr := hfr.trans (hr_6.sub (by decide))
  obtain rfl := hR_9
  refine jj_aload_n C dX3_readWord_7 rfl ?_
  refine jj_aload_n C dX3_readWord_8 rfl ?_
  refine tt_getF C hok_5 jk_4 0 (by decide) jw_70cd29f103 (t := (2, 10, 0)) hk0 (by decide) rfl rfl hf_2 dX3_readWord_9 ?_
  refine jj_aload_n C dX3_readWord_12 rfl ?_
  obtain ⟨qc, gs, hqc⟩ := tt_recv (cx := []) hok_5 ka_3 (by decide) rfl
  refine tt_callV (rest := [.ref h0]) C (tc_X9_isWord_1 hl D cA ak a_3 ka_3 hok_5) [] [] rfl rfl (by decide) (by decide) (by decide) qc hqc rfl rfl jw_b0fe72c6f4 jw_5e9522a00c jw_73cf9edcb7 jw_a9e7b602dc jw_ce1c1f12e9 jn_X9_isWord rfl (jj_le rfl) (jj_le rfl) (jj_le rfl) (jj_le rfl) (jj_le rfl) dX3_readWord_13 rfl (fun _ _ _ hX => hX.elim) (fun rx pl_12 r O_15 => ?_)
  obtain ⟨rfl, hok_13, hr_14, hR_17⟩ := O_15
  replace hf_2 := hr_14.at hk0 (by decide) (by decide) hf_2
  replace hfr := hfr.trans (hr_14.sub (by decide))
  rcases hR_17 with rfl | rfl
  · refine jj_iconst (v := 1) C dX3_readWord_16 (by decide) ?_
    obtain ⟨qc, gs, hqc⟩ := tt_recv (cx := []) hok_13 hk0 (by decide) rfl
    refine tt_callV (rest := []) C (tc_X3_accept_1 hl D cA ak h0 hk0 hok_13) [] [] rfl rfl (by decide) (by decide) (by decide) qc hqc rfl rfl jw_713f4d2af1 jw_b3e457240a jw_58c48ce796 jw_9d546d0b6f jw_0001e2e84f jn_X3_accept rfl (jj_le rfl) (jj_le rfl) (jj_le rfl) (jj_le rfl) (jj_le rfl) dX3_readWord_17 rfl (fun _ _ _ hX => hX.elim) (fun rx pl_20 r O_23 => ?_)
    obtain ⟨rfl, hok_21, hr_22, hR_25⟩ := O_23
    replace hf_2 := hr_22.at hk0 (by decide) (by decide) hf_2
    replace hfr := hfr.trans (hr_22.sub (by decide))
    obtain rfl := hR_25
    exact jj_zret C rfl ⟨[], pl_20, rfl, rfl, hok_21, hfr, (Or.inl rfl)⟩ dX3_readWord_20 (jj_le rfl) (jj_le rfl)
  · refine jj_iconst (v := 1) C dX3_readWord_16 (by decide) ?_
    obtain ⟨qc, gs, hqc⟩ := tt_recv (cx := []) hok_13 hk0 (by decide) rfl
    refine tt_callV (rest := []) C (tc_X3_accept_2 hl D cA ak h0 hk0 hok_13) [] [] rfl rfl (by decide) (by decide) (by decide) qc hqc rfl rfl jw_713f4d2af1 jw_b3e457240a jw_58c48ce796 jw_9d546d0b6f jw_0001e2e84f jn_X3_accept rfl (jj_le rfl) (jj_le rfl) (jj_le rfl) (jj_le rfl) (jj_le rfl) dX3_readWord_17 rfl (fun _ _ _ hX => hX.elim) (fun rx pl_28 r O_31 => ?_)
    obtain ⟨rfl, hok_29, hr_30, hR_33⟩ := O_31
    replace hf_2 := hr_30.at hk0 (by decide) (by decide) hf_2
    replace hfr := hfr.trans (hr_30.sub (by decide))
    obtain rfl := hR_33
    exact jj_zret C rfl ⟨[], pl_28, rfl, rfl, hok_29, hfr, (Or.inr rfl)⟩ dX3_readWord_20 (jj_le rfl) (jj_le rfl)

set_option maxHeartbeats 4000000 in
set_option maxRecDepth 100000 in
theorem tc_X9_isWord_2 {l : Launch} (hl : l.stackTraces = false) (D : va_G) (cA : Nat → ClassId) (ak : (Nat → Nat) × (Nat → Nat)) {Kd : Nat → Nat} (h0 : Nat) (hk0 : Kd h0 = 10) {pl0 : va_W} (hok : tt_ok tt_tk cA Kd pl0) : jj_M l D cA ak yX9_isWord (.code yX9_isWord cX9_isWord 3 (some .boolean)) 4 85 0 0 ([] ++ pl0) [.ref h0, .ref (ak.1 1)] (tt_O (fun rx pl1 r => rx = [] ∧ tt_ok tt_tk cA Kd pl1 ∧ tt_fr Kd [] pl0 pl1 ∧ ((r = some (.int 0)) ∨ (r = some (.int 1))))) (tt_OX (fun _ _ _ => False)) := by
  refine jj_start hl (by decide) jw_ce1c1f12e9 (jj_le rfl) ?_
  intro p e s m args below meth c A hargs hA C hex hmn
  have hfr := tt_fr.refl (K := Kd) (WS := []) pl0
  refine jj_aload_n C dX9_isWord_0 rfl ?_
  refine tt_get C hok jk_10 5 (by decide) jw_bde5c0d1a5 (t := (0, (-2147483648), 2147483647)) hk0 (by decide) rfl rfl dX9_isWord_1 (fun v_1 hv_1 hf_2 => ?_)
  obtain ⟨x_3, rfl, lx_3, ux_3⟩ := tt_vi hv_1
  refine jj_iconst (v := 1) C dX9_isWord_4 (by decide) ?_
  refine jj_icmp_ne (tgt := 24) C dX9_isWord_5 (by decide) (fun c_4 => ?_) (fun c_4 => ?_)
  · have z_c_4 := jc_neq (a := (x_3).toInt) (b := (1)) c_4 rfl (by decide)
    refine jj_iconst (v := 0) C dX9_isWord_24 (by decide) ?_
    exact jj_zret C rfl ⟨[], pl0, rfl, rfl, hok, hfr, (Or.inl rfl)⟩ dX9_isWord_25 (jj_le rfl) (jj_le rfl)
  · have z_c_4 := jc_eq (a := (x_3).toInt) (b := (1)) c_4 rfl (by decide)
    refine jj_aload_n C dX9_isWord_8 rfl ?_
    refine tt_get C hok jk_10 3 (by decide) jw_f99bd0ca2b (t := (0, 0, 400)) hk0 (by decide) rfl rfl dX9_isWord_9 (fun v_5 hv_5 hf_6 => ?_)
    obtain ⟨x_7, rfl, lx_7, ux_7⟩ := tt_vi hv_5
    refine jj_aload_n C dX9_isWord_12 rfl ?_
    refine tt_get C hok jk_10 4 (by decide) jw_66bda6962a (t := (0, 0, 400)) hk0 (by decide) rfl rfl dX9_isWord_13 (fun v_8 hv_8 hf_9 => ?_)
    obtain ⟨x_10, rfl, lx_10, ux_10⟩ := tt_vi hv_8
    obtain ⟨x_11, ex_11, vx_11⟩ := tt_isub (x := x_7) (y := x_10) (a := x_7.toInt) rfl (b := x_10.toInt) rfl (by omega) (by omega)
    refine jj_isub (v := x_11) C dX9_isWord_16 ex_11 ?_
    refine jj_aload_n C dX9_isWord_17 rfl ?_
    refine tt_call0Vs (rest := [.int x_11]) C (ct_J0_length_8abf5_2 hl D cA ak) 1 (by decide) rfl jw_f27063fded jw_b1ce304435 jw_d08f03a22e jw_4ea6285965 jw_bbc7045666 jn_J0_length_8abf5 rfl (jj_le rfl) (jj_le rfl) (jj_le rfl) (jj_le rfl) (jj_le rfl) dX9_isWord_18 rfl (fun w1 r O_12 => ?_)
    obtain ⟨-, rfl⟩ := O_12
    refine jj_icmp_eq (tgt := 26) C dX9_isWord_21 (by decide) (fun c_13 => ?_) (fun c_13 => ?_)
    · have z_c_13 := jc_eq (a := (x_11).toInt) (b := (5)) c_13 rfl (by decide)
      refine jj_iconst (v := 0) C dX9_isWord_26 (by decide) ?_
      refine jj_istore_n C dX9_isWord_27 (by decide) rfl ?_
      refine jj_iload_n C dX9_isWord_28 rfl ?_
      refine jj_aload_n C dX9_isWord_29 rfl ?_
      refine tt_call0Vs (rest := [.int 0]) C (ct_J0_length_8abf5_2 hl D cA ak) 1 (by decide) rfl jw_f27063fded jw_b1ce304435 jw_d08f03a22e jw_4ea6285965 jw_bbc7045666 jn_J0_length_8abf5 rfl (jj_le rfl) (jj_le rfl) (jj_le rfl) (jj_le rfl) (jj_le rfl) dX9_isWord_30 rfl (fun w1 r O_14 => ?_)
      obtain ⟨-, rfl⟩ := O_14
      refine jj_icmp_geF (tgt := 63) C dX9_isWord_33 (by decide) (by decide) ?_
      refine jj_aload_n C dX9_isWord_36 rfl ?_
      refine tt_get C hok jk_10 0 (by decide) jw_0664e1e086 (t := (2, 11, 0)) hk0 (by decide) rfl rfl dX9_isWord_37 (fun v_15 hv_15 hf_16 => ?_)
      obtain ⟨a_17, rfl, ka_17⟩ := tt_vr hv_15
      refine jj_aload_n C dX9_isWord_40 rfl ?_
      refine tt_getF C hok jk_10 4 (by decide) jw_66bda6962a (t := (0, 0, 400)) hk0 (by decide) rfl rfl hf_9 dX9_isWord_41 ?_
      refine jj_iload_n C dX9_isWord_44 rfl ?_
      obtain ⟨x_18, ex_18, vx_18⟩ := tt_iadd (x := x_10) (y := (0 : Int32)) (a := x_10.toInt) rfl (b := 0) (by decide) (by omega) (by omega)
      refine jj_iadd (v := x_18) C dX9_isWord_45 ex_18 ?_
      refine tt_cald C hok (t := (0, (-2147483648), 2147483647)) ka_17 (by decide) rfl (vp_in_iff.mpr ⟨by omega, by omega⟩) dX9_isWord_46 (fun v_19 hv_19 => ?_)
      refine jj_aload_n C dX9_isWord_47 rfl ?_
      refine jj_iload_n C dX9_isWord_48 rfl ?_
      refine tt_call0Vs (rest := [.int v_19]) C (ct_J0_charAt_5068e_5 hl D cA ak) 1 (by decide) rfl jw_076e8de8e0 jw_acb9174fef jw_675efe837b jw_4ea6285965 jw_391c0f56bd jn_J0_charAt_5068e rfl (jj_le rfl) (jj_le rfl) (jj_le rfl) (jj_le rfl) (jj_le rfl) dX9_isWord_49 rfl (fun w1 r O_20 => ?_)
      obtain ⟨-, rfl⟩ := O_20
      refine jj_icmp_eq (tgt := 57) C dX9_isWord_52 (by decide) (fun c_21 => ?_) (fun c_21 => ?_)
      · have z_c_21 := jc_eq (a := (v_19).toInt) (b := (101)) c_21 rfl (by decide)
        refine jj_iinc (v := 1) C dX9_isWord_57 rfl (by decide) (by decide) rfl ?_
        refine jj_goto (tgt := 28) C dX9_isWord_60 (by decide) ?_
        refine jj_iload_n C dX9_isWord_28 rfl ?_
        refine jj_aload_n C dX9_isWord_29 rfl ?_
        refine tt_call0Vs (rest := [.int 1]) C (ct_J0_length_8abf5_2 hl D cA ak) 1 (by decide) rfl jw_f27063fded jw_b1ce304435 jw_d08f03a22e jw_4ea6285965 jw_bbc7045666 jn_J0_length_8abf5 rfl (jj_le rfl) (jj_le rfl) (jj_le rfl) (jj_le rfl) (jj_le rfl) dX9_isWord_30 rfl (fun w1 r O_22 => ?_)
        obtain ⟨-, rfl⟩ := O_22
        refine jj_icmp_geF (tgt := 63) C dX9_isWord_33 (by decide) (by decide) ?_
        refine jj_aload_n C dX9_isWord_36 rfl ?_
        refine tt_getF C hok jk_10 0 (by decide) jw_0664e1e086 (t := (2, 11, 0)) hk0 (by decide) rfl rfl hf_16 dX9_isWord_37 ?_
        refine jj_aload_n C dX9_isWord_40 rfl ?_
        refine tt_getF C hok jk_10 4 (by decide) jw_66bda6962a (t := (0, 0, 400)) hk0 (by decide) rfl rfl hf_9 dX9_isWord_41 ?_
        refine jj_iload_n C dX9_isWord_44 rfl ?_
        obtain ⟨x_23, ex_23, vx_23⟩ := tt_iadd (x := x_10) (y := (1 : Int32)) (a := x_10.toInt) rfl (b := 1) (by decide) (by omega) (by omega)
        refine jj_iadd (v := x_23) C dX9_isWord_45 ex_23 ?_
        refine tt_cald C hok (t := (0, (-2147483648), 2147483647)) ka_17 (by decide) rfl (vp_in_iff.mpr ⟨by omega, by omega⟩) dX9_isWord_46 (fun v_24 hv_24 => ?_)
        refine jj_aload_n C dX9_isWord_47 rfl ?_
        refine jj_iload_n C dX9_isWord_48 rfl ?_
        refine tt_call0Vs (rest := [.int v_24]) C (ct_J0_charAt_5068e_6 hl D cA ak) 1 (by decide) rfl jw_076e8de8e0 jw_acb9174fef jw_675efe837b jw_4ea6285965 jw_391c0f56bd jn_J0_charAt_5068e rfl (jj_le rfl) (jj_le rfl) (jj_le rfl) (jj_le rfl) (jj_le rfl) dX9_isWord_49 rfl (fun w1 r O_25 => ?_)
        obtain ⟨-, rfl⟩ := O_25
        refine jj_icmp_eq (tgt := 57) C dX9_isWord_52 (by decide) (fun c_26 => ?_) (fun c_26 => ?_)
        · have z_c_26 := jc_eq (a := (v_24).toInt) (b := (113)) c_26 rfl (by decide)
          refine jj_iinc (v := 2) C dX9_isWord_57 rfl (by decide) (by decide) rfl ?_
          refine jj_goto (tgt := 28) C dX9_isWord_60 (by decide) ?_
          refine jj_iload_n C dX9_isWord_28 rfl ?_
          refine jj_aload_n C dX9_isWord_29 rfl ?_
          refine tt_call0Vs (rest := [.int 2]) C (ct_J0_length_8abf5_2 hl D cA ak) 1 (by decide) rfl jw_f27063fded jw_b1ce304435 jw_d08f03a22e jw_4ea6285965 jw_bbc7045666 jn_J0_length_8abf5 rfl (jj_le rfl) (jj_le rfl) (jj_le rfl) (jj_le rfl) (jj_le rfl) dX9_isWord_30 rfl (fun w1 r O_27 => ?_)
          obtain ⟨-, rfl⟩ := O_27
          refine jj_icmp_geF (tgt := 63) C dX9_isWord_33 (by decide) (by decide) ?_
          refine jj_aload_n C dX9_isWord_36 rfl ?_
          refine tt_getF C hok jk_10 0 (by decide) jw_0664e1e086 (t := (2, 11, 0)) hk0 (by decide) rfl rfl hf_16 dX9_isWord_37 ?_
          refine jj_aload_n C dX9_isWord_40 rfl ?_
          refine tt_getF C hok jk_10 4 (by decide) jw_66bda6962a (t := (0, 0, 400)) hk0 (by decide) rfl rfl hf_9 dX9_isWord_41 ?_
          refine jj_iload_n C dX9_isWord_44 rfl ?_
          obtain ⟨x_28, ex_28, vx_28⟩ := tt_iadd (x := x_10) (y := (2 : Int32)) (a := x_10.toInt) rfl (b := 2) (by decide) (by omega) (by omega)
          refine jj_iadd (v := x_28) C dX9_isWord_45 ex_28 ?_
          refine tt_cald C hok (t := (0, (-2147483648), 2147483647)) ka_17 (by decide) rfl (vp_in_iff.mpr ⟨by omega, by omega⟩) dX9_isWord_46 (fun v_29 hv_29 => ?_)
          refine jj_aload_n C dX9_isWord_47 rfl ?_
          refine jj_iload_n C dX9_isWord_48 rfl ?_
          refine tt_call0Vs (rest := [.int v_29]) C (ct_J0_charAt_5068e_7 hl D cA ak) 1 (by decide) rfl jw_076e8de8e0 jw_acb9174fef jw_675efe837b jw_4ea6285965 jw_391c0f56bd jn_J0_charAt_5068e rfl (jj_le rfl) (jj_le rfl) (jj_le rfl) (jj_le rfl) (jj_le rfl) dX9_isWord_49 rfl (fun w1 r O_30 => ?_)
          obtain ⟨-, rfl⟩ := O_30
          refine jj_icmp_eq (tgt := 57) C dX9_isWord_52 (by decide) (fun c_31 => ?_) (fun c_31 => ?_)
          · have z_c_31 := jc_eq (a := (v_29).toInt) (b := (117)) c_31 rfl (by decide)
            refine jj_iinc (v := 3) C dX9_isWord_57 rfl (by decide) (by decide) rfl ?_
            refine jj_goto (tgt := 28) C dX9_isWord_60 (by decide) ?_
            refine jj_iload_n C dX9_isWord_28 rfl ?_
            refine jj_aload_n C dX9_isWord_29 rfl ?_
            refine tt_call0Vs (rest := [.int 3]) C (ct_J0_length_8abf5_2 hl D cA ak) 1 (by decide) rfl jw_f27063fded jw_b1ce304435 jw_d08f03a22e jw_4ea6285965 jw_bbc7045666 jn_J0_length_8abf5 rfl (jj_le rfl) (jj_le rfl) (jj_le rfl) (jj_le rfl) (jj_le rfl) dX9_isWord_30 rfl (fun w1 r O_32 => ?_)
            obtain ⟨-, rfl⟩ := O_32
            refine jj_icmp_geF (tgt := 63) C dX9_isWord_33 (by decide) (by decide) ?_
            refine jj_aload_n C dX9_isWord_36 rfl ?_
            refine tt_getF C hok jk_10 0 (by decide) jw_0664e1e086 (t := (2, 11, 0)) hk0 (by decide) rfl rfl hf_16 dX9_isWord_37 ?_
            refine jj_aload_n C dX9_isWord_40 rfl ?_
            refine tt_getF C hok jk_10 4 (by decide) jw_66bda6962a (t := (0, 0, 400)) hk0 (by decide) rfl rfl hf_9 dX9_isWord_41 ?_
            refine jj_iload_n C dX9_isWord_44 rfl ?_
            obtain ⟨x_33, ex_33, vx_33⟩ := tt_iadd (x := x_10) (y := (3 : Int32)) (a := x_10.toInt) rfl (b := 3) (by decide) (by omega) (by omega)
            refine jj_iadd (v := x_33) C dX9_isWord_45 ex_33 ?_
            refine tt_cald C hok (t := (0, (-2147483648), 2147483647)) ka_17 (by decide) rfl (vp_in_iff.mpr ⟨by omega, by omega⟩) dX9_isWord_46 (fun v_34 hv_34 => ?_)
            refine jj_aload_n C dX9_isWord_47 rfl ?_
            refine jj_iload_n C dX9_isWord_48 rfl ?_
            refine tt_call0Vs (rest := [.int v_34]) C (ct_J0_charAt_5068e_8 hl D cA ak) 1 (by decide) rfl jw_076e8de8e0 jw_acb9174fef jw_675efe837b jw_4ea6285965 jw_391c0f56bd jn_J0_charAt_5068e rfl (jj_le rfl) (jj_le rfl) (jj_le rfl) (jj_le rfl) (jj_le rfl) dX9_isWord_49 rfl (fun w1 r O_35 => ?_)
            obtain ⟨-, rfl⟩ := O_35
            refine jj_icmp_eq (tgt := 57) C dX9_isWord_52 (by decide) (fun c_36 => ?_) (fun c_36 => ?_)
            · have z_c_36 := jc_eq (a := (v_34).toInt) (b := (97)) c_36 rfl (by decide)
              refine jj_iinc (v := 4) C dX9_isWord_57 rfl (by decide) (by decide) rfl ?_
              refine jj_goto (tgt := 28) C dX9_isWord_60 (by decide) ?_
              refine jj_iload_n C dX9_isWord_28 rfl ?_
              refine jj_aload_n C dX9_isWord_29 rfl ?_
              refine tt_call0Vs (rest := [.int 4]) C (ct_J0_length_8abf5_2 hl D cA ak) 1 (by decide) rfl jw_f27063fded jw_b1ce304435 jw_d08f03a22e jw_4ea6285965 jw_bbc7045666 jn_J0_length_8abf5 rfl (jj_le rfl) (jj_le rfl) (jj_le rfl) (jj_le rfl) (jj_le rfl) dX9_isWord_30 rfl (fun w1 r O_37 => ?_)
              obtain ⟨-, rfl⟩ := O_37
              refine jj_icmp_geF (tgt := 63) C dX9_isWord_33 (by decide) (by decide) ?_
              refine jj_aload_n C dX9_isWord_36 rfl ?_
              refine tt_getF C hok jk_10 0 (by decide) jw_0664e1e086 (t := (2, 11, 0)) hk0 (by decide) rfl rfl hf_16 dX9_isWord_37 ?_
              refine jj_aload_n C dX9_isWord_40 rfl ?_
              refine tt_getF C hok jk_10 4 (by decide) jw_66bda6962a (t := (0, 0, 400)) hk0 (by decide) rfl rfl hf_9 dX9_isWord_41 ?_
              refine jj_iload_n C dX9_isWord_44 rfl ?_
              obtain ⟨x_38, ex_38, vx_38⟩ := tt_iadd (x := x_10) (y := (4 : Int32)) (a := x_10.toInt) rfl (b := 4) (by decide) (by omega) (by omega)
              refine jj_iadd (v := x_38) C dX9_isWord_45 ex_38 ?_
              refine tt_cald C hok (t := (0, (-2147483648), 2147483647)) ka_17 (by decide) rfl (vp_in_iff.mpr ⟨by omega, by omega⟩) dX9_isWord_46 (fun v_39 hv_39 => ?_)
              refine jj_aload_n C dX9_isWord_47 rfl ?_
              refine jj_iload_n C dX9_isWord_48 rfl ?_
              refine tt_call0Vs (rest := [.int v_39]) C (ct_J0_charAt_5068e_9 hl D cA ak) 1 (by decide) rfl jw_076e8de8e0 jw_acb9174fef jw_675efe837b jw_4ea6285965 jw_391c0f56bd jn_J0_charAt_5068e rfl (jj_le rfl) (jj_le rfl) (jj_le rfl) (jj_le rfl) (jj_le rfl) dX9_isWord_49 rfl (fun w1 r O_40 => ?_)
              obtain ⟨-, rfl⟩ := O_40
              refine jj_icmp_eq (tgt := 57) C dX9_isWord_52 (by decide) (fun c_41 => ?_) (fun c_41 => ?_)
              · have z_c_41 := jc_eq (a := (v_39).toInt) (b := (108)) c_41 rfl (by decide)
                refine jj_iinc (v := 5) C dX9_isWord_57 rfl (by decide) (by decide) rfl ?_
                refine jj_goto (tgt := 28) C dX9_isWord_60 (by decide) ?_
                refine jj_iload_n C dX9_isWord_28 rfl ?_
                refine jj_aload_n C dX9_isWord_29 rfl ?_
                refine tt_call0Vs (rest := [.int 5]) C (ct_J0_length_8abf5_2 hl D cA ak) 1 (by decide) rfl jw_f27063fded jw_b1ce304435 jw_d08f03a22e jw_4ea6285965 jw_bbc7045666 jn_J0_length_8abf5 rfl (jj_le rfl) (jj_le rfl) (jj_le rfl) (jj_le rfl) (jj_le rfl) dX9_isWord_30 rfl (fun w1 r O_42 => ?_)
                obtain ⟨-, rfl⟩ := O_42
                refine jj_icmp_geT (tgt := 63) C dX9_isWord_33 (by decide) (by decide) ?_
                refine jj_iconst (v := 1) C dX9_isWord_63 (by decide) ?_
                exact jj_zret C rfl ⟨[], pl0, rfl, rfl, hok, hfr, (Or.inr rfl)⟩ dX9_isWord_64 (jj_le rfl) (jj_le rfl)
              · have z_c_41 := jc_neq (a := (v_39).toInt) (b := (108)) c_41 rfl (by decide)
                refine jj_iconst (v := 0) C dX9_isWord_55 (by decide) ?_
                exact jj_zret C rfl ⟨[], pl0, rfl, rfl, hok, hfr, (Or.inl rfl)⟩ dX9_isWord_56 (jj_le rfl) (jj_le rfl)
            · have z_c_36 := jc_neq (a := (v_34).toInt) (b := (97)) c_36 rfl (by decide)
              refine jj_iconst (v := 0) C dX9_isWord_55 (by decide) ?_
              exact jj_zret C rfl ⟨[], pl0, rfl, rfl, hok, hfr, (Or.inl rfl)⟩ dX9_isWord_56 (jj_le rfl) (jj_le rfl)
          · have z_c_31 := jc_neq (a := (v_29).toInt) (b := (117)) c_31 rfl (by decide)
            refine jj_iconst (v := 0) C dX9_isWord_55 (by decide) ?_
            exact jj_zret C rfl ⟨[], pl0, rfl, rfl, hok, hfr, (Or.inl rfl)⟩ dX9_isWord_56 (jj_le rfl) (jj_le rfl)
        · have z_c_26 := jc_neq (a := (v_24).toInt) (b := (113)) c_26 rfl (by decide)
          refine jj_iconst (v := 0) C dX9_isWord_55 (by decide) ?_
          exact jj_zret C rfl ⟨[], pl0, rfl, rfl, hok, hfr, (Or.inl rfl)⟩ dX9_isWord_56 (jj_le rfl) (jj_le rfl)
      · have z_c_21 := jc_neq (a := (v_19).toInt) (b := (101)) c_21 rfl (by decide)
        refine jj_iconst (v := 0) C dX9_isWord_55 (by decide) ?_
        exact jj_zret C rfl ⟨[], pl0, rfl, rfl, hok, hfr, (Or.inl rfl)⟩ dX9_isWord_56 (jj_le rfl) (jj_le rfl)
    · have z_c_13 := jc_neq (a := (x_11).toInt) (b := (5)) c_13 rfl (by decide)
      refine jj_iconst (v := 0) C dX9_isWord_24 (by decide) ?_
      exact jj_zret C rfl ⟨[], pl0, rfl, rfl, hok, hfr, (Or.inl rfl)⟩ dX9_isWord_25 (jj_le rfl) (jj_le rfl)

