set_option maxHeartbeats 4000000 in
set_option maxRecDepth 100000 in
theorem tc_X3_readNumber_6 {l : Launch} (hl : l.stackTraces = false) (D : va_G) (cA : Nat → ClassId) (ak : (Nat → Nat) × (Nat → Nat)) {Kd : Nat → Nat} (h0 : Nat) (hk0 : Kd h0 = 17) {pl0 : va_W} (hok : tt_ok tt_tk cA Kd pl0) : jj_M l D cA ak yX3_readNumber (.code yX3_readNumber cX3_readNumber 3 (some .boolean)) 2 41 0 0 ([] ++ pl0) [.ref h0, .int 1, .int 9999999] (tt_O (fun rx pl1 r => rx = [] ∧ tt_ok tt_tk cA Kd pl1 ∧ tt_fr Kd [(10, 3), (10, 4), (10, 5), (10, 6), (17, 2)] pl0 pl1 ∧ tt_fa Kd [] pl0 pl1 ∧ ((r = some (.int 0)) ∨ (r = some (.int 1))))) (tt_OX (fun _ _ _ => False)) := by
  refine jj_start hl (by decide) jw_ad178c7ce3 (jj_le rfl) ?_
  intro p e s m args below meth c A hargs hA C hex hmn
  have hfr := tt_fr.refl (K := Kd) (WS := [(10, 3), (10, 4), (10, 5), (10, 6), (17, 2)]) pl0
  have hfa := tt_fa.refl (K := Kd) (WA := []) pl0
  refine jj_aload_n C dX3_readNumber_0 rfl ?_
  refine tt_get C hok jk_4 0 (by decide) jw_70cd29f103 (t := (2, 10, 0)) hk0 (by decide) rfl rfl dX3_readNumber_1 (fun v_1 hv_1 hf_2 => ?_)
  obtain ⟨a_3, rfl, ka_3⟩ := tt_vr hv_1
  obtain ⟨qc, gs, hqc⟩ := tt_recv (cx := []) hok ka_3 (by decide) rfl
  refine tt_callV (rest := []) C (tc_X9_advance_1 hl D cA ak a_3 ka_3 hok) [] [] rfl rfl (by decide) (by decide) (by decide) qc hqc rfl rfl jw_97c023d194 jw_37f6ee43e0 jw_46baf1fc7b jw_a9e7b602dc jw_0d4db63612 jn_X9_advance rfl (jj_le rfl) (jj_le rfl) (jj_le rfl) (jj_le rfl) (jj_le rfl) dX3_readNumber_4 rfl (fun _ _ _ hX => hX.elim) (fun rx pl_4 r O_7 => ?_)
  obtain ⟨rfl, hok_5, hr_6, hfa9, hR_9⟩ := O_7
  replace hf_2 := hr_6.at hk0 (by decide) (by decide) hf_2
  replace hfr := hfr.trans (hr_6.sub (by decide))
  replace hfa := hfa.trans (hfa9.sub (by decide))
  obtain rfl := hR_9
  refine jj_aload_n C dX3_readNumber_7 rfl ?_
  refine jj_aload_n C dX3_readNumber_8 rfl ?_
  refine tt_getF C hok_5 jk_4 0 (by decide) jw_70cd29f103 (t := (2, 10, 0)) hk0 (by decide) rfl rfl hf_2 dX3_readNumber_9 ?_
  refine tt_get C hok_5 jk_10 5 (by decide) jw_601d0e39ae (t := (0, (-2147483648), 2147483647)) ka_3 (by decide) rfl rfl dX3_readNumber_12 (fun v_12 hv_12 hf_13 => ?_)
  obtain ⟨x_14, rfl, lx_14, ux_14⟩ := tt_vi hv_12
  refine jj_iconst (v := 2) C dX3_readNumber_15 (by decide) ?_
  refine jj_icmp_ne (tgt := 23) C dX3_readNumber_16 (by decide) (fun c_15 => ?_) (fun c_15 => ?_)
  · have z_c_15 := jc_neq (a := (x_14).toInt) (b := (2)) c_15 rfl (by decide)
    refine jj_iconst (v := 0) C dX3_readNumber_23 (by decide) ?_
    refine jj_iconst (v := 1) C dX3_readNumber_24 (by decide) ?_
    obtain ⟨qc, gs, hqc⟩ := tt_recv (cx := []) hok_5 hk0 (by decide) rfl
    refine tt_callV (rest := []) C (tc_X3_accept_1 hl D cA ak h0 hk0 hok_5) [] [] rfl rfl (by decide) (by decide) (by decide) qc hqc rfl rfl jw_713f4d2af1 jw_b3e457240a jw_58c48ce796 jw_9d546d0b6f jw_0001e2e84f jn_X3_accept rfl (jj_le rfl) (jj_le rfl) (jj_le rfl) (jj_le rfl) (jj_le rfl) dX3_readNumber_25 rfl (fun _ _ _ hX => hX.elim) (fun rx pl_16 r O_19 => ?_)
    obtain ⟨rfl, hok_17, hr_18, hfa9, hR_21⟩ := O_19
    replace hf_2 := hr_18.at hk0 (by decide) (by decide) hf_2
    replace hf_13 := hr_18.at ka_3 (by decide) (by decide) hf_13
    replace hfr := hfr.trans (hr_18.sub (by decide))
    replace hfa := hfa.trans (hfa9.sub (by decide))
    obtain rfl := hR_21
    refine jj_if_eqT (tgt := 70) C dX3_readNumber_28 (by decide) (by decide) ?_
    refine jj_iconst (v := 0) C dX3_readNumber_70 (by decide) ?_
    exact jj_zret C rfl ⟨[], pl_16, rfl, rfl, hok_17, hfr, hfa, (Or.inl rfl)⟩ dX3_readNumber_71 (jj_le rfl) (jj_le rfl)
  · have z_c_15 := jc_eq (a := (x_14).toInt) (b := (2)) c_15 rfl (by decide)
    refine jj_iconst (v := 1) C dX3_readNumber_19 (by decide) ?_
    refine jj_goto (tgt := 24) C dX3_readNumber_20 (by decide) ?_
    refine jj_iconst (v := 1) C dX3_readNumber_24 (by decide) ?_
    obtain ⟨qc, gs, hqc⟩ := tt_recv (cx := []) hok_5 hk0 (by decide) rfl
    refine tt_callV (rest := []) C (tc_X3_accept_2 hl D cA ak h0 hk0 hok_5) [] [] rfl rfl (by decide) (by decide) (by decide) qc hqc rfl rfl jw_713f4d2af1 jw_b3e457240a jw_58c48ce796 jw_9d546d0b6f jw_0001e2e84f jn_X3_accept rfl (jj_le rfl) (jj_le rfl) (jj_le rfl) (jj_le rfl) (jj_le rfl) dX3_readNumber_25 rfl (fun _ _ _ hX => hX.elim) (fun rx pl_24 r O_27 => ?_)
    obtain ⟨rfl, hok_25, hr_26, hfa9, hR_29⟩ := O_27
    replace hf_2 := hr_26.at hk0 (by decide) (by decide) hf_2
    replace hf_13 := hr_26.at ka_3 (by decide) (by decide) hf_13
    replace hfr := hfr.trans (hr_26.sub (by decide))
    replace hfa := hfa.trans (hfa9.sub (by decide))
    obtain rfl := hR_29
    refine jj_if_eqF (tgt := 70) C dX3_readNumber_28 (by decide) (by decide) ?_
    refine jj_aload_n C dX3_readNumber_31 rfl ?_
    refine jj_aload_n C dX3_readNumber_32 rfl ?_
    refine tt_getF C hok_25 jk_4 0 (by decide) jw_70cd29f103 (t := (2, 10, 0)) hk0 (by decide) rfl rfl hf_2 dX3_readNumber_33 ?_
    refine tt_get C hok_25 jk_10 6 (by decide) jw_c96d139a1d (t := (0, (-2147483648), 2147483647)) ka_3 (by decide) rfl rfl dX3_readNumber_36 (fun v_32 hv_32 hf_33 => ?_)
    obtain ⟨x_34, rfl, lx_34, ux_34⟩ := tt_vi hv_32
    refine jj_iload_n C dX3_readNumber_39 rfl ?_
    refine jj_icmp_lt (tgt := 58) C dX3_readNumber_40 (by decide) (fun c_35 => ?_) (fun c_35 => ?_)
    · have z_c_35 := jc_lt (a := (x_34).toInt) (b := (1)) c_35 rfl (by decide)
      refine jj_iconst (v := 0) C dX3_readNumber_58 (by decide) ?_
      refine jj_iconst (v := 2) C dX3_readNumber_59 (by decide) ?_
      obtain ⟨qc, gs, hqc⟩ := tt_recv (cx := []) hok_25 hk0 (by decide) rfl
      refine tt_callV (rest := []) C (tc_X3_accept_3 hl D cA ak h0 hk0 hok_25) [] [] rfl rfl (by decide) (by decide) (by decide) qc hqc rfl rfl jw_713f4d2af1 jw_b3e457240a jw_58c48ce796 jw_9d546d0b6f jw_0001e2e84f jn_X3_accept rfl (jj_le rfl) (jj_le rfl) (jj_le rfl) (jj_le rfl) (jj_le rfl) dX3_readNumber_60 rfl (fun _ _ _ hX => hX.elim) (fun rx pl_36 r O_39 => ?_)
      obtain ⟨rfl, hok_37, hr_38, hfa9, hR_41⟩ := O_39
      replace hf_2 := hr_38.at hk0 (by decide) (by decide) hf_2
      replace hf_13 := hr_38.at ka_3 (by decide) (by decide) hf_13
      replace hf_33 := hr_38.at ka_3 (by decide) (by decide) hf_33
      replace hfr := hfr.trans (hr_38.sub (by decide))
      replace hfa := hfa.trans (hfa9.sub (by decide))
      obtain rfl := hR_41
      refine jj_if_eqT (tgt := 70) C dX3_readNumber_63 (by decide) (by decide) ?_
      refine jj_iconst (v := 0) C dX3_readNumber_70 (by decide) ?_
      exact jj_zret C rfl ⟨[], pl_36, rfl, rfl, hok_37, hfr, hfa, (Or.inl rfl)⟩ dX3_readNumber_71 (jj_le rfl) (jj_le rfl)
    · have z_c_35 := jc_nlt (a := (x_34).toInt) (b := (1)) c_35 rfl (by decide)
      refine jj_aload_n C dX3_readNumber_43 rfl ?_
      refine tt_getF C hok_25 jk_4 0 (by decide) jw_70cd29f103 (t := (2, 10, 0)) hk0 (by decide) rfl rfl hf_2 dX3_readNumber_44 ?_
      refine tt_getF C hok_25 jk_10 6 (by decide) jw_c96d139a1d (t := (0, (-2147483648), 2147483647)) ka_3 (by decide) rfl rfl hf_33 dX3_readNumber_47 ?_
      refine jj_iload_n C dX3_readNumber_50 rfl ?_
      refine jj_icmp_gt (tgt := 58) C dX3_readNumber_51 (by decide) (fun c_44 => ?_) (fun c_44 => ?_)
      · have z_c_44 := jc_lt (a := (9999999)) (b := (x_34).toInt) c_44 (by decide) rfl
        refine jj_iconst (v := 0) C dX3_readNumber_58 (by decide) ?_
        refine jj_iconst (v := 2) C dX3_readNumber_59 (by decide) ?_
        obtain ⟨qc, gs, hqc⟩ := tt_recv (cx := []) hok_25 hk0 (by decide) rfl
        refine tt_callV (rest := []) C (tc_X3_accept_3 hl D cA ak h0 hk0 hok_25) [] [] rfl rfl (by decide) (by decide) (by decide) qc hqc rfl rfl jw_713f4d2af1 jw_b3e457240a jw_58c48ce796 jw_9d546d0b6f jw_0001e2e84f jn_X3_accept rfl (jj_le rfl) (jj_le rfl) (jj_le rfl) (jj_le rfl) (jj_le rfl) dX3_readNumber_60 rfl (fun _ _ _ hX => hX.elim) (fun rx pl_45 r O_48 => ?_)
        obtain ⟨rfl, hok_46, hr_47, hfa9, hR_50⟩ := O_48
        replace hf_2 := hr_47.at hk0 (by decide) (by decide) hf_2
        replace hf_13 := hr_47.at ka_3 (by decide) (by decide) hf_13
        replace hf_33 := hr_47.at ka_3 (by decide) (by decide) hf_33
        replace hfr := hfr.trans (hr_47.sub (by decide))
        replace hfa := hfa.trans (hfa9.sub (by decide))
        obtain rfl := hR_50
        refine jj_if_eqT (tgt := 70) C dX3_readNumber_63 (by decide) (by decide) ?_
        refine jj_iconst (v := 0) C dX3_readNumber_70 (by decide) ?_
        exact jj_zret C rfl ⟨[], pl_45, rfl, rfl, hok_46, hfr, hfa, (Or.inl rfl)⟩ dX3_readNumber_71 (jj_le rfl) (jj_le rfl)
      · have z_c_44 := jc_nlt (a := (9999999)) (b := (x_34).toInt) c_44 (by decide) rfl
        refine jj_iconst (v := 1) C dX3_readNumber_54 (by decide) ?_
        refine jj_goto (tgt := 59) C dX3_readNumber_55 (by decide) ?_
        refine jj_iconst (v := 2) C dX3_readNumber_59 (by decide) ?_
        obtain ⟨qc, gs, hqc⟩ := tt_recv (cx := []) hok_25 hk0 (by decide) rfl
        refine tt_callV (rest := []) C (tc_X3_accept_4 hl D cA ak h0 hk0 hok_25) [] [] rfl rfl (by decide) (by decide) (by decide) qc hqc rfl rfl jw_713f4d2af1 jw_b3e457240a jw_58c48ce796 jw_9d546d0b6f jw_0001e2e84f jn_X3_accept rfl (jj_le rfl) (jj_le rfl) (jj_le rfl) (jj_le rfl) (jj_le rfl) dX3_readNumber_60 rfl (fun _ _ _ hX => hX.elim) (fun rx pl_53 r O_56 => ?_)
        obtain ⟨rfl, hok_54, hr_55, hfa9, hR_58⟩ := O_56
        replace hf_2 := hr_55.at hk0 (by decide) (by decide) hf_2
        replace hf_13 := hr_55.at ka_3 (by decide) (by decide) hf_13
        replace hf_33 := hr_55.at ka_3 (by decide) (by decide) hf_33
        replace hfr := hfr.trans (hr_55.sub (by decide))
        replace hfa := hfa.trans (hfa9.sub (by decide))
        obtain rfl := hR_58
        refine jj_if_eqF (tgt := 70) C dX3_readNumber_63 (by decide) (by decide) ?_
        refine jj_iconst (v := 1) C dX3_readNumber_66 (by decide) ?_
        refine jj_goto (tgt := 71) C dX3_readNumber_67 (by decide) ?_
        exact jj_zret C rfl ⟨[], pl_53, rfl, rfl, hok_54, hfr, hfa, (Or.inr rfl)⟩ dX3_readNumber_71 (jj_le rfl) (jj_le rfl)

set_option maxHeartbeats 4000000 in
set_option maxRecDepth 100000 in
theorem tc_X3_readSubscription_1 {l : Launch} (hl : l.stackTraces = false) (D : va_G) (cA : Nat → ClassId) (ak : (Nat → Nat) × (Nat → Nat)) {Kd : Nat → Nat} (h0 : Nat) (hk0 : Kd h0 = 17) {pl0 : va_W} (hok : tt_ok tt_tk cA Kd pl0) : jj_M l D cA ak yX3_readSubscription (.code yX3_readSubscription cX3_readSubscription 2 (some .boolean)) 3 63 0 0 ([] ++ pl0) [.ref h0] (tt_O (fun rx pl1 r => rx = [] ∧ tt_ok tt_tk cA Kd pl1 ∧ tt_fr Kd [(1, 9), (4, 0), (4, 1), (4, 2), (4, 3), (4, 4), (10, 3), (10, 4), (10, 5), (10, 6), (17, 2)] pl0 pl1 ∧ tt_fa Kd [] pl0 pl1 ∧ ((r = some (.int 0)) ∨ (r = some (.int 1))))) (tt_OX (fun _ _ _ => False)) := by
  refine jj_start hl (by decide) jw_0cc88cc191 (jj_le rfl) ?_
  intro p e s m args below meth c A hargs hA C hex hmn
  have hfr := tt_fr.refl (K := Kd) (WS := [(1, 9), (4, 0), (4, 1), (4, 2), (4, 3), (4, 4), (10, 3), (10, 4), (10, 5), (10, 6), (17, 2)]) pl0
  have hfa := tt_fa.refl (K := Kd) (WA := []) pl0
  refine jj_aload_n C dX3_readSubscription_0 rfl ?_
  refine jj_iconst (v := 0) C dX3_readSubscription_1 (by decide) ?_
  refine jj_aload_n C dX3_readSubscription_2 rfl ?_
  refine tt_get C hok jk_4 1 (by decide) jw_bdf52ddf93 (t := (2, 1, 0)) hk0 (by decide) rfl rfl dX3_readSubscription_3 (fun v_1 hv_1 hf_2 => ?_)
  obtain ⟨a_3, rfl, ka_3⟩ := tt_vr hv_1
  refine tt_get C hok jk_2 0 (by decide) jw_b7c31a179b (t := (0, (-2147483648), 2147483647)) ka_3 (by decide) rfl rfl dX3_readSubscription_6 (fun v_4 hv_4 hf_5 => ?_)
  obtain ⟨x_6, rfl, lx_6, ux_6⟩ := tt_vi hv_4
  refine jj_iconst (v := 1) C dX3_readSubscription_9 (by decide) ?_
  obtain ⟨x_7, ex_7⟩ : ∃ z : Int32, x_6 - (1 : Int32) = z := ⟨_, rfl⟩
  refine jj_isub (v := x_7) C dX3_readSubscription_10 ex_7 ?_
  obtain ⟨qc, gs, hqc⟩ := tt_recv (cx := []) hok hk0 (by decide) rfl
  refine tt_callV (rest := []) C (tc_X3_readNumber_5 hl D cA ak h0 x_7 hk0 hok) [] [] rfl rfl (by decide) (by decide) (by decide) qc hqc rfl rfl jw_012f0d7bd3 jw_3c1e5a080b jw_1f143bff8b jw_9d546d0b6f jw_ad178c7ce3 jn_X3_readNumber rfl (jj_le rfl) (jj_le rfl) (jj_le rfl) (jj_le rfl) (jj_le rfl) dX3_readSubscription_11 rfl (fun _ _ _ hX => hX.elim) (fun rx pl_8 r O_11 => ?_)
  obtain ⟨rfl, hok_9, hr_10, hfa9, hR_13⟩ := O_11
  replace hf_2 := hr_10.at hk0 (by decide) (by decide) hf_2
  replace hf_5 := hr_10.at ka_3 (by decide) (by decide) hf_5
  replace hfr := hfr.trans (hr_10.sub (by decide))
  replace hfa := hfa.trans (hfa9.sub (by decide))
  rcases hR_13 with rfl | ⟨l_16, u_17, rfl⟩
  · refine jj_if_neF (tgt := 19) C dX3_readSubscription_14 (by decide) (by decide) ?_
    refine jj_iconst (v := 0) C dX3_readSubscription_17 (by decide) ?_
    exact jj_zret C rfl ⟨[], pl_8, rfl, rfl, hok_9, hfr, hfa, (Or.inl rfl)⟩ dX3_readSubscription_18 (jj_le rfl) (jj_le rfl)
  · refine jj_if_neT (tgt := 19) C dX3_readSubscription_14 (by decide) (by decide) ?_
    refine jj_aload_n C dX3_readSubscription_19 rfl ?_
    refine tt_get C hok_9 jk_4 0 (by decide) jw_70cd29f103 (t := (2, 10, 0)) hk0 (by decide) rfl rfl dX3_readSubscription_20 (fun v_18 hv_18 hf_19 => ?_)
    obtain ⟨a_20, rfl, ka_20⟩ := tt_vr hv_18
    refine tt_get C hok_9 jk_10 6 (by decide) jw_c96d139a1d (t := (0, (-2147483648), 2147483647)) ka_20 (by decide) rfl rfl dX3_readSubscription_23 (fun v_21 hv_21 hf_22 => ?_)
    obtain ⟨x_23, rfl, lx_23, ux_23⟩ := tt_vi hv_21
    refine jj_istore_n C dX3_readSubscription_26 (by decide) rfl ?_
    refine jj_aload_n C dX3_readSubscription_27 rfl ?_
    refine jj_iconst (v := 1) C dX3_readSubscription_28 (by decide) ?_
    refine jj_ldc (v := 9999999) C dX3_readSubscription_29 jw_fca8450242 ?_
    obtain ⟨qc, gs, hqc⟩ := tt_recv (cx := []) hok_9 hk0 (by decide) rfl
    refine tt_callV (rest := []) C (tc_X3_readNumber_6 hl D cA ak h0 hk0 hok_9) [] [] rfl rfl (by decide) (by decide) (by decide) qc hqc rfl rfl jw_012f0d7bd3 jw_3c1e5a080b jw_1f143bff8b jw_9d546d0b6f jw_ad178c7ce3 jn_X3_readNumber rfl (jj_le rfl) (jj_le rfl) (jj_le rfl) (jj_le rfl) (jj_le rfl) dX3_readSubscription_31 rfl (fun _ _ _ hX => hX.elim) (fun rx pl_24 r O_27 => ?_)
    obtain ⟨rfl, hok_25, hr_26, hfa9, hR_29⟩ := O_27
    replace hf_2 := hr_26.at hk0 (by decide) (by decide) hf_2
    replace hf_5 := hr_26.at ka_3 (by decide) (by decide) hf_5
    replace hf_19 := hr_26.at hk0 (by decide) (by decide) hf_19
    replace hfr := hfr.trans (hr_26.sub (by decide))
    replace hfa := hfa.trans (hfa9.sub (by decide))
    rcases hR_29 with rfl | rfl
    · refine jj_if_neF (tgt := 39) C dX3_readSubscription_34 (by decide) (by decide) ?_
      refine jj_iconst (v := 0) C dX3_readSubscription_37 (by decide) ?_
      exact jj_zret C rfl ⟨[], pl_24, rfl, rfl, hok_25, hfr, hfa, (Or.inl rfl)⟩ dX3_readSubscription_38 (jj_le rfl) (jj_le rfl)
    · refine jj_if_neT (tgt := 39) C dX3_readSubscription_34 (by decide) (by decide) ?_
      refine jj_aload_n C dX3_readSubscription_39 rfl ?_
      refine tt_getF C hok_25 jk_4 1 (by decide) jw_bdf52ddf93 (t := (2, 1, 0)) hk0 (by decide) rfl rfl hf_2 dX3_readSubscription_40 ?_
      refine jj_iload_n C dX3_readSubscription_43 rfl ?_
      refine jj_iconst (v := 0) C dX3_readSubscription_44 (by decide) ?_
      refine jj_aload_n C dX3_readSubscription_45 rfl ?_
      refine tt_getF C hok_25 jk_4 0 (by decide) jw_70cd29f103 (t := (2, 10, 0)) hk0 (by decide) rfl rfl hf_19 dX3_readSubscription_46 ?_
      refine tt_get C hok_25 jk_10 6 (by decide) jw_c96d139a1d (t := (0, (-2147483648), 2147483647)) ka_20 (by decide) rfl rfl dX3_readSubscription_49 (fun v_32 hv_32 hf_33 => ?_)
      obtain ⟨x_34, rfl, lx_34, ux_34⟩ := tt_vi hv_32
      obtain ⟨y_35, ey_35, vy_35⟩ := tt_i2l x_34
      refine jj_i2l (v := y_35) C dX3_readSubscription_52 ey_35 ?_
      obtain ⟨qc, gs, hqc⟩ := tt_recv (cx := []) hok_25 ka_3 (by decide) rfl
      refine tt_callV (rest := []) C (tc_X0_addRequest_2 hl D cA ak a_3 x_23 y_35 ka_3 hok_25) [] [] rfl rfl (by decide) (by decide) (by decide) qc hqc rfl rfl jw_1ad2c848e8 jw_4cd88e9d91 jw_a895762d25 jw_7d25d4fd32 jw_1fad268463 jn_X0_addRequest rfl (jj_le rfl) (jj_le rfl) (jj_le rfl) (jj_le rfl) (jj_le rfl) dX3_readSubscription_53 rfl (fun _ _ _ hX => hX.elim) (fun rx pl_36 r O_39 => ?_)
      obtain ⟨rfl, hok_37, hr_38, hfa9, hR_41⟩ := O_39
      replace hf_2 := hr_38.at hk0 (by decide) (by decide) hf_2
      replace hf_5 := hr_38.at ka_3 (by decide) (by decide) hf_5
      replace hf_19 := hr_38.at hk0 (by decide) (by decide) hf_19
      replace hf_33 := hr_38.at ka_20 (by decide) (by decide) hf_33
      replace hfr := hfr.trans (hr_38.sub (by decide))
      replace hfa := hfa.trans (hfa9.sub (by decide))
      rcases hR_41 with rfl | ⟨x_44, lx_44, ux_44, rfl⟩
      · refine jj_pop C dX3_readSubscription_56 rfl ?_
        refine jj_aload_n C dX3_readSubscription_57 rfl ?_
        obtain ⟨qc, gs, hqc⟩ := tt_recv (cx := []) hok_37 hk0 (by decide) rfl
        refine tt_callV (rest := []) C (tc_X3_readSemicolon_1 hl D cA ak h0 hk0 hok_37) [] [] rfl rfl (by decide) (by decide) (by decide) qc hqc rfl rfl jw_3b321ba845 jw_25d4a051a9 jw_00e33b0681 jw_9d546d0b6f jw_469c7bc0ab jn_X3_readSemicolon rfl (jj_le rfl) (jj_le rfl) (jj_le rfl) (jj_le rfl) (jj_le rfl) dX3_readSubscription_58 rfl (fun _ _ _ hX => hX.elim) (fun rx pl_45 r O_48 => ?_)
        obtain ⟨rfl, hok_46, hr_47, hfa9, hR_50⟩ := O_48
        replace hf_2 := hr_47.at hk0 (by decide) (by decide) hf_2
        replace hf_5 := hr_47.at ka_3 (by decide) (by decide) hf_5
        replace hf_19 := hr_47.at hk0 (by decide) (by decide) hf_19
        replace hfr := hfr.trans (hr_47.sub (by decide))
        replace hfa := hfa.trans (hfa9.sub (by decide))
        rcases hR_50 with rfl | rfl
        · exact jj_zret C rfl ⟨[], pl_45, rfl, rfl, hok_46, hfr, hfa, (Or.inl rfl)⟩ dX3_readSubscription_61 (jj_le rfl) (jj_le rfl)
        · exact jj_zret C rfl ⟨[], pl_45, rfl, rfl, hok_46, hfr, hfa, (Or.inr rfl)⟩ dX3_readSubscription_61 (jj_le rfl) (jj_le rfl)
      · refine jj_pop C dX3_readSubscription_56 rfl ?_
        refine jj_aload_n C dX3_readSubscription_57 rfl ?_
        obtain ⟨qc, gs, hqc⟩ := tt_recv (cx := []) hok_37 hk0 (by decide) rfl
        refine tt_callV (rest := []) C (tc_X3_readSemicolon_1 hl D cA ak h0 hk0 hok_37) [] [] rfl rfl (by decide) (by decide) (by decide) qc hqc rfl rfl jw_3b321ba845 jw_25d4a051a9 jw_00e33b0681 jw_9d546d0b6f jw_469c7bc0ab jn_X3_readSemicolon rfl (jj_le rfl) (jj_le rfl) (jj_le rfl) (jj_le rfl) (jj_le rfl) dX3_readSubscription_58 rfl (fun _ _ _ hX => hX.elim) (fun rx pl_53 r O_56 => ?_)
        obtain ⟨rfl, hok_54, hr_55, hfa9, hR_58⟩ := O_56
        replace hf_2 := hr_55.at hk0 (by decide) (by decide) hf_2
        replace hf_5 := hr_55.at ka_3 (by decide) (by decide) hf_5
        replace hf_19 := hr_55.at hk0 (by decide) (by decide) hf_19
        replace hfr := hfr.trans (hr_55.sub (by decide))
        replace hfa := hfa.trans (hfa9.sub (by decide))
        rcases hR_58 with rfl | rfl
        · exact jj_zret C rfl ⟨[], pl_53, rfl, rfl, hok_54, hfr, hfa, (Or.inl rfl)⟩ dX3_readSubscription_61 (jj_le rfl) (jj_le rfl)
        · exact jj_zret C rfl ⟨[], pl_53, rfl, rfl, hok_54, hfr, hfa, (Or.inr rfl)⟩ dX3_readSubscription_61 (jj_le rfl) (jj_le rfl)

set_option maxHeartbeats 4000000 in
set_option maxRecDepth 100000 in
theorem tc_X3_accept_6 {l : Launch} (hl : l.stackTraces = false) (D : va_G) (cA : Nat → ClassId) (ak : (Nat → Nat) × (Nat → Nat)) {Kd : Nat → Nat} (h0 : Nat) (hk0 : Kd h0 = 17) {pl0 : va_W} (hok : tt_ok tt_tk cA Kd pl0) : jj_M l D cA ak yX3_accept (.code yX3_accept cX3_accept 3 (some .boolean)) 0 0 0 0 ([] ++ pl0) [.ref h0, .int 0, .int 3] (tt_O (fun rx pl1 r => rx = [] ∧ tt_ok tt_tk cA Kd pl1 ∧ tt_fr Kd [(17, 2)] pl0 pl1 ∧ tt_fa Kd [] pl0 pl1 ∧ ((r = some (.int 0))))) (tt_OX (fun _ _ _ => False)) := by
  refine jj_start hl (by decide) jw_0001e2e84f (jj_le rfl) ?_
  intro p e s m args below meth c A hargs hA C hex hmn
  have hfr := tt_fr.refl (K := Kd) (WS := [(17, 2)]) pl0
  have hfa := tt_fa.refl (K := Kd) (WA := []) pl0
  refine jj_iload_n C dX3_accept_0 rfl ?_
  refine jj_if_neF (tgt := 9) C dX3_accept_1 (by decide) (by decide) ?_
  refine jj_aload_n C dX3_accept_4 rfl ?_
  refine jj_iload_n C dX3_accept_5 rfl ?_
  refine rl_put C hok jk_4 2 (by decide) jw_c9663815d9 (t := (0, (-2147483648), 2147483647)) hk0 (by decide) rfl rfl rfl (tt_ia (3 : Int32)) rfl rfl dX3_accept_6 (fun pl_1 hok_2 tr hn tl => ?_)
  have hf_3 := hn
  replace hfr := hfr.put hk0 tr (by decide)
  replace hfa := hfa.all tl
  refine jj_iload_n C dX3_accept_9 rfl ?_
  exact jj_zret C rfl ⟨[], pl_1, rfl, rfl, hok_2, hfr, hfa, rfl⟩ dX3_accept_10 (jj_le rfl) (jj_le rfl)

set_option maxHeartbeats 4000000 in
set_option maxRecDepth 100000 in
theorem tc_X3_readSubscriptions_1 {l : Launch} (hl : l.stackTraces = false) (D : va_G) (cA : Nat → ClassId) (ak : (Nat → Nat) × (Nat → Nat)) {Kd : Nat → Nat} (h0 : Nat) (hk0 : Kd h0 = 17) {pl0 : va_W} (hok : tt_ok tt_tk cA Kd pl0) : jj_M l D cA ak yX3_readSubscriptions (.code yX3_readSubscriptions cX3_readSubscriptions 2 (some .boolean)) 5 107 0 0 ([] ++ pl0) [.ref h0] (tt_O (fun rx pl1 r => rx = [] ∧ tt_ok tt_tk cA Kd pl1 ∧ tt_fr Kd [(1, 9), (4, 0), (4, 1), (4, 2), (4, 3), (4, 4), (10, 3), (10, 4), (10, 5), (10, 6), (17, 2)] pl0 pl1 ∧ tt_fa Kd [] pl0 pl1 ∧ ((r = some (.int 0)) ∨ (r = some (.int 1))))) (tt_OX (fun _ _ _ => False)) := by
  refine jj_start hl (by decide) jw_66b02ab29d (jj_le rfl) ?_
  intro p e s m args below meth c A hargs hA C hex hmn
  have hfr := tt_fr.refl (K := Kd) (WS := [(1, 9), (4, 0), (4, 1), (4, 2), (4, 3), (4, 4), (10, 3), (10, 4), (10, 5), (10, 6), (17, 2)]) pl0
  have hfa := tt_fa.refl (K := Kd) (WA := []) pl0
  refine jj_iconst (v := 0) C dX3_readSubscriptions_0 (by decide) ?_
  refine jj_istore_n C dX3_readSubscriptions_1 (by decide) rfl ?_
  have hL_1 : ∀ (N : Nat) (pl : va_W) (x_2 : Int32), True → tt_ok tt_tk cA Kd pl → tt_fr Kd [(1, 9), (4, 0), (4, 1), (4, 2), (4, 3), (4, 4), (10, 3), (10, 4), (10, 5), (10, 6), (17, 2)] pl0 pl → tt_fa Kd [] pl0 pl → (0 : Int) ≤ x_2.toInt → x_2.toInt ≤ 12 → (2147483648 - x_2.toInt ≤ (N : Int)) → jj_J p l e (jj_rm 5 107 0 0) s m args below meth c 2 A (vx_MQ below (jj_q D A (tt_O (fun rx pl1 r => rx = [] ∧ tt_ok tt_tk cA Kd pl1 ∧ tt_fr Kd [(1, 9), (4, 0), (4, 1), (4, 2), (4, 3), (4, 4), (10, 3), (10, 4), (10, 5), (10, 6), (17, 2)] pl0 pl1 ∧ tt_fa Kd [] pl0 pl1 ∧ ((r = some (.int 0)) ∨ (r = some (.int 1)))))) (jj_x D A (tt_OX (fun _ _ _ => False))) args s 0 0 A) (jj_X D A ([] ++ pl)) 0 0 2 [(1, .int x_2), (0, .ref h0)] [] := by
    intro NL_1
    induction NL_1 with
    | zero => intro pl x_2 _ hok hfr hfa lx_2 ux_2 hNL_1; exfalso; omega
    | succ NL_1 ihL_1 =>
      intro pl x_2 _ hok hfr hfa lx_2 ux_2 hNL_1
      replace ihL_1 := fun pl x_2 h1 => ihL_1 pl x_2 trivial h1
      refine jj_iload_n C dX3_readSubscriptions_2 rfl ?_
      refine jj_bipush (v := 12) C dX3_readSubscriptions_3 (by decide) ?_
      refine jj_icmp_gt (tgt := 78) C dX3_readSubscriptions_5 (by decide) (fun c_3 => ?_) (fun c_3 => ?_)
      · have z_c_3 := jc_lt (a := (12)) (b := (x_2).toInt) c_3 (by decide) rfl
        exfalso; omega
      · have z_c_3 := jc_nlt (a := (12)) (b := (x_2).toInt) c_3 (by decide) rfl
        refine jj_aload_n C dX3_readSubscriptions_8 rfl ?_
        refine tt_get C hok jk_4 0 (by decide) jw_70cd29f103 (t := (2, 10, 0)) hk0 (by decide) rfl rfl dX3_readSubscriptions_9 (fun v_4 hv_4 hf_5 => ?_)
        obtain ⟨a_6, rfl, ka_6⟩ := tt_vr hv_4
        obtain ⟨qc, gs, hqc⟩ := tt_recv (cx := []) hok ka_6 (by decide) rfl
        refine tt_callV (rest := []) C (tc_X9_advance_1 hl D cA ak a_6 ka_6 hok) [] [] rfl rfl (by decide) (by decide) (by decide) qc hqc rfl rfl jw_97c023d194 jw_37f6ee43e0 jw_46baf1fc7b jw_a9e7b602dc jw_0d4db63612 jn_X9_advance rfl (jj_le rfl) (jj_le rfl) (jj_le rfl) (jj_le rfl) (jj_le rfl) dX3_readSubscriptions_12 rfl (fun _ _ _ hX => hX.elim) (fun rx pl_7 r O_10 => ?_)
        obtain ⟨rfl, hok_8, hr_9, hfa9, hR_12⟩ := O_10
        replace hf_5 := hr_9.at hk0 (by decide) (by decide) hf_5
        replace hfr := hfr.trans (hr_9.sub (by decide))
        replace hfa := hfa.trans (hfa9.sub (by decide))
        obtain rfl := hR_12
        refine jj_aload_n C dX3_readSubscriptions_15 rfl ?_
        refine tt_getF C hok_8 jk_4 0 (by decide) jw_70cd29f103 (t := (2, 10, 0)) hk0 (by decide) rfl rfl hf_5 dX3_readSubscriptions_16 ?_
        refine tt_get C hok_8 jk_10 5 (by decide) jw_601d0e39ae (t := (0, (-2147483648), 2147483647)) ka_6 (by decide) rfl rfl dX3_readSubscriptions_19 (fun v_15 hv_15 hf_16 => ?_)
        obtain ⟨x_17, rfl, lx_17, ux_17⟩ := tt_vi hv_15
        refine jj_if_ne (tgt := 27) C dX3_readSubscriptions_22 (by decide) (fun c_18 => ?_) (fun c_18 => ?_)
        · have z_c_18 := jc_neq (a := (x_17).toInt) (b := (0)) c_18 rfl (by decide)
          refine jj_aload_n C dX3_readSubscriptions_27 rfl ?_
          refine jj_aload_n C dX3_readSubscriptions_28 rfl ?_
          refine tt_getF C hok_8 jk_4 0 (by decide) jw_70cd29f103 (t := (2, 10, 0)) hk0 (by decide) rfl rfl hf_5 dX3_readSubscriptions_29 ?_
          refine jj_ldcs (k := 4) (tx := "subscribe") C dX3_readSubscriptions_32 (by decide +kernel) ?_
          obtain ⟨qc, gs, hqc⟩ := tt_recv (cx := []) hok_8 ka_6 (by decide) rfl
          refine tt_callV (rest := [.ref h0]) C (tc_X9_isWord_5 hl D cA ak a_6 ka_6 hok_8) [] [] rfl rfl (by decide) (by decide) (by decide) qc hqc rfl rfl jw_b0fe72c6f4 jw_5e9522a00c jw_73cf9edcb7 jw_a9e7b602dc jw_ce1c1f12e9 jn_X9_isWord rfl (jj_le rfl) (jj_le rfl) (jj_le rfl) (jj_le rfl) (jj_le rfl) dX3_readSubscriptions_34 rfl (fun _ _ _ hX => hX.elim) (fun rx pl_19 r O_22 => ?_)
          obtain ⟨rfl, hok_20, hr_21, hfa9, hR_24⟩ := O_22
          replace hf_5 := hr_21.at hk0 (by decide) (by decide) hf_5
          replace hf_16 := hr_21.at ka_6 (by decide) (by decide) hf_16
          replace hfr := hfr.trans (hr_21.sub (by decide))
          replace hfa := hfa.trans (hfa9.sub (by decide))
          rcases hR_24 with rfl | rfl
          · refine jj_iconst (v := 1) C dX3_readSubscriptions_37 (by decide) ?_
            obtain ⟨qc, gs, hqc⟩ := tt_recv (cx := []) hok_20 hk0 (by decide) rfl
            refine tt_callV (rest := []) C (tc_X3_accept_1 hl D cA ak h0 hk0 hok_20) [] [] rfl rfl (by decide) (by decide) (by decide) qc hqc rfl rfl jw_713f4d2af1 jw_b3e457240a jw_58c48ce796 jw_9d546d0b6f jw_0001e2e84f jn_X3_accept rfl (jj_le rfl) (jj_le rfl) (jj_le rfl) (jj_le rfl) (jj_le rfl) dX3_readSubscriptions_38 rfl (fun _ _ _ hX => hX.elim) (fun rx pl_27 r O_30 => ?_)
            obtain ⟨rfl, hok_28, hr_29, hfa9, hR_32⟩ := O_30
            replace hf_5 := hr_29.at hk0 (by decide) (by decide) hf_5
            replace hf_16 := hr_29.at ka_6 (by decide) (by decide) hf_16
            replace hfr := hfr.trans (hr_29.sub (by decide))
            replace hfa := hfa.trans (hfa9.sub (by decide))
            obtain rfl := hR_32
            refine jj_if_eqT (tgt := 70) C dX3_readSubscriptions_41 (by decide) (by decide) ?_
            refine jj_iconst (v := 0) C dX3_readSubscriptions_70 (by decide) ?_
            exact jj_zret C rfl ⟨[], pl_27, rfl, rfl, hok_28, hfr, hfa, (Or.inl rfl)⟩ dX3_readSubscriptions_71 (jj_le rfl) (jj_le rfl)
          · refine jj_iconst (v := 1) C dX3_readSubscriptions_37 (by decide) ?_
            obtain ⟨qc, gs, hqc⟩ := tt_recv (cx := []) hok_20 hk0 (by decide) rfl
            refine tt_callV (rest := []) C (tc_X3_accept_2 hl D cA ak h0 hk0 hok_20) [] [] rfl rfl (by decide) (by decide) (by decide) qc hqc rfl rfl jw_713f4d2af1 jw_b3e457240a jw_58c48ce796 jw_9d546d0b6f jw_0001e2e84f jn_X3_accept rfl (jj_le rfl) (jj_le rfl) (jj_le rfl) (jj_le rfl) (jj_le rfl) dX3_readSubscriptions_38 rfl (fun _ _ _ hX => hX.elim) (fun rx pl_35 r O_38 => ?_)
            obtain ⟨rfl, hok_36, hr_37, hfa9, hR_40⟩ := O_38
            replace hf_5 := hr_37.at hk0 (by decide) (by decide) hf_5
            replace hf_16 := hr_37.at ka_6 (by decide) (by decide) hf_16
            replace hfr := hfr.trans (hr_37.sub (by decide))
            replace hfa := hfa.trans (hfa9.sub (by decide))
            obtain rfl := hR_40
            refine jj_if_eqF (tgt := 70) C dX3_readSubscriptions_41 (by decide) (by decide) ?_
            refine jj_aload_n C dX3_readSubscriptions_44 rfl ?_
            refine jj_iload_n C dX3_readSubscriptions_45 rfl ?_
            refine jj_bipush (v := 12) C dX3_readSubscriptions_46 (by decide) ?_
            refine jj_icmp_ge (tgt := 55) C dX3_readSubscriptions_48 (by decide) (fun c_43 => ?_) (fun c_43 => ?_)
            · have z_c_43 := jc_le (a := (12)) (b := (x_2).toInt) c_43 (by decide) rfl
              refine jj_iconst (v := 0) C dX3_readSubscriptions_55 (by decide) ?_
              refine jj_iconst (v := 3) C dX3_readSubscriptions_56 (by decide) ?_
              obtain ⟨qc, gs, hqc⟩ := tt_recv (cx := []) hok_36 hk0 (by decide) rfl
              refine tt_callV (rest := []) C (tc_X3_accept_6 hl D cA ak h0 hk0 hok_36) [] [] rfl rfl (by decide) (by decide) (by decide) qc hqc rfl rfl jw_713f4d2af1 jw_b3e457240a jw_58c48ce796 jw_9d546d0b6f jw_0001e2e84f jn_X3_accept rfl (jj_le rfl) (jj_le rfl) (jj_le rfl) (jj_le rfl) (jj_le rfl) dX3_readSubscriptions_57 rfl (fun _ _ _ hX => hX.elim) (fun rx pl_44 r O_47 => ?_)
              obtain ⟨rfl, hok_45, hr_46, hfa9, hR_49⟩ := O_47
              replace hf_5 := hr_46.at hk0 (by decide) (by decide) hf_5
              replace hf_16 := hr_46.at ka_6 (by decide) (by decide) hf_16
              replace hfr := hfr.trans (hr_46.sub (by decide))
              replace hfa := hfa.trans (hfa9.sub (by decide))
              obtain rfl := hR_49
              refine jj_if_eqT (tgt := 70) C dX3_readSubscriptions_60 (by decide) (by decide) ?_
              refine jj_iconst (v := 0) C dX3_readSubscriptions_70 (by decide) ?_
              exact jj_zret C rfl ⟨[], pl_44, rfl, rfl, hok_45, hfr, hfa, (Or.inl rfl)⟩ dX3_readSubscriptions_71 (jj_le rfl) (jj_le rfl)
            · have z_c_43 := jc_nle (a := (12)) (b := (x_2).toInt) c_43 (by decide) rfl
              refine jj_iconst (v := 1) C dX3_readSubscriptions_51 (by decide) ?_
              refine jj_goto (tgt := 56) C dX3_readSubscriptions_52 (by decide) ?_
              refine jj_iconst (v := 3) C dX3_readSubscriptions_56 (by decide) ?_
              obtain ⟨qc, gs, hqc⟩ := tt_recv (cx := []) hok_36 hk0 (by decide) rfl
              refine tt_callV (rest := []) C (tc_X3_accept_5 hl D cA ak h0 hk0 hok_36) [] [] rfl rfl (by decide) (by decide) (by decide) qc hqc rfl rfl jw_713f4d2af1 jw_b3e457240a jw_58c48ce796 jw_9d546d0b6f jw_0001e2e84f jn_X3_accept rfl (jj_le rfl) (jj_le rfl) (jj_le rfl) (jj_le rfl) (jj_le rfl) dX3_readSubscriptions_57 rfl (fun _ _ _ hX => hX.elim) (fun rx pl_52 r O_55 => ?_)
              obtain ⟨rfl, hok_53, hr_54, hfa9, hR_57⟩ := O_55
              replace hf_5 := hr_54.at hk0 (by decide) (by decide) hf_5
              replace hf_16 := hr_54.at ka_6 (by decide) (by decide) hf_16
              replace hfr := hfr.trans (hr_54.sub (by decide))
              replace hfa := hfa.trans (hfa9.sub (by decide))
              obtain rfl := hR_57
              refine jj_if_eqF (tgt := 70) C dX3_readSubscriptions_60 (by decide) (by decide) ?_
              refine jj_aload_n C dX3_readSubscriptions_63 rfl ?_
              obtain ⟨qc, gs, hqc⟩ := tt_recv (cx := []) hok_53 hk0 (by decide) rfl
              refine tt_callV (rest := []) C (tc_X3_readSubscription_1 hl D cA ak h0 hk0 hok_53) [] [] rfl rfl (by decide) (by decide) (by decide) qc hqc rfl rfl jw_b50e5c10ea jw_23105775d0 jw_16355fb5ab jw_9d546d0b6f jw_0cc88cc191 jn_X3_readSubscription rfl (jj_le rfl) (jj_le rfl) (jj_le rfl) (jj_le rfl) (jj_le rfl) dX3_readSubscriptions_64 rfl (fun _ _ _ hX => hX.elim) (fun rx pl_60 r O_63 => ?_)
              obtain ⟨rfl, hok_61, hr_62, hfa9, hR_65⟩ := O_63
              replace hf_5 := hr_62.at hk0 (by decide) (by decide) hf_5
              replace hfr := hfr.trans (hr_62.sub (by decide))
              replace hfa := hfa.trans (hfa9.sub (by decide))
              rcases hR_65 with rfl | rfl
              · refine jj_if_neF (tgt := 72) C dX3_readSubscriptions_67 (by decide) (by decide) ?_
                refine jj_iconst (v := 0) C dX3_readSubscriptions_70 (by decide) ?_
                exact jj_zret C rfl ⟨[], pl_60, rfl, rfl, hok_61, hfr, hfa, (Or.inl rfl)⟩ dX3_readSubscriptions_71 (jj_le rfl) (jj_le rfl)
              · refine jj_if_neT (tgt := 72) C dX3_readSubscriptions_67 (by decide) (by decide) ?_
                obtain ⟨x_68, ex_68, vx_68⟩ := tt_inc (x := x_2) (n := 1) (by omega) (by omega)
                refine jj_iinc (v := x_68) C dX3_readSubscriptions_72 rfl ex_68 (by decide) rfl ?_
                refine jj_goto (tgt := 2) C dX3_readSubscriptions_75 (by decide) ?_
                exact ihL_1 pl_60 x_68 hok_61 hfr hfa (by first | omega | decide | exact tt_lo _ | exact tt_hi _) (by first | omega | decide | exact tt_lo _ | exact tt_hi _) (by first | omega | decide | exact tt_lo _ | exact tt_hi _)
        · have z_c_18 := jc_eq (a := (x_17).toInt) (b := (0)) c_18 rfl (by decide)
          refine jj_iconst (v := 1) C dX3_readSubscriptions_25 (by decide) ?_
          exact jj_zret C rfl ⟨[], pl_7, rfl, rfl, hok_8, hfr, hfa, (Or.inr rfl)⟩ dX3_readSubscriptions_26 (jj_le rfl) (jj_le rfl)
  exact hL_1 _ pl0 (0 : Int32) trivial hok hfr hfa (by first | omega | decide | exact tt_lo _ | exact tt_hi _) (by first | omega | decide | exact tt_lo _ | exact tt_hi _) (Int.self_le_toNat _)

set_option maxHeartbeats 4000000 in
set_option maxRecDepth 100000 in
theorem tc_X3_readAll_1 {l : Launch} (hl : l.stackTraces = false) (D : va_G) (cA : Nat → ClassId) (ak : (Nat → Nat) × (Nat → Nat)) {Kd : Nat → Nat} (h0 : Nat) (hk0 : Kd h0 = 17) {pl0 : va_W} (hok : tt_ok tt_tk cA Kd pl0) : jj_M l D cA ak yX3_readAll (.code yX3_readAll cX3_readAll 1 (some .boolean)) 7 148 0 0 ([] ++ pl0) [.ref h0] (tt_O (fun rx pl1 r => rx = [] ∧ tt_ok tt_tk cA Kd pl1 ∧ tt_fr Kd [(1, 0), (1, 1), (1, 2), (1, 3), (1, 4), (1, 5), (1, 6), (1, 7), (1, 8), (1, 9), (4, 0), (4, 1), (4, 2), (4, 3), (4, 4), (10, 3), (10, 4), (10, 5), (10, 6), (17, 2)] pl0 pl1 ∧ tt_fa Kd [5] pl0 pl1 ∧ ((r = some (.int 0)) ∨ (r = some (.int 1))))) (tt_OX (fun _ _ _ => False)) := by
  refine jj_start hl (by decide) jw_48ef172467 (jj_le rfl) ?_
  intro p e s m args below meth c A hargs hA C hex hmn
  have hfr := tt_fr.refl (K := Kd) (WS := [(1, 0), (1, 1), (1, 2), (1, 3), (1, 4), (1, 5), (1, 6), (1, 7), (1, 8), (1, 9), (4, 0), (4, 1), (4, 2), (4, 3), (4, 4), (10, 3), (10, 4), (10, 5), (10, 6), (17, 2)]) pl0
  have hfa := tt_fa.refl (K := Kd) (WA := [5]) pl0
  refine jj_aload_n C dX3_readAll_0 rfl ?_
  refine tt_get C hok jk_4 1 (by decide) jw_bdf52ddf93 (t := (2, 1, 0)) hk0 (by decide) rfl rfl dX3_readAll_1 (fun v_1 hv_1 hf_2 => ?_)
  obtain ⟨a_3, rfl, ka_3⟩ := tt_vr hv_1
  obtain ⟨qc, gs, hqc⟩ := tt_recv (cx := []) hok ka_3 (by decide) rfl
  refine tt_callV (rest := []) C (tc_X0_empty_1 hl D cA ak a_3 ka_3 hok) [] [] rfl rfl (by decide) (by decide) (by decide) qc hqc rfl rfl jw_70774646a3 jw_1f85beb0ee jw_766e918565 jw_7d25d4fd32 jw_3b60f34034 jn_X0_empty rfl (jj_le rfl) (jj_le rfl) (jj_le rfl) (jj_le rfl) (jj_le rfl) dX3_readAll_4 rfl (fun _ _ _ hX => hX.elim) (fun rx pl_4 r O_7 => ?_)
  obtain ⟨rfl, hok_5, hr_6, hfa9, hR_9⟩ := O_7
  replace hf_2 := hr_6.at hk0 (by decide) (by decide) hf_2
  replace hfr := hfr.trans (hr_6.sub (by decide))
  replace hfa := hfa.trans (hfa9.sub (by decide))
  obtain rfl := hR_9
  refine jj_aload_n C dX3_readAll_7 rfl ?_
  obtain ⟨qc, gs, hqc⟩ := tt_recv (cx := []) hok_5 hk0 (by decide) rfl
  refine tt_callV (rest := []) C (tc_X3_readFund_1 hl D cA ak h0 hk0 hok_5) [] [] rfl rfl (by decide) (by decide) (by decide) qc hqc rfl rfl jw_326a050c34 jw_0ff5f51df1 jw_d507058dac jw_9d546d0b6f jw_1a1c8b71c4 jn_X3_readFund rfl (jj_le rfl) (jj_le rfl) (jj_le rfl) (jj_le rfl) (jj_le rfl) dX3_readAll_8 rfl (fun _ _ _ hX => hX.elim) (fun rx pl_12 r O_15 => ?_)
  obtain ⟨rfl, hok_13, hr_14, hfa9, hR_17⟩ := O_15
  replace hf_2 := hr_14.at hk0 (by decide) (by decide) hf_2
  replace hfr := hfr.trans (hr_14.sub (by decide))
  replace hfa := hfa.trans (hfa9.sub (by decide))
  rcases hR_17 with rfl | rfl
  · refine jj_if_eqT (tgt := 32) C dX3_readAll_11 (by decide) (by decide) ?_
    refine jj_iconst (v := 0) C dX3_readAll_32 (by decide) ?_
    exact jj_zret C rfl ⟨[], pl_12, rfl, rfl, hok_13, hfr, hfa, (Or.inl rfl)⟩ dX3_readAll_33 (jj_le rfl) (jj_le rfl)
  · refine jj_if_eqF (tgt := 32) C dX3_readAll_11 (by decide) (by decide) ?_
    refine jj_aload_n C dX3_readAll_14 rfl ?_
    obtain ⟨qc, gs, hqc⟩ := tt_recv (cx := []) hok_13 hk0 (by decide) rfl
    refine tt_callV (rest := []) C (tc_X3_readInvestors_1 hl D cA ak h0 hk0 hok_13) [] [] rfl rfl (by decide) (by decide) (by decide) qc hqc rfl rfl jw_297b72aa01 jw_aa69f86581 jw_7bc51c19f8 jw_9d546d0b6f jw_a68ab282d7 jn_X3_readInvestors rfl (jj_le rfl) (jj_le rfl) (jj_le rfl) (jj_le rfl) (jj_le rfl) dX3_readAll_15 rfl (fun _ _ _ hX => hX.elim) (fun rx pl_20 r O_23 => ?_)
    obtain ⟨rfl, hok_21, hr_22, hfa9, hR_25⟩ := O_23
    replace hf_2 := hr_22.at hk0 (by decide) (by decide) hf_2
    replace hfr := hfr.trans (hr_22.sub (by decide))
    replace hfa := hfa.trans (hfa9.sub (by decide))
    rcases hR_25 with rfl | rfl
    · refine jj_if_eqT (tgt := 32) C dX3_readAll_18 (by decide) (by decide) ?_
      refine jj_iconst (v := 0) C dX3_readAll_32 (by decide) ?_
      exact jj_zret C rfl ⟨[], pl_20, rfl, rfl, hok_21, hfr, hfa, (Or.inl rfl)⟩ dX3_readAll_33 (jj_le rfl) (jj_le rfl)
    · refine jj_if_eqF (tgt := 32) C dX3_readAll_18 (by decide) (by decide) ?_
      refine jj_aload_n C dX3_readAll_21 rfl ?_
      obtain ⟨qc, gs, hqc⟩ := tt_recv (cx := []) hok_21 hk0 (by decide) rfl
      refine tt_callV (rest := []) C (tc_X3_readSubscriptions_1 hl D cA ak h0 hk0 hok_21) [] [] rfl rfl (by decide) (by decide) (by decide) qc hqc rfl rfl jw_0d491b8015 jw_da6629b5a3 jw_c7b5efd6ac jw_9d546d0b6f jw_66b02ab29d jn_X3_readSubscriptions rfl (jj_le rfl) (jj_le rfl) (jj_le rfl) (jj_le rfl) (jj_le rfl) dX3_readAll_22 rfl (fun _ _ _ hX => hX.elim) (fun rx pl_28 r O_31 => ?_)
      obtain ⟨rfl, hok_29, hr_30, hfa9, hR_33⟩ := O_31
      replace hf_2 := hr_30.at hk0 (by decide) (by decide) hf_2
      replace hfr := hfr.trans (hr_30.sub (by decide))
      replace hfa := hfa.trans (hfa9.sub (by decide))
      rcases hR_33 with rfl | rfl
      · refine jj_if_eqT (tgt := 32) C dX3_readAll_25 (by decide) (by decide) ?_
        refine jj_iconst (v := 0) C dX3_readAll_32 (by decide) ?_
        exact jj_zret C rfl ⟨[], pl_28, rfl, rfl, hok_29, hfr, hfa, (Or.inl rfl)⟩ dX3_readAll_33 (jj_le rfl) (jj_le rfl)
      · refine jj_if_eqF (tgt := 32) C dX3_readAll_25 (by decide) (by decide) ?_
        refine jj_iconst (v := 1) C dX3_readAll_28 (by decide) ?_
        refine jj_goto (tgt := 33) C dX3_readAll_29 (by decide) ?_
        exact jj_zret C rfl ⟨[], pl_28, rfl, rfl, hok_29, hfr, hfa, (Or.inr rfl)⟩ dX3_readAll_33 (jj_le rfl) (jj_le rfl)

set_option maxHeartbeats 4000000 in
set_option maxRecDepth 100000 in
theorem tc_X1_holdDealing_1 {l : Launch} (hl : l.stackTraces = false) (D : va_G) (cA : Nat → ClassId) (ak : (Nat → Nat) × (Nat → Nat)) {Kd : Nat → Nat} (h0 : Nat) (h1 : Nat) (hk0 : Kd h0 = 9) (hk1 : Kd h1 = 1) {pl0 : va_W} (hok : tt_ok tt_tk cA Kd pl0) : jj_M l D cA ak yX1_holdDealing (.code yX1_holdDealing cX1_holdDealing 2 (some .int)) 4 114 0 0 ([] ++ pl0) [.ref h0, .ref h1] (tt_O (fun rx pl1 r => rx = [] ∧ tt_ok tt_tk cA Kd pl1 ∧ tt_fr Kd [(1, 6), (1, 7), (1, 8), (1, 9), (2, 0), (2, 1), (2, 2), (2, 3), (2, 4), (3, 0), (3, 1), (3, 2), (3, 3), (3, 4), (3, 5), (4, 3), (4, 4), (9, 1), (9, 2), (9, 3), (9, 4), (9, 5)] pl0 pl1 ∧ tt_fa Kd [5] pl0 pl1 ∧ ((∃ v : Int32, (-12 : Int) ≤ v.toInt ∧ v.toInt ≤ 12 ∧ r = some (.int v))))) (tt_OX (fun _ _ _ => False)) := by
  refine jj_start hl (by decide) jw_cb08e29005 (jj_le rfl) ?_
  intro p e s m args below meth c A hargs hA C hex hmn
  have hfr := tt_fr.refl (K := Kd) (WS := [(1, 6), (1, 7), (1, 8), (1, 9), (2, 0), (2, 1), (2, 2), (2, 3), (2, 4), (3, 0), (3, 1), (3, 2), (3, 3), (3, 4), (3, 5), (4, 3), (4, 4), (9, 1), (9, 2), (9, 3), (9, 4), (9, 5)]) pl0
  have hfa := tt_fa.refl (K := Kd) (WA := [5]) pl0
  refine jj_aload_n C dX1_holdDealing_0 rfl ?_
  refine jj_aload_n C dX1_holdDealing_1 rfl ?_
  refine jj_aload_n C dX1_holdDealing_2 rfl ?_
  refine jj_aload_n C dX1_holdDealing_3 rfl ?_
  obtain ⟨qc, gs, hqc⟩ := tt_recv (cx := []) hok hk0 (by decide) rfl
  refine tt_callV (rest := [.ref h1, .ref h0]) C (tc_X1_baseOfRedemptions_1 hl D cA ak h0 h1 hk0 hk1 hok) [] [] rfl rfl (by decide) (by decide) (by decide) qc hqc rfl rfl jw_ccf4bd9d58 jw_36bb45001b jw_b21f9198d3 jw_944cf9c3ab jw_77ee4174d9 jn_X1_baseOfRedemptions rfl (jj_le rfl) (jj_le rfl) (jj_le rfl) (jj_le rfl) (jj_le rfl) dX1_holdDealing_4 rfl (fun _ _ _ hX => hX.elim) (fun rx pl_1 r O_4 => ?_)
  obtain ⟨rfl, hok_2, hr_3, hfa9, hR_6⟩ := O_4
  replace hfr := hfr.trans (hr_3.sub (by decide))
  replace hfa := hfa.trans (hfa9.sub (by decide))
  obtain ⟨y_9, rfl⟩ := hR_6
  obtain ⟨qc, gs, hqc⟩ := tt_recv (cx := []) hok_2 hk0 (by decide) rfl
  refine tt_callV (rest := []) C (tc_X1_redeemWaiting_1 hl D cA ak h0 h1 y_9 hk0 hk1 hok_2) [] [] rfl rfl (by decide) (by decide) (by decide) qc hqc rfl rfl jw_a916ee95e5 jw_1a80919bc4 jw_88c712b448 jw_944cf9c3ab jw_4b6b3c5714 jn_X1_redeemWaiting rfl (jj_le rfl) (jj_le rfl) (jj_le rfl) (jj_le rfl) (jj_le rfl) dX1_holdDealing_7 rfl (fun _ _ _ hX => hX.elim) (fun rx pl_10 r O_13 => ?_)
  obtain ⟨rfl, hok_11, hr_12, hfa9, hR_15⟩ := O_13
  replace hfr := hfr.trans (hr_12.sub (by decide))
  replace hfa := hfa.trans (hfa9.sub (by decide))
  obtain rfl := hR_15
  refine jj_aload_n C dX1_holdDealing_10 rfl ?_
  refine jj_aload_n C dX1_holdDealing_11 rfl ?_
  obtain ⟨qc, gs, hqc⟩ := tt_recv (cx := []) hok_11 hk0 (by decide) rfl
  refine tt_callV (rest := []) C (tc_X1_subscribeWaiting_1 hl D cA ak h0 h1 hk0 hk1 hok_11) [] [] rfl rfl (by decide) (by decide) (by decide) qc hqc rfl rfl jw_e3ece2457f jw_fbad23a485 jw_3bcef26e8b jw_944cf9c3ab jw_869633d7b1 jn_X1_subscribeWaiting rfl (jj_le rfl) (jj_le rfl) (jj_le rfl) (jj_le rfl) (jj_le rfl) dX1_holdDealing_12 rfl (fun _ _ _ hX => hX.elim) (fun rx pl_18 r O_21 => ?_)
  obtain ⟨rfl, hok_19, hr_20, hfa9, hR_23⟩ := O_21
  replace hfr := hfr.trans (hr_20.sub (by decide))
  replace hfa := hfa.trans (hfa9.sub (by decide))
  obtain rfl := hR_23
  refine jj_aload_n C dX1_holdDealing_15 rfl ?_
  obtain ⟨qc, gs, hqc⟩ := tt_recv (cx := []) hok_19 hk1 (by decide) rfl
  refine tt_callV (rest := []) C (tc_X0_dropDoneRequests_1 hl D cA ak h1 hk1 hok_19) [] [] rfl rfl (by decide) (by decide) (by decide) qc hqc rfl rfl jw_aaa4b6a0d2 jw_8c2aa441ca jw_a9b330a1c3 jw_7d25d4fd32 jw_77bdbcf71c jn_X0_dropDoneRequests rfl (jj_le rfl) (jj_le rfl) (jj_le rfl) (jj_le rfl) (jj_le rfl) dX1_holdDealing_16 rfl (fun _ _ _ hX => hX.elim) (fun rx pl_26 r O_29 => ?_)
  obtain ⟨rfl, hok_27, hr_28, hfa9, hR_31⟩ := O_29
  replace hfr := hfr.trans (hr_28.sub (by decide))
  replace hfa := hfa.trans (hfa9.sub (by decide))
  obtain ⟨x_34, lx_34, ux_34, rfl⟩ := hR_31
  exact jj_iret C ⟨[], pl_26, rfl, rfl, hok_27, hfr, hfa, ⟨x_34, (by first | omega | exact tt_lo _ | exact tt_hi _), (by first | omega | exact tt_lo _ | exact tt_hi _), rfl⟩⟩ dX1_holdDealing_19 (jj_le rfl) (jj_le rfl)

set_option maxHeartbeats 4000000 in
set_option maxRecDepth 100000 in
theorem tc_X10_errorCode_1 {l : Launch} (hl : l.stackTraces = false) (D : va_G) (cA : Nat → ClassId) (ak : (Nat → Nat) × (Nat → Nat)) {Kd : Nat → Nat} (h0 : Nat) (hk0 : Kd h0 = 15) {pl0 : va_W} (hok : tt_ok tt_tk cA Kd pl0) : jj_M l D cA ak yX10_errorCode (.code yX10_errorCode cX10_errorCode 1 (some .int)) 0 0 0 0 ([] ++ pl0) [.ref h0] (tt_O (fun rx pl1 r => rx = [] ∧ tt_ok tt_tk cA Kd pl1 ∧ tt_fr Kd [] pl0 pl1 ∧ tt_fa Kd [] pl0 pl1 ∧ ((∃ v : Int32, (-2147483648 : Int) ≤ v.toInt ∧ v.toInt ≤ 2147483647 ∧ r = some (.int v))))) (tt_OX (fun _ _ _ => False)) := by
  refine jj_start hl (by decide) jw_84c9e32d1d (jj_le rfl) ?_
  intro p e s m args below meth c A hargs hA C hex hmn
  have hfr := tt_fr.refl (K := Kd) (WS := []) pl0
  have hfa := tt_fa.refl (K := Kd) (WA := []) pl0
  refine jj_aload_n C dX10_errorCode_0 rfl ?_
  refine tt_get C hok jk_11 1 (by decide) jw_1eeb46a090 (t := (0, (-2147483648), 2147483647)) hk0 (by decide) rfl rfl dX10_errorCode_1 (fun v_1 hv_1 hf_2 => ?_)
  obtain ⟨x_3, rfl, lx_3, ux_3⟩ := tt_vi hv_1
  exact jj_iret C ⟨[], pl0, rfl, rfl, hok, hfr, hfa, ⟨x_3, (by first | omega | exact tt_lo _ | exact tt_hi _), (by first | omega | exact tt_lo _ | exact tt_hi _), rfl⟩⟩ dX10_errorCode_4 (jj_le rfl) (jj_le rfl)

set_option maxHeartbeats 4000000 in
set_option maxRecDepth 100000 in
theorem tc_X10_errorPosition_1 {l : Launch} (hl : l.stackTraces = false) (D : va_G) (cA : Nat → ClassId) (ak : (Nat → Nat) × (Nat → Nat)) {Kd : Nat → Nat} (h0 : Nat) (hk0 : Kd h0 = 15) {pl0 : va_W} (hok : tt_ok tt_tk cA Kd pl0) : jj_M l D cA ak yX10_errorPosition (.code yX10_errorPosition cX10_errorPosition 1 (some .int)) 0 0 0 0 ([] ++ pl0) [.ref h0] (tt_O (fun rx pl1 r => rx = [] ∧ tt_ok tt_tk cA Kd pl1 ∧ tt_fr Kd [] pl0 pl1 ∧ tt_fa Kd [] pl0 pl1 ∧ ((∃ v : Int32, (-2147483648 : Int) ≤ v.toInt ∧ v.toInt ≤ 2147483647 ∧ r = some (.int v))))) (tt_OX (fun _ _ _ => False)) := by
  refine jj_start hl (by decide) jw_f6366bab80 (jj_le rfl) ?_
  intro p e s m args below meth c A hargs hA C hex hmn
  have hfr := tt_fr.refl (K := Kd) (WS := []) pl0
  have hfa := tt_fa.refl (K := Kd) (WA := []) pl0
  refine jj_aload_n C dX10_errorPosition_0 rfl ?_
  refine tt_get C hok jk_11 2 (by decide) jw_e0c9868424 (t := (0, (-2147483648), 2147483647)) hk0 (by decide) rfl rfl dX10_errorPosition_1 (fun v_1 hv_1 hf_2 => ?_)
  obtain ⟨x_3, rfl, lx_3, ux_3⟩ := tt_vi hv_1
  exact jj_iret C ⟨[], pl0, rfl, rfl, hok, hfr, hfa, ⟨x_3, (by first | omega | exact tt_lo _ | exact tt_hi _), (by first | omega | exact tt_lo _ | exact tt_hi _), rfl⟩⟩ dX10_errorPosition_4 (jj_le rfl) (jj_le rfl)

set_option maxHeartbeats 4000000 in
set_option maxRecDepth 100000 in
theorem tc_X2_giveBack_1 {l : Launch} (hl : l.stackTraces = false) (D : va_G) (cA : Nat → ClassId) (ak : (Nat → Nat) × (Nat → Nat)) {Kd : Nat → Nat} (h0 : Nat) (h1 : Nat) (h2 : Nat) (hk0 : Kd h0 = 1) (hk1 : Kd h1 = 2) (hk2 : Kd h2 = 3) {pl0 : va_W} (hok : tt_ok tt_tk cA Kd pl0) : jj_M l D cA ak yX2_giveBack (.code yX2_giveBack cX2_giveBack 13 none) 1 23 0 0 ([] ++ pl0) [.ref h0, .ref h1, .ref h2, .long 1000000, .long 1000000] (tt_O (fun rx pl1 r => rx = [] ∧ tt_ok tt_tk cA Kd pl1 ∧ tt_fr Kd [(2, 2), (2, 3), (3, 3)] pl0 pl1 ∧ tt_fa Kd [5] pl0 pl1 ∧ ((r = none)))) (tt_OX (fun _ _ _ => False)) := by
  refine jj_start hl (by decide) jw_0fb41ea103 (jj_le rfl) ?_
  intro p e s m args below meth c A hargs hA C hex hmn
  have hfr := tt_fr.refl (K := Kd) (WS := [(2, 2), (2, 3), (3, 3)]) pl0
  have hfa := tt_fa.refl (K := Kd) (WA := [5]) pl0
  refine jj_aload_n C dX2_giveBack_0 rfl ?_
  refine tt_get C hok jk_5 4 (by decide) jw_8ebffe18a9 (t := (1, (-9223372036854775808), 9223372036854775807)) hk2 (by decide) rfl rfl dX2_giveBack_1 (fun v_1 hv_1 hf_2 => ?_)
  obtain ⟨y_3, rfl, -, -⟩ := tt_vj hv_1
  refine jj_aload_n C dX2_giveBack_4 rfl ?_
  refine tt_get C hok jk_9 4 (by decide) jw_bb7ee2f491 (t := (1, (-9223372036854775808), 9223372036854775807)) hk1 (by decide) rfl rfl dX2_giveBack_5 (fun v_4 hv_4 hf_5 => ?_)
  obtain ⟨y_6, rfl, -, -⟩ := tt_vj hv_4
  obtain ⟨y_7, ey_7⟩ : ∃ z : Int64, y_3 - y_6 = z := ⟨_, rfl⟩
  refine jj_lsub (v := y_7) C dX2_giveBack_8 ey_7 ?_
  refine jj_lstore C dX2_giveBack_9 (by decide) rfl ?_
  refine jj_lload C dX2_giveBack_11 rfl ?_
  refine jj_lconst (v := 0) C dX2_giveBack_13 (by decide) ?_
  refine jj_lcmp_le (tgt := 34) C dX2_giveBack_14 dX2_giveBack_15 (by decide) (fun c_8 => ?_) (fun c_8 => ?_)
  · exact jj_vret C ⟨[], pl0, rfl, rfl, hok, hfr, hfa, rfl⟩ dX2_giveBack_34 (jj_le rfl) (jj_le rfl)
  · refine jj_lload_n C dX2_giveBack_18 rfl ?_
    refine jj_aload_n C dX2_giveBack_19 rfl ?_
    refine tt_getF C hok jk_9 4 (by decide) jw_bb7ee2f491 (t := (1, (-9223372036854775808), 9223372036854775807)) hk1 (by decide) rfl rfl hf_5 dX2_giveBack_20 ?_
    refine jj_lcmp_le (tgt := 34) C dX2_giveBack_23 dX2_giveBack_24 (by decide) (fun c_9 => ?_) (fun c_9 => ?_)
    · exact jj_vret C ⟨[], pl0, rfl, rfl, hok, hfr, hfa, rfl⟩ dX2_giveBack_34 (jj_le rfl) (jj_le rfl)
    · refine jj_lload C dX2_giveBack_27 rfl ?_
      refine jj_lconst (v := 0) C dX2_giveBack_29 (by decide) ?_
      refine jj_lcmp_gtT (tgt := 35) C dX2_giveBack_30 dX2_giveBack_31 (by decide) (by decide) ?_
      refine jj_aload_n C dX2_giveBack_35 rfl ?_
      refine tt_get C hok jk_5 5 (by decide) jw_5d4c99f47d (t := (1, (-9223372036854775808), 9223372036854775807)) hk2 (by decide) rfl rfl dX2_giveBack_36 (fun v_10 hv_10 hf_11 => ?_)
      obtain ⟨y_12, rfl, -, -⟩ := tt_vj hv_10
      refine jj_lload_n C dX2_giveBack_39 rfl ?_
      refine jj_aload_n C dX2_giveBack_40 rfl ?_
      refine tt_getF C hok jk_9 4 (by decide) jw_bb7ee2f491 (t := (1, (-9223372036854775808), 9223372036854775807)) hk1 (by decide) rfl rfl hf_5 dX2_giveBack_41 ?_
      obtain ⟨y_13, ey_13⟩ : ∃ z : Int64, (1000000 : Int64) - y_6 = z := ⟨_, rfl⟩
      refine jj_lsub (v := y_13) C dX2_giveBack_44 ey_13 ?_
      refine jj_lload C dX2_giveBack_45 rfl ?_
      refine tt_call0S (rest := [.long y_12]) C (ct_J9_min_f86c9_1 hl D cA ak y_13 y_7) jw_6f3bb354f8 jw_a0cddbe894 jw_a731c8553d jw_e0e7ffaaeb jn_J9_min_f86c9 rfl (jj_le rfl) (jj_le rfl) (jj_le rfl) (jj_le rfl) (jj_le rfl) dX2_giveBack_47 rfl (fun w1 r O_14 => ?_)
      rcases O_14 with ⟨c_15, -, rfl⟩ | ⟨c_16, -, rfl⟩
      · obtain ⟨y_17, ey_17⟩ : ∃ z : Int64, y_12 * y_7 = z := ⟨_, rfl⟩
        refine jj_lmul (v := y_17) C dX2_giveBack_50 ey_17 ?_
        refine jj_lload C dX2_giveBack_51 rfl ?_
        obtain ⟨y_18, ey_18⟩ : ∃ z : Int64, y_17 / y_7 = z := ⟨_, rfl⟩
        refine jj_ldiv (v := y_18) C dX2_giveBack_53 (jt_nzpL (by first | exact Int64.not_le.mp c_8 | exact Int32.not_le.mp c_8)) ey_18 ?_
        refine jj_lstore C dX2_giveBack_54 (by decide) rfl ?_
        refine jj_lload C dX2_giveBack_56 rfl ?_
        refine jj_ldc2 (v := 100000) C dX2_giveBack_58 jw_acb9b226b5 ?_
        obtain ⟨y_19, ey_19⟩ : ∃ z : Int64, y_18 * (100000 : Int64) = z := ⟨_, rfl⟩
        refine jj_lmul (v := y_19) C dX2_giveBack_61 ey_19 ?_
        refine jj_lload C dX2_giveBack_62 rfl ?_
        obtain ⟨y_20, ey_20⟩ : ∃ z : Int64, y_19 / (1000000 : Int64) = z := ⟨_, rfl⟩
        refine jj_ldiv (v := y_20) C dX2_giveBack_64 (by decide) ey_20 ?_
        refine jj_lstore C dX2_giveBack_65 (by decide) rfl ?_
        refine jj_aload_n C dX2_giveBack_67 rfl ?_
        refine jj_dup C dX2_giveBack_68 rfl ?_
        refine tt_get C hok jk_9 2 (by decide) jw_5719898240 (t := (1, (-9223372036854775808), 9223372036854775807)) hk1 (by decide) rfl rfl dX2_giveBack_69 (fun v_21 hv_21 hf_22 => ?_)
        obtain ⟨y_23, rfl, -, -⟩ := tt_vj hv_21
        refine jj_lload C dX2_giveBack_72 rfl ?_
        obtain ⟨y_24, ey_24⟩ : ∃ z : Int64, y_23 + y_18 = z := ⟨_, rfl⟩
        refine jj_ladd (v := y_24) C dX2_giveBack_74 ey_24 ?_
        refine rl_put C hok jk_9 2 (by decide) jw_5719898240 (t := (1, (-9223372036854775808), 9223372036854775807)) hk1 (by decide) rfl rfl rfl (tt_ja y_24) rfl rfl dX2_giveBack_75 (fun pl_25 hok_26 tr hn tl => ?_)
        replace hf_2 := tr _ _ _ (Or.inl (tt_ne hk2 hk1 (by decide))) hf_2
        replace hf_5 := tr _ _ _ (Or.inr (by decide)) hf_5
        replace hf_11 := tr _ _ _ (Or.inl (tt_ne hk2 hk1 (by decide))) hf_11
        have hf_27 := hn
        replace hfr := hfr.put hk1 tr (by decide)
        replace hfa := hfa.all tl
        refine jj_aload_n C dX2_giveBack_78 rfl ?_
        refine tt_get C hok_26 jk_2 10 (by decide) jw_d4020bdca8 (t := (2, 5, 0)) hk0 (by decide) rfl rfl dX2_giveBack_79 (fun v_28 hv_28 hf_29 => ?_)
        obtain ⟨a_30, rfl, ka_30⟩ := tt_vr hv_28
        refine jj_iconst (v := 0) C dX2_giveBack_82 (by decide) ?_
        refine jj_dup2 C dX2_giveBack_83 rfl rfl ?_
        refine tt_lald C hok_26 (t := (1, (-9223372036854775808), 9223372036854775807)) ka_30 (by decide) rfl (vp_in_iff.mpr (by decide)) dX2_giveBack_84 (fun v_31 hv_31 => ?_)
        refine jj_lload C dX2_giveBack_85 rfl ?_
        obtain ⟨y_32, ey_32⟩ : ∃ z : Int64, v_31 - y_18 = z := ⟨_, rfl⟩
        refine jj_lsub (v := y_32) C dX2_giveBack_87 ey_32 ?_
        refine tl_last C hok_26 (t := (1, (-9223372036854775808), 9223372036854775807)) ka_30 (by decide) rfl (vp_in_iff.mpr (by decide)) (tt_ja _) dX2_giveBack_88 (fun pl_33 hok_34 tr tl => ?_)
        replace hf_2 := tr _ _ _ hf_2
        replace hf_5 := tr _ _ _ hf_5
        replace hf_11 := tr _ _ _ hf_11
        replace hf_27 := tr _ _ _ hf_27
        replace hf_29 := tr _ _ _ hf_29
        replace hfr := hfr.arr tr
        replace hfa := hfa.wr ka_30 tl (by decide)
        refine jj_aload_n C dX2_giveBack_89 rfl ?_
        refine jj_dup C dX2_giveBack_90 rfl ?_
        refine tt_get C hok_34 jk_5 3 (by decide) jw_a038b4bca1 (t := (1, (-9223372036854775808), 9223372036854775807)) hk2 (by decide) rfl rfl dX2_giveBack_91 (fun v_35 hv_35 hf_36 => ?_)
        obtain ⟨y_37, rfl, -, -⟩ := tt_vj hv_35
        refine jj_lload C dX2_giveBack_94 rfl ?_
        obtain ⟨y_38, ey_38⟩ : ∃ z : Int64, y_37 + y_20 = z := ⟨_, rfl⟩
        refine jj_ladd (v := y_38) C dX2_giveBack_96 ey_38 ?_
        refine rl_put C hok_34 jk_5 3 (by decide) jw_a038b4bca1 (t := (1, (-9223372036854775808), 9223372036854775807)) hk2 (by decide) rfl rfl rfl (tt_ja y_38) rfl rfl dX2_giveBack_97 (fun pl_39 hok_40 tr hn tl => ?_)
        replace hf_2 := tr _ _ _ (Or.inr (by decide)) hf_2
        replace hf_5 := tr _ _ _ (Or.inl (tt_ne hk1 hk2 (by decide))) hf_5
        replace hf_11 := tr _ _ _ (Or.inr (by decide)) hf_11
        replace hf_27 := tr _ _ _ (Or.inl (tt_ne hk1 hk2 (by decide))) hf_27
        replace hf_29 := tr _ _ _ (Or.inl (tt_ne hk0 hk2 (by decide))) hf_29
        have hf_41 := hn
        replace hfr := hfr.put hk2 tr (by decide)
        replace hfa := hfa.all tl
        refine jj_aload_n C dX2_giveBack_100 rfl ?_
        refine jj_dup C dX2_giveBack_101 rfl ?_
        refine tt_get C hok_40 jk_9 3 (by decide) jw_abb7017335 (t := (1, (-9223372036854775808), 9223372036854775807)) hk1 (by decide) rfl rfl dX2_giveBack_102 (fun v_42 hv_42 hf_43 => ?_)
        obtain ⟨y_44, rfl, -, -⟩ := tt_vj hv_42
        refine jj_lload C dX2_giveBack_105 rfl ?_
        obtain ⟨y_45, ey_45⟩ : ∃ z : Int64, y_44 + y_20 = z := ⟨_, rfl⟩
        refine jj_ladd (v := y_45) C dX2_giveBack_107 ey_45 ?_
        refine rl_put C hok_40 jk_9 3 (by decide) jw_abb7017335 (t := (1, (-9223372036854775808), 9223372036854775807)) hk1 (by decide) rfl rfl rfl (tt_ja y_45) rfl rfl dX2_giveBack_108 (fun pl_46 hok_47 tr hn tl => ?_)
        replace hf_2 := tr _ _ _ (Or.inl (tt_ne hk2 hk1 (by decide))) hf_2
        replace hf_5 := tr _ _ _ (Or.inr (by decide)) hf_5
        replace hf_11 := tr _ _ _ (Or.inl (tt_ne hk2 hk1 (by decide))) hf_11
        replace hf_27 := tr _ _ _ (Or.inr (by decide)) hf_27
        replace hf_29 := tr _ _ _ (Or.inl (tt_ne hk0 hk1 (by decide))) hf_29
        replace hf_41 := tr _ _ _ (Or.inl (tt_ne hk2 hk1 (by decide))) hf_41
        have hf_48 := hn
        replace hfr := hfr.put hk1 tr (by decide)
        replace hfa := hfa.all tl
        exact jj_vret C ⟨[], pl_46, rfl, rfl, hok_47, hfr, hfa, rfl⟩ dX2_giveBack_111 (jj_le rfl) (jj_le rfl)
      · obtain ⟨y_49, ey_49⟩ : ∃ z : Int64, y_12 * y_13 = z := ⟨_, rfl⟩
        refine jj_lmul (v := y_49) C dX2_giveBack_50 ey_49 ?_
        refine jj_lload C dX2_giveBack_51 rfl ?_
        obtain ⟨y_50, ey_50⟩ : ∃ z : Int64, y_49 / y_7 = z := ⟨_, rfl⟩
        refine jj_ldiv (v := y_50) C dX2_giveBack_53 (jt_nzpL (by first | exact Int64.not_le.mp c_8 | exact Int32.not_le.mp c_8)) ey_50 ?_
        refine jj_lstore C dX2_giveBack_54 (by decide) rfl ?_
        refine jj_lload C dX2_giveBack_56 rfl ?_
        refine jj_ldc2 (v := 100000) C dX2_giveBack_58 jw_acb9b226b5 ?_
        obtain ⟨y_51, ey_51⟩ : ∃ z : Int64, y_50 * (100000 : Int64) = z := ⟨_, rfl⟩
        refine jj_lmul (v := y_51) C dX2_giveBack_61 ey_51 ?_
        refine jj_lload C dX2_giveBack_62 rfl ?_
        obtain ⟨y_52, ey_52⟩ : ∃ z : Int64, y_51 / (1000000 : Int64) = z := ⟨_, rfl⟩
        refine jj_ldiv (v := y_52) C dX2_giveBack_64 (by decide) ey_52 ?_
        refine jj_lstore C dX2_giveBack_65 (by decide) rfl ?_
        refine jj_aload_n C dX2_giveBack_67 rfl ?_
        refine jj_dup C dX2_giveBack_68 rfl ?_
        refine tt_get C hok jk_9 2 (by decide) jw_5719898240 (t := (1, (-9223372036854775808), 9223372036854775807)) hk1 (by decide) rfl rfl dX2_giveBack_69 (fun v_53 hv_53 hf_54 => ?_)
        obtain ⟨y_55, rfl, -, -⟩ := tt_vj hv_53
        refine jj_lload C dX2_giveBack_72 rfl ?_
        obtain ⟨y_56, ey_56⟩ : ∃ z : Int64, y_55 + y_50 = z := ⟨_, rfl⟩
        refine jj_ladd (v := y_56) C dX2_giveBack_74 ey_56 ?_
        refine rl_put C hok jk_9 2 (by decide) jw_5719898240 (t := (1, (-9223372036854775808), 9223372036854775807)) hk1 (by decide) rfl rfl rfl (tt_ja y_56) rfl rfl dX2_giveBack_75 (fun pl_57 hok_58 tr hn tl => ?_)
        replace hf_2 := tr _ _ _ (Or.inl (tt_ne hk2 hk1 (by decide))) hf_2
        replace hf_5 := tr _ _ _ (Or.inr (by decide)) hf_5
        replace hf_11 := tr _ _ _ (Or.inl (tt_ne hk2 hk1 (by decide))) hf_11
        have hf_59 := hn
        replace hfr := hfr.put hk1 tr (by decide)
        replace hfa := hfa.all tl
        refine jj_aload_n C dX2_giveBack_78 rfl ?_
        refine tt_get C hok_58 jk_2 10 (by decide) jw_d4020bdca8 (t := (2, 5, 0)) hk0 (by decide) rfl rfl dX2_giveBack_79 (fun v_60 hv_60 hf_61 => ?_)
        obtain ⟨a_62, rfl, ka_62⟩ := tt_vr hv_60
        refine jj_iconst (v := 0) C dX2_giveBack_82 (by decide) ?_
        refine jj_dup2 C dX2_giveBack_83 rfl rfl ?_
        refine tt_lald C hok_58 (t := (1, (-9223372036854775808), 9223372036854775807)) ka_62 (by decide) rfl (vp_in_iff.mpr (by decide)) dX2_giveBack_84 (fun v_63 hv_63 => ?_)
        refine jj_lload C dX2_giveBack_85 rfl ?_
        obtain ⟨y_64, ey_64⟩ : ∃ z : Int64, v_63 - y_50 = z := ⟨_, rfl⟩
        refine jj_lsub (v := y_64) C dX2_giveBack_87 ey_64 ?_
        refine tl_last C hok_58 (t := (1, (-9223372036854775808), 9223372036854775807)) ka_62 (by decide) rfl (vp_in_iff.mpr (by decide)) (tt_ja _) dX2_giveBack_88 (fun pl_65 hok_66 tr tl => ?_)
        replace hf_2 := tr _ _ _ hf_2
        replace hf_5 := tr _ _ _ hf_5
        replace hf_11 := tr _ _ _ hf_11
        replace hf_59 := tr _ _ _ hf_59
        replace hf_61 := tr _ _ _ hf_61
        replace hfr := hfr.arr tr
        replace hfa := hfa.wr ka_62 tl (by decide)
        refine jj_aload_n C dX2_giveBack_89 rfl ?_
        refine jj_dup C dX2_giveBack_90 rfl ?_
        refine tt_get C hok_66 jk_5 3 (by decide) jw_a038b4bca1 (t := (1, (-9223372036854775808), 9223372036854775807)) hk2 (by decide) rfl rfl dX2_giveBack_91 (fun v_67 hv_67 hf_68 => ?_)
        obtain ⟨y_69, rfl, -, -⟩ := tt_vj hv_67
        refine jj_lload C dX2_giveBack_94 rfl ?_
        obtain ⟨y_70, ey_70⟩ : ∃ z : Int64, y_69 + y_52 = z := ⟨_, rfl⟩
        refine jj_ladd (v := y_70) C dX2_giveBack_96 ey_70 ?_
        refine rl_put C hok_66 jk_5 3 (by decide) jw_a038b4bca1 (t := (1, (-9223372036854775808), 9223372036854775807)) hk2 (by decide) rfl rfl rfl (tt_ja y_70) rfl rfl dX2_giveBack_97 (fun pl_71 hok_72 tr hn tl => ?_)
        replace hf_2 := tr _ _ _ (Or.inr (by decide)) hf_2
        replace hf_5 := tr _ _ _ (Or.inl (tt_ne hk1 hk2 (by decide))) hf_5
        replace hf_11 := tr _ _ _ (Or.inr (by decide)) hf_11
        replace hf_59 := tr _ _ _ (Or.inl (tt_ne hk1 hk2 (by decide))) hf_59
        replace hf_61 := tr _ _ _ (Or.inl (tt_ne hk0 hk2 (by decide))) hf_61
        have hf_73 := hn
        replace hfr := hfr.put hk2 tr (by decide)
        replace hfa := hfa.all tl
        refine jj_aload_n C dX2_giveBack_100 rfl ?_
        refine jj_dup C dX2_giveBack_101 rfl ?_
        refine tt_get C hok_72 jk_9 3 (by decide) jw_abb7017335 (t := (1, (-9223372036854775808), 9223372036854775807)) hk1 (by decide) rfl rfl dX2_giveBack_102 (fun v_74 hv_74 hf_75 => ?_)
        obtain ⟨y_76, rfl, -, -⟩ := tt_vj hv_74
        refine jj_lload C dX2_giveBack_105 rfl ?_
        obtain ⟨y_77, ey_77⟩ : ∃ z : Int64, y_76 + y_52 = z := ⟨_, rfl⟩
        refine jj_ladd (v := y_77) C dX2_giveBack_107 ey_77 ?_
        refine rl_put C hok_72 jk_9 3 (by decide) jw_abb7017335 (t := (1, (-9223372036854775808), 9223372036854775807)) hk1 (by decide) rfl rfl rfl (tt_ja y_77) rfl rfl dX2_giveBack_108 (fun pl_78 hok_79 tr hn tl => ?_)
        replace hf_2 := tr _ _ _ (Or.inl (tt_ne hk2 hk1 (by decide))) hf_2
        replace hf_5 := tr _ _ _ (Or.inr (by decide)) hf_5
        replace hf_11 := tr _ _ _ (Or.inl (tt_ne hk2 hk1 (by decide))) hf_11
        replace hf_59 := tr _ _ _ (Or.inr (by decide)) hf_59
        replace hf_61 := tr _ _ _ (Or.inl (tt_ne hk0 hk1 (by decide))) hf_61
        replace hf_73 := tr _ _ _ (Or.inl (tt_ne hk2 hk1 (by decide))) hf_73
        have hf_80 := hn
        replace hfr := hfr.put hk1 tr (by decide)
        replace hfa := hfa.all tl
        exact jj_vret C ⟨[], pl_78, rfl, rfl, hok_79, hfr, hfa, rfl⟩ dX2_giveBack_111 (jj_le rfl) (jj_le rfl)

set_option maxHeartbeats 4000000 in
set_option maxRecDepth 100000 in
theorem tc_X2_takeDue_1 {l : Launch} (hl : l.stackTraces = false) (D : va_G) (cA : Nat → ClassId) (ak : (Nat → Nat) × (Nat → Nat)) {Kd : Nat → Nat} (h0 : Nat) (h1 : Nat) (h2 : Nat) (hk0 : Kd h0 = 1) (hk1 : Kd h1 = 2) (hk2 : Kd h2 = 3) {pl0 : va_W} (hok : tt_ok tt_tk cA Kd pl0) : jj_M l D cA ak yX2_takeDue (.code yX2_takeDue cX2_takeDue 13 none) 1 26 0 0 ([] ++ pl0) [.ref h0, .ref h1, .ref h2, .long 1000000, .long 1000000] (tt_O (fun rx pl1 r => rx = [] ∧ tt_ok tt_tk cA Kd pl1 ∧ tt_fr Kd [(2, 2), (2, 3), (3, 3)] pl0 pl1 ∧ tt_fa Kd [5] pl0 pl1 ∧ ((r = none)))) (tt_OX (fun _ _ _ => False)) := by
  refine jj_start hl (by decide) jw_ba54d233d6 (jj_le rfl) ?_
  intro p e s m args below meth c A hargs hA C hex hmn
  have hfr := tt_fr.refl (K := Kd) (WS := [(2, 2), (2, 3), (3, 3)]) pl0
  have hfa := tt_fa.refl (K := Kd) (WA := [5]) pl0
  refine jj_lload_n C dX2_takeDue_0 rfl ?_
  refine jj_aload_n C dX2_takeDue_1 rfl ?_
  refine tt_get C hok jk_9 4 (by decide) jw_bb7ee2f491 (t := (1, (-9223372036854775808), 9223372036854775807)) hk1 (by decide) rfl rfl dX2_takeDue_2 (fun v_1 hv_1 hf_2 => ?_)
  obtain ⟨y_3, rfl, -, -⟩ := tt_vj hv_1
  refine tt_call0S (rest := []) C (ct_J9_min_f86c9_3 hl D cA ak y_3) jw_6f3bb354f8 jw_a0cddbe894 jw_a731c8553d jw_e0e7ffaaeb jn_J9_min_f86c9 rfl (jj_le rfl) (jj_le rfl) (jj_le rfl) (jj_le rfl) (jj_le rfl) dX2_takeDue_5 rfl (fun w1 r O_4 => ?_)
  rcases O_4 with ⟨c_5, -, rfl⟩ | ⟨c_6, -, rfl⟩
  · refine jj_lstore C dX2_takeDue_8 (by decide) rfl ?_
    refine jj_aload_n C dX2_takeDue_10 rfl ?_
    refine tt_get C hok jk_5 4 (by decide) jw_8ebffe18a9 (t := (1, (-9223372036854775808), 9223372036854775807)) hk2 (by decide) rfl rfl dX2_takeDue_11 (fun v_7 hv_7 hf_8 => ?_)
    obtain ⟨y_9, rfl, -, -⟩ := tt_vj hv_7
    refine jj_lload C dX2_takeDue_14 rfl ?_
    refine jj_lcmp_ge (tgt := 27) C dX2_takeDue_16 dX2_takeDue_17 (by decide) (fun c_10 => ?_) (fun c_10 => ?_)
    · exact jj_vret C ⟨[], pl0, rfl, rfl, hok, hfr, hfa, rfl⟩ dX2_takeDue_27 (jj_le rfl) (jj_le rfl)
    · refine jj_lload C dX2_takeDue_20 rfl ?_
      refine jj_lconst (v := 0) C dX2_takeDue_22 (by decide) ?_
      refine jj_lcmp_gtT (tgt := 28) C dX2_takeDue_23 dX2_takeDue_24 (by decide) (by decide) ?_
      refine jj_aload_n C dX2_takeDue_28 rfl ?_
      refine tt_get C hok jk_5 3 (by decide) jw_a038b4bca1 (t := (1, (-9223372036854775808), 9223372036854775807)) hk2 (by decide) rfl rfl dX2_takeDue_29 (fun v_11 hv_11 hf_12 => ?_)
      obtain ⟨y_13, rfl, -, -⟩ := tt_vj hv_11
      refine jj_aload_n C dX2_takeDue_32 rfl ?_
      refine tt_getF C hok jk_5 4 (by decide) jw_8ebffe18a9 (t := (1, (-9223372036854775808), 9223372036854775807)) hk2 (by decide) rfl rfl hf_8 dX2_takeDue_33 ?_
      refine jj_lload C dX2_takeDue_36 rfl ?_
      refine jj_aload_n C dX2_takeDue_38 rfl ?_
      refine tt_get C hok jk_2 3 (by decide) jw_6a66993f6c (t := (0, (-2147483648), 2147483647)) hk0 (by decide) rfl rfl dX2_takeDue_39 (fun v_14 hv_14 hf_15 => ?_)
      obtain ⟨x_16, rfl, lx_16, ux_16⟩ := tt_vi hv_14
      refine tt_callS (rest := []) C (tc_X2_dueOn_1 hl D cA ak y_13 y_9 y_3 x_16 hok) [] [] rfl rfl (by decide) (by decide) (by decide) jw_845775b81a jw_06dd566a56 jw_79af3f4029 jw_eebd9e2034 jn_X2_dueOn rfl (jj_le rfl) (jj_le rfl) (jj_le rfl) (jj_le rfl) (jj_le rfl) dX2_takeDue_42 rfl (fun _ _ _ hX => hX.elim) (fun rx pl_17 r O_20 => ?_)
      obtain ⟨rfl, hok_18, hr_19, hfa9, hR_22⟩ := O_20
      replace hf_2 := hr_19.at hk1 (by decide) (by decide) hf_2
      replace hf_8 := hr_19.at hk2 (by decide) (by decide) hf_8
      replace hf_12 := hr_19.at hk2 (by decide) (by decide) hf_12
      replace hf_15 := hr_19.at hk0 (by decide) (by decide) hf_15
      replace hfr := hfr.trans (hr_19.sub (by decide))
      replace hfa := hfa.trans (hfa9.sub (by decide))
      rcases hR_22 with rfl | ⟨y_25, rfl⟩
      · refine jj_lstore C dX2_takeDue_45 (by decide) rfl ?_
        refine jj_aload_n C dX2_takeDue_47 rfl ?_
        refine tt_getF C hok_18 jk_5 3 (by decide) jw_a038b4bca1 (t := (1, (-9223372036854775808), 9223372036854775807)) hk2 (by decide) rfl rfl hf_12 dX2_takeDue_48 ?_
        refine jj_lload C dX2_takeDue_51 rfl ?_
        refine jj_ldc2 (v := 100000) C dX2_takeDue_53 jw_acb9b226b5 ?_
        refine jj_lmul (v := 0) C dX2_takeDue_56 (by decide) ?_
        refine jj_lload C dX2_takeDue_57 rfl ?_
        refine jj_ldiv (v := 0) C dX2_takeDue_59 (by decide) (by decide) ?_
        refine tt_call0S (rest := []) C (ct_J9_min_f86c9_4 hl D cA ak y_13) jw_6f3bb354f8 jw_a0cddbe894 jw_a731c8553d jw_e0e7ffaaeb jn_J9_min_f86c9 rfl (jj_le rfl) (jj_le rfl) (jj_le rfl) (jj_le rfl) (jj_le rfl) dX2_takeDue_60 rfl (fun w1 r O_26 => ?_)
        rcases O_26 with ⟨c_27, -, rfl⟩ | ⟨c_28, -, rfl⟩
        · refine jj_lstore C dX2_takeDue_63 (by decide) rfl ?_
          refine jj_aload_n C dX2_takeDue_65 rfl ?_
          refine jj_dup C dX2_takeDue_66 rfl ?_
          refine tt_get C hok_18 jk_9 2 (by decide) jw_5719898240 (t := (1, (-9223372036854775808), 9223372036854775807)) hk1 (by decide) rfl rfl dX2_takeDue_67 (fun v_29 hv_29 hf_30 => ?_)
          obtain ⟨y_31, rfl, -, -⟩ := tt_vj hv_29
          refine jj_lload C dX2_takeDue_70 rfl ?_
          obtain ⟨y_32, ey_32⟩ : ∃ z : Int64, y_31 - (0 : Int64) = z := ⟨_, rfl⟩
          refine jj_lsub (v := y_32) C dX2_takeDue_72 ey_32 ?_
          refine rl_put C hok_18 jk_9 2 (by decide) jw_5719898240 (t := (1, (-9223372036854775808), 9223372036854775807)) hk1 (by decide) rfl rfl rfl (tt_ja y_32) rfl rfl dX2_takeDue_73 (fun pl_33 hok_34 tr hn tl => ?_)
          replace hf_2 := tr _ _ _ (Or.inr (by decide)) hf_2
          replace hf_8 := tr _ _ _ (Or.inl (tt_ne hk2 hk1 (by decide))) hf_8
          replace hf_12 := tr _ _ _ (Or.inl (tt_ne hk2 hk1 (by decide))) hf_12
          replace hf_15 := tr _ _ _ (Or.inl (tt_ne hk0 hk1 (by decide))) hf_15
          have hf_35 := hn
          replace hfr := hfr.put hk1 tr (by decide)
          replace hfa := hfa.all tl
          refine jj_aload_n C dX2_takeDue_76 rfl ?_
          refine tt_get C hok_34 jk_2 10 (by decide) jw_d4020bdca8 (t := (2, 5, 0)) hk0 (by decide) rfl rfl dX2_takeDue_77 (fun v_36 hv_36 hf_37 => ?_)
          obtain ⟨a_38, rfl, ka_38⟩ := tt_vr hv_36
          refine jj_iconst (v := 0) C dX2_takeDue_80 (by decide) ?_
          refine jj_dup2 C dX2_takeDue_81 rfl rfl ?_
          refine tt_lald C hok_34 (t := (1, (-9223372036854775808), 9223372036854775807)) ka_38 (by decide) rfl (vp_in_iff.mpr (by decide)) dX2_takeDue_82 (fun v_39 hv_39 => ?_)
          refine jj_lload C dX2_takeDue_83 rfl ?_
          obtain ⟨y_40, ey_40⟩ : ∃ z : Int64, v_39 + (0 : Int64) = z := ⟨_, rfl⟩
          refine jj_ladd (v := y_40) C dX2_takeDue_85 ey_40 ?_
          refine tl_last C hok_34 (t := (1, (-9223372036854775808), 9223372036854775807)) ka_38 (by decide) rfl (vp_in_iff.mpr (by decide)) (tt_ja _) dX2_takeDue_86 (fun pl_41 hok_42 tr tl => ?_)
          replace hf_2 := tr _ _ _ hf_2
          replace hf_8 := tr _ _ _ hf_8
          replace hf_12 := tr _ _ _ hf_12
          replace hf_15 := tr _ _ _ hf_15
          replace hf_35 := tr _ _ _ hf_35
          replace hf_37 := tr _ _ _ hf_37
          replace hfr := hfr.arr tr
          replace hfa := hfa.wr ka_38 tl (by decide)
          refine jj_aload_n C dX2_takeDue_87 rfl ?_
          refine jj_dup C dX2_takeDue_88 rfl ?_
          refine tt_getF C hok_42 jk_5 3 (by decide) jw_a038b4bca1 (t := (1, (-9223372036854775808), 9223372036854775807)) hk2 (by decide) rfl rfl hf_12 dX2_takeDue_89 ?_
          refine jj_lload C dX2_takeDue_92 rfl ?_
          obtain ⟨y_43, ey_43⟩ : ∃ z : Int64, y_13 - (0 : Int64) = z := ⟨_, rfl⟩
          refine jj_lsub (v := y_43) C dX2_takeDue_94 ey_43 ?_
          refine rl_put C hok_42 jk_5 3 (by decide) jw_a038b4bca1 (t := (1, (-9223372036854775808), 9223372036854775807)) hk2 (by decide) rfl rfl rfl (tt_ja y_43) rfl rfl dX2_takeDue_95 (fun pl_44 hok_45 tr hn tl => ?_)
          replace hf_2 := tr _ _ _ (Or.inl (tt_ne hk1 hk2 (by decide))) hf_2
          replace hf_8 := tr _ _ _ (Or.inr (by decide)) hf_8
          replace hf_15 := tr _ _ _ (Or.inl (tt_ne hk0 hk2 (by decide))) hf_15
          replace hf_35 := tr _ _ _ (Or.inl (tt_ne hk1 hk2 (by decide))) hf_35
          replace hf_37 := tr _ _ _ (Or.inl (tt_ne hk0 hk2 (by decide))) hf_37
          have hf_46 := hn
          replace hfr := hfr.put hk2 tr (by decide)
          replace hfa := hfa.all tl
          refine jj_aload_n C dX2_takeDue_98 rfl ?_
          refine jj_dup C dX2_takeDue_99 rfl ?_
          refine tt_get C hok_45 jk_9 3 (by decide) jw_abb7017335 (t := (1, (-9223372036854775808), 9223372036854775807)) hk1 (by decide) rfl rfl dX2_takeDue_100 (fun v_47 hv_47 hf_48 => ?_)
          obtain ⟨y_49, rfl, -, -⟩ := tt_vj hv_47
          refine jj_lload C dX2_takeDue_103 rfl ?_
          obtain ⟨y_50, ey_50⟩ : ∃ z : Int64, y_49 - (0 : Int64) = z := ⟨_, rfl⟩
          refine jj_lsub (v := y_50) C dX2_takeDue_105 ey_50 ?_
          refine rl_put C hok_45 jk_9 3 (by decide) jw_abb7017335 (t := (1, (-9223372036854775808), 9223372036854775807)) hk1 (by decide) rfl rfl rfl (tt_ja y_50) rfl rfl dX2_takeDue_106 (fun pl_51 hok_52 tr hn tl => ?_)
          replace hf_2 := tr _ _ _ (Or.inr (by decide)) hf_2
          replace hf_8 := tr _ _ _ (Or.inl (tt_ne hk2 hk1 (by decide))) hf_8
          replace hf_15 := tr _ _ _ (Or.inl (tt_ne hk0 hk1 (by decide))) hf_15
          replace hf_35 := tr _ _ _ (Or.inr (by decide)) hf_35
          replace hf_37 := tr _ _ _ (Or.inl (tt_ne hk0 hk1 (by decide))) hf_37
          replace hf_46 := tr _ _ _ (Or.inl (tt_ne hk2 hk1 (by decide))) hf_46
          have hf_53 := hn
          replace hfr := hfr.put hk1 tr (by decide)
          replace hfa := hfa.all tl
          exact jj_vret C ⟨[], pl_51, rfl, rfl, hok_52, hfr, hfa, rfl⟩ dX2_takeDue_109 (jj_le rfl) (jj_le rfl)
        · refine jj_lstore C dX2_takeDue_63 (by decide) rfl ?_
          refine jj_aload_n C dX2_takeDue_65 rfl ?_
          refine jj_dup C dX2_takeDue_66 rfl ?_
          refine tt_get C hok_18 jk_9 2 (by decide) jw_5719898240 (t := (1, (-9223372036854775808), 9223372036854775807)) hk1 (by decide) rfl rfl dX2_takeDue_67 (fun v_54 hv_54 hf_55 => ?_)
          obtain ⟨y_56, rfl, -, -⟩ := tt_vj hv_54
          refine jj_lload C dX2_takeDue_70 rfl ?_
          obtain ⟨y_57, ey_57⟩ : ∃ z : Int64, y_56 - (0 : Int64) = z := ⟨_, rfl⟩
          refine jj_lsub (v := y_57) C dX2_takeDue_72 ey_57 ?_
          refine rl_put C hok_18 jk_9 2 (by decide) jw_5719898240 (t := (1, (-9223372036854775808), 9223372036854775807)) hk1 (by decide) rfl rfl rfl (tt_ja y_57) rfl rfl dX2_takeDue_73 (fun pl_58 hok_59 tr hn tl => ?_)
          replace hf_2 := tr _ _ _ (Or.inr (by decide)) hf_2
          replace hf_8 := tr _ _ _ (Or.inl (tt_ne hk2 hk1 (by decide))) hf_8
          replace hf_12 := tr _ _ _ (Or.inl (tt_ne hk2 hk1 (by decide))) hf_12
          replace hf_15 := tr _ _ _ (Or.inl (tt_ne hk0 hk1 (by decide))) hf_15
          have hf_60 := hn
          replace hfr := hfr.put hk1 tr (by decide)
          replace hfa := hfa.all tl
          refine jj_aload_n C dX2_takeDue_76 rfl ?_
          refine tt_get C hok_59 jk_2 10 (by decide) jw_d4020bdca8 (t := (2, 5, 0)) hk0 (by decide) rfl rfl dX2_takeDue_77 (fun v_61 hv_61 hf_62 => ?_)
          obtain ⟨a_63, rfl, ka_63⟩ := tt_vr hv_61
          refine jj_iconst (v := 0) C dX2_takeDue_80 (by decide) ?_
          refine jj_dup2 C dX2_takeDue_81 rfl rfl ?_
          refine tt_lald C hok_59 (t := (1, (-9223372036854775808), 9223372036854775807)) ka_63 (by decide) rfl (vp_in_iff.mpr (by decide)) dX2_takeDue_82 (fun v_64 hv_64 => ?_)
          refine jj_lload C dX2_takeDue_83 rfl ?_
          obtain ⟨y_65, ey_65⟩ : ∃ z : Int64, v_64 + (0 : Int64) = z := ⟨_, rfl⟩
          refine jj_ladd (v := y_65) C dX2_takeDue_85 ey_65 ?_
          refine tl_last C hok_59 (t := (1, (-9223372036854775808), 9223372036854775807)) ka_63 (by decide) rfl (vp_in_iff.mpr (by decide)) (tt_ja _) dX2_takeDue_86 (fun pl_66 hok_67 tr tl => ?_)
          replace hf_2 := tr _ _ _ hf_2
          replace hf_8 := tr _ _ _ hf_8
          replace hf_12 := tr _ _ _ hf_12
          replace hf_15 := tr _ _ _ hf_15
          replace hf_60 := tr _ _ _ hf_60
          replace hf_62 := tr _ _ _ hf_62
          replace hfr := hfr.arr tr
          replace hfa := hfa.wr ka_63 tl (by decide)
          refine jj_aload_n C dX2_takeDue_87 rfl ?_
          refine jj_dup C dX2_takeDue_88 rfl ?_
          refine tt_getF C hok_67 jk_5 3 (by decide) jw_a038b4bca1 (t := (1, (-9223372036854775808), 9223372036854775807)) hk2 (by decide) rfl rfl hf_12 dX2_takeDue_89 ?_
          refine jj_lload C dX2_takeDue_92 rfl ?_
          obtain ⟨y_68, ey_68⟩ : ∃ z : Int64, y_13 - y_13 = z := ⟨_, rfl⟩
          refine jj_lsub (v := y_68) C dX2_takeDue_94 ey_68 ?_
          refine rl_put C hok_67 jk_5 3 (by decide) jw_a038b4bca1 (t := (1, (-9223372036854775808), 9223372036854775807)) hk2 (by decide) rfl rfl rfl (tt_ja y_68) rfl rfl dX2_takeDue_95 (fun pl_69 hok_70 tr hn tl => ?_)
          replace hf_2 := tr _ _ _ (Or.inl (tt_ne hk1 hk2 (by decide))) hf_2
          replace hf_8 := tr _ _ _ (Or.inr (by decide)) hf_8
          replace hf_15 := tr _ _ _ (Or.inl (tt_ne hk0 hk2 (by decide))) hf_15
          replace hf_60 := tr _ _ _ (Or.inl (tt_ne hk1 hk2 (by decide))) hf_60
          replace hf_62 := tr _ _ _ (Or.inl (tt_ne hk0 hk2 (by decide))) hf_62
          have hf_71 := hn
          replace hfr := hfr.put hk2 tr (by decide)
          replace hfa := hfa.all tl
          refine jj_aload_n C dX2_takeDue_98 rfl ?_
          refine jj_dup C dX2_takeDue_99 rfl ?_
          refine tt_get C hok_70 jk_9 3 (by decide) jw_abb7017335 (t := (1, (-9223372036854775808), 9223372036854775807)) hk1 (by decide) rfl rfl dX2_takeDue_100 (fun v_72 hv_72 hf_73 => ?_)
          obtain ⟨y_74, rfl, -, -⟩ := tt_vj hv_72
          refine jj_lload C dX2_takeDue_103 rfl ?_
          obtain ⟨y_75, ey_75⟩ : ∃ z : Int64, y_74 - y_13 = z := ⟨_, rfl⟩
          refine jj_lsub (v := y_75) C dX2_takeDue_105 ey_75 ?_
          refine rl_put C hok_70 jk_9 3 (by decide) jw_abb7017335 (t := (1, (-9223372036854775808), 9223372036854775807)) hk1 (by decide) rfl rfl rfl (tt_ja y_75) rfl rfl dX2_takeDue_106 (fun pl_76 hok_77 tr hn tl => ?_)
          replace hf_2 := tr _ _ _ (Or.inr (by decide)) hf_2
          replace hf_8 := tr _ _ _ (Or.inl (tt_ne hk2 hk1 (by decide))) hf_8
          replace hf_15 := tr _ _ _ (Or.inl (tt_ne hk0 hk1 (by decide))) hf_15
          replace hf_60 := tr _ _ _ (Or.inr (by decide)) hf_60
          replace hf_62 := tr _ _ _ (Or.inl (tt_ne hk0 hk1 (by decide))) hf_62
          replace hf_71 := tr _ _ _ (Or.inl (tt_ne hk2 hk1 (by decide))) hf_71
          have hf_78 := hn
          replace hfr := hfr.put hk1 tr (by decide)
          replace hfa := hfa.all tl
          exact jj_vret C ⟨[], pl_76, rfl, rfl, hok_77, hfr, hfa, rfl⟩ dX2_takeDue_109 (jj_le rfl) (jj_le rfl)
      · refine jj_lstore C dX2_takeDue_45 (by decide) rfl ?_
        refine jj_aload_n C dX2_takeDue_47 rfl ?_
        refine tt_getF C hok_18 jk_5 3 (by decide) jw_a038b4bca1 (t := (1, (-9223372036854775808), 9223372036854775807)) hk2 (by decide) rfl rfl hf_12 dX2_takeDue_48 ?_
        refine jj_lload C dX2_takeDue_51 rfl ?_
        refine jj_ldc2 (v := 100000) C dX2_takeDue_53 jw_acb9b226b5 ?_
        obtain ⟨y_79, ey_79⟩ : ∃ z : Int64, y_25 * (100000 : Int64) = z := ⟨_, rfl⟩
        refine jj_lmul (v := y_79) C dX2_takeDue_56 ey_79 ?_
        refine jj_lload C dX2_takeDue_57 rfl ?_
        obtain ⟨y_80, ey_80⟩ : ∃ z : Int64, y_79 / (1000000 : Int64) = z := ⟨_, rfl⟩
        refine jj_ldiv (v := y_80) C dX2_takeDue_59 (by decide) ey_80 ?_
        refine tt_call0S (rest := []) C (ct_J9_min_f86c9_1 hl D cA ak y_13 y_80) jw_6f3bb354f8 jw_a0cddbe894 jw_a731c8553d jw_e0e7ffaaeb jn_J9_min_f86c9 rfl (jj_le rfl) (jj_le rfl) (jj_le rfl) (jj_le rfl) (jj_le rfl) dX2_takeDue_60 rfl (fun w1 r O_81 => ?_)
        rcases O_81 with ⟨c_82, -, rfl⟩ | ⟨c_83, -, rfl⟩
        · refine jj_lstore C dX2_takeDue_63 (by decide) rfl ?_
          refine jj_aload_n C dX2_takeDue_65 rfl ?_
          refine jj_dup C dX2_takeDue_66 rfl ?_
          refine tt_get C hok_18 jk_9 2 (by decide) jw_5719898240 (t := (1, (-9223372036854775808), 9223372036854775807)) hk1 (by decide) rfl rfl dX2_takeDue_67 (fun v_84 hv_84 hf_85 => ?_)
          obtain ⟨y_86, rfl, -, -⟩ := tt_vj hv_84
          refine jj_lload C dX2_takeDue_70 rfl ?_
          obtain ⟨y_87, ey_87⟩ : ∃ z : Int64, y_86 - y_25 = z := ⟨_, rfl⟩
          refine jj_lsub (v := y_87) C dX2_takeDue_72 ey_87 ?_
          refine rl_put C hok_18 jk_9 2 (by decide) jw_5719898240 (t := (1, (-9223372036854775808), 9223372036854775807)) hk1 (by decide) rfl rfl rfl (tt_ja y_87) rfl rfl dX2_takeDue_73 (fun pl_88 hok_89 tr hn tl => ?_)
          replace hf_2 := tr _ _ _ (Or.inr (by decide)) hf_2
          replace hf_8 := tr _ _ _ (Or.inl (tt_ne hk2 hk1 (by decide))) hf_8
          replace hf_12 := tr _ _ _ (Or.inl (tt_ne hk2 hk1 (by decide))) hf_12
          replace hf_15 := tr _ _ _ (Or.inl (tt_ne hk0 hk1 (by decide))) hf_15
          have hf_90 := hn
          replace hfr := hfr.put hk1 tr (by decide)
          replace hfa := hfa.all tl
          refine jj_aload_n C dX2_takeDue_76 rfl ?_
          refine tt_get C hok_89 jk_2 10 (by decide) jw_d4020bdca8 (t := (2, 5, 0)) hk0 (by decide) rfl rfl dX2_takeDue_77 (fun v_91 hv_91 hf_92 => ?_)
          obtain ⟨a_93, rfl, ka_93⟩ := tt_vr hv_91
          refine jj_iconst (v := 0) C dX2_takeDue_80 (by decide) ?_
          refine jj_dup2 C dX2_takeDue_81 rfl rfl ?_
          refine tt_lald C hok_89 (t := (1, (-9223372036854775808), 9223372036854775807)) ka_93 (by decide) rfl (vp_in_iff.mpr (by decide)) dX2_takeDue_82 (fun v_94 hv_94 => ?_)
          refine jj_lload C dX2_takeDue_83 rfl ?_
          obtain ⟨y_95, ey_95⟩ : ∃ z : Int64, v_94 + y_25 = z := ⟨_, rfl⟩
          refine jj_ladd (v := y_95) C dX2_takeDue_85 ey_95 ?_
          refine tl_last C hok_89 (t := (1, (-9223372036854775808), 9223372036854775807)) ka_93 (by decide) rfl (vp_in_iff.mpr (by decide)) (tt_ja _) dX2_takeDue_86 (fun pl_96 hok_97 tr tl => ?_)
          replace hf_2 := tr _ _ _ hf_2
          replace hf_8 := tr _ _ _ hf_8
          replace hf_12 := tr _ _ _ hf_12
          replace hf_15 := tr _ _ _ hf_15
          replace hf_90 := tr _ _ _ hf_90
          replace hf_92 := tr _ _ _ hf_92
          replace hfr := hfr.arr tr
          replace hfa := hfa.wr ka_93 tl (by decide)
          refine jj_aload_n C dX2_takeDue_87 rfl ?_
          refine jj_dup C dX2_takeDue_88 rfl ?_
          refine tt_getF C hok_97 jk_5 3 (by decide) jw_a038b4bca1 (t := (1, (-9223372036854775808), 9223372036854775807)) hk2 (by decide) rfl rfl hf_12 dX2_takeDue_89 ?_
          refine jj_lload C dX2_takeDue_92 rfl ?_
          obtain ⟨y_98, ey_98⟩ : ∃ z : Int64, y_13 - y_80 = z := ⟨_, rfl⟩
          refine jj_lsub (v := y_98) C dX2_takeDue_94 ey_98 ?_
          refine rl_put C hok_97 jk_5 3 (by decide) jw_a038b4bca1 (t := (1, (-9223372036854775808), 9223372036854775807)) hk2 (by decide) rfl rfl rfl (tt_ja y_98) rfl rfl dX2_takeDue_95 (fun pl_99 hok_100 tr hn tl => ?_)
          replace hf_2 := tr _ _ _ (Or.inl (tt_ne hk1 hk2 (by decide))) hf_2
          replace hf_8 := tr _ _ _ (Or.inr (by decide)) hf_8
          replace hf_15 := tr _ _ _ (Or.inl (tt_ne hk0 hk2 (by decide))) hf_15
          replace hf_90 := tr _ _ _ (Or.inl (tt_ne hk1 hk2 (by decide))) hf_90
          replace hf_92 := tr _ _ _ (Or.inl (tt_ne hk0 hk2 (by decide))) hf_92
          have hf_101 := hn
          replace hfr := hfr.put hk2 tr (by decide)
          replace hfa := hfa.all tl
          refine jj_aload_n C dX2_takeDue_98 rfl ?_
          refine jj_dup C dX2_takeDue_99 rfl ?_
          refine tt_get C hok_100 jk_9 3 (by decide) jw_abb7017335 (t := (1, (-9223372036854775808), 9223372036854775807)) hk1 (by decide) rfl rfl dX2_takeDue_100 (fun v_102 hv_102 hf_103 => ?_)
          obtain ⟨y_104, rfl, -, -⟩ := tt_vj hv_102
          refine jj_lload C dX2_takeDue_103 rfl ?_
          obtain ⟨y_105, ey_105⟩ : ∃ z : Int64, y_104 - y_80 = z := ⟨_, rfl⟩
          refine jj_lsub (v := y_105) C dX2_takeDue_105 ey_105 ?_
          refine rl_put C hok_100 jk_9 3 (by decide) jw_abb7017335 (t := (1, (-9223372036854775808), 9223372036854775807)) hk1 (by decide) rfl rfl rfl (tt_ja y_105) rfl rfl dX2_takeDue_106 (fun pl_106 hok_107 tr hn tl => ?_)
          replace hf_2 := tr _ _ _ (Or.inr (by decide)) hf_2
          replace hf_8 := tr _ _ _ (Or.inl (tt_ne hk2 hk1 (by decide))) hf_8
          replace hf_15 := tr _ _ _ (Or.inl (tt_ne hk0 hk1 (by decide))) hf_15
          replace hf_90 := tr _ _ _ (Or.inr (by decide)) hf_90
          replace hf_92 := tr _ _ _ (Or.inl (tt_ne hk0 hk1 (by decide))) hf_92
          replace hf_101 := tr _ _ _ (Or.inl (tt_ne hk2 hk1 (by decide))) hf_101
          have hf_108 := hn
          replace hfr := hfr.put hk1 tr (by decide)
          replace hfa := hfa.all tl
          exact jj_vret C ⟨[], pl_106, rfl, rfl, hok_107, hfr, hfa, rfl⟩ dX2_takeDue_109 (jj_le rfl) (jj_le rfl)
        · refine jj_lstore C dX2_takeDue_63 (by decide) rfl ?_
          refine jj_aload_n C dX2_takeDue_65 rfl ?_
          refine jj_dup C dX2_takeDue_66 rfl ?_
          refine tt_get C hok_18 jk_9 2 (by decide) jw_5719898240 (t := (1, (-9223372036854775808), 9223372036854775807)) hk1 (by decide) rfl rfl dX2_takeDue_67 (fun v_109 hv_109 hf_110 => ?_)
          obtain ⟨y_111, rfl, -, -⟩ := tt_vj hv_109
          refine jj_lload C dX2_takeDue_70 rfl ?_
          obtain ⟨y_112, ey_112⟩ : ∃ z : Int64, y_111 - y_25 = z := ⟨_, rfl⟩
          refine jj_lsub (v := y_112) C dX2_takeDue_72 ey_112 ?_
          refine rl_put C hok_18 jk_9 2 (by decide) jw_5719898240 (t := (1, (-9223372036854775808), 9223372036854775807)) hk1 (by decide) rfl rfl rfl (tt_ja y_112) rfl rfl dX2_takeDue_73 (fun pl_113 hok_114 tr hn tl => ?_)
          replace hf_2 := tr _ _ _ (Or.inr (by decide)) hf_2
          replace hf_8 := tr _ _ _ (Or.inl (tt_ne hk2 hk1 (by decide))) hf_8
          replace hf_12 := tr _ _ _ (Or.inl (tt_ne hk2 hk1 (by decide))) hf_12
          replace hf_15 := tr _ _ _ (Or.inl (tt_ne hk0 hk1 (by decide))) hf_15
          have hf_115 := hn
          replace hfr := hfr.put hk1 tr (by decide)
          replace hfa := hfa.all tl
          refine jj_aload_n C dX2_takeDue_76 rfl ?_
          refine tt_get C hok_114 jk_2 10 (by decide) jw_d4020bdca8 (t := (2, 5, 0)) hk0 (by decide) rfl rfl dX2_takeDue_77 (fun v_116 hv_116 hf_117 => ?_)
          obtain ⟨a_118, rfl, ka_118⟩ := tt_vr hv_116
          refine jj_iconst (v := 0) C dX2_takeDue_80 (by decide) ?_
          refine jj_dup2 C dX2_takeDue_81 rfl rfl ?_
          refine tt_lald C hok_114 (t := (1, (-9223372036854775808), 9223372036854775807)) ka_118 (by decide) rfl (vp_in_iff.mpr (by decide)) dX2_takeDue_82 (fun v_119 hv_119 => ?_)
          refine jj_lload C dX2_takeDue_83 rfl ?_
          obtain ⟨y_120, ey_120⟩ : ∃ z : Int64, v_119 + y_25 = z := ⟨_, rfl⟩
          refine jj_ladd (v := y_120) C dX2_takeDue_85 ey_120 ?_
          refine tl_last C hok_114 (t := (1, (-9223372036854775808), 9223372036854775807)) ka_118 (by decide) rfl (vp_in_iff.mpr (by decide)) (tt_ja _) dX2_takeDue_86 (fun pl_121 hok_122 tr tl => ?_)
          replace hf_2 := tr _ _ _ hf_2
          replace hf_8 := tr _ _ _ hf_8
          replace hf_12 := tr _ _ _ hf_12
          replace hf_15 := tr _ _ _ hf_15
          replace hf_115 := tr _ _ _ hf_115
          replace hf_117 := tr _ _ _ hf_117
          replace hfr := hfr.arr tr
          replace hfa := hfa.wr ka_118 tl (by decide)
          refine jj_aload_n C dX2_takeDue_87 rfl ?_
          refine jj_dup C dX2_takeDue_88 rfl ?_
          refine tt_getF C hok_122 jk_5 3 (by decide) jw_a038b4bca1 (t := (1, (-9223372036854775808), 9223372036854775807)) hk2 (by decide) rfl rfl hf_12 dX2_takeDue_89 ?_
          refine jj_lload C dX2_takeDue_92 rfl ?_
          obtain ⟨y_123, ey_123⟩ : ∃ z : Int64, y_13 - y_13 = z := ⟨_, rfl⟩
          refine jj_lsub (v := y_123) C dX2_takeDue_94 ey_123 ?_
          refine rl_put C hok_122 jk_5 3 (by decide) jw_a038b4bca1 (t := (1, (-9223372036854775808), 9223372036854775807)) hk2 (by decide) rfl rfl rfl (tt_ja y_123) rfl rfl dX2_takeDue_95 (fun pl_124 hok_125 tr hn tl => ?_)
          replace hf_2 := tr _ _ _ (Or.inl (tt_ne hk1 hk2 (by decide))) hf_2
          replace hf_8 := tr _ _ _ (Or.inr (by decide)) hf_8
          replace hf_15 := tr _ _ _ (Or.inl (tt_ne hk0 hk2 (by decide))) hf_15
          replace hf_115 := tr _ _ _ (Or.inl (tt_ne hk1 hk2 (by decide))) hf_115
          replace hf_117 := tr _ _ _ (Or.inl (tt_ne hk0 hk2 (by decide))) hf_117
          have hf_126 := hn
          replace hfr := hfr.put hk2 tr (by decide)
          replace hfa := hfa.all tl
          refine jj_aload_n C dX2_takeDue_98 rfl ?_
          refine jj_dup C dX2_takeDue_99 rfl ?_
          refine tt_get C hok_125 jk_9 3 (by decide) jw_abb7017335 (t := (1, (-9223372036854775808), 9223372036854775807)) hk1 (by decide) rfl rfl dX2_takeDue_100 (fun v_127 hv_127 hf_128 => ?_)
          obtain ⟨y_129, rfl, -, -⟩ := tt_vj hv_127
          refine jj_lload C dX2_takeDue_103 rfl ?_
          obtain ⟨y_130, ey_130⟩ : ∃ z : Int64, y_129 - y_13 = z := ⟨_, rfl⟩
          refine jj_lsub (v := y_130) C dX2_takeDue_105 ey_130 ?_
          refine rl_put C hok_125 jk_9 3 (by decide) jw_abb7017335 (t := (1, (-9223372036854775808), 9223372036854775807)) hk1 (by decide) rfl rfl rfl (tt_ja y_130) rfl rfl dX2_takeDue_106 (fun pl_131 hok_132 tr hn tl => ?_)
          replace hf_2 := tr _ _ _ (Or.inr (by decide)) hf_2
          replace hf_8 := tr _ _ _ (Or.inl (tt_ne hk2 hk1 (by decide))) hf_8
          replace hf_15 := tr _ _ _ (Or.inl (tt_ne hk0 hk1 (by decide))) hf_15
          replace hf_115 := tr _ _ _ (Or.inr (by decide)) hf_115
          replace hf_117 := tr _ _ _ (Or.inl (tt_ne hk0 hk1 (by decide))) hf_117
          replace hf_126 := tr _ _ _ (Or.inl (tt_ne hk2 hk1 (by decide))) hf_126
          have hf_133 := hn
          replace hfr := hfr.put hk1 tr (by decide)
          replace hfa := hfa.all tl
          exact jj_vret C ⟨[], pl_131, rfl, rfl, hok_132, hfr, hfa, rfl⟩ dX2_takeDue_109 (jj_le rfl) (jj_le rfl)
  · refine jj_lstore C dX2_takeDue_8 (by decide) rfl ?_
    refine jj_aload_n C dX2_takeDue_10 rfl ?_
    refine tt_get C hok jk_5 4 (by decide) jw_8ebffe18a9 (t := (1, (-9223372036854775808), 9223372036854775807)) hk2 (by decide) rfl rfl dX2_takeDue_11 (fun v_134 hv_134 hf_135 => ?_)
    obtain ⟨y_136, rfl, -, -⟩ := tt_vj hv_134
    refine jj_lload C dX2_takeDue_14 rfl ?_
    refine jj_lcmp_ge (tgt := 27) C dX2_takeDue_16 dX2_takeDue_17 (by decide) (fun c_137 => ?_) (fun c_137 => ?_)
    · exact jj_vret C ⟨[], pl0, rfl, rfl, hok, hfr, hfa, rfl⟩ dX2_takeDue_27 (jj_le rfl) (jj_le rfl)
    · refine jj_lload C dX2_takeDue_20 rfl ?_
      refine jj_lconst (v := 0) C dX2_takeDue_22 (by decide) ?_
      refine jj_lcmp_gtT (tgt := 28) C dX2_takeDue_23 dX2_takeDue_24 (by decide) (by decide) ?_
      refine jj_aload_n C dX2_takeDue_28 rfl ?_
      refine tt_get C hok jk_5 3 (by decide) jw_a038b4bca1 (t := (1, (-9223372036854775808), 9223372036854775807)) hk2 (by decide) rfl rfl dX2_takeDue_29 (fun v_138 hv_138 hf_139 => ?_)
      obtain ⟨y_140, rfl, -, -⟩ := tt_vj hv_138
      refine jj_aload_n C dX2_takeDue_32 rfl ?_
      refine tt_getF C hok jk_5 4 (by decide) jw_8ebffe18a9 (t := (1, (-9223372036854775808), 9223372036854775807)) hk2 (by decide) rfl rfl hf_135 dX2_takeDue_33 ?_
      refine jj_lload C dX2_takeDue_36 rfl ?_
      refine jj_aload_n C dX2_takeDue_38 rfl ?_
      refine tt_get C hok jk_2 3 (by decide) jw_6a66993f6c (t := (0, (-2147483648), 2147483647)) hk0 (by decide) rfl rfl dX2_takeDue_39 (fun v_141 hv_141 hf_142 => ?_)
      obtain ⟨x_143, rfl, lx_143, ux_143⟩ := tt_vi hv_141
      refine tt_callS (rest := []) C (tc_X2_dueOn_2 hl D cA ak y_140 y_136 x_143 hok) [] [] rfl rfl (by decide) (by decide) (by decide) jw_845775b81a jw_06dd566a56 jw_79af3f4029 jw_eebd9e2034 jn_X2_dueOn rfl (jj_le rfl) (jj_le rfl) (jj_le rfl) (jj_le rfl) (jj_le rfl) dX2_takeDue_42 rfl (fun _ _ _ hX => hX.elim) (fun rx pl_144 r O_147 => ?_)
      obtain ⟨rfl, hok_145, hr_146, hfa9, hR_149⟩ := O_147
      replace hf_2 := hr_146.at hk1 (by decide) (by decide) hf_2
      replace hf_135 := hr_146.at hk2 (by decide) (by decide) hf_135
      replace hf_139 := hr_146.at hk2 (by decide) (by decide) hf_139
      replace hf_142 := hr_146.at hk0 (by decide) (by decide) hf_142
      replace hfr := hfr.trans (hr_146.sub (by decide))
      replace hfa := hfa.trans (hfa9.sub (by decide))
      rcases hR_149 with rfl | ⟨y_152, rfl⟩
      · refine jj_lstore C dX2_takeDue_45 (by decide) rfl ?_
        refine jj_aload_n C dX2_takeDue_47 rfl ?_
        refine tt_getF C hok_145 jk_5 3 (by decide) jw_a038b4bca1 (t := (1, (-9223372036854775808), 9223372036854775807)) hk2 (by decide) rfl rfl hf_139 dX2_takeDue_48 ?_
        refine jj_lload C dX2_takeDue_51 rfl ?_
        refine jj_ldc2 (v := 100000) C dX2_takeDue_53 jw_acb9b226b5 ?_
        refine jj_lmul (v := 0) C dX2_takeDue_56 (by decide) ?_
        refine jj_lload C dX2_takeDue_57 rfl ?_
        refine jj_ldiv (v := 0) C dX2_takeDue_59 (by decide) (by decide) ?_
        refine tt_call0S (rest := []) C (ct_J9_min_f86c9_4 hl D cA ak y_140) jw_6f3bb354f8 jw_a0cddbe894 jw_a731c8553d jw_e0e7ffaaeb jn_J9_min_f86c9 rfl (jj_le rfl) (jj_le rfl) (jj_le rfl) (jj_le rfl) (jj_le rfl) dX2_takeDue_60 rfl (fun w1 r O_153 => ?_)
        rcases O_153 with ⟨c_154, -, rfl⟩ | ⟨c_155, -, rfl⟩
        · refine jj_lstore C dX2_takeDue_63 (by decide) rfl ?_
          refine jj_aload_n C dX2_takeDue_65 rfl ?_
          refine jj_dup C dX2_takeDue_66 rfl ?_
          refine tt_get C hok_145 jk_9 2 (by decide) jw_5719898240 (t := (1, (-9223372036854775808), 9223372036854775807)) hk1 (by decide) rfl rfl dX2_takeDue_67 (fun v_156 hv_156 hf_157 => ?_)
          obtain ⟨y_158, rfl, -, -⟩ := tt_vj hv_156
          refine jj_lload C dX2_takeDue_70 rfl ?_
          obtain ⟨y_159, ey_159⟩ : ∃ z : Int64, y_158 - (0 : Int64) = z := ⟨_, rfl⟩
          refine jj_lsub (v := y_159) C dX2_takeDue_72 ey_159 ?_
          refine rl_put C hok_145 jk_9 2 (by decide) jw_5719898240 (t := (1, (-9223372036854775808), 9223372036854775807)) hk1 (by decide) rfl rfl rfl (tt_ja y_159) rfl rfl dX2_takeDue_73 (fun pl_160 hok_161 tr hn tl => ?_)
          replace hf_2 := tr _ _ _ (Or.inr (by decide)) hf_2
          replace hf_135 := tr _ _ _ (Or.inl (tt_ne hk2 hk1 (by decide))) hf_135
          replace hf_139 := tr _ _ _ (Or.inl (tt_ne hk2 hk1 (by decide))) hf_139
          replace hf_142 := tr _ _ _ (Or.inl (tt_ne hk0 hk1 (by decide))) hf_142
          have hf_162 := hn
          replace hfr := hfr.put hk1 tr (by decide)
          replace hfa := hfa.all tl
          refine jj_aload_n C dX2_takeDue_76 rfl ?_
          refine tt_get C hok_161 jk_2 10 (by decide) jw_d4020bdca8 (t := (2, 5, 0)) hk0 (by decide) rfl rfl dX2_takeDue_77 (fun v_163 hv_163 hf_164 => ?_)
          obtain ⟨a_165, rfl, ka_165⟩ := tt_vr hv_163
          refine jj_iconst (v := 0) C dX2_takeDue_80 (by decide) ?_
          refine jj_dup2 C dX2_takeDue_81 rfl rfl ?_
          refine tt_lald C hok_161 (t := (1, (-9223372036854775808), 9223372036854775807)) ka_165 (by decide) rfl (vp_in_iff.mpr (by decide)) dX2_takeDue_82 (fun v_166 hv_166 => ?_)
          refine jj_lload C dX2_takeDue_83 rfl ?_
          obtain ⟨y_167, ey_167⟩ : ∃ z : Int64, v_166 + (0 : Int64) = z := ⟨_, rfl⟩
          refine jj_ladd (v := y_167) C dX2_takeDue_85 ey_167 ?_
          refine tl_last C hok_161 (t := (1, (-9223372036854775808), 9223372036854775807)) ka_165 (by decide) rfl (vp_in_iff.mpr (by decide)) (tt_ja _) dX2_takeDue_86 (fun pl_168 hok_169 tr tl => ?_)
          replace hf_2 := tr _ _ _ hf_2
          replace hf_135 := tr _ _ _ hf_135
          replace hf_139 := tr _ _ _ hf_139
          replace hf_142 := tr _ _ _ hf_142
          replace hf_162 := tr _ _ _ hf_162
          replace hf_164 := tr _ _ _ hf_164
          replace hfr := hfr.arr tr
          replace hfa := hfa.wr ka_165 tl (by decide)
          refine jj_aload_n C dX2_takeDue_87 rfl ?_
          refine jj_dup C dX2_takeDue_88 rfl ?_
          refine tt_getF C hok_169 jk_5 3 (by decide) jw_a038b4bca1 (t := (1, (-9223372036854775808), 9223372036854775807)) hk2 (by decide) rfl rfl hf_139 dX2_takeDue_89 ?_
          refine jj_lload C dX2_takeDue_92 rfl ?_
          obtain ⟨y_170, ey_170⟩ : ∃ z : Int64, y_140 - (0 : Int64) = z := ⟨_, rfl⟩
          refine jj_lsub (v := y_170) C dX2_takeDue_94 ey_170 ?_
          refine rl_put C hok_169 jk_5 3 (by decide) jw_a038b4bca1 (t := (1, (-9223372036854775808), 9223372036854775807)) hk2 (by decide) rfl rfl rfl (tt_ja y_170) rfl rfl dX2_takeDue_95 (fun pl_171 hok_172 tr hn tl => ?_)
          replace hf_2 := tr _ _ _ (Or.inl (tt_ne hk1 hk2 (by decide))) hf_2
          replace hf_135 := tr _ _ _ (Or.inr (by decide)) hf_135
          replace hf_142 := tr _ _ _ (Or.inl (tt_ne hk0 hk2 (by decide))) hf_142
          replace hf_162 := tr _ _ _ (Or.inl (tt_ne hk1 hk2 (by decide))) hf_162
          replace hf_164 := tr _ _ _ (Or.inl (tt_ne hk0 hk2 (by decide))) hf_164
          have hf_173 := hn
          replace hfr := hfr.put hk2 tr (by decide)
          replace hfa := hfa.all tl
          refine jj_aload_n C dX2_takeDue_98 rfl ?_
          refine jj_dup C dX2_takeDue_99 rfl ?_
          refine tt_get C hok_172 jk_9 3 (by decide) jw_abb7017335 (t := (1, (-9223372036854775808), 9223372036854775807)) hk1 (by decide) rfl rfl dX2_takeDue_100 (fun v_174 hv_174 hf_175 => ?_)
          obtain ⟨y_176, rfl, -, -⟩ := tt_vj hv_174
          refine jj_lload C dX2_takeDue_103 rfl ?_
          obtain ⟨y_177, ey_177⟩ : ∃ z : Int64, y_176 - (0 : Int64) = z := ⟨_, rfl⟩
          refine jj_lsub (v := y_177) C dX2_takeDue_105 ey_177 ?_
          refine rl_put C hok_172 jk_9 3 (by decide) jw_abb7017335 (t := (1, (-9223372036854775808), 9223372036854775807)) hk1 (by decide) rfl rfl rfl (tt_ja y_177) rfl rfl dX2_takeDue_106 (fun pl_178 hok_179 tr hn tl => ?_)
          replace hf_2 := tr _ _ _ (Or.inr (by decide)) hf_2
          replace hf_135 := tr _ _ _ (Or.inl (tt_ne hk2 hk1 (by decide))) hf_135
          replace hf_142 := tr _ _ _ (Or.inl (tt_ne hk0 hk1 (by decide))) hf_142
          replace hf_162 := tr _ _ _ (Or.inr (by decide)) hf_162
          replace hf_164 := tr _ _ _ (Or.inl (tt_ne hk0 hk1 (by decide))) hf_164
          replace hf_173 := tr _ _ _ (Or.inl (tt_ne hk2 hk1 (by decide))) hf_173
          have hf_180 := hn
          replace hfr := hfr.put hk1 tr (by decide)
          replace hfa := hfa.all tl
          exact jj_vret C ⟨[], pl_178, rfl, rfl, hok_179, hfr, hfa, rfl⟩ dX2_takeDue_109 (jj_le rfl) (jj_le rfl)
        · refine jj_lstore C dX2_takeDue_63 (by decide) rfl ?_
          refine jj_aload_n C dX2_takeDue_65 rfl ?_
          refine jj_dup C dX2_takeDue_66 rfl ?_
          refine tt_get C hok_145 jk_9 2 (by decide) jw_5719898240 (t := (1, (-9223372036854775808), 9223372036854775807)) hk1 (by decide) rfl rfl dX2_takeDue_67 (fun v_181 hv_181 hf_182 => ?_)
          obtain ⟨y_183, rfl, -, -⟩ := tt_vj hv_181
          refine jj_lload C dX2_takeDue_70 rfl ?_
          obtain ⟨y_184, ey_184⟩ : ∃ z : Int64, y_183 - (0 : Int64) = z := ⟨_, rfl⟩
          refine jj_lsub (v := y_184) C dX2_takeDue_72 ey_184 ?_
          refine rl_put C hok_145 jk_9 2 (by decide) jw_5719898240 (t := (1, (-9223372036854775808), 9223372036854775807)) hk1 (by decide) rfl rfl rfl (tt_ja y_184) rfl rfl dX2_takeDue_73 (fun pl_185 hok_186 tr hn tl => ?_)
          replace hf_2 := tr _ _ _ (Or.inr (by decide)) hf_2
          replace hf_135 := tr _ _ _ (Or.inl (tt_ne hk2 hk1 (by decide))) hf_135
          replace hf_139 := tr _ _ _ (Or.inl (tt_ne hk2 hk1 (by decide))) hf_139
          replace hf_142 := tr _ _ _ (Or.inl (tt_ne hk0 hk1 (by decide))) hf_142
          have hf_187 := hn
          replace hfr := hfr.put hk1 tr (by decide)
          replace hfa := hfa.all tl
          refine jj_aload_n C dX2_takeDue_76 rfl ?_
          refine tt_get C hok_186 jk_2 10 (by decide) jw_d4020bdca8 (t := (2, 5, 0)) hk0 (by decide) rfl rfl dX2_takeDue_77 (fun v_188 hv_188 hf_189 => ?_)
          obtain ⟨a_190, rfl, ka_190⟩ := tt_vr hv_188
          refine jj_iconst (v := 0) C dX2_takeDue_80 (by decide) ?_
          refine jj_dup2 C dX2_takeDue_81 rfl rfl ?_
          refine tt_lald C hok_186 (t := (1, (-9223372036854775808), 9223372036854775807)) ka_190 (by decide) rfl (vp_in_iff.mpr (by decide)) dX2_takeDue_82 (fun v_191 hv_191 => ?_)
          refine jj_lload C dX2_takeDue_83 rfl ?_
          obtain ⟨y_192, ey_192⟩ : ∃ z : Int64, v_191 + (0 : Int64) = z := ⟨_, rfl⟩
          refine jj_ladd (v := y_192) C dX2_takeDue_85 ey_192 ?_
          refine tl_last C hok_186 (t := (1, (-9223372036854775808), 9223372036854775807)) ka_190 (by decide) rfl (vp_in_iff.mpr (by decide)) (tt_ja _) dX2_takeDue_86 (fun pl_193 hok_194 tr tl => ?_)
          replace hf_2 := tr _ _ _ hf_2
          replace hf_135 := tr _ _ _ hf_135
          replace hf_139 := tr _ _ _ hf_139
          replace hf_142 := tr _ _ _ hf_142
          replace hf_187 := tr _ _ _ hf_187
          replace hf_189 := tr _ _ _ hf_189
          replace hfr := hfr.arr tr
          replace hfa := hfa.wr ka_190 tl (by decide)
          refine jj_aload_n C dX2_takeDue_87 rfl ?_
          refine jj_dup C dX2_takeDue_88 rfl ?_
          refine tt_getF C hok_194 jk_5 3 (by decide) jw_a038b4bca1 (t := (1, (-9223372036854775808), 9223372036854775807)) hk2 (by decide) rfl rfl hf_139 dX2_takeDue_89 ?_
          refine jj_lload C dX2_takeDue_92 rfl ?_
          obtain ⟨y_195, ey_195⟩ : ∃ z : Int64, y_140 - y_140 = z := ⟨_, rfl⟩
          refine jj_lsub (v := y_195) C dX2_takeDue_94 ey_195 ?_
          refine rl_put C hok_194 jk_5 3 (by decide) jw_a038b4bca1 (t := (1, (-9223372036854775808), 9223372036854775807)) hk2 (by decide) rfl rfl rfl (tt_ja y_195) rfl rfl dX2_takeDue_95 (fun pl_196 hok_197 tr hn tl => ?_)
          replace hf_2 := tr _ _ _ (Or.inl (tt_ne hk1 hk2 (by decide))) hf_2
          replace hf_135 := tr _ _ _ (Or.inr (by decide)) hf_135
          replace hf_142 := tr _ _ _ (Or.inl (tt_ne hk0 hk2 (by decide))) hf_142
          replace hf_187 := tr _ _ _ (Or.inl (tt_ne hk1 hk2 (by decide))) hf_187
          replace hf_189 := tr _ _ _ (Or.inl (tt_ne hk0 hk2 (by decide))) hf_189
          have hf_198 := hn
          replace hfr := hfr.put hk2 tr (by decide)
          replace hfa := hfa.all tl
          refine jj_aload_n C dX2_takeDue_98 rfl ?_
          refine jj_dup C dX2_takeDue_99 rfl ?_
          refine tt_get C hok_197 jk_9 3 (by decide) jw_abb7017335 (t := (1, (-9223372036854775808), 9223372036854775807)) hk1 (by decide) rfl rfl dX2_takeDue_100 (fun v_199 hv_199 hf_200 => ?_)
          obtain ⟨y_201, rfl, -, -⟩ := tt_vj hv_199
          refine jj_lload C dX2_takeDue_103 rfl ?_
          obtain ⟨y_202, ey_202⟩ : ∃ z : Int64, y_201 - y_140 = z := ⟨_, rfl⟩
          refine jj_lsub (v := y_202) C dX2_takeDue_105 ey_202 ?_
          refine rl_put C hok_197 jk_9 3 (by decide) jw_abb7017335 (t := (1, (-9223372036854775808), 9223372036854775807)) hk1 (by decide) rfl rfl rfl (tt_ja y_202) rfl rfl dX2_takeDue_106 (fun pl_203 hok_204 tr hn tl => ?_)
          replace hf_2 := tr _ _ _ (Or.inr (by decide)) hf_2
          replace hf_135 := tr _ _ _ (Or.inl (tt_ne hk2 hk1 (by decide))) hf_135
          replace hf_142 := tr _ _ _ (Or.inl (tt_ne hk0 hk1 (by decide))) hf_142
          replace hf_187 := tr _ _ _ (Or.inr (by decide)) hf_187
          replace hf_189 := tr _ _ _ (Or.inl (tt_ne hk0 hk1 (by decide))) hf_189
          replace hf_198 := tr _ _ _ (Or.inl (tt_ne hk2 hk1 (by decide))) hf_198
          have hf_205 := hn
          replace hfr := hfr.put hk1 tr (by decide)
          replace hfa := hfa.all tl
          exact jj_vret C ⟨[], pl_203, rfl, rfl, hok_204, hfr, hfa, rfl⟩ dX2_takeDue_109 (jj_le rfl) (jj_le rfl)
      · refine jj_lstore C dX2_takeDue_45 (by decide) rfl ?_
        refine jj_aload_n C dX2_takeDue_47 rfl ?_
        refine tt_getF C hok_145 jk_5 3 (by decide) jw_a038b4bca1 (t := (1, (-9223372036854775808), 9223372036854775807)) hk2 (by decide) rfl rfl hf_139 dX2_takeDue_48 ?_
        refine jj_lload C dX2_takeDue_51 rfl ?_
        refine jj_ldc2 (v := 100000) C dX2_takeDue_53 jw_acb9b226b5 ?_
        obtain ⟨y_206, ey_206⟩ : ∃ z : Int64, y_152 * (100000 : Int64) = z := ⟨_, rfl⟩
        refine jj_lmul (v := y_206) C dX2_takeDue_56 ey_206 ?_
        refine jj_lload C dX2_takeDue_57 rfl ?_
        obtain ⟨y_207, ey_207⟩ : ∃ z : Int64, y_206 / (1000000 : Int64) = z := ⟨_, rfl⟩
        refine jj_ldiv (v := y_207) C dX2_takeDue_59 (by decide) ey_207 ?_
        refine tt_call0S (rest := []) C (ct_J9_min_f86c9_1 hl D cA ak y_140 y_207) jw_6f3bb354f8 jw_a0cddbe894 jw_a731c8553d jw_e0e7ffaaeb jn_J9_min_f86c9 rfl (jj_le rfl) (jj_le rfl) (jj_le rfl) (jj_le rfl) (jj_le rfl) dX2_takeDue_60 rfl (fun w1 r O_208 => ?_)
        rcases O_208 with ⟨c_209, -, rfl⟩ | ⟨c_210, -, rfl⟩
        · refine jj_lstore C dX2_takeDue_63 (by decide) rfl ?_
          refine jj_aload_n C dX2_takeDue_65 rfl ?_
          refine jj_dup C dX2_takeDue_66 rfl ?_
          refine tt_get C hok_145 jk_9 2 (by decide) jw_5719898240 (t := (1, (-9223372036854775808), 9223372036854775807)) hk1 (by decide) rfl rfl dX2_takeDue_67 (fun v_211 hv_211 hf_212 => ?_)
          obtain ⟨y_213, rfl, -, -⟩ := tt_vj hv_211
          refine jj_lload C dX2_takeDue_70 rfl ?_
          obtain ⟨y_214, ey_214⟩ : ∃ z : Int64, y_213 - y_152 = z := ⟨_, rfl⟩
          refine jj_lsub (v := y_214) C dX2_takeDue_72 ey_214 ?_
          refine rl_put C hok_145 jk_9 2 (by decide) jw_5719898240 (t := (1, (-9223372036854775808), 9223372036854775807)) hk1 (by decide) rfl rfl rfl (tt_ja y_214) rfl rfl dX2_takeDue_73 (fun pl_215 hok_216 tr hn tl => ?_)
          replace hf_2 := tr _ _ _ (Or.inr (by decide)) hf_2
          replace hf_135 := tr _ _ _ (Or.inl (tt_ne hk2 hk1 (by decide))) hf_135
          replace hf_139 := tr _ _ _ (Or.inl (tt_ne hk2 hk1 (by decide))) hf_139
          replace hf_142 := tr _ _ _ (Or.inl (tt_ne hk0 hk1 (by decide))) hf_142
          have hf_217 := hn
          replace hfr := hfr.put hk1 tr (by decide)
          replace hfa := hfa.all tl
          refine jj_aload_n C dX2_takeDue_76 rfl ?_
          refine tt_get C hok_216 jk_2 10 (by decide) jw_d4020bdca8 (t := (2, 5, 0)) hk0 (by decide) rfl rfl dX2_takeDue_77 (fun v_218 hv_218 hf_219 => ?_)
          obtain ⟨a_220, rfl, ka_220⟩ := tt_vr hv_218
          refine jj_iconst (v := 0) C dX2_takeDue_80 (by decide) ?_
          refine jj_dup2 C dX2_takeDue_81 rfl rfl ?_
          refine tt_lald C hok_216 (t := (1, (-9223372036854775808), 9223372036854775807)) ka_220 (by decide) rfl (vp_in_iff.mpr (by decide)) dX2_takeDue_82 (fun v_221 hv_221 => ?_)
          refine jj_lload C dX2_takeDue_83 rfl ?_
          obtain ⟨y_222, ey_222⟩ : ∃ z : Int64, v_221 + y_152 = z := ⟨_, rfl⟩
          refine jj_ladd (v := y_222) C dX2_takeDue_85 ey_222 ?_
          refine tl_last C hok_216 (t := (1, (-9223372036854775808), 9223372036854775807)) ka_220 (by decide) rfl (vp_in_iff.mpr (by decide)) (tt_ja _) dX2_takeDue_86 (fun pl_223 hok_224 tr tl => ?_)
          replace hf_2 := tr _ _ _ hf_2
          replace hf_135 := tr _ _ _ hf_135
          replace hf_139 := tr _ _ _ hf_139
          replace hf_142 := tr _ _ _ hf_142
          replace hf_217 := tr _ _ _ hf_217
          replace hf_219 := tr _ _ _ hf_219
          replace hfr := hfr.arr tr
          replace hfa := hfa.wr ka_220 tl (by decide)
          refine jj_aload_n C dX2_takeDue_87 rfl ?_
          refine jj_dup C dX2_takeDue_88 rfl ?_
          refine tt_getF C hok_224 jk_5 3 (by decide) jw_a038b4bca1 (t := (1, (-9223372036854775808), 9223372036854775807)) hk2 (by decide) rfl rfl hf_139 dX2_takeDue_89 ?_
          refine jj_lload C dX2_takeDue_92 rfl ?_
          obtain ⟨y_225, ey_225⟩ : ∃ z : Int64, y_140 - y_207 = z := ⟨_, rfl⟩
          refine jj_lsub (v := y_225) C dX2_takeDue_94 ey_225 ?_
          refine rl_put C hok_224 jk_5 3 (by decide) jw_a038b4bca1 (t := (1, (-9223372036854775808), 9223372036854775807)) hk2 (by decide) rfl rfl rfl (tt_ja y_225) rfl rfl dX2_takeDue_95 (fun pl_226 hok_227 tr hn tl => ?_)
          replace hf_2 := tr _ _ _ (Or.inl (tt_ne hk1 hk2 (by decide))) hf_2
          replace hf_135 := tr _ _ _ (Or.inr (by decide)) hf_135
          replace hf_142 := tr _ _ _ (Or.inl (tt_ne hk0 hk2 (by decide))) hf_142
          replace hf_217 := tr _ _ _ (Or.inl (tt_ne hk1 hk2 (by decide))) hf_217
          replace hf_219 := tr _ _ _ (Or.inl (tt_ne hk0 hk2 (by decide))) hf_219
          have hf_228 := hn
          replace hfr := hfr.put hk2 tr (by decide)
          replace hfa := hfa.all tl
          refine jj_aload_n C dX2_takeDue_98 rfl ?_
          refine jj_dup C dX2_takeDue_99 rfl ?_
          refine tt_get C hok_227 jk_9 3 (by decide) jw_abb7017335 (t := (1, (-9223372036854775808), 9223372036854775807)) hk1 (by decide) rfl rfl dX2_takeDue_100 (fun v_229 hv_229 hf_230 => ?_)
          obtain ⟨y_231, rfl, -, -⟩ := tt_vj hv_229
          refine jj_lload C dX2_takeDue_103 rfl ?_
          obtain ⟨y_232, ey_232⟩ : ∃ z : Int64, y_231 - y_207 = z := ⟨_, rfl⟩
          refine jj_lsub (v := y_232) C dX2_takeDue_105 ey_232 ?_
          refine rl_put C hok_227 jk_9 3 (by decide) jw_abb7017335 (t := (1, (-9223372036854775808), 9223372036854775807)) hk1 (by decide) rfl rfl rfl (tt_ja y_232) rfl rfl dX2_takeDue_106 (fun pl_233 hok_234 tr hn tl => ?_)
          replace hf_2 := tr _ _ _ (Or.inr (by decide)) hf_2
          replace hf_135 := tr _ _ _ (Or.inl (tt_ne hk2 hk1 (by decide))) hf_135
          replace hf_142 := tr _ _ _ (Or.inl (tt_ne hk0 hk1 (by decide))) hf_142
          replace hf_217 := tr _ _ _ (Or.inr (by decide)) hf_217
          replace hf_219 := tr _ _ _ (Or.inl (tt_ne hk0 hk1 (by decide))) hf_219
          replace hf_228 := tr _ _ _ (Or.inl (tt_ne hk2 hk1 (by decide))) hf_228
          have hf_235 := hn
          replace hfr := hfr.put hk1 tr (by decide)
          replace hfa := hfa.all tl
          exact jj_vret C ⟨[], pl_233, rfl, rfl, hok_234, hfr, hfa, rfl⟩ dX2_takeDue_109 (jj_le rfl) (jj_le rfl)
        · refine jj_lstore C dX2_takeDue_63 (by decide) rfl ?_
          refine jj_aload_n C dX2_takeDue_65 rfl ?_
          refine jj_dup C dX2_takeDue_66 rfl ?_
          refine tt_get C hok_145 jk_9 2 (by decide) jw_5719898240 (t := (1, (-9223372036854775808), 9223372036854775807)) hk1 (by decide) rfl rfl dX2_takeDue_67 (fun v_236 hv_236 hf_237 => ?_)
          obtain ⟨y_238, rfl, -, -⟩ := tt_vj hv_236
          refine jj_lload C dX2_takeDue_70 rfl ?_
          obtain ⟨y_239, ey_239⟩ : ∃ z : Int64, y_238 - y_152 = z := ⟨_, rfl⟩
          refine jj_lsub (v := y_239) C dX2_takeDue_72 ey_239 ?_
          refine rl_put C hok_145 jk_9 2 (by decide) jw_5719898240 (t := (1, (-9223372036854775808), 9223372036854775807)) hk1 (by decide) rfl rfl rfl (tt_ja y_239) rfl rfl dX2_takeDue_73 (fun pl_240 hok_241 tr hn tl => ?_)
          replace hf_2 := tr _ _ _ (Or.inr (by decide)) hf_2
          replace hf_135 := tr _ _ _ (Or.inl (tt_ne hk2 hk1 (by decide))) hf_135
          replace hf_139 := tr _ _ _ (Or.inl (tt_ne hk2 hk1 (by decide))) hf_139
          replace hf_142 := tr _ _ _ (Or.inl (tt_ne hk0 hk1 (by decide))) hf_142
          have hf_242 := hn
          replace hfr := hfr.put hk1 tr (by decide)
          replace hfa := hfa.all tl
          refine jj_aload_n C dX2_takeDue_76 rfl ?_
          refine tt_get C hok_241 jk_2 10 (by decide) jw_d4020bdca8 (t := (2, 5, 0)) hk0 (by decide) rfl rfl dX2_takeDue_77 (fun v_243 hv_243 hf_244 => ?_)
          obtain ⟨a_245, rfl, ka_245⟩ := tt_vr hv_243
          refine jj_iconst (v := 0) C dX2_takeDue_80 (by decide) ?_
          refine jj_dup2 C dX2_takeDue_81 rfl rfl ?_
          refine tt_lald C hok_241 (t := (1, (-9223372036854775808), 9223372036854775807)) ka_245 (by decide) rfl (vp_in_iff.mpr (by decide)) dX2_takeDue_82 (fun v_246 hv_246 => ?_)
          refine jj_lload C dX2_takeDue_83 rfl ?_
          obtain ⟨y_247, ey_247⟩ : ∃ z : Int64, v_246 + y_152 = z := ⟨_, rfl⟩
          refine jj_ladd (v := y_247) C dX2_takeDue_85 ey_247 ?_
          refine tl_last C hok_241 (t := (1, (-9223372036854775808), 9223372036854775807)) ka_245 (by decide) rfl (vp_in_iff.mpr (by decide)) (tt_ja _) dX2_takeDue_86 (fun pl_248 hok_249 tr tl => ?_)
          replace hf_2 := tr _ _ _ hf_2
          replace hf_135 := tr _ _ _ hf_135
          replace hf_139 := tr _ _ _ hf_139
          replace hf_142 := tr _ _ _ hf_142
          replace hf_242 := tr _ _ _ hf_242
          replace hf_244 := tr _ _ _ hf_244
          replace hfr := hfr.arr tr
          replace hfa := hfa.wr ka_245 tl (by decide)
          refine jj_aload_n C dX2_takeDue_87 rfl ?_
          refine jj_dup C dX2_takeDue_88 rfl ?_
          refine tt_getF C hok_249 jk_5 3 (by decide) jw_a038b4bca1 (t := (1, (-9223372036854775808), 9223372036854775807)) hk2 (by decide) rfl rfl hf_139 dX2_takeDue_89 ?_
          refine jj_lload C dX2_takeDue_92 rfl ?_
          obtain ⟨y_250, ey_250⟩ : ∃ z : Int64, y_140 - y_140 = z := ⟨_, rfl⟩
          refine jj_lsub (v := y_250) C dX2_takeDue_94 ey_250 ?_
          refine rl_put C hok_249 jk_5 3 (by decide) jw_a038b4bca1 (t := (1, (-9223372036854775808), 9223372036854775807)) hk2 (by decide) rfl rfl rfl (tt_ja y_250) rfl rfl dX2_takeDue_95 (fun pl_251 hok_252 tr hn tl => ?_)
          replace hf_2 := tr _ _ _ (Or.inl (tt_ne hk1 hk2 (by decide))) hf_2
          replace hf_135 := tr _ _ _ (Or.inr (by decide)) hf_135
          replace hf_142 := tr _ _ _ (Or.inl (tt_ne hk0 hk2 (by decide))) hf_142
          replace hf_242 := tr _ _ _ (Or.inl (tt_ne hk1 hk2 (by decide))) hf_242
          replace hf_244 := tr _ _ _ (Or.inl (tt_ne hk0 hk2 (by decide))) hf_244
          have hf_253 := hn
          replace hfr := hfr.put hk2 tr (by decide)
          replace hfa := hfa.all tl
          refine jj_aload_n C dX2_takeDue_98 rfl ?_
          refine jj_dup C dX2_takeDue_99 rfl ?_
          refine tt_get C hok_252 jk_9 3 (by decide) jw_abb7017335 (t := (1, (-9223372036854775808), 9223372036854775807)) hk1 (by decide) rfl rfl dX2_takeDue_100 (fun v_254 hv_254 hf_255 => ?_)
          obtain ⟨y_256, rfl, -, -⟩ := tt_vj hv_254
          refine jj_lload C dX2_takeDue_103 rfl ?_
          obtain ⟨y_257, ey_257⟩ : ∃ z : Int64, y_256 - y_140 = z := ⟨_, rfl⟩
          refine jj_lsub (v := y_257) C dX2_takeDue_105 ey_257 ?_
          refine rl_put C hok_252 jk_9 3 (by decide) jw_abb7017335 (t := (1, (-9223372036854775808), 9223372036854775807)) hk1 (by decide) rfl rfl rfl (tt_ja y_257) rfl rfl dX2_takeDue_106 (fun pl_258 hok_259 tr hn tl => ?_)
          replace hf_2 := tr _ _ _ (Or.inr (by decide)) hf_2
          replace hf_135 := tr _ _ _ (Or.inl (tt_ne hk2 hk1 (by decide))) hf_135
          replace hf_142 := tr _ _ _ (Or.inl (tt_ne hk0 hk1 (by decide))) hf_142
          replace hf_242 := tr _ _ _ (Or.inr (by decide)) hf_242
          replace hf_244 := tr _ _ _ (Or.inl (tt_ne hk0 hk1 (by decide))) hf_244
          replace hf_253 := tr _ _ _ (Or.inl (tt_ne hk2 hk1 (by decide))) hf_253
          have hf_260 := hn
          replace hfr := hfr.put hk1 tr (by decide)
          replace hfa := hfa.all tl
          exact jj_vret C ⟨[], pl_258, rfl, rfl, hok_259, hfr, hfa, rfl⟩ dX2_takeDue_109 (jj_le rfl) (jj_le rfl)

