set_option maxHeartbeats 4000000 in
set_option maxRecDepth 100000 in
theorem tc_X3_readWord_2 {l : Launch} (hl : l.stackTraces = false) (D : va_G) (cA : Nat → ClassId) (ak : (Nat → Nat) × (Nat → Nat)) {Kd : Nat → Nat} (h0 : Nat) (hk0 : Kd h0 = 17) {pl0 : va_W} (hok : tt_ok tt_tk cA Kd pl0) : jj_M l D cA ak yX3_readWord (.code yX3_readWord cX3_readWord 2 (some .boolean)) 5 107 0 0 ([] ++ pl0) [.ref h0, .ref (ak.1 3)] (tt_O (fun rx pl1 r => rx = [] ∧ tt_ok tt_tk cA Kd pl1 ∧ tt_fr Kd [(10, 3), (10, 4), (10, 5), (10, 6), (17, 2)] pl0 pl1 ∧ ((r = some (.int 0)) ∨ (r = some (.int 1))))) (tt_OX (fun _ _ _ => False)) := by
  refine jj_start hl (by decide) jw_e40f0ddd13 (jj_le rfl) ?_
  intro p e s m args below meth c A hargs hA C hex hmn
  have hfr := tt_fr.refl (K := Kd) (WS := [(10, 3), (10, 4), (10, 5), (10, 6), (17, 2)]) pl0
  refine jj_aload_n C dX3_readWord_0 rfl ?_
  refine tt_get C hok jk_4 0 (by decide) jw_70cd29f103 (t := (2, 10, 0)) hk0 (by decide) rfl rfl dX3_readWord_1 (fun v_1 hv_1 hf_2 => ?_)
  obtain ⟨a_3, rfl, ka_3⟩ := tt_vr hv_1
  obtain ⟨qc, gs, hqc⟩ := tt_recv (cx := []) hok ka_3 (by decide) rfl
  refine tt_callV (rest := []) C (tc_X9_advance_1 hl D cA ak a_3 ka_3 hok) [] [] rfl rfl (by decide) (by decide) (by decide) qc hqc rfl rfl jw_97c023d194 jw_37f6ee43e0 jw_46baf1fc7b jw_a9e7b602dc jw_0d4db63612 jn_X9_advance rfl (jj_le rfl) (jj_le rfl) (jj_le rfl) (jj_le rfl) (jj_le rfl) dX3_readWord_4 rfl (fun _ _ _ hX => hX.elim) (fun rx pl_4 r O_7 => ?_)
  obtain ⟨rfl, hok_5, hr_6, hR_9⟩ := O_7
  replace hf_2 := hr_6.at hk0 (by decide) (by decide) hf_2
  replace hfr := hfr.trans (hr_6.sub (by decide))
  obtain rfl := hR_9
  refine jj_aload_n C dX3_readWord_7 rfl ?_
  refine jj_aload_n C dX3_readWord_8 rfl ?_
  refine tt_getF C hok_5 jk_4 0 (by decide) jw_70cd29f103 (t := (2, 10, 0)) hk0 (by decide) rfl rfl hf_2 dX3_readWord_9 ?_
  refine jj_aload_n C dX3_readWord_12 rfl ?_
  obtain ⟨qc, gs, hqc⟩ := tt_recv (cx := []) hok_5 ka_3 (by decide) rfl
  refine tt_callV (rest := [.ref h0]) C (tc_X9_isWord_4 hl D cA ak a_3 ka_3 hok_5) [] [] rfl rfl (by decide) (by decide) (by decide) qc hqc rfl rfl jw_b0fe72c6f4 jw_5e9522a00c jw_73cf9edcb7 jw_a9e7b602dc jw_ce1c1f12e9 jn_X9_isWord rfl (jj_le rfl) (jj_le rfl) (jj_le rfl) (jj_le rfl) (jj_le rfl) dX3_readWord_13 rfl (fun _ _ _ hX => hX.elim) (fun rx pl_12 r O_15 => ?_)
  obtain ⟨rfl, hok_13, hr_14, hR_17⟩ := O_15
  replace hf_2 := hr_14.at hk0 (by decide) (by decide) hf_2
  replace hfr := hfr.trans (hr_14.sub (by decide))
  rcases hR_17 with rfl | rfl
  · refine jj_iconst (v := 1) C dX3_readWord_16 (by decide) ?_
    obtain ⟨qc, gs, hqc⟩ := tt_recv (cx := []) hok_13 hk0 (by decide) rfl
    refine tt_callV (rest := []) C (tc_X3_accept_1 hl D cA ak h0 hk0 hok_13) [] [] rfl rfl (by decide) (by decide) (by decide) qc hqc rfl rfl jw_713f4d2af1 jw_b3e457240a jw_58c48ce796 jw_9d546d0b6f jw_0001e2e84f jn_X3_accept rfl (jj_le rfl) (jj_le rfl) (jj_le rfl) (jj_le rfl) (jj_le rfl) dX3_readWord_17 rfl (fun _ _ _ hX => hX.elim) (fun rx pl_20 r O_23 => ?_)
    obtain ⟨rfl, hok_21, hr_22, hR_25⟩ := O_23
    replace hf_2 := hr_22.at hk0 (by decide) (by decide) hf_2
    replace hfr := hfr.trans (hr_22.sub (by decide))
    obtain rfl := hR_25
    exact jj_zret C rfl ⟨[], pl_20, rfl, rfl, hok_21, hfr, (Or.inl rfl)⟩ dX3_readWord_20 (jj_le rfl) (jj_le rfl)
  · refine jj_iconst (v := 1) C dX3_readWord_16 (by decide) ?_
    obtain ⟨qc, gs, hqc⟩ := tt_recv (cx := []) hok_13 hk0 (by decide) rfl
    refine tt_callV (rest := []) C (tc_X3_accept_2 hl D cA ak h0 hk0 hok_13) [] [] rfl rfl (by decide) (by decide) (by decide) qc hqc rfl rfl jw_713f4d2af1 jw_b3e457240a jw_58c48ce796 jw_9d546d0b6f jw_0001e2e84f jn_X3_accept rfl (jj_le rfl) (jj_le rfl) (jj_le rfl) (jj_le rfl) (jj_le rfl) dX3_readWord_17 rfl (fun _ _ _ hX => hX.elim) (fun rx pl_28 r O_31 => ?_)
    obtain ⟨rfl, hok_29, hr_30, hR_33⟩ := O_31
    replace hf_2 := hr_30.at hk0 (by decide) (by decide) hf_2
    replace hfr := hfr.trans (hr_30.sub (by decide))
    obtain rfl := hR_33
    exact jj_zret C rfl ⟨[], pl_28, rfl, rfl, hok_29, hfr, (Or.inr rfl)⟩ dX3_readWord_20 (jj_le rfl) (jj_le rfl)

set_option maxHeartbeats 4000000 in
set_option maxRecDepth 100000 in
theorem tc_X3_readNumber_4 {l : Launch} (hl : l.stackTraces = false) (D : va_G) (cA : Nat → ClassId) (ak : (Nat → Nat) × (Nat → Nat)) {Kd : Nat → Nat} (h0 : Nat) (hk0 : Kd h0 = 17) {pl0 : va_W} (hok : tt_ok tt_tk cA Kd pl0) : jj_M l D cA ak yX3_readNumber (.code yX3_readNumber cX3_readNumber 3 (some .boolean)) 2 41 0 0 ([] ++ pl0) [.ref h0, .int 1, .int 6] (tt_O (fun rx pl1 r => rx = [] ∧ tt_ok tt_tk cA Kd pl1 ∧ tt_fr Kd [(10, 3), (10, 4), (10, 5), (10, 6), (17, 2)] pl0 pl1 ∧ ((r = some (.int 0)) ∨ (r = some (.int 1))))) (tt_OX (fun _ _ _ => False)) := by
  refine jj_start hl (by decide) jw_ad178c7ce3 (jj_le rfl) ?_
  intro p e s m args below meth c A hargs hA C hex hmn
  have hfr := tt_fr.refl (K := Kd) (WS := [(10, 3), (10, 4), (10, 5), (10, 6), (17, 2)]) pl0
  refine jj_aload_n C dX3_readNumber_0 rfl ?_
  refine tt_get C hok jk_4 0 (by decide) jw_70cd29f103 (t := (2, 10, 0)) hk0 (by decide) rfl rfl dX3_readNumber_1 (fun v_1 hv_1 hf_2 => ?_)
  obtain ⟨a_3, rfl, ka_3⟩ := tt_vr hv_1
  obtain ⟨qc, gs, hqc⟩ := tt_recv (cx := []) hok ka_3 (by decide) rfl
  refine tt_callV (rest := []) C (tc_X9_advance_1 hl D cA ak a_3 ka_3 hok) [] [] rfl rfl (by decide) (by decide) (by decide) qc hqc rfl rfl jw_97c023d194 jw_37f6ee43e0 jw_46baf1fc7b jw_a9e7b602dc jw_0d4db63612 jn_X9_advance rfl (jj_le rfl) (jj_le rfl) (jj_le rfl) (jj_le rfl) (jj_le rfl) dX3_readNumber_4 rfl (fun _ _ _ hX => hX.elim) (fun rx pl_4 r O_7 => ?_)
  obtain ⟨rfl, hok_5, hr_6, hR_9⟩ := O_7
  replace hf_2 := hr_6.at hk0 (by decide) (by decide) hf_2
  replace hfr := hfr.trans (hr_6.sub (by decide))
  obtain rfl := hR_9
  refine jj_aload_n C dX3_readNumber_7 rfl ?_
  refine jj_aload_n C dX3_readNumber_8 rfl ?_
  refine tt_getF C hok_5 jk_4 0 (by decide) jw_70cd29f103 (t := (2, 10, 0)) hk0 (by decide) rfl rfl hf_2 dX3_readNumber_9 ?_
  refine tt_get C hok_5 jk_10 5 (by decide) jw_601d0e39ae (t := (0, (-2147483648), 2147483647)) ka_3 (by decide) rfl rfl dX3_readNumber_12 (fun v_12 hv_12 hf_13 => ?_)
  obtain ⟨x_14, rfl, lx_14, ux_14⟩ := tt_vi hv_12
  refine jj_iconst (v := 2) C dX3_readNumber_15 (by decide) ?_
  refine jj_icmp_ne (tgt := 23) C dX3_readNumber_16 (by decide) (fun c_15 => ?_) (fun c_15 => ?_)
  · have z_c_15 := jc_neq (a := (x_14).toInt) (b := (2)) c_15 rfl (by decide)
    refine jj_iconst (v := 0) C dX3_readNumber_23 (by decide) ?_
    refine jj_iconst (v := 1) C dX3_readNumber_24 (by decide) ?_
    obtain ⟨qc, gs, hqc⟩ := tt_recv (cx := []) hok_5 hk0 (by decide) rfl
    refine tt_callV (rest := []) C (tc_X3_accept_1 hl D cA ak h0 hk0 hok_5) [] [] rfl rfl (by decide) (by decide) (by decide) qc hqc rfl rfl jw_713f4d2af1 jw_b3e457240a jw_58c48ce796 jw_9d546d0b6f jw_0001e2e84f jn_X3_accept rfl (jj_le rfl) (jj_le rfl) (jj_le rfl) (jj_le rfl) (jj_le rfl) dX3_readNumber_25 rfl (fun _ _ _ hX => hX.elim) (fun rx pl_16 r O_19 => ?_)
    obtain ⟨rfl, hok_17, hr_18, hR_21⟩ := O_19
    replace hf_2 := hr_18.at hk0 (by decide) (by decide) hf_2
    replace hf_13 := hr_18.at ka_3 (by decide) (by decide) hf_13
    replace hfr := hfr.trans (hr_18.sub (by decide))
    obtain rfl := hR_21
    refine jj_if_eqT (tgt := 70) C dX3_readNumber_28 (by decide) (by decide) ?_
    refine jj_iconst (v := 0) C dX3_readNumber_70 (by decide) ?_
    exact jj_zret C rfl ⟨[], pl_16, rfl, rfl, hok_17, hfr, (Or.inl rfl)⟩ dX3_readNumber_71 (jj_le rfl) (jj_le rfl)
  · have z_c_15 := jc_eq (a := (x_14).toInt) (b := (2)) c_15 rfl (by decide)
    refine jj_iconst (v := 1) C dX3_readNumber_19 (by decide) ?_
    refine jj_goto (tgt := 24) C dX3_readNumber_20 (by decide) ?_
    refine jj_iconst (v := 1) C dX3_readNumber_24 (by decide) ?_
    obtain ⟨qc, gs, hqc⟩ := tt_recv (cx := []) hok_5 hk0 (by decide) rfl
    refine tt_callV (rest := []) C (tc_X3_accept_2 hl D cA ak h0 hk0 hok_5) [] [] rfl rfl (by decide) (by decide) (by decide) qc hqc rfl rfl jw_713f4d2af1 jw_b3e457240a jw_58c48ce796 jw_9d546d0b6f jw_0001e2e84f jn_X3_accept rfl (jj_le rfl) (jj_le rfl) (jj_le rfl) (jj_le rfl) (jj_le rfl) dX3_readNumber_25 rfl (fun _ _ _ hX => hX.elim) (fun rx pl_24 r O_27 => ?_)
    obtain ⟨rfl, hok_25, hr_26, hR_29⟩ := O_27
    replace hf_2 := hr_26.at hk0 (by decide) (by decide) hf_2
    replace hf_13 := hr_26.at ka_3 (by decide) (by decide) hf_13
    replace hfr := hfr.trans (hr_26.sub (by decide))
    obtain rfl := hR_29
    refine jj_if_eqF (tgt := 70) C dX3_readNumber_28 (by decide) (by decide) ?_
    refine jj_aload_n C dX3_readNumber_31 rfl ?_
    refine jj_aload_n C dX3_readNumber_32 rfl ?_
    refine tt_getF C hok_25 jk_4 0 (by decide) jw_70cd29f103 (t := (2, 10, 0)) hk0 (by decide) rfl rfl hf_2 dX3_readNumber_33 ?_
    refine tt_get C hok_25 jk_10 6 (by decide) jw_c96d139a1d (t := (0, (-2147483648), 2147483647)) ka_3 (by decide) rfl rfl dX3_readNumber_36 (fun v_32 hv_32 hf_33 => ?_)
    obtain ⟨x_34, rfl, lx_34, ux_34⟩ := tt_vi hv_32
    refine jj_iload_n C dX3_readNumber_39 rfl ?_
    refine jj_icmp_lt (tgt := 58) C dX3_readNumber_40 (by decide) (fun c_35 => ?_) (fun c_35 => ?_)
    · have z_c_35 := jc_lt (a := (x_34).toInt) (b := (1)) c_35 rfl (by decide)
      refine jj_iconst (v := 0) C dX3_readNumber_58 (by decide) ?_
      refine jj_iconst (v := 2) C dX3_readNumber_59 (by decide) ?_
      obtain ⟨qc, gs, hqc⟩ := tt_recv (cx := []) hok_25 hk0 (by decide) rfl
      refine tt_callV (rest := []) C (tc_X3_accept_3 hl D cA ak h0 hk0 hok_25) [] [] rfl rfl (by decide) (by decide) (by decide) qc hqc rfl rfl jw_713f4d2af1 jw_b3e457240a jw_58c48ce796 jw_9d546d0b6f jw_0001e2e84f jn_X3_accept rfl (jj_le rfl) (jj_le rfl) (jj_le rfl) (jj_le rfl) (jj_le rfl) dX3_readNumber_60 rfl (fun _ _ _ hX => hX.elim) (fun rx pl_36 r O_39 => ?_)
      obtain ⟨rfl, hok_37, hr_38, hR_41⟩ := O_39
      replace hf_2 := hr_38.at hk0 (by decide) (by decide) hf_2
      replace hf_13 := hr_38.at ka_3 (by decide) (by decide) hf_13
      replace hf_33 := hr_38.at ka_3 (by decide) (by decide) hf_33
      replace hfr := hfr.trans (hr_38.sub (by decide))
      obtain rfl := hR_41
      refine jj_if_eqT (tgt := 70) C dX3_readNumber_63 (by decide) (by decide) ?_
      refine jj_iconst (v := 0) C dX3_readNumber_70 (by decide) ?_
      exact jj_zret C rfl ⟨[], pl_36, rfl, rfl, hok_37, hfr, (Or.inl rfl)⟩ dX3_readNumber_71 (jj_le rfl) (jj_le rfl)
    · have z_c_35 := jc_nlt (a := (x_34).toInt) (b := (1)) c_35 rfl (by decide)
      refine jj_aload_n C dX3_readNumber_43 rfl ?_
      refine tt_getF C hok_25 jk_4 0 (by decide) jw_70cd29f103 (t := (2, 10, 0)) hk0 (by decide) rfl rfl hf_2 dX3_readNumber_44 ?_
      refine tt_getF C hok_25 jk_10 6 (by decide) jw_c96d139a1d (t := (0, (-2147483648), 2147483647)) ka_3 (by decide) rfl rfl hf_33 dX3_readNumber_47 ?_
      refine jj_iload_n C dX3_readNumber_50 rfl ?_
      refine jj_icmp_gt (tgt := 58) C dX3_readNumber_51 (by decide) (fun c_44 => ?_) (fun c_44 => ?_)
      · have z_c_44 := jc_lt (a := (6)) (b := (x_34).toInt) c_44 (by decide) rfl
        refine jj_iconst (v := 0) C dX3_readNumber_58 (by decide) ?_
        refine jj_iconst (v := 2) C dX3_readNumber_59 (by decide) ?_
        obtain ⟨qc, gs, hqc⟩ := tt_recv (cx := []) hok_25 hk0 (by decide) rfl
        refine tt_callV (rest := []) C (tc_X3_accept_3 hl D cA ak h0 hk0 hok_25) [] [] rfl rfl (by decide) (by decide) (by decide) qc hqc rfl rfl jw_713f4d2af1 jw_b3e457240a jw_58c48ce796 jw_9d546d0b6f jw_0001e2e84f jn_X3_accept rfl (jj_le rfl) (jj_le rfl) (jj_le rfl) (jj_le rfl) (jj_le rfl) dX3_readNumber_60 rfl (fun _ _ _ hX => hX.elim) (fun rx pl_45 r O_48 => ?_)
        obtain ⟨rfl, hok_46, hr_47, hR_50⟩ := O_48
        replace hf_2 := hr_47.at hk0 (by decide) (by decide) hf_2
        replace hf_13 := hr_47.at ka_3 (by decide) (by decide) hf_13
        replace hf_33 := hr_47.at ka_3 (by decide) (by decide) hf_33
        replace hfr := hfr.trans (hr_47.sub (by decide))
        obtain rfl := hR_50
        refine jj_if_eqT (tgt := 70) C dX3_readNumber_63 (by decide) (by decide) ?_
        refine jj_iconst (v := 0) C dX3_readNumber_70 (by decide) ?_
        exact jj_zret C rfl ⟨[], pl_45, rfl, rfl, hok_46, hfr, (Or.inl rfl)⟩ dX3_readNumber_71 (jj_le rfl) (jj_le rfl)
      · have z_c_44 := jc_nlt (a := (6)) (b := (x_34).toInt) c_44 (by decide) rfl
        refine jj_iconst (v := 1) C dX3_readNumber_54 (by decide) ?_
        refine jj_goto (tgt := 59) C dX3_readNumber_55 (by decide) ?_
        refine jj_iconst (v := 2) C dX3_readNumber_59 (by decide) ?_
        obtain ⟨qc, gs, hqc⟩ := tt_recv (cx := []) hok_25 hk0 (by decide) rfl
        refine tt_callV (rest := []) C (tc_X3_accept_4 hl D cA ak h0 hk0 hok_25) [] [] rfl rfl (by decide) (by decide) (by decide) qc hqc rfl rfl jw_713f4d2af1 jw_b3e457240a jw_58c48ce796 jw_9d546d0b6f jw_0001e2e84f jn_X3_accept rfl (jj_le rfl) (jj_le rfl) (jj_le rfl) (jj_le rfl) (jj_le rfl) dX3_readNumber_60 rfl (fun _ _ _ hX => hX.elim) (fun rx pl_53 r O_56 => ?_)
        obtain ⟨rfl, hok_54, hr_55, hR_58⟩ := O_56
        replace hf_2 := hr_55.at hk0 (by decide) (by decide) hf_2
        replace hf_13 := hr_55.at ka_3 (by decide) (by decide) hf_13
        replace hf_33 := hr_55.at ka_3 (by decide) (by decide) hf_33
        replace hfr := hfr.trans (hr_55.sub (by decide))
        obtain rfl := hR_58
        refine jj_if_eqF (tgt := 70) C dX3_readNumber_63 (by decide) (by decide) ?_
        refine jj_iconst (v := 1) C dX3_readNumber_66 (by decide) ?_
        refine jj_goto (tgt := 71) C dX3_readNumber_67 (by decide) ?_
        exact jj_zret C rfl ⟨[], pl_53, rfl, rfl, hok_54, hfr, (Or.inr rfl)⟩ dX3_readNumber_71 (jj_le rfl) (jj_le rfl)

set_option maxHeartbeats 4000000 in
set_option maxRecDepth 100000 in
theorem tc_X3_readInvestors_1 {l : Launch} (hl : l.stackTraces = false) (D : va_G) (cA : Nat → ClassId) (ak : (Nat → Nat) × (Nat → Nat)) {Kd : Nat → Nat} (h0 : Nat) (hk0 : Kd h0 = 17) {pl0 : va_W} (hok : tt_ok tt_tk cA Kd pl0) : jj_M l D cA ak yX3_readInvestors (.code yX3_readInvestors cX3_readInvestors 1 (some .boolean)) 6 128 0 0 ([] ++ pl0) [.ref h0] (tt_O (fun rx pl1 r => rx = [] ∧ tt_ok tt_tk cA Kd pl1 ∧ tt_fr Kd [(1, 0), (10, 3), (10, 4), (10, 5), (10, 6), (17, 2)] pl0 pl1 ∧ ((r = some (.int 0)) ∨ (r = some (.int 1))))) (tt_OX (fun _ _ _ => False)) := by
  refine jj_start hl (by decide) jw_a68ab282d7 (jj_le rfl) ?_
  intro p e s m args below meth c A hargs hA C hex hmn
  have hfr := tt_fr.refl (K := Kd) (WS := [(1, 0), (10, 3), (10, 4), (10, 5), (10, 6), (17, 2)]) pl0
  refine jj_aload_n C dX3_readInvestors_0 rfl ?_
  refine jj_ldcs (k := 3) (tx := "investors") C dX3_readInvestors_1 (by decide +kernel) ?_
  obtain ⟨qc, gs, hqc⟩ := tt_recv (cx := []) hok hk0 (by decide) rfl
  refine tt_callV (rest := []) C (tc_X3_readWord_2 hl D cA ak h0 hk0 hok) [] [] rfl rfl (by decide) (by decide) (by decide) qc hqc rfl rfl jw_35f0a2113e jw_2bd777f4eb jw_3ef85e294d jw_9d546d0b6f jw_e40f0ddd13 jn_X3_readWord rfl (jj_le rfl) (jj_le rfl) (jj_le rfl) (jj_le rfl) (jj_le rfl) dX3_readInvestors_3 rfl (fun _ _ _ hX => hX.elim) (fun rx pl_1 r O_4 => ?_)
  obtain ⟨rfl, hok_2, hr_3, hR_6⟩ := O_4
  replace hfr := hfr.trans (hr_3.sub (by decide))
  rcases hR_6 with rfl | rfl
  · refine jj_if_eqT (tgt := 19) C dX3_readInvestors_6 (by decide) (by decide) ?_
    refine jj_iconst (v := 0) C dX3_readInvestors_19 (by decide) ?_
    exact jj_zret C rfl ⟨[], pl_1, rfl, rfl, hok_2, hfr, (Or.inl rfl)⟩ dX3_readInvestors_20 (jj_le rfl) (jj_le rfl)
  · refine jj_if_eqF (tgt := 19) C dX3_readInvestors_6 (by decide) (by decide) ?_
    refine jj_aload_n C dX3_readInvestors_9 rfl ?_
    refine jj_iconst (v := 1) C dX3_readInvestors_10 (by decide) ?_
    refine jj_bipush (v := 6) C dX3_readInvestors_11 (by decide) ?_
    obtain ⟨qc, gs, hqc⟩ := tt_recv (cx := []) hok_2 hk0 (by decide) rfl
    refine tt_callV (rest := []) C (tc_X3_readNumber_4 hl D cA ak h0 hk0 hok_2) [] [] rfl rfl (by decide) (by decide) (by decide) qc hqc rfl rfl jw_012f0d7bd3 jw_3c1e5a080b jw_1f143bff8b jw_9d546d0b6f jw_ad178c7ce3 jn_X3_readNumber rfl (jj_le rfl) (jj_le rfl) (jj_le rfl) (jj_le rfl) (jj_le rfl) dX3_readInvestors_13 rfl (fun _ _ _ hX => hX.elim) (fun rx pl_9 r O_12 => ?_)
    obtain ⟨rfl, hok_10, hr_11, hR_14⟩ := O_12
    replace hfr := hfr.trans (hr_11.sub (by decide))
    rcases hR_14 with rfl | rfl
    · refine jj_if_neF (tgt := 21) C dX3_readInvestors_16 (by decide) (by decide) ?_
      refine jj_iconst (v := 0) C dX3_readInvestors_19 (by decide) ?_
      exact jj_zret C rfl ⟨[], pl_9, rfl, rfl, hok_10, hfr, (Or.inl rfl)⟩ dX3_readInvestors_20 (jj_le rfl) (jj_le rfl)
    · refine jj_if_neT (tgt := 21) C dX3_readInvestors_16 (by decide) (by decide) ?_
      refine jj_aload_n C dX3_readInvestors_21 rfl ?_
      refine tt_get C hok_10 jk_4 1 (by decide) jw_bdf52ddf93 (t := (2, 1, 0)) hk0 (by decide) rfl rfl dX3_readInvestors_22 (fun v_17 hv_17 hf_18 => ?_)
      obtain ⟨a_19, rfl, ka_19⟩ := tt_vr hv_17
      refine jj_aload_n C dX3_readInvestors_25 rfl ?_
      refine tt_get C hok_10 jk_4 0 (by decide) jw_70cd29f103 (t := (2, 10, 0)) hk0 (by decide) rfl rfl dX3_readInvestors_26 (fun v_20 hv_20 hf_21 => ?_)
      obtain ⟨a_22, rfl, ka_22⟩ := tt_vr hv_20
      refine tt_get C hok_10 jk_10 6 (by decide) jw_c96d139a1d (t := (0, (-2147483648), 2147483647)) ka_22 (by decide) rfl rfl dX3_readInvestors_29 (fun v_23 hv_23 hf_24 => ?_)
      obtain ⟨x_25, rfl, lx_25, ux_25⟩ := tt_vi hv_23
      refine tt_put C hok_10 jk_2 0 (by decide) jw_b7c31a179b (t := (0, (-2147483648), 2147483647)) ka_19 (by decide) rfl rfl rfl (tt_ia x_25) rfl rfl dX3_readInvestors_32 (fun pl_26 hok_27 tr hn => ?_)
      replace hf_18 := tr _ _ _ (Or.inl (tt_ne hk0 ka_19 (by decide))) hf_18
      replace hf_21 := tr _ _ _ (Or.inl (tt_ne hk0 ka_19 (by decide))) hf_21
      replace hf_24 := tr _ _ _ (Or.inl (tt_ne ka_22 ka_19 (by decide))) hf_24
      have hf_28 := hn
      replace hfr := hfr.put ka_19 tr (by decide)
      refine jj_aload_n C dX3_readInvestors_35 rfl ?_
      obtain ⟨qc, gs, hqc⟩ := tt_recv (cx := []) hok_27 hk0 (by decide) rfl
      refine tt_callV (rest := []) C (tc_X3_readSemicolon_1 hl D cA ak h0 hk0 hok_27) [] [] rfl rfl (by decide) (by decide) (by decide) qc hqc rfl rfl jw_3b321ba845 jw_25d4a051a9 jw_00e33b0681 jw_9d546d0b6f jw_469c7bc0ab jn_X3_readSemicolon rfl (jj_le rfl) (jj_le rfl) (jj_le rfl) (jj_le rfl) (jj_le rfl) dX3_readInvestors_36 rfl (fun _ _ _ hX => hX.elim) (fun rx pl_29 r O_32 => ?_)
      obtain ⟨rfl, hok_30, hr_31, hR_34⟩ := O_32
      replace hf_18 := hr_31.at hk0 (by decide) (by decide) hf_18
      replace hf_21 := hr_31.at hk0 (by decide) (by decide) hf_21
      replace hf_28 := hr_31.at ka_19 (by decide) (by decide) hf_28
      replace hfr := hfr.trans (hr_31.sub (by decide))
      rcases hR_34 with rfl | rfl
      · exact jj_zret C rfl ⟨[], pl_29, rfl, rfl, hok_30, hfr, (Or.inl rfl)⟩ dX3_readInvestors_39 (jj_le rfl) (jj_le rfl)
      · exact jj_zret C rfl ⟨[], pl_29, rfl, rfl, hok_30, hfr, (Or.inr rfl)⟩ dX3_readInvestors_39 (jj_le rfl) (jj_le rfl)

set_option maxHeartbeats 4000000 in
set_option maxRecDepth 100000 in
theorem tc_X9_isWord_5 {l : Launch} (hl : l.stackTraces = false) (D : va_G) (cA : Nat → ClassId) (ak : (Nat → Nat) × (Nat → Nat)) {Kd : Nat → Nat} (h0 : Nat) (hk0 : Kd h0 = 10) {pl0 : va_W} (hok : tt_ok tt_tk cA Kd pl0) : jj_M l D cA ak yX9_isWord (.code yX9_isWord cX9_isWord 3 (some .boolean)) 4 85 0 0 ([] ++ pl0) [.ref h0, .ref (ak.1 4)] (tt_O (fun rx pl1 r => rx = [] ∧ tt_ok tt_tk cA Kd pl1 ∧ tt_fr Kd [] pl0 pl1 ∧ ((r = some (.int 0)) ∨ (r = some (.int 1))))) (tt_OX (fun _ _ _ => False)) := by
  refine jj_start hl (by decide) jw_ce1c1f12e9 (jj_le rfl) ?_
  intro p e s m args below meth c A hargs hA C hex hmn
  have hfr := tt_fr.refl (K := Kd) (WS := []) pl0
  refine jj_aload_n C dX9_isWord_0 rfl ?_
  refine tt_get C hok jk_10 5 (by decide) jw_bde5c0d1a5 (t := (0, (-2147483648), 2147483647)) hk0 (by decide) rfl rfl dX9_isWord_1 (fun v_1 hv_1 hf_2 => ?_)
  obtain ⟨x_3, rfl, lx_3, ux_3⟩ := tt_vi hv_1
  refine jj_iconst (v := 1) C dX9_isWord_4 (by decide) ?_
  refine jj_icmp_ne (tgt := 24) C dX9_isWord_5 (by decide) (fun c_4 => ?_) (fun c_4 => ?_)
  · have z_c_4 := jc_neq (a := (x_3).toInt) (b := (1)) c_4 rfl (by decide)
    refine jj_iconst (v := 0) C dX9_isWord_24 (by decide) ?_
    exact jj_zret C rfl ⟨[], pl0, rfl, rfl, hok, hfr, (Or.inl rfl)⟩ dX9_isWord_25 (jj_le rfl) (jj_le rfl)
  · have z_c_4 := jc_eq (a := (x_3).toInt) (b := (1)) c_4 rfl (by decide)
    refine jj_aload_n C dX9_isWord_8 rfl ?_
    refine tt_get C hok jk_10 3 (by decide) jw_f99bd0ca2b (t := (0, 0, 400)) hk0 (by decide) rfl rfl dX9_isWord_9 (fun v_5 hv_5 hf_6 => ?_)
    obtain ⟨x_7, rfl, lx_7, ux_7⟩ := tt_vi hv_5
    refine jj_aload_n C dX9_isWord_12 rfl ?_
    refine tt_get C hok jk_10 4 (by decide) jw_66bda6962a (t := (0, 0, 400)) hk0 (by decide) rfl rfl dX9_isWord_13 (fun v_8 hv_8 hf_9 => ?_)
    obtain ⟨x_10, rfl, lx_10, ux_10⟩ := tt_vi hv_8
    obtain ⟨x_11, ex_11, vx_11⟩ := tt_isub (x := x_7) (y := x_10) (a := x_7.toInt) rfl (b := x_10.toInt) rfl (by omega) (by omega)
    refine jj_isub (v := x_11) C dX9_isWord_16 ex_11 ?_
    refine jj_aload_n C dX9_isWord_17 rfl ?_
    refine tt_call0Vs (rest := [.int x_11]) C (ct_J0_length_8abf5_5 hl D cA ak) 4 (by decide) rfl jw_f27063fded jw_b1ce304435 jw_d08f03a22e jw_4ea6285965 jw_bbc7045666 jn_J0_length_8abf5 rfl (jj_le rfl) (jj_le rfl) (jj_le rfl) (jj_le rfl) (jj_le rfl) dX9_isWord_18 rfl (fun w1 r O_12 => ?_)
    obtain ⟨-, rfl⟩ := O_12
    refine jj_icmp_eq (tgt := 26) C dX9_isWord_21 (by decide) (fun c_13 => ?_) (fun c_13 => ?_)
    · have z_c_13 := jc_eq (a := (x_11).toInt) (b := (9)) c_13 rfl (by decide)
      refine jj_iconst (v := 0) C dX9_isWord_26 (by decide) ?_
      refine jj_istore_n C dX9_isWord_27 (by decide) rfl ?_
      refine jj_iload_n C dX9_isWord_28 rfl ?_
      refine jj_aload_n C dX9_isWord_29 rfl ?_
      refine tt_call0Vs (rest := [.int 0]) C (ct_J0_length_8abf5_5 hl D cA ak) 4 (by decide) rfl jw_f27063fded jw_b1ce304435 jw_d08f03a22e jw_4ea6285965 jw_bbc7045666 jn_J0_length_8abf5 rfl (jj_le rfl) (jj_le rfl) (jj_le rfl) (jj_le rfl) (jj_le rfl) dX9_isWord_30 rfl (fun w1 r O_14 => ?_)
      obtain ⟨-, rfl⟩ := O_14
      refine jj_icmp_geF (tgt := 63) C dX9_isWord_33 (by decide) (by decide) ?_
      refine jj_aload_n C dX9_isWord_36 rfl ?_
      refine tt_get C hok jk_10 0 (by decide) jw_0664e1e086 (t := (2, 11, 0)) hk0 (by decide) rfl rfl dX9_isWord_37 (fun v_15 hv_15 hf_16 => ?_)
      obtain ⟨a_17, rfl, ka_17⟩ := tt_vr hv_15
      refine jj_aload_n C dX9_isWord_40 rfl ?_
      refine tt_getF C hok jk_10 4 (by decide) jw_66bda6962a (t := (0, 0, 400)) hk0 (by decide) rfl rfl hf_9 dX9_isWord_41 ?_
      refine jj_iload_n C dX9_isWord_44 rfl ?_
      obtain ⟨x_18, ex_18, vx_18⟩ := tt_iadd (x := x_10) (y := (0 : Int32)) (a := x_10.toInt) rfl (b := 0) (by decide) (by omega) (by omega)
      refine jj_iadd (v := x_18) C dX9_isWord_45 ex_18 ?_
      refine tt_cald C hok (t := (0, (-2147483648), 2147483647)) ka_17 (by decide) rfl (vp_in_iff.mpr ⟨by omega, by omega⟩) dX9_isWord_46 (fun v_19 hv_19 => ?_)
      refine jj_aload_n C dX9_isWord_47 rfl ?_
      refine jj_iload_n C dX9_isWord_48 rfl ?_
      refine tt_call0Vs (rest := [.int v_19]) C (ct_J0_charAt_5068e_25 hl D cA ak) 4 (by decide) rfl jw_076e8de8e0 jw_acb9174fef jw_675efe837b jw_4ea6285965 jw_391c0f56bd jn_J0_charAt_5068e rfl (jj_le rfl) (jj_le rfl) (jj_le rfl) (jj_le rfl) (jj_le rfl) dX9_isWord_49 rfl (fun w1 r O_20 => ?_)
      obtain ⟨-, rfl⟩ := O_20
      refine jj_icmp_eq (tgt := 57) C dX9_isWord_52 (by decide) (fun c_21 => ?_) (fun c_21 => ?_)
      · have z_c_21 := jc_eq (a := (v_19).toInt) (b := (115)) c_21 rfl (by decide)
        refine jj_iinc (v := 1) C dX9_isWord_57 rfl (by decide) (by decide) rfl ?_
        refine jj_goto (tgt := 28) C dX9_isWord_60 (by decide) ?_
        refine jj_iload_n C dX9_isWord_28 rfl ?_
        refine jj_aload_n C dX9_isWord_29 rfl ?_
        refine tt_call0Vs (rest := [.int 1]) C (ct_J0_length_8abf5_5 hl D cA ak) 4 (by decide) rfl jw_f27063fded jw_b1ce304435 jw_d08f03a22e jw_4ea6285965 jw_bbc7045666 jn_J0_length_8abf5 rfl (jj_le rfl) (jj_le rfl) (jj_le rfl) (jj_le rfl) (jj_le rfl) dX9_isWord_30 rfl (fun w1 r O_22 => ?_)
        obtain ⟨-, rfl⟩ := O_22
        refine jj_icmp_geF (tgt := 63) C dX9_isWord_33 (by decide) (by decide) ?_
        refine jj_aload_n C dX9_isWord_36 rfl ?_
        refine tt_getF C hok jk_10 0 (by decide) jw_0664e1e086 (t := (2, 11, 0)) hk0 (by decide) rfl rfl hf_16 dX9_isWord_37 ?_
        refine jj_aload_n C dX9_isWord_40 rfl ?_
        refine tt_getF C hok jk_10 4 (by decide) jw_66bda6962a (t := (0, 0, 400)) hk0 (by decide) rfl rfl hf_9 dX9_isWord_41 ?_
        refine jj_iload_n C dX9_isWord_44 rfl ?_
        obtain ⟨x_23, ex_23, vx_23⟩ := tt_iadd (x := x_10) (y := (1 : Int32)) (a := x_10.toInt) rfl (b := 1) (by decide) (by omega) (by omega)
        refine jj_iadd (v := x_23) C dX9_isWord_45 ex_23 ?_
        refine tt_cald C hok (t := (0, (-2147483648), 2147483647)) ka_17 (by decide) rfl (vp_in_iff.mpr ⟨by omega, by omega⟩) dX9_isWord_46 (fun v_24 hv_24 => ?_)
        refine jj_aload_n C dX9_isWord_47 rfl ?_
        refine jj_iload_n C dX9_isWord_48 rfl ?_
        refine tt_call0Vs (rest := [.int v_24]) C (ct_J0_charAt_5068e_26 hl D cA ak) 4 (by decide) rfl jw_076e8de8e0 jw_acb9174fef jw_675efe837b jw_4ea6285965 jw_391c0f56bd jn_J0_charAt_5068e rfl (jj_le rfl) (jj_le rfl) (jj_le rfl) (jj_le rfl) (jj_le rfl) dX9_isWord_49 rfl (fun w1 r O_25 => ?_)
        obtain ⟨-, rfl⟩ := O_25
        refine jj_icmp_eq (tgt := 57) C dX9_isWord_52 (by decide) (fun c_26 => ?_) (fun c_26 => ?_)
        · have z_c_26 := jc_eq (a := (v_24).toInt) (b := (117)) c_26 rfl (by decide)
          refine jj_iinc (v := 2) C dX9_isWord_57 rfl (by decide) (by decide) rfl ?_
          refine jj_goto (tgt := 28) C dX9_isWord_60 (by decide) ?_
          refine jj_iload_n C dX9_isWord_28 rfl ?_
          refine jj_aload_n C dX9_isWord_29 rfl ?_
          refine tt_call0Vs (rest := [.int 2]) C (ct_J0_length_8abf5_5 hl D cA ak) 4 (by decide) rfl jw_f27063fded jw_b1ce304435 jw_d08f03a22e jw_4ea6285965 jw_bbc7045666 jn_J0_length_8abf5 rfl (jj_le rfl) (jj_le rfl) (jj_le rfl) (jj_le rfl) (jj_le rfl) dX9_isWord_30 rfl (fun w1 r O_27 => ?_)
          obtain ⟨-, rfl⟩ := O_27
          refine jj_icmp_geF (tgt := 63) C dX9_isWord_33 (by decide) (by decide) ?_
          refine jj_aload_n C dX9_isWord_36 rfl ?_
          refine tt_getF C hok jk_10 0 (by decide) jw_0664e1e086 (t := (2, 11, 0)) hk0 (by decide) rfl rfl hf_16 dX9_isWord_37 ?_
          refine jj_aload_n C dX9_isWord_40 rfl ?_
          refine tt_getF C hok jk_10 4 (by decide) jw_66bda6962a (t := (0, 0, 400)) hk0 (by decide) rfl rfl hf_9 dX9_isWord_41 ?_
          refine jj_iload_n C dX9_isWord_44 rfl ?_
          obtain ⟨x_28, ex_28, vx_28⟩ := tt_iadd (x := x_10) (y := (2 : Int32)) (a := x_10.toInt) rfl (b := 2) (by decide) (by omega) (by omega)
          refine jj_iadd (v := x_28) C dX9_isWord_45 ex_28 ?_
          refine tt_cald C hok (t := (0, (-2147483648), 2147483647)) ka_17 (by decide) rfl (vp_in_iff.mpr ⟨by omega, by omega⟩) dX9_isWord_46 (fun v_29 hv_29 => ?_)
          refine jj_aload_n C dX9_isWord_47 rfl ?_
          refine jj_iload_n C dX9_isWord_48 rfl ?_
          refine tt_call0Vs (rest := [.int v_29]) C (ct_J0_charAt_5068e_27 hl D cA ak) 4 (by decide) rfl jw_076e8de8e0 jw_acb9174fef jw_675efe837b jw_4ea6285965 jw_391c0f56bd jn_J0_charAt_5068e rfl (jj_le rfl) (jj_le rfl) (jj_le rfl) (jj_le rfl) (jj_le rfl) dX9_isWord_49 rfl (fun w1 r O_30 => ?_)
          obtain ⟨-, rfl⟩ := O_30
          refine jj_icmp_eq (tgt := 57) C dX9_isWord_52 (by decide) (fun c_31 => ?_) (fun c_31 => ?_)
          · have z_c_31 := jc_eq (a := (v_29).toInt) (b := (98)) c_31 rfl (by decide)
            refine jj_iinc (v := 3) C dX9_isWord_57 rfl (by decide) (by decide) rfl ?_
            refine jj_goto (tgt := 28) C dX9_isWord_60 (by decide) ?_
            refine jj_iload_n C dX9_isWord_28 rfl ?_
            refine jj_aload_n C dX9_isWord_29 rfl ?_
            refine tt_call0Vs (rest := [.int 3]) C (ct_J0_length_8abf5_5 hl D cA ak) 4 (by decide) rfl jw_f27063fded jw_b1ce304435 jw_d08f03a22e jw_4ea6285965 jw_bbc7045666 jn_J0_length_8abf5 rfl (jj_le rfl) (jj_le rfl) (jj_le rfl) (jj_le rfl) (jj_le rfl) dX9_isWord_30 rfl (fun w1 r O_32 => ?_)
            obtain ⟨-, rfl⟩ := O_32
            refine jj_icmp_geF (tgt := 63) C dX9_isWord_33 (by decide) (by decide) ?_
            refine jj_aload_n C dX9_isWord_36 rfl ?_
            refine tt_getF C hok jk_10 0 (by decide) jw_0664e1e086 (t := (2, 11, 0)) hk0 (by decide) rfl rfl hf_16 dX9_isWord_37 ?_
            refine jj_aload_n C dX9_isWord_40 rfl ?_
            refine tt_getF C hok jk_10 4 (by decide) jw_66bda6962a (t := (0, 0, 400)) hk0 (by decide) rfl rfl hf_9 dX9_isWord_41 ?_
            refine jj_iload_n C dX9_isWord_44 rfl ?_
            obtain ⟨x_33, ex_33, vx_33⟩ := tt_iadd (x := x_10) (y := (3 : Int32)) (a := x_10.toInt) rfl (b := 3) (by decide) (by omega) (by omega)
            refine jj_iadd (v := x_33) C dX9_isWord_45 ex_33 ?_
            refine tt_cald C hok (t := (0, (-2147483648), 2147483647)) ka_17 (by decide) rfl (vp_in_iff.mpr ⟨by omega, by omega⟩) dX9_isWord_46 (fun v_34 hv_34 => ?_)
            refine jj_aload_n C dX9_isWord_47 rfl ?_
            refine jj_iload_n C dX9_isWord_48 rfl ?_
            refine tt_call0Vs (rest := [.int v_34]) C (ct_J0_charAt_5068e_28 hl D cA ak) 4 (by decide) rfl jw_076e8de8e0 jw_acb9174fef jw_675efe837b jw_4ea6285965 jw_391c0f56bd jn_J0_charAt_5068e rfl (jj_le rfl) (jj_le rfl) (jj_le rfl) (jj_le rfl) (jj_le rfl) dX9_isWord_49 rfl (fun w1 r O_35 => ?_)
            obtain ⟨-, rfl⟩ := O_35
            refine jj_icmp_eq (tgt := 57) C dX9_isWord_52 (by decide) (fun c_36 => ?_) (fun c_36 => ?_)
            · have z_c_36 := jc_eq (a := (v_34).toInt) (b := (115)) c_36 rfl (by decide)
              refine jj_iinc (v := 4) C dX9_isWord_57 rfl (by decide) (by decide) rfl ?_
              refine jj_goto (tgt := 28) C dX9_isWord_60 (by decide) ?_
              refine jj_iload_n C dX9_isWord_28 rfl ?_
              refine jj_aload_n C dX9_isWord_29 rfl ?_
              refine tt_call0Vs (rest := [.int 4]) C (ct_J0_length_8abf5_5 hl D cA ak) 4 (by decide) rfl jw_f27063fded jw_b1ce304435 jw_d08f03a22e jw_4ea6285965 jw_bbc7045666 jn_J0_length_8abf5 rfl (jj_le rfl) (jj_le rfl) (jj_le rfl) (jj_le rfl) (jj_le rfl) dX9_isWord_30 rfl (fun w1 r O_37 => ?_)
              obtain ⟨-, rfl⟩ := O_37
              refine jj_icmp_geF (tgt := 63) C dX9_isWord_33 (by decide) (by decide) ?_
              refine jj_aload_n C dX9_isWord_36 rfl ?_
              refine tt_getF C hok jk_10 0 (by decide) jw_0664e1e086 (t := (2, 11, 0)) hk0 (by decide) rfl rfl hf_16 dX9_isWord_37 ?_
              refine jj_aload_n C dX9_isWord_40 rfl ?_
              refine tt_getF C hok jk_10 4 (by decide) jw_66bda6962a (t := (0, 0, 400)) hk0 (by decide) rfl rfl hf_9 dX9_isWord_41 ?_
              refine jj_iload_n C dX9_isWord_44 rfl ?_
              obtain ⟨x_38, ex_38, vx_38⟩ := tt_iadd (x := x_10) (y := (4 : Int32)) (a := x_10.toInt) rfl (b := 4) (by decide) (by omega) (by omega)
              refine jj_iadd (v := x_38) C dX9_isWord_45 ex_38 ?_
              refine tt_cald C hok (t := (0, (-2147483648), 2147483647)) ka_17 (by decide) rfl (vp_in_iff.mpr ⟨by omega, by omega⟩) dX9_isWord_46 (fun v_39 hv_39 => ?_)
              refine jj_aload_n C dX9_isWord_47 rfl ?_
              refine jj_iload_n C dX9_isWord_48 rfl ?_
              refine tt_call0Vs (rest := [.int v_39]) C (ct_J0_charAt_5068e_29 hl D cA ak) 4 (by decide) rfl jw_076e8de8e0 jw_acb9174fef jw_675efe837b jw_4ea6285965 jw_391c0f56bd jn_J0_charAt_5068e rfl (jj_le rfl) (jj_le rfl) (jj_le rfl) (jj_le rfl) (jj_le rfl) dX9_isWord_49 rfl (fun w1 r O_40 => ?_)
              obtain ⟨-, rfl⟩ := O_40
              refine jj_icmp_eq (tgt := 57) C dX9_isWord_52 (by decide) (fun c_41 => ?_) (fun c_41 => ?_)
              · have z_c_41 := jc_eq (a := (v_39).toInt) (b := (99)) c_41 rfl (by decide)
                refine jj_iinc (v := 5) C dX9_isWord_57 rfl (by decide) (by decide) rfl ?_
                refine jj_goto (tgt := 28) C dX9_isWord_60 (by decide) ?_
                refine jj_iload_n C dX9_isWord_28 rfl ?_
                refine jj_aload_n C dX9_isWord_29 rfl ?_
                refine tt_call0Vs (rest := [.int 5]) C (ct_J0_length_8abf5_5 hl D cA ak) 4 (by decide) rfl jw_f27063fded jw_b1ce304435 jw_d08f03a22e jw_4ea6285965 jw_bbc7045666 jn_J0_length_8abf5 rfl (jj_le rfl) (jj_le rfl) (jj_le rfl) (jj_le rfl) (jj_le rfl) dX9_isWord_30 rfl (fun w1 r O_42 => ?_)
                obtain ⟨-, rfl⟩ := O_42
                refine jj_icmp_geF (tgt := 63) C dX9_isWord_33 (by decide) (by decide) ?_
                refine jj_aload_n C dX9_isWord_36 rfl ?_
                refine tt_getF C hok jk_10 0 (by decide) jw_0664e1e086 (t := (2, 11, 0)) hk0 (by decide) rfl rfl hf_16 dX9_isWord_37 ?_
                refine jj_aload_n C dX9_isWord_40 rfl ?_
                refine tt_getF C hok jk_10 4 (by decide) jw_66bda6962a (t := (0, 0, 400)) hk0 (by decide) rfl rfl hf_9 dX9_isWord_41 ?_
                refine jj_iload_n C dX9_isWord_44 rfl ?_
                obtain ⟨x_43, ex_43, vx_43⟩ := tt_iadd (x := x_10) (y := (5 : Int32)) (a := x_10.toInt) rfl (b := 5) (by decide) (by omega) (by omega)
                refine jj_iadd (v := x_43) C dX9_isWord_45 ex_43 ?_
                refine tt_cald C hok (t := (0, (-2147483648), 2147483647)) ka_17 (by decide) rfl (vp_in_iff.mpr ⟨by omega, by omega⟩) dX9_isWord_46 (fun v_44 hv_44 => ?_)
                refine jj_aload_n C dX9_isWord_47 rfl ?_
                refine jj_iload_n C dX9_isWord_48 rfl ?_
                refine tt_call0Vs (rest := [.int v_44]) C (ct_J0_charAt_5068e_30 hl D cA ak) 4 (by decide) rfl jw_076e8de8e0 jw_acb9174fef jw_675efe837b jw_4ea6285965 jw_391c0f56bd jn_J0_charAt_5068e rfl (jj_le rfl) (jj_le rfl) (jj_le rfl) (jj_le rfl) (jj_le rfl) dX9_isWord_49 rfl (fun w1 r O_45 => ?_)
                obtain ⟨-, rfl⟩ := O_45
                refine jj_icmp_eq (tgt := 57) C dX9_isWord_52 (by decide) (fun c_46 => ?_) (fun c_46 => ?_)
                · have z_c_46 := jc_eq (a := (v_44).toInt) (b := (114)) c_46 rfl (by decide)
                  refine jj_iinc (v := 6) C dX9_isWord_57 rfl (by decide) (by decide) rfl ?_
                  refine jj_goto (tgt := 28) C dX9_isWord_60 (by decide) ?_
                  refine jj_iload_n C dX9_isWord_28 rfl ?_
                  refine jj_aload_n C dX9_isWord_29 rfl ?_
                  refine tt_call0Vs (rest := [.int 6]) C (ct_J0_length_8abf5_5 hl D cA ak) 4 (by decide) rfl jw_f27063fded jw_b1ce304435 jw_d08f03a22e jw_4ea6285965 jw_bbc7045666 jn_J0_length_8abf5 rfl (jj_le rfl) (jj_le rfl) (jj_le rfl) (jj_le rfl) (jj_le rfl) dX9_isWord_30 rfl (fun w1 r O_47 => ?_)
                  obtain ⟨-, rfl⟩ := O_47
                  refine jj_icmp_geF (tgt := 63) C dX9_isWord_33 (by decide) (by decide) ?_
                  refine jj_aload_n C dX9_isWord_36 rfl ?_
                  refine tt_getF C hok jk_10 0 (by decide) jw_0664e1e086 (t := (2, 11, 0)) hk0 (by decide) rfl rfl hf_16 dX9_isWord_37 ?_
                  refine jj_aload_n C dX9_isWord_40 rfl ?_
                  refine tt_getF C hok jk_10 4 (by decide) jw_66bda6962a (t := (0, 0, 400)) hk0 (by decide) rfl rfl hf_9 dX9_isWord_41 ?_
                  refine jj_iload_n C dX9_isWord_44 rfl ?_
                  obtain ⟨x_48, ex_48, vx_48⟩ := tt_iadd (x := x_10) (y := (6 : Int32)) (a := x_10.toInt) rfl (b := 6) (by decide) (by omega) (by omega)
                  refine jj_iadd (v := x_48) C dX9_isWord_45 ex_48 ?_
                  refine tt_cald C hok (t := (0, (-2147483648), 2147483647)) ka_17 (by decide) rfl (vp_in_iff.mpr ⟨by omega, by omega⟩) dX9_isWord_46 (fun v_49 hv_49 => ?_)
                  refine jj_aload_n C dX9_isWord_47 rfl ?_
                  refine jj_iload_n C dX9_isWord_48 rfl ?_
                  refine tt_call0Vs (rest := [.int v_49]) C (ct_J0_charAt_5068e_31 hl D cA ak) 4 (by decide) rfl jw_076e8de8e0 jw_acb9174fef jw_675efe837b jw_4ea6285965 jw_391c0f56bd jn_J0_charAt_5068e rfl (jj_le rfl) (jj_le rfl) (jj_le rfl) (jj_le rfl) (jj_le rfl) dX9_isWord_49 rfl (fun w1 r O_50 => ?_)
                  obtain ⟨-, rfl⟩ := O_50
                  refine jj_icmp_eq (tgt := 57) C dX9_isWord_52 (by decide) (fun c_51 => ?_) (fun c_51 => ?_)
                  · have z_c_51 := jc_eq (a := (v_49).toInt) (b := (105)) c_51 rfl (by decide)
                    refine jj_iinc (v := 7) C dX9_isWord_57 rfl (by decide) (by decide) rfl ?_
                    refine jj_goto (tgt := 28) C dX9_isWord_60 (by decide) ?_
                    refine jj_iload_n C dX9_isWord_28 rfl ?_
                    refine jj_aload_n C dX9_isWord_29 rfl ?_
                    refine tt_call0Vs (rest := [.int 7]) C (ct_J0_length_8abf5_5 hl D cA ak) 4 (by decide) rfl jw_f27063fded jw_b1ce304435 jw_d08f03a22e jw_4ea6285965 jw_bbc7045666 jn_J0_length_8abf5 rfl (jj_le rfl) (jj_le rfl) (jj_le rfl) (jj_le rfl) (jj_le rfl) dX9_isWord_30 rfl (fun w1 r O_52 => ?_)
                    obtain ⟨-, rfl⟩ := O_52
                    refine jj_icmp_geF (tgt := 63) C dX9_isWord_33 (by decide) (by decide) ?_
                    refine jj_aload_n C dX9_isWord_36 rfl ?_
                    refine tt_getF C hok jk_10 0 (by decide) jw_0664e1e086 (t := (2, 11, 0)) hk0 (by decide) rfl rfl hf_16 dX9_isWord_37 ?_
                    refine jj_aload_n C dX9_isWord_40 rfl ?_
                    refine tt_getF C hok jk_10 4 (by decide) jw_66bda6962a (t := (0, 0, 400)) hk0 (by decide) rfl rfl hf_9 dX9_isWord_41 ?_
                    refine jj_iload_n C dX9_isWord_44 rfl ?_
                    obtain ⟨x_53, ex_53, vx_53⟩ := tt_iadd (x := x_10) (y := (7 : Int32)) (a := x_10.toInt) rfl (b := 7) (by decide) (by omega) (by omega)
                    refine jj_iadd (v := x_53) C dX9_isWord_45 ex_53 ?_
                    refine tt_cald C hok (t := (0, (-2147483648), 2147483647)) ka_17 (by decide) rfl (vp_in_iff.mpr ⟨by omega, by omega⟩) dX9_isWord_46 (fun v_54 hv_54 => ?_)
                    refine jj_aload_n C dX9_isWord_47 rfl ?_
                    refine jj_iload_n C dX9_isWord_48 rfl ?_
                    refine tt_call0Vs (rest := [.int v_54]) C (ct_J0_charAt_5068e_32 hl D cA ak) 4 (by decide) rfl jw_076e8de8e0 jw_acb9174fef jw_675efe837b jw_4ea6285965 jw_391c0f56bd jn_J0_charAt_5068e rfl (jj_le rfl) (jj_le rfl) (jj_le rfl) (jj_le rfl) (jj_le rfl) dX9_isWord_49 rfl (fun w1 r O_55 => ?_)
                    obtain ⟨-, rfl⟩ := O_55
                    refine jj_icmp_eq (tgt := 57) C dX9_isWord_52 (by decide) (fun c_56 => ?_) (fun c_56 => ?_)
                    · have z_c_56 := jc_eq (a := (v_54).toInt) (b := (98)) c_56 rfl (by decide)
                      refine jj_iinc (v := 8) C dX9_isWord_57 rfl (by decide) (by decide) rfl ?_
                      refine jj_goto (tgt := 28) C dX9_isWord_60 (by decide) ?_
                      refine jj_iload_n C dX9_isWord_28 rfl ?_
                      refine jj_aload_n C dX9_isWord_29 rfl ?_
                      refine tt_call0Vs (rest := [.int 8]) C (ct_J0_length_8abf5_5 hl D cA ak) 4 (by decide) rfl jw_f27063fded jw_b1ce304435 jw_d08f03a22e jw_4ea6285965 jw_bbc7045666 jn_J0_length_8abf5 rfl (jj_le rfl) (jj_le rfl) (jj_le rfl) (jj_le rfl) (jj_le rfl) dX9_isWord_30 rfl (fun w1 r O_57 => ?_)
                      obtain ⟨-, rfl⟩ := O_57
                      refine jj_icmp_geF (tgt := 63) C dX9_isWord_33 (by decide) (by decide) ?_
                      refine jj_aload_n C dX9_isWord_36 rfl ?_
                      refine tt_getF C hok jk_10 0 (by decide) jw_0664e1e086 (t := (2, 11, 0)) hk0 (by decide) rfl rfl hf_16 dX9_isWord_37 ?_
                      refine jj_aload_n C dX9_isWord_40 rfl ?_
                      refine tt_getF C hok jk_10 4 (by decide) jw_66bda6962a (t := (0, 0, 400)) hk0 (by decide) rfl rfl hf_9 dX9_isWord_41 ?_
                      refine jj_iload_n C dX9_isWord_44 rfl ?_
                      obtain ⟨x_58, ex_58, vx_58⟩ := tt_iadd (x := x_10) (y := (8 : Int32)) (a := x_10.toInt) rfl (b := 8) (by decide) (by omega) (by omega)
                      refine jj_iadd (v := x_58) C dX9_isWord_45 ex_58 ?_
                      refine tt_cald C hok (t := (0, (-2147483648), 2147483647)) ka_17 (by decide) rfl (vp_in_iff.mpr ⟨by omega, by omega⟩) dX9_isWord_46 (fun v_59 hv_59 => ?_)
                      refine jj_aload_n C dX9_isWord_47 rfl ?_
                      refine jj_iload_n C dX9_isWord_48 rfl ?_
                      refine tt_call0Vs (rest := [.int v_59]) C (ct_J0_charAt_5068e_33 hl D cA ak) 4 (by decide) rfl jw_076e8de8e0 jw_acb9174fef jw_675efe837b jw_4ea6285965 jw_391c0f56bd jn_J0_charAt_5068e rfl (jj_le rfl) (jj_le rfl) (jj_le rfl) (jj_le rfl) (jj_le rfl) dX9_isWord_49 rfl (fun w1 r O_60 => ?_)
                      obtain ⟨-, rfl⟩ := O_60
                      refine jj_icmp_eq (tgt := 57) C dX9_isWord_52 (by decide) (fun c_61 => ?_) (fun c_61 => ?_)
                      · have z_c_61 := jc_eq (a := (v_59).toInt) (b := (101)) c_61 rfl (by decide)
                        refine jj_iinc (v := 9) C dX9_isWord_57 rfl (by decide) (by decide) rfl ?_
                        refine jj_goto (tgt := 28) C dX9_isWord_60 (by decide) ?_
                        refine jj_iload_n C dX9_isWord_28 rfl ?_
                        refine jj_aload_n C dX9_isWord_29 rfl ?_
                        refine tt_call0Vs (rest := [.int 9]) C (ct_J0_length_8abf5_5 hl D cA ak) 4 (by decide) rfl jw_f27063fded jw_b1ce304435 jw_d08f03a22e jw_4ea6285965 jw_bbc7045666 jn_J0_length_8abf5 rfl (jj_le rfl) (jj_le rfl) (jj_le rfl) (jj_le rfl) (jj_le rfl) dX9_isWord_30 rfl (fun w1 r O_62 => ?_)
                        obtain ⟨-, rfl⟩ := O_62
                        refine jj_icmp_geT (tgt := 63) C dX9_isWord_33 (by decide) (by decide) ?_
                        refine jj_iconst (v := 1) C dX9_isWord_63 (by decide) ?_
                        exact jj_zret C rfl ⟨[], pl0, rfl, rfl, hok, hfr, (Or.inr rfl)⟩ dX9_isWord_64 (jj_le rfl) (jj_le rfl)
                      · have z_c_61 := jc_neq (a := (v_59).toInt) (b := (101)) c_61 rfl (by decide)
                        refine jj_iconst (v := 0) C dX9_isWord_55 (by decide) ?_
                        exact jj_zret C rfl ⟨[], pl0, rfl, rfl, hok, hfr, (Or.inl rfl)⟩ dX9_isWord_56 (jj_le rfl) (jj_le rfl)
                    · have z_c_56 := jc_neq (a := (v_54).toInt) (b := (98)) c_56 rfl (by decide)
                      refine jj_iconst (v := 0) C dX9_isWord_55 (by decide) ?_
                      exact jj_zret C rfl ⟨[], pl0, rfl, rfl, hok, hfr, (Or.inl rfl)⟩ dX9_isWord_56 (jj_le rfl) (jj_le rfl)
                  · have z_c_51 := jc_neq (a := (v_49).toInt) (b := (105)) c_51 rfl (by decide)
                    refine jj_iconst (v := 0) C dX9_isWord_55 (by decide) ?_
                    exact jj_zret C rfl ⟨[], pl0, rfl, rfl, hok, hfr, (Or.inl rfl)⟩ dX9_isWord_56 (jj_le rfl) (jj_le rfl)
                · have z_c_46 := jc_neq (a := (v_44).toInt) (b := (114)) c_46 rfl (by decide)
                  refine jj_iconst (v := 0) C dX9_isWord_55 (by decide) ?_
                  exact jj_zret C rfl ⟨[], pl0, rfl, rfl, hok, hfr, (Or.inl rfl)⟩ dX9_isWord_56 (jj_le rfl) (jj_le rfl)
              · have z_c_41 := jc_neq (a := (v_39).toInt) (b := (99)) c_41 rfl (by decide)
                refine jj_iconst (v := 0) C dX9_isWord_55 (by decide) ?_
                exact jj_zret C rfl ⟨[], pl0, rfl, rfl, hok, hfr, (Or.inl rfl)⟩ dX9_isWord_56 (jj_le rfl) (jj_le rfl)
            · have z_c_36 := jc_neq (a := (v_34).toInt) (b := (115)) c_36 rfl (by decide)
              refine jj_iconst (v := 0) C dX9_isWord_55 (by decide) ?_
              exact jj_zret C rfl ⟨[], pl0, rfl, rfl, hok, hfr, (Or.inl rfl)⟩ dX9_isWord_56 (jj_le rfl) (jj_le rfl)
          · have z_c_31 := jc_neq (a := (v_29).toInt) (b := (98)) c_31 rfl (by decide)
            refine jj_iconst (v := 0) C dX9_isWord_55 (by decide) ?_
            exact jj_zret C rfl ⟨[], pl0, rfl, rfl, hok, hfr, (Or.inl rfl)⟩ dX9_isWord_56 (jj_le rfl) (jj_le rfl)
        · have z_c_26 := jc_neq (a := (v_24).toInt) (b := (117)) c_26 rfl (by decide)
          refine jj_iconst (v := 0) C dX9_isWord_55 (by decide) ?_
          exact jj_zret C rfl ⟨[], pl0, rfl, rfl, hok, hfr, (Or.inl rfl)⟩ dX9_isWord_56 (jj_le rfl) (jj_le rfl)
      · have z_c_21 := jc_neq (a := (v_19).toInt) (b := (115)) c_21 rfl (by decide)
        refine jj_iconst (v := 0) C dX9_isWord_55 (by decide) ?_
        exact jj_zret C rfl ⟨[], pl0, rfl, rfl, hok, hfr, (Or.inl rfl)⟩ dX9_isWord_56 (jj_le rfl) (jj_le rfl)
    · have z_c_13 := jc_neq (a := (x_11).toInt) (b := (9)) c_13 rfl (by decide)
      refine jj_iconst (v := 0) C dX9_isWord_24 (by decide) ?_
      exact jj_zret C rfl ⟨[], pl0, rfl, rfl, hok, hfr, (Or.inl rfl)⟩ dX9_isWord_25 (jj_le rfl) (jj_le rfl)

set_option maxHeartbeats 4000000 in
set_option maxRecDepth 100000 in
theorem tc_X3_accept_5 {l : Launch} (hl : l.stackTraces = false) (D : va_G) (cA : Nat → ClassId) (ak : (Nat → Nat) × (Nat → Nat)) {Kd : Nat → Nat} (h0 : Nat) (hk0 : Kd h0 = 17) {pl0 : va_W} (hok : tt_ok tt_tk cA Kd pl0) : jj_M l D cA ak yX3_accept (.code yX3_accept cX3_accept 3 (some .boolean)) 0 0 0 0 ([] ++ pl0) [.ref h0, .int 1, .int 3] (tt_O (fun rx pl1 r => rx = [] ∧ tt_ok tt_tk cA Kd pl1 ∧ tt_fr Kd [] pl0 pl1 ∧ ((r = some (.int 1))))) (tt_OX (fun _ _ _ => False)) := by
  refine jj_start hl (by decide) jw_0001e2e84f (jj_le rfl) ?_
  intro p e s m args below meth c A hargs hA C hex hmn
  have hfr := tt_fr.refl (K := Kd) (WS := []) pl0
  refine jj_iload_n C dX3_accept_0 rfl ?_
  refine jj_if_neT (tgt := 9) C dX3_accept_1 (by decide) (by decide) ?_
  refine jj_iload_n C dX3_accept_9 rfl ?_
  exact jj_zret C rfl ⟨[], pl0, rfl, rfl, hok, hfr, rfl⟩ dX3_accept_10 (jj_le rfl) (jj_le rfl)

set_option maxHeartbeats 4000000 in
set_option maxRecDepth 100000 in
theorem tc_X3_readNumber_5 {l : Launch} (hl : l.stackTraces = false) (D : va_G) (cA : Nat → ClassId) (ak : (Nat → Nat) × (Nat → Nat)) {Kd : Nat → Nat} (h0 : Nat) (p2 : Int32) (hk0 : Kd h0 = 17) {pl0 : va_W} (hok : tt_ok tt_tk cA Kd pl0) : jj_M l D cA ak yX3_readNumber (.code yX3_readNumber cX3_readNumber 3 (some .boolean)) 2 41 0 0 ([] ++ pl0) [.ref h0, .int 0, .int p2] (tt_O (fun rx pl1 r => rx = [] ∧ tt_ok tt_tk cA Kd pl1 ∧ tt_fr Kd [(10, 3), (10, 4), (10, 5), (10, 6), (17, 2)] pl0 pl1 ∧ ((r = some (.int 0)) ∨ ((0 : Int) ≤ p2.toInt ∧ p2.toInt ≤ 2147483647 ∧ r = some (.int 1))))) (tt_OX (fun _ _ _ => False)) := by
  refine jj_start hl (by decide) jw_ad178c7ce3 (jj_le rfl) ?_
  intro p e s m args below meth c A hargs hA C hex hmn
  have hfr := tt_fr.refl (K := Kd) (WS := [(10, 3), (10, 4), (10, 5), (10, 6), (17, 2)]) pl0
  have lp2 := tt_lo p2
  have up2 := tt_hi p2
  refine jj_aload_n C dX3_readNumber_0 rfl ?_
  refine tt_get C hok jk_4 0 (by decide) jw_70cd29f103 (t := (2, 10, 0)) hk0 (by decide) rfl rfl dX3_readNumber_1 (fun v_1 hv_1 hf_2 => ?_)
  obtain ⟨a_3, rfl, ka_3⟩ := tt_vr hv_1
  obtain ⟨qc, gs, hqc⟩ := tt_recv (cx := []) hok ka_3 (by decide) rfl
  refine tt_callV (rest := []) C (tc_X9_advance_1 hl D cA ak a_3 ka_3 hok) [] [] rfl rfl (by decide) (by decide) (by decide) qc hqc rfl rfl jw_97c023d194 jw_37f6ee43e0 jw_46baf1fc7b jw_a9e7b602dc jw_0d4db63612 jn_X9_advance rfl (jj_le rfl) (jj_le rfl) (jj_le rfl) (jj_le rfl) (jj_le rfl) dX3_readNumber_4 rfl (fun _ _ _ hX => hX.elim) (fun rx pl_4 r O_7 => ?_)
  obtain ⟨rfl, hok_5, hr_6, hR_9⟩ := O_7
  replace hf_2 := hr_6.at hk0 (by decide) (by decide) hf_2
  replace hfr := hfr.trans (hr_6.sub (by decide))
  obtain rfl := hR_9
  refine jj_aload_n C dX3_readNumber_7 rfl ?_
  refine jj_aload_n C dX3_readNumber_8 rfl ?_
  refine tt_getF C hok_5 jk_4 0 (by decide) jw_70cd29f103 (t := (2, 10, 0)) hk0 (by decide) rfl rfl hf_2 dX3_readNumber_9 ?_
  refine tt_get C hok_5 jk_10 5 (by decide) jw_601d0e39ae (t := (0, (-2147483648), 2147483647)) ka_3 (by decide) rfl rfl dX3_readNumber_12 (fun v_12 hv_12 hf_13 => ?_)
  obtain ⟨x_14, rfl, lx_14, ux_14⟩ := tt_vi hv_12
  refine jj_iconst (v := 2) C dX3_readNumber_15 (by decide) ?_
  refine jj_icmp_ne (tgt := 23) C dX3_readNumber_16 (by decide) (fun c_15 => ?_) (fun c_15 => ?_)
  · have z_c_15 := jc_neq (a := (x_14).toInt) (b := (2)) c_15 rfl (by decide)
    refine jj_iconst (v := 0) C dX3_readNumber_23 (by decide) ?_
    refine jj_iconst (v := 1) C dX3_readNumber_24 (by decide) ?_
    obtain ⟨qc, gs, hqc⟩ := tt_recv (cx := []) hok_5 hk0 (by decide) rfl
    refine tt_callV (rest := []) C (tc_X3_accept_1 hl D cA ak h0 hk0 hok_5) [] [] rfl rfl (by decide) (by decide) (by decide) qc hqc rfl rfl jw_713f4d2af1 jw_b3e457240a jw_58c48ce796 jw_9d546d0b6f jw_0001e2e84f jn_X3_accept rfl (jj_le rfl) (jj_le rfl) (jj_le rfl) (jj_le rfl) (jj_le rfl) dX3_readNumber_25 rfl (fun _ _ _ hX => hX.elim) (fun rx pl_16 r O_19 => ?_)
    obtain ⟨rfl, hok_17, hr_18, hR_21⟩ := O_19
    replace hf_2 := hr_18.at hk0 (by decide) (by decide) hf_2
    replace hf_13 := hr_18.at ka_3 (by decide) (by decide) hf_13
    replace hfr := hfr.trans (hr_18.sub (by decide))
    obtain rfl := hR_21
    refine jj_if_eqT (tgt := 70) C dX3_readNumber_28 (by decide) (by decide) ?_
    refine jj_iconst (v := 0) C dX3_readNumber_70 (by decide) ?_
    exact jj_zret C rfl ⟨[], pl_16, rfl, rfl, hok_17, hfr, (Or.inl rfl)⟩ dX3_readNumber_71 (jj_le rfl) (jj_le rfl)
  · have z_c_15 := jc_eq (a := (x_14).toInt) (b := (2)) c_15 rfl (by decide)
    refine jj_iconst (v := 1) C dX3_readNumber_19 (by decide) ?_
    refine jj_goto (tgt := 24) C dX3_readNumber_20 (by decide) ?_
    refine jj_iconst (v := 1) C dX3_readNumber_24 (by decide) ?_
    obtain ⟨qc, gs, hqc⟩ := tt_recv (cx := []) hok_5 hk0 (by decide) rfl
    refine tt_callV (rest := []) C (tc_X3_accept_2 hl D cA ak h0 hk0 hok_5) [] [] rfl rfl (by decide) (by decide) (by decide) qc hqc rfl rfl jw_713f4d2af1 jw_b3e457240a jw_58c48ce796 jw_9d546d0b6f jw_0001e2e84f jn_X3_accept rfl (jj_le rfl) (jj_le rfl) (jj_le rfl) (jj_le rfl) (jj_le rfl) dX3_readNumber_25 rfl (fun _ _ _ hX => hX.elim) (fun rx pl_24 r O_27 => ?_)
    obtain ⟨rfl, hok_25, hr_26, hR_29⟩ := O_27
    replace hf_2 := hr_26.at hk0 (by decide) (by decide) hf_2
    replace hf_13 := hr_26.at ka_3 (by decide) (by decide) hf_13
    replace hfr := hfr.trans (hr_26.sub (by decide))
    obtain rfl := hR_29
    refine jj_if_eqF (tgt := 70) C dX3_readNumber_28 (by decide) (by decide) ?_
    refine jj_aload_n C dX3_readNumber_31 rfl ?_
    refine jj_aload_n C dX3_readNumber_32 rfl ?_
    refine tt_getF C hok_25 jk_4 0 (by decide) jw_70cd29f103 (t := (2, 10, 0)) hk0 (by decide) rfl rfl hf_2 dX3_readNumber_33 ?_
    refine tt_get C hok_25 jk_10 6 (by decide) jw_c96d139a1d (t := (0, (-2147483648), 2147483647)) ka_3 (by decide) rfl rfl dX3_readNumber_36 (fun v_32 hv_32 hf_33 => ?_)
    obtain ⟨x_34, rfl, lx_34, ux_34⟩ := tt_vi hv_32
    refine jj_iload_n C dX3_readNumber_39 rfl ?_
    refine jj_icmp_lt (tgt := 58) C dX3_readNumber_40 (by decide) (fun c_35 => ?_) (fun c_35 => ?_)
    · have z_c_35 := jc_lt (a := (x_34).toInt) (b := (0)) c_35 rfl (by decide)
      refine jj_iconst (v := 0) C dX3_readNumber_58 (by decide) ?_
      refine jj_iconst (v := 2) C dX3_readNumber_59 (by decide) ?_
      obtain ⟨qc, gs, hqc⟩ := tt_recv (cx := []) hok_25 hk0 (by decide) rfl
      refine tt_callV (rest := []) C (tc_X3_accept_3 hl D cA ak h0 hk0 hok_25) [] [] rfl rfl (by decide) (by decide) (by decide) qc hqc rfl rfl jw_713f4d2af1 jw_b3e457240a jw_58c48ce796 jw_9d546d0b6f jw_0001e2e84f jn_X3_accept rfl (jj_le rfl) (jj_le rfl) (jj_le rfl) (jj_le rfl) (jj_le rfl) dX3_readNumber_60 rfl (fun _ _ _ hX => hX.elim) (fun rx pl_36 r O_39 => ?_)
      obtain ⟨rfl, hok_37, hr_38, hR_41⟩ := O_39
      replace hf_2 := hr_38.at hk0 (by decide) (by decide) hf_2
      replace hf_13 := hr_38.at ka_3 (by decide) (by decide) hf_13
      replace hf_33 := hr_38.at ka_3 (by decide) (by decide) hf_33
      replace hfr := hfr.trans (hr_38.sub (by decide))
      obtain rfl := hR_41
      refine jj_if_eqT (tgt := 70) C dX3_readNumber_63 (by decide) (by decide) ?_
      refine jj_iconst (v := 0) C dX3_readNumber_70 (by decide) ?_
      exact jj_zret C rfl ⟨[], pl_36, rfl, rfl, hok_37, hfr, (Or.inl rfl)⟩ dX3_readNumber_71 (jj_le rfl) (jj_le rfl)
    · have z_c_35 := jc_nlt (a := (x_34).toInt) (b := (0)) c_35 rfl (by decide)
      refine jj_aload_n C dX3_readNumber_43 rfl ?_
      refine tt_getF C hok_25 jk_4 0 (by decide) jw_70cd29f103 (t := (2, 10, 0)) hk0 (by decide) rfl rfl hf_2 dX3_readNumber_44 ?_
      refine tt_getF C hok_25 jk_10 6 (by decide) jw_c96d139a1d (t := (0, (-2147483648), 2147483647)) ka_3 (by decide) rfl rfl hf_33 dX3_readNumber_47 ?_
      refine jj_iload_n C dX3_readNumber_50 rfl ?_
      refine jj_icmp_gt (tgt := 58) C dX3_readNumber_51 (by decide) (fun c_44 => ?_) (fun c_44 => ?_)
      · have z_c_44 := jc_lt (a := (p2).toInt) (b := (x_34).toInt) c_44 rfl rfl
        refine jj_iconst (v := 0) C dX3_readNumber_58 (by decide) ?_
        refine jj_iconst (v := 2) C dX3_readNumber_59 (by decide) ?_
        obtain ⟨qc, gs, hqc⟩ := tt_recv (cx := []) hok_25 hk0 (by decide) rfl
        refine tt_callV (rest := []) C (tc_X3_accept_3 hl D cA ak h0 hk0 hok_25) [] [] rfl rfl (by decide) (by decide) (by decide) qc hqc rfl rfl jw_713f4d2af1 jw_b3e457240a jw_58c48ce796 jw_9d546d0b6f jw_0001e2e84f jn_X3_accept rfl (jj_le rfl) (jj_le rfl) (jj_le rfl) (jj_le rfl) (jj_le rfl) dX3_readNumber_60 rfl (fun _ _ _ hX => hX.elim) (fun rx pl_45 r O_48 => ?_)
        obtain ⟨rfl, hok_46, hr_47, hR_50⟩ := O_48
        replace hf_2 := hr_47.at hk0 (by decide) (by decide) hf_2
        replace hf_13 := hr_47.at ka_3 (by decide) (by decide) hf_13
        replace hf_33 := hr_47.at ka_3 (by decide) (by decide) hf_33
        replace hfr := hfr.trans (hr_47.sub (by decide))
        obtain rfl := hR_50
        refine jj_if_eqT (tgt := 70) C dX3_readNumber_63 (by decide) (by decide) ?_
        refine jj_iconst (v := 0) C dX3_readNumber_70 (by decide) ?_
        exact jj_zret C rfl ⟨[], pl_45, rfl, rfl, hok_46, hfr, (Or.inl rfl)⟩ dX3_readNumber_71 (jj_le rfl) (jj_le rfl)
      · have z_c_44 := jc_nlt (a := (p2).toInt) (b := (x_34).toInt) c_44 rfl rfl
        refine jj_iconst (v := 1) C dX3_readNumber_54 (by decide) ?_
        refine jj_goto (tgt := 59) C dX3_readNumber_55 (by decide) ?_
        refine jj_iconst (v := 2) C dX3_readNumber_59 (by decide) ?_
        obtain ⟨qc, gs, hqc⟩ := tt_recv (cx := []) hok_25 hk0 (by decide) rfl
        refine tt_callV (rest := []) C (tc_X3_accept_4 hl D cA ak h0 hk0 hok_25) [] [] rfl rfl (by decide) (by decide) (by decide) qc hqc rfl rfl jw_713f4d2af1 jw_b3e457240a jw_58c48ce796 jw_9d546d0b6f jw_0001e2e84f jn_X3_accept rfl (jj_le rfl) (jj_le rfl) (jj_le rfl) (jj_le rfl) (jj_le rfl) dX3_readNumber_60 rfl (fun _ _ _ hX => hX.elim) (fun rx pl_53 r O_56 => ?_)
        obtain ⟨rfl, hok_54, hr_55, hR_58⟩ := O_56
        replace hf_2 := hr_55.at hk0 (by decide) (by decide) hf_2
        replace hf_13 := hr_55.at ka_3 (by decide) (by decide) hf_13
        replace hf_33 := hr_55.at ka_3 (by decide) (by decide) hf_33
        replace hfr := hfr.trans (hr_55.sub (by decide))
        obtain rfl := hR_58
        refine jj_if_eqF (tgt := 70) C dX3_readNumber_63 (by decide) (by decide) ?_
        refine jj_iconst (v := 1) C dX3_readNumber_66 (by decide) ?_
        refine jj_goto (tgt := 71) C dX3_readNumber_67 (by decide) ?_
        exact jj_zret C rfl ⟨[], pl_53, rfl, rfl, hok_54, hfr, (Or.inr ⟨(by first | omega | exact tt_lo _ | exact tt_hi _), (by first | omega | exact tt_lo _ | exact tt_hi _), rfl⟩)⟩ dX3_readNumber_71 (jj_le rfl) (jj_le rfl)

set_option maxHeartbeats 4000000 in
set_option maxRecDepth 100000 in
theorem tc_X3_readNumber_6 {l : Launch} (hl : l.stackTraces = false) (D : va_G) (cA : Nat → ClassId) (ak : (Nat → Nat) × (Nat → Nat)) {Kd : Nat → Nat} (h0 : Nat) (hk0 : Kd h0 = 17) {pl0 : va_W} (hok : tt_ok tt_tk cA Kd pl0) : jj_M l D cA ak yX3_readNumber (.code yX3_readNumber cX3_readNumber 3 (some .boolean)) 2 41 0 0 ([] ++ pl0) [.ref h0, .int 1, .int 9999999] (tt_O (fun rx pl1 r => rx = [] ∧ tt_ok tt_tk cA Kd pl1 ∧ tt_fr Kd [(10, 3), (10, 4), (10, 5), (10, 6), (17, 2)] pl0 pl1 ∧ ((r = some (.int 0)) ∨ (r = some (.int 1))))) (tt_OX (fun _ _ _ => False)) := by
  refine jj_start hl (by decide) jw_ad178c7ce3 (jj_le rfl) ?_
  intro p e s m args below meth c A hargs hA C hex hmn
  have hfr := tt_fr.refl (K := Kd) (WS := [(10, 3), (10, 4), (10, 5), (10, 6), (17, 2)]) pl0
  refine jj_aload_n C dX3_readNumber_0 rfl ?_
  refine tt_get C hok jk_4 0 (by decide) jw_70cd29f103 (t := (2, 10, 0)) hk0 (by decide) rfl rfl dX3_readNumber_1 (fun v_1 hv_1 hf_2 => ?_)
  obtain ⟨a_3, rfl, ka_3⟩ := tt_vr hv_1
  obtain ⟨qc, gs, hqc⟩ := tt_recv (cx := []) hok ka_3 (by decide) rfl
  refine tt_callV (rest := []) C (tc_X9_advance_1 hl D cA ak a_3 ka_3 hok) [] [] rfl rfl (by decide) (by decide) (by decide) qc hqc rfl rfl jw_97c023d194 jw_37f6ee43e0 jw_46baf1fc7b jw_a9e7b602dc jw_0d4db63612 jn_X9_advance rfl (jj_le rfl) (jj_le rfl) (jj_le rfl) (jj_le rfl) (jj_le rfl) dX3_readNumber_4 rfl (fun _ _ _ hX => hX.elim) (fun rx pl_4 r O_7 => ?_)
  obtain ⟨rfl, hok_5, hr_6, hR_9⟩ := O_7
  replace hf_2 := hr_6.at hk0 (by decide) (by decide) hf_2
  replace hfr := hfr.trans (hr_6.sub (by decide))
  obtain rfl := hR_9
  refine jj_aload_n C dX3_readNumber_7 rfl ?_
  refine jj_aload_n C dX3_readNumber_8 rfl ?_
  refine tt_getF C hok_5 jk_4 0 (by decide) jw_70cd29f103 (t := (2, 10, 0)) hk0 (by decide) rfl rfl hf_2 dX3_readNumber_9 ?_
  refine tt_get C hok_5 jk_10 5 (by decide) jw_601d0e39ae (t := (0, (-2147483648), 2147483647)) ka_3 (by decide) rfl rfl dX3_readNumber_12 (fun v_12 hv_12 hf_13 => ?_)
  obtain ⟨x_14, rfl, lx_14, ux_14⟩ := tt_vi hv_12
  refine jj_iconst (v := 2) C dX3_readNumber_15 (by decide) ?_
  refine jj_icmp_ne (tgt := 23) C dX3_readNumber_16 (by decide) (fun c_15 => ?_) (fun c_15 => ?_)
  · have z_c_15 := jc_neq (a := (x_14).toInt) (b := (2)) c_15 rfl (by decide)
    refine jj_iconst (v := 0) C dX3_readNumber_23 (by decide) ?_
    refine jj_iconst (v := 1) C dX3_readNumber_24 (by decide) ?_
    obtain ⟨qc, gs, hqc⟩ := tt_recv (cx := []) hok_5 hk0 (by decide) rfl
    refine tt_callV (rest := []) C (tc_X3_accept_1 hl D cA ak h0 hk0 hok_5) [] [] rfl rfl (by decide) (by decide) (by decide) qc hqc rfl rfl jw_713f4d2af1 jw_b3e457240a jw_58c48ce796 jw_9d546d0b6f jw_0001e2e84f jn_X3_accept rfl (jj_le rfl) (jj_le rfl) (jj_le rfl) (jj_le rfl) (jj_le rfl) dX3_readNumber_25 rfl (fun _ _ _ hX => hX.elim) (fun rx pl_16 r O_19 => ?_)
    obtain ⟨rfl, hok_17, hr_18, hR_21⟩ := O_19
    replace hf_2 := hr_18.at hk0 (by decide) (by decide) hf_2
    replace hf_13 := hr_18.at ka_3 (by decide) (by decide) hf_13
    replace hfr := hfr.trans (hr_18.sub (by decide))
    obtain rfl := hR_21
    refine jj_if_eqT (tgt := 70) C dX3_readNumber_28 (by decide) (by decide) ?_
    refine jj_iconst (v := 0) C dX3_readNumber_70 (by decide) ?_
    exact jj_zret C rfl ⟨[], pl_16, rfl, rfl, hok_17, hfr, (Or.inl rfl)⟩ dX3_readNumber_71 (jj_le rfl) (jj_le rfl)
  · have z_c_15 := jc_eq (a := (x_14).toInt) (b := (2)) c_15 rfl (by decide)
    refine jj_iconst (v := 1) C dX3_readNumber_19 (by decide) ?_
    refine jj_goto (tgt := 24) C dX3_readNumber_20 (by decide) ?_
    refine jj_iconst (v := 1) C dX3_readNumber_24 (by decide) ?_
    obtain ⟨qc, gs, hqc⟩ := tt_recv (cx := []) hok_5 hk0 (by decide) rfl
    refine tt_callV (rest := []) C (tc_X3_accept_2 hl D cA ak h0 hk0 hok_5) [] [] rfl rfl (by decide) (by decide) (by decide) qc hqc rfl rfl jw_713f4d2af1 jw_b3e457240a jw_58c48ce796 jw_9d546d0b6f jw_0001e2e84f jn_X3_accept rfl (jj_le rfl) (jj_le rfl) (jj_le rfl) (jj_le rfl) (jj_le rfl) dX3_readNumber_25 rfl (fun _ _ _ hX => hX.elim) (fun rx pl_24 r O_27 => ?_)
    obtain ⟨rfl, hok_25, hr_26, hR_29⟩ := O_27
    replace hf_2 := hr_26.at hk0 (by decide) (by decide) hf_2
    replace hf_13 := hr_26.at ka_3 (by decide) (by decide) hf_13
    replace hfr := hfr.trans (hr_26.sub (by decide))
    obtain rfl := hR_29
    refine jj_if_eqF (tgt := 70) C dX3_readNumber_28 (by decide) (by decide) ?_
    refine jj_aload_n C dX3_readNumber_31 rfl ?_
    refine jj_aload_n C dX3_readNumber_32 rfl ?_
    refine tt_getF C hok_25 jk_4 0 (by decide) jw_70cd29f103 (t := (2, 10, 0)) hk0 (by decide) rfl rfl hf_2 dX3_readNumber_33 ?_
    refine tt_get C hok_25 jk_10 6 (by decide) jw_c96d139a1d (t := (0, (-2147483648), 2147483647)) ka_3 (by decide) rfl rfl dX3_readNumber_36 (fun v_32 hv_32 hf_33 => ?_)
    obtain ⟨x_34, rfl, lx_34, ux_34⟩ := tt_vi hv_32
    refine jj_iload_n C dX3_readNumber_39 rfl ?_
    refine jj_icmp_lt (tgt := 58) C dX3_readNumber_40 (by decide) (fun c_35 => ?_) (fun c_35 => ?_)
    · have z_c_35 := jc_lt (a := (x_34).toInt) (b := (1)) c_35 rfl (by decide)
      refine jj_iconst (v := 0) C dX3_readNumber_58 (by decide) ?_
      refine jj_iconst (v := 2) C dX3_readNumber_59 (by decide) ?_
      obtain ⟨qc, gs, hqc⟩ := tt_recv (cx := []) hok_25 hk0 (by decide) rfl
      refine tt_callV (rest := []) C (tc_X3_accept_3 hl D cA ak h0 hk0 hok_25) [] [] rfl rfl (by decide) (by decide) (by decide) qc hqc rfl rfl jw_713f4d2af1 jw_b3e457240a jw_58c48ce796 jw_9d546d0b6f jw_0001e2e84f jn_X3_accept rfl (jj_le rfl) (jj_le rfl) (jj_le rfl) (jj_le rfl) (jj_le rfl) dX3_readNumber_60 rfl (fun _ _ _ hX => hX.elim) (fun rx pl_36 r O_39 => ?_)
      obtain ⟨rfl, hok_37, hr_38, hR_41⟩ := O_39
      replace hf_2 := hr_38.at hk0 (by decide) (by decide) hf_2
      replace hf_13 := hr_38.at ka_3 (by decide) (by decide) hf_13
      replace hf_33 := hr_38.at ka_3 (by decide) (by decide) hf_33
      replace hfr := hfr.trans (hr_38.sub (by decide))
      obtain rfl := hR_41
      refine jj_if_eqT (tgt := 70) C dX3_readNumber_63 (by decide) (by decide) ?_
      refine jj_iconst (v := 0) C dX3_readNumber_70 (by decide) ?_
      exact jj_zret C rfl ⟨[], pl_36, rfl, rfl, hok_37, hfr, (Or.inl rfl)⟩ dX3_readNumber_71 (jj_le rfl) (jj_le rfl)
    · have z_c_35 := jc_nlt (a := (x_34).toInt) (b := (1)) c_35 rfl (by decide)
      refine jj_aload_n C dX3_readNumber_43 rfl ?_
      refine tt_getF C hok_25 jk_4 0 (by decide) jw_70cd29f103 (t := (2, 10, 0)) hk0 (by decide) rfl rfl hf_2 dX3_readNumber_44 ?_
      refine tt_getF C hok_25 jk_10 6 (by decide) jw_c96d139a1d (t := (0, (-2147483648), 2147483647)) ka_3 (by decide) rfl rfl hf_33 dX3_readNumber_47 ?_
      refine jj_iload_n C dX3_readNumber_50 rfl ?_
      refine jj_icmp_gt (tgt := 58) C dX3_readNumber_51 (by decide) (fun c_44 => ?_) (fun c_44 => ?_)
      · have z_c_44 := jc_lt (a := (9999999)) (b := (x_34).toInt) c_44 (by decide) rfl
        refine jj_iconst (v := 0) C dX3_readNumber_58 (by decide) ?_
        refine jj_iconst (v := 2) C dX3_readNumber_59 (by decide) ?_
        obtain ⟨qc, gs, hqc⟩ := tt_recv (cx := []) hok_25 hk0 (by decide) rfl
        refine tt_callV (rest := []) C (tc_X3_accept_3 hl D cA ak h0 hk0 hok_25) [] [] rfl rfl (by decide) (by decide) (by decide) qc hqc rfl rfl jw_713f4d2af1 jw_b3e457240a jw_58c48ce796 jw_9d546d0b6f jw_0001e2e84f jn_X3_accept rfl (jj_le rfl) (jj_le rfl) (jj_le rfl) (jj_le rfl) (jj_le rfl) dX3_readNumber_60 rfl (fun _ _ _ hX => hX.elim) (fun rx pl_45 r O_48 => ?_)
        obtain ⟨rfl, hok_46, hr_47, hR_50⟩ := O_48
        replace hf_2 := hr_47.at hk0 (by decide) (by decide) hf_2
        replace hf_13 := hr_47.at ka_3 (by decide) (by decide) hf_13
        replace hf_33 := hr_47.at ka_3 (by decide) (by decide) hf_33
        replace hfr := hfr.trans (hr_47.sub (by decide))
        obtain rfl := hR_50
        refine jj_if_eqT (tgt := 70) C dX3_readNumber_63 (by decide) (by decide) ?_
        refine jj_iconst (v := 0) C dX3_readNumber_70 (by decide) ?_
        exact jj_zret C rfl ⟨[], pl_45, rfl, rfl, hok_46, hfr, (Or.inl rfl)⟩ dX3_readNumber_71 (jj_le rfl) (jj_le rfl)
      · have z_c_44 := jc_nlt (a := (9999999)) (b := (x_34).toInt) c_44 (by decide) rfl
        refine jj_iconst (v := 1) C dX3_readNumber_54 (by decide) ?_
        refine jj_goto (tgt := 59) C dX3_readNumber_55 (by decide) ?_
        refine jj_iconst (v := 2) C dX3_readNumber_59 (by decide) ?_
        obtain ⟨qc, gs, hqc⟩ := tt_recv (cx := []) hok_25 hk0 (by decide) rfl
        refine tt_callV (rest := []) C (tc_X3_accept_4 hl D cA ak h0 hk0 hok_25) [] [] rfl rfl (by decide) (by decide) (by decide) qc hqc rfl rfl jw_713f4d2af1 jw_b3e457240a jw_58c48ce796 jw_9d546d0b6f jw_0001e2e84f jn_X3_accept rfl (jj_le rfl) (jj_le rfl) (jj_le rfl) (jj_le rfl) (jj_le rfl) dX3_readNumber_60 rfl (fun _ _ _ hX => hX.elim) (fun rx pl_53 r O_56 => ?_)
        obtain ⟨rfl, hok_54, hr_55, hR_58⟩ := O_56
        replace hf_2 := hr_55.at hk0 (by decide) (by decide) hf_2
        replace hf_13 := hr_55.at ka_3 (by decide) (by decide) hf_13
        replace hf_33 := hr_55.at ka_3 (by decide) (by decide) hf_33
        replace hfr := hfr.trans (hr_55.sub (by decide))
        obtain rfl := hR_58
        refine jj_if_eqF (tgt := 70) C dX3_readNumber_63 (by decide) (by decide) ?_
        refine jj_iconst (v := 1) C dX3_readNumber_66 (by decide) ?_
        refine jj_goto (tgt := 71) C dX3_readNumber_67 (by decide) ?_
        exact jj_zret C rfl ⟨[], pl_53, rfl, rfl, hok_54, hfr, (Or.inr rfl)⟩ dX3_readNumber_71 (jj_le rfl) (jj_le rfl)

set_option maxHeartbeats 4000000 in
set_option maxRecDepth 100000 in
theorem tc_X3_readSubscription_1 {l : Launch} (hl : l.stackTraces = false) (D : va_G) (cA : Nat → ClassId) (ak : (Nat → Nat) × (Nat → Nat)) {Kd : Nat → Nat} (h0 : Nat) (hk0 : Kd h0 = 17) {pl0 : va_W} (hok : tt_ok tt_tk cA Kd pl0) : jj_M l D cA ak yX3_readSubscription (.code yX3_readSubscription cX3_readSubscription 2 (some .boolean)) 3 63 0 0 ([] ++ pl0) [.ref h0] (tt_O (fun rx pl1 r => rx = [] ∧ tt_ok tt_tk cA Kd pl1 ∧ tt_fr Kd [(1, 9), (4, 0), (4, 1), (4, 2), (4, 3), (4, 4), (10, 3), (10, 4), (10, 5), (10, 6), (17, 2)] pl0 pl1 ∧ ((r = some (.int 0)) ∨ (r = some (.int 1))))) (tt_OX (fun _ _ _ => False)) := by
  refine jj_start hl (by decide) jw_0cc88cc191 (jj_le rfl) ?_
  intro p e s m args below meth c A hargs hA C hex hmn
  have hfr := tt_fr.refl (K := Kd) (WS := [(1, 9), (4, 0), (4, 1), (4, 2), (4, 3), (4, 4), (10, 3), (10, 4), (10, 5), (10, 6), (17, 2)]) pl0
  refine jj_aload_n C dX3_readSubscription_0 rfl ?_
  refine jj_iconst (v := 0) C dX3_readSubscription_1 (by decide) ?_
  refine jj_aload_n C dX3_readSubscription_2 rfl ?_
  refine tt_get C hok jk_4 1 (by decide) jw_bdf52ddf93 (t := (2, 1, 0)) hk0 (by decide) rfl rfl dX3_readSubscription_3 (fun v_1 hv_1 hf_2 => ?_)
  obtain ⟨a_3, rfl, ka_3⟩ := tt_vr hv_1
  refine tt_get C hok jk_2 0 (by decide) jw_b7c31a179b (t := (0, (-2147483648), 2147483647)) ka_3 (by decide) rfl rfl dX3_readSubscription_6 (fun v_4 hv_4 hf_5 => ?_)
  obtain ⟨x_6, rfl, lx_6, ux_6⟩ := tt_vi hv_4
  refine jj_iconst (v := 1) C dX3_readSubscription_9 (by decide) ?_
  obtain ⟨x_7, ex_7⟩ : ∃ z : Int32, x_6 - (1 : Int32) = z := ⟨_, rfl⟩
  refine jj_isub (v := x_7) C dX3_readSubscription_10 ex_7 ?_
  obtain ⟨qc, gs, hqc⟩ := tt_recv (cx := []) hok hk0 (by decide) rfl
  refine tt_callV (rest := []) C (tc_X3_readNumber_5 hl D cA ak h0 x_7 hk0 hok) [] [] rfl rfl (by decide) (by decide) (by decide) qc hqc rfl rfl jw_012f0d7bd3 jw_3c1e5a080b jw_1f143bff8b jw_9d546d0b6f jw_ad178c7ce3 jn_X3_readNumber rfl (jj_le rfl) (jj_le rfl) (jj_le rfl) (jj_le rfl) (jj_le rfl) dX3_readSubscription_11 rfl (fun _ _ _ hX => hX.elim) (fun rx pl_8 r O_11 => ?_)
  obtain ⟨rfl, hok_9, hr_10, hR_13⟩ := O_11
  replace hf_2 := hr_10.at hk0 (by decide) (by decide) hf_2
  replace hf_5 := hr_10.at ka_3 (by decide) (by decide) hf_5
  replace hfr := hfr.trans (hr_10.sub (by decide))
  rcases hR_13 with rfl | ⟨l_16, u_17, rfl⟩
  · refine jj_if_neF (tgt := 19) C dX3_readSubscription_14 (by decide) (by decide) ?_
    refine jj_iconst (v := 0) C dX3_readSubscription_17 (by decide) ?_
    exact jj_zret C rfl ⟨[], pl_8, rfl, rfl, hok_9, hfr, (Or.inl rfl)⟩ dX3_readSubscription_18 (jj_le rfl) (jj_le rfl)
  · refine jj_if_neT (tgt := 19) C dX3_readSubscription_14 (by decide) (by decide) ?_
    refine jj_aload_n C dX3_readSubscription_19 rfl ?_
    refine tt_get C hok_9 jk_4 0 (by decide) jw_70cd29f103 (t := (2, 10, 0)) hk0 (by decide) rfl rfl dX3_readSubscription_20 (fun v_18 hv_18 hf_19 => ?_)
    obtain ⟨a_20, rfl, ka_20⟩ := tt_vr hv_18
    refine tt_get C hok_9 jk_10 6 (by decide) jw_c96d139a1d (t := (0, (-2147483648), 2147483647)) ka_20 (by decide) rfl rfl dX3_readSubscription_23 (fun v_21 hv_21 hf_22 => ?_)
    obtain ⟨x_23, rfl, lx_23, ux_23⟩ := tt_vi hv_21
    refine jj_istore_n C dX3_readSubscription_26 (by decide) rfl ?_
    refine jj_aload_n C dX3_readSubscription_27 rfl ?_
    refine jj_iconst (v := 1) C dX3_readSubscription_28 (by decide) ?_
    refine jj_ldc (v := 9999999) C dX3_readSubscription_29 jw_fca8450242 ?_
    obtain ⟨qc, gs, hqc⟩ := tt_recv (cx := []) hok_9 hk0 (by decide) rfl
    refine tt_callV (rest := []) C (tc_X3_readNumber_6 hl D cA ak h0 hk0 hok_9) [] [] rfl rfl (by decide) (by decide) (by decide) qc hqc rfl rfl jw_012f0d7bd3 jw_3c1e5a080b jw_1f143bff8b jw_9d546d0b6f jw_ad178c7ce3 jn_X3_readNumber rfl (jj_le rfl) (jj_le rfl) (jj_le rfl) (jj_le rfl) (jj_le rfl) dX3_readSubscription_31 rfl (fun _ _ _ hX => hX.elim) (fun rx pl_24 r O_27 => ?_)
    obtain ⟨rfl, hok_25, hr_26, hR_29⟩ := O_27
    replace hf_2 := hr_26.at hk0 (by decide) (by decide) hf_2
    replace hf_5 := hr_26.at ka_3 (by decide) (by decide) hf_5
    replace hf_19 := hr_26.at hk0 (by decide) (by decide) hf_19
    replace hfr := hfr.trans (hr_26.sub (by decide))
    rcases hR_29 with rfl | rfl
    · refine jj_if_neF (tgt := 39) C dX3_readSubscription_34 (by decide) (by decide) ?_
      refine jj_iconst (v := 0) C dX3_readSubscription_37 (by decide) ?_
      exact jj_zret C rfl ⟨[], pl_24, rfl, rfl, hok_25, hfr, (Or.inl rfl)⟩ dX3_readSubscription_38 (jj_le rfl) (jj_le rfl)
    · refine jj_if_neT (tgt := 39) C dX3_readSubscription_34 (by decide) (by decide) ?_
      refine jj_aload_n C dX3_readSubscription_39 rfl ?_
      refine tt_getF C hok_25 jk_4 1 (by decide) jw_bdf52ddf93 (t := (2, 1, 0)) hk0 (by decide) rfl rfl hf_2 dX3_readSubscription_40 ?_
      refine jj_iload_n C dX3_readSubscription_43 rfl ?_
      refine jj_iconst (v := 0) C dX3_readSubscription_44 (by decide) ?_
      refine jj_aload_n C dX3_readSubscription_45 rfl ?_
      refine tt_getF C hok_25 jk_4 0 (by decide) jw_70cd29f103 (t := (2, 10, 0)) hk0 (by decide) rfl rfl hf_19 dX3_readSubscription_46 ?_
      refine tt_get C hok_25 jk_10 6 (by decide) jw_c96d139a1d (t := (0, (-2147483648), 2147483647)) ka_20 (by decide) rfl rfl dX3_readSubscription_49 (fun v_32 hv_32 hf_33 => ?_)
      obtain ⟨x_34, rfl, lx_34, ux_34⟩ := tt_vi hv_32
      obtain ⟨y_35, ey_35, vy_35⟩ := tt_i2l x_34
      refine jj_i2l (v := y_35) C dX3_readSubscription_52 ey_35 ?_
      obtain ⟨qc, gs, hqc⟩ := tt_recv (cx := []) hok_25 ka_3 (by decide) rfl
      refine tt_callV (rest := []) C (tc_X0_addRequest_2 hl D cA ak a_3 x_23 y_35 ka_3 hok_25) [] [] rfl rfl (by decide) (by decide) (by decide) qc hqc rfl rfl jw_1ad2c848e8 jw_4cd88e9d91 jw_a895762d25 jw_7d25d4fd32 jw_1fad268463 jn_X0_addRequest rfl (jj_le rfl) (jj_le rfl) (jj_le rfl) (jj_le rfl) (jj_le rfl) dX3_readSubscription_53 rfl (fun _ _ _ hX => hX.elim) (fun rx pl_36 r O_39 => ?_)
      obtain ⟨rfl, hok_37, hr_38, hR_41⟩ := O_39
      replace hf_2 := hr_38.at hk0 (by decide) (by decide) hf_2
      replace hf_5 := hr_38.at ka_3 (by decide) (by decide) hf_5
      replace hf_19 := hr_38.at hk0 (by decide) (by decide) hf_19
      replace hf_33 := hr_38.at ka_20 (by decide) (by decide) hf_33
      replace hfr := hfr.trans (hr_38.sub (by decide))
      rcases hR_41 with rfl | ⟨x_44, lx_44, ux_44, rfl⟩
      · refine jj_pop C dX3_readSubscription_56 rfl ?_
        refine jj_aload_n C dX3_readSubscription_57 rfl ?_
        obtain ⟨qc, gs, hqc⟩ := tt_recv (cx := []) hok_37 hk0 (by decide) rfl
        refine tt_callV (rest := []) C (tc_X3_readSemicolon_1 hl D cA ak h0 hk0 hok_37) [] [] rfl rfl (by decide) (by decide) (by decide) qc hqc rfl rfl jw_3b321ba845 jw_25d4a051a9 jw_00e33b0681 jw_9d546d0b6f jw_469c7bc0ab jn_X3_readSemicolon rfl (jj_le rfl) (jj_le rfl) (jj_le rfl) (jj_le rfl) (jj_le rfl) dX3_readSubscription_58 rfl (fun _ _ _ hX => hX.elim) (fun rx pl_45 r O_48 => ?_)
        obtain ⟨rfl, hok_46, hr_47, hR_50⟩ := O_48
        replace hf_2 := hr_47.at hk0 (by decide) (by decide) hf_2
        replace hf_5 := hr_47.at ka_3 (by decide) (by decide) hf_5
        replace hf_19 := hr_47.at hk0 (by decide) (by decide) hf_19
        replace hfr := hfr.trans (hr_47.sub (by decide))
        rcases hR_50 with rfl | rfl
        · exact jj_zret C rfl ⟨[], pl_45, rfl, rfl, hok_46, hfr, (Or.inl rfl)⟩ dX3_readSubscription_61 (jj_le rfl) (jj_le rfl)
        · exact jj_zret C rfl ⟨[], pl_45, rfl, rfl, hok_46, hfr, (Or.inr rfl)⟩ dX3_readSubscription_61 (jj_le rfl) (jj_le rfl)
      · refine jj_pop C dX3_readSubscription_56 rfl ?_
        refine jj_aload_n C dX3_readSubscription_57 rfl ?_
        obtain ⟨qc, gs, hqc⟩ := tt_recv (cx := []) hok_37 hk0 (by decide) rfl
        refine tt_callV (rest := []) C (tc_X3_readSemicolon_1 hl D cA ak h0 hk0 hok_37) [] [] rfl rfl (by decide) (by decide) (by decide) qc hqc rfl rfl jw_3b321ba845 jw_25d4a051a9 jw_00e33b0681 jw_9d546d0b6f jw_469c7bc0ab jn_X3_readSemicolon rfl (jj_le rfl) (jj_le rfl) (jj_le rfl) (jj_le rfl) (jj_le rfl) dX3_readSubscription_58 rfl (fun _ _ _ hX => hX.elim) (fun rx pl_53 r O_56 => ?_)
        obtain ⟨rfl, hok_54, hr_55, hR_58⟩ := O_56
        replace hf_2 := hr_55.at hk0 (by decide) (by decide) hf_2
        replace hf_5 := hr_55.at ka_3 (by decide) (by decide) hf_5
        replace hf_19 := hr_55.at hk0 (by decide) (by decide) hf_19
        replace hfr := hfr.trans (hr_55.sub (by decide))
        rcases hR_58 with rfl | rfl
        · exact jj_zret C rfl ⟨[], pl_53, rfl, rfl, hok_54, hfr, (Or.inl rfl)⟩ dX3_readSubscription_61 (jj_le rfl) (jj_le rfl)
        · exact jj_zret C rfl ⟨[], pl_53, rfl, rfl, hok_54, hfr, (Or.inr rfl)⟩ dX3_readSubscription_61 (jj_le rfl) (jj_le rfl)

set_option maxHeartbeats 4000000 in
set_option maxRecDepth 100000 in
theorem tc_X3_accept_6 {l : Launch} (hl : l.stackTraces = false) (D : va_G) (cA : Nat → ClassId) (ak : (Nat → Nat) × (Nat → Nat)) {Kd : Nat → Nat} (h0 : Nat) (hk0 : Kd h0 = 17) {pl0 : va_W} (hok : tt_ok tt_tk cA Kd pl0) : jj_M l D cA ak yX3_accept (.code yX3_accept cX3_accept 3 (some .boolean)) 0 0 0 0 ([] ++ pl0) [.ref h0, .int 0, .int 3] (tt_O (fun rx pl1 r => rx = [] ∧ tt_ok tt_tk cA Kd pl1 ∧ tt_fr Kd [(17, 2)] pl0 pl1 ∧ ((r = some (.int 0))))) (tt_OX (fun _ _ _ => False)) := by
  refine jj_start hl (by decide) jw_0001e2e84f (jj_le rfl) ?_
  intro p e s m args below meth c A hargs hA C hex hmn
  have hfr := tt_fr.refl (K := Kd) (WS := [(17, 2)]) pl0
  refine jj_iload_n C dX3_accept_0 rfl ?_
  refine jj_if_neF (tgt := 9) C dX3_accept_1 (by decide) (by decide) ?_
  refine jj_aload_n C dX3_accept_4 rfl ?_
  refine jj_iload_n C dX3_accept_5 rfl ?_
  refine tt_put C hok jk_4 2 (by decide) jw_c9663815d9 (t := (0, (-2147483648), 2147483647)) hk0 (by decide) rfl rfl rfl (tt_ia (3 : Int32)) rfl rfl dX3_accept_6 (fun pl_1 hok_2 tr hn => ?_)
  have hf_3 := hn
  replace hfr := hfr.put hk0 tr (by decide)
  refine jj_iload_n C dX3_accept_9 rfl ?_
  exact jj_zret C rfl ⟨[], pl_1, rfl, rfl, hok_2, hfr, rfl⟩ dX3_accept_10 (jj_le rfl) (jj_le rfl)

set_option maxHeartbeats 4000000 in
set_option maxRecDepth 100000 in
theorem tc_X3_readSubscriptions_1 {l : Launch} (hl : l.stackTraces = false) (D : va_G) (cA : Nat → ClassId) (ak : (Nat → Nat) × (Nat → Nat)) {Kd : Nat → Nat} (h0 : Nat) (hk0 : Kd h0 = 17) {pl0 : va_W} (hok : tt_ok tt_tk cA Kd pl0) : jj_M l D cA ak yX3_readSubscriptions (.code yX3_readSubscriptions cX3_readSubscriptions 2 (some .boolean)) 5 107 0 0 ([] ++ pl0) [.ref h0] (tt_O (fun rx pl1 r => rx = [] ∧ tt_ok tt_tk cA Kd pl1 ∧ tt_fr Kd [(1, 9), (4, 0), (4, 1), (4, 2), (4, 3), (4, 4), (10, 3), (10, 4), (10, 5), (10, 6), (17, 2)] pl0 pl1 ∧ ((r = some (.int 0)) ∨ (r = some (.int 1))))) (tt_OX (fun _ _ _ => False)) := by
  refine jj_start hl (by decide) jw_66b02ab29d (jj_le rfl) ?_
  intro p e s m args below meth c A hargs hA C hex hmn
  have hfr := tt_fr.refl (K := Kd) (WS := [(1, 9), (4, 0), (4, 1), (4, 2), (4, 3), (4, 4), (10, 3), (10, 4), (10, 5), (10, 6), (17, 2)]) pl0
  refine jj_iconst (v := 0) C dX3_readSubscriptions_0 (by decide) ?_
  refine jj_istore_n C dX3_readSubscriptions_1 (by decide) rfl ?_
  have hL_1 : ∀ (N : Nat) (pl : va_W) (x_2 : Int32), True → tt_ok tt_tk cA Kd pl → tt_fr Kd [(1, 9), (4, 0), (4, 1), (4, 2), (4, 3), (4, 4), (10, 3), (10, 4), (10, 5), (10, 6), (17, 2)] pl0 pl → (0 : Int) ≤ x_2.toInt → x_2.toInt ≤ 12 → (2147483648 - x_2.toInt ≤ (N : Int)) → jj_J p l e (jj_rm 5 107 0 0) s m args below meth c 2 A (vx_MQ below (jj_q D A (tt_O (fun rx pl1 r => rx = [] ∧ tt_ok tt_tk cA Kd pl1 ∧ tt_fr Kd [(1, 9), (4, 0), (4, 1), (4, 2), (4, 3), (4, 4), (10, 3), (10, 4), (10, 5), (10, 6), (17, 2)] pl0 pl1 ∧ ((r = some (.int 0)) ∨ (r = some (.int 1)))))) (jj_x D A (tt_OX (fun _ _ _ => False))) args s 0 0 A) (jj_X D A ([] ++ pl)) 0 0 2 [(1, .int x_2), (0, .ref h0)] [] := by
    intro NL_1
    induction NL_1 with
    | zero => intro pl x_2 _ hok hfr lx_2 ux_2 hNL_1; exfalso; omega
    | succ NL_1 ihL_1 =>
      intro pl x_2 _ hok hfr lx_2 ux_2 hNL_1
      replace ihL_1 := fun pl x_2 h1 => ihL_1 pl x_2 trivial h1
      refine jj_iload_n C dX3_readSubscriptions_2 rfl ?_
      refine jj_bipush (v := 12) C dX3_readSubscriptions_3 (by decide) ?_
      refine jj_icmp_gt (tgt := 78) C dX3_readSubscriptions_5 (by decide) (fun c_3 => ?_) (fun c_3 => ?_)
      · have z_c_3 := jc_lt (a := (12)) (b := (x_2).toInt) c_3 (by decide) rfl
        exfalso; omega
      · have z_c_3 := jc_nlt (a := (12)) (b := (x_2).toInt) c_3 (by decide) rfl
        refine jj_aload_n C dX3_readSubscriptions_8 rfl ?_
        refine tt_get C hok jk_4 0 (by decide) jw_70cd29f103 (t := (2, 10, 0)) hk0 (by decide) rfl rfl dX3_readSubscriptions_9 (fun v_4 hv_4 hf_5 => ?_)
        obtain ⟨a_6, rfl, ka_6⟩ := tt_vr hv_4
        obtain ⟨qc, gs, hqc⟩ := tt_recv (cx := []) hok ka_6 (by decide) rfl
        refine tt_callV (rest := []) C (tc_X9_advance_1 hl D cA ak a_6 ka_6 hok) [] [] rfl rfl (by decide) (by decide) (by decide) qc hqc rfl rfl jw_97c023d194 jw_37f6ee43e0 jw_46baf1fc7b jw_a9e7b602dc jw_0d4db63612 jn_X9_advance rfl (jj_le rfl) (jj_le rfl) (jj_le rfl) (jj_le rfl) (jj_le rfl) dX3_readSubscriptions_12 rfl (fun _ _ _ hX => hX.elim) (fun rx pl_7 r O_10 => ?_)
        obtain ⟨rfl, hok_8, hr_9, hR_12⟩ := O_10
        replace hf_5 := hr_9.at hk0 (by decide) (by decide) hf_5
        replace hfr := hfr.trans (hr_9.sub (by decide))
        obtain rfl := hR_12
        refine jj_aload_n C dX3_readSubscriptions_15 rfl ?_
        refine tt_getF C hok_8 jk_4 0 (by decide) jw_70cd29f103 (t := (2, 10, 0)) hk0 (by decide) rfl rfl hf_5 dX3_readSubscriptions_16 ?_
        refine tt_get C hok_8 jk_10 5 (by decide) jw_601d0e39ae (t := (0, (-2147483648), 2147483647)) ka_6 (by decide) rfl rfl dX3_readSubscriptions_19 (fun v_15 hv_15 hf_16 => ?_)
        obtain ⟨x_17, rfl, lx_17, ux_17⟩ := tt_vi hv_15
        refine jj_if_ne (tgt := 27) C dX3_readSubscriptions_22 (by decide) (fun c_18 => ?_) (fun c_18 => ?_)
        · have z_c_18 := jc_neq (a := (x_17).toInt) (b := (0)) c_18 rfl (by decide)
          refine jj_aload_n C dX3_readSubscriptions_27 rfl ?_
          refine jj_aload_n C dX3_readSubscriptions_28 rfl ?_
          refine tt_getF C hok_8 jk_4 0 (by decide) jw_70cd29f103 (t := (2, 10, 0)) hk0 (by decide) rfl rfl hf_5 dX3_readSubscriptions_29 ?_
          refine jj_ldcs (k := 4) (tx := "subscribe") C dX3_readSubscriptions_32 (by decide +kernel) ?_
          obtain ⟨qc, gs, hqc⟩ := tt_recv (cx := []) hok_8 ka_6 (by decide) rfl
          refine tt_callV (rest := [.ref h0]) C (tc_X9_isWord_5 hl D cA ak a_6 ka_6 hok_8) [] [] rfl rfl (by decide) (by decide) (by decide) qc hqc rfl rfl jw_b0fe72c6f4 jw_5e9522a00c jw_73cf9edcb7 jw_a9e7b602dc jw_ce1c1f12e9 jn_X9_isWord rfl (jj_le rfl) (jj_le rfl) (jj_le rfl) (jj_le rfl) (jj_le rfl) dX3_readSubscriptions_34 rfl (fun _ _ _ hX => hX.elim) (fun rx pl_19 r O_22 => ?_)
          obtain ⟨rfl, hok_20, hr_21, hR_24⟩ := O_22
          replace hf_5 := hr_21.at hk0 (by decide) (by decide) hf_5
          replace hf_16 := hr_21.at ka_6 (by decide) (by decide) hf_16
          replace hfr := hfr.trans (hr_21.sub (by decide))
          rcases hR_24 with rfl | rfl
          · refine jj_iconst (v := 1) C dX3_readSubscriptions_37 (by decide) ?_
            obtain ⟨qc, gs, hqc⟩ := tt_recv (cx := []) hok_20 hk0 (by decide) rfl
            refine tt_callV (rest := []) C (tc_X3_accept_1 hl D cA ak h0 hk0 hok_20) [] [] rfl rfl (by decide) (by decide) (by decide) qc hqc rfl rfl jw_713f4d2af1 jw_b3e457240a jw_58c48ce796 jw_9d546d0b6f jw_0001e2e84f jn_X3_accept rfl (jj_le rfl) (jj_le rfl) (jj_le rfl) (jj_le rfl) (jj_le rfl) dX3_readSubscriptions_38 rfl (fun _ _ _ hX => hX.elim) (fun rx pl_27 r O_30 => ?_)
            obtain ⟨rfl, hok_28, hr_29, hR_32⟩ := O_30
            replace hf_5 := hr_29.at hk0 (by decide) (by decide) hf_5
            replace hf_16 := hr_29.at ka_6 (by decide) (by decide) hf_16
            replace hfr := hfr.trans (hr_29.sub (by decide))
            obtain rfl := hR_32
            refine jj_if_eqT (tgt := 70) C dX3_readSubscriptions_41 (by decide) (by decide) ?_
            refine jj_iconst (v := 0) C dX3_readSubscriptions_70 (by decide) ?_
            exact jj_zret C rfl ⟨[], pl_27, rfl, rfl, hok_28, hfr, (Or.inl rfl)⟩ dX3_readSubscriptions_71 (jj_le rfl) (jj_le rfl)
          · refine jj_iconst (v := 1) C dX3_readSubscriptions_37 (by decide) ?_
            obtain ⟨qc, gs, hqc⟩ := tt_recv (cx := []) hok_20 hk0 (by decide) rfl
            refine tt_callV (rest := []) C (tc_X3_accept_2 hl D cA ak h0 hk0 hok_20) [] [] rfl rfl (by decide) (by decide) (by decide) qc hqc rfl rfl jw_713f4d2af1 jw_b3e457240a jw_58c48ce796 jw_9d546d0b6f jw_0001e2e84f jn_X3_accept rfl (jj_le rfl) (jj_le rfl) (jj_le rfl) (jj_le rfl) (jj_le rfl) dX3_readSubscriptions_38 rfl (fun _ _ _ hX => hX.elim) (fun rx pl_35 r O_38 => ?_)
            obtain ⟨rfl, hok_36, hr_37, hR_40⟩ := O_38
            replace hf_5 := hr_37.at hk0 (by decide) (by decide) hf_5
            replace hf_16 := hr_37.at ka_6 (by decide) (by decide) hf_16
            replace hfr := hfr.trans (hr_37.sub (by decide))
            obtain rfl := hR_40
            refine jj_if_eqF (tgt := 70) C dX3_readSubscriptions_41 (by decide) (by decide) ?_
            refine jj_aload_n C dX3_readSubscriptions_44 rfl ?_
            refine jj_iload_n C dX3_readSubscriptions_45 rfl ?_
            refine jj_bipush (v := 12) C dX3_readSubscriptions_46 (by decide) ?_
            refine jj_icmp_ge (tgt := 55) C dX3_readSubscriptions_48 (by decide) (fun c_43 => ?_) (fun c_43 => ?_)
            · have z_c_43 := jc_le (a := (12)) (b := (x_2).toInt) c_43 (by decide) rfl
              refine jj_iconst (v := 0) C dX3_readSubscriptions_55 (by decide) ?_
              refine jj_iconst (v := 3) C dX3_readSubscriptions_56 (by decide) ?_
              obtain ⟨qc, gs, hqc⟩ := tt_recv (cx := []) hok_36 hk0 (by decide) rfl
              refine tt_callV (rest := []) C (tc_X3_accept_6 hl D cA ak h0 hk0 hok_36) [] [] rfl rfl (by decide) (by decide) (by decide) qc hqc rfl rfl jw_713f4d2af1 jw_b3e457240a jw_58c48ce796 jw_9d546d0b6f jw_0001e2e84f jn_X3_accept rfl (jj_le rfl) (jj_le rfl) (jj_le rfl) (jj_le rfl) (jj_le rfl) dX3_readSubscriptions_57 rfl (fun _ _ _ hX => hX.elim) (fun rx pl_44 r O_47 => ?_)
              obtain ⟨rfl, hok_45, hr_46, hR_49⟩ := O_47
              replace hf_5 := hr_46.at hk0 (by decide) (by decide) hf_5
              replace hf_16 := hr_46.at ka_6 (by decide) (by decide) hf_16
              replace hfr := hfr.trans (hr_46.sub (by decide))
              obtain rfl := hR_49
              refine jj_if_eqT (tgt := 70) C dX3_readSubscriptions_60 (by decide) (by decide) ?_
              refine jj_iconst (v := 0) C dX3_readSubscriptions_70 (by decide) ?_
              exact jj_zret C rfl ⟨[], pl_44, rfl, rfl, hok_45, hfr, (Or.inl rfl)⟩ dX3_readSubscriptions_71 (jj_le rfl) (jj_le rfl)
            · have z_c_43 := jc_nle (a := (12)) (b := (x_2).toInt) c_43 (by decide) rfl
              refine jj_iconst (v := 1) C dX3_readSubscriptions_51 (by decide) ?_
              refine jj_goto (tgt := 56) C dX3_readSubscriptions_52 (by decide) ?_
              refine jj_iconst (v := 3) C dX3_readSubscriptions_56 (by decide) ?_
              obtain ⟨qc, gs, hqc⟩ := tt_recv (cx := []) hok_36 hk0 (by decide) rfl
              refine tt_callV (rest := []) C (tc_X3_accept_5 hl D cA ak h0 hk0 hok_36) [] [] rfl rfl (by decide) (by decide) (by decide) qc hqc rfl rfl jw_713f4d2af1 jw_b3e457240a jw_58c48ce796 jw_9d546d0b6f jw_0001e2e84f jn_X3_accept rfl (jj_le rfl) (jj_le rfl) (jj_le rfl) (jj_le rfl) (jj_le rfl) dX3_readSubscriptions_57 rfl (fun _ _ _ hX => hX.elim) (fun rx pl_52 r O_55 => ?_)
              obtain ⟨rfl, hok_53, hr_54, hR_57⟩ := O_55
              replace hf_5 := hr_54.at hk0 (by decide) (by decide) hf_5
              replace hf_16 := hr_54.at ka_6 (by decide) (by decide) hf_16
              replace hfr := hfr.trans (hr_54.sub (by decide))
              obtain rfl := hR_57
              refine jj_if_eqF (tgt := 70) C dX3_readSubscriptions_60 (by decide) (by decide) ?_
              refine jj_aload_n C dX3_readSubscriptions_63 rfl ?_
              obtain ⟨qc, gs, hqc⟩ := tt_recv (cx := []) hok_53 hk0 (by decide) rfl
              refine tt_callV (rest := []) C (tc_X3_readSubscription_1 hl D cA ak h0 hk0 hok_53) [] [] rfl rfl (by decide) (by decide) (by decide) qc hqc rfl rfl jw_b50e5c10ea jw_23105775d0 jw_16355fb5ab jw_9d546d0b6f jw_0cc88cc191 jn_X3_readSubscription rfl (jj_le rfl) (jj_le rfl) (jj_le rfl) (jj_le rfl) (jj_le rfl) dX3_readSubscriptions_64 rfl (fun _ _ _ hX => hX.elim) (fun rx pl_60 r O_63 => ?_)
              obtain ⟨rfl, hok_61, hr_62, hR_65⟩ := O_63
              replace hf_5 := hr_62.at hk0 (by decide) (by decide) hf_5
              replace hfr := hfr.trans (hr_62.sub (by decide))
              rcases hR_65 with rfl | rfl
              · refine jj_if_neF (tgt := 72) C dX3_readSubscriptions_67 (by decide) (by decide) ?_
                refine jj_iconst (v := 0) C dX3_readSubscriptions_70 (by decide) ?_
                exact jj_zret C rfl ⟨[], pl_60, rfl, rfl, hok_61, hfr, (Or.inl rfl)⟩ dX3_readSubscriptions_71 (jj_le rfl) (jj_le rfl)
              · refine jj_if_neT (tgt := 72) C dX3_readSubscriptions_67 (by decide) (by decide) ?_
                obtain ⟨x_68, ex_68, vx_68⟩ := tt_inc (x := x_2) (n := 1) (by omega) (by omega)
                refine jj_iinc (v := x_68) C dX3_readSubscriptions_72 rfl ex_68 (by decide) rfl ?_
                refine jj_goto (tgt := 2) C dX3_readSubscriptions_75 (by decide) ?_
                exact ihL_1 pl_60 x_68 hok_61 hfr (by first | omega | decide | exact tt_lo _ | exact tt_hi _) (by first | omega | decide | exact tt_lo _ | exact tt_hi _) (by first | omega | decide | exact tt_lo _ | exact tt_hi _)
        · have z_c_18 := jc_eq (a := (x_17).toInt) (b := (0)) c_18 rfl (by decide)
          refine jj_iconst (v := 1) C dX3_readSubscriptions_25 (by decide) ?_
          exact jj_zret C rfl ⟨[], pl_7, rfl, rfl, hok_8, hfr, (Or.inr rfl)⟩ dX3_readSubscriptions_26 (jj_le rfl) (jj_le rfl)
  exact hL_1 _ pl0 (0 : Int32) trivial hok hfr (by first | omega | decide | exact tt_lo _ | exact tt_hi _) (by first | omega | decide | exact tt_lo _ | exact tt_hi _) (Int.self_le_toNat _)

set_option maxHeartbeats 4000000 in
set_option maxRecDepth 100000 in
theorem tc_X3_readAll_1 {l : Launch} (hl : l.stackTraces = false) (D : va_G) (cA : Nat → ClassId) (ak : (Nat → Nat) × (Nat → Nat)) {Kd : Nat → Nat} (h0 : Nat) (hk0 : Kd h0 = 17) {pl0 : va_W} (hok : tt_ok tt_tk cA Kd pl0) : jj_M l D cA ak yX3_readAll (.code yX3_readAll cX3_readAll 1 (some .boolean)) 7 148 0 0 ([] ++ pl0) [.ref h0] (tt_O (fun rx pl1 r => rx = [] ∧ tt_ok tt_tk cA Kd pl1 ∧ tt_fr Kd [(1, 0), (1, 1), (1, 2), (1, 3), (1, 4), (1, 5), (1, 6), (1, 7), (1, 8), (1, 9), (4, 0), (4, 1), (4, 2), (4, 3), (4, 4), (10, 3), (10, 4), (10, 5), (10, 6), (17, 2)] pl0 pl1 ∧ ((r = some (.int 0)) ∨ (r = some (.int 1))))) (tt_OX (fun _ _ _ => False)) := by
  refine jj_start hl (by decide) jw_48ef172467 (jj_le rfl) ?_
  intro p e s m args below meth c A hargs hA C hex hmn
  have hfr := tt_fr.refl (K := Kd) (WS := [(1, 0), (1, 1), (1, 2), (1, 3), (1, 4), (1, 5), (1, 6), (1, 7), (1, 8), (1, 9), (4, 0), (4, 1), (4, 2), (4, 3), (4, 4), (10, 3), (10, 4), (10, 5), (10, 6), (17, 2)]) pl0
  refine jj_aload_n C dX3_readAll_0 rfl ?_
  refine tt_get C hok jk_4 1 (by decide) jw_bdf52ddf93 (t := (2, 1, 0)) hk0 (by decide) rfl rfl dX3_readAll_1 (fun v_1 hv_1 hf_2 => ?_)
  obtain ⟨a_3, rfl, ka_3⟩ := tt_vr hv_1
  obtain ⟨qc, gs, hqc⟩ := tt_recv (cx := []) hok ka_3 (by decide) rfl
  refine tt_callV (rest := []) C (tc_X0_empty_1 hl D cA ak a_3 ka_3 hok) [] [] rfl rfl (by decide) (by decide) (by decide) qc hqc rfl rfl jw_70774646a3 jw_1f85beb0ee jw_766e918565 jw_7d25d4fd32 jw_3b60f34034 jn_X0_empty rfl (jj_le rfl) (jj_le rfl) (jj_le rfl) (jj_le rfl) (jj_le rfl) dX3_readAll_4 rfl (fun _ _ _ hX => hX.elim) (fun rx pl_4 r O_7 => ?_)
  obtain ⟨rfl, hok_5, hr_6, hR_9⟩ := O_7
  replace hf_2 := hr_6.at hk0 (by decide) (by decide) hf_2
  replace hfr := hfr.trans (hr_6.sub (by decide))
  obtain rfl := hR_9
  refine jj_aload_n C dX3_readAll_7 rfl ?_
  obtain ⟨qc, gs, hqc⟩ := tt_recv (cx := []) hok_5 hk0 (by decide) rfl
  refine tt_callV (rest := []) C (tc_X3_readFund_1 hl D cA ak h0 hk0 hok_5) [] [] rfl rfl (by decide) (by decide) (by decide) qc hqc rfl rfl jw_326a050c34 jw_0ff5f51df1 jw_d507058dac jw_9d546d0b6f jw_1a1c8b71c4 jn_X3_readFund rfl (jj_le rfl) (jj_le rfl) (jj_le rfl) (jj_le rfl) (jj_le rfl) dX3_readAll_8 rfl (fun _ _ _ hX => hX.elim) (fun rx pl_12 r O_15 => ?_)
  obtain ⟨rfl, hok_13, hr_14, hR_17⟩ := O_15
  replace hf_2 := hr_14.at hk0 (by decide) (by decide) hf_2
  replace hfr := hfr.trans (hr_14.sub (by decide))
  rcases hR_17 with rfl | rfl
  · refine jj_if_eqT (tgt := 32) C dX3_readAll_11 (by decide) (by decide) ?_
    refine jj_iconst (v := 0) C dX3_readAll_32 (by decide) ?_
    exact jj_zret C rfl ⟨[], pl_12, rfl, rfl, hok_13, hfr, (Or.inl rfl)⟩ dX3_readAll_33 (jj_le rfl) (jj_le rfl)
  · refine jj_if_eqF (tgt := 32) C dX3_readAll_11 (by decide) (by decide) ?_
    refine jj_aload_n C dX3_readAll_14 rfl ?_
    obtain ⟨qc, gs, hqc⟩ := tt_recv (cx := []) hok_13 hk0 (by decide) rfl
    refine tt_callV (rest := []) C (tc_X3_readInvestors_1 hl D cA ak h0 hk0 hok_13) [] [] rfl rfl (by decide) (by decide) (by decide) qc hqc rfl rfl jw_297b72aa01 jw_aa69f86581 jw_7bc51c19f8 jw_9d546d0b6f jw_a68ab282d7 jn_X3_readInvestors rfl (jj_le rfl) (jj_le rfl) (jj_le rfl) (jj_le rfl) (jj_le rfl) dX3_readAll_15 rfl (fun _ _ _ hX => hX.elim) (fun rx pl_20 r O_23 => ?_)
    obtain ⟨rfl, hok_21, hr_22, hR_25⟩ := O_23
    replace hf_2 := hr_22.at hk0 (by decide) (by decide) hf_2
    replace hfr := hfr.trans (hr_22.sub (by decide))
    rcases hR_25 with rfl | rfl
    · refine jj_if_eqT (tgt := 32) C dX3_readAll_18 (by decide) (by decide) ?_
      refine jj_iconst (v := 0) C dX3_readAll_32 (by decide) ?_
      exact jj_zret C rfl ⟨[], pl_20, rfl, rfl, hok_21, hfr, (Or.inl rfl)⟩ dX3_readAll_33 (jj_le rfl) (jj_le rfl)
    · refine jj_if_eqF (tgt := 32) C dX3_readAll_18 (by decide) (by decide) ?_
      refine jj_aload_n C dX3_readAll_21 rfl ?_
      obtain ⟨qc, gs, hqc⟩ := tt_recv (cx := []) hok_21 hk0 (by decide) rfl
      refine tt_callV (rest := []) C (tc_X3_readSubscriptions_1 hl D cA ak h0 hk0 hok_21) [] [] rfl rfl (by decide) (by decide) (by decide) qc hqc rfl rfl jw_0d491b8015 jw_da6629b5a3 jw_c7b5efd6ac jw_9d546d0b6f jw_66b02ab29d jn_X3_readSubscriptions rfl (jj_le rfl) (jj_le rfl) (jj_le rfl) (jj_le rfl) (jj_le rfl) dX3_readAll_22 rfl (fun _ _ _ hX => hX.elim) (fun rx pl_28 r O_31 => ?_)
      obtain ⟨rfl, hok_29, hr_30, hR_33⟩ := O_31
      replace hf_2 := hr_30.at hk0 (by decide) (by decide) hf_2
      replace hfr := hfr.trans (hr_30.sub (by decide))
      rcases hR_33 with rfl | rfl
      · refine jj_if_eqT (tgt := 32) C dX3_readAll_25 (by decide) (by decide) ?_
        refine jj_iconst (v := 0) C dX3_readAll_32 (by decide) ?_
        exact jj_zret C rfl ⟨[], pl_28, rfl, rfl, hok_29, hfr, (Or.inl rfl)⟩ dX3_readAll_33 (jj_le rfl) (jj_le rfl)
      · refine jj_if_eqF (tgt := 32) C dX3_readAll_25 (by decide) (by decide) ?_
        refine jj_iconst (v := 1) C dX3_readAll_28 (by decide) ?_
        refine jj_goto (tgt := 33) C dX3_readAll_29 (by decide) ?_
        exact jj_zret C rfl ⟨[], pl_28, rfl, rfl, hok_29, hfr, (Or.inr rfl)⟩ dX3_readAll_33 (jj_le rfl) (jj_le rfl)

set_option maxHeartbeats 4000000 in
set_option maxRecDepth 100000 in
theorem tc_X1_holdDealing_1 {l : Launch} (hl : l.stackTraces = false) (D : va_G) (cA : Nat → ClassId) (ak : (Nat → Nat) × (Nat → Nat)) {Kd : Nat → Nat} (h0 : Nat) (h1 : Nat) (hk0 : Kd h0 = 9) (hk1 : Kd h1 = 1) {pl0 : va_W} (hok : tt_ok tt_tk cA Kd pl0) : jj_M l D cA ak yX1_holdDealing (.code yX1_holdDealing cX1_holdDealing 2 (some .int)) 4 114 0 0 ([] ++ pl0) [.ref h0, .ref h1] (tt_O (fun rx pl1 r => rx = [] ∧ tt_ok tt_tk cA Kd pl1 ∧ tt_fr Kd [(1, 6), (1, 7), (1, 8), (1, 9), (2, 0), (2, 1), (2, 2), (2, 3), (2, 4), (3, 0), (3, 1), (3, 2), (3, 3), (3, 4), (3, 5), (4, 3), (4, 4), (9, 1), (9, 2), (9, 3), (9, 4), (9, 5)] pl0 pl1 ∧ ((∃ v : Int32, (-12 : Int) ≤ v.toInt ∧ v.toInt ≤ 12 ∧ r = some (.int v))))) (tt_OX (fun _ _ _ => False)) := by
  refine jj_start hl (by decide) jw_cb08e29005 (jj_le rfl) ?_
  intro p e s m args below meth c A hargs hA C hex hmn
  have hfr := tt_fr.refl (K := Kd) (WS := [(1, 6), (1, 7), (1, 8), (1, 9), (2, 0), (2, 1), (2, 2), (2, 3), (2, 4), (3, 0), (3, 1), (3, 2), (3, 3), (3, 4), (3, 5), (4, 3), (4, 4), (9, 1), (9, 2), (9, 3), (9, 4), (9, 5)]) pl0
  refine jj_aload_n C dX1_holdDealing_0 rfl ?_
  refine jj_aload_n C dX1_holdDealing_1 rfl ?_
  refine jj_aload_n C dX1_holdDealing_2 rfl ?_
  refine jj_aload_n C dX1_holdDealing_3 rfl ?_
  obtain ⟨qc, gs, hqc⟩ := tt_recv (cx := []) hok hk0 (by decide) rfl
  refine tt_callV (rest := [.ref h1, .ref h0]) C (tc_X1_baseOfRedemptions_1 hl D cA ak h0 h1 hk0 hk1 hok) [] [] rfl rfl (by decide) (by decide) (by decide) qc hqc rfl rfl jw_ccf4bd9d58 jw_36bb45001b jw_b21f9198d3 jw_944cf9c3ab jw_77ee4174d9 jn_X1_baseOfRedemptions rfl (jj_le rfl) (jj_le rfl) (jj_le rfl) (jj_le rfl) (jj_le rfl) dX1_holdDealing_4 rfl (fun _ _ _ hX => hX.elim) (fun rx pl_1 r O_4 => ?_)
  obtain ⟨rfl, hok_2, hr_3, hR_6⟩ := O_4
  replace hfr := hfr.trans (hr_3.sub (by decide))
  obtain ⟨y_9, rfl⟩ := hR_6
  obtain ⟨qc, gs, hqc⟩ := tt_recv (cx := []) hok_2 hk0 (by decide) rfl
  refine tt_callV (rest := []) C (tc_X1_redeemWaiting_1 hl D cA ak h0 h1 y_9 hk0 hk1 hok_2) [] [] rfl rfl (by decide) (by decide) (by decide) qc hqc rfl rfl jw_a916ee95e5 jw_1a80919bc4 jw_88c712b448 jw_944cf9c3ab jw_4b6b3c5714 jn_X1_redeemWaiting rfl (jj_le rfl) (jj_le rfl) (jj_le rfl) (jj_le rfl) (jj_le rfl) dX1_holdDealing_7 rfl (fun _ _ _ hX => hX.elim) (fun rx pl_10 r O_13 => ?_)
  obtain ⟨rfl, hok_11, hr_12, hR_15⟩ := O_13
  replace hfr := hfr.trans (hr_12.sub (by decide))
  obtain rfl := hR_15
  refine jj_aload_n C dX1_holdDealing_10 rfl ?_
  refine jj_aload_n C dX1_holdDealing_11 rfl ?_
  obtain ⟨qc, gs, hqc⟩ := tt_recv (cx := []) hok_11 hk0 (by decide) rfl
  refine tt_callV (rest := []) C (tc_X1_subscribeWaiting_1 hl D cA ak h0 h1 hk0 hk1 hok_11) [] [] rfl rfl (by decide) (by decide) (by decide) qc hqc rfl rfl jw_e3ece2457f jw_fbad23a485 jw_3bcef26e8b jw_944cf9c3ab jw_869633d7b1 jn_X1_subscribeWaiting rfl (jj_le rfl) (jj_le rfl) (jj_le rfl) (jj_le rfl) (jj_le rfl) dX1_holdDealing_12 rfl (fun _ _ _ hX => hX.elim) (fun rx pl_18 r O_21 => ?_)
  obtain ⟨rfl, hok_19, hr_20, hR_23⟩ := O_21
  replace hfr := hfr.trans (hr_20.sub (by decide))
  obtain rfl := hR_23
  refine jj_aload_n C dX1_holdDealing_15 rfl ?_
  obtain ⟨qc, gs, hqc⟩ := tt_recv (cx := []) hok_19 hk1 (by decide) rfl
  refine tt_callV (rest := []) C (tc_X0_dropDoneRequests_1 hl D cA ak h1 hk1 hok_19) [] [] rfl rfl (by decide) (by decide) (by decide) qc hqc rfl rfl jw_aaa4b6a0d2 jw_8c2aa441ca jw_a9b330a1c3 jw_7d25d4fd32 jw_77bdbcf71c jn_X0_dropDoneRequests rfl (jj_le rfl) (jj_le rfl) (jj_le rfl) (jj_le rfl) (jj_le rfl) dX1_holdDealing_16 rfl (fun _ _ _ hX => hX.elim) (fun rx pl_26 r O_29 => ?_)
  obtain ⟨rfl, hok_27, hr_28, hR_31⟩ := O_29
  replace hfr := hfr.trans (hr_28.sub (by decide))
  obtain ⟨x_34, lx_34, ux_34, rfl⟩ := hR_31
  exact jj_iret C ⟨[], pl_26, rfl, rfl, hok_27, hfr, ⟨x_34, (by first | omega | exact tt_lo _ | exact tt_hi _), (by first | omega | exact tt_lo _ | exact tt_hi _), rfl⟩⟩ dX1_holdDealing_19 (jj_le rfl) (jj_le rfl)

