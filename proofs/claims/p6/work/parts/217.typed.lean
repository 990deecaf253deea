set_option maxHeartbeats 4000000 in
set_option maxRecDepth 100000 in
theorem tc_X3_readSemicolon_1 {l : Launch} (hl : l.stackTraces = false) (D : va_G) (cA : Nat → ClassId) (ak : (Nat → Nat) × (Nat → Nat)) {Kd : Nat → Nat} (h0 : Nat) (hk0 : Kd h0 = 17) {pl0 : va_W} (hok : tt_ok tt_tk cA Kd pl0) : jj_M l D cA ak yX3_readSemicolon (.code yX3_readSemicolon cX3_readSemicolon 1 (some .boolean)) 2 41 0 0 ([] ++ pl0) [.ref h0] (tt_O (fun rx pl1 r => rx = [] ∧ tt_ok tt_tk cA Kd pl1 ∧ tt_fr Kd [(10, 3), (10, 4), (10, 5), (10, 6), (17, 2)] pl0 pl1 ∧ tt_fa Kd [] pl0 pl1 ∧ ((r = some (.int 0)) ∨ (r = some (.int 1))))) (tt_OX (fun _ _ _ => False)) := by
  refine jj_start hl (by decide) jw_469c7bc0ab (jj_le rfl) ?_
  intro p e s m args below meth c A hargs hA C hex hmn
  have hfr := tt_fr.refl (K := Kd) (WS := [(10, 3), (10, 4), (10, 5), (10, 6), (17, 2)]) pl0
  have hfa := tt_fa.refl (K := Kd) (WA := []) pl0
  refine jj_aload_n C dX3_readSemicolon_0 rfl ?_
  refine tt_get C hok jk_4 0 (by decide) jw_70cd29f103 (t := (2, 10, 0)) hk0 (by decide) rfl rfl dX3_readSemicolon_1 (fun v_1 hv_1 hf_2 => ?_)
  obtain ⟨a_3, rfl, ka_3⟩ := tt_vr hv_1
  obtain ⟨qc, gs, hqc⟩ := tt_recv (cx := []) hok ka_3 (by decide) rfl
  refine tt_callV (rest := []) C (tc_X9_advance_1 hl D cA ak a_3 ka_3 hok) [] [] rfl rfl (by decide) (by decide) (by decide) qc hqc rfl rfl jw_97c023d194 jw_37f6ee43e0 jw_46baf1fc7b jw_a9e7b602dc jw_0d4db63612 jn_X9_advance rfl (jj_le rfl) (jj_le rfl) (jj_le rfl) (jj_le rfl) (jj_le rfl) dX3_readSemicolon_4 rfl (fun _ _ _ hX => hX.elim) (fun rx pl_4 r O_7 => ?_)
  obtain ⟨rfl, hok_5, hr_6, hfa9, hR_9⟩ := O_7
  replace hf_2 := hr_6.at hk0 (by decide) (by decide) hf_2
  replace hfr := hfr.trans (hr_6.sub (by decide))
  replace hfa := hfa.trans (hfa9.sub (by decide))
  obtain rfl := hR_9
  refine jj_aload_n C dX3_readSemicolon_7 rfl ?_
  refine jj_aload_n C dX3_readSemicolon_8 rfl ?_
  refine tt_getF C hok_5 jk_4 0 (by decide) jw_70cd29f103 (t := (2, 10, 0)) hk0 (by decide) rfl rfl hf_2 dX3_readSemicolon_9 ?_
  refine tt_get C hok_5 jk_10 5 (by decide) jw_601d0e39ae (t := (0, (-2147483648), 2147483647)) ka_3 (by decide) rfl rfl dX3_readSemicolon_12 (fun v_12 hv_12 hf_13 => ?_)
  obtain ⟨x_14, rfl, lx_14, ux_14⟩ := tt_vi hv_12
  refine jj_iconst (v := 3) C dX3_readSemicolon_15 (by decide) ?_
  refine jj_icmp_ne (tgt := 23) C dX3_readSemicolon_16 (by decide) (fun c_15 => ?_) (fun c_15 => ?_)
  · have z_c_15 := jc_neq (a := (x_14).toInt) (b := (3)) c_15 rfl (by decide)
    refine jj_iconst (v := 0) C dX3_readSemicolon_23 (by decide) ?_
    refine jj_iconst (v := 1) C dX3_readSemicolon_24 (by decide) ?_
    obtain ⟨qc, gs, hqc⟩ := tt_recv (cx := []) hok_5 hk0 (by decide) rfl
    refine tt_callV (rest := []) C (tc_X3_accept_1 hl D cA ak h0 hk0 hok_5) [] [] rfl rfl (by decide) (by decide) (by decide) qc hqc rfl rfl jw_713f4d2af1 jw_b3e457240a jw_58c48ce796 jw_9d546d0b6f jw_0001e2e84f jn_X3_accept rfl (jj_le rfl) (jj_le rfl) (jj_le rfl) (jj_le rfl) (jj_le rfl) dX3_readSemicolon_25 rfl (fun _ _ _ hX => hX.elim) (fun rx pl_16 r O_19 => ?_)
    obtain ⟨rfl, hok_17, hr_18, hfa9, hR_21⟩ := O_19
    replace hf_2 := hr_18.at hk0 (by decide) (by decide) hf_2
    replace hf_13 := hr_18.at ka_3 (by decide) (by decide) hf_13
    replace hfr := hfr.trans (hr_18.sub (by decide))
    replace hfa := hfa.trans (hfa9.sub (by decide))
    obtain rfl := hR_21
    exact jj_zret C rfl ⟨[], pl_16, rfl, rfl, hok_17, hfr, hfa, (Or.inl rfl)⟩ dX3_readSemicolon_28 (jj_le rfl) (jj_le rfl)
  · have z_c_15 := jc_eq (a := (x_14).toInt) (b := (3)) c_15 rfl (by decide)
    refine jj_iconst (v := 1) C dX3_readSemicolon_19 (by decide) ?_
    refine jj_goto (tgt := 24) C dX3_readSemicolon_20 (by decide) ?_
    refine jj_iconst (v := 1) C dX3_readSemicolon_24 (by decide) ?_
    obtain ⟨qc, gs, hqc⟩ := tt_recv (cx := []) hok_5 hk0 (by decide) rfl
    refine tt_callV (rest := []) C (tc_X3_accept_2 hl D cA ak h0 hk0 hok_5) [] [] rfl rfl (by decide) (by decide) (by decide) qc hqc rfl rfl jw_713f4d2af1 jw_b3e457240a jw_58c48ce796 jw_9d546d0b6f jw_0001e2e84f jn_X3_accept rfl (jj_le rfl) (jj_le rfl) (jj_le rfl) (jj_le rfl) (jj_le rfl) dX3_readSemicolon_25 rfl (fun _ _ _ hX => hX.elim) (fun rx pl_24 r O_27 => ?_)
    obtain ⟨rfl, hok_25, hr_26, hfa9, hR_29⟩ := O_27
    replace hf_2 := hr_26.at hk0 (by decide) (by decide) hf_2
    replace hf_13 := hr_26.at ka_3 (by decide) (by decide) hf_13
    replace hfr := hfr.trans (hr_26.sub (by decide))
    replace hfa := hfa.trans (hfa9.sub (by decide))
    obtain rfl := hR_29
    exact jj_zret C rfl ⟨[], pl_24, rfl, rfl, hok_25, hfr, hfa, (Or.inr rfl)⟩ dX3_readSemicolon_28 (jj_le rfl) (jj_le rfl)

set_option maxHeartbeats 4000000 in
set_option maxRecDepth 100000 in
theorem tc_X3_readFund_1 {l : Launch} (hl : l.stackTraces = false) (D : va_G) (cA : Nat → ClassId) (ak : (Nat → Nat) × (Nat → Nat)) {Kd : Nat → Nat} (h0 : Nat) (hk0 : Kd h0 = 17) {pl0 : va_W} (hok : tt_ok tt_tk cA Kd pl0) : jj_M l D cA ak yX3_readFund (.code yX3_readFund cX3_readFund 1 (some .boolean)) 6 128 0 0 ([] ++ pl0) [.ref h0] (tt_O (fun rx pl1 r => rx = [] ∧ tt_ok tt_tk cA Kd pl1 ∧ tt_fr Kd [(1, 1), (1, 2), (1, 3), (1, 4), (10, 3), (10, 4), (10, 5), (10, 6), (17, 2)] pl0 pl1 ∧ tt_fa Kd [] pl0 pl1 ∧ ((r = some (.int 0)) ∨ (r = some (.int 1))))) (tt_OX (fun _ _ _ => False)) := by
  refine jj_start hl (by decide) jw_1a1c8b71c4 (jj_le rfl) ?_
  intro p e s m args below meth c A hargs hA C hex hmn
  have hfr := tt_fr.refl (K := Kd) (WS := [(1, 1), (1, 2), (1, 3), (1, 4), (10, 3), (10, 4), (10, 5), (10, 6), (17, 2)]) pl0
  have hfa := tt_fa.refl (K := Kd) (WA := []) pl0
  refine jj_aload_n C dX3_readFund_0 rfl ?_
  refine jj_ldcs (k := 0) (tx := "fund") C dX3_readFund_1 (by decide +kernel) ?_
  obtain ⟨qc, gs, hqc⟩ := tt_recv (cx := []) hok hk0 (by decide) rfl
  refine tt_callV (rest := []) C (tc_X3_readWord_1 hl D cA ak h0 hk0 hok) [] [] rfl rfl (by decide) (by decide) (by decide) qc hqc rfl rfl jw_35f0a2113e jw_2bd777f4eb jw_3ef85e294d jw_9d546d0b6f jw_e40f0ddd13 jn_X3_readWord rfl (jj_le rfl) (jj_le rfl) (jj_le rfl) (jj_le rfl) (jj_le rfl) dX3_readFund_3 rfl (fun _ _ _ hX => hX.elim) (fun rx pl_1 r O_4 => ?_)
  obtain ⟨rfl, hok_2, hr_3, hfa9, hR_6⟩ := O_4
  replace hfr := hfr.trans (hr_3.sub (by decide))
  replace hfa := hfa.trans (hfa9.sub (by decide))
  rcases hR_6 with rfl | rfl
  · refine jj_if_eqT (tgt := 27) C dX3_readFund_6 (by decide) (by decide) ?_
    refine jj_iconst (v := 0) C dX3_readFund_27 (by decide) ?_
    exact jj_zret C rfl ⟨[], pl_1, rfl, rfl, hok_2, hfr, hfa, (Or.inl rfl)⟩ dX3_readFund_28 (jj_le rfl) (jj_le rfl)
  · refine jj_if_eqF (tgt := 27) C dX3_readFund_6 (by decide) (by decide) ?_
    refine jj_aload_n C dX3_readFund_9 rfl ?_
    obtain ⟨qc, gs, hqc⟩ := tt_recv (cx := []) hok_2 hk0 (by decide) rfl
    refine tt_callV (rest := []) C (tc_X3_readMethod_1 hl D cA ak h0 hk0 hok_2) [] [] rfl rfl (by decide) (by decide) (by decide) qc hqc rfl rfl jw_929d8e5787 jw_a38d2932de jw_290a4b4fac jw_9d546d0b6f jw_fe37aa9023 jn_X3_readMethod rfl (jj_le rfl) (jj_le rfl) (jj_le rfl) (jj_le rfl) (jj_le rfl) dX3_readFund_10 rfl (fun _ _ _ hX => hX.elim) (fun rx pl_9 r O_12 => ?_)
    obtain ⟨rfl, hok_10, hr_11, hfa9, hR_14⟩ := O_12
    replace hfr := hfr.trans (hr_11.sub (by decide))
    replace hfa := hfa.trans (hfa9.sub (by decide))
    rcases hR_14 with rfl | rfl
    · refine jj_if_eqT (tgt := 27) C dX3_readFund_13 (by decide) (by decide) ?_
      refine jj_iconst (v := 0) C dX3_readFund_27 (by decide) ?_
      exact jj_zret C rfl ⟨[], pl_9, rfl, rfl, hok_10, hfr, hfa, (Or.inl rfl)⟩ dX3_readFund_28 (jj_le rfl) (jj_le rfl)
    · refine jj_if_eqF (tgt := 27) C dX3_readFund_13 (by decide) (by decide) ?_
      refine jj_aload_n C dX3_readFund_16 rfl ?_
      refine jj_iconst (v := 0) C dX3_readFund_17 (by decide) ?_
      refine jj_sipush (v := 9999) C dX3_readFund_18 (by decide) ?_
      obtain ⟨qc, gs, hqc⟩ := tt_recv (cx := []) hok_10 hk0 (by decide) rfl
      refine tt_callV (rest := []) C (tc_X3_readNumber_1 hl D cA ak h0 hk0 hok_10) [] [] rfl rfl (by decide) (by decide) (by decide) qc hqc rfl rfl jw_012f0d7bd3 jw_3c1e5a080b jw_1f143bff8b jw_9d546d0b6f jw_ad178c7ce3 jn_X3_readNumber rfl (jj_le rfl) (jj_le rfl) (jj_le rfl) (jj_le rfl) (jj_le rfl) dX3_readFund_21 rfl (fun _ _ _ hX => hX.elim) (fun rx pl_17 r O_20 => ?_)
      obtain ⟨rfl, hok_18, hr_19, hfa9, hR_22⟩ := O_20
      replace hfr := hfr.trans (hr_19.sub (by decide))
      replace hfa := hfa.trans (hfa9.sub (by decide))
      rcases hR_22 with rfl | rfl
      · refine jj_if_neF (tgt := 29) C dX3_readFund_24 (by decide) (by decide) ?_
        refine jj_iconst (v := 0) C dX3_readFund_27 (by decide) ?_
        exact jj_zret C rfl ⟨[], pl_17, rfl, rfl, hok_18, hfr, hfa, (Or.inl rfl)⟩ dX3_readFund_28 (jj_le rfl) (jj_le rfl)
      · refine jj_if_neT (tgt := 29) C dX3_readFund_24 (by decide) (by decide) ?_
        refine jj_aload_n C dX3_readFund_29 rfl ?_
        refine tt_get C hok_18 jk_4 1 (by decide) jw_bdf52ddf93 (t := (2, 1, 0)) hk0 (by decide) rfl rfl dX3_readFund_30 (fun v_25 hv_25 hf_26 => ?_)
        obtain ⟨a_27, rfl, ka_27⟩ := tt_vr hv_25
        refine jj_aload_n C dX3_readFund_33 rfl ?_
        refine tt_get C hok_18 jk_4 0 (by decide) jw_70cd29f103 (t := (2, 10, 0)) hk0 (by decide) rfl rfl dX3_readFund_34 (fun v_28 hv_28 hf_29 => ?_)
        obtain ⟨a_30, rfl, ka_30⟩ := tt_vr hv_28
        refine tt_get C hok_18 jk_10 6 (by decide) jw_c96d139a1d (t := (0, (-2147483648), 2147483647)) ka_30 (by decide) rfl rfl dX3_readFund_37 (fun v_31 hv_31 hf_32 => ?_)
        obtain ⟨x_33, rfl, lx_33, ux_33⟩ := tt_vi hv_31
        refine rl_put C hok_18 jk_2 2 (by decide) jw_9d51789d75 (t := (0, (-2147483648), 2147483647)) ka_27 (by decide) rfl rfl rfl (tt_ia x_33) rfl rfl dX3_readFund_40 (fun pl_34 hok_35 tr hn tl => ?_)
        replace hf_26 := tr _ _ _ (Or.inl (tt_ne hk0 ka_27 (by decide))) hf_26
        replace hf_29 := tr _ _ _ (Or.inl (tt_ne hk0 ka_27 (by decide))) hf_29
        replace hf_32 := tr _ _ _ (Or.inl (tt_ne ka_30 ka_27 (by decide))) hf_32
        have hf_36 := hn
        replace hfr := hfr.put ka_27 tr (by decide)
        replace hfa := hfa.all tl
        refine jj_aload_n C dX3_readFund_43 rfl ?_
        refine jj_iconst (v := 0) C dX3_readFund_44 (by decide) ?_
        refine jj_bipush (v := 50) C dX3_readFund_45 (by decide) ?_
        obtain ⟨qc, gs, hqc⟩ := tt_recv (cx := []) hok_35 hk0 (by decide) rfl
        refine tt_callV (rest := []) C (tc_X3_readNumber_2 hl D cA ak h0 hk0 hok_35) [] [] rfl rfl (by decide) (by decide) (by decide) qc hqc rfl rfl jw_012f0d7bd3 jw_3c1e5a080b jw_1f143bff8b jw_9d546d0b6f jw_ad178c7ce3 jn_X3_readNumber rfl (jj_le rfl) (jj_le rfl) (jj_le rfl) (jj_le rfl) (jj_le rfl) dX3_readFund_47 rfl (fun _ _ _ hX => hX.elim) (fun rx pl_37 r O_40 => ?_)
        obtain ⟨rfl, hok_38, hr_39, hfa9, hR_42⟩ := O_40
        replace hf_26 := hr_39.at hk0 (by decide) (by decide) hf_26
        replace hf_29 := hr_39.at hk0 (by decide) (by decide) hf_29
        replace hf_36 := hr_39.at ka_27 (by decide) (by decide) hf_36
        replace hfr := hfr.trans (hr_39.sub (by decide))
        replace hfa := hfa.trans (hfa9.sub (by decide))
        rcases hR_42 with rfl | rfl
        · refine jj_if_neF (tgt := 55) C dX3_readFund_50 (by decide) (by decide) ?_
          refine jj_iconst (v := 0) C dX3_readFund_53 (by decide) ?_
          exact jj_zret C rfl ⟨[], pl_37, rfl, rfl, hok_38, hfr, hfa, (Or.inl rfl)⟩ dX3_readFund_54 (jj_le rfl) (jj_le rfl)
        · refine jj_if_neT (tgt := 55) C dX3_readFund_50 (by decide) (by decide) ?_
          refine jj_aload_n C dX3_readFund_55 rfl ?_
          refine tt_getF C hok_38 jk_4 1 (by decide) jw_bdf52ddf93 (t := (2, 1, 0)) hk0 (by decide) rfl rfl hf_26 dX3_readFund_56 ?_
          refine jj_aload_n C dX3_readFund_59 rfl ?_
          refine tt_getF C hok_38 jk_4 0 (by decide) jw_70cd29f103 (t := (2, 10, 0)) hk0 (by decide) rfl rfl hf_29 dX3_readFund_60 ?_
          refine tt_get C hok_38 jk_10 6 (by decide) jw_c96d139a1d (t := (0, (-2147483648), 2147483647)) ka_30 (by decide) rfl rfl dX3_readFund_63 (fun v_45 hv_45 hf_46 => ?_)
          obtain ⟨x_47, rfl, lx_47, ux_47⟩ := tt_vi hv_45
          refine rl_put C hok_38 jk_2 3 (by decide) jw_fb3bcf590b (t := (0, (-2147483648), 2147483647)) ka_27 (by decide) rfl rfl rfl (tt_ia x_47) rfl rfl dX3_readFund_66 (fun pl_48 hok_49 tr hn tl => ?_)
          replace hf_26 := tr _ _ _ (Or.inl (tt_ne hk0 ka_27 (by decide))) hf_26
          replace hf_29 := tr _ _ _ (Or.inl (tt_ne hk0 ka_27 (by decide))) hf_29
          replace hf_36 := tr _ _ _ (Or.inr (by decide)) hf_36
          replace hf_46 := tr _ _ _ (Or.inl (tt_ne ka_30 ka_27 (by decide))) hf_46
          have hf_50 := hn
          replace hfr := hfr.put ka_27 tr (by decide)
          replace hfa := hfa.all tl
          refine jj_aload_n C dX3_readFund_69 rfl ?_
          refine jj_iconst (v := 1) C dX3_readFund_70 (by decide) ?_
          refine jj_bipush (v := 100) C dX3_readFund_71 (by decide) ?_
          obtain ⟨qc, gs, hqc⟩ := tt_recv (cx := []) hok_49 hk0 (by decide) rfl
          refine tt_callV (rest := []) C (tc_X3_readNumber_3 hl D cA ak h0 hk0 hok_49) [] [] rfl rfl (by decide) (by decide) (by decide) qc hqc rfl rfl jw_012f0d7bd3 jw_3c1e5a080b jw_1f143bff8b jw_9d546d0b6f jw_ad178c7ce3 jn_X3_readNumber rfl (jj_le rfl) (jj_le rfl) (jj_le rfl) (jj_le rfl) (jj_le rfl) dX3_readFund_73 rfl (fun _ _ _ hX => hX.elim) (fun rx pl_51 r O_54 => ?_)
          obtain ⟨rfl, hok_52, hr_53, hfa9, hR_56⟩ := O_54
          replace hf_26 := hr_53.at hk0 (by decide) (by decide) hf_26
          replace hf_29 := hr_53.at hk0 (by decide) (by decide) hf_29
          replace hf_36 := hr_53.at ka_27 (by decide) (by decide) hf_36
          replace hf_50 := hr_53.at ka_27 (by decide) (by decide) hf_50
          replace hfr := hfr.trans (hr_53.sub (by decide))
          replace hfa := hfa.trans (hfa9.sub (by decide))
          rcases hR_56 with rfl | rfl
          · refine jj_if_neF (tgt := 81) C dX3_readFund_76 (by decide) (by decide) ?_
            refine jj_iconst (v := 0) C dX3_readFund_79 (by decide) ?_
            exact jj_zret C rfl ⟨[], pl_51, rfl, rfl, hok_52, hfr, hfa, (Or.inl rfl)⟩ dX3_readFund_80 (jj_le rfl) (jj_le rfl)
          · refine jj_if_neT (tgt := 81) C dX3_readFund_76 (by decide) (by decide) ?_
            refine jj_aload_n C dX3_readFund_81 rfl ?_
            refine tt_getF C hok_52 jk_4 1 (by decide) jw_bdf52ddf93 (t := (2, 1, 0)) hk0 (by decide) rfl rfl hf_26 dX3_readFund_82 ?_
            refine jj_aload_n C dX3_readFund_85 rfl ?_
            refine tt_getF C hok_52 jk_4 0 (by decide) jw_70cd29f103 (t := (2, 10, 0)) hk0 (by decide) rfl rfl hf_29 dX3_readFund_86 ?_
            refine tt_get C hok_52 jk_10 6 (by decide) jw_c96d139a1d (t := (0, (-2147483648), 2147483647)) ka_30 (by decide) rfl rfl dX3_readFund_89 (fun v_59 hv_59 hf_60 => ?_)
            obtain ⟨x_61, rfl, lx_61, ux_61⟩ := tt_vi hv_59
            refine rl_put C hok_52 jk_2 4 (by decide) jw_3fe4d4aa21 (t := (0, (-2147483648), 2147483647)) ka_27 (by decide) rfl rfl rfl (tt_ia x_61) rfl rfl dX3_readFund_92 (fun pl_62 hok_63 tr hn tl => ?_)
            replace hf_26 := tr _ _ _ (Or.inl (tt_ne hk0 ka_27 (by decide))) hf_26
            replace hf_29 := tr _ _ _ (Or.inl (tt_ne hk0 ka_27 (by decide))) hf_29
            replace hf_36 := tr _ _ _ (Or.inr (by decide)) hf_36
            replace hf_50 := tr _ _ _ (Or.inr (by decide)) hf_50
            replace hf_60 := tr _ _ _ (Or.inl (tt_ne ka_30 ka_27 (by decide))) hf_60
            have hf_64 := hn
            replace hfr := hfr.put ka_27 tr (by decide)
            replace hfa := hfa.all tl
            refine jj_aload_n C dX3_readFund_95 rfl ?_
            obtain ⟨qc, gs, hqc⟩ := tt_recv (cx := []) hok_63 hk0 (by decide) rfl
            refine tt_callV (rest := []) C (tc_X3_readSemicolon_1 hl D cA ak h0 hk0 hok_63) [] [] rfl rfl (by decide) (by decide) (by decide) qc hqc rfl rfl jw_3b321ba845 jw_25d4a051a9 jw_00e33b0681 jw_9d546d0b6f jw_469c7bc0ab jn_X3_readSemicolon rfl (jj_le rfl) (jj_le rfl) (jj_le rfl) (jj_le rfl) (jj_le rfl) dX3_readFund_96 rfl (fun _ _ _ hX => hX.elim) (fun rx pl_65 r O_68 => ?_)
            obtain ⟨rfl, hok_66, hr_67, hfa9, hR_70⟩ := O_68
            replace hf_26 := hr_67.at hk0 (by decide) (by decide) hf_26
            replace hf_29 := hr_67.at hk0 (by decide) (by decide) hf_29
            replace hf_36 := hr_67.at ka_27 (by decide) (by decide) hf_36
            replace hf_50 := hr_67.at ka_27 (by decide) (by decide) hf_50
            replace hf_64 := hr_67.at ka_27 (by decide) (by decide) hf_64
            replace hfr := hfr.trans (hr_67.sub (by decide))
            replace hfa := hfa.trans (hfa9.sub (by decide))
            rcases hR_70 with rfl | rfl
            · exact jj_zret C rfl ⟨[], pl_65, rfl, rfl, hok_66, hfr, hfa, (Or.inl rfl)⟩ dX3_readFund_99 (jj_le rfl) (jj_le rfl)
            · exact jj_zret C rfl ⟨[], pl_65, rfl, rfl, hok_66, hfr, hfa, (Or.inr rfl)⟩ dX3_readFund_99 (jj_le rfl) (jj_le rfl)

set_option maxHeartbeats 4000000 in
set_option maxRecDepth 100000 in
theorem tc_X9_isWord_4 {l : Launch} (hl : l.stackTraces = false) (D : va_G) (cA : Nat → ClassId) (ak : (Nat → Nat) × (Nat → Nat)) {Kd : Nat → Nat} (h0 : Nat) (hk0 : Kd h0 = 10) {pl0 : va_W} (hok : tt_ok tt_tk cA Kd pl0) : jj_M l D cA ak yX9_isWord (.code yX9_isWord cX9_isWord 3 (some .boolean)) 4 85 0 0 ([] ++ pl0) [.ref h0, .ref (ak.1 3)] (tt_O (fun rx pl1 r => rx = [] ∧ tt_ok tt_tk cA Kd pl1 ∧ tt_fr Kd [] pl0 pl1 ∧ tt_fa Kd [] pl0 pl1 ∧ ((r = some (.int 0)) ∨ (r = some (.int 1))))) (tt_OX (fun _ _ _ => False)) := by
  refine jj_start hl (by decide) jw_ce1c1f12e9 (jj_le rfl) ?_
  intro p e s m args below meth c A hargs hA C hex hmn
  have hfr := tt_fr.refl (K := Kd) (WS := []) pl0
  have hfa := tt_fa.refl (K := Kd) (WA := []) pl0
  refine jj_aload_n C dX9_isWord_0 rfl ?_
  refine tt_get C hok jk_10 5 (by decide) jw_bde5c0d1a5 (t := (0, (-2147483648), 2147483647)) hk0 (by decide) rfl rfl dX9_isWord_1 (fun v_1 hv_1 hf_2 => ?_)
  obtain ⟨x_3, rfl, lx_3, ux_3⟩ := tt_vi hv_1
  refine jj_iconst (v := 1) C dX9_isWord_4 (by decide) ?_
  refine jj_icmp_ne (tgt := 24) C dX9_isWord_5 (by decide) (fun c_4 => ?_) (fun c_4 => ?_)
  · have z_c_4 := jc_neq (a := (x_3).toInt) (b := (1)) c_4 rfl (by decide)
    refine jj_iconst (v := 0) C dX9_isWord_24 (by decide) ?_
    exact jj_zret C rfl ⟨[], pl0, rfl, rfl, hok, hfr, hfa, (Or.inl rfl)⟩ dX9_isWord_25 (jj_le rfl) (jj_le rfl)
  · have z_c_4 := jc_eq (a := (x_3).toInt) (b := (1)) c_4 rfl (by decide)
    refine jj_aload_n C dX9_isWord_8 rfl ?_
    refine tt_get C hok jk_10 3 (by decide) jw_f99bd0ca2b (t := (0, 0, 400)) hk0 (by decide) rfl rfl dX9_isWord_9 (fun v_5 hv_5 hf_6 => ?_)
    obtain ⟨x_7, rfl, lx_7, ux_7⟩ := tt_vi hv_5
    refine jj_aload_n C dX9_isWord_12 rfl ?_
    refine tt_get C hok jk_10 4 (by decide) jw_66bda6962a (t := (0, 0, 400)) hk0 (by decide) rfl rfl dX9_isWord_13 (fun v_8 hv_8 hf_9 => ?_)
    obtain ⟨x_10, rfl, lx_10, ux_10⟩ := tt_vi hv_8
    obtain ⟨x_11, ex_11, vx_11⟩ := tt_isub (x := x_7) (y := x_10) (a := x_7.toInt) rfl (b := x_10.toInt) rfl (by omega) (by omega)
    refine jj_isub (v := x_11) C dX9_isWord_16 ex_11 ?_
    refine jj_aload_n C dX9_isWord_17 rfl ?_
    refine tt_call0Vs (rest := [.int x_11]) C (ct_J0_length_8abf5_4 hl D cA ak) 3 (by decide) rfl jw_f27063fded jw_b1ce304435 jw_d08f03a22e jw_4ea6285965 jw_bbc7045666 jn_J0_length_8abf5 rfl (jj_le rfl) (jj_le rfl) (jj_le rfl) (jj_le rfl) (jj_le rfl) dX9_isWord_18 rfl (fun w1 r O_12 => ?_)
    obtain ⟨-, rfl⟩ := O_12
    refine jj_icmp_eq (tgt := 26) C dX9_isWord_21 (by decide) (fun c_13 => ?_) (fun c_13 => ?_)
    · have z_c_13 := jc_eq (a := (x_11).toInt) (b := (9)) c_13 rfl (by decide)
      refine jj_iconst (v := 0) C dX9_isWord_26 (by decide) ?_
      refine jj_istore_n C dX9_isWord_27 (by decide) rfl ?_
      refine jj_iload_n C dX9_isWord_28 rfl ?_
      refine jj_aload_n C dX9_isWord_29 rfl ?_
      refine tt_call0Vs (rest := [.int 0]) C (ct_J0_length_8abf5_4 hl D cA ak) 3 (by decide) rfl jw_f27063fded jw_b1ce304435 jw_d08f03a22e jw_4ea6285965 jw_bbc7045666 jn_J0_length_8abf5 rfl (jj_le rfl) (jj_le rfl) (jj_le rfl) (jj_le rfl) (jj_le rfl) dX9_isWord_30 rfl (fun w1 r O_14 => ?_)
      obtain ⟨-, rfl⟩ := O_14
      refine jj_icmp_geF (tgt := 63) C dX9_isWord_33 (by decide) (by decide) ?_
      refine jj_aload_n C dX9_isWord_36 rfl ?_
      refine tt_get C hok jk_10 0 (by decide) jw_0664e1e086 (t := (2, 11, 0)) hk0 (by decide) rfl rfl dX9_isWord_37 (fun v_15 hv_15 hf_16 => ?_)
      obtain ⟨a_17, rfl, ka_17⟩ := tt_vr hv_15
      refine jj_aload_n C dX9_isWord_40 rfl ?_
      refine tt_getF C hok jk_10 4 (by decide) jw_66bda6962a (t := (0, 0, 400)) hk0 (by decide) rfl rfl hf_9 dX9_isWord_41 ?_
      refine jj_iload_n C dX9_isWord_44 rfl ?_
      obtain ⟨x_18, ex_18, vx_18⟩ := tt_iadd (x := x_10) (y := (0 : Int32)) (a := x_10.toInt) rfl (b := 0) (by decide) (by omega) (by omega)
      refine jj_iadd (v := x_18) C dX9_isWord_45 ex_18 ?_
      refine tt_cald C hok (t := (0, (-2147483648), 2147483647)) ka_17 (by decide) rfl (vp_in_iff.mpr ⟨by omega, by omega⟩) dX9_isWord_46 (fun v_19 hv_19 => ?_)
      refine jj_aload_n C dX9_isWord_47 rfl ?_
      refine jj_iload_n C dX9_isWord_48 rfl ?_
      refine tt_call0Vs (rest := [.int v_19]) C (ct_J0_charAt_5068e_16 hl D cA ak) 3 (by decide) rfl jw_076e8de8e0 jw_acb9174fef jw_675efe837b jw_4ea6285965 jw_391c0f56bd jn_J0_charAt_5068e rfl (jj_le rfl) (jj_le rfl) (jj_le rfl) (jj_le rfl) (jj_le rfl) dX9_isWord_49 rfl (fun w1 r O_20 => ?_)
      obtain ⟨-, rfl⟩ := O_20
      refine jj_icmp_eq (tgt := 57) C dX9_isWord_52 (by decide) (fun c_21 => ?_) (fun c_21 => ?_)
      · have z_c_21 := jc_eq (a := (v_19).toInt) (b := (105)) c_21 rfl (by decide)
        refine jj_iinc (v := 1) C dX9_isWord_57 rfl (by decide) (by decide) rfl ?_
        refine jj_goto (tgt := 28) C dX9_isWord_60 (by decide) ?_
        refine jj_iload_n C dX9_isWord_28 rfl ?_
        refine jj_aload_n C dX9_isWord_29 rfl ?_
        refine tt_call0Vs (rest := [.int 1]) C (ct_J0_length_8abf5_4 hl D cA ak) 3 (by decide) rfl jw_f27063fded jw_b1ce304435 jw_d08f03a22e jw_4ea6285965 jw_bbc7045666 jn_J0_length_8abf5 rfl (jj_le rfl) (jj_le rfl) (jj_le rfl) (jj_le rfl) (jj_le rfl) dX9_isWord_30 rfl (fun w1 r O_22 => ?_)
        obtain ⟨-, rfl⟩ := O_22
        refine jj_icmp_geF (tgt := 63) C dX9_isWord_33 (by decide) (by decide) ?_
        refine jj_aload_n C dX9_isWord_36 rfl ?_
        refine tt_getF C hok jk_10 0 (by decide) jw_0664e1e086 (t := (2, 11, 0)) hk0 (by decide) rfl rfl hf_16 dX9_isWord_37 ?_
        refine jj_aload_n C dX9_isWord_40 rfl ?_
        refine tt_getF C hok jk_10 4 (by decide) jw_66bda6962a (t := (0, 0, 400)) hk0 (by decide) rfl rfl hf_9 dX9_isWord_41 ?_
        refine jj_iload_n C dX9_isWord_44 rfl ?_
        obtain ⟨x_23, ex_23, vx_23⟩ := tt_iadd (x := x_10) (y := (1 : Int32)) (a := x_10.toInt) rfl (b := 1) (by decide) (by omega) (by omega)
        refine jj_iadd (v := x_23) C dX9_isWord_45 ex_23 ?_
        refine tt_cald C hok (t := (0, (-2147483648), 2147483647)) ka_17 (by decide) rfl (vp_in_iff.mpr ⟨by omega, by omega⟩) dX9_isWord_46 (fun v_24 hv_24 => ?_)
        refine jj_aload_n C dX9_isWord_47 rfl ?_
        refine jj_iload_n C dX9_isWord_48 rfl ?_
        refine tt_call0Vs (rest := [.int v_24]) C (ct_J0_charAt_5068e_17 hl D cA ak) 3 (by decide) rfl jw_076e8de8e0 jw_acb9174fef jw_675efe837b jw_4ea6285965 jw_391c0f56bd jn_J0_charAt_5068e rfl (jj_le rfl) (jj_le rfl) (jj_le rfl) (jj_le rfl) (jj_le rfl) dX9_isWord_49 rfl (fun w1 r O_25 => ?_)
        obtain ⟨-, rfl⟩ := O_25
        refine jj_icmp_eq (tgt := 57) C dX9_isWord_52 (by decide) (fun c_26 => ?_) (fun c_26 => ?_)
        · have z_c_26 := jc_eq (a := (v_24).toInt) (b := (110)) c_26 rfl (by decide)
          refine jj_iinc (v := 2) C dX9_isWord_57 rfl (by decide) (by decide) rfl ?_
          refine jj_goto (tgt := 28) C dX9_isWord_60 (by decide) ?_
          refine jj_iload_n C dX9_isWord_28 rfl ?_
          refine jj_aload_n C dX9_isWord_29 rfl ?_
          refine tt_call0Vs (rest := [.int 2]) C (ct_J0_length_8abf5_4 hl D cA ak) 3 (by decide) rfl jw_f27063fded jw_b1ce304435 jw_d08f03a22e jw_4ea6285965 jw_bbc7045666 jn_J0_length_8abf5 rfl (jj_le rfl) (jj_le rfl) (jj_le rfl) (jj_le rfl) (jj_le rfl) dX9_isWord_30 rfl (fun w1 r O_27 => ?_)
          obtain ⟨-, rfl⟩ := O_27
          refine jj_icmp_geF (tgt := 63) C dX9_isWord_33 (by decide) (by decide) ?_
          refine jj_aload_n C dX9_isWord_36 rfl ?_
          refine tt_getF C hok jk_10 0 (by decide) jw_0664e1e086 (t := (2, 11, 0)) hk0 (by decide) rfl rfl hf_16 dX9_isWord_37 ?_
          refine jj_aload_n C dX9_isWord_40 rfl ?_
          refine tt_getF C hok jk_10 4 (by decide) jw_66bda6962a (t := (0, 0, 400)) hk0 (by decide) rfl rfl hf_9 dX9_isWord_41 ?_
          refine jj_iload_n C dX9_isWord_44 rfl ?_
          obtain ⟨x_28, ex_28, vx_28⟩ := tt_iadd (x := x_10) (y := (2 : Int32)) (a := x_10.toInt) rfl (b := 2) (by decide) (by omega) (by omega)
          refine jj_iadd (v := x_28) C dX9_isWord_45 ex_28 ?_
          refine tt_cald C hok (t := (0, (-2147483648), 2147483647)) ka_17 (by decide) rfl (vp_in_iff.mpr ⟨by omega, by omega⟩) dX9_isWord_46 (fun v_29 hv_29 => ?_)
          refine jj_aload_n C dX9_isWord_47 rfl ?_
          refine jj_iload_n C dX9_isWord_48 rfl ?_
          refine tt_call0Vs (rest := [.int v_29]) C (ct_J0_charAt_5068e_18 hl D cA ak) 3 (by decide) rfl jw_076e8de8e0 jw_acb9174fef jw_675efe837b jw_4ea6285965 jw_391c0f56bd jn_J0_charAt_5068e rfl (jj_le rfl) (jj_le rfl) (jj_le rfl) (jj_le rfl) (jj_le rfl) dX9_isWord_49 rfl (fun w1 r O_30 => ?_)
          obtain ⟨-, rfl⟩ := O_30
          refine jj_icmp_eq (tgt := 57) C dX9_isWord_52 (by decide) (fun c_31 => ?_) (fun c_31 => ?_)
          · have z_c_31 := jc_eq (a := (v_29).toInt) (b := (118)) c_31 rfl (by decide)
            refine jj_iinc (v := 3) C dX9_isWord_57 rfl (by decide) (by decide) rfl ?_
            refine jj_goto (tgt := 28) C dX9_isWord_60 (by decide) ?_
            refine jj_iload_n C dX9_isWord_28 rfl ?_
            refine jj_aload_n C dX9_isWord_29 rfl ?_
            refine tt_call0Vs (rest := [.int 3]) C (ct_J0_length_8abf5_4 hl D cA ak) 3 (by decide) rfl jw_f27063fded jw_b1ce304435 jw_d08f03a22e jw_4ea6285965 jw_bbc7045666 jn_J0_length_8abf5 rfl (jj_le rfl) (jj_le rfl) (jj_le rfl) (jj_le rfl) (jj_le rfl) dX9_isWord_30 rfl (fun w1 r O_32 => ?_)
            obtain ⟨-, rfl⟩ := O_32
            refine jj_icmp_geF (tgt := 63) C dX9_isWord_33 (by decide) (by decide) ?_
            refine jj_aload_n C dX9_isWord_36 rfl ?_
            refine tt_getF C hok jk_10 0 (by decide) jw_0664e1e086 (t := (2, 11, 0)) hk0 (by decide) rfl rfl hf_16 dX9_isWord_37 ?_
            refine jj_aload_n C dX9_isWord_40 rfl ?_
            refine tt_getF C hok jk_10 4 (by decide) jw_66bda6962a (t := (0, 0, 400)) hk0 (by decide) rfl rfl hf_9 dX9_isWord_41 ?_
            refine jj_iload_n C dX9_isWord_44 rfl ?_
            obtain ⟨x_33, ex_33, vx_33⟩ := tt_iadd (x := x_10) (y := (3 : Int32)) (a := x_10.toInt) rfl (b := 3) (by decide) (by omega) (by omega)
            refine jj_iadd (v := x_33) C dX9_isWord_45 ex_33 ?_
            refine tt_cald C hok (t := (0, (-2147483648), 2147483647)) ka_17 (by decide) rfl (vp_in_iff.mpr ⟨by omega, by omega⟩) dX9_isWord_46 (fun v_34 hv_34 => ?_)
            refine jj_aload_n C dX9_isWord_47 rfl ?_
            refine jj_iload_n C dX9_isWord_48 rfl ?_
            refine tt_call0Vs (rest := [.int v_34]) C (ct_J0_charAt_5068e_19 hl D cA ak) 3 (by decide) rfl jw_076e8de8e0 jw_acb9174fef jw_675efe837b jw_4ea6285965 jw_391c0f56bd jn_J0_charAt_5068e rfl (jj_le rfl) (jj_le rfl) (jj_le rfl) (jj_le rfl) (jj_le rfl) dX9_isWord_49 rfl (fun w1 r O_35 => ?_)
            obtain ⟨-, rfl⟩ := O_35
            refine jj_icmp_eq (tgt := 57) C dX9_isWord_52 (by decide) (fun c_36 => ?_) (fun c_36 => ?_)
            · have z_c_36 := jc_eq (a := (v_34).toInt) (b := (101)) c_36 rfl (by decide)
              refine jj_iinc (v := 4) C dX9_isWord_57 rfl (by decide) (by decide) rfl ?_
              refine jj_goto (tgt := 28) C dX9_isWord_60 (by decide) ?_
              refine jj_iload_n C dX9_isWord_28 rfl ?_
              refine jj_aload_n C dX9_isWord_29 rfl ?_
              refine tt_call0Vs (rest := [.int 4]) C (ct_J0_length_8abf5_4 hl D cA ak) 3 (by decide) rfl jw_f27063fded jw_b1ce304435 jw_d08f03a22e jw_4ea6285965 jw_bbc7045666 jn_J0_length_8abf5 rfl (jj_le rfl) (jj_le rfl) (jj_le rfl) (jj_le rfl) (jj_le rfl) dX9_isWord_30 rfl (fun w1 r O_37 => ?_)
              obtain ⟨-, rfl⟩ := O_37
              refine jj_icmp_geF (tgt := 63) C dX9_isWord_33 (by decide) (by decide) ?_
              refine jj_aload_n C dX9_isWord_36 rfl ?_
              refine tt_getF C hok jk_10 0 (by decide) jw_0664e1e086 (t := (2, 11, 0)) hk0 (by decide) rfl rfl hf_16 dX9_isWord_37 ?_
              refine jj_aload_n C dX9_isWord_40 rfl ?_
              refine tt_getF C hok jk_10 4 (by decide) jw_66bda6962a (t := (0, 0, 400)) hk0 (by decide) rfl rfl hf_9 dX9_isWord_41 ?_
              refine jj_iload_n C dX9_isWord_44 rfl ?_
              obtain ⟨x_38, ex_38, vx_38⟩ := tt_iadd (x := x_10) (y := (4 : Int32)) (a := x_10.toInt) rfl (b := 4) (by decide) (by omega) (by omega)
              refine jj_iadd (v := x_38) C dX9_isWord_45 ex_38 ?_
              refine tt_cald C hok (t := (0, (-2147483648), 2147483647)) ka_17 (by decide) rfl (vp_in_iff.mpr ⟨by omega, by omega⟩) dX9_isWord_46 (fun v_39 hv_39 => ?_)
              refine jj_aload_n C dX9_isWord_47 rfl ?_
              refine jj_iload_n C dX9_isWord_48 rfl ?_
              refine tt_call0Vs (rest := [.int v_39]) C (ct_J0_charAt_5068e_20 hl D cA ak) 3 (by decide) rfl jw_076e8de8e0 jw_acb9174fef jw_675efe837b jw_4ea6285965 jw_391c0f56bd jn_J0_charAt_5068e rfl (jj_le rfl) (jj_le rfl) (jj_le rfl) (jj_le rfl) (jj_le rfl) dX9_isWord_49 rfl (fun w1 r O_40 => ?_)
              obtain ⟨-, rfl⟩ := O_40
              refine jj_icmp_eq (tgt := 57) C dX9_isWord_52 (by decide) (fun c_41 => ?_) (fun c_41 => ?_)
              · have z_c_41 := jc_eq (a := (v_39).toInt) (b := (115)) c_41 rfl (by decide)
                refine jj_iinc (v := 5) C dX9_isWord_57 rfl (by decide) (by decide) rfl ?_
                refine jj_goto (tgt := 28) C dX9_isWord_60 (by decide) ?_
                refine jj_iload_n C dX9_isWord_28 rfl ?_
                refine jj_aload_n C dX9_isWord_29 rfl ?_
                refine tt_call0Vs (rest := [.int 5]) C (ct_J0_length_8abf5_4 hl D cA ak) 3 (by decide) rfl jw_f27063fded jw_b1ce304435 jw_d08f03a22e jw_4ea6285965 jw_bbc7045666 jn_J0_length_8abf5 rfl (jj_le rfl) (jj_le rfl) (jj_le rfl) (jj_le rfl) (jj_le rfl) dX9_isWord_30 rfl (fun w1 r O_42 => ?_)
                obtain ⟨-, rfl⟩ := O_42
                refine jj_icmp_geF (tgt := 63) C dX9_isWord_33 (by decide) (by decide) ?_
                refine jj_aload_n C dX9_isWord_36 rfl ?_
                refine tt_getF C hok jk_10 0 (by decide) jw_0664e1e086 (t := (2, 11, 0)) hk0 (by decide) rfl rfl hf_16 dX9_isWord_37 ?_
                refine jj_aload_n C dX9_isWord_40 rfl ?_
                refine tt_getF C hok jk_10 4 (by decide) jw_66bda6962a (t := (0, 0, 400)) hk0 (by decide) rfl rfl hf_9 dX9_isWord_41 ?_
                refine jj_iload_n C dX9_isWord_44 rfl ?_
                obtain ⟨x_43, ex_43, vx_43⟩ := tt_iadd (x := x_10) (y := (5 : Int32)) (a := x_10.toInt) rfl (b := 5) (by decide) (by omega) (by omega)
                refine jj_iadd (v := x_43) C dX9_isWord_45 ex_43 ?_
                refine tt_cald C hok (t := (0, (-2147483648), 2147483647)) ka_17 (by decide) rfl (vp_in_iff.mpr ⟨by omega, by omega⟩) dX9_isWord_46 (fun v_44 hv_44 => ?_)
                refine jj_aload_n C dX9_isWord_47 rfl ?_
                refine jj_iload_n C dX9_isWord_48 rfl ?_
                refine tt_call0Vs (rest := [.int v_44]) C (ct_J0_charAt_5068e_21 hl D cA ak) 3 (by decide) rfl jw_076e8de8e0 jw_acb9174fef jw_675efe837b jw_4ea6285965 jw_391c0f56bd jn_J0_charAt_5068e rfl (jj_le rfl) (jj_le rfl) (jj_le rfl) (jj_le rfl) (jj_le rfl) dX9_isWord_49 rfl (fun w1 r O_45 => ?_)
                obtain ⟨-, rfl⟩ := O_45
                refine jj_icmp_eq (tgt := 57) C dX9_isWord_52 (by decide) (fun c_46 => ?_) (fun c_46 => ?_)
                · have z_c_46 := jc_eq (a := (v_44).toInt) (b := (116)) c_46 rfl (by decide)
                  refine jj_iinc (v := 6) C dX9_isWord_57 rfl (by decide) (by decide) rfl ?_
                  refine jj_goto (tgt := 28) C dX9_isWord_60 (by decide) ?_
                  refine jj_iload_n C dX9_isWord_28 rfl ?_
                  refine jj_aload_n C dX9_isWord_29 rfl ?_
                  refine tt_call0Vs (rest := [.int 6]) C (ct_J0_length_8abf5_4 hl D cA ak) 3 (by decide) rfl jw_f27063fded jw_b1ce304435 jw_d08f03a22e jw_4ea6285965 jw_bbc7045666 jn_J0_length_8abf5 rfl (jj_le rfl) (jj_le rfl) (jj_le rfl) (jj_le rfl) (jj_le rfl) dX9_isWord_30 rfl (fun w1 r O_47 => ?_)
                  obtain ⟨-, rfl⟩ := O_47
                  refine jj_icmp_geF (tgt := 63) C dX9_isWord_33 (by decide) (by decide) ?_
                  refine jj_aload_n C dX9_isWord_36 rfl ?_
                  refine tt_getF C hok jk_10 0 (by decide) jw_0664e1e086 (t := (2, 11, 0)) hk0 (by decide) rfl rfl hf_16 dX9_isWord_37 ?_
                  refine jj_aload_n C dX9_isWord_40 rfl ?_
                  refine tt_getF C hok jk_10 4 (by decide) jw_66bda6962a (t := (0, 0, 400)) hk0 (by decide) rfl rfl hf_9 dX9_isWord_41 ?_
                  refine jj_iload_n C dX9_isWord_44 rfl ?_
                  obtain ⟨x_48, ex_48, vx_48⟩ := tt_iadd (x := x_10) (y := (6 : Int32)) (a := x_10.toInt) rfl (b := 6) (by decide) (by omega) (by omega)
                  refine jj_iadd (v := x_48) C dX9_isWord_45 ex_48 ?_
                  refine tt_cald C hok (t := (0, (-2147483648), 2147483647)) ka_17 (by decide) rfl (vp_in_iff.mpr ⟨by omega, by omega⟩) dX9_isWord_46 (fun v_49 hv_49 => ?_)
                  refine jj_aload_n C dX9_isWord_47 rfl ?_
                  refine jj_iload_n C dX9_isWord_48 rfl ?_
                  refine tt_call0Vs (rest := [.int v_49]) C (ct_J0_charAt_5068e_22 hl D cA ak) 3 (by decide) rfl jw_076e8de8e0 jw_acb9174fef jw_675efe837b jw_4ea6285965 jw_391c0f56bd jn_J0_charAt_5068e rfl (jj_le rfl) (jj_le rfl) (jj_le rfl) (jj_le rfl) (jj_le rfl) dX9_isWord_49 rfl (fun w1 r O_50 => ?_)
                  obtain ⟨-, rfl⟩ := O_50
                  refine jj_icmp_eq (tgt := 57) C dX9_isWord_52 (by decide) (fun c_51 => ?_) (fun c_51 => ?_)
                  · have z_c_51 := jc_eq (a := (v_49).toInt) (b := (111)) c_51 rfl (by decide)
                    refine jj_iinc (v := 7) C dX9_isWord_57 rfl (by decide) (by decide) rfl ?_
                    refine jj_goto (tgt := 28) C dX9_isWord_60 (by decide) ?_
                    refine jj_iload_n C dX9_isWord_28 rfl ?_
                    refine jj_aload_n C dX9_isWord_29 rfl ?_
                    refine tt_call0Vs (rest := [.int 7]) C (ct_J0_length_8abf5_4 hl D cA ak) 3 (by decide) rfl jw_f27063fded jw_b1ce304435 jw_d08f03a22e jw_4ea6285965 jw_bbc7045666 jn_J0_length_8abf5 rfl (jj_le rfl) (jj_le rfl) (jj_le rfl) (jj_le rfl) (jj_le rfl) dX9_isWord_30 rfl (fun w1 r O_52 => ?_)
                    obtain ⟨-, rfl⟩ := O_52
                    refine jj_icmp_geF (tgt := 63) C dX9_isWord_33 (by decide) (by decide) ?_
                    refine jj_aload_n C dX9_isWord_36 rfl ?_
                    refine tt_getF C hok jk_10 0 (by decide) jw_0664e1e086 (t := (2, 11, 0)) hk0 (by decide) rfl rfl hf_16 dX9_isWord_37 ?_
                    refine jj_aload_n C dX9_isWord_40 rfl ?_
                    refine tt_getF C hok jk_10 4 (by decide) jw_66bda6962a (t := (0, 0, 400)) hk0 (by decide) rfl rfl hf_9 dX9_isWord_41 ?_
                    refine jj_iload_n C dX9_isWord_44 rfl ?_
                    obtain ⟨x_53, ex_53, vx_53⟩ := tt_iadd (x := x_10) (y := (7 : Int32)) (a := x_10.toInt) rfl (b := 7) (by decide) (by omega) (by omega)
                    refine jj_iadd (v := x_53) C dX9_isWord_45 ex_53 ?_
                    refine tt_cald C hok (t := (0, (-2147483648), 2147483647)) ka_17 (by decide) rfl (vp_in_iff.mpr ⟨by omega, by omega⟩) dX9_isWord_46 (fun v_54 hv_54 => ?_)
                    refine jj_aload_n C dX9_isWord_47 rfl ?_
                    refine jj_iload_n C dX9_isWord_48 rfl ?_
                    refine tt_call0Vs (rest := [.int v_54]) C (ct_J0_charAt_5068e_23 hl D cA ak) 3 (by decide) rfl jw_076e8de8e0 jw_acb9174fef jw_675efe837b jw_4ea6285965 jw_391c0f56bd jn_J0_charAt_5068e rfl (jj_le rfl) (jj_le rfl) (jj_le rfl) (jj_le rfl) (jj_le rfl) dX9_isWord_49 rfl (fun w1 r O_55 => ?_)
                    obtain ⟨-, rfl⟩ := O_55
                    refine jj_icmp_eq (tgt := 57) C dX9_isWord_52 (by decide) (fun c_56 => ?_) (fun c_56 => ?_)
                    · have z_c_56 := jc_eq (a := (v_54).toInt) (b := (114)) c_56 rfl (by decide)
                      refine jj_iinc (v := 8) C dX9_isWord_57 rfl (by decide) (by decide) rfl ?_
                      refine jj_goto (tgt := 28) C dX9_isWord_60 (by decide) ?_
                      refine jj_iload_n C dX9_isWord_28 rfl ?_
                      refine jj_aload_n C dX9_isWord_29 rfl ?_
                      refine tt_call0Vs (rest := [.int 8]) C (ct_J0_length_8abf5_4 hl D cA ak) 3 (by decide) rfl jw_f27063fded jw_b1ce304435 jw_d08f03a22e jw_4ea6285965 jw_bbc7045666 jn_J0_length_8abf5 rfl (jj_le rfl) (jj_le rfl) (jj_le rfl) (jj_le rfl) (jj_le rfl) dX9_isWord_30 rfl (fun w1 r O_57 => ?_)
                      obtain ⟨-, rfl⟩ := O_57
                      refine jj_icmp_geF (tgt := 63) C dX9_isWord_33 (by decide) (by decide) ?_
                      refine jj_aload_n C dX9_isWord_36 rfl ?_
                      refine tt_getF C hok jk_10 0 (by decide) jw_0664e1e086 (t := (2, 11, 0)) hk0 (by decide) rfl rfl hf_16 dX9_isWord_37 ?_
                      refine jj_aload_n C dX9_isWord_40 rfl ?_
                      refine tt_getF C hok jk_10 4 (by decide) jw_66bda6962a (t := (0, 0, 400)) hk0 (by decide) rfl rfl hf_9 dX9_isWord_41 ?_
                      refine jj_iload_n C dX9_isWord_44 rfl ?_
                      obtain ⟨x_58, ex_58, vx_58⟩ := tt_iadd (x := x_10) (y := (8 : Int32)) (a := x_10.toInt) rfl (b := 8) (by decide) (by omega) (by omega)
                      refine jj_iadd (v := x_58) C dX9_isWord_45 ex_58 ?_
                      refine tt_cald C hok (t := (0, (-2147483648), 2147483647)) ka_17 (by decide) rfl (vp_in_iff.mpr ⟨by omega, by omega⟩) dX9_isWord_46 (fun v_59 hv_59 => ?_)
                      refine jj_aload_n C dX9_isWord_47 rfl ?_
                      refine jj_iload_n C dX9_isWord_48 rfl ?_
                      refine tt_call0Vs (rest := [.int v_59]) C (ct_J0_charAt_5068e_24 hl D cA ak) 3 (by decide) rfl jw_076e8de8e0 jw_acb9174fef jw_675efe837b jw_4ea6285965 jw_391c0f56bd jn_J0_charAt_5068e rfl (jj_le rfl) (jj_le rfl) (jj_le rfl) (jj_le rfl) (jj_le rfl) dX9_isWord_49 rfl (fun w1 r O_60 => ?_)
                      obtain ⟨-, rfl⟩ := O_60
                      refine jj_icmp_eq (tgt := 57) C dX9_isWord_52 (by decide) (fun c_61 => ?_) (fun c_61 => ?_)
                      · have z_c_61 := jc_eq (a := (v_59).toInt) (b := (115)) c_61 rfl (by decide)
                        refine jj_iinc (v := 9) C dX9_isWord_57 rfl (by decide) (by decide) rfl ?_
                        refine jj_goto (tgt := 28) C dX9_isWord_60 (by decide) ?_
                        refine jj_iload_n C dX9_isWord_28 rfl ?_
                        refine jj_aload_n C dX9_isWord_29 rfl ?_
                        refine tt_call0Vs (rest := [.int 9]) C (ct_J0_length_8abf5_4 hl D cA ak) 3 (by decide) rfl jw_f27063fded jw_b1ce304435 jw_d08f03a22e jw_4ea6285965 jw_bbc7045666 jn_J0_length_8abf5 rfl (jj_le rfl) (jj_le rfl) (jj_le rfl) (jj_le rfl) (jj_le rfl) dX9_isWord_30 rfl (fun w1 r O_62 => ?_)
                        obtain ⟨-, rfl⟩ := O_62
                        refine jj_icmp_geT (tgt := 63) C dX9_isWord_33 (by decide) (by decide) ?_
                        refine jj_iconst (v := 1) C dX9_isWord_63 (by decide) ?_
                        exact jj_zret C rfl ⟨[], pl0, rfl, rfl, hok, hfr, hfa, (Or.inr rfl)⟩ dX9_isWord_64 (jj_le rfl) (jj_le rfl)
                      · have z_c_61 := jc_neq (a := (v_59).toInt) (b := (115)) c_61 rfl (by decide)
                        refine jj_iconst (v := 0) C dX9_isWord_55 (by decide) ?_
                        exact jj_zret C rfl ⟨[], pl0, rfl, rfl, hok, hfr, hfa, (Or.inl rfl)⟩ dX9_isWord_56 (jj_le rfl) (jj_le rfl)
                    · have z_c_56 := jc_neq (a := (v_54).toInt) (b := (114)) c_56 rfl (by decide)
                      refine jj_iconst (v := 0) C dX9_isWord_55 (by decide) ?_
                      exact jj_zret C rfl ⟨[], pl0, rfl, rfl, hok, hfr, hfa, (Or.inl rfl)⟩ dX9_isWord_56 (jj_le rfl) (jj_le rfl)
                  · have z_c_51 := jc_neq (a := (v_49).toInt) (b := (111)) c_51 rfl (by decide)
                    refine jj_iconst (v := 0) C dX9_isWord_55 (by decide) ?_
                    exact jj_zret C rfl ⟨[], pl0, rfl, rfl, hok, hfr, hfa, (Or.inl rfl)⟩ dX9_isWord_56 (jj_le rfl) (jj_le rfl)
                · have z_c_46 := jc_neq (a := (v_44).toInt) (b := (116)) c_46 rfl (by decide)
                  refine jj_iconst (v := 0) C dX9_isWord_55 (by decide) ?_
                  exact jj_zret C rfl ⟨[], pl0, rfl, rfl, hok, hfr, hfa, (Or.inl rfl)⟩ dX9_isWord_56 (jj_le rfl) (jj_le rfl)
              · have z_c_41 := jc_neq (a := (v_39).toInt) (b := (115)) c_41 rfl (by decide)
                refine jj_iconst (v := 0) C dX9_isWord_55 (by decide) ?_
                exact jj_zret C rfl ⟨[], pl0, rfl, rfl, hok, hfr, hfa, (Or.inl rfl)⟩ dX9_isWord_56 (jj_le rfl) (jj_le rfl)
            · have z_c_36 := jc_neq (a := (v_34).toInt) (b := (101)) c_36 rfl (by decide)
              refine jj_iconst (v := 0) C dX9_isWord_55 (by decide) ?_
              exact jj_zret C rfl ⟨[], pl0, rfl, rfl, hok, hfr, hfa, (Or.inl rfl)⟩ dX9_isWord_56 (jj_le rfl) (jj_le rfl)
          · have z_c_31 := jc_neq (a := (v_29).toInt) (b := (118)) c_31 rfl (by decide)
            refine jj_iconst (v := 0) C dX9_isWord_55 (by decide) ?_
            exact jj_zret C rfl ⟨[], pl0, rfl, rfl, hok, hfr, hfa, (Or.inl rfl)⟩ dX9_isWord_56 (jj_le rfl) (jj_le rfl)
        · have z_c_26 := jc_neq (a := (v_24).toInt) (b := (110)) c_26 rfl (by decide)
          refine jj_iconst (v := 0) C dX9_isWord_55 (by decide) ?_
          exact jj_zret C rfl ⟨[], pl0, rfl, rfl, hok, hfr, hfa, (Or.inl rfl)⟩ dX9_isWord_56 (jj_le rfl) (jj_le rfl)
      · have z_c_21 := jc_neq (a := (v_19).toInt) (b := (105)) c_21 rfl (by decide)
        refine jj_iconst (v := 0) C dX9_isWord_55 (by decide) ?_
        exact jj_zret C rfl ⟨[], pl0, rfl, rfl, hok, hfr, hfa, (Or.inl rfl)⟩ dX9_isWord_56 (jj_le rfl) (jj_le rfl)
    · have z_c_13 := jc_neq (a := (x_11).toInt) (b := (9)) c_13 rfl (by decide)
      refine jj_iconst (v := 0) C dX9_isWord_24 (by decide) ?_
      exact jj_zret C rfl ⟨[], pl0, rfl, rfl, hok, hfr, hfa, (Or.inl rfl)⟩ dX9_isWord_25 (jj_le rfl) (jj_le rfl)

set_option maxHeartbeats 4000000 in
set_option maxRecDepth 100000 in
theorem tc_X3_readWord_2 {l : Launch} (hl : l.stackTraces = false) (D : va_G) (cA : Nat → ClassId) (ak : (Nat → Nat) × (Nat → Nat)) {Kd : Nat → Nat} (h0 : Nat) (hk0 : Kd h0 = 17) {pl0 : va_W} (hok : tt_ok tt_tk cA Kd pl0) : jj_M l D cA ak yX3_readWord (.code yX3_readWord cX3_readWord 2 (some .boolean)) 5 107 0 0 ([] ++ pl0) [.ref h0, .ref (ak.1 3)] (tt_O (fun rx pl1 r => rx = [] ∧ tt_ok tt_tk cA Kd pl1 ∧ tt_fr Kd [(10, 3), (10, 4), (10, 5), (10, 6), (17, 2)] pl0 pl1 ∧ tt_fa Kd [] pl0 pl1 ∧ ((r = some (.int 0)) ∨ (r = some (.int 1))))) (tt_OX (fun _ _ _ => False)) := by
  refine jj_start hl (by decide) jw_e40f0ddd13 (jj_le rfl) ?_
  intro p e s m args below meth c A hargs hA C hex hmn
  have hfr := tt_fr.refl (K := Kd) (WS := [(10, 3), (10, 4), (10, 5), (10, 6), (17, 2)]) pl0
  have hfa := tt_fa.refl (K := Kd) (WA := []) pl0
  refine jj_aload_n C dX3_readWord_0 rfl ?_
  refine tt_get C hok jk_4 0 (by decide) jw_70cd29f103 (t := (2, 10, 0)) hk0 (by decide) rfl rfl dX3_readWord_1 (fun v_1 hv_1 hf_2 => ?_)
  obtain ⟨a_3, rfl, ka_3⟩ := tt_vr hv_1
  obtain ⟨qc, gs, hqc⟩ := tt_recv (cx := []) hok ka_3 (by decide) rfl
  refine tt_callV (rest := []) C (tc_X9_advance_1 hl D cA ak a_3 ka_3 hok) [] [] rfl rfl (by decide) (by decide) (by decide) qc hqc rfl rfl jw_97c023d194 jw_37f6ee43e0 jw_46baf1fc7b jw_a9e7b602dc jw_0d4db63612 jn_X9_advance rfl (jj_le rfl) (jj_le rfl) (jj_le rfl) (jj_le rfl) (jj_le rfl) dX3_readWord_4 rfl (fun _ _ _ hX => hX.elim) (fun rx pl_4 r O_7 => ?_)
  obtain ⟨rfl, hok_5, hr_6, hfa9, hR_9⟩ := O_7
  replace hf_2 := hr_6.at hk0 (by decide) (by decide) hf_2
  replace hfr := hfr.trans (hr_6.sub (by decide))
  replace hfa := hfa.trans (hfa9.sub (by decide))
  obtain rfl := hR_9
  refine jj_aload_n C dX3_readWord_7 rfl ?_
  refine jj_aload_n C dX3_readWord_8 rfl ?_
  refine tt_getF C hok_5 jk_4 0 (by decide) jw_70cd29f103 (t := (2, 10, 0)) hk0 (by decide) rfl rfl hf_2 dX3_readWord_9 ?_
  refine jj_aload_n C dX3_readWord_12 rfl ?_
  obtain ⟨qc, gs, hqc⟩ := tt_recv (cx := []) hok_5 ka_3 (by decide) rfl
  refine tt_callV (rest := [.ref h0]) C (tc_X9_isWord_4 hl D cA ak a_3 ka_3 hok_5) [] [] rfl rfl (by decide) (by decide) (by decide) qc hqc rfl rfl jw_b0fe72c6f4 jw_5e9522a00c jw_73cf9edcb7 jw_a9e7b602dc jw_ce1c1f12e9 jn_X9_isWord rfl (jj_le rfl) (jj_le rfl) (jj_le rfl) (jj_le rfl) (jj_le rfl) dX3_readWord_13 rfl (fun _ _ _ hX => hX.elim) (fun rx pl_12 r O_15 => ?_)
  obtain ⟨rfl, hok_13, hr_14, hfa9, hR_17⟩ := O_15
  replace hf_2 := hr_14.at hk0 (by decide) (by decide) hf_2
  replace hfr := hfr.trans (hr_14.sub (by decide))
  replace hfa := hfa.trans (hfa9.sub (by decide))
  rcases hR_17 with rfl | rfl
  · refine jj_iconst (v := 1) C dX3_readWord_16 (by decide) ?_
    obtain ⟨qc, gs, hqc⟩ := tt_recv (cx := []) hok_13 hk0 (by decide) rfl
    refine tt_callV (rest := []) C (tc_X3_accept_1 hl D cA ak h0 hk0 hok_13) [] [] rfl rfl (by decide) (by decide) (by decide) qc hqc rfl rfl jw_713f4d2af1 jw_b3e457240a jw_58c48ce796 jw_9d546d0b6f jw_0001e2e84f jn_X3_accept rfl (jj_le rfl) (jj_le rfl) (jj_le rfl) (jj_le rfl) (jj_le rfl) dX3_readWord_17 rfl (fun _ _ _ hX => hX.elim) (fun rx pl_20 r O_23 => ?_)
    obtain ⟨rfl, hok_21, hr_22, hfa9, hR_25⟩ := O_23
    replace hf_2 := hr_22.at hk0 (by decide) (by decide) hf_2
    replace hfr := hfr.trans (hr_22.sub (by decide))
    replace hfa := hfa.trans (hfa9.sub (by decide))
    obtain rfl := hR_25
    exact jj_zret C rfl ⟨[], pl_20, rfl, rfl, hok_21, hfr, hfa, (Or.inl rfl)⟩ dX3_readWord_20 (jj_le rfl) (jj_le rfl)
  · refine jj_iconst (v := 1) C dX3_readWord_16 (by decide) ?_
    obtain ⟨qc, gs, hqc⟩ := tt_recv (cx := []) hok_13 hk0 (by decide) rfl
    refine tt_callV (rest := []) C (tc_X3_accept_2 hl D cA ak h0 hk0 hok_13) [] [] rfl rfl (by decide) (by decide) (by decide) qc hqc rfl rfl jw_713f4d2af1 jw_b3e457240a jw_58c48ce796 jw_9d546d0b6f jw_0001e2e84f jn_X3_accept rfl (jj_le rfl) (jj_le rfl) (jj_le rfl) (jj_le rfl) (jj_le rfl) dX3_readWord_17 rfl (fun _ _ _ hX => hX.elim) (fun rx pl_28 r O_31 => ?_)
    obtain ⟨rfl, hok_29, hr_30, hfa9, hR_33⟩ := O_31
    replace hf_2 := hr_30.at hk0 (by decide) (by decide) hf_2
    replace hfr := hfr.trans (hr_30.sub (by decide))
    replace hfa := hfa.trans (hfa9.sub (by decide))
    obtain rfl := hR_33
    exact jj_zret C rfl ⟨[], pl_28, rfl, rfl, hok_29, hfr, hfa, (Or.inr rfl)⟩ dX3_readWord_20 (jj_le rfl) (jj_le rfl)

set_option maxHeartbeats 4000000 in
set_option maxRecDepth 100000 in
theorem tc_X3_readNumber_4 {l : Launch} (hl : l.stackTraces = false) (D : va_G) (cA : Nat → ClassId) (ak : (Nat → Nat) × (Nat → Nat)) {Kd : Nat → Nat} (h0 : Nat) (hk0 : Kd h0 = 17) {pl0 : va_W} (hok : tt_ok tt_tk cA Kd pl0) : jj_M l D cA ak yX3_readNumber (.code yX3_readNumber cX3_readNumber 3 (some .boolean)) 2 41 0 0 ([] ++ pl0) [.ref h0, .int 1, .int 6] (tt_O (fun rx pl1 r => rx = [] ∧ tt_ok tt_tk cA Kd pl1 ∧ tt_fr Kd [(10, 3), (10, 4), (10, 5), (10, 6), (17, 2)] pl0 pl1 ∧ tt_fa Kd [] pl0 pl1 ∧ ((r = some (.int 0)) ∨ (r = some (.int 1))))) (tt_OX (fun _ _ _ => False)) := by
  refine jj_start hl (by decide) jw_ad178c7ce3 (jj_le rfl) ?_
  intro p e s m args below meth c A hargs hA C hex hmn
  have hfr := tt_fr.refl (K := Kd) (WS := [(10, 3), (10, 4), (10, 5), (10, 6), (17, 2)]) pl0
  have hfa := tt_fa.refl (K := Kd) (WA := []) pl0
  refine jj_aload_n C dX3_readNumber_0 rfl ?_
  refine tt_get C hok jk_4 0 (by decide) jw_70cd29f103 (t := (2, 10, 0)) hk0 (by decide) rfl rfl dX3_readNumber_1 (fun v_1 hv_1 hf_2 => ?_)
  obtain ⟨a_3, rfl, ka_3⟩ := tt_vr hv_1
  obtain ⟨qc, gs, hqc⟩ := tt_recv (cx := []) hok ka_3 (by decide) rfl
  refine tt_callV (rest := []) C (tc_X9_advance_1 hl D cA ak a_3 ka_3 hok) [] [] rfl rfl (by decide) (by decide) (by decide) qc hqc rfl rfl jw_97c023d194 jw_37f6ee43e0 jw_46baf1fc7b jw_a9e7b602dc jw_0d4db63612 jn_X9_advance rfl (jj_le rfl) (jj_le rfl) (jj_le rfl) (jj_le rfl) (jj_le rfl) dX3_readNumber_4 rfl (fun _ _ _ hX => hX.elim) (fun rx pl_4 r O_7 => ?_)
  obtain ⟨rfl, hok_5, hr_6, hfa9, hR_9⟩ := O_7
  replace hf_2 := hr_6.at hk0 (by decide) (by decide) hf_2
  replace hfr := hfr.trans (hr_6.sub (by decide))
  replace hfa := hfa.trans (hfa9.sub (by decide))
  obtain rfl := hR_9
  refine jj_aload_n C dX3_readNumber_7 rfl ?_
  refine jj_aload_n C dX3_readNumber_8 rfl ?_
  refine tt_getF C hok_5 jk_4 0 (by decide) jw_70cd29f103 (t := (2, 10, 0)) hk0 (by decide) rfl rfl hf_2 dX3_readNumber_9 ?_
  refine tt_get C hok_5 jk_10 5 (by decide) jw_601d0e39ae (t := (0, (-2147483648), 2147483647)) ka_3 (by decide) rfl rfl dX3_readNumber_12 (fun v_12 hv_12 hf_13 => ?_)
  obtain ⟨x_14, rfl, lx_14, ux_14⟩ := tt_vi hv_12
  refine jj_iconst (v := 2) C dX3_readNumber_15 (by decide) ?_
  refine jj_icmp_ne (tgt := 23) C dX3_readNumber_16 (by decide) (fun c_15 => ?_) (fun c_15 => ?_)
  · have z_c_15 := jc_neq (a := (x_14).toInt) (b := (2)) c_15 rfl (by decide)
    refine jj_iconst (v := 0) C dX3_readNumber_23 (by decide) ?_
    refine jj_iconst (v := 1) C dX3_readNumber_24 (by decide) ?_
    obtain ⟨qc, gs, hqc⟩ := tt_recv (cx := []) hok_5 hk0 (by decide) rfl
    refine tt_callV (rest := []) C (tc_X3_accept_1 hl D cA ak h0 hk0 hok_5) [] [] rfl rfl (by decide) (by decide) (by decide) qc hqc rfl rfl jw_713f4d2af1 jw_b3e457240a jw_58c48ce796 jw_9d546d0b6f jw_0001e2e84f jn_X3_accept rfl (jj_le rfl) (jj_le rfl) (jj_le rfl) (jj_le rfl) (jj_le rfl) dX3_readNumber_25 rfl (fun _ _ _ hX => hX.elim) (fun rx pl_16 r O_19 => ?_)
    obtain ⟨rfl, hok_17, hr_18, hfa9, hR_21⟩ := O_19
    replace hf_2 := hr_18.at hk0 (by decide) (by decide) hf_2
    replace hf_13 := hr_18.at ka_3 (by decide) (by decide) hf_13
    replace hfr := hfr.trans (hr_18.sub (by decide))
    replace hfa := hfa.trans (hfa9.sub (by decide))
    obtain rfl := hR_21
    refine jj_if_eqT (tgt := 70) C dX3_readNumber_28 (by decide) (by decide) ?_
    refine jj_iconst (v := 0) C dX3_readNumber_70 (by decide) ?_
    exact jj_zret C rfl ⟨[], pl_16, rfl, rfl, hok_17, hfr, hfa, (Or.inl rfl)⟩ dX3_readNumber_71 (jj_le rfl) (jj_le rfl)
  · have z_c_15 := jc_eq (a := (x_14).toInt) (b := (2)) c_15 rfl (by decide)
    refine jj_iconst (v := 1) C dX3_readNumber_19 (by decide) ?_
    refine jj_goto (tgt := 24) C dX3_readNumber_20 (by decide) ?_
    refine jj_iconst (v := 1) C dX3_readNumber_24 (by decide) ?_
    obtain ⟨qc, gs, hqc⟩ := tt_recv (cx := []) hok_5 hk0 (by decide) rfl
    refine tt_callV (rest := []) C (tc_X3_accept_2 hl D cA ak h0 hk0 hok_5) [] [] rfl rfl (by decide) (by decide) (by decide) qc hqc rfl rfl jw_713f4d2af1 jw_b3e457240a jw_58c48ce796 jw_9d546d0b6f jw_0001e2e84f jn_X3_accept rfl (jj_le rfl) (jj_le rfl) (jj_le rfl) (jj_le rfl) (jj_le rfl) dX3_readNumber_25 rfl (fun _ _ _ hX => hX.elim) (fun rx pl_24 r O_27 => ?_)
    obtain ⟨rfl, hok_25, hr_26, hfa9, hR_29⟩ := O_27
    replace hf_2 := hr_26.at hk0 (by decide) (by decide) hf_2
    replace hf_13 := hr_26.at ka_3 (by decide) (by decide) hf_13
    replace hfr := hfr.trans (hr_26.sub (by decide))
    replace hfa := hfa.trans (hfa9.sub (by decide))
    obtain rfl := hR_29
    refine jj_if_eqF (tgt := 70) C dX3_readNumber_28 (by decide) (by decide) ?_
    refine jj_aload_n C dX3_readNumber_31 rfl ?_
    refine jj_aload_n C dX3_readNumber_32 rfl ?_
    refine tt_getF C hok_25 jk_4 0 (by decide) jw_70cd29f103 (t := (2, 10, 0)) hk0 (by decide) rfl rfl hf_2 dX3_readNumber_33 ?_
    refine tt_get C hok_25 jk_10 6 (by decide) jw_c96d139a1d (t := (0, (-2147483648), 2147483647)) ka_3 (by decide) rfl rfl dX3_readNumber_36 (fun v_32 hv_32 hf_33 => ?_)
    obtain ⟨x_34, rfl, lx_34, ux_34⟩ := tt_vi hv_32
    refine jj_iload_n C dX3_readNumber_39 rfl ?_
    refine jj_icmp_lt (tgt := 58) C dX3_readNumber_40 (by decide) (fun c_35 => ?_) (fun c_35 => ?_)
    · have z_c_35 := jc_lt (a := (x_34).toInt) (b := (1)) c_35 rfl (by decide)
      refine jj_iconst (v := 0) C dX3_readNumber_58 (by decide) ?_
      refine jj_iconst (v := 2) C dX3_readNumber_59 (by decide) ?_
      obtain ⟨qc, gs, hqc⟩ := tt_recv (cx := []) hok_25 hk0 (by decide) rfl
      refine tt_callV (rest := []) C (tc_X3_accept_3 hl D cA ak h0 hk0 hok_25) [] [] rfl rfl (by decide) (by decide) (by decide) qc hqc rfl rfl jw_713f4d2af1 jw_b3e457240a jw_58c48ce796 jw_9d546d0b6f jw_0001e2e84f jn_X3_accept rfl (jj_le rfl) (jj_le rfl) (jj_le rfl) (jj_le rfl) (jj_le rfl) dX3_readNumber_60 rfl (fun _ _ _ hX => hX.elim) (fun rx pl_36 r O_39 => ?_)
      obtain ⟨rfl, hok_37, hr_38, hfa9, hR_41⟩ := O_39
      replace hf_2 := hr_38.at hk0 (by decide) (by decide) hf_2
      replace hf_13 := hr_38.at ka_3 (by decide) (by decide) hf_13
      replace hf_33 := hr_38.at ka_3 (by decide) (by decide) hf_33
      replace hfr := hfr.trans (hr_38.sub (by decide))
      replace hfa := hfa.trans (hfa9.sub (by decide))
      obtain rfl := hR_41
      refine jj_if_eqT (tgt := 70) C dX3_readNumber_63 (by decide) (by decide) ?_
      refine jj_iconst (v := 0) C dX3_readNumber_70 (by decide) ?_
      exact jj_zret C rfl ⟨[], pl_36, rfl, rfl, hok_37, hfr, hfa, (Or.inl rfl)⟩ dX3_readNumber_71 (jj_le rfl) (jj_le rfl)
    · have z_c_35 := jc_nlt (a := (x_34).toInt) (b := (1)) c_35 rfl (by decide)
      refine jj_aload_n C dX3_readNumber_43 rfl ?_
      refine tt_getF C hok_25 jk_4 0 (by decide) jw_70cd29f103 (t := (2, 10, 0)) hk0 (by decide) rfl rfl hf_2 dX3_readNumber_44 ?_
      refine tt_getF C hok_25 jk_10 6 (by decide) jw_c96d139a1d (t := (0, (-2147483648), 2147483647)) ka_3 (by decide) rfl rfl hf_33 dX3_readNumber_47 ?_
      refine jj_iload_n C dX3_readNumber_50 rfl ?_
      refine jj_icmp_gt (tgt := 58) C dX3_readNumber_51 (by decide) (fun c_44 => ?_) (fun c_44 => ?_)
      · have z_c_44 := jc_lt (a := (6)) (b := (x_34).toInt) c_44 (by decide) rfl
        refine jj_iconst (v := 0) C dX3_readNumber_58 (by decide) ?_
        refine jj_iconst (v := 2) C dX3_readNumber_59 (by decide) ?_
        obtain ⟨qc, gs, hqc⟩ := tt_recv (cx := []) hok_25 hk0 (by decide) rfl
        refine tt_callV (rest := []) C (tc_X3_accept_3 hl D cA ak h0 hk0 hok_25) [] [] rfl rfl (by decide) (by decide) (by decide) qc hqc rfl rfl jw_713f4d2af1 jw_b3e457240a jw_58c48ce796 jw_9d546d0b6f jw_0001e2e84f jn_X3_accept rfl (jj_le rfl) (jj_le rfl) (jj_le rfl) (jj_le rfl) (jj_le rfl) dX3_readNumber_60 rfl (fun _ _ _ hX => hX.elim) (fun rx pl_45 r O_48 => ?_)
        obtain ⟨rfl, hok_46, hr_47, hfa9, hR_50⟩ := O_48
        replace hf_2 := hr_47.at hk0 (by decide) (by decide) hf_2
        replace hf_13 := hr_47.at ka_3 (by decide) (by decide) hf_13
        replace hf_33 := hr_47.at ka_3 (by decide) (by decide) hf_33
        replace hfr := hfr.trans (hr_47.sub (by decide))
        replace hfa := hfa.trans (hfa9.sub (by decide))
        obtain rfl := hR_50
        refine jj_if_eqT (tgt := 70) C dX3_readNumber_63 (by decide) (by decide) ?_
        refine jj_iconst (v := 0) C dX3_readNumber_70 (by decide) ?_
        exact jj_zret C rfl ⟨[], pl_45, rfl, rfl, hok_46, hfr, hfa, (Or.inl rfl)⟩ dX3_readNumber_71 (jj_le rfl) (jj_le rfl)
      · have z_c_44 := jc_nlt (a := (6)) (b := (x_34).toInt) c_44 (by decide) rfl
        refine jj_iconst (v := 1) C dX3_readNumber_54 (by decide) ?_
        refine jj_goto (tgt := 59) C dX3_readNumber_55 (by decide) ?_
        refine jj_iconst (v := 2) C dX3_readNumber_59 (by decide) ?_
        obtain ⟨qc, gs, hqc⟩ := tt_recv (cx := []) hok_25 hk0 (by decide) rfl
        refine tt_callV (rest := []) C (tc_X3_accept_4 hl D cA ak h0 hk0 hok_25) [] [] rfl rfl (by decide) (by decide) (by decide) qc hqc rfl rfl jw_713f4d2af1 jw_b3e457240a jw_58c48ce796 jw_9d546d0b6f jw_0001e2e84f jn_X3_accept rfl (jj_le rfl) (jj_le rfl) (jj_le rfl) (jj_le rfl) (jj_le rfl) dX3_readNumber_60 rfl (fun _ _ _ hX => hX.elim) (fun rx pl_53 r O_56 => ?_)
        obtain ⟨rfl, hok_54, hr_55, hfa9, hR_58⟩ := O_56
        replace hf_2 := hr_55.at hk0 (by decide) (by decide) hf_2
        replace hf_13 := hr_55.at ka_3 (by decide) (by decide) hf_13
        replace hf_33 := hr_55.at ka_3 (by decide) (by decide) hf_33
        replace hfr := hfr.trans (hr_55.sub (by decide))
        replace hfa := hfa.trans (hfa9.sub (by decide))
        obtain rfl := hR_58
        refine jj_if_eqF (tgt := 70) C dX3_readNumber_63 (by decide) (by decide) ?_
        refine jj_iconst (v := 1) C dX3_readNumber_66 (by decide) ?_
        refine jj_goto (tgt := 71) C dX3_readNumber_67 (by decide) ?_
        exact jj_zret C rfl ⟨[], pl_53, rfl, rfl, hok_54, hfr, hfa, (Or.inr rfl)⟩ dX3_readNumber_71 (jj_le rfl) (jj_le rfl)

set_option maxHeartbeats 4000000 in
set_option maxRecDepth 100000 in
theorem tc_X3_readInvestors_1 {l : Launch} (hl : l.stackTraces = false) (D : va_G) (cA : Nat → ClassId) (ak : (Nat → Nat) × (Nat → Nat)) {Kd : Nat → Nat} (h0 : Nat) (hk0 : Kd h0 = 17) {pl0 : va_W} (hok : tt_ok tt_tk cA Kd pl0) : jj_M l D cA ak yX3_readInvestors (.code yX3_readInvestors cX3_readInvestors 1 (some .boolean)) 6 128 0 0 ([] ++ pl0) [.ref h0] (tt_O (fun rx pl1 r => rx = [] ∧ tt_ok tt_tk cA Kd pl1 ∧ tt_fr Kd [(1, 0), (10, 3), (10, 4), (10, 5), (10, 6), (17, 2)] pl0 pl1 ∧ tt_fa Kd [] pl0 pl1 ∧ ((r = some (.int 0)) ∨ (r = some (.int 1))))) (tt_OX (fun _ _ _ => False)) := by
  refine jj_start hl (by decide) jw_a68ab282d7 (jj_le rfl) ?_
  intro p e s m args below meth c A hargs hA C hex hmn
  have hfr := tt_fr.refl (K := Kd) (WS := [(1, 0), (10, 3), (10, 4), (10, 5), (10, 6), (17, 2)]) pl0
  have hfa := tt_fa.refl (K := Kd) (WA := []) pl0
  refine jj_aload_n C dX3_readInvestors_0 rfl ?_
  refine jj_ldcs (k := 3) (tx := "investors") C dX3_readInvestors_1 (by decide +kernel) ?_
  obtain ⟨qc, gs, hqc⟩ := tt_recv (cx := []) hok hk0 (by decide) rfl
  refine tt_callV (rest := []) C (tc_X3_readWord_2 hl D cA ak h0 hk0 hok) [] [] rfl rfl (by decide) (by decide) (by decide) qc hqc rfl rfl jw_35f0a2113e jw_2bd777f4eb jw_3ef85e294d jw_9d546d0b6f jw_e40f0ddd13 jn_X3_readWord rfl (jj_le rfl) (jj_le rfl) (jj_le rfl) (jj_le rfl) (jj_le rfl) dX3_readInvestors_3 rfl (fun _ _ _ hX => hX.elim) (fun rx pl_1 r O_4 => ?_)
  obtain ⟨rfl, hok_2, hr_3, hfa9, hR_6⟩ := O_4
  replace hfr := hfr.trans (hr_3.sub (by decide))
  replace hfa := hfa.trans (hfa9.sub (by decide))
  rcases hR_6 with rfl | rfl
  · refine jj_if_eqT (tgt := 19) C dX3_readInvestors_6 (by decide) (by decide) ?_
    refine jj_iconst (v := 0) C dX3_readInvestors_19 (by decide) ?_
    exact jj_zret C rfl ⟨[], pl_1, rfl, rfl, hok_2, hfr, hfa, (Or.inl rfl)⟩ dX3_readInvestors_20 (jj_le rfl) (jj_le rfl)
  · refine jj_if_eqF (tgt := 19) C dX3_readInvestors_6 (by decide) (by decide) ?_
    refine jj_aload_n C dX3_readInvestors_9 rfl ?_
    refine jj_iconst (v := 1) C dX3_readInvestors_10 (by decide) ?_
    refine jj_bipush (v := 6) C dX3_readInvestors_11 (by decide) ?_
    obtain ⟨qc, gs, hqc⟩ := tt_recv (cx := []) hok_2 hk0 (by decide) rfl
    refine tt_callV (rest := []) C (tc_X3_readNumber_4 hl D cA ak h0 hk0 hok_2) [] [] rfl rfl (by decide) (by decide) (by decide) qc hqc rfl rfl jw_012f0d7bd3 jw_3c1e5a080b jw_1f143bff8b jw_9d546d0b6f jw_ad178c7ce3 jn_X3_readNumber rfl (jj_le rfl) (jj_le rfl) (jj_le rfl) (jj_le rfl) (jj_le rfl) dX3_readInvestors_13 rfl (fun _ _ _ hX => hX.elim) (fun rx pl_9 r O_12 => ?_)
    obtain ⟨rfl, hok_10, hr_11, hfa9, hR_14⟩ := O_12
    replace hfr := hfr.trans (hr_11.sub (by decide))
    replace hfa := hfa.trans (hfa9.sub (by decide))
    rcases hR_14 with rfl | rfl
    · refine jj_if_neF (tgt := 21) C dX3_readInvestors_16 (by decide) (by decide) ?_
      refine jj_iconst (v := 0) C dX3_readInvestors_19 (by decide) ?_
      exact jj_zret C rfl ⟨[], pl_9, rfl, rfl, hok_10, hfr, hfa, (Or.inl rfl)⟩ dX3_readInvestors_20 (jj_le rfl) (jj_le rfl)
    · refine jj_if_neT (tgt := 21) C dX3_readInvestors_16 (by decide) (by decide) ?_
      refine jj_aload_n C dX3_readInvestors_21 rfl ?_
      refine tt_get C hok_10 jk_4 1 (by decide) jw_bdf52ddf93 (t := (2, 1, 0)) hk0 (by decide) rfl rfl dX3_readInvestors_22 (fun v_17 hv_17 hf_18 => ?_)
      obtain ⟨a_19, rfl, ka_19⟩ := tt_vr hv_17
      refine jj_aload_n C dX3_readInvestors_25 rfl ?_
      refine tt_get C hok_10 jk_4 0 (by decide) jw_70cd29f103 (t := (2, 10, 0)) hk0 (by decide) rfl rfl dX3_readInvestors_26 (fun v_20 hv_20 hf_21 => ?_)
      obtain ⟨a_22, rfl, ka_22⟩ := tt_vr hv_20
      refine tt_get C hok_10 jk_10 6 (by decide) jw_c96d139a1d (t := (0, (-2147483648), 2147483647)) ka_22 (by decide) rfl rfl dX3_readInvestors_29 (fun v_23 hv_23 hf_24 => ?_)
      obtain ⟨x_25, rfl, lx_25, ux_25⟩ := tt_vi hv_23
      refine rl_put C hok_10 jk_2 0 (by decide) jw_b7c31a179b (t := (0, (-2147483648), 2147483647)) ka_19 (by decide) rfl rfl rfl (tt_ia x_25) rfl rfl dX3_readInvestors_32 (fun pl_26 hok_27 tr hn tl => ?_)
      replace hf_18 := tr _ _ _ (Or.inl (tt_ne hk0 ka_19 (by decide))) hf_18
      replace hf_21 := tr _ _ _ (Or.inl (tt_ne hk0 ka_19 (by decide))) hf_21
      replace hf_24 := tr _ _ _ (Or.inl (tt_ne ka_22 ka_19 (by decide))) hf_24
      have hf_28 := hn
      replace hfr := hfr.put ka_19 tr (by decide)
      replace hfa := hfa.all tl
      refine jj_aload_n C dX3_readInvestors_35 rfl ?_
      obtain ⟨qc, gs, hqc⟩ := tt_recv (cx := []) hok_27 hk0 (by decide) rfl
      refine tt_callV (rest := []) C (tc_X3_readSemicolon_1 hl D cA ak h0 hk0 hok_27) [] [] rfl rfl (by decide) (by decide) (by decide) qc hqc rfl rfl jw_3b321ba845 jw_25d4a051a9 jw_00e33b0681 jw_9d546d0b6f jw_469c7bc0ab jn_X3_readSemicolon rfl (jj_le rfl) (jj_le rfl) (jj_le rfl) (jj_le rfl) (jj_le rfl) dX3_readInvestors_36 rfl (fun _ _ _ hX => hX.elim) (fun rx pl_29 r O_32 => ?_)
      obtain ⟨rfl, hok_30, hr_31, hfa9, hR_34⟩ := O_32
      replace hf_18 := hr_31.at hk0 (by decide) (by decide) hf_18
      replace hf_21 := hr_31.at hk0 (by decide) (by decide) hf_21
      replace hf_28 := hr_31.at ka_19 (by decide) (by decide) hf_28
      replace hfr := hfr.trans (hr_31.sub (by decide))
      replace hfa := hfa.trans (hfa9.sub (by decide))
      rcases hR_34 with rfl | rfl
      · exact jj_zret C rfl ⟨[], pl_29, rfl, rfl, hok_30, hfr, hfa, (Or.inl rfl)⟩ dX3_readInvestors_39 (jj_le rfl) (jj_le rfl)
      · exact jj_zret C rfl ⟨[], pl_29, rfl, rfl, hok_30, hfr, hfa, (Or.inr rfl)⟩ dX3_readInvestors_39 (jj_le rfl) (jj_le rfl)

set_option maxHeartbeats 4000000 in
set_option maxRecDepth 100000 in
theorem tc_X9_isWord_5 {l : Launch} (hl : l.stackTraces = false) (D : va_G) (cA : Nat → ClassId) (ak : (Nat → Nat) × (Nat → Nat)) {Kd : Nat → Nat} (h0 : Nat) (hk0 : Kd h0 = 10) {pl0 : va_W} (hok : tt_ok tt_tk cA Kd pl0) : jj_M l D cA ak yX9_isWord (.code yX9_isWord cX9_isWord 3 (some .boolean)) 4 85 0 0 ([] ++ pl0) [.ref h0, .ref (ak.1 4)] (tt_O (fun rx pl1 r => rx = [] ∧ tt_ok tt_tk cA Kd pl1 ∧ tt_fr Kd [] pl0 pl1 ∧ tt_fa Kd [] pl0 pl1 ∧ ((r = some (.int 0)) ∨ (r = some (.int 1))))) (tt_OX (fun _ _ _ => False)) := by
  refine jj_start hl (by decide) jw_ce1c1f12e9 (jj_le rfl) ?_
  intro p e s m args below meth c A hargs hA C hex hmn
  have hfr := tt_fr.refl (K := Kd) (WS := []) pl0
  have hfa := tt_fa.refl (K := Kd) (WA := []) pl0
  refine jj_aload_n C dX9_isWord_0 rfl ?_
  refine tt_get C hok jk_10 5 (by decide) jw_bde5c0d1a5 (t := (0, (-2147483648), 2147483647)) hk0 (by decide) rfl rfl dX9_isWord_1 (fun v_1 hv_1 hf_2 => ?_)
  obtain ⟨x_3, rfl, lx_3, ux_3⟩ := tt_vi hv_1
  refine jj_iconst (v := 1) C dX9_isWord_4 (by decide) ?_
  refine jj_icmp_ne (tgt := 24) C dX9_isWord_5 (by decide) (fun c_4 => ?_) (fun c_4 => ?_)
  · have z_c_4 := jc_neq (a := (x_3).toInt) (b := (1)) c_4 rfl (by decide)
    refine jj_iconst (v := 0) C dX9_isWord_24 (by decide) ?_
    exact jj_zret C rfl ⟨[], pl0, rfl, rfl, hok, hfr, hfa, (Or.inl rfl)⟩ dX9_isWord_25 (jj_le rfl) (jj_le rfl)
  · have z_c_4 := jc_eq (a := (x_3).toInt) (b := (1)) c_4 rfl (by decide)
    refine jj_aload_n C dX9_isWord_8 rfl ?_
    refine tt_get C hok jk_10 3 (by decide) jw_f99bd0ca2b (t := (0, 0, 400)) hk0 (by decide) rfl rfl dX9_isWord_9 (fun v_5 hv_5 hf_6 => ?_)
    obtain ⟨x_7, rfl, lx_7, ux_7⟩ := tt_vi hv_5
    refine jj_aload_n C dX9_isWord_12 rfl ?_
    refine tt_get C hok jk_10 4 (by decide) jw_66bda6962a (t := (0, 0, 400)) hk0 (by decide) rfl rfl dX9_isWord_13 (fun v_8 hv_8 hf_9 => ?_)
    obtain ⟨x_10, rfl, lx_10, ux_10⟩ := tt_vi hv_8
    obtain ⟨x_11, ex_11, vx_11⟩ := tt_isub (x := x_7) (y := x_10) (a := x_7.toInt) rfl (b := x_10.toInt) rfl (by omega) (by omega)
    refine jj_isub (v := x_11) C dX9_isWord_16 ex_11 ?_
    refine jj_aload_n C dX9_isWord_17 rfl ?_
    refine tt_call0Vs (rest := [.int x_11]) C (ct_J0_length_8abf5_5 hl D cA ak) 4 (by decide) rfl jw_f27063fded jw_b1ce304435 jw_d08f03a22e jw_4ea6285965 jw_bbc7045666 jn_J0_length_8abf5 rfl (jj_le rfl) (jj_le rfl) (jj_le rfl) (jj_le rfl) (jj_le rfl) dX9_isWord_18 rfl (fun w1 r O_12 => ?_)
    obtain ⟨-, rfl⟩ := O_12
    refine jj_icmp_eq (tgt := 26) C dX9_isWord_21 (by decide) (fun c_13 => ?_) (fun c_13 => ?_)
    · have z_c_13 := jc_eq (a := (x_11).toInt) (b := (9)) c_13 rfl (by decide)
      refine jj_iconst (v := 0) C dX9_isWord_26 (by decide) ?_
      refine jj_istore_n C dX9_isWord_27 (by decide) rfl ?_
      refine jj_iload_n C dX9_isWord_28 rfl ?_
      refine jj_aload_n C dX9_isWord_29 rfl ?_
      refine tt_call0Vs (rest := [.int 0]) C (ct_J0_length_8abf5_5 hl D cA ak) 4 (by decide) rfl jw_f27063fded jw_b1ce304435 jw_d08f03a22e jw_4ea6285965 jw_bbc7045666 jn_J0_length_8abf5 rfl (jj_le rfl) (jj_le rfl) (jj_le rfl) (jj_le rfl) (jj_le rfl) dX9_isWord_30 rfl (fun w1 r O_14 => ?_)
      obtain ⟨-, rfl⟩ := O_14
      refine jj_icmp_geF (tgt := 63) C dX9_isWord_33 (by decide) (by decide) ?_
      refine jj_aload_n C dX9_isWord_36 rfl ?_
      refine tt_get C hok jk_10 0 (by decide) jw_0664e1e086 (t := (2, 11, 0)) hk0 (by decide) rfl rfl dX9_isWord_37 (fun v_15 hv_15 hf_16 => ?_)
      obtain ⟨a_17, rfl, ka_17⟩ := tt_vr hv_15
      refine jj_aload_n C dX9_isWord_40 rfl ?_
      refine tt_getF C hok jk_10 4 (by decide) jw_66bda6962a (t := (0, 0, 400)) hk0 (by decide) rfl rfl hf_9 dX9_isWord_41 ?_
      refine jj_iload_n C dX9_isWord_44 rfl ?_
      obtain ⟨x_18, ex_18, vx_18⟩ := tt_iadd (x := x_10) (y := (0 : Int32)) (a := x_10.toInt) rfl (b := 0) (by decide) (by omega) (by omega)
      refine jj_iadd (v := x_18) C dX9_isWord_45 ex_18 ?_
      refine tt_cald C hok (t := (0, (-2147483648), 2147483647)) ka_17 (by decide) rfl (vp_in_iff.mpr ⟨by omega, by omega⟩) dX9_isWord_46 (fun v_19 hv_19 => ?_)
      refine jj_aload_n C dX9_isWord_47 rfl ?_
      refine jj_iload_n C dX9_isWord_48 rfl ?_
      refine tt_call0Vs (rest := [.int v_19]) C (ct_J0_charAt_5068e_25 hl D cA ak) 4 (by decide) rfl jw_076e8de8e0 jw_acb9174fef jw_675efe837b jw_4ea6285965 jw_391c0f56bd jn_J0_charAt_5068e rfl (jj_le rfl) (jj_le rfl) (jj_le rfl) (jj_le rfl) (jj_le rfl) dX9_isWord_49 rfl (fun w1 r O_20 => ?_)
      obtain ⟨-, rfl⟩ := O_20
      refine jj_icmp_eq (tgt := 57) C dX9_isWord_52 (by decide) (fun c_21 => ?_) (fun c_21 => ?_)
      · have z_c_21 := jc_eq (a := (v_19).toInt) (b := (115)) c_21 rfl (by decide)
        refine jj_iinc (v := 1) C dX9_isWord_57 rfl (by decide) (by decide) rfl ?_
        refine jj_goto (tgt := 28) C dX9_isWord_60 (by decide) ?_
        refine jj_iload_n C dX9_isWord_28 rfl ?_
        refine jj_aload_n C dX9_isWord_29 rfl ?_
        refine tt_call0Vs (rest := [.int 1]) C (ct_J0_length_8abf5_5 hl D cA ak) 4 (by decide) rfl jw_f27063fded jw_b1ce304435 jw_d08f03a22e jw_4ea6285965 jw_bbc7045666 jn_J0_length_8abf5 rfl (jj_le rfl) (jj_le rfl) (jj_le rfl) (jj_le rfl) (jj_le rfl) dX9_isWord_30 rfl (fun w1 r O_22 => ?_)
        obtain ⟨-, rfl⟩ := O_22
        refine jj_icmp_geF (tgt := 63) C dX9_isWord_33 (by decide) (by decide) ?_
        refine jj_aload_n C dX9_isWord_36 rfl ?_
        refine tt_getF C hok jk_10 0 (by decide) jw_0664e1e086 (t := (2, 11, 0)) hk0 (by decide) rfl rfl hf_16 dX9_isWord_37 ?_
        refine jj_aload_n C dX9_isWord_40 rfl ?_
        refine tt_getF C hok jk_10 4 (by decide) jw_66bda6962a (t := (0, 0, 400)) hk0 (by decide) rfl rfl hf_9 dX9_isWord_41 ?_
        refine jj_iload_n C dX9_isWord_44 rfl ?_
        obtain ⟨x_23, ex_23, vx_23⟩ := tt_iadd (x := x_10) (y := (1 : Int32)) (a := x_10.toInt) rfl (b := 1) (by decide) (by omega) (by omega)
        refine jj_iadd (v := x_23) C dX9_isWord_45 ex_23 ?_
        refine tt_cald C hok (t := (0, (-2147483648), 2147483647)) ka_17 (by decide) rfl (vp_in_iff.mpr ⟨by omega, by omega⟩) dX9_isWord_46 (fun v_24 hv_24 => ?_)
        refine jj_aload_n C dX9_isWord_47 rfl ?_
        refine jj_iload_n C dX9_isWord_48 rfl ?_
        refine tt_call0Vs (rest := [.int v_24]) C (ct_J0_charAt_5068e_26 hl D cA ak) 4 (by decide) rfl jw_076e8de8e0 jw_acb9174fef jw_675efe837b jw_4ea6285965 jw_391c0f56bd jn_J0_charAt_5068e rfl (jj_le rfl) (jj_le rfl) (jj_le rfl) (jj_le rfl) (jj_le rfl) dX9_isWord_49 rfl (fun w1 r O_25 => ?_)
        obtain ⟨-, rfl⟩ := O_25
        refine jj_icmp_eq (tgt := 57) C dX9_isWord_52 (by decide) (fun c_26 => ?_) (fun c_26 => ?_)
        · have z_c_26 := jc_eq (a := (v_24).toInt) (b := (117)) c_26 rfl (by decide)
          refine jj_iinc (v := 2) C dX9_isWord_57 rfl (by decide) (by decide) rfl ?_
          refine jj_goto (tgt := 28) C dX9_isWord_60 (by decide) ?_
          refine jj_iload_n C dX9_isWord_28 rfl ?_
          refine jj_aload_n C dX9_isWord_29 rfl ?_
          refine tt_call0Vs (rest := [.int 2]) C (ct_J0_length_8abf5_5 hl D cA ak) 4 (by decide) rfl jw_f27063fded jw_b1ce304435 jw_d08f03a22e jw_4ea6285965 jw_bbc7045666 jn_J0_length_8abf5 rfl (jj_le rfl) (jj_le rfl) (jj_le rfl) (jj_le rfl) (jj_le rfl) dX9_isWord_30 rfl (fun w1 r O_27 => ?_)
          obtain ⟨-, rfl⟩ := O_27
          refine jj_icmp_geF (tgt := 63) C dX9_isWord_33 (by decide) (by decide) ?_
          refine jj_aload_n C dX9_isWord_36 rfl ?_
          refine tt_getF C hok jk_10 0 (by decide) jw_0664e1e086 (t := (2, 11, 0)) hk0 (by decide) rfl rfl hf_16 dX9_isWord_37 ?_
          refine jj_aload_n C dX9_isWord_40 rfl ?_
          refine tt_getF C hok jk_10 4 (by decide) jw_66bda6962a (t := (0, 0, 400)) hk0 (by decide) rfl rfl hf_9 dX9_isWord_41 ?_
          refine jj_iload_n C dX9_isWord_44 rfl ?_
          obtain ⟨x_28, ex_28, vx_28⟩ := tt_iadd (x := x_10) (y := (2 : Int32)) (a := x_10.toInt) rfl (b := 2) (by decide) (by omega) (by omega)
          refine jj_iadd (v := x_28) C dX9_isWord_45 ex_28 ?_
          refine tt_cald C hok (t := (0, (-2147483648), 2147483647)) ka_17 (by decide) rfl (vp_in_iff.mpr ⟨by omega, by omega⟩) dX9_isWord_46 (fun v_29 hv_29 => ?_)
          refine jj_aload_n C dX9_isWord_47 rfl ?_
          refine jj_iload_n C dX9_isWord_48 rfl ?_
          refine tt_call0Vs (rest := [.int v_29]) C (ct_J0_charAt_5068e_27 hl D cA ak) 4 (by decide) rfl jw_076e8de8e0 jw_acb9174fef jw_675efe837b jw_4ea6285965 jw_391c0f56bd jn_J0_charAt_5068e rfl (jj_le rfl) (jj_le rfl) (jj_le rfl) (jj_le rfl) (jj_le rfl) dX9_isWord_49 rfl (fun w1 r O_30 => ?_)
          obtain ⟨-, rfl⟩ := O_30
          refine jj_icmp_eq (tgt := 57) C dX9_isWord_52 (by decide) (fun c_31 => ?_) (fun c_31 => ?_)
          · have z_c_31 := jc_eq (a := (v_29).toInt) (b := (98)) c_31 rfl (by decide)
            refine jj_iinc (v := 3) C dX9_isWord_57 rfl (by decide) (by decide) rfl ?_
            refine jj_goto (tgt := 28) C dX9_isWord_60 (by decide) ?_
            refine jj_iload_n C dX9_isWord_28 rfl ?_
            refine jj_aload_n C dX9_isWord_29 rfl ?_
            refine tt_call0Vs (rest := [.int 3]) C (ct_J0_length_8abf5_5 hl D cA ak) 4 (by decide) rfl jw_f27063fded jw_b1ce304435 jw_d08f03a22e jw_4ea6285965 jw_bbc7045666 jn_J0_length_8abf5 rfl (jj_le rfl) (jj_le rfl) (jj_le rfl) (jj_le rfl) (jj_le rfl) dX9_isWord_30 rfl (fun w1 r O_32 => ?_)
            obtain ⟨-, rfl⟩ := O_32
            refine jj_icmp_geF (tgt := 63) C dX9_isWord_33 (by decide) (by decide) ?_
            refine jj_aload_n C dX9_isWord_36 rfl ?_
            refine tt_getF C hok jk_10 0 (by decide) jw_0664e1e086 (t := (2, 11, 0)) hk0 (by decide) rfl rfl hf_16 dX9_isWord_37 ?_
            refine jj_aload_n C dX9_isWord_40 rfl ?_
            refine tt_getF C hok jk_10 4 (by decide) jw_66bda6962a (t := (0, 0, 400)) hk0 (by decide) rfl rfl hf_9 dX9_isWord_41 ?_
            refine jj_iload_n C dX9_isWord_44 rfl ?_
            obtain ⟨x_33, ex_33, vx_33⟩ := tt_iadd (x := x_10) (y := (3 : Int32)) (a := x_10.toInt) rfl (b := 3) (by decide) (by omega) (by omega)
            refine jj_iadd (v := x_33) C dX9_isWord_45 ex_33 ?_
            refine tt_cald C hok (t := (0, (-2147483648), 2147483647)) ka_17 (by decide) rfl (vp_in_iff.mpr ⟨by omega, by omega⟩) dX9_isWord_46 (fun v_34 hv_34 => ?_)
            refine jj_aload_n C dX9_isWord_47 rfl ?_
            refine jj_iload_n C dX9_isWord_48 rfl ?_
            refine tt_call0Vs (rest := [.int v_34]) C (ct_J0_charAt_5068e_28 hl D cA ak) 4 (by decide) rfl jw_076e8de8e0 jw_acb9174fef jw_675efe837b jw_4ea6285965 jw_391c0f56bd jn_J0_charAt_5068e rfl (jj_le rfl) (jj_le rfl) (jj_le rfl) (jj_le rfl) (jj_le rfl) dX9_isWord_49 rfl (fun w1 r O_35 => ?_)
            obtain ⟨-, rfl⟩ := O_35
            refine jj_icmp_eq (tgt := 57) C dX9_isWord_52 (by decide) (fun c_36 => ?_) (fun c_36 => ?_)
            · have z_c_36 := jc_eq (a := (v_34).toInt) (b := (115)) c_36 rfl (by decide)
              refine jj_iinc (v := 4) C dX9_isWord_57 rfl (by decide) (by decide) rfl ?_
              refine jj_goto (tgt := 28) C dX9_isWord_60 (by decide) ?_
              refine jj_iload_n C dX9_isWord_28 rfl ?_
              refine jj_aload_n C dX9_isWord_29 rfl ?_
              refine tt_call0Vs (rest := [.int 4]) C (ct_J0_length_8abf5_5 hl D cA ak) 4 (by decide) rfl jw_f27063fded jw_b1ce304435 jw_d08f03a22e jw_4ea6285965 jw_bbc7045666 jn_J0_length_8abf5 rfl (jj_le rfl) (jj_le rfl) (jj_le rfl) (jj_le rfl) (jj_le rfl) dX9_isWord_30 rfl (fun w1 r O_37 => ?_)
              obtain ⟨-, rfl⟩ := O_37
              refine jj_icmp_geF (tgt := 63) C dX9_isWord_33 (by decide) (by decide) ?_
              refine jj_aload_n C dX9_isWord_36 rfl ?_
              refine tt_getF C hok jk_10 0 (by decide) jw_0664e1e086 (t := (2, 11, 0)) hk0 (by decide) rfl rfl hf_16 dX9_isWord_37 ?_
              refine jj_aload_n C dX9_isWord_40 rfl ?_
              refine tt_getF C hok jk_10 4 (by decide) jw_66bda6962a (t := (0, 0, 400)) hk0 (by decide) rfl rfl hf_9 dX9_isWord_41 ?_
              refine jj_iload_n C dX9_isWord_44 rfl ?_
              obtain ⟨x_38, ex_38, vx_38⟩ := tt_iadd (x := x_10) (y := (4 : Int32)) (a := x_10.toInt) rfl (b := 4) (by decide) (by omega) (by omega)
              refine jj_iadd (v := x_38) C dX9_isWord_45 ex_38 ?_
              refine tt_cald C hok (t := (0, (-2147483648), 2147483647)) ka_17 (by decide) rfl (vp_in_iff.mpr ⟨by omega, by omega⟩) dX9_isWord_46 (fun v_39 hv_39 => ?_)
              refine jj_aload_n C dX9_isWord_47 rfl ?_
              refine jj_iload_n C dX9_isWord_48 rfl ?_
              refine tt_call0Vs (rest := [.int v_39]) C (ct_J0_charAt_5068e_29 hl D cA ak) 4 (by decide) rfl jw_076e8de8e0 jw_acb9174fef jw_675efe837b jw_4ea6285965 jw_391c0f56bd jn_J0_charAt_5068e rfl (jj_le rfl) (jj_le rfl) (jj_le rfl) (jj_le rfl) (jj_le rfl) dX9_isWord_49 rfl (fun w1 r O_40 => ?_)
              obtain ⟨-, rfl⟩ := O_40
              refine jj_icmp_eq (tgt := 57) C dX9_isWord_52 (by decide) (fun c_41 => ?_) (fun c_41 => ?_)
              · have z_c_41 := jc_eq (a := (v_39).toInt) (b := (99)) c_41 rfl (by decide)
                refine jj_iinc (v := 5) C dX9_isWord_57 rfl (by decide) (by decide) rfl ?_
                refine jj_goto (tgt := 28) C dX9_isWord_60 (by decide) ?_
                refine jj_iload_n C dX9_isWord_28 rfl ?_
                refine jj_aload_n C dX9_isWord_29 rfl ?_
                refine tt_call0Vs (rest := [.int 5]) C (ct_J0_length_8abf5_5 hl D cA ak) 4 (by decide) rfl jw_f27063fded jw_b1ce304435 jw_d08f03a22e jw_4ea6285965 jw_bbc7045666 jn_J0_length_8abf5 rfl (jj_le rfl) (jj_le rfl) (jj_le rfl) (jj_le rfl) (jj_le rfl) dX9_isWord_30 rfl (fun w1 r O_42 => ?_)
                obtain ⟨-, rfl⟩ := O_42
                refine jj_icmp_geF (tgt := 63) C dX9_isWord_33 (by decide) (by decide) ?_
                refine jj_aload_n C dX9_isWord_36 rfl ?_
                refine tt_getF C hok jk_10 0 (by decide) jw_0664e1e086 (t := (2, 11, 0)) hk0 (by decide) rfl rfl hf_16 dX9_isWord_37 ?_
                refine jj_aload_n C dX9_isWord_40 rfl ?_
                refine tt_getF C hok jk_10 4 (by decide) jw_66bda6962a (t := (0, 0, 400)) hk0 (by decide) rfl rfl hf_9 dX9_isWord_41 ?_
                refine jj_iload_n C dX9_isWord_44 rfl ?_
                obtain ⟨x_43, ex_43, vx_43⟩ := tt_iadd (x := x_10) (y := (5 : Int32)) (a := x_10.toInt) rfl (b := 5) (by decide) (by omega) (by omega)
                refine jj_iadd (v := x_43) C dX9_isWord_45 ex_43 ?_
                refine tt_cald C hok (t := (0, (-2147483648), 2147483647)) ka_17 (by decide) rfl (vp_in_iff.mpr ⟨by omega, by omega⟩) dX9_isWord_46 (fun v_44 hv_44 => ?_)
                refine jj_aload_n C dX9_isWord_47 rfl ?_
                refine jj_iload_n C dX9_isWord_48 rfl ?_
                refine tt_call0Vs (rest := [.int v_44]) C (ct_J0_charAt_5068e_30 hl D cA ak) 4 (by decide) rfl jw_076e8de8e0 jw_acb9174fef jw_675efe837b jw_4ea6285965 jw_391c0f56bd jn_J0_charAt_5068e rfl (jj_le rfl) (jj_le rfl) (jj_le rfl) (jj_le rfl) (jj_le rfl) dX9_isWord_49 rfl (fun w1 r O_45 => ?_)
                obtain ⟨-, rfl⟩ := O_45
                refine jj_icmp_eq (tgt := 57) C dX9_isWord_52 (by decide) (fun c_46 => ?_) (fun c_46 => ?_)
                · have z_c_46 := jc_eq (a := (v_44).toInt) (b := (114)) c_46 rfl (by decide)
                  refine jj_iinc (v := 6) C dX9_isWord_57 rfl (by decide) (by decide) rfl ?_
                  refine jj_goto (tgt := 28) C dX9_isWord_60 (by decide) ?_
                  refine jj_iload_n C dX9_isWord_28 rfl ?_
                  refine jj_aload_n C dX9_isWord_29 rfl ?_
                  refine tt_call0Vs (rest := [.int 6]) C (ct_J0_length_8abf5_5 hl D cA ak) 4 (by decide) rfl jw_f27063fded jw_b1ce304435 jw_d08f03a22e jw_4ea6285965 jw_bbc7045666 jn_J0_length_8abf5 rfl (jj_le rfl) (jj_le rfl) (jj_le rfl) (jj_le rfl) (jj_le rfl) dX9_isWord_30 rfl (fun w1 r O_47 => ?_)
                  obtain ⟨-, rfl⟩ := O_47
                  refine jj_icmp_geF (tgt := 63) C dX9_isWord_33 (by decide) (by decide) ?_
                  refine jj_aload_n C dX9_isWord_36 rfl ?_
                  refine tt_getF C hok jk_10 0 (by decide) jw_0664e1e086 (t := (2, 11, 0)) hk0 (by decide) rfl rfl hf_16 dX9_isWord_37 ?_
                  refine jj_aload_n C dX9_isWord_40 rfl ?_
                  refine tt_getF C hok jk_10 4 (by decide) jw_66bda6962a (t := (0, 0, 400)) hk0 (by decide) rfl rfl hf_9 dX9_isWord_41 ?_
                  refine jj_iload_n C dX9_isWord_44 rfl ?_
                  obtain ⟨x_48, ex_48, vx_48⟩ := tt_iadd (x := x_10) (y := (6 : Int32)) (a := x_10.toInt) rfl (b := 6) (by decide) (by omega) (by omega)
                  refine jj_iadd (v := x_48) C dX9_isWord_45 ex_48 ?_
                  refine tt_cald C hok (t := (0, (-2147483648), 2147483647)) ka_17 (by decide) rfl (vp_in_iff.mpr ⟨by omega, by omega⟩) dX9_isWord_46 (fun v_49 hv_49 => ?_)
                  refine jj_aload_n C dX9_isWord_47 rfl ?_
                  refine jj_iload_n C dX9_isWord_48 rfl ?_
                  refine tt_call0Vs (rest := [.int v_49]) C (ct_J0_charAt_5068e_31 hl D cA ak) 4 (by decide) rfl jw_076e8de8e0 jw_acb9174fef jw_675efe837b jw_4ea6285965 jw_391c0f56bd jn_J0_charAt_5068e rfl (jj_le rfl) (jj_le rfl) (jj_le rfl) (jj_le rfl) (jj_le rfl) dX9_isWord_49 rfl (fun w1 r O_50 => ?_)
                  obtain ⟨-, rfl⟩ := O_50
                  refine jj_icmp_eq (tgt := 57) C dX9_isWord_52 (by decide) (fun c_51 => ?_) (fun c_51 => ?_)
                  · have z_c_51 := jc_eq (a := (v_49).toInt) (b := (105)) c_51 rfl (by decide)
                    refine jj_iinc (v := 7) C dX9_isWord_57 rfl (by decide) (by decide) rfl ?_
                    refine jj_goto (tgt := 28) C dX9_isWord_60 (by decide) ?_
                    refine jj_iload_n C dX9_isWord_28 rfl ?_
                    refine jj_aload_n C dX9_isWord_29 rfl ?_
                    refine tt_call0Vs (rest := [.int 7]) C (ct_J0_length_8abf5_5 hl D cA ak) 4 (by decide) rfl jw_f27063fded jw_b1ce304435 jw_d08f03a22e jw_4ea6285965 jw_bbc7045666 jn_J0_length_8abf5 rfl (jj_le rfl) (jj_le rfl) (jj_le rfl) (jj_le rfl) (jj_le rfl) dX9_isWord_30 rfl (fun w1 r O_52 => ?_)
                    obtain ⟨-, rfl⟩ := O_52
                    refine jj_icmp_geF (tgt := 63) C dX9_isWord_33 (by decide) (by decide) ?_
                    refine jj_aload_n C dX9_isWord_36 rfl ?_
                    refine tt_getF C hok jk_10 0 (by decide) jw_0664e1e086 (t := (2, 11, 0)) hk0 (by decide) rfl rfl hf_16 dX9_isWord_37 ?_
                    refine jj_aload_n C dX9_isWord_40 rfl ?_
                    refine tt_getF C hok jk_10 4 (by decide) jw_66bda6962a (t := (0, 0, 400)) hk0 (by decide) rfl rfl hf_9 dX9_isWord_41 ?_
                    refine jj_iload_n C dX9_isWord_44 rfl ?_
                    obtain ⟨x_53, ex_53, vx_53⟩ := tt_iadd (x := x_10) (y := (7 : Int32)) (a := x_10.toInt) rfl (b := 7) (by decide) (by omega) (by omega)
                    refine jj_iadd (v := x_53) C dX9_isWord_45 ex_53 ?_
                    refine tt_cald C hok (t := (0, (-2147483648), 2147483647)) ka_17 (by decide) rfl (vp_in_iff.mpr ⟨by omega, by omega⟩) dX9_isWord_46 (fun v_54 hv_54 => ?_)
                    refine jj_aload_n C dX9_isWord_47 rfl ?_
                    refine jj_iload_n C dX9_isWord_48 rfl ?_
                    refine tt_call0Vs (rest := [.int v_54]) C (ct_J0_charAt_5068e_32 hl D cA ak) 4 (by decide) rfl jw_076e8de8e0 jw_acb9174fef jw_675efe837b jw_4ea6285965 jw_391c0f56bd jn_J0_charAt_5068e rfl (jj_le rfl) (jj_le rfl) (jj_le rfl) (jj_le rfl) (jj_le rfl) dX9_isWord_49 rfl (fun w1 r O_55 => ?_)
                    obtain ⟨-, rfl⟩ := O_55
                    refine jj_icmp_eq (tgt := 57) C dX9_isWord_52 (by decide) (fun c_56 => ?_) (fun c_56 => ?_)
                    · have z_c_56 := jc_eq (a := (v_54).toInt) (b := (98)) c_56 rfl (by decide)
                      refine jj_iinc (v := 8) C dX9_isWord_57 rfl (by decide) (by decide) rfl ?_
                      refine jj_goto (tgt := 28) C dX9_isWord_60 (by decide) ?_
                      refine jj_iload_n C dX9_isWord_28 rfl ?_
                      refine jj_aload_n C dX9_isWord_29 rfl ?_
                      refine tt_call0Vs (rest := [.int 8]) C (ct_J0_length_8abf5_5 hl D cA ak) 4 (by decide) rfl jw_f27063fded jw_b1ce304435 jw_d08f03a22e jw_4ea6285965 jw_bbc7045666 jn_J0_length_8abf5 rfl (jj_le rfl) (jj_le rfl) (jj_le rfl) (jj_le rfl) (jj_le rfl) dX9_isWord_30 rfl (fun w1 r O_57 => ?_)
                      obtain ⟨-, rfl⟩ := O_57
                      refine jj_icmp_geF (tgt := 63) C dX9_isWord_33 (by decide) (by decide) ?_
                      refine jj_aload_n C dX9_isWord_36 rfl ?_
                      refine tt_getF C hok jk_10 0 (by decide) jw_0664e1e086 (t := (2, 11, 0)) hk0 (by decide) rfl rfl hf_16 dX9_isWord_37 ?_
                      refine jj_aload_n C dX9_isWord_40 rfl ?_
                      refine tt_getF C hok jk_10 4 (by decide) jw_66bda6962a (t := (0, 0, 400)) hk0 (by decide) rfl rfl hf_9 dX9_isWord_41 ?_
                      refine jj_iload_n C dX9_isWord_44 rfl ?_
                      obtain ⟨x_58, ex_58, vx_58⟩ := tt_iadd (x := x_10) (y := (8 : Int32)) (a := x_10.toInt) rfl (b := 8) (by decide) (by omega) (by omega)
                      refine jj_iadd (v := x_58) C dX9_isWord_45 ex_58 ?_
                      refine tt_cald C hok (t := (0, (-2147483648), 2147483647)) ka_17 (by decide) rfl (vp_in_iff.mpr ⟨by omega, by omega⟩) dX9_isWord_46 (fun v_59 hv_59 => ?_)
                      refine jj_aload_n C dX9_isWord_47 rfl ?_
                      refine jj_iload_n C dX9_isWord_48 rfl ?_
                      refine tt_call0Vs (rest := [.int v_59]) C (ct_J0_charAt_5068e_33 hl D cA ak) 4 (by decide) rfl jw_076e8de8e0 jw_acb9174fef jw_675efe837b jw_4ea6285965 jw_391c0f56bd jn_J0_charAt_5068e rfl (jj_le rfl) (jj_le rfl) (jj_le rfl) (jj_le rfl) (jj_le rfl) dX9_isWord_49 rfl (fun w1 r O_60 => ?_)
                      obtain ⟨-, rfl⟩ := O_60
                      refine jj_icmp_eq (tgt := 57) C dX9_isWord_52 (by decide) (fun c_61 => ?_) (fun c_61 => ?_)
                      · have z_c_61 := jc_eq (a := (v_59).toInt) (b := (101)) c_61 rfl (by decide)
                        refine jj_iinc (v := 9) C dX9_isWord_57 rfl (by decide) (by decide) rfl ?_
                        refine jj_goto (tgt := 28) C dX9_isWord_60 (by decide) ?_
                        refine jj_iload_n C dX9_isWord_28 rfl ?_
                        refine jj_aload_n C dX9_isWord_29 rfl ?_
                        refine tt_call0Vs (rest := [.int 9]) C (ct_J0_length_8abf5_5 hl D cA ak) 4 (by decide) rfl jw_f27063fded jw_b1ce304435 jw_d08f03a22e jw_4ea6285965 jw_bbc7045666 jn_J0_length_8abf5 rfl (jj_le rfl) (jj_le rfl) (jj_le rfl) (jj_le rfl) (jj_le rfl) dX9_isWord_30 rfl (fun w1 r O_62 => ?_)
                        obtain ⟨-, rfl⟩ := O_62
                        refine jj_icmp_geT (tgt := 63) C dX9_isWord_33 (by decide) (by decide) ?_
                        refine jj_iconst (v := 1) C dX9_isWord_63 (by decide) ?_
                        exact jj_zret C rfl ⟨[], pl0, rfl, rfl, hok, hfr, hfa, (Or.inr rfl)⟩ dX9_isWord_64 (jj_le rfl) (jj_le rfl)
                      · have z_c_61 := jc_neq (a := (v_59).toInt) (b := (101)) c_61 rfl (by decide)
                        refine jj_iconst (v := 0) C dX9_isWord_55 (by decide) ?_
                        exact jj_zret C rfl ⟨[], pl0, rfl, rfl, hok, hfr, hfa, (Or.inl rfl)⟩ dX9_isWord_56 (jj_le rfl) (jj_le rfl)
                    · have z_c_56 := jc_neq (a := (v_54).toInt) (b := (98)) c_56 rfl (by decide)
                      refine jj_iconst (v := 0) C dX9_isWord_55 (by decide) ?_
                      exact jj_zret C rfl ⟨[], pl0, rfl, rfl, hok, hfr, hfa, (Or.inl rfl)⟩ dX9_isWord_56 (jj_le rfl) (jj_le rfl)
                  · have z_c_51 := jc_neq (a := (v_49).toInt) (b := (105)) c_51 rfl (by decide)
                    refine jj_iconst (v := 0) C dX9_isWord_55 (by decide) ?_
                    exact jj_zret C rfl ⟨[], pl0, rfl, rfl, hok, hfr, hfa, (Or.inl rfl)⟩ dX9_isWord_56 (jj_le rfl) (jj_le rfl)
                · have z_c_46 := jc_neq (a := (v_44).toInt) (b := (114)) c_46 rfl (by decide)
                  refine jj_iconst (v := 0) C dX9_isWord_55 (by decide) ?_
                  exact jj_zret C rfl ⟨[], pl0, rfl, rfl, hok, hfr, hfa, (Or.inl rfl)⟩ dX9_isWord_56 (jj_le rfl) (jj_le rfl)
              · have z_c_41 := jc_neq (a := (v_39).toInt) (b := (99)) c_41 rfl (by decide)
                refine jj_iconst (v := 0) C dX9_isWord_55 (by decide) ?_
                exact jj_zret C rfl ⟨[], pl0, rfl, rfl, hok, hfr, hfa, (Or.inl rfl)⟩ dX9_isWord_56 (jj_le rfl) (jj_le rfl)
            · have z_c_36 := jc_neq (a := (v_34).toInt) (b := (115)) c_36 rfl (by decide)
              refine jj_iconst (v := 0) C dX9_isWord_55 (by decide) ?_
              exact jj_zret C rfl ⟨[], pl0, rfl, rfl, hok, hfr, hfa, (Or.inl rfl)⟩ dX9_isWord_56 (jj_le rfl) (jj_le rfl)
          · have z_c_31 := jc_neq (a := (v_29).toInt) (b := (98)) c_31 rfl (by decide)
            refine jj_iconst (v := 0) C dX9_isWord_55 (by decide) ?_
            exact jj_zret C rfl ⟨[], pl0, rfl, rfl, hok, hfr, hfa, (Or.inl rfl)⟩ dX9_isWord_56 (jj_le rfl) (jj_le rfl)
        · have z_c_26 := jc_neq (a := (v_24).toInt) (b := (117)) c_26 rfl (by decide)
          refine jj_iconst (v := 0) C dX9_isWord_55 (by decide) ?_
          exact jj_zret C rfl ⟨[], pl0, rfl, rfl, hok, hfr, hfa, (Or.inl rfl)⟩ dX9_isWord_56 (jj_le rfl) (jj_le rfl)
      · have z_c_21 := jc_neq (a := (v_19).toInt) (b := (115)) c_21 rfl (by decide)
        refine jj_iconst (v := 0) C dX9_isWord_55 (by decide) ?_
        exact jj_zret C rfl ⟨[], pl0, rfl, rfl, hok, hfr, hfa, (Or.inl rfl)⟩ dX9_isWord_56 (jj_le rfl) (jj_le rfl)
    · have z_c_13 := jc_neq (a := (x_11).toInt) (b := (9)) c_13 rfl (by decide)
      refine jj_iconst (v := 0) C dX9_isWord_24 (by decide) ?_
      exact jj_zret C rfl ⟨[], pl0, rfl, rfl, hok, hfr, hfa, (Or.inl rfl)⟩ dX9_isWord_25 (jj_le rfl) (jj_le rfl)

set_option maxHeartbeats 4000000 in
set_option maxRecDepth 100000 in
theorem tc_X3_accept_5 {l : Launch} (hl : l.stackTraces = false) (D : va_G) (cA : Nat → ClassId) (ak : (Nat → Nat) × (Nat → Nat)) {Kd : Nat → Nat} (h0 : Nat) (hk0 : Kd h0 = 17) {pl0 : va_W} (hok : tt_ok tt_tk cA Kd pl0) : jj_M l D cA ak yX3_accept (.code yX3_accept cX3_accept 3 (some .boolean)) 0 0 0 0 ([] ++ pl0) [.ref h0, .int 1, .int 3] (tt_O (fun rx pl1 r => rx = [] ∧ tt_ok tt_tk cA Kd pl1 ∧ tt_fr Kd [] pl0 pl1 ∧ tt_fa Kd [] pl0 pl1 ∧ ((r = some (.int 1))))) (tt_OX (fun _ _ _ => False)) := by
  refine jj_start hl (by decide) jw_0001e2e84f (jj_le rfl) ?_
  intro p e s m args below meth c A hargs hA C hex hmn
  have hfr := tt_fr.refl (K := Kd) (WS := []) pl0
  have hfa := tt_fa.refl (K := Kd) (WA := []) pl0
  refine jj_iload_n C dX3_accept_0 rfl ?_
  refine jj_if_neT (tgt := 9) C dX3_accept_1 (by decide) (by decide) ?_
  refine jj_iload_n C dX3_accept_9 rfl ?_
  exact jj_zret C rfl ⟨[], pl0, rfl, rfl, hok, hfr, hfa, rfl⟩ dX3_accept_10 (jj_le rfl) (jj_le rfl)

set_option maxHeartbeats 4000000 in
set_option maxRecDepth 100000 in
theorem tc_X3_readNumber_5 {l : Launch} (hl : l.stackTraces = false) (D : va_G) (cA : Nat → ClassId) (ak : (Nat → Nat) × (Nat → Nat)) {Kd : Nat → Nat} (h0 : Nat) (p2 : Int32) (hk0 : Kd h0 = 17) {pl0 : va_W} (hok : tt_ok tt_tk cA Kd pl0) : jj_M l D cA ak yX3_readNumber (.code yX3_readNumber cX3_readNumber 3 (some .boolean)) 2 41 0 0 ([] ++ pl0) [.ref h0, .int 0, .int p2] (tt_O (fun rx pl1 r => rx = [] ∧ tt_ok tt_tk cA Kd pl1 ∧ tt_fr Kd [(10, 3), (10, 4), (10, 5), (10, 6), (17, 2)] pl0 pl1 ∧ tt_fa Kd [] pl0 pl1 ∧ ((r = some (.int 0)) ∨ ((0 : Int) ≤ p2.toInt ∧ p2.toInt ≤ 2147483647 ∧ r = some (.int 1))))) (tt_OX (fun _ _ _ => False)) := by
  refine jj_start hl (by decide) jw_ad178c7ce3 (jj_le rfl) ?_
  intro p e s m args below meth c A hargs hA C hex hmn
  have hfr := tt_fr.refl (K := Kd) (WS := [(10, 3), (10, 4), (10, 5), (10, 6), (17, 2)]) pl0
  have hfa := tt_fa.refl (K := Kd) (WA := []) pl0
  have lp2 := tt_lo p2
  have up2 := tt_hi p2
  refine jj_aload_n C dX3_readNumber_0 rfl ?_
  refine tt_get C hok jk_4 0 (by decide) jw_70cd29f103 (t := (2, 10, 0)) hk0 (by decide) rfl rfl dX3_readNumber_1 (fun v_1 hv_1 hf_2 => ?_)
  obtain ⟨a_3, rfl, ka_3⟩ := tt_vr hv_1
  obtain ⟨qc, gs, hqc⟩ := tt_recv (cx := []) hok ka_3 (by decide) rfl
  refine tt_callV (rest := []) C (tc_X9_advance_1 hl D cA ak a_3 ka_3 hok) [] [] rfl rfl (by decide) (by decide) (by decide) qc hqc rfl rfl jw_97c023d194 jw_37f6ee43e0 jw_46baf1fc7b jw_a9e7b602dc jw_0d4db63612 jn_X9_advance rfl (jj_le rfl) (jj_le rfl) (jj_le rfl) (jj_le rfl) (jj_le rfl) dX3_readNumber_4 rfl (fun _ _ _ hX => hX.elim) (fun rx pl_4 r O_7 => ?_)
  obtain ⟨rfl, hok_5, hr_6, hfa9, hR_9⟩ := O_7
  replace hf_2 := hr_6.at hk0 (by decide) (by decide) hf_2
  replace hfr := hfr.trans (hr_6.sub (by decide))
  replace hfa := hfa.trans (hfa9.sub (by decide))
  obtain rfl := hR_9
  refine jj_aload_n C dX3_readNumber_7 rfl ?_
  refine jj_aload_n C dX3_readNumber_8 rfl ?_
  refine tt_getF C hok_5 jk_4 0 (by decide) jw_70cd29f103 (t := (2, 10, 0)) hk0 (by decide) rfl rfl hf_2 dX3_readNumber_9 ?_
  refine tt_get C hok_5 jk_10 5 (by decide) jw_601d0e39ae (t := (0, (-2147483648), 2147483647)) ka_3 (by decide) rfl rfl dX3_readNumber_12 (fun v_12 hv_12 hf_13 => ?_)
  obtain ⟨x_14, rfl, lx_14, ux_14⟩ := tt_vi hv_12
  refine jj_iconst (v := 2) C dX3_readNumber_15 (by decide) ?_
  refine jj_icmp_ne (tgt := 23) C dX3_readNumber_16 (by decide) (fun c_15 => ?_) (fun c_15 => ?_)
  · have z_c_15 := jc_neq (a := (x_14).toInt) (b := (2)) c_15 rfl (by decide)
    refine jj_iconst (v := 0) C dX3_readNumber_23 (by decide) ?_
    refine jj_iconst (v := 1) C dX3_readNumber_24 (by decide) ?_
    obtain ⟨qc, gs, hqc⟩ := tt_recv (cx := []) hok_5 hk0 (by decide) rfl
    refine tt_callV (rest := []) C (tc_X3_accept_1 hl D cA ak h0 hk0 hok_5) [] [] rfl rfl (by decide) (by decide) (by decide) qc hqc rfl rfl jw_713f4d2af1 jw_b3e457240a jw_58c48ce796 jw_9d546d0b6f jw_0001e2e84f jn_X3_accept rfl (jj_le rfl) (jj_le rfl) (jj_le rfl) (jj_le rfl) (jj_le rfl) dX3_readNumber_25 rfl (fun _ _ _ hX => hX.elim) (fun rx pl_16 r O_19 => ?_)
    obtain ⟨rfl, hok_17, hr_18, hfa9, hR_21⟩ := O_19
    replace hf_2 := hr_18.at hk0 (by decide) (by decide) hf_2
    replace hf_13 := hr_18.at ka_3 (by decide) (by decide) hf_13
    replace hfr := hfr.trans (hr_18.sub (by decide))
    replace hfa := hfa.trans (hfa9.sub (by decide))
    obtain rfl := hR_21
    refine jj_if_eqT (tgt := 70) C dX3_readNumber_28 (by decide) (by decide) ?_
    refine jj_iconst (v := 0) C dX3_readNumber_70 (by decide) ?_
    exact jj_zret C rfl ⟨[], pl_16, rfl, rfl, hok_17, hfr, hfa, (Or.inl rfl)⟩ dX3_readNumber_71 (jj_le rfl) (jj_le rfl)
  · have z_c_15 := jc_eq (a := (x_14).toInt) (b := (2)) c_15 rfl (by decide)
    refine jj_iconst (v := 1) C dX3_readNumber_19 (by decide) ?_
    refine jj_goto (tgt := 24) C dX3_readNumber_20 (by decide) ?_
    refine jj_iconst (v := 1) C dX3_readNumber_24 (by decide) ?_
    obtain ⟨qc, gs, hqc⟩ := tt_recv (cx := []) hok_5 hk0 (by decide) rfl
    refine tt_callV (rest := []) C (tc_X3_accept_2 hl D cA ak h0 hk0 hok_5) [] [] rfl rfl (by decide) (by decide) (by decide) qc hqc rfl rfl jw_713f4d2af1 jw_b3e457240a jw_58c48ce796 jw_9d546d0b6f jw_0001e2e84f jn_X3_accept rfl (jj_le rfl) (jj_le rfl) (jj_le rfl) (jj_le rfl) (jj_le rfl) dX3_readNumber_25 rfl (fun _ _ _ hX => hX.elim) (fun rx pl_24 r O_27 => ?_)
    obtain ⟨rfl, hok_25, hr_26, hfa9, hR_29⟩ := O_27
    replace hf_2 := hr_26.at hk0 (by decide) (by decide) hf_2
    replace hf_13 := hr_26.at ka_3 (by decide) (by decide) hf_13
    replace hfr := hfr.trans (hr_26.sub (by decide))
    replace hfa := hfa.trans (hfa9.sub (by decide))
    obtain rfl := hR_29
    refine jj_if_eqF (tgt := 70) C dX3_readNumber_28 (by decide) (by decide) ?_
    refine jj_aload_n C dX3_readNumber_31 rfl ?_
    refine jj_aload_n C dX3_readNumber_32 rfl ?_
    refine tt_getF C hok_25 jk_4 0 (by decide) jw_70cd29f103 (t := (2, 10, 0)) hk0 (by decide) rfl rfl hf_2 dX3_readNumber_33 ?_
    refine tt_get C hok_25 jk_10 6 (by decide) jw_c96d139a1d (t := (0, (-2147483648), 2147483647)) ka_3 (by decide) rfl rfl dX3_readNumber_36 (fun v_32 hv_32 hf_33 => ?_)
    obtain ⟨x_34, rfl, lx_34, ux_34⟩ := tt_vi hv_32
    refine jj_iload_n C dX3_readNumber_39 rfl ?_
    refine jj_icmp_lt (tgt := 58) C dX3_readNumber_40 (by decide) (fun c_35 => ?_) (fun c_35 => ?_)
    · have z_c_35 := jc_lt (a := (x_34).toInt) (b := (0)) c_35 rfl (by decide)
      refine jj_iconst (v := 0) C dX3_readNumber_58 (by decide) ?_
      refine jj_iconst (v := 2) C dX3_readNumber_59 (by decide) ?_
      obtain ⟨qc, gs, hqc⟩ := tt_recv (cx := []) hok_25 hk0 (by decide) rfl
      refine tt_callV (rest := []) C (tc_X3_accept_3 hl D cA ak h0 hk0 hok_25) [] [] rfl rfl (by decide) (by decide) (by decide) qc hqc rfl rfl jw_713f4d2af1 jw_b3e457240a jw_58c48ce796 jw_9d546d0b6f jw_0001e2e84f jn_X3_accept rfl (jj_le rfl) (jj_le rfl) (jj_le rfl) (jj_le rfl) (jj_le rfl) dX3_readNumber_60 rfl (fun _ _ _ hX => hX.elim) (fun rx pl_36 r O_39 => ?_)
      obtain ⟨rfl, hok_37, hr_38, hfa9, hR_41⟩ := O_39
      replace hf_2 := hr_38.at hk0 (by decide) (by decide) hf_2
      replace hf_13 := hr_38.at ka_3 (by decide) (by decide) hf_13
      replace hf_33 := hr_38.at ka_3 (by decide) (by decide) hf_33
      replace hfr := hfr.trans (hr_38.sub (by decide))
      replace hfa := hfa.trans (hfa9.sub (by decide))
      obtain rfl := hR_41
      refine jj_if_eqT (tgt := 70) C dX3_readNumber_63 (by decide) (by decide) ?_
      refine jj_iconst (v := 0) C dX3_readNumber_70 (by decide) ?_
      exact jj_zret C rfl ⟨[], pl_36, rfl, rfl, hok_37, hfr, hfa, (Or.inl rfl)⟩ dX3_readNumber_71 (jj_le rfl) (jj_le rfl)
    · have z_c_35 := jc_nlt (a := (x_34).toInt) (b := (0)) c_35 rfl (by decide)
      refine jj_aload_n C dX3_readNumber_43 rfl ?_
      refine tt_getF C hok_25 jk_4 0 (by decide) jw_70cd29f103 (t := (2, 10, 0)) hk0 (by decide) rfl rfl hf_2 dX3_readNumber_44 ?_
      refine tt_getF C hok_25 jk_10 6 (by decide) jw_c96d139a1d (t := (0, (-2147483648), 2147483647)) ka_3 (by decide) rfl rfl hf_33 dX3_readNumber_47 ?_
      refine jj_iload_n C dX3_readNumber_50 rfl ?_
      refine jj_icmp_gt (tgt := 58) C dX3_readNumber_51 (by decide) (fun c_44 => ?_) (fun c_44 => ?_)
      · have z_c_44 := jc_lt (a := (p2).toInt) (b := (x_34).toInt) c_44 rfl rfl
        refine jj_iconst (v := 0) C dX3_readNumber_58 (by decide) ?_
        refine jj_iconst (v := 2) C dX3_readNumber_59 (by decide) ?_
        obtain ⟨qc, gs, hqc⟩ := tt_recv (cx := []) hok_25 hk0 (by decide) rfl
        refine tt_callV (rest := []) C (tc_X3_accept_3 hl D cA ak h0 hk0 hok_25) [] [] rfl rfl (by decide) (by decide) (by decide) qc hqc rfl rfl jw_713f4d2af1 jw_b3e457240a jw_58c48ce796 jw_9d546d0b6f jw_0001e2e84f jn_X3_accept rfl (jj_le rfl) (jj_le rfl) (jj_le rfl) (jj_le rfl) (jj_le rfl) dX3_readNumber_60 rfl (fun _ _ _ hX => hX.elim) (fun rx pl_45 r O_48 => ?_)
        obtain ⟨rfl, hok_46, hr_47, hfa9, hR_50⟩ := O_48
        replace hf_2 := hr_47.at hk0 (by decide) (by decide) hf_2
        replace hf_13 := hr_47.at ka_3 (by decide) (by decide) hf_13
        replace hf_33 := hr_47.at ka_3 (by decide) (by decide) hf_33
        replace hfr := hfr.trans (hr_47.sub (by decide))
        replace hfa := hfa.trans (hfa9.sub (by decide))
        obtain rfl := hR_50
        refine jj_if_eqT (tgt := 70) C dX3_readNumber_63 (by decide) (by decide) ?_
        refine jj_iconst (v := 0) C dX3_readNumber_70 (by decide) ?_
        exact jj_zret C rfl ⟨[], pl_45, rfl, rfl, hok_46, hfr, hfa, (Or.inl rfl)⟩ dX3_readNumber_71 (jj_le rfl) (jj_le rfl)
      · have z_c_44 := jc_nlt (a := (p2).toInt) (b := (x_34).toInt) c_44 rfl rfl
        refine jj_iconst (v := 1) C dX3_readNumber_54 (by decide) ?_
        refine jj_goto (tgt := 59) C dX3_readNumber_55 (by decide) ?_
        refine jj_iconst (v := 2) C dX3_readNumber_59 (by decide) ?_
        obtain ⟨qc, gs, hqc⟩ := tt_recv (cx := []) hok_25 hk0 (by decide) rfl
        refine tt_callV (rest := []) C (tc_X3_accept_4 hl D cA ak h0 hk0 hok_25) [] [] rfl rfl (by decide) (by decide) (by decide) qc hqc rfl rfl jw_713f4d2af1 jw_b3e457240a jw_58c48ce796 jw_9d546d0b6f jw_0001e2e84f jn_X3_accept rfl (jj_le rfl) (jj_le rfl) (jj_le rfl) (jj_le rfl) (jj_le rfl) dX3_readNumber_60 rfl (fun _ _ _ hX => hX.elim) (fun rx pl_53 r O_56 => ?_)
        obtain ⟨rfl, hok_54, hr_55, hfa9, hR_58⟩ := O_56
        replace hf_2 := hr_55.at hk0 (by decide) (by decide) hf_2
        replace hf_13 := hr_55.at ka_3 (by decide) (by decide) hf_13
        replace hf_33 := hr_55.at ka_3 (by decide) (by decide) hf_33
        replace hfr := hfr.trans (hr_55.sub (by decide))
        replace hfa := hfa.trans (hfa9.sub (by decide))
        obtain rfl := hR_58
        refine jj_if_eqF (tgt := 70) C dX3_readNumber_63 (by decide) (by decide) ?_
        refine jj_iconst (v := 1) C dX3_readNumber_66 (by decide) ?_
        refine jj_goto (tgt := 71) C dX3_readNumber_67 (by decide) ?_
        exact jj_zret C rfl ⟨[], pl_53, rfl, rfl, hok_54, hfr, hfa, (Or.inr ⟨(by first | omega | exact tt_lo _ | exact tt_hi _), (by first | omega | exact tt_lo _ | exact tt_hi _), rfl⟩)⟩ dX3_readNumber_71 (jj_le rfl) (jj_le rfl)

