theorem jw_e086273944 : Cond.methodLink RX11 173 yX11_requested ∈ jj_G := jj_t7 (List.mem_of_getElem? (i := 26) (by decide +kernel)) rfl
theorem jw_c5ca42d231 : Cond.instanceMethod yX11_requested ∈ jj_G := jj_t7 (List.mem_of_getElem? (i := 28) (by decide +kernel)) rfl
theorem jw_3f94af15e0 : Cond.selects RX11 yX11_requested yX11_requested ∈ jj_G := jj_pv (q := (yX11_requested, 25)) (by decide +kernel)
theorem jn_X11_requested : jj_N yX11_requested 0 := by unfold jj_N; decide +kernel
theorem jw_e423d91bed : Cond.methodLink RX11 176 yX11_limit ∈ jj_G := jj_t7 (List.mem_of_getElem? (i := 100) (by decide +kernel)) rfl
theorem jw_fbd39cd6b2 : Cond.instanceMethod yX11_limit ∈ jj_G := jj_t7 (List.mem_of_getElem? (i := 102) (by decide +kernel)) rfl
theorem jw_2e025a1da9 : Cond.selects RX11 yX11_limit yX11_limit ∈ jj_G := jj_pv (q := (yX11_limit, 25)) (by decide +kernel)
theorem jn_X11_limit : jj_N yX11_limit 0 := by unfold jj_N; decide +kernel
theorem jw_72d4a0d46a : Cond.fieldLink RX11 28 "SeriesFundModel" "took" "[J" ∈ jj_G := jj_t6 (List.mem_of_getElem? (i := 164) (by decide +kernel)) rfl
theorem jw_dca952cae2 : Cond.fieldLink RX11 31 "SeriesFundModel" "isDone" "[Z" ∈ jj_G := jj_t6 (List.mem_of_getElem? (i := 165) (by decide +kernel)) rfl
theorem jw_0bfdd14151 : Cond.code yX11_redeemAll cX11_redeemAll 11 none ∈ jj_G := jj_t7 (List.mem_of_getElem? (i := 25) (by decide +kernel)) rfl

set_option maxHeartbeats 4000000 in
set_option maxRecDepth 100000 in
theorem rs_redeemAll {l : Launch} (hl : l.stackTraces = false) (D : va_G) (cA : Nat → ClassId) (ak : (Nat → Nat) × (Nat → Nat)) {Kd : Nat → Nat} {h0 aw aa at0 ai af ap : Nat} (ad : Nat) (fd : Nat → Int32) (B : Int) (f : Nat → Int64) (hk0 : Kd h0 = 1) (hkw : Kd aw = 2) (hka : Kd aa = 3) (hkt : Kd at0 = 4) (hki : Kd ai = 5) (hkf : Kd af = 6) (hkp : Kd ap = 7) (hkd : Kd ad = 9) (hI : rl_I B f) (hP : rl_P f) (hB : B ≤ 43920000000) {pl0 : va_W} (hok : tt_ok rt_tk cA Kd pl0) (hm : rl_m pl0 h0 aw aa at0 ai af ap) (hC : tt_lc pl0 aw f) (hd : tt_at pl0 h0 11 (.ref ad)) (hdc : tt_ic pl0 ad fd) : jj_M l D cA ak yX11_redeemAll (.code yX11_redeemAll cX11_redeemAll 11 none) 7 176 0 0 ([] ++ pl0) [.ref h0] (tt_O (fun rx pl1 r => rx = [] ∧ tt_ok rt_tk cA Kd pl1 ∧ tt_fr Kd [(1, 8), (1, 9)] pl0 pl1 ∧ tt_fa Kd [2, 5, 8, 9] pl0 pl1 ∧ ((∃ (g : Nat → Int64) (gd : Nat → Int32), tt_lc pl1 aw g ∧ tt_at pl1 h0 11 (.ref ad) ∧ tt_ic pl1 ad gd ∧ rl_R B f g ∧ rl_dn f gd (rnR f) ∧ r = none)))) (tt_OX (fun _ _ _ => False)) := by
  refine jj_start hl (by decide) jw_0bfdd14151 (jj_le rfl) ?_
  intro p e s m args below meth c A hargs hA C hex hmn
  have hfr := tt_fr.refl (K := Kd) (WS := [(1, 8), (1, 9)]) pl0
  have hfa := tt_fa.refl (K := Kd) (WA := [2, 5, 8, 9]) pl0
  have hH := hI.1.1
  obtain ⟨⟨g0a, g0b⟩, ⟨g1a, g1b⟩, ⟨g6a, g6b⟩, ⟨g7a, g7b⟩, ⟨g8a, g8b⟩⟩ := hH
  refine jj_aload_n C dX11_redeemAll_0 rfl ?_
  obtain ⟨qc, gs, hqc⟩ := tt_recv (cx := []) hok hk0 (by decide) rfl
  refine tt_callV (rest := []) C (rs_requested hl D cA ak B f hk0 hkw hka hkt hki hkf hkp hI hP hB hok hm hC) [] [] rfl rfl (by decide) (by decide) (by decide) qc hqc rfl rfl jw_e086273944 jw_c5ca42d231 jw_3f94af15e0 jw_f96c99f44d jw_a76c2ff852 jn_X11_requested rfl (jj_le rfl) (jj_le rfl) (jj_le rfl) (jj_le rfl) (jj_le rfl) dX11_redeemAll_1 rfl (fun _ _ _ hX => hX.elim) (fun rx pl_1 r O_5 => ?_)
  obtain ⟨rfl, hok_2, hr_3, ha_4, hR_6⟩ := O_5
  replace hd := hr_3.at hk0 (by decide) (by decide) hd
  replace hdc := ha_4.at hkd (by decide) (by decide) hdc
  replace hm := hm.fr hr_3 hk0 rfl
  replace hfr := hfr.trans (hr_3.sub (by decide))
  replace hfa := hfa.trans (ha_4.sub (by decide))
  obtain ⟨g_7, hC_8, he_9, y_10, rfl⟩ := hR_6
  obtain ⟨⟨g0ag_7, g0bg_7⟩, ⟨g1ag_7, g1bg_7⟩, ⟨g6ag_7, g6bg_7⟩, ⟨g7ag_7, g7bg_7⟩, ⟨g8ag_7, g8bg_7⟩⟩ := (rl_I.cong hI he_9).1.1.1
  refine jj_lstore_n C dX11_redeemAll_4 (by decide) rfl ?_
  refine jj_aload_n C dX11_redeemAll_5 rfl ?_
  obtain ⟨qc, gs, hqc⟩ := tt_recv (cx := []) hok_2 hk0 (by decide) rfl
  refine tt_callV (rest := []) C (rs_limit hl D cA ak B g_7 hk0 hkw hka hkt hki hkf hkp (rl_I.cong hI he_9).1 hB hok_2 hm hC_8) [] [] rfl rfl (by decide) (by decide) (by decide) qc hqc rfl rfl jw_e423d91bed jw_fbd39cd6b2 jw_2e025a1da9 jw_f96c99f44d jw_a61f223924 jn_X11_limit rfl (jj_le rfl) (jj_le rfl) (jj_le rfl) (jj_le rfl) (jj_le rfl) dX11_redeemAll_6 rfl (fun _ _ _ hX => hX.elim) (fun rx pl_11 r O_15 => ?_)
  obtain ⟨rfl, hok_12, hr_13, ha_14, hR_16⟩ := O_15
  replace hd := hr_13.at hk0 (by decide) (by decide) hd
  replace hC_8 := ha_14.at hkw (by decide) (by decide) hC_8
  replace hdc := ha_14.at hkd (by decide) (by decide) hdc
  replace hm := hm.fr hr_13 hk0 rfl
  replace hfr := hfr.trans (hr_13.sub (by decide))
  replace hfa := hfa.trans (ha_14.sub (by decide))
  obtain ⟨y_17, ly_17, uy_17, rfl⟩ := hR_16
  refine jj_lstore_n C dX11_redeemAll_9 (by decide) rfl ?_
  refine jj_iconst (v := 0) C dX11_redeemAll_10 (by decide) ?_
  refine jj_istore C dX11_redeemAll_11 (by decide) rfl ?_
  have hL_18 : ∀ (N : Nat) (pl : va_W) (k_19 : Nat) (fd_20 : Nat → Int32) (g_21 : Nat → Int64), True → tt_ok rt_tk cA Kd pl → tt_fr Kd [(1, 8), (1, 9)] pl0 pl → tt_fa Kd [2, 5, 8, 9] pl0 pl → rl_m pl h0 aw aa at0 ai af ap → tt_at pl h0 11 (.ref ad) → tt_ic pl ad fd_20 → rl_dn f fd_20 k_19 → tt_lc pl aw g_21 → rl_R B f g_21 → (0 : Int) ≤ (k_19 : Int) → (k_19 : Int) ≤ 12 → (2147483648 - (k_19 : Int) ≤ (N : Int)) → jj_J p l e (jj_rm 7 176 0 0) s m args below meth c 11 A (vx_MQ below (jj_q D A (tt_O (fun rx pl1 r => rx = [] ∧ tt_ok rt_tk cA Kd pl1 ∧ tt_fr Kd [(1, 8), (1, 9)] pl0 pl1 ∧ tt_fa Kd [2, 5, 8, 9] pl0 pl1 ∧ ((∃ (g : Nat → Int64) (gd : Nat → Int32), tt_lc pl1 aw g ∧ tt_at pl1 h0 11 (.ref ad) ∧ tt_ic pl1 ad gd ∧ rl_R B f g ∧ rl_dn f gd (rnR f) ∧ r = none))))) (jj_x D A (tt_OX (fun _ _ _ => False))) args s 0 0 A) (jj_X D A ([] ++ pl)) 0 0 13 [(5, .int (nI k_19)), (3, .long y_17), (1, .long y_10), (0, .ref h0)] [] := by
    intro NL_18
    induction NL_18 with
    | zero => intro pl k_19 fd_20 g_21 _ hok hfr hfa hm hf_22 hG_23 hE_24 hC_25 hD_26 lk_19 uk_19 hNL_18; exfalso; omega
    | succ NL_18 ihL_18 =>
      intro pl k_19 fd_20 g_21 _ hok hfr hfa hm hf_22 hG_23 hE_24 hC_25 hD_26 lk_19 uk_19 hNL_18
      replace ihL_18 := fun pl k_19 fd_20 g_21 h1 => ihL_18 pl k_19 fd_20 g_21 trivial h1
      obtain ⟨⟨g0ag_21, g0bg_21⟩, ⟨g1ag_21, g1bg_21⟩, ⟨g6ag_21, g6bg_21⟩, ⟨g7ag_21, g7bg_21⟩, ⟨g8ag_21, g8bg_21⟩⟩ := (hD_26.1).1.1
      refine jj_iload C dX11_redeemAll_13 rfl ?_
      refine jj_i2l C dX11_redeemAll_15 rfl ?_
      refine jj_aload_n C dX11_redeemAll_16 rfl ?_
      refine tt_getF C hok jk_12 0 (by decide) jw_34eaf3ba8b (t := (2, 2, 0)) hk0 (by decide) rfl rfl hm.1 dX11_redeemAll_17 ?_
      refine jj_bipush (v := 8) C dX11_redeemAll_20 (by decide) ?_
      refine rl_lald C hok (t := (1, (-9223372036854775808), 9223372036854775807)) hkw (by decide) rfl (k := 8) (v := (g_21 8)) (vp_in_iff.mpr (by decide)) hC_25 (by decide) rfl dX11_redeemAll_22 ?_
      refine jj_lcmp_ge (tgt := 170) C dX11_redeemAll_23 dX11_redeemAll_24 (by decide) (fun c_27 => ?_) (fun c_27 => ?_)
      · have z_c_27 := jc_leL (a := (g_21 8).toInt) (b := ((k_19 : Nat) : Int)) c_27 rfl (rl_tl (by omega))
        exact jj_vret C ⟨[], pl, rfl, rfl, hok, hfr, hfa, ⟨g_21, fd_20, hC_25, hf_22, hG_23, hD_26, (fun a ha => hE_24 a (by have z8 := congrArg Int64.toInt (hD_26.2.2.2.1 8 (by decide) (by decide) (by decide)); unfold rnR at ha; omega)), rfl⟩⟩ dX11_redeemAll_170 (jj_le rfl) (jj_le rfl)
      · have z_c_27 := jc_nleL (a := (g_21 8).toInt) (b := ((k_19 : Nat) : Int)) c_27 rfl (rl_tl (by omega))
        refine jj_aload_n C dX11_redeemAll_27 rfl ?_
        refine tt_get C hok jk_12 10 (by decide) jw_72d4a0d46a (t := (2, 8, 0)) hk0 (by decide) rfl rfl dX11_redeemAll_28 (fun v_28 hv_28 hf_29 => ?_)
        obtain ⟨a_30, rfl, ka_30⟩ := tt_vr hv_28
        refine jj_iload C dX11_redeemAll_31 rfl ?_
        refine jj_lconst (v := 0) C dX11_redeemAll_33 (by decide) ?_
        refine rl_last C hok (t := (1, (-9223372036854775808), 9223372036854775807)) ka_30 (by decide) rfl (k := k_19) (vp_in_nI (by omega) (by decide)) (tt_ja _) (nI_clamp (by omega)) dX11_redeemAll_34 (fun pl_31 hok_32 tr tl tw => ?_)
        replace hf_22 := tr _ _ _ hf_22
        replace hf_29 := tr _ _ _ hf_29
        replace hm := hm.arr tr
        replace hfr := hfr.arr tr
        replace hC_25 := tl _ _ (tt_ne hkw ka_30 (by decide)) hC_25
        replace hG_23 := tl _ _ (tt_ne hkd ka_30 (by decide)) hG_23
        replace hfa := hfa.wr ka_30 tl (by decide)
        refine jj_aload_n C dX11_redeemAll_35 rfl ?_
        refine tt_getF C hok_32 jk_12 11 (by decide) jw_dca952cae2 (t := (2, 9, 0)) hk0 (by decide) rfl rfl hf_22 dX11_redeemAll_36 ?_
        refine jj_iload C dX11_redeemAll_39 rfl ?_
        refine jj_iconst (v := 0) C dX11_redeemAll_41 (by decide) ?_
        refine rl_zast C hok_32 (t := (0, (-2147483648), 2147483647)) hkd (by decide) rfl (vp_in_nI (by omega) (by decide)) (tt_ia _) dX11_redeemAll_42 (fun pl_33 hok_34 tr tl tw => ?_)
        replace hf_22 := tr _ _ _ hf_22
        replace hf_29 := tr _ _ _ hf_29
        replace hm := hm.arr tr
        replace hfr := hfr.arr tr
        replace hC_25 := tl _ _ (tt_ne hkw hkd (by decide)) hC_25
        replace hG_23 := tw _ hG_23
        replace hfa := hfa.wr hkd tl (by decide)
        refine jj_aload_n C dX11_redeemAll_43 rfl ?_
        refine jj_iload C dX11_redeemAll_44 rfl ?_
        obtain ⟨qc, gs, hqc⟩ := tt_recv (cx := []) hok_34 hk0 (by decide) rfl
        refine tt_callV (rest := []) C (rs_isRedemption hl D cA ak k_19 g_21 hk0 hkw hka hkt hki hkf hkp (by omega) hok_34 hm hC_25) [] [] rfl rfl (by decide) (by decide) (by decide) qc hqc rfl rfl jw_4afadc9e32 jw_d8b192ed60 jw_21f07d63b9 jw_f96c99f44d jw_978e8f4c07 jn_X11_isRedemption rfl (jj_le rfl) (jj_le rfl) (jj_le rfl) (jj_le rfl) (jj_le rfl) dX11_redeemAll_46 rfl (fun _ _ _ hX => hX.elim) (fun rx pl_35 r O_39 => ?_)
        obtain ⟨rfl, hok_36, hr_37, ha_38, hR_40⟩ := O_39
        replace hf_22 := hr_37.at hk0 (by decide) (by decide) hf_22
        replace hf_29 := hr_37.at hk0 (by decide) (by decide) hf_29
        replace hC_25 := ha_38.at hkw (by decide) (by decide) hC_25
        replace hG_23 := ha_38.at hkd (by decide) (by decide) hG_23
        replace hm := hm.fr hr_37 hk0 rfl
        replace hfr := hfr.trans (hr_37.sub (by decide))
        replace hfa := hfa.trans (ha_38.sub (by decide))
        rcases hR_40 with ⟨c_41, rfl⟩ | ⟨c_42, rfl⟩
        · refine jj_if_neF (tgt := 55) C dX11_redeemAll_49 (by decide) (by decide) ?_
          refine jj_goto (tgt := 164) C dX11_redeemAll_52 (by decide) ?_
          refine jj_iinc (v := nI (1 + k_19)) C dX11_redeemAll_164 rfl (rl_addR (kn := 1) (by decide) (by omega)) (by decide) rfl ?_
          refine jj_goto (tgt := 13) C dX11_redeemAll_167 (by decide) ?_
          exact ihL_18 pl_35 (1 + k_19) (upd fd_20 (nI k_19).toNatClampNeg (vp_nar .boolean (0 : Int32))) g_21 hok_36 hfr hfa hm hf_22 hG_23 (hE_24.skip (by omega)) hC_25 hD_26 (by first | omega | decide | exact tt_lo _ | exact tt_hi _) (by first | omega | decide | exact tt_lo _ | exact tt_hi _) (by first | omega | decide | exact tt_lo _ | exact tt_hi _)
        · refine jj_if_neT (tgt := 55) C dX11_redeemAll_49 (by decide) (by decide) ?_
          refine jj_aload_n C dX11_redeemAll_55 rfl ?_
          refine tt_getF C hok_36 jk_12 0 (by decide) jw_34eaf3ba8b (t := (2, 2, 0)) hk0 (by decide) rfl rfl hm.1 dX11_redeemAll_56 ?_
          refine jj_iload C dX11_redeemAll_59 rfl ?_
          refine tt_call0S (rest := [.ref aw]) C (rn_requestAt hl D cA ak k_19 (286 + 4 * k_19) (by omega)) jw_b399766b1e jw_c583cc9526 jw_f96c99f44d jw_595411e0f2 jn_X11_requestAt rfl (jj_le rfl) (jj_le rfl) (jj_le rfl) (jj_le rfl) (jj_le rfl) dX11_redeemAll_61 rfl (fun w1 r hO => ?_)
          obtain ⟨-, rfl⟩ := hO
          refine jj_iconst (v := 0) C dX11_redeemAll_64 (by decide) ?_
          refine jj_iadd (v := nI (286 + 4 * k_19)) C dX11_redeemAll_65 (rl_addR (kn := 0) (by decide) (by omega)) ?_
          refine rl_lald C hok_36 (t := (1, (-9223372036854775808), 9223372036854775807)) hkw (by decide) rfl (k := 286 + 4 * k_19) (v := (g_21 (286 + 4 * k_19))) (vp_in_nI (by omega) (by decide)) hC_25 (nI_clamp (by omega)) rfl dX11_redeemAll_66 ?_
          obtain ⟨x_43, ex_43⟩ : ∃ z : Int32, (g_21 (286 + 4 * k_19)).toInt32 = z := ⟨_, rfl⟩
          refine jj_l2i (v := x_43) C dX11_redeemAll_67 ex_43 ?_
          refine jj_istore C dX11_redeemAll_68 (by decide) rfl ?_
          refine jj_aload_n C dX11_redeemAll_70 rfl ?_
          refine tt_getF C hok_36 jk_12 0 (by decide) jw_34eaf3ba8b (t := (2, 2, 0)) hk0 (by decide) rfl rfl hm.1 dX11_redeemAll_71 ?_
          refine jj_iload C dX11_redeemAll_74 rfl ?_
          refine tt_call0S (rest := [.ref aw]) C (rn_requestAt hl D cA ak k_19 (286 + 4 * k_19) (by omega)) jw_b399766b1e jw_c583cc9526 jw_f96c99f44d jw_595411e0f2 jn_X11_requestAt rfl (jj_le rfl) (jj_le rfl) (jj_le rfl) (jj_le rfl) (jj_le rfl) dX11_redeemAll_76 rfl (fun w1 r hO => ?_)
          obtain ⟨-, rfl⟩ := hO
          refine jj_iconst (v := 2) C dX11_redeemAll_79 (by decide) ?_
          refine jj_iadd (v := nI (288 + 4 * k_19)) C dX11_redeemAll_80 (rl_addR (kn := 2) (by decide) (by omega)) ?_
          refine rl_lald C hok_36 (t := (1, (-9223372036854775808), 9223372036854775807)) hkw (by decide) rfl (k := 288 + 4 * k_19) (v := (g_21 (288 + 4 * k_19))) (vp_in_nI (by omega) (by decide)) hC_25 (nI_clamp (by omega)) rfl dX11_redeemAll_81 ?_
          refine jj_lstore C dX11_redeemAll_82 (by decide) rfl ?_
          refine jj_lload_n C dX11_redeemAll_84 rfl ?_
          refine jj_lload_n C dX11_redeemAll_85 rfl ?_
          refine jj_lcmp_gt (tgt := 95) C dX11_redeemAll_86 dX11_redeemAll_87 (by decide) (fun c_44 => ?_) (fun c_44 => ?_)
          · have z_c_44 := jc_ltL (a := y_17.toInt) (b := y_10.toInt) c_44 rfl rfl
            refine jj_lload C dX11_redeemAll_95 rfl ?_
            refine jj_lload_n C dX11_redeemAll_97 rfl ?_
            refine jj_lmul C dX11_redeemAll_98 rfl ?_
            refine jj_lload_n C dX11_redeemAll_99 rfl ?_
            refine jj_ldiv C dX11_redeemAll_100 (rl_nz (by omega)) rfl ?_
            refine jj_lstore C dX11_redeemAll_101 (by decide) rfl ?_
            refine jj_aload_n C dX11_redeemAll_103 rfl ?_
            refine tt_getF C hok_36 jk_12 10 (by decide) jw_72d4a0d46a (t := (2, 8, 0)) hk0 (by decide) rfl rfl hf_29 dX11_redeemAll_104 ?_
            refine jj_iload C dX11_redeemAll_107 rfl ?_
            refine jj_aload_n C dX11_redeemAll_109 rfl ?_
            refine jj_iload C dX11_redeemAll_110 rfl ?_
            refine jj_lload C dX11_redeemAll_112 rfl ?_
            obtain ⟨qc, gs, hqc⟩ := tt_recv (cx := []) hok_36 hk0 (by decide) rfl
            refine tt_callV (rest := [.int (nI k_19), .ref a_30]) C (rs_redeemFrom hl D cA ak x_43 (((g_21 (288 + 4 * k_19)) * y_17) / y_10) B g_21 hk0 hkw hka hkt hki hkf hkp hD_26.1 hD_26.2.1 hB hok_36 hm hC_25) [] [] rfl rfl (by decide) (by decide) (by decide) qc hqc rfl rfl jw_8c39bb3d55 jw_a7da65cb62 jw_0e8f38a851 jw_f96c99f44d jw_6c32f71905 jn_X11_redeemFrom rfl (jj_le rfl) (jj_le rfl) (jj_le rfl) (jj_le rfl) (jj_le rfl) dX11_redeemAll_114 rfl (fun _ _ _ hX => hX.elim) (fun rx pl_45 r O_49 => ?_)
            obtain ⟨rfl, hok_46, hr_47, ha_48, hR_50⟩ := O_49
            replace hf_22 := hr_47.at hk0 (by decide) (by decide) hf_22
            replace hf_29 := hr_47.at hk0 (by decide) (by decide) hf_29
            replace hG_23 := ha_48.at hkd (by decide) (by decide) hG_23
            replace hm := hm.fr hr_47 hk0 rfl
            replace hfr := hfr.trans (hr_47.sub (by decide))
            replace hfa := hfa.trans (ha_48.sub (by decide))
            obtain ⟨g_51, hC_52, hI_53, hq_54, hq_55, hq_56, y_57, rfl⟩ := hR_50
            obtain ⟨⟨g0ag_51, g0bg_51⟩, ⟨g1ag_51, g1bg_51⟩, ⟨g6ag_51, g6bg_51⟩, ⟨g7ag_51, g7bg_51⟩, ⟨g8ag_51, g8bg_51⟩⟩ := hI_53.1.1
            refine rl_last C hok_46 (t := (1, (-9223372036854775808), 9223372036854775807)) ka_30 (by decide) rfl (k := k_19) (vp_in_nI (by omega) (by decide)) (tt_ja _) (nI_clamp (by omega)) dX11_redeemAll_117 (fun pl_58 hok_59 tr tl tw => ?_)
            replace hf_22 := tr _ _ _ hf_22
            replace hf_29 := tr _ _ _ hf_29
            replace hm := hm.arr tr
            replace hfr := hfr.arr tr
            replace hC_52 := tl _ _ (tt_ne hkw ka_30 (by decide)) hC_52
            replace hG_23 := tl _ _ (tt_ne hkd ka_30 (by decide)) hG_23
            replace hfa := hfa.wr ka_30 tl (by decide)
            refine jj_aload_n C dX11_redeemAll_118 rfl ?_
            refine tt_getF C hok_59 jk_12 11 (by decide) jw_dca952cae2 (t := (2, 9, 0)) hk0 (by decide) rfl rfl hf_22 dX11_redeemAll_119 ?_
            refine jj_iload C dX11_redeemAll_122 rfl ?_
            refine jj_lload_n C dX11_redeemAll_124 rfl ?_
            refine jj_lload_n C dX11_redeemAll_125 rfl ?_
            refine jj_lcmp_le (tgt := 141) C dX11_redeemAll_126 dX11_redeemAll_127 (by decide) (fun c_60 => ?_) (fun c_60 => ?_)
            · have z_c_60 := jc_leL (a := y_10.toInt) (b := y_17.toInt) c_60 rfl rfl
              refine jj_iconst (v := 1) C dX11_redeemAll_141 (by decide) ?_
              refine jj_goto (tgt := 146) C dX11_redeemAll_142 (by decide) ?_
              refine rl_zast C hok_59 (t := (0, (-2147483648), 2147483647)) hkd (by decide) rfl (vp_in_nI (by omega) (by decide)) (tt_ia _) dX11_redeemAll_146 (fun pl_61 hok_62 tr tl tw => ?_)
              replace hf_22 := tr _ _ _ hf_22
              replace hf_29 := tr _ _ _ hf_29
              replace hm := hm.arr tr
              replace hfr := hfr.arr tr
              replace hC_52 := tl _ _ (tt_ne hkw hkd (by decide)) hC_52
              replace hG_23 := tw _ hG_23
              replace hfa := hfa.wr hkd tl (by decide)
              refine jj_aload_n C dX11_redeemAll_147 rfl ?_
              refine tt_getF C hok_62 jk_12 0 (by decide) jw_34eaf3ba8b (t := (2, 2, 0)) hk0 (by decide) rfl rfl hm.1 dX11_redeemAll_148 ?_
              refine jj_iload C dX11_redeemAll_151 rfl ?_
              refine tt_call0S (rest := [.ref aw]) C (rn_requestAt hl D cA ak k_19 (286 + 4 * k_19) (by omega)) jw_b399766b1e jw_c583cc9526 jw_f96c99f44d jw_595411e0f2 jn_X11_requestAt rfl (jj_le rfl) (jj_le rfl) (jj_le rfl) (jj_le rfl) (jj_le rfl) dX11_redeemAll_153 rfl (fun w1 r hO => ?_)
              obtain ⟨-, rfl⟩ := hO
              refine jj_iconst (v := 2) C dX11_redeemAll_156 (by decide) ?_
              refine jj_iadd (v := nI (288 + 4 * k_19)) C dX11_redeemAll_157 (rl_addR (kn := 2) (by decide) (by omega)) ?_
              refine jj_lload C dX11_redeemAll_158 rfl ?_
              refine jj_lload C dX11_redeemAll_160 rfl ?_
              refine jj_lsub C dX11_redeemAll_162 rfl ?_
              refine rl_last C hok_62 (t := (1, (-9223372036854775808), 9223372036854775807)) hkw (by decide) rfl (k := 288 + 4 * k_19) (vp_in_nI (by omega) (by decide)) (tt_ja _) (nI_clamp (by omega)) dX11_redeemAll_163 (fun pl_63 hok_64 tr tl tw => ?_)
              replace hf_22 := tr _ _ _ hf_22
              replace hf_29 := tr _ _ _ hf_29
              replace hm := hm.arr tr
              replace hfr := hfr.arr tr
              replace hC_52 := tw _ hC_52
              replace hG_23 := tl _ _ (tt_ne hkd hkw (by decide)) hG_23
              replace hfa := hfa.wr hkw tl (by decide)
              refine jj_iinc (v := nI (1 + k_19)) C dX11_redeemAll_164 rfl (rl_addR (kn := 1) (by decide) (by omega)) (by decide) rfl ?_
              refine jj_goto (tgt := 13) C dX11_redeemAll_167 (by decide) ?_
              refine jj_loc [0, 4, 5, 6] rfl ?_
              exact ihL_18 pl_63 (1 + k_19) (upd (upd fd_20 (nI k_19).toNatClampNeg (vp_nar .boolean (0 : Int32))) (nI k_19).toNatClampNeg (vp_nar .boolean (1 : Int32))) (vp_updL g_51 (288 + 4 * k_19) ((g_21 (288 + 4 * k_19)) - (((g_21 (288 + 4 * k_19)) * y_17) / y_10))) hok_64 hfr hfa hm hf_22 hG_23 (hE_24.red (by omega) ((hD_26.2.2.2.2 _ (by omega)).symm.trans c_42) _ _) hC_52 (hD_26.step hI_53 hq_54 hq_55 hq_56 (by omega) c_42 _) (by first | omega | decide | exact tt_lo _ | exact tt_hi _) (by first | omega | decide | exact tt_lo _ | exact tt_hi _) (by first | omega | decide | exact tt_lo _ | exact tt_hi _)
            · have z_c_60 := jc_nleL (a := y_10.toInt) (b := y_17.toInt) c_60 rfl rfl
              refine jj_aload_n C dX11_redeemAll_130 rfl ?_
              refine jj_iload C dX11_redeemAll_131 rfl ?_
              obtain ⟨qc, gs, hqc⟩ := tt_recv (cx := []) hok_59 hk0 (by decide) rfl
              refine tt_callV (rest := [.int (nI k_19), .ref ad]) C (rc_X11_unitsBy_d8d95c hl D cA ak x_43 _ hk0 hkw hka hkt hki hkf hkp hI_53.1.1 hok_59 hm hC_52) [] [] rfl rfl (by decide) (by decide) (by decide) qc hqc rfl rfl jw_d258851c0a jw_53672f19d9 jw_faff4a546a jw_f96c99f44d jw_6f23c3bc30 jn_X11_unitsBy rfl (jj_le rfl) (jj_le rfl) (jj_le rfl) (jj_le rfl) (jj_le rfl) dX11_redeemAll_133 rfl (fun _ _ _ hX => hX.elim) (fun rx pl_65 r O_69 => ?_)
              obtain ⟨rfl, hok_66, hr_67, ha_68, hR_70⟩ := O_69
              replace hf_22 := hr_67.at hk0 (by decide) (by decide) hf_22
              replace hf_29 := hr_67.at hk0 (by decide) (by decide) hf_29
              replace hC_52 := ha_68.at hkw (by decide) (by decide) hC_52
              replace hG_23 := ha_68.at hkd (by decide) (by decide) hG_23
              replace hm := hm.fr hr_67 hk0 rfl
              replace hfr := hfr.trans (hr_67.sub (by decide))
              replace hfa := hfa.trans (ha_68.sub (by decide))
              obtain ⟨y_71, rfl⟩ := hR_70
              refine jj_lconst (v := 0) C dX11_redeemAll_136 (by decide) ?_
              refine jj_lcmp_ne (tgt := 145) C dX11_redeemAll_137 dX11_redeemAll_138 (by decide) (fun c_72 => ?_) (fun c_72 => ?_)
              · have z_c_72 := jc_neqL (a := y_71.toInt) (b := 0) c_72 rfl (by decide)
                refine jj_iconst (v := 0) C dX11_redeemAll_145 (by decide) ?_
                refine rl_zast C hok_66 (t := (0, (-2147483648), 2147483647)) hkd (by decide) rfl (vp_in_nI (by omega) (by decide)) (tt_ia _) dX11_redeemAll_146 (fun pl_73 hok_74 tr tl tw => ?_)
                replace hf_22 := tr _ _ _ hf_22
                replace hf_29 := tr _ _ _ hf_29
                replace hm := hm.arr tr
                replace hfr := hfr.arr tr
                replace hC_52 := tl _ _ (tt_ne hkw hkd (by decide)) hC_52
                replace hG_23 := tw _ hG_23
                replace hfa := hfa.wr hkd tl (by decide)
                refine jj_aload_n C dX11_redeemAll_147 rfl ?_
                refine tt_getF C hok_74 jk_12 0 (by decide) jw_34eaf3ba8b (t := (2, 2, 0)) hk0 (by decide) rfl rfl hm.1 dX11_redeemAll_148 ?_
                refine jj_iload C dX11_redeemAll_151 rfl ?_
                refine tt_call0S (rest := [.ref aw]) C (rn_requestAt hl D cA ak k_19 (286 + 4 * k_19) (by omega)) jw_b399766b1e jw_c583cc9526 jw_f96c99f44d jw_595411e0f2 jn_X11_requestAt rfl (jj_le rfl) (jj_le rfl) (jj_le rfl) (jj_le rfl) (jj_le rfl) dX11_redeemAll_153 rfl (fun w1 r hO => ?_)
                obtain ⟨-, rfl⟩ := hO
                refine jj_iconst (v := 2) C dX11_redeemAll_156 (by decide) ?_
                refine jj_iadd (v := nI (288 + 4 * k_19)) C dX11_redeemAll_157 (rl_addR (kn := 2) (by decide) (by omega)) ?_
                refine jj_lload C dX11_redeemAll_158 rfl ?_
                refine jj_lload C dX11_redeemAll_160 rfl ?_
                refine jj_lsub C dX11_redeemAll_162 rfl ?_
                refine rl_last C hok_74 (t := (1, (-9223372036854775808), 9223372036854775807)) hkw (by decide) rfl (k := 288 + 4 * k_19) (vp_in_nI (by omega) (by decide)) (tt_ja _) (nI_clamp (by omega)) dX11_redeemAll_163 (fun pl_75 hok_76 tr tl tw => ?_)
                replace hf_22 := tr _ _ _ hf_22
                replace hf_29 := tr _ _ _ hf_29
                replace hm := hm.arr tr
                replace hfr := hfr.arr tr
                replace hC_52 := tw _ hC_52
                replace hG_23 := tl _ _ (tt_ne hkd hkw (by decide)) hG_23
                replace hfa := hfa.wr hkw tl (by decide)
                refine jj_iinc (v := nI (1 + k_19)) C dX11_redeemAll_164 rfl (rl_addR (kn := 1) (by decide) (by omega)) (by decide) rfl ?_
                refine jj_goto (tgt := 13) C dX11_redeemAll_167 (by decide) ?_
                refine jj_loc [0, 4, 5, 6] rfl ?_
                exact ihL_18 pl_75 (1 + k_19) (upd (upd fd_20 (nI k_19).toNatClampNeg (vp_nar .boolean (0 : Int32))) (nI k_19).toNatClampNeg (vp_nar .boolean (0 : Int32))) (vp_updL g_51 (288 + 4 * k_19) ((g_21 (288 + 4 * k_19)) - (((g_21 (288 + 4 * k_19)) * y_17) / y_10))) hok_76 hfr hfa hm hf_22 hG_23 (hE_24.red (by omega) ((hD_26.2.2.2.2 _ (by omega)).symm.trans c_42) _ _) hC_52 (hD_26.step hI_53 hq_54 hq_55 hq_56 (by omega) c_42 _) (by first | omega | decide | exact tt_lo _ | exact tt_hi _) (by first | omega | decide | exact tt_lo _ | exact tt_hi _) (by first | omega | decide | exact tt_lo _ | exact tt_hi _)
              · have z_c_72 := jc_eqL (a := y_71.toInt) (b := 0) c_72 rfl (by decide)
                refine jj_iconst (v := 1) C dX11_redeemAll_141 (by decide) ?_
                refine jj_goto (tgt := 146) C dX11_redeemAll_142 (by decide) ?_
                refine rl_zast C hok_66 (t := (0, (-2147483648), 2147483647)) hkd (by decide) rfl (vp_in_nI (by omega) (by decide)) (tt_ia _) dX11_redeemAll_146 (fun pl_77 hok_78 tr tl tw => ?_)
                replace hf_22 := tr _ _ _ hf_22
                replace hf_29 := tr _ _ _ hf_29
                replace hm := hm.arr tr
                replace hfr := hfr.arr tr
                replace hC_52 := tl _ _ (tt_ne hkw hkd (by decide)) hC_52
                replace hG_23 := tw _ hG_23
                replace hfa := hfa.wr hkd tl (by decide)
                refine jj_aload_n C dX11_redeemAll_147 rfl ?_
                refine tt_getF C hok_78 jk_12 0 (by decide) jw_34eaf3ba8b (t := (2, 2, 0)) hk0 (by decide) rfl rfl hm.1 dX11_redeemAll_148 ?_
                refine jj_iload C dX11_redeemAll_151 rfl ?_
                refine tt_call0S (rest := [.ref aw]) C (rn_requestAt hl D cA ak k_19 (286 + 4 * k_19) (by omega)) jw_b399766b1e jw_c583cc9526 jw_f96c99f44d jw_595411e0f2 jn_X11_requestAt rfl (jj_le rfl) (jj_le rfl) (jj_le rfl) (jj_le rfl) (jj_le rfl) dX11_redeemAll_153 rfl (fun w1 r hO => ?_)
                obtain ⟨-, rfl⟩ := hO
                refine jj_iconst (v := 2) C dX11_redeemAll_156 (by decide) ?_
                refine jj_iadd (v := nI (288 + 4 * k_19)) C dX11_redeemAll_157 (rl_addR (kn := 2) (by decide) (by omega)) ?_
                refine jj_lload C dX11_redeemAll_158 rfl ?_
                refine jj_lload C dX11_redeemAll_160 rfl ?_
                refine jj_lsub C dX11_redeemAll_162 rfl ?_
                refine rl_last C hok_78 (t := (1, (-9223372036854775808), 9223372036854775807)) hkw (by decide) rfl (k := 288 + 4 * k_19) (vp_in_nI (by omega) (by decide)) (tt_ja _) (nI_clamp (by omega)) dX11_redeemAll_163 (fun pl_79 hok_80 tr tl tw => ?_)
                replace hf_22 := tr _ _ _ hf_22
                replace hf_29 := tr _ _ _ hf_29
                replace hm := hm.arr tr
                replace hfr := hfr.arr tr
                replace hC_52 := tw _ hC_52
                replace hG_23 := tl _ _ (tt_ne hkd hkw (by decide)) hG_23
                replace hfa := hfa.wr hkw tl (by decide)
                refine jj_iinc (v := nI (1 + k_19)) C dX11_redeemAll_164 rfl (rl_addR (kn := 1) (by decide) (by omega)) (by decide) rfl ?_
                refine jj_goto (tgt := 13) C dX11_redeemAll_167 (by decide) ?_
                refine jj_loc [0, 4, 5, 6] rfl ?_
                exact ihL_18 pl_79 (1 + k_19) (upd (upd fd_20 (nI k_19).toNatClampNeg (vp_nar .boolean (0 : Int32))) (nI k_19).toNatClampNeg (vp_nar .boolean (1 : Int32))) (vp_updL g_51 (288 + 4 * k_19) ((g_21 (288 + 4 * k_19)) - (((g_21 (288 + 4 * k_19)) * y_17) / y_10))) hok_80 hfr hfa hm hf_22 hG_23 (hE_24.red (by omega) ((hD_26.2.2.2.2 _ (by omega)).symm.trans c_42) _ _) hC_52 (hD_26.step hI_53 hq_54 hq_55 hq_56 (by omega) c_42 _) (by first | omega | decide | exact tt_lo _ | exact tt_hi _) (by first | omega | decide | exact tt_lo _ | exact tt_hi _) (by first | omega | decide | exact tt_lo _ | exact tt_hi _)
          · have z_c_44 := jc_nltL (a := y_17.toInt) (b := y_10.toInt) c_44 rfl rfl
            refine jj_lload C dX11_redeemAll_90 rfl ?_
            refine jj_goto (tgt := 101) C dX11_redeemAll_92 (by decide) ?_
            refine jj_lstore C dX11_redeemAll_101 (by decide) rfl ?_
            refine jj_aload_n C dX11_redeemAll_103 rfl ?_
            refine tt_getF C hok_36 jk_12 10 (by decide) jw_72d4a0d46a (t := (2, 8, 0)) hk0 (by decide) rfl rfl hf_29 dX11_redeemAll_104 ?_
            refine jj_iload C dX11_redeemAll_107 rfl ?_
            refine jj_aload_n C dX11_redeemAll_109 rfl ?_
            refine jj_iload C dX11_redeemAll_110 rfl ?_
            refine jj_lload C dX11_redeemAll_112 rfl ?_
            obtain ⟨qc, gs, hqc⟩ := tt_recv (cx := []) hok_36 hk0 (by decide) rfl
            refine tt_callV (rest := [.int (nI k_19), .ref a_30]) C (rs_redeemFrom hl D cA ak x_43 (g_21 (288 + 4 * k_19)) B g_21 hk0 hkw hka hkt hki hkf hkp hD_26.1 hD_26.2.1 hB hok_36 hm hC_25) [] [] rfl rfl (by decide) (by decide) (by decide) qc hqc rfl rfl jw_8c39bb3d55 jw_a7da65cb62 jw_0e8f38a851 jw_f96c99f44d jw_6c32f71905 jn_X11_redeemFrom rfl (jj_le rfl) (jj_le rfl) (jj_le rfl) (jj_le rfl) (jj_le rfl) dX11_redeemAll_114 rfl (fun _ _ _ hX => hX.elim) (fun rx pl_81 r O_85 => ?_)
            obtain ⟨rfl, hok_82, hr_83, ha_84, hR_86⟩ := O_85
            replace hf_22 := hr_83.at hk0 (by decide) (by decide) hf_22
            replace hf_29 := hr_83.at hk0 (by decide) (by decide) hf_29
            replace hG_23 := ha_84.at hkd (by decide) (by decide) hG_23
            replace hm := hm.fr hr_83 hk0 rfl
            replace hfr := hfr.trans (hr_83.sub (by decide))
            replace hfa := hfa.trans (ha_84.sub (by decide))
            obtain ⟨g_87, hC_88, hI_89, hq_90, hq_91, hq_92, y_93, rfl⟩ := hR_86
            obtain ⟨⟨g0ag_87, g0bg_87⟩, ⟨g1ag_87, g1bg_87⟩, ⟨g6ag_87, g6bg_87⟩, ⟨g7ag_87, g7bg_87⟩, ⟨g8ag_87, g8bg_87⟩⟩ := hI_89.1.1
            refine rl_last C hok_82 (t := (1, (-9223372036854775808), 9223372036854775807)) ka_30 (by decide) rfl (k := k_19) (vp_in_nI (by omega) (by decide)) (tt_ja _) (nI_clamp (by omega)) dX11_redeemAll_117 (fun pl_94 hok_95 tr tl tw => ?_)
            replace hf_22 := tr _ _ _ hf_22
            replace hf_29 := tr _ _ _ hf_29
            replace hm := hm.arr tr
            replace hfr := hfr.arr tr
            replace hC_88 := tl _ _ (tt_ne hkw ka_30 (by decide)) hC_88
            replace hG_23 := tl _ _ (tt_ne hkd ka_30 (by decide)) hG_23
            replace hfa := hfa.wr ka_30 tl (by decide)
            refine jj_aload_n C dX11_redeemAll_118 rfl ?_
            refine tt_getF C hok_95 jk_12 11 (by decide) jw_dca952cae2 (t := (2, 9, 0)) hk0 (by decide) rfl rfl hf_22 dX11_redeemAll_119 ?_
            refine jj_iload C dX11_redeemAll_122 rfl ?_
            refine jj_lload_n C dX11_redeemAll_124 rfl ?_
            refine jj_lload_n C dX11_redeemAll_125 rfl ?_
            refine jj_lcmp_le (tgt := 141) C dX11_redeemAll_126 dX11_redeemAll_127 (by decide) (fun c_96 => ?_) (fun c_96 => ?_)
            · have z_c_96 := jc_leL (a := y_10.toInt) (b := y_17.toInt) c_96 rfl rfl
              refine jj_iconst (v := 1) C dX11_redeemAll_141 (by decide) ?_
              refine jj_goto (tgt := 146) C dX11_redeemAll_142 (by decide) ?_
              refine rl_zast C hok_95 (t := (0, (-2147483648), 2147483647)) hkd (by decide) rfl (vp_in_nI (by omega) (by decide)) (tt_ia _) dX11_redeemAll_146 (fun pl_97 hok_98 tr tl tw => ?_)
              replace hf_22 := tr _ _ _ hf_22
              replace hf_29 := tr _ _ _ hf_29
              replace hm := hm.arr tr
              replace hfr := hfr.arr tr
              replace hC_88 := tl _ _ (tt_ne hkw hkd (by decide)) hC_88
              replace hG_23 := tw _ hG_23
              replace hfa := hfa.wr hkd tl (by decide)
              refine jj_aload_n C dX11_redeemAll_147 rfl ?_
              refine tt_getF C hok_98 jk_12 0 (by decide) jw_34eaf3ba8b (t := (2, 2, 0)) hk0 (by decide) rfl rfl hm.1 dX11_redeemAll_148 ?_
              refine jj_iload C dX11_redeemAll_151 rfl ?_
              refine tt_call0S (rest := [.ref aw]) C (rn_requestAt hl D cA ak k_19 (286 + 4 * k_19) (by omega)) jw_b399766b1e jw_c583cc9526 jw_f96c99f44d jw_595411e0f2 jn_X11_requestAt rfl (jj_le rfl) (jj_le rfl) (jj_le rfl) (jj_le rfl) (jj_le rfl) dX11_redeemAll_153 rfl (fun w1 r hO => ?_)
              obtain ⟨-, rfl⟩ := hO
              refine jj_iconst (v := 2) C dX11_redeemAll_156 (by decide) ?_
              refine jj_iadd (v := nI (288 + 4 * k_19)) C dX11_redeemAll_157 (rl_addR (kn := 2) (by decide) (by omega)) ?_
              refine jj_lload C dX11_redeemAll_158 rfl ?_
              refine jj_lload C dX11_redeemAll_160 rfl ?_
              refine jj_lsub C dX11_redeemAll_162 rfl ?_
              refine rl_last C hok_98 (t := (1, (-9223372036854775808), 9223372036854775807)) hkw (by decide) rfl (k := 288 + 4 * k_19) (vp_in_nI (by omega) (by decide)) (tt_ja _) (nI_clamp (by omega)) dX11_redeemAll_163 (fun pl_99 hok_100 tr tl tw => ?_)
              replace hf_22 := tr _ _ _ hf_22
              replace hf_29 := tr _ _ _ hf_29
              replace hm := hm.arr tr
              replace hfr := hfr.arr tr
              replace hC_88 := tw _ hC_88
              replace hG_23 := tl _ _ (tt_ne hkd hkw (by decide)) hG_23
              replace hfa := hfa.wr hkw tl (by decide)
              refine jj_iinc (v := nI (1 + k_19)) C dX11_redeemAll_164 rfl (rl_addR (kn := 1) (by decide) (by omega)) (by decide) rfl ?_
              refine jj_goto (tgt := 13) C dX11_redeemAll_167 (by decide) ?_
              refine jj_loc [0, 4, 5, 6] rfl ?_
              exact ihL_18 pl_99 (1 + k_19) (upd (upd fd_20 (nI k_19).toNatClampNeg (vp_nar .boolean (0 : Int32))) (nI k_19).toNatClampNeg (vp_nar .boolean (1 : Int32))) (vp_updL g_87 (288 + 4 * k_19) ((g_21 (288 + 4 * k_19)) - (g_21 (288 + 4 * k_19)))) hok_100 hfr hfa hm hf_22 hG_23 (hE_24.red (by omega) ((hD_26.2.2.2.2 _ (by omega)).symm.trans c_42) _ _) hC_88 (hD_26.step hI_89 hq_90 hq_91 hq_92 (by omega) c_42 _) (by first | omega | decide | exact tt_lo _ | exact tt_hi _) (by first | omega | decide | exact tt_lo _ | exact tt_hi _) (by first | omega | decide | exact tt_lo _ | exact tt_hi _)
            · have z_c_96 := jc_nleL (a := y_10.toInt) (b := y_17.toInt) c_96 rfl rfl
              refine jj_aload_n C dX11_redeemAll_130 rfl ?_
              refine jj_iload C dX11_redeemAll_131 rfl ?_
              obtain ⟨qc, gs, hqc⟩ := tt_recv (cx := []) hok_95 hk0 (by decide) rfl
              refine tt_callV (rest := [.int (nI k_19), .ref ad]) C (rc_X11_unitsBy_d8d95c hl D cA ak x_43 _ hk0 hkw hka hkt hki hkf hkp hI_89.1.1 hok_95 hm hC_88) [] [] rfl rfl (by decide) (by decide) (by decide) qc hqc rfl rfl jw_d258851c0a jw_53672f19d9 jw_faff4a546a jw_f96c99f44d jw_6f23c3bc30 jn_X11_unitsBy rfl (jj_le rfl) (jj_le rfl) (jj_le rfl) (jj_le rfl) (jj_le rfl) dX11_redeemAll_133 rfl (fun _ _ _ hX => hX.elim) (fun rx pl_101 r O_105 => ?_)
              obtain ⟨rfl, hok_102, hr_103, ha_104, hR_106⟩ := O_105
              replace hf_22 := hr_103.at hk0 (by decide) (by decide) hf_22
              replace hf_29 := hr_103.at hk0 (by decide) (by decide) hf_29
              replace hC_88 := ha_104.at hkw (by decide) (by decide) hC_88
              replace hG_23 := ha_104.at hkd (by decide) (by decide) hG_23
              replace hm := hm.fr hr_103 hk0 rfl
              replace hfr := hfr.trans (hr_103.sub (by decide))
              replace hfa := hfa.trans (ha_104.sub (by decide))
              obtain ⟨y_107, rfl⟩ := hR_106
              refine jj_lconst (v := 0) C dX11_redeemAll_136 (by decide) ?_
              refine jj_lcmp_ne (tgt := 145) C dX11_redeemAll_137 dX11_redeemAll_138 (by decide) (fun c_108 => ?_) (fun c_108 => ?_)
              · have z_c_108 := jc_neqL (a := y_107.toInt) (b := 0) c_108 rfl (by decide)
                refine jj_iconst (v := 0) C dX11_redeemAll_145 (by decide) ?_
                refine rl_zast C hok_102 (t := (0, (-2147483648), 2147483647)) hkd (by decide) rfl (vp_in_nI (by omega) (by decide)) (tt_ia _) dX11_redeemAll_146 (fun pl_109 hok_110 tr tl tw => ?_)
                replace hf_22 := tr _ _ _ hf_22
                replace hf_29 := tr _ _ _ hf_29
                replace hm := hm.arr tr
                replace hfr := hfr.arr tr
                replace hC_88 := tl _ _ (tt_ne hkw hkd (by decide)) hC_88
                replace hG_23 := tw _ hG_23
                replace hfa := hfa.wr hkd tl (by decide)
                refine jj_aload_n C dX11_redeemAll_147 rfl ?_
                refine tt_getF C hok_110 jk_12 0 (by decide) jw_34eaf3ba8b (t := (2, 2, 0)) hk0 (by decide) rfl rfl hm.1 dX11_redeemAll_148 ?_
                refine jj_iload C dX11_redeemAll_151 rfl ?_
                refine tt_call0S (rest := [.ref aw]) C (rn_requestAt hl D cA ak k_19 (286 + 4 * k_19) (by omega)) jw_b399766b1e jw_c583cc9526 jw_f96c99f44d jw_595411e0f2 jn_X11_requestAt rfl (jj_le rfl) (jj_le rfl) (jj_le rfl) (jj_le rfl) (jj_le rfl) dX11_redeemAll_153 rfl (fun w1 r hO => ?_)
                obtain ⟨-, rfl⟩ := hO
                refine jj_iconst (v := 2) C dX11_redeemAll_156 (by decide) ?_
                refine jj_iadd (v := nI (288 + 4 * k_19)) C dX11_redeemAll_157 (rl_addR (kn := 2) (by decide) (by omega)) ?_
                refine jj_lload C dX11_redeemAll_158 rfl ?_
                refine jj_lload C dX11_redeemAll_160 rfl ?_
                refine jj_lsub C dX11_redeemAll_162 rfl ?_
                refine rl_last C hok_110 (t := (1, (-9223372036854775808), 9223372036854775807)) hkw (by decide) rfl (k := 288 + 4 * k_19) (vp_in_nI (by omega) (by decide)) (tt_ja _) (nI_clamp (by omega)) dX11_redeemAll_163 (fun pl_111 hok_112 tr tl tw => ?_)
                replace hf_22 := tr _ _ _ hf_22
                replace hf_29 := tr _ _ _ hf_29
                replace hm := hm.arr tr
                replace hfr := hfr.arr tr
                replace hC_88 := tw _ hC_88
                replace hG_23 := tl _ _ (tt_ne hkd hkw (by decide)) hG_23
                replace hfa := hfa.wr hkw tl (by decide)
                refine jj_iinc (v := nI (1 + k_19)) C dX11_redeemAll_164 rfl (rl_addR (kn := 1) (by decide) (by omega)) (by decide) rfl ?_
                refine jj_goto (tgt := 13) C dX11_redeemAll_167 (by decide) ?_
                refine jj_loc [0, 4, 5, 6] rfl ?_
                exact ihL_18 pl_111 (1 + k_19) (upd (upd fd_20 (nI k_19).toNatClampNeg (vp_nar .boolean (0 : Int32))) (nI k_19).toNatClampNeg (vp_nar .boolean (0 : Int32))) (vp_updL g_87 (288 + 4 * k_19) ((g_21 (288 + 4 * k_19)) - (g_21 (288 + 4 * k_19)))) hok_112 hfr hfa hm hf_22 hG_23 (hE_24.red (by omega) ((hD_26.2.2.2.2 _ (by omega)).symm.trans c_42) _ _) hC_88 (hD_26.step hI_89 hq_90 hq_91 hq_92 (by omega) c_42 _) (by first | omega | decide | exact tt_lo _ | exact tt_hi _) (by first | omega | decide | exact tt_lo _ | exact tt_hi _) (by first | omega | decide | exact tt_lo _ | exact tt_hi _)
              · have z_c_108 := jc_eqL (a := y_107.toInt) (b := 0) c_108 rfl (by decide)
                refine jj_iconst (v := 1) C dX11_redeemAll_141 (by decide) ?_
                refine jj_goto (tgt := 146) C dX11_redeemAll_142 (by decide) ?_
                refine rl_zast C hok_102 (t := (0, (-2147483648), 2147483647)) hkd (by decide) rfl (vp_in_nI (by omega) (by decide)) (tt_ia _) dX11_redeemAll_146 (fun pl_113 hok_114 tr tl tw => ?_)
                replace hf_22 := tr _ _ _ hf_22
                replace hf_29 := tr _ _ _ hf_29
                replace hm := hm.arr tr
                replace hfr := hfr.arr tr
                replace hC_88 := tl _ _ (tt_ne hkw hkd (by decide)) hC_88
                replace hG_23 := tw _ hG_23
                replace hfa := hfa.wr hkd tl (by decide)
                refine jj_aload_n C dX11_redeemAll_147 rfl ?_
                refine tt_getF C hok_114 jk_12 0 (by decide) jw_34eaf3ba8b (t := (2, 2, 0)) hk0 (by decide) rfl rfl hm.1 dX11_redeemAll_148 ?_
                refine jj_iload C dX11_redeemAll_151 rfl ?_
                refine tt_call0S (rest := [.ref aw]) C (rn_requestAt hl D cA ak k_19 (286 + 4 * k_19) (by omega)) jw_b399766b1e jw_c583cc9526 jw_f96c99f44d jw_595411e0f2 jn_X11_requestAt rfl (jj_le rfl) (jj_le rfl) (jj_le rfl) (jj_le rfl) (jj_le rfl) dX11_redeemAll_153 rfl (fun w1 r hO => ?_)
                obtain ⟨-, rfl⟩ := hO
                refine jj_iconst (v := 2) C dX11_redeemAll_156 (by decide) ?_
                refine jj_iadd (v := nI (288 + 4 * k_19)) C dX11_redeemAll_157 (rl_addR (kn := 2) (by decide) (by omega)) ?_
                refine jj_lload C dX11_redeemAll_158 rfl ?_
                refine jj_lload C dX11_redeemAll_160 rfl ?_
                refine jj_lsub C dX11_redeemAll_162 rfl ?_
                refine rl_last C hok_114 (t := (1, (-9223372036854775808), 9223372036854775807)) hkw (by decide) rfl (k := 288 + 4 * k_19) (vp_in_nI (by omega) (by decide)) (tt_ja _) (nI_clamp (by omega)) dX11_redeemAll_163 (fun pl_115 hok_116 tr tl tw => ?_)
                replace hf_22 := tr _ _ _ hf_22
                replace hf_29 := tr _ _ _ hf_29
                replace hm := hm.arr tr
                replace hfr := hfr.arr tr
                replace hC_88 := tw _ hC_88
                replace hG_23 := tl _ _ (tt_ne hkd hkw (by decide)) hG_23
                replace hfa := hfa.wr hkw tl (by decide)
                refine jj_iinc (v := nI (1 + k_19)) C dX11_redeemAll_164 rfl (rl_addR (kn := 1) (by decide) (by omega)) (by decide) rfl ?_
                refine jj_goto (tgt := 13) C dX11_redeemAll_167 (by decide) ?_
                refine jj_loc [0, 4, 5, 6] rfl ?_
                exact ihL_18 pl_115 (1 + k_19) (upd (upd fd_20 (nI k_19).toNatClampNeg (vp_nar .boolean (0 : Int32))) (nI k_19).toNatClampNeg (vp_nar .boolean (1 : Int32))) (vp_updL g_87 (288 + 4 * k_19) ((g_21 (288 + 4 * k_19)) - (g_21 (288 + 4 * k_19)))) hok_116 hfr hfa hm hf_22 hG_23 (hE_24.red (by omega) ((hD_26.2.2.2.2 _ (by omega)).symm.trans c_42) _ _) hC_88 (hD_26.step hI_89 hq_90 hq_91 hq_92 (by omega) c_42 _) (by first | omega | decide | exact tt_lo _ | exact tt_hi _) (by first | omega | decide | exact tt_lo _ | exact tt_hi _) (by first | omega | decide | exact tt_lo _ | exact tt_hi _)
  exact hL_18 _ pl_11 0 fd g_7 trivial hok_12 hfr hfa hm hd hdc (fun a ha => absurd ha (Nat.not_lt_zero _)) hC_8 (rl_R.init hI hP he_9) (by first | omega | decide | exact tt_lo _ | exact tt_hi _) (by first | omega | decide | exact tt_lo _ | exact tt_hi _) (Int.self_le_toNat _)
