theorem jw_617bd67f79 : Cond.methodLink RX11 147 yX11_dropEmptyLots ∈ jj_G := jj_t7 (List.mem_of_getElem? (i := 84) (by decide +kernel)) rfl
theorem jw_8e5c1f18ee : Cond.instanceMethod yX11_dropEmptyLots ∈ jj_G := jj_t7 (List.mem_of_getElem? (i := 86) (by decide +kernel)) rfl
theorem jw_f08bec5428 : Cond.selects RX11 yX11_dropEmptyLots yX11_dropEmptyLots ∈ jj_G := jj_pv (q := (yX11_dropEmptyLots, 25)) (by decide +kernel)
theorem jn_X11_dropEmptyLots : jj_N yX11_dropEmptyLots 0 := by unfold jj_N; decide +kernel
theorem jw_7cc7a4cc90 : Cond.methodLink RX11 150 yX11_closeEmpty ∈ jj_G := jj_t7 (List.mem_of_getElem? (i := 92) (by decide +kernel)) rfl
theorem jw_8fcdd840e9 : Cond.instanceMethod yX11_closeEmpty ∈ jj_G := jj_t7 (List.mem_of_getElem? (i := 94) (by decide +kernel)) rfl
theorem jw_87387d5435 : Cond.selects RX11 yX11_closeEmpty yX11_closeEmpty ∈ jj_G := jj_pv (q := (yX11_closeEmpty, 25)) (by decide +kernel)
theorem jn_X11_closeEmpty : jj_N yX11_closeEmpty 0 := by unfold jj_N; decide +kernel
theorem jw_a5e9e74f88 : Cond.methodLink RX11 143 yX11_use ∈ jj_G := jj_t7 (List.mem_of_getElem? (i := 49) (by decide +kernel)) rfl
theorem jw_37412ac86e : Cond.instanceMethod yX11_use ∈ jj_G := jj_t7 (List.mem_of_getElem? (i := 51) (by decide +kernel)) rfl
theorem jw_d3614e247b : Cond.selects RX11 yX11_use yX11_use ∈ jj_G := jj_pv (q := (yX11_use, 25)) (by decide +kernel)
theorem jn_X11_use : jj_N yX11_use 2 := by unfold jj_N; decide +kernel
theorem jw_6c32f71905 : Cond.code yX11_redeemFrom cX11_redeemFrom 10 (some .long) ∈ jj_G := jj_t7 (List.mem_of_getElem? (i := 44) (by decide +kernel)) rfl

set_option maxHeartbeats 4000000 in
set_option maxRecDepth 100000 in
theorem rs_redeemFrom {l : Launch} (hl : l.stackTraces = false) (D : va_G) (cA : Nat → ClassId) (ak : (Nat → Nat) × (Nat → Nat)) {Kd : Nat → Nat} {h0 aw aa at0 ai af ap : Nat} (p1 : Int32) (p2 : Int64) (B : Int) (f : Nat → Int64) (hk0 : Kd h0 = 1) (hkw : Kd aw = 2) (hka : Kd aa = 3) (hkt : Kd at0 = 4) (hki : Kd ai = 5) (hkf : Kd af = 6) (hkp : Kd ap = 7) (hI : rl_I B f) (hP : rl_P f) (hB : B ≤ 43920000000) {pl0 : va_W} (hok : tt_ok rt_tk cA Kd pl0) (hm : rl_m pl0 h0 aw aa at0 ai af ap) (hC : tt_lc pl0 aw f) : jj_M l D cA ak yX11_redeemFrom (.code yX11_redeemFrom cX11_redeemFrom 10 (some .long)) 4 101 0 0 ([] ++ pl0) [.ref h0, .int p1, .long p2] (tt_O (fun rx pl1 r => rx = [] ∧ tt_ok rt_tk cA Kd pl1 ∧ tt_fr Kd [(1, 8), (1, 9)] pl0 pl1 ∧ tt_fa Kd [2] pl0 pl1 ∧ ((∃ g : Nat → Int64, tt_lc pl1 aw g ∧ rl_I B g ∧ rl_T g ≤ rl_T f ∧ (∀ i : Nat, ¬ (10 ≤ i ∧ i ≤ 15) → (i < 10 ∧ i ≠ 6 ∧ i ≠ 7 ∨ 286 ≤ i) → g i = f i) ∧ rl_P g ∧ ∃ v : Int64, r = some (.long v))))) (tt_OX (fun _ _ _ => False)) := by
  refine jj_start hl (by decide) jw_6c32f71905 (jj_le rfl) ?_
  intro p e s m args below meth c A hargs hA C hex hmn
  have hfr := tt_fr.refl (K := Kd) (WS := [(1, 8), (1, 9)]) pl0
  have hfa := tt_fa.refl (K := Kd) (WA := [2]) pl0
  have hH := hI.1.1
  obtain ⟨⟨g0a, g0b⟩, ⟨g1a, g1b⟩, ⟨g6a, g6b⟩, ⟨g7a, g7b⟩, ⟨g8a, g8b⟩⟩ := hH
  have lp1 := tt_lo p1
  have up1 := tt_hi p1
  refine jj_lload_n C dX11_redeemFrom_0 rfl ?_
  refine jj_lstore C dX11_redeemFrom_1 (by decide) rfl ?_
  refine jj_iconst (v := 0) C dX11_redeemFrom_3 (by decide) ?_
  refine jj_istore C dX11_redeemFrom_4 (by decide) rfl ?_
  have hL_1 : ∀ (N : Nat) (pl : va_W) (k_2 : Nat) (y_3 : Int64) (g_4 : Nat → Int64), True → tt_ok rt_tk cA Kd pl → tt_fr Kd [(1, 8), (1, 9)] pl0 pl → tt_fa Kd [2] pl0 pl → rl_m pl h0 aw aa at0 ai af ap → tt_lc pl aw g_4 → rl_F B f g_4 k_2 → (0 : Int) ≤ (k_2 : Int) → (k_2 : Int) ≤ 40 → (2147483648 - (k_2 : Int) ≤ (N : Int)) → jj_J p l e (jj_rm 4 101 0 0) s m args below meth c 10 A (vx_MQ below (jj_q D A (tt_O (fun rx pl1 r => rx = [] ∧ tt_ok rt_tk cA Kd pl1 ∧ tt_fr Kd [(1, 8), (1, 9)] pl0 pl1 ∧ tt_fa Kd [2] pl0 pl1 ∧ ((∃ g : Nat → Int64, tt_lc pl1 aw g ∧ rl_I B g ∧ rl_T g ≤ rl_T f ∧ (∀ i : Nat, ¬ (10 ≤ i ∧ i ≤ 15) → (i < 10 ∧ i ≠ 6 ∧ i ≠ 7 ∨ 286 ≤ i) → g i = f i) ∧ rl_P g ∧ ∃ v : Int64, r = some (.long v)))))) (jj_x D A (tt_OX (fun _ _ _ => False))) args s 0 0 A) (jj_X D A ([] ++ pl)) 0 0 6 [(6, .int (nI k_2)), (4, .long y_3), (0, .ref h0), (1, .int p1), (2, .long p2)] [] := by
    intro NL_1
    induction NL_1 with
    | zero => intro pl k_2 y_3 g_4 _ hok hfr hfa hm hC_5 hD_6 lk_2 uk_2 hNL_1; exfalso; omega
    | succ NL_1 ihL_1 =>
      intro pl k_2 y_3 g_4 _ hok hfr hfa hm hC_5 hD_6 lk_2 uk_2 hNL_1
      replace ihL_1 := fun pl k_2 y_3 g_4 h1 => ihL_1 pl k_2 y_3 g_4 trivial h1
      obtain ⟨⟨g0ag_4, g0bg_4⟩, ⟨g1ag_4, g1bg_4⟩, ⟨g6ag_4, g6bg_4⟩, ⟨g7ag_4, g7bg_4⟩, ⟨g8ag_4, g8bg_4⟩⟩ := (hD_6.1).1.1
      have lpg_4 : (k_2 : Int) < (g_4 7).toInt → 1 ≤ (g_4 (48 + 6 * k_2)).toInt := fun z => hD_6.2.2.2 k_2 (Nat.le_refl _) (by unfold rnL; omega)
      refine jj_iload C dX11_redeemFrom_6 rfl ?_
      refine jj_i2l C dX11_redeemFrom_8 rfl ?_
      refine jj_aload_n C dX11_redeemFrom_9 rfl ?_
      refine tt_getF C hok jk_12 0 (by decide) jw_34eaf3ba8b (t := (2, 2, 0)) hk0 (by decide) rfl rfl hm.1 dX11_redeemFrom_10 ?_
      refine jj_bipush (v := 7) C dX11_redeemFrom_13 (by decide) ?_
      refine rl_lald C hok (t := (1, (-9223372036854775808), 9223372036854775807)) hkw (by decide) rfl (k := 7) (v := (g_4 7)) (vp_in_iff.mpr (by decide)) hC_5 (by decide) rfl dX11_redeemFrom_15 ?_
      refine jj_lcmp_ge (tgt := 89) C dX11_redeemFrom_16 dX11_redeemFrom_17 (by decide) (fun c_7 => ?_) (fun c_7 => ?_)
      · have z_c_7 := jc_leL (a := (g_4 7).toInt) (b := ((k_2 : Nat) : Int)) c_7 rfl (rl_tl (by omega))
        refine jj_aload_n C dX11_redeemFrom_89 rfl ?_
        obtain ⟨qc, gs, hqc⟩ := tt_recv (cx := []) hok hk0 (by decide) rfl
        refine tt_callV (rest := []) C (rs_dropEmptyLots hl D cA ak B g_4 hk0 hkw hka hkt hki hkf hkp hD_6.1 hok hm hC_5) [] [] rfl rfl (by decide) (by decide) (by decide) qc hqc rfl rfl jw_617bd67f79 jw_8e5c1f18ee jw_f08bec5428 jw_f96c99f44d jw_78a4443009 jn_X11_dropEmptyLots rfl (jj_le rfl) (jj_le rfl) (jj_le rfl) (jj_le rfl) (jj_le rfl) dX11_redeemFrom_90 rfl (fun _ _ _ hX => hX.elim) (fun rx pl_8 r O_12 => ?_)
        obtain ⟨rfl, hok_9, hr_10, ha_11, hR_13⟩ := O_12
        replace hm := hm.fr hr_10 hk0 rfl
        replace hfr := hfr.trans (hr_10.sub (by decide))
        replace hfa := hfa.trans (ha_11.sub (by decide))
        obtain ⟨g_14, hC_15, hI_16, hq_17, hq_18, hq_19, hq_20, rfl⟩ := hR_13
        obtain ⟨⟨g0ag_14, g0bg_14⟩, ⟨g1ag_14, g1bg_14⟩, ⟨g6ag_14, g6bg_14⟩, ⟨g7ag_14, g7bg_14⟩, ⟨g8ag_14, g8bg_14⟩⟩ := hI_16.1.1
        refine jj_aload_n C dX11_redeemFrom_93 rfl ?_
        obtain ⟨qc, gs, hqc⟩ := tt_recv (cx := []) hok_9 hk0 (by decide) rfl
        refine tt_callV (rest := []) C (rs_closeEmpty hl D cA ak B g_14 hk0 hkw hka hkt hki hkf hkp hI_16 hq_20 hok_9 hm hC_15) [] [] rfl rfl (by decide) (by decide) (by decide) qc hqc rfl rfl jw_7cc7a4cc90 jw_8fcdd840e9 jw_87387d5435 jw_f96c99f44d jw_8dc09f8f68 jn_X11_closeEmpty rfl (jj_le rfl) (jj_le rfl) (jj_le rfl) (jj_le rfl) (jj_le rfl) dX11_redeemFrom_94 rfl (fun _ _ _ hX => hX.elim) (fun rx pl_21 r O_25 => ?_)
        obtain ⟨rfl, hok_22, hr_23, ha_24, hR_26⟩ := O_25
        replace hm := hm.fr hr_23 hk0 rfl
        replace hfr := hfr.trans (hr_23.sub (by decide))
        replace hfa := hfa.trans (ha_24.sub (by decide))
        obtain ⟨g_27, hC_28, hI_29, hq_30, hq_31, hq_32, hq_33, rfl⟩ := hR_26
        obtain ⟨⟨g0ag_27, g0bg_27⟩, ⟨g1ag_27, g1bg_27⟩, ⟨g6ag_27, g6bg_27⟩, ⟨g7ag_27, g7bg_27⟩, ⟨g8ag_27, g8bg_27⟩⟩ := hI_29.1.1
        refine jj_lload_n C dX11_redeemFrom_97 rfl ?_
        refine jj_lload C dX11_redeemFrom_98 rfl ?_
        refine jj_lsub C dX11_redeemFrom_100 rfl ?_
        exact jj_lret C ⟨[], pl_21, rfl, rfl, hok_22, hfr, hfa, ⟨g_27, hC_28, hI_29, Int.le_trans hq_30 (Int.le_trans hq_17 hD_6.2.1), (fun i a b => ((hq_31 i (by omega)).trans (hq_18 i (by omega))).trans (hD_6.2.2.1 i a (by omega))), hq_33, (p2 - y_3), rfl⟩⟩ dX11_redeemFrom_101 (jj_le rfl) (jj_le rfl)
      · have z_c_7 := jc_nleL (a := (g_4 7).toInt) (b := ((k_2 : Nat) : Int)) c_7 rfl (rl_tl (by omega))
        refine jj_lload C dX11_redeemFrom_20 rfl ?_
        refine jj_lconst (v := 0) C dX11_redeemFrom_22 (by decide) ?_
        refine jj_lcmp_le (tgt := 89) C dX11_redeemFrom_23 dX11_redeemFrom_24 (by decide) (fun c_34 => ?_) (fun c_34 => ?_)
        · have z_c_34 := jc_leL (a := y_3.toInt) (b := 0) c_34 rfl (by decide)
          refine jj_aload_n C dX11_redeemFrom_89 rfl ?_
          obtain ⟨qc, gs, hqc⟩ := tt_recv (cx := []) hok hk0 (by decide) rfl
          refine tt_callV (rest := []) C (rs_dropEmptyLots hl D cA ak B g_4 hk0 hkw hka hkt hki hkf hkp hD_6.1 hok hm hC_5) [] [] rfl rfl (by decide) (by decide) (by decide) qc hqc rfl rfl jw_617bd67f79 jw_8e5c1f18ee jw_f08bec5428 jw_f96c99f44d jw_78a4443009 jn_X11_dropEmptyLots rfl (jj_le rfl) (jj_le rfl) (jj_le rfl) (jj_le rfl) (jj_le rfl) dX11_redeemFrom_90 rfl (fun _ _ _ hX => hX.elim) (fun rx pl_35 r O_39 => ?_)
          obtain ⟨rfl, hok_36, hr_37, ha_38, hR_40⟩ := O_39
          replace hm := hm.fr hr_37 hk0 rfl
          replace hfr := hfr.trans (hr_37.sub (by decide))
          replace hfa := hfa.trans (ha_38.sub (by decide))
          obtain ⟨g_41, hC_42, hI_43, hq_44, hq_45, hq_46, hq_47, rfl⟩ := hR_40
          obtain ⟨⟨g0ag_41, g0bg_41⟩, ⟨g1ag_41, g1bg_41⟩, ⟨g6ag_41, g6bg_41⟩, ⟨g7ag_41, g7bg_41⟩, ⟨g8ag_41, g8bg_41⟩⟩ := hI_43.1.1
          refine jj_aload_n C dX11_redeemFrom_93 rfl ?_
          obtain ⟨qc, gs, hqc⟩ := tt_recv (cx := []) hok_36 hk0 (by decide) rfl
          refine tt_callV (rest := []) C (rs_closeEmpty hl D cA ak B g_41 hk0 hkw hka hkt hki hkf hkp hI_43 hq_47 hok_36 hm hC_42) [] [] rfl rfl (by decide) (by decide) (by decide) qc hqc rfl rfl jw_7cc7a4cc90 jw_8fcdd840e9 jw_87387d5435 jw_f96c99f44d jw_8dc09f8f68 jn_X11_closeEmpty rfl (jj_le rfl) (jj_le rfl) (jj_le rfl) (jj_le rfl) (jj_le rfl) dX11_redeemFrom_94 rfl (fun _ _ _ hX => hX.elim) (fun rx pl_48 r O_52 => ?_)
          obtain ⟨rfl, hok_49, hr_50, ha_51, hR_53⟩ := O_52
          replace hm := hm.fr hr_50 hk0 rfl
          replace hfr := hfr.trans (hr_50.sub (by decide))
          replace hfa := hfa.trans (ha_51.sub (by decide))
          obtain ⟨g_54, hC_55, hI_56, hq_57, hq_58, hq_59, hq_60, rfl⟩ := hR_53
          obtain ⟨⟨g0ag_54, g0bg_54⟩, ⟨g1ag_54, g1bg_54⟩, ⟨g6ag_54, g6bg_54⟩, ⟨g7ag_54, g7bg_54⟩, ⟨g8ag_54, g8bg_54⟩⟩ := hI_56.1.1
          refine jj_lload_n C dX11_redeemFrom_97 rfl ?_
          refine jj_lload C dX11_redeemFrom_98 rfl ?_
          refine jj_lsub C dX11_redeemFrom_100 rfl ?_
          exact jj_lret C ⟨[], pl_48, rfl, rfl, hok_49, hfr, hfa, ⟨g_54, hC_55, hI_56, Int.le_trans hq_57 (Int.le_trans hq_44 hD_6.2.1), (fun i a b => ((hq_58 i (by omega)).trans (hq_45 i (by omega))).trans (hD_6.2.2.1 i a (by omega))), hq_60, (p2 - y_3), rfl⟩⟩ dX11_redeemFrom_101 (jj_le rfl) (jj_le rfl)
        · have z_c_34 := jc_nleL (a := y_3.toInt) (b := 0) c_34 rfl (by decide)
          refine jj_iload C dX11_redeemFrom_27 rfl ?_
          refine tt_call0S (rest := []) C (rn_lotAt hl D cA ak k_2 (46 + 6 * k_2) (by omega)) jw_4c8c4b88e2 jw_0fa3e2bccb jw_f96c99f44d jw_d540d98a1c jn_X11_lotAt rfl (jj_le rfl) (jj_le rfl) (jj_le rfl) (jj_le rfl) (jj_le rfl) dX11_redeemFrom_29 rfl (fun w1 r hO => ?_)
          obtain ⟨-, rfl⟩ := hO
          refine jj_istore C dX11_redeemFrom_32 (by decide) rfl ?_
          refine jj_aload_n C dX11_redeemFrom_34 rfl ?_
          refine tt_getF C hok jk_12 0 (by decide) jw_34eaf3ba8b (t := (2, 2, 0)) hk0 (by decide) rfl rfl hm.1 dX11_redeemFrom_35 ?_
          refine jj_iload C dX11_redeemFrom_38 rfl ?_
          refine jj_iconst (v := 0) C dX11_redeemFrom_40 (by decide) ?_
          refine jj_iadd (v := nI (46 + 6 * k_2)) C dX11_redeemFrom_41 (rl_addR (kn := 0) (by decide) (by omega)) ?_
          refine rl_lald C hok (t := (1, (-9223372036854775808), 9223372036854775807)) hkw (by decide) rfl (k := 46 + 6 * k_2) (v := (g_4 (46 + 6 * k_2))) (vp_in_nI (by omega) (by decide)) hC_5 (nI_clamp (by omega)) rfl dX11_redeemFrom_42 ?_
          refine jj_iload_n C dX11_redeemFrom_43 rfl ?_
          obtain ⟨y_61, ey_61, vy_61⟩ := tt_i2l p1
          refine jj_i2l (v := y_61) C dX11_redeemFrom_44 ey_61 ?_
          refine jj_lcmp_eq (tgt := 52) C dX11_redeemFrom_45 dX11_redeemFrom_46 (by decide) (fun c_62 => ?_) (fun c_62 => ?_)
          · have z_c_62 := jc_eqL (a := (g_4 (46 + 6 * k_2)).toInt) (b := y_61.toInt) c_62 rfl rfl
            refine jj_lload C dX11_redeemFrom_52 rfl ?_
            refine jj_aload_n C dX11_redeemFrom_54 rfl ?_
            refine tt_getF C hok jk_12 0 (by decide) jw_34eaf3ba8b (t := (2, 2, 0)) hk0 (by decide) rfl rfl hm.1 dX11_redeemFrom_55 ?_
            refine jj_iload C dX11_redeemFrom_58 rfl ?_
            refine jj_iconst (v := 2) C dX11_redeemFrom_60 (by decide) ?_
            refine jj_iadd (v := nI (48 + 6 * k_2)) C dX11_redeemFrom_61 (rl_addR (kn := 2) (by decide) (by omega)) ?_
            refine rl_lald C hok (t := (1, (-9223372036854775808), 9223372036854775807)) hkw (by decide) rfl (k := 48 + 6 * k_2) (v := (g_4 (48 + 6 * k_2))) (vp_in_nI (by omega) (by decide)) hC_5 (nI_clamp (by omega)) rfl dX11_redeemFrom_62 ?_
            refine tt_call0S (rest := []) C (ct_J9_min_f86c9_1 hl D cA ak y_3 (g_4 (48 + 6 * k_2))) jw_43e83b8e67 jw_a0cddbe894 jw_a731c8553d jw_e0e7ffaaeb jn_J9_min_f86c9 rfl (jj_le rfl) (jj_le rfl) (jj_le rfl) (jj_le rfl) (jj_le rfl) dX11_redeemFrom_63 rfl (fun w1 r O_63 => ?_)
            rcases O_63 with ⟨c_64, -, rfl⟩ | ⟨c_65, -, rfl⟩
            · have z_c_64 := jc_ltL (a := (g_4 (48 + 6 * k_2)).toInt) (b := y_3.toInt) c_64 rfl rfl
              refine jj_lstore C dX11_redeemFrom_66 (by decide) rfl ?_
              refine jj_aload_n C dX11_redeemFrom_68 rfl ?_
              refine jj_iload C dX11_redeemFrom_69 rfl ?_
              refine jj_lload C dX11_redeemFrom_71 rfl ?_
              obtain ⟨qc, gs, hqc⟩ := tt_recv (cx := []) hok hk0 (by decide) rfl
              refine tt_callV (rest := []) C (rs_use hl D cA ak k_2 (g_4 (48 + 6 * k_2)) B g_4 hk0 hkw hka hkt hki hkf hkp (by unfold rnL; omega) (by omega) (by omega) hD_6.1 hB hok hm hC_5) [] [] rfl rfl (by decide) (by decide) (by decide) qc hqc rfl rfl jw_a5e9e74f88 jw_37412ac86e jw_d3614e247b jw_f96c99f44d jw_fb0beaaae0 jn_X11_use rfl (jj_le rfl) (jj_le rfl) (jj_le rfl) (jj_le rfl) (jj_le rfl) dX11_redeemFrom_73 rfl (fun _ _ _ hX => hX.elim) (fun rx pl_66 r O_70 => ?_)
              obtain ⟨rfl, hok_67, hr_68, ha_69, hR_71⟩ := O_70
              replace hm := hm.fr hr_68 hk0 rfl
              replace hfr := hfr.trans (hr_68.sub (by decide))
              replace hfa := hfa.trans (ha_69.sub (by decide))
              obtain ⟨g_72, hC_73, hI_74, hT_75, hF_76, hG_77, rfl⟩ := hR_71
              have hHg_72 := hI_74.1.1
              obtain ⟨⟨g0ag_72, g0bg_72⟩, ⟨g1ag_72, g1bg_72⟩, ⟨g6ag_72, g6bg_72⟩, ⟨g7ag_72, g7bg_72⟩, ⟨g8ag_72, g8bg_72⟩⟩ := hHg_72
              refine jj_lload C dX11_redeemFrom_76 rfl ?_
              refine jj_lload C dX11_redeemFrom_78 rfl ?_
              refine jj_lsub C dX11_redeemFrom_80 rfl ?_
              refine jj_lstore C dX11_redeemFrom_81 (by decide) rfl ?_
              refine jj_iinc (v := nI (1 + k_2)) C dX11_redeemFrom_83 rfl (rl_addR (kn := 1) (by decide) (by omega)) (by decide) rfl ?_
              refine jj_goto (tgt := 6) C dX11_redeemFrom_86 (by decide) ?_
              refine jj_loc [0, 1, 4, 5, 6] rfl ?_
              exact ihL_1 pl_66 (1 + k_2) (y_3 - (g_4 (48 + 6 * k_2))) g_72 hok_67 hfr hfa hm hC_73 (hD_6.use hI_74 hT_75 hF_76 (by omega)) (by first | omega | decide | exact tt_lo _ | exact tt_hi _) (by first | omega | decide | exact tt_lo _ | exact tt_hi _) (by first | omega | decide | exact tt_lo _ | exact tt_hi _)
            · have z_c_65 := jc_nltL (a := (g_4 (48 + 6 * k_2)).toInt) (b := y_3.toInt) c_65 rfl rfl
              refine jj_lstore C dX11_redeemFrom_66 (by decide) rfl ?_
              refine jj_aload_n C dX11_redeemFrom_68 rfl ?_
              refine jj_iload C dX11_redeemFrom_69 rfl ?_
              refine jj_lload C dX11_redeemFrom_71 rfl ?_
              obtain ⟨qc, gs, hqc⟩ := tt_recv (cx := []) hok hk0 (by decide) rfl
              refine tt_callV (rest := []) C (rs_use hl D cA ak k_2 y_3 B g_4 hk0 hkw hka hkt hki hkf hkp (by unfold rnL; omega) (by omega) (by omega) hD_6.1 hB hok hm hC_5) [] [] rfl rfl (by decide) (by decide) (by decide) qc hqc rfl rfl jw_a5e9e74f88 jw_37412ac86e jw_d3614e247b jw_f96c99f44d jw_fb0beaaae0 jn_X11_use rfl (jj_le rfl) (jj_le rfl) (jj_le rfl) (jj_le rfl) (jj_le rfl) dX11_redeemFrom_73 rfl (fun _ _ _ hX => hX.elim) (fun rx pl_78 r O_82 => ?_)
              obtain ⟨rfl, hok_79, hr_80, ha_81, hR_83⟩ := O_82
              replace hm := hm.fr hr_80 hk0 rfl
              replace hfr := hfr.trans (hr_80.sub (by decide))
              replace hfa := hfa.trans (ha_81.sub (by decide))
              obtain ⟨g_84, hC_85, hI_86, hT_87, hF_88, hG_89, rfl⟩ := hR_83
              have hHg_84 := hI_86.1.1
              obtain ⟨⟨g0ag_84, g0bg_84⟩, ⟨g1ag_84, g1bg_84⟩, ⟨g6ag_84, g6bg_84⟩, ⟨g7ag_84, g7bg_84⟩, ⟨g8ag_84, g8bg_84⟩⟩ := hHg_84
              refine jj_lload C dX11_redeemFrom_76 rfl ?_
              refine jj_lload C dX11_redeemFrom_78 rfl ?_
              refine jj_lsub C dX11_redeemFrom_80 rfl ?_
              refine jj_lstore C dX11_redeemFrom_81 (by decide) rfl ?_
              refine jj_iinc (v := nI (1 + k_2)) C dX11_redeemFrom_83 rfl (rl_addR (kn := 1) (by decide) (by omega)) (by decide) rfl ?_
              refine jj_goto (tgt := 6) C dX11_redeemFrom_86 (by decide) ?_
              refine jj_loc [0, 1, 4, 5, 6] rfl ?_
              exact ihL_1 pl_78 (1 + k_2) (y_3 - y_3) g_84 hok_79 hfr hfa hm hC_85 (hD_6.use hI_86 hT_87 hF_88 (by omega)) (by first | omega | decide | exact tt_lo _ | exact tt_hi _) (by first | omega | decide | exact tt_lo _ | exact tt_hi _) (by first | omega | decide | exact tt_lo _ | exact tt_hi _)
          · have z_c_62 := jc_neqL (a := (g_4 (46 + 6 * k_2)).toInt) (b := y_61.toInt) c_62 rfl rfl
            refine jj_goto (tgt := 83) C dX11_redeemFrom_49 (by decide) ?_
            refine jj_iinc (v := nI (1 + k_2)) C dX11_redeemFrom_83 rfl (rl_addR (kn := 1) (by decide) (by omega)) (by decide) rfl ?_
            refine jj_goto (tgt := 6) C dX11_redeemFrom_86 (by decide) ?_
            refine jj_loc [0, 2, 3, 4, 5] rfl ?_
            exact ihL_1 pl (1 + k_2) y_3 g_4 hok hfr hfa hm hC_5 hD_6.next (by first | omega | decide | exact tt_lo _ | exact tt_hi _) (by first | omega | decide | exact tt_lo _ | exact tt_hi _) (by first | omega | decide | exact tt_lo _ | exact tt_hi _)
  exact hL_1 _ pl0 0 p2 f trivial hok hfr hfa hm hC ⟨hI, Int.le_refl _, fun _ _ _ => rfl, fun a _ ha => hP.1 a ha⟩ (by first | omega | decide | exact tt_lo _ | exact tt_hi _) (by first | omega | decide | exact tt_lo _ | exact tt_hi _) (Int.self_le_toNat _)
