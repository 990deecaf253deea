set_option maxHeartbeats 4000000 in
set_option maxRecDepth 100000 in
theorem tc_X1_payAfterRate_1 {l : Launch} (hl : l.stackTraces = false) (D : va_G) (cA : Nat → ClassId) (ak : (Nat → Nat) × (Nat → Nat)) {Kd : Nat → Nat} (h0 : Nat) (h1 : Nat) (p2 : Int32) (p3 : Int32) (hk0 : Kd h0 = 9) (hk1 : Kd h1 = 1) {pl0 : va_W} (hok : tt_ok tt_tk cA Kd pl0) : jj_M l D cA ak yX1_payAfterRate (.code yX1_payAfterRate cX1_payAfterRate 4 (some .long)) 3 88 0 0 ([] ++ pl0) [.ref h0, .ref h1, .int p2, .int p3] (tt_O (fun rx pl1 r => rx = [] ∧ tt_ok tt_tk cA Kd pl1 ∧ tt_fr Kd [(2, 0), (2, 1), (2, 2), (2, 3), (2, 4), (9, 1), (9, 2), (9, 3), (9, 4), (9, 5)] pl0 pl1 ∧ tt_fa Kd [] pl0 pl1 ∧ ((∃ v : Int64, r = some (.long v))))) (tt_OX (fun _ _ _ => False)) := by
  refine jj_start hl (by decide) jw_8658218399 (jj_le rfl) ?_
  intro p e s m args below meth c A hargs hA C hex hmn
  have hfr := tt_fr.refl (K := Kd) (WS := [(2, 0), (2, 1), (2, 2), (2, 3), (2, 4), (9, 1), (9, 2), (9, 3), (9, 4), (9, 5)]) pl0
  have hfa := tt_fa.refl (K := Kd) (WA := []) pl0
  have lp2 := tt_lo p2
  have up2 := tt_hi p2
  have lp3 := tt_lo p3
  have up3 := tt_hi p3
  refine jj_aload_n C dX1_payAfterRate_0 rfl ?_
  refine jj_aload_n C dX1_payAfterRate_1 rfl ?_
  refine jj_iload_n C dX1_payAfterRate_2 rfl ?_
  obtain ⟨qc, gs, hqc⟩ := tt_recv (cx := []) hok hk0 (by decide) rfl
  refine tt_callV (rest := []) C (tc_X1_resetTrial_2 hl D cA ak h0 h1 p3 hk0 hk1 hok) [] [] rfl rfl (by decide) (by decide) (by decide) qc hqc rfl rfl jw_e4af616004 jw_bacc1607b6 jw_d2d28ff2fc jw_944cf9c3ab jw_94abfb5ed9 jn_X1_resetTrial rfl (jj_le rfl) (jj_le rfl) (jj_le rfl) (jj_le rfl) (jj_le rfl) dX1_payAfterRate_3 rfl (fun _ _ _ hX => hX.elim) (fun rx pl_1 r O_4 => ?_)
  obtain ⟨rfl, hok_2, hr_3, hfa9, hR_6⟩ := O_4
  replace hfr := hfr.trans (hr_3.sub (by decide))
  replace hfa := hfa.trans (hfa9.sub (by decide))
  obtain rfl := hR_6
  refine jj_aload_n C dX1_payAfterRate_6 rfl ?_
  refine jj_aload_n C dX1_payAfterRate_7 rfl ?_
  refine jj_iload_n C dX1_payAfterRate_8 rfl ?_
  refine jj_ldc2 (v := 9223372036854775807) C dX1_payAfterRate_9 jw_0ae03504c0 ?_
  refine jj_iconst (v := 1) C dX1_payAfterRate_12 (by decide) ?_
  obtain ⟨qc, gs, hqc⟩ := tt_recv (cx := []) hok_2 hk0 (by decide) rfl
  refine tt_callV (rest := []) C (tc_X1_tryRedemption_2 hl D cA ak h0 h1 p2 hk0 hk1 hok_2) [] [] rfl rfl (by decide) (by decide) (by decide) qc hqc rfl rfl jw_484ec097f9 jw_eb03746c8c jw_a203910c50 jw_944cf9c3ab jw_a452736dc6 jn_X1_tryRedemption rfl (jj_le rfl) (jj_le rfl) (jj_le rfl) (jj_le rfl) (jj_le rfl) dX1_payAfterRate_13 rfl (fun _ _ _ hX => hX.elim) (fun rx pl_9 r O_12 => ?_)
  obtain ⟨rfl, hok_10, hr_11, hfa9, hR_14⟩ := O_12
  replace hfr := hfr.trans (hr_11.sub (by decide))
  replace hfa := hfa.trans (hfa9.sub (by decide))
  obtain ⟨y_17, rfl⟩ := hR_14
  exact jj_lret C ⟨[], pl_9, rfl, rfl, hok_10, hfr, hfa, ⟨y_17, rfl⟩⟩ dX1_payAfterRate_16 (jj_le rfl) (jj_le rfl)

set_option maxHeartbeats 4000000 in
set_option maxRecDepth 100000 in
theorem tc_X10_firstRateInReach_1 {l : Launch} (hl : l.stackTraces = false) (D : va_G) (cA : Nat → ClassId) (ak : (Nat → Nat) × (Nat → Nat)) {Kd : Nat → Nat} (h0 : Nat) (p1 : Int32) (p2 : Int64) (hk0 : Kd h0 = 15) {pl0 : va_W} (hok : tt_ok tt_tk cA Kd pl0) : jj_M l D cA ak yX10_firstRateInReach (.code yX10_firstRateInReach cX10_firstRateInReach 10 (some .int)) 4 111 0 0 ([] ++ pl0) [.ref h0, .int p1, .long p2] (tt_O (fun rx pl1 r => rx = [] ∧ tt_ok tt_tk cA Kd pl1 ∧ tt_fr Kd [(2, 0), (2, 1), (2, 2), (2, 3), (2, 4), (9, 1), (9, 2), (9, 3), (9, 4), (9, 5)] pl0 pl1 ∧ tt_fa Kd [] pl0 pl1 ∧ ((∃ v : Int32, (-2147483648 : Int) ≤ v.toInt ∧ v.toInt ≤ 2147483647 ∧ r = some (.int v))))) (tt_OX (fun _ _ _ => False)) := by
  refine jj_start hl (by decide) jw_cde1a8bddd (jj_le rfl) ?_
  intro p e s m args below meth c A hargs hA C hex hmn
  have hfr := tt_fr.refl (K := Kd) (WS := [(2, 0), (2, 1), (2, 2), (2, 3), (2, 4), (9, 1), (9, 2), (9, 3), (9, 4), (9, 5)]) pl0
  have hfa := tt_fa.refl (K := Kd) (WA := []) pl0
  have lp1 := tt_lo p1
  have up1 := tt_hi p1
  refine jj_aload_n C dX10_firstRateInReach_0 rfl ?_
  refine tt_get C hok jk_11 3 (by decide) jw_f82a97e333 (t := (2, 1, 0)) hk0 (by decide) rfl rfl dX10_firstRateInReach_1 (fun v_1 hv_1 hf_2 => ?_)
  obtain ⟨a_3, rfl, ka_3⟩ := tt_vr hv_1
  refine jj_iload_n C dX10_firstRateInReach_4 rfl ?_
  obtain ⟨qc, gs, hqc⟩ := tt_recv (cx := []) hok ka_3 (by decide) rfl
  refine tt_callV (rest := []) C (tc_X0_fallOfPay_1 hl D cA ak a_3 p1 ka_3 hok) [] [] rfl rfl (by decide) (by decide) (by decide) qc hqc rfl rfl jw_cb1732db9c jw_04bf8fa913 jw_f0b6d3e43c jw_7d25d4fd32 jw_7e5e56ada0 jn_X0_fallOfPay rfl (jj_le rfl) (jj_le rfl) (jj_le rfl) (jj_le rfl) (jj_le rfl) dX10_firstRateInReach_5 rfl (fun _ _ _ hX => hX.elim) (fun rx pl_4 r O_7 => ?_)
  obtain ⟨rfl, hok_5, hr_6, hfa9, hR_9⟩ := O_7
  replace hf_2 := hr_6.at hk0 (by decide) (by decide) hf_2
  replace hfr := hfr.trans (hr_6.sub (by decide))
  replace hfa := hfa.trans (hfa9.sub (by decide))
  obtain ⟨y_12, rfl⟩ := hR_9
  refine jj_lstore C dX10_firstRateInReach_8 (by decide) rfl ?_
  refine jj_sipush (v := (-9000)) C dX10_firstRateInReach_10 (by decide) ?_
  refine jj_istore C dX10_firstRateInReach_13 (by decide) rfl ?_
  refine jj_sipush (v := 10000) C dX10_firstRateInReach_15 (by decide) ?_
  refine jj_istore C dX10_firstRateInReach_18 (by decide) rfl ?_
  refine jj_iconst (v := 0) C dX10_firstRateInReach_20 (by decide) ?_
  refine jj_istore C dX10_firstRateInReach_21 (by decide) rfl ?_
  have hL_13 : ∀ (N : Nat) (pl : va_W) (x_14 : Int32) (x_15 : Int32) (x_16 : Int32), True → tt_ok tt_tk cA Kd pl → tt_fr Kd [(2, 0), (2, 1), (2, 2), (2, 3), (2, 4), (9, 1), (9, 2), (9, 3), (9, 4), (9, 5)] pl0 pl → tt_fa Kd [] pl0 pl → tt_at pl h0 3 (.ref a_3) → (0 : Int) ≤ x_14.toInt → x_14.toInt ≤ 40 → (-2147483648 : Int) ≤ x_15.toInt → x_15.toInt ≤ 2147483647 → (-2147483648 : Int) ≤ x_16.toInt → x_16.toInt ≤ 2147483647 → (2147483648 - x_14.toInt ≤ (N : Int)) → jj_J p l e (jj_rm 4 111 0 0) s m args below meth c 10 A (vx_MQ below (jj_q D A (tt_O (fun rx pl1 r => rx = [] ∧ tt_ok tt_tk cA Kd pl1 ∧ tt_fr Kd [(2, 0), (2, 1), (2, 2), (2, 3), (2, 4), (9, 1), (9, 2), (9, 3), (9, 4), (9, 5)] pl0 pl1 ∧ tt_fa Kd [] pl0 pl1 ∧ ((∃ v : Int32, (-2147483648 : Int) ≤ v.toInt ∧ v.toInt ≤ 2147483647 ∧ r = some (.int v)))))) (jj_x D A (tt_OX (fun _ _ _ => False))) args s 0 0 A) (jj_X D A ([] ++ pl)) 0 0 23 [(8, .int x_14), (7, .int x_15), (6, .int x_16), (4, .long y_12), (0, .ref h0), (1, .int p1), (2, .long p2)] [] := by
    intro NL_13
    induction NL_13 with
    | zero => intro pl x_14 x_15 x_16 _ hok hfr hfa hf_17 lx_14 ux_14 lx_15 ux_15 lx_16 ux_16 hNL_13; exfalso; omega
    | succ NL_13 ihL_13 =>
      intro pl x_14 x_15 x_16 _ hok hfr hfa hf_17 lx_14 ux_14 lx_15 ux_15 lx_16 ux_16 hNL_13
      replace ihL_13 := fun pl x_14 x_15 x_16 h1 => ihL_13 pl x_14 x_15 x_16 trivial h1
      refine jj_iload C dX10_firstRateInReach_23 rfl ?_
      refine jj_bipush (v := 32) C dX10_firstRateInReach_25 (by decide) ?_
      refine jj_icmp_ge (tgt := 89) C dX10_firstRateInReach_27 (by decide) (fun c_18 => ?_) (fun c_18 => ?_)
      · have z_c_18 := jc_le (a := (32)) (b := (x_14).toInt) c_18 (by decide) rfl
        refine jj_iload C dX10_firstRateInReach_89 rfl ?_
        exact jj_iret C ⟨[], pl, rfl, rfl, hok, hfr, hfa, ⟨x_16, (by first | omega | exact tt_lo _ | exact tt_hi _), (by first | omega | exact tt_lo _ | exact tt_hi _), rfl⟩⟩ dX10_firstRateInReach_91 (jj_le rfl) (jj_le rfl)
      · have z_c_18 := jc_nle (a := (32)) (b := (x_14).toInt) c_18 (by decide) rfl
        refine jj_iload C dX10_firstRateInReach_30 rfl ?_
        refine jj_iload C dX10_firstRateInReach_32 rfl ?_
        refine jj_icmp_ge (tgt := 89) C dX10_firstRateInReach_34 (by decide) (fun c_19 => ?_) (fun c_19 => ?_)
        · have z_c_19 := jc_le (a := (x_15).toInt) (b := (x_16).toInt) c_19 rfl rfl
          refine jj_iload C dX10_firstRateInReach_89 rfl ?_
          exact jj_iret C ⟨[], pl, rfl, rfl, hok, hfr, hfa, ⟨x_16, (by first | omega | exact tt_lo _ | exact tt_hi _), (by first | omega | exact tt_lo _ | exact tt_hi _), rfl⟩⟩ dX10_firstRateInReach_91 (jj_le rfl) (jj_le rfl)
        · have z_c_19 := jc_nle (a := (x_15).toInt) (b := (x_16).toInt) c_19 rfl rfl
          refine jj_iload C dX10_firstRateInReach_37 rfl ?_
          refine jj_iload C dX10_firstRateInReach_39 rfl ?_
          obtain ⟨x_20, ex_20⟩ : ∃ z : Int32, x_16 + x_15 = z := ⟨_, rfl⟩
          refine jj_iadd (v := x_20) C dX10_firstRateInReach_41 ex_20 ?_
          refine jj_iconst (v := 2) C dX10_firstRateInReach_42 (by decide) ?_
          refine tt_call0S (rest := []) C (ct_J9_floorDiv_7cf53_1 hl D cA ak x_20) jw_bdc927d6c1 jw_7ca1dfa404 jw_a731c8553d jw_44648bf58a jn_J9_floorDiv_7cf53 rfl (jj_le rfl) (jj_le rfl) (jj_le rfl) (jj_le rfl) (jj_le rfl) dX10_firstRateInReach_43 rfl (fun w1 r O_21 => ?_)
          rcases O_21 with ⟨c_22, -, rfl⟩ | ⟨c_23, c_24, -, rfl⟩ | ⟨c_25, c_26, -, rfl⟩
          · refine jj_istore C dX10_firstRateInReach_46 (by decide) rfl ?_
            refine jj_aload_n C dX10_firstRateInReach_48 rfl ?_
            refine tt_get C hok jk_11 5 (by decide) jw_34b8702fe2 (t := (2, 9, 0)) hk0 (by decide) rfl rfl dX10_firstRateInReach_49 (fun v_27 hv_27 hf_28 => ?_)
            obtain ⟨a_29, rfl, ka_29⟩ := tt_vr hv_27
            refine jj_aload_n C dX10_firstRateInReach_52 rfl ?_
            refine tt_getF C hok jk_11 3 (by decide) jw_f82a97e333 (t := (2, 1, 0)) hk0 (by decide) rfl rfl hf_17 dX10_firstRateInReach_53 ?_
            refine jj_iload_n C dX10_firstRateInReach_56 rfl ?_
            refine jj_iload C dX10_firstRateInReach_57 rfl ?_
            obtain ⟨qc, gs, hqc⟩ := tt_recv (cx := []) hok ka_29 (by decide) rfl
            refine tt_callV (rest := []) C (tc_X1_payAfterRate_1 hl D cA ak a_29 a_3 p1 (x_20 / 2) ka_29 ka_3 hok) [] [] rfl rfl (by decide) (by decide) (by decide) qc hqc rfl rfl jw_40c49444b1 jw_86c6c6dedf jw_610440679d jw_944cf9c3ab jw_8658218399 jn_X1_payAfterRate rfl (jj_le rfl) (jj_le rfl) (jj_le rfl) (jj_le rfl) (jj_le rfl) dX10_firstRateInReach_59 rfl (fun _ _ _ hX => hX.elim) (fun rx pl_30 r O_33 => ?_)
            obtain ⟨rfl, hok_31, hr_32, hfa9, hR_35⟩ := O_33
            replace hf_17 := hr_32.at hk0 (by decide) (by decide) hf_17
            replace hf_28 := hr_32.at hk0 (by decide) (by decide) hf_28
            replace hfr := hfr.trans (hr_32.sub (by decide))
            replace hfa := hfa.trans (hfa9.sub (by decide))
            obtain ⟨y_38, rfl⟩ := hR_35
            refine jj_lload C dX10_firstRateInReach_62 rfl ?_
            obtain ⟨y_39, ey_39⟩ : ∃ z : Int64, y_38 + y_12 = z := ⟨_, rfl⟩
            refine jj_ladd (v := y_39) C dX10_firstRateInReach_64 ey_39 ?_
            refine jj_lload_n C dX10_firstRateInReach_65 rfl ?_
            refine jj_lcmp_ge (tgt := 79) C dX10_firstRateInReach_66 dX10_firstRateInReach_67 (by decide) (fun c_40 => ?_) (fun c_40 => ?_)
            · refine jj_iload C dX10_firstRateInReach_79 rfl ?_
              refine jj_istore C dX10_firstRateInReach_81 (by decide) rfl ?_
              obtain ⟨x_41, ex_41, vx_41⟩ := tt_inc (x := x_14) (n := 1) (by omega) (by omega)
              refine jj_iinc (v := x_41) C dX10_firstRateInReach_83 rfl ex_41 (by decide) rfl ?_
              refine jj_goto (tgt := 23) C dX10_firstRateInReach_86 (by decide) ?_
              refine jj_loc [0, 1, 3, 4, 5, 6, 7] rfl ?_
              exact ihL_13 pl_30 x_41 (x_20 / 2) x_16 hok_31 hfr hfa hf_17 (by first | omega | decide | exact tt_lo _ | exact tt_hi _) (by first | omega | decide | exact tt_lo _ | exact tt_hi _) (by first | omega | decide | exact tt_lo _ | exact tt_hi _) (by first | omega | decide | exact tt_lo _ | exact tt_hi _) (by first | omega | decide | exact tt_lo _ | exact tt_hi _) (by first | omega | decide | exact tt_lo _ | exact tt_hi _) (by first | omega | decide | exact tt_lo _ | exact tt_hi _)
            · refine jj_iload C dX10_firstRateInReach_70 rfl ?_
              refine jj_iconst (v := 1) C dX10_firstRateInReach_72 (by decide) ?_
              obtain ⟨x_42, ex_42⟩ : ∃ z : Int32, (x_20 / 2) + (1 : Int32) = z := ⟨_, rfl⟩
              refine jj_iadd (v := x_42) C dX10_firstRateInReach_73 ex_42 ?_
              refine jj_istore C dX10_firstRateInReach_74 (by decide) rfl ?_
              refine jj_goto (tgt := 83) C dX10_firstRateInReach_76 (by decide) ?_
              obtain ⟨x_43, ex_43, vx_43⟩ := tt_inc (x := x_14) (n := 1) (by omega) (by omega)
              refine jj_iinc (v := x_43) C dX10_firstRateInReach_83 rfl ex_43 (by decide) rfl ?_
              refine jj_goto (tgt := 23) C dX10_firstRateInReach_86 (by decide) ?_
              refine jj_loc [0, 3, 1, 4, 5, 6, 7] rfl ?_
              exact ihL_13 pl_30 x_43 x_15 x_42 hok_31 hfr hfa hf_17 (by first | omega | decide | exact tt_lo _ | exact tt_hi _) (by first | omega | decide | exact tt_lo _ | exact tt_hi _) (by first | omega | decide | exact tt_lo _ | exact tt_hi _) (by first | omega | decide | exact tt_lo _ | exact tt_hi _) (by first | omega | decide | exact tt_lo _ | exact tt_hi _) (by first | omega | decide | exact tt_lo _ | exact tt_hi _) (by first | omega | decide | exact tt_lo _ | exact tt_hi _)
          · refine jj_istore C dX10_firstRateInReach_46 (by decide) rfl ?_
            refine jj_aload_n C dX10_firstRateInReach_48 rfl ?_
            refine tt_get C hok jk_11 5 (by decide) jw_34b8702fe2 (t := (2, 9, 0)) hk0 (by decide) rfl rfl dX10_firstRateInReach_49 (fun v_44 hv_44 hf_45 => ?_)
            obtain ⟨a_46, rfl, ka_46⟩ := tt_vr hv_44
            refine jj_aload_n C dX10_firstRateInReach_52 rfl ?_
            refine tt_getF C hok jk_11 3 (by decide) jw_f82a97e333 (t := (2, 1, 0)) hk0 (by decide) rfl rfl hf_17 dX10_firstRateInReach_53 ?_
            refine jj_iload_n C dX10_firstRateInReach_56 rfl ?_
            refine jj_iload C dX10_firstRateInReach_57 rfl ?_
            obtain ⟨qc, gs, hqc⟩ := tt_recv (cx := []) hok ka_46 (by decide) rfl
            refine tt_callV (rest := []) C (tc_X1_payAfterRate_1 hl D cA ak a_46 a_3 p1 (x_20 / 2) ka_46 ka_3 hok) [] [] rfl rfl (by decide) (by decide) (by decide) qc hqc rfl rfl jw_40c49444b1 jw_86c6c6dedf jw_610440679d jw_944cf9c3ab jw_8658218399 jn_X1_payAfterRate rfl (jj_le rfl) (jj_le rfl) (jj_le rfl) (jj_le rfl) (jj_le rfl) dX10_firstRateInReach_59 rfl (fun _ _ _ hX => hX.elim) (fun rx pl_47 r O_50 => ?_)
            obtain ⟨rfl, hok_48, hr_49, hfa9, hR_52⟩ := O_50
            replace hf_17 := hr_49.at hk0 (by decide) (by decide) hf_17
            replace hf_45 := hr_49.at hk0 (by decide) (by decide) hf_45
            replace hfr := hfr.trans (hr_49.sub (by decide))
            replace hfa := hfa.trans (hfa9.sub (by decide))
            obtain ⟨y_55, rfl⟩ := hR_52
            refine jj_lload C dX10_firstRateInReach_62 rfl ?_
            obtain ⟨y_56, ey_56⟩ : ∃ z : Int64, y_55 + y_12 = z := ⟨_, rfl⟩
            refine jj_ladd (v := y_56) C dX10_firstRateInReach_64 ey_56 ?_
            refine jj_lload_n C dX10_firstRateInReach_65 rfl ?_
            refine jj_lcmp_ge (tgt := 79) C dX10_firstRateInReach_66 dX10_firstRateInReach_67 (by decide) (fun c_57 => ?_) (fun c_57 => ?_)
            · refine jj_iload C dX10_firstRateInReach_79 rfl ?_
              refine jj_istore C dX10_firstRateInReach_81 (by decide) rfl ?_
              obtain ⟨x_58, ex_58, vx_58⟩ := tt_inc (x := x_14) (n := 1) (by omega) (by omega)
              refine jj_iinc (v := x_58) C dX10_firstRateInReach_83 rfl ex_58 (by decide) rfl ?_
              refine jj_goto (tgt := 23) C dX10_firstRateInReach_86 (by decide) ?_
              refine jj_loc [0, 1, 3, 4, 5, 6, 7] rfl ?_
              exact ihL_13 pl_47 x_58 (x_20 / 2) x_16 hok_48 hfr hfa hf_17 (by first | omega | decide | exact tt_lo _ | exact tt_hi _) (by first | omega | decide | exact tt_lo _ | exact tt_hi _) (by first | omega | decide | exact tt_lo _ | exact tt_hi _) (by first | omega | decide | exact tt_lo _ | exact tt_hi _) (by first | omega | decide | exact tt_lo _ | exact tt_hi _) (by first | omega | decide | exact tt_lo _ | exact tt_hi _) (by first | omega | decide | exact tt_lo _ | exact tt_hi _)
            · refine jj_iload C dX10_firstRateInReach_70 rfl ?_
              refine jj_iconst (v := 1) C dX10_firstRateInReach_72 (by decide) ?_
              obtain ⟨x_59, ex_59⟩ : ∃ z : Int32, (x_20 / 2) + (1 : Int32) = z := ⟨_, rfl⟩
              refine jj_iadd (v := x_59) C dX10_firstRateInReach_73 ex_59 ?_
              refine jj_istore C dX10_firstRateInReach_74 (by decide) rfl ?_
              refine jj_goto (tgt := 83) C dX10_firstRateInReach_76 (by decide) ?_
              obtain ⟨x_60, ex_60, vx_60⟩ := tt_inc (x := x_14) (n := 1) (by omega) (by omega)
              refine jj_iinc (v := x_60) C dX10_firstRateInReach_83 rfl ex_60 (by decide) rfl ?_
              refine jj_goto (tgt := 23) C dX10_firstRateInReach_86 (by decide) ?_
              refine jj_loc [0, 3, 1, 4, 5, 6, 7] rfl ?_
              exact ihL_13 pl_47 x_60 x_15 x_59 hok_48 hfr hfa hf_17 (by first | omega | decide | exact tt_lo _ | exact tt_hi _) (by first | omega | decide | exact tt_lo _ | exact tt_hi _) (by first | omega | decide | exact tt_lo _ | exact tt_hi _) (by first | omega | decide | exact tt_lo _ | exact tt_hi _) (by first | omega | decide | exact tt_lo _ | exact tt_hi _) (by first | omega | decide | exact tt_lo _ | exact tt_hi _) (by first | omega | decide | exact tt_lo _ | exact tt_hi _)
          · refine jj_istore C dX10_firstRateInReach_46 (by decide) rfl ?_
            refine jj_aload_n C dX10_firstRateInReach_48 rfl ?_
            refine tt_get C hok jk_11 5 (by decide) jw_34b8702fe2 (t := (2, 9, 0)) hk0 (by decide) rfl rfl dX10_firstRateInReach_49 (fun v_61 hv_61 hf_62 => ?_)
            obtain ⟨a_63, rfl, ka_63⟩ := tt_vr hv_61
            refine jj_aload_n C dX10_firstRateInReach_52 rfl ?_
            refine tt_getF C hok jk_11 3 (by decide) jw_f82a97e333 (t := (2, 1, 0)) hk0 (by decide) rfl rfl hf_17 dX10_firstRateInReach_53 ?_
            refine jj_iload_n C dX10_firstRateInReach_56 rfl ?_
            refine jj_iload C dX10_firstRateInReach_57 rfl ?_
            obtain ⟨qc, gs, hqc⟩ := tt_recv (cx := []) hok ka_63 (by decide) rfl
            refine tt_callV (rest := []) C (tc_X1_payAfterRate_1 hl D cA ak a_63 a_3 p1 ((x_20 / 2) - 1) ka_63 ka_3 hok) [] [] rfl rfl (by decide) (by decide) (by decide) qc hqc rfl rfl jw_40c49444b1 jw_86c6c6dedf jw_610440679d jw_944cf9c3ab jw_8658218399 jn_X1_payAfterRate rfl (jj_le rfl) (jj_le rfl) (jj_le rfl) (jj_le rfl) (jj_le rfl) dX10_firstRateInReach_59 rfl (fun _ _ _ hX => hX.elim) (fun rx pl_64 r O_67 => ?_)
            obtain ⟨rfl, hok_65, hr_66, hfa9, hR_69⟩ := O_67
            replace hf_17 := hr_66.at hk0 (by decide) (by decide) hf_17
            replace hf_62 := hr_66.at hk0 (by decide) (by decide) hf_62
            replace hfr := hfr.trans (hr_66.sub (by decide))
            replace hfa := hfa.trans (hfa9.sub (by decide))
            obtain ⟨y_72, rfl⟩ := hR_69
            refine jj_lload C dX10_firstRateInReach_62 rfl ?_
            obtain ⟨y_73, ey_73⟩ : ∃ z : Int64, y_72 + y_12 = z := ⟨_, rfl⟩
            refine jj_ladd (v := y_73) C dX10_firstRateInReach_64 ey_73 ?_
            refine jj_lload_n C dX10_firstRateInReach_65 rfl ?_
            refine jj_lcmp_ge (tgt := 79) C dX10_firstRateInReach_66 dX10_firstRateInReach_67 (by decide) (fun c_74 => ?_) (fun c_74 => ?_)
            · refine jj_iload C dX10_firstRateInReach_79 rfl ?_
              refine jj_istore C dX10_firstRateInReach_81 (by decide) rfl ?_
              obtain ⟨x_75, ex_75, vx_75⟩ := tt_inc (x := x_14) (n := 1) (by omega) (by omega)
              refine jj_iinc (v := x_75) C dX10_firstRateInReach_83 rfl ex_75 (by decide) rfl ?_
              refine jj_goto (tgt := 23) C dX10_firstRateInReach_86 (by decide) ?_
              refine jj_loc [0, 1, 3, 4, 5, 6, 7] rfl ?_
              exact ihL_13 pl_64 x_75 ((x_20 / 2) - 1) x_16 hok_65 hfr hfa hf_17 (by first | omega | decide | exact tt_lo _ | exact tt_hi _) (by first | omega | decide | exact tt_lo _ | exact tt_hi _) (by first | omega | decide | exact tt_lo _ | exact tt_hi _) (by first | omega | decide | exact tt_lo _ | exact tt_hi _) (by first | omega | decide | exact tt_lo _ | exact tt_hi _) (by first | omega | decide | exact tt_lo _ | exact tt_hi _) (by first | omega | decide | exact tt_lo _ | exact tt_hi _)
            · refine jj_iload C dX10_firstRateInReach_70 rfl ?_
              refine jj_iconst (v := 1) C dX10_firstRateInReach_72 (by decide) ?_
              obtain ⟨x_76, ex_76⟩ : ∃ z : Int32, ((x_20 / 2) - 1) + (1 : Int32) = z := ⟨_, rfl⟩
              refine jj_iadd (v := x_76) C dX10_firstRateInReach_73 ex_76 ?_
              refine jj_istore C dX10_firstRateInReach_74 (by decide) rfl ?_
              refine jj_goto (tgt := 83) C dX10_firstRateInReach_76 (by decide) ?_
              obtain ⟨x_77, ex_77, vx_77⟩ := tt_inc (x := x_14) (n := 1) (by omega) (by omega)
              refine jj_iinc (v := x_77) C dX10_firstRateInReach_83 rfl ex_77 (by decide) rfl ?_
              refine jj_goto (tgt := 23) C dX10_firstRateInReach_86 (by decide) ?_
              refine jj_loc [0, 3, 1, 4, 5, 6, 7] rfl ?_
              exact ihL_13 pl_64 x_77 x_15 x_76 hok_65 hfr hfa hf_17 (by first | omega | decide | exact tt_lo _ | exact tt_hi _) (by first | omega | decide | exact tt_lo _ | exact tt_hi _) (by first | omega | decide | exact tt_lo _ | exact tt_hi _) (by first | omega | decide | exact tt_lo _ | exact tt_hi _) (by first | omega | decide | exact tt_lo _ | exact tt_hi _) (by first | omega | decide | exact tt_lo _ | exact tt_hi _) (by first | omega | decide | exact tt_lo _ | exact tt_hi _)
  exact hL_13 _ pl_4 (0 : Int32) (10000 : Int32) ((-9000) : Int32) trivial hok_5 hfr hfa hf_2 (by first | omega | decide | exact tt_lo _ | exact tt_hi _) (by first | omega | decide | exact tt_lo _ | exact tt_hi _) (by first | omega | decide | exact tt_lo _ | exact tt_hi _) (by first | omega | decide | exact tt_lo _ | exact tt_hi _) (by first | omega | decide | exact tt_lo _ | exact tt_hi _) (by first | omega | decide | exact tt_lo _ | exact tt_hi _) (Int.self_le_toNat _)

set_option maxHeartbeats 4000000 in
set_option maxRecDepth 100000 in
theorem tc_X10_rateFor_1 {l : Launch} (hl : l.stackTraces = false) (D : va_G) (cA : Nat → ClassId) (ak : (Nat → Nat) × (Nat → Nat)) {Kd : Nat → Nat} (h0 : Nat) (p1 : Int32) (p2 : Int64) (hk0 : Kd h0 = 15) {pl0 : va_W} (hok : tt_ok tt_tk cA Kd pl0) : jj_M l D cA ak yX10_rateFor (.code yX10_rateFor cX10_rateFor 5 (some .int)) 8 140 2 12 ([] ++ pl0) [.ref h0, .int p1, .long p2] (tt_O (fun rx pl1 r => rx = [] ∧ tt_ok tt_tk cA Kd pl1 ∧ tt_fr Kd [(2, 0), (2, 1), (2, 2), (2, 3), (2, 4), (9, 1), (9, 2), (9, 3), (9, 4), (9, 5)] pl0 pl1 ∧ tt_fa Kd [] pl0 pl1 ∧ ((∃ v : Int32, (-2147483648 : Int) ≤ v.toInt ∧ v.toInt ≤ 9999 ∧ (0 : Int) ≤ p1.toInt ∧ p1.toInt ≤ 2147483646 ∧ r = some (.int v))))) (tt_OX (fun E rx pl1 => rx = [] ∧ tt_ok tt_tk cA Kd pl1 ∧ tt_fr Kd [(2, 0), (2, 1), (2, 2), (2, 3), (2, 4), (9, 1), (9, 2), (9, 3), (9, 4), (9, 5)] pl0 pl1 ∧ tt_fa Kd [] pl0 pl1 ∧ (E = "java/lang/IndexOutOfBoundsException" ∨ E = "java/util/NoSuchElementException"))) := by
  refine jj_start hl (by decide) jw_cedc8d3709 (jj_le rfl) ?_
  intro p e s m args below meth c A hargs hA C hex hmn
  have hfr := tt_fr.refl (K := Kd) (WS := [(2, 0), (2, 1), (2, 2), (2, 3), (2, 4), (9, 1), (9, 2), (9, 3), (9, 4), (9, 5)]) pl0
  have hfa := tt_fa.refl (K := Kd) (WA := []) pl0
  have lp1 := tt_lo p1
  have up1 := tt_hi p1
  refine jj_aload_n C dX10_rateFor_0 rfl ?_
  refine jj_iload_n C dX10_rateFor_1 rfl ?_
  obtain ⟨qc, gs, hqc⟩ := tt_recv (cx := []) hok hk0 (by decide) rfl
  refine tt_callV (rest := []) C (tc_X10_checkInvestor_1 hl D cA ak h0 p1 hk0 hok) [] [] rfl rfl (by decide) (by decide) (by decide) qc hqc rfl rfl jw_c489a67580 jw_a350a61418 jw_0e27b6f20c jw_6f6d707074 jw_a8b8d648f8 jn_X10_checkInvestor rfl (jj_le rfl) (jj_le rfl) (jj_le rfl) (jj_le rfl) (jj_le rfl) dX10_rateFor_2 rfl (fun E rx pl_1 X_5 => ?_) (fun rx pl_1 r O_4 => ?_)
  · obtain ⟨rfl, hok_2, hr_3, hfa9, hE_6⟩ := X_5
    replace hfr := hfr.trans (hr_3.sub (by decide))
    replace hfa := hfa.trans (hfa9.sub (by decide))
    obtain rfl := hE_6
    exact jj_out C hex ⟨[], pl_1, rfl, rfl, hok_2, hfr, hfa, (Or.inl rfl)⟩ (jj_le rfl) (jj_le rfl)
  · obtain ⟨rfl, hok_2, hr_3, hfa9, hR_9⟩ := O_4
    replace hfr := hfr.trans (hr_3.sub (by decide))
    replace hfa := hfa.trans (hfa9.sub (by decide))
    obtain ⟨l_12, u_13, rfl⟩ := hR_9
    refine jj_aload_n C dX10_rateFor_5 rfl ?_
    refine jj_iload_n C dX10_rateFor_6 rfl ?_
    refine jj_lload_n C dX10_rateFor_7 rfl ?_
    obtain ⟨qc, gs, hqc⟩ := tt_recv (cx := []) hok_2 hk0 (by decide) rfl
    refine tt_callV (rest := []) C (tc_X10_firstRateInReach_1 hl D cA ak h0 p1 p2 hk0 hok_2) [] [] rfl rfl (by decide) (by decide) (by decide) qc hqc rfl rfl jw_db55a838d8 jw_0368e331f0 jw_3f5783c4ce jw_6f6d707074 jw_cde1a8bddd jn_X10_firstRateInReach rfl (jj_le rfl) (jj_le rfl) (jj_le rfl) (jj_le rfl) (jj_le rfl) dX10_rateFor_8 rfl (fun _ _ _ hX => hX.elim) (fun rx pl_14 r O_17 => ?_)
    obtain ⟨rfl, hok_15, hr_16, hfa9, hR_19⟩ := O_17
    replace hfr := hfr.trans (hr_16.sub (by decide))
    replace hfa := hfa.trans (hfa9.sub (by decide))
    obtain ⟨x_22, lx_22, ux_22, rfl⟩ := hR_19
    refine jj_istore C dX10_rateFor_11 (by decide) rfl ?_
    have hL_23 : ∀ (N : Nat) (pl : va_W) (x_24 : Int32), True → tt_ok tt_tk cA Kd pl → tt_fr Kd [(2, 0), (2, 1), (2, 2), (2, 3), (2, 4), (9, 1), (9, 2), (9, 3), (9, 4), (9, 5)] pl0 pl → tt_fa Kd [] pl0 pl → (-2147483648 : Int) ≤ x_24.toInt → x_24.toInt ≤ 2147483647 → (2147483648 - x_24.toInt ≤ (N : Int)) → jj_J p l e (jj_rm 8 140 2 12) s m args below meth c 5 A (vx_MQ below (jj_q D A (tt_O (fun rx pl1 r => rx = [] ∧ tt_ok tt_tk cA Kd pl1 ∧ tt_fr Kd [(2, 0), (2, 1), (2, 2), (2, 3), (2, 4), (9, 1), (9, 2), (9, 3), (9, 4), (9, 5)] pl0 pl1 ∧ tt_fa Kd [] pl0 pl1 ∧ ((∃ v : Int32, (-2147483648 : Int) ≤ v.toInt ∧ v.toInt ≤ 9999 ∧ (0 : Int) ≤ p1.toInt ∧ p1.toInt ≤ 2147483646 ∧ r = some (.int v)))))) (jj_x D A (tt_OX (fun E rx pl1 => rx = [] ∧ tt_ok tt_tk cA Kd pl1 ∧ tt_fr Kd [(2, 0), (2, 1), (2, 2), (2, 3), (2, 4), (9, 1), (9, 2), (9, 3), (9, 4), (9, 5)] pl0 pl1 ∧ tt_fa Kd [] pl0 pl1 ∧ (E = "java/lang/IndexOutOfBoundsException" ∨ E = "java/util/NoSuchElementException")))) args s 2 12 A) (jj_X D A ([] ++ pl)) 1 6 13 [(4, .int x_24), (0, .ref h0), (1, .int p1), (2, .long p2)] [] := by
      intro NL_23
      induction NL_23 with
      | zero => intro pl x_24 _ hok hfr hfa lx_24 ux_24 hNL_23; exfalso; omega
      | succ NL_23 ihL_23 =>
        intro pl x_24 _ hok hfr hfa lx_24 ux_24 hNL_23
        replace ihL_23 := fun pl x_24 h1 => ihL_23 pl x_24 trivial h1
        refine jj_iload C dX10_rateFor_13 rfl ?_
        refine jj_sipush (v := 9999) C dX10_rateFor_15 (by decide) ?_
        refine jj_icmp_gt (tgt := 49) C dX10_rateFor_18 (by decide) (fun c_25 => ?_) (fun c_25 => ?_)
        · have z_c_25 := jc_lt (a := (9999)) (b := (x_24).toInt) c_25 (by decide) rfl
          exact jj_throwWX (k := 50) (text := "no rate reaches the value") C jt_RX10_373 jw_0faceffafb (by decide +kernel) dX10_rateFor_49 dX10_rateFor_52 dX10_rateFor_53 dX10_rateFor_56 dX10_rateFor_59 hex (jj_le rfl) (jj_le rfl) (jj_le rfl) (jj_le rfl) ⟨[], pl, rfl, rfl, hok, hfr, hfa, (Or.inr rfl)⟩ (jj_le rfl) (jj_le rfl)
        · have z_c_25 := jc_nlt (a := (9999)) (b := (x_24).toInt) c_25 (by decide) rfl
          refine jj_aload_n C dX10_rateFor_21 rfl ?_
          refine tt_get C hok jk_11 5 (by decide) jw_34b8702fe2 (t := (2, 9, 0)) hk0 (by decide) rfl rfl dX10_rateFor_22 (fun v_26 hv_26 hf_27 => ?_)
          obtain ⟨a_28, rfl, ka_28⟩ := tt_vr hv_26
          refine jj_aload_n C dX10_rateFor_25 rfl ?_
          refine tt_get C hok jk_11 3 (by decide) jw_f82a97e333 (t := (2, 1, 0)) hk0 (by decide) rfl rfl dX10_rateFor_26 (fun v_29 hv_29 hf_30 => ?_)
          obtain ⟨a_31, rfl, ka_31⟩ := tt_vr hv_29
          refine jj_iload_n C dX10_rateFor_29 rfl ?_
          refine jj_iload C dX10_rateFor_30 rfl ?_
          obtain ⟨qc, gs, hqc⟩ := tt_recv (cx := []) hok ka_28 (by decide) rfl
          refine tt_callV (rest := []) C (tc_X1_payAfterRate_1 hl D cA ak a_28 a_31 p1 x_24 ka_28 ka_31 hok) [] [] rfl rfl (by decide) (by decide) (by decide) qc hqc rfl rfl jw_40c49444b1 jw_86c6c6dedf jw_610440679d jw_944cf9c3ab jw_8658218399 jn_X1_payAfterRate rfl (jj_le rfl) (jj_le rfl) (jj_le rfl) (jj_le rfl) (jj_le rfl) dX10_rateFor_32 rfl (fun _ _ _ hX => hX.elim) (fun rx pl_32 r O_35 => ?_)
          obtain ⟨rfl, hok_33, hr_34, hfa9, hR_37⟩ := O_35
          replace hf_27 := hr_34.at hk0 (by decide) (by decide) hf_27
          replace hf_30 := hr_34.at hk0 (by decide) (by decide) hf_30
          replace hfr := hfr.trans (hr_34.sub (by decide))
          replace hfa := hfa.trans (hfa9.sub (by decide))
          obtain ⟨y_40, rfl⟩ := hR_37
          refine jj_lload_n C dX10_rateFor_35 rfl ?_
          refine jj_lcmp_lt (tgt := 43) C dX10_rateFor_36 dX10_rateFor_37 (by decide) (fun c_41 => ?_) (fun c_41 => ?_)
          · obtain ⟨x_42, ex_42, vx_42⟩ := tt_inc (x := x_24) (n := 1) (by omega) (by omega)
            refine jj_iinc (v := x_42) C dX10_rateFor_43 rfl ex_42 (by decide) rfl ?_
            refine jj_goto (tgt := 13) C dX10_rateFor_46 (by decide) ?_
            exact ihL_23 pl_32 x_42 hok_33 hfr hfa (by first | omega | decide | exact tt_lo _ | exact tt_hi _) (by first | omega | decide | exact tt_lo _ | exact tt_hi _) (by first | omega | decide | exact tt_lo _ | exact tt_hi _)
          · refine jj_iload C dX10_rateFor_40 rfl ?_
            exact jj_iret C ⟨[], pl_32, rfl, rfl, hok_33, hfr, hfa, ⟨x_24, (by first | omega | exact tt_lo _ | exact tt_hi _), (by first | omega | exact tt_lo _ | exact tt_hi _), (by first | omega | exact tt_lo _ | exact tt_hi _), (by first | omega | exact tt_lo _ | exact tt_hi _), rfl⟩⟩ dX10_rateFor_42 (jj_le rfl) (jj_le rfl)
    exact hL_23 _ pl_14 x_22 trivial hok_15 hfr hfa (by first | omega | decide | exact tt_lo _ | exact tt_hi _) (by first | omega | decide | exact tt_lo _ | exact tt_hi _) (Int.self_le_toNat _)

set_option maxHeartbeats 4000000 in
set_option maxRecDepth 100000 in
theorem tc_X0_unitsWaitingOf_1 {l : Launch} (hl : l.stackTraces = false) (D : va_G) (cA : Nat → ClassId) (ak : (Nat → Nat) × (Nat → Nat)) {Kd : Nat → Nat} (h0 : Nat) (p1 : Int32) (hk0 : Kd h0 = 1) {pl0 : va_W} (hok : tt_ok tt_tk cA Kd pl0) : jj_M l D cA ak yX0_unitsWaitingOf (.code yX0_unitsWaitingOf cX0_unitsWaitingOf 5 (some .long)) 0 0 0 0 ([] ++ pl0) [.ref h0, .int p1] (tt_O (fun rx pl1 r => rx = [] ∧ tt_ok tt_tk cA Kd pl1 ∧ tt_fr Kd [] pl0 pl1 ∧ tt_fa Kd [] pl0 pl1 ∧ ((∃ v : Int64, r = some (.long v))))) (tt_OX (fun _ _ _ => False)) := by
  refine jj_start hl (by decide) jw_fb2ca98b87 (jj_le rfl) ?_
  intro p e s m args below meth c A hargs hA C hex hmn
  have hfr := tt_fr.refl (K := Kd) (WS := []) pl0
  have hfa := tt_fa.refl (K := Kd) (WA := []) pl0
  have lp1 := tt_lo p1
  have up1 := tt_hi p1
  refine jj_lconst (v := 0) C dX0_unitsWaitingOf_0 (by decide) ?_
  refine jj_lstore_n C dX0_unitsWaitingOf_1 (by decide) rfl ?_
  refine jj_iconst (v := 0) C dX0_unitsWaitingOf_2 (by decide) ?_
  refine jj_istore C dX0_unitsWaitingOf_3 (by decide) rfl ?_
  have hL_1 : ∀ (N : Nat) (pl : va_W) (x_2 : Int32) (y_3 : Int64), True → tt_ok tt_tk cA Kd pl → tt_fr Kd [] pl0 pl → tt_fa Kd [] pl0 pl → (0 : Int) ≤ x_2.toInt → x_2.toInt ≤ 12 → (2147483648 - x_2.toInt ≤ (N : Int)) → jj_J p l e (jj_rm 0 0 0 0) s m args below meth c 5 A (vx_MQ below (jj_q D A (tt_O (fun rx pl1 r => rx = [] ∧ tt_ok tt_tk cA Kd pl1 ∧ tt_fr Kd [] pl0 pl1 ∧ tt_fa Kd [] pl0 pl1 ∧ ((∃ v : Int64, r = some (.long v)))))) (jj_x D A (tt_OX (fun _ _ _ => False))) args s 0 0 A) (jj_X D A ([] ++ pl)) 0 0 5 [(4, .int x_2), (2, .long y_3), (0, .ref h0), (1, .int p1)] [] := by
    intro NL_1
    induction NL_1 with
    | zero => intro pl x_2 y_3 _ hok hfr hfa lx_2 ux_2 hNL_1; exfalso; omega
    | succ NL_1 ihL_1 =>
      intro pl x_2 y_3 _ hok hfr hfa lx_2 ux_2 hNL_1
      replace ihL_1 := fun pl x_2 y_3 h1 => ihL_1 pl x_2 y_3 trivial h1
      refine jj_iload C dX0_unitsWaitingOf_5 rfl ?_
      refine jj_aload_n C dX0_unitsWaitingOf_7 rfl ?_
      refine tt_get C hok jk_2 9 (by decide) jw_a6a6052378 (t := (0, 0, 12)) hk0 (by decide) rfl rfl dX0_unitsWaitingOf_8 (fun v_4 hv_4 hf_5 => ?_)
      obtain ⟨x_6, rfl, lx_6, ux_6⟩ := tt_vi hv_4
      refine jj_icmp_ge (tgt := 60) C dX0_unitsWaitingOf_11 (by decide) (fun c_7 => ?_) (fun c_7 => ?_)
      · have z_c_7 := jc_le (a := (x_6).toInt) (b := (x_2).toInt) c_7 rfl rfl
        refine jj_lload_n C dX0_unitsWaitingOf_60 rfl ?_
        exact jj_lret C ⟨[], pl, rfl, rfl, hok, hfr, hfa, ⟨y_3, rfl⟩⟩ dX0_unitsWaitingOf_61 (jj_le rfl) (jj_le rfl)
      · have z_c_7 := jc_nle (a := (x_6).toInt) (b := (x_2).toInt) c_7 rfl rfl
        refine jj_aload_n C dX0_unitsWaitingOf_14 rfl ?_
        refine tt_get C hok jk_2 13 (by decide) jw_241b9bc751 (t := (2, 8, 0)) hk0 (by decide) rfl rfl dX0_unitsWaitingOf_15 (fun v_8 hv_8 hf_9 => ?_)
        obtain ⟨a_10, rfl, ka_10⟩ := tt_vr hv_8
        refine jj_iload C dX0_unitsWaitingOf_18 rfl ?_
        refine tt_aald C hok (t := (2, 4, 0)) ka_10 (by decide) rfl rfl rfl (vp_in_iff.mpr ⟨by omega, by omega⟩) dX0_unitsWaitingOf_20 (fun v_11 hv_11 => ?_)
        obtain ⟨a_12, rfl, ka_12⟩ := tt_vr hv_11
        refine tt_get C hok jk_7 2 (by decide) jw_9e238e4277 (t := (0, 0, 1)) ka_12 (by decide) rfl rfl dX0_unitsWaitingOf_21 (fun v_13 hv_13 hf_14 => ?_)
        obtain ⟨x_15, rfl, lx_15, ux_15⟩ := tt_vi hv_13
        refine jj_if_eq (tgt := 54) C dX0_unitsWaitingOf_24 (by decide) (fun c_16 => ?_) (fun c_16 => ?_)
        · have z_c_16 := jc_eq (a := (x_15).toInt) (b := (0)) c_16 rfl (by decide)
          obtain ⟨x_17, ex_17, vx_17⟩ := tt_inc (x := x_2) (n := 1) (by omega) (by omega)
          refine jj_iinc (v := x_17) C dX0_unitsWaitingOf_54 rfl ex_17 (by decide) rfl ?_
          refine jj_goto (tgt := 5) C dX0_unitsWaitingOf_57 (by decide) ?_
          exact ihL_1 pl x_17 y_3 hok hfr hfa (by first | omega | decide | exact tt_lo _ | exact tt_hi _) (by first | omega | decide | exact tt_lo _ | exact tt_hi _) (by first | omega | decide | exact tt_lo _ | exact tt_hi _)
        · have z_c_16 := jc_neq (a := (x_15).toInt) (b := (0)) c_16 rfl (by decide)
          refine jj_aload_n C dX0_unitsWaitingOf_27 rfl ?_
          refine tt_getF C hok jk_2 13 (by decide) jw_241b9bc751 (t := (2, 8, 0)) hk0 (by decide) rfl rfl hf_9 dX0_unitsWaitingOf_28 ?_
          refine jj_iload C dX0_unitsWaitingOf_31 rfl ?_
          refine tt_aald C hok (t := (2, 4, 0)) ka_10 (by decide) rfl rfl rfl (vp_in_iff.mpr ⟨by omega, by omega⟩) dX0_unitsWaitingOf_33 (fun v_18 hv_18 => ?_)
          obtain ⟨a_19, rfl, ka_19⟩ := tt_vr hv_18
          refine tt_get C hok jk_7 0 (by decide) jw_5338707ba1 (t := (0, (-2147483648), 2147483647)) ka_19 (by decide) rfl rfl dX0_unitsWaitingOf_34 (fun v_20 hv_20 hf_21 => ?_)
          obtain ⟨x_22, rfl, lx_22, ux_22⟩ := tt_vi hv_20
          refine jj_iload_n C dX0_unitsWaitingOf_37 rfl ?_
          refine jj_icmp_ne (tgt := 54) C dX0_unitsWaitingOf_38 (by decide) (fun c_23 => ?_) (fun c_23 => ?_)
          · have z_c_23 := jc_neq (a := (x_22).toInt) (b := (p1).toInt) c_23 rfl rfl
            obtain ⟨x_24, ex_24, vx_24⟩ := tt_inc (x := x_2) (n := 1) (by omega) (by omega)
            refine jj_iinc (v := x_24) C dX0_unitsWaitingOf_54 rfl ex_24 (by decide) rfl ?_
            refine jj_goto (tgt := 5) C dX0_unitsWaitingOf_57 (by decide) ?_
            exact ihL_1 pl x_24 y_3 hok hfr hfa (by first | omega | decide | exact tt_lo _ | exact tt_hi _) (by first | omega | decide | exact tt_lo _ | exact tt_hi _) (by first | omega | decide | exact tt_lo _ | exact tt_hi _)
          · have z_c_23 := jc_eq (a := (x_22).toInt) (b := (p1).toInt) c_23 rfl rfl
            refine jj_lload_n C dX0_unitsWaitingOf_41 rfl ?_
            refine jj_aload_n C dX0_unitsWaitingOf_42 rfl ?_
            refine tt_getF C hok jk_2 13 (by decide) jw_241b9bc751 (t := (2, 8, 0)) hk0 (by decide) rfl rfl hf_9 dX0_unitsWaitingOf_43 ?_
            refine jj_iload C dX0_unitsWaitingOf_46 rfl ?_
            refine tt_aald C hok (t := (2, 4, 0)) ka_10 (by decide) rfl rfl rfl (vp_in_iff.mpr ⟨by omega, by omega⟩) dX0_unitsWaitingOf_48 (fun v_25 hv_25 => ?_)
            obtain ⟨a_26, rfl, ka_26⟩ := tt_vr hv_25
            refine tt_get C hok jk_7 3 (by decide) jw_bfa82f796d (t := (1, (-9223372036854775808), 9223372036854775807)) ka_26 (by decide) rfl rfl dX0_unitsWaitingOf_49 (fun v_27 hv_27 hf_28 => ?_)
            obtain ⟨y_29, rfl, -, -⟩ := tt_vj hv_27
            obtain ⟨y_30, ey_30⟩ : ∃ z : Int64, y_3 + y_29 = z := ⟨_, rfl⟩
            refine jj_ladd (v := y_30) C dX0_unitsWaitingOf_52 ey_30 ?_
            refine jj_lstore_n C dX0_unitsWaitingOf_53 (by decide) rfl ?_
            obtain ⟨x_31, ex_31, vx_31⟩ := tt_inc (x := x_2) (n := 1) (by omega) (by omega)
            refine jj_iinc (v := x_31) C dX0_unitsWaitingOf_54 rfl ex_31 (by decide) rfl ?_
            refine jj_goto (tgt := 5) C dX0_unitsWaitingOf_57 (by decide) ?_
            exact ihL_1 pl x_31 y_30 hok hfr hfa (by first | omega | decide | exact tt_lo _ | exact tt_hi _) (by first | omega | decide | exact tt_lo _ | exact tt_hi _) (by first | omega | decide | exact tt_lo _ | exact tt_hi _)
  exact hL_1 _ pl0 (0 : Int32) (0 : Int64) trivial hok hfr hfa (by first | omega | decide | exact tt_lo _ | exact tt_hi _) (by first | omega | decide | exact tt_lo _ | exact tt_hi _) (Int.self_le_toNat _)

set_option maxHeartbeats 4000000 in
set_option maxRecDepth 100000 in
theorem tc_X0_redemptionFault_1 {l : Launch} (hl : l.stackTraces = false) (D : va_G) (cA : Nat → ClassId) (ak : (Nat → Nat) × (Nat → Nat)) {Kd : Nat → Nat} (h0 : Nat) (p1 : Int32) (p2 : Int32) (hk0 : Kd h0 = 1) {pl0 : va_W} (hok : tt_ok tt_tk cA Kd pl0) : jj_M l D cA ak yX0_redemptionFault (.code yX0_redemptionFault cX0_redemptionFault 3 (some .int)) 1 24 0 0 ([] ++ pl0) [.ref h0, .int p1, .int p2] (tt_O (fun rx pl1 r => rx = [] ∧ tt_ok tt_tk cA Kd pl1 ∧ tt_fr Kd [] pl0 pl1 ∧ tt_fa Kd [] pl0 pl1 ∧ ((r = some (.int 1)) ∨ ((0 : Int) ≤ p1.toInt ∧ p1.toInt ≤ 2147483646 ∧ r = some (.int 2)) ∨ ((0 : Int) ≤ p1.toInt ∧ p1.toInt ≤ 2147483646 ∧ (1 : Int) ≤ p2.toInt ∧ p2.toInt ≤ 99999999 ∧ r = some (.int 0)) ∨ ((0 : Int) ≤ p1.toInt ∧ p1.toInt ≤ 2147483646 ∧ (1 : Int) ≤ p2.toInt ∧ p2.toInt ≤ 99999999 ∧ r = some (.int 3))))) (tt_OX (fun _ _ _ => False)) := by
  refine jj_start hl (by decide) jw_e45bbd4879 (jj_le rfl) ?_
  intro p e s m args below meth c A hargs hA C hex hmn
  have hfr := tt_fr.refl (K := Kd) (WS := []) pl0
  have hfa := tt_fa.refl (K := Kd) (WA := []) pl0
  have lp1 := tt_lo p1
  have up1 := tt_hi p1
  have lp2 := tt_lo p2
  have up2 := tt_hi p2
  refine jj_aload_n C dX0_redemptionFault_0 rfl ?_
  refine jj_iload_n C dX0_redemptionFault_1 rfl ?_
  obtain ⟨qc, gs, hqc⟩ := tt_recv (cx := []) hok hk0 (by decide) rfl
  refine tt_callV (rest := []) C (tc_X0_hasInvestor_1 hl D cA ak h0 p1 hk0 hok) [] [] rfl rfl (by decide) (by decide) (by decide) qc hqc rfl rfl jw_d8d4914792 jw_4b2ee875de jw_b17a3ad3c3 jw_7d25d4fd32 jw_46cdbc56f6 jn_X0_hasInvestor rfl (jj_le rfl) (jj_le rfl) (jj_le rfl) (jj_le rfl) (jj_le rfl) dX0_redemptionFault_2 rfl (fun _ _ _ hX => hX.elim) (fun rx pl_1 r O_4 => ?_)
  obtain ⟨rfl, hok_2, hr_3, hfa9, hR_6⟩ := O_4
  replace hfr := hfr.trans (hr_3.sub (by decide))
  replace hfa := hfa.trans (hfa9.sub (by decide))
  rcases hR_6 with rfl | ⟨l_9, u_10, rfl⟩
  · refine jj_if_neF (tgt := 10) C dX0_redemptionFault_5 (by decide) (by decide) ?_
    refine jj_iconst (v := 1) C dX0_redemptionFault_8 (by decide) ?_
    exact jj_iret C ⟨[], pl_1, rfl, rfl, hok_2, hfr, hfa, (Or.inl rfl)⟩ dX0_redemptionFault_9 (jj_le rfl) (jj_le rfl)
  · refine jj_if_neT (tgt := 10) C dX0_redemptionFault_5 (by decide) (by decide) ?_
    refine jj_iload_n C dX0_redemptionFault_10 rfl ?_
    refine jj_iconst (v := 1) C dX0_redemptionFault_11 (by decide) ?_
    refine jj_icmp_lt (tgt := 21) C dX0_redemptionFault_12 (by decide) (fun c_11 => ?_) (fun c_11 => ?_)
    · have z_c_11 := jc_lt (a := (p2).toInt) (b := (1)) c_11 rfl (by decide)
      refine jj_iconst (v := 2) C dX0_redemptionFault_21 (by decide) ?_
      exact jj_iret C ⟨[], pl_1, rfl, rfl, hok_2, hfr, hfa, (Or.inr (Or.inl ⟨(by first | omega | exact tt_lo _ | exact tt_hi _), (by first | omega | exact tt_lo _ | exact tt_hi _), rfl⟩))⟩ dX0_redemptionFault_22 (jj_le rfl) (jj_le rfl)
    · have z_c_11 := jc_nlt (a := (p2).toInt) (b := (1)) c_11 rfl (by decide)
      refine jj_iload_n C dX0_redemptionFault_15 rfl ?_
      refine jj_ldc (v := 99999999) C dX0_redemptionFault_16 jw_c6a9136e44 ?_
      refine jj_icmp_le (tgt := 23) C dX0_redemptionFault_18 (by decide) (fun c_12 => ?_) (fun c_12 => ?_)
      · have z_c_12 := jc_le (a := (p2).toInt) (b := (99999999)) c_12 rfl (by decide)
        refine jj_aload_n C dX0_redemptionFault_23 rfl ?_
        refine tt_get C hok_2 jk_2 9 (by decide) jw_a6a6052378 (t := (0, 0, 12)) hk0 (by decide) rfl rfl dX0_redemptionFault_24 (fun v_13 hv_13 hf_14 => ?_)
        obtain ⟨x_15, rfl, lx_15, ux_15⟩ := tt_vi hv_13
        refine jj_bipush (v := 12) C dX0_redemptionFault_27 (by decide) ?_
        refine jj_icmp_lt (tgt := 34) C dX0_redemptionFault_29 (by decide) (fun c_16 => ?_) (fun c_16 => ?_)
        · have z_c_16 := jc_lt (a := (x_15).toInt) (b := (12)) c_16 rfl (by decide)
          refine jj_aload_n C dX0_redemptionFault_34 rfl ?_
          refine jj_iload_n C dX0_redemptionFault_35 rfl ?_
          obtain ⟨qc, gs, hqc⟩ := tt_recv (cx := []) hok_2 hk0 (by decide) rfl
          refine tt_callV (rest := []) C (tc_X0_unitsWaitingOf_1 hl D cA ak h0 p1 hk0 hok_2) [] [] rfl rfl (by decide) (by decide) (by decide) qc hqc rfl rfl jw_a69bc0929e jw_cc201fd073 jw_2d4f72dead jw_7d25d4fd32 jw_fb2ca98b87 jn_X0_unitsWaitingOf rfl (jj_le rfl) (jj_le rfl) (jj_le rfl) (jj_le rfl) (jj_le rfl) dX0_redemptionFault_36 rfl (fun _ _ _ hX => hX.elim) (fun rx pl_17 r O_20 => ?_)
          obtain ⟨rfl, hok_18, hr_19, hfa9, hR_22⟩ := O_20
          replace hf_14 := hr_19.at hk0 (by decide) (by decide) hf_14
          replace hfr := hfr.trans (hr_19.sub (by decide))
          replace hfa := hfa.trans (hfa9.sub (by decide))
          obtain ⟨y_25, rfl⟩ := hR_22
          refine jj_iload_n C dX0_redemptionFault_39 rfl ?_
          obtain ⟨y_26, ey_26, vy_26⟩ := tt_i2l p2
          refine jj_i2l (v := y_26) C dX0_redemptionFault_40 ey_26 ?_
          obtain ⟨y_27, ey_27⟩ : ∃ z : Int64, y_25 + y_26 = z := ⟨_, rfl⟩
          refine jj_ladd (v := y_27) C dX0_redemptionFault_41 ey_27 ?_
          refine jj_aload_n C dX0_redemptionFault_42 rfl ?_
          refine jj_iload_n C dX0_redemptionFault_43 rfl ?_
          obtain ⟨qc, gs, hqc⟩ := tt_recv (cx := []) hok_18 hk0 (by decide) rfl
          refine tt_callV (rest := [.long y_27]) C (tc_X0_unitsHeldBy_1 hl D cA ak h0 p1 hk0 hok_18) [] [] rfl rfl (by decide) (by decide) (by decide) qc hqc rfl rfl jw_1b599813cf jw_473d3625aa jw_4058f4329f jw_7d25d4fd32 jw_325e36afd1 jn_X0_unitsHeldBy rfl (jj_le rfl) (jj_le rfl) (jj_le rfl) (jj_le rfl) (jj_le rfl) dX0_redemptionFault_44 rfl (fun _ _ _ hX => hX.elim) (fun rx pl_28 r O_31 => ?_)
          obtain ⟨rfl, hok_29, hr_30, hfa9, hR_33⟩ := O_31
          replace hf_14 := hr_30.at hk0 (by decide) (by decide) hf_14
          replace hfr := hfr.trans (hr_30.sub (by decide))
          replace hfa := hfa.trans (hfa9.sub (by decide))
          obtain ⟨y_36, rfl⟩ := hR_33
          refine jj_lcmp_le (tgt := 55) C dX0_redemptionFault_47 dX0_redemptionFault_48 (by decide) (fun c_37 => ?_) (fun c_37 => ?_)
          · refine jj_iconst (v := 0) C dX0_redemptionFault_55 (by decide) ?_
            exact jj_iret C ⟨[], pl_28, rfl, rfl, hok_29, hfr, hfa, (Or.inr (Or.inr (Or.inl ⟨(by first | omega | exact tt_lo _ | exact tt_hi _), (by first | omega | exact tt_lo _ | exact tt_hi _), (by first | omega | exact tt_lo _ | exact tt_hi _), (by first | omega | exact tt_lo _ | exact tt_hi _), rfl⟩)))⟩ dX0_redemptionFault_56 (jj_le rfl) (jj_le rfl)
          · refine jj_iconst (v := 3) C dX0_redemptionFault_51 (by decide) ?_
            refine jj_goto (tgt := 56) C dX0_redemptionFault_52 (by decide) ?_
            exact jj_iret C ⟨[], pl_28, rfl, rfl, hok_29, hfr, hfa, (Or.inr (Or.inr (Or.inr ⟨(by first | omega | exact tt_lo _ | exact tt_hi _), (by first | omega | exact tt_lo _ | exact tt_hi _), (by first | omega | exact tt_lo _ | exact tt_hi _), (by first | omega | exact tt_lo _ | exact tt_hi _), rfl⟩)))⟩ dX0_redemptionFault_56 (jj_le rfl) (jj_le rfl)
        · have z_c_16 := jc_nlt (a := (x_15).toInt) (b := (12)) c_16 rfl (by decide)
          refine jj_iconst (v := 3) C dX0_redemptionFault_32 (by decide) ?_
          exact jj_iret C ⟨[], pl_1, rfl, rfl, hok_2, hfr, hfa, (Or.inr (Or.inr (Or.inr ⟨(by first | omega | exact tt_lo _ | exact tt_hi _), (by first | omega | exact tt_lo _ | exact tt_hi _), (by first | omega | exact tt_lo _ | exact tt_hi _), (by first | omega | exact tt_lo _ | exact tt_hi _), rfl⟩)))⟩ dX0_redemptionFault_33 (jj_le rfl) (jj_le rfl)
      · have z_c_12 := jc_nle (a := (p2).toInt) (b := (99999999)) c_12 rfl (by decide)
        refine jj_iconst (v := 2) C dX0_redemptionFault_21 (by decide) ?_
        exact jj_iret C ⟨[], pl_1, rfl, rfl, hok_2, hfr, hfa, (Or.inr (Or.inl ⟨(by first | omega | exact tt_lo _ | exact tt_hi _), (by first | omega | exact tt_lo _ | exact tt_hi _), rfl⟩))⟩ dX0_redemptionFault_22 (jj_le rfl) (jj_le rfl)

set_option maxHeartbeats 4000000 in
set_option maxRecDepth 100000 in
theorem tc_X0_addRequest_1 {l : Launch} (hl : l.stackTraces = false) (D : va_G) (cA : Nat → ClassId) (ak : (Nat → Nat) × (Nat → Nat)) {Kd : Nat → Nat} (h0 : Nat) (p1 : Int32) (p3 : Int64) (hk0 : Kd h0 = 1) {pl0 : va_W} (hok : tt_ok tt_tk cA Kd pl0) : jj_M l D cA ak yX0_addRequest (.code yX0_addRequest cX0_addRequest 7 (some .int)) 1 21 0 0 ([] ++ pl0) [.ref h0, .int p1, .int 1, .long p3] (tt_O (fun rx pl1 r => rx = [] ∧ tt_ok tt_tk cA Kd pl1 ∧ tt_fr Kd [(1, 9), (4, 0), (4, 1), (4, 2), (4, 3), (4, 4)] pl0 pl1 ∧ tt_fa Kd [] pl0 pl1 ∧ ((r = some (.int 11)) ∨ (∃ v : Int32, (0 : Int) ≤ v.toInt ∧ v.toInt ≤ 11 ∧ r = some (.int v))))) (tt_OX (fun _ _ _ => False)) := by
  refine jj_start hl (by decide) jw_1fad268463 (jj_le rfl) ?_
  intro p e s m args below meth c A hargs hA C hex hmn
  have hfr := tt_fr.refl (K := Kd) (WS := [(1, 9), (4, 0), (4, 1), (4, 2), (4, 3), (4, 4)]) pl0
  have hfa := tt_fa.refl (K := Kd) (WA := []) pl0
  have lp1 := tt_lo p1
  have up1 := tt_hi p1
  refine jj_aload_n C dX0_addRequest_0 rfl ?_
  refine tt_get C hok jk_2 9 (by decide) jw_a6a6052378 (t := (0, 0, 12)) hk0 (by decide) rfl rfl dX0_addRequest_1 (fun v_1 hv_1 hf_2 => ?_)
  obtain ⟨x_3, rfl, lx_3, ux_3⟩ := tt_vi hv_1
  refine jj_bipush (v := 11) C dX0_addRequest_4 (by decide) ?_
  refine tt_call0S (rest := []) C (ct_J9_min_7cf53_3 hl D cA ak x_3) jw_91b79dc18e jw_bd781c2022 jw_a731c8553d jw_7adaf59315 jn_J9_min_7cf53 rfl (jj_le rfl) (jj_le rfl) (jj_le rfl) (jj_le rfl) (jj_le rfl) dX0_addRequest_6 rfl (fun w1 r O_4 => ?_)
  rcases O_4 with ⟨c_5, -, rfl⟩ | ⟨c_6, -, rfl⟩
  · have z_c_5 := jc_lt (a := (11)) (b := (x_3).toInt) c_5 (by decide) rfl
    refine jj_istore C dX0_addRequest_9 (by decide) rfl ?_
    refine jj_aload_n C dX0_addRequest_11 rfl ?_
    refine tt_get C hok jk_2 13 (by decide) jw_241b9bc751 (t := (2, 8, 0)) hk0 (by decide) rfl rfl dX0_addRequest_12 (fun v_7 hv_7 hf_8 => ?_)
    obtain ⟨a_9, rfl, ka_9⟩ := tt_vr hv_7
    refine jj_iload C dX0_addRequest_15 rfl ?_
    refine tt_aald C hok (t := (2, 4, 0)) ka_9 (by decide) rfl rfl rfl (vp_in_iff.mpr (by decide)) dX0_addRequest_17 (fun v_10 hv_10 => ?_)
    obtain ⟨a_11, rfl, ka_11⟩ := tt_vr hv_10
    refine jj_astore C dX0_addRequest_18 (by decide) rfl ?_
    refine jj_aload C dX0_addRequest_20 rfl ?_
    refine jj_iload_n C dX0_addRequest_22 rfl ?_
    refine rl_put C hok jk_7 0 (by decide) jw_5338707ba1 (t := (0, (-2147483648), 2147483647)) ka_11 (by decide) rfl rfl rfl (tt_ia p1) rfl rfl dX0_addRequest_23 (fun pl_12 hok_13 tr hn tl => ?_)
    replace hf_2 := tr _ _ _ (Or.inl (tt_ne hk0 ka_11 (by decide))) hf_2
    replace hf_8 := tr _ _ _ (Or.inl (tt_ne hk0 ka_11 (by decide))) hf_8
    have hf_14 := hn
    replace hfr := hfr.put ka_11 tr (by decide)
    replace hfa := hfa.all tl
    refine jj_aload C dX0_addRequest_26 rfl ?_
    refine jj_iload_n C dX0_addRequest_28 rfl ?_
    refine rl_put C hok_13 jk_7 2 (by decide) jw_9e238e4277 (t := (0, 0, 1)) ka_11 (by decide) rfl rfl rfl (tt_iv (by decide) (by decide)) rfl rfl dX0_addRequest_29 (fun pl_15 hok_16 tr hn tl => ?_)
    replace hf_2 := tr _ _ _ (Or.inl (tt_ne hk0 ka_11 (by decide))) hf_2
    replace hf_8 := tr _ _ _ (Or.inl (tt_ne hk0 ka_11 (by decide))) hf_8
    replace hf_14 := tr _ _ _ (Or.inr (by decide)) hf_14
    have hf_17 := hn
    replace hfr := hfr.put ka_11 tr (by decide)
    replace hfa := hfa.all tl
    refine jj_aload C dX0_addRequest_32 rfl ?_
    refine jj_lload_n C dX0_addRequest_34 rfl ?_
    refine rl_put C hok_16 jk_7 3 (by decide) jw_bfa82f796d (t := (1, (-9223372036854775808), 9223372036854775807)) ka_11 (by decide) rfl rfl rfl (tt_ja p3) rfl rfl dX0_addRequest_35 (fun pl_18 hok_19 tr hn tl => ?_)
    replace hf_2 := tr _ _ _ (Or.inl (tt_ne hk0 ka_11 (by decide))) hf_2
    replace hf_8 := tr _ _ _ (Or.inl (tt_ne hk0 ka_11 (by decide))) hf_8
    replace hf_14 := tr _ _ _ (Or.inr (by decide)) hf_14
    replace hf_17 := tr _ _ _ (Or.inr (by decide)) hf_17
    have hf_20 := hn
    replace hfr := hfr.put ka_11 tr (by decide)
    replace hfa := hfa.all tl
    refine jj_aload C dX0_addRequest_38 rfl ?_
    refine jj_lconst (v := 0) C dX0_addRequest_40 (by decide) ?_
    refine rl_put C hok_19 jk_7 4 (by decide) jw_2f9658d53e (t := (1, (-9223372036854775808), 9223372036854775807)) ka_11 (by decide) rfl rfl rfl (tt_ja (0 : Int64)) rfl rfl dX0_addRequest_41 (fun pl_21 hok_22 tr hn tl => ?_)
    replace hf_2 := tr _ _ _ (Or.inl (tt_ne hk0 ka_11 (by decide))) hf_2
    replace hf_8 := tr _ _ _ (Or.inl (tt_ne hk0 ka_11 (by decide))) hf_8
    replace hf_14 := tr _ _ _ (Or.inr (by decide)) hf_14
    replace hf_17 := tr _ _ _ (Or.inr (by decide)) hf_17
    replace hf_20 := tr _ _ _ (Or.inr (by decide)) hf_20
    have hf_23 := hn
    replace hfr := hfr.put ka_11 tr (by decide)
    replace hfa := hfa.all tl
    refine jj_aload C dX0_addRequest_44 rfl ?_
    refine jj_aload_n C dX0_addRequest_46 rfl ?_
    refine tt_get C hok_22 jk_2 5 (by decide) jw_cd8f4320e7 (t := (0, (-2147483648), 2147483647)) hk0 (by decide) rfl rfl dX0_addRequest_47 (fun v_24 hv_24 hf_25 => ?_)
    obtain ⟨x_26, rfl, lx_26, ux_26⟩ := tt_vi hv_24
    refine rl_put C hok_22 jk_7 1 (by decide) jw_beab64789a (t := (0, (-2147483648), 2147483647)) ka_11 (by decide) rfl rfl rfl (tt_ia x_26) rfl rfl dX0_addRequest_50 (fun pl_27 hok_28 tr hn tl => ?_)
    replace hf_2 := tr _ _ _ (Or.inl (tt_ne hk0 ka_11 (by decide))) hf_2
    replace hf_8 := tr _ _ _ (Or.inl (tt_ne hk0 ka_11 (by decide))) hf_8
    replace hf_14 := tr _ _ _ (Or.inr (by decide)) hf_14
    replace hf_17 := tr _ _ _ (Or.inr (by decide)) hf_17
    replace hf_20 := tr _ _ _ (Or.inr (by decide)) hf_20
    replace hf_23 := tr _ _ _ (Or.inr (by decide)) hf_23
    replace hf_25 := tr _ _ _ (Or.inl (tt_ne hk0 ka_11 (by decide))) hf_25
    have hf_29 := hn
    replace hfr := hfr.put ka_11 tr (by decide)
    replace hfa := hfa.all tl
    refine jj_aload_n C dX0_addRequest_53 rfl ?_
    refine jj_iload C dX0_addRequest_54 rfl ?_
    refine jj_iconst (v := 1) C dX0_addRequest_56 (by decide) ?_
    refine jj_iadd (v := 12) C dX0_addRequest_57 (by decide) ?_
    refine rl_put C hok_28 jk_2 9 (by decide) jw_a6a6052378 (t := (0, 0, 12)) hk0 (by decide) rfl rfl rfl (tt_iv (by decide) (by decide)) rfl rfl dX0_addRequest_58 (fun pl_30 hok_31 tr hn tl => ?_)
    replace hf_8 := tr _ _ _ (Or.inr (by decide)) hf_8
    replace hf_14 := tr _ _ _ (Or.inl (tt_ne ka_11 hk0 (by decide))) hf_14
    replace hf_17 := tr _ _ _ (Or.inl (tt_ne ka_11 hk0 (by decide))) hf_17
    replace hf_20 := tr _ _ _ (Or.inl (tt_ne ka_11 hk0 (by decide))) hf_20
    replace hf_23 := tr _ _ _ (Or.inl (tt_ne ka_11 hk0 (by decide))) hf_23
    replace hf_25 := tr _ _ _ (Or.inr (by decide)) hf_25
    replace hf_29 := tr _ _ _ (Or.inl (tt_ne ka_11 hk0 (by decide))) hf_29
    have hf_32 := hn
    replace hfr := hfr.put hk0 tr (by decide)
    replace hfa := hfa.all tl
    refine jj_iload C dX0_addRequest_61 rfl ?_
    exact jj_iret C ⟨[], pl_30, rfl, rfl, hok_31, hfr, hfa, (Or.inl rfl)⟩ dX0_addRequest_63 (jj_le rfl) (jj_le rfl)
  · have z_c_6 := jc_nlt (a := (11)) (b := (x_3).toInt) c_6 (by decide) rfl
    refine jj_istore C dX0_addRequest_9 (by decide) rfl ?_
    refine jj_aload_n C dX0_addRequest_11 rfl ?_
    refine tt_get C hok jk_2 13 (by decide) jw_241b9bc751 (t := (2, 8, 0)) hk0 (by decide) rfl rfl dX0_addRequest_12 (fun v_33 hv_33 hf_34 => ?_)
    obtain ⟨a_35, rfl, ka_35⟩ := tt_vr hv_33
    refine jj_iload C dX0_addRequest_15 rfl ?_
    refine tt_aald C hok (t := (2, 4, 0)) ka_35 (by decide) rfl rfl rfl (vp_in_iff.mpr ⟨by omega, by omega⟩) dX0_addRequest_17 (fun v_36 hv_36 => ?_)
    obtain ⟨a_37, rfl, ka_37⟩ := tt_vr hv_36
    refine jj_astore C dX0_addRequest_18 (by decide) rfl ?_
    refine jj_aload C dX0_addRequest_20 rfl ?_
    refine jj_iload_n C dX0_addRequest_22 rfl ?_
    refine rl_put C hok jk_7 0 (by decide) jw_5338707ba1 (t := (0, (-2147483648), 2147483647)) ka_37 (by decide) rfl rfl rfl (tt_ia p1) rfl rfl dX0_addRequest_23 (fun pl_38 hok_39 tr hn tl => ?_)
    replace hf_2 := tr _ _ _ (Or.inl (tt_ne hk0 ka_37 (by decide))) hf_2
    replace hf_34 := tr _ _ _ (Or.inl (tt_ne hk0 ka_37 (by decide))) hf_34
    have hf_40 := hn
    replace hfr := hfr.put ka_37 tr (by decide)
    replace hfa := hfa.all tl
    refine jj_aload C dX0_addRequest_26 rfl ?_
    refine jj_iload_n C dX0_addRequest_28 rfl ?_
    refine rl_put C hok_39 jk_7 2 (by decide) jw_9e238e4277 (t := (0, 0, 1)) ka_37 (by decide) rfl rfl rfl (tt_iv (by decide) (by decide)) rfl rfl dX0_addRequest_29 (fun pl_41 hok_42 tr hn tl => ?_)
    replace hf_2 := tr _ _ _ (Or.inl (tt_ne hk0 ka_37 (by decide))) hf_2
    replace hf_34 := tr _ _ _ (Or.inl (tt_ne hk0 ka_37 (by decide))) hf_34
    replace hf_40 := tr _ _ _ (Or.inr (by decide)) hf_40
    have hf_43 := hn
    replace hfr := hfr.put ka_37 tr (by decide)
    replace hfa := hfa.all tl
    refine jj_aload C dX0_addRequest_32 rfl ?_
    refine jj_lload_n C dX0_addRequest_34 rfl ?_
    refine rl_put C hok_42 jk_7 3 (by decide) jw_bfa82f796d (t := (1, (-9223372036854775808), 9223372036854775807)) ka_37 (by decide) rfl rfl rfl (tt_ja p3) rfl rfl dX0_addRequest_35 (fun pl_44 hok_45 tr hn tl => ?_)
    replace hf_2 := tr _ _ _ (Or.inl (tt_ne hk0 ka_37 (by decide))) hf_2
    replace hf_34 := tr _ _ _ (Or.inl (tt_ne hk0 ka_37 (by decide))) hf_34
    replace hf_40 := tr _ _ _ (Or.inr (by decide)) hf_40
    replace hf_43 := tr _ _ _ (Or.inr (by decide)) hf_43
    have hf_46 := hn
    replace hfr := hfr.put ka_37 tr (by decide)
    replace hfa := hfa.all tl
    refine jj_aload C dX0_addRequest_38 rfl ?_
    refine jj_lconst (v := 0) C dX0_addRequest_40 (by decide) ?_
    refine rl_put C hok_45 jk_7 4 (by decide) jw_2f9658d53e (t := (1, (-9223372036854775808), 9223372036854775807)) ka_37 (by decide) rfl rfl rfl (tt_ja (0 : Int64)) rfl rfl dX0_addRequest_41 (fun pl_47 hok_48 tr hn tl => ?_)
    replace hf_2 := tr _ _ _ (Or.inl (tt_ne hk0 ka_37 (by decide))) hf_2
    replace hf_34 := tr _ _ _ (Or.inl (tt_ne hk0 ka_37 (by decide))) hf_34
    replace hf_40 := tr _ _ _ (Or.inr (by decide)) hf_40
    replace hf_43 := tr _ _ _ (Or.inr (by decide)) hf_43
    replace hf_46 := tr _ _ _ (Or.inr (by decide)) hf_46
    have hf_49 := hn
    replace hfr := hfr.put ka_37 tr (by decide)
    replace hfa := hfa.all tl
    refine jj_aload C dX0_addRequest_44 rfl ?_
    refine jj_aload_n C dX0_addRequest_46 rfl ?_
    refine tt_get C hok_48 jk_2 5 (by decide) jw_cd8f4320e7 (t := (0, (-2147483648), 2147483647)) hk0 (by decide) rfl rfl dX0_addRequest_47 (fun v_50 hv_50 hf_51 => ?_)
    obtain ⟨x_52, rfl, lx_52, ux_52⟩ := tt_vi hv_50
    refine rl_put C hok_48 jk_7 1 (by decide) jw_beab64789a (t := (0, (-2147483648), 2147483647)) ka_37 (by decide) rfl rfl rfl (tt_ia x_52) rfl rfl dX0_addRequest_50 (fun pl_53 hok_54 tr hn tl => ?_)
    replace hf_2 := tr _ _ _ (Or.inl (tt_ne hk0 ka_37 (by decide))) hf_2
    replace hf_34 := tr _ _ _ (Or.inl (tt_ne hk0 ka_37 (by decide))) hf_34
    replace hf_40 := tr _ _ _ (Or.inr (by decide)) hf_40
    replace hf_43 := tr _ _ _ (Or.inr (by decide)) hf_43
    replace hf_46 := tr _ _ _ (Or.inr (by decide)) hf_46
    replace hf_49 := tr _ _ _ (Or.inr (by decide)) hf_49
    replace hf_51 := tr _ _ _ (Or.inl (tt_ne hk0 ka_37 (by decide))) hf_51
    have hf_55 := hn
    replace hfr := hfr.put ka_37 tr (by decide)
    replace hfa := hfa.all tl
    refine jj_aload_n C dX0_addRequest_53 rfl ?_
    refine jj_iload C dX0_addRequest_54 rfl ?_
    refine jj_iconst (v := 1) C dX0_addRequest_56 (by decide) ?_
    obtain ⟨x_56, ex_56, vx_56⟩ := tt_iadd (x := x_3) (y := (1 : Int32)) (a := x_3.toInt) rfl (b := 1) (by decide) (by omega) (by omega)
    refine jj_iadd (v := x_56) C dX0_addRequest_57 ex_56 ?_
    refine rl_put C hok_54 jk_2 9 (by decide) jw_a6a6052378 (t := (0, 0, 12)) hk0 (by decide) rfl rfl rfl (tt_iv (by omega) (by omega)) rfl rfl dX0_addRequest_58 (fun pl_57 hok_58 tr hn tl => ?_)
    replace hf_34 := tr _ _ _ (Or.inr (by decide)) hf_34
    replace hf_40 := tr _ _ _ (Or.inl (tt_ne ka_37 hk0 (by decide))) hf_40
    replace hf_43 := tr _ _ _ (Or.inl (tt_ne ka_37 hk0 (by decide))) hf_43
    replace hf_46 := tr _ _ _ (Or.inl (tt_ne ka_37 hk0 (by decide))) hf_46
    replace hf_49 := tr _ _ _ (Or.inl (tt_ne ka_37 hk0 (by decide))) hf_49
    replace hf_51 := tr _ _ _ (Or.inr (by decide)) hf_51
    replace hf_55 := tr _ _ _ (Or.inl (tt_ne ka_37 hk0 (by decide))) hf_55
    have hf_59 := hn
    replace hfr := hfr.put hk0 tr (by decide)
    replace hfa := hfa.all tl
    refine jj_iload C dX0_addRequest_61 rfl ?_
    exact jj_iret C ⟨[], pl_57, rfl, rfl, hok_58, hfr, hfa, (Or.inr ⟨x_3, (by first | omega | exact tt_lo _ | exact tt_hi _), (by first | omega | exact tt_lo _ | exact tt_hi _), rfl⟩)⟩ dX0_addRequest_63 (jj_le rfl) (jj_le rfl)

set_option maxHeartbeats 4000000 in
set_option maxRecDepth 100000 in
theorem tc_X10_reportByte_1 {l : Launch} (hl : l.stackTraces = false) (D : va_G) (cA : Nat → ClassId) (ak : (Nat → Nat) × (Nat → Nat)) {Kd : Nat → Nat} (h0 : Nat) (p1 : Int32) (hk0 : Kd h0 = 15) {pl0 : va_W} (hok : tt_ok tt_tk cA Kd pl0) : jj_M l D cA ak yX10_reportByte (.code yX10_reportByte cX10_reportByte 2 (some .int)) 6 82 1 6 ([] ++ pl0) [.ref h0, .int p1] (tt_O (fun rx pl1 r => rx = [] ∧ tt_ok tt_tk cA Kd pl1 ∧ tt_fr Kd [] pl0 pl1 ∧ tt_fa Kd [] pl0 pl1 ∧ ((∃ v : Int32, (-2147483648 : Int) ≤ v.toInt ∧ v.toInt ≤ 2147483647 ∧ (0 : Int) ≤ p1.toInt ∧ p1.toInt ≤ 1299 ∧ r = some (.int v))))) (tt_OX (fun E rx pl1 => rx = [] ∧ tt_ok tt_tk cA Kd pl1 ∧ tt_fr Kd [] pl0 pl1 ∧ tt_fa Kd [] pl0 pl1 ∧ (E = "java/lang/IndexOutOfBoundsException"))) := by
  refine jj_start hl (by decide) jw_53e83ff6d2 (jj_le rfl) ?_
  intro p e s m args below meth c A hargs hA C hex hmn
  have hfr := tt_fr.refl (K := Kd) (WS := []) pl0
  have hfa := tt_fa.refl (K := Kd) (WA := []) pl0
  have lp1 := tt_lo p1
  have up1 := tt_hi p1
  refine jj_iload_n C dX10_reportByte_0 rfl ?_
  refine jj_if_lt (tgt := 15) C dX10_reportByte_1 (by decide) (fun c_1 => ?_) (fun c_1 => ?_)
  · have z_c_1 := jc_lt (a := (p1).toInt) (b := (0)) c_1 rfl (by decide)
    exact jj_throwW (k := 52) (text := "no such byte") C jt_RX10_200 jw_290c9469a0 (by decide +kernel) dX10_reportByte_15 dX10_reportByte_18 dX10_reportByte_19 dX10_reportByte_22 dX10_reportByte_25 hex (jj_le rfl) (jj_le rfl) (jj_le rfl) (jj_le rfl) ⟨[], pl0, rfl, rfl, hok, hfr, hfa, rfl⟩ (jj_le rfl) (jj_le rfl)
  · have z_c_1 := jc_nlt (a := (p1).toInt) (b := (0)) c_1 rfl (by decide)
    refine jj_iload_n C dX10_reportByte_4 rfl ?_
    refine jj_aload_n C dX10_reportByte_5 rfl ?_
    refine tt_get C hok jk_11 9 (by decide) jw_f4d6dfb048 (t := (2, 12, 0)) hk0 (by decide) rfl rfl dX10_reportByte_6 (fun v_2 hv_2 hf_3 => ?_)
    obtain ⟨a_4, rfl, ka_4⟩ := tt_vr hv_2
    refine tt_get C hok jk_6 1 (by decide) jw_10614b509d (t := (0, 0, 1300)) ka_4 (by decide) rfl rfl dX10_reportByte_9 (fun v_5 hv_5 hf_6 => ?_)
    obtain ⟨x_7, rfl, lx_7, ux_7⟩ := tt_vi hv_5
    refine jj_icmp_lt (tgt := 26) C dX10_reportByte_12 (by decide) (fun c_8 => ?_) (fun c_8 => ?_)
    · have z_c_8 := jc_lt (a := (p1).toInt) (b := (x_7).toInt) c_8 rfl rfl
      refine jj_aload_n C dX10_reportByte_26 rfl ?_
      refine tt_getF C hok jk_11 9 (by decide) jw_f4d6dfb048 (t := (2, 12, 0)) hk0 (by decide) rfl rfl hf_3 dX10_reportByte_27 ?_
      refine tt_get C hok jk_6 0 (by decide) jw_f1b6504204 (t := (2, 13, 0)) ka_4 (by decide) rfl rfl dX10_reportByte_30 (fun v_9 hv_9 hf_10 => ?_)
      obtain ⟨a_11, rfl, ka_11⟩ := tt_vr hv_9
      refine jj_iload_n C dX10_reportByte_33 rfl ?_
      refine tt_bald C hok (t := (0, (-2147483648), 2147483647)) ka_11 (by decide) rfl (vp_in_iff.mpr ⟨by omega, by omega⟩) dX10_reportByte_34 (fun v_12 hv_12 => ?_)
      exact jj_iret C ⟨[], pl0, rfl, rfl, hok, hfr, hfa, ⟨v_12, (by first | omega | exact tt_lo _ | exact tt_hi _), (by first | omega | exact tt_lo _ | exact tt_hi _), (by first | omega | exact tt_lo _ | exact tt_hi _), (by first | omega | exact tt_lo _ | exact tt_hi _), rfl⟩⟩ dX10_reportByte_35 (jj_le rfl) (jj_le rfl)
    · have z_c_8 := jc_nlt (a := (p1).toInt) (b := (x_7).toInt) c_8 rfl rfl
      exact jj_throwW (k := 52) (text := "no such byte") C jt_RX10_200 jw_290c9469a0 (by decide +kernel) dX10_reportByte_15 dX10_reportByte_18 dX10_reportByte_19 dX10_reportByte_22 dX10_reportByte_25 hex (jj_le rfl) (jj_le rfl) (jj_le rfl) (jj_le rfl) ⟨[], pl0, rfl, rfl, hok, hfr, hfa, rfl⟩ (jj_le rfl) (jj_le rfl)

set_option maxHeartbeats 4000000 in
set_option maxRecDepth 100000 in
theorem tc_X10_request_1 {l : Launch} (hl : l.stackTraces = false) (D : va_G) (cA : Nat → ClassId) (ak : (Nat → Nat) × (Nat → Nat)) {Kd : Nat → Nat} (h0 : Nat) (p1 : Int32) (p2 : Int32) (hk0 : Kd h0 = 15) {pl0 : va_W} (hok : tt_ok tt_tk cA Kd pl0) : jj_M l D cA ak yX10_request (.code yX10_request cX10_request 4 (some .long)) 8 123 2 12 ([] ++ pl0) [.ref h0, .int p1, .int p2] (tt_O (fun rx pl1 r => rx = [] ∧ tt_ok tt_tk cA Kd pl1 ∧ tt_fr Kd [] pl0 pl1 ∧ tt_fa Kd [] pl0 pl1 ∧ ((∃ v : Int64, (0 : Int) ≤ p1.toInt ∧ p1.toInt ≤ 11 ∧ r = some (.long v)) ∨ ((0 : Int) ≤ p1.toInt ∧ p1.toInt ≤ 11 ∧ r = some (.long 0)) ∨ ((0 : Int) ≤ p1.toInt ∧ p1.toInt ≤ 11 ∧ r = some (.long 1))))) (tt_OX (fun E rx pl1 => rx = [] ∧ tt_ok tt_tk cA Kd pl1 ∧ tt_fr Kd [] pl0 pl1 ∧ tt_fa Kd [] pl0 pl1 ∧ (E = "java/lang/IllegalArgumentException" ∨ E = "java/lang/IndexOutOfBoundsException"))) := by
  refine jj_start hl (by decide) jw_c2a2d64516 (jj_le rfl) ?_
  intro p e s m args below meth c A hargs hA C hex hmn
  have hfr := tt_fr.refl (K := Kd) (WS := []) pl0
  have hfa := tt_fa.refl (K := Kd) (WA := []) pl0
  have lp1 := tt_lo p1
  have up1 := tt_hi p1
  have lp2 := tt_lo p2
  have up2 := tt_hi p2
  refine jj_aload_n C dX10_request_0 rfl ?_
  refine jj_iload_n C dX10_request_1 rfl ?_
  obtain ⟨qc, gs, hqc⟩ := tt_recv (cx := []) hok hk0 (by decide) rfl
  refine tt_callV (rest := []) C (tc_X10_checkRequest_1 hl D cA ak h0 p1 hk0 hok) [] [] rfl rfl (by decide) (by decide) (by decide) qc hqc rfl rfl jw_8393dc7999 jw_19ebf3d629 jw_0700398a86 jw_6f6d707074 jw_31f2a3897e jn_X10_checkRequest rfl (jj_le rfl) (jj_le rfl) (jj_le rfl) (jj_le rfl) (jj_le rfl) dX10_request_2 rfl (fun E rx pl_1 X_5 => ?_) (fun rx pl_1 r O_4 => ?_)
  · obtain ⟨rfl, hok_2, hr_3, hfa9, hE_6⟩ := X_5
    replace hfr := hfr.trans (hr_3.sub (by decide))
    replace hfa := hfa.trans (hfa9.sub (by decide))
    obtain rfl := hE_6
    exact jj_out C hex ⟨[], pl_1, rfl, rfl, hok_2, hfr, hfa, (Or.inr rfl)⟩ (jj_le rfl) (jj_le rfl)
  · obtain ⟨rfl, hok_2, hr_3, hfa9, hR_9⟩ := O_4
    replace hfr := hfr.trans (hr_3.sub (by decide))
    replace hfa := hfa.trans (hfa9.sub (by decide))
    obtain ⟨l_12, u_13, rfl⟩ := hR_9
    refine jj_aload_n C dX10_request_5 rfl ?_
    refine tt_get C hok_2 jk_11 3 (by decide) jw_f82a97e333 (t := (2, 1, 0)) hk0 (by decide) rfl rfl dX10_request_6 (fun v_14 hv_14 hf_15 => ?_)
    obtain ⟨a_16, rfl, ka_16⟩ := tt_vr hv_14
    refine tt_get C hok_2 jk_2 13 (by decide) jw_68e650e198 (t := (2, 8, 0)) ka_16 (by decide) rfl rfl dX10_request_9 (fun v_17 hv_17 hf_18 => ?_)
    obtain ⟨a_19, rfl, ka_19⟩ := tt_vr hv_17
    refine jj_iload_n C dX10_request_12 rfl ?_
    refine tt_aald C hok_2 (t := (2, 4, 0)) ka_19 (by decide) rfl rfl rfl (vp_in_iff.mpr ⟨by omega, by omega⟩) dX10_request_13 (fun v_20 hv_20 => ?_)
    obtain ⟨a_21, rfl, ka_21⟩ := tt_vr hv_20
    refine jj_astore_n C dX10_request_14 (by decide) rfl ?_
    refine jj_iload_n C dX10_request_15 rfl ?_
    rcases jj_em (p2 = 0) with c_22 | c_22
    · refine jj_tableIn (tgt := 48) C dX10_request_16 (by rw [c_22]; decide) (by rw [c_22]; decide) (by rw [c_22]; rfl) (by decide) ?_
      refine jj_aload_n C dX10_request_48 rfl ?_
      refine tt_get C hok_2 jk_7 0 (by decide) jw_217793c05e (t := (0, (-2147483648), 2147483647)) ka_21 (by decide) rfl rfl dX10_request_49 (fun v_23 hv_23 hf_24 => ?_)
      obtain ⟨x_25, rfl, lx_25, ux_25⟩ := tt_vi hv_23
      obtain ⟨y_26, ey_26, vy_26⟩ := tt_i2l x_25
      refine jj_i2l (v := y_26) C dX10_request_52 ey_26 ?_
      exact jj_lret C ⟨[], pl_1, rfl, rfl, hok_2, hfr, hfa, (Or.inl ⟨y_26, (by first | omega | exact tt_lo _ | exact tt_hi _), (by first | omega | exact tt_lo _ | exact tt_hi _), rfl⟩)⟩ dX10_request_53 (jj_le rfl) (jj_le rfl)
    rcases jj_em (p2 = 1) with c_27 | c_27
    · refine jj_tableIn (tgt := 54) C dX10_request_16 (by rw [c_27]; decide) (by rw [c_27]; decide) (by rw [c_27]; rfl) (by decide) ?_
      refine jj_aload_n C dX10_request_54 rfl ?_
      refine tt_get C hok_2 jk_7 2 (by decide) jw_1fa8e983d6 (t := (0, 0, 1)) ka_21 (by decide) rfl rfl dX10_request_55 (fun v_28 hv_28 hf_29 => ?_)
      obtain ⟨x_30, rfl, lx_30, ux_30⟩ := tt_vi hv_28
      refine jj_if_eq (tgt := 65) C dX10_request_58 (by decide) (fun c_31 => ?_) (fun c_31 => ?_)
      · have z_c_31 := jc_eq (a := (x_30).toInt) (b := (0)) c_31 rfl (by decide)
        refine jj_lconst (v := 0) C dX10_request_65 (by decide) ?_
        exact jj_lret C ⟨[], pl_1, rfl, rfl, hok_2, hfr, hfa, (Or.inl ⟨(0 : Int64), (by first | omega | exact tt_lo _ | exact tt_hi _), (by first | omega | exact tt_lo _ | exact tt_hi _), rfl⟩)⟩ dX10_request_66 (jj_le rfl) (jj_le rfl)
      · have z_c_31 := jc_neq (a := (x_30).toInt) (b := (0)) c_31 rfl (by decide)
        refine jj_lconst (v := 1) C dX10_request_61 (by decide) ?_
        refine jj_goto (tgt := 66) C dX10_request_62 (by decide) ?_
        exact jj_lret C ⟨[], pl_1, rfl, rfl, hok_2, hfr, hfa, (Or.inl ⟨(1 : Int64), (by first | omega | exact tt_lo _ | exact tt_hi _), (by first | omega | exact tt_lo _ | exact tt_hi _), rfl⟩)⟩ dX10_request_66 (jj_le rfl) (jj_le rfl)
    rcases jj_em (p2 = 2) with c_32 | c_32
    · refine jj_tableIn (tgt := 67) C dX10_request_16 (by rw [c_32]; decide) (by rw [c_32]; decide) (by rw [c_32]; rfl) (by decide) ?_
      refine jj_aload_n C dX10_request_67 rfl ?_
      refine tt_get C hok_2 jk_7 3 (by decide) jw_e3f21f06e1 (t := (1, (-9223372036854775808), 9223372036854775807)) ka_21 (by decide) rfl rfl dX10_request_68 (fun v_33 hv_33 hf_34 => ?_)
      obtain ⟨y_35, rfl, -, -⟩ := tt_vj hv_33
      exact jj_lret C ⟨[], pl_1, rfl, rfl, hok_2, hfr, hfa, (Or.inl ⟨y_35, (by first | omega | exact tt_lo _ | exact tt_hi _), (by first | omega | exact tt_lo _ | exact tt_hi _), rfl⟩)⟩ dX10_request_71 (jj_le rfl) (jj_le rfl)
    rcases jj_em (p2 = 3) with c_36 | c_36
    · refine jj_tableIn (tgt := 72) C dX10_request_16 (by rw [c_36]; decide) (by rw [c_36]; decide) (by rw [c_36]; rfl) (by decide) ?_
      refine jj_aload_n C dX10_request_72 rfl ?_
      refine tt_get C hok_2 jk_7 1 (by decide) jw_5d7680295c (t := (0, (-2147483648), 2147483647)) ka_21 (by decide) rfl rfl dX10_request_73 (fun v_37 hv_37 hf_38 => ?_)
      obtain ⟨x_39, rfl, lx_39, ux_39⟩ := tt_vi hv_37
      obtain ⟨y_40, ey_40, vy_40⟩ := tt_i2l x_39
      refine jj_i2l (v := y_40) C dX10_request_76 ey_40 ?_
      exact jj_lret C ⟨[], pl_1, rfl, rfl, hok_2, hfr, hfa, (Or.inl ⟨y_40, (by first | omega | exact tt_lo _ | exact tt_hi _), (by first | omega | exact tt_lo _ | exact tt_hi _), rfl⟩)⟩ dX10_request_77 (jj_le rfl) (jj_le rfl)
    refine jj_tableOut (tgt := 78) C dX10_request_16 (by have zc_22 := lv_neT (a := 0) c_22 (by decide); have zc_27 := lv_neT (a := 1) c_27 (by decide); have zc_32 := lv_neT (a := 2) c_32 (by decide); have zc_36 := lv_neT (a := 3) c_36 (by decide); omega) (by decide) ?_
    exact jj_throwW (k := 45) (text := "no such value") C jt_RX10_75 jw_0e6c957e85 (by decide +kernel) dX10_request_78 dX10_request_81 dX10_request_82 dX10_request_85 dX10_request_88 hex (jj_le rfl) (jj_le rfl) (jj_le rfl) (jj_le rfl) ⟨[], pl_1, rfl, rfl, hok_2, hfr, hfa, (Or.inl rfl)⟩ (jj_le rfl) (jj_le rfl)

set_option maxHeartbeats 4000000 in
set_option maxRecDepth 100000 in
theorem tc_X1_tryRedemption_3 {l : Launch} (hl : l.stackTraces = false) (D : va_G) (cA : Nat → ClassId) (ak : (Nat → Nat) × (Nat → Nat)) {Kd : Nat → Nat} (h0 : Nat) (h1 : Nat) (p2 : Int32) (hk0 : Kd h0 = 9) (hk1 : Kd h1 = 1) (lp2 : (0 : Int) ≤ p2.toInt) (up2 : p2.toInt ≤ 0) {pl0 : va_W} (hok : tt_ok tt_tk cA Kd pl0) : jj_M l D cA ak yX1_tryRedemption (.code yX1_tryRedemption cX1_tryRedemption 15 (some .long)) 2 54 0 0 ([] ++ pl0) [.ref h0, .ref h1, .int p2, .long 9223372036854775807, .int 1] (tt_O (fun rx pl1 r => rx = [] ∧ tt_ok tt_tk cA Kd pl1 ∧ tt_fr Kd [(2, 2), (2, 3), (9, 1), (9, 2), (9, 3), (9, 4), (9, 5)] pl0 pl1 ∧ tt_fa Kd [] pl0 pl1 ∧ ((∃ v : Int64, r = some (.long v))))) (tt_OX (fun _ _ _ => False)) := by
  refine jj_start hl (by decide) jw_a452736dc6 (jj_le rfl) ?_
  intro p e s m args below meth c A hargs hA C hex hmn
  have hfr := tt_fr.refl (K := Kd) (WS := [(2, 2), (2, 3), (9, 1), (9, 2), (9, 3), (9, 4), (9, 5)]) pl0
  have hfa := tt_fa.refl (K := Kd) (WA := []) pl0
  refine jj_lconst (v := 0) C dX1_tryRedemption_0 (by decide) ?_
  refine jj_lstore C dX1_tryRedemption_1 (by decide) rfl ?_
  refine jj_lload_n C dX1_tryRedemption_3 rfl ?_
  refine jj_lstore C dX1_tryRedemption_4 (by decide) rfl ?_
  refine jj_iconst (v := 0) C dX1_tryRedemption_6 (by decide) ?_
  refine jj_istore C dX1_tryRedemption_7 (by decide) rfl ?_
  have hL_1 : ∀ (N : Nat) (pl : va_W) (x_2 : Int32) (y_3 : Int64) (y_4 : Int64), True → tt_ok tt_tk cA Kd pl → tt_fr Kd [(2, 2), (2, 3), (9, 1), (9, 2), (9, 3), (9, 4), (9, 5)] pl0 pl → tt_fa Kd [] pl0 pl → (0 : Int) ≤ x_2.toInt → x_2.toInt ≤ 40 → (2147483648 - x_2.toInt ≤ (N : Int)) → jj_J p l e (jj_rm 2 54 0 0) s m args below meth c 15 A (vx_MQ below (jj_q D A (tt_O (fun rx pl1 r => rx = [] ∧ tt_ok tt_tk cA Kd pl1 ∧ tt_fr Kd [(2, 2), (2, 3), (9, 1), (9, 2), (9, 3), (9, 4), (9, 5)] pl0 pl1 ∧ tt_fa Kd [] pl0 pl1 ∧ ((∃ v : Int64, r = some (.long v)))))) (jj_x D A (tt_OX (fun _ _ _ => False))) args s 0 0 A) (jj_X D A ([] ++ pl)) 0 0 9 [(10, .int x_2), (8, .long y_3), (6, .long y_4), (0, .ref h0), (1, .ref h1), (2, .int p2), (3, .long 9223372036854775807), (5, .int 1)] [] := by
    intro NL_1
    induction NL_1 with
    | zero => intro pl x_2 y_3 y_4 _ hok hfr hfa lx_2 ux_2 hNL_1; exfalso; omega
    | succ NL_1 ihL_1 =>
      intro pl x_2 y_3 y_4 _ hok hfr hfa lx_2 ux_2 hNL_1
      replace ihL_1 := fun pl x_2 y_3 y_4 h1 => ihL_1 pl x_2 y_3 y_4 trivial h1
      refine jj_iload C dX1_tryRedemption_9 rfl ?_
      refine jj_aload_n C dX1_tryRedemption_11 rfl ?_
      refine tt_get C hok jk_2 8 (by decide) jw_eaf43346a8 (t := (0, 0, 40)) hk1 (by decide) rfl rfl dX1_tryRedemption_12 (fun v_5 hv_5 hf_6 => ?_)
      obtain ⟨x_7, rfl, lx_7, ux_7⟩ := tt_vi hv_5
      refine jj_icmp_ge (tgt := 173) C dX1_tryRedemption_15 (by decide) (fun c_8 => ?_) (fun c_8 => ?_)
      · have z_c_8 := jc_le (a := (x_7).toInt) (b := (x_2).toInt) c_8 rfl rfl
        refine jj_lload C dX1_tryRedemption_173 rfl ?_
        exact jj_lret C ⟨[], pl, rfl, rfl, hok, hfr, hfa, ⟨y_4, rfl⟩⟩ dX1_tryRedemption_175 (jj_le rfl) (jj_le rfl)
      · have z_c_8 := jc_nle (a := (x_7).toInt) (b := (x_2).toInt) c_8 rfl rfl
        refine jj_lload C dX1_tryRedemption_18 rfl ?_
        refine jj_lconst (v := 0) C dX1_tryRedemption_20 (by decide) ?_
        refine jj_lcmp_le (tgt := 173) C dX1_tryRedemption_21 dX1_tryRedemption_22 (by decide) (fun c_9 => ?_) (fun c_9 => ?_)
        · refine jj_lload C dX1_tryRedemption_173 rfl ?_
          exact jj_lret C ⟨[], pl, rfl, rfl, hok, hfr, hfa, ⟨y_4, rfl⟩⟩ dX1_tryRedemption_175 (jj_le rfl) (jj_le rfl)
        · refine jj_aload_n C dX1_tryRedemption_25 rfl ?_
          refine tt_get C hok jk_2 12 (by decide) jw_41d1bd2a61 (t := (2, 7, 0)) hk1 (by decide) rfl rfl dX1_tryRedemption_26 (fun v_10 hv_10 hf_11 => ?_)
          obtain ⟨a_12, rfl, ka_12⟩ := tt_vr hv_10
          refine jj_iload C dX1_tryRedemption_29 rfl ?_
          refine tt_aald C hok (t := (2, 3, 0)) ka_12 (by decide) rfl rfl rfl (vp_in_iff.mpr ⟨by omega, by omega⟩) dX1_tryRedemption_31 (fun v_13 hv_13 => ?_)
          obtain ⟨a_14, rfl, ka_14⟩ := tt_vr hv_13
          refine jj_astore C dX1_tryRedemption_32 (by decide) rfl ?_
          refine jj_aload_n C dX1_tryRedemption_34 rfl ?_
          refine jj_aload C dX1_tryRedemption_35 rfl ?_
          refine tt_get C hok jk_5 1 (by decide) jw_85587ec127 (t := (0, (-2147483648), 2147483647)) ka_14 (by decide) rfl rfl dX1_tryRedemption_37 (fun v_15 hv_15 hf_16 => ?_)
          obtain ⟨x_17, rfl, lx_17, ux_17⟩ := tt_vi hv_15
          obtain ⟨qc, gs, hqc⟩ := tt_recv (cx := []) hok hk1 (by decide) rfl
          refine tt_callV (rest := []) C (tc_X0_placeOfSeries_1 hl D cA ak h1 x_17 hk1 hok) [] [] rfl rfl (by decide) (by decide) (by decide) qc hqc rfl rfl jw_bb838ff949 jw_0061c834c4 jw_a3c4f03cad jw_7d25d4fd32 jw_3fe68be2d3 jn_X0_placeOfSeries rfl (jj_le rfl) (jj_le rfl) (jj_le rfl) (jj_le rfl) (jj_le rfl) dX1_tryRedemption_40 rfl (fun _ _ _ hX => hX.elim) (fun rx pl_18 r O_21 => ?_)
          obtain ⟨rfl, hok_19, hr_20, hfa9, hR_23⟩ := O_21
          replace hf_6 := hr_20.at hk1 (by decide) (by decide) hf_6
          replace hf_11 := hr_20.at hk1 (by decide) (by decide) hf_11
          replace hf_16 := hr_20.at ka_14 (by decide) (by decide) hf_16
          replace hfr := hfr.trans (hr_20.sub (by decide))
          replace hfa := hfa.trans (hfa9.sub (by decide))
          rcases hR_23 with rfl | ⟨x_26, lx_26, ux_26, rfl⟩
          · refine jj_istore C dX1_tryRedemption_43 (by decide) rfl ?_
            refine jj_aload C dX1_tryRedemption_45 rfl ?_
            refine tt_get C hok_19 jk_5 0 (by decide) jw_a8c98ef318 (t := (0, (-2147483648), 2147483647)) ka_14 (by decide) rfl rfl dX1_tryRedemption_47 (fun v_27 hv_27 hf_28 => ?_)
            obtain ⟨x_29, rfl, lx_29, ux_29⟩ := tt_vi hv_27
            refine jj_iload_n C dX1_tryRedemption_50 rfl ?_
            refine jj_icmp_ne (tgt := 167) C dX1_tryRedemption_51 (by decide) (fun c_30 => ?_) (fun c_30 => ?_)
            · have z_c_30 := jc_neq (a := (x_29).toInt) (b := (p2).toInt) c_30 rfl rfl
              obtain ⟨x_31, ex_31, vx_31⟩ := tt_inc (x := x_2) (n := 1) (by omega) (by omega)
              refine jj_iinc (v := x_31) C dX1_tryRedemption_167 rfl ex_31 (by decide) rfl ?_
              refine jj_goto (tgt := 9) C dX1_tryRedemption_170 (by decide) ?_
              refine jj_loc [0, 3, 4, 5, 6, 7, 8, 9] rfl ?_
              exact ihL_1 pl_18 x_31 y_3 y_4 hok_19 hfr hfa (by first | omega | decide | exact tt_lo _ | exact tt_hi _) (by first | omega | decide | exact tt_lo _ | exact tt_hi _) (by first | omega | decide | exact tt_lo _ | exact tt_hi _)
            · have z_c_30 := jc_eq (a := (x_29).toInt) (b := (p2).toInt) c_30 rfl rfl
              refine jj_iload C dX1_tryRedemption_54 rfl ?_
              refine jj_iconst (v := (-1)) C dX1_tryRedemption_56 (by decide) ?_
              refine jj_icmp_eqT (tgt := 167) C dX1_tryRedemption_57 (by decide) (by decide) ?_
              obtain ⟨x_32, ex_32, vx_32⟩ := tt_inc (x := x_2) (n := 1) (by omega) (by omega)
              refine jj_iinc (v := x_32) C dX1_tryRedemption_167 rfl ex_32 (by decide) rfl ?_
              refine jj_goto (tgt := 9) C dX1_tryRedemption_170 (by decide) ?_
              refine jj_loc [0, 3, 4, 5, 6, 7, 8, 9] rfl ?_
              exact ihL_1 pl_18 x_32 y_3 y_4 hok_19 hfr hfa (by first | omega | decide | exact tt_lo _ | exact tt_hi _) (by first | omega | decide | exact tt_lo _ | exact tt_hi _) (by first | omega | decide | exact tt_lo _ | exact tt_hi _)
          · refine jj_istore C dX1_tryRedemption_43 (by decide) rfl ?_
            refine jj_aload C dX1_tryRedemption_45 rfl ?_
            refine tt_get C hok_19 jk_5 0 (by decide) jw_a8c98ef318 (t := (0, (-2147483648), 2147483647)) ka_14 (by decide) rfl rfl dX1_tryRedemption_47 (fun v_33 hv_33 hf_34 => ?_)
            obtain ⟨x_35, rfl, lx_35, ux_35⟩ := tt_vi hv_33
            refine jj_iload_n C dX1_tryRedemption_50 rfl ?_
            refine jj_icmp_ne (tgt := 167) C dX1_tryRedemption_51 (by decide) (fun c_36 => ?_) (fun c_36 => ?_)
            · have z_c_36 := jc_neq (a := (x_35).toInt) (b := (p2).toInt) c_36 rfl rfl
              obtain ⟨x_37, ex_37, vx_37⟩ := tt_inc (x := x_2) (n := 1) (by omega) (by omega)
              refine jj_iinc (v := x_37) C dX1_tryRedemption_167 rfl ex_37 (by decide) rfl ?_
              refine jj_goto (tgt := 9) C dX1_tryRedemption_170 (by decide) ?_
              refine jj_loc [0, 3, 4, 5, 6, 7, 8, 9] rfl ?_
              exact ihL_1 pl_18 x_37 y_3 y_4 hok_19 hfr hfa (by first | omega | decide | exact tt_lo _ | exact tt_hi _) (by first | omega | decide | exact tt_lo _ | exact tt_hi _) (by first | omega | decide | exact tt_lo _ | exact tt_hi _)
            · have z_c_36 := jc_eq (a := (x_35).toInt) (b := (p2).toInt) c_36 rfl rfl
              refine jj_iload C dX1_tryRedemption_54 rfl ?_
              refine jj_iconst (v := (-1)) C dX1_tryRedemption_56 (by decide) ?_
              refine jj_icmp_eq (tgt := 167) C dX1_tryRedemption_57 (by decide) (fun c_38 => ?_) (fun c_38 => ?_)
              · have z_c_38 := jc_eq (a := (x_26).toInt) (b := (-1)) c_38 rfl (by decide)
                exfalso; omega
              · have z_c_38 := jc_neq (a := (x_26).toInt) (b := (-1)) c_38 rfl (by decide)
                refine jj_lload C dX1_tryRedemption_60 rfl ?_
                refine jj_aload C dX1_tryRedemption_62 rfl ?_
                refine tt_get C hok_19 jk_5 3 (by decide) jw_fcb072e0d9 (t := (1, (-9223372036854775808), 9223372036854775807)) ka_14 (by decide) rfl rfl dX1_tryRedemption_64 (fun v_39 hv_39 hf_40 => ?_)
                obtain ⟨y_41, rfl, -, -⟩ := tt_vj hv_39
                refine tt_call0S (rest := []) C (ct_J9_min_f86c9_1 hl D cA ak y_3 y_41) jw_fa02caeb63 jw_a0cddbe894 jw_a731c8553d jw_e0e7ffaaeb jn_J9_min_f86c9 rfl (jj_le rfl) (jj_le rfl) (jj_le rfl) (jj_le rfl) (jj_le rfl) dX1_tryRedemption_67 rfl (fun w1 r O_42 => ?_)
                rcases O_42 with ⟨c_43, -, rfl⟩ | ⟨c_44, -, rfl⟩
                · refine jj_lstore C dX1_tryRedemption_70 (by decide) rfl ?_
                  refine jj_aload_n C dX1_tryRedemption_72 rfl ?_
                  refine jj_aload_n C dX1_tryRedemption_73 rfl ?_
                  refine jj_aload_n C dX1_tryRedemption_74 rfl ?_
                  refine tt_get C hok_19 jk_3 0 (by decide) jw_808194b586 (t := (2, 6, 0)) hk0 (by decide) rfl rfl dX1_tryRedemption_75 (fun v_45 hv_45 hf_46 => ?_)
                  obtain ⟨a_47, rfl, ka_47⟩ := tt_vr hv_45
                  refine jj_iload C dX1_tryRedemption_78 rfl ?_
                  refine tt_aald C hok_19 (t := (2, 2, 0)) ka_47 (by decide) rfl rfl rfl (vp_in_iff.mpr ⟨by omega, by omega⟩) dX1_tryRedemption_80 (fun v_48 hv_48 => ?_)
                  obtain ⟨a_49, rfl, ka_49⟩ := tt_vr hv_48
                  refine jj_aload C dX1_tryRedemption_81 rfl ?_
                  refine jj_lload C dX1_tryRedemption_83 rfl ?_
                  obtain ⟨qc, gs, hqc⟩ := tt_recv (cx := []) hok_19 hk0 (by decide) rfl
                  refine tt_callV (rest := []) C (tc_X1_quote_1 hl D cA ak h0 h1 a_49 a_14 y_41 hk0 hk1 ka_49 ka_14 hok_19) [] [] rfl rfl (by decide) (by decide) (by decide) qc hqc rfl rfl jw_1832e55719 jw_b1f9248fb6 jw_6c091437de jw_944cf9c3ab jw_9a9d59d9b6 jn_X1_quote rfl (jj_le rfl) (jj_le rfl) (jj_le rfl) (jj_le rfl) (jj_le rfl) dX1_tryRedemption_85 rfl (fun _ _ _ hX => hX.elim) (fun rx pl_50 r O_53 => ?_)
                  obtain ⟨rfl, hok_51, hr_52, hfa9, hR_55⟩ := O_53
                  replace hf_6 := hr_52.at hk1 (by decide) (by decide) hf_6
                  replace hf_11 := hr_52.at hk1 (by decide) (by decide) hf_11
                  replace hf_16 := hr_52.at ka_14 (by decide) (by decide) hf_16
                  replace hf_34 := hr_52.at ka_14 (by decide) (by decide) hf_34
                  replace hf_40 := hr_52.at ka_14 (by decide) (by decide) hf_40
                  replace hf_46 := hr_52.at hk0 (by decide) (by decide) hf_46
                  replace hfr := hfr.trans (hr_52.sub (by decide))
                  replace hfa := hfa.trans (hfa9.sub (by decide))
                  obtain rfl := hR_55
                  refine jj_aload_n C dX1_tryRedemption_88 rfl ?_
                  refine tt_getF C hok_51 jk_3 0 (by decide) jw_808194b586 (t := (2, 6, 0)) hk0 (by decide) rfl rfl hf_46 dX1_tryRedemption_89 ?_
                  refine jj_iload C dX1_tryRedemption_92 rfl ?_
                  refine tt_aald C hok_51 (t := (2, 2, 0)) ka_47 (by decide) rfl rfl rfl (vp_in_iff.mpr ⟨by omega, by omega⟩) dX1_tryRedemption_94 (fun v_58 hv_58 => ?_)
                  obtain ⟨a_59, rfl, ka_59⟩ := tt_vr hv_58
                  refine jj_dup C dX1_tryRedemption_95 rfl ?_
                  refine tt_get C hok_51 jk_9 2 (by decide) jw_a25c79ea7a (t := (1, (-9223372036854775808), 9223372036854775807)) ka_59 (by decide) rfl rfl dX1_tryRedemption_96 (fun v_60 hv_60 hf_61 => ?_)
                  obtain ⟨y_62, rfl, -, -⟩ := tt_vj hv_60
                  refine jj_aload_n C dX1_tryRedemption_99 rfl ?_
                  refine tt_get C hok_51 jk_3 1 (by decide) jw_d747bb1560 (t := (1, (-9223372036854775808), 9223372036854775807)) hk0 (by decide) rfl rfl dX1_tryRedemption_100 (fun v_63 hv_63 hf_64 => ?_)
                  obtain ⟨y_65, rfl, -, -⟩ := tt_vj hv_63
                  refine jj_aload_n C dX1_tryRedemption_103 rfl ?_
                  refine tt_get C hok_51 jk_3 2 (by decide) jw_771ad03ca8 (t := (1, (-9223372036854775808), 9223372036854775807)) hk0 (by decide) rfl rfl dX1_tryRedemption_104 (fun v_66 hv_66 hf_67 => ?_)
                  obtain ⟨y_68, rfl, -, -⟩ := tt_vj hv_66
                  obtain ⟨y_69, ey_69⟩ : ∃ z : Int64, y_65 + y_68 = z := ⟨_, rfl⟩
                  refine jj_ladd (v := y_69) C dX1_tryRedemption_107 ey_69 ?_
                  obtain ⟨y_70, ey_70⟩ : ∃ z : Int64, y_62 - y_69 = z := ⟨_, rfl⟩
                  refine jj_lsub (v := y_70) C dX1_tryRedemption_108 ey_70 ?_
                  refine rl_put C hok_51 jk_9 2 (by decide) jw_a25c79ea7a (t := (1, (-9223372036854775808), 9223372036854775807)) ka_59 (by decide) rfl rfl rfl (tt_ja y_70) rfl rfl dX1_tryRedemption_109 (fun pl_71 hok_72 tr hn tl => ?_)
                  replace hf_6 := tr _ _ _ (Or.inl (tt_ne hk1 ka_59 (by decide))) hf_6
                  replace hf_11 := tr _ _ _ (Or.inl (tt_ne hk1 ka_59 (by decide))) hf_11
                  replace hf_16 := tr _ _ _ (Or.inl (tt_ne ka_14 ka_59 (by decide))) hf_16
                  replace hf_34 := tr _ _ _ (Or.inl (tt_ne ka_14 ka_59 (by decide))) hf_34
                  replace hf_40 := tr _ _ _ (Or.inl (tt_ne ka_14 ka_59 (by decide))) hf_40
                  replace hf_46 := tr _ _ _ (Or.inl (tt_ne hk0 ka_59 (by decide))) hf_46
                  replace hf_64 := tr _ _ _ (Or.inl (tt_ne hk0 ka_59 (by decide))) hf_64
                  replace hf_67 := tr _ _ _ (Or.inl (tt_ne hk0 ka_59 (by decide))) hf_67
                  have hf_73 := hn
                  replace hfr := hfr.put ka_59 tr (by decide)
                  replace hfa := hfa.all tl
                  refine jj_aload_n C dX1_tryRedemption_112 rfl ?_
                  refine tt_getF C hok_72 jk_3 0 (by decide) jw_808194b586 (t := (2, 6, 0)) hk0 (by decide) rfl rfl hf_46 dX1_tryRedemption_113 ?_
                  refine jj_iload C dX1_tryRedemption_116 rfl ?_
                  refine tt_aald C hok_72 (t := (2, 2, 0)) ka_47 (by decide) rfl rfl rfl (vp_in_iff.mpr ⟨by omega, by omega⟩) dX1_tryRedemption_118 (fun v_74 hv_74 => ?_)
                  obtain ⟨a_75, rfl, ka_75⟩ := tt_vr hv_74
                  refine jj_dup C dX1_tryRedemption_119 rfl ?_
                  refine tt_get C hok_72 jk_9 3 (by decide) jw_df3b225d28 (t := (1, (-9223372036854775808), 9223372036854775807)) ka_75 (by decide) rfl rfl dX1_tryRedemption_120 (fun v_76 hv_76 hf_77 => ?_)
                  obtain ⟨y_78, rfl, -, -⟩ := tt_vj hv_76
                  refine jj_lload C dX1_tryRedemption_123 rfl ?_
                  obtain ⟨y_79, ey_79⟩ : ∃ z : Int64, y_78 - y_41 = z := ⟨_, rfl⟩
                  refine jj_lsub (v := y_79) C dX1_tryRedemption_125 ey_79 ?_
                  refine rl_put C hok_72 jk_9 3 (by decide) jw_df3b225d28 (t := (1, (-9223372036854775808), 9223372036854775807)) ka_75 (by decide) rfl rfl rfl (tt_ja y_79) rfl rfl dX1_tryRedemption_126 (fun pl_80 hok_81 tr hn tl => ?_)
                  replace hf_6 := tr _ _ _ (Or.inl (tt_ne hk1 ka_75 (by decide))) hf_6
                  replace hf_11 := tr _ _ _ (Or.inl (tt_ne hk1 ka_75 (by decide))) hf_11
                  replace hf_16 := tr _ _ _ (Or.inl (tt_ne ka_14 ka_75 (by decide))) hf_16
                  replace hf_34 := tr _ _ _ (Or.inl (tt_ne ka_14 ka_75 (by decide))) hf_34
                  replace hf_40 := tr _ _ _ (Or.inl (tt_ne ka_14 ka_75 (by decide))) hf_40
                  replace hf_46 := tr _ _ _ (Or.inl (tt_ne hk0 ka_75 (by decide))) hf_46
                  replace hf_64 := tr _ _ _ (Or.inl (tt_ne hk0 ka_75 (by decide))) hf_64
                  replace hf_67 := tr _ _ _ (Or.inl (tt_ne hk0 ka_75 (by decide))) hf_67
                  replace hf_73 := tr _ _ _ (Or.inr (by decide)) hf_73
                  have hf_82 := hn
                  replace hfr := hfr.put ka_75 tr (by decide)
                  replace hfa := hfa.all tl
                  refine jj_lload C dX1_tryRedemption_129 rfl ?_
                  refine jj_lload C dX1_tryRedemption_131 rfl ?_
                  obtain ⟨y_83, ey_83⟩ : ∃ z : Int64, y_3 - y_41 = z := ⟨_, rfl⟩
                  refine jj_lsub (v := y_83) C dX1_tryRedemption_133 ey_83 ?_
                  refine jj_lstore C dX1_tryRedemption_134 (by decide) rfl ?_
                  refine jj_lload C dX1_tryRedemption_136 rfl ?_
                  refine jj_iload C dX1_tryRedemption_138 rfl ?_
                  refine jj_if_eqF (tgt := 160) C dX1_tryRedemption_140 (by decide) (by decide) ?_
                  refine jj_aload_n C dX1_tryRedemption_143 rfl ?_
                  refine tt_getF C hok_81 jk_3 1 (by decide) jw_d747bb1560 (t := (1, (-9223372036854775808), 9223372036854775807)) hk0 (by decide) rfl rfl hf_64 dX1_tryRedemption_144 ?_
                  refine jj_aload_n C dX1_tryRedemption_147 rfl ?_
                  refine tt_get C hok_81 jk_3 4 (by decide) jw_21f29d6c44 (t := (1, (-9223372036854775808), 9223372036854775807)) hk0 (by decide) rfl rfl dX1_tryRedemption_148 (fun v_84 hv_84 hf_85 => ?_)
                  obtain ⟨y_86, rfl, -, -⟩ := tt_vj hv_84
                  obtain ⟨y_87, ey_87⟩ : ∃ z : Int64, y_65 + y_86 = z := ⟨_, rfl⟩
                  refine jj_ladd (v := y_87) C dX1_tryRedemption_151 ey_87 ?_
                  refine jj_aload_n C dX1_tryRedemption_152 rfl ?_
                  refine tt_get C hok_81 jk_3 5 (by decide) jw_e41f55c9ce (t := (1, (-9223372036854775808), 9223372036854775807)) hk0 (by decide) rfl rfl dX1_tryRedemption_153 (fun v_88 hv_88 hf_89 => ?_)
                  obtain ⟨y_90, rfl, -, -⟩ := tt_vj hv_88
                  obtain ⟨y_91, ey_91⟩ : ∃ z : Int64, y_87 - y_90 = z := ⟨_, rfl⟩
                  refine jj_lsub (v := y_91) C dX1_tryRedemption_156 ey_91 ?_
                  refine jj_goto (tgt := 164) C dX1_tryRedemption_157 (by decide) ?_
                  obtain ⟨y_92, ey_92⟩ : ∃ z : Int64, y_4 + y_91 = z := ⟨_, rfl⟩
                  refine jj_ladd (v := y_92) C dX1_tryRedemption_164 ey_92 ?_
                  refine jj_lstore C dX1_tryRedemption_165 (by decide) rfl ?_
                  obtain ⟨x_93, ex_93, vx_93⟩ := tt_inc (x := x_2) (n := 1) (by omega) (by omega)
                  refine jj_iinc (v := x_93) C dX1_tryRedemption_167 rfl ex_93 (by decide) rfl ?_
                  refine jj_goto (tgt := 9) C dX1_tryRedemption_170 (by decide) ?_
                  refine jj_loc [0, 2, 1, 6, 7, 8, 9, 10] rfl ?_
                  exact ihL_1 pl_80 x_93 y_83 y_92 hok_81 hfr hfa (by first | omega | decide | exact tt_lo _ | exact tt_hi _) (by first | omega | decide | exact tt_lo _ | exact tt_hi _) (by first | omega | decide | exact tt_lo _ | exact tt_hi _)
                · refine jj_lstore C dX1_tryRedemption_70 (by decide) rfl ?_
                  refine jj_aload_n C dX1_tryRedemption_72 rfl ?_
                  refine jj_aload_n C dX1_tryRedemption_73 rfl ?_
                  refine jj_aload_n C dX1_tryRedemption_74 rfl ?_
                  refine tt_get C hok_19 jk_3 0 (by decide) jw_808194b586 (t := (2, 6, 0)) hk0 (by decide) rfl rfl dX1_tryRedemption_75 (fun v_94 hv_94 hf_95 => ?_)
                  obtain ⟨a_96, rfl, ka_96⟩ := tt_vr hv_94
                  refine jj_iload C dX1_tryRedemption_78 rfl ?_
                  refine tt_aald C hok_19 (t := (2, 2, 0)) ka_96 (by decide) rfl rfl rfl (vp_in_iff.mpr ⟨by omega, by omega⟩) dX1_tryRedemption_80 (fun v_97 hv_97 => ?_)
                  obtain ⟨a_98, rfl, ka_98⟩ := tt_vr hv_97
                  refine jj_aload C dX1_tryRedemption_81 rfl ?_
                  refine jj_lload C dX1_tryRedemption_83 rfl ?_
                  obtain ⟨qc, gs, hqc⟩ := tt_recv (cx := []) hok_19 hk0 (by decide) rfl
                  refine tt_callV (rest := []) C (tc_X1_quote_1 hl D cA ak h0 h1 a_98 a_14 y_3 hk0 hk1 ka_98 ka_14 hok_19) [] [] rfl rfl (by decide) (by decide) (by decide) qc hqc rfl rfl jw_1832e55719 jw_b1f9248fb6 jw_6c091437de jw_944cf9c3ab jw_9a9d59d9b6 jn_X1_quote rfl (jj_le rfl) (jj_le rfl) (jj_le rfl) (jj_le rfl) (jj_le rfl) dX1_tryRedemption_85 rfl (fun _ _ _ hX => hX.elim) (fun rx pl_99 r O_102 => ?_)
                  obtain ⟨rfl, hok_100, hr_101, hfa9, hR_104⟩ := O_102
                  replace hf_6 := hr_101.at hk1 (by decide) (by decide) hf_6
                  replace hf_11 := hr_101.at hk1 (by decide) (by decide) hf_11
                  replace hf_16 := hr_101.at ka_14 (by decide) (by decide) hf_16
                  replace hf_34 := hr_101.at ka_14 (by decide) (by decide) hf_34
                  replace hf_40 := hr_101.at ka_14 (by decide) (by decide) hf_40
                  replace hf_95 := hr_101.at hk0 (by decide) (by decide) hf_95
                  replace hfr := hfr.trans (hr_101.sub (by decide))
                  replace hfa := hfa.trans (hfa9.sub (by decide))
                  obtain rfl := hR_104
                  refine jj_aload_n C dX1_tryRedemption_88 rfl ?_
                  refine tt_getF C hok_100 jk_3 0 (by decide) jw_808194b586 (t := (2, 6, 0)) hk0 (by decide) rfl rfl hf_95 dX1_tryRedemption_89 ?_
                  refine jj_iload C dX1_tryRedemption_92 rfl ?_
                  refine tt_aald C hok_100 (t := (2, 2, 0)) ka_96 (by decide) rfl rfl rfl (vp_in_iff.mpr ⟨by omega, by omega⟩) dX1_tryRedemption_94 (fun v_107 hv_107 => ?_)
                  obtain ⟨a_108, rfl, ka_108⟩ := tt_vr hv_107
                  refine jj_dup C dX1_tryRedemption_95 rfl ?_
                  refine tt_get C hok_100 jk_9 2 (by decide) jw_a25c79ea7a (t := (1, (-9223372036854775808), 9223372036854775807)) ka_108 (by decide) rfl rfl dX1_tryRedemption_96 (fun v_109 hv_109 hf_110 => ?_)
                  obtain ⟨y_111, rfl, -, -⟩ := tt_vj hv_109
                  refine jj_aload_n C dX1_tryRedemption_99 rfl ?_
                  refine tt_get C hok_100 jk_3 1 (by decide) jw_d747bb1560 (t := (1, (-9223372036854775808), 9223372036854775807)) hk0 (by decide) rfl rfl dX1_tryRedemption_100 (fun v_112 hv_112 hf_113 => ?_)
                  obtain ⟨y_114, rfl, -, -⟩ := tt_vj hv_112
                  refine jj_aload_n C dX1_tryRedemption_103 rfl ?_
                  refine tt_get C hok_100 jk_3 2 (by decide) jw_771ad03ca8 (t := (1, (-9223372036854775808), 9223372036854775807)) hk0 (by decide) rfl rfl dX1_tryRedemption_104 (fun v_115 hv_115 hf_116 => ?_)
                  obtain ⟨y_117, rfl, -, -⟩ := tt_vj hv_115
                  obtain ⟨y_118, ey_118⟩ : ∃ z : Int64, y_114 + y_117 = z := ⟨_, rfl⟩
                  refine jj_ladd (v := y_118) C dX1_tryRedemption_107 ey_118 ?_
                  obtain ⟨y_119, ey_119⟩ : ∃ z : Int64, y_111 - y_118 = z := ⟨_, rfl⟩
                  refine jj_lsub (v := y_119) C dX1_tryRedemption_108 ey_119 ?_
                  refine rl_put C hok_100 jk_9 2 (by decide) jw_a25c79ea7a (t := (1, (-9223372036854775808), 9223372036854775807)) ka_108 (by decide) rfl rfl rfl (tt_ja y_119) rfl rfl dX1_tryRedemption_109 (fun pl_120 hok_121 tr hn tl => ?_)
                  replace hf_6 := tr _ _ _ (Or.inl (tt_ne hk1 ka_108 (by decide))) hf_6
                  replace hf_11 := tr _ _ _ (Or.inl (tt_ne hk1 ka_108 (by decide))) hf_11
                  replace hf_16 := tr _ _ _ (Or.inl (tt_ne ka_14 ka_108 (by decide))) hf_16
                  replace hf_34 := tr _ _ _ (Or.inl (tt_ne ka_14 ka_108 (by decide))) hf_34
                  replace hf_40 := tr _ _ _ (Or.inl (tt_ne ka_14 ka_108 (by decide))) hf_40
                  replace hf_95 := tr _ _ _ (Or.inl (tt_ne hk0 ka_108 (by decide))) hf_95
                  replace hf_113 := tr _ _ _ (Or.inl (tt_ne hk0 ka_108 (by decide))) hf_113
                  replace hf_116 := tr _ _ _ (Or.inl (tt_ne hk0 ka_108 (by decide))) hf_116
                  have hf_122 := hn
                  replace hfr := hfr.put ka_108 tr (by decide)
                  replace hfa := hfa.all tl
                  refine jj_aload_n C dX1_tryRedemption_112 rfl ?_
                  refine tt_getF C hok_121 jk_3 0 (by decide) jw_808194b586 (t := (2, 6, 0)) hk0 (by decide) rfl rfl hf_95 dX1_tryRedemption_113 ?_
                  refine jj_iload C dX1_tryRedemption_116 rfl ?_
                  refine tt_aald C hok_121 (t := (2, 2, 0)) ka_96 (by decide) rfl rfl rfl (vp_in_iff.mpr ⟨by omega, by omega⟩) dX1_tryRedemption_118 (fun v_123 hv_123 => ?_)
                  obtain ⟨a_124, rfl, ka_124⟩ := tt_vr hv_123
                  refine jj_dup C dX1_tryRedemption_119 rfl ?_
                  refine tt_get C hok_121 jk_9 3 (by decide) jw_df3b225d28 (t := (1, (-9223372036854775808), 9223372036854775807)) ka_124 (by decide) rfl rfl dX1_tryRedemption_120 (fun v_125 hv_125 hf_126 => ?_)
                  obtain ⟨y_127, rfl, -, -⟩ := tt_vj hv_125
                  refine jj_lload C dX1_tryRedemption_123 rfl ?_
                  obtain ⟨y_128, ey_128⟩ : ∃ z : Int64, y_127 - y_3 = z := ⟨_, rfl⟩
                  refine jj_lsub (v := y_128) C dX1_tryRedemption_125 ey_128 ?_
                  refine rl_put C hok_121 jk_9 3 (by decide) jw_df3b225d28 (t := (1, (-9223372036854775808), 9223372036854775807)) ka_124 (by decide) rfl rfl rfl (tt_ja y_128) rfl rfl dX1_tryRedemption_126 (fun pl_129 hok_130 tr hn tl => ?_)
                  replace hf_6 := tr _ _ _ (Or.inl (tt_ne hk1 ka_124 (by decide))) hf_6
                  replace hf_11 := tr _ _ _ (Or.inl (tt_ne hk1 ka_124 (by decide))) hf_11
                  replace hf_16 := tr _ _ _ (Or.inl (tt_ne ka_14 ka_124 (by decide))) hf_16
                  replace hf_34 := tr _ _ _ (Or.inl (tt_ne ka_14 ka_124 (by decide))) hf_34
                  replace hf_40 := tr _ _ _ (Or.inl (tt_ne ka_14 ka_124 (by decide))) hf_40
                  replace hf_95 := tr _ _ _ (Or.inl (tt_ne hk0 ka_124 (by decide))) hf_95
                  replace hf_113 := tr _ _ _ (Or.inl (tt_ne hk0 ka_124 (by decide))) hf_113
                  replace hf_116 := tr _ _ _ (Or.inl (tt_ne hk0 ka_124 (by decide))) hf_116
                  replace hf_122 := tr _ _ _ (Or.inr (by decide)) hf_122
                  have hf_131 := hn
                  replace hfr := hfr.put ka_124 tr (by decide)
                  replace hfa := hfa.all tl
                  refine jj_lload C dX1_tryRedemption_129 rfl ?_
                  refine jj_lload C dX1_tryRedemption_131 rfl ?_
                  obtain ⟨y_132, ey_132⟩ : ∃ z : Int64, y_3 - y_3 = z := ⟨_, rfl⟩
                  refine jj_lsub (v := y_132) C dX1_tryRedemption_133 ey_132 ?_
                  refine jj_lstore C dX1_tryRedemption_134 (by decide) rfl ?_
                  refine jj_lload C dX1_tryRedemption_136 rfl ?_
                  refine jj_iload C dX1_tryRedemption_138 rfl ?_
                  refine jj_if_eqF (tgt := 160) C dX1_tryRedemption_140 (by decide) (by decide) ?_
                  refine jj_aload_n C dX1_tryRedemption_143 rfl ?_
                  refine tt_getF C hok_130 jk_3 1 (by decide) jw_d747bb1560 (t := (1, (-9223372036854775808), 9223372036854775807)) hk0 (by decide) rfl rfl hf_113 dX1_tryRedemption_144 ?_
                  refine jj_aload_n C dX1_tryRedemption_147 rfl ?_
                  refine tt_get C hok_130 jk_3 4 (by decide) jw_21f29d6c44 (t := (1, (-9223372036854775808), 9223372036854775807)) hk0 (by decide) rfl rfl dX1_tryRedemption_148 (fun v_133 hv_133 hf_134 => ?_)
                  obtain ⟨y_135, rfl, -, -⟩ := tt_vj hv_133
                  obtain ⟨y_136, ey_136⟩ : ∃ z : Int64, y_114 + y_135 = z := ⟨_, rfl⟩
                  refine jj_ladd (v := y_136) C dX1_tryRedemption_151 ey_136 ?_
                  refine jj_aload_n C dX1_tryRedemption_152 rfl ?_
                  refine tt_get C hok_130 jk_3 5 (by decide) jw_e41f55c9ce (t := (1, (-9223372036854775808), 9223372036854775807)) hk0 (by decide) rfl rfl dX1_tryRedemption_153 (fun v_137 hv_137 hf_138 => ?_)
                  obtain ⟨y_139, rfl, -, -⟩ := tt_vj hv_137
                  obtain ⟨y_140, ey_140⟩ : ∃ z : Int64, y_136 - y_139 = z := ⟨_, rfl⟩
                  refine jj_lsub (v := y_140) C dX1_tryRedemption_156 ey_140 ?_
                  refine jj_goto (tgt := 164) C dX1_tryRedemption_157 (by decide) ?_
                  obtain ⟨y_141, ey_141⟩ : ∃ z : Int64, y_4 + y_140 = z := ⟨_, rfl⟩
                  refine jj_ladd (v := y_141) C dX1_tryRedemption_164 ey_141 ?_
                  refine jj_lstore C dX1_tryRedemption_165 (by decide) rfl ?_
                  obtain ⟨x_142, ex_142, vx_142⟩ := tt_inc (x := x_2) (n := 1) (by omega) (by omega)
                  refine jj_iinc (v := x_142) C dX1_tryRedemption_167 rfl ex_142 (by decide) rfl ?_
                  refine jj_goto (tgt := 9) C dX1_tryRedemption_170 (by decide) ?_
                  refine jj_loc [0, 2, 1, 6, 7, 8, 9, 10] rfl ?_
                  exact ihL_1 pl_129 x_142 y_132 y_141 hok_130 hfr hfa (by first | omega | decide | exact tt_lo _ | exact tt_hi _) (by first | omega | decide | exact tt_lo _ | exact tt_hi _) (by first | omega | decide | exact tt_lo _ | exact tt_hi _)
  exact hL_1 _ pl0 (0 : Int32) (9223372036854775807 : Int64) (0 : Int64) trivial hok hfr hfa (by first | omega | decide | exact tt_lo _ | exact tt_hi _) (by first | omega | decide | exact tt_lo _ | exact tt_hi _) (Int.self_le_toNat _)

