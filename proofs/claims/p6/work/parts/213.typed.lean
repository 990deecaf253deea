set_option maxHeartbeats 4000000 in
set_option maxRecDepth 100000 in
theorem tc_X1_payAfterRate_14 {l : Launch} (hl : l.stackTraces = false) (D : va_G) (cA : Nat → ClassId) (ak : (Nat → Nat) × (Nat → Nat)) {Kd : Nat → Nat} (h0 : Nat) (h1 : Nat) (p2 : Int32) (hk0 : Kd h0 = 9) (hk1 : Kd h1 = 1) (lp2 : (0 : Int) ≤ p2.toInt) (up2 : p2.toInt ≤ 1300) {pl0 : va_W} (hok : tt_ok tt_tk cA Kd pl0) : jj_M l D cA ak yX1_payAfterRate (.code yX1_payAfterRate cX1_payAfterRate 4 (some .long)) 3 88 0 0 ([] ++ pl0) [.ref h0, .ref h1, .int p2, .int 0] (tt_O (fun rx pl1 r => rx = [] ∧ tt_ok tt_tk cA Kd pl1 ∧ tt_fr Kd [(2, 0), (2, 1), (2, 2), (2, 3), (2, 4), (9, 1), (9, 2), (9, 3), (9, 4), (9, 5)] pl0 pl1 ∧ tt_fa Kd [] pl0 pl1 ∧ ((∃ v : Int64, r = some (.long v))))) (tt_OX (fun _ _ _ => False)) := by
  refine jj_start hl (by decide) jw_8658218399 (jj_le rfl) ?_
  intro p e s m args below meth c A hargs hA C hex hmn
  have hfr := tt_fr.refl (K := Kd) (WS := [(2, 0), (2, 1), (2, 2), (2, 3), (2, 4), (9, 1), (9, 2), (9, 3), (9, 4), (9, 5)]) pl0
  have hfa := tt_fa.refl (K := Kd) (WA := []) pl0
  refine jj_aload_n C dX1_payAfterRate_0 rfl ?_
  refine jj_aload_n C dX1_payAfterRate_1 rfl ?_
  refine jj_iload_n C dX1_payAfterRate_2 rfl ?_
  obtain ⟨qc, gs, hqc⟩ := tt_recv (cx := []) hok hk0 (by decide) rfl
  refine tt_callV (rest := []) C (tc_X1_resetTrial_1 hl D cA ak h0 h1 hk0 hk1 hok) [] [] rfl rfl (by decide) (by decide) (by decide) qc hqc rfl rfl jw_e4af616004 jw_bacc1607b6 jw_d2d28ff2fc jw_944cf9c3ab jw_94abfb5ed9 jn_X1_resetTrial rfl (jj_le rfl) (jj_le rfl) (jj_le rfl) (jj_le rfl) (jj_le rfl) dX1_payAfterRate_3 rfl (fun _ _ _ hX => hX.elim) (fun rx pl_1 r O_4 => ?_)
  obtain ⟨rfl, hok_2, hr_3, hfa9, hR_6⟩ := O_4
  replace hfr := hfr.trans (hr_3.sub (by decide))
  replace hfa := hfa.trans (hfa9.sub (by decide))
  obtain rfl := hR_6
  refine jj_aload_n C dX1_payAfterRate_6 rfl ?_
  refine jj_aload_n C dX1_payAfterRate_7 rfl ?_
  refine jj_iload_n C dX1_payAfterRate_8 rfl ?_
  refine jj_ldc2 (v := 9223372036854775807) C dX1_payAfterRate_9 jw_0ae03504c0 ?_
  refine jj_iconst (v := 1) C dX1_payAfterRate_12 (by decide) ?_
  obtain ⟨qc, gs, hqc⟩ := tt_recv (cx := []) hok_2 hk0 (by decide) rfl
  refine tt_callV (rest := []) C (tc_X1_tryRedemption_15 hl D cA ak h0 h1 p2 hk0 hk1 (by omega) (by omega) hok_2) [] [] rfl rfl (by decide) (by decide) (by decide) qc hqc rfl rfl jw_484ec097f9 jw_eb03746c8c jw_a203910c50 jw_944cf9c3ab jw_a452736dc6 jn_X1_tryRedemption rfl (jj_le rfl) (jj_le rfl) (jj_le rfl) (jj_le rfl) (jj_le rfl) dX1_payAfterRate_13 rfl (fun _ _ _ hX => hX.elim) (fun rx pl_9 r O_12 => ?_)
  obtain ⟨rfl, hok_10, hr_11, hfa9, hR_14⟩ := O_12
  replace hfr := hfr.trans (hr_11.sub (by decide))
  replace hfa := hfa.trans (hfa9.sub (by decide))
  obtain ⟨y_17, rfl⟩ := hR_14
  exact jj_lret C ⟨[], pl_9, rfl, rfl, hok_10, hfr, hfa, ⟨y_17, rfl⟩⟩ dX1_payAfterRate_16 (jj_le rfl) (jj_le rfl)

set_option maxHeartbeats 4000000 in
set_option maxRecDepth 100000 in
theorem tc_X1_payAfterRate_15 {l : Launch} (hl : l.stackTraces = false) (D : va_G) (cA : Nat → ClassId) (ak : (Nat → Nat) × (Nat → Nat)) {Kd : Nat → Nat} (h0 : Nat) (h1 : Nat) (p2 : Int32) (hk0 : Kd h0 = 9) (hk1 : Kd h1 = 1) {pl0 : va_W} (hok : tt_ok tt_tk cA Kd pl0) : jj_M l D cA ak yX1_payAfterRate (.code yX1_payAfterRate cX1_payAfterRate 4 (some .long)) 3 88 0 0 ([] ++ pl0) [.ref h0, .ref h1, .int p2, .int 0] (tt_O (fun rx pl1 r => rx = [] ∧ tt_ok tt_tk cA Kd pl1 ∧ tt_fr Kd [(2, 0), (2, 1), (2, 2), (2, 3), (2, 4), (9, 1), (9, 2), (9, 3), (9, 4), (9, 5)] pl0 pl1 ∧ tt_fa Kd [] pl0 pl1 ∧ ((∃ v : Int64, r = some (.long v))))) (tt_OX (fun _ _ _ => False)) := by
  refine jj_start hl (by decide) jw_8658218399 (jj_le rfl) ?_
  intro p e s m args below meth c A hargs hA C hex hmn
  have hfr := tt_fr.refl (K := Kd) (WS := [(2, 0), (2, 1), (2, 2), (2, 3), (2, 4), (9, 1), (9, 2), (9, 3), (9, 4), (9, 5)]) pl0
  have hfa := tt_fa.refl (K := Kd) (WA := []) pl0
  have lp2 := tt_lo p2
  have up2 := tt_hi p2
  refine jj_aload_n C dX1_payAfterRate_0 rfl ?_
  refine jj_aload_n C dX1_payAfterRate_1 rfl ?_
  refine jj_iload_n C dX1_payAfterRate_2 rfl ?_
  obtain ⟨qc, gs, hqc⟩ := tt_recv (cx := []) hok hk0 (by decide) rfl
  refine tt_callV (rest := []) C (tc_X1_resetTrial_1 hl D cA ak h0 h1 hk0 hk1 hok) [] [] rfl rfl (by decide) (by decide) (by decide) qc hqc rfl rfl jw_e4af616004 jw_bacc1607b6 jw_d2d28ff2fc jw_944cf9c3ab jw_94abfb5ed9 jn_X1_resetTrial rfl (jj_le rfl) (jj_le rfl) (jj_le rfl) (jj_le rfl) (jj_le rfl) dX1_payAfterRate_3 rfl (fun _ _ _ hX => hX.elim) (fun rx pl_1 r O_4 => ?_)
  obtain ⟨rfl, hok_2, hr_3, hfa9, hR_6⟩ := O_4
  replace hfr := hfr.trans (hr_3.sub (by decide))
  replace hfa := hfa.trans (hfa9.sub (by decide))
  obtain rfl := hR_6
  refine jj_aload_n C dX1_payAfterRate_6 rfl ?_
  refine jj_aload_n C dX1_payAfterRate_7 rfl ?_
  refine jj_iload_n C dX1_payAfterRate_8 rfl ?_
  refine jj_ldc2 (v := 9223372036854775807) C dX1_payAfterRate_9 jw_0ae03504c0 ?_
  refine jj_iconst (v := 1) C dX1_payAfterRate_12 (by decide) ?_
  obtain ⟨qc, gs, hqc⟩ := tt_recv (cx := []) hok_2 hk0 (by decide) rfl
  refine tt_callV (rest := []) C (tc_X1_tryRedemption_2 hl D cA ak h0 h1 p2 hk0 hk1 hok_2) [] [] rfl rfl (by decide) (by decide) (by decide) qc hqc rfl rfl jw_484ec097f9 jw_eb03746c8c jw_a203910c50 jw_944cf9c3ab jw_a452736dc6 jn_X1_tryRedemption rfl (jj_le rfl) (jj_le rfl) (jj_le rfl) (jj_le rfl) (jj_le rfl) dX1_payAfterRate_13 rfl (fun _ _ _ hX => hX.elim) (fun rx pl_9 r O_12 => ?_)
  obtain ⟨rfl, hok_10, hr_11, hfa9, hR_14⟩ := O_12
  replace hfr := hfr.trans (hr_11.sub (by decide))
  replace hfa := hfa.trans (hfa9.sub (by decide))
  obtain ⟨y_17, rfl⟩ := hR_14
  exact jj_lret C ⟨[], pl_9, rfl, rfl, hok_10, hfr, hfa, ⟨y_17, rfl⟩⟩ dX1_payAfterRate_16 (jj_le rfl) (jj_le rfl)

set_option maxHeartbeats 4000000 in
set_option maxRecDepth 100000 in
theorem tc_X10_placeInRanking_1 {l : Launch} (hl : l.stackTraces = false) (D : va_G) (cA : Nat → ClassId) (ak : (Nat → Nat) × (Nat → Nat)) {Kd : Nat → Nat} (h0 : Nat) (p1 : Int32) (hk0 : Kd h0 = 15) (lp1 : (0 : Int) ≤ p1.toInt) (up1 : p1.toInt ≤ 0) {pl0 : va_W} (hok : tt_ok tt_tk cA Kd pl0) : jj_M l D cA ak yX10_placeInRanking (.code yX10_placeInRanking cX10_placeInRanking 8 (some .int)) 4 111 0 0 ([] ++ pl0) [.ref h0, .int p1] (tt_O (fun rx pl1 r => rx = [] ∧ tt_ok tt_tk cA Kd pl1 ∧ tt_fr Kd [(2, 0), (2, 1), (2, 2), (2, 3), (2, 4), (9, 1), (9, 2), (9, 3), (9, 4), (9, 5)] pl0 pl1 ∧ tt_fa Kd [] pl0 pl1 ∧ ((∃ v : Int32, (-2147483648 : Int) ≤ v.toInt ∧ v.toInt ≤ 2147483647 ∧ r = some (.int v))))) (tt_OX (fun _ _ _ => False)) := by
  refine jj_start hl (by decide) jw_1d9aa5a1ce (jj_le rfl) ?_
  intro p e s m args below meth c A hargs hA C hex hmn
  have hfr := tt_fr.refl (K := Kd) (WS := [(2, 0), (2, 1), (2, 2), (2, 3), (2, 4), (9, 1), (9, 2), (9, 3), (9, 4), (9, 5)]) pl0
  have hfa := tt_fa.refl (K := Kd) (WA := []) pl0
  refine jj_aload_n C dX10_placeInRanking_0 rfl ?_
  refine tt_get C hok jk_11 5 (by decide) jw_34b8702fe2 (t := (2, 9, 0)) hk0 (by decide) rfl rfl dX10_placeInRanking_1 (fun v_1 hv_1 hf_2 => ?_)
  obtain ⟨a_3, rfl, ka_3⟩ := tt_vr hv_1
  refine jj_aload_n C dX10_placeInRanking_4 rfl ?_
  refine tt_get C hok jk_11 3 (by decide) jw_f82a97e333 (t := (2, 1, 0)) hk0 (by decide) rfl rfl dX10_placeInRanking_5 (fun v_4 hv_4 hf_5 => ?_)
  obtain ⟨a_6, rfl, ka_6⟩ := tt_vr hv_4
  refine jj_iload_n C dX10_placeInRanking_8 rfl ?_
  refine jj_iconst (v := 0) C dX10_placeInRanking_9 (by decide) ?_
  obtain ⟨qc, gs, hqc⟩ := tt_recv (cx := []) hok ka_3 (by decide) rfl
  refine tt_callV (rest := []) C (tc_X1_payAfterRate_2 hl D cA ak a_3 a_6 p1 ka_3 ka_6 (by omega) (by omega) hok) [] [] rfl rfl (by decide) (by decide) (by decide) qc hqc rfl rfl jw_40c49444b1 jw_86c6c6dedf jw_610440679d jw_944cf9c3ab jw_8658218399 jn_X1_payAfterRate rfl (jj_le rfl) (jj_le rfl) (jj_le rfl) (jj_le rfl) (jj_le rfl) dX10_placeInRanking_10 rfl (fun _ _ _ hX => hX.elim) (fun rx pl_7 r O_10 => ?_)
  obtain ⟨rfl, hok_8, hr_9, hfa9, hR_12⟩ := O_10
  replace hf_2 := hr_9.at hk0 (by decide) (by decide) hf_2
  replace hf_5 := hr_9.at hk0 (by decide) (by decide) hf_5
  replace hfr := hfr.trans (hr_9.sub (by decide))
  replace hfa := hfa.trans (hfa9.sub (by decide))
  obtain ⟨y_15, rfl⟩ := hR_12
  refine jj_lstore_n C dX10_placeInRanking_13 (by decide) rfl ?_
  refine jj_iconst (v := 0) C dX10_placeInRanking_14 (by decide) ?_
  refine jj_istore C dX10_placeInRanking_15 (by decide) rfl ?_
  refine jj_iconst (v := 0) C dX10_placeInRanking_17 (by decide) ?_
  refine jj_istore C dX10_placeInRanking_18 (by decide) rfl ?_
  have hL_16 : ∀ (N : Nat) (pl : va_W) (x_17 : Int32) (x_18 : Int32), True → tt_ok tt_tk cA Kd pl → tt_fr Kd [(2, 0), (2, 1), (2, 2), (2, 3), (2, 4), (9, 1), (9, 2), (9, 3), (9, 4), (9, 5)] pl0 pl → tt_fa Kd [] pl0 pl → tt_at pl h0 5 (.ref a_3) → tt_at pl h0 3 (.ref a_6) → (0 : Int) ≤ x_17.toInt → x_17.toInt ≤ 2147483647 → (-2147483648 : Int) ≤ x_18.toInt → x_18.toInt ≤ 2147483647 → (2147483648 - x_17.toInt ≤ (N : Int)) → jj_J p l e (jj_rm 4 111 0 0) s m args below meth c 8 A (vx_MQ below (jj_q D A (tt_O (fun rx pl1 r => rx = [] ∧ tt_ok tt_tk cA Kd pl1 ∧ tt_fr Kd [(2, 0), (2, 1), (2, 2), (2, 3), (2, 4), (9, 1), (9, 2), (9, 3), (9, 4), (9, 5)] pl0 pl1 ∧ tt_fa Kd [] pl0 pl1 ∧ ((∃ v : Int32, (-2147483648 : Int) ≤ v.toInt ∧ v.toInt ≤ 2147483647 ∧ r = some (.int v)))))) (jj_x D A (tt_OX (fun _ _ _ => False))) args s 0 0 A) (jj_X D A ([] ++ pl)) 0 0 20 [(5, .int x_17), (4, .int x_18), (2, .long y_15), (0, .ref h0), (1, .int p1)] [] := by
    intro NL_16
    induction NL_16 with
    | zero => intro pl x_17 x_18 _ hok hfr hfa hf_19 hf_20 lx_17 ux_17 lx_18 ux_18 hNL_16; exfalso; omega
    | succ NL_16 ihL_16 =>
      intro pl x_17 x_18 _ hok hfr hfa hf_19 hf_20 lx_17 ux_17 lx_18 ux_18 hNL_16
      replace ihL_16 := fun pl x_17 x_18 h1 => ihL_16 pl x_17 x_18 trivial h1
      refine jj_iload C dX10_placeInRanking_20 rfl ?_
      refine jj_aload_n C dX10_placeInRanking_22 rfl ?_
      refine tt_getF C hok jk_11 3 (by decide) jw_f82a97e333 (t := (2, 1, 0)) hk0 (by decide) rfl rfl hf_20 dX10_placeInRanking_23 ?_
      refine tt_get C hok jk_2 0 (by decide) jw_ea0f6256bc (t := (0, (-2147483648), 2147483647)) ka_6 (by decide) rfl rfl dX10_placeInRanking_26 (fun v_21 hv_21 hf_22 => ?_)
      obtain ⟨x_23, rfl, lx_23, ux_23⟩ := tt_vi hv_21
      refine jj_icmp_ge (tgt := 77) C dX10_placeInRanking_29 (by decide) (fun c_24 => ?_) (fun c_24 => ?_)
      · have z_c_24 := jc_le (a := (x_23).toInt) (b := (x_17).toInt) c_24 rfl rfl
        refine jj_iload C dX10_placeInRanking_77 rfl ?_
        exact jj_iret C ⟨[], pl, rfl, rfl, hok, hfr, hfa, ⟨x_18, (by first | omega | exact tt_lo _ | exact tt_hi _), (by first | omega | exact tt_lo _ | exact tt_hi _), rfl⟩⟩ dX10_placeInRanking_79 (jj_le rfl) (jj_le rfl)
      · have z_c_24 := jc_nle (a := (x_23).toInt) (b := (x_17).toInt) c_24 rfl rfl
        refine jj_aload_n C dX10_placeInRanking_32 rfl ?_
        refine tt_getF C hok jk_11 5 (by decide) jw_34b8702fe2 (t := (2, 9, 0)) hk0 (by decide) rfl rfl hf_19 dX10_placeInRanking_33 ?_
        refine jj_aload_n C dX10_placeInRanking_36 rfl ?_
        refine tt_getF C hok jk_11 3 (by decide) jw_f82a97e333 (t := (2, 1, 0)) hk0 (by decide) rfl rfl hf_20 dX10_placeInRanking_37 ?_
        refine jj_iload C dX10_placeInRanking_40 rfl ?_
        refine jj_iconst (v := 0) C dX10_placeInRanking_42 (by decide) ?_
        obtain ⟨qc, gs, hqc⟩ := tt_recv (cx := []) hok ka_3 (by decide) rfl
        refine tt_callV (rest := []) C (tc_X1_payAfterRate_15 hl D cA ak a_3 a_6 x_17 ka_3 ka_6 hok) [] [] rfl rfl (by decide) (by decide) (by decide) qc hqc rfl rfl jw_40c49444b1 jw_86c6c6dedf jw_610440679d jw_944cf9c3ab jw_8658218399 jn_X1_payAfterRate rfl (jj_le rfl) (jj_le rfl) (jj_le rfl) (jj_le rfl) (jj_le rfl) dX10_placeInRanking_43 rfl (fun _ _ _ hX => hX.elim) (fun rx pl_25 r O_28 => ?_)
        obtain ⟨rfl, hok_26, hr_27, hfa9, hR_30⟩ := O_28
        replace hf_19 := hr_27.at hk0 (by decide) (by decide) hf_19
        replace hf_20 := hr_27.at hk0 (by decide) (by decide) hf_20
        replace hf_22 := hr_27.at ka_6 (by decide) (by decide) hf_22
        replace hfr := hfr.trans (hr_27.sub (by decide))
        replace hfa := hfa.trans (hfa9.sub (by decide))
        obtain ⟨y_33, rfl⟩ := hR_30
        refine jj_lstore C dX10_placeInRanking_46 (by decide) rfl ?_
        refine jj_lload C dX10_placeInRanking_48 rfl ?_
        refine jj_lload_n C dX10_placeInRanking_50 rfl ?_
        refine jj_lcmp_gt (tgt := 68) C dX10_placeInRanking_51 dX10_placeInRanking_52 (by decide) (fun c_34 => ?_) (fun c_34 => ?_)
        · obtain ⟨x_35, ex_35⟩ : ∃ z : Int32, x_18 + Int32.ofInt 1 = z := ⟨_, rfl⟩
          refine jj_iinc (v := x_35) C dX10_placeInRanking_68 rfl ex_35 (by decide) rfl ?_
          obtain ⟨x_36, ex_36, vx_36⟩ := tt_inc (x := x_17) (n := 1) (by omega) (by omega)
          refine jj_iinc (v := x_36) C dX10_placeInRanking_71 rfl ex_36 (by decide) rfl ?_
          refine jj_goto (tgt := 20) C dX10_placeInRanking_74 (by decide) ?_
          refine jj_loc [0, 1, 3, 4, 5] rfl ?_
          exact ihL_16 pl_25 x_36 x_35 hok_26 hfr hfa hf_19 hf_20 (by first | omega | decide | exact tt_lo _ | exact tt_hi _) (by first | omega | decide | exact tt_lo _ | exact tt_hi _) (by first | omega | decide | exact tt_lo _ | exact tt_hi _) (by first | omega | decide | exact tt_lo _ | exact tt_hi _) (by first | omega | decide | exact tt_lo _ | exact tt_hi _)
        · refine jj_lload C dX10_placeInRanking_55 rfl ?_
          refine jj_lload_n C dX10_placeInRanking_57 rfl ?_
          refine jj_lcmp_ne (tgt := 71) C dX10_placeInRanking_58 dX10_placeInRanking_59 (by decide) (fun c_37 => ?_) (fun c_37 => ?_)
          · obtain ⟨x_38, ex_38, vx_38⟩ := tt_inc (x := x_17) (n := 1) (by omega) (by omega)
            refine jj_iinc (v := x_38) C dX10_placeInRanking_71 rfl ex_38 (by decide) rfl ?_
            refine jj_goto (tgt := 20) C dX10_placeInRanking_74 (by decide) ?_
            refine jj_loc [0, 2, 3, 4, 5] rfl ?_
            exact ihL_16 pl_25 x_38 x_18 hok_26 hfr hfa hf_19 hf_20 (by first | omega | decide | exact tt_lo _ | exact tt_hi _) (by first | omega | decide | exact tt_lo _ | exact tt_hi _) (by first | omega | decide | exact tt_lo _ | exact tt_hi _) (by first | omega | decide | exact tt_lo _ | exact tt_hi _) (by first | omega | decide | exact tt_lo _ | exact tt_hi _)
          · refine jj_iload C dX10_placeInRanking_62 rfl ?_
            refine jj_iload_n C dX10_placeInRanking_64 rfl ?_
            refine jj_icmp_ge (tgt := 71) C dX10_placeInRanking_65 (by decide) (fun c_39 => ?_) (fun c_39 => ?_)
            · have z_c_39 := jc_le (a := (p1).toInt) (b := (x_17).toInt) c_39 rfl rfl
              obtain ⟨x_40, ex_40, vx_40⟩ := tt_inc (x := x_17) (n := 1) (by omega) (by omega)
              refine jj_iinc (v := x_40) C dX10_placeInRanking_71 rfl ex_40 (by decide) rfl ?_
              refine jj_goto (tgt := 20) C dX10_placeInRanking_74 (by decide) ?_
              refine jj_loc [0, 2, 3, 4, 5] rfl ?_
              exact ihL_16 pl_25 x_40 x_18 hok_26 hfr hfa hf_19 hf_20 (by first | omega | decide | exact tt_lo _ | exact tt_hi _) (by first | omega | decide | exact tt_lo _ | exact tt_hi _) (by first | omega | decide | exact tt_lo _ | exact tt_hi _) (by first | omega | decide | exact tt_lo _ | exact tt_hi _) (by first | omega | decide | exact tt_lo _ | exact tt_hi _)
            · have z_c_39 := jc_nle (a := (p1).toInt) (b := (x_17).toInt) c_39 rfl rfl
              exfalso; omega
  exact hL_16 _ pl_7 (0 : Int32) (0 : Int32) trivial hok_8 hfr hfa hf_2 hf_5 (by first | omega | decide | exact tt_lo _ | exact tt_hi _) (by first | omega | decide | exact tt_lo _ | exact tt_hi _) (by first | omega | decide | exact tt_lo _ | exact tt_hi _) (by first | omega | decide | exact tt_lo _ | exact tt_hi _) (Int.self_le_toNat _)

set_option maxHeartbeats 4000000 in
set_option maxRecDepth 100000 in
theorem tc_X10_placeInRanking_2 {l : Launch} (hl : l.stackTraces = false) (D : va_G) (cA : Nat → ClassId) (ak : (Nat → Nat) × (Nat → Nat)) {Kd : Nat → Nat} (h0 : Nat) (p1 : Int32) (hk0 : Kd h0 = 15) (lp1 : (0 : Int) ≤ p1.toInt) (up1 : p1.toInt ≤ 1) {pl0 : va_W} (hok : tt_ok tt_tk cA Kd pl0) : jj_M l D cA ak yX10_placeInRanking (.code yX10_placeInRanking cX10_placeInRanking 8 (some .int)) 4 111 0 0 ([] ++ pl0) [.ref h0, .int p1] (tt_O (fun rx pl1 r => rx = [] ∧ tt_ok tt_tk cA Kd pl1 ∧ tt_fr Kd [(2, 0), (2, 1), (2, 2), (2, 3), (2, 4), (9, 1), (9, 2), (9, 3), (9, 4), (9, 5)] pl0 pl1 ∧ tt_fa Kd [] pl0 pl1 ∧ ((∃ v : Int32, (-2147483648 : Int) ≤ v.toInt ∧ v.toInt ≤ 2147483647 ∧ r = some (.int v))))) (tt_OX (fun _ _ _ => False)) := by
  refine jj_start hl (by decide) jw_1d9aa5a1ce (jj_le rfl) ?_
  intro p e s m args below meth c A hargs hA C hex hmn
  have hfr := tt_fr.refl (K := Kd) (WS := [(2, 0), (2, 1), (2, 2), (2, 3), (2, 4), (9, 1), (9, 2), (9, 3), (9, 4), (9, 5)]) pl0
  have hfa := tt_fa.refl (K := Kd) (WA := []) pl0
  refine jj_aload_n C dX10_placeInRanking_0 rfl ?_
  refine tt_get C hok jk_11 5 (by decide) jw_34b8702fe2 (t := (2, 9, 0)) hk0 (by decide) rfl rfl dX10_placeInRanking_1 (fun v_1 hv_1 hf_2 => ?_)
  obtain ⟨a_3, rfl, ka_3⟩ := tt_vr hv_1
  refine jj_aload_n C dX10_placeInRanking_4 rfl ?_
  refine tt_get C hok jk_11 3 (by decide) jw_f82a97e333 (t := (2, 1, 0)) hk0 (by decide) rfl rfl dX10_placeInRanking_5 (fun v_4 hv_4 hf_5 => ?_)
  obtain ⟨a_6, rfl, ka_6⟩ := tt_vr hv_4
  refine jj_iload_n C dX10_placeInRanking_8 rfl ?_
  refine jj_iconst (v := 0) C dX10_placeInRanking_9 (by decide) ?_
  obtain ⟨qc, gs, hqc⟩ := tt_recv (cx := []) hok ka_3 (by decide) rfl
  refine tt_callV (rest := []) C (tc_X1_payAfterRate_3 hl D cA ak a_3 a_6 p1 ka_3 ka_6 (by omega) (by omega) hok) [] [] rfl rfl (by decide) (by decide) (by decide) qc hqc rfl rfl jw_40c49444b1 jw_86c6c6dedf jw_610440679d jw_944cf9c3ab jw_8658218399 jn_X1_payAfterRate rfl (jj_le rfl) (jj_le rfl) (jj_le rfl) (jj_le rfl) (jj_le rfl) dX10_placeInRanking_10 rfl (fun _ _ _ hX => hX.elim) (fun rx pl_7 r O_10 => ?_)
  obtain ⟨rfl, hok_8, hr_9, hfa9, hR_12⟩ := O_10
  replace hf_2 := hr_9.at hk0 (by decide) (by decide) hf_2
  replace hf_5 := hr_9.at hk0 (by decide) (by decide) hf_5
  replace hfr := hfr.trans (hr_9.sub (by decide))
  replace hfa := hfa.trans (hfa9.sub (by decide))
  obtain ⟨y_15, rfl⟩ := hR_12
  refine jj_lstore_n C dX10_placeInRanking_13 (by decide) rfl ?_
  refine jj_iconst (v := 0) C dX10_placeInRanking_14 (by decide) ?_
  refine jj_istore C dX10_placeInRanking_15 (by decide) rfl ?_
  refine jj_iconst (v := 0) C dX10_placeInRanking_17 (by decide) ?_
  refine jj_istore C dX10_placeInRanking_18 (by decide) rfl ?_
  have hL_16 : ∀ (N : Nat) (pl : va_W) (x_17 : Int32) (x_18 : Int32), True → tt_ok tt_tk cA Kd pl → tt_fr Kd [(2, 0), (2, 1), (2, 2), (2, 3), (2, 4), (9, 1), (9, 2), (9, 3), (9, 4), (9, 5)] pl0 pl → tt_fa Kd [] pl0 pl → tt_at pl h0 5 (.ref a_3) → tt_at pl h0 3 (.ref a_6) → (0 : Int) ≤ x_17.toInt → x_17.toInt ≤ 2147483647 → (-2147483648 : Int) ≤ x_18.toInt → x_18.toInt ≤ 2147483647 → (2147483648 - x_17.toInt ≤ (N : Int)) → jj_J p l e (jj_rm 4 111 0 0) s m args below meth c 8 A (vx_MQ below (jj_q D A (tt_O (fun rx pl1 r => rx = [] ∧ tt_ok tt_tk cA Kd pl1 ∧ tt_fr Kd [(2, 0), (2, 1), (2, 2), (2, 3), (2, 4), (9, 1), (9, 2), (9, 3), (9, 4), (9, 5)] pl0 pl1 ∧ tt_fa Kd [] pl0 pl1 ∧ ((∃ v : Int32, (-2147483648 : Int) ≤ v.toInt ∧ v.toInt ≤ 2147483647 ∧ r = some (.int v)))))) (jj_x D A (tt_OX (fun _ _ _ => False))) args s 0 0 A) (jj_X D A ([] ++ pl)) 0 0 20 [(5, .int x_17), (4, .int x_18), (2, .long y_15), (0, .ref h0), (1, .int p1)] [] := by
    intro NL_16
    induction NL_16 with
    | zero => intro pl x_17 x_18 _ hok hfr hfa hf_19 hf_20 lx_17 ux_17 lx_18 ux_18 hNL_16; exfalso; omega
    | succ NL_16 ihL_16 =>
      intro pl x_17 x_18 _ hok hfr hfa hf_19 hf_20 lx_17 ux_17 lx_18 ux_18 hNL_16
      replace ihL_16 := fun pl x_17 x_18 h1 => ihL_16 pl x_17 x_18 trivial h1
      refine jj_iload C dX10_placeInRanking_20 rfl ?_
      refine jj_aload_n C dX10_placeInRanking_22 rfl ?_
      refine tt_getF C hok jk_11 3 (by decide) jw_f82a97e333 (t := (2, 1, 0)) hk0 (by decide) rfl rfl hf_20 dX10_placeInRanking_23 ?_
      refine tt_get C hok jk_2 0 (by decide) jw_ea0f6256bc (t := (0, (-2147483648), 2147483647)) ka_6 (by decide) rfl rfl dX10_placeInRanking_26 (fun v_21 hv_21 hf_22 => ?_)
      obtain ⟨x_23, rfl, lx_23, ux_23⟩ := tt_vi hv_21
      refine jj_icmp_ge (tgt := 77) C dX10_placeInRanking_29 (by decide) (fun c_24 => ?_) (fun c_24 => ?_)
      · have z_c_24 := jc_le (a := (x_23).toInt) (b := (x_17).toInt) c_24 rfl rfl
        refine jj_iload C dX10_placeInRanking_77 rfl ?_
        exact jj_iret C ⟨[], pl, rfl, rfl, hok, hfr, hfa, ⟨x_18, (by first | omega | exact tt_lo _ | exact tt_hi _), (by first | omega | exact tt_lo _ | exact tt_hi _), rfl⟩⟩ dX10_placeInRanking_79 (jj_le rfl) (jj_le rfl)
      · have z_c_24 := jc_nle (a := (x_23).toInt) (b := (x_17).toInt) c_24 rfl rfl
        refine jj_aload_n C dX10_placeInRanking_32 rfl ?_
        refine tt_getF C hok jk_11 5 (by decide) jw_34b8702fe2 (t := (2, 9, 0)) hk0 (by decide) rfl rfl hf_19 dX10_placeInRanking_33 ?_
        refine jj_aload_n C dX10_placeInRanking_36 rfl ?_
        refine tt_getF C hok jk_11 3 (by decide) jw_f82a97e333 (t := (2, 1, 0)) hk0 (by decide) rfl rfl hf_20 dX10_placeInRanking_37 ?_
        refine jj_iload C dX10_placeInRanking_40 rfl ?_
        refine jj_iconst (v := 0) C dX10_placeInRanking_42 (by decide) ?_
        obtain ⟨qc, gs, hqc⟩ := tt_recv (cx := []) hok ka_3 (by decide) rfl
        refine tt_callV (rest := []) C (tc_X1_payAfterRate_15 hl D cA ak a_3 a_6 x_17 ka_3 ka_6 hok) [] [] rfl rfl (by decide) (by decide) (by decide) qc hqc rfl rfl jw_40c49444b1 jw_86c6c6dedf jw_610440679d jw_944cf9c3ab jw_8658218399 jn_X1_payAfterRate rfl (jj_le rfl) (jj_le rfl) (jj_le rfl) (jj_le rfl) (jj_le rfl) dX10_placeInRanking_43 rfl (fun _ _ _ hX => hX.elim) (fun rx pl_25 r O_28 => ?_)
        obtain ⟨rfl, hok_26, hr_27, hfa9, hR_30⟩ := O_28
        replace hf_19 := hr_27.at hk0 (by decide) (by decide) hf_19
        replace hf_20 := hr_27.at hk0 (by decide) (by decide) hf_20
        replace hf_22 := hr_27.at ka_6 (by decide) (by decide) hf_22
        replace hfr := hfr.trans (hr_27.sub (by decide))
        replace hfa := hfa.trans (hfa9.sub (by decide))
        obtain ⟨y_33, rfl⟩ := hR_30
        refine jj_lstore C dX10_placeInRanking_46 (by decide) rfl ?_
        refine jj_lload C dX10_placeInRanking_48 rfl ?_
        refine jj_lload_n C dX10_placeInRanking_50 rfl ?_
        refine jj_lcmp_gt (tgt := 68) C dX10_placeInRanking_51 dX10_placeInRanking_52 (by decide) (fun c_34 => ?_) (fun c_34 => ?_)
        · obtain ⟨x_35, ex_35⟩ : ∃ z : Int32, x_18 + Int32.ofInt 1 = z := ⟨_, rfl⟩
          refine jj_iinc (v := x_35) C dX10_placeInRanking_68 rfl ex_35 (by decide) rfl ?_
          obtain ⟨x_36, ex_36, vx_36⟩ := tt_inc (x := x_17) (n := 1) (by omega) (by omega)
          refine jj_iinc (v := x_36) C dX10_placeInRanking_71 rfl ex_36 (by decide) rfl ?_
          refine jj_goto (tgt := 20) C dX10_placeInRanking_74 (by decide) ?_
          refine jj_loc [0, 1, 3, 4, 5] rfl ?_
          exact ihL_16 pl_25 x_36 x_35 hok_26 hfr hfa hf_19 hf_20 (by first | omega | decide | exact tt_lo _ | exact tt_hi _) (by first | omega | decide | exact tt_lo _ | exact tt_hi _) (by first | omega | decide | exact tt_lo _ | exact tt_hi _) (by first | omega | decide | exact tt_lo _ | exact tt_hi _) (by first | omega | decide | exact tt_lo _ | exact tt_hi _)
        · refine jj_lload C dX10_placeInRanking_55 rfl ?_
          refine jj_lload_n C dX10_placeInRanking_57 rfl ?_
          refine jj_lcmp_ne (tgt := 71) C dX10_placeInRanking_58 dX10_placeInRanking_59 (by decide) (fun c_37 => ?_) (fun c_37 => ?_)
          · obtain ⟨x_38, ex_38, vx_38⟩ := tt_inc (x := x_17) (n := 1) (by omega) (by omega)
            refine jj_iinc (v := x_38) C dX10_placeInRanking_71 rfl ex_38 (by decide) rfl ?_
            refine jj_goto (tgt := 20) C dX10_placeInRanking_74 (by decide) ?_
            refine jj_loc [0, 2, 3, 4, 5] rfl ?_
            exact ihL_16 pl_25 x_38 x_18 hok_26 hfr hfa hf_19 hf_20 (by first | omega | decide | exact tt_lo _ | exact tt_hi _) (by first | omega | decide | exact tt_lo _ | exact tt_hi _) (by first | omega | decide | exact tt_lo _ | exact tt_hi _) (by first | omega | decide | exact tt_lo _ | exact tt_hi _) (by first | omega | decide | exact tt_lo _ | exact tt_hi _)
          · refine jj_iload C dX10_placeInRanking_62 rfl ?_
            refine jj_iload_n C dX10_placeInRanking_64 rfl ?_
            refine jj_icmp_ge (tgt := 71) C dX10_placeInRanking_65 (by decide) (fun c_39 => ?_) (fun c_39 => ?_)
            · have z_c_39 := jc_le (a := (p1).toInt) (b := (x_17).toInt) c_39 rfl rfl
              obtain ⟨x_40, ex_40, vx_40⟩ := tt_inc (x := x_17) (n := 1) (by omega) (by omega)
              refine jj_iinc (v := x_40) C dX10_placeInRanking_71 rfl ex_40 (by decide) rfl ?_
              refine jj_goto (tgt := 20) C dX10_placeInRanking_74 (by decide) ?_
              refine jj_loc [0, 2, 3, 4, 5] rfl ?_
              exact ihL_16 pl_25 x_40 x_18 hok_26 hfr hfa hf_19 hf_20 (by first | omega | decide | exact tt_lo _ | exact tt_hi _) (by first | omega | decide | exact tt_lo _ | exact tt_hi _) (by first | omega | decide | exact tt_lo _ | exact tt_hi _) (by first | omega | decide | exact tt_lo _ | exact tt_hi _) (by first | omega | decide | exact tt_lo _ | exact tt_hi _)
            · have z_c_39 := jc_nle (a := (p1).toInt) (b := (x_17).toInt) c_39 rfl rfl
              obtain ⟨x_41, ex_41⟩ : ∃ z : Int32, x_18 + Int32.ofInt 1 = z := ⟨_, rfl⟩
              refine jj_iinc (v := x_41) C dX10_placeInRanking_68 rfl ex_41 (by decide) rfl ?_
              obtain ⟨x_42, ex_42, vx_42⟩ := tt_inc (x := x_17) (n := 1) (by omega) (by omega)
              refine jj_iinc (v := x_42) C dX10_placeInRanking_71 rfl ex_42 (by decide) rfl ?_
              refine jj_goto (tgt := 20) C dX10_placeInRanking_74 (by decide) ?_
              refine jj_loc [0, 1, 3, 4, 5] rfl ?_
              exact ihL_16 pl_25 x_42 x_41 hok_26 hfr hfa hf_19 hf_20 (by first | omega | decide | exact tt_lo _ | exact tt_hi _) (by first | omega | decide | exact tt_lo _ | exact tt_hi _) (by first | omega | decide | exact tt_lo _ | exact tt_hi _) (by first | omega | decide | exact tt_lo _ | exact tt_hi _) (by first | omega | decide | exact tt_lo _ | exact tt_hi _)
  exact hL_16 _ pl_7 (0 : Int32) (0 : Int32) trivial hok_8 hfr hfa hf_2 hf_5 (by first | omega | decide | exact tt_lo _ | exact tt_hi _) (by first | omega | decide | exact tt_lo _ | exact tt_hi _) (by first | omega | decide | exact tt_lo _ | exact tt_hi _) (by first | omega | decide | exact tt_lo _ | exact tt_hi _) (Int.self_le_toNat _)

set_option maxHeartbeats 4000000 in
set_option maxRecDepth 100000 in
theorem tc_X10_placeInRanking_3 {l : Launch} (hl : l.stackTraces = false) (D : va_G) (cA : Nat → ClassId) (ak : (Nat → Nat) × (Nat → Nat)) {Kd : Nat → Nat} (h0 : Nat) (p1 : Int32) (hk0 : Kd h0 = 15) (lp1 : (0 : Int) ≤ p1.toInt) (up1 : p1.toInt ≤ 5) {pl0 : va_W} (hok : tt_ok tt_tk cA Kd pl0) : jj_M l D cA ak yX10_placeInRanking (.code yX10_placeInRanking cX10_placeInRanking 8 (some .int)) 4 111 0 0 ([] ++ pl0) [.ref h0, .int p1] (tt_O (fun rx pl1 r => rx = [] ∧ tt_ok tt_tk cA Kd pl1 ∧ tt_fr Kd [(2, 0), (2, 1), (2, 2), (2, 3), (2, 4), (9, 1), (9, 2), (9, 3), (9, 4), (9, 5)] pl0 pl1 ∧ tt_fa Kd [] pl0 pl1 ∧ ((∃ v : Int32, (-2147483648 : Int) ≤ v.toInt ∧ v.toInt ≤ 2147483647 ∧ r = some (.int v))))) (tt_OX (fun _ _ _ => False)) := by
  refine jj_start hl (by decide) jw_1d9aa5a1ce (jj_le rfl) ?_
  intro p e s m args below meth c A hargs hA C hex hmn
  have hfr := tt_fr.refl (K := Kd) (WS := [(2, 0), (2, 1), (2, 2), (2, 3), (2, 4), (9, 1), (9, 2), (9, 3), (9, 4), (9, 5)]) pl0
  have hfa := tt_fa.refl (K := Kd) (WA := []) pl0
  refine jj_aload_n C dX10_placeInRanking_0 rfl ?_
  refine tt_get C hok jk_11 5 (by decide) jw_34b8702fe2 (t := (2, 9, 0)) hk0 (by decide) rfl rfl dX10_placeInRanking_1 (fun v_1 hv_1 hf_2 => ?_)
  obtain ⟨a_3, rfl, ka_3⟩ := tt_vr hv_1
  refine jj_aload_n C dX10_placeInRanking_4 rfl ?_
  refine tt_get C hok jk_11 3 (by decide) jw_f82a97e333 (t := (2, 1, 0)) hk0 (by decide) rfl rfl dX10_placeInRanking_5 (fun v_4 hv_4 hf_5 => ?_)
  obtain ⟨a_6, rfl, ka_6⟩ := tt_vr hv_4
  refine jj_iload_n C dX10_placeInRanking_8 rfl ?_
  refine jj_iconst (v := 0) C dX10_placeInRanking_9 (by decide) ?_
  obtain ⟨qc, gs, hqc⟩ := tt_recv (cx := []) hok ka_3 (by decide) rfl
  refine tt_callV (rest := []) C (tc_X1_payAfterRate_4 hl D cA ak a_3 a_6 p1 ka_3 ka_6 (by omega) (by omega) hok) [] [] rfl rfl (by decide) (by decide) (by decide) qc hqc rfl rfl jw_40c49444b1 jw_86c6c6dedf jw_610440679d jw_944cf9c3ab jw_8658218399 jn_X1_payAfterRate rfl (jj_le rfl) (jj_le rfl) (jj_le rfl) (jj_le rfl) (jj_le rfl) dX10_placeInRanking_10 rfl (fun _ _ _ hX => hX.elim) (fun rx pl_7 r O_10 => ?_)
  obtain ⟨rfl, hok_8, hr_9, hfa9, hR_12⟩ := O_10
  replace hf_2 := hr_9.at hk0 (by decide) (by decide) hf_2
  replace hf_5 := hr_9.at hk0 (by decide) (by decide) hf_5
  replace hfr := hfr.trans (hr_9.sub (by decide))
  replace hfa := hfa.trans (hfa9.sub (by decide))
  obtain ⟨y_15, rfl⟩ := hR_12
  refine jj_lstore_n C dX10_placeInRanking_13 (by decide) rfl ?_
  refine jj_iconst (v := 0) C dX10_placeInRanking_14 (by decide) ?_
  refine jj_istore C dX10_placeInRanking_15 (by decide) rfl ?_
  refine jj_iconst (v := 0) C dX10_placeInRanking_17 (by decide) ?_
  refine jj_istore C dX10_placeInRanking_18 (by decide) rfl ?_
  have hL_16 : ∀ (N : Nat) (pl : va_W) (x_17 : Int32) (x_18 : Int32), True → tt_ok tt_tk cA Kd pl → tt_fr Kd [(2, 0), (2, 1), (2, 2), (2, 3), (2, 4), (9, 1), (9, 2), (9, 3), (9, 4), (9, 5)] pl0 pl → tt_fa Kd [] pl0 pl → tt_at pl h0 5 (.ref a_3) → tt_at pl h0 3 (.ref a_6) → (0 : Int) ≤ x_17.toInt → x_17.toInt ≤ 2147483647 → (-2147483648 : Int) ≤ x_18.toInt → x_18.toInt ≤ 2147483647 → (2147483648 - x_17.toInt ≤ (N : Int)) → jj_J p l e (jj_rm 4 111 0 0) s m args below meth c 8 A (vx_MQ below (jj_q D A (tt_O (fun rx pl1 r => rx = [] ∧ tt_ok tt_tk cA Kd pl1 ∧ tt_fr Kd [(2, 0), (2, 1), (2, 2), (2, 3), (2, 4), (9, 1), (9, 2), (9, 3), (9, 4), (9, 5)] pl0 pl1 ∧ tt_fa Kd [] pl0 pl1 ∧ ((∃ v : Int32, (-2147483648 : Int) ≤ v.toInt ∧ v.toInt ≤ 2147483647 ∧ r = some (.int v)))))) (jj_x D A (tt_OX (fun _ _ _ => False))) args s 0 0 A) (jj_X D A ([] ++ pl)) 0 0 20 [(5, .int x_17), (4, .int x_18), (2, .long y_15), (0, .ref h0), (1, .int p1)] [] := by
    intro NL_16
    induction NL_16 with
    | zero => intro pl x_17 x_18 _ hok hfr hfa hf_19 hf_20 lx_17 ux_17 lx_18 ux_18 hNL_16; exfalso; omega
    | succ NL_16 ihL_16 =>
      intro pl x_17 x_18 _ hok hfr hfa hf_19 hf_20 lx_17 ux_17 lx_18 ux_18 hNL_16
      replace ihL_16 := fun pl x_17 x_18 h1 => ihL_16 pl x_17 x_18 trivial h1
      refine jj_iload C dX10_placeInRanking_20 rfl ?_
      refine jj_aload_n C dX10_placeInRanking_22 rfl ?_
      refine tt_getF C hok jk_11 3 (by decide) jw_f82a97e333 (t := (2, 1, 0)) hk0 (by decide) rfl rfl hf_20 dX10_placeInRanking_23 ?_
      refine tt_get C hok jk_2 0 (by decide) jw_ea0f6256bc (t := (0, (-2147483648), 2147483647)) ka_6 (by decide) rfl rfl dX10_placeInRanking_26 (fun v_21 hv_21 hf_22 => ?_)
      obtain ⟨x_23, rfl, lx_23, ux_23⟩ := tt_vi hv_21
      refine jj_icmp_ge (tgt := 77) C dX10_placeInRanking_29 (by decide) (fun c_24 => ?_) (fun c_24 => ?_)
      · have z_c_24 := jc_le (a := (x_23).toInt) (b := (x_17).toInt) c_24 rfl rfl
        refine jj_iload C dX10_placeInRanking_77 rfl ?_
        exact jj_iret C ⟨[], pl, rfl, rfl, hok, hfr, hfa, ⟨x_18, (by first | omega | exact tt_lo _ | exact tt_hi _), (by first | omega | exact tt_lo _ | exact tt_hi _), rfl⟩⟩ dX10_placeInRanking_79 (jj_le rfl) (jj_le rfl)
      · have z_c_24 := jc_nle (a := (x_23).toInt) (b := (x_17).toInt) c_24 rfl rfl
        refine jj_aload_n C dX10_placeInRanking_32 rfl ?_
        refine tt_getF C hok jk_11 5 (by decide) jw_34b8702fe2 (t := (2, 9, 0)) hk0 (by decide) rfl rfl hf_19 dX10_placeInRanking_33 ?_
        refine jj_aload_n C dX10_placeInRanking_36 rfl ?_
        refine tt_getF C hok jk_11 3 (by decide) jw_f82a97e333 (t := (2, 1, 0)) hk0 (by decide) rfl rfl hf_20 dX10_placeInRanking_37 ?_
        refine jj_iload C dX10_placeInRanking_40 rfl ?_
        refine jj_iconst (v := 0) C dX10_placeInRanking_42 (by decide) ?_
        obtain ⟨qc, gs, hqc⟩ := tt_recv (cx := []) hok ka_3 (by decide) rfl
        refine tt_callV (rest := []) C (tc_X1_payAfterRate_15 hl D cA ak a_3 a_6 x_17 ka_3 ka_6 hok) [] [] rfl rfl (by decide) (by decide) (by decide) qc hqc rfl rfl jw_40c49444b1 jw_86c6c6dedf jw_610440679d jw_944cf9c3ab jw_8658218399 jn_X1_payAfterRate rfl (jj_le rfl) (jj_le rfl) (jj_le rfl) (jj_le rfl) (jj_le rfl) dX10_placeInRanking_43 rfl (fun _ _ _ hX => hX.elim) (fun rx pl_25 r O_28 => ?_)
        obtain ⟨rfl, hok_26, hr_27, hfa9, hR_30⟩ := O_28
        replace hf_19 := hr_27.at hk0 (by decide) (by decide) hf_19
        replace hf_20 := hr_27.at hk0 (by decide) (by decide) hf_20
        replace hf_22 := hr_27.at ka_6 (by decide) (by decide) hf_22
        replace hfr := hfr.trans (hr_27.sub (by decide))
        replace hfa := hfa.trans (hfa9.sub (by decide))
        obtain ⟨y_33, rfl⟩ := hR_30
        refine jj_lstore C dX10_placeInRanking_46 (by decide) rfl ?_
        refine jj_lload C dX10_placeInRanking_48 rfl ?_
        refine jj_lload_n C dX10_placeInRanking_50 rfl ?_
        refine jj_lcmp_gt (tgt := 68) C dX10_placeInRanking_51 dX10_placeInRanking_52 (by decide) (fun c_34 => ?_) (fun c_34 => ?_)
        · obtain ⟨x_35, ex_35⟩ : ∃ z : Int32, x_18 + Int32.ofInt 1 = z := ⟨_, rfl⟩
          refine jj_iinc (v := x_35) C dX10_placeInRanking_68 rfl ex_35 (by decide) rfl ?_
          obtain ⟨x_36, ex_36, vx_36⟩ := tt_inc (x := x_17) (n := 1) (by omega) (by omega)
          refine jj_iinc (v := x_36) C dX10_placeInRanking_71 rfl ex_36 (by decide) rfl ?_
          refine jj_goto (tgt := 20) C dX10_placeInRanking_74 (by decide) ?_
          refine jj_loc [0, 1, 3, 4, 5] rfl ?_
          exact ihL_16 pl_25 x_36 x_35 hok_26 hfr hfa hf_19 hf_20 (by first | omega | decide | exact tt_lo _ | exact tt_hi _) (by first | omega | decide | exact tt_lo _ | exact tt_hi _) (by first | omega | decide | exact tt_lo _ | exact tt_hi _) (by first | omega | decide | exact tt_lo _ | exact tt_hi _) (by first | omega | decide | exact tt_lo _ | exact tt_hi _)
        · refine jj_lload C dX10_placeInRanking_55 rfl ?_
          refine jj_lload_n C dX10_placeInRanking_57 rfl ?_
          refine jj_lcmp_ne (tgt := 71) C dX10_placeInRanking_58 dX10_placeInRanking_59 (by decide) (fun c_37 => ?_) (fun c_37 => ?_)
          · obtain ⟨x_38, ex_38, vx_38⟩ := tt_inc (x := x_17) (n := 1) (by omega) (by omega)
            refine jj_iinc (v := x_38) C dX10_placeInRanking_71 rfl ex_38 (by decide) rfl ?_
            refine jj_goto (tgt := 20) C dX10_placeInRanking_74 (by decide) ?_
            refine jj_loc [0, 2, 3, 4, 5] rfl ?_
            exact ihL_16 pl_25 x_38 x_18 hok_26 hfr hfa hf_19 hf_20 (by first | omega | decide | exact tt_lo _ | exact tt_hi _) (by first | omega | decide | exact tt_lo _ | exact tt_hi _) (by first | omega | decide | exact tt_lo _ | exact tt_hi _) (by first | omega | decide | exact tt_lo _ | exact tt_hi _) (by first | omega | decide | exact tt_lo _ | exact tt_hi _)
          · refine jj_iload C dX10_placeInRanking_62 rfl ?_
            refine jj_iload_n C dX10_placeInRanking_64 rfl ?_
            refine jj_icmp_ge (tgt := 71) C dX10_placeInRanking_65 (by decide) (fun c_39 => ?_) (fun c_39 => ?_)
            · have z_c_39 := jc_le (a := (p1).toInt) (b := (x_17).toInt) c_39 rfl rfl
              obtain ⟨x_40, ex_40, vx_40⟩ := tt_inc (x := x_17) (n := 1) (by omega) (by omega)
              refine jj_iinc (v := x_40) C dX10_placeInRanking_71 rfl ex_40 (by decide) rfl ?_
              refine jj_goto (tgt := 20) C dX10_placeInRanking_74 (by decide) ?_
              refine jj_loc [0, 2, 3, 4, 5] rfl ?_
              exact ihL_16 pl_25 x_40 x_18 hok_26 hfr hfa hf_19 hf_20 (by first | omega | decide | exact tt_lo _ | exact tt_hi _) (by first | omega | decide | exact tt_lo _ | exact tt_hi _) (by first | omega | decide | exact tt_lo _ | exact tt_hi _) (by first | omega | decide | exact tt_lo _ | exact tt_hi _) (by first | omega | decide | exact tt_lo _ | exact tt_hi _)
            · have z_c_39 := jc_nle (a := (p1).toInt) (b := (x_17).toInt) c_39 rfl rfl
              obtain ⟨x_41, ex_41⟩ : ∃ z : Int32, x_18 + Int32.ofInt 1 = z := ⟨_, rfl⟩
              refine jj_iinc (v := x_41) C dX10_placeInRanking_68 rfl ex_41 (by decide) rfl ?_
              obtain ⟨x_42, ex_42, vx_42⟩ := tt_inc (x := x_17) (n := 1) (by omega) (by omega)
              refine jj_iinc (v := x_42) C dX10_placeInRanking_71 rfl ex_42 (by decide) rfl ?_
              refine jj_goto (tgt := 20) C dX10_placeInRanking_74 (by decide) ?_
              refine jj_loc [0, 1, 3, 4, 5] rfl ?_
              exact ihL_16 pl_25 x_42 x_41 hok_26 hfr hfa hf_19 hf_20 (by first | omega | decide | exact tt_lo _ | exact tt_hi _) (by first | omega | decide | exact tt_lo _ | exact tt_hi _) (by first | omega | decide | exact tt_lo _ | exact tt_hi _) (by first | omega | decide | exact tt_lo _ | exact tt_hi _) (by first | omega | decide | exact tt_lo _ | exact tt_hi _)
  exact hL_16 _ pl_7 (0 : Int32) (0 : Int32) trivial hok_8 hfr hfa hf_2 hf_5 (by first | omega | decide | exact tt_lo _ | exact tt_hi _) (by first | omega | decide | exact tt_lo _ | exact tt_hi _) (by first | omega | decide | exact tt_lo _ | exact tt_hi _) (by first | omega | decide | exact tt_lo _ | exact tt_hi _) (Int.self_le_toNat _)

set_option maxHeartbeats 4000000 in
set_option maxRecDepth 100000 in
theorem tc_X10_placeInRanking_4 {l : Launch} (hl : l.stackTraces = false) (D : va_G) (cA : Nat → ClassId) (ak : (Nat → Nat) × (Nat → Nat)) {Kd : Nat → Nat} (h0 : Nat) (p1 : Int32) (hk0 : Kd h0 = 15) (lp1 : (0 : Int) ≤ p1.toInt) (up1 : p1.toInt ≤ 6) {pl0 : va_W} (hok : tt_ok tt_tk cA Kd pl0) : jj_M l D cA ak yX10_placeInRanking (.code yX10_placeInRanking cX10_placeInRanking 8 (some .int)) 4 111 0 0 ([] ++ pl0) [.ref h0, .int p1] (tt_O (fun rx pl1 r => rx = [] ∧ tt_ok tt_tk cA Kd pl1 ∧ tt_fr Kd [(2, 0), (2, 1), (2, 2), (2, 3), (2, 4), (9, 1), (9, 2), (9, 3), (9, 4), (9, 5)] pl0 pl1 ∧ tt_fa Kd [] pl0 pl1 ∧ ((∃ v : Int32, (-2147483648 : Int) ≤ v.toInt ∧ v.toInt ≤ 2147483647 ∧ r = some (.int v))))) (tt_OX (fun _ _ _ => False)) := by
  refine jj_start hl (by decide) jw_1d9aa5a1ce (jj_le rfl) ?_
  intro p e s m args below meth c A hargs hA C hex hmn
  have hfr := tt_fr.refl (K := Kd) (WS := [(2, 0), (2, 1), (2, 2), (2, 3), (2, 4), (9, 1), (9, 2), (9, 3), (9, 4), (9, 5)]) pl0
  have hfa := tt_fa.refl (K := Kd) (WA := []) pl0
  refine jj_aload_n C dX10_placeInRanking_0 rfl ?_
  refine tt_get C hok jk_11 5 (by decide) jw_34b8702fe2 (t := (2, 9, 0)) hk0 (by decide) rfl rfl dX10_placeInRanking_1 (fun v_1 hv_1 hf_2 => ?_)
  obtain ⟨a_3, rfl, ka_3⟩ := tt_vr hv_1
  refine jj_aload_n C dX10_placeInRanking_4 rfl ?_
  refine tt_get C hok jk_11 3 (by decide) jw_f82a97e333 (t := (2, 1, 0)) hk0 (by decide) rfl rfl dX10_placeInRanking_5 (fun v_4 hv_4 hf_5 => ?_)
  obtain ⟨a_6, rfl, ka_6⟩ := tt_vr hv_4
  refine jj_iload_n C dX10_placeInRanking_8 rfl ?_
  refine jj_iconst (v := 0) C dX10_placeInRanking_9 (by decide) ?_
  obtain ⟨qc, gs, hqc⟩ := tt_recv (cx := []) hok ka_3 (by decide) rfl
  refine tt_callV (rest := []) C (tc_X1_payAfterRate_5 hl D cA ak a_3 a_6 p1 ka_3 ka_6 (by omega) (by omega) hok) [] [] rfl rfl (by decide) (by decide) (by decide) qc hqc rfl rfl jw_40c49444b1 jw_86c6c6dedf jw_610440679d jw_944cf9c3ab jw_8658218399 jn_X1_payAfterRate rfl (jj_le rfl) (jj_le rfl) (jj_le rfl) (jj_le rfl) (jj_le rfl) dX10_placeInRanking_10 rfl (fun _ _ _ hX => hX.elim) (fun rx pl_7 r O_10 => ?_)
  obtain ⟨rfl, hok_8, hr_9, hfa9, hR_12⟩ := O_10
  replace hf_2 := hr_9.at hk0 (by decide) (by decide) hf_2
  replace hf_5 := hr_9.at hk0 (by decide) (by decide) hf_5
  replace hfr := hfr.trans (hr_9.sub (by decide))
  replace hfa := hfa.trans (hfa9.sub (by decide))
  obtain ⟨y_15, rfl⟩ := hR_12
  refine jj_lstore_n C dX10_placeInRanking_13 (by decide) rfl ?_
  refine jj_iconst (v := 0) C dX10_placeInRanking_14 (by decide) ?_
  refine jj_istore C dX10_placeInRanking_15 (by decide) rfl ?_
  refine jj_iconst (v := 0) C dX10_placeInRanking_17 (by decide) ?_
  refine jj_istore C dX10_placeInRanking_18 (by decide) rfl ?_
  have hL_16 : ∀ (N : Nat) (pl : va_W) (x_17 : Int32) (x_18 : Int32), True → tt_ok tt_tk cA Kd pl → tt_fr Kd [(2, 0), (2, 1), (2, 2), (2, 3), (2, 4), (9, 1), (9, 2), (9, 3), (9, 4), (9, 5)] pl0 pl → tt_fa Kd [] pl0 pl → tt_at pl h0 5 (.ref a_3) → tt_at pl h0 3 (.ref a_6) → (0 : Int) ≤ x_17.toInt → x_17.toInt ≤ 2147483647 → (-2147483648 : Int) ≤ x_18.toInt → x_18.toInt ≤ 2147483647 → (2147483648 - x_17.toInt ≤ (N : Int)) → jj_J p l e (jj_rm 4 111 0 0) s m args below meth c 8 A (vx_MQ below (jj_q D A (tt_O (fun rx pl1 r => rx = [] ∧ tt_ok tt_tk cA Kd pl1 ∧ tt_fr Kd [(2, 0), (2, 1), (2, 2), (2, 3), (2, 4), (9, 1), (9, 2), (9, 3), (9, 4), (9, 5)] pl0 pl1 ∧ tt_fa Kd [] pl0 pl1 ∧ ((∃ v : Int32, (-2147483648 : Int) ≤ v.toInt ∧ v.toInt ≤ 2147483647 ∧ r = some (.int v)))))) (jj_x D A (tt_OX (fun _ _ _ => False))) args s 0 0 A) (jj_X D A ([] ++ pl)) 0 0 20 [(5, .int x_17), (4, .int x_18), (2, .long y_15), (0, .ref h0), (1, .int p1)] [] := by
    intro NL_16
    induction NL_16 with
    | zero => intro pl x_17 x_18 _ hok hfr hfa hf_19 hf_20 lx_17 ux_17 lx_18 ux_18 hNL_16; exfalso; omega
    | succ NL_16 ihL_16 =>
      intro pl x_17 x_18 _ hok hfr hfa hf_19 hf_20 lx_17 ux_17 lx_18 ux_18 hNL_16
      replace ihL_16 := fun pl x_17 x_18 h1 => ihL_16 pl x_17 x_18 trivial h1
      refine jj_iload C dX10_placeInRanking_20 rfl ?_
      refine jj_aload_n C dX10_placeInRanking_22 rfl ?_
      refine tt_getF C hok jk_11 3 (by decide) jw_f82a97e333 (t := (2, 1, 0)) hk0 (by decide) rfl rfl hf_20 dX10_placeInRanking_23 ?_
      refine tt_get C hok jk_2 0 (by decide) jw_ea0f6256bc (t := (0, (-2147483648), 2147483647)) ka_6 (by decide) rfl rfl dX10_placeInRanking_26 (fun v_21 hv_21 hf_22 => ?_)
      obtain ⟨x_23, rfl, lx_23, ux_23⟩ := tt_vi hv_21
      refine jj_icmp_ge (tgt := 77) C dX10_placeInRanking_29 (by decide) (fun c_24 => ?_) (fun c_24 => ?_)
      · have z_c_24 := jc_le (a := (x_23).toInt) (b := (x_17).toInt) c_24 rfl rfl
        refine jj_iload C dX10_placeInRanking_77 rfl ?_
        exact jj_iret C ⟨[], pl, rfl, rfl, hok, hfr, hfa, ⟨x_18, (by first | omega | exact tt_lo _ | exact tt_hi _), (by first | omega | exact tt_lo _ | exact tt_hi _), rfl⟩⟩ dX10_placeInRanking_79 (jj_le rfl) (jj_le rfl)
      · have z_c_24 := jc_nle (a := (x_23).toInt) (b := (x_17).toInt) c_24 rfl rfl
        refine jj_aload_n C dX10_placeInRanking_32 rfl ?_
        refine tt_getF C hok jk_11 5 (by decide) jw_34b8702fe2 (t := (2, 9, 0)) hk0 (by decide) rfl rfl hf_19 dX10_placeInRanking_33 ?_
        refine jj_aload_n C dX10_placeInRanking_36 rfl ?_
        refine tt_getF C hok jk_11 3 (by decide) jw_f82a97e333 (t := (2, 1, 0)) hk0 (by decide) rfl rfl hf_20 dX10_placeInRanking_37 ?_
        refine jj_iload C dX10_placeInRanking_40 rfl ?_
        refine jj_iconst (v := 0) C dX10_placeInRanking_42 (by decide) ?_
        obtain ⟨qc, gs, hqc⟩ := tt_recv (cx := []) hok ka_3 (by decide) rfl
        refine tt_callV (rest := []) C (tc_X1_payAfterRate_15 hl D cA ak a_3 a_6 x_17 ka_3 ka_6 hok) [] [] rfl rfl (by decide) (by decide) (by decide) qc hqc rfl rfl jw_40c49444b1 jw_86c6c6dedf jw_610440679d jw_944cf9c3ab jw_8658218399 jn_X1_payAfterRate rfl (jj_le rfl) (jj_le rfl) (jj_le rfl) (jj_le rfl) (jj_le rfl) dX10_placeInRanking_43 rfl (fun _ _ _ hX => hX.elim) (fun rx pl_25 r O_28 => ?_)
        obtain ⟨rfl, hok_26, hr_27, hfa9, hR_30⟩ := O_28
        replace hf_19 := hr_27.at hk0 (by decide) (by decide) hf_19
        replace hf_20 := hr_27.at hk0 (by decide) (by decide) hf_20
        replace hf_22 := hr_27.at ka_6 (by decide) (by decide) hf_22
        replace hfr := hfr.trans (hr_27.sub (by decide))
        replace hfa := hfa.trans (hfa9.sub (by decide))
        obtain ⟨y_33, rfl⟩ := hR_30
        refine jj_lstore C dX10_placeInRanking_46 (by decide) rfl ?_
        refine jj_lload C dX10_placeInRanking_48 rfl ?_
        refine jj_lload_n C dX10_placeInRanking_50 rfl ?_
        refine jj_lcmp_gt (tgt := 68) C dX10_placeInRanking_51 dX10_placeInRanking_52 (by decide) (fun c_34 => ?_) (fun c_34 => ?_)
        · obtain ⟨x_35, ex_35⟩ : ∃ z : Int32, x_18 + Int32.ofInt 1 = z := ⟨_, rfl⟩
          refine jj_iinc (v := x_35) C dX10_placeInRanking_68 rfl ex_35 (by decide) rfl ?_
          obtain ⟨x_36, ex_36, vx_36⟩ := tt_inc (x := x_17) (n := 1) (by omega) (by omega)
          refine jj_iinc (v := x_36) C dX10_placeInRanking_71 rfl ex_36 (by decide) rfl ?_
          refine jj_goto (tgt := 20) C dX10_placeInRanking_74 (by decide) ?_
          refine jj_loc [0, 1, 3, 4, 5] rfl ?_
          exact ihL_16 pl_25 x_36 x_35 hok_26 hfr hfa hf_19 hf_20 (by first | omega | decide | exact tt_lo _ | exact tt_hi _) (by first | omega | decide | exact tt_lo _ | exact tt_hi _) (by first | omega | decide | exact tt_lo _ | exact tt_hi _) (by first | omega | decide | exact tt_lo _ | exact tt_hi _) (by first | omega | decide | exact tt_lo _ | exact tt_hi _)
        · refine jj_lload C dX10_placeInRanking_55 rfl ?_
          refine jj_lload_n C dX10_placeInRanking_57 rfl ?_
          refine jj_lcmp_ne (tgt := 71) C dX10_placeInRanking_58 dX10_placeInRanking_59 (by decide) (fun c_37 => ?_) (fun c_37 => ?_)
          · obtain ⟨x_38, ex_38, vx_38⟩ := tt_inc (x := x_17) (n := 1) (by omega) (by omega)
            refine jj_iinc (v := x_38) C dX10_placeInRanking_71 rfl ex_38 (by decide) rfl ?_
            refine jj_goto (tgt := 20) C dX10_placeInRanking_74 (by decide) ?_
            refine jj_loc [0, 2, 3, 4, 5] rfl ?_
            exact ihL_16 pl_25 x_38 x_18 hok_26 hfr hfa hf_19 hf_20 (by first | omega | decide | exact tt_lo _ | exact tt_hi _) (by first | omega | decide | exact tt_lo _ | exact tt_hi _) (by first | omega | decide | exact tt_lo _ | exact tt_hi _) (by first | omega | decide | exact tt_lo _ | exact tt_hi _) (by first | omega | decide | exact tt_lo _ | exact tt_hi _)
          · refine jj_iload C dX10_placeInRanking_62 rfl ?_
            refine jj_iload_n C dX10_placeInRanking_64 rfl ?_
            refine jj_icmp_ge (tgt := 71) C dX10_placeInRanking_65 (by decide) (fun c_39 => ?_) (fun c_39 => ?_)
            · have z_c_39 := jc_le (a := (p1).toInt) (b := (x_17).toInt) c_39 rfl rfl
              obtain ⟨x_40, ex_40, vx_40⟩ := tt_inc (x := x_17) (n := 1) (by omega) (by omega)
              refine jj_iinc (v := x_40) C dX10_placeInRanking_71 rfl ex_40 (by decide) rfl ?_
              refine jj_goto (tgt := 20) C dX10_placeInRanking_74 (by decide) ?_
              refine jj_loc [0, 2, 3, 4, 5] rfl ?_
              exact ihL_16 pl_25 x_40 x_18 hok_26 hfr hfa hf_19 hf_20 (by first | omega | decide | exact tt_lo _ | exact tt_hi _) (by first | omega | decide | exact tt_lo _ | exact tt_hi _) (by first | omega | decide | exact tt_lo _ | exact tt_hi _) (by first | omega | decide | exact tt_lo _ | exact tt_hi _) (by first | omega | decide | exact tt_lo _ | exact tt_hi _)
            · have z_c_39 := jc_nle (a := (p1).toInt) (b := (x_17).toInt) c_39 rfl rfl
              obtain ⟨x_41, ex_41⟩ : ∃ z : Int32, x_18 + Int32.ofInt 1 = z := ⟨_, rfl⟩
              refine jj_iinc (v := x_41) C dX10_placeInRanking_68 rfl ex_41 (by decide) rfl ?_
              obtain ⟨x_42, ex_42, vx_42⟩ := tt_inc (x := x_17) (n := 1) (by omega) (by omega)
              refine jj_iinc (v := x_42) C dX10_placeInRanking_71 rfl ex_42 (by decide) rfl ?_
              refine jj_goto (tgt := 20) C dX10_placeInRanking_74 (by decide) ?_
              refine jj_loc [0, 1, 3, 4, 5] rfl ?_
              exact ihL_16 pl_25 x_42 x_41 hok_26 hfr hfa hf_19 hf_20 (by first | omega | decide | exact tt_lo _ | exact tt_hi _) (by first | omega | decide | exact tt_lo _ | exact tt_hi _) (by first | omega | decide | exact tt_lo _ | exact tt_hi _) (by first | omega | decide | exact tt_lo _ | exact tt_hi _) (by first | omega | decide | exact tt_lo _ | exact tt_hi _)
  exact hL_16 _ pl_7 (0 : Int32) (0 : Int32) trivial hok_8 hfr hfa hf_2 hf_5 (by first | omega | decide | exact tt_lo _ | exact tt_hi _) (by first | omega | decide | exact tt_lo _ | exact tt_hi _) (by first | omega | decide | exact tt_lo _ | exact tt_hi _) (by first | omega | decide | exact tt_lo _ | exact tt_hi _) (Int.self_le_toNat _)

set_option maxHeartbeats 4000000 in
set_option maxRecDepth 100000 in
theorem tc_X10_placeInRanking_5 {l : Launch} (hl : l.stackTraces = false) (D : va_G) (cA : Nat → ClassId) (ak : (Nat → Nat) × (Nat → Nat)) {Kd : Nat → Nat} (h0 : Nat) (p1 : Int32) (hk0 : Kd h0 = 15) (lp1 : (0 : Int) ≤ p1.toInt) (up1 : p1.toInt ≤ 9) {pl0 : va_W} (hok : tt_ok tt_tk cA Kd pl0) : jj_M l D cA ak yX10_placeInRanking (.code yX10_placeInRanking cX10_placeInRanking 8 (some .int)) 4 111 0 0 ([] ++ pl0) [.ref h0, .int p1] (tt_O (fun rx pl1 r => rx = [] ∧ tt_ok tt_tk cA Kd pl1 ∧ tt_fr Kd [(2, 0), (2, 1), (2, 2), (2, 3), (2, 4), (9, 1), (9, 2), (9, 3), (9, 4), (9, 5)] pl0 pl1 ∧ tt_fa Kd [] pl0 pl1 ∧ ((∃ v : Int32, (-2147483648 : Int) ≤ v.toInt ∧ v.toInt ≤ 2147483647 ∧ r = some (.int v))))) (tt_OX (fun _ _ _ => False)) := by
  refine jj_start hl (by decide) jw_1d9aa5a1ce (jj_le rfl) ?_
  intro p e s m args below meth c A hargs hA C hex hmn
  have hfr := tt_fr.refl (K := Kd) (WS := [(2, 0), (2, 1), (2, 2), (2, 3), (2, 4), (9, 1), (9, 2), (9, 3), (9, 4), (9, 5)]) pl0
  have hfa := tt_fa.refl (K := Kd) (WA := []) pl0
  refine jj_aload_n C dX10_placeInRanking_0 rfl ?_
  refine tt_get C hok jk_11 5 (by decide) jw_34b8702fe2 (t := (2, 9, 0)) hk0 (by decide) rfl rfl dX10_placeInRanking_1 (fun v_1 hv_1 hf_2 => ?_)
  obtain ⟨a_3, rfl, ka_3⟩ := tt_vr hv_1
  refine jj_aload_n C dX10_placeInRanking_4 rfl ?_
  refine tt_get C hok jk_11 3 (by decide) jw_f82a97e333 (t := (2, 1, 0)) hk0 (by decide) rfl rfl dX10_placeInRanking_5 (fun v_4 hv_4 hf_5 => ?_)
  obtain ⟨a_6, rfl, ka_6⟩ := tt_vr hv_4
  refine jj_iload_n C dX10_placeInRanking_8 rfl ?_
  refine jj_iconst (v := 0) C dX10_placeInRanking_9 (by decide) ?_
  obtain ⟨qc, gs, hqc⟩ := tt_recv (cx := []) hok ka_3 (by decide) rfl
  refine tt_callV (rest := []) C (tc_X1_payAfterRate_6 hl D cA ak a_3 a_6 p1 ka_3 ka_6 (by omega) (by omega) hok) [] [] rfl rfl (by decide) (by decide) (by decide) qc hqc rfl rfl jw_40c49444b1 jw_86c6c6dedf jw_610440679d jw_944cf9c3ab jw_8658218399 jn_X1_payAfterRate rfl (jj_le rfl) (jj_le rfl) (jj_le rfl) (jj_le rfl) (jj_le rfl) dX10_placeInRanking_10 rfl (fun _ _ _ hX => hX.elim) (fun rx pl_7 r O_10 => ?_)
  obtain ⟨rfl, hok_8, hr_9, hfa9, hR_12⟩ := O_10
  replace hf_2 := hr_9.at hk0 (by decide) (by decide) hf_2
  replace hf_5 := hr_9.at hk0 (by decide) (by decide) hf_5
  replace hfr := hfr.trans (hr_9.sub (by decide))
  replace hfa := hfa.trans (hfa9.sub (by decide))
  obtain ⟨y_15, rfl⟩ := hR_12
  refine jj_lstore_n C dX10_placeInRanking_13 (by decide) rfl ?_
  refine jj_iconst (v := 0) C dX10_placeInRanking_14 (by decide) ?_
  refine jj_istore C dX10_placeInRanking_15 (by decide) rfl ?_
  refine jj_iconst (v := 0) C dX10_placeInRanking_17 (by decide) ?_
  refine jj_istore C dX10_placeInRanking_18 (by decide) rfl ?_
  have hL_16 : ∀ (N : Nat) (pl : va_W) (x_17 : Int32) (x_18 : Int32), True → tt_ok tt_tk cA Kd pl → tt_fr Kd [(2, 0), (2, 1), (2, 2), (2, 3), (2, 4), (9, 1), (9, 2), (9, 3), (9, 4), (9, 5)] pl0 pl → tt_fa Kd [] pl0 pl → tt_at pl h0 5 (.ref a_3) → tt_at pl h0 3 (.ref a_6) → (0 : Int) ≤ x_17.toInt → x_17.toInt ≤ 2147483647 → (-2147483648 : Int) ≤ x_18.toInt → x_18.toInt ≤ 2147483647 → (2147483648 - x_17.toInt ≤ (N : Int)) → jj_J p l e (jj_rm 4 111 0 0) s m args below meth c 8 A (vx_MQ below (jj_q D A (tt_O (fun rx pl1 r => rx = [] ∧ tt_ok tt_tk cA Kd pl1 ∧ tt_fr Kd [(2, 0), (2, 1), (2, 2), (2, 3), (2, 4), (9, 1), (9, 2), (9, 3), (9, 4), (9, 5)] pl0 pl1 ∧ tt_fa Kd [] pl0 pl1 ∧ ((∃ v : Int32, (-2147483648 : Int) ≤ v.toInt ∧ v.toInt ≤ 2147483647 ∧ r = some (.int v)))))) (jj_x D A (tt_OX (fun _ _ _ => False))) args s 0 0 A) (jj_X D A ([] ++ pl)) 0 0 20 [(5, .int x_17), (4, .int x_18), (2, .long y_15), (0, .ref h0), (1, .int p1)] [] := by
    intro NL_16
    induction NL_16 with
    | zero => intro pl x_17 x_18 _ hok hfr hfa hf_19 hf_20 lx_17 ux_17 lx_18 ux_18 hNL_16; exfalso; omega
    | succ NL_16 ihL_16 =>
      intro pl x_17 x_18 _ hok hfr hfa hf_19 hf_20 lx_17 ux_17 lx_18 ux_18 hNL_16
      replace ihL_16 := fun pl x_17 x_18 h1 => ihL_16 pl x_17 x_18 trivial h1
      refine jj_iload C dX10_placeInRanking_20 rfl ?_
      refine jj_aload_n C dX10_placeInRanking_22 rfl ?_
      refine tt_getF C hok jk_11 3 (by decide) jw_f82a97e333 (t := (2, 1, 0)) hk0 (by decide) rfl rfl hf_20 dX10_placeInRanking_23 ?_
      refine tt_get C hok jk_2 0 (by decide) jw_ea0f6256bc (t := (0, (-2147483648), 2147483647)) ka_6 (by decide) rfl rfl dX10_placeInRanking_26 (fun v_21 hv_21 hf_22 => ?_)
      obtain ⟨x_23, rfl, lx_23, ux_23⟩ := tt_vi hv_21
      refine jj_icmp_ge (tgt := 77) C dX10_placeInRanking_29 (by decide) (fun c_24 => ?_) (fun c_24 => ?_)
      · have z_c_24 := jc_le (a := (x_23).toInt) (b := (x_17).toInt) c_24 rfl rfl
        refine jj_iload C dX10_placeInRanking_77 rfl ?_
        exact jj_iret C ⟨[], pl, rfl, rfl, hok, hfr, hfa, ⟨x_18, (by first | omega | exact tt_lo _ | exact tt_hi _), (by first | omega | exact tt_lo _ | exact tt_hi _), rfl⟩⟩ dX10_placeInRanking_79 (jj_le rfl) (jj_le rfl)
      · have z_c_24 := jc_nle (a := (x_23).toInt) (b := (x_17).toInt) c_24 rfl rfl
        refine jj_aload_n C dX10_placeInRanking_32 rfl ?_
        refine tt_getF C hok jk_11 5 (by decide) jw_34b8702fe2 (t := (2, 9, 0)) hk0 (by decide) rfl rfl hf_19 dX10_placeInRanking_33 ?_
        refine jj_aload_n C dX10_placeInRanking_36 rfl ?_
        refine tt_getF C hok jk_11 3 (by decide) jw_f82a97e333 (t := (2, 1, 0)) hk0 (by decide) rfl rfl hf_20 dX10_placeInRanking_37 ?_
        refine jj_iload C dX10_placeInRanking_40 rfl ?_
        refine jj_iconst (v := 0) C dX10_placeInRanking_42 (by decide) ?_
        obtain ⟨qc, gs, hqc⟩ := tt_recv (cx := []) hok ka_3 (by decide) rfl
        refine tt_callV (rest := []) C (tc_X1_payAfterRate_15 hl D cA ak a_3 a_6 x_17 ka_3 ka_6 hok) [] [] rfl rfl (by decide) (by decide) (by decide) qc hqc rfl rfl jw_40c49444b1 jw_86c6c6dedf jw_610440679d jw_944cf9c3ab jw_8658218399 jn_X1_payAfterRate rfl (jj_le rfl) (jj_le rfl) (jj_le rfl) (jj_le rfl) (jj_le rfl) dX10_placeInRanking_43 rfl (fun _ _ _ hX => hX.elim) (fun rx pl_25 r O_28 => ?_)
        obtain ⟨rfl, hok_26, hr_27, hfa9, hR_30⟩ := O_28
        replace hf_19 := hr_27.at hk0 (by decide) (by decide) hf_19
        replace hf_20 := hr_27.at hk0 (by decide) (by decide) hf_20
        replace hf_22 := hr_27.at ka_6 (by decide) (by decide) hf_22
        replace hfr := hfr.trans (hr_27.sub (by decide))
        replace hfa := hfa.trans (hfa9.sub (by decide))
        obtain ⟨y_33, rfl⟩ := hR_30
        refine jj_lstore C dX10_placeInRanking_46 (by decide) rfl ?_
        refine jj_lload C dX10_placeInRanking_48 rfl ?_
        refine jj_lload_n C dX10_placeInRanking_50 rfl ?_
        refine jj_lcmp_gt (tgt := 68) C dX10_placeInRanking_51 dX10_placeInRanking_52 (by decide) (fun c_34 => ?_) (fun c_34 => ?_)
        · obtain ⟨x_35, ex_35⟩ : ∃ z : Int32, x_18 + Int32.ofInt 1 = z := ⟨_, rfl⟩
          refine jj_iinc (v := x_35) C dX10_placeInRanking_68 rfl ex_35 (by decide) rfl ?_
          obtain ⟨x_36, ex_36, vx_36⟩ := tt_inc (x := x_17) (n := 1) (by omega) (by omega)
          refine jj_iinc (v := x_36) C dX10_placeInRanking_71 rfl ex_36 (by decide) rfl ?_
          refine jj_goto (tgt := 20) C dX10_placeInRanking_74 (by decide) ?_
          refine jj_loc [0, 1, 3, 4, 5] rfl ?_
          exact ihL_16 pl_25 x_36 x_35 hok_26 hfr hfa hf_19 hf_20 (by first | omega | decide | exact tt_lo _ | exact tt_hi _) (by first | omega | decide | exact tt_lo _ | exact tt_hi _) (by first | omega | decide | exact tt_lo _ | exact tt_hi _) (by first | omega | decide | exact tt_lo _ | exact tt_hi _) (by first | omega | decide | exact tt_lo _ | exact tt_hi _)
        · refine jj_lload C dX10_placeInRanking_55 rfl ?_
          refine jj_lload_n C dX10_placeInRanking_57 rfl ?_
          refine jj_lcmp_ne (tgt := 71) C dX10_placeInRanking_58 dX10_placeInRanking_59 (by decide) (fun c_37 => ?_) (fun c_37 => ?_)
          · obtain ⟨x_38, ex_38, vx_38⟩ := tt_inc (x := x_17) (n := 1) (by omega) (by omega)
            refine jj_iinc (v := x_38) C dX10_placeInRanking_71 rfl ex_38 (by decide) rfl ?_
            refine jj_goto (tgt := 20) C dX10_placeInRanking_74 (by decide) ?_
            refine jj_loc [0, 2, 3, 4, 5] rfl ?_
            exact ihL_16 pl_25 x_38 x_18 hok_26 hfr hfa hf_19 hf_20 (by first | omega | decide | exact tt_lo _ | exact tt_hi _) (by first | omega | decide | exact tt_lo _ | exact tt_hi _) (by first | omega | decide | exact tt_lo _ | exact tt_hi _) (by first | omega | decide | exact tt_lo _ | exact tt_hi _) (by first | omega | decide | exact tt_lo _ | exact tt_hi _)
          · refine jj_iload C dX10_placeInRanking_62 rfl ?_
            refine jj_iload_n C dX10_placeInRanking_64 rfl ?_
            refine jj_icmp_ge (tgt := 71) C dX10_placeInRanking_65 (by decide) (fun c_39 => ?_) (fun c_39 => ?_)
            · have z_c_39 := jc_le (a := (p1).toInt) (b := (x_17).toInt) c_39 rfl rfl
              obtain ⟨x_40, ex_40, vx_40⟩ := tt_inc (x := x_17) (n := 1) (by omega) (by omega)
              refine jj_iinc (v := x_40) C dX10_placeInRanking_71 rfl ex_40 (by decide) rfl ?_
              refine jj_goto (tgt := 20) C dX10_placeInRanking_74 (by decide) ?_
              refine jj_loc [0, 2, 3, 4, 5] rfl ?_
              exact ihL_16 pl_25 x_40 x_18 hok_26 hfr hfa hf_19 hf_20 (by first | omega | decide | exact tt_lo _ | exact tt_hi _) (by first | omega | decide | exact tt_lo _ | exact tt_hi _) (by first | omega | decide | exact tt_lo _ | exact tt_hi _) (by first | omega | decide | exact tt_lo _ | exact tt_hi _) (by first | omega | decide | exact tt_lo _ | exact tt_hi _)
            · have z_c_39 := jc_nle (a := (p1).toInt) (b := (x_17).toInt) c_39 rfl rfl
              obtain ⟨x_41, ex_41⟩ : ∃ z : Int32, x_18 + Int32.ofInt 1 = z := ⟨_, rfl⟩
              refine jj_iinc (v := x_41) C dX10_placeInRanking_68 rfl ex_41 (by decide) rfl ?_
              obtain ⟨x_42, ex_42, vx_42⟩ := tt_inc (x := x_17) (n := 1) (by omega) (by omega)
              refine jj_iinc (v := x_42) C dX10_placeInRanking_71 rfl ex_42 (by decide) rfl ?_
              refine jj_goto (tgt := 20) C dX10_placeInRanking_74 (by decide) ?_
              refine jj_loc [0, 1, 3, 4, 5] rfl ?_
              exact ihL_16 pl_25 x_42 x_41 hok_26 hfr hfa hf_19 hf_20 (by first | omega | decide | exact tt_lo _ | exact tt_hi _) (by first | omega | decide | exact tt_lo _ | exact tt_hi _) (by first | omega | decide | exact tt_lo _ | exact tt_hi _) (by first | omega | decide | exact tt_lo _ | exact tt_hi _) (by first | omega | decide | exact tt_lo _ | exact tt_hi _)
  exact hL_16 _ pl_7 (0 : Int32) (0 : Int32) trivial hok_8 hfr hfa hf_2 hf_5 (by first | omega | decide | exact tt_lo _ | exact tt_hi _) (by first | omega | decide | exact tt_lo _ | exact tt_hi _) (by first | omega | decide | exact tt_lo _ | exact tt_hi _) (by first | omega | decide | exact tt_lo _ | exact tt_hi _) (Int.self_le_toNat _)

set_option maxHeartbeats 4000000 in
set_option maxRecDepth 100000 in
theorem tc_X10_placeInRanking_6 {l : Launch} (hl : l.stackTraces = false) (D : va_G) (cA : Nat → ClassId) (ak : (Nat → Nat) × (Nat → Nat)) {Kd : Nat → Nat} (h0 : Nat) (p1 : Int32) (hk0 : Kd h0 = 15) (lp1 : (0 : Int) ≤ p1.toInt) (up1 : p1.toInt ≤ 10) {pl0 : va_W} (hok : tt_ok tt_tk cA Kd pl0) : jj_M l D cA ak yX10_placeInRanking (.code yX10_placeInRanking cX10_placeInRanking 8 (some .int)) 4 111 0 0 ([] ++ pl0) [.ref h0, .int p1] (tt_O (fun rx pl1 r => rx = [] ∧ tt_ok tt_tk cA Kd pl1 ∧ tt_fr Kd [(2, 0), (2, 1), (2, 2), (2, 3), (2, 4), (9, 1), (9, 2), (9, 3), (9, 4), (9, 5)] pl0 pl1 ∧ tt_fa Kd [] pl0 pl1 ∧ ((∃ v : Int32, (-2147483648 : Int) ≤ v.toInt ∧ v.toInt ≤ 2147483647 ∧ r = some (.int v))))) (tt_OX (fun _ _ _ => False)) := by
  refine jj_start hl (by decide) jw_1d9aa5a1ce (jj_le rfl) ?_
  intro p e s m args below meth c A hargs hA C hex hmn
  have hfr := tt_fr.refl (K := Kd) (WS := [(2, 0), (2, 1), (2, 2), (2, 3), (2, 4), (9, 1), (9, 2), (9, 3), (9, 4), (9, 5)]) pl0
  have hfa := tt_fa.refl (K := Kd) (WA := []) pl0
  refine jj_aload_n C dX10_placeInRanking_0 rfl ?_
  refine tt_get C hok jk_11 5 (by decide) jw_34b8702fe2 (t := (2, 9, 0)) hk0 (by decide) rfl rfl dX10_placeInRanking_1 (fun v_1 hv_1 hf_2 => ?_)
  obtain ⟨a_3, rfl, ka_3⟩ := tt_vr hv_1
  refine jj_aload_n C dX10_placeInRanking_4 rfl ?_
  refine tt_get C hok jk_11 3 (by decide) jw_f82a97e333 (t := (2, 1, 0)) hk0 (by decide) rfl rfl dX10_placeInRanking_5 (fun v_4 hv_4 hf_5 => ?_)
  obtain ⟨a_6, rfl, ka_6⟩ := tt_vr hv_4
  refine jj_iload_n C dX10_placeInRanking_8 rfl ?_
  refine jj_iconst (v := 0) C dX10_placeInRanking_9 (by decide) ?_
  obtain ⟨qc, gs, hqc⟩ := tt_recv (cx := []) hok ka_3 (by decide) rfl
  refine tt_callV (rest := []) C (tc_X1_payAfterRate_7 hl D cA ak a_3 a_6 p1 ka_3 ka_6 (by omega) (by omega) hok) [] [] rfl rfl (by decide) (by decide) (by decide) qc hqc rfl rfl jw_40c49444b1 jw_86c6c6dedf jw_610440679d jw_944cf9c3ab jw_8658218399 jn_X1_payAfterRate rfl (jj_le rfl) (jj_le rfl) (jj_le rfl) (jj_le rfl) (jj_le rfl) dX10_placeInRanking_10 rfl (fun _ _ _ hX => hX.elim) (fun rx pl_7 r O_10 => ?_)
  obtain ⟨rfl, hok_8, hr_9, hfa9, hR_12⟩ := O_10
  replace hf_2 := hr_9.at hk0 (by decide) (by decide) hf_2
  replace hf_5 := hr_9.at hk0 (by decide) (by decide) hf_5
  replace hfr := hfr.trans (hr_9.sub (by decide))
  replace hfa := hfa.trans (hfa9.sub (by decide))
  obtain ⟨y_15, rfl⟩ := hR_12
  refine jj_lstore_n C dX10_placeInRanking_13 (by decide) rfl ?_
  refine jj_iconst (v := 0) C dX10_placeInRanking_14 (by decide) ?_
  refine jj_istore C dX10_placeInRanking_15 (by decide) rfl ?_
  refine jj_iconst (v := 0) C dX10_placeInRanking_17 (by decide) ?_
  refine jj_istore C dX10_placeInRanking_18 (by decide) rfl ?_
  have hL_16 : ∀ (N : Nat) (pl : va_W) (x_17 : Int32) (x_18 : Int32), True → tt_ok tt_tk cA Kd pl → tt_fr Kd [(2, 0), (2, 1), (2, 2), (2, 3), (2, 4), (9, 1), (9, 2), (9, 3), (9, 4), (9, 5)] pl0 pl → tt_fa Kd [] pl0 pl → tt_at pl h0 5 (.ref a_3) → tt_at pl h0 3 (.ref a_6) → (0 : Int) ≤ x_17.toInt → x_17.toInt ≤ 2147483647 → (-2147483648 : Int) ≤ x_18.toInt → x_18.toInt ≤ 2147483647 → (2147483648 - x_17.toInt ≤ (N : Int)) → jj_J p l e (jj_rm 4 111 0 0) s m args below meth c 8 A (vx_MQ below (jj_q D A (tt_O (fun rx pl1 r => rx = [] ∧ tt_ok tt_tk cA Kd pl1 ∧ tt_fr Kd [(2, 0), (2, 1), (2, 2), (2, 3), (2, 4), (9, 1), (9, 2), (9, 3), (9, 4), (9, 5)] pl0 pl1 ∧ tt_fa Kd [] pl0 pl1 ∧ ((∃ v : Int32, (-2147483648 : Int) ≤ v.toInt ∧ v.toInt ≤ 2147483647 ∧ r = some (.int v)))))) (jj_x D A (tt_OX (fun _ _ _ => False))) args s 0 0 A) (jj_X D A ([] ++ pl)) 0 0 20 [(5, .int x_17), (4, .int x_18), (2, .long y_15), (0, .ref h0), (1, .int p1)] [] := by
    intro NL_16
    induction NL_16 with
    | zero => intro pl x_17 x_18 _ hok hfr hfa hf_19 hf_20 lx_17 ux_17 lx_18 ux_18 hNL_16; exfalso; omega
    | succ NL_16 ihL_16 =>
      intro pl x_17 x_18 _ hok hfr hfa hf_19 hf_20 lx_17 ux_17 lx_18 ux_18 hNL_16
      replace ihL_16 := fun pl x_17 x_18 h1 => ihL_16 pl x_17 x_18 trivial h1
      refine jj_iload C dX10_placeInRanking_20 rfl ?_
      refine jj_aload_n C dX10_placeInRanking_22 rfl ?_
      refine tt_getF C hok jk_11 3 (by decide) jw_f82a97e333 (t := (2, 1, 0)) hk0 (by decide) rfl rfl hf_20 dX10_placeInRanking_23 ?_
      refine tt_get C hok jk_2 0 (by decide) jw_ea0f6256bc (t := (0, (-2147483648), 2147483647)) ka_6 (by decide) rfl rfl dX10_placeInRanking_26 (fun v_21 hv_21 hf_22 => ?_)
      obtain ⟨x_23, rfl, lx_23, ux_23⟩ := tt_vi hv_21
      refine jj_icmp_ge (tgt := 77) C dX10_placeInRanking_29 (by decide) (fun c_24 => ?_) (fun c_24 => ?_)
      · have z_c_24 := jc_le (a := (x_23).toInt) (b := (x_17).toInt) c_24 rfl rfl
        refine jj_iload C dX10_placeInRanking_77 rfl ?_
        exact jj_iret C ⟨[], pl, rfl, rfl, hok, hfr, hfa, ⟨x_18, (by first | omega | exact tt_lo _ | exact tt_hi _), (by first | omega | exact tt_lo _ | exact tt_hi _), rfl⟩⟩ dX10_placeInRanking_79 (jj_le rfl) (jj_le rfl)
      · have z_c_24 := jc_nle (a := (x_23).toInt) (b := (x_17).toInt) c_24 rfl rfl
        refine jj_aload_n C dX10_placeInRanking_32 rfl ?_
        refine tt_getF C hok jk_11 5 (by decide) jw_34b8702fe2 (t := (2, 9, 0)) hk0 (by decide) rfl rfl hf_19 dX10_placeInRanking_33 ?_
        refine jj_aload_n C dX10_placeInRanking_36 rfl ?_
        refine tt_getF C hok jk_11 3 (by decide) jw_f82a97e333 (t := (2, 1, 0)) hk0 (by decide) rfl rfl hf_20 dX10_placeInRanking_37 ?_
        refine jj_iload C dX10_placeInRanking_40 rfl ?_
        refine jj_iconst (v := 0) C dX10_placeInRanking_42 (by decide) ?_
        obtain ⟨qc, gs, hqc⟩ := tt_recv (cx := []) hok ka_3 (by decide) rfl
        refine tt_callV (rest := []) C (tc_X1_payAfterRate_15 hl D cA ak a_3 a_6 x_17 ka_3 ka_6 hok) [] [] rfl rfl (by decide) (by decide) (by decide) qc hqc rfl rfl jw_40c49444b1 jw_86c6c6dedf jw_610440679d jw_944cf9c3ab jw_8658218399 jn_X1_payAfterRate rfl (jj_le rfl) (jj_le rfl) (jj_le rfl) (jj_le rfl) (jj_le rfl) dX10_placeInRanking_43 rfl (fun _ _ _ hX => hX.elim) (fun rx pl_25 r O_28 => ?_)
        obtain ⟨rfl, hok_26, hr_27, hfa9, hR_30⟩ := O_28
        replace hf_19 := hr_27.at hk0 (by decide) (by decide) hf_19
        replace hf_20 := hr_27.at hk0 (by decide) (by decide) hf_20
        replace hf_22 := hr_27.at ka_6 (by decide) (by decide) hf_22
        replace hfr := hfr.trans (hr_27.sub (by decide))
        replace hfa := hfa.trans (hfa9.sub (by decide))
        obtain ⟨y_33, rfl⟩ := hR_30
        refine jj_lstore C dX10_placeInRanking_46 (by decide) rfl ?_
        refine jj_lload C dX10_placeInRanking_48 rfl ?_
        refine jj_lload_n C dX10_placeInRanking_50 rfl ?_
        refine jj_lcmp_gt (tgt := 68) C dX10_placeInRanking_51 dX10_placeInRanking_52 (by decide) (fun c_34 => ?_) (fun c_34 => ?_)
        · obtain ⟨x_35, ex_35⟩ : ∃ z : Int32, x_18 + Int32.ofInt 1 = z := ⟨_, rfl⟩
          refine jj_iinc (v := x_35) C dX10_placeInRanking_68 rfl ex_35 (by decide) rfl ?_
          obtain ⟨x_36, ex_36, vx_36⟩ := tt_inc (x := x_17) (n := 1) (by omega) (by omega)
          refine jj_iinc (v := x_36) C dX10_placeInRanking_71 rfl ex_36 (by decide) rfl ?_
          refine jj_goto (tgt := 20) C dX10_placeInRanking_74 (by decide) ?_
          refine jj_loc [0, 1, 3, 4, 5] rfl ?_
          exact ihL_16 pl_25 x_36 x_35 hok_26 hfr hfa hf_19 hf_20 (by first | omega | decide | exact tt_lo _ | exact tt_hi _) (by first | omega | decide | exact tt_lo _ | exact tt_hi _) (by first | omega | decide | exact tt_lo _ | exact tt_hi _) (by first | omega | decide | exact tt_lo _ | exact tt_hi _) (by first | omega | decide | exact tt_lo _ | exact tt_hi _)
        · refine jj_lload C dX10_placeInRanking_55 rfl ?_
          refine jj_lload_n C dX10_placeInRanking_57 rfl ?_
          refine jj_lcmp_ne (tgt := 71) C dX10_placeInRanking_58 dX10_placeInRanking_59 (by decide) (fun c_37 => ?_) (fun c_37 => ?_)
          · obtain ⟨x_38, ex_38, vx_38⟩ := tt_inc (x := x_17) (n := 1) (by omega) (by omega)
            refine jj_iinc (v := x_38) C dX10_placeInRanking_71 rfl ex_38 (by decide) rfl ?_
            refine jj_goto (tgt := 20) C dX10_placeInRanking_74 (by decide) ?_
            refine jj_loc [0, 2, 3, 4, 5] rfl ?_
            exact ihL_16 pl_25 x_38 x_18 hok_26 hfr hfa hf_19 hf_20 (by first | omega | decide | exact tt_lo _ | exact tt_hi _) (by first | omega | decide | exact tt_lo _ | exact tt_hi _) (by first | omega | decide | exact tt_lo _ | exact tt_hi _) (by first | omega | decide | exact tt_lo _ | exact tt_hi _) (by first | omega | decide | exact tt_lo _ | exact tt_hi _)
          · refine jj_iload C dX10_placeInRanking_62 rfl ?_
            refine jj_iload_n C dX10_placeInRanking_64 rfl ?_
            refine jj_icmp_ge (tgt := 71) C dX10_placeInRanking_65 (by decide) (fun c_39 => ?_) (fun c_39 => ?_)
            · have z_c_39 := jc_le (a := (p1).toInt) (b := (x_17).toInt) c_39 rfl rfl
              obtain ⟨x_40, ex_40, vx_40⟩ := tt_inc (x := x_17) (n := 1) (by omega) (by omega)
              refine jj_iinc (v := x_40) C dX10_placeInRanking_71 rfl ex_40 (by decide) rfl ?_
              refine jj_goto (tgt := 20) C dX10_placeInRanking_74 (by decide) ?_
              refine jj_loc [0, 2, 3, 4, 5] rfl ?_
              exact ihL_16 pl_25 x_40 x_18 hok_26 hfr hfa hf_19 hf_20 (by first | omega | decide | exact tt_lo _ | exact tt_hi _) (by first | omega | decide | exact tt_lo _ | exact tt_hi _) (by first | omega | decide | exact tt_lo _ | exact tt_hi _) (by first | omega | decide | exact tt_lo _ | exact tt_hi _) (by first | omega | decide | exact tt_lo _ | exact tt_hi _)
            · have z_c_39 := jc_nle (a := (p1).toInt) (b := (x_17).toInt) c_39 rfl rfl
              obtain ⟨x_41, ex_41⟩ : ∃ z : Int32, x_18 + Int32.ofInt 1 = z := ⟨_, rfl⟩
              refine jj_iinc (v := x_41) C dX10_placeInRanking_68 rfl ex_41 (by decide) rfl ?_
              obtain ⟨x_42, ex_42, vx_42⟩ := tt_inc (x := x_17) (n := 1) (by omega) (by omega)
              refine jj_iinc (v := x_42) C dX10_placeInRanking_71 rfl ex_42 (by decide) rfl ?_
              refine jj_goto (tgt := 20) C dX10_placeInRanking_74 (by decide) ?_
              refine jj_loc [0, 1, 3, 4, 5] rfl ?_
              exact ihL_16 pl_25 x_42 x_41 hok_26 hfr hfa hf_19 hf_20 (by first | omega | decide | exact tt_lo _ | exact tt_hi _) (by first | omega | decide | exact tt_lo _ | exact tt_hi _) (by first | omega | decide | exact tt_lo _ | exact tt_hi _) (by first | omega | decide | exact tt_lo _ | exact tt_hi _) (by first | omega | decide | exact tt_lo _ | exact tt_hi _)
  exact hL_16 _ pl_7 (0 : Int32) (0 : Int32) trivial hok_8 hfr hfa hf_2 hf_5 (by first | omega | decide | exact tt_lo _ | exact tt_hi _) (by first | omega | decide | exact tt_lo _ | exact tt_hi _) (by first | omega | decide | exact tt_lo _ | exact tt_hi _) (by first | omega | decide | exact tt_lo _ | exact tt_hi _) (Int.self_le_toNat _)

set_option maxHeartbeats 4000000 in
set_option maxRecDepth 100000 in
theorem tc_X10_placeInRanking_7 {l : Launch} (hl : l.stackTraces = false) (D : va_G) (cA : Nat → ClassId) (ak : (Nat → Nat) × (Nat → Nat)) {Kd : Nat → Nat} (h0 : Nat) (p1 : Int32) (hk0 : Kd h0 = 15) (lp1 : (0 : Int) ≤ p1.toInt) (up1 : p1.toInt ≤ 11) {pl0 : va_W} (hok : tt_ok tt_tk cA Kd pl0) : jj_M l D cA ak yX10_placeInRanking (.code yX10_placeInRanking cX10_placeInRanking 8 (some .int)) 4 111 0 0 ([] ++ pl0) [.ref h0, .int p1] (tt_O (fun rx pl1 r => rx = [] ∧ tt_ok tt_tk cA Kd pl1 ∧ tt_fr Kd [(2, 0), (2, 1), (2, 2), (2, 3), (2, 4), (9, 1), (9, 2), (9, 3), (9, 4), (9, 5)] pl0 pl1 ∧ tt_fa Kd [] pl0 pl1 ∧ ((∃ v : Int32, (-2147483648 : Int) ≤ v.toInt ∧ v.toInt ≤ 2147483647 ∧ r = some (.int v))))) (tt_OX (fun _ _ _ => False)) := by
  refine jj_start hl (by decide) jw_1d9aa5a1ce (jj_le rfl) ?_
  intro p e s m args below meth c A hargs hA C hex hmn
  have hfr := tt_fr.refl (K := Kd) (WS := [(2, 0), (2, 1), (2, 2), (2, 3), (2, 4), (9, 1), (9, 2), (9, 3), (9, 4), (9, 5)]) pl0
  have hfa := tt_fa.refl (K := Kd) (WA := []) pl0
  refine jj_aload_n C dX10_placeInRanking_0 rfl ?_
  refine tt_get C hok jk_11 5 (by decide) jw_34b8702fe2 (t := (2, 9, 0)) hk0 (by decide) rfl rfl dX10_placeInRanking_1 (fun v_1 hv_1 hf_2 => ?_)
  obtain ⟨a_3, rfl, ka_3⟩ := tt_vr hv_1
  refine jj_aload_n C dX10_placeInRanking_4 rfl ?_
  refine tt_get C hok jk_11 3 (by decide) jw_f82a97e333 (t := (2, 1, 0)) hk0 (by decide) rfl rfl dX10_placeInRanking_5 (fun v_4 hv_4 hf_5 => ?_)
  obtain ⟨a_6, rfl, ka_6⟩ := tt_vr hv_4
  refine jj_iload_n C dX10_placeInRanking_8 rfl ?_
  refine jj_iconst (v := 0) C dX10_placeInRanking_9 (by decide) ?_
  obtain ⟨qc, gs, hqc⟩ := tt_recv (cx := []) hok ka_3 (by decide) rfl
  refine tt_callV (rest := []) C (tc_X1_payAfterRate_8 hl D cA ak a_3 a_6 p1 ka_3 ka_6 (by omega) (by omega) hok) [] [] rfl rfl (by decide) (by decide) (by decide) qc hqc rfl rfl jw_40c49444b1 jw_86c6c6dedf jw_610440679d jw_944cf9c3ab jw_8658218399 jn_X1_payAfterRate rfl (jj_le rfl) (jj_le rfl) (jj_le rfl) (jj_le rfl) (jj_le rfl) dX10_placeInRanking_10 rfl (fun _ _ _ hX => hX.elim) (fun rx pl_7 r O_10 => ?_)
  obtain ⟨rfl, hok_8, hr_9, hfa9, hR_12⟩ := O_10
  replace hf_2 := hr_9.at hk0 (by decide) (by decide) hf_2
  replace hf_5 := hr_9.at hk0 (by decide) (by decide) hf_5
  replace hfr := hfr.trans (hr_9.sub (by decide))
  replace hfa := hfa.trans (hfa9.sub (by decide))
  obtain ⟨y_15, rfl⟩ := hR_12
  refine jj_lstore_n C dX10_placeInRanking_13 (by decide) rfl ?_
  refine jj_iconst (v := 0) C dX10_placeInRanking_14 (by decide) ?_
  refine jj_istore C dX10_placeInRanking_15 (by decide) rfl ?_
  refine jj_iconst (v := 0) C dX10_placeInRanking_17 (by decide) ?_
  refine jj_istore C dX10_placeInRanking_18 (by decide) rfl ?_
  have hL_16 : ∀ (N : Nat) (pl : va_W) (x_17 : Int32) (x_18 : Int32), True → tt_ok tt_tk cA Kd pl → tt_fr Kd [(2, 0), (2, 1), (2, 2), (2, 3), (2, 4), (9, 1), (9, 2), (9, 3), (9, 4), (9, 5)] pl0 pl → tt_fa Kd [] pl0 pl → tt_at pl h0 5 (.ref a_3) → tt_at pl h0 3 (.ref a_6) → (0 : Int) ≤ x_17.toInt → x_17.toInt ≤ 2147483647 → (-2147483648 : Int) ≤ x_18.toInt → x_18.toInt ≤ 2147483647 → (2147483648 - x_17.toInt ≤ (N : Int)) → jj_J p l e (jj_rm 4 111 0 0) s m args below meth c 8 A (vx_MQ below (jj_q D A (tt_O (fun rx pl1 r => rx = [] ∧ tt_ok tt_tk cA Kd pl1 ∧ tt_fr Kd [(2, 0), (2, 1), (2, 2), (2, 3), (2, 4), (9, 1), (9, 2), (9, 3), (9, 4), (9, 5)] pl0 pl1 ∧ tt_fa Kd [] pl0 pl1 ∧ ((∃ v : Int32, (-2147483648 : Int) ≤ v.toInt ∧ v.toInt ≤ 2147483647 ∧ r = some (.int v)))))) (jj_x D A (tt_OX (fun _ _ _ => False))) args s 0 0 A) (jj_X D A ([] ++ pl)) 0 0 20 [(5, .int x_17), (4, .int x_18), (2, .long y_15), (0, .ref h0), (1, .int p1)] [] := by
    intro NL_16
    induction NL_16 with
    | zero => intro pl x_17 x_18 _ hok hfr hfa hf_19 hf_20 lx_17 ux_17 lx_18 ux_18 hNL_16; exfalso; omega
    | succ NL_16 ihL_16 =>
      intro pl x_17 x_18 _ hok hfr hfa hf_19 hf_20 lx_17 ux_17 lx_18 ux_18 hNL_16
      replace ihL_16 := fun pl x_17 x_18 h1 => ihL_16 pl x_17 x_18 trivial h1
      refine jj_iload C dX10_placeInRanking_20 rfl ?_
      refine jj_aload_n C dX10_placeInRanking_22 rfl ?_
      refine tt_getF C hok jk_11 3 (by decide) jw_f82a97e333 (t := (2, 1, 0)) hk0 (by decide) rfl rfl hf_20 dX10_placeInRanking_23 ?_
      refine tt_get C hok jk_2 0 (by decide) jw_ea0f6256bc (t := (0, (-2147483648), 2147483647)) ka_6 (by decide) rfl rfl dX10_placeInRanking_26 (fun v_21 hv_21 hf_22 => ?_)
      obtain ⟨x_23, rfl, lx_23, ux_23⟩ := tt_vi hv_21
      refine jj_icmp_ge (tgt := 77) C dX10_placeInRanking_29 (by decide) (fun c_24 => ?_) (fun c_24 => ?_)
      · have z_c_24 := jc_le (a := (x_23).toInt) (b := (x_17).toInt) c_24 rfl rfl
        refine jj_iload C dX10_placeInRanking_77 rfl ?_
        exact jj_iret C ⟨[], pl, rfl, rfl, hok, hfr, hfa, ⟨x_18, (by first | omega | exact tt_lo _ | exact tt_hi _), (by first | omega | exact tt_lo _ | exact tt_hi _), rfl⟩⟩ dX10_placeInRanking_79 (jj_le rfl) (jj_le rfl)
      · have z_c_24 := jc_nle (a := (x_23).toInt) (b := (x_17).toInt) c_24 rfl rfl
        refine jj_aload_n C dX10_placeInRanking_32 rfl ?_
        refine tt_getF C hok jk_11 5 (by decide) jw_34b8702fe2 (t := (2, 9, 0)) hk0 (by decide) rfl rfl hf_19 dX10_placeInRanking_33 ?_
        refine jj_aload_n C dX10_placeInRanking_36 rfl ?_
        refine tt_getF C hok jk_11 3 (by decide) jw_f82a97e333 (t := (2, 1, 0)) hk0 (by decide) rfl rfl hf_20 dX10_placeInRanking_37 ?_
        refine jj_iload C dX10_placeInRanking_40 rfl ?_
        refine jj_iconst (v := 0) C dX10_placeInRanking_42 (by decide) ?_
        obtain ⟨qc, gs, hqc⟩ := tt_recv (cx := []) hok ka_3 (by decide) rfl
        refine tt_callV (rest := []) C (tc_X1_payAfterRate_15 hl D cA ak a_3 a_6 x_17 ka_3 ka_6 hok) [] [] rfl rfl (by decide) (by decide) (by decide) qc hqc rfl rfl jw_40c49444b1 jw_86c6c6dedf jw_610440679d jw_944cf9c3ab jw_8658218399 jn_X1_payAfterRate rfl (jj_le rfl) (jj_le rfl) (jj_le rfl) (jj_le rfl) (jj_le rfl) dX10_placeInRanking_43 rfl (fun _ _ _ hX => hX.elim) (fun rx pl_25 r O_28 => ?_)
        obtain ⟨rfl, hok_26, hr_27, hfa9, hR_30⟩ := O_28
        replace hf_19 := hr_27.at hk0 (by decide) (by decide) hf_19
        replace hf_20 := hr_27.at hk0 (by decide) (by decide) hf_20
        replace hf_22 := hr_27.at ka_6 (by decide) (by decide) hf_22
        replace hfr := hfr.trans (hr_27.sub (by decide))
        replace hfa := hfa.trans (hfa9.sub (by decide))
        obtain ⟨y_33, rfl⟩ := hR_30
        refine jj_lstore C dX10_placeInRanking_46 (by decide) rfl ?_
        refine jj_lload C dX10_placeInRanking_48 rfl ?_
        refine jj_lload_n C dX10_placeInRanking_50 rfl ?_
        refine jj_lcmp_gt (tgt := 68) C dX10_placeInRanking_51 dX10_placeInRanking_52 (by decide) (fun c_34 => ?_) (fun c_34 => ?_)
        · obtain ⟨x_35, ex_35⟩ : ∃ z : Int32, x_18 + Int32.ofInt 1 = z := ⟨_, rfl⟩
          refine jj_iinc (v := x_35) C dX10_placeInRanking_68 rfl ex_35 (by decide) rfl ?_
          obtain ⟨x_36, ex_36, vx_36⟩ := tt_inc (x := x_17) (n := 1) (by omega) (by omega)
          refine jj_iinc (v := x_36) C dX10_placeInRanking_71 rfl ex_36 (by decide) rfl ?_
          refine jj_goto (tgt := 20) C dX10_placeInRanking_74 (by decide) ?_
          refine jj_loc [0, 1, 3, 4, 5] rfl ?_
          exact ihL_16 pl_25 x_36 x_35 hok_26 hfr hfa hf_19 hf_20 (by first | omega | decide | exact tt_lo _ | exact tt_hi _) (by first | omega | decide | exact tt_lo _ | exact tt_hi _) (by first | omega | decide | exact tt_lo _ | exact tt_hi _) (by first | omega | decide | exact tt_lo _ | exact tt_hi _) (by first | omega | decide | exact tt_lo _ | exact tt_hi _)
        · refine jj_lload C dX10_placeInRanking_55 rfl ?_
          refine jj_lload_n C dX10_placeInRanking_57 rfl ?_
          refine jj_lcmp_ne (tgt := 71) C dX10_placeInRanking_58 dX10_placeInRanking_59 (by decide) (fun c_37 => ?_) (fun c_37 => ?_)
          · obtain ⟨x_38, ex_38, vx_38⟩ := tt_inc (x := x_17) (n := 1) (by omega) (by omega)
            refine jj_iinc (v := x_38) C dX10_placeInRanking_71 rfl ex_38 (by decide) rfl ?_
            refine jj_goto (tgt := 20) C dX10_placeInRanking_74 (by decide) ?_
            refine jj_loc [0, 2, 3, 4, 5] rfl ?_
            exact ihL_16 pl_25 x_38 x_18 hok_26 hfr hfa hf_19 hf_20 (by first | omega | decide | exact tt_lo _ | exact tt_hi _) (by first | omega | decide | exact tt_lo _ | exact tt_hi _) (by first | omega | decide | exact tt_lo _ | exact tt_hi _) (by first | omega | decide | exact tt_lo _ | exact tt_hi _) (by first | omega | decide | exact tt_lo _ | exact tt_hi _)
          · refine jj_iload C dX10_placeInRanking_62 rfl ?_
            refine jj_iload_n C dX10_placeInRanking_64 rfl ?_
            refine jj_icmp_ge (tgt := 71) C dX10_placeInRanking_65 (by decide) (fun c_39 => ?_) (fun c_39 => ?_)
            · have z_c_39 := jc_le (a := (p1).toInt) (b := (x_17).toInt) c_39 rfl rfl
              obtain ⟨x_40, ex_40, vx_40⟩ := tt_inc (x := x_17) (n := 1) (by omega) (by omega)
              refine jj_iinc (v := x_40) C dX10_placeInRanking_71 rfl ex_40 (by decide) rfl ?_
              refine jj_goto (tgt := 20) C dX10_placeInRanking_74 (by decide) ?_
              refine jj_loc [0, 2, 3, 4, 5] rfl ?_
              exact ihL_16 pl_25 x_40 x_18 hok_26 hfr hfa hf_19 hf_20 (by first | omega | decide | exact tt_lo _ | exact tt_hi _) (by first | omega | decide | exact tt_lo _ | exact tt_hi _) (by first | omega | decide | exact tt_lo _ | exact tt_hi _) (by first | omega | decide | exact tt_lo _ | exact tt_hi _) (by first | omega | decide | exact tt_lo _ | exact tt_hi _)
            · have z_c_39 := jc_nle (a := (p1).toInt) (b := (x_17).toInt) c_39 rfl rfl
              obtain ⟨x_41, ex_41⟩ : ∃ z : Int32, x_18 + Int32.ofInt 1 = z := ⟨_, rfl⟩
              refine jj_iinc (v := x_41) C dX10_placeInRanking_68 rfl ex_41 (by decide) rfl ?_
              obtain ⟨x_42, ex_42, vx_42⟩ := tt_inc (x := x_17) (n := 1) (by omega) (by omega)
              refine jj_iinc (v := x_42) C dX10_placeInRanking_71 rfl ex_42 (by decide) rfl ?_
              refine jj_goto (tgt := 20) C dX10_placeInRanking_74 (by decide) ?_
              refine jj_loc [0, 1, 3, 4, 5] rfl ?_
              exact ihL_16 pl_25 x_42 x_41 hok_26 hfr hfa hf_19 hf_20 (by first | omega | decide | exact tt_lo _ | exact tt_hi _) (by first | omega | decide | exact tt_lo _ | exact tt_hi _) (by first | omega | decide | exact tt_lo _ | exact tt_hi _) (by first | omega | decide | exact tt_lo _ | exact tt_hi _) (by first | omega | decide | exact tt_lo _ | exact tt_hi _)
  exact hL_16 _ pl_7 (0 : Int32) (0 : Int32) trivial hok_8 hfr hfa hf_2 hf_5 (by first | omega | decide | exact tt_lo _ | exact tt_hi _) (by first | omega | decide | exact tt_lo _ | exact tt_hi _) (by first | omega | decide | exact tt_lo _ | exact tt_hi _) (by first | omega | decide | exact tt_lo _ | exact tt_hi _) (Int.self_le_toNat _)

set_option maxHeartbeats 4000000 in
set_option maxRecDepth 100000 in
theorem tc_X10_placeInRanking_8 {l : Launch} (hl : l.stackTraces = false) (D : va_G) (cA : Nat → ClassId) (ak : (Nat → Nat) × (Nat → Nat)) {Kd : Nat → Nat} (h0 : Nat) (p1 : Int32) (hk0 : Kd h0 = 15) (lp1 : (0 : Int) ≤ p1.toInt) (up1 : p1.toInt ≤ 12) {pl0 : va_W} (hok : tt_ok tt_tk cA Kd pl0) : jj_M l D cA ak yX10_placeInRanking (.code yX10_placeInRanking cX10_placeInRanking 8 (some .int)) 4 111 0 0 ([] ++ pl0) [.ref h0, .int p1] (tt_O (fun rx pl1 r => rx = [] ∧ tt_ok tt_tk cA Kd pl1 ∧ tt_fr Kd [(2, 0), (2, 1), (2, 2), (2, 3), (2, 4), (9, 1), (9, 2), (9, 3), (9, 4), (9, 5)] pl0 pl1 ∧ tt_fa Kd [] pl0 pl1 ∧ ((∃ v : Int32, (-2147483648 : Int) ≤ v.toInt ∧ v.toInt ≤ 2147483647 ∧ r = some (.int v))))) (tt_OX (fun _ _ _ => False)) := by
  refine jj_start hl (by decide) jw_1d9aa5a1ce (jj_le rfl) ?_
  intro p e s m args below meth c A hargs hA C hex hmn
  have hfr := tt_fr.refl (K := Kd) (WS := [(2, 0), (2, 1), (2, 2), (2, 3), (2, 4), (9, 1), (9, 2), (9, 3), (9, 4), (9, 5)]) pl0
  have hfa := tt_fa.refl (K := Kd) (WA := []) pl0
  refine jj_aload_n C dX10_placeInRanking_0 rfl ?_
  refine tt_get C hok jk_11 5 (by decide) jw_34b8702fe2 (t := (2, 9, 0)) hk0 (by decide) rfl rfl dX10_placeInRanking_1 (fun v_1 hv_1 hf_2 => ?_)
  obtain ⟨a_3, rfl, ka_3⟩ := tt_vr hv_1
  refine jj_aload_n C dX10_placeInRanking_4 rfl ?_
  refine tt_get C hok jk_11 3 (by decide) jw_f82a97e333 (t := (2, 1, 0)) hk0 (by decide) rfl rfl dX10_placeInRanking_5 (fun v_4 hv_4 hf_5 => ?_)
  obtain ⟨a_6, rfl, ka_6⟩ := tt_vr hv_4
  refine jj_iload_n C dX10_placeInRanking_8 rfl ?_
  refine jj_iconst (v := 0) C dX10_placeInRanking_9 (by decide) ?_
  obtain ⟨qc, gs, hqc⟩ := tt_recv (cx := []) hok ka_3 (by decide) rfl
  refine tt_callV (rest := []) C (tc_X1_payAfterRate_9 hl D cA ak a_3 a_6 p1 ka_3 ka_6 (by omega) (by omega) hok) [] [] rfl rfl (by decide) (by decide) (by decide) qc hqc rfl rfl jw_40c49444b1 jw_86c6c6dedf jw_610440679d jw_944cf9c3ab jw_8658218399 jn_X1_payAfterRate rfl (jj_le rfl) (jj_le rfl) (jj_le rfl) (jj_le rfl) (jj_le rfl) dX10_placeInRanking_10 rfl (fun _ _ _ hX => hX.elim) (fun rx pl_7 r O_10 => ?_)
  obtain ⟨rfl, hok_8, hr_9, hfa9, hR_12⟩ := O_10
  replace hf_2 := hr_9.at hk0 (by decide) (by decide) hf_2
  replace hf_5 := hr_9.at hk0 (by decide) (by decide) hf_5
  replace hfr := hfr.trans (hr_9.sub (by decide))
  replace hfa := hfa.trans (hfa9.sub (by decide))
  obtain ⟨y_15, rfl⟩ := hR_12
  refine jj_lstore_n C dX10_placeInRanking_13 (by decide) rfl ?_
  refine jj_iconst (v := 0) C dX10_placeInRanking_14 (by decide) ?_
  refine jj_istore C dX10_placeInRanking_15 (by decide) rfl ?_
  refine jj_iconst (v := 0) C dX10_placeInRanking_17 (by decide) ?_
  refine jj_istore C dX10_placeInRanking_18 (by decide) rfl ?_
  have hL_16 : ∀ (N : Nat) (pl : va_W) (x_17 : Int32) (x_18 : Int32), True → tt_ok tt_tk cA Kd pl → tt_fr Kd [(2, 0), (2, 1), (2, 2), (2, 3), (2, 4), (9, 1), (9, 2), (9, 3), (9, 4), (9, 5)] pl0 pl → tt_fa Kd [] pl0 pl → tt_at pl h0 5 (.ref a_3) → tt_at pl h0 3 (.ref a_6) → (0 : Int) ≤ x_17.toInt → x_17.toInt ≤ 2147483647 → (-2147483648 : Int) ≤ x_18.toInt → x_18.toInt ≤ 2147483647 → (2147483648 - x_17.toInt ≤ (N : Int)) → jj_J p l e (jj_rm 4 111 0 0) s m args below meth c 8 A (vx_MQ below (jj_q D A (tt_O (fun rx pl1 r => rx = [] ∧ tt_ok tt_tk cA Kd pl1 ∧ tt_fr Kd [(2, 0), (2, 1), (2, 2), (2, 3), (2, 4), (9, 1), (9, 2), (9, 3), (9, 4), (9, 5)] pl0 pl1 ∧ tt_fa Kd [] pl0 pl1 ∧ ((∃ v : Int32, (-2147483648 : Int) ≤ v.toInt ∧ v.toInt ≤ 2147483647 ∧ r = some (.int v)))))) (jj_x D A (tt_OX (fun _ _ _ => False))) args s 0 0 A) (jj_X D A ([] ++ pl)) 0 0 20 [(5, .int x_17), (4, .int x_18), (2, .long y_15), (0, .ref h0), (1, .int p1)] [] := by
    intro NL_16
    induction NL_16 with
    | zero => intro pl x_17 x_18 _ hok hfr hfa hf_19 hf_20 lx_17 ux_17 lx_18 ux_18 hNL_16; exfalso; omega
    | succ NL_16 ihL_16 =>
      intro pl x_17 x_18 _ hok hfr hfa hf_19 hf_20 lx_17 ux_17 lx_18 ux_18 hNL_16
      replace ihL_16 := fun pl x_17 x_18 h1 => ihL_16 pl x_17 x_18 trivial h1
      refine jj_iload C dX10_placeInRanking_20 rfl ?_
      refine jj_aload_n C dX10_placeInRanking_22 rfl ?_
      refine tt_getF C hok jk_11 3 (by decide) jw_f82a97e333 (t := (2, 1, 0)) hk0 (by decide) rfl rfl hf_20 dX10_placeInRanking_23 ?_
      refine tt_get C hok jk_2 0 (by decide) jw_ea0f6256bc (t := (0, (-2147483648), 2147483647)) ka_6 (by decide) rfl rfl dX10_placeInRanking_26 (fun v_21 hv_21 hf_22 => ?_)
      obtain ⟨x_23, rfl, lx_23, ux_23⟩ := tt_vi hv_21
      refine jj_icmp_ge (tgt := 77) C dX10_placeInRanking_29 (by decide) (fun c_24 => ?_) (fun c_24 => ?_)
      · have z_c_24 := jc_le (a := (x_23).toInt) (b := (x_17).toInt) c_24 rfl rfl
        refine jj_iload C dX10_placeInRanking_77 rfl ?_
        exact jj_iret C ⟨[], pl, rfl, rfl, hok, hfr, hfa, ⟨x_18, (by first | omega | exact tt_lo _ | exact tt_hi _), (by first | omega | exact tt_lo _ | exact tt_hi _), rfl⟩⟩ dX10_placeInRanking_79 (jj_le rfl) (jj_le rfl)
      · have z_c_24 := jc_nle (a := (x_23).toInt) (b := (x_17).toInt) c_24 rfl rfl
        refine jj_aload_n C dX10_placeInRanking_32 rfl ?_
        refine tt_getF C hok jk_11 5 (by decide) jw_34b8702fe2 (t := (2, 9, 0)) hk0 (by decide) rfl rfl hf_19 dX10_placeInRanking_33 ?_
        refine jj_aload_n C dX10_placeInRanking_36 rfl ?_
        refine tt_getF C hok jk_11 3 (by decide) jw_f82a97e333 (t := (2, 1, 0)) hk0 (by decide) rfl rfl hf_20 dX10_placeInRanking_37 ?_
        refine jj_iload C dX10_placeInRanking_40 rfl ?_
        refine jj_iconst (v := 0) C dX10_placeInRanking_42 (by decide) ?_
        obtain ⟨qc, gs, hqc⟩ := tt_recv (cx := []) hok ka_3 (by decide) rfl
        refine tt_callV (rest := []) C (tc_X1_payAfterRate_15 hl D cA ak a_3 a_6 x_17 ka_3 ka_6 hok) [] [] rfl rfl (by decide) (by decide) (by decide) qc hqc rfl rfl jw_40c49444b1 jw_86c6c6dedf jw_610440679d jw_944cf9c3ab jw_8658218399 jn_X1_payAfterRate rfl (jj_le rfl) (jj_le rfl) (jj_le rfl) (jj_le rfl) (jj_le rfl) dX10_placeInRanking_43 rfl (fun _ _ _ hX => hX.elim) (fun rx pl_25 r O_28 => ?_)
        obtain ⟨rfl, hok_26, hr_27, hfa9, hR_30⟩ := O_28
        replace hf_19 := hr_27.at hk0 (by decide) (by decide) hf_19
        replace hf_20 := hr_27.at hk0 (by decide) (by decide) hf_20
        replace hf_22 := hr_27.at ka_6 (by decide) (by decide) hf_22
        replace hfr := hfr.trans (hr_27.sub (by decide))
        replace hfa := hfa.trans (hfa9.sub (by decide))
        obtain ⟨y_33, rfl⟩ := hR_30
        refine jj_lstore C dX10_placeInRanking_46 (by decide) rfl ?_
        refine jj_lload C dX10_placeInRanking_48 rfl ?_
        refine jj_lload_n C dX10_placeInRanking_50 rfl ?_
        refine jj_lcmp_gt (tgt := 68) C dX10_placeInRanking_51 dX10_placeInRanking_52 (by decide) (fun c_34 => ?_) (fun c_34 => ?_)
        · obtain ⟨x_35, ex_35⟩ : ∃ z : Int32, x_18 + Int32.ofInt 1 = z := ⟨_, rfl⟩
          refine jj_iinc (v := x_35) C dX10_placeInRanking_68 rfl ex_35 (by decide) rfl ?_
          obtain ⟨x_36, ex_36, vx_36⟩ := tt_inc (x := x_17) (n := 1) (by omega) (by omega)
          refine jj_iinc (v := x_36) C dX10_placeInRanking_71 rfl ex_36 (by decide) rfl ?_
          refine jj_goto (tgt := 20) C dX10_placeInRanking_74 (by decide) ?_
          refine jj_loc [0, 1, 3, 4, 5] rfl ?_
          exact ihL_16 pl_25 x_36 x_35 hok_26 hfr hfa hf_19 hf_20 (by first | omega | decide | exact tt_lo _ | exact tt_hi _) (by first | omega | decide | exact tt_lo _ | exact tt_hi _) (by first | omega | decide | exact tt_lo _ | exact tt_hi _) (by first | omega | decide | exact tt_lo _ | exact tt_hi _) (by first | omega | decide | exact tt_lo _ | exact tt_hi _)
        · refine jj_lload C dX10_placeInRanking_55 rfl ?_
          refine jj_lload_n C dX10_placeInRanking_57 rfl ?_
          refine jj_lcmp_ne (tgt := 71) C dX10_placeInRanking_58 dX10_placeInRanking_59 (by decide) (fun c_37 => ?_) (fun c_37 => ?_)
          · obtain ⟨x_38, ex_38, vx_38⟩ := tt_inc (x := x_17) (n := 1) (by omega) (by omega)
            refine jj_iinc (v := x_38) C dX10_placeInRanking_71 rfl ex_38 (by decide) rfl ?_
            refine jj_goto (tgt := 20) C dX10_placeInRanking_74 (by decide) ?_
            refine jj_loc [0, 2, 3, 4, 5] rfl ?_
            exact ihL_16 pl_25 x_38 x_18 hok_26 hfr hfa hf_19 hf_20 (by first | omega | decide | exact tt_lo _ | exact tt_hi _) (by first | omega | decide | exact tt_lo _ | exact tt_hi _) (by first | omega | decide | exact tt_lo _ | exact tt_hi _) (by first | omega | decide | exact tt_lo _ | exact tt_hi _) (by first | omega | decide | exact tt_lo _ | exact tt_hi _)
          · refine jj_iload C dX10_placeInRanking_62 rfl ?_
            refine jj_iload_n C dX10_placeInRanking_64 rfl ?_
            refine jj_icmp_ge (tgt := 71) C dX10_placeInRanking_65 (by decide) (fun c_39 => ?_) (fun c_39 => ?_)
            · have z_c_39 := jc_le (a := (p1).toInt) (b := (x_17).toInt) c_39 rfl rfl
              obtain ⟨x_40, ex_40, vx_40⟩ := tt_inc (x := x_17) (n := 1) (by omega) (by omega)
              refine jj_iinc (v := x_40) C dX10_placeInRanking_71 rfl ex_40 (by decide) rfl ?_
              refine jj_goto (tgt := 20) C dX10_placeInRanking_74 (by decide) ?_
              refine jj_loc [0, 2, 3, 4, 5] rfl ?_
              exact ihL_16 pl_25 x_40 x_18 hok_26 hfr hfa hf_19 hf_20 (by first | omega | decide | exact tt_lo _ | exact tt_hi _) (by first | omega | decide | exact tt_lo _ | exact tt_hi _) (by first | omega | decide | exact tt_lo _ | exact tt_hi _) (by first | omega | decide | exact tt_lo _ | exact tt_hi _) (by first | omega | decide | exact tt_lo _ | exact tt_hi _)
            · have z_c_39 := jc_nle (a := (p1).toInt) (b := (x_17).toInt) c_39 rfl rfl
              obtain ⟨x_41, ex_41⟩ : ∃ z : Int32, x_18 + Int32.ofInt 1 = z := ⟨_, rfl⟩
              refine jj_iinc (v := x_41) C dX10_placeInRanking_68 rfl ex_41 (by decide) rfl ?_
              obtain ⟨x_42, ex_42, vx_42⟩ := tt_inc (x := x_17) (n := 1) (by omega) (by omega)
              refine jj_iinc (v := x_42) C dX10_placeInRanking_71 rfl ex_42 (by decide) rfl ?_
              refine jj_goto (tgt := 20) C dX10_placeInRanking_74 (by decide) ?_
              refine jj_loc [0, 1, 3, 4, 5] rfl ?_
              exact ihL_16 pl_25 x_42 x_41 hok_26 hfr hfa hf_19 hf_20 (by first | omega | decide | exact tt_lo _ | exact tt_hi _) (by first | omega | decide | exact tt_lo _ | exact tt_hi _) (by first | omega | decide | exact tt_lo _ | exact tt_hi _) (by first | omega | decide | exact tt_lo _ | exact tt_hi _) (by first | omega | decide | exact tt_lo _ | exact tt_hi _)
  exact hL_16 _ pl_7 (0 : Int32) (0 : Int32) trivial hok_8 hfr hfa hf_2 hf_5 (by first | omega | decide | exact tt_lo _ | exact tt_hi _) (by first | omega | decide | exact tt_lo _ | exact tt_hi _) (by first | omega | decide | exact tt_lo _ | exact tt_hi _) (by first | omega | decide | exact tt_lo _ | exact tt_hi _) (Int.self_le_toNat _)

set_option maxHeartbeats 4000000 in
set_option maxRecDepth 100000 in
theorem tc_X10_placeInRanking_9 {l : Launch} (hl : l.stackTraces = false) (D : va_G) (cA : Nat → ClassId) (ak : (Nat → Nat) × (Nat → Nat)) {Kd : Nat → Nat} (h0 : Nat) (p1 : Int32) (hk0 : Kd h0 = 15) (lp1 : (0 : Int) ≤ p1.toInt) (up1 : p1.toInt ≤ 20) {pl0 : va_W} (hok : tt_ok tt_tk cA Kd pl0) : jj_M l D cA ak yX10_placeInRanking (.code yX10_placeInRanking cX10_placeInRanking 8 (some .int)) 4 111 0 0 ([] ++ pl0) [.ref h0, .int p1] (tt_O (fun rx pl1 r => rx = [] ∧ tt_ok tt_tk cA Kd pl1 ∧ tt_fr Kd [(2, 0), (2, 1), (2, 2), (2, 3), (2, 4), (9, 1), (9, 2), (9, 3), (9, 4), (9, 5)] pl0 pl1 ∧ tt_fa Kd [] pl0 pl1 ∧ ((∃ v : Int32, (-2147483648 : Int) ≤ v.toInt ∧ v.toInt ≤ 2147483647 ∧ r = some (.int v))))) (tt_OX (fun _ _ _ => False)) := by
  refine jj_start hl (by decide) jw_1d9aa5a1ce (jj_le rfl) ?_
  intro p e s m args below meth c A hargs hA C hex hmn
  have hfr := tt_fr.refl (K := Kd) (WS := [(2, 0), (2, 1), (2, 2), (2, 3), (2, 4), (9, 1), (9, 2), (9, 3), (9, 4), (9, 5)]) pl0
  have hfa := tt_fa.refl (K := Kd) (WA := []) pl0
  refine jj_aload_n C dX10_placeInRanking_0 rfl ?_
  refine tt_get C hok jk_11 5 (by decide) jw_34b8702fe2 (t := (2, 9, 0)) hk0 (by decide) rfl rfl dX10_placeInRanking_1 (fun v_1 hv_1 hf_2 => ?_)
  obtain ⟨a_3, rfl, ka_3⟩ := tt_vr hv_1
  refine jj_aload_n C dX10_placeInRanking_4 rfl ?_
  refine tt_get C hok jk_11 3 (by decide) jw_f82a97e333 (t := (2, 1, 0)) hk0 (by decide) rfl rfl dX10_placeInRanking_5 (fun v_4 hv_4 hf_5 => ?_)
  obtain ⟨a_6, rfl, ka_6⟩ := tt_vr hv_4
  refine jj_iload_n C dX10_placeInRanking_8 rfl ?_
  refine jj_iconst (v := 0) C dX10_placeInRanking_9 (by decide) ?_
  obtain ⟨qc, gs, hqc⟩ := tt_recv (cx := []) hok ka_3 (by decide) rfl
  refine tt_callV (rest := []) C (tc_X1_payAfterRate_10 hl D cA ak a_3 a_6 p1 ka_3 ka_6 (by omega) (by omega) hok) [] [] rfl rfl (by decide) (by decide) (by decide) qc hqc rfl rfl jw_40c49444b1 jw_86c6c6dedf jw_610440679d jw_944cf9c3ab jw_8658218399 jn_X1_payAfterRate rfl (jj_le rfl) (jj_le rfl) (jj_le rfl) (jj_le rfl) (jj_le rfl) dX10_placeInRanking_10 rfl (fun _ _ _ hX => hX.elim) (fun rx pl_7 r O_10 => ?_)
  obtain ⟨rfl, hok_8, hr_9, hfa9, hR_12⟩ := O_10
  replace hf_2 := hr_9.at hk0 (by decide) (by decide) hf_2
  replace hf_5 := hr_9.at hk0 (by decide) (by decide) hf_5
  replace hfr := hfr.trans (hr_9.sub (by decide))
  replace hfa := hfa.trans (hfa9.sub (by decide))
  obtain ⟨y_15, rfl⟩ := hR_12
  refine jj_lstore_n C dX10_placeInRanking_13 (by decide) rfl ?_
  refine jj_iconst (v := 0) C dX10_placeInRanking_14 (by decide) ?_
  refine jj_istore C dX10_placeInRanking_15 (by decide) rfl ?_
  refine jj_iconst (v := 0) C dX10_placeInRanking_17 (by decide) ?_
  refine jj_istore C dX10_placeInRanking_18 (by decide) rfl ?_
  have hL_16 : ∀ (N : Nat) (pl : va_W) (x_17 : Int32) (x_18 : Int32), True → tt_ok tt_tk cA Kd pl → tt_fr Kd [(2, 0), (2, 1), (2, 2), (2, 3), (2, 4), (9, 1), (9, 2), (9, 3), (9, 4), (9, 5)] pl0 pl → tt_fa Kd [] pl0 pl → tt_at pl h0 5 (.ref a_3) → tt_at pl h0 3 (.ref a_6) → (0 : Int) ≤ x_17.toInt → x_17.toInt ≤ 2147483647 → (-2147483648 : Int) ≤ x_18.toInt → x_18.toInt ≤ 2147483647 → (2147483648 - x_17.toInt ≤ (N : Int)) → jj_J p l e (jj_rm 4 111 0 0) s m args below meth c 8 A (vx_MQ below (jj_q D A (tt_O (fun rx pl1 r => rx = [] ∧ tt_ok tt_tk cA Kd pl1 ∧ tt_fr Kd [(2, 0), (2, 1), (2, 2), (2, 3), (2, 4), (9, 1), (9, 2), (9, 3), (9, 4), (9, 5)] pl0 pl1 ∧ tt_fa Kd [] pl0 pl1 ∧ ((∃ v : Int32, (-2147483648 : Int) ≤ v.toInt ∧ v.toInt ≤ 2147483647 ∧ r = some (.int v)))))) (jj_x D A (tt_OX (fun _ _ _ => False))) args s 0 0 A) (jj_X D A ([] ++ pl)) 0 0 20 [(5, .int x_17), (4, .int x_18), (2, .long y_15), (0, .ref h0), (1, .int p1)] [] := by
    intro NL_16
    induction NL_16 with
    | zero => intro pl x_17 x_18 _ hok hfr hfa hf_19 hf_20 lx_17 ux_17 lx_18 ux_18 hNL_16; exfalso; omega
    | succ NL_16 ihL_16 =>
      intro pl x_17 x_18 _ hok hfr hfa hf_19 hf_20 lx_17 ux_17 lx_18 ux_18 hNL_16
      replace ihL_16 := fun pl x_17 x_18 h1 => ihL_16 pl x_17 x_18 trivial h1
      refine jj_iload C dX10_placeInRanking_20 rfl ?_
      refine jj_aload_n C dX10_placeInRanking_22 rfl ?_
      refine tt_getF C hok jk_11 3 (by decide) jw_f82a97e333 (t := (2, 1, 0)) hk0 (by decide) rfl rfl hf_20 dX10_placeInRanking_23 ?_
      refine tt_get C hok jk_2 0 (by decide) jw_ea0f6256bc (t := (0, (-2147483648), 2147483647)) ka_6 (by decide) rfl rfl dX10_placeInRanking_26 (fun v_21 hv_21 hf_22 => ?_)
      obtain ⟨x_23, rfl, lx_23, ux_23⟩ := tt_vi hv_21
      refine jj_icmp_ge (tgt := 77) C dX10_placeInRanking_29 (by decide) (fun c_24 => ?_) (fun c_24 => ?_)
      · have z_c_24 := jc_le (a := (x_23).toInt) (b := (x_17).toInt) c_24 rfl rfl
        refine jj_iload C dX10_placeInRanking_77 rfl ?_
        exact jj_iret C ⟨[], pl, rfl, rfl, hok, hfr, hfa, ⟨x_18, (by first | omega | exact tt_lo _ | exact tt_hi _), (by first | omega | exact tt_lo _ | exact tt_hi _), rfl⟩⟩ dX10_placeInRanking_79 (jj_le rfl) (jj_le rfl)
      · have z_c_24 := jc_nle (a := (x_23).toInt) (b := (x_17).toInt) c_24 rfl rfl
        refine jj_aload_n C dX10_placeInRanking_32 rfl ?_
        refine tt_getF C hok jk_11 5 (by decide) jw_34b8702fe2 (t := (2, 9, 0)) hk0 (by decide) rfl rfl hf_19 dX10_placeInRanking_33 ?_
        refine jj_aload_n C dX10_placeInRanking_36 rfl ?_
        refine tt_getF C hok jk_11 3 (by decide) jw_f82a97e333 (t := (2, 1, 0)) hk0 (by decide) rfl rfl hf_20 dX10_placeInRanking_37 ?_
        refine jj_iload C dX10_placeInRanking_40 rfl ?_
        refine jj_iconst (v := 0) C dX10_placeInRanking_42 (by decide) ?_
        obtain ⟨qc, gs, hqc⟩ := tt_recv (cx := []) hok ka_3 (by decide) rfl
        refine tt_callV (rest := []) C (tc_X1_payAfterRate_15 hl D cA ak a_3 a_6 x_17 ka_3 ka_6 hok) [] [] rfl rfl (by decide) (by decide) (by decide) qc hqc rfl rfl jw_40c49444b1 jw_86c6c6dedf jw_610440679d jw_944cf9c3ab jw_8658218399 jn_X1_payAfterRate rfl (jj_le rfl) (jj_le rfl) (jj_le rfl) (jj_le rfl) (jj_le rfl) dX10_placeInRanking_43 rfl (fun _ _ _ hX => hX.elim) (fun rx pl_25 r O_28 => ?_)
        obtain ⟨rfl, hok_26, hr_27, hfa9, hR_30⟩ := O_28
        replace hf_19 := hr_27.at hk0 (by decide) (by decide) hf_19
        replace hf_20 := hr_27.at hk0 (by decide) (by decide) hf_20
        replace hf_22 := hr_27.at ka_6 (by decide) (by decide) hf_22
        replace hfr := hfr.trans (hr_27.sub (by decide))
        replace hfa := hfa.trans (hfa9.sub (by decide))
        obtain ⟨y_33, rfl⟩ := hR_30
        refine jj_lstore C dX10_placeInRanking_46 (by decide) rfl ?_
        refine jj_lload C dX10_placeInRanking_48 rfl ?_
        refine jj_lload_n C dX10_placeInRanking_50 rfl ?_
        refine jj_lcmp_gt (tgt := 68) C dX10_placeInRanking_51 dX10_placeInRanking_52 (by decide) (fun c_34 => ?_) (fun c_34 => ?_)
        · obtain ⟨x_35, ex_35⟩ : ∃ z : Int32, x_18 + Int32.ofInt 1 = z := ⟨_, rfl⟩
          refine jj_iinc (v := x_35) C dX10_placeInRanking_68 rfl ex_35 (by decide) rfl ?_
          obtain ⟨x_36, ex_36, vx_36⟩ := tt_inc (x := x_17) (n := 1) (by omega) (by omega)
          refine jj_iinc (v := x_36) C dX10_placeInRanking_71 rfl ex_36 (by decide) rfl ?_
          refine jj_goto (tgt := 20) C dX10_placeInRanking_74 (by decide) ?_
          refine jj_loc [0, 1, 3, 4, 5] rfl ?_
          exact ihL_16 pl_25 x_36 x_35 hok_26 hfr hfa hf_19 hf_20 (by first | omega | decide | exact tt_lo _ | exact tt_hi _) (by first | omega | decide | exact tt_lo _ | exact tt_hi _) (by first | omega | decide | exact tt_lo _ | exact tt_hi _) (by first | omega | decide | exact tt_lo _ | exact tt_hi _) (by first | omega | decide | exact tt_lo _ | exact tt_hi _)
        · refine jj_lload C dX10_placeInRanking_55 rfl ?_
          refine jj_lload_n C dX10_placeInRanking_57 rfl ?_
          refine jj_lcmp_ne (tgt := 71) C dX10_placeInRanking_58 dX10_placeInRanking_59 (by decide) (fun c_37 => ?_) (fun c_37 => ?_)
          · obtain ⟨x_38, ex_38, vx_38⟩ := tt_inc (x := x_17) (n := 1) (by omega) (by omega)
            refine jj_iinc (v := x_38) C dX10_placeInRanking_71 rfl ex_38 (by decide) rfl ?_
            refine jj_goto (tgt := 20) C dX10_placeInRanking_74 (by decide) ?_
            refine jj_loc [0, 2, 3, 4, 5] rfl ?_
            exact ihL_16 pl_25 x_38 x_18 hok_26 hfr hfa hf_19 hf_20 (by first | omega | decide | exact tt_lo _ | exact tt_hi _) (by first | omega | decide | exact tt_lo _ | exact tt_hi _) (by first | omega | decide | exact tt_lo _ | exact tt_hi _) (by first | omega | decide | exact tt_lo _ | exact tt_hi _) (by first | omega | decide | exact tt_lo _ | exact tt_hi _)
          · refine jj_iload C dX10_placeInRanking_62 rfl ?_
            refine jj_iload_n C dX10_placeInRanking_64 rfl ?_
            refine jj_icmp_ge (tgt := 71) C dX10_placeInRanking_65 (by decide) (fun c_39 => ?_) (fun c_39 => ?_)
            · have z_c_39 := jc_le (a := (p1).toInt) (b := (x_17).toInt) c_39 rfl rfl
              obtain ⟨x_40, ex_40, vx_40⟩ := tt_inc (x := x_17) (n := 1) (by omega) (by omega)
              refine jj_iinc (v := x_40) C dX10_placeInRanking_71 rfl ex_40 (by decide) rfl ?_
              refine jj_goto (tgt := 20) C dX10_placeInRanking_74 (by decide) ?_
              refine jj_loc [0, 2, 3, 4, 5] rfl ?_
              exact ihL_16 pl_25 x_40 x_18 hok_26 hfr hfa hf_19 hf_20 (by first | omega | decide | exact tt_lo _ | exact tt_hi _) (by first | omega | decide | exact tt_lo _ | exact tt_hi _) (by first | omega | decide | exact tt_lo _ | exact tt_hi _) (by first | omega | decide | exact tt_lo _ | exact tt_hi _) (by first | omega | decide | exact tt_lo _ | exact tt_hi _)
            · have z_c_39 := jc_nle (a := (p1).toInt) (b := (x_17).toInt) c_39 rfl rfl
              obtain ⟨x_41, ex_41⟩ : ∃ z : Int32, x_18 + Int32.ofInt 1 = z := ⟨_, rfl⟩
              refine jj_iinc (v := x_41) C dX10_placeInRanking_68 rfl ex_41 (by decide) rfl ?_
              obtain ⟨x_42, ex_42, vx_42⟩ := tt_inc (x := x_17) (n := 1) (by omega) (by omega)
              refine jj_iinc (v := x_42) C dX10_placeInRanking_71 rfl ex_42 (by decide) rfl ?_
              refine jj_goto (tgt := 20) C dX10_placeInRanking_74 (by decide) ?_
              refine jj_loc [0, 1, 3, 4, 5] rfl ?_
              exact ihL_16 pl_25 x_42 x_41 hok_26 hfr hfa hf_19 hf_20 (by first | omega | decide | exact tt_lo _ | exact tt_hi _) (by first | omega | decide | exact tt_lo _ | exact tt_hi _) (by first | omega | decide | exact tt_lo _ | exact tt_hi _) (by first | omega | decide | exact tt_lo _ | exact tt_hi _) (by first | omega | decide | exact tt_lo _ | exact tt_hi _)
  exact hL_16 _ pl_7 (0 : Int32) (0 : Int32) trivial hok_8 hfr hfa hf_2 hf_5 (by first | omega | decide | exact tt_lo _ | exact tt_hi _) (by first | omega | decide | exact tt_lo _ | exact tt_hi _) (by first | omega | decide | exact tt_lo _ | exact tt_hi _) (by first | omega | decide | exact tt_lo _ | exact tt_hi _) (Int.self_le_toNat _)

set_option maxHeartbeats 4000000 in
set_option maxRecDepth 100000 in
theorem tc_X10_placeInRanking_10 {l : Launch} (hl : l.stackTraces = false) (D : va_G) (cA : Nat → ClassId) (ak : (Nat → Nat) × (Nat → Nat)) {Kd : Nat → Nat} (h0 : Nat) (p1 : Int32) (hk0 : Kd h0 = 15) (lp1 : (0 : Int) ≤ p1.toInt) (up1 : p1.toInt ≤ 40) {pl0 : va_W} (hok : tt_ok tt_tk cA Kd pl0) : jj_M l D cA ak yX10_placeInRanking (.code yX10_placeInRanking cX10_placeInRanking 8 (some .int)) 4 111 0 0 ([] ++ pl0) [.ref h0, .int p1] (tt_O (fun rx pl1 r => rx = [] ∧ tt_ok tt_tk cA Kd pl1 ∧ tt_fr Kd [(2, 0), (2, 1), (2, 2), (2, 3), (2, 4), (9, 1), (9, 2), (9, 3), (9, 4), (9, 5)] pl0 pl1 ∧ tt_fa Kd [] pl0 pl1 ∧ ((∃ v : Int32, (-2147483648 : Int) ≤ v.toInt ∧ v.toInt ≤ 2147483647 ∧ r = some (.int v))))) (tt_OX (fun _ _ _ => False)) := by
  refine jj_start hl (by decide) jw_1d9aa5a1ce (jj_le rfl) ?_
  intro p e s m args below meth c A hargs hA C hex hmn
  have hfr := tt_fr.refl (K := Kd) (WS := [(2, 0), (2, 1), (2, 2), (2, 3), (2, 4), (9, 1), (9, 2), (9, 3), (9, 4), (9, 5)]) pl0
  have hfa := tt_fa.refl (K := Kd) (WA := []) pl0
  refine jj_aload_n C dX10_placeInRanking_0 rfl ?_
  refine tt_get C hok jk_11 5 (by decide) jw_34b8702fe2 (t := (2, 9, 0)) hk0 (by decide) rfl rfl dX10_placeInRanking_1 (fun v_1 hv_1 hf_2 => ?_)
  obtain ⟨a_3, rfl, ka_3⟩ := tt_vr hv_1
  refine jj_aload_n C dX10_placeInRanking_4 rfl ?_
  refine tt_get C hok jk_11 3 (by decide) jw_f82a97e333 (t := (2, 1, 0)) hk0 (by decide) rfl rfl dX10_placeInRanking_5 (fun v_4 hv_4 hf_5 => ?_)
  obtain ⟨a_6, rfl, ka_6⟩ := tt_vr hv_4
  refine jj_iload_n C dX10_placeInRanking_8 rfl ?_
  refine jj_iconst (v := 0) C dX10_placeInRanking_9 (by decide) ?_
  obtain ⟨qc, gs, hqc⟩ := tt_recv (cx := []) hok ka_3 (by decide) rfl
  refine tt_callV (rest := []) C (tc_X1_payAfterRate_11 hl D cA ak a_3 a_6 p1 ka_3 ka_6 (by omega) (by omega) hok) [] [] rfl rfl (by decide) (by decide) (by decide) qc hqc rfl rfl jw_40c49444b1 jw_86c6c6dedf jw_610440679d jw_944cf9c3ab jw_8658218399 jn_X1_payAfterRate rfl (jj_le rfl) (jj_le rfl) (jj_le rfl) (jj_le rfl) (jj_le rfl) dX10_placeInRanking_10 rfl (fun _ _ _ hX => hX.elim) (fun rx pl_7 r O_10 => ?_)
  obtain ⟨rfl, hok_8, hr_9, hfa9, hR_12⟩ := O_10
  replace hf_2 := hr_9.at hk0 (by decide) (by decide) hf_2
  replace hf_5 := hr_9.at hk0 (by decide) (by decide) hf_5
  replace hfr := hfr.trans (hr_9.sub (by decide))
  replace hfa := hfa.trans (hfa9.sub (by decide))
  obtain ⟨y_15, rfl⟩ := hR_12
  refine jj_lstore_n C dX10_placeInRanking_13 (by decide) rfl ?_
  refine jj_iconst (v := 0) C dX10_placeInRanking_14 (by decide) ?_
  refine jj_istore C dX10_placeInRanking_15 (by decide) rfl ?_
  refine jj_iconst (v := 0) C dX10_placeInRanking_17 (by decide) ?_
  refine jj_istore C dX10_placeInRanking_18 (by decide) rfl ?_
  have hL_16 : ∀ (N : Nat) (pl : va_W) (x_17 : Int32) (x_18 : Int32), True → tt_ok tt_tk cA Kd pl → tt_fr Kd [(2, 0), (2, 1), (2, 2), (2, 3), (2, 4), (9, 1), (9, 2), (9, 3), (9, 4), (9, 5)] pl0 pl → tt_fa Kd [] pl0 pl → tt_at pl h0 5 (.ref a_3) → tt_at pl h0 3 (.ref a_6) → (0 : Int) ≤ x_17.toInt → x_17.toInt ≤ 2147483647 → (-2147483648 : Int) ≤ x_18.toInt → x_18.toInt ≤ 2147483647 → (2147483648 - x_17.toInt ≤ (N : Int)) → jj_J p l e (jj_rm 4 111 0 0) s m args below meth c 8 A (vx_MQ below (jj_q D A (tt_O (fun rx pl1 r => rx = [] ∧ tt_ok tt_tk cA Kd pl1 ∧ tt_fr Kd [(2, 0), (2, 1), (2, 2), (2, 3), (2, 4), (9, 1), (9, 2), (9, 3), (9, 4), (9, 5)] pl0 pl1 ∧ tt_fa Kd [] pl0 pl1 ∧ ((∃ v : Int32, (-2147483648 : Int) ≤ v.toInt ∧ v.toInt ≤ 2147483647 ∧ r = some (.int v)))))) (jj_x D A (tt_OX (fun _ _ _ => False))) args s 0 0 A) (jj_X D A ([] ++ pl)) 0 0 20 [(5, .int x_17), (4, .int x_18), (2, .long y_15), (0, .ref h0), (1, .int p1)] [] := by
    intro NL_16
    induction NL_16 with
    | zero => intro pl x_17 x_18 _ hok hfr hfa hf_19 hf_20 lx_17 ux_17 lx_18 ux_18 hNL_16; exfalso; omega
    | succ NL_16 ihL_16 =>
      intro pl x_17 x_18 _ hok hfr hfa hf_19 hf_20 lx_17 ux_17 lx_18 ux_18 hNL_16
      replace ihL_16 := fun pl x_17 x_18 h1 => ihL_16 pl x_17 x_18 trivial h1
      refine jj_iload C dX10_placeInRanking_20 rfl ?_
      refine jj_aload_n C dX10_placeInRanking_22 rfl ?_
      refine tt_getF C hok jk_11 3 (by decide) jw_f82a97e333 (t := (2, 1, 0)) hk0 (by decide) rfl rfl hf_20 dX10_placeInRanking_23 ?_
      refine tt_get C hok jk_2 0 (by decide) jw_ea0f6256bc (t := (0, (-2147483648), 2147483647)) ka_6 (by decide) rfl rfl dX10_placeInRanking_26 (fun v_21 hv_21 hf_22 => ?_)
      obtain ⟨x_23, rfl, lx_23, ux_23⟩ := tt_vi hv_21
      refine jj_icmp_ge (tgt := 77) C dX10_placeInRanking_29 (by decide) (fun c_24 => ?_) (fun c_24 => ?_)
      · have z_c_24 := jc_le (a := (x_23).toInt) (b := (x_17).toInt) c_24 rfl rfl
        refine jj_iload C dX10_placeInRanking_77 rfl ?_
        exact jj_iret C ⟨[], pl, rfl, rfl, hok, hfr, hfa, ⟨x_18, (by first | omega | exact tt_lo _ | exact tt_hi _), (by first | omega | exact tt_lo _ | exact tt_hi _), rfl⟩⟩ dX10_placeInRanking_79 (jj_le rfl) (jj_le rfl)
      · have z_c_24 := jc_nle (a := (x_23).toInt) (b := (x_17).toInt) c_24 rfl rfl
        refine jj_aload_n C dX10_placeInRanking_32 rfl ?_
        refine tt_getF C hok jk_11 5 (by decide) jw_34b8702fe2 (t := (2, 9, 0)) hk0 (by decide) rfl rfl hf_19 dX10_placeInRanking_33 ?_
        refine jj_aload_n C dX10_placeInRanking_36 rfl ?_
        refine tt_getF C hok jk_11 3 (by decide) jw_f82a97e333 (t := (2, 1, 0)) hk0 (by decide) rfl rfl hf_20 dX10_placeInRanking_37 ?_
        refine jj_iload C dX10_placeInRanking_40 rfl ?_
        refine jj_iconst (v := 0) C dX10_placeInRanking_42 (by decide) ?_
        obtain ⟨qc, gs, hqc⟩ := tt_recv (cx := []) hok ka_3 (by decide) rfl
        refine tt_callV (rest := []) C (tc_X1_payAfterRate_15 hl D cA ak a_3 a_6 x_17 ka_3 ka_6 hok) [] [] rfl rfl (by decide) (by decide) (by decide) qc hqc rfl rfl jw_40c49444b1 jw_86c6c6dedf jw_610440679d jw_944cf9c3ab jw_8658218399 jn_X1_payAfterRate rfl (jj_le rfl) (jj_le rfl) (jj_le rfl) (jj_le rfl) (jj_le rfl) dX10_placeInRanking_43 rfl (fun _ _ _ hX => hX.elim) (fun rx pl_25 r O_28 => ?_)
        obtain ⟨rfl, hok_26, hr_27, hfa9, hR_30⟩ := O_28
        replace hf_19 := hr_27.at hk0 (by decide) (by decide) hf_19
        replace hf_20 := hr_27.at hk0 (by decide) (by decide) hf_20
        replace hf_22 := hr_27.at ka_6 (by decide) (by decide) hf_22
        replace hfr := hfr.trans (hr_27.sub (by decide))
        replace hfa := hfa.trans (hfa9.sub (by decide))
        obtain ⟨y_33, rfl⟩ := hR_30
        refine jj_lstore C dX10_placeInRanking_46 (by decide) rfl ?_
        refine jj_lload C dX10_placeInRanking_48 rfl ?_
        refine jj_lload_n C dX10_placeInRanking_50 rfl ?_
        refine jj_lcmp_gt (tgt := 68) C dX10_placeInRanking_51 dX10_placeInRanking_52 (by decide) (fun c_34 => ?_) (fun c_34 => ?_)
        · obtain ⟨x_35, ex_35⟩ : ∃ z : Int32, x_18 + Int32.ofInt 1 = z := ⟨_, rfl⟩
          refine jj_iinc (v := x_35) C dX10_placeInRanking_68 rfl ex_35 (by decide) rfl ?_
          obtain ⟨x_36, ex_36, vx_36⟩ := tt_inc (x := x_17) (n := 1) (by omega) (by omega)
          refine jj_iinc (v := x_36) C dX10_placeInRanking_71 rfl ex_36 (by decide) rfl ?_
          refine jj_goto (tgt := 20) C dX10_placeInRanking_74 (by decide) ?_
          refine jj_loc [0, 1, 3, 4, 5] rfl ?_
          exact ihL_16 pl_25 x_36 x_35 hok_26 hfr hfa hf_19 hf_20 (by first | omega | decide | exact tt_lo _ | exact tt_hi _) (by first | omega | decide | exact tt_lo _ | exact tt_hi _) (by first | omega | decide | exact tt_lo _ | exact tt_hi _) (by first | omega | decide | exact tt_lo _ | exact tt_hi _) (by first | omega | decide | exact tt_lo _ | exact tt_hi _)
        · refine jj_lload C dX10_placeInRanking_55 rfl ?_
          refine jj_lload_n C dX10_placeInRanking_57 rfl ?_
          refine jj_lcmp_ne (tgt := 71) C dX10_placeInRanking_58 dX10_placeInRanking_59 (by decide) (fun c_37 => ?_) (fun c_37 => ?_)
          · obtain ⟨x_38, ex_38, vx_38⟩ := tt_inc (x := x_17) (n := 1) (by omega) (by omega)
            refine jj_iinc (v := x_38) C dX10_placeInRanking_71 rfl ex_38 (by decide) rfl ?_
            refine jj_goto (tgt := 20) C dX10_placeInRanking_74 (by decide) ?_
            refine jj_loc [0, 2, 3, 4, 5] rfl ?_
            exact ihL_16 pl_25 x_38 x_18 hok_26 hfr hfa hf_19 hf_20 (by first | omega | decide | exact tt_lo _ | exact tt_hi _) (by first | omega | decide | exact tt_lo _ | exact tt_hi _) (by first | omega | decide | exact tt_lo _ | exact tt_hi _) (by first | omega | decide | exact tt_lo _ | exact tt_hi _) (by first | omega | decide | exact tt_lo _ | exact tt_hi _)
          · refine jj_iload C dX10_placeInRanking_62 rfl ?_
            refine jj_iload_n C dX10_placeInRanking_64 rfl ?_
            refine jj_icmp_ge (tgt := 71) C dX10_placeInRanking_65 (by decide) (fun c_39 => ?_) (fun c_39 => ?_)
            · have z_c_39 := jc_le (a := (p1).toInt) (b := (x_17).toInt) c_39 rfl rfl
              obtain ⟨x_40, ex_40, vx_40⟩ := tt_inc (x := x_17) (n := 1) (by omega) (by omega)
              refine jj_iinc (v := x_40) C dX10_placeInRanking_71 rfl ex_40 (by decide) rfl ?_
              refine jj_goto (tgt := 20) C dX10_placeInRanking_74 (by decide) ?_
              refine jj_loc [0, 2, 3, 4, 5] rfl ?_
              exact ihL_16 pl_25 x_40 x_18 hok_26 hfr hfa hf_19 hf_20 (by first | omega | decide | exact tt_lo _ | exact tt_hi _) (by first | omega | decide | exact tt_lo _ | exact tt_hi _) (by first | omega | decide | exact tt_lo _ | exact tt_hi _) (by first | omega | decide | exact tt_lo _ | exact tt_hi _) (by first | omega | decide | exact tt_lo _ | exact tt_hi _)
            · have z_c_39 := jc_nle (a := (p1).toInt) (b := (x_17).toInt) c_39 rfl rfl
              obtain ⟨x_41, ex_41⟩ : ∃ z : Int32, x_18 + Int32.ofInt 1 = z := ⟨_, rfl⟩
              refine jj_iinc (v := x_41) C dX10_placeInRanking_68 rfl ex_41 (by decide) rfl ?_
              obtain ⟨x_42, ex_42, vx_42⟩ := tt_inc (x := x_17) (n := 1) (by omega) (by omega)
              refine jj_iinc (v := x_42) C dX10_placeInRanking_71 rfl ex_42 (by decide) rfl ?_
              refine jj_goto (tgt := 20) C dX10_placeInRanking_74 (by decide) ?_
              refine jj_loc [0, 1, 3, 4, 5] rfl ?_
              exact ihL_16 pl_25 x_42 x_41 hok_26 hfr hfa hf_19 hf_20 (by first | omega | decide | exact tt_lo _ | exact tt_hi _) (by first | omega | decide | exact tt_lo _ | exact tt_hi _) (by first | omega | decide | exact tt_lo _ | exact tt_hi _) (by first | omega | decide | exact tt_lo _ | exact tt_hi _) (by first | omega | decide | exact tt_lo _ | exact tt_hi _)
  exact hL_16 _ pl_7 (0 : Int32) (0 : Int32) trivial hok_8 hfr hfa hf_2 hf_5 (by first | omega | decide | exact tt_lo _ | exact tt_hi _) (by first | omega | decide | exact tt_lo _ | exact tt_hi _) (by first | omega | decide | exact tt_lo _ | exact tt_hi _) (by first | omega | decide | exact tt_lo _ | exact tt_hi _) (Int.self_le_toNat _)

