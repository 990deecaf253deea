set_option maxHeartbeats 4000000 in
set_option maxRecDepth 100000 in
theorem tc_X10_rateFor_1 {l : Launch} (hl : l.stackTraces = false) (D : va_G) (cA : Nat → ClassId) (ak : (Nat → Nat) × (Nat → Nat)) {Kd : Nat → Nat} (h0 : Nat) (p1 : Int32) (p2 : Int64) (hk0 : Kd h0 = 15) {pl0 : va_W} (hok : tt_ok tt_tk cA Kd pl0) : jj_M l D cA ak yX10_rateFor (.code yX10_rateFor cX10_rateFor 5 (some .int)) 8 140 2 12 ([] ++ pl0) [.ref h0, .int p1, .long p2] (tt_O (fun rx pl1 r => rx = [] ∧ tt_ok tt_tk cA Kd pl1 ∧ tt_fr Kd [(2, 0), (2, 1), (2, 2), (2, 3), (2, 4), (9, 1), (9, 2), (9, 3), (9, 4), (9, 5)] pl0 pl1 ∧ ((∃ v : Int32, (-2147483648 : Int) ≤ v.toInt ∧ v.toInt ≤ 9999 ∧ (0 : Int) ≤ p1.toInt ∧ p1.toInt ≤ 2147483646 ∧ r = some (.int v))))) (tt_OX (fun E rx pl1 => rx = [] ∧ tt_ok tt_tk cA Kd pl1 ∧ tt_fr Kd [(2, 0), (2, 1), (2, 2), (2, 3), (2, 4), (9, 1), (9, 2), (9, 3), (9, 4), (9, 5)] pl0 pl1 ∧ (E = "java/lang/IndexOutOfBoundsException" ∨ E = "java/util/NoSuchElementException"))) := by
  refine jj_start hl (by decide) jw_852 (jj_le rfl) ?_
  intro p e s m args below meth c A hargs hA C hex hmn
  have hfr := tt_fr.refl (K := Kd) (WS := [(2, 0), (2, 1), (2, 2), (2, 3), (2, 4), (9, 1), (9, 2), (9, 3), (9, 4), (9, 5)]) pl0
  have lp1 := tt_lo p1
  have up1 := tt_hi p1
  refine jj_aload_n C dX10_rateFor_0 rfl ?_
  refine jj_iload_n C dX10_rateFor_1 rfl ?_
  obtain ⟨qc, gs, hqc⟩ := tt_recv (cx := []) hok hk0 (by decide) rfl
  refine tt_callV (rest := []) C (tc_X10_checkInvestor_1 hl D cA ak h0 p1 hk0 hok) [] [] rfl rfl (by decide) (by decide) (by decide) qc hqc rfl rfl jw_394 jw_401 jw_402 jw_52 jw_395 jn_X10_checkInvestor rfl (jj_le rfl) (jj_le rfl) (jj_le rfl) (jj_le rfl) (jj_le rfl) dX10_rateFor_2 rfl (fun E rx pl_1 X_5 => ?_) (fun rx pl_1 r O_4 => ?_)
  · obtain ⟨rfl, hok_2, hr_3, hE_6⟩ := X_5
    replace hfr := hfr.trans (hr_3.sub (by decide))
    obtain rfl := hE_6
    exact jj_out C hex ⟨[], pl_1, rfl, rfl, hok_2, hfr, (Or.inl rfl)⟩ (jj_le rfl) (jj_le rfl)
  · obtain ⟨rfl, hok_2, hr_3, hR_7⟩ := O_4
    replace hfr := hfr.trans (hr_3.sub (by decide))
    obtain ⟨l_8, u_9, rfl⟩ := hR_7
    refine jj_aload_n C dX10_rateFor_5 rfl ?_
    refine jj_iload_n C dX10_rateFor_6 rfl ?_
    refine jj_lload_n C dX10_rateFor_7 rfl ?_
    obtain ⟨qc, gs, hqc⟩ := tt_recv (cx := []) hok_2 hk0 (by decide) rfl
    refine tt_callV (rest := []) C (tc_X10_firstRateInReach_1 hl D cA ak h0 p1 p2 hk0 hok_2) [] [] rfl rfl (by decide) (by decide) (by decide) qc hqc rfl rfl jw_421 jw_443 jw_444 jw_52 jw_422 jn_X10_firstRateInReach rfl (jj_le rfl) (jj_le rfl) (jj_le rfl) (jj_le rfl) (jj_le rfl) dX10_rateFor_8 rfl (fun _ _ _ hX => hX.elim) (fun rx pl_10 r O_13 => ?_)
    obtain ⟨rfl, hok_11, hr_12, hR_15⟩ := O_13
    replace hfr := hfr.trans (hr_12.sub (by decide))
    obtain ⟨x_16, lx_16, ux_16, rfl⟩ := hR_15
    refine jj_istore C dX10_rateFor_11 (by decide) rfl ?_
    have hL_17 : ∀ (N : Nat) (pl : va_W) (x_18 : Int32), True → tt_ok tt_tk cA Kd pl → tt_fr Kd [(2, 0), (2, 1), (2, 2), (2, 3), (2, 4), (9, 1), (9, 2), (9, 3), (9, 4), (9, 5)] pl0 pl → (-2147483648 : Int) ≤ x_18.toInt → x_18.toInt ≤ 2147483647 → (2147483648 - x_18.toInt ≤ (N : Int)) → jj_J p l e (jj_rm 8 140 2 12) s m args below meth c 5 A (vx_MQ below (jj_q D A (tt_O (fun rx pl1 r => rx = [] ∧ tt_ok tt_tk cA Kd pl1 ∧ tt_fr Kd [(2, 0), (2, 1), (2, 2), (2, 3), (2, 4), (9, 1), (9, 2), (9, 3), (9, 4), (9, 5)] pl0 pl1 ∧ ((∃ v : Int32, (-2147483648 : Int) ≤ v.toInt ∧ v.toInt ≤ 9999 ∧ (0 : Int) ≤ p1.toInt ∧ p1.toInt ≤ 2147483646 ∧ r = some (.int v)))))) (jj_x D A (tt_OX (fun E rx pl1 => rx = [] ∧ tt_ok tt_tk cA Kd pl1 ∧ tt_fr Kd [(2, 0), (2, 1), (2, 2), (2, 3), (2, 4), (9, 1), (9, 2), (9, 3), (9, 4), (9, 5)] pl0 pl1 ∧ (E = "java/lang/IndexOutOfBoundsException" ∨ E = "java/util/NoSuchElementException")))) args s 2 12 A) (jj_X D A ([] ++ pl)) 1 6 13 [(4, .int x_18), (0, .ref h0), (1, .int p1), (2, .long p2)] [] := by
      intro NL_17
      induction NL_17 with
      | zero => intro pl x_18 _ hok hfr lx_18 ux_18 hNL_17; exfalso; omega
      | succ NL_17 ihL_17 =>
        intro pl x_18 _ hok hfr lx_18 ux_18 hNL_17
        replace ihL_17 := fun pl x_18 h1 => ihL_17 pl x_18 trivial h1
        refine jj_iload C dX10_rateFor_13 rfl ?_
        refine jj_sipush (v := 9999) C dX10_rateFor_15 (by decide) ?_
        refine jj_icmp_gt (tgt := 49) C dX10_rateFor_18 (by decide) (fun c_19 => ?_) (fun c_19 => ?_)
        · have z_c_19 := jc_lt (a := (9999)) (b := (x_18).toInt) c_19 (by decide) rfl
          exact jj_throwWX (k := 50) (text := "no rate reaches the value") C jt_RX10_373 jw_305 (by decide +kernel) dX10_rateFor_49 dX10_rateFor_52 dX10_rateFor_53 dX10_rateFor_56 dX10_rateFor_59 hex (jj_le rfl) (jj_le rfl) (jj_le rfl) (jj_le rfl) ⟨[], pl, rfl, rfl, hok, hfr, (Or.inr rfl)⟩ (jj_le rfl) (jj_le rfl)
        · have z_c_19 := jc_nlt (a := (9999)) (b := (x_18).toInt) c_19 (by decide) rfl
          refine jj_aload_n C dX10_rateFor_21 rfl ?_
          refine tt_get C hok jk_11 5 (by decide) jw_71 (t := (2, 9, 0)) hk0 (by decide) rfl rfl dX10_rateFor_22 (fun v_20 hv_20 hf_21 => ?_)
          obtain ⟨a_22, rfl, ka_22⟩ := tt_vr hv_20
          refine jj_aload_n C dX10_rateFor_25 rfl ?_
          refine tt_get C hok jk_11 3 (by decide) jw_2 (t := (2, 1, 0)) hk0 (by decide) rfl rfl dX10_rateFor_26 (fun v_23 hv_23 hf_24 => ?_)
          obtain ⟨a_25, rfl, ka_25⟩ := tt_vr hv_23
          refine jj_iload_n C dX10_rateFor_29 rfl ?_
          refine jj_iload C dX10_rateFor_30 rfl ?_
          obtain ⟨qc, gs, hqc⟩ := tt_recv (cx := []) hok ka_22 (by decide) rfl
          refine tt_callV (rest := []) C (tc_X1_payAfterRate_1 hl D cA ak a_22 a_25 p1 x_18 ka_22 ka_25 hok) [] [] rfl rfl (by decide) (by decide) (by decide) qc hqc rfl rfl jw_437 jw_440 jw_441 jw_74 jw_438 jn_X1_payAfterRate rfl (jj_le rfl) (jj_le rfl) (jj_le rfl) (jj_le rfl) (jj_le rfl) dX10_rateFor_32 rfl (fun _ _ _ hX => hX.elim) (fun rx pl_26 r O_29 => ?_)
          obtain ⟨rfl, hok_27, hr_28, hR_31⟩ := O_29
          replace hf_21 := hr_28.at hk0 (by decide) (by decide) hf_21
          replace hf_24 := hr_28.at hk0 (by decide) (by decide) hf_24
          replace hfr := hfr.trans (hr_28.sub (by decide))
          obtain ⟨y_32, rfl⟩ := hR_31
          refine jj_lload_n C dX10_rateFor_35 rfl ?_
          refine jj_lcmp_lt (tgt := 43) C dX10_rateFor_36 dX10_rateFor_37 (by decide) (fun c_33 => ?_) (fun c_33 => ?_)
          · obtain ⟨x_34, ex_34, vx_34⟩ := tt_inc (x := x_18) (n := 1) (by omega) (by omega)
            refine jj_iinc (v := x_34) C dX10_rateFor_43 rfl ex_34 (by decide) rfl ?_
            refine jj_goto (tgt := 13) C dX10_rateFor_46 (by decide) ?_
            exact ihL_17 pl_26 x_34 hok_27 hfr (by first | omega | decide | exact tt_lo _ | exact tt_hi _) (by first | omega | decide | exact tt_lo _ | exact tt_hi _) (by first | omega | decide | exact tt_lo _ | exact tt_hi _)
          · refine jj_iload C dX10_rateFor_40 rfl ?_
            exact jj_iret C ⟨[], pl_26, rfl, rfl, hok_27, hfr, ⟨x_18, (by first | omega | exact tt_lo _ | exact tt_hi _), (by first | omega | exact tt_lo _ | exact tt_hi _), (by first | omega | exact tt_lo _ | exact tt_hi _), (by first | omega | exact tt_lo _ | exact tt_hi _), rfl⟩⟩ dX10_rateFor_42 (jj_le rfl) (jj_le rfl)
    exact hL_17 _ pl_10 x_16 trivial hok_11 hfr (by first | omega | decide | exact tt_lo _ | exact tt_hi _) (by first | omega | decide | exact tt_lo _ | exact tt_hi _) (Int.self_le_toNat _)

set_option maxHeartbeats 4000000 in
set_option maxRecDepth 100000 in
theorem tc_X0_unitsWaitingOf_1 {l : Launch} (hl : l.stackTraces = false) (D : va_G) (cA : Nat → ClassId) (ak : (Nat → Nat) × (Nat → Nat)) {Kd : Nat → Nat} (h0 : Nat) (p1 : Int32) (hk0 : Kd h0 = 1) {pl0 : va_W} (hok : tt_ok tt_tk cA Kd pl0) : jj_M l D cA ak yX0_unitsWaitingOf (.code yX0_unitsWaitingOf cX0_unitsWaitingOf 5 (some .long)) 0 0 0 0 ([] ++ pl0) [.ref h0, .int p1] (tt_O (fun rx pl1 r => rx = [] ∧ tt_ok tt_tk cA Kd pl1 ∧ tt_fr Kd [] pl0 pl1 ∧ ((∃ v : Int64, r = some (.long v))))) (tt_OX (fun _ _ _ => False)) := by
  refine jj_start hl (by decide) jw_451 (jj_le rfl) ?_
  intro p e s m args below meth c A hargs hA C hex hmn
  have hfr := tt_fr.refl (K := Kd) (WS := []) pl0
  have lp1 := tt_lo p1
  have up1 := tt_hi p1
  refine jj_lconst (v := 0) C dX0_unitsWaitingOf_0 (by decide) ?_
  refine jj_lstore_n C dX0_unitsWaitingOf_1 (by decide) rfl ?_
  refine jj_iconst (v := 0) C dX0_unitsWaitingOf_2 (by decide) ?_
  refine jj_istore C dX0_unitsWaitingOf_3 (by decide) rfl ?_
  have hL_1 : ∀ (N : Nat) (pl : va_W) (x_2 : Int32) (y_3 : Int64), True → tt_ok tt_tk cA Kd pl → tt_fr Kd [] pl0 pl → (0 : Int) ≤ x_2.toInt → x_2.toInt ≤ 12 → (2147483648 - x_2.toInt ≤ (N : Int)) → jj_J p l e (jj_rm 0 0 0 0) s m args below meth c 5 A (vx_MQ below (jj_q D A (tt_O (fun rx pl1 r => rx = [] ∧ tt_ok tt_tk cA Kd pl1 ∧ tt_fr Kd [] pl0 pl1 ∧ ((∃ v : Int64, r = some (.long v)))))) (jj_x D A (tt_OX (fun _ _ _ => False))) args s 0 0 A) (jj_X D A ([] ++ pl)) 0 0 5 [(4, .int x_2), (2, .long y_3), (0, .ref h0), (1, .int p1)] [] := by
    intro NL_1
    induction NL_1 with
    | zero => intro pl x_2 y_3 _ hok hfr lx_2 ux_2 hNL_1; exfalso; omega
    | succ NL_1 ihL_1 =>
      intro pl x_2 y_3 _ hok hfr lx_2 ux_2 hNL_1
      replace ihL_1 := fun pl x_2 y_3 h1 => ihL_1 pl x_2 y_3 trivial h1
      refine jj_iload C dX0_unitsWaitingOf_5 rfl ?_
      refine jj_aload_n C dX0_unitsWaitingOf_7 rfl ?_
      refine tt_get C hok jk_2 9 (by decide) jw_200 (t := (0, 0, 12)) hk0 (by decide) rfl rfl dX0_unitsWaitingOf_8 (fun v_4 hv_4 hf_5 => ?_)
      obtain ⟨x_6, rfl, lx_6, ux_6⟩ := tt_vi hv_4
      refine jj_icmp_ge (tgt := 60) C dX0_unitsWaitingOf_11 (by decide) (fun c_7 => ?_) (fun c_7 => ?_)
      · have z_c_7 := jc_le (a := (x_6).toInt) (b := (x_2).toInt) c_7 rfl rfl
        refine jj_lload_n C dX0_unitsWaitingOf_60 rfl ?_
        exact jj_lret C ⟨[], pl, rfl, rfl, hok, hfr, ⟨y_3, rfl⟩⟩ dX0_unitsWaitingOf_61 (jj_le rfl) (jj_le rfl)
      · have z_c_7 := jc_nle (a := (x_6).toInt) (b := (x_2).toInt) c_7 rfl rfl
        refine jj_aload_n C dX0_unitsWaitingOf_14 rfl ?_
        refine tt_get C hok jk_2 13 (by decide) jw_202 (t := (2, 8, 0)) hk0 (by decide) rfl rfl dX0_unitsWaitingOf_15 (fun v_8 hv_8 hf_9 => ?_)
        obtain ⟨a_10, rfl, ka_10⟩ := tt_vr hv_8
        refine jj_iload C dX0_unitsWaitingOf_18 rfl ?_
        refine tt_aald C hok (t := (2, 4, 0)) ka_10 (by decide) rfl rfl rfl (vp_in_iff.mpr ⟨by omega, by omega⟩) dX0_unitsWaitingOf_20 (fun v_11 hv_11 => ?_)
        obtain ⟨a_12, rfl, ka_12⟩ := tt_vr hv_11
        refine tt_get C hok jk_7 2 (by decide) jw_452 (t := (0, 0, 1)) ka_12 (by decide) rfl rfl dX0_unitsWaitingOf_21 (fun v_13 hv_13 hf_14 => ?_)
        obtain ⟨x_15, rfl, lx_15, ux_15⟩ := tt_vi hv_13
        refine jj_if_eq (tgt := 54) C dX0_unitsWaitingOf_24 (by decide) (fun c_16 => ?_) (fun c_16 => ?_)
        · have z_c_16 := jc_eq (a := (x_15).toInt) (b := (0)) c_16 rfl (by decide)
          obtain ⟨x_17, ex_17, vx_17⟩ := tt_inc (x := x_2) (n := 1) (by omega) (by omega)
          refine jj_iinc (v := x_17) C dX0_unitsWaitingOf_54 rfl ex_17 (by decide) rfl ?_
          refine jj_goto (tgt := 5) C dX0_unitsWaitingOf_57 (by decide) ?_
          exact ihL_1 pl x_17 y_3 hok hfr (by first | omega | decide | exact tt_lo _ | exact tt_hi _) (by first | omega | decide | exact tt_lo _ | exact tt_hi _) (by first | omega | decide | exact tt_lo _ | exact tt_hi _)
        · have z_c_16 := jc_neq (a := (x_15).toInt) (b := (0)) c_16 rfl (by decide)
          refine jj_aload_n C dX0_unitsWaitingOf_27 rfl ?_
          refine tt_getF C hok jk_2 13 (by decide) jw_202 (t := (2, 8, 0)) hk0 (by decide) rfl rfl hf_9 dX0_unitsWaitingOf_28 ?_
          refine jj_iload C dX0_unitsWaitingOf_31 rfl ?_
          refine tt_aald C hok (t := (2, 4, 0)) ka_10 (by decide) rfl rfl rfl (vp_in_iff.mpr ⟨by omega, by omega⟩) dX0_unitsWaitingOf_33 (fun v_18 hv_18 => ?_)
          obtain ⟨a_19, rfl, ka_19⟩ := tt_vr hv_18
          refine tt_get C hok jk_7 0 (by decide) jw_453 (t := (0, (-2147483648), 2147483647)) ka_19 (by decide) rfl rfl dX0_unitsWaitingOf_34 (fun v_20 hv_20 hf_21 => ?_)
          obtain ⟨x_22, rfl, lx_22, ux_22⟩ := tt_vi hv_20
          refine jj_iload_n C dX0_unitsWaitingOf_37 rfl ?_
          refine jj_icmp_ne (tgt := 54) C dX0_unitsWaitingOf_38 (by decide) (fun c_23 => ?_) (fun c_23 => ?_)
          · have z_c_23 := jc_neq (a := (x_22).toInt) (b := (p1).toInt) c_23 rfl rfl
            obtain ⟨x_24, ex_24, vx_24⟩ := tt_inc (x := x_2) (n := 1) (by omega) (by omega)
            refine jj_iinc (v := x_24) C dX0_unitsWaitingOf_54 rfl ex_24 (by decide) rfl ?_
            refine jj_goto (tgt := 5) C dX0_unitsWaitingOf_57 (by decide) ?_
            exact ihL_1 pl x_24 y_3 hok hfr (by first | omega | decide | exact tt_lo _ | exact tt_hi _) (by first | omega | decide | exact tt_lo _ | exact tt_hi _) (by first | omega | decide | exact tt_lo _ | exact tt_hi _)
          · have z_c_23 := jc_eq (a := (x_22).toInt) (b := (p1).toInt) c_23 rfl rfl
            refine jj_lload_n C dX0_unitsWaitingOf_41 rfl ?_
            refine jj_aload_n C dX0_unitsWaitingOf_42 rfl ?_
            refine tt_getF C hok jk_2 13 (by decide) jw_202 (t := (2, 8, 0)) hk0 (by decide) rfl rfl hf_9 dX0_unitsWaitingOf_43 ?_
            refine jj_iload C dX0_unitsWaitingOf_46 rfl ?_
            refine tt_aald C hok (t := (2, 4, 0)) ka_10 (by decide) rfl rfl rfl (vp_in_iff.mpr ⟨by omega, by omega⟩) dX0_unitsWaitingOf_48 (fun v_25 hv_25 => ?_)
            obtain ⟨a_26, rfl, ka_26⟩ := tt_vr hv_25
            refine tt_get C hok jk_7 3 (by decide) jw_282 (t := (1, (-9223372036854775808), 9223372036854775807)) ka_26 (by decide) rfl rfl dX0_unitsWaitingOf_49 (fun v_27 hv_27 hf_28 => ?_)
            obtain ⟨y_29, rfl, -, -⟩ := tt_vj hv_27
            obtain ⟨y_30, ey_30⟩ : ∃ z : Int64, y_3 + y_29 = z := ⟨_, rfl⟩
            refine jj_ladd (v := y_30) C dX0_unitsWaitingOf_52 ey_30 ?_
            refine jj_lstore_n C dX0_unitsWaitingOf_53 (by decide) rfl ?_
            obtain ⟨x_31, ex_31, vx_31⟩ := tt_inc (x := x_2) (n := 1) (by omega) (by omega)
            refine jj_iinc (v := x_31) C dX0_unitsWaitingOf_54 rfl ex_31 (by decide) rfl ?_
            refine jj_goto (tgt := 5) C dX0_unitsWaitingOf_57 (by decide) ?_
            exact ihL_1 pl x_31 y_30 hok hfr (by first | omega | decide | exact tt_lo _ | exact tt_hi _) (by first | omega | decide | exact tt_lo _ | exact tt_hi _) (by first | omega | decide | exact tt_lo _ | exact tt_hi _)
  exact hL_1 _ pl0 (0 : Int32) (0 : Int64) trivial hok hfr (by first | omega | decide | exact tt_lo _ | exact tt_hi _) (by first | omega | decide | exact tt_lo _ | exact tt_hi _) (Int.self_le_toNat _)

set_option maxHeartbeats 4000000 in
set_option maxRecDepth 100000 in
theorem tc_X0_redemptionFault_1 {l : Launch} (hl : l.stackTraces = false) (D : va_G) (cA : Nat → ClassId) (ak : (Nat → Nat) × (Nat → Nat)) {Kd : Nat → Nat} (h0 : Nat) (p1 : Int32) (p2 : Int32) (hk0 : Kd h0 = 1) {pl0 : va_W} (hok : tt_ok tt_tk cA Kd pl0) : jj_M l D cA ak yX0_redemptionFault (.code yX0_redemptionFault cX0_redemptionFault 3 (some .int)) 1 24 0 0 ([] ++ pl0) [.ref h0, .int p1, .int p2] (tt_O (fun rx pl1 r => rx = [] ∧ tt_ok tt_tk cA Kd pl1 ∧ tt_fr Kd [] pl0 pl1 ∧ ((r = some (.int 1)) ∨ ((0 : Int) ≤ p1.toInt ∧ p1.toInt ≤ 2147483646 ∧ r = some (.int 2)) ∨ ((0 : Int) ≤ p1.toInt ∧ p1.toInt ≤ 2147483646 ∧ (1 : Int) ≤ p2.toInt ∧ p2.toInt ≤ 99999999 ∧ r = some (.int 0)) ∨ ((0 : Int) ≤ p1.toInt ∧ p1.toInt ≤ 2147483646 ∧ (1 : Int) ≤ p2.toInt ∧ p2.toInt ≤ 99999999 ∧ r = some (.int 3))))) (tt_OX (fun _ _ _ => False)) := by
  refine jj_start hl (by decide) jw_447 (jj_le rfl) ?_
  intro p e s m args below meth c A hargs hA C hex hmn
  have hfr := tt_fr.refl (K := Kd) (WS := []) pl0
  have lp1 := tt_lo p1
  have up1 := tt_hi p1
  have lp2 := tt_lo p2
  have up2 := tt_hi p2
  refine jj_aload_n C dX0_redemptionFault_0 rfl ?_
  refine jj_iload_n C dX0_redemptionFault_1 rfl ?_
  obtain ⟨qc, gs, hqc⟩ := tt_recv (cx := []) hok hk0 (by decide) rfl
  refine tt_callV (rest := []) C (tc_X0_hasInvestor_1 hl D cA ak h0 p1 hk0 hok) [] [] rfl rfl (by decide) (by decide) (by decide) qc hqc rfl rfl jw_448 jw_398 jw_399 jw_133 jw_397 jn_X0_hasInvestor rfl (jj_le rfl) (jj_le rfl) (jj_le rfl) (jj_le rfl) (jj_le rfl) dX0_redemptionFault_2 rfl (fun _ _ _ hX => hX.elim) (fun rx pl_1 r O_4 => ?_)
  obtain ⟨rfl, hok_2, hr_3, hR_6⟩ := O_4
  replace hfr := hfr.trans (hr_3.sub (by decide))
  rcases hR_6 with rfl | ⟨l_7, u_8, rfl⟩
  · refine jj_if_neF (tgt := 10) C dX0_redemptionFault_5 (by decide) (by decide) ?_
    refine jj_iconst (v := 1) C dX0_redemptionFault_8 (by decide) ?_
    exact jj_iret C ⟨[], pl_1, rfl, rfl, hok_2, hfr, (Or.inl rfl)⟩ dX0_redemptionFault_9 (jj_le rfl) (jj_le rfl)
  · refine jj_if_neT (tgt := 10) C dX0_redemptionFault_5 (by decide) (by decide) ?_
    refine jj_iload_n C dX0_redemptionFault_10 rfl ?_
    refine jj_iconst (v := 1) C dX0_redemptionFault_11 (by decide) ?_
    refine jj_icmp_lt (tgt := 21) C dX0_redemptionFault_12 (by decide) (fun c_9 => ?_) (fun c_9 => ?_)
    · have z_c_9 := jc_lt (a := (p2).toInt) (b := (1)) c_9 rfl (by decide)
      refine jj_iconst (v := 2) C dX0_redemptionFault_21 (by decide) ?_
      exact jj_iret C ⟨[], pl_1, rfl, rfl, hok_2, hfr, (Or.inr (Or.inl ⟨(by first | omega | exact tt_lo _ | exact tt_hi _), (by first | omega | exact tt_lo _ | exact tt_hi _), rfl⟩))⟩ dX0_redemptionFault_22 (jj_le rfl) (jj_le rfl)
    · have z_c_9 := jc_nlt (a := (p2).toInt) (b := (1)) c_9 rfl (by decide)
      refine jj_iload_n C dX0_redemptionFault_15 rfl ?_
      refine jj_ldc (v := 99999999) C dX0_redemptionFault_16 jw_449 ?_
      refine jj_icmp_le (tgt := 23) C dX0_redemptionFault_18 (by decide) (fun c_10 => ?_) (fun c_10 => ?_)
      · have z_c_10 := jc_le (a := (p2).toInt) (b := (99999999)) c_10 rfl (by decide)
        refine jj_aload_n C dX0_redemptionFault_23 rfl ?_
        refine tt_get C hok_2 jk_2 9 (by decide) jw_200 (t := (0, 0, 12)) hk0 (by decide) rfl rfl dX0_redemptionFault_24 (fun v_11 hv_11 hf_12 => ?_)
        obtain ⟨x_13, rfl, lx_13, ux_13⟩ := tt_vi hv_11
        refine jj_bipush (v := 12) C dX0_redemptionFault_27 (by decide) ?_
        refine jj_icmp_lt (tgt := 34) C dX0_redemptionFault_29 (by decide) (fun c_14 => ?_) (fun c_14 => ?_)
        · have z_c_14 := jc_lt (a := (x_13).toInt) (b := (12)) c_14 rfl (by decide)
          refine jj_aload_n C dX0_redemptionFault_34 rfl ?_
          refine jj_iload_n C dX0_redemptionFault_35 rfl ?_
          obtain ⟨qc, gs, hqc⟩ := tt_recv (cx := []) hok_2 hk0 (by decide) rfl
          refine tt_callV (rest := []) C (tc_X0_unitsWaitingOf_1 hl D cA ak h0 p1 hk0 hok_2) [] [] rfl rfl (by decide) (by decide) (by decide) qc hqc rfl rfl jw_450 jw_454 jw_455 jw_133 jw_451 jn_X0_unitsWaitingOf rfl (jj_le rfl) (jj_le rfl) (jj_le rfl) (jj_le rfl) (jj_le rfl) dX0_redemptionFault_36 rfl (fun _ _ _ hX => hX.elim) (fun rx pl_15 r O_18 => ?_)
          obtain ⟨rfl, hok_16, hr_17, hR_20⟩ := O_18
          replace hf_12 := hr_17.at hk0 (by decide) (by decide) hf_12
          replace hfr := hfr.trans (hr_17.sub (by decide))
          obtain ⟨y_21, rfl⟩ := hR_20
          refine jj_iload_n C dX0_redemptionFault_39 rfl ?_
          obtain ⟨y_22, ey_22, vy_22⟩ := tt_i2l p2
          refine jj_i2l (v := y_22) C dX0_redemptionFault_40 ey_22 ?_
          obtain ⟨y_23, ey_23⟩ : ∃ z : Int64, y_21 + y_22 = z := ⟨_, rfl⟩
          refine jj_ladd (v := y_23) C dX0_redemptionFault_41 ey_23 ?_
          refine jj_aload_n C dX0_redemptionFault_42 rfl ?_
          refine jj_iload_n C dX0_redemptionFault_43 rfl ?_
          obtain ⟨qc, gs, hqc⟩ := tt_recv (cx := []) hok_16 hk0 (by decide) rfl
          refine tt_callV (rest := [.long y_23]) C (tc_X0_unitsHeldBy_1 hl D cA ak h0 p1 hk0 hok_16) [] [] rfl rfl (by decide) (by decide) (by decide) qc hqc rfl rfl jw_457 jw_251 jw_252 jw_133 jw_248 jn_X0_unitsHeldBy rfl (jj_le rfl) (jj_le rfl) (jj_le rfl) (jj_le rfl) (jj_le rfl) dX0_redemptionFault_44 rfl (fun _ _ _ hX => hX.elim) (fun rx pl_24 r O_27 => ?_)
          obtain ⟨rfl, hok_25, hr_26, hR_29⟩ := O_27
          replace hf_12 := hr_26.at hk0 (by decide) (by decide) hf_12
          replace hfr := hfr.trans (hr_26.sub (by decide))
          obtain ⟨y_30, rfl⟩ := hR_29
          refine jj_lcmp_le (tgt := 55) C dX0_redemptionFault_47 dX0_redemptionFault_48 (by decide) (fun c_31 => ?_) (fun c_31 => ?_)
          · refine jj_iconst (v := 0) C dX0_redemptionFault_55 (by decide) ?_
            exact jj_iret C ⟨[], pl_24, rfl, rfl, hok_25, hfr, (Or.inr (Or.inr (Or.inl ⟨(by first | omega | exact tt_lo _ | exact tt_hi _), (by first | omega | exact tt_lo _ | exact tt_hi _), (by first | omega | exact tt_lo _ | exact tt_hi _), (by first | omega | exact tt_lo _ | exact tt_hi _), rfl⟩)))⟩ dX0_redemptionFault_56 (jj_le rfl) (jj_le rfl)
          · refine jj_iconst (v := 3) C dX0_redemptionFault_51 (by decide) ?_
            refine jj_goto (tgt := 56) C dX0_redemptionFault_52 (by decide) ?_
            exact jj_iret C ⟨[], pl_24, rfl, rfl, hok_25, hfr, (Or.inr (Or.inr (Or.inr ⟨(by first | omega | exact tt_lo _ | exact tt_hi _), (by first | omega | exact tt_lo _ | exact tt_hi _), (by first | omega | exact tt_lo _ | exact tt_hi _), (by first | omega | exact tt_lo _ | exact tt_hi _), rfl⟩)))⟩ dX0_redemptionFault_56 (jj_le rfl) (jj_le rfl)
        · have z_c_14 := jc_nlt (a := (x_13).toInt) (b := (12)) c_14 rfl (by decide)
          refine jj_iconst (v := 3) C dX0_redemptionFault_32 (by decide) ?_
          exact jj_iret C ⟨[], pl_1, rfl, rfl, hok_2, hfr, (Or.inr (Or.inr (Or.inr ⟨(by first | omega | exact tt_lo _ | exact tt_hi _), (by first | omega | exact tt_lo _ | exact tt_hi _), (by first | omega | exact tt_lo _ | exact tt_hi _), (by first | omega | exact tt_lo _ | exact tt_hi _), rfl⟩)))⟩ dX0_redemptionFault_33 (jj_le rfl) (jj_le rfl)
      · have z_c_10 := jc_nle (a := (p2).toInt) (b := (99999999)) c_10 rfl (by decide)
        refine jj_iconst (v := 2) C dX0_redemptionFault_21 (by decide) ?_
        exact jj_iret C ⟨[], pl_1, rfl, rfl, hok_2, hfr, (Or.inr (Or.inl ⟨(by first | omega | exact tt_lo _ | exact tt_hi _), (by first | omega | exact tt_lo _ | exact tt_hi _), rfl⟩))⟩ dX0_redemptionFault_22 (jj_le rfl) (jj_le rfl)

set_option maxHeartbeats 4000000 in
set_option maxRecDepth 100000 in
theorem tc_X0_addRequest_1 {l : Launch} (hl : l.stackTraces = false) (D : va_G) (cA : Nat → ClassId) (ak : (Nat → Nat) × (Nat → Nat)) {Kd : Nat → Nat} (h0 : Nat) (p1 : Int32) (p3 : Int64) (hk0 : Kd h0 = 1) {pl0 : va_W} (hok : tt_ok tt_tk cA Kd pl0) : jj_M l D cA ak yX0_addRequest (.code yX0_addRequest cX0_addRequest 7 (some .int)) 1 21 0 0 ([] ++ pl0) [.ref h0, .int p1, .int 1, .long p3] (tt_O (fun rx pl1 r => rx = [] ∧ tt_ok tt_tk cA Kd pl1 ∧ tt_fr Kd [(1, 9), (4, 0), (4, 1), (4, 2), (4, 3), (4, 4)] pl0 pl1 ∧ ((r = some (.int 11)) ∨ (∃ v : Int32, (0 : Int) ≤ v.toInt ∧ v.toInt ≤ 11 ∧ r = some (.int v))))) (tt_OX (fun _ _ _ => False)) := by
  refine jj_start hl (by decide) jw_462 (jj_le rfl) ?_
  intro p e s m args below meth c A hargs hA C hex hmn
  have hfr := tt_fr.refl (K := Kd) (WS := [(1, 9), (4, 0), (4, 1), (4, 2), (4, 3), (4, 4)]) pl0
  have lp1 := tt_lo p1
  have up1 := tt_hi p1
  refine jj_aload_n C dX0_addRequest_0 rfl ?_
  refine tt_get C hok jk_2 9 (by decide) jw_200 (t := (0, 0, 12)) hk0 (by decide) rfl rfl dX0_addRequest_1 (fun v_1 hv_1 hf_2 => ?_)
  obtain ⟨x_3, rfl, lx_3, ux_3⟩ := tt_vi hv_1
  refine jj_bipush (v := 11) C dX0_addRequest_4 (by decide) ?_
  refine tt_call0S (rest := []) C (ct_J9_min_7cf53_3 hl D cA ak x_3) jw_335 jw_337 jw_144 jw_336 jn_J9_min_7cf53 rfl (jj_le rfl) (jj_le rfl) (jj_le rfl) (jj_le rfl) (jj_le rfl) dX0_addRequest_6 rfl (fun w1 r O_4 => ?_)
  rcases O_4 with ⟨c_5, -, rfl⟩ | ⟨c_6, -, rfl⟩
  · have z_c_5 := jc_lt (a := (11)) (b := (x_3).toInt) c_5 (by decide) rfl
    refine jj_istore C dX0_addRequest_9 (by decide) rfl ?_
    refine jj_aload_n C dX0_addRequest_11 rfl ?_
    refine tt_get C hok jk_2 13 (by decide) jw_202 (t := (2, 8, 0)) hk0 (by decide) rfl rfl dX0_addRequest_12 (fun v_7 hv_7 hf_8 => ?_)
    obtain ⟨a_9, rfl, ka_9⟩ := tt_vr hv_7
    refine jj_iload C dX0_addRequest_15 rfl ?_
    refine tt_aald C hok (t := (2, 4, 0)) ka_9 (by decide) rfl rfl rfl (vp_in_iff.mpr (by decide)) dX0_addRequest_17 (fun v_10 hv_10 => ?_)
    obtain ⟨a_11, rfl, ka_11⟩ := tt_vr hv_10
    refine jj_astore C dX0_addRequest_18 (by decide) rfl ?_
    refine jj_aload C dX0_addRequest_20 rfl ?_
    refine jj_iload_n C dX0_addRequest_22 rfl ?_
    refine tt_put C hok jk_7 0 (by decide) jw_453 (t := (0, (-2147483648), 2147483647)) ka_11 (by decide) rfl rfl rfl (tt_ia p1) rfl rfl dX0_addRequest_23 (fun pl_12 hok_13 tr hn => ?_)
    replace hf_2 := tr _ _ _ (Or.inl (tt_ne hk0 ka_11 (by decide))) hf_2
    replace hf_8 := tr _ _ _ (Or.inl (tt_ne hk0 ka_11 (by decide))) hf_8
    have hf_14 := hn
    replace hfr := hfr.put ka_11 tr (by decide)
    refine jj_aload C dX0_addRequest_26 rfl ?_
    refine jj_iload_n C dX0_addRequest_28 rfl ?_
    refine tt_put C hok_13 jk_7 2 (by decide) jw_452 (t := (0, 0, 1)) ka_11 (by decide) rfl rfl rfl (tt_iv (by decide) (by decide)) rfl rfl dX0_addRequest_29 (fun pl_15 hok_16 tr hn => ?_)
    replace hf_2 := tr _ _ _ (Or.inl (tt_ne hk0 ka_11 (by decide))) hf_2
    replace hf_8 := tr _ _ _ (Or.inl (tt_ne hk0 ka_11 (by decide))) hf_8
    replace hf_14 := tr _ _ _ (Or.inr (by decide)) hf_14
    have hf_17 := hn
    replace hfr := hfr.put ka_11 tr (by decide)
    refine jj_aload C dX0_addRequest_32 rfl ?_
    refine jj_lload_n C dX0_addRequest_34 rfl ?_
    refine tt_put C hok_16 jk_7 3 (by decide) jw_282 (t := (1, (-9223372036854775808), 9223372036854775807)) ka_11 (by decide) rfl rfl rfl (tt_ja p3) rfl rfl dX0_addRequest_35 (fun pl_18 hok_19 tr hn => ?_)
    replace hf_2 := tr _ _ _ (Or.inl (tt_ne hk0 ka_11 (by decide))) hf_2
    replace hf_8 := tr _ _ _ (Or.inl (tt_ne hk0 ka_11 (by decide))) hf_8
    replace hf_14 := tr _ _ _ (Or.inr (by decide)) hf_14
    replace hf_17 := tr _ _ _ (Or.inr (by decide)) hf_17
    have hf_20 := hn
    replace hfr := hfr.put ka_11 tr (by decide)
    refine jj_aload C dX0_addRequest_38 rfl ?_
    refine jj_lconst (v := 0) C dX0_addRequest_40 (by decide) ?_
    refine tt_put C hok_19 jk_7 4 (by decide) jw_463 (t := (1, (-9223372036854775808), 9223372036854775807)) ka_11 (by decide) rfl rfl rfl (tt_ja (0 : Int64)) rfl rfl dX0_addRequest_41 (fun pl_21 hok_22 tr hn => ?_)
    replace hf_2 := tr _ _ _ (Or.inl (tt_ne hk0 ka_11 (by decide))) hf_2
    replace hf_8 := tr _ _ _ (Or.inl (tt_ne hk0 ka_11 (by decide))) hf_8
    replace hf_14 := tr _ _ _ (Or.inr (by decide)) hf_14
    replace hf_17 := tr _ _ _ (Or.inr (by decide)) hf_17
    replace hf_20 := tr _ _ _ (Or.inr (by decide)) hf_20
    have hf_23 := hn
    replace hfr := hfr.put ka_11 tr (by decide)
    refine jj_aload C dX0_addRequest_44 rfl ?_
    refine jj_aload_n C dX0_addRequest_46 rfl ?_
    refine tt_get C hok_22 jk_2 5 (by decide) jw_197 (t := (0, (-2147483648), 2147483647)) hk0 (by decide) rfl rfl dX0_addRequest_47 (fun v_24 hv_24 hf_25 => ?_)
    obtain ⟨x_26, rfl, lx_26, ux_26⟩ := tt_vi hv_24
    refine tt_put C hok_22 jk_7 1 (by decide) jw_464 (t := (0, (-2147483648), 2147483647)) ka_11 (by decide) rfl rfl rfl (tt_ia x_26) rfl rfl dX0_addRequest_50 (fun pl_27 hok_28 tr hn => ?_)
    replace hf_2 := tr _ _ _ (Or.inl (tt_ne hk0 ka_11 (by decide))) hf_2
    replace hf_8 := tr _ _ _ (Or.inl (tt_ne hk0 ka_11 (by decide))) hf_8
    replace hf_14 := tr _ _ _ (Or.inr (by decide)) hf_14
    replace hf_17 := tr _ _ _ (Or.inr (by decide)) hf_17
    replace hf_20 := tr _ _ _ (Or.inr (by decide)) hf_20
    replace hf_23 := tr _ _ _ (Or.inr (by decide)) hf_23
    replace hf_25 := tr _ _ _ (Or.inl (tt_ne hk0 ka_11 (by decide))) hf_25
    have hf_29 := hn
    replace hfr := hfr.put ka_11 tr (by decide)
    refine jj_aload_n C dX0_addRequest_53 rfl ?_
    refine jj_iload C dX0_addRequest_54 rfl ?_
    refine jj_iconst (v := 1) C dX0_addRequest_56 (by decide) ?_
    refine jj_iadd (v := 12) C dX0_addRequest_57 (by decide) ?_
    refine tt_put C hok_28 jk_2 9 (by decide) jw_200 (t := (0, 0, 12)) hk0 (by decide) rfl rfl rfl (tt_iv (by decide) (by decide)) rfl rfl dX0_addRequest_58 (fun pl_30 hok_31 tr hn => ?_)
    replace hf_8 := tr _ _ _ (Or.inr (by decide)) hf_8
    replace hf_14 := tr _ _ _ (Or.inl (tt_ne ka_11 hk0 (by decide))) hf_14
    replace hf_17 := tr _ _ _ (Or.inl (tt_ne ka_11 hk0 (by decide))) hf_17
    replace hf_20 := tr _ _ _ (Or.inl (tt_ne ka_11 hk0 (by decide))) hf_20
    replace hf_23 := tr _ _ _ (Or.inl (tt_ne ka_11 hk0 (by decide))) hf_23
    replace hf_25 := tr _ _ _ (Or.inr (by decide)) hf_25
    replace hf_29 := tr _ _ _ (Or.inl (tt_ne ka_11 hk0 (by decide))) hf_29
    have hf_32 := hn
    replace hfr := hfr.put hk0 tr (by decide)
    refine jj_iload C dX0_addRequest_61 rfl ?_
    exact jj_iret C ⟨[], pl_30, rfl, rfl, hok_31, hfr, (Or.inl rfl)⟩ dX0_addRequest_63 (jj_le rfl) (jj_le rfl)
  · have z_c_6 := jc_nlt (a := (11)) (b := (x_3).toInt) c_6 (by decide) rfl
    refine jj_istore C dX0_addRequest_9 (by decide) rfl ?_
    refine jj_aload_n C dX0_addRequest_11 rfl ?_
    refine tt_get C hok jk_2 13 (by decide) jw_202 (t := (2, 8, 0)) hk0 (by decide) rfl rfl dX0_addRequest_12 (fun v_33 hv_33 hf_34 => ?_)
    obtain ⟨a_35, rfl, ka_35⟩ := tt_vr hv_33
    refine jj_iload C dX0_addRequest_15 rfl ?_
    refine tt_aald C hok (t := (2, 4, 0)) ka_35 (by decide) rfl rfl rfl (vp_in_iff.mpr ⟨by omega, by omega⟩) dX0_addRequest_17 (fun v_36 hv_36 => ?_)
    obtain ⟨a_37, rfl, ka_37⟩ := tt_vr hv_36
    refine jj_astore C dX0_addRequest_18 (by decide) rfl ?_
    refine jj_aload C dX0_addRequest_20 rfl ?_
    refine jj_iload_n C dX0_addRequest_22 rfl ?_
    refine tt_put C hok jk_7 0 (by decide) jw_453 (t := (0, (-2147483648), 2147483647)) ka_37 (by decide) rfl rfl rfl (tt_ia p1) rfl rfl dX0_addRequest_23 (fun pl_38 hok_39 tr hn => ?_)
    replace hf_2 := tr _ _ _ (Or.inl (tt_ne hk0 ka_37 (by decide))) hf_2
    replace hf_34 := tr _ _ _ (Or.inl (tt_ne hk0 ka_37 (by decide))) hf_34
    have hf_40 := hn
    replace hfr := hfr.put ka_37 tr (by decide)
    refine jj_aload C dX0_addRequest_26 rfl ?_
    refine jj_iload_n C dX0_addRequest_28 rfl ?_
    refine tt_put C hok_39 jk_7 2 (by decide) jw_452 (t := (0, 0, 1)) ka_37 (by decide) rfl rfl rfl (tt_iv (by decide) (by decide)) rfl rfl dX0_addRequest_29 (fun pl_41 hok_42 tr hn => ?_)
    replace hf_2 := tr _ _ _ (Or.inl (tt_ne hk0 ka_37 (by decide))) hf_2
    replace hf_34 := tr _ _ _ (Or.inl (tt_ne hk0 ka_37 (by decide))) hf_34
    replace hf_40 := tr _ _ _ (Or.inr (by decide)) hf_40
    have hf_43 := hn
    replace hfr := hfr.put ka_37 tr (by decide)
    refine jj_aload C dX0_addRequest_32 rfl ?_
    refine jj_lload_n C dX0_addRequest_34 rfl ?_
    refine tt_put C hok_42 jk_7 3 (by decide) jw_282 (t := (1, (-9223372036854775808), 9223372036854775807)) ka_37 (by decide) rfl rfl rfl (tt_ja p3) rfl rfl dX0_addRequest_35 (fun pl_44 hok_45 tr hn => ?_)
    replace hf_2 := tr _ _ _ (Or.inl (tt_ne hk0 ka_37 (by decide))) hf_2
    replace hf_34 := tr _ _ _ (Or.inl (tt_ne hk0 ka_37 (by decide))) hf_34
    replace hf_40 := tr _ _ _ (Or.inr (by decide)) hf_40
    replace hf_43 := tr _ _ _ (Or.inr (by decide)) hf_43
    have hf_46 := hn
    replace hfr := hfr.put ka_37 tr (by decide)
    refine jj_aload C dX0_addRequest_38 rfl ?_
    refine jj_lconst (v := 0) C dX0_addRequest_40 (by decide) ?_
    refine tt_put C hok_45 jk_7 4 (by decide) jw_463 (t := (1, (-9223372036854775808), 9223372036854775807)) ka_37 (by decide) rfl rfl rfl (tt_ja (0 : Int64)) rfl rfl dX0_addRequest_41 (fun pl_47 hok_48 tr hn => ?_)
    replace hf_2 := tr _ _ _ (Or.inl (tt_ne hk0 ka_37 (by decide))) hf_2
    replace hf_34 := tr _ _ _ (Or.inl (tt_ne hk0 ka_37 (by decide))) hf_34
    replace hf_40 := tr _ _ _ (Or.inr (by decide)) hf_40
    replace hf_43 := tr _ _ _ (Or.inr (by decide)) hf_43
    replace hf_46 := tr _ _ _ (Or.inr (by decide)) hf_46
    have hf_49 := hn
    replace hfr := hfr.put ka_37 tr (by decide)
    refine jj_aload C dX0_addRequest_44 rfl ?_
    refine jj_aload_n C dX0_addRequest_46 rfl ?_
    refine tt_get C hok_48 jk_2 5 (by decide) jw_197 (t := (0, (-2147483648), 2147483647)) hk0 (by decide) rfl rfl dX0_addRequest_47 (fun v_50 hv_50 hf_51 => ?_)
    obtain ⟨x_52, rfl, lx_52, ux_52⟩ := tt_vi hv_50
    refine tt_put C hok_48 jk_7 1 (by decide) jw_464 (t := (0, (-2147483648), 2147483647)) ka_37 (by decide) rfl rfl rfl (tt_ia x_52) rfl rfl dX0_addRequest_50 (fun pl_53 hok_54 tr hn => ?_)
    replace hf_2 := tr _ _ _ (Or.inl (tt_ne hk0 ka_37 (by decide))) hf_2
    replace hf_34 := tr _ _ _ (Or.inl (tt_ne hk0 ka_37 (by decide))) hf_34
    replace hf_40 := tr _ _ _ (Or.inr (by decide)) hf_40
    replace hf_43 := tr _ _ _ (Or.inr (by decide)) hf_43
    replace hf_46 := tr _ _ _ (Or.inr (by decide)) hf_46
    replace hf_49 := tr _ _ _ (Or.inr (by decide)) hf_49
    replace hf_51 := tr _ _ _ (Or.inl (tt_ne hk0 ka_37 (by decide))) hf_51
    have hf_55 := hn
    replace hfr := hfr.put ka_37 tr (by decide)
    refine jj_aload_n C dX0_addRequest_53 rfl ?_
    refine jj_iload C dX0_addRequest_54 rfl ?_
    refine jj_iconst (v := 1) C dX0_addRequest_56 (by decide) ?_
    obtain ⟨x_56, ex_56, vx_56⟩ := tt_iadd (x := x_3) (y := (1 : Int32)) (a := x_3.toInt) rfl (b := 1) (by decide) (by omega) (by omega)
    refine jj_iadd (v := x_56) C dX0_addRequest_57 ex_56 ?_
    refine tt_put C hok_54 jk_2 9 (by decide) jw_200 (t := (0, 0, 12)) hk0 (by decide) rfl rfl rfl (tt_iv (by omega) (by omega)) rfl rfl dX0_addRequest_58 (fun pl_57 hok_58 tr hn => ?_)
    replace hf_34 := tr _ _ _ (Or.inr (by decide)) hf_34
    replace hf_40 := tr _ _ _ (Or.inl (tt_ne ka_37 hk0 (by decide))) hf_40
    replace hf_43 := tr _ _ _ (Or.inl (tt_ne ka_37 hk0 (by decide))) hf_43
    replace hf_46 := tr _ _ _ (Or.inl (tt_ne ka_37 hk0 (by decide))) hf_46
    replace hf_49 := tr _ _ _ (Or.inl (tt_ne ka_37 hk0 (by decide))) hf_49
    replace hf_51 := tr _ _ _ (Or.inr (by decide)) hf_51
    replace hf_55 := tr _ _ _ (Or.inl (tt_ne ka_37 hk0 (by decide))) hf_55
    have hf_59 := hn
    replace hfr := hfr.put hk0 tr (by decide)
    refine jj_iload C dX0_addRequest_61 rfl ?_
    exact jj_iret C ⟨[], pl_57, rfl, rfl, hok_58, hfr, (Or.inr ⟨x_3, (by first | omega | exact tt_lo _ | exact tt_hi _), (by first | omega | exact tt_lo _ | exact tt_hi _), rfl⟩)⟩ dX0_addRequest_63 (jj_le rfl) (jj_le rfl)

set_option maxHeartbeats 4000000 in
set_option maxRecDepth 100000 in
theorem tc_X10_reportByte_1 {l : Launch} (hl : l.stackTraces = false) (D : va_G) (cA : Nat → ClassId) (ak : (Nat → Nat) × (Nat → Nat)) {Kd : Nat → Nat} (h0 : Nat) (p1 : Int32) (hk0 : Kd h0 = 15) {pl0 : va_W} (hok : tt_ok tt_tk cA Kd pl0) : jj_M l D cA ak yX10_reportByte (.code yX10_reportByte cX10_reportByte 2 (some .int)) 6 82 1 6 ([] ++ pl0) [.ref h0, .int p1] (tt_O (fun rx pl1 r => rx = [] ∧ tt_ok tt_tk cA Kd pl1 ∧ tt_fr Kd [] pl0 pl1 ∧ ((∃ v : Int32, (-2147483648 : Int) ≤ v.toInt ∧ v.toInt ≤ 2147483647 ∧ (0 : Int) ≤ p1.toInt ∧ p1.toInt ≤ 1299 ∧ r = some (.int v))))) (tt_OX (fun E rx pl1 => rx = [] ∧ tt_ok tt_tk cA Kd pl1 ∧ tt_fr Kd [] pl0 pl1 ∧ (E = "java/lang/IndexOutOfBoundsException"))) := by
  refine jj_start hl (by decide) jw_854 (jj_le rfl) ?_
  intro p e s m args below meth c A hargs hA C hex hmn
  have hfr := tt_fr.refl (K := Kd) (WS := []) pl0
  have lp1 := tt_lo p1
  have up1 := tt_hi p1
  refine jj_iload_n C dX10_reportByte_0 rfl ?_
  refine jj_if_lt (tgt := 15) C dX10_reportByte_1 (by decide) (fun c_1 => ?_) (fun c_1 => ?_)
  · have z_c_1 := jc_lt (a := (p1).toInt) (b := (0)) c_1 rfl (by decide)
    exact jj_throwW (k := 52) (text := "no such byte") C jt_RX10_200 jw_56 (by decide +kernel) dX10_reportByte_15 dX10_reportByte_18 dX10_reportByte_19 dX10_reportByte_22 dX10_reportByte_25 hex (jj_le rfl) (jj_le rfl) (jj_le rfl) (jj_le rfl) ⟨[], pl0, rfl, rfl, hok, hfr, rfl⟩ (jj_le rfl) (jj_le rfl)
  · have z_c_1 := jc_nlt (a := (p1).toInt) (b := (0)) c_1 rfl (by decide)
    refine jj_iload_n C dX10_reportByte_4 rfl ?_
    refine jj_aload_n C dX10_reportByte_5 rfl ?_
    refine tt_get C hok jk_11 9 (by decide) jw_468 (t := (2, 12, 0)) hk0 (by decide) rfl rfl dX10_reportByte_6 (fun v_2 hv_2 hf_3 => ?_)
    obtain ⟨a_4, rfl, ka_4⟩ := tt_vr hv_2
    refine tt_get C hok jk_6 1 (by decide) jw_469 (t := (0, 0, 1300)) ka_4 (by decide) rfl rfl dX10_reportByte_9 (fun v_5 hv_5 hf_6 => ?_)
    obtain ⟨x_7, rfl, lx_7, ux_7⟩ := tt_vi hv_5
    refine jj_icmp_lt (tgt := 26) C dX10_reportByte_12 (by decide) (fun c_8 => ?_) (fun c_8 => ?_)
    · have z_c_8 := jc_lt (a := (p1).toInt) (b := (x_7).toInt) c_8 rfl rfl
      refine jj_aload_n C dX10_reportByte_26 rfl ?_
      refine tt_getF C hok jk_11 9 (by decide) jw_468 (t := (2, 12, 0)) hk0 (by decide) rfl rfl hf_3 dX10_reportByte_27 ?_
      refine tt_get C hok jk_6 0 (by decide) jw_474 (t := (2, 13, 0)) ka_4 (by decide) rfl rfl dX10_reportByte_30 (fun v_9 hv_9 hf_10 => ?_)
      obtain ⟨a_11, rfl, ka_11⟩ := tt_vr hv_9
      refine jj_iload_n C dX10_reportByte_33 rfl ?_
      refine tt_bald C hok (t := (0, (-2147483648), 2147483647)) ka_11 (by decide) rfl (vp_in_iff.mpr ⟨by omega, by omega⟩) dX10_reportByte_34 (fun v_12 hv_12 => ?_)
      exact jj_iret C ⟨[], pl0, rfl, rfl, hok, hfr, ⟨v_12, (by first | omega | exact tt_lo _ | exact tt_hi _), (by first | omega | exact tt_lo _ | exact tt_hi _), (by first | omega | exact tt_lo _ | exact tt_hi _), (by first | omega | exact tt_lo _ | exact tt_hi _), rfl⟩⟩ dX10_reportByte_35 (jj_le rfl) (jj_le rfl)
    · have z_c_8 := jc_nlt (a := (p1).toInt) (b := (x_7).toInt) c_8 rfl rfl
      exact jj_throwW (k := 52) (text := "no such byte") C jt_RX10_200 jw_56 (by decide +kernel) dX10_reportByte_15 dX10_reportByte_18 dX10_reportByte_19 dX10_reportByte_22 dX10_reportByte_25 hex (jj_le rfl) (jj_le rfl) (jj_le rfl) (jj_le rfl) ⟨[], pl0, rfl, rfl, hok, hfr, rfl⟩ (jj_le rfl) (jj_le rfl)

set_option maxHeartbeats 4000000 in
set_option maxRecDepth 100000 in
theorem tc_X10_request_1 {l : Launch} (hl : l.stackTraces = false) (D : va_G) (cA : Nat → ClassId) (ak : (Nat → Nat) × (Nat → Nat)) {Kd : Nat → Nat} (h0 : Nat) (p1 : Int32) (p2 : Int32) (hk0 : Kd h0 = 15) {pl0 : va_W} (hok : tt_ok tt_tk cA Kd pl0) : jj_M l D cA ak yX10_request (.code yX10_request cX10_request 4 (some .long)) 8 123 2 12 ([] ++ pl0) [.ref h0, .int p1, .int p2] (tt_O (fun rx pl1 r => rx = [] ∧ tt_ok tt_tk cA Kd pl1 ∧ tt_fr Kd [] pl0 pl1 ∧ ((∃ v : Int64, (0 : Int) ≤ p1.toInt ∧ p1.toInt ≤ 11 ∧ r = some (.long v)) ∨ ((0 : Int) ≤ p1.toInt ∧ p1.toInt ≤ 11 ∧ r = some (.long 0)) ∨ ((0 : Int) ≤ p1.toInt ∧ p1.toInt ≤ 11 ∧ r = some (.long 1))))) (tt_OX (fun E rx pl1 => rx = [] ∧ tt_ok tt_tk cA Kd pl1 ∧ tt_fr Kd [] pl0 pl1 ∧ (E = "java/lang/IllegalArgumentException" ∨ E = "java/lang/IndexOutOfBoundsException"))) := by
  refine jj_start hl (by decide) jw_855 (jj_le rfl) ?_
  intro p e s m args below meth c A hargs hA C hex hmn
  have hfr := tt_fr.refl (K := Kd) (WS := []) pl0
  have lp1 := tt_lo p1
  have up1 := tt_hi p1
  have lp2 := tt_lo p2
  have up2 := tt_hi p2
  refine jj_aload_n C dX10_request_0 rfl ?_
  refine jj_iload_n C dX10_request_1 rfl ?_
  obtain ⟨qc, gs, hqc⟩ := tt_recv (cx := []) hok hk0 (by decide) rfl
  refine tt_callV (rest := []) C (tc_X10_checkRequest_1 hl D cA ak h0 p1 hk0 hok) [] [] rfl rfl (by decide) (by decide) (by decide) qc hqc rfl rfl jw_50 jw_60 jw_61 jw_52 jw_51 jn_X10_checkRequest rfl (jj_le rfl) (jj_le rfl) (jj_le rfl) (jj_le rfl) (jj_le rfl) dX10_request_2 rfl (fun E rx pl_1 X_5 => ?_) (fun rx pl_1 r O_4 => ?_)
  · obtain ⟨rfl, hok_2, hr_3, hE_6⟩ := X_5
    replace hfr := hfr.trans (hr_3.sub (by decide))
    obtain rfl := hE_6
    exact jj_out C hex ⟨[], pl_1, rfl, rfl, hok_2, hfr, (Or.inr rfl)⟩ (jj_le rfl) (jj_le rfl)
  · obtain ⟨rfl, hok_2, hr_3, hR_7⟩ := O_4
    replace hfr := hfr.trans (hr_3.sub (by decide))
    obtain ⟨l_8, u_9, rfl⟩ := hR_7
    refine jj_aload_n C dX10_request_5 rfl ?_
    refine tt_get C hok_2 jk_11 3 (by decide) jw_2 (t := (2, 1, 0)) hk0 (by decide) rfl rfl dX10_request_6 (fun v_10 hv_10 hf_11 => ?_)
    obtain ⟨a_12, rfl, ka_12⟩ := tt_vr hv_10
    refine tt_get C hok_2 jk_2 13 (by decide) jw_63 (t := (2, 8, 0)) ka_12 (by decide) rfl rfl dX10_request_9 (fun v_13 hv_13 hf_14 => ?_)
    obtain ⟨a_15, rfl, ka_15⟩ := tt_vr hv_13
    refine jj_iload_n C dX10_request_12 rfl ?_
    refine tt_aald C hok_2 (t := (2, 4, 0)) ka_15 (by decide) rfl rfl rfl (vp_in_iff.mpr ⟨by omega, by omega⟩) dX10_request_13 (fun v_16 hv_16 => ?_)
    obtain ⟨a_17, rfl, ka_17⟩ := tt_vr hv_16
    refine jj_astore_n C dX10_request_14 (by decide) rfl ?_
    refine jj_iload_n C dX10_request_15 rfl ?_
    rcases jj_em (p2 = 0) with c_18 | c_18
    · refine jj_tableIn (tgt := 48) C dX10_request_16 (by rw [c_18]; decide) (by rw [c_18]; decide) (by rw [c_18]; rfl) (by decide) ?_
      refine jj_aload_n C dX10_request_48 rfl ?_
      refine tt_get C hok_2 jk_7 0 (by decide) jw_475 (t := (0, (-2147483648), 2147483647)) ka_17 (by decide) rfl rfl dX10_request_49 (fun v_19 hv_19 hf_20 => ?_)
      obtain ⟨x_21, rfl, lx_21, ux_21⟩ := tt_vi hv_19
      obtain ⟨y_22, ey_22, vy_22⟩ := tt_i2l x_21
      refine jj_i2l (v := y_22) C dX10_request_52 ey_22 ?_
      exact jj_lret C ⟨[], pl_1, rfl, rfl, hok_2, hfr, (Or.inl ⟨y_22, (by first | omega | exact tt_lo _ | exact tt_hi _), (by first | omega | exact tt_lo _ | exact tt_hi _), rfl⟩)⟩ dX10_request_53 (jj_le rfl) (jj_le rfl)
    rcases jj_em (p2 = 1) with c_23 | c_23
    · refine jj_tableIn (tgt := 54) C dX10_request_16 (by rw [c_23]; decide) (by rw [c_23]; decide) (by rw [c_23]; rfl) (by decide) ?_
      refine jj_aload_n C dX10_request_54 rfl ?_
      refine tt_get C hok_2 jk_7 2 (by decide) jw_64 (t := (0, 0, 1)) ka_17 (by decide) rfl rfl dX10_request_55 (fun v_24 hv_24 hf_25 => ?_)
      obtain ⟨x_26, rfl, lx_26, ux_26⟩ := tt_vi hv_24
      refine jj_if_eq (tgt := 65) C dX10_request_58 (by decide) (fun c_27 => ?_) (fun c_27 => ?_)
      · have z_c_27 := jc_eq (a := (x_26).toInt) (b := (0)) c_27 rfl (by decide)
        refine jj_lconst (v := 0) C dX10_request_65 (by decide) ?_
        exact jj_lret C ⟨[], pl_1, rfl, rfl, hok_2, hfr, (Or.inl ⟨(0 : Int64), (by first | omega | exact tt_lo _ | exact tt_hi _), (by first | omega | exact tt_lo _ | exact tt_hi _), rfl⟩)⟩ dX10_request_66 (jj_le rfl) (jj_le rfl)
      · have z_c_27 := jc_neq (a := (x_26).toInt) (b := (0)) c_27 rfl (by decide)
        refine jj_lconst (v := 1) C dX10_request_61 (by decide) ?_
        refine jj_goto (tgt := 66) C dX10_request_62 (by decide) ?_
        exact jj_lret C ⟨[], pl_1, rfl, rfl, hok_2, hfr, (Or.inl ⟨(1 : Int64), (by first | omega | exact tt_lo _ | exact tt_hi _), (by first | omega | exact tt_lo _ | exact tt_hi _), rfl⟩)⟩ dX10_request_66 (jj_le rfl) (jj_le rfl)
    rcases jj_em (p2 = 2) with c_28 | c_28
    · refine jj_tableIn (tgt := 67) C dX10_request_16 (by rw [c_28]; decide) (by rw [c_28]; decide) (by rw [c_28]; rfl) (by decide) ?_
      refine jj_aload_n C dX10_request_67 rfl ?_
      refine tt_get C hok_2 jk_7 3 (by decide) jw_476 (t := (1, (-9223372036854775808), 9223372036854775807)) ka_17 (by decide) rfl rfl dX10_request_68 (fun v_29 hv_29 hf_30 => ?_)
      obtain ⟨y_31, rfl, -, -⟩ := tt_vj hv_29
      exact jj_lret C ⟨[], pl_1, rfl, rfl, hok_2, hfr, (Or.inl ⟨y_31, (by first | omega | exact tt_lo _ | exact tt_hi _), (by first | omega | exact tt_lo _ | exact tt_hi _), rfl⟩)⟩ dX10_request_71 (jj_le rfl) (jj_le rfl)
    rcases jj_em (p2 = 3) with c_32 | c_32
    · refine jj_tableIn (tgt := 72) C dX10_request_16 (by rw [c_32]; decide) (by rw [c_32]; decide) (by rw [c_32]; rfl) (by decide) ?_
      refine jj_aload_n C dX10_request_72 rfl ?_
      refine tt_get C hok_2 jk_7 1 (by decide) jw_477 (t := (0, (-2147483648), 2147483647)) ka_17 (by decide) rfl rfl dX10_request_73 (fun v_33 hv_33 hf_34 => ?_)
      obtain ⟨x_35, rfl, lx_35, ux_35⟩ := tt_vi hv_33
      obtain ⟨y_36, ey_36, vy_36⟩ := tt_i2l x_35
      refine jj_i2l (v := y_36) C dX10_request_76 ey_36 ?_
      exact jj_lret C ⟨[], pl_1, rfl, rfl, hok_2, hfr, (Or.inl ⟨y_36, (by first | omega | exact tt_lo _ | exact tt_hi _), (by first | omega | exact tt_lo _ | exact tt_hi _), rfl⟩)⟩ dX10_request_77 (jj_le rfl) (jj_le rfl)
    refine jj_tableOut (tgt := 78) C dX10_request_16 (by have zc_18 := lv_neT (a := 0) c_18 (by decide); have zc_23 := lv_neT (a := 1) c_23 (by decide); have zc_28 := lv_neT (a := 2) c_28 (by decide); have zc_32 := lv_neT (a := 3) c_32 (by decide); omega) (by decide) ?_
    exact jj_throwW (k := 45) (text := "no such value") C jt_RX10_75 jw_1 (by decide +kernel) dX10_request_78 dX10_request_81 dX10_request_82 dX10_request_85 dX10_request_88 hex (jj_le rfl) (jj_le rfl) (jj_le rfl) (jj_le rfl) ⟨[], pl_1, rfl, rfl, hok_2, hfr, (Or.inl rfl)⟩ (jj_le rfl) (jj_le rfl)

set_option maxHeartbeats 4000000 in
set_option maxRecDepth 100000 in
theorem tc_X1_tryRedemption_3 {l : Launch} (hl : l.stackTraces = false) (D : va_G) (cA : Nat → ClassId) (ak : (Nat → Nat) × (Nat → Nat)) {Kd : Nat → Nat} (h0 : Nat) (h1 : Nat) (p2 : Int32) (hk0 : Kd h0 = 9) (hk1 : Kd h1 = 1) (lp2 : (0 : Int) ≤ p2.toInt) (up2 : p2.toInt ≤ 0) {pl0 : va_W} (hok : tt_ok tt_tk cA Kd pl0) : jj_M l D cA ak yX1_tryRedemption (.code yX1_tryRedemption cX1_tryRedemption 15 (some .long)) 2 54 0 0 ([] ++ pl0) [.ref h0, .ref h1, .int p2, .long 9223372036854775807, .int 1] (tt_O (fun rx pl1 r => rx = [] ∧ tt_ok tt_tk cA Kd pl1 ∧ tt_fr Kd [(2, 2), (2, 3), (9, 1), (9, 2), (9, 3), (9, 4), (9, 5)] pl0 pl1 ∧ ((∃ v : Int64, r = some (.long v))))) (tt_OX (fun _ _ _ => False)) := by
  refine jj_start hl (by decide) jw_120 (jj_le rfl) ?_
  intro p e s m args below meth c A hargs hA C hex hmn
  have hfr := tt_fr.refl (K := Kd) (WS := [(2, 2), (2, 3), (9, 1), (9, 2), (9, 3), (9, 4), (9, 5)]) pl0
  refine jj_lconst (v := 0) C dX1_tryRedemption_0 (by decide) ?_
  refine jj_lstore C dX1_tryRedemption_1 (by decide) rfl ?_
  refine jj_lload_n C dX1_tryRedemption_3 rfl ?_
  refine jj_lstore C dX1_tryRedemption_4 (by decide) rfl ?_
  refine jj_iconst (v := 0) C dX1_tryRedemption_6 (by decide) ?_
  refine jj_istore C dX1_tryRedemption_7 (by decide) rfl ?_
  have hL_1 : ∀ (N : Nat) (pl : va_W) (x_2 : Int32) (y_3 : Int64) (y_4 : Int64), True → tt_ok tt_tk cA Kd pl → tt_fr Kd [(2, 2), (2, 3), (9, 1), (9, 2), (9, 3), (9, 4), (9, 5)] pl0 pl → (0 : Int) ≤ x_2.toInt → x_2.toInt ≤ 40 → (2147483648 - x_2.toInt ≤ (N : Int)) → jj_J p l e (jj_rm 2 54 0 0) s m args below meth c 15 A (vx_MQ below (jj_q D A (tt_O (fun rx pl1 r => rx = [] ∧ tt_ok tt_tk cA Kd pl1 ∧ tt_fr Kd [(2, 2), (2, 3), (9, 1), (9, 2), (9, 3), (9, 4), (9, 5)] pl0 pl1 ∧ ((∃ v : Int64, r = some (.long v)))))) (jj_x D A (tt_OX (fun _ _ _ => False))) args s 0 0 A) (jj_X D A ([] ++ pl)) 0 0 9 [(10, .int x_2), (8, .long y_3), (6, .long y_4), (0, .ref h0), (1, .ref h1), (2, .int p2), (3, .long 9223372036854775807), (5, .int 1)] [] := by
    intro NL_1
    induction NL_1 with
    | zero => intro pl x_2 y_3 y_4 _ hok hfr lx_2 ux_2 hNL_1; exfalso; omega
    | succ NL_1 ihL_1 =>
      intro pl x_2 y_3 y_4 _ hok hfr lx_2 ux_2 hNL_1
      replace ihL_1 := fun pl x_2 y_3 y_4 h1 => ihL_1 pl x_2 y_3 y_4 trivial h1
      refine jj_iload C dX1_tryRedemption_9 rfl ?_
      refine jj_aload_n C dX1_tryRedemption_11 rfl ?_
      refine tt_get C hok jk_2 8 (by decide) jw_121 (t := (0, 0, 40)) hk1 (by decide) rfl rfl dX1_tryRedemption_12 (fun v_5 hv_5 hf_6 => ?_)
      obtain ⟨x_7, rfl, lx_7, ux_7⟩ := tt_vi hv_5
      refine jj_icmp_ge (tgt := 173) C dX1_tryRedemption_15 (by decide) (fun c_8 => ?_) (fun c_8 => ?_)
      · have z_c_8 := jc_le (a := (x_7).toInt) (b := (x_2).toInt) c_8 rfl rfl
        refine jj_lload C dX1_tryRedemption_173 rfl ?_
        exact jj_lret C ⟨[], pl, rfl, rfl, hok, hfr, ⟨y_4, rfl⟩⟩ dX1_tryRedemption_175 (jj_le rfl) (jj_le rfl)
      · have z_c_8 := jc_nle (a := (x_7).toInt) (b := (x_2).toInt) c_8 rfl rfl
        refine jj_lload C dX1_tryRedemption_18 rfl ?_
        refine jj_lconst (v := 0) C dX1_tryRedemption_20 (by decide) ?_
        refine jj_lcmp_le (tgt := 173) C dX1_tryRedemption_21 dX1_tryRedemption_22 (by decide) (fun c_9 => ?_) (fun c_9 => ?_)
        · refine jj_lload C dX1_tryRedemption_173 rfl ?_
          exact jj_lret C ⟨[], pl, rfl, rfl, hok, hfr, ⟨y_4, rfl⟩⟩ dX1_tryRedemption_175 (jj_le rfl) (jj_le rfl)
        · refine jj_aload_n C dX1_tryRedemption_25 rfl ?_
          refine tt_get C hok jk_2 12 (by decide) jw_122 (t := (2, 7, 0)) hk1 (by decide) rfl rfl dX1_tryRedemption_26 (fun v_10 hv_10 hf_11 => ?_)
          obtain ⟨a_12, rfl, ka_12⟩ := tt_vr hv_10
          refine jj_iload C dX1_tryRedemption_29 rfl ?_
          refine tt_aald C hok (t := (2, 3, 0)) ka_12 (by decide) rfl rfl rfl (vp_in_iff.mpr ⟨by omega, by omega⟩) dX1_tryRedemption_31 (fun v_13 hv_13 => ?_)
          obtain ⟨a_14, rfl, ka_14⟩ := tt_vr hv_13
          refine jj_astore C dX1_tryRedemption_32 (by decide) rfl ?_
          refine jj_aload_n C dX1_tryRedemption_34 rfl ?_
          refine jj_aload C dX1_tryRedemption_35 rfl ?_
          refine tt_get C hok jk_5 1 (by decide) jw_123 (t := (0, (-2147483648), 2147483647)) ka_14 (by decide) rfl rfl dX1_tryRedemption_37 (fun v_15 hv_15 hf_16 => ?_)
          obtain ⟨x_17, rfl, lx_17, ux_17⟩ := tt_vi hv_15
          obtain ⟨qc, gs, hqc⟩ := tt_recv (cx := []) hok hk1 (by decide) rfl
          refine tt_callV (rest := []) C (tc_X0_placeOfSeries_1 hl D cA ak h1 x_17 hk1 hok) [] [] rfl rfl (by decide) (by decide) (by decide) qc hqc rfl rfl jw_131 jw_137 jw_138 jw_133 jw_132 jn_X0_placeOfSeries rfl (jj_le rfl) (jj_le rfl) (jj_le rfl) (jj_le rfl) (jj_le rfl) dX1_tryRedemption_40 rfl (fun _ _ _ hX => hX.elim) (fun rx pl_18 r O_21 => ?_)
          obtain ⟨rfl, hok_19, hr_20, hR_23⟩ := O_21
          replace hf_6 := hr_20.at hk1 (by decide) (by decide) hf_6
          replace hf_11 := hr_20.at hk1 (by decide) (by decide) hf_11
          replace hf_16 := hr_20.at ka_14 (by decide) (by decide) hf_16
          replace hfr := hfr.trans (hr_20.sub (by decide))
          rcases hR_23 with rfl | ⟨x_24, lx_24, ux_24, rfl⟩
          · refine jj_istore C dX1_tryRedemption_43 (by decide) rfl ?_
            refine jj_aload C dX1_tryRedemption_45 rfl ?_
            refine tt_get C hok_19 jk_5 0 (by decide) jw_140 (t := (0, (-2147483648), 2147483647)) ka_14 (by decide) rfl rfl dX1_tryRedemption_47 (fun v_25 hv_25 hf_26 => ?_)
            obtain ⟨x_27, rfl, lx_27, ux_27⟩ := tt_vi hv_25
            refine jj_iload_n C dX1_tryRedemption_50 rfl ?_
            refine jj_icmp_ne (tgt := 167) C dX1_tryRedemption_51 (by decide) (fun c_28 => ?_) (fun c_28 => ?_)
            · have z_c_28 := jc_neq (a := (x_27).toInt) (b := (p2).toInt) c_28 rfl rfl
              obtain ⟨x_29, ex_29, vx_29⟩ := tt_inc (x := x_2) (n := 1) (by omega) (by omega)
              refine jj_iinc (v := x_29) C dX1_tryRedemption_167 rfl ex_29 (by decide) rfl ?_
              refine jj_goto (tgt := 9) C dX1_tryRedemption_170 (by decide) ?_
              refine jj_loc [0, 3, 4, 5, 6, 7, 8, 9] rfl ?_
              exact ihL_1 pl_18 x_29 y_3 y_4 hok_19 hfr (by first | omega | decide | exact tt_lo _ | exact tt_hi _) (by first | omega | decide | exact tt_lo _ | exact tt_hi _) (by first | omega | decide | exact tt_lo _ | exact tt_hi _)
            · have z_c_28 := jc_eq (a := (x_27).toInt) (b := (p2).toInt) c_28 rfl rfl
              refine jj_iload C dX1_tryRedemption_54 rfl ?_
              refine jj_iconst (v := (-1)) C dX1_tryRedemption_56 (by decide) ?_
              refine jj_icmp_eqT (tgt := 167) C dX1_tryRedemption_57 (by decide) (by decide) ?_
              obtain ⟨x_30, ex_30, vx_30⟩ := tt_inc (x := x_2) (n := 1) (by omega) (by omega)
              refine jj_iinc (v := x_30) C dX1_tryRedemption_167 rfl ex_30 (by decide) rfl ?_
              refine jj_goto (tgt := 9) C dX1_tryRedemption_170 (by decide) ?_
              refine jj_loc [0, 3, 4, 5, 6, 7, 8, 9] rfl ?_
              exact ihL_1 pl_18 x_30 y_3 y_4 hok_19 hfr (by first | omega | decide | exact tt_lo _ | exact tt_hi _) (by first | omega | decide | exact tt_lo _ | exact tt_hi _) (by first | omega | decide | exact tt_lo _ | exact tt_hi _)
          · refine jj_istore C dX1_tryRedemption_43 (by decide) rfl ?_
            refine jj_aload C dX1_tryRedemption_45 rfl ?_
            refine tt_get C hok_19 jk_5 0 (by decide) jw_140 (t := (0, (-2147483648), 2147483647)) ka_14 (by decide) rfl rfl dX1_tryRedemption_47 (fun v_31 hv_31 hf_32 => ?_)
            obtain ⟨x_33, rfl, lx_33, ux_33⟩ := tt_vi hv_31
            refine jj_iload_n C dX1_tryRedemption_50 rfl ?_
            refine jj_icmp_ne (tgt := 167) C dX1_tryRedemption_51 (by decide) (fun c_34 => ?_) (fun c_34 => ?_)
            · have z_c_34 := jc_neq (a := (x_33).toInt) (b := (p2).toInt) c_34 rfl rfl
              obtain ⟨x_35, ex_35, vx_35⟩ := tt_inc (x := x_2) (n := 1) (by omega) (by omega)
              refine jj_iinc (v := x_35) C dX1_tryRedemption_167 rfl ex_35 (by decide) rfl ?_
              refine jj_goto (tgt := 9) C dX1_tryRedemption_170 (by decide) ?_
              refine jj_loc [0, 3, 4, 5, 6, 7, 8, 9] rfl ?_
              exact ihL_1 pl_18 x_35 y_3 y_4 hok_19 hfr (by first | omega | decide | exact tt_lo _ | exact tt_hi _) (by first | omega | decide | exact tt_lo _ | exact tt_hi _) (by first | omega | decide | exact tt_lo _ | exact tt_hi _)
            · have z_c_34 := jc_eq (a := (x_33).toInt) (b := (p2).toInt) c_34 rfl rfl
              refine jj_iload C dX1_tryRedemption_54 rfl ?_
              refine jj_iconst (v := (-1)) C dX1_tryRedemption_56 (by decide) ?_
              refine jj_icmp_eq (tgt := 167) C dX1_tryRedemption_57 (by decide) (fun c_36 => ?_) (fun c_36 => ?_)
              · have z_c_36 := jc_eq (a := (x_24).toInt) (b := (-1)) c_36 rfl (by decide)
                exfalso; omega
              · have z_c_36 := jc_neq (a := (x_24).toInt) (b := (-1)) c_36 rfl (by decide)
                refine jj_lload C dX1_tryRedemption_60 rfl ?_
                refine jj_aload C dX1_tryRedemption_62 rfl ?_
                refine tt_get C hok_19 jk_5 3 (by decide) jw_141 (t := (1, (-9223372036854775808), 9223372036854775807)) ka_14 (by decide) rfl rfl dX1_tryRedemption_64 (fun v_37 hv_37 hf_38 => ?_)
                obtain ⟨y_39, rfl, -, -⟩ := tt_vj hv_37
                refine tt_call0S (rest := []) C (ct_J9_min_f86c9_1 hl D cA ak y_3 y_39) jw_142 jw_145 jw_144 jw_143 jn_J9_min_f86c9 rfl (jj_le rfl) (jj_le rfl) (jj_le rfl) (jj_le rfl) (jj_le rfl) dX1_tryRedemption_67 rfl (fun w1 r O_40 => ?_)
                rcases O_40 with ⟨c_41, -, rfl⟩ | ⟨c_42, -, rfl⟩
                · refine jj_lstore C dX1_tryRedemption_70 (by decide) rfl ?_
                  refine jj_aload_n C dX1_tryRedemption_72 rfl ?_
                  refine jj_aload_n C dX1_tryRedemption_73 rfl ?_
                  refine jj_aload_n C dX1_tryRedemption_74 rfl ?_
                  refine tt_get C hok_19 jk_3 0 (by decide) jw_81 (t := (2, 6, 0)) hk0 (by decide) rfl rfl dX1_tryRedemption_75 (fun v_43 hv_43 hf_44 => ?_)
                  obtain ⟨a_45, rfl, ka_45⟩ := tt_vr hv_43
                  refine jj_iload C dX1_tryRedemption_78 rfl ?_
                  refine tt_aald C hok_19 (t := (2, 2, 0)) ka_45 (by decide) rfl rfl rfl (vp_in_iff.mpr ⟨by omega, by omega⟩) dX1_tryRedemption_80 (fun v_46 hv_46 => ?_)
                  obtain ⟨a_47, rfl, ka_47⟩ := tt_vr hv_46
                  refine jj_aload C dX1_tryRedemption_81 rfl ?_
                  refine jj_lload C dX1_tryRedemption_83 rfl ?_
                  obtain ⟨qc, gs, hqc⟩ := tt_recv (cx := []) hok_19 hk0 (by decide) rfl
                  refine tt_callV (rest := []) C (tc_X1_quote_1 hl D cA ak h0 h1 a_47 a_14 y_39 hk0 hk1 ka_47 ka_14 hok_19) [] [] rfl rfl (by decide) (by decide) (by decide) qc hqc rfl rfl jw_147 jw_180 jw_181 jw_74 jw_148 jn_X1_quote rfl (jj_le rfl) (jj_le rfl) (jj_le rfl) (jj_le rfl) (jj_le rfl) dX1_tryRedemption_85 rfl (fun _ _ _ hX => hX.elim) (fun rx pl_48 r O_51 => ?_)
                  obtain ⟨rfl, hok_49, hr_50, hR_53⟩ := O_51
                  replace hf_6 := hr_50.at hk1 (by decide) (by decide) hf_6
                  replace hf_11 := hr_50.at hk1 (by decide) (by decide) hf_11
                  replace hf_16 := hr_50.at ka_14 (by decide) (by decide) hf_16
                  replace hf_32 := hr_50.at ka_14 (by decide) (by decide) hf_32
                  replace hf_38 := hr_50.at ka_14 (by decide) (by decide) hf_38
                  replace hf_44 := hr_50.at hk0 (by decide) (by decide) hf_44
                  replace hfr := hfr.trans (hr_50.sub (by decide))
                  obtain rfl := hR_53
                  refine jj_aload_n C dX1_tryRedemption_88 rfl ?_
                  refine tt_getF C hok_49 jk_3 0 (by decide) jw_81 (t := (2, 6, 0)) hk0 (by decide) rfl rfl hf_44 dX1_tryRedemption_89 ?_
                  refine jj_iload C dX1_tryRedemption_92 rfl ?_
                  refine tt_aald C hok_49 (t := (2, 2, 0)) ka_45 (by decide) rfl rfl rfl (vp_in_iff.mpr ⟨by omega, by omega⟩) dX1_tryRedemption_94 (fun v_54 hv_54 => ?_)
                  obtain ⟨a_55, rfl, ka_55⟩ := tt_vr hv_54
                  refine jj_dup C dX1_tryRedemption_95 rfl ?_
                  refine tt_get C hok_49 jk_9 2 (by decide) jw_113 (t := (1, (-9223372036854775808), 9223372036854775807)) ka_55 (by decide) rfl rfl dX1_tryRedemption_96 (fun v_56 hv_56 hf_57 => ?_)
                  obtain ⟨y_58, rfl, -, -⟩ := tt_vj hv_56
                  refine jj_aload_n C dX1_tryRedemption_99 rfl ?_
                  refine tt_get C hok_49 jk_3 1 (by decide) jw_158 (t := (1, (-9223372036854775808), 9223372036854775807)) hk0 (by decide) rfl rfl dX1_tryRedemption_100 (fun v_59 hv_59 hf_60 => ?_)
                  obtain ⟨y_61, rfl, -, -⟩ := tt_vj hv_59
                  refine jj_aload_n C dX1_tryRedemption_103 rfl ?_
                  refine tt_get C hok_49 jk_3 2 (by decide) jw_159 (t := (1, (-9223372036854775808), 9223372036854775807)) hk0 (by decide) rfl rfl dX1_tryRedemption_104 (fun v_62 hv_62 hf_63 => ?_)
                  obtain ⟨y_64, rfl, -, -⟩ := tt_vj hv_62
                  obtain ⟨y_65, ey_65⟩ : ∃ z : Int64, y_61 + y_64 = z := ⟨_, rfl⟩
                  refine jj_ladd (v := y_65) C dX1_tryRedemption_107 ey_65 ?_
                  obtain ⟨y_66, ey_66⟩ : ∃ z : Int64, y_58 - y_65 = z := ⟨_, rfl⟩
                  refine jj_lsub (v := y_66) C dX1_tryRedemption_108 ey_66 ?_
                  refine tt_put C hok_49 jk_9 2 (by decide) jw_113 (t := (1, (-9223372036854775808), 9223372036854775807)) ka_55 (by decide) rfl rfl rfl (tt_ja y_66) rfl rfl dX1_tryRedemption_109 (fun pl_67 hok_68 tr hn => ?_)
                  replace hf_6 := tr _ _ _ (Or.inl (tt_ne hk1 ka_55 (by decide))) hf_6
                  replace hf_11 := tr _ _ _ (Or.inl (tt_ne hk1 ka_55 (by decide))) hf_11
                  replace hf_16 := tr _ _ _ (Or.inl (tt_ne ka_14 ka_55 (by decide))) hf_16
                  replace hf_32 := tr _ _ _ (Or.inl (tt_ne ka_14 ka_55 (by decide))) hf_32
                  replace hf_38 := tr _ _ _ (Or.inl (tt_ne ka_14 ka_55 (by decide))) hf_38
                  replace hf_44 := tr _ _ _ (Or.inl (tt_ne hk0 ka_55 (by decide))) hf_44
                  replace hf_60 := tr _ _ _ (Or.inl (tt_ne hk0 ka_55 (by decide))) hf_60
                  replace hf_63 := tr _ _ _ (Or.inl (tt_ne hk0 ka_55 (by decide))) hf_63
                  have hf_69 := hn
                  replace hfr := hfr.put ka_55 tr (by decide)
                  refine jj_aload_n C dX1_tryRedemption_112 rfl ?_
                  refine tt_getF C hok_68 jk_3 0 (by decide) jw_81 (t := (2, 6, 0)) hk0 (by decide) rfl rfl hf_44 dX1_tryRedemption_113 ?_
                  refine jj_iload C dX1_tryRedemption_116 rfl ?_
                  refine tt_aald C hok_68 (t := (2, 2, 0)) ka_45 (by decide) rfl rfl rfl (vp_in_iff.mpr ⟨by omega, by omega⟩) dX1_tryRedemption_118 (fun v_70 hv_70 => ?_)
                  obtain ⟨a_71, rfl, ka_71⟩ := tt_vr hv_70
                  refine jj_dup C dX1_tryRedemption_119 rfl ?_
                  refine tt_get C hok_68 jk_9 3 (by decide) jw_157 (t := (1, (-9223372036854775808), 9223372036854775807)) ka_71 (by decide) rfl rfl dX1_tryRedemption_120 (fun v_72 hv_72 hf_73 => ?_)
                  obtain ⟨y_74, rfl, -, -⟩ := tt_vj hv_72
                  refine jj_lload C dX1_tryRedemption_123 rfl ?_
                  obtain ⟨y_75, ey_75⟩ : ∃ z : Int64, y_74 - y_39 = z := ⟨_, rfl⟩
                  refine jj_lsub (v := y_75) C dX1_tryRedemption_125 ey_75 ?_
                  refine tt_put C hok_68 jk_9 3 (by decide) jw_157 (t := (1, (-9223372036854775808), 9223372036854775807)) ka_71 (by decide) rfl rfl rfl (tt_ja y_75) rfl rfl dX1_tryRedemption_126 (fun pl_76 hok_77 tr hn => ?_)
                  replace hf_6 := tr _ _ _ (Or.inl (tt_ne hk1 ka_71 (by decide))) hf_6
                  replace hf_11 := tr _ _ _ (Or.inl (tt_ne hk1 ka_71 (by decide))) hf_11
                  replace hf_16 := tr _ _ _ (Or.inl (tt_ne ka_14 ka_71 (by decide))) hf_16
                  replace hf_32 := tr _ _ _ (Or.inl (tt_ne ka_14 ka_71 (by decide))) hf_32
                  replace hf_38 := tr _ _ _ (Or.inl (tt_ne ka_14 ka_71 (by decide))) hf_38
                  replace hf_44 := tr _ _ _ (Or.inl (tt_ne hk0 ka_71 (by decide))) hf_44
                  replace hf_60 := tr _ _ _ (Or.inl (tt_ne hk0 ka_71 (by decide))) hf_60
                  replace hf_63 := tr _ _ _ (Or.inl (tt_ne hk0 ka_71 (by decide))) hf_63
                  replace hf_69 := tr _ _ _ (Or.inr (by decide)) hf_69
                  have hf_78 := hn
                  replace hfr := hfr.put ka_71 tr (by decide)
                  refine jj_lload C dX1_tryRedemption_129 rfl ?_
                  refine jj_lload C dX1_tryRedemption_131 rfl ?_
                  obtain ⟨y_79, ey_79⟩ : ∃ z : Int64, y_3 - y_39 = z := ⟨_, rfl⟩
                  refine jj_lsub (v := y_79) C dX1_tryRedemption_133 ey_79 ?_
                  refine jj_lstore C dX1_tryRedemption_134 (by decide) rfl ?_
                  refine jj_lload C dX1_tryRedemption_136 rfl ?_
                  refine jj_iload C dX1_tryRedemption_138 rfl ?_
                  refine jj_if_eqF (tgt := 160) C dX1_tryRedemption_140 (by decide) (by decide) ?_
                  refine jj_aload_n C dX1_tryRedemption_143 rfl ?_
                  refine tt_getF C hok_77 jk_3 1 (by decide) jw_158 (t := (1, (-9223372036854775808), 9223372036854775807)) hk0 (by decide) rfl rfl hf_60 dX1_tryRedemption_144 ?_
                  refine jj_aload_n C dX1_tryRedemption_147 rfl ?_
                  refine tt_get C hok_77 jk_3 4 (by decide) jw_161 (t := (1, (-9223372036854775808), 9223372036854775807)) hk0 (by decide) rfl rfl dX1_tryRedemption_148 (fun v_80 hv_80 hf_81 => ?_)
                  obtain ⟨y_82, rfl, -, -⟩ := tt_vj hv_80
                  obtain ⟨y_83, ey_83⟩ : ∃ z : Int64, y_61 + y_82 = z := ⟨_, rfl⟩
                  refine jj_ladd (v := y_83) C dX1_tryRedemption_151 ey_83 ?_
                  refine jj_aload_n C dX1_tryRedemption_152 rfl ?_
                  refine tt_get C hok_77 jk_3 5 (by decide) jw_162 (t := (1, (-9223372036854775808), 9223372036854775807)) hk0 (by decide) rfl rfl dX1_tryRedemption_153 (fun v_84 hv_84 hf_85 => ?_)
                  obtain ⟨y_86, rfl, -, -⟩ := tt_vj hv_84
                  obtain ⟨y_87, ey_87⟩ : ∃ z : Int64, y_83 - y_86 = z := ⟨_, rfl⟩
                  refine jj_lsub (v := y_87) C dX1_tryRedemption_156 ey_87 ?_
                  refine jj_goto (tgt := 164) C dX1_tryRedemption_157 (by decide) ?_
                  obtain ⟨y_88, ey_88⟩ : ∃ z : Int64, y_4 + y_87 = z := ⟨_, rfl⟩
                  refine jj_ladd (v := y_88) C dX1_tryRedemption_164 ey_88 ?_
                  refine jj_lstore C dX1_tryRedemption_165 (by decide) rfl ?_
                  obtain ⟨x_89, ex_89, vx_89⟩ := tt_inc (x := x_2) (n := 1) (by omega) (by omega)
                  refine jj_iinc (v := x_89) C dX1_tryRedemption_167 rfl ex_89 (by decide) rfl ?_
                  refine jj_goto (tgt := 9) C dX1_tryRedemption_170 (by decide) ?_
                  refine jj_loc [0, 2, 1, 6, 7, 8, 9, 10] rfl ?_
                  exact ihL_1 pl_76 x_89 y_79 y_88 hok_77 hfr (by first | omega | decide | exact tt_lo _ | exact tt_hi _) (by first | omega | decide | exact tt_lo _ | exact tt_hi _) (by first | omega | decide | exact tt_lo _ | exact tt_hi _)
                · refine jj_lstore C dX1_tryRedemption_70 (by decide) rfl ?_
                  refine jj_aload_n C dX1_tryRedemption_72 rfl ?_
                  refine jj_aload_n C dX1_tryRedemption_73 rfl ?_
                  refine jj_aload_n C dX1_tryRedemption_74 rfl ?_
                  refine tt_get C hok_19 jk_3 0 (by decide) jw_81 (t := (2, 6, 0)) hk0 (by decide) rfl rfl dX1_tryRedemption_75 (fun v_90 hv_90 hf_91 => ?_)
                  obtain ⟨a_92, rfl, ka_92⟩ := tt_vr hv_90
                  refine jj_iload C dX1_tryRedemption_78 rfl ?_
                  refine tt_aald C hok_19 (t := (2, 2, 0)) ka_92 (by decide) rfl rfl rfl (vp_in_iff.mpr ⟨by omega, by omega⟩) dX1_tryRedemption_80 (fun v_93 hv_93 => ?_)
                  obtain ⟨a_94, rfl, ka_94⟩ := tt_vr hv_93
                  refine jj_aload C dX1_tryRedemption_81 rfl ?_
                  refine jj_lload C dX1_tryRedemption_83 rfl ?_
                  obtain ⟨qc, gs, hqc⟩ := tt_recv (cx := []) hok_19 hk0 (by decide) rfl
                  refine tt_callV (rest := []) C (tc_X1_quote_1 hl D cA ak h0 h1 a_94 a_14 y_3 hk0 hk1 ka_94 ka_14 hok_19) [] [] rfl rfl (by decide) (by decide) (by decide) qc hqc rfl rfl jw_147 jw_180 jw_181 jw_74 jw_148 jn_X1_quote rfl (jj_le rfl) (jj_le rfl) (jj_le rfl) (jj_le rfl) (jj_le rfl) dX1_tryRedemption_85 rfl (fun _ _ _ hX => hX.elim) (fun rx pl_95 r O_98 => ?_)
                  obtain ⟨rfl, hok_96, hr_97, hR_100⟩ := O_98
                  replace hf_6 := hr_97.at hk1 (by decide) (by decide) hf_6
                  replace hf_11 := hr_97.at hk1 (by decide) (by decide) hf_11
                  replace hf_16 := hr_97.at ka_14 (by decide) (by decide) hf_16
                  replace hf_32 := hr_97.at ka_14 (by decide) (by decide) hf_32
                  replace hf_38 := hr_97.at ka_14 (by decide) (by decide) hf_38
                  replace hf_91 := hr_97.at hk0 (by decide) (by decide) hf_91
                  replace hfr := hfr.trans (hr_97.sub (by decide))
                  obtain rfl := hR_100
                  refine jj_aload_n C dX1_tryRedemption_88 rfl ?_
                  refine tt_getF C hok_96 jk_3 0 (by decide) jw_81 (t := (2, 6, 0)) hk0 (by decide) rfl rfl hf_91 dX1_tryRedemption_89 ?_
                  refine jj_iload C dX1_tryRedemption_92 rfl ?_
                  refine tt_aald C hok_96 (t := (2, 2, 0)) ka_92 (by decide) rfl rfl rfl (vp_in_iff.mpr ⟨by omega, by omega⟩) dX1_tryRedemption_94 (fun v_101 hv_101 => ?_)
                  obtain ⟨a_102, rfl, ka_102⟩ := tt_vr hv_101
                  refine jj_dup C dX1_tryRedemption_95 rfl ?_
                  refine tt_get C hok_96 jk_9 2 (by decide) jw_113 (t := (1, (-9223372036854775808), 9223372036854775807)) ka_102 (by decide) rfl rfl dX1_tryRedemption_96 (fun v_103 hv_103 hf_104 => ?_)
                  obtain ⟨y_105, rfl, -, -⟩ := tt_vj hv_103
                  refine jj_aload_n C dX1_tryRedemption_99 rfl ?_
                  refine tt_get C hok_96 jk_3 1 (by decide) jw_158 (t := (1, (-9223372036854775808), 9223372036854775807)) hk0 (by decide) rfl rfl dX1_tryRedemption_100 (fun v_106 hv_106 hf_107 => ?_)
                  obtain ⟨y_108, rfl, -, -⟩ := tt_vj hv_106
                  refine jj_aload_n C dX1_tryRedemption_103 rfl ?_
                  refine tt_get C hok_96 jk_3 2 (by decide) jw_159 (t := (1, (-9223372036854775808), 9223372036854775807)) hk0 (by decide) rfl rfl dX1_tryRedemption_104 (fun v_109 hv_109 hf_110 => ?_)
                  obtain ⟨y_111, rfl, -, -⟩ := tt_vj hv_109
                  obtain ⟨y_112, ey_112⟩ : ∃ z : Int64, y_108 + y_111 = z := ⟨_, rfl⟩
                  refine jj_ladd (v := y_112) C dX1_tryRedemption_107 ey_112 ?_
                  obtain ⟨y_113, ey_113⟩ : ∃ z : Int64, y_105 - y_112 = z := ⟨_, rfl⟩
                  refine jj_lsub (v := y_113) C dX1_tryRedemption_108 ey_113 ?_
                  refine tt_put C hok_96 jk_9 2 (by decide) jw_113 (t := (1, (-9223372036854775808), 9223372036854775807)) ka_102 (by decide) rfl rfl rfl (tt_ja y_113) rfl rfl dX1_tryRedemption_109 (fun pl_114 hok_115 tr hn => ?_)
                  replace hf_6 := tr _ _ _ (Or.inl (tt_ne hk1 ka_102 (by decide))) hf_6
                  replace hf_11 := tr _ _ _ (Or.inl (tt_ne hk1 ka_102 (by decide))) hf_11
                  replace hf_16 := tr _ _ _ (Or.inl (tt_ne ka_14 ka_102 (by decide))) hf_16
                  replace hf_32 := tr _ _ _ (Or.inl (tt_ne ka_14 ka_102 (by decide))) hf_32
                  replace hf_38 := tr _ _ _ (Or.inl (tt_ne ka_14 ka_102 (by decide))) hf_38
                  replace hf_91 := tr _ _ _ (Or.inl (tt_ne hk0 ka_102 (by decide))) hf_91
                  replace hf_107 := tr _ _ _ (Or.inl (tt_ne hk0 ka_102 (by decide))) hf_107
                  replace hf_110 := tr _ _ _ (Or.inl (tt_ne hk0 ka_102 (by decide))) hf_110
                  have hf_116 := hn
                  replace hfr := hfr.put ka_102 tr (by decide)
                  refine jj_aload_n C dX1_tryRedemption_112 rfl ?_
                  refine tt_getF C hok_115 jk_3 0 (by decide) jw_81 (t := (2, 6, 0)) hk0 (by decide) rfl rfl hf_91 dX1_tryRedemption_113 ?_
                  refine jj_iload C dX1_tryRedemption_116 rfl ?_
                  refine tt_aald C hok_115 (t := (2, 2, 0)) ka_92 (by decide) rfl rfl rfl (vp_in_iff.mpr ⟨by omega, by omega⟩) dX1_tryRedemption_118 (fun v_117 hv_117 => ?_)
                  obtain ⟨a_118, rfl, ka_118⟩ := tt_vr hv_117
                  refine jj_dup C dX1_tryRedemption_119 rfl ?_
                  refine tt_get C hok_115 jk_9 3 (by decide) jw_157 (t := (1, (-9223372036854775808), 9223372036854775807)) ka_118 (by decide) rfl rfl dX1_tryRedemption_120 (fun v_119 hv_119 hf_120 => ?_)
                  obtain ⟨y_121, rfl, -, -⟩ := tt_vj hv_119
                  refine jj_lload C dX1_tryRedemption_123 rfl ?_
                  obtain ⟨y_122, ey_122⟩ : ∃ z : Int64, y_121 - y_3 = z := ⟨_, rfl⟩
                  refine jj_lsub (v := y_122) C dX1_tryRedemption_125 ey_122 ?_
                  refine tt_put C hok_115 jk_9 3 (by decide) jw_157 (t := (1, (-9223372036854775808), 9223372036854775807)) ka_118 (by decide) rfl rfl rfl (tt_ja y_122) rfl rfl dX1_tryRedemption_126 (fun pl_123 hok_124 tr hn => ?_)
                  replace hf_6 := tr _ _ _ (Or.inl (tt_ne hk1 ka_118 (by decide))) hf_6
                  replace hf_11 := tr _ _ _ (Or.inl (tt_ne hk1 ka_118 (by decide))) hf_11
                  replace hf_16 := tr _ _ _ (Or.inl (tt_ne ka_14 ka_118 (by decide))) hf_16
                  replace hf_32 := tr _ _ _ (Or.inl (tt_ne ka_14 ka_118 (by decide))) hf_32
                  replace hf_38 := tr _ _ _ (Or.inl (tt_ne ka_14 ka_118 (by decide))) hf_38
                  replace hf_91 := tr _ _ _ (Or.inl (tt_ne hk0 ka_118 (by decide))) hf_91
                  replace hf_107 := tr _ _ _ (Or.inl (tt_ne hk0 ka_118 (by decide))) hf_107
                  replace hf_110 := tr _ _ _ (Or.inl (tt_ne hk0 ka_118 (by decide))) hf_110
                  replace hf_116 := tr _ _ _ (Or.inr (by decide)) hf_116
                  have hf_125 := hn
                  replace hfr := hfr.put ka_118 tr (by decide)
                  refine jj_lload C dX1_tryRedemption_129 rfl ?_
                  refine jj_lload C dX1_tryRedemption_131 rfl ?_
                  obtain ⟨y_126, ey_126⟩ : ∃ z : Int64, y_3 - y_3 = z := ⟨_, rfl⟩
                  refine jj_lsub (v := y_126) C dX1_tryRedemption_133 ey_126 ?_
                  refine jj_lstore C dX1_tryRedemption_134 (by decide) rfl ?_
                  refine jj_lload C dX1_tryRedemption_136 rfl ?_
                  refine jj_iload C dX1_tryRedemption_138 rfl ?_
                  refine jj_if_eqF (tgt := 160) C dX1_tryRedemption_140 (by decide) (by decide) ?_
                  refine jj_aload_n C dX1_tryRedemption_143 rfl ?_
                  refine tt_getF C hok_124 jk_3 1 (by decide) jw_158 (t := (1, (-9223372036854775808), 9223372036854775807)) hk0 (by decide) rfl rfl hf_107 dX1_tryRedemption_144 ?_
                  refine jj_aload_n C dX1_tryRedemption_147 rfl ?_
                  refine tt_get C hok_124 jk_3 4 (by decide) jw_161 (t := (1, (-9223372036854775808), 9223372036854775807)) hk0 (by decide) rfl rfl dX1_tryRedemption_148 (fun v_127 hv_127 hf_128 => ?_)
                  obtain ⟨y_129, rfl, -, -⟩ := tt_vj hv_127
                  obtain ⟨y_130, ey_130⟩ : ∃ z : Int64, y_108 + y_129 = z := ⟨_, rfl⟩
                  refine jj_ladd (v := y_130) C dX1_tryRedemption_151 ey_130 ?_
                  refine jj_aload_n C dX1_tryRedemption_152 rfl ?_
                  refine tt_get C hok_124 jk_3 5 (by decide) jw_162 (t := (1, (-9223372036854775808), 9223372036854775807)) hk0 (by decide) rfl rfl dX1_tryRedemption_153 (fun v_131 hv_131 hf_132 => ?_)
                  obtain ⟨y_133, rfl, -, -⟩ := tt_vj hv_131
                  obtain ⟨y_134, ey_134⟩ : ∃ z : Int64, y_130 - y_133 = z := ⟨_, rfl⟩
                  refine jj_lsub (v := y_134) C dX1_tryRedemption_156 ey_134 ?_
                  refine jj_goto (tgt := 164) C dX1_tryRedemption_157 (by decide) ?_
                  obtain ⟨y_135, ey_135⟩ : ∃ z : Int64, y_4 + y_134 = z := ⟨_, rfl⟩
                  refine jj_ladd (v := y_135) C dX1_tryRedemption_164 ey_135 ?_
                  refine jj_lstore C dX1_tryRedemption_165 (by decide) rfl ?_
                  obtain ⟨x_136, ex_136, vx_136⟩ := tt_inc (x := x_2) (n := 1) (by omega) (by omega)
                  refine jj_iinc (v := x_136) C dX1_tryRedemption_167 rfl ex_136 (by decide) rfl ?_
                  refine jj_goto (tgt := 9) C dX1_tryRedemption_170 (by decide) ?_
                  refine jj_loc [0, 2, 1, 6, 7, 8, 9, 10] rfl ?_
                  exact ihL_1 pl_123 x_136 y_126 y_135 hok_124 hfr (by first | omega | decide | exact tt_lo _ | exact tt_hi _) (by first | omega | decide | exact tt_lo _ | exact tt_hi _) (by first | omega | decide | exact tt_lo _ | exact tt_hi _)
  exact hL_1 _ pl0 (0 : Int32) (9223372036854775807 : Int64) (0 : Int64) trivial hok hfr (by first | omega | decide | exact tt_lo _ | exact tt_hi _) (by first | omega | decide | exact tt_lo _ | exact tt_hi _) (Int.self_le_toNat _)

set_option maxHeartbeats 4000000 in
set_option maxRecDepth 100000 in
theorem tc_X1_payAfterRate_2 {l : Launch} (hl : l.stackTraces = false) (D : va_G) (cA : Nat → ClassId) (ak : (Nat → Nat) × (Nat → Nat)) {Kd : Nat → Nat} (h0 : Nat) (h1 : Nat) (p2 : Int32) (hk0 : Kd h0 = 9) (hk1 : Kd h1 = 1) (lp2 : (0 : Int) ≤ p2.toInt) (up2 : p2.toInt ≤ 0) {pl0 : va_W} (hok : tt_ok tt_tk cA Kd pl0) : jj_M l D cA ak yX1_payAfterRate (.code yX1_payAfterRate cX1_payAfterRate 4 (some .long)) 3 88 0 0 ([] ++ pl0) [.ref h0, .ref h1, .int p2, .int 0] (tt_O (fun rx pl1 r => rx = [] ∧ tt_ok tt_tk cA Kd pl1 ∧ tt_fr Kd [(2, 0), (2, 1), (2, 2), (2, 3), (2, 4), (9, 1), (9, 2), (9, 3), (9, 4), (9, 5)] pl0 pl1 ∧ ((∃ v : Int64, r = some (.long v))))) (tt_OX (fun _ _ _ => False)) := by
  refine jj_start hl (by decide) jw_438 (jj_le rfl) ?_
  intro p e s m args below meth c A hargs hA C hex hmn
  have hfr := tt_fr.refl (K := Kd) (WS := [(2, 0), (2, 1), (2, 2), (2, 3), (2, 4), (9, 1), (9, 2), (9, 3), (9, 4), (9, 5)]) pl0
  refine jj_aload_n C dX1_payAfterRate_0 rfl ?_
  refine jj_aload_n C dX1_payAfterRate_1 rfl ?_
  refine jj_iload_n C dX1_payAfterRate_2 rfl ?_
  obtain ⟨qc, gs, hqc⟩ := tt_recv (cx := []) hok hk0 (by decide) rfl
  refine tt_callV (rest := []) C (tc_X1_resetTrial_1 hl D cA ak h0 h1 hk0 hk1 hok) [] [] rfl rfl (by decide) (by decide) (by decide) qc hqc rfl rfl jw_78 jw_114 jw_115 jw_74 jw_79 jn_X1_resetTrial rfl (jj_le rfl) (jj_le rfl) (jj_le rfl) (jj_le rfl) (jj_le rfl) dX1_payAfterRate_3 rfl (fun _ _ _ hX => hX.elim) (fun rx pl_1 r O_4 => ?_)
  obtain ⟨rfl, hok_2, hr_3, hR_6⟩ := O_4
  replace hfr := hfr.trans (hr_3.sub (by decide))
  obtain rfl := hR_6
  refine jj_aload_n C dX1_payAfterRate_6 rfl ?_
  refine jj_aload_n C dX1_payAfterRate_7 rfl ?_
  refine jj_iload_n C dX1_payAfterRate_8 rfl ?_
  refine jj_ldc2 (v := 9223372036854775807) C dX1_payAfterRate_9 jw_439 ?_
  refine jj_iconst (v := 1) C dX1_payAfterRate_12 (by decide) ?_
  obtain ⟨qc, gs, hqc⟩ := tt_recv (cx := []) hok_2 hk0 (by decide) rfl
  refine tt_callV (rest := []) C (tc_X1_tryRedemption_3 hl D cA ak h0 h1 p2 hk0 hk1 (by omega) (by omega) hok_2) [] [] rfl rfl (by decide) (by decide) (by decide) qc hqc rfl rfl jw_119 jw_183 jw_184 jw_74 jw_120 jn_X1_tryRedemption rfl (jj_le rfl) (jj_le rfl) (jj_le rfl) (jj_le rfl) (jj_le rfl) dX1_payAfterRate_13 rfl (fun _ _ _ hX => hX.elim) (fun rx pl_7 r O_10 => ?_)
  obtain ⟨rfl, hok_8, hr_9, hR_12⟩ := O_10
  replace hfr := hfr.trans (hr_9.sub (by decide))
  obtain ⟨y_13, rfl⟩ := hR_12
  exact jj_lret C ⟨[], pl_7, rfl, rfl, hok_8, hfr, ⟨y_13, rfl⟩⟩ dX1_payAfterRate_16 (jj_le rfl) (jj_le rfl)

set_option maxHeartbeats 4000000 in
set_option maxRecDepth 100000 in
theorem tc_X1_tryRedemption_4 {l : Launch} (hl : l.stackTraces = false) (D : va_G) (cA : Nat → ClassId) (ak : (Nat → Nat) × (Nat → Nat)) {Kd : Nat → Nat} (h0 : Nat) (h1 : Nat) (p2 : Int32) (hk0 : Kd h0 = 9) (hk1 : Kd h1 = 1) (lp2 : (0 : Int) ≤ p2.toInt) (up2 : p2.toInt ≤ 1) {pl0 : va_W} (hok : tt_ok tt_tk cA Kd pl0) : jj_M l D cA ak yX1_tryRedemption (.code yX1_tryRedemption cX1_tryRedemption 15 (some .long)) 2 54 0 0 ([] ++ pl0) [.ref h0, .ref h1, .int p2, .long 9223372036854775807, .int 1] (tt_O (fun rx pl1 r => rx = [] ∧ tt_ok tt_tk cA Kd pl1 ∧ tt_fr Kd [(2, 2), (2, 3), (9, 1), (9, 2), (9, 3), (9, 4), (9, 5)] pl0 pl1 ∧ ((∃ v : Int64, r = some (.long v))))) (tt_OX (fun _ _ _ => False)) := by
  refine jj_start hl (by decide) jw_120 (jj_le rfl) ?_
  intro p e s m args below meth c A hargs hA C hex hmn
  have hfr := tt_fr.refl (K := Kd) (WS := [(2, 2), (2, 3), (9, 1), (9, 2), (9, 3), (9, 4), (9, 5)]) pl0
  refine jj_lconst (v := 0) C dX1_tryRedemption_0 (by decide) ?_
  refine jj_lstore C dX1_tryRedemption_1 (by decide) rfl ?_
  refine jj_lload_n C dX1_tryRedemption_3 rfl ?_
  refine jj_lstore C dX1_tryRedemption_4 (by decide) rfl ?_
  refine jj_iconst (v := 0) C dX1_tryRedemption_6 (by decide) ?_
  refine jj_istore C dX1_tryRedemption_7 (by decide) rfl ?_
  have hL_1 : ∀ (N : Nat) (pl : va_W) (x_2 : Int32) (y_3 : Int64) (y_4 : Int64), True → tt_ok tt_tk cA Kd pl → tt_fr Kd [(2, 2), (2, 3), (9, 1), (9, 2), (9, 3), (9, 4), (9, 5)] pl0 pl → (0 : Int) ≤ x_2.toInt → x_2.toInt ≤ 40 → (2147483648 - x_2.toInt ≤ (N : Int)) → jj_J p l e (jj_rm 2 54 0 0) s m args below meth c 15 A (vx_MQ below (jj_q D A (tt_O (fun rx pl1 r => rx = [] ∧ tt_ok tt_tk cA Kd pl1 ∧ tt_fr Kd [(2, 2), (2, 3), (9, 1), (9, 2), (9, 3), (9, 4), (9, 5)] pl0 pl1 ∧ ((∃ v : Int64, r = some (.long v)))))) (jj_x D A (tt_OX (fun _ _ _ => False))) args s 0 0 A) (jj_X D A ([] ++ pl)) 0 0 9 [(10, .int x_2), (8, .long y_3), (6, .long y_4), (0, .ref h0), (1, .ref h1), (2, .int p2), (3, .long 9223372036854775807), (5, .int 1)] [] := by
    intro NL_1
    induction NL_1 with
    | zero => intro pl x_2 y_3 y_4 _ hok hfr lx_2 ux_2 hNL_1; exfalso; omega
    | succ NL_1 ihL_1 =>
      intro pl x_2 y_3 y_4 _ hok hfr lx_2 ux_2 hNL_1
      replace ihL_1 := fun pl x_2 y_3 y_4 h1 => ihL_1 pl x_2 y_3 y_4 trivial h1
      refine jj_iload C dX1_tryRedemption_9 rfl ?_
      refine jj_aload_n C dX1_tryRedemption_11 rfl ?_
      refine tt_get C hok jk_2 8 (by decide) jw_121 (t := (0, 0, 40)) hk1 (by decide) rfl rfl dX1_tryRedemption_12 (fun v_5 hv_5 hf_6 => ?_)
      obtain ⟨x_7, rfl, lx_7, ux_7⟩ := tt_vi hv_5
      refine jj_icmp_ge (tgt := 173) C dX1_tryRedemption_15 (by decide) (fun c_8 => ?_) (fun c_8 => ?_)
      · have z_c_8 := jc_le (a := (x_7).toInt) (b := (x_2).toInt) c_8 rfl rfl
        refine jj_lload C dX1_tryRedemption_173 rfl ?_
        exact jj_lret C ⟨[], pl, rfl, rfl, hok, hfr, ⟨y_4, rfl⟩⟩ dX1_tryRedemption_175 (jj_le rfl) (jj_le rfl)
      · have z_c_8 := jc_nle (a := (x_7).toInt) (b := (x_2).toInt) c_8 rfl rfl
        refine jj_lload C dX1_tryRedemption_18 rfl ?_
        refine jj_lconst (v := 0) C dX1_tryRedemption_20 (by decide) ?_
        refine jj_lcmp_le (tgt := 173) C dX1_tryRedemption_21 dX1_tryRedemption_22 (by decide) (fun c_9 => ?_) (fun c_9 => ?_)
        · refine jj_lload C dX1_tryRedemption_173 rfl ?_
          exact jj_lret C ⟨[], pl, rfl, rfl, hok, hfr, ⟨y_4, rfl⟩⟩ dX1_tryRedemption_175 (jj_le rfl) (jj_le rfl)
        · refine jj_aload_n C dX1_tryRedemption_25 rfl ?_
          refine tt_get C hok jk_2 12 (by decide) jw_122 (t := (2, 7, 0)) hk1 (by decide) rfl rfl dX1_tryRedemption_26 (fun v_10 hv_10 hf_11 => ?_)
          obtain ⟨a_12, rfl, ka_12⟩ := tt_vr hv_10
          refine jj_iload C dX1_tryRedemption_29 rfl ?_
          refine tt_aald C hok (t := (2, 3, 0)) ka_12 (by decide) rfl rfl rfl (vp_in_iff.mpr ⟨by omega, by omega⟩) dX1_tryRedemption_31 (fun v_13 hv_13 => ?_)
          obtain ⟨a_14, rfl, ka_14⟩ := tt_vr hv_13
          refine jj_astore C dX1_tryRedemption_32 (by decide) rfl ?_
          refine jj_aload_n C dX1_tryRedemption_34 rfl ?_
          refine jj_aload C dX1_tryRedemption_35 rfl ?_
          refine tt_get C hok jk_5 1 (by decide) jw_123 (t := (0, (-2147483648), 2147483647)) ka_14 (by decide) rfl rfl dX1_tryRedemption_37 (fun v_15 hv_15 hf_16 => ?_)
          obtain ⟨x_17, rfl, lx_17, ux_17⟩ := tt_vi hv_15
          obtain ⟨qc, gs, hqc⟩ := tt_recv (cx := []) hok hk1 (by decide) rfl
          refine tt_callV (rest := []) C (tc_X0_placeOfSeries_1 hl D cA ak h1 x_17 hk1 hok) [] [] rfl rfl (by decide) (by decide) (by decide) qc hqc rfl rfl jw_131 jw_137 jw_138 jw_133 jw_132 jn_X0_placeOfSeries rfl (jj_le rfl) (jj_le rfl) (jj_le rfl) (jj_le rfl) (jj_le rfl) dX1_tryRedemption_40 rfl (fun _ _ _ hX => hX.elim) (fun rx pl_18 r O_21 => ?_)
          obtain ⟨rfl, hok_19, hr_20, hR_23⟩ := O_21
          replace hf_6 := hr_20.at hk1 (by decide) (by decide) hf_6
          replace hf_11 := hr_20.at hk1 (by decide) (by decide) hf_11
          replace hf_16 := hr_20.at ka_14 (by decide) (by decide) hf_16
          replace hfr := hfr.trans (hr_20.sub (by decide))
          rcases hR_23 with rfl | ⟨x_24, lx_24, ux_24, rfl⟩
          · refine jj_istore C dX1_tryRedemption_43 (by decide) rfl ?_
            refine jj_aload C dX1_tryRedemption_45 rfl ?_
            refine tt_get C hok_19 jk_5 0 (by decide) jw_140 (t := (0, (-2147483648), 2147483647)) ka_14 (by decide) rfl rfl dX1_tryRedemption_47 (fun v_25 hv_25 hf_26 => ?_)
            obtain ⟨x_27, rfl, lx_27, ux_27⟩ := tt_vi hv_25
            refine jj_iload_n C dX1_tryRedemption_50 rfl ?_
            refine jj_icmp_ne (tgt := 167) C dX1_tryRedemption_51 (by decide) (fun c_28 => ?_) (fun c_28 => ?_)
            · have z_c_28 := jc_neq (a := (x_27).toInt) (b := (p2).toInt) c_28 rfl rfl
              obtain ⟨x_29, ex_29, vx_29⟩ := tt_inc (x := x_2) (n := 1) (by omega) (by omega)
              refine jj_iinc (v := x_29) C dX1_tryRedemption_167 rfl ex_29 (by decide) rfl ?_
              refine jj_goto (tgt := 9) C dX1_tryRedemption_170 (by decide) ?_
              refine jj_loc [0, 3, 4, 5, 6, 7, 8, 9] rfl ?_
              exact ihL_1 pl_18 x_29 y_3 y_4 hok_19 hfr (by first | omega | decide | exact tt_lo _ | exact tt_hi _) (by first | omega | decide | exact tt_lo _ | exact tt_hi _) (by first | omega | decide | exact tt_lo _ | exact tt_hi _)
            · have z_c_28 := jc_eq (a := (x_27).toInt) (b := (p2).toInt) c_28 rfl rfl
              refine jj_iload C dX1_tryRedemption_54 rfl ?_
              refine jj_iconst (v := (-1)) C dX1_tryRedemption_56 (by decide) ?_
              refine jj_icmp_eqT (tgt := 167) C dX1_tryRedemption_57 (by decide) (by decide) ?_
              obtain ⟨x_30, ex_30, vx_30⟩ := tt_inc (x := x_2) (n := 1) (by omega) (by omega)
              refine jj_iinc (v := x_30) C dX1_tryRedemption_167 rfl ex_30 (by decide) rfl ?_
              refine jj_goto (tgt := 9) C dX1_tryRedemption_170 (by decide) ?_
              refine jj_loc [0, 3, 4, 5, 6, 7, 8, 9] rfl ?_
              exact ihL_1 pl_18 x_30 y_3 y_4 hok_19 hfr (by first | omega | decide | exact tt_lo _ | exact tt_hi _) (by first | omega | decide | exact tt_lo _ | exact tt_hi _) (by first | omega | decide | exact tt_lo _ | exact tt_hi _)
          · refine jj_istore C dX1_tryRedemption_43 (by decide) rfl ?_
            refine jj_aload C dX1_tryRedemption_45 rfl ?_
            refine tt_get C hok_19 jk_5 0 (by decide) jw_140 (t := (0, (-2147483648), 2147483647)) ka_14 (by decide) rfl rfl dX1_tryRedemption_47 (fun v_31 hv_31 hf_32 => ?_)
            obtain ⟨x_33, rfl, lx_33, ux_33⟩ := tt_vi hv_31
            refine jj_iload_n C dX1_tryRedemption_50 rfl ?_
            refine jj_icmp_ne (tgt := 167) C dX1_tryRedemption_51 (by decide) (fun c_34 => ?_) (fun c_34 => ?_)
            · have z_c_34 := jc_neq (a := (x_33).toInt) (b := (p2).toInt) c_34 rfl rfl
              obtain ⟨x_35, ex_35, vx_35⟩ := tt_inc (x := x_2) (n := 1) (by omega) (by omega)
              refine jj_iinc (v := x_35) C dX1_tryRedemption_167 rfl ex_35 (by decide) rfl ?_
              refine jj_goto (tgt := 9) C dX1_tryRedemption_170 (by decide) ?_
              refine jj_loc [0, 3, 4, 5, 6, 7, 8, 9] rfl ?_
              exact ihL_1 pl_18 x_35 y_3 y_4 hok_19 hfr (by first | omega | decide | exact tt_lo _ | exact tt_hi _) (by first | omega | decide | exact tt_lo _ | exact tt_hi _) (by first | omega | decide | exact tt_lo _ | exact tt_hi _)
            · have z_c_34 := jc_eq (a := (x_33).toInt) (b := (p2).toInt) c_34 rfl rfl
              refine jj_iload C dX1_tryRedemption_54 rfl ?_
              refine jj_iconst (v := (-1)) C dX1_tryRedemption_56 (by decide) ?_
              refine jj_icmp_eq (tgt := 167) C dX1_tryRedemption_57 (by decide) (fun c_36 => ?_) (fun c_36 => ?_)
              · have z_c_36 := jc_eq (a := (x_24).toInt) (b := (-1)) c_36 rfl (by decide)
                exfalso; omega
              · have z_c_36 := jc_neq (a := (x_24).toInt) (b := (-1)) c_36 rfl (by decide)
                refine jj_lload C dX1_tryRedemption_60 rfl ?_
                refine jj_aload C dX1_tryRedemption_62 rfl ?_
                refine tt_get C hok_19 jk_5 3 (by decide) jw_141 (t := (1, (-9223372036854775808), 9223372036854775807)) ka_14 (by decide) rfl rfl dX1_tryRedemption_64 (fun v_37 hv_37 hf_38 => ?_)
                obtain ⟨y_39, rfl, -, -⟩ := tt_vj hv_37
                refine tt_call0S (rest := []) C (ct_J9_min_f86c9_1 hl D cA ak y_3 y_39) jw_142 jw_145 jw_144 jw_143 jn_J9_min_f86c9 rfl (jj_le rfl) (jj_le rfl) (jj_le rfl) (jj_le rfl) (jj_le rfl) dX1_tryRedemption_67 rfl (fun w1 r O_40 => ?_)
                rcases O_40 with ⟨c_41, -, rfl⟩ | ⟨c_42, -, rfl⟩
                · refine jj_lstore C dX1_tryRedemption_70 (by decide) rfl ?_
                  refine jj_aload_n C dX1_tryRedemption_72 rfl ?_
                  refine jj_aload_n C dX1_tryRedemption_73 rfl ?_
                  refine jj_aload_n C dX1_tryRedemption_74 rfl ?_
                  refine tt_get C hok_19 jk_3 0 (by decide) jw_81 (t := (2, 6, 0)) hk0 (by decide) rfl rfl dX1_tryRedemption_75 (fun v_43 hv_43 hf_44 => ?_)
                  obtain ⟨a_45, rfl, ka_45⟩ := tt_vr hv_43
                  refine jj_iload C dX1_tryRedemption_78 rfl ?_
                  refine tt_aald C hok_19 (t := (2, 2, 0)) ka_45 (by decide) rfl rfl rfl (vp_in_iff.mpr ⟨by omega, by omega⟩) dX1_tryRedemption_80 (fun v_46 hv_46 => ?_)
                  obtain ⟨a_47, rfl, ka_47⟩ := tt_vr hv_46
                  refine jj_aload C dX1_tryRedemption_81 rfl ?_
                  refine jj_lload C dX1_tryRedemption_83 rfl ?_
                  obtain ⟨qc, gs, hqc⟩ := tt_recv (cx := []) hok_19 hk0 (by decide) rfl
                  refine tt_callV (rest := []) C (tc_X1_quote_1 hl D cA ak h0 h1 a_47 a_14 y_39 hk0 hk1 ka_47 ka_14 hok_19) [] [] rfl rfl (by decide) (by decide) (by decide) qc hqc rfl rfl jw_147 jw_180 jw_181 jw_74 jw_148 jn_X1_quote rfl (jj_le rfl) (jj_le rfl) (jj_le rfl) (jj_le rfl) (jj_le rfl) dX1_tryRedemption_85 rfl (fun _ _ _ hX => hX.elim) (fun rx pl_48 r O_51 => ?_)
                  obtain ⟨rfl, hok_49, hr_50, hR_53⟩ := O_51
                  replace hf_6 := hr_50.at hk1 (by decide) (by decide) hf_6
                  replace hf_11 := hr_50.at hk1 (by decide) (by decide) hf_11
                  replace hf_16 := hr_50.at ka_14 (by decide) (by decide) hf_16
                  replace hf_32 := hr_50.at ka_14 (by decide) (by decide) hf_32
                  replace hf_38 := hr_50.at ka_14 (by decide) (by decide) hf_38
                  replace hf_44 := hr_50.at hk0 (by decide) (by decide) hf_44
                  replace hfr := hfr.trans (hr_50.sub (by decide))
                  obtain rfl := hR_53
                  refine jj_aload_n C dX1_tryRedemption_88 rfl ?_
                  refine tt_getF C hok_49 jk_3 0 (by decide) jw_81 (t := (2, 6, 0)) hk0 (by decide) rfl rfl hf_44 dX1_tryRedemption_89 ?_
                  refine jj_iload C dX1_tryRedemption_92 rfl ?_
                  refine tt_aald C hok_49 (t := (2, 2, 0)) ka_45 (by decide) rfl rfl rfl (vp_in_iff.mpr ⟨by omega, by omega⟩) dX1_tryRedemption_94 (fun v_54 hv_54 => ?_)
                  obtain ⟨a_55, rfl, ka_55⟩ := tt_vr hv_54
                  refine jj_dup C dX1_tryRedemption_95 rfl ?_
                  refine tt_get C hok_49 jk_9 2 (by decide) jw_113 (t := (1, (-9223372036854775808), 9223372036854775807)) ka_55 (by decide) rfl rfl dX1_tryRedemption_96 (fun v_56 hv_56 hf_57 => ?_)
                  obtain ⟨y_58, rfl, -, -⟩ := tt_vj hv_56
                  refine jj_aload_n C dX1_tryRedemption_99 rfl ?_
                  refine tt_get C hok_49 jk_3 1 (by decide) jw_158 (t := (1, (-9223372036854775808), 9223372036854775807)) hk0 (by decide) rfl rfl dX1_tryRedemption_100 (fun v_59 hv_59 hf_60 => ?_)
                  obtain ⟨y_61, rfl, -, -⟩ := tt_vj hv_59
                  refine jj_aload_n C dX1_tryRedemption_103 rfl ?_
                  refine tt_get C hok_49 jk_3 2 (by decide) jw_159 (t := (1, (-9223372036854775808), 9223372036854775807)) hk0 (by decide) rfl rfl dX1_tryRedemption_104 (fun v_62 hv_62 hf_63 => ?_)
                  obtain ⟨y_64, rfl, -, -⟩ := tt_vj hv_62
                  obtain ⟨y_65, ey_65⟩ : ∃ z : Int64, y_61 + y_64 = z := ⟨_, rfl⟩
                  refine jj_ladd (v := y_65) C dX1_tryRedemption_107 ey_65 ?_
                  obtain ⟨y_66, ey_66⟩ : ∃ z : Int64, y_58 - y_65 = z := ⟨_, rfl⟩
                  refine jj_lsub (v := y_66) C dX1_tryRedemption_108 ey_66 ?_
                  refine tt_put C hok_49 jk_9 2 (by decide) jw_113 (t := (1, (-9223372036854775808), 9223372036854775807)) ka_55 (by decide) rfl rfl rfl (tt_ja y_66) rfl rfl dX1_tryRedemption_109 (fun pl_67 hok_68 tr hn => ?_)
                  replace hf_6 := tr _ _ _ (Or.inl (tt_ne hk1 ka_55 (by decide))) hf_6
                  replace hf_11 := tr _ _ _ (Or.inl (tt_ne hk1 ka_55 (by decide))) hf_11
                  replace hf_16 := tr _ _ _ (Or.inl (tt_ne ka_14 ka_55 (by decide))) hf_16
                  replace hf_32 := tr _ _ _ (Or.inl (tt_ne ka_14 ka_55 (by decide))) hf_32
                  replace hf_38 := tr _ _ _ (Or.inl (tt_ne ka_14 ka_55 (by decide))) hf_38
                  replace hf_44 := tr _ _ _ (Or.inl (tt_ne hk0 ka_55 (by decide))) hf_44
                  replace hf_60 := tr _ _ _ (Or.inl (tt_ne hk0 ka_55 (by decide))) hf_60
                  replace hf_63 := tr _ _ _ (Or.inl (tt_ne hk0 ka_55 (by decide))) hf_63
                  have hf_69 := hn
                  replace hfr := hfr.put ka_55 tr (by decide)
                  refine jj_aload_n C dX1_tryRedemption_112 rfl ?_
                  refine tt_getF C hok_68 jk_3 0 (by decide) jw_81 (t := (2, 6, 0)) hk0 (by decide) rfl rfl hf_44 dX1_tryRedemption_113 ?_
                  refine jj_iload C dX1_tryRedemption_116 rfl ?_
                  refine tt_aald C hok_68 (t := (2, 2, 0)) ka_45 (by decide) rfl rfl rfl (vp_in_iff.mpr ⟨by omega, by omega⟩) dX1_tryRedemption_118 (fun v_70 hv_70 => ?_)
                  obtain ⟨a_71, rfl, ka_71⟩ := tt_vr hv_70
                  refine jj_dup C dX1_tryRedemption_119 rfl ?_
                  refine tt_get C hok_68 jk_9 3 (by decide) jw_157 (t := (1, (-9223372036854775808), 9223372036854775807)) ka_71 (by decide) rfl rfl dX1_tryRedemption_120 (fun v_72 hv_72 hf_73 => ?_)
                  obtain ⟨y_74, rfl, -, -⟩ := tt_vj hv_72
                  refine jj_lload C dX1_tryRedemption_123 rfl ?_
                  obtain ⟨y_75, ey_75⟩ : ∃ z : Int64, y_74 - y_39 = z := ⟨_, rfl⟩
                  refine jj_lsub (v := y_75) C dX1_tryRedemption_125 ey_75 ?_
                  refine tt_put C hok_68 jk_9 3 (by decide) jw_157 (t := (1, (-9223372036854775808), 9223372036854775807)) ka_71 (by decide) rfl rfl rfl (tt_ja y_75) rfl rfl dX1_tryRedemption_126 (fun pl_76 hok_77 tr hn => ?_)
                  replace hf_6 := tr _ _ _ (Or.inl (tt_ne hk1 ka_71 (by decide))) hf_6
                  replace hf_11 := tr _ _ _ (Or.inl (tt_ne hk1 ka_71 (by decide))) hf_11
                  replace hf_16 := tr _ _ _ (Or.inl (tt_ne ka_14 ka_71 (by decide))) hf_16
                  replace hf_32 := tr _ _ _ (Or.inl (tt_ne ka_14 ka_71 (by decide))) hf_32
                  replace hf_38 := tr _ _ _ (Or.inl (tt_ne ka_14 ka_71 (by decide))) hf_38
                  replace hf_44 := tr _ _ _ (Or.inl (tt_ne hk0 ka_71 (by decide))) hf_44
                  replace hf_60 := tr _ _ _ (Or.inl (tt_ne hk0 ka_71 (by decide))) hf_60
                  replace hf_63 := tr _ _ _ (Or.inl (tt_ne hk0 ka_71 (by decide))) hf_63
                  replace hf_69 := tr _ _ _ (Or.inr (by decide)) hf_69
                  have hf_78 := hn
                  replace hfr := hfr.put ka_71 tr (by decide)
                  refine jj_lload C dX1_tryRedemption_129 rfl ?_
                  refine jj_lload C dX1_tryRedemption_131 rfl ?_
                  obtain ⟨y_79, ey_79⟩ : ∃ z : Int64, y_3 - y_39 = z := ⟨_, rfl⟩
                  refine jj_lsub (v := y_79) C dX1_tryRedemption_133 ey_79 ?_
                  refine jj_lstore C dX1_tryRedemption_134 (by decide) rfl ?_
                  refine jj_lload C dX1_tryRedemption_136 rfl ?_
                  refine jj_iload C dX1_tryRedemption_138 rfl ?_
                  refine jj_if_eqF (tgt := 160) C dX1_tryRedemption_140 (by decide) (by decide) ?_
                  refine jj_aload_n C dX1_tryRedemption_143 rfl ?_
                  refine tt_getF C hok_77 jk_3 1 (by decide) jw_158 (t := (1, (-9223372036854775808), 9223372036854775807)) hk0 (by decide) rfl rfl hf_60 dX1_tryRedemption_144 ?_
                  refine jj_aload_n C dX1_tryRedemption_147 rfl ?_
                  refine tt_get C hok_77 jk_3 4 (by decide) jw_161 (t := (1, (-9223372036854775808), 9223372036854775807)) hk0 (by decide) rfl rfl dX1_tryRedemption_148 (fun v_80 hv_80 hf_81 => ?_)
                  obtain ⟨y_82, rfl, -, -⟩ := tt_vj hv_80
                  obtain ⟨y_83, ey_83⟩ : ∃ z : Int64, y_61 + y_82 = z := ⟨_, rfl⟩
                  refine jj_ladd (v := y_83) C dX1_tryRedemption_151 ey_83 ?_
                  refine jj_aload_n C dX1_tryRedemption_152 rfl ?_
                  refine tt_get C hok_77 jk_3 5 (by decide) jw_162 (t := (1, (-9223372036854775808), 9223372036854775807)) hk0 (by decide) rfl rfl dX1_tryRedemption_153 (fun v_84 hv_84 hf_85 => ?_)
                  obtain ⟨y_86, rfl, -, -⟩ := tt_vj hv_84
                  obtain ⟨y_87, ey_87⟩ : ∃ z : Int64, y_83 - y_86 = z := ⟨_, rfl⟩
                  refine jj_lsub (v := y_87) C dX1_tryRedemption_156 ey_87 ?_
                  refine jj_goto (tgt := 164) C dX1_tryRedemption_157 (by decide) ?_
                  obtain ⟨y_88, ey_88⟩ : ∃ z : Int64, y_4 + y_87 = z := ⟨_, rfl⟩
                  refine jj_ladd (v := y_88) C dX1_tryRedemption_164 ey_88 ?_
                  refine jj_lstore C dX1_tryRedemption_165 (by decide) rfl ?_
                  obtain ⟨x_89, ex_89, vx_89⟩ := tt_inc (x := x_2) (n := 1) (by omega) (by omega)
                  refine jj_iinc (v := x_89) C dX1_tryRedemption_167 rfl ex_89 (by decide) rfl ?_
                  refine jj_goto (tgt := 9) C dX1_tryRedemption_170 (by decide) ?_
                  refine jj_loc [0, 2, 1, 6, 7, 8, 9, 10] rfl ?_
                  exact ihL_1 pl_76 x_89 y_79 y_88 hok_77 hfr (by first | omega | decide | exact tt_lo _ | exact tt_hi _) (by first | omega | decide | exact tt_lo _ | exact tt_hi _) (by first | omega | decide | exact tt_lo _ | exact tt_hi _)
                · refine jj_lstore C dX1_tryRedemption_70 (by decide) rfl ?_
                  refine jj_aload_n C dX1_tryRedemption_72 rfl ?_
                  refine jj_aload_n C dX1_tryRedemption_73 rfl ?_
                  refine jj_aload_n C dX1_tryRedemption_74 rfl ?_
                  refine tt_get C hok_19 jk_3 0 (by decide) jw_81 (t := (2, 6, 0)) hk0 (by decide) rfl rfl dX1_tryRedemption_75 (fun v_90 hv_90 hf_91 => ?_)
                  obtain ⟨a_92, rfl, ka_92⟩ := tt_vr hv_90
                  refine jj_iload C dX1_tryRedemption_78 rfl ?_
                  refine tt_aald C hok_19 (t := (2, 2, 0)) ka_92 (by decide) rfl rfl rfl (vp_in_iff.mpr ⟨by omega, by omega⟩) dX1_tryRedemption_80 (fun v_93 hv_93 => ?_)
                  obtain ⟨a_94, rfl, ka_94⟩ := tt_vr hv_93
                  refine jj_aload C dX1_tryRedemption_81 rfl ?_
                  refine jj_lload C dX1_tryRedemption_83 rfl ?_
                  obtain ⟨qc, gs, hqc⟩ := tt_recv (cx := []) hok_19 hk0 (by decide) rfl
                  refine tt_callV (rest := []) C (tc_X1_quote_1 hl D cA ak h0 h1 a_94 a_14 y_3 hk0 hk1 ka_94 ka_14 hok_19) [] [] rfl rfl (by decide) (by decide) (by decide) qc hqc rfl rfl jw_147 jw_180 jw_181 jw_74 jw_148 jn_X1_quote rfl (jj_le rfl) (jj_le rfl) (jj_le rfl) (jj_le rfl) (jj_le rfl) dX1_tryRedemption_85 rfl (fun _ _ _ hX => hX.elim) (fun rx pl_95 r O_98 => ?_)
                  obtain ⟨rfl, hok_96, hr_97, hR_100⟩ := O_98
                  replace hf_6 := hr_97.at hk1 (by decide) (by decide) hf_6
                  replace hf_11 := hr_97.at hk1 (by decide) (by decide) hf_11
                  replace hf_16 := hr_97.at ka_14 (by decide) (by decide) hf_16
                  replace hf_32 := hr_97.at ka_14 (by decide) (by decide) hf_32
                  replace hf_38 := hr_97.at ka_14 (by decide) (by decide) hf_38
                  replace hf_91 := hr_97.at hk0 (by decide) (by decide) hf_91
                  replace hfr := hfr.trans (hr_97.sub (by decide))
                  obtain rfl := hR_100
                  refine jj_aload_n C dX1_tryRedemption_88 rfl ?_
                  refine tt_getF C hok_96 jk_3 0 (by decide) jw_81 (t := (2, 6, 0)) hk0 (by decide) rfl rfl hf_91 dX1_tryRedemption_89 ?_
                  refine jj_iload C dX1_tryRedemption_92 rfl ?_
                  refine tt_aald C hok_96 (t := (2, 2, 0)) ka_92 (by decide) rfl rfl rfl (vp_in_iff.mpr ⟨by omega, by omega⟩) dX1_tryRedemption_94 (fun v_101 hv_101 => ?_)
                  obtain ⟨a_102, rfl, ka_102⟩ := tt_vr hv_101
                  refine jj_dup C dX1_tryRedemption_95 rfl ?_
                  refine tt_get C hok_96 jk_9 2 (by decide) jw_113 (t := (1, (-9223372036854775808), 9223372036854775807)) ka_102 (by decide) rfl rfl dX1_tryRedemption_96 (fun v_103 hv_103 hf_104 => ?_)
                  obtain ⟨y_105, rfl, -, -⟩ := tt_vj hv_103
                  refine jj_aload_n C dX1_tryRedemption_99 rfl ?_
                  refine tt_get C hok_96 jk_3 1 (by decide) jw_158 (t := (1, (-9223372036854775808), 9223372036854775807)) hk0 (by decide) rfl rfl dX1_tryRedemption_100 (fun v_106 hv_106 hf_107 => ?_)
                  obtain ⟨y_108, rfl, -, -⟩ := tt_vj hv_106
                  refine jj_aload_n C dX1_tryRedemption_103 rfl ?_
                  refine tt_get C hok_96 jk_3 2 (by decide) jw_159 (t := (1, (-9223372036854775808), 9223372036854775807)) hk0 (by decide) rfl rfl dX1_tryRedemption_104 (fun v_109 hv_109 hf_110 => ?_)
                  obtain ⟨y_111, rfl, -, -⟩ := tt_vj hv_109
                  obtain ⟨y_112, ey_112⟩ : ∃ z : Int64, y_108 + y_111 = z := ⟨_, rfl⟩
                  refine jj_ladd (v := y_112) C dX1_tryRedemption_107 ey_112 ?_
                  obtain ⟨y_113, ey_113⟩ : ∃ z : Int64, y_105 - y_112 = z := ⟨_, rfl⟩
                  refine jj_lsub (v := y_113) C dX1_tryRedemption_108 ey_113 ?_
                  refine tt_put C hok_96 jk_9 2 (by decide) jw_113 (t := (1, (-9223372036854775808), 9223372036854775807)) ka_102 (by decide) rfl rfl rfl (tt_ja y_113) rfl rfl dX1_tryRedemption_109 (fun pl_114 hok_115 tr hn => ?_)
                  replace hf_6 := tr _ _ _ (Or.inl (tt_ne hk1 ka_102 (by decide))) hf_6
                  replace hf_11 := tr _ _ _ (Or.inl (tt_ne hk1 ka_102 (by decide))) hf_11
                  replace hf_16 := tr _ _ _ (Or.inl (tt_ne ka_14 ka_102 (by decide))) hf_16
                  replace hf_32 := tr _ _ _ (Or.inl (tt_ne ka_14 ka_102 (by decide))) hf_32
                  replace hf_38 := tr _ _ _ (Or.inl (tt_ne ka_14 ka_102 (by decide))) hf_38
                  replace hf_91 := tr _ _ _ (Or.inl (tt_ne hk0 ka_102 (by decide))) hf_91
                  replace hf_107 := tr _ _ _ (Or.inl (tt_ne hk0 ka_102 (by decide))) hf_107
                  replace hf_110 := tr _ _ _ (Or.inl (tt_ne hk0 ka_102 (by decide))) hf_110
                  have hf_116 := hn
                  replace hfr := hfr.put ka_102 tr (by decide)
                  refine jj_aload_n C dX1_tryRedemption_112 rfl ?_
                  refine tt_getF C hok_115 jk_3 0 (by decide) jw_81 (t := (2, 6, 0)) hk0 (by decide) rfl rfl hf_91 dX1_tryRedemption_113 ?_
                  refine jj_iload C dX1_tryRedemption_116 rfl ?_
                  refine tt_aald C hok_115 (t := (2, 2, 0)) ka_92 (by decide) rfl rfl rfl (vp_in_iff.mpr ⟨by omega, by omega⟩) dX1_tryRedemption_118 (fun v_117 hv_117 => ?_)
                  obtain ⟨a_118, rfl, ka_118⟩ := tt_vr hv_117
                  refine jj_dup C dX1_tryRedemption_119 rfl ?_
                  refine tt_get C hok_115 jk_9 3 (by decide) jw_157 (t := (1, (-9223372036854775808), 9223372036854775807)) ka_118 (by decide) rfl rfl dX1_tryRedemption_120 (fun v_119 hv_119 hf_120 => ?_)
                  obtain ⟨y_121, rfl, -, -⟩ := tt_vj hv_119
                  refine jj_lload C dX1_tryRedemption_123 rfl ?_
                  obtain ⟨y_122, ey_122⟩ : ∃ z : Int64, y_121 - y_3 = z := ⟨_, rfl⟩
                  refine jj_lsub (v := y_122) C dX1_tryRedemption_125 ey_122 ?_
                  refine tt_put C hok_115 jk_9 3 (by decide) jw_157 (t := (1, (-9223372036854775808), 9223372036854775807)) ka_118 (by decide) rfl rfl rfl (tt_ja y_122) rfl rfl dX1_tryRedemption_126 (fun pl_123 hok_124 tr hn => ?_)
                  replace hf_6 := tr _ _ _ (Or.inl (tt_ne hk1 ka_118 (by decide))) hf_6
                  replace hf_11 := tr _ _ _ (Or.inl (tt_ne hk1 ka_118 (by decide))) hf_11
                  replace hf_16 := tr _ _ _ (Or.inl (tt_ne ka_14 ka_118 (by decide))) hf_16
                  replace hf_32 := tr _ _ _ (Or.inl (tt_ne ka_14 ka_118 (by decide))) hf_32
                  replace hf_38 := tr _ _ _ (Or.inl (tt_ne ka_14 ka_118 (by decide))) hf_38
                  replace hf_91 := tr _ _ _ (Or.inl (tt_ne hk0 ka_118 (by decide))) hf_91
                  replace hf_107 := tr _ _ _ (Or.inl (tt_ne hk0 ka_118 (by decide))) hf_107
                  replace hf_110 := tr _ _ _ (Or.inl (tt_ne hk0 ka_118 (by decide))) hf_110
                  replace hf_116 := tr _ _ _ (Or.inr (by decide)) hf_116
                  have hf_125 := hn
                  replace hfr := hfr.put ka_118 tr (by decide)
                  refine jj_lload C dX1_tryRedemption_129 rfl ?_
                  refine jj_lload C dX1_tryRedemption_131 rfl ?_
                  obtain ⟨y_126, ey_126⟩ : ∃ z : Int64, y_3 - y_3 = z := ⟨_, rfl⟩
                  refine jj_lsub (v := y_126) C dX1_tryRedemption_133 ey_126 ?_
                  refine jj_lstore C dX1_tryRedemption_134 (by decide) rfl ?_
                  refine jj_lload C dX1_tryRedemption_136 rfl ?_
                  refine jj_iload C dX1_tryRedemption_138 rfl ?_
                  refine jj_if_eqF (tgt := 160) C dX1_tryRedemption_140 (by decide) (by decide) ?_
                  refine jj_aload_n C dX1_tryRedemption_143 rfl ?_
                  refine tt_getF C hok_124 jk_3 1 (by decide) jw_158 (t := (1, (-9223372036854775808), 9223372036854775807)) hk0 (by decide) rfl rfl hf_107 dX1_tryRedemption_144 ?_
                  refine jj_aload_n C dX1_tryRedemption_147 rfl ?_
                  refine tt_get C hok_124 jk_3 4 (by decide) jw_161 (t := (1, (-9223372036854775808), 9223372036854775807)) hk0 (by decide) rfl rfl dX1_tryRedemption_148 (fun v_127 hv_127 hf_128 => ?_)
                  obtain ⟨y_129, rfl, -, -⟩ := tt_vj hv_127
                  obtain ⟨y_130, ey_130⟩ : ∃ z : Int64, y_108 + y_129 = z := ⟨_, rfl⟩
                  refine jj_ladd (v := y_130) C dX1_tryRedemption_151 ey_130 ?_
                  refine jj_aload_n C dX1_tryRedemption_152 rfl ?_
                  refine tt_get C hok_124 jk_3 5 (by decide) jw_162 (t := (1, (-9223372036854775808), 9223372036854775807)) hk0 (by decide) rfl rfl dX1_tryRedemption_153 (fun v_131 hv_131 hf_132 => ?_)
                  obtain ⟨y_133, rfl, -, -⟩ := tt_vj hv_131
                  obtain ⟨y_134, ey_134⟩ : ∃ z : Int64, y_130 - y_133 = z := ⟨_, rfl⟩
                  refine jj_lsub (v := y_134) C dX1_tryRedemption_156 ey_134 ?_
                  refine jj_goto (tgt := 164) C dX1_tryRedemption_157 (by decide) ?_
                  obtain ⟨y_135, ey_135⟩ : ∃ z : Int64, y_4 + y_134 = z := ⟨_, rfl⟩
                  refine jj_ladd (v := y_135) C dX1_tryRedemption_164 ey_135 ?_
                  refine jj_lstore C dX1_tryRedemption_165 (by decide) rfl ?_
                  obtain ⟨x_136, ex_136, vx_136⟩ := tt_inc (x := x_2) (n := 1) (by omega) (by omega)
                  refine jj_iinc (v := x_136) C dX1_tryRedemption_167 rfl ex_136 (by decide) rfl ?_
                  refine jj_goto (tgt := 9) C dX1_tryRedemption_170 (by decide) ?_
                  refine jj_loc [0, 2, 1, 6, 7, 8, 9, 10] rfl ?_
                  exact ihL_1 pl_123 x_136 y_126 y_135 hok_124 hfr (by first | omega | decide | exact tt_lo _ | exact tt_hi _) (by first | omega | decide | exact tt_lo _ | exact tt_hi _) (by first | omega | decide | exact tt_lo _ | exact tt_hi _)
  exact hL_1 _ pl0 (0 : Int32) (9223372036854775807 : Int64) (0 : Int64) trivial hok hfr (by first | omega | decide | exact tt_lo _ | exact tt_hi _) (by first | omega | decide | exact tt_lo _ | exact tt_hi _) (Int.self_le_toNat _)

