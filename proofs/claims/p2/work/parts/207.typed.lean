set_option maxHeartbeats 4000000 in
set_option maxRecDepth 100000 in
theorem tc_X10_checkInvestor_1 {l : Launch} (hl : l.stackTraces = false) (D : va_G) (cA : Nat → ClassId) (ak : (Nat → Nat) × (Nat → Nat)) {Kd : Nat → Nat} (h0 : Nat) (p1 : Int32) (hk0 : Kd h0 = 15) {pl0 : va_W} (hok : tt_ok tt_tk cA Kd pl0) : jj_M l D cA ak yX10_checkInvestor (.code yX10_checkInvestor cX10_checkInvestor 2 none) 7 102 1 6 ([] ++ pl0) [.ref h0, .int p1] (tt_O (fun rx pl1 r => rx = [] ∧ tt_ok tt_tk cA Kd pl1 ∧ tt_fr Kd [] pl0 pl1 ∧ (((0 : Int) ≤ p1.toInt ∧ p1.toInt ≤ 2147483646 ∧ r = none)))) (tt_OX (fun E rx pl1 => rx = [] ∧ tt_ok tt_tk cA Kd pl1 ∧ tt_fr Kd [] pl0 pl1 ∧ (E = "java/lang/IndexOutOfBoundsException"))) := by
  refine jj_start hl (by decide) jw_395 (jj_le rfl) ?_
  intro p e s m args below meth c A hargs hA C hex hmn
  have hfr := tt_fr.refl (K := Kd) (WS := []) pl0
  have lp1 := tt_lo p1
  have up1 := tt_hi p1
  refine jj_aload_n C dX10_checkInvestor_0 rfl ?_
  refine tt_get C hok jk_11 3 (by decide) jw_2 (t := (2, 1, 0)) hk0 (by decide) rfl rfl dX10_checkInvestor_1 (fun v_1 hv_1 hf_2 => ?_)
  obtain ⟨a_3, rfl, ka_3⟩ := tt_vr hv_1
  refine jj_iload_n C dX10_checkInvestor_4 rfl ?_
  obtain ⟨qc, gs, hqc⟩ := tt_recv (cx := []) hok ka_3 (by decide) rfl
  refine tt_callV (rest := []) C (tc_X0_hasInvestor_1 hl D cA ak a_3 p1 ka_3 hok) [] [] rfl rfl (by decide) (by decide) (by decide) qc hqc rfl rfl jw_396 jw_398 jw_399 jw_133 jw_397 jn_X0_hasInvestor rfl (jj_le rfl) (jj_le rfl) (jj_le rfl) (jj_le rfl) (jj_le rfl) dX10_checkInvestor_5 rfl (fun _ _ _ hX => hX.elim) (fun rx pl_4 r O_7 => ?_)
  obtain ⟨rfl, hok_5, hr_6, hR_9⟩ := O_7
  replace hf_2 := hr_6.at hk0 (by decide) (by decide) hf_2
  replace hfr := hfr.trans (hr_6.sub (by decide))
  rcases hR_9 with rfl | ⟨l_10, u_11, rfl⟩
  · refine jj_if_eqT (tgt := 15) C dX10_checkInvestor_8 (by decide) (by decide) ?_
    refine jj_iconst (v := 1) C dX10_checkInvestor_15 (by decide) ?_
    refine tt_callS (rest := []) C (tc_X10_refuse_1 hl D cA ak  hok_5) [] [] rfl rfl (by decide) (by decide) (by decide) jw_53 jw_57 jw_52 jw_54 jn_X10_refuse rfl (jj_le rfl) (jj_le rfl) (jj_le rfl) (jj_le rfl) (jj_le rfl) dX10_checkInvestor_16 rfl (fun E rx pl_12 X_16 => ?_) (fun rx pl_12 r O_15 => ?_)
    · obtain ⟨rfl, hok_13, hr_14, hE_17⟩ := X_16
      replace hf_2 := hr_14.at hk0 (by decide) (by decide) hf_2
      replace hfr := hfr.trans (hr_14.sub (by decide))
      obtain rfl := hE_17
      exact jj_out C hex ⟨[], pl_12, rfl, rfl, hok_13, hfr, rfl⟩ (jj_le rfl) (jj_le rfl)
    · exact O_15.elim
  · refine jj_if_eqF (tgt := 15) C dX10_checkInvestor_8 (by decide) (by decide) ?_
    refine jj_iconst (v := 0) C dX10_checkInvestor_11 (by decide) ?_
    refine jj_goto (tgt := 16) C dX10_checkInvestor_12 (by decide) ?_
    refine tt_callS (rest := []) C (tc_X10_refuse_2 hl D cA ak  hok_5) [] [] rfl rfl (by decide) (by decide) (by decide) jw_53 jw_57 jw_52 jw_54 jn_X10_refuse rfl (jj_le rfl) (jj_le rfl) (jj_le rfl) (jj_le rfl) (jj_le rfl) dX10_checkInvestor_16 rfl (fun _ _ _ hX => hX.elim) (fun rx pl_19 r O_22 => ?_)
    obtain ⟨rfl, hok_20, hr_21, hR_24⟩ := O_22
    replace hf_2 := hr_21.at hk0 (by decide) (by decide) hf_2
    replace hfr := hfr.trans (hr_21.sub (by decide))
    obtain rfl := hR_24
    exact jj_vret C ⟨[], pl_19, rfl, rfl, hok_20, hfr, ⟨(by first | omega | exact tt_lo _ | exact tt_hi _), (by first | omega | exact tt_lo _ | exact tt_hi _), rfl⟩⟩ dX10_checkInvestor_19 (jj_le rfl) (jj_le rfl)

set_option maxHeartbeats 4000000 in
set_option maxRecDepth 100000 in
theorem tc_X0_unitsHeldIn_1 {l : Launch} (hl : l.stackTraces = false) (D : va_G) (cA : Nat → ClassId) (ak : (Nat → Nat) × (Nat → Nat)) {Kd : Nat → Nat} (h0 : Nat) (p1 : Int32) (p2 : Int32) (hk0 : Kd h0 = 1) {pl0 : va_W} (hok : tt_ok tt_tk cA Kd pl0) : jj_M l D cA ak yX0_unitsHeldIn (.code yX0_unitsHeldIn cX0_unitsHeldIn 6 (some .long)) 0 0 0 0 ([] ++ pl0) [.ref h0, .int p1, .int p2] (tt_O (fun rx pl1 r => rx = [] ∧ tt_ok tt_tk cA Kd pl1 ∧ tt_fr Kd [] pl0 pl1 ∧ ((∃ v : Int64, r = some (.long v))))) (tt_OX (fun _ _ _ => False)) := by
  refine jj_start hl (by decide) jw_405 (jj_le rfl) ?_
  intro p e s m args below meth c A hargs hA C hex hmn
  have hfr := tt_fr.refl (K := Kd) (WS := []) pl0
  have lp1 := tt_lo p1
  have up1 := tt_hi p1
  have lp2 := tt_lo p2
  have up2 := tt_hi p2
  refine jj_lconst (v := 0) C dX0_unitsHeldIn_0 (by decide) ?_
  refine jj_lstore_n C dX0_unitsHeldIn_1 (by decide) rfl ?_
  refine jj_iconst (v := 0) C dX0_unitsHeldIn_2 (by decide) ?_
  refine jj_istore C dX0_unitsHeldIn_3 (by decide) rfl ?_
  have hL_1 : ∀ (N : Nat) (pl : va_W) (x_2 : Int32) (y_3 : Int64), True → tt_ok tt_tk cA Kd pl → tt_fr Kd [] pl0 pl → (0 : Int) ≤ x_2.toInt → x_2.toInt ≤ 40 → (2147483648 - x_2.toInt ≤ (N : Int)) → jj_J p l e (jj_rm 0 0 0 0) s m args below meth c 6 A (vx_MQ below (jj_q D A (tt_O (fun rx pl1 r => rx = [] ∧ tt_ok tt_tk cA Kd pl1 ∧ tt_fr Kd [] pl0 pl1 ∧ ((∃ v : Int64, r = some (.long v)))))) (jj_x D A (tt_OX (fun _ _ _ => False))) args s 0 0 A) (jj_X D A ([] ++ pl)) 0 0 5 [(5, .int x_2), (3, .long y_3), (0, .ref h0), (1, .int p1), (2, .int p2)] [] := by
    intro NL_1
    induction NL_1 with
    | zero => intro pl x_2 y_3 _ hok hfr lx_2 ux_2 hNL_1; exfalso; omega
    | succ NL_1 ihL_1 =>
      intro pl x_2 y_3 _ hok hfr lx_2 ux_2 hNL_1
      replace ihL_1 := fun pl x_2 y_3 h1 => ihL_1 pl x_2 y_3 trivial h1
      refine jj_iload C dX0_unitsHeldIn_5 rfl ?_
      refine jj_aload_n C dX0_unitsHeldIn_7 rfl ?_
      refine tt_get C hok jk_2 8 (by decide) jw_199 (t := (0, 0, 40)) hk0 (by decide) rfl rfl dX0_unitsHeldIn_8 (fun v_4 hv_4 hf_5 => ?_)
      obtain ⟨x_6, rfl, lx_6, ux_6⟩ := tt_vi hv_4
      refine jj_icmp_ge (tgt := 61) C dX0_unitsHeldIn_11 (by decide) (fun c_7 => ?_) (fun c_7 => ?_)
      · have z_c_7 := jc_le (a := (x_6).toInt) (b := (x_2).toInt) c_7 rfl rfl
        refine jj_lload_n C dX0_unitsHeldIn_61 rfl ?_
        exact jj_lret C ⟨[], pl, rfl, rfl, hok, hfr, ⟨y_3, rfl⟩⟩ dX0_unitsHeldIn_62 (jj_le rfl) (jj_le rfl)
      · have z_c_7 := jc_nle (a := (x_6).toInt) (b := (x_2).toInt) c_7 rfl rfl
        refine jj_aload_n C dX0_unitsHeldIn_14 rfl ?_
        refine tt_get C hok jk_2 12 (by decide) jw_214 (t := (2, 7, 0)) hk0 (by decide) rfl rfl dX0_unitsHeldIn_15 (fun v_8 hv_8 hf_9 => ?_)
        obtain ⟨a_10, rfl, ka_10⟩ := tt_vr hv_8
        refine jj_iload C dX0_unitsHeldIn_18 rfl ?_
        refine tt_aald C hok (t := (2, 3, 0)) ka_10 (by decide) rfl rfl rfl (vp_in_iff.mpr ⟨by omega, by omega⟩) dX0_unitsHeldIn_20 (fun v_11 hv_11 => ?_)
        obtain ⟨a_12, rfl, ka_12⟩ := tt_vr hv_11
        refine tt_get C hok jk_5 0 (by decide) jw_249 (t := (0, (-2147483648), 2147483647)) ka_12 (by decide) rfl rfl dX0_unitsHeldIn_21 (fun v_13 hv_13 hf_14 => ?_)
        obtain ⟨x_15, rfl, lx_15, ux_15⟩ := tt_vi hv_13
        refine jj_iload_n C dX0_unitsHeldIn_24 rfl ?_
        refine jj_icmp_ne (tgt := 55) C dX0_unitsHeldIn_25 (by decide) (fun c_16 => ?_) (fun c_16 => ?_)
        · have z_c_16 := jc_neq (a := (x_15).toInt) (b := (p1).toInt) c_16 rfl rfl
          obtain ⟨x_17, ex_17, vx_17⟩ := tt_inc (x := x_2) (n := 1) (by omega) (by omega)
          refine jj_iinc (v := x_17) C dX0_unitsHeldIn_55 rfl ex_17 (by decide) rfl ?_
          refine jj_goto (tgt := 5) C dX0_unitsHeldIn_58 (by decide) ?_
          exact ihL_1 pl x_17 y_3 hok hfr (by first | omega | decide | exact tt_lo _ | exact tt_hi _) (by first | omega | decide | exact tt_lo _ | exact tt_hi _) (by first | omega | decide | exact tt_lo _ | exact tt_hi _)
        · have z_c_16 := jc_eq (a := (x_15).toInt) (b := (p1).toInt) c_16 rfl rfl
          refine jj_aload_n C dX0_unitsHeldIn_28 rfl ?_
          refine tt_getF C hok jk_2 12 (by decide) jw_214 (t := (2, 7, 0)) hk0 (by decide) rfl rfl hf_9 dX0_unitsHeldIn_29 ?_
          refine jj_iload C dX0_unitsHeldIn_32 rfl ?_
          refine tt_aald C hok (t := (2, 3, 0)) ka_10 (by decide) rfl rfl rfl (vp_in_iff.mpr ⟨by omega, by omega⟩) dX0_unitsHeldIn_34 (fun v_18 hv_18 => ?_)
          obtain ⟨a_19, rfl, ka_19⟩ := tt_vr hv_18
          refine tt_get C hok jk_5 1 (by decide) jw_350 (t := (0, (-2147483648), 2147483647)) ka_19 (by decide) rfl rfl dX0_unitsHeldIn_35 (fun v_20 hv_20 hf_21 => ?_)
          obtain ⟨x_22, rfl, lx_22, ux_22⟩ := tt_vi hv_20
          refine jj_iload_n C dX0_unitsHeldIn_38 rfl ?_
          refine jj_icmp_ne (tgt := 55) C dX0_unitsHeldIn_39 (by decide) (fun c_23 => ?_) (fun c_23 => ?_)
          · have z_c_23 := jc_neq (a := (x_22).toInt) (b := (p2).toInt) c_23 rfl rfl
            obtain ⟨x_24, ex_24, vx_24⟩ := tt_inc (x := x_2) (n := 1) (by omega) (by omega)
            refine jj_iinc (v := x_24) C dX0_unitsHeldIn_55 rfl ex_24 (by decide) rfl ?_
            refine jj_goto (tgt := 5) C dX0_unitsHeldIn_58 (by decide) ?_
            exact ihL_1 pl x_24 y_3 hok hfr (by first | omega | decide | exact tt_lo _ | exact tt_hi _) (by first | omega | decide | exact tt_lo _ | exact tt_hi _) (by first | omega | decide | exact tt_lo _ | exact tt_hi _)
          · have z_c_23 := jc_eq (a := (x_22).toInt) (b := (p2).toInt) c_23 rfl rfl
            refine jj_lload_n C dX0_unitsHeldIn_42 rfl ?_
            refine jj_aload_n C dX0_unitsHeldIn_43 rfl ?_
            refine tt_getF C hok jk_2 12 (by decide) jw_214 (t := (2, 7, 0)) hk0 (by decide) rfl rfl hf_9 dX0_unitsHeldIn_44 ?_
            refine jj_iload C dX0_unitsHeldIn_47 rfl ?_
            refine tt_aald C hok (t := (2, 3, 0)) ka_10 (by decide) rfl rfl rfl (vp_in_iff.mpr ⟨by omega, by omega⟩) dX0_unitsHeldIn_49 (fun v_25 hv_25 => ?_)
            obtain ⟨a_26, rfl, ka_26⟩ := tt_vr hv_25
            refine tt_get C hok jk_5 3 (by decide) jw_250 (t := (1, (-9223372036854775808), 9223372036854775807)) ka_26 (by decide) rfl rfl dX0_unitsHeldIn_50 (fun v_27 hv_27 hf_28 => ?_)
            obtain ⟨y_29, rfl, -, -⟩ := tt_vj hv_27
            obtain ⟨y_30, ey_30⟩ : ∃ z : Int64, y_3 + y_29 = z := ⟨_, rfl⟩
            refine jj_ladd (v := y_30) C dX0_unitsHeldIn_53 ey_30 ?_
            refine jj_lstore_n C dX0_unitsHeldIn_54 (by decide) rfl ?_
            obtain ⟨x_31, ex_31, vx_31⟩ := tt_inc (x := x_2) (n := 1) (by omega) (by omega)
            refine jj_iinc (v := x_31) C dX0_unitsHeldIn_55 rfl ex_31 (by decide) rfl ?_
            refine jj_goto (tgt := 5) C dX0_unitsHeldIn_58 (by decide) ?_
            exact ihL_1 pl x_31 y_30 hok hfr (by first | omega | decide | exact tt_lo _ | exact tt_hi _) (by first | omega | decide | exact tt_lo _ | exact tt_hi _) (by first | omega | decide | exact tt_lo _ | exact tt_hi _)
  exact hL_1 _ pl0 (0 : Int32) (0 : Int64) trivial hok hfr (by first | omega | decide | exact tt_lo _ | exact tt_hi _) (by first | omega | decide | exact tt_lo _ | exact tt_hi _) (Int.self_le_toNat _)

set_option maxHeartbeats 4000000 in
set_option maxRecDepth 100000 in
theorem tc_X10_holding_1 {l : Launch} (hl : l.stackTraces = false) (D : va_G) (cA : Nat → ClassId) (ak : (Nat → Nat) × (Nat → Nat)) {Kd : Nat → Nat} (h0 : Nat) (p1 : Int32) (p2 : Int32) (hk0 : Kd h0 = 15) {pl0 : va_W} (hok : tt_ok tt_tk cA Kd pl0) : jj_M l D cA ak yX10_holding (.code yX10_holding cX10_holding 3 (some .long)) 8 124 2 12 ([] ++ pl0) [.ref h0, .int p1, .int p2] (tt_O (fun rx pl1 r => rx = [] ∧ tt_ok tt_tk cA Kd pl1 ∧ tt_fr Kd [] pl0 pl1 ∧ ((∃ v : Int64, (0 : Int) ≤ p1.toInt ∧ p1.toInt ≤ 2147483646 ∧ r = some (.long v))))) (tt_OX (fun E rx pl1 => rx = [] ∧ tt_ok tt_tk cA Kd pl1 ∧ tt_fr Kd [] pl0 pl1 ∧ (E = "java/lang/IndexOutOfBoundsException"))) := by
  refine jj_start hl (by decide) jw_848 (jj_le rfl) ?_
  intro p e s m args below meth c A hargs hA C hex hmn
  have hfr := tt_fr.refl (K := Kd) (WS := []) pl0
  have lp1 := tt_lo p1
  have up1 := tt_hi p1
  have lp2 := tt_lo p2
  have up2 := tt_hi p2
  refine jj_aload_n C dX10_holding_0 rfl ?_
  refine jj_iload_n C dX10_holding_1 rfl ?_
  obtain ⟨qc, gs, hqc⟩ := tt_recv (cx := []) hok hk0 (by decide) rfl
  refine tt_callV (rest := []) C (tc_X10_checkInvestor_1 hl D cA ak h0 p1 hk0 hok) [] [] rfl rfl (by decide) (by decide) (by decide) qc hqc rfl rfl jw_394 jw_401 jw_402 jw_52 jw_395 jn_X10_checkInvestor rfl (jj_le rfl) (jj_le rfl) (jj_le rfl) (jj_le rfl) (jj_le rfl) dX10_holding_2 rfl (fun E rx pl_1 X_5 => ?_) (fun rx pl_1 r O_4 => ?_)
  · obtain ⟨rfl, hok_2, hr_3, hE_6⟩ := X_5
    replace hfr := hfr.trans (hr_3.sub (by decide))
    obtain rfl := hE_6
    exact jj_out C hex ⟨[], pl_1, rfl, rfl, hok_2, hfr, rfl⟩ (jj_le rfl) (jj_le rfl)
  · obtain ⟨rfl, hok_2, hr_3, hR_7⟩ := O_4
    replace hfr := hfr.trans (hr_3.sub (by decide))
    obtain ⟨l_8, u_9, rfl⟩ := hR_7
    refine jj_aload_n C dX10_holding_5 rfl ?_
    refine jj_iload_n C dX10_holding_6 rfl ?_
    obtain ⟨qc, gs, hqc⟩ := tt_recv (cx := []) hok_2 hk0 (by decide) rfl
    refine tt_callV (rest := []) C (tc_X10_placeOf_1 hl D cA ak h0 p2 hk0 hok_2) [] [] rfl rfl (by decide) (by decide) (by decide) qc hqc rfl rfl jw_287 jw_290 jw_291 jw_52 jw_288 jn_X10_placeOf rfl (jj_le rfl) (jj_le rfl) (jj_le rfl) (jj_le rfl) (jj_le rfl) dX10_holding_7 rfl (fun E rx pl_10 X_14 => ?_) (fun rx pl_10 r O_13 => ?_)
    · obtain ⟨rfl, hok_11, hr_12, hE_15⟩ := X_14
      replace hfr := hfr.trans (hr_12.sub (by decide))
      obtain rfl := hE_15
      exact jj_out C hex ⟨[], pl_10, rfl, rfl, hok_11, hfr, rfl⟩ (jj_le rfl) (jj_le rfl)
    · obtain ⟨rfl, hok_11, hr_12, hR_16⟩ := O_13
      replace hfr := hfr.trans (hr_12.sub (by decide))
      obtain ⟨x_17, lx_17, ux_17, rfl⟩ := hR_16
      refine jj_pop C dX10_holding_10 rfl ?_
      refine jj_aload_n C dX10_holding_11 rfl ?_
      refine tt_get C hok_11 jk_11 3 (by decide) jw_2 (t := (2, 1, 0)) hk0 (by decide) rfl rfl dX10_holding_12 (fun v_18 hv_18 hf_19 => ?_)
      obtain ⟨a_20, rfl, ka_20⟩ := tt_vr hv_18
      refine jj_iload_n C dX10_holding_15 rfl ?_
      refine jj_iload_n C dX10_holding_16 rfl ?_
      obtain ⟨qc, gs, hqc⟩ := tt_recv (cx := []) hok_11 ka_20 (by decide) rfl
      refine tt_callV (rest := []) C (tc_X0_unitsHeldIn_1 hl D cA ak a_20 p1 p2 ka_20 hok_11) [] [] rfl rfl (by decide) (by decide) (by decide) qc hqc rfl rfl jw_404 jw_406 jw_407 jw_133 jw_405 jn_X0_unitsHeldIn rfl (jj_le rfl) (jj_le rfl) (jj_le rfl) (jj_le rfl) (jj_le rfl) dX10_holding_17 rfl (fun _ _ _ hX => hX.elim) (fun rx pl_21 r O_24 => ?_)
      obtain ⟨rfl, hok_22, hr_23, hR_26⟩ := O_24
      replace hf_19 := hr_23.at hk0 (by decide) (by decide) hf_19
      replace hfr := hfr.trans (hr_23.sub (by decide))
      obtain ⟨y_27, rfl⟩ := hR_26
      exact jj_lret C ⟨[], pl_21, rfl, rfl, hok_22, hfr, ⟨y_27, (by first | omega | exact tt_lo _ | exact tt_hi _), (by first | omega | exact tt_lo _ | exact tt_hi _), rfl⟩⟩ dX10_holding_20 (jj_le rfl) (jj_le rfl)

set_option maxHeartbeats 4000000 in
set_option maxRecDepth 100000 in
theorem tc_X10_lot_1 {l : Launch} (hl : l.stackTraces = false) (D : va_G) (cA : Nat → ClassId) (ak : (Nat → Nat) × (Nat → Nat)) {Kd : Nat → Nat} (h0 : Nat) (p1 : Int32) (p2 : Int32) (hk0 : Kd h0 = 15) {pl0 : va_W} (hok : tt_ok tt_tk cA Kd pl0) : jj_M l D cA ak yX10_lot (.code yX10_lot cX10_lot 4 (some .long)) 6 82 1 6 ([] ++ pl0) [.ref h0, .int p1, .int p2] (tt_O (fun rx pl1 r => rx = [] ∧ tt_ok tt_tk cA Kd pl1 ∧ tt_fr Kd [] pl0 pl1 ∧ ((∃ v : Int64, (0 : Int) ≤ p1.toInt ∧ p1.toInt ≤ 39 ∧ r = some (.long v))))) (tt_OX (fun E rx pl1 => rx = [] ∧ tt_ok tt_tk cA Kd pl1 ∧ tt_fr Kd [] pl0 pl1 ∧ (E = "java/lang/IllegalArgumentException" ∨ E = "java/lang/IndexOutOfBoundsException"))) := by
  refine jj_start hl (by decide) jw_849 (jj_le rfl) ?_
  intro p e s m args below meth c A hargs hA C hex hmn
  have hfr := tt_fr.refl (K := Kd) (WS := []) pl0
  have lp1 := tt_lo p1
  have up1 := tt_hi p1
  have lp2 := tt_lo p2
  have up2 := tt_hi p2
  refine jj_iload_n C dX10_lot_0 rfl ?_
  refine jj_if_lt (tgt := 15) C dX10_lot_1 (by decide) (fun c_1 => ?_) (fun c_1 => ?_)
  · have z_c_1 := jc_lt (a := (p1).toInt) (b := (0)) c_1 rfl (by decide)
    exact jj_throwW (k := 46) (text := "no such lot") C jt_RX10_200 jw_56 (by decide +kernel) dX10_lot_15 dX10_lot_18 dX10_lot_19 dX10_lot_22 dX10_lot_25 hex (jj_le rfl) (jj_le rfl) (jj_le rfl) (jj_le rfl) ⟨[], pl0, rfl, rfl, hok, hfr, (Or.inr rfl)⟩ (jj_le rfl) (jj_le rfl)
  · have z_c_1 := jc_nlt (a := (p1).toInt) (b := (0)) c_1 rfl (by decide)
    refine jj_iload_n C dX10_lot_4 rfl ?_
    refine jj_aload_n C dX10_lot_5 rfl ?_
    refine tt_get C hok jk_11 3 (by decide) jw_2 (t := (2, 1, 0)) hk0 (by decide) rfl rfl dX10_lot_6 (fun v_2 hv_2 hf_3 => ?_)
    obtain ⟨a_4, rfl, ka_4⟩ := tt_vr hv_2
    refine tt_get C hok jk_2 8 (by decide) jw_312 (t := (0, 0, 40)) ka_4 (by decide) rfl rfl dX10_lot_9 (fun v_5 hv_5 hf_6 => ?_)
    obtain ⟨x_7, rfl, lx_7, ux_7⟩ := tt_vi hv_5
    refine jj_icmp_lt (tgt := 26) C dX10_lot_12 (by decide) (fun c_8 => ?_) (fun c_8 => ?_)
    · have z_c_8 := jc_lt (a := (p1).toInt) (b := (x_7).toInt) c_8 rfl rfl
      refine jj_aload_n C dX10_lot_26 rfl ?_
      refine tt_getF C hok jk_11 3 (by decide) jw_2 (t := (2, 1, 0)) hk0 (by decide) rfl rfl hf_3 dX10_lot_27 ?_
      refine tt_get C hok jk_2 12 (by decide) jw_409 (t := (2, 7, 0)) ka_4 (by decide) rfl rfl dX10_lot_30 (fun v_9 hv_9 hf_10 => ?_)
      obtain ⟨a_11, rfl, ka_11⟩ := tt_vr hv_9
      refine jj_iload_n C dX10_lot_33 rfl ?_
      refine tt_aald C hok (t := (2, 3, 0)) ka_11 (by decide) rfl rfl rfl (vp_in_iff.mpr ⟨by omega, by omega⟩) dX10_lot_34 (fun v_12 hv_12 => ?_)
      obtain ⟨a_13, rfl, ka_13⟩ := tt_vr hv_12
      refine jj_astore_n C dX10_lot_35 (by decide) rfl ?_
      refine jj_iload_n C dX10_lot_36 rfl ?_
      rcases jj_em (p2 = 0) with c_14 | c_14
      · refine jj_tableIn (tgt := 76) C dX10_lot_37 (by rw [c_14]; decide) (by rw [c_14]; decide) (by rw [c_14]; rfl) (by decide) ?_
        refine jj_aload_n C dX10_lot_76 rfl ?_
        refine tt_get C hok jk_5 0 (by decide) jw_410 (t := (0, (-2147483648), 2147483647)) ka_13 (by decide) rfl rfl dX10_lot_77 (fun v_15 hv_15 hf_16 => ?_)
        obtain ⟨x_17, rfl, lx_17, ux_17⟩ := tt_vi hv_15
        obtain ⟨y_18, ey_18, vy_18⟩ := tt_i2l x_17
        refine jj_i2l (v := y_18) C dX10_lot_80 ey_18 ?_
        exact jj_lret C ⟨[], pl0, rfl, rfl, hok, hfr, ⟨y_18, (by first | omega | exact tt_lo _ | exact tt_hi _), (by first | omega | exact tt_lo _ | exact tt_hi _), rfl⟩⟩ dX10_lot_81 (jj_le rfl) (jj_le rfl)
      rcases jj_em (p2 = 1) with c_19 | c_19
      · refine jj_tableIn (tgt := 82) C dX10_lot_37 (by rw [c_19]; decide) (by rw [c_19]; decide) (by rw [c_19]; rfl) (by decide) ?_
        refine jj_aload_n C dX10_lot_82 rfl ?_
        refine tt_get C hok jk_5 1 (by decide) jw_411 (t := (0, (-2147483648), 2147483647)) ka_13 (by decide) rfl rfl dX10_lot_83 (fun v_20 hv_20 hf_21 => ?_)
        obtain ⟨x_22, rfl, lx_22, ux_22⟩ := tt_vi hv_20
        obtain ⟨y_23, ey_23, vy_23⟩ := tt_i2l x_22
        refine jj_i2l (v := y_23) C dX10_lot_86 ey_23 ?_
        exact jj_lret C ⟨[], pl0, rfl, rfl, hok, hfr, ⟨y_23, (by first | omega | exact tt_lo _ | exact tt_hi _), (by first | omega | exact tt_lo _ | exact tt_hi _), rfl⟩⟩ dX10_lot_87 (jj_le rfl) (jj_le rfl)
      rcases jj_em (p2 = 2) with c_24 | c_24
      · refine jj_tableIn (tgt := 88) C dX10_lot_37 (by rw [c_24]; decide) (by rw [c_24]; decide) (by rw [c_24]; rfl) (by decide) ?_
        refine jj_aload_n C dX10_lot_88 rfl ?_
        refine tt_get C hok jk_5 3 (by decide) jw_412 (t := (1, (-9223372036854775808), 9223372036854775807)) ka_13 (by decide) rfl rfl dX10_lot_89 (fun v_25 hv_25 hf_26 => ?_)
        obtain ⟨y_27, rfl, -, -⟩ := tt_vj hv_25
        exact jj_lret C ⟨[], pl0, rfl, rfl, hok, hfr, ⟨y_27, (by first | omega | exact tt_lo _ | exact tt_hi _), (by first | omega | exact tt_lo _ | exact tt_hi _), rfl⟩⟩ dX10_lot_92 (jj_le rfl) (jj_le rfl)
      rcases jj_em (p2 = 3) with c_28 | c_28
      · refine jj_tableIn (tgt := 93) C dX10_lot_37 (by rw [c_28]; decide) (by rw [c_28]; decide) (by rw [c_28]; rfl) (by decide) ?_
        refine jj_aload_n C dX10_lot_93 rfl ?_
        refine tt_get C hok jk_5 4 (by decide) jw_413 (t := (1, (-9223372036854775808), 9223372036854775807)) ka_13 (by decide) rfl rfl dX10_lot_94 (fun v_29 hv_29 hf_30 => ?_)
        obtain ⟨y_31, rfl, -, -⟩ := tt_vj hv_29
        exact jj_lret C ⟨[], pl0, rfl, rfl, hok, hfr, ⟨y_31, (by first | omega | exact tt_lo _ | exact tt_hi _), (by first | omega | exact tt_lo _ | exact tt_hi _), rfl⟩⟩ dX10_lot_97 (jj_le rfl) (jj_le rfl)
      rcases jj_em (p2 = 4) with c_32 | c_32
      · refine jj_tableIn (tgt := 98) C dX10_lot_37 (by rw [c_32]; decide) (by rw [c_32]; decide) (by rw [c_32]; rfl) (by decide) ?_
        refine jj_aload_n C dX10_lot_98 rfl ?_
        refine tt_get C hok jk_5 5 (by decide) jw_414 (t := (1, (-9223372036854775808), 9223372036854775807)) ka_13 (by decide) rfl rfl dX10_lot_99 (fun v_33 hv_33 hf_34 => ?_)
        obtain ⟨y_35, rfl, -, -⟩ := tt_vj hv_33
        exact jj_lret C ⟨[], pl0, rfl, rfl, hok, hfr, ⟨y_35, (by first | omega | exact tt_lo _ | exact tt_hi _), (by first | omega | exact tt_lo _ | exact tt_hi _), rfl⟩⟩ dX10_lot_102 (jj_le rfl) (jj_le rfl)
      rcases jj_em (p2 = 5) with c_36 | c_36
      · refine jj_tableIn (tgt := 103) C dX10_lot_37 (by rw [c_36]; decide) (by rw [c_36]; decide) (by rw [c_36]; rfl) (by decide) ?_
        refine jj_aload_n C dX10_lot_103 rfl ?_
        refine tt_get C hok jk_5 2 (by decide) jw_415 (t := (0, (-2147483648), 2147483647)) ka_13 (by decide) rfl rfl dX10_lot_104 (fun v_37 hv_37 hf_38 => ?_)
        obtain ⟨x_39, rfl, lx_39, ux_39⟩ := tt_vi hv_37
        obtain ⟨y_40, ey_40, vy_40⟩ := tt_i2l x_39
        refine jj_i2l (v := y_40) C dX10_lot_107 ey_40 ?_
        exact jj_lret C ⟨[], pl0, rfl, rfl, hok, hfr, ⟨y_40, (by first | omega | exact tt_lo _ | exact tt_hi _), (by first | omega | exact tt_lo _ | exact tt_hi _), rfl⟩⟩ dX10_lot_108 (jj_le rfl) (jj_le rfl)
      refine jj_tableOut (tgt := 109) C dX10_lot_37 (by have zc_14 := lv_neT (a := 0) c_14 (by decide); have zc_19 := lv_neT (a := 1) c_19 (by decide); have zc_24 := lv_neT (a := 2) c_24 (by decide); have zc_28 := lv_neT (a := 3) c_28 (by decide); have zc_32 := lv_neT (a := 4) c_32 (by decide); have zc_36 := lv_neT (a := 5) c_36 (by decide); omega) (by decide) ?_
      exact jj_throwW (k := 45) (text := "no such value") C jt_RX10_75 jw_1 (by decide +kernel) dX10_lot_109 dX10_lot_112 dX10_lot_113 dX10_lot_116 dX10_lot_119 hex (jj_le rfl) (jj_le rfl) (jj_le rfl) (jj_le rfl) ⟨[], pl0, rfl, rfl, hok, hfr, (Or.inl rfl)⟩ (jj_le rfl) (jj_le rfl)
    · have z_c_8 := jc_nlt (a := (p1).toInt) (b := (x_7).toInt) c_8 rfl rfl
      exact jj_throwW (k := 46) (text := "no such lot") C jt_RX10_200 jw_56 (by decide +kernel) dX10_lot_15 dX10_lot_18 dX10_lot_19 dX10_lot_22 dX10_lot_25 hex (jj_le rfl) (jj_le rfl) (jj_le rfl) (jj_le rfl) ⟨[], pl0, rfl, rfl, hok, hfr, (Or.inr rfl)⟩ (jj_le rfl) (jj_le rfl)

set_option maxHeartbeats 4000000 in
set_option maxRecDepth 100000 in
theorem tc_X10_openSeries_1 {l : Launch} (hl : l.stackTraces = false) (D : va_G) (cA : Nat → ClassId) (ak : (Nat → Nat) × (Nat → Nat)) {Kd : Nat → Nat} (h0 : Nat) (p1 : Int32) (hk0 : Kd h0 = 15) {pl0 : va_W} (hok : tt_ok tt_tk cA Kd pl0) : jj_M l D cA ak yX10_openSeries (.code yX10_openSeries cX10_openSeries 2 (some .int)) 6 82 1 6 ([] ++ pl0) [.ref h0, .int p1] (tt_O (fun rx pl1 r => rx = [] ∧ tt_ok tt_tk cA Kd pl1 ∧ tt_fr Kd [] pl0 pl1 ∧ ((∃ v : Int32, (-2147483648 : Int) ≤ v.toInt ∧ v.toInt ≤ 2147483647 ∧ (0 : Int) ≤ p1.toInt ∧ p1.toInt ≤ 5 ∧ r = some (.int v))))) (tt_OX (fun E rx pl1 => rx = [] ∧ tt_ok tt_tk cA Kd pl1 ∧ tt_fr Kd [] pl0 pl1 ∧ (E = "java/lang/IndexOutOfBoundsException"))) := by
  refine jj_start hl (by decide) jw_850 (jj_le rfl) ?_
  intro p e s m args below meth c A hargs hA C hex hmn
  have hfr := tt_fr.refl (K := Kd) (WS := []) pl0
  have lp1 := tt_lo p1
  have up1 := tt_hi p1
  refine jj_iload_n C dX10_openSeries_0 rfl ?_
  refine jj_if_lt (tgt := 15) C dX10_openSeries_1 (by decide) (fun c_1 => ?_) (fun c_1 => ?_)
  · have z_c_1 := jc_lt (a := (p1).toInt) (b := (0)) c_1 rfl (by decide)
    exact jj_throw (k := 44) (text := "no such index") C jt_RX10_200 jw_56 (by decide +kernel) dX10_openSeries_15 dX10_openSeries_18 dX10_openSeries_19 dX10_openSeries_21 dX10_openSeries_24 hex (jj_le rfl) (jj_le rfl) (jj_le rfl) (jj_le rfl) ⟨[], pl0, rfl, rfl, hok, hfr, rfl⟩ (jj_le rfl) (jj_le rfl)
  · have z_c_1 := jc_nlt (a := (p1).toInt) (b := (0)) c_1 rfl (by decide)
    refine jj_iload_n C dX10_openSeries_4 rfl ?_
    refine jj_aload_n C dX10_openSeries_5 rfl ?_
    refine tt_get C hok jk_11 3 (by decide) jw_2 (t := (2, 1, 0)) hk0 (by decide) rfl rfl dX10_openSeries_6 (fun v_2 hv_2 hf_3 => ?_)
    obtain ⟨a_4, rfl, ka_4⟩ := tt_vr hv_2
    refine tt_get C hok jk_2 7 (by decide) jw_311 (t := (0, 0, 6)) ka_4 (by decide) rfl rfl dX10_openSeries_9 (fun v_5 hv_5 hf_6 => ?_)
    obtain ⟨x_7, rfl, lx_7, ux_7⟩ := tt_vi hv_5
    refine jj_icmp_lt (tgt := 25) C dX10_openSeries_12 (by decide) (fun c_8 => ?_) (fun c_8 => ?_)
    · have z_c_8 := jc_lt (a := (p1).toInt) (b := (x_7).toInt) c_8 rfl rfl
      refine jj_aload_n C dX10_openSeries_25 rfl ?_
      refine tt_getF C hok jk_11 3 (by decide) jw_2 (t := (2, 1, 0)) hk0 (by decide) rfl rfl hf_3 dX10_openSeries_26 ?_
      refine tt_get C hok jk_2 11 (by decide) jw_286 (t := (2, 6, 0)) ka_4 (by decide) rfl rfl dX10_openSeries_29 (fun v_9 hv_9 hf_10 => ?_)
      obtain ⟨a_11, rfl, ka_11⟩ := tt_vr hv_9
      refine jj_iload_n C dX10_openSeries_32 rfl ?_
      refine tt_aald C hok (t := (2, 2, 0)) ka_11 (by decide) rfl rfl rfl (vp_in_iff.mpr ⟨by omega, by omega⟩) dX10_openSeries_33 (fun v_12 hv_12 => ?_)
      obtain ⟨a_13, rfl, ka_13⟩ := tt_vr hv_12
      refine tt_get C hok jk_9 0 (by decide) jw_416 (t := (0, (-2147483648), 2147483647)) ka_13 (by decide) rfl rfl dX10_openSeries_34 (fun v_14 hv_14 hf_15 => ?_)
      obtain ⟨x_16, rfl, lx_16, ux_16⟩ := tt_vi hv_14
      exact jj_iret C ⟨[], pl0, rfl, rfl, hok, hfr, ⟨x_16, (by first | omega | exact tt_lo _ | exact tt_hi _), (by first | omega | exact tt_lo _ | exact tt_hi _), (by first | omega | exact tt_lo _ | exact tt_hi _), (by first | omega | exact tt_lo _ | exact tt_hi _), rfl⟩⟩ dX10_openSeries_37 (jj_le rfl) (jj_le rfl)
    · have z_c_8 := jc_nlt (a := (p1).toInt) (b := (x_7).toInt) c_8 rfl rfl
      exact jj_throw (k := 44) (text := "no such index") C jt_RX10_200 jw_56 (by decide +kernel) dX10_openSeries_15 dX10_openSeries_18 dX10_openSeries_19 dX10_openSeries_21 dX10_openSeries_24 hex (jj_le rfl) (jj_le rfl) (jj_le rfl) (jj_le rfl) ⟨[], pl0, rfl, rfl, hok, hfr, rfl⟩ (jj_le rfl) (jj_le rfl)

set_option maxHeartbeats 4000000 in
set_option maxRecDepth 100000 in
theorem tc_X2_passingFault_1 {l : Launch} (hl : l.stackTraces = false) (D : va_G) (cA : Nat → ClassId) (ak : (Nat → Nat) × (Nat → Nat)) {Kd : Nat → Nat} (p0 : Int32) {pl0 : va_W} (hok : tt_ok tt_tk cA Kd pl0) : jj_M l D cA ak yX2_passingFault (.code yX2_passingFault cX2_passingFault 1 (some .int)) 0 0 0 0 ([] ++ pl0) [.int p0] (tt_O (fun rx pl1 r => rx = [] ∧ tt_ok tt_tk cA Kd pl1 ∧ tt_fr Kd [] pl0 pl1 ∧ ((r = some (.int 2)) ∨ ((1 : Int) ≤ p0.toInt ∧ p0.toInt ≤ 400 ∧ r = some (.int 0))))) (tt_OX (fun _ _ _ => False)) := by
  refine jj_start hl (by decide) jw_418 (jj_le rfl) ?_
  intro p e s m args below meth c A hargs hA C hex hmn
  have hfr := tt_fr.refl (K := Kd) (WS := []) pl0
  have lp0 := tt_lo p0
  have up0 := tt_hi p0
  refine jj_iload_n C dX2_passingFault_0 rfl ?_
  refine jj_iconst (v := 1) C dX2_passingFault_1 (by decide) ?_
  refine jj_icmp_lt (tgt := 12) C dX2_passingFault_2 (by decide) (fun c_1 => ?_) (fun c_1 => ?_)
  · have z_c_1 := jc_lt (a := (p0).toInt) (b := (1)) c_1 rfl (by decide)
    refine jj_iconst (v := 2) C dX2_passingFault_12 (by decide) ?_
    refine jj_goto (tgt := 17) C dX2_passingFault_13 (by decide) ?_
    exact jj_iret C ⟨[], pl0, rfl, rfl, hok, hfr, (Or.inl rfl)⟩ dX2_passingFault_17 (jj_le rfl) (jj_le rfl)
  · have z_c_1 := jc_nlt (a := (p0).toInt) (b := (1)) c_1 rfl (by decide)
    refine jj_iload_n C dX2_passingFault_5 rfl ?_
    refine jj_sipush (v := 400) C dX2_passingFault_6 (by decide) ?_
    refine jj_icmp_le (tgt := 16) C dX2_passingFault_9 (by decide) (fun c_2 => ?_) (fun c_2 => ?_)
    · have z_c_2 := jc_le (a := (p0).toInt) (b := (400)) c_2 rfl (by decide)
      refine jj_iconst (v := 0) C dX2_passingFault_16 (by decide) ?_
      exact jj_iret C ⟨[], pl0, rfl, rfl, hok, hfr, (Or.inr ⟨(by first | omega | exact tt_lo _ | exact tt_hi _), (by first | omega | exact tt_lo _ | exact tt_hi _), rfl⟩)⟩ dX2_passingFault_17 (jj_le rfl) (jj_le rfl)
    · have z_c_2 := jc_nle (a := (p0).toInt) (b := (400)) c_2 rfl (by decide)
      refine jj_iconst (v := 2) C dX2_passingFault_12 (by decide) ?_
      refine jj_goto (tgt := 17) C dX2_passingFault_13 (by decide) ?_
      exact jj_iret C ⟨[], pl0, rfl, rfl, hok, hfr, (Or.inl rfl)⟩ dX2_passingFault_17 (jj_le rfl) (jj_le rfl)

set_option maxHeartbeats 4000000 in
set_option maxRecDepth 100000 in
theorem tc_X2_chargeDays_2 {l : Launch} (hl : l.stackTraces = false) (D : va_G) (cA : Nat → ClassId) (ak : (Nat → Nat) × (Nat → Nat)) {Kd : Nat → Nat} (h0 : Nat) (p1 : Int32) (hk0 : Kd h0 = 1) (lp1 : (1 : Int) ≤ p1.toInt) (up1 : p1.toInt ≤ 400) {pl0 : va_W} (hok : tt_ok tt_tk cA Kd pl0) : jj_M l D cA ak yX2_chargeDays (.code yX2_chargeDays cX2_chargeDays 8 (some .long)) 0 0 0 0 ([] ++ pl0) [.ref h0, .int p1] (tt_O (fun rx pl1 r => rx = [] ∧ tt_ok tt_tk cA Kd pl1 ∧ tt_fr Kd [(1, 5), (2, 2)] pl0 pl1 ∧ ((∃ v : Int64, r = some (.long v))))) (tt_OX (fun _ _ _ => False)) := by
  refine jj_start hl (by decide) jw_316 (jj_le rfl) ?_
  intro p e s m args below meth c A hargs hA C hex hmn
  have hfr := tt_fr.refl (K := Kd) (WS := [(1, 5), (2, 2)]) pl0
  refine jj_lconst (v := 0) C dX2_chargeDays_0 (by decide) ?_
  refine jj_lstore_n C dX2_chargeDays_1 (by decide) rfl ?_
  refine jj_iconst (v := 0) C dX2_chargeDays_2 (by decide) ?_
  refine jj_istore C dX2_chargeDays_3 (by decide) rfl ?_
  have hL_1 : ∀ (N : Nat) (pl : va_W) (x_2 : Int32) (y_3 : Int64), True → tt_ok tt_tk cA Kd pl → tt_fr Kd [(1, 5), (2, 2)] pl0 pl → (0 : Int) ≤ x_2.toInt → x_2.toInt ≤ 400 → (2147483648 - x_2.toInt ≤ (N : Int)) → jj_J p l e (jj_rm 0 0 0 0) s m args below meth c 8 A (vx_MQ below (jj_q D A (tt_O (fun rx pl1 r => rx = [] ∧ tt_ok tt_tk cA Kd pl1 ∧ tt_fr Kd [(1, 5), (2, 2)] pl0 pl1 ∧ ((∃ v : Int64, r = some (.long v)))))) (jj_x D A (tt_OX (fun _ _ _ => False))) args s 0 0 A) (jj_X D A ([] ++ pl)) 0 0 5 [(4, .int x_2), (2, .long y_3), (0, .ref h0), (1, .int p1)] [] := by
    intro NL_1
    induction NL_1 with
    | zero => intro pl x_2 y_3 _ hok hfr lx_2 ux_2 hNL_1; exfalso; omega
    | succ NL_1 ihL_1 =>
      intro pl x_2 y_3 _ hok hfr lx_2 ux_2 hNL_1
      replace ihL_1 := fun pl x_2 y_3 h1 => ihL_1 pl x_2 y_3 trivial h1
      refine jj_iload C dX2_chargeDays_5 rfl ?_
      refine jj_iload_n C dX2_chargeDays_7 rfl ?_
      refine jj_icmp_ge (tgt := 89) C dX2_chargeDays_8 (by decide) (fun c_4 => ?_) (fun c_4 => ?_)
      · have z_c_4 := jc_le (a := (p1).toInt) (b := (x_2).toInt) c_4 rfl rfl
        refine jj_aload_n C dX2_chargeDays_89 rfl ?_
        refine tt_get C hok jk_2 10 (by decide) jw_319 (t := (2, 5, 0)) hk0 (by decide) rfl rfl dX2_chargeDays_90 (fun v_5 hv_5 hf_6 => ?_)
        obtain ⟨a_7, rfl, ka_7⟩ := tt_vr hv_5
        refine jj_iconst (v := 0) C dX2_chargeDays_93 (by decide) ?_
        refine jj_dup2 C dX2_chargeDays_94 rfl rfl ?_
        refine tt_lald C hok (t := (1, (-9223372036854775808), 9223372036854775807)) ka_7 (by decide) rfl (vp_in_iff.mpr (by decide)) dX2_chargeDays_95 (fun v_8 hv_8 => ?_)
        refine jj_lload_n C dX2_chargeDays_96 rfl ?_
        obtain ⟨y_9, ey_9⟩ : ∃ z : Int64, v_8 + y_3 = z := ⟨_, rfl⟩
        refine jj_ladd (v := y_9) C dX2_chargeDays_97 ey_9 ?_
        refine tt_last C hok (t := (1, (-9223372036854775808), 9223372036854775807)) ka_7 (by decide) rfl (vp_in_iff.mpr (by decide)) (tt_ja _) dX2_chargeDays_98 (fun pl_10 hok_11 tr => ?_)
        replace hf_6 := tr _ _ _ hf_6
        replace hfr := hfr.arr tr
        refine jj_aload_n C dX2_chargeDays_99 rfl ?_
        refine tt_getF C hok_11 jk_2 10 (by decide) jw_319 (t := (2, 5, 0)) hk0 (by decide) rfl rfl hf_6 dX2_chargeDays_100 ?_
        refine jj_iconst (v := 5) C dX2_chargeDays_103 (by decide) ?_
        refine jj_dup2 C dX2_chargeDays_104 rfl rfl ?_
        refine tt_lald C hok_11 (t := (1, (-9223372036854775808), 9223372036854775807)) ka_7 (by decide) rfl (vp_in_iff.mpr (by decide)) dX2_chargeDays_105 (fun v_12 hv_12 => ?_)
        refine jj_lload_n C dX2_chargeDays_106 rfl ?_
        obtain ⟨y_13, ey_13⟩ : ∃ z : Int64, v_12 + y_3 = z := ⟨_, rfl⟩
        refine jj_ladd (v := y_13) C dX2_chargeDays_107 ey_13 ?_
        refine tt_last C hok_11 (t := (1, (-9223372036854775808), 9223372036854775807)) ka_7 (by decide) rfl (vp_in_iff.mpr (by decide)) (tt_ja _) dX2_chargeDays_108 (fun pl_14 hok_15 tr => ?_)
        replace hf_6 := tr _ _ _ hf_6
        replace hfr := hfr.arr tr
        refine jj_lload_n C dX2_chargeDays_109 rfl ?_
        exact jj_lret C ⟨[], pl_14, rfl, rfl, hok_15, hfr, ⟨y_3, rfl⟩⟩ dX2_chargeDays_110 (jj_le rfl) (jj_le rfl)
      · have z_c_4 := jc_nle (a := (p1).toInt) (b := (x_2).toInt) c_4 rfl rfl
        refine jj_iconst (v := 0) C dX2_chargeDays_11 (by decide) ?_
        refine jj_istore C dX2_chargeDays_12 (by decide) rfl ?_
        have hL_16 : ∀ (N : Nat) (pl : va_W) (x_17 : Int32) (y_18 : Int64), True → tt_ok tt_tk cA Kd pl → tt_fr Kd [(1, 5), (2, 2)] pl0 pl → (0 : Int) ≤ x_17.toInt → x_17.toInt ≤ 6 → (2147483648 - x_17.toInt ≤ (N : Int)) → jj_J p l e (jj_rm 0 0 0 0) s m args below meth c 8 A (vx_MQ below (jj_q D A (tt_O (fun rx pl1 r => rx = [] ∧ tt_ok tt_tk cA Kd pl1 ∧ tt_fr Kd [(1, 5), (2, 2)] pl0 pl1 ∧ ((∃ v : Int64, r = some (.long v)))))) (jj_x D A (tt_OX (fun _ _ _ => False))) args s 0 0 A) (jj_X D A ([] ++ pl)) 0 0 14 [(5, .int x_17), (4, .int x_2), (2, .long y_18), (0, .ref h0), (1, .int p1)] [] := by
          intro NL_16
          induction NL_16 with
          | zero => intro pl x_17 y_18 _ hok hfr lx_17 ux_17 hNL_16; exfalso; omega
          | succ NL_16 ihL_16 =>
            intro pl x_17 y_18 _ hok hfr lx_17 ux_17 hNL_16
            replace ihL_16 := fun pl x_17 y_18 h1 => ihL_16 pl x_17 y_18 trivial h1
            refine jj_iload C dX2_chargeDays_14 rfl ?_
            refine jj_aload_n C dX2_chargeDays_16 rfl ?_
            refine tt_get C hok jk_2 7 (by decide) jw_317 (t := (0, 0, 6)) hk0 (by decide) rfl rfl dX2_chargeDays_17 (fun v_19 hv_19 hf_20 => ?_)
            obtain ⟨x_21, rfl, lx_21, ux_21⟩ := tt_vi hv_19
            refine jj_icmp_ge (tgt := 73) C dX2_chargeDays_20 (by decide) (fun c_22 => ?_) (fun c_22 => ?_)
            · have z_c_22 := jc_le (a := (x_21).toInt) (b := (x_17).toInt) c_22 rfl rfl
              refine jj_aload_n C dX2_chargeDays_73 rfl ?_
              refine jj_dup C dX2_chargeDays_74 rfl ?_
              refine tt_get C hok jk_2 5 (by decide) jw_318 (t := (0, (-2147483648), 2147483647)) hk0 (by decide) rfl rfl dX2_chargeDays_75 (fun v_23 hv_23 hf_24 => ?_)
              obtain ⟨x_25, rfl, lx_25, ux_25⟩ := tt_vi hv_23
              refine jj_iconst (v := 1) C dX2_chargeDays_78 (by decide) ?_
              obtain ⟨x_26, ex_26⟩ : ∃ z : Int32, x_25 + (1 : Int32) = z := ⟨_, rfl⟩
              refine jj_iadd (v := x_26) C dX2_chargeDays_79 ex_26 ?_
              refine tt_put C hok jk_2 5 (by decide) jw_318 (t := (0, (-2147483648), 2147483647)) hk0 (by decide) rfl rfl rfl (tt_ia x_26) rfl rfl dX2_chargeDays_80 (fun pl_27 hok_28 tr hn => ?_)
              replace hf_20 := tr _ _ _ (Or.inr (by decide)) hf_20
              have hf_29 := hn
              replace hfr := hfr.put hk0 tr (by decide)
              obtain ⟨x_30, ex_30, vx_30⟩ := tt_inc (x := x_2) (n := 1) (by omega) (by omega)
              refine jj_iinc (v := x_30) C dX2_chargeDays_83 rfl ex_30 (by decide) rfl ?_
              refine jj_goto (tgt := 5) C dX2_chargeDays_86 (by decide) ?_
              refine jj_loc [0, 2, 3, 4] rfl ?_
              exact ihL_1 pl_27 x_30 y_18 hok_28 hfr (by first | omega | decide | exact tt_lo _ | exact tt_hi _) (by first | omega | decide | exact tt_lo _ | exact tt_hi _) (by first | omega | decide | exact tt_lo _ | exact tt_hi _)
            · have z_c_22 := jc_nle (a := (x_21).toInt) (b := (x_17).toInt) c_22 rfl rfl
              refine jj_aload_n C dX2_chargeDays_23 rfl ?_
              refine tt_get C hok jk_2 11 (by decide) jw_320 (t := (2, 6, 0)) hk0 (by decide) rfl rfl dX2_chargeDays_24 (fun v_31 hv_31 hf_32 => ?_)
              obtain ⟨a_33, rfl, ka_33⟩ := tt_vr hv_31
              refine jj_iload C dX2_chargeDays_27 rfl ?_
              refine tt_aald C hok (t := (2, 2, 0)) ka_33 (by decide) rfl rfl rfl (vp_in_iff.mpr ⟨by omega, by omega⟩) dX2_chargeDays_29 (fun v_34 hv_34 => ?_)
              obtain ⟨a_35, rfl, ka_35⟩ := tt_vr hv_34
              refine tt_get C hok jk_9 2 (by decide) jw_321 (t := (1, (-9223372036854775808), 9223372036854775807)) ka_35 (by decide) rfl rfl dX2_chargeDays_30 (fun v_36 hv_36 hf_37 => ?_)
              obtain ⟨y_38, rfl, -, -⟩ := tt_vj hv_36
              refine jj_aload_n C dX2_chargeDays_33 rfl ?_
              refine tt_get C hok jk_2 2 (by decide) jw_322 (t := (0, (-2147483648), 2147483647)) hk0 (by decide) rfl rfl dX2_chargeDays_34 (fun v_39 hv_39 hf_40 => ?_)
              obtain ⟨x_41, rfl, lx_41, ux_41⟩ := tt_vi hv_39
              obtain ⟨y_42, ey_42, vy_42⟩ := tt_i2l x_41
              refine jj_i2l (v := y_42) C dX2_chargeDays_37 ey_42 ?_
              obtain ⟨y_43, ey_43⟩ : ∃ z : Int64, y_38 * y_42 = z := ⟨_, rfl⟩
              refine jj_lmul (v := y_43) C dX2_chargeDays_38 ey_43 ?_
              refine jj_ldc2 (v := 3650000) C dX2_chargeDays_39 jw_323 ?_
              obtain ⟨y_44, ey_44⟩ : ∃ z : Int64, y_43 / (3650000 : Int64) = z := ⟨_, rfl⟩
              refine jj_ldiv (v := y_44) C dX2_chargeDays_42 (by decide) ey_44 ?_
              refine jj_lstore C dX2_chargeDays_43 (by decide) rfl ?_
              refine jj_aload_n C dX2_chargeDays_45 rfl ?_
              refine tt_getF C hok jk_2 11 (by decide) jw_320 (t := (2, 6, 0)) hk0 (by decide) rfl rfl hf_32 dX2_chargeDays_46 ?_
              refine jj_iload C dX2_chargeDays_49 rfl ?_
              refine tt_aald C hok (t := (2, 2, 0)) ka_33 (by decide) rfl rfl rfl (vp_in_iff.mpr ⟨by omega, by omega⟩) dX2_chargeDays_51 (fun v_45 hv_45 => ?_)
              obtain ⟨a_46, rfl, ka_46⟩ := tt_vr hv_45
              refine jj_dup C dX2_chargeDays_52 rfl ?_
              refine tt_get C hok jk_9 2 (by decide) jw_321 (t := (1, (-9223372036854775808), 9223372036854775807)) ka_46 (by decide) rfl rfl dX2_chargeDays_53 (fun v_47 hv_47 hf_48 => ?_)
              obtain ⟨y_49, rfl, -, -⟩ := tt_vj hv_47
              refine jj_lload C dX2_chargeDays_56 rfl ?_
              obtain ⟨y_50, ey_50⟩ : ∃ z : Int64, y_49 - y_44 = z := ⟨_, rfl⟩
              refine jj_lsub (v := y_50) C dX2_chargeDays_58 ey_50 ?_
              refine tt_put C hok jk_9 2 (by decide) jw_321 (t := (1, (-9223372036854775808), 9223372036854775807)) ka_46 (by decide) rfl rfl rfl (tt_ja y_50) rfl rfl dX2_chargeDays_59 (fun pl_51 hok_52 tr hn => ?_)
              replace hf_20 := tr _ _ _ (Or.inl (tt_ne hk0 ka_46 (by decide))) hf_20
              replace hf_32 := tr _ _ _ (Or.inl (tt_ne hk0 ka_46 (by decide))) hf_32
              replace hf_40 := tr _ _ _ (Or.inl (tt_ne hk0 ka_46 (by decide))) hf_40
              have hf_53 := hn
              replace hfr := hfr.put ka_46 tr (by decide)
              refine jj_lload_n C dX2_chargeDays_62 rfl ?_
              refine jj_lload C dX2_chargeDays_63 rfl ?_
              obtain ⟨y_54, ey_54⟩ : ∃ z : Int64, y_18 + y_44 = z := ⟨_, rfl⟩
              refine jj_ladd (v := y_54) C dX2_chargeDays_65 ey_54 ?_
              refine jj_lstore_n C dX2_chargeDays_66 (by decide) rfl ?_
              obtain ⟨x_55, ex_55, vx_55⟩ := tt_inc (x := x_17) (n := 1) (by omega) (by omega)
              refine jj_iinc (v := x_55) C dX2_chargeDays_67 rfl ex_55 (by decide) rfl ?_
              refine jj_goto (tgt := 14) C dX2_chargeDays_70 (by decide) ?_
              refine jj_loc [0, 3, 1, 4, 5] rfl ?_
              exact ihL_16 pl_51 x_55 y_54 hok_52 hfr (by first | omega | decide | exact tt_lo _ | exact tt_hi _) (by first | omega | decide | exact tt_lo _ | exact tt_hi _) (by first | omega | decide | exact tt_lo _ | exact tt_hi _)
        exact hL_16 _ pl (0 : Int32) y_3 trivial hok hfr (by first | omega | decide | exact tt_lo _ | exact tt_hi _) (by first | omega | decide | exact tt_lo _ | exact tt_hi _) (Int.self_le_toNat _)
  exact hL_1 _ pl0 (0 : Int32) (0 : Int64) trivial hok hfr (by first | omega | decide | exact tt_lo _ | exact tt_hi _) (by first | omega | decide | exact tt_lo _ | exact tt_hi _) (Int.self_le_toNat _)

set_option maxHeartbeats 4000000 in
set_option maxRecDepth 100000 in
theorem tc_X0_canBeDue_1 {l : Launch} (hl : l.stackTraces = false) (D : va_G) (cA : Nat → ClassId) (ak : (Nat → Nat) × (Nat → Nat)) {Kd : Nat → Nat} (h0 : Nat) (h1 : Nat) (hk0 : Kd h0 = 1) (hk1 : Kd h1 = 3) {pl0 : va_W} (hok : tt_ok tt_tk cA Kd pl0) : jj_M l D cA ak yX0_canBeDue (.code yX0_canBeDue cX0_canBeDue 3 (some .boolean)) 1 22 0 0 ([] ++ pl0) [.ref h0, .ref h1] (tt_O (fun rx pl1 r => rx = [] ∧ tt_ok tt_tk cA Kd pl1 ∧ tt_fr Kd [] pl0 pl1 ∧ ((r = some (.int 0)) ∨ (r = some (.int 1))))) (tt_OX (fun _ _ _ => False)) := by
  refine jj_start hl (by decide) jw_426 (jj_le rfl) ?_
  intro p e s m args below meth c A hargs hA C hex hmn
  have hfr := tt_fr.refl (K := Kd) (WS := []) pl0
  refine jj_aload_n C dX0_canBeDue_0 rfl ?_
  refine jj_aload_n C dX0_canBeDue_1 rfl ?_
  refine tt_get C hok jk_5 1 (by decide) jw_350 (t := (0, (-2147483648), 2147483647)) hk1 (by decide) rfl rfl dX0_canBeDue_2 (fun v_1 hv_1 hf_2 => ?_)
  obtain ⟨x_3, rfl, lx_3, ux_3⟩ := tt_vi hv_1
  obtain ⟨qc, gs, hqc⟩ := tt_recv (cx := []) hok hk0 (by decide) rfl
  refine tt_callV (rest := []) C (tc_X0_placeOfSeries_1 hl D cA ak h0 x_3 hk0 hok) [] [] rfl rfl (by decide) (by decide) (by decide) qc hqc rfl rfl jw_427 jw_137 jw_138 jw_133 jw_132 jn_X0_placeOfSeries rfl (jj_le rfl) (jj_le rfl) (jj_le rfl) (jj_le rfl) (jj_le rfl) dX0_canBeDue_5 rfl (fun _ _ _ hX => hX.elim) (fun rx pl_4 r O_7 => ?_)
  obtain ⟨rfl, hok_5, hr_6, hR_9⟩ := O_7
  replace hf_2 := hr_6.at hk1 (by decide) (by decide) hf_2
  replace hfr := hfr.trans (hr_6.sub (by decide))
  rcases hR_9 with rfl | ⟨x_10, lx_10, ux_10, rfl⟩
  · refine jj_istore_n C dX0_canBeDue_8 (by decide) rfl ?_
    refine jj_aload_n C dX0_canBeDue_9 rfl ?_
    refine tt_get C hok_5 jk_2 1 (by decide) jw_193 (t := (0, (-2147483648), 2147483647)) hk0 (by decide) rfl rfl dX0_canBeDue_10 (fun v_11 hv_11 hf_12 => ?_)
    obtain ⟨x_13, rfl, lx_13, ux_13⟩ := tt_vi hv_11
    refine jj_iconst (v := 1) C dX0_canBeDue_13 (by decide) ?_
    refine jj_icmp_ne (tgt := 43) C dX0_canBeDue_14 (by decide) (fun c_14 => ?_) (fun c_14 => ?_)
    · have z_c_14 := jc_neq (a := (x_13).toInt) (b := (1)) c_14 rfl (by decide)
      refine jj_iconst (v := 0) C dX0_canBeDue_43 (by decide) ?_
      exact jj_zret C rfl ⟨[], pl_4, rfl, rfl, hok_5, hfr, (Or.inl rfl)⟩ dX0_canBeDue_44 (jj_le rfl) (jj_le rfl)
    · have z_c_14 := jc_eq (a := (x_13).toInt) (b := (1)) c_14 rfl (by decide)
      refine jj_iload_n C dX0_canBeDue_17 rfl ?_
      refine jj_iconst (v := (-1)) C dX0_canBeDue_18 (by decide) ?_
      refine jj_icmp_eqT (tgt := 43) C dX0_canBeDue_19 (by decide) (by decide) ?_
      refine jj_iconst (v := 0) C dX0_canBeDue_43 (by decide) ?_
      exact jj_zret C rfl ⟨[], pl_4, rfl, rfl, hok_5, hfr, (Or.inl rfl)⟩ dX0_canBeDue_44 (jj_le rfl) (jj_le rfl)
  · refine jj_istore_n C dX0_canBeDue_8 (by decide) rfl ?_
    refine jj_aload_n C dX0_canBeDue_9 rfl ?_
    refine tt_get C hok_5 jk_2 1 (by decide) jw_193 (t := (0, (-2147483648), 2147483647)) hk0 (by decide) rfl rfl dX0_canBeDue_10 (fun v_15 hv_15 hf_16 => ?_)
    obtain ⟨x_17, rfl, lx_17, ux_17⟩ := tt_vi hv_15
    refine jj_iconst (v := 1) C dX0_canBeDue_13 (by decide) ?_
    refine jj_icmp_ne (tgt := 43) C dX0_canBeDue_14 (by decide) (fun c_18 => ?_) (fun c_18 => ?_)
    · have z_c_18 := jc_neq (a := (x_17).toInt) (b := (1)) c_18 rfl (by decide)
      refine jj_iconst (v := 0) C dX0_canBeDue_43 (by decide) ?_
      exact jj_zret C rfl ⟨[], pl_4, rfl, rfl, hok_5, hfr, (Or.inl rfl)⟩ dX0_canBeDue_44 (jj_le rfl) (jj_le rfl)
    · have z_c_18 := jc_eq (a := (x_17).toInt) (b := (1)) c_18 rfl (by decide)
      refine jj_iload_n C dX0_canBeDue_17 rfl ?_
      refine jj_iconst (v := (-1)) C dX0_canBeDue_18 (by decide) ?_
      refine jj_icmp_eq (tgt := 43) C dX0_canBeDue_19 (by decide) (fun c_19 => ?_) (fun c_19 => ?_)
      · have z_c_19 := jc_eq (a := (x_10).toInt) (b := (-1)) c_19 rfl (by decide)
        exfalso; omega
      · have z_c_19 := jc_neq (a := (x_10).toInt) (b := (-1)) c_19 rfl (by decide)
        refine jj_aload_n C dX0_canBeDue_22 rfl ?_
        refine tt_get C hok_5 jk_5 4 (by decide) jw_351 (t := (1, (-9223372036854775808), 9223372036854775807)) hk1 (by decide) rfl rfl dX0_canBeDue_23 (fun v_20 hv_20 hf_21 => ?_)
        obtain ⟨y_22, rfl, -, -⟩ := tt_vj hv_20
        refine jj_aload_n C dX0_canBeDue_26 rfl ?_
        refine tt_get C hok_5 jk_2 11 (by decide) jw_135 (t := (2, 6, 0)) hk0 (by decide) rfl rfl dX0_canBeDue_27 (fun v_23 hv_23 hf_24 => ?_)
        obtain ⟨a_25, rfl, ka_25⟩ := tt_vr hv_23
        refine jj_iload_n C dX0_canBeDue_30 rfl ?_
        refine tt_aald C hok_5 (t := (2, 2, 0)) ka_25 (by decide) rfl rfl rfl (vp_in_iff.mpr ⟨by omega, by omega⟩) dX0_canBeDue_31 (fun v_26 hv_26 => ?_)
        obtain ⟨a_27, rfl, ka_27⟩ := tt_vr hv_26
        refine tt_get C hok_5 jk_9 4 (by decide) jw_428 (t := (1, (-9223372036854775808), 9223372036854775807)) ka_27 (by decide) rfl rfl dX0_canBeDue_32 (fun v_28 hv_28 hf_29 => ?_)
        obtain ⟨y_30, rfl, -, -⟩ := tt_vj hv_28
        refine jj_lcmp_ge (tgt := 43) C dX0_canBeDue_35 dX0_canBeDue_36 (by decide) (fun c_31 => ?_) (fun c_31 => ?_)
        · refine jj_iconst (v := 0) C dX0_canBeDue_43 (by decide) ?_
          exact jj_zret C rfl ⟨[], pl_4, rfl, rfl, hok_5, hfr, (Or.inl rfl)⟩ dX0_canBeDue_44 (jj_le rfl) (jj_le rfl)
        · refine jj_iconst (v := 1) C dX0_canBeDue_39 (by decide) ?_
          refine jj_goto (tgt := 44) C dX0_canBeDue_40 (by decide) ?_
          exact jj_zret C rfl ⟨[], pl_4, rfl, rfl, hok_5, hfr, (Or.inr rfl)⟩ dX0_canBeDue_44 (jj_le rfl) (jj_le rfl)

set_option maxHeartbeats 4000000 in
set_option maxRecDepth 100000 in
theorem tc_X0_fallOfPay_1 {l : Launch} (hl : l.stackTraces = false) (D : va_G) (cA : Nat → ClassId) (ak : (Nat → Nat) × (Nat → Nat)) {Kd : Nat → Nat} (h0 : Nat) (p1 : Int32) (hk0 : Kd h0 = 1) {pl0 : va_W} (hok : tt_ok tt_tk cA Kd pl0) : jj_M l D cA ak yX0_fallOfPay (.code yX0_fallOfPay cX0_fallOfPay 5 (some .long)) 2 44 0 0 ([] ++ pl0) [.ref h0, .int p1] (tt_O (fun rx pl1 r => rx = [] ∧ tt_ok tt_tk cA Kd pl1 ∧ tt_fr Kd [] pl0 pl1 ∧ ((∃ v : Int64, r = some (.long v))))) (tt_OX (fun _ _ _ => False)) := by
  refine jj_start hl (by decide) jw_424 (jj_le rfl) ?_
  intro p e s m args below meth c A hargs hA C hex hmn
  have hfr := tt_fr.refl (K := Kd) (WS := []) pl0
  have lp1 := tt_lo p1
  have up1 := tt_hi p1
  refine jj_lconst (v := 0) C dX0_fallOfPay_0 (by decide) ?_
  refine jj_lstore_n C dX0_fallOfPay_1 (by decide) rfl ?_
  refine jj_iconst (v := 0) C dX0_fallOfPay_2 (by decide) ?_
  refine jj_istore C dX0_fallOfPay_3 (by decide) rfl ?_
  have hL_1 : ∀ (N : Nat) (pl : va_W) (x_2 : Int32) (y_3 : Int64), True → tt_ok tt_tk cA Kd pl → tt_fr Kd [] pl0 pl → (0 : Int) ≤ x_2.toInt → x_2.toInt ≤ 40 → (2147483648 - x_2.toInt ≤ (N : Int)) → jj_J p l e (jj_rm 2 44 0 0) s m args below meth c 5 A (vx_MQ below (jj_q D A (tt_O (fun rx pl1 r => rx = [] ∧ tt_ok tt_tk cA Kd pl1 ∧ tt_fr Kd [] pl0 pl1 ∧ ((∃ v : Int64, r = some (.long v)))))) (jj_x D A (tt_OX (fun _ _ _ => False))) args s 0 0 A) (jj_X D A ([] ++ pl)) 0 0 5 [(4, .int x_2), (2, .long y_3), (0, .ref h0), (1, .int p1)] [] := by
    intro NL_1
    induction NL_1 with
    | zero => intro pl x_2 y_3 _ hok hfr lx_2 ux_2 hNL_1; exfalso; omega
    | succ NL_1 ihL_1 =>
      intro pl x_2 y_3 _ hok hfr lx_2 ux_2 hNL_1
      replace ihL_1 := fun pl x_2 y_3 h1 => ihL_1 pl x_2 y_3 trivial h1
      refine jj_iload C dX0_fallOfPay_5 rfl ?_
      refine jj_aload_n C dX0_fallOfPay_7 rfl ?_
      refine tt_get C hok jk_2 8 (by decide) jw_199 (t := (0, 0, 40)) hk0 (by decide) rfl rfl dX0_fallOfPay_8 (fun v_4 hv_4 hf_5 => ?_)
      obtain ⟨x_6, rfl, lx_6, ux_6⟩ := tt_vi hv_4
      refine jj_icmp_ge (tgt := 79) C dX0_fallOfPay_11 (by decide) (fun c_7 => ?_) (fun c_7 => ?_)
      · have z_c_7 := jc_le (a := (x_6).toInt) (b := (x_2).toInt) c_7 rfl rfl
        refine jj_lload_n C dX0_fallOfPay_79 rfl ?_
        exact jj_lret C ⟨[], pl, rfl, rfl, hok, hfr, ⟨y_3, rfl⟩⟩ dX0_fallOfPay_80 (jj_le rfl) (jj_le rfl)
      · have z_c_7 := jc_nle (a := (x_6).toInt) (b := (x_2).toInt) c_7 rfl rfl
        refine jj_aload_n C dX0_fallOfPay_14 rfl ?_
        refine tt_get C hok jk_2 12 (by decide) jw_214 (t := (2, 7, 0)) hk0 (by decide) rfl rfl dX0_fallOfPay_15 (fun v_8 hv_8 hf_9 => ?_)
        obtain ⟨a_10, rfl, ka_10⟩ := tt_vr hv_8
        refine jj_iload C dX0_fallOfPay_18 rfl ?_
        refine tt_aald C hok (t := (2, 3, 0)) ka_10 (by decide) rfl rfl rfl (vp_in_iff.mpr ⟨by omega, by omega⟩) dX0_fallOfPay_20 (fun v_11 hv_11 => ?_)
        obtain ⟨a_12, rfl, ka_12⟩ := tt_vr hv_11
        refine tt_get C hok jk_5 0 (by decide) jw_249 (t := (0, (-2147483648), 2147483647)) ka_12 (by decide) rfl rfl dX0_fallOfPay_21 (fun v_13 hv_13 hf_14 => ?_)
        obtain ⟨x_15, rfl, lx_15, ux_15⟩ := tt_vi hv_13
        refine jj_iload_n C dX0_fallOfPay_24 rfl ?_
        refine jj_icmp_ne (tgt := 73) C dX0_fallOfPay_25 (by decide) (fun c_16 => ?_) (fun c_16 => ?_)
        · have z_c_16 := jc_neq (a := (x_15).toInt) (b := (p1).toInt) c_16 rfl rfl
          obtain ⟨x_17, ex_17, vx_17⟩ := tt_inc (x := x_2) (n := 1) (by omega) (by omega)
          refine jj_iinc (v := x_17) C dX0_fallOfPay_73 rfl ex_17 (by decide) rfl ?_
          refine jj_goto (tgt := 5) C dX0_fallOfPay_76 (by decide) ?_
          exact ihL_1 pl x_17 y_3 hok hfr (by first | omega | decide | exact tt_lo _ | exact tt_hi _) (by first | omega | decide | exact tt_lo _ | exact tt_hi _) (by first | omega | decide | exact tt_lo _ | exact tt_hi _)
        · have z_c_16 := jc_eq (a := (x_15).toInt) (b := (p1).toInt) c_16 rfl rfl
          refine jj_aload_n C dX0_fallOfPay_28 rfl ?_
          refine jj_aload_n C dX0_fallOfPay_29 rfl ?_
          refine tt_getF C hok jk_2 12 (by decide) jw_214 (t := (2, 7, 0)) hk0 (by decide) rfl rfl hf_9 dX0_fallOfPay_30 ?_
          refine jj_iload C dX0_fallOfPay_33 rfl ?_
          refine tt_aald C hok (t := (2, 3, 0)) ka_10 (by decide) rfl rfl rfl (vp_in_iff.mpr ⟨by omega, by omega⟩) dX0_fallOfPay_35 (fun v_18 hv_18 => ?_)
          obtain ⟨a_19, rfl, ka_19⟩ := tt_vr hv_18
          obtain ⟨qc, gs, hqc⟩ := tt_recv (cx := []) hok hk0 (by decide) rfl
          refine tt_callV (rest := []) C (tc_X0_canBeDue_1 hl D cA ak h0 a_19 hk0 ka_19 hok) [] [] rfl rfl (by decide) (by decide) (by decide) qc hqc rfl rfl jw_425 jw_429 jw_430 jw_133 jw_426 jn_X0_canBeDue rfl (jj_le rfl) (jj_le rfl) (jj_le rfl) (jj_le rfl) (jj_le rfl) dX0_fallOfPay_36 rfl (fun _ _ _ hX => hX.elim) (fun rx pl_20 r O_23 => ?_)
          obtain ⟨rfl, hok_21, hr_22, hR_25⟩ := O_23
          replace hf_5 := hr_22.at hk0 (by decide) (by decide) hf_5
          replace hf_9 := hr_22.at hk0 (by decide) (by decide) hf_9
          replace hf_14 := hr_22.at ka_12 (by decide) (by decide) hf_14
          replace hfr := hfr.trans (hr_22.sub (by decide))
          rcases hR_25 with rfl | rfl
          · refine jj_if_eqT (tgt := 73) C dX0_fallOfPay_39 (by decide) (by decide) ?_
            obtain ⟨x_26, ex_26, vx_26⟩ := tt_inc (x := x_2) (n := 1) (by omega) (by omega)
            refine jj_iinc (v := x_26) C dX0_fallOfPay_73 rfl ex_26 (by decide) rfl ?_
            refine jj_goto (tgt := 5) C dX0_fallOfPay_76 (by decide) ?_
            exact ihL_1 pl_20 x_26 y_3 hok_21 hfr (by first | omega | decide | exact tt_lo _ | exact tt_hi _) (by first | omega | decide | exact tt_lo _ | exact tt_hi _) (by first | omega | decide | exact tt_lo _ | exact tt_hi _)
          · refine jj_if_eqF (tgt := 73) C dX0_fallOfPay_39 (by decide) (by decide) ?_
            refine jj_lload_n C dX0_fallOfPay_42 rfl ?_
            refine jj_ldc2 (v := 5) C dX0_fallOfPay_43 jw_432 ?_
            refine jj_aload_n C dX0_fallOfPay_46 rfl ?_
            refine tt_getF C hok_21 jk_2 12 (by decide) jw_214 (t := (2, 7, 0)) hk0 (by decide) rfl rfl hf_9 dX0_fallOfPay_47 ?_
            refine jj_iload C dX0_fallOfPay_50 rfl ?_
            refine tt_aald C hok_21 (t := (2, 3, 0)) ka_10 (by decide) rfl rfl rfl (vp_in_iff.mpr ⟨by omega, by omega⟩) dX0_fallOfPay_52 (fun v_27 hv_27 => ?_)
            obtain ⟨a_28, rfl, ka_28⟩ := tt_vr hv_27
            refine tt_get C hok_21 jk_5 3 (by decide) jw_250 (t := (1, (-9223372036854775808), 9223372036854775807)) ka_28 (by decide) rfl rfl dX0_fallOfPay_53 (fun v_29 hv_29 hf_30 => ?_)
            obtain ⟨y_31, rfl, -, -⟩ := tt_vj hv_29
            refine jj_aload_n C dX0_fallOfPay_56 rfl ?_
            refine tt_get C hok_21 jk_2 3 (by decide) jw_195 (t := (0, (-2147483648), 2147483647)) hk0 (by decide) rfl rfl dX0_fallOfPay_57 (fun v_32 hv_32 hf_33 => ?_)
            obtain ⟨x_34, rfl, lx_34, ux_34⟩ := tt_vi hv_32
            obtain ⟨y_35, ey_35, vy_35⟩ := tt_i2l x_34
            refine jj_i2l (v := y_35) C dX0_fallOfPay_60 ey_35 ?_
            obtain ⟨y_36, ey_36⟩ : ∃ z : Int64, y_31 * y_35 = z := ⟨_, rfl⟩
            refine jj_lmul (v := y_36) C dX0_fallOfPay_61 ey_36 ?_
            refine jj_ldc2 (v := 100) C dX0_fallOfPay_62 jw_243 ?_
            obtain ⟨y_37, ey_37⟩ : ∃ z : Int64, y_36 / (100 : Int64) = z := ⟨_, rfl⟩
            refine jj_ldiv (v := y_37) C dX0_fallOfPay_65 (by decide) ey_37 ?_
            refine jj_ldc2 (v := 100000) C dX0_fallOfPay_66 jw_433 ?_
            obtain ⟨y_38, ey_38⟩ : ∃ z : Int64, y_37 / (100000 : Int64) = z := ⟨_, rfl⟩
            refine jj_ldiv (v := y_38) C dX0_fallOfPay_69 (by decide) ey_38 ?_
            obtain ⟨y_39, ey_39⟩ : ∃ z : Int64, (5 : Int64) + y_38 = z := ⟨_, rfl⟩
            refine jj_ladd (v := y_39) C dX0_fallOfPay_70 ey_39 ?_
            obtain ⟨y_40, ey_40⟩ : ∃ z : Int64, y_3 + y_39 = z := ⟨_, rfl⟩
            refine jj_ladd (v := y_40) C dX0_fallOfPay_71 ey_40 ?_
            refine jj_lstore_n C dX0_fallOfPay_72 (by decide) rfl ?_
            obtain ⟨x_41, ex_41, vx_41⟩ := tt_inc (x := x_2) (n := 1) (by omega) (by omega)
            refine jj_iinc (v := x_41) C dX0_fallOfPay_73 rfl ex_41 (by decide) rfl ?_
            refine jj_goto (tgt := 5) C dX0_fallOfPay_76 (by decide) ?_
            exact ihL_1 pl_20 x_41 y_40 hok_21 hfr (by first | omega | decide | exact tt_lo _ | exact tt_hi _) (by first | omega | decide | exact tt_lo _ | exact tt_hi _) (by first | omega | decide | exact tt_lo _ | exact tt_hi _)
  exact hL_1 _ pl0 (0 : Int32) (0 : Int64) trivial hok hfr (by first | omega | decide | exact tt_lo _ | exact tt_hi _) (by first | omega | decide | exact tt_lo _ | exact tt_hi _) (Int.self_le_toNat _)

set_option maxHeartbeats 4000000 in
set_option maxRecDepth 100000 in
theorem tc_X1_resetTrial_2 {l : Launch} (hl : l.stackTraces = false) (D : va_G) (cA : Nat → ClassId) (ak : (Nat → Nat) × (Nat → Nat)) {Kd : Nat → Nat} (h0 : Nat) (h1 : Nat) (p2 : Int32) (hk0 : Kd h0 = 9) (hk1 : Kd h1 = 1) {pl0 : va_W} (hok : tt_ok tt_tk cA Kd pl0) : jj_M l D cA ak yX1_resetTrial (.code yX1_resetTrial cX1_resetTrial 4 none) 1 21 0 0 ([] ++ pl0) [.ref h0, .ref h1, .int p2] (tt_O (fun rx pl1 r => rx = [] ∧ tt_ok tt_tk cA Kd pl1 ∧ tt_fr Kd [(2, 0), (2, 1), (2, 2), (2, 3), (2, 4)] pl0 pl1 ∧ ((r = none)))) (tt_OX (fun _ _ _ => False)) := by
  refine jj_start hl (by decide) jw_79 (jj_le rfl) ?_
  intro p e s m args below meth c A hargs hA C hex hmn
  have hfr := tt_fr.refl (K := Kd) (WS := [(2, 0), (2, 1), (2, 2), (2, 3), (2, 4)]) pl0
  have lp2 := tt_lo p2
  have up2 := tt_hi p2
  refine jj_iconst (v := 0) C dX1_resetTrial_0 (by decide) ?_
  refine jj_istore_n C dX1_resetTrial_1 (by decide) rfl ?_
  have hL_1 : ∀ (N : Nat) (pl : va_W) (x_2 : Int32), True → tt_ok tt_tk cA Kd pl → tt_fr Kd [(2, 0), (2, 1), (2, 2), (2, 3), (2, 4)] pl0 pl → (0 : Int) ≤ x_2.toInt → x_2.toInt ≤ 6 → (2147483648 - x_2.toInt ≤ (N : Int)) → jj_J p l e (jj_rm 1 21 0 0) s m args below meth c 4 A (vx_MQ below (jj_q D A (tt_O (fun rx pl1 r => rx = [] ∧ tt_ok tt_tk cA Kd pl1 ∧ tt_fr Kd [(2, 0), (2, 1), (2, 2), (2, 3), (2, 4)] pl0 pl1 ∧ ((r = none))))) (jj_x D A (tt_OX (fun _ _ _ => False))) args s 0 0 A) (jj_X D A ([] ++ pl)) 0 0 2 [(3, .int x_2), (0, .ref h0), (1, .ref h1), (2, .int p2)] [] := by
    intro NL_1
    induction NL_1 with
    | zero => intro pl x_2 _ hok hfr lx_2 ux_2 hNL_1; exfalso; omega
    | succ NL_1 ihL_1 =>
      intro pl x_2 _ hok hfr lx_2 ux_2 hNL_1
      replace ihL_1 := fun pl x_2 h1 => ihL_1 pl x_2 trivial h1
      refine jj_iload_n C dX1_resetTrial_2 rfl ?_
      refine jj_aload_n C dX1_resetTrial_3 rfl ?_
      refine tt_get C hok jk_2 7 (by decide) jw_80 (t := (0, 0, 6)) hk1 (by decide) rfl rfl dX1_resetTrial_4 (fun v_3 hv_3 hf_4 => ?_)
      obtain ⟨x_5, rfl, lx_5, ux_5⟩ := tt_vi hv_3
      refine jj_icmp_ge (tgt := 50) C dX1_resetTrial_7 (by decide) (fun c_6 => ?_) (fun c_6 => ?_)
      · have z_c_6 := jc_le (a := (x_5).toInt) (b := (x_2).toInt) c_6 rfl rfl
        exact jj_vret C ⟨[], pl, rfl, rfl, hok, hfr, rfl⟩ dX1_resetTrial_50 (jj_le rfl) (jj_le rfl)
      · have z_c_6 := jc_nle (a := (x_5).toInt) (b := (x_2).toInt) c_6 rfl rfl
        refine jj_aload_n C dX1_resetTrial_10 rfl ?_
        refine tt_get C hok jk_3 0 (by decide) jw_81 (t := (2, 6, 0)) hk0 (by decide) rfl rfl dX1_resetTrial_11 (fun v_7 hv_7 hf_8 => ?_)
        obtain ⟨a_9, rfl, ka_9⟩ := tt_vr hv_7
        refine jj_iload_n C dX1_resetTrial_14 rfl ?_
        refine tt_aald C hok (t := (2, 2, 0)) ka_9 (by decide) rfl rfl rfl (vp_in_iff.mpr ⟨by omega, by omega⟩) dX1_resetTrial_15 (fun v_10 hv_10 => ?_)
        obtain ⟨a_11, rfl, ka_11⟩ := tt_vr hv_10
        refine jj_aload_n C dX1_resetTrial_16 rfl ?_
        refine tt_get C hok jk_2 11 (by decide) jw_89 (t := (2, 6, 0)) hk1 (by decide) rfl rfl dX1_resetTrial_17 (fun v_12 hv_12 hf_13 => ?_)
        obtain ⟨a_14, rfl, ka_14⟩ := tt_vr hv_12
        refine jj_iload_n C dX1_resetTrial_20 rfl ?_
        refine tt_aald C hok (t := (2, 2, 0)) ka_14 (by decide) rfl rfl rfl (vp_in_iff.mpr ⟨by omega, by omega⟩) dX1_resetTrial_21 (fun v_15 hv_15 => ?_)
        obtain ⟨a_16, rfl, ka_16⟩ := tt_vr hv_15
        obtain ⟨qc, gs, hqc⟩ := tt_recv (cx := []) hok ka_11 (by decide) rfl
        refine tt_callV (rest := []) C (tc_X8_copyFrom_1 hl D cA ak a_11 a_16 ka_11 ka_16 hok) [] [] rfl rfl (by decide) (by decide) (by decide) qc hqc rfl rfl jw_90 jw_104 jw_105 jw_92 jw_91 jn_X8_copyFrom rfl (jj_le rfl) (jj_le rfl) (jj_le rfl) (jj_le rfl) (jj_le rfl) dX1_resetTrial_22 rfl (fun _ _ _ hX => hX.elim) (fun rx pl_17 r O_20 => ?_)
        obtain ⟨rfl, hok_18, hr_19, hR_22⟩ := O_20
        replace hf_4 := hr_19.at hk1 (by decide) (by decide) hf_4
        replace hf_8 := hr_19.at hk0 (by decide) (by decide) hf_8
        replace hf_13 := hr_19.at hk1 (by decide) (by decide) hf_13
        replace hfr := hfr.trans (hr_19.sub (by decide))
        obtain rfl := hR_22
        refine jj_aload_n C dX1_resetTrial_25 rfl ?_
        refine tt_getF C hok_18 jk_3 0 (by decide) jw_81 (t := (2, 6, 0)) hk0 (by decide) rfl rfl hf_8 dX1_resetTrial_26 ?_
        refine jj_iload_n C dX1_resetTrial_29 rfl ?_
        refine tt_aald C hok_18 (t := (2, 2, 0)) ka_9 (by decide) rfl rfl rfl (vp_in_iff.mpr ⟨by omega, by omega⟩) dX1_resetTrial_30 (fun v_23 hv_23 => ?_)
        obtain ⟨a_24, rfl, ka_24⟩ := tt_vr hv_23
        refine jj_aload_n C dX1_resetTrial_31 rfl ?_
        refine tt_getF C hok_18 jk_3 0 (by decide) jw_81 (t := (2, 6, 0)) hk0 (by decide) rfl rfl hf_8 dX1_resetTrial_32 ?_
        refine jj_iload_n C dX1_resetTrial_35 rfl ?_
        refine tt_aald C hok_18 (t := (2, 2, 0)) ka_9 (by decide) rfl rfl rfl (vp_in_iff.mpr ⟨by omega, by omega⟩) dX1_resetTrial_36 (fun v_25 hv_25 => ?_)
        obtain ⟨a_26, rfl, ka_26⟩ := tt_vr hv_25
        refine jj_iload_n C dX1_resetTrial_37 rfl ?_
        obtain ⟨qc, gs, hqc⟩ := tt_recv (cx := []) hok_18 ka_26 (by decide) rfl
        refine tt_callV (rest := [.ref a_24]) C (tc_X8_assetsAfter_3 hl D cA ak a_26 p2 ka_26 hok_18) [] [] rfl rfl (by decide) (by decide) (by decide) qc hqc rfl rfl jw_107 jw_110 jw_111 jw_92 jw_108 jn_X8_assetsAfter rfl (jj_le rfl) (jj_le rfl) (jj_le rfl) (jj_le rfl) (jj_le rfl) dX1_resetTrial_38 rfl (fun _ _ _ hX => hX.elim) (fun rx pl_27 r O_30 => ?_)
        obtain ⟨rfl, hok_28, hr_29, hR_32⟩ := O_30
        replace hf_4 := hr_29.at hk1 (by decide) (by decide) hf_4
        replace hf_8 := hr_29.at hk0 (by decide) (by decide) hf_8
        replace hf_13 := hr_29.at hk1 (by decide) (by decide) hf_13
        replace hfr := hfr.trans (hr_29.sub (by decide))
        obtain ⟨y_33, rfl⟩ := hR_32
        refine tt_put C hok_28 jk_9 2 (by decide) jw_113 (t := (1, (-9223372036854775808), 9223372036854775807)) ka_24 (by decide) rfl rfl rfl (tt_ja y_33) rfl rfl dX1_resetTrial_41 (fun pl_34 hok_35 tr hn => ?_)
        replace hf_4 := tr _ _ _ (Or.inl (tt_ne hk1 ka_24 (by decide))) hf_4
        replace hf_8 := tr _ _ _ (Or.inl (tt_ne hk0 ka_24 (by decide))) hf_8
        replace hf_13 := tr _ _ _ (Or.inl (tt_ne hk1 ka_24 (by decide))) hf_13
        have hf_36 := hn
        replace hfr := hfr.put ka_24 tr (by decide)
        obtain ⟨x_37, ex_37, vx_37⟩ := tt_inc (x := x_2) (n := 1) (by omega) (by omega)
        refine jj_iinc (v := x_37) C dX1_resetTrial_44 rfl ex_37 (by decide) rfl ?_
        refine jj_goto (tgt := 2) C dX1_resetTrial_47 (by decide) ?_
        exact ihL_1 pl_34 x_37 hok_35 hfr (by first | omega | decide | exact tt_lo _ | exact tt_hi _) (by first | omega | decide | exact tt_lo _ | exact tt_hi _) (by first | omega | decide | exact tt_lo _ | exact tt_hi _)
  exact hL_1 _ pl0 (0 : Int32) trivial hok hfr (by first | omega | decide | exact tt_lo _ | exact tt_hi _) (by first | omega | decide | exact tt_lo _ | exact tt_hi _) (Int.self_le_toNat _)

set_option maxHeartbeats 4000000 in
set_option maxRecDepth 100000 in
theorem tc_X1_tryRedemption_2 {l : Launch} (hl : l.stackTraces = false) (D : va_G) (cA : Nat → ClassId) (ak : (Nat → Nat) × (Nat → Nat)) {Kd : Nat → Nat} (h0 : Nat) (h1 : Nat) (p2 : Int32) (hk0 : Kd h0 = 9) (hk1 : Kd h1 = 1) {pl0 : va_W} (hok : tt_ok tt_tk cA Kd pl0) : jj_M l D cA ak yX1_tryRedemption (.code yX1_tryRedemption cX1_tryRedemption 15 (some .long)) 2 54 0 0 ([] ++ pl0) [.ref h0, .ref h1, .int p2, .long 9223372036854775807, .int 1] (tt_O (fun rx pl1 r => rx = [] ∧ tt_ok tt_tk cA Kd pl1 ∧ tt_fr Kd [(2, 2), (2, 3), (9, 1), (9, 2), (9, 3), (9, 4), (9, 5)] pl0 pl1 ∧ ((∃ v : Int64, r = some (.long v))))) (tt_OX (fun _ _ _ => False)) := by
  refine jj_start hl (by decide) jw_120 (jj_le rfl) ?_
  intro p e s m args below meth c A hargs hA C hex hmn
  have hfr := tt_fr.refl (K := Kd) (WS := [(2, 2), (2, 3), (9, 1), (9, 2), (9, 3), (9, 4), (9, 5)]) pl0
  have lp2 := tt_lo p2
  have up2 := tt_hi p2
  refine jj_lconst (v := 0) C dX1_tryRedemption_0 (by decide) ?_
  refine jj_lstore C dX1_tryRedemption_1 (by decide) rfl ?_
  refine jj_lload_n C dX1_tryRedemption_3 rfl ?_
  refine jj_lstore C dX1_tryRedemption_4 (by decide) rfl ?_
  refine jj_iconst (v := 0) C dX1_tryRedemption_6 (by decide) ?_
  refine jj_istore C dX1_tryRedemption_7 (by decide) rfl ?_
  have hL_1 : ∀ (N : Nat) (pl : va_W) (x_2 : Int32) (y_3 : Int64) (y_4 : Int64), True → tt_ok tt_tk cA Kd pl → tt_fr Kd [(2, 2), (2, 3), (9, 1), (9, 2), (9, 3), (9, 4), (9, 5)] pl0 pl → (0 : Int) ≤ x_2.toInt → x_2.toInt ≤ 40 → (2147483648 - x_2.toInt ≤ (N : Int)) → jj_J p l e (jj_rm 2 54 0 0) s m args below meth c 15 A (vx_MQ below (jj_q D A (tt_O (fun rx pl1 r => rx = [] ∧ tt_ok tt_tk cA Kd pl1 ∧ tt_fr Kd [(2, 2), (2, 3), (9, 1), (9, 2), (9, 3), (9, 4), (9, 5)] pl0 pl1 ∧ ((∃ v : Int64, r = some (.long v)))))) (jj_x D A (tt_OX (fun _ _ _ => False))) args s 0 0 A) (jj_X D A ([] ++ pl)) 0 0 9 [(10, .int x_2), (8, .long y_3), (6, .long y_4), (0, .ref h0), (1, .ref h1), (2, .int p2), (3, .long 9223372036854775807), (5, .int 1)] [] := by
    intro NL_1
    induction NL_1 with
    | zero => intro pl x_2 y_3 y_4 _ hok hfr lx_2 ux_2 hNL_1; exfalso; omega
    | succ NL_1 ihL_1 =>
      intro pl x_2 y_3 y_4 _ hok hfr lx_2 ux_2 hNL_1
      replace ihL_1 := fun pl x_2 y_3 y_4 h1 => ihL_1 pl x_2 y_3 y_4 trivial h1
      refine jj_iload C dX1_tryRedemption_9 rfl ?_
      refine jj_aload_n C dX1_tryRedemption_11 rfl ?_
      refine tt_get C hok jk_2 8 (by decide) jw_121 (t := (0, 0, 40)) hk1 (by decide) rfl rfl dX1_tryRedemption_12 (fun v_5 hv_5 hf_6 => ?_)
      obtain ⟨x_7, rfl, lx_7, ux_7⟩ := tt_vi hv_5
      refine jj_icmp_ge (tgt := 173) C dX1_tryRedemption_15 (by decide) (fun c_8 => ?_) (fun c_8 => ?_)
      · have z_c_8 := jc_le (a := (x_7).toInt) (b := (x_2).toInt) c_8 rfl rfl
        refine jj_lload C dX1_tryRedemption_173 rfl ?_
        exact jj_lret C ⟨[], pl, rfl, rfl, hok, hfr, ⟨y_4, rfl⟩⟩ dX1_tryRedemption_175 (jj_le rfl) (jj_le rfl)
      · have z_c_8 := jc_nle (a := (x_7).toInt) (b := (x_2).toInt) c_8 rfl rfl
        refine jj_lload C dX1_tryRedemption_18 rfl ?_
        refine jj_lconst (v := 0) C dX1_tryRedemption_20 (by decide) ?_
        refine jj_lcmp_le (tgt := 173) C dX1_tryRedemption_21 dX1_tryRedemption_22 (by decide) (fun c_9 => ?_) (fun c_9 => ?_)
        · refine jj_lload C dX1_tryRedemption_173 rfl ?_
          exact jj_lret C ⟨[], pl, rfl, rfl, hok, hfr, ⟨y_4, rfl⟩⟩ dX1_tryRedemption_175 (jj_le rfl) (jj_le rfl)
        · refine jj_aload_n C dX1_tryRedemption_25 rfl ?_
          refine tt_get C hok jk_2 12 (by decide) jw_122 (t := (2, 7, 0)) hk1 (by decide) rfl rfl dX1_tryRedemption_26 (fun v_10 hv_10 hf_11 => ?_)
          obtain ⟨a_12, rfl, ka_12⟩ := tt_vr hv_10
          refine jj_iload C dX1_tryRedemption_29 rfl ?_
          refine tt_aald C hok (t := (2, 3, 0)) ka_12 (by decide) rfl rfl rfl (vp_in_iff.mpr ⟨by omega, by omega⟩) dX1_tryRedemption_31 (fun v_13 hv_13 => ?_)
          obtain ⟨a_14, rfl, ka_14⟩ := tt_vr hv_13
          refine jj_astore C dX1_tryRedemption_32 (by decide) rfl ?_
          refine jj_aload_n C dX1_tryRedemption_34 rfl ?_
          refine jj_aload C dX1_tryRedemption_35 rfl ?_
          refine tt_get C hok jk_5 1 (by decide) jw_123 (t := (0, (-2147483648), 2147483647)) ka_14 (by decide) rfl rfl dX1_tryRedemption_37 (fun v_15 hv_15 hf_16 => ?_)
          obtain ⟨x_17, rfl, lx_17, ux_17⟩ := tt_vi hv_15
          obtain ⟨qc, gs, hqc⟩ := tt_recv (cx := []) hok hk1 (by decide) rfl
          refine tt_callV (rest := []) C (tc_X0_placeOfSeries_1 hl D cA ak h1 x_17 hk1 hok) [] [] rfl rfl (by decide) (by decide) (by decide) qc hqc rfl rfl jw_131 jw_137 jw_138 jw_133 jw_132 jn_X0_placeOfSeries rfl (jj_le rfl) (jj_le rfl) (jj_le rfl) (jj_le rfl) (jj_le rfl) dX1_tryRedemption_40 rfl (fun _ _ _ hX => hX.elim) (fun rx pl_18 r O_21 => ?_)
          obtain ⟨rfl, hok_19, hr_20, hR_23⟩ := O_21
          replace hf_6 := hr_20.at hk1 (by decide) (by decide) hf_6
          replace hf_11 := hr_20.at hk1 (by decide) (by decide) hf_11
          replace hf_16 := hr_20.at ka_14 (by decide) (by decide) hf_16
          replace hfr := hfr.trans (hr_20.sub (by decide))
          rcases hR_23 with rfl | ⟨x_24, lx_24, ux_24, rfl⟩
          · refine jj_istore C dX1_tryRedemption_43 (by decide) rfl ?_
            refine jj_aload C dX1_tryRedemption_45 rfl ?_
            refine tt_get C hok_19 jk_5 0 (by decide) jw_140 (t := (0, (-2147483648), 2147483647)) ka_14 (by decide) rfl rfl dX1_tryRedemption_47 (fun v_25 hv_25 hf_26 => ?_)
            obtain ⟨x_27, rfl, lx_27, ux_27⟩ := tt_vi hv_25
            refine jj_iload_n C dX1_tryRedemption_50 rfl ?_
            refine jj_icmp_ne (tgt := 167) C dX1_tryRedemption_51 (by decide) (fun c_28 => ?_) (fun c_28 => ?_)
            · have z_c_28 := jc_neq (a := (x_27).toInt) (b := (p2).toInt) c_28 rfl rfl
              obtain ⟨x_29, ex_29, vx_29⟩ := tt_inc (x := x_2) (n := 1) (by omega) (by omega)
              refine jj_iinc (v := x_29) C dX1_tryRedemption_167 rfl ex_29 (by decide) rfl ?_
              refine jj_goto (tgt := 9) C dX1_tryRedemption_170 (by decide) ?_
              refine jj_loc [0, 3, 4, 5, 6, 7, 8, 9] rfl ?_
              exact ihL_1 pl_18 x_29 y_3 y_4 hok_19 hfr (by first | omega | decide | exact tt_lo _ | exact tt_hi _) (by first | omega | decide | exact tt_lo _ | exact tt_hi _) (by first | omega | decide | exact tt_lo _ | exact tt_hi _)
            · have z_c_28 := jc_eq (a := (x_27).toInt) (b := (p2).toInt) c_28 rfl rfl
              refine jj_iload C dX1_tryRedemption_54 rfl ?_
              refine jj_iconst (v := (-1)) C dX1_tryRedemption_56 (by decide) ?_
              refine jj_icmp_eqT (tgt := 167) C dX1_tryRedemption_57 (by decide) (by decide) ?_
              obtain ⟨x_30, ex_30, vx_30⟩ := tt_inc (x := x_2) (n := 1) (by omega) (by omega)
              refine jj_iinc (v := x_30) C dX1_tryRedemption_167 rfl ex_30 (by decide) rfl ?_
              refine jj_goto (tgt := 9) C dX1_tryRedemption_170 (by decide) ?_
              refine jj_loc [0, 3, 4, 5, 6, 7, 8, 9] rfl ?_
              exact ihL_1 pl_18 x_30 y_3 y_4 hok_19 hfr (by first | omega | decide | exact tt_lo _ | exact tt_hi _) (by first | omega | decide | exact tt_lo _ | exact tt_hi _) (by first | omega | decide | exact tt_lo _ | exact tt_hi _)
          · refine jj_istore C dX1_tryRedemption_43 (by decide) rfl ?_
            refine jj_aload C dX1_tryRedemption_45 rfl ?_
            refine tt_get C hok_19 jk_5 0 (by decide) jw_140 (t := (0, (-2147483648), 2147483647)) ka_14 (by decide) rfl rfl dX1_tryRedemption_47 (fun v_31 hv_31 hf_32 => ?_)
            obtain ⟨x_33, rfl, lx_33, ux_33⟩ := tt_vi hv_31
            refine jj_iload_n C dX1_tryRedemption_50 rfl ?_
            refine jj_icmp_ne (tgt := 167) C dX1_tryRedemption_51 (by decide) (fun c_34 => ?_) (fun c_34 => ?_)
            · have z_c_34 := jc_neq (a := (x_33).toInt) (b := (p2).toInt) c_34 rfl rfl
              obtain ⟨x_35, ex_35, vx_35⟩ := tt_inc (x := x_2) (n := 1) (by omega) (by omega)
              refine jj_iinc (v := x_35) C dX1_tryRedemption_167 rfl ex_35 (by decide) rfl ?_
              refine jj_goto (tgt := 9) C dX1_tryRedemption_170 (by decide) ?_
              refine jj_loc [0, 3, 4, 5, 6, 7, 8, 9] rfl ?_
              exact ihL_1 pl_18 x_35 y_3 y_4 hok_19 hfr (by first | omega | decide | exact tt_lo _ | exact tt_hi _) (by first | omega | decide | exact tt_lo _ | exact tt_hi _) (by first | omega | decide | exact tt_lo _ | exact tt_hi _)
            · have z_c_34 := jc_eq (a := (x_33).toInt) (b := (p2).toInt) c_34 rfl rfl
              refine jj_iload C dX1_tryRedemption_54 rfl ?_
              refine jj_iconst (v := (-1)) C dX1_tryRedemption_56 (by decide) ?_
              refine jj_icmp_eq (tgt := 167) C dX1_tryRedemption_57 (by decide) (fun c_36 => ?_) (fun c_36 => ?_)
              · have z_c_36 := jc_eq (a := (x_24).toInt) (b := (-1)) c_36 rfl (by decide)
                exfalso; omega
              · have z_c_36 := jc_neq (a := (x_24).toInt) (b := (-1)) c_36 rfl (by decide)
                refine jj_lload C dX1_tryRedemption_60 rfl ?_
                refine jj_aload C dX1_tryRedemption_62 rfl ?_
                refine tt_get C hok_19 jk_5 3 (by decide) jw_141 (t := (1, (-9223372036854775808), 9223372036854775807)) ka_14 (by decide) rfl rfl dX1_tryRedemption_64 (fun v_37 hv_37 hf_38 => ?_)
                obtain ⟨y_39, rfl, -, -⟩ := tt_vj hv_37
                refine tt_call0S (rest := []) C (ct_J9_min_f86c9_1 hl D cA ak y_3 y_39) jw_142 jw_145 jw_144 jw_143 jn_J9_min_f86c9 rfl (jj_le rfl) (jj_le rfl) (jj_le rfl) (jj_le rfl) (jj_le rfl) dX1_tryRedemption_67 rfl (fun w1 r O_40 => ?_)
                rcases O_40 with ⟨c_41, -, rfl⟩ | ⟨c_42, -, rfl⟩
                · refine jj_lstore C dX1_tryRedemption_70 (by decide) rfl ?_
                  refine jj_aload_n C dX1_tryRedemption_72 rfl ?_
                  refine jj_aload_n C dX1_tryRedemption_73 rfl ?_
                  refine jj_aload_n C dX1_tryRedemption_74 rfl ?_
                  refine tt_get C hok_19 jk_3 0 (by decide) jw_81 (t := (2, 6, 0)) hk0 (by decide) rfl rfl dX1_tryRedemption_75 (fun v_43 hv_43 hf_44 => ?_)
                  obtain ⟨a_45, rfl, ka_45⟩ := tt_vr hv_43
                  refine jj_iload C dX1_tryRedemption_78 rfl ?_
                  refine tt_aald C hok_19 (t := (2, 2, 0)) ka_45 (by decide) rfl rfl rfl (vp_in_iff.mpr ⟨by omega, by omega⟩) dX1_tryRedemption_80 (fun v_46 hv_46 => ?_)
                  obtain ⟨a_47, rfl, ka_47⟩ := tt_vr hv_46
                  refine jj_aload C dX1_tryRedemption_81 rfl ?_
                  refine jj_lload C dX1_tryRedemption_83 rfl ?_
                  obtain ⟨qc, gs, hqc⟩ := tt_recv (cx := []) hok_19 hk0 (by decide) rfl
                  refine tt_callV (rest := []) C (tc_X1_quote_1 hl D cA ak h0 h1 a_47 a_14 y_39 hk0 hk1 ka_47 ka_14 hok_19) [] [] rfl rfl (by decide) (by decide) (by decide) qc hqc rfl rfl jw_147 jw_180 jw_181 jw_74 jw_148 jn_X1_quote rfl (jj_le rfl) (jj_le rfl) (jj_le rfl) (jj_le rfl) (jj_le rfl) dX1_tryRedemption_85 rfl (fun _ _ _ hX => hX.elim) (fun rx pl_48 r O_51 => ?_)
                  obtain ⟨rfl, hok_49, hr_50, hR_53⟩ := O_51
                  replace hf_6 := hr_50.at hk1 (by decide) (by decide) hf_6
                  replace hf_11 := hr_50.at hk1 (by decide) (by decide) hf_11
                  replace hf_16 := hr_50.at ka_14 (by decide) (by decide) hf_16
                  replace hf_32 := hr_50.at ka_14 (by decide) (by decide) hf_32
                  replace hf_38 := hr_50.at ka_14 (by decide) (by decide) hf_38
                  replace hf_44 := hr_50.at hk0 (by decide) (by decide) hf_44
                  replace hfr := hfr.trans (hr_50.sub (by decide))
                  obtain rfl := hR_53
                  refine jj_aload_n C dX1_tryRedemption_88 rfl ?_
                  refine tt_getF C hok_49 jk_3 0 (by decide) jw_81 (t := (2, 6, 0)) hk0 (by decide) rfl rfl hf_44 dX1_tryRedemption_89 ?_
                  refine jj_iload C dX1_tryRedemption_92 rfl ?_
                  refine tt_aald C hok_49 (t := (2, 2, 0)) ka_45 (by decide) rfl rfl rfl (vp_in_iff.mpr ⟨by omega, by omega⟩) dX1_tryRedemption_94 (fun v_54 hv_54 => ?_)
                  obtain ⟨a_55, rfl, ka_55⟩ := tt_vr hv_54
                  refine jj_dup C dX1_tryRedemption_95 rfl ?_
                  refine tt_get C hok_49 jk_9 2 (by decide) jw_113 (t := (1, (-9223372036854775808), 9223372036854775807)) ka_55 (by decide) rfl rfl dX1_tryRedemption_96 (fun v_56 hv_56 hf_57 => ?_)
                  obtain ⟨y_58, rfl, -, -⟩ := tt_vj hv_56
                  refine jj_aload_n C dX1_tryRedemption_99 rfl ?_
                  refine tt_get C hok_49 jk_3 1 (by decide) jw_158 (t := (1, (-9223372036854775808), 9223372036854775807)) hk0 (by decide) rfl rfl dX1_tryRedemption_100 (fun v_59 hv_59 hf_60 => ?_)
                  obtain ⟨y_61, rfl, -, -⟩ := tt_vj hv_59
                  refine jj_aload_n C dX1_tryRedemption_103 rfl ?_
                  refine tt_get C hok_49 jk_3 2 (by decide) jw_159 (t := (1, (-9223372036854775808), 9223372036854775807)) hk0 (by decide) rfl rfl dX1_tryRedemption_104 (fun v_62 hv_62 hf_63 => ?_)
                  obtain ⟨y_64, rfl, -, -⟩ := tt_vj hv_62
                  obtain ⟨y_65, ey_65⟩ : ∃ z : Int64, y_61 + y_64 = z := ⟨_, rfl⟩
                  refine jj_ladd (v := y_65) C dX1_tryRedemption_107 ey_65 ?_
                  obtain ⟨y_66, ey_66⟩ : ∃ z : Int64, y_58 - y_65 = z := ⟨_, rfl⟩
                  refine jj_lsub (v := y_66) C dX1_tryRedemption_108 ey_66 ?_
                  refine tt_put C hok_49 jk_9 2 (by decide) jw_113 (t := (1, (-9223372036854775808), 9223372036854775807)) ka_55 (by decide) rfl rfl rfl (tt_ja y_66) rfl rfl dX1_tryRedemption_109 (fun pl_67 hok_68 tr hn => ?_)
                  replace hf_6 := tr _ _ _ (Or.inl (tt_ne hk1 ka_55 (by decide))) hf_6
                  replace hf_11 := tr _ _ _ (Or.inl (tt_ne hk1 ka_55 (by decide))) hf_11
                  replace hf_16 := tr _ _ _ (Or.inl (tt_ne ka_14 ka_55 (by decide))) hf_16
                  replace hf_32 := tr _ _ _ (Or.inl (tt_ne ka_14 ka_55 (by decide))) hf_32
                  replace hf_38 := tr _ _ _ (Or.inl (tt_ne ka_14 ka_55 (by decide))) hf_38
                  replace hf_44 := tr _ _ _ (Or.inl (tt_ne hk0 ka_55 (by decide))) hf_44
                  replace hf_60 := tr _ _ _ (Or.inl (tt_ne hk0 ka_55 (by decide))) hf_60
                  replace hf_63 := tr _ _ _ (Or.inl (tt_ne hk0 ka_55 (by decide))) hf_63
                  have hf_69 := hn
                  replace hfr := hfr.put ka_55 tr (by decide)
                  refine jj_aload_n C dX1_tryRedemption_112 rfl ?_
                  refine tt_getF C hok_68 jk_3 0 (by decide) jw_81 (t := (2, 6, 0)) hk0 (by decide) rfl rfl hf_44 dX1_tryRedemption_113 ?_
                  refine jj_iload C dX1_tryRedemption_116 rfl ?_
                  refine tt_aald C hok_68 (t := (2, 2, 0)) ka_45 (by decide) rfl rfl rfl (vp_in_iff.mpr ⟨by omega, by omega⟩) dX1_tryRedemption_118 (fun v_70 hv_70 => ?_)
                  obtain ⟨a_71, rfl, ka_71⟩ := tt_vr hv_70
                  refine jj_dup C dX1_tryRedemption_119 rfl ?_
                  refine tt_get C hok_68 jk_9 3 (by decide) jw_157 (t := (1, (-9223372036854775808), 9223372036854775807)) ka_71 (by decide) rfl rfl dX1_tryRedemption_120 (fun v_72 hv_72 hf_73 => ?_)
                  obtain ⟨y_74, rfl, -, -⟩ := tt_vj hv_72
                  refine jj_lload C dX1_tryRedemption_123 rfl ?_
                  obtain ⟨y_75, ey_75⟩ : ∃ z : Int64, y_74 - y_39 = z := ⟨_, rfl⟩
                  refine jj_lsub (v := y_75) C dX1_tryRedemption_125 ey_75 ?_
                  refine tt_put C hok_68 jk_9 3 (by decide) jw_157 (t := (1, (-9223372036854775808), 9223372036854775807)) ka_71 (by decide) rfl rfl rfl (tt_ja y_75) rfl rfl dX1_tryRedemption_126 (fun pl_76 hok_77 tr hn => ?_)
                  replace hf_6 := tr _ _ _ (Or.inl (tt_ne hk1 ka_71 (by decide))) hf_6
                  replace hf_11 := tr _ _ _ (Or.inl (tt_ne hk1 ka_71 (by decide))) hf_11
                  replace hf_16 := tr _ _ _ (Or.inl (tt_ne ka_14 ka_71 (by decide))) hf_16
                  replace hf_32 := tr _ _ _ (Or.inl (tt_ne ka_14 ka_71 (by decide))) hf_32
                  replace hf_38 := tr _ _ _ (Or.inl (tt_ne ka_14 ka_71 (by decide))) hf_38
                  replace hf_44 := tr _ _ _ (Or.inl (tt_ne hk0 ka_71 (by decide))) hf_44
                  replace hf_60 := tr _ _ _ (Or.inl (tt_ne hk0 ka_71 (by decide))) hf_60
                  replace hf_63 := tr _ _ _ (Or.inl (tt_ne hk0 ka_71 (by decide))) hf_63
                  replace hf_69 := tr _ _ _ (Or.inr (by decide)) hf_69
                  have hf_78 := hn
                  replace hfr := hfr.put ka_71 tr (by decide)
                  refine jj_lload C dX1_tryRedemption_129 rfl ?_
                  refine jj_lload C dX1_tryRedemption_131 rfl ?_
                  obtain ⟨y_79, ey_79⟩ : ∃ z : Int64, y_3 - y_39 = z := ⟨_, rfl⟩
                  refine jj_lsub (v := y_79) C dX1_tryRedemption_133 ey_79 ?_
                  refine jj_lstore C dX1_tryRedemption_134 (by decide) rfl ?_
                  refine jj_lload C dX1_tryRedemption_136 rfl ?_
                  refine jj_iload C dX1_tryRedemption_138 rfl ?_
                  refine jj_if_eqF (tgt := 160) C dX1_tryRedemption_140 (by decide) (by decide) ?_
                  refine jj_aload_n C dX1_tryRedemption_143 rfl ?_
                  refine tt_getF C hok_77 jk_3 1 (by decide) jw_158 (t := (1, (-9223372036854775808), 9223372036854775807)) hk0 (by decide) rfl rfl hf_60 dX1_tryRedemption_144 ?_
                  refine jj_aload_n C dX1_tryRedemption_147 rfl ?_
                  refine tt_get C hok_77 jk_3 4 (by decide) jw_161 (t := (1, (-9223372036854775808), 9223372036854775807)) hk0 (by decide) rfl rfl dX1_tryRedemption_148 (fun v_80 hv_80 hf_81 => ?_)
                  obtain ⟨y_82, rfl, -, -⟩ := tt_vj hv_80
                  obtain ⟨y_83, ey_83⟩ : ∃ z : Int64, y_61 + y_82 = z := ⟨_, rfl⟩
                  refine jj_ladd (v := y_83) C dX1_tryRedemption_151 ey_83 ?_
                  refine jj_aload_n C dX1_tryRedemption_152 rfl ?_
                  refine tt_get C hok_77 jk_3 5 (by decide) jw_162 (t := (1, (-9223372036854775808), 9223372036854775807)) hk0 (by decide) rfl rfl dX1_tryRedemption_153 (fun v_84 hv_84 hf_85 => ?_)
                  obtain ⟨y_86, rfl, -, -⟩ := tt_vj hv_84
                  obtain ⟨y_87, ey_87⟩ : ∃ z : Int64, y_83 - y_86 = z := ⟨_, rfl⟩
                  refine jj_lsub (v := y_87) C dX1_tryRedemption_156 ey_87 ?_
                  refine jj_goto (tgt := 164) C dX1_tryRedemption_157 (by decide) ?_
                  obtain ⟨y_88, ey_88⟩ : ∃ z : Int64, y_4 + y_87 = z := ⟨_, rfl⟩
                  refine jj_ladd (v := y_88) C dX1_tryRedemption_164 ey_88 ?_
                  refine jj_lstore C dX1_tryRedemption_165 (by decide) rfl ?_
                  obtain ⟨x_89, ex_89, vx_89⟩ := tt_inc (x := x_2) (n := 1) (by omega) (by omega)
                  refine jj_iinc (v := x_89) C dX1_tryRedemption_167 rfl ex_89 (by decide) rfl ?_
                  refine jj_goto (tgt := 9) C dX1_tryRedemption_170 (by decide) ?_
                  refine jj_loc [0, 2, 1, 6, 7, 8, 9, 10] rfl ?_
                  exact ihL_1 pl_76 x_89 y_79 y_88 hok_77 hfr (by first | omega | decide | exact tt_lo _ | exact tt_hi _) (by first | omega | decide | exact tt_lo _ | exact tt_hi _) (by first | omega | decide | exact tt_lo _ | exact tt_hi _)
                · refine jj_lstore C dX1_tryRedemption_70 (by decide) rfl ?_
                  refine jj_aload_n C dX1_tryRedemption_72 rfl ?_
                  refine jj_aload_n C dX1_tryRedemption_73 rfl ?_
                  refine jj_aload_n C dX1_tryRedemption_74 rfl ?_
                  refine tt_get C hok_19 jk_3 0 (by decide) jw_81 (t := (2, 6, 0)) hk0 (by decide) rfl rfl dX1_tryRedemption_75 (fun v_90 hv_90 hf_91 => ?_)
                  obtain ⟨a_92, rfl, ka_92⟩ := tt_vr hv_90
                  refine jj_iload C dX1_tryRedemption_78 rfl ?_
                  refine tt_aald C hok_19 (t := (2, 2, 0)) ka_92 (by decide) rfl rfl rfl (vp_in_iff.mpr ⟨by omega, by omega⟩) dX1_tryRedemption_80 (fun v_93 hv_93 => ?_)
                  obtain ⟨a_94, rfl, ka_94⟩ := tt_vr hv_93
                  refine jj_aload C dX1_tryRedemption_81 rfl ?_
                  refine jj_lload C dX1_tryRedemption_83 rfl ?_
                  obtain ⟨qc, gs, hqc⟩ := tt_recv (cx := []) hok_19 hk0 (by decide) rfl
                  refine tt_callV (rest := []) C (tc_X1_quote_1 hl D cA ak h0 h1 a_94 a_14 y_3 hk0 hk1 ka_94 ka_14 hok_19) [] [] rfl rfl (by decide) (by decide) (by decide) qc hqc rfl rfl jw_147 jw_180 jw_181 jw_74 jw_148 jn_X1_quote rfl (jj_le rfl) (jj_le rfl) (jj_le rfl) (jj_le rfl) (jj_le rfl) dX1_tryRedemption_85 rfl (fun _ _ _ hX => hX.elim) (fun rx pl_95 r O_98 => ?_)
                  obtain ⟨rfl, hok_96, hr_97, hR_100⟩ := O_98
                  replace hf_6 := hr_97.at hk1 (by decide) (by decide) hf_6
                  replace hf_11 := hr_97.at hk1 (by decide) (by decide) hf_11
                  replace hf_16 := hr_97.at ka_14 (by decide) (by decide) hf_16
                  replace hf_32 := hr_97.at ka_14 (by decide) (by decide) hf_32
                  replace hf_38 := hr_97.at ka_14 (by decide) (by decide) hf_38
                  replace hf_91 := hr_97.at hk0 (by decide) (by decide) hf_91
                  replace hfr := hfr.trans (hr_97.sub (by decide))
                  obtain rfl := hR_100
                  refine jj_aload_n C dX1_tryRedemption_88 rfl ?_
                  refine tt_getF C hok_96 jk_3 0 (by decide) jw_81 (t := (2, 6, 0)) hk0 (by decide) rfl rfl hf_91 dX1_tryRedemption_89 ?_
                  refine jj_iload C dX1_tryRedemption_92 rfl ?_
                  refine tt_aald C hok_96 (t := (2, 2, 0)) ka_92 (by decide) rfl rfl rfl (vp_in_iff.mpr ⟨by omega, by omega⟩) dX1_tryRedemption_94 (fun v_101 hv_101 => ?_)
                  obtain ⟨a_102, rfl, ka_102⟩ := tt_vr hv_101
                  refine jj_dup C dX1_tryRedemption_95 rfl ?_
                  refine tt_get C hok_96 jk_9 2 (by decide) jw_113 (t := (1, (-9223372036854775808), 9223372036854775807)) ka_102 (by decide) rfl rfl dX1_tryRedemption_96 (fun v_103 hv_103 hf_104 => ?_)
                  obtain ⟨y_105, rfl, -, -⟩ := tt_vj hv_103
                  refine jj_aload_n C dX1_tryRedemption_99 rfl ?_
                  refine tt_get C hok_96 jk_3 1 (by decide) jw_158 (t := (1, (-9223372036854775808), 9223372036854775807)) hk0 (by decide) rfl rfl dX1_tryRedemption_100 (fun v_106 hv_106 hf_107 => ?_)
                  obtain ⟨y_108, rfl, -, -⟩ := tt_vj hv_106
                  refine jj_aload_n C dX1_tryRedemption_103 rfl ?_
                  refine tt_get C hok_96 jk_3 2 (by decide) jw_159 (t := (1, (-9223372036854775808), 9223372036854775807)) hk0 (by decide) rfl rfl dX1_tryRedemption_104 (fun v_109 hv_109 hf_110 => ?_)
                  obtain ⟨y_111, rfl, -, -⟩ := tt_vj hv_109
                  obtain ⟨y_112, ey_112⟩ : ∃ z : Int64, y_108 + y_111 = z := ⟨_, rfl⟩
                  refine jj_ladd (v := y_112) C dX1_tryRedemption_107 ey_112 ?_
                  obtain ⟨y_113, ey_113⟩ : ∃ z : Int64, y_105 - y_112 = z := ⟨_, rfl⟩
                  refine jj_lsub (v := y_113) C dX1_tryRedemption_108 ey_113 ?_
                  refine tt_put C hok_96 jk_9 2 (by decide) jw_113 (t := (1, (-9223372036854775808), 9223372036854775807)) ka_102 (by decide) rfl rfl rfl (tt_ja y_113) rfl rfl dX1_tryRedemption_109 (fun pl_114 hok_115 tr hn => ?_)
                  replace hf_6 := tr _ _ _ (Or.inl (tt_ne hk1 ka_102 (by decide))) hf_6
                  replace hf_11 := tr _ _ _ (Or.inl (tt_ne hk1 ka_102 (by decide))) hf_11
                  replace hf_16 := tr _ _ _ (Or.inl (tt_ne ka_14 ka_102 (by decide))) hf_16
                  replace hf_32 := tr _ _ _ (Or.inl (tt_ne ka_14 ka_102 (by decide))) hf_32
                  replace hf_38 := tr _ _ _ (Or.inl (tt_ne ka_14 ka_102 (by decide))) hf_38
                  replace hf_91 := tr _ _ _ (Or.inl (tt_ne hk0 ka_102 (by decide))) hf_91
                  replace hf_107 := tr _ _ _ (Or.inl (tt_ne hk0 ka_102 (by decide))) hf_107
                  replace hf_110 := tr _ _ _ (Or.inl (tt_ne hk0 ka_102 (by decide))) hf_110
                  have hf_116 := hn
                  replace hfr := hfr.put ka_102 tr (by decide)
                  refine jj_aload_n C dX1_tryRedemption_112 rfl ?_
                  refine tt_getF C hok_115 jk_3 0 (by decide) jw_81 (t := (2, 6, 0)) hk0 (by decide) rfl rfl hf_91 dX1_tryRedemption_113 ?_
                  refine jj_iload C dX1_tryRedemption_116 rfl ?_
                  refine tt_aald C hok_115 (t := (2, 2, 0)) ka_92 (by decide) rfl rfl rfl (vp_in_iff.mpr ⟨by omega, by omega⟩) dX1_tryRedemption_118 (fun v_117 hv_117 => ?_)
                  obtain ⟨a_118, rfl, ka_118⟩ := tt_vr hv_117
                  refine jj_dup C dX1_tryRedemption_119 rfl ?_
                  refine tt_get C hok_115 jk_9 3 (by decide) jw_157 (t := (1, (-9223372036854775808), 9223372036854775807)) ka_118 (by decide) rfl rfl dX1_tryRedemption_120 (fun v_119 hv_119 hf_120 => ?_)
                  obtain ⟨y_121, rfl, -, -⟩ := tt_vj hv_119
                  refine jj_lload C dX1_tryRedemption_123 rfl ?_
                  obtain ⟨y_122, ey_122⟩ : ∃ z : Int64, y_121 - y_3 = z := ⟨_, rfl⟩
                  refine jj_lsub (v := y_122) C dX1_tryRedemption_125 ey_122 ?_
                  refine tt_put C hok_115 jk_9 3 (by decide) jw_157 (t := (1, (-9223372036854775808), 9223372036854775807)) ka_118 (by decide) rfl rfl rfl (tt_ja y_122) rfl rfl dX1_tryRedemption_126 (fun pl_123 hok_124 tr hn => ?_)
                  replace hf_6 := tr _ _ _ (Or.inl (tt_ne hk1 ka_118 (by decide))) hf_6
                  replace hf_11 := tr _ _ _ (Or.inl (tt_ne hk1 ka_118 (by decide))) hf_11
                  replace hf_16 := tr _ _ _ (Or.inl (tt_ne ka_14 ka_118 (by decide))) hf_16
                  replace hf_32 := tr _ _ _ (Or.inl (tt_ne ka_14 ka_118 (by decide))) hf_32
                  replace hf_38 := tr _ _ _ (Or.inl (tt_ne ka_14 ka_118 (by decide))) hf_38
                  replace hf_91 := tr _ _ _ (Or.inl (tt_ne hk0 ka_118 (by decide))) hf_91
                  replace hf_107 := tr _ _ _ (Or.inl (tt_ne hk0 ka_118 (by decide))) hf_107
                  replace hf_110 := tr _ _ _ (Or.inl (tt_ne hk0 ka_118 (by decide))) hf_110
                  replace hf_116 := tr _ _ _ (Or.inr (by decide)) hf_116
                  have hf_125 := hn
                  replace hfr := hfr.put ka_118 tr (by decide)
                  refine jj_lload C dX1_tryRedemption_129 rfl ?_
                  refine jj_lload C dX1_tryRedemption_131 rfl ?_
                  obtain ⟨y_126, ey_126⟩ : ∃ z : Int64, y_3 - y_3 = z := ⟨_, rfl⟩
                  refine jj_lsub (v := y_126) C dX1_tryRedemption_133 ey_126 ?_
                  refine jj_lstore C dX1_tryRedemption_134 (by decide) rfl ?_
                  refine jj_lload C dX1_tryRedemption_136 rfl ?_
                  refine jj_iload C dX1_tryRedemption_138 rfl ?_
                  refine jj_if_eqF (tgt := 160) C dX1_tryRedemption_140 (by decide) (by decide) ?_
                  refine jj_aload_n C dX1_tryRedemption_143 rfl ?_
                  refine tt_getF C hok_124 jk_3 1 (by decide) jw_158 (t := (1, (-9223372036854775808), 9223372036854775807)) hk0 (by decide) rfl rfl hf_107 dX1_tryRedemption_144 ?_
                  refine jj_aload_n C dX1_tryRedemption_147 rfl ?_
                  refine tt_get C hok_124 jk_3 4 (by decide) jw_161 (t := (1, (-9223372036854775808), 9223372036854775807)) hk0 (by decide) rfl rfl dX1_tryRedemption_148 (fun v_127 hv_127 hf_128 => ?_)
                  obtain ⟨y_129, rfl, -, -⟩ := tt_vj hv_127
                  obtain ⟨y_130, ey_130⟩ : ∃ z : Int64, y_108 + y_129 = z := ⟨_, rfl⟩
                  refine jj_ladd (v := y_130) C dX1_tryRedemption_151 ey_130 ?_
                  refine jj_aload_n C dX1_tryRedemption_152 rfl ?_
                  refine tt_get C hok_124 jk_3 5 (by decide) jw_162 (t := (1, (-9223372036854775808), 9223372036854775807)) hk0 (by decide) rfl rfl dX1_tryRedemption_153 (fun v_131 hv_131 hf_132 => ?_)
                  obtain ⟨y_133, rfl, -, -⟩ := tt_vj hv_131
                  obtain ⟨y_134, ey_134⟩ : ∃ z : Int64, y_130 - y_133 = z := ⟨_, rfl⟩
                  refine jj_lsub (v := y_134) C dX1_tryRedemption_156 ey_134 ?_
                  refine jj_goto (tgt := 164) C dX1_tryRedemption_157 (by decide) ?_
                  obtain ⟨y_135, ey_135⟩ : ∃ z : Int64, y_4 + y_134 = z := ⟨_, rfl⟩
                  refine jj_ladd (v := y_135) C dX1_tryRedemption_164 ey_135 ?_
                  refine jj_lstore C dX1_tryRedemption_165 (by decide) rfl ?_
                  obtain ⟨x_136, ex_136, vx_136⟩ := tt_inc (x := x_2) (n := 1) (by omega) (by omega)
                  refine jj_iinc (v := x_136) C dX1_tryRedemption_167 rfl ex_136 (by decide) rfl ?_
                  refine jj_goto (tgt := 9) C dX1_tryRedemption_170 (by decide) ?_
                  refine jj_loc [0, 2, 1, 6, 7, 8, 9, 10] rfl ?_
                  exact ihL_1 pl_123 x_136 y_126 y_135 hok_124 hfr (by first | omega | decide | exact tt_lo _ | exact tt_hi _) (by first | omega | decide | exact tt_lo _ | exact tt_hi _) (by first | omega | decide | exact tt_lo _ | exact tt_hi _)
  exact hL_1 _ pl0 (0 : Int32) (9223372036854775807 : Int64) (0 : Int64) trivial hok hfr (by first | omega | decide | exact tt_lo _ | exact tt_hi _) (by first | omega | decide | exact tt_lo _ | exact tt_hi _) (Int.self_le_toNat _)

set_option maxHeartbeats 4000000 in
set_option maxRecDepth 100000 in
theorem tc_X1_payAfterRate_1 {l : Launch} (hl : l.stackTraces = false) (D : va_G) (cA : Nat → ClassId) (ak : (Nat → Nat) × (Nat → Nat)) {Kd : Nat → Nat} (h0 : Nat) (h1 : Nat) (p2 : Int32) (p3 : Int32) (hk0 : Kd h0 = 9) (hk1 : Kd h1 = 1) {pl0 : va_W} (hok : tt_ok tt_tk cA Kd pl0) : jj_M l D cA ak yX1_payAfterRate (.code yX1_payAfterRate cX1_payAfterRate 4 (some .long)) 3 88 0 0 ([] ++ pl0) [.ref h0, .ref h1, .int p2, .int p3] (tt_O (fun rx pl1 r => rx = [] ∧ tt_ok tt_tk cA Kd pl1 ∧ tt_fr Kd [(2, 0), (2, 1), (2, 2), (2, 3), (2, 4), (9, 1), (9, 2), (9, 3), (9, 4), (9, 5)] pl0 pl1 ∧ ((∃ v : Int64, r = some (.long v))))) (tt_OX (fun _ _ _ => False)) := by
  refine jj_start hl (by decide) jw_438 (jj_le rfl) ?_
  intro p e s m args below meth c A hargs hA C hex hmn
  have hfr := tt_fr.refl (K := Kd) (WS := [(2, 0), (2, 1), (2, 2), (2, 3), (2, 4), (9, 1), (9, 2), (9, 3), (9, 4), (9, 5)]) pl0
  have lp2 := tt_lo p2
  have up2 := tt_hi p2
  have lp3 := tt_lo p3
  have up3 := tt_hi p3
  refine jj_aload_n C dX1_payAfterRate_0 rfl ?_
  refine jj_aload_n C dX1_payAfterRate_1 rfl ?_
  refine jj_iload_n C dX1_payAfterRate_2 rfl ?_
  obtain ⟨qc, gs, hqc⟩ := tt_recv (cx := []) hok hk0 (by decide) rfl
  refine tt_callV (rest := []) C (tc_X1_resetTrial_2 hl D cA ak h0 h1 p3 hk0 hk1 hok) [] [] rfl rfl (by decide) (by decide) (by decide) qc hqc rfl rfl jw_78 jw_114 jw_115 jw_74 jw_79 jn_X1_resetTrial rfl (jj_le rfl) (jj_le rfl) (jj_le rfl) (jj_le rfl) (jj_le rfl) dX1_payAfterRate_3 rfl (fun _ _ _ hX => hX.elim) (fun rx pl_1 r O_4 => ?_)
  obtain ⟨rfl, hok_2, hr_3, hR_6⟩ := O_4
  replace hfr := hfr.trans (hr_3.sub (by decide))
  obtain rfl := hR_6
  refine jj_aload_n C dX1_payAfterRate_6 rfl ?_
  refine jj_aload_n C dX1_payAfterRate_7 rfl ?_
  refine jj_iload_n C dX1_payAfterRate_8 rfl ?_
  refine jj_ldc2 (v := 9223372036854775807) C dX1_payAfterRate_9 jw_439 ?_
  refine jj_iconst (v := 1) C dX1_payAfterRate_12 (by decide) ?_
  obtain ⟨qc, gs, hqc⟩ := tt_recv (cx := []) hok_2 hk0 (by decide) rfl
  refine tt_callV (rest := []) C (tc_X1_tryRedemption_2 hl D cA ak h0 h1 p2 hk0 hk1 hok_2) [] [] rfl rfl (by decide) (by decide) (by decide) qc hqc rfl rfl jw_119 jw_183 jw_184 jw_74 jw_120 jn_X1_tryRedemption rfl (jj_le rfl) (jj_le rfl) (jj_le rfl) (jj_le rfl) (jj_le rfl) dX1_payAfterRate_13 rfl (fun _ _ _ hX => hX.elim) (fun rx pl_7 r O_10 => ?_)
  obtain ⟨rfl, hok_8, hr_9, hR_12⟩ := O_10
  replace hfr := hfr.trans (hr_9.sub (by decide))
  obtain ⟨y_13, rfl⟩ := hR_12
  exact jj_lret C ⟨[], pl_7, rfl, rfl, hok_8, hfr, ⟨y_13, rfl⟩⟩ dX1_payAfterRate_16 (jj_le rfl) (jj_le rfl)

set_option maxHeartbeats 4000000 in
set_option maxRecDepth 100000 in
theorem tc_X10_firstRateInReach_1 {l : Launch} (hl : l.stackTraces = false) (D : va_G) (cA : Nat → ClassId) (ak : (Nat → Nat) × (Nat → Nat)) {Kd : Nat → Nat} (h0 : Nat) (p1 : Int32) (p2 : Int64) (hk0 : Kd h0 = 15) {pl0 : va_W} (hok : tt_ok tt_tk cA Kd pl0) : jj_M l D cA ak yX10_firstRateInReach (.code yX10_firstRateInReach cX10_firstRateInReach 10 (some .int)) 4 111 0 0 ([] ++ pl0) [.ref h0, .int p1, .long p2] (tt_O (fun rx pl1 r => rx = [] ∧ tt_ok tt_tk cA Kd pl1 ∧ tt_fr Kd [(2, 0), (2, 1), (2, 2), (2, 3), (2, 4), (9, 1), (9, 2), (9, 3), (9, 4), (9, 5)] pl0 pl1 ∧ ((∃ v : Int32, (-2147483648 : Int) ≤ v.toInt ∧ v.toInt ≤ 2147483647 ∧ r = some (.int v))))) (tt_OX (fun _ _ _ => False)) := by
  refine jj_start hl (by decide) jw_422 (jj_le rfl) ?_
  intro p e s m args below meth c A hargs hA C hex hmn
  have hfr := tt_fr.refl (K := Kd) (WS := [(2, 0), (2, 1), (2, 2), (2, 3), (2, 4), (9, 1), (9, 2), (9, 3), (9, 4), (9, 5)]) pl0
  have lp1 := tt_lo p1
  have up1 := tt_hi p1
  refine jj_aload_n C dX10_firstRateInReach_0 rfl ?_
  refine tt_get C hok jk_11 3 (by decide) jw_2 (t := (2, 1, 0)) hk0 (by decide) rfl rfl dX10_firstRateInReach_1 (fun v_1 hv_1 hf_2 => ?_)
  obtain ⟨a_3, rfl, ka_3⟩ := tt_vr hv_1
  refine jj_iload_n C dX10_firstRateInReach_4 rfl ?_
  obtain ⟨qc, gs, hqc⟩ := tt_recv (cx := []) hok ka_3 (by decide) rfl
  refine tt_callV (rest := []) C (tc_X0_fallOfPay_1 hl D cA ak a_3 p1 ka_3 hok) [] [] rfl rfl (by decide) (by decide) (by decide) qc hqc rfl rfl jw_423 jw_434 jw_435 jw_133 jw_424 jn_X0_fallOfPay rfl (jj_le rfl) (jj_le rfl) (jj_le rfl) (jj_le rfl) (jj_le rfl) dX10_firstRateInReach_5 rfl (fun _ _ _ hX => hX.elim) (fun rx pl_4 r O_7 => ?_)
  obtain ⟨rfl, hok_5, hr_6, hR_9⟩ := O_7
  replace hf_2 := hr_6.at hk0 (by decide) (by decide) hf_2
  replace hfr := hfr.trans (hr_6.sub (by decide))
  obtain ⟨y_10, rfl⟩ := hR_9
  refine jj_lstore C dX10_firstRateInReach_8 (by decide) rfl ?_
  refine jj_sipush (v := (-9000)) C dX10_firstRateInReach_10 (by decide) ?_
  refine jj_istore C dX10_firstRateInReach_13 (by decide) rfl ?_
  refine jj_sipush (v := 10000) C dX10_firstRateInReach_15 (by decide) ?_
  refine jj_istore C dX10_firstRateInReach_18 (by decide) rfl ?_
  refine jj_iconst (v := 0) C dX10_firstRateInReach_20 (by decide) ?_
  refine jj_istore C dX10_firstRateInReach_21 (by decide) rfl ?_
  have hL_11 : ∀ (N : Nat) (pl : va_W) (x_12 : Int32) (x_13 : Int32) (x_14 : Int32), True → tt_ok tt_tk cA Kd pl → tt_fr Kd [(2, 0), (2, 1), (2, 2), (2, 3), (2, 4), (9, 1), (9, 2), (9, 3), (9, 4), (9, 5)] pl0 pl → tt_at pl h0 3 (.ref a_3) → (0 : Int) ≤ x_12.toInt → x_12.toInt ≤ 40 → (-2147483648 : Int) ≤ x_13.toInt → x_13.toInt ≤ 2147483647 → (-2147483648 : Int) ≤ x_14.toInt → x_14.toInt ≤ 2147483647 → (2147483648 - x_12.toInt ≤ (N : Int)) → jj_J p l e (jj_rm 4 111 0 0) s m args below meth c 10 A (vx_MQ below (jj_q D A (tt_O (fun rx pl1 r => rx = [] ∧ tt_ok tt_tk cA Kd pl1 ∧ tt_fr Kd [(2, 0), (2, 1), (2, 2), (2, 3), (2, 4), (9, 1), (9, 2), (9, 3), (9, 4), (9, 5)] pl0 pl1 ∧ ((∃ v : Int32, (-2147483648 : Int) ≤ v.toInt ∧ v.toInt ≤ 2147483647 ∧ r = some (.int v)))))) (jj_x D A (tt_OX (fun _ _ _ => False))) args s 0 0 A) (jj_X D A ([] ++ pl)) 0 0 23 [(8, .int x_12), (7, .int x_13), (6, .int x_14), (4, .long y_10), (0, .ref h0), (1, .int p1), (2, .long p2)] [] := by
    intro NL_11
    induction NL_11 with
    | zero => intro pl x_12 x_13 x_14 _ hok hfr hf_15 lx_12 ux_12 lx_13 ux_13 lx_14 ux_14 hNL_11; exfalso; omega
    | succ NL_11 ihL_11 =>
      intro pl x_12 x_13 x_14 _ hok hfr hf_15 lx_12 ux_12 lx_13 ux_13 lx_14 ux_14 hNL_11
      replace ihL_11 := fun pl x_12 x_13 x_14 h1 => ihL_11 pl x_12 x_13 x_14 trivial h1
      refine jj_iload C dX10_firstRateInReach_23 rfl ?_
      refine jj_bipush (v := 32) C dX10_firstRateInReach_25 (by decide) ?_
      refine jj_icmp_ge (tgt := 89) C dX10_firstRateInReach_27 (by decide) (fun c_16 => ?_) (fun c_16 => ?_)
      · have z_c_16 := jc_le (a := (32)) (b := (x_12).toInt) c_16 (by decide) rfl
        refine jj_iload C dX10_firstRateInReach_89 rfl ?_
        exact jj_iret C ⟨[], pl, rfl, rfl, hok, hfr, ⟨x_14, (by first | omega | exact tt_lo _ | exact tt_hi _), (by first | omega | exact tt_lo _ | exact tt_hi _), rfl⟩⟩ dX10_firstRateInReach_91 (jj_le rfl) (jj_le rfl)
      · have z_c_16 := jc_nle (a := (32)) (b := (x_12).toInt) c_16 (by decide) rfl
        refine jj_iload C dX10_firstRateInReach_30 rfl ?_
        refine jj_iload C dX10_firstRateInReach_32 rfl ?_
        refine jj_icmp_ge (tgt := 89) C dX10_firstRateInReach_34 (by decide) (fun c_17 => ?_) (fun c_17 => ?_)
        · have z_c_17 := jc_le (a := (x_13).toInt) (b := (x_14).toInt) c_17 rfl rfl
          refine jj_iload C dX10_firstRateInReach_89 rfl ?_
          exact jj_iret C ⟨[], pl, rfl, rfl, hok, hfr, ⟨x_14, (by first | omega | exact tt_lo _ | exact tt_hi _), (by first | omega | exact tt_lo _ | exact tt_hi _), rfl⟩⟩ dX10_firstRateInReach_91 (jj_le rfl) (jj_le rfl)
        · have z_c_17 := jc_nle (a := (x_13).toInt) (b := (x_14).toInt) c_17 rfl rfl
          refine jj_iload C dX10_firstRateInReach_37 rfl ?_
          refine jj_iload C dX10_firstRateInReach_39 rfl ?_
          obtain ⟨x_18, ex_18⟩ : ∃ z : Int32, x_14 + x_13 = z := ⟨_, rfl⟩
          refine jj_iadd (v := x_18) C dX10_firstRateInReach_41 ex_18 ?_
          refine jj_iconst (v := 2) C dX10_firstRateInReach_42 (by decide) ?_
          refine tt_call0S (rest := []) C (ct_J9_floorDiv_7cf53_1 hl D cA ak x_18) jw_300 jw_302 jw_144 jw_301 jn_J9_floorDiv_7cf53 rfl (jj_le rfl) (jj_le rfl) (jj_le rfl) (jj_le rfl) (jj_le rfl) dX10_firstRateInReach_43 rfl (fun w1 r O_19 => ?_)
          rcases O_19 with ⟨c_20, -, rfl⟩ | ⟨c_21, c_22, -, rfl⟩ | ⟨c_23, c_24, -, rfl⟩
          · refine jj_istore C dX10_firstRateInReach_46 (by decide) rfl ?_
            refine jj_aload_n C dX10_firstRateInReach_48 rfl ?_
            refine tt_get C hok jk_11 5 (by decide) jw_71 (t := (2, 9, 0)) hk0 (by decide) rfl rfl dX10_firstRateInReach_49 (fun v_25 hv_25 hf_26 => ?_)
            obtain ⟨a_27, rfl, ka_27⟩ := tt_vr hv_25
            refine jj_aload_n C dX10_firstRateInReach_52 rfl ?_
            refine tt_getF C hok jk_11 3 (by decide) jw_2 (t := (2, 1, 0)) hk0 (by decide) rfl rfl hf_15 dX10_firstRateInReach_53 ?_
            refine jj_iload_n C dX10_firstRateInReach_56 rfl ?_
            refine jj_iload C dX10_firstRateInReach_57 rfl ?_
            obtain ⟨qc, gs, hqc⟩ := tt_recv (cx := []) hok ka_27 (by decide) rfl
            refine tt_callV (rest := []) C (tc_X1_payAfterRate_1 hl D cA ak a_27 a_3 p1 (x_18 / 2) ka_27 ka_3 hok) [] [] rfl rfl (by decide) (by decide) (by decide) qc hqc rfl rfl jw_437 jw_440 jw_441 jw_74 jw_438 jn_X1_payAfterRate rfl (jj_le rfl) (jj_le rfl) (jj_le rfl) (jj_le rfl) (jj_le rfl) dX10_firstRateInReach_59 rfl (fun _ _ _ hX => hX.elim) (fun rx pl_28 r O_31 => ?_)
            obtain ⟨rfl, hok_29, hr_30, hR_33⟩ := O_31
            replace hf_15 := hr_30.at hk0 (by decide) (by decide) hf_15
            replace hf_26 := hr_30.at hk0 (by decide) (by decide) hf_26
            replace hfr := hfr.trans (hr_30.sub (by decide))
            obtain ⟨y_34, rfl⟩ := hR_33
            refine jj_lload C dX10_firstRateInReach_62 rfl ?_
            obtain ⟨y_35, ey_35⟩ : ∃ z : Int64, y_34 + y_10 = z := ⟨_, rfl⟩
            refine jj_ladd (v := y_35) C dX10_firstRateInReach_64 ey_35 ?_
            refine jj_lload_n C dX10_firstRateInReach_65 rfl ?_
            refine jj_lcmp_ge (tgt := 79) C dX10_firstRateInReach_66 dX10_firstRateInReach_67 (by decide) (fun c_36 => ?_) (fun c_36 => ?_)
            · refine jj_iload C dX10_firstRateInReach_79 rfl ?_
              refine jj_istore C dX10_firstRateInReach_81 (by decide) rfl ?_
              obtain ⟨x_37, ex_37, vx_37⟩ := tt_inc (x := x_12) (n := 1) (by omega) (by omega)
              refine jj_iinc (v := x_37) C dX10_firstRateInReach_83 rfl ex_37 (by decide) rfl ?_
              refine jj_goto (tgt := 23) C dX10_firstRateInReach_86 (by decide) ?_
              refine jj_loc [0, 1, 3, 4, 5, 6, 7] rfl ?_
              exact ihL_11 pl_28 x_37 (x_18 / 2) x_14 hok_29 hfr hf_15 (by first | omega | decide | exact tt_lo _ | exact tt_hi _) (by first | omega | decide | exact tt_lo _ | exact tt_hi _) (by first | omega | decide | exact tt_lo _ | exact tt_hi _) (by first | omega | decide | exact tt_lo _ | exact tt_hi _) (by first | omega | decide | exact tt_lo _ | exact tt_hi _) (by first | omega | decide | exact tt_lo _ | exact tt_hi _) (by first | omega | decide | exact tt_lo _ | exact tt_hi _)
            · refine jj_iload C dX10_firstRateInReach_70 rfl ?_
              refine jj_iconst (v := 1) C dX10_firstRateInReach_72 (by decide) ?_
              obtain ⟨x_38, ex_38⟩ : ∃ z : Int32, (x_18 / 2) + (1 : Int32) = z := ⟨_, rfl⟩
              refine jj_iadd (v := x_38) C dX10_firstRateInReach_73 ex_38 ?_
              refine jj_istore C dX10_firstRateInReach_74 (by decide) rfl ?_
              refine jj_goto (tgt := 83) C dX10_firstRateInReach_76 (by decide) ?_
              obtain ⟨x_39, ex_39, vx_39⟩ := tt_inc (x := x_12) (n := 1) (by omega) (by omega)
              refine jj_iinc (v := x_39) C dX10_firstRateInReach_83 rfl ex_39 (by decide) rfl ?_
              refine jj_goto (tgt := 23) C dX10_firstRateInReach_86 (by decide) ?_
              refine jj_loc [0, 3, 1, 4, 5, 6, 7] rfl ?_
              exact ihL_11 pl_28 x_39 x_13 x_38 hok_29 hfr hf_15 (by first | omega | decide | exact tt_lo _ | exact tt_hi _) (by first | omega | decide | exact tt_lo _ | exact tt_hi _) (by first | omega | decide | exact tt_lo _ | exact tt_hi _) (by first | omega | decide | exact tt_lo _ | exact tt_hi _) (by first | omega | decide | exact tt_lo _ | exact tt_hi _) (by first | omega | decide | exact tt_lo _ | exact tt_hi _) (by first | omega | decide | exact tt_lo _ | exact tt_hi _)
          · refine jj_istore C dX10_firstRateInReach_46 (by decide) rfl ?_
            refine jj_aload_n C dX10_firstRateInReach_48 rfl ?_
            refine tt_get C hok jk_11 5 (by decide) jw_71 (t := (2, 9, 0)) hk0 (by decide) rfl rfl dX10_firstRateInReach_49 (fun v_40 hv_40 hf_41 => ?_)
            obtain ⟨a_42, rfl, ka_42⟩ := tt_vr hv_40
            refine jj_aload_n C dX10_firstRateInReach_52 rfl ?_
            refine tt_getF C hok jk_11 3 (by decide) jw_2 (t := (2, 1, 0)) hk0 (by decide) rfl rfl hf_15 dX10_firstRateInReach_53 ?_
            refine jj_iload_n C dX10_firstRateInReach_56 rfl ?_
            refine jj_iload C dX10_firstRateInReach_57 rfl ?_
            obtain ⟨qc, gs, hqc⟩ := tt_recv (cx := []) hok ka_42 (by decide) rfl
            refine tt_callV (rest := []) C (tc_X1_payAfterRate_1 hl D cA ak a_42 a_3 p1 (x_18 / 2) ka_42 ka_3 hok) [] [] rfl rfl (by decide) (by decide) (by decide) qc hqc rfl rfl jw_437 jw_440 jw_441 jw_74 jw_438 jn_X1_payAfterRate rfl (jj_le rfl) (jj_le rfl) (jj_le rfl) (jj_le rfl) (jj_le rfl) dX10_firstRateInReach_59 rfl (fun _ _ _ hX => hX.elim) (fun rx pl_43 r O_46 => ?_)
            obtain ⟨rfl, hok_44, hr_45, hR_48⟩ := O_46
            replace hf_15 := hr_45.at hk0 (by decide) (by decide) hf_15
            replace hf_41 := hr_45.at hk0 (by decide) (by decide) hf_41
            replace hfr := hfr.trans (hr_45.sub (by decide))
            obtain ⟨y_49, rfl⟩ := hR_48
            refine jj_lload C dX10_firstRateInReach_62 rfl ?_
            obtain ⟨y_50, ey_50⟩ : ∃ z : Int64, y_49 + y_10 = z := ⟨_, rfl⟩
            refine jj_ladd (v := y_50) C dX10_firstRateInReach_64 ey_50 ?_
            refine jj_lload_n C dX10_firstRateInReach_65 rfl ?_
            refine jj_lcmp_ge (tgt := 79) C dX10_firstRateInReach_66 dX10_firstRateInReach_67 (by decide) (fun c_51 => ?_) (fun c_51 => ?_)
            · refine jj_iload C dX10_firstRateInReach_79 rfl ?_
              refine jj_istore C dX10_firstRateInReach_81 (by decide) rfl ?_
              obtain ⟨x_52, ex_52, vx_52⟩ := tt_inc (x := x_12) (n := 1) (by omega) (by omega)
              refine jj_iinc (v := x_52) C dX10_firstRateInReach_83 rfl ex_52 (by decide) rfl ?_
              refine jj_goto (tgt := 23) C dX10_firstRateInReach_86 (by decide) ?_
              refine jj_loc [0, 1, 3, 4, 5, 6, 7] rfl ?_
              exact ihL_11 pl_43 x_52 (x_18 / 2) x_14 hok_44 hfr hf_15 (by first | omega | decide | exact tt_lo _ | exact tt_hi _) (by first | omega | decide | exact tt_lo _ | exact tt_hi _) (by first | omega | decide | exact tt_lo _ | exact tt_hi _) (by first | omega | decide | exact tt_lo _ | exact tt_hi _) (by first | omega | decide | exact tt_lo _ | exact tt_hi _) (by first | omega | decide | exact tt_lo _ | exact tt_hi _) (by first | omega | decide | exact tt_lo _ | exact tt_hi _)
            · refine jj_iload C dX10_firstRateInReach_70 rfl ?_
              refine jj_iconst (v := 1) C dX10_firstRateInReach_72 (by decide) ?_
              obtain ⟨x_53, ex_53⟩ : ∃ z : Int32, (x_18 / 2) + (1 : Int32) = z := ⟨_, rfl⟩
              refine jj_iadd (v := x_53) C dX10_firstRateInReach_73 ex_53 ?_
              refine jj_istore C dX10_firstRateInReach_74 (by decide) rfl ?_
              refine jj_goto (tgt := 83) C dX10_firstRateInReach_76 (by decide) ?_
              obtain ⟨x_54, ex_54, vx_54⟩ := tt_inc (x := x_12) (n := 1) (by omega) (by omega)
              refine jj_iinc (v := x_54) C dX10_firstRateInReach_83 rfl ex_54 (by decide) rfl ?_
              refine jj_goto (tgt := 23) C dX10_firstRateInReach_86 (by decide) ?_
              refine jj_loc [0, 3, 1, 4, 5, 6, 7] rfl ?_
              exact ihL_11 pl_43 x_54 x_13 x_53 hok_44 hfr hf_15 (by first | omega | decide | exact tt_lo _ | exact tt_hi _) (by first | omega | decide | exact tt_lo _ | exact tt_hi _) (by first | omega | decide | exact tt_lo _ | exact tt_hi _) (by first | omega | decide | exact tt_lo _ | exact tt_hi _) (by first | omega | decide | exact tt_lo _ | exact tt_hi _) (by first | omega | decide | exact tt_lo _ | exact tt_hi _) (by first | omega | decide | exact tt_lo _ | exact tt_hi _)
          · refine jj_istore C dX10_firstRateInReach_46 (by decide) rfl ?_
            refine jj_aload_n C dX10_firstRateInReach_48 rfl ?_
            refine tt_get C hok jk_11 5 (by decide) jw_71 (t := (2, 9, 0)) hk0 (by decide) rfl rfl dX10_firstRateInReach_49 (fun v_55 hv_55 hf_56 => ?_)
            obtain ⟨a_57, rfl, ka_57⟩ := tt_vr hv_55
            refine jj_aload_n C dX10_firstRateInReach_52 rfl ?_
            refine tt_getF C hok jk_11 3 (by decide) jw_2 (t := (2, 1, 0)) hk0 (by decide) rfl rfl hf_15 dX10_firstRateInReach_53 ?_
            refine jj_iload_n C dX10_firstRateInReach_56 rfl ?_
            refine jj_iload C dX10_firstRateInReach_57 rfl ?_
            obtain ⟨qc, gs, hqc⟩ := tt_recv (cx := []) hok ka_57 (by decide) rfl
            refine tt_callV (rest := []) C (tc_X1_payAfterRate_1 hl D cA ak a_57 a_3 p1 ((x_18 / 2) - 1) ka_57 ka_3 hok) [] [] rfl rfl (by decide) (by decide) (by decide) qc hqc rfl rfl jw_437 jw_440 jw_441 jw_74 jw_438 jn_X1_payAfterRate rfl (jj_le rfl) (jj_le rfl) (jj_le rfl) (jj_le rfl) (jj_le rfl) dX10_firstRateInReach_59 rfl (fun _ _ _ hX => hX.elim) (fun rx pl_58 r O_61 => ?_)
            obtain ⟨rfl, hok_59, hr_60, hR_63⟩ := O_61
            replace hf_15 := hr_60.at hk0 (by decide) (by decide) hf_15
            replace hf_56 := hr_60.at hk0 (by decide) (by decide) hf_56
            replace hfr := hfr.trans (hr_60.sub (by decide))
            obtain ⟨y_64, rfl⟩ := hR_63
            refine jj_lload C dX10_firstRateInReach_62 rfl ?_
            obtain ⟨y_65, ey_65⟩ : ∃ z : Int64, y_64 + y_10 = z := ⟨_, rfl⟩
            refine jj_ladd (v := y_65) C dX10_firstRateInReach_64 ey_65 ?_
            refine jj_lload_n C dX10_firstRateInReach_65 rfl ?_
            refine jj_lcmp_ge (tgt := 79) C dX10_firstRateInReach_66 dX10_firstRateInReach_67 (by decide) (fun c_66 => ?_) (fun c_66 => ?_)
            · refine jj_iload C dX10_firstRateInReach_79 rfl ?_
              refine jj_istore C dX10_firstRateInReach_81 (by decide) rfl ?_
              obtain ⟨x_67, ex_67, vx_67⟩ := tt_inc (x := x_12) (n := 1) (by omega) (by omega)
              refine jj_iinc (v := x_67) C dX10_firstRateInReach_83 rfl ex_67 (by decide) rfl ?_
              refine jj_goto (tgt := 23) C dX10_firstRateInReach_86 (by decide) ?_
              refine jj_loc [0, 1, 3, 4, 5, 6, 7] rfl ?_
              exact ihL_11 pl_58 x_67 ((x_18 / 2) - 1) x_14 hok_59 hfr hf_15 (by first | omega | decide | exact tt_lo _ | exact tt_hi _) (by first | omega | decide | exact tt_lo _ | exact tt_hi _) (by first | omega | decide | exact tt_lo _ | exact tt_hi _) (by first | omega | decide | exact tt_lo _ | exact tt_hi _) (by first | omega | decide | exact tt_lo _ | exact tt_hi _) (by first | omega | decide | exact tt_lo _ | exact tt_hi _) (by first | omega | decide | exact tt_lo _ | exact tt_hi _)
            · refine jj_iload C dX10_firstRateInReach_70 rfl ?_
              refine jj_iconst (v := 1) C dX10_firstRateInReach_72 (by decide) ?_
              obtain ⟨x_68, ex_68⟩ : ∃ z : Int32, ((x_18 / 2) - 1) + (1 : Int32) = z := ⟨_, rfl⟩
              refine jj_iadd (v := x_68) C dX10_firstRateInReach_73 ex_68 ?_
              refine jj_istore C dX10_firstRateInReach_74 (by decide) rfl ?_
              refine jj_goto (tgt := 83) C dX10_firstRateInReach_76 (by decide) ?_
              obtain ⟨x_69, ex_69, vx_69⟩ := tt_inc (x := x_12) (n := 1) (by omega) (by omega)
              refine jj_iinc (v := x_69) C dX10_firstRateInReach_83 rfl ex_69 (by decide) rfl ?_
              refine jj_goto (tgt := 23) C dX10_firstRateInReach_86 (by decide) ?_
              refine jj_loc [0, 3, 1, 4, 5, 6, 7] rfl ?_
              exact ihL_11 pl_58 x_69 x_13 x_68 hok_59 hfr hf_15 (by first | omega | decide | exact tt_lo _ | exact tt_hi _) (by first | omega | decide | exact tt_lo _ | exact tt_hi _) (by first | omega | decide | exact tt_lo _ | exact tt_hi _) (by first | omega | decide | exact tt_lo _ | exact tt_hi _) (by first | omega | decide | exact tt_lo _ | exact tt_hi _) (by first | omega | decide | exact tt_lo _ | exact tt_hi _) (by first | omega | decide | exact tt_lo _ | exact tt_hi _)
  exact hL_11 _ pl_4 (0 : Int32) (10000 : Int32) ((-9000) : Int32) trivial hok_5 hfr hf_2 (by first | omega | decide | exact tt_lo _ | exact tt_hi _) (by first | omega | decide | exact tt_lo _ | exact tt_hi _) (by first | omega | decide | exact tt_lo _ | exact tt_hi _) (by first | omega | decide | exact tt_lo _ | exact tt_hi _) (by first | omega | decide | exact tt_lo _ | exact tt_hi _) (by first | omega | decide | exact tt_lo _ | exact tt_hi _) (Int.self_le_toNat _)

