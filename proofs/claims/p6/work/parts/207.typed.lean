set_option maxHeartbeats 4000000 in
set_option maxRecDepth 100000 in
theorem tc_X0_hasInvestor_1 {l : Launch} (hl : l.stackTraces = false) (D : va_G) (cA : Nat → ClassId) (ak : (Nat → Nat) × (Nat → Nat)) {Kd : Nat → Nat} (h0 : Nat) (p1 : Int32) (hk0 : Kd h0 = 1) {pl0 : va_W} (hok : tt_ok tt_tk cA Kd pl0) : jj_M l D cA ak yX0_hasInvestor (.code yX0_hasInvestor cX0_hasInvestor 2 (some .boolean)) 0 0 0 0 ([] ++ pl0) [.ref h0, .int p1] (tt_O (fun rx pl1 r => rx = [] ∧ tt_ok tt_tk cA Kd pl1 ∧ tt_fr Kd [] pl0 pl1 ∧ tt_fa Kd [] pl0 pl1 ∧ ((r = some (.int 0)) ∨ ((0 : Int) ≤ p1.toInt ∧ p1.toInt ≤ 2147483646 ∧ r = some (.int 1))))) (tt_OX (fun _ _ _ => False)) := by
  refine jj_start hl (by decide) jw_46cdbc56f6 (jj_le rfl) ?_
  intro p e s m args below meth c A hargs hA C hex hmn
  have hfr := tt_fr.refl (K := Kd) (WS := []) pl0
  have hfa := tt_fa.refl (K := Kd) (WA := []) pl0
  have lp1 := tt_lo p1
  have up1 := tt_hi p1
  refine jj_iload_n C dX0_hasInvestor_0 rfl ?_
  refine jj_if_lt (tgt := 16) C dX0_hasInvestor_1 (by decide) (fun c_1 => ?_) (fun c_1 => ?_)
  · have z_c_1 := jc_lt (a := (p1).toInt) (b := (0)) c_1 rfl (by decide)
    refine jj_iconst (v := 0) C dX0_hasInvestor_16 (by decide) ?_
    exact jj_zret C rfl ⟨[], pl0, rfl, rfl, hok, hfr, hfa, (Or.inl rfl)⟩ dX0_hasInvestor_17 (jj_le rfl) (jj_le rfl)
  · have z_c_1 := jc_nlt (a := (p1).toInt) (b := (0)) c_1 rfl (by decide)
    refine jj_iload_n C dX0_hasInvestor_4 rfl ?_
    refine jj_aload_n C dX0_hasInvestor_5 rfl ?_
    refine tt_get C hok jk_2 0 (by decide) jw_cbdbdaad27 (t := (0, (-2147483648), 2147483647)) hk0 (by decide) rfl rfl dX0_hasInvestor_6 (fun v_2 hv_2 hf_3 => ?_)
    obtain ⟨x_4, rfl, lx_4, ux_4⟩ := tt_vi hv_2
    refine jj_icmp_ge (tgt := 16) C dX0_hasInvestor_9 (by decide) (fun c_5 => ?_) (fun c_5 => ?_)
    · have z_c_5 := jc_le (a := (x_4).toInt) (b := (p1).toInt) c_5 rfl rfl
      refine jj_iconst (v := 0) C dX0_hasInvestor_16 (by decide) ?_
      exact jj_zret C rfl ⟨[], pl0, rfl, rfl, hok, hfr, hfa, (Or.inl rfl)⟩ dX0_hasInvestor_17 (jj_le rfl) (jj_le rfl)
    · have z_c_5 := jc_nle (a := (x_4).toInt) (b := (p1).toInt) c_5 rfl rfl
      refine jj_iconst (v := 1) C dX0_hasInvestor_12 (by decide) ?_
      refine jj_goto (tgt := 17) C dX0_hasInvestor_13 (by decide) ?_
      exact jj_zret C rfl ⟨[], pl0, rfl, rfl, hok, hfr, hfa, (Or.inr ⟨(by first | omega | exact tt_lo _ | exact tt_hi _), (by first | omega | exact tt_lo _ | exact tt_hi _), rfl⟩)⟩ dX0_hasInvestor_17 (jj_le rfl) (jj_le rfl)

set_option maxHeartbeats 4000000 in
set_option maxRecDepth 100000 in
theorem tc_X10_checkInvestor_1 {l : Launch} (hl : l.stackTraces = false) (D : va_G) (cA : Nat → ClassId) (ak : (Nat → Nat) × (Nat → Nat)) {Kd : Nat → Nat} (h0 : Nat) (p1 : Int32) (hk0 : Kd h0 = 15) {pl0 : va_W} (hok : tt_ok tt_tk cA Kd pl0) : jj_M l D cA ak yX10_checkInvestor (.code yX10_checkInvestor cX10_checkInvestor 2 none) 7 102 1 6 ([] ++ pl0) [.ref h0, .int p1] (tt_O (fun rx pl1 r => rx = [] ∧ tt_ok tt_tk cA Kd pl1 ∧ tt_fr Kd [] pl0 pl1 ∧ tt_fa Kd [] pl0 pl1 ∧ (((0 : Int) ≤ p1.toInt ∧ p1.toInt ≤ 2147483646 ∧ r = none)))) (tt_OX (fun E rx pl1 => rx = [] ∧ tt_ok tt_tk cA Kd pl1 ∧ tt_fr Kd [] pl0 pl1 ∧ tt_fa Kd [] pl0 pl1 ∧ (E = "java/lang/IndexOutOfBoundsException"))) := by
  refine jj_start hl (by decide) jw_a8b8d648f8 (jj_le rfl) ?_
  intro p e s m args below meth c A hargs hA C hex hmn
  have hfr := tt_fr.refl (K := Kd) (WS := []) pl0
  have hfa := tt_fa.refl (K := Kd) (WA := []) pl0
  have lp1 := tt_lo p1
  have up1 := tt_hi p1
  refine jj_aload_n C dX10_checkInvestor_0 rfl ?_
  refine tt_get C hok jk_11 3 (by decide) jw_f82a97e333 (t := (2, 1, 0)) hk0 (by decide) rfl rfl dX10_checkInvestor_1 (fun v_1 hv_1 hf_2 => ?_)
  obtain ⟨a_3, rfl, ka_3⟩ := tt_vr hv_1
  refine jj_iload_n C dX10_checkInvestor_4 rfl ?_
  obtain ⟨qc, gs, hqc⟩ := tt_recv (cx := []) hok ka_3 (by decide) rfl
  refine tt_callV (rest := []) C (tc_X0_hasInvestor_1 hl D cA ak a_3 p1 ka_3 hok) [] [] rfl rfl (by decide) (by decide) (by decide) qc hqc rfl rfl jw_fc7a355745 jw_4b2ee875de jw_b17a3ad3c3 jw_7d25d4fd32 jw_46cdbc56f6 jn_X0_hasInvestor rfl (jj_le rfl) (jj_le rfl) (jj_le rfl) (jj_le rfl) (jj_le rfl) dX10_checkInvestor_5 rfl (fun _ _ _ hX => hX.elim) (fun rx pl_4 r O_7 => ?_)
  obtain ⟨rfl, hok_5, hr_6, hfa9, hR_9⟩ := O_7
  replace hf_2 := hr_6.at hk0 (by decide) (by decide) hf_2
  replace hfr := hfr.trans (hr_6.sub (by decide))
  replace hfa := hfa.trans (hfa9.sub (by decide))
  rcases hR_9 with rfl | ⟨l_12, u_13, rfl⟩
  · refine jj_if_eqT (tgt := 15) C dX10_checkInvestor_8 (by decide) (by decide) ?_
    refine jj_iconst (v := 1) C dX10_checkInvestor_15 (by decide) ?_
    refine tt_callS (rest := []) C (tc_X10_refuse_1 hl D cA ak  hok_5) [] [] rfl rfl (by decide) (by decide) (by decide) jw_90eccdbdf8 jw_751c22758b jw_6f6d707074 jw_57df353171 jn_X10_refuse rfl (jj_le rfl) (jj_le rfl) (jj_le rfl) (jj_le rfl) (jj_le rfl) dX10_checkInvestor_16 rfl (fun E rx pl_14 X_18 => ?_) (fun rx pl_14 r O_17 => ?_)
    · obtain ⟨rfl, hok_15, hr_16, hfa9, hE_19⟩ := X_18
      replace hf_2 := hr_16.at hk0 (by decide) (by decide) hf_2
      replace hfr := hfr.trans (hr_16.sub (by decide))
      replace hfa := hfa.trans (hfa9.sub (by decide))
      obtain rfl := hE_19
      exact jj_out C hex ⟨[], pl_14, rfl, rfl, hok_15, hfr, hfa, rfl⟩ (jj_le rfl) (jj_le rfl)
    · exact O_17.elim
  · refine jj_if_eqF (tgt := 15) C dX10_checkInvestor_8 (by decide) (by decide) ?_
    refine jj_iconst (v := 0) C dX10_checkInvestor_11 (by decide) ?_
    refine jj_goto (tgt := 16) C dX10_checkInvestor_12 (by decide) ?_
    refine tt_callS (rest := []) C (tc_X10_refuse_2 hl D cA ak  hok_5) [] [] rfl rfl (by decide) (by decide) (by decide) jw_90eccdbdf8 jw_751c22758b jw_6f6d707074 jw_57df353171 jn_X10_refuse rfl (jj_le rfl) (jj_le rfl) (jj_le rfl) (jj_le rfl) (jj_le rfl) dX10_checkInvestor_16 rfl (fun _ _ _ hX => hX.elim) (fun rx pl_23 r O_26 => ?_)
    obtain ⟨rfl, hok_24, hr_25, hfa9, hR_28⟩ := O_26
    replace hf_2 := hr_25.at hk0 (by decide) (by decide) hf_2
    replace hfr := hfr.trans (hr_25.sub (by decide))
    replace hfa := hfa.trans (hfa9.sub (by decide))
    obtain rfl := hR_28
    exact jj_vret C ⟨[], pl_23, rfl, rfl, hok_24, hfr, hfa, ⟨(by first | omega | exact tt_lo _ | exact tt_hi _), (by first | omega | exact tt_lo _ | exact tt_hi _), rfl⟩⟩ dX10_checkInvestor_19 (jj_le rfl) (jj_le rfl)

set_option maxHeartbeats 4000000 in
set_option maxRecDepth 100000 in
theorem tc_X0_unitsHeldIn_1 {l : Launch} (hl : l.stackTraces = false) (D : va_G) (cA : Nat → ClassId) (ak : (Nat → Nat) × (Nat → Nat)) {Kd : Nat → Nat} (h0 : Nat) (p1 : Int32) (p2 : Int32) (hk0 : Kd h0 = 1) {pl0 : va_W} (hok : tt_ok tt_tk cA Kd pl0) : jj_M l D cA ak yX0_unitsHeldIn (.code yX0_unitsHeldIn cX0_unitsHeldIn 6 (some .long)) 0 0 0 0 ([] ++ pl0) [.ref h0, .int p1, .int p2] (tt_O (fun rx pl1 r => rx = [] ∧ tt_ok tt_tk cA Kd pl1 ∧ tt_fr Kd [] pl0 pl1 ∧ tt_fa Kd [] pl0 pl1 ∧ ((∃ v : Int64, r = some (.long v))))) (tt_OX (fun _ _ _ => False)) := by
  refine jj_start hl (by decide) jw_f5d838650a (jj_le rfl) ?_
  intro p e s m args below meth c A hargs hA C hex hmn
  have hfr := tt_fr.refl (K := Kd) (WS := []) pl0
  have hfa := tt_fa.refl (K := Kd) (WA := []) pl0
  have lp1 := tt_lo p1
  have up1 := tt_hi p1
  have lp2 := tt_lo p2
  have up2 := tt_hi p2
  refine jj_lconst (v := 0) C dX0_unitsHeldIn_0 (by decide) ?_
  refine jj_lstore_n C dX0_unitsHeldIn_1 (by decide) rfl ?_
  refine jj_iconst (v := 0) C dX0_unitsHeldIn_2 (by decide) ?_
  refine jj_istore C dX0_unitsHeldIn_3 (by decide) rfl ?_
  have hL_1 : ∀ (N : Nat) (pl : va_W) (x_2 : Int32) (y_3 : Int64), True → tt_ok tt_tk cA Kd pl → tt_fr Kd [] pl0 pl → tt_fa Kd [] pl0 pl → (0 : Int) ≤ x_2.toInt → x_2.toInt ≤ 40 → (2147483648 - x_2.toInt ≤ (N : Int)) → jj_J p l e (jj_rm 0 0 0 0) s m args below meth c 6 A (vx_MQ below (jj_q D A (tt_O (fun rx pl1 r => rx = [] ∧ tt_ok tt_tk cA Kd pl1 ∧ tt_fr Kd [] pl0 pl1 ∧ tt_fa Kd [] pl0 pl1 ∧ ((∃ v : Int64, r = some (.long v)))))) (jj_x D A (tt_OX (fun _ _ _ => False))) args s 0 0 A) (jj_X D A ([] ++ pl)) 0 0 5 [(5, .int x_2), (3, .long y_3), (0, .ref h0), (1, .int p1), (2, .int p2)] [] := by
    intro NL_1
    induction NL_1 with
    | zero => intro pl x_2 y_3 _ hok hfr hfa lx_2 ux_2 hNL_1; exfalso; omega
    | succ NL_1 ihL_1 =>
      intro pl x_2 y_3 _ hok hfr hfa lx_2 ux_2 hNL_1
      replace ihL_1 := fun pl x_2 y_3 h1 => ihL_1 pl x_2 y_3 trivial h1
      refine jj_iload C dX0_unitsHeldIn_5 rfl ?_
      refine jj_aload_n C dX0_unitsHeldIn_7 rfl ?_
      refine tt_get C hok jk_2 8 (by decide) jw_9d0ccd4490 (t := (0, 0, 40)) hk0 (by decide) rfl rfl dX0_unitsHeldIn_8 (fun v_4 hv_4 hf_5 => ?_)
      obtain ⟨x_6, rfl, lx_6, ux_6⟩ := tt_vi hv_4
      refine jj_icmp_ge (tgt := 61) C dX0_unitsHeldIn_11 (by decide) (fun c_7 => ?_) (fun c_7 => ?_)
      · have z_c_7 := jc_le (a := (x_6).toInt) (b := (x_2).toInt) c_7 rfl rfl
        refine jj_lload_n C dX0_unitsHeldIn_61 rfl ?_
        exact jj_lret C ⟨[], pl, rfl, rfl, hok, hfr, hfa, ⟨y_3, rfl⟩⟩ dX0_unitsHeldIn_62 (jj_le rfl) (jj_le rfl)
      · have z_c_7 := jc_nle (a := (x_6).toInt) (b := (x_2).toInt) c_7 rfl rfl
        refine jj_aload_n C dX0_unitsHeldIn_14 rfl ?_
        refine tt_get C hok jk_2 12 (by decide) jw_5f730213e9 (t := (2, 7, 0)) hk0 (by decide) rfl rfl dX0_unitsHeldIn_15 (fun v_8 hv_8 hf_9 => ?_)
        obtain ⟨a_10, rfl, ka_10⟩ := tt_vr hv_8
        refine jj_iload C dX0_unitsHeldIn_18 rfl ?_
        refine tt_aald C hok (t := (2, 3, 0)) ka_10 (by decide) rfl rfl rfl (vp_in_iff.mpr ⟨by omega, by omega⟩) dX0_unitsHeldIn_20 (fun v_11 hv_11 => ?_)
        obtain ⟨a_12, rfl, ka_12⟩ := tt_vr hv_11
        refine tt_get C hok jk_5 0 (by decide) jw_89374484be (t := (0, (-2147483648), 2147483647)) ka_12 (by decide) rfl rfl dX0_unitsHeldIn_21 (fun v_13 hv_13 hf_14 => ?_)
        obtain ⟨x_15, rfl, lx_15, ux_15⟩ := tt_vi hv_13
        refine jj_iload_n C dX0_unitsHeldIn_24 rfl ?_
        refine jj_icmp_ne (tgt := 55) C dX0_unitsHeldIn_25 (by decide) (fun c_16 => ?_) (fun c_16 => ?_)
        · have z_c_16 := jc_neq (a := (x_15).toInt) (b := (p1).toInt) c_16 rfl rfl
          obtain ⟨x_17, ex_17, vx_17⟩ := tt_inc (x := x_2) (n := 1) (by omega) (by omega)
          refine jj_iinc (v := x_17) C dX0_unitsHeldIn_55 rfl ex_17 (by decide) rfl ?_
          refine jj_goto (tgt := 5) C dX0_unitsHeldIn_58 (by decide) ?_
          exact ihL_1 pl x_17 y_3 hok hfr hfa (by first | omega | decide | exact tt_lo _ | exact tt_hi _) (by first | omega | decide | exact tt_lo _ | exact tt_hi _) (by first | omega | decide | exact tt_lo _ | exact tt_hi _)
        · have z_c_16 := jc_eq (a := (x_15).toInt) (b := (p1).toInt) c_16 rfl rfl
          refine jj_aload_n C dX0_unitsHeldIn_28 rfl ?_
          refine tt_getF C hok jk_2 12 (by decide) jw_5f730213e9 (t := (2, 7, 0)) hk0 (by decide) rfl rfl hf_9 dX0_unitsHeldIn_29 ?_
          refine jj_iload C dX0_unitsHeldIn_32 rfl ?_
          refine tt_aald C hok (t := (2, 3, 0)) ka_10 (by decide) rfl rfl rfl (vp_in_iff.mpr ⟨by omega, by omega⟩) dX0_unitsHeldIn_34 (fun v_18 hv_18 => ?_)
          obtain ⟨a_19, rfl, ka_19⟩ := tt_vr hv_18
          refine tt_get C hok jk_5 1 (by decide) jw_53dba63b8f (t := (0, (-2147483648), 2147483647)) ka_19 (by decide) rfl rfl dX0_unitsHeldIn_35 (fun v_20 hv_20 hf_21 => ?_)
          obtain ⟨x_22, rfl, lx_22, ux_22⟩ := tt_vi hv_20
          refine jj_iload_n C dX0_unitsHeldIn_38 rfl ?_
          refine jj_icmp_ne (tgt := 55) C dX0_unitsHeldIn_39 (by decide) (fun c_23 => ?_) (fun c_23 => ?_)
          · have z_c_23 := jc_neq (a := (x_22).toInt) (b := (p2).toInt) c_23 rfl rfl
            obtain ⟨x_24, ex_24, vx_24⟩ := tt_inc (x := x_2) (n := 1) (by omega) (by omega)
            refine jj_iinc (v := x_24) C dX0_unitsHeldIn_55 rfl ex_24 (by decide) rfl ?_
            refine jj_goto (tgt := 5) C dX0_unitsHeldIn_58 (by decide) ?_
            exact ihL_1 pl x_24 y_3 hok hfr hfa (by first | omega | decide | exact tt_lo _ | exact tt_hi _) (by first | omega | decide | exact tt_lo _ | exact tt_hi _) (by first | omega | decide | exact tt_lo _ | exact tt_hi _)
          · have z_c_23 := jc_eq (a := (x_22).toInt) (b := (p2).toInt) c_23 rfl rfl
            refine jj_lload_n C dX0_unitsHeldIn_42 rfl ?_
            refine jj_aload_n C dX0_unitsHeldIn_43 rfl ?_
            refine tt_getF C hok jk_2 12 (by decide) jw_5f730213e9 (t := (2, 7, 0)) hk0 (by decide) rfl rfl hf_9 dX0_unitsHeldIn_44 ?_
            refine jj_iload C dX0_unitsHeldIn_47 rfl ?_
            refine tt_aald C hok (t := (2, 3, 0)) ka_10 (by decide) rfl rfl rfl (vp_in_iff.mpr ⟨by omega, by omega⟩) dX0_unitsHeldIn_49 (fun v_25 hv_25 => ?_)
            obtain ⟨a_26, rfl, ka_26⟩ := tt_vr hv_25
            refine tt_get C hok jk_5 3 (by decide) jw_1f6afd9b6f (t := (1, (-9223372036854775808), 9223372036854775807)) ka_26 (by decide) rfl rfl dX0_unitsHeldIn_50 (fun v_27 hv_27 hf_28 => ?_)
            obtain ⟨y_29, rfl, -, -⟩ := tt_vj hv_27
            obtain ⟨y_30, ey_30⟩ : ∃ z : Int64, y_3 + y_29 = z := ⟨_, rfl⟩
            refine jj_ladd (v := y_30) C dX0_unitsHeldIn_53 ey_30 ?_
            refine jj_lstore_n C dX0_unitsHeldIn_54 (by decide) rfl ?_
            obtain ⟨x_31, ex_31, vx_31⟩ := tt_inc (x := x_2) (n := 1) (by omega) (by omega)
            refine jj_iinc (v := x_31) C dX0_unitsHeldIn_55 rfl ex_31 (by decide) rfl ?_
            refine jj_goto (tgt := 5) C dX0_unitsHeldIn_58 (by decide) ?_
            exact ihL_1 pl x_31 y_30 hok hfr hfa (by first | omega | decide | exact tt_lo _ | exact tt_hi _) (by first | omega | decide | exact tt_lo _ | exact tt_hi _) (by first | omega | decide | exact tt_lo _ | exact tt_hi _)
  exact hL_1 _ pl0 (0 : Int32) (0 : Int64) trivial hok hfr hfa (by first | omega | decide | exact tt_lo _ | exact tt_hi _) (by first | omega | decide | exact tt_lo _ | exact tt_hi _) (Int.self_le_toNat _)

set_option maxHeartbeats 4000000 in
set_option maxRecDepth 100000 in
theorem tc_X10_holding_1 {l : Launch} (hl : l.stackTraces = false) (D : va_G) (cA : Nat → ClassId) (ak : (Nat → Nat) × (Nat → Nat)) {Kd : Nat → Nat} (h0 : Nat) (p1 : Int32) (p2 : Int32) (hk0 : Kd h0 = 15) {pl0 : va_W} (hok : tt_ok tt_tk cA Kd pl0) : jj_M l D cA ak yX10_holding (.code yX10_holding cX10_holding 3 (some .long)) 8 124 2 12 ([] ++ pl0) [.ref h0, .int p1, .int p2] (tt_O (fun rx pl1 r => rx = [] ∧ tt_ok tt_tk cA Kd pl1 ∧ tt_fr Kd [] pl0 pl1 ∧ tt_fa Kd [] pl0 pl1 ∧ ((∃ v : Int64, (0 : Int) ≤ p1.toInt ∧ p1.toInt ≤ 2147483646 ∧ r = some (.long v))))) (tt_OX (fun E rx pl1 => rx = [] ∧ tt_ok tt_tk cA Kd pl1 ∧ tt_fr Kd [] pl0 pl1 ∧ tt_fa Kd [] pl0 pl1 ∧ (E = "java/lang/IndexOutOfBoundsException"))) := by
  refine jj_start hl (by decide) jw_781bc3d7b6 (jj_le rfl) ?_
  intro p e s m args below meth c A hargs hA C hex hmn
  have hfr := tt_fr.refl (K := Kd) (WS := []) pl0
  have hfa := tt_fa.refl (K := Kd) (WA := []) pl0
  have lp1 := tt_lo p1
  have up1 := tt_hi p1
  have lp2 := tt_lo p2
  have up2 := tt_hi p2
  refine jj_aload_n C dX10_holding_0 rfl ?_
  refine jj_iload_n C dX10_holding_1 rfl ?_
  obtain ⟨qc, gs, hqc⟩ := tt_recv (cx := []) hok hk0 (by decide) rfl
  refine tt_callV (rest := []) C (tc_X10_checkInvestor_1 hl D cA ak h0 p1 hk0 hok) [] [] rfl rfl (by decide) (by decide) (by decide) qc hqc rfl rfl jw_c489a67580 jw_a350a61418 jw_0e27b6f20c jw_6f6d707074 jw_a8b8d648f8 jn_X10_checkInvestor rfl (jj_le rfl) (jj_le rfl) (jj_le rfl) (jj_le rfl) (jj_le rfl) dX10_holding_2 rfl (fun E rx pl_1 X_5 => ?_) (fun rx pl_1 r O_4 => ?_)
  · obtain ⟨rfl, hok_2, hr_3, hfa9, hE_6⟩ := X_5
    replace hfr := hfr.trans (hr_3.sub (by decide))
    replace hfa := hfa.trans (hfa9.sub (by decide))
    obtain rfl := hE_6
    exact jj_out C hex ⟨[], pl_1, rfl, rfl, hok_2, hfr, hfa, rfl⟩ (jj_le rfl) (jj_le rfl)
  · obtain ⟨rfl, hok_2, hr_3, hfa9, hR_9⟩ := O_4
    replace hfr := hfr.trans (hr_3.sub (by decide))
    replace hfa := hfa.trans (hfa9.sub (by decide))
    obtain ⟨l_12, u_13, rfl⟩ := hR_9
    refine jj_aload_n C dX10_holding_5 rfl ?_
    refine jj_iload_n C dX10_holding_6 rfl ?_
    obtain ⟨qc, gs, hqc⟩ := tt_recv (cx := []) hok_2 hk0 (by decide) rfl
    refine tt_callV (rest := []) C (tc_X10_placeOf_1 hl D cA ak h0 p2 hk0 hok_2) [] [] rfl rfl (by decide) (by decide) (by decide) qc hqc rfl rfl jw_58e2ad5394 jw_525f0659e7 jw_f9e77116d6 jw_6f6d707074 jw_94c9b2f9a1 jn_X10_placeOf rfl (jj_le rfl) (jj_le rfl) (jj_le rfl) (jj_le rfl) (jj_le rfl) dX10_holding_7 rfl (fun E rx pl_14 X_18 => ?_) (fun rx pl_14 r O_17 => ?_)
    · obtain ⟨rfl, hok_15, hr_16, hfa9, hE_19⟩ := X_18
      replace hfr := hfr.trans (hr_16.sub (by decide))
      replace hfa := hfa.trans (hfa9.sub (by decide))
      obtain rfl := hE_19
      exact jj_out C hex ⟨[], pl_14, rfl, rfl, hok_15, hfr, hfa, rfl⟩ (jj_le rfl) (jj_le rfl)
    · obtain ⟨rfl, hok_15, hr_16, hfa9, hR_22⟩ := O_17
      replace hfr := hfr.trans (hr_16.sub (by decide))
      replace hfa := hfa.trans (hfa9.sub (by decide))
      obtain ⟨x_25, lx_25, ux_25, rfl⟩ := hR_22
      refine jj_pop C dX10_holding_10 rfl ?_
      refine jj_aload_n C dX10_holding_11 rfl ?_
      refine tt_get C hok_15 jk_11 3 (by decide) jw_f82a97e333 (t := (2, 1, 0)) hk0 (by decide) rfl rfl dX10_holding_12 (fun v_26 hv_26 hf_27 => ?_)
      obtain ⟨a_28, rfl, ka_28⟩ := tt_vr hv_26
      refine jj_iload_n C dX10_holding_15 rfl ?_
      refine jj_iload_n C dX10_holding_16 rfl ?_
      obtain ⟨qc, gs, hqc⟩ := tt_recv (cx := []) hok_15 ka_28 (by decide) rfl
      refine tt_callV (rest := []) C (tc_X0_unitsHeldIn_1 hl D cA ak a_28 p1 p2 ka_28 hok_15) [] [] rfl rfl (by decide) (by decide) (by decide) qc hqc rfl rfl jw_340dc249df jw_44053edb24 jw_82fd26a6fd jw_7d25d4fd32 jw_f5d838650a jn_X0_unitsHeldIn rfl (jj_le rfl) (jj_le rfl) (jj_le rfl) (jj_le rfl) (jj_le rfl) dX10_holding_17 rfl (fun _ _ _ hX => hX.elim) (fun rx pl_29 r O_32 => ?_)
      obtain ⟨rfl, hok_30, hr_31, hfa9, hR_34⟩ := O_32
      replace hf_27 := hr_31.at hk0 (by decide) (by decide) hf_27
      replace hfr := hfr.trans (hr_31.sub (by decide))
      replace hfa := hfa.trans (hfa9.sub (by decide))
      obtain ⟨y_37, rfl⟩ := hR_34
      exact jj_lret C ⟨[], pl_29, rfl, rfl, hok_30, hfr, hfa, ⟨y_37, (by first | omega | exact tt_lo _ | exact tt_hi _), (by first | omega | exact tt_lo _ | exact tt_hi _), rfl⟩⟩ dX10_holding_20 (jj_le rfl) (jj_le rfl)

set_option maxHeartbeats 4000000 in
set_option maxRecDepth 100000 in
theorem tc_X10_lot_1 {l : Launch} (hl : l.stackTraces = false) (D : va_G) (cA : Nat → ClassId) (ak : (Nat → Nat) × (Nat → Nat)) {Kd : Nat → Nat} (h0 : Nat) (p1 : Int32) (p2 : Int32) (hk0 : Kd h0 = 15) {pl0 : va_W} (hok : tt_ok tt_tk cA Kd pl0) : jj_M l D cA ak yX10_lot (.code yX10_lot cX10_lot 4 (some .long)) 6 82 1 6 ([] ++ pl0) [.ref h0, .int p1, .int p2] (tt_O (fun rx pl1 r => rx = [] ∧ tt_ok tt_tk cA Kd pl1 ∧ tt_fr Kd [] pl0 pl1 ∧ tt_fa Kd [] pl0 pl1 ∧ ((∃ v : Int64, (0 : Int) ≤ p1.toInt ∧ p1.toInt ≤ 39 ∧ r = some (.long v))))) (tt_OX (fun E rx pl1 => rx = [] ∧ tt_ok tt_tk cA Kd pl1 ∧ tt_fr Kd [] pl0 pl1 ∧ tt_fa Kd [] pl0 pl1 ∧ (E = "java/lang/IllegalArgumentException" ∨ E = "java/lang/IndexOutOfBoundsException"))) := by
  refine jj_start hl (by decide) jw_dd46fce54b (jj_le rfl) ?_
  intro p e s m args below meth c A hargs hA C hex hmn
  have hfr := tt_fr.refl (K := Kd) (WS := []) pl0
  have hfa := tt_fa.refl (K := Kd) (WA := []) pl0
  have lp1 := tt_lo p1
  have up1 := tt_hi p1
  have lp2 := tt_lo p2
  have up2 := tt_hi p2
  refine jj_iload_n C dX10_lot_0 rfl ?_
  refine jj_if_lt (tgt := 15) C dX10_lot_1 (by decide) (fun c_1 => ?_) (fun c_1 => ?_)
  · have z_c_1 := jc_lt (a := (p1).toInt) (b := (0)) c_1 rfl (by decide)
    exact jj_throwW (k := 46) (text := "no such lot") C jt_RX10_200 jw_290c9469a0 (by decide +kernel) dX10_lot_15 dX10_lot_18 dX10_lot_19 dX10_lot_22 dX10_lot_25 hex (jj_le rfl) (jj_le rfl) (jj_le rfl) (jj_le rfl) ⟨[], pl0, rfl, rfl, hok, hfr, hfa, (Or.inr rfl)⟩ (jj_le rfl) (jj_le rfl)
  · have z_c_1 := jc_nlt (a := (p1).toInt) (b := (0)) c_1 rfl (by decide)
    refine jj_iload_n C dX10_lot_4 rfl ?_
    refine jj_aload_n C dX10_lot_5 rfl ?_
    refine tt_get C hok jk_11 3 (by decide) jw_f82a97e333 (t := (2, 1, 0)) hk0 (by decide) rfl rfl dX10_lot_6 (fun v_2 hv_2 hf_3 => ?_)
    obtain ⟨a_4, rfl, ka_4⟩ := tt_vr hv_2
    refine tt_get C hok jk_2 8 (by decide) jw_e8db4e7185 (t := (0, 0, 40)) ka_4 (by decide) rfl rfl dX10_lot_9 (fun v_5 hv_5 hf_6 => ?_)
    obtain ⟨x_7, rfl, lx_7, ux_7⟩ := tt_vi hv_5
    refine jj_icmp_lt (tgt := 26) C dX10_lot_12 (by decide) (fun c_8 => ?_) (fun c_8 => ?_)
    · have z_c_8 := jc_lt (a := (p1).toInt) (b := (x_7).toInt) c_8 rfl rfl
      refine jj_aload_n C dX10_lot_26 rfl ?_
      refine tt_getF C hok jk_11 3 (by decide) jw_f82a97e333 (t := (2, 1, 0)) hk0 (by decide) rfl rfl hf_3 dX10_lot_27 ?_
      refine tt_get C hok jk_2 12 (by decide) jw_698e2e28c6 (t := (2, 7, 0)) ka_4 (by decide) rfl rfl dX10_lot_30 (fun v_9 hv_9 hf_10 => ?_)
      obtain ⟨a_11, rfl, ka_11⟩ := tt_vr hv_9
      refine jj_iload_n C dX10_lot_33 rfl ?_
      refine tt_aald C hok (t := (2, 3, 0)) ka_11 (by decide) rfl rfl rfl (vp_in_iff.mpr ⟨by omega, by omega⟩) dX10_lot_34 (fun v_12 hv_12 => ?_)
      obtain ⟨a_13, rfl, ka_13⟩ := tt_vr hv_12
      refine jj_astore_n C dX10_lot_35 (by decide) rfl ?_
      refine jj_iload_n C dX10_lot_36 rfl ?_
      rcases jj_em (p2 = 0) with c_14 | c_14
      · refine jj_tableIn (tgt := 76) C dX10_lot_37 (by rw [c_14]; decide) (by rw [c_14]; decide) (by rw [c_14]; rfl) (by decide) ?_
        refine jj_aload_n C dX10_lot_76 rfl ?_
        refine tt_get C hok jk_5 0 (by decide) jw_0de5e97919 (t := (0, (-2147483648), 2147483647)) ka_13 (by decide) rfl rfl dX10_lot_77 (fun v_15 hv_15 hf_16 => ?_)
        obtain ⟨x_17, rfl, lx_17, ux_17⟩ := tt_vi hv_15
        obtain ⟨y_18, ey_18, vy_18⟩ := tt_i2l x_17
        refine jj_i2l (v := y_18) C dX10_lot_80 ey_18 ?_
        exact jj_lret C ⟨[], pl0, rfl, rfl, hok, hfr, hfa, ⟨y_18, (by first | omega | exact tt_lo _ | exact tt_hi _), (by first | omega | exact tt_lo _ | exact tt_hi _), rfl⟩⟩ dX10_lot_81 (jj_le rfl) (jj_le rfl)
      rcases jj_em (p2 = 1) with c_19 | c_19
      · refine jj_tableIn (tgt := 82) C dX10_lot_37 (by rw [c_19]; decide) (by rw [c_19]; decide) (by rw [c_19]; rfl) (by decide) ?_
        refine jj_aload_n C dX10_lot_82 rfl ?_
        refine tt_get C hok jk_5 1 (by decide) jw_a18fd9fd43 (t := (0, (-2147483648), 2147483647)) ka_13 (by decide) rfl rfl dX10_lot_83 (fun v_20 hv_20 hf_21 => ?_)
        obtain ⟨x_22, rfl, lx_22, ux_22⟩ := tt_vi hv_20
        obtain ⟨y_23, ey_23, vy_23⟩ := tt_i2l x_22
        refine jj_i2l (v := y_23) C dX10_lot_86 ey_23 ?_
        exact jj_lret C ⟨[], pl0, rfl, rfl, hok, hfr, hfa, ⟨y_23, (by first | omega | exact tt_lo _ | exact tt_hi _), (by first | omega | exact tt_lo _ | exact tt_hi _), rfl⟩⟩ dX10_lot_87 (jj_le rfl) (jj_le rfl)
      rcases jj_em (p2 = 2) with c_24 | c_24
      · refine jj_tableIn (tgt := 88) C dX10_lot_37 (by rw [c_24]; decide) (by rw [c_24]; decide) (by rw [c_24]; rfl) (by decide) ?_
        refine jj_aload_n C dX10_lot_88 rfl ?_
        refine tt_get C hok jk_5 3 (by decide) jw_7f3a16fee1 (t := (1, (-9223372036854775808), 9223372036854775807)) ka_13 (by decide) rfl rfl dX10_lot_89 (fun v_25 hv_25 hf_26 => ?_)
        obtain ⟨y_27, rfl, -, -⟩ := tt_vj hv_25
        exact jj_lret C ⟨[], pl0, rfl, rfl, hok, hfr, hfa, ⟨y_27, (by first | omega | exact tt_lo _ | exact tt_hi _), (by first | omega | exact tt_lo _ | exact tt_hi _), rfl⟩⟩ dX10_lot_92 (jj_le rfl) (jj_le rfl)
      rcases jj_em (p2 = 3) with c_28 | c_28
      · refine jj_tableIn (tgt := 93) C dX10_lot_37 (by rw [c_28]; decide) (by rw [c_28]; decide) (by rw [c_28]; rfl) (by decide) ?_
        refine jj_aload_n C dX10_lot_93 rfl ?_
        refine tt_get C hok jk_5 4 (by decide) jw_4e4c523248 (t := (1, (-9223372036854775808), 9223372036854775807)) ka_13 (by decide) rfl rfl dX10_lot_94 (fun v_29 hv_29 hf_30 => ?_)
        obtain ⟨y_31, rfl, -, -⟩ := tt_vj hv_29
        exact jj_lret C ⟨[], pl0, rfl, rfl, hok, hfr, hfa, ⟨y_31, (by first | omega | exact tt_lo _ | exact tt_hi _), (by first | omega | exact tt_lo _ | exact tt_hi _), rfl⟩⟩ dX10_lot_97 (jj_le rfl) (jj_le rfl)
      rcases jj_em (p2 = 4) with c_32 | c_32
      · refine jj_tableIn (tgt := 98) C dX10_lot_37 (by rw [c_32]; decide) (by rw [c_32]; decide) (by rw [c_32]; rfl) (by decide) ?_
        refine jj_aload_n C dX10_lot_98 rfl ?_
        refine tt_get C hok jk_5 5 (by decide) jw_82f58a213c (t := (1, (-9223372036854775808), 9223372036854775807)) ka_13 (by decide) rfl rfl dX10_lot_99 (fun v_33 hv_33 hf_34 => ?_)
        obtain ⟨y_35, rfl, -, -⟩ := tt_vj hv_33
        exact jj_lret C ⟨[], pl0, rfl, rfl, hok, hfr, hfa, ⟨y_35, (by first | omega | exact tt_lo _ | exact tt_hi _), (by first | omega | exact tt_lo _ | exact tt_hi _), rfl⟩⟩ dX10_lot_102 (jj_le rfl) (jj_le rfl)
      rcases jj_em (p2 = 5) with c_36 | c_36
      · refine jj_tableIn (tgt := 103) C dX10_lot_37 (by rw [c_36]; decide) (by rw [c_36]; decide) (by rw [c_36]; rfl) (by decide) ?_
        refine jj_aload_n C dX10_lot_103 rfl ?_
        refine tt_get C hok jk_5 2 (by decide) jw_b279b40b2b (t := (0, (-2147483648), 2147483647)) ka_13 (by decide) rfl rfl dX10_lot_104 (fun v_37 hv_37 hf_38 => ?_)
        obtain ⟨x_39, rfl, lx_39, ux_39⟩ := tt_vi hv_37
        obtain ⟨y_40, ey_40, vy_40⟩ := tt_i2l x_39
        refine jj_i2l (v := y_40) C dX10_lot_107 ey_40 ?_
        exact jj_lret C ⟨[], pl0, rfl, rfl, hok, hfr, hfa, ⟨y_40, (by first | omega | exact tt_lo _ | exact tt_hi _), (by first | omega | exact tt_lo _ | exact tt_hi _), rfl⟩⟩ dX10_lot_108 (jj_le rfl) (jj_le rfl)
      refine jj_tableOut (tgt := 109) C dX10_lot_37 (by have zc_14 := lv_neT (a := 0) c_14 (by decide); have zc_19 := lv_neT (a := 1) c_19 (by decide); have zc_24 := lv_neT (a := 2) c_24 (by decide); have zc_28 := lv_neT (a := 3) c_28 (by decide); have zc_32 := lv_neT (a := 4) c_32 (by decide); have zc_36 := lv_neT (a := 5) c_36 (by decide); omega) (by decide) ?_
      exact jj_throwW (k := 45) (text := "no such value") C jt_RX10_75 jw_0e6c957e85 (by decide +kernel) dX10_lot_109 dX10_lot_112 dX10_lot_113 dX10_lot_116 dX10_lot_119 hex (jj_le rfl) (jj_le rfl) (jj_le rfl) (jj_le rfl) ⟨[], pl0, rfl, rfl, hok, hfr, hfa, (Or.inl rfl)⟩ (jj_le rfl) (jj_le rfl)
    · have z_c_8 := jc_nlt (a := (p1).toInt) (b := (x_7).toInt) c_8 rfl rfl
      exact jj_throwW (k := 46) (text := "no such lot") C jt_RX10_200 jw_290c9469a0 (by decide +kernel) dX10_lot_15 dX10_lot_18 dX10_lot_19 dX10_lot_22 dX10_lot_25 hex (jj_le rfl) (jj_le rfl) (jj_le rfl) (jj_le rfl) ⟨[], pl0, rfl, rfl, hok, hfr, hfa, (Or.inr rfl)⟩ (jj_le rfl) (jj_le rfl)

set_option maxHeartbeats 4000000 in
set_option maxRecDepth 100000 in
theorem tc_X10_openSeries_1 {l : Launch} (hl : l.stackTraces = false) (D : va_G) (cA : Nat → ClassId) (ak : (Nat → Nat) × (Nat → Nat)) {Kd : Nat → Nat} (h0 : Nat) (p1 : Int32) (hk0 : Kd h0 = 15) {pl0 : va_W} (hok : tt_ok tt_tk cA Kd pl0) : jj_M l D cA ak yX10_openSeries (.code yX10_openSeries cX10_openSeries 2 (some .int)) 6 82 1 6 ([] ++ pl0) [.ref h0, .int p1] (tt_O (fun rx pl1 r => rx = [] ∧ tt_ok tt_tk cA Kd pl1 ∧ tt_fr Kd [] pl0 pl1 ∧ tt_fa Kd [] pl0 pl1 ∧ ((∃ v : Int32, (-2147483648 : Int) ≤ v.toInt ∧ v.toInt ≤ 2147483647 ∧ (0 : Int) ≤ p1.toInt ∧ p1.toInt ≤ 5 ∧ r = some (.int v))))) (tt_OX (fun E rx pl1 => rx = [] ∧ tt_ok tt_tk cA Kd pl1 ∧ tt_fr Kd [] pl0 pl1 ∧ tt_fa Kd [] pl0 pl1 ∧ (E = "java/lang/IndexOutOfBoundsException"))) := by
  refine jj_start hl (by decide) jw_7e16982f09 (jj_le rfl) ?_
  intro p e s m args below meth c A hargs hA C hex hmn
  have hfr := tt_fr.refl (K := Kd) (WS := []) pl0
  have hfa := tt_fa.refl (K := Kd) (WA := []) pl0
  have lp1 := tt_lo p1
  have up1 := tt_hi p1
  refine jj_iload_n C dX10_openSeries_0 rfl ?_
  refine jj_if_lt (tgt := 15) C dX10_openSeries_1 (by decide) (fun c_1 => ?_) (fun c_1 => ?_)
  · have z_c_1 := jc_lt (a := (p1).toInt) (b := (0)) c_1 rfl (by decide)
    exact jj_throw (k := 44) (text := "no such index") C jt_RX10_200 jw_290c9469a0 (by decide +kernel) dX10_openSeries_15 dX10_openSeries_18 dX10_openSeries_19 dX10_openSeries_21 dX10_openSeries_24 hex (jj_le rfl) (jj_le rfl) (jj_le rfl) (jj_le rfl) ⟨[], pl0, rfl, rfl, hok, hfr, hfa, rfl⟩ (jj_le rfl) (jj_le rfl)
  · have z_c_1 := jc_nlt (a := (p1).toInt) (b := (0)) c_1 rfl (by decide)
    refine jj_iload_n C dX10_openSeries_4 rfl ?_
    refine jj_aload_n C dX10_openSeries_5 rfl ?_
    refine tt_get C hok jk_11 3 (by decide) jw_f82a97e333 (t := (2, 1, 0)) hk0 (by decide) rfl rfl dX10_openSeries_6 (fun v_2 hv_2 hf_3 => ?_)
    obtain ⟨a_4, rfl, ka_4⟩ := tt_vr hv_2
    refine tt_get C hok jk_2 7 (by decide) jw_cf775c5646 (t := (0, 0, 6)) ka_4 (by decide) rfl rfl dX10_openSeries_9 (fun v_5 hv_5 hf_6 => ?_)
    obtain ⟨x_7, rfl, lx_7, ux_7⟩ := tt_vi hv_5
    refine jj_icmp_lt (tgt := 25) C dX10_openSeries_12 (by decide) (fun c_8 => ?_) (fun c_8 => ?_)
    · have z_c_8 := jc_lt (a := (p1).toInt) (b := (x_7).toInt) c_8 rfl rfl
      refine jj_aload_n C dX10_openSeries_25 rfl ?_
      refine tt_getF C hok jk_11 3 (by decide) jw_f82a97e333 (t := (2, 1, 0)) hk0 (by decide) rfl rfl hf_3 dX10_openSeries_26 ?_
      refine tt_get C hok jk_2 11 (by decide) jw_5e6427264b (t := (2, 6, 0)) ka_4 (by decide) rfl rfl dX10_openSeries_29 (fun v_9 hv_9 hf_10 => ?_)
      obtain ⟨a_11, rfl, ka_11⟩ := tt_vr hv_9
      refine jj_iload_n C dX10_openSeries_32 rfl ?_
      refine tt_aald C hok (t := (2, 2, 0)) ka_11 (by decide) rfl rfl rfl (vp_in_iff.mpr ⟨by omega, by omega⟩) dX10_openSeries_33 (fun v_12 hv_12 => ?_)
      obtain ⟨a_13, rfl, ka_13⟩ := tt_vr hv_12
      refine tt_get C hok jk_9 0 (by decide) jw_d122cf007d (t := (0, (-2147483648), 2147483647)) ka_13 (by decide) rfl rfl dX10_openSeries_34 (fun v_14 hv_14 hf_15 => ?_)
      obtain ⟨x_16, rfl, lx_16, ux_16⟩ := tt_vi hv_14
      exact jj_iret C ⟨[], pl0, rfl, rfl, hok, hfr, hfa, ⟨x_16, (by first | omega | exact tt_lo _ | exact tt_hi _), (by first | omega | exact tt_lo _ | exact tt_hi _), (by first | omega | exact tt_lo _ | exact tt_hi _), (by first | omega | exact tt_lo _ | exact tt_hi _), rfl⟩⟩ dX10_openSeries_37 (jj_le rfl) (jj_le rfl)
    · have z_c_8 := jc_nlt (a := (p1).toInt) (b := (x_7).toInt) c_8 rfl rfl
      exact jj_throw (k := 44) (text := "no such index") C jt_RX10_200 jw_290c9469a0 (by decide +kernel) dX10_openSeries_15 dX10_openSeries_18 dX10_openSeries_19 dX10_openSeries_21 dX10_openSeries_24 hex (jj_le rfl) (jj_le rfl) (jj_le rfl) (jj_le rfl) ⟨[], pl0, rfl, rfl, hok, hfr, hfa, rfl⟩ (jj_le rfl) (jj_le rfl)

set_option maxHeartbeats 4000000 in
set_option maxRecDepth 100000 in
theorem tc_X2_passingFault_1 {l : Launch} (hl : l.stackTraces = false) (D : va_G) (cA : Nat → ClassId) (ak : (Nat → Nat) × (Nat → Nat)) {Kd : Nat → Nat} (p0 : Int32) {pl0 : va_W} (hok : tt_ok tt_tk cA Kd pl0) : jj_M l D cA ak yX2_passingFault (.code yX2_passingFault cX2_passingFault 1 (some .int)) 0 0 0 0 ([] ++ pl0) [.int p0] (tt_O (fun rx pl1 r => rx = [] ∧ tt_ok tt_tk cA Kd pl1 ∧ tt_fr Kd [] pl0 pl1 ∧ tt_fa Kd [] pl0 pl1 ∧ ((r = some (.int 2)) ∨ ((1 : Int) ≤ p0.toInt ∧ p0.toInt ≤ 400 ∧ r = some (.int 0))))) (tt_OX (fun _ _ _ => False)) := by
  refine jj_start hl (by decide) jw_a8c5e8379d (jj_le rfl) ?_
  intro p e s m args below meth c A hargs hA C hex hmn
  have hfr := tt_fr.refl (K := Kd) (WS := []) pl0
  have hfa := tt_fa.refl (K := Kd) (WA := []) pl0
  have lp0 := tt_lo p0
  have up0 := tt_hi p0
  refine jj_iload_n C dX2_passingFault_0 rfl ?_
  refine jj_iconst (v := 1) C dX2_passingFault_1 (by decide) ?_
  refine jj_icmp_lt (tgt := 12) C dX2_passingFault_2 (by decide) (fun c_1 => ?_) (fun c_1 => ?_)
  · have z_c_1 := jc_lt (a := (p0).toInt) (b := (1)) c_1 rfl (by decide)
    refine jj_iconst (v := 2) C dX2_passingFault_12 (by decide) ?_
    refine jj_goto (tgt := 17) C dX2_passingFault_13 (by decide) ?_
    exact jj_iret C ⟨[], pl0, rfl, rfl, hok, hfr, hfa, (Or.inl rfl)⟩ dX2_passingFault_17 (jj_le rfl) (jj_le rfl)
  · have z_c_1 := jc_nlt (a := (p0).toInt) (b := (1)) c_1 rfl (by decide)
    refine jj_iload_n C dX2_passingFault_5 rfl ?_
    refine jj_sipush (v := 400) C dX2_passingFault_6 (by decide) ?_
    refine jj_icmp_le (tgt := 16) C dX2_passingFault_9 (by decide) (fun c_2 => ?_) (fun c_2 => ?_)
    · have z_c_2 := jc_le (a := (p0).toInt) (b := (400)) c_2 rfl (by decide)
      refine jj_iconst (v := 0) C dX2_passingFault_16 (by decide) ?_
      exact jj_iret C ⟨[], pl0, rfl, rfl, hok, hfr, hfa, (Or.inr ⟨(by first | omega | exact tt_lo _ | exact tt_hi _), (by first | omega | exact tt_lo _ | exact tt_hi _), rfl⟩)⟩ dX2_passingFault_17 (jj_le rfl) (jj_le rfl)
    · have z_c_2 := jc_nle (a := (p0).toInt) (b := (400)) c_2 rfl (by decide)
      refine jj_iconst (v := 2) C dX2_passingFault_12 (by decide) ?_
      refine jj_goto (tgt := 17) C dX2_passingFault_13 (by decide) ?_
      exact jj_iret C ⟨[], pl0, rfl, rfl, hok, hfr, hfa, (Or.inl rfl)⟩ dX2_passingFault_17 (jj_le rfl) (jj_le rfl)

set_option maxHeartbeats 4000000 in
set_option maxRecDepth 100000 in
theorem tc_X2_chargeDays_2 {l : Launch} (hl : l.stackTraces = false) (D : va_G) (cA : Nat → ClassId) (ak : (Nat → Nat) × (Nat → Nat)) {Kd : Nat → Nat} (h0 : Nat) (p1 : Int32) (hk0 : Kd h0 = 1) (lp1 : (1 : Int) ≤ p1.toInt) (up1 : p1.toInt ≤ 400) {pl0 : va_W} (hok : tt_ok tt_tk cA Kd pl0) : jj_M l D cA ak yX2_chargeDays (.code yX2_chargeDays cX2_chargeDays 8 (some .long)) 0 0 0 0 ([] ++ pl0) [.ref h0, .int p1] (tt_O (fun rx pl1 r => rx = [] ∧ tt_ok tt_tk cA Kd pl1 ∧ tt_fr Kd [(1, 5), (2, 2)] pl0 pl1 ∧ tt_fa Kd [5] pl0 pl1 ∧ ((∃ v : Int64, r = some (.long v))))) (tt_OX (fun _ _ _ => False)) := by
  refine jj_start hl (by decide) jw_5ec919523f (jj_le rfl) ?_
  intro p e s m args below meth c A hargs hA C hex hmn
  have hfr := tt_fr.refl (K := Kd) (WS := [(1, 5), (2, 2)]) pl0
  have hfa := tt_fa.refl (K := Kd) (WA := [5]) pl0
  refine jj_lconst (v := 0) C dX2_chargeDays_0 (by decide) ?_
  refine jj_lstore_n C dX2_chargeDays_1 (by decide) rfl ?_
  refine jj_iconst (v := 0) C dX2_chargeDays_2 (by decide) ?_
  refine jj_istore C dX2_chargeDays_3 (by decide) rfl ?_
  have hL_1 : ∀ (N : Nat) (pl : va_W) (x_2 : Int32) (y_3 : Int64), True → tt_ok tt_tk cA Kd pl → tt_fr Kd [(1, 5), (2, 2)] pl0 pl → tt_fa Kd [5] pl0 pl → (0 : Int) ≤ x_2.toInt → x_2.toInt ≤ 400 → (2147483648 - x_2.toInt ≤ (N : Int)) → jj_J p l e (jj_rm 0 0 0 0) s m args below meth c 8 A (vx_MQ below (jj_q D A (tt_O (fun rx pl1 r => rx = [] ∧ tt_ok tt_tk cA Kd pl1 ∧ tt_fr Kd [(1, 5), (2, 2)] pl0 pl1 ∧ tt_fa Kd [5] pl0 pl1 ∧ ((∃ v : Int64, r = some (.long v)))))) (jj_x D A (tt_OX (fun _ _ _ => False))) args s 0 0 A) (jj_X D A ([] ++ pl)) 0 0 5 [(4, .int x_2), (2, .long y_3), (0, .ref h0), (1, .int p1)] [] := by
    intro NL_1
    induction NL_1 with
    | zero => intro pl x_2 y_3 _ hok hfr hfa lx_2 ux_2 hNL_1; exfalso; omega
    | succ NL_1 ihL_1 =>
      intro pl x_2 y_3 _ hok hfr hfa lx_2 ux_2 hNL_1
      replace ihL_1 := fun pl x_2 y_3 h1 => ihL_1 pl x_2 y_3 trivial h1
      refine jj_iload C dX2_chargeDays_5 rfl ?_
      refine jj_iload_n C dX2_chargeDays_7 rfl ?_
      refine jj_icmp_ge (tgt := 89) C dX2_chargeDays_8 (by decide) (fun c_4 => ?_) (fun c_4 => ?_)
      · have z_c_4 := jc_le (a := (p1).toInt) (b := (x_2).toInt) c_4 rfl rfl
        refine jj_aload_n C dX2_chargeDays_89 rfl ?_
        refine tt_get C hok jk_2 10 (by decide) jw_d4020bdca8 (t := (2, 5, 0)) hk0 (by decide) rfl rfl dX2_chargeDays_90 (fun v_5 hv_5 hf_6 => ?_)
        obtain ⟨a_7, rfl, ka_7⟩ := tt_vr hv_5
        refine jj_iconst (v := 0) C dX2_chargeDays_93 (by decide) ?_
        refine jj_dup2 C dX2_chargeDays_94 rfl rfl ?_
        refine tt_lald C hok (t := (1, (-9223372036854775808), 9223372036854775807)) ka_7 (by decide) rfl (vp_in_iff.mpr (by decide)) dX2_chargeDays_95 (fun v_8 hv_8 => ?_)
        refine jj_lload_n C dX2_chargeDays_96 rfl ?_
        obtain ⟨y_9, ey_9⟩ : ∃ z : Int64, v_8 + y_3 = z := ⟨_, rfl⟩
        refine jj_ladd (v := y_9) C dX2_chargeDays_97 ey_9 ?_
        refine tl_last C hok (t := (1, (-9223372036854775808), 9223372036854775807)) ka_7 (by decide) rfl (vp_in_iff.mpr (by decide)) (tt_ja _) dX2_chargeDays_98 (fun pl_10 hok_11 tr tl => ?_)
        replace hf_6 := tr _ _ _ hf_6
        replace hfr := hfr.arr tr
        replace hfa := hfa.wr ka_7 tl (by decide)
        refine jj_aload_n C dX2_chargeDays_99 rfl ?_
        refine tt_getF C hok_11 jk_2 10 (by decide) jw_d4020bdca8 (t := (2, 5, 0)) hk0 (by decide) rfl rfl hf_6 dX2_chargeDays_100 ?_
        refine jj_iconst (v := 5) C dX2_chargeDays_103 (by decide) ?_
        refine jj_dup2 C dX2_chargeDays_104 rfl rfl ?_
        refine tt_lald C hok_11 (t := (1, (-9223372036854775808), 9223372036854775807)) ka_7 (by decide) rfl (vp_in_iff.mpr (by decide)) dX2_chargeDays_105 (fun v_12 hv_12 => ?_)
        refine jj_lload_n C dX2_chargeDays_106 rfl ?_
        obtain ⟨y_13, ey_13⟩ : ∃ z : Int64, v_12 + y_3 = z := ⟨_, rfl⟩
        refine jj_ladd (v := y_13) C dX2_chargeDays_107 ey_13 ?_
        refine tl_last C hok_11 (t := (1, (-9223372036854775808), 9223372036854775807)) ka_7 (by decide) rfl (vp_in_iff.mpr (by decide)) (tt_ja _) dX2_chargeDays_108 (fun pl_14 hok_15 tr tl => ?_)
        replace hf_6 := tr _ _ _ hf_6
        replace hfr := hfr.arr tr
        replace hfa := hfa.wr ka_7 tl (by decide)
        refine jj_lload_n C dX2_chargeDays_109 rfl ?_
        exact jj_lret C ⟨[], pl_14, rfl, rfl, hok_15, hfr, hfa, ⟨y_3, rfl⟩⟩ dX2_chargeDays_110 (jj_le rfl) (jj_le rfl)
      · have z_c_4 := jc_nle (a := (p1).toInt) (b := (x_2).toInt) c_4 rfl rfl
        refine jj_iconst (v := 0) C dX2_chargeDays_11 (by decide) ?_
        refine jj_istore C dX2_chargeDays_12 (by decide) rfl ?_
        have hL_16 : ∀ (N : Nat) (pl : va_W) (x_17 : Int32) (y_18 : Int64), True → tt_ok tt_tk cA Kd pl → tt_fr Kd [(1, 5), (2, 2)] pl0 pl → tt_fa Kd [5] pl0 pl → (0 : Int) ≤ x_17.toInt → x_17.toInt ≤ 6 → (2147483648 - x_17.toInt ≤ (N : Int)) → jj_J p l e (jj_rm 0 0 0 0) s m args below meth c 8 A (vx_MQ below (jj_q D A (tt_O (fun rx pl1 r => rx = [] ∧ tt_ok tt_tk cA Kd pl1 ∧ tt_fr Kd [(1, 5), (2, 2)] pl0 pl1 ∧ tt_fa Kd [5] pl0 pl1 ∧ ((∃ v : Int64, r = some (.long v)))))) (jj_x D A (tt_OX (fun _ _ _ => False))) args s 0 0 A) (jj_X D A ([] ++ pl)) 0 0 14 [(5, .int x_17), (4, .int x_2), (2, .long y_18), (0, .ref h0), (1, .int p1)] [] := by
          intro NL_16
          induction NL_16 with
          | zero => intro pl x_17 y_18 _ hok hfr hfa lx_17 ux_17 hNL_16; exfalso; omega
          | succ NL_16 ihL_16 =>
            intro pl x_17 y_18 _ hok hfr hfa lx_17 ux_17 hNL_16
            replace ihL_16 := fun pl x_17 y_18 h1 => ihL_16 pl x_17 y_18 trivial h1
            refine jj_iload C dX2_chargeDays_14 rfl ?_
            refine jj_aload_n C dX2_chargeDays_16 rfl ?_
            refine tt_get C hok jk_2 7 (by decide) jw_fcf7ccfd1e (t := (0, 0, 6)) hk0 (by decide) rfl rfl dX2_chargeDays_17 (fun v_19 hv_19 hf_20 => ?_)
            obtain ⟨x_21, rfl, lx_21, ux_21⟩ := tt_vi hv_19
            refine jj_icmp_ge (tgt := 73) C dX2_chargeDays_20 (by decide) (fun c_22 => ?_) (fun c_22 => ?_)
            · have z_c_22 := jc_le (a := (x_21).toInt) (b := (x_17).toInt) c_22 rfl rfl
              refine jj_aload_n C dX2_chargeDays_73 rfl ?_
              refine jj_dup C dX2_chargeDays_74 rfl ?_
              refine tt_get C hok jk_2 5 (by decide) jw_f6870f6593 (t := (0, (-2147483648), 2147483647)) hk0 (by decide) rfl rfl dX2_chargeDays_75 (fun v_23 hv_23 hf_24 => ?_)
              obtain ⟨x_25, rfl, lx_25, ux_25⟩ := tt_vi hv_23
              refine jj_iconst (v := 1) C dX2_chargeDays_78 (by decide) ?_
              obtain ⟨x_26, ex_26⟩ : ∃ z : Int32, x_25 + (1 : Int32) = z := ⟨_, rfl⟩
              refine jj_iadd (v := x_26) C dX2_chargeDays_79 ex_26 ?_
              refine rl_put C hok jk_2 5 (by decide) jw_f6870f6593 (t := (0, (-2147483648), 2147483647)) hk0 (by decide) rfl rfl rfl (tt_ia x_26) rfl rfl dX2_chargeDays_80 (fun pl_27 hok_28 tr hn tl => ?_)
              replace hf_20 := tr _ _ _ (Or.inr (by decide)) hf_20
              have hf_29 := hn
              replace hfr := hfr.put hk0 tr (by decide)
              replace hfa := hfa.all tl
              obtain ⟨x_30, ex_30, vx_30⟩ := tt_inc (x := x_2) (n := 1) (by omega) (by omega)
              refine jj_iinc (v := x_30) C dX2_chargeDays_83 rfl ex_30 (by decide) rfl ?_
              refine jj_goto (tgt := 5) C dX2_chargeDays_86 (by decide) ?_
              refine jj_loc [0, 2, 3, 4] rfl ?_
              exact ihL_1 pl_27 x_30 y_18 hok_28 hfr hfa (by first | omega | decide | exact tt_lo _ | exact tt_hi _) (by first | omega | decide | exact tt_lo _ | exact tt_hi _) (by first | omega | decide | exact tt_lo _ | exact tt_hi _)
            · have z_c_22 := jc_nle (a := (x_21).toInt) (b := (x_17).toInt) c_22 rfl rfl
              refine jj_aload_n C dX2_chargeDays_23 rfl ?_
              refine tt_get C hok jk_2 11 (by decide) jw_2bd072191f (t := (2, 6, 0)) hk0 (by decide) rfl rfl dX2_chargeDays_24 (fun v_31 hv_31 hf_32 => ?_)
              obtain ⟨a_33, rfl, ka_33⟩ := tt_vr hv_31
              refine jj_iload C dX2_chargeDays_27 rfl ?_
              refine tt_aald C hok (t := (2, 2, 0)) ka_33 (by decide) rfl rfl rfl (vp_in_iff.mpr ⟨by omega, by omega⟩) dX2_chargeDays_29 (fun v_34 hv_34 => ?_)
              obtain ⟨a_35, rfl, ka_35⟩ := tt_vr hv_34
              refine tt_get C hok jk_9 2 (by decide) jw_5719898240 (t := (1, (-9223372036854775808), 9223372036854775807)) ka_35 (by decide) rfl rfl dX2_chargeDays_30 (fun v_36 hv_36 hf_37 => ?_)
              obtain ⟨y_38, rfl, -, -⟩ := tt_vj hv_36
              refine jj_aload_n C dX2_chargeDays_33 rfl ?_
              refine tt_get C hok jk_2 2 (by decide) jw_5b16254c28 (t := (0, (-2147483648), 2147483647)) hk0 (by decide) rfl rfl dX2_chargeDays_34 (fun v_39 hv_39 hf_40 => ?_)
              obtain ⟨x_41, rfl, lx_41, ux_41⟩ := tt_vi hv_39
              obtain ⟨y_42, ey_42, vy_42⟩ := tt_i2l x_41
              refine jj_i2l (v := y_42) C dX2_chargeDays_37 ey_42 ?_
              obtain ⟨y_43, ey_43⟩ : ∃ z : Int64, y_38 * y_42 = z := ⟨_, rfl⟩
              refine jj_lmul (v := y_43) C dX2_chargeDays_38 ey_43 ?_
              refine jj_ldc2 (v := 3650000) C dX2_chargeDays_39 jw_98ea58c985 ?_
              obtain ⟨y_44, ey_44⟩ : ∃ z : Int64, y_43 / (3650000 : Int64) = z := ⟨_, rfl⟩
              refine jj_ldiv (v := y_44) C dX2_chargeDays_42 (by decide) ey_44 ?_
              refine jj_lstore C dX2_chargeDays_43 (by decide) rfl ?_
              refine jj_aload_n C dX2_chargeDays_45 rfl ?_
              refine tt_getF C hok jk_2 11 (by decide) jw_2bd072191f (t := (2, 6, 0)) hk0 (by decide) rfl rfl hf_32 dX2_chargeDays_46 ?_
              refine jj_iload C dX2_chargeDays_49 rfl ?_
              refine tt_aald C hok (t := (2, 2, 0)) ka_33 (by decide) rfl rfl rfl (vp_in_iff.mpr ⟨by omega, by omega⟩) dX2_chargeDays_51 (fun v_45 hv_45 => ?_)
              obtain ⟨a_46, rfl, ka_46⟩ := tt_vr hv_45
              refine jj_dup C dX2_chargeDays_52 rfl ?_
              refine tt_get C hok jk_9 2 (by decide) jw_5719898240 (t := (1, (-9223372036854775808), 9223372036854775807)) ka_46 (by decide) rfl rfl dX2_chargeDays_53 (fun v_47 hv_47 hf_48 => ?_)
              obtain ⟨y_49, rfl, -, -⟩ := tt_vj hv_47
              refine jj_lload C dX2_chargeDays_56 rfl ?_
              obtain ⟨y_50, ey_50⟩ : ∃ z : Int64, y_49 - y_44 = z := ⟨_, rfl⟩
              refine jj_lsub (v := y_50) C dX2_chargeDays_58 ey_50 ?_
              refine rl_put C hok jk_9 2 (by decide) jw_5719898240 (t := (1, (-9223372036854775808), 9223372036854775807)) ka_46 (by decide) rfl rfl rfl (tt_ja y_50) rfl rfl dX2_chargeDays_59 (fun pl_51 hok_52 tr hn tl => ?_)
              replace hf_20 := tr _ _ _ (Or.inl (tt_ne hk0 ka_46 (by decide))) hf_20
              replace hf_32 := tr _ _ _ (Or.inl (tt_ne hk0 ka_46 (by decide))) hf_32
              replace hf_40 := tr _ _ _ (Or.inl (tt_ne hk0 ka_46 (by decide))) hf_40
              have hf_53 := hn
              replace hfr := hfr.put ka_46 tr (by decide)
              replace hfa := hfa.all tl
              refine jj_lload_n C dX2_chargeDays_62 rfl ?_
              refine jj_lload C dX2_chargeDays_63 rfl ?_
              obtain ⟨y_54, ey_54⟩ : ∃ z : Int64, y_18 + y_44 = z := ⟨_, rfl⟩
              refine jj_ladd (v := y_54) C dX2_chargeDays_65 ey_54 ?_
              refine jj_lstore_n C dX2_chargeDays_66 (by decide) rfl ?_
              obtain ⟨x_55, ex_55, vx_55⟩ := tt_inc (x := x_17) (n := 1) (by omega) (by omega)
              refine jj_iinc (v := x_55) C dX2_chargeDays_67 rfl ex_55 (by decide) rfl ?_
              refine jj_goto (tgt := 14) C dX2_chargeDays_70 (by decide) ?_
              refine jj_loc [0, 3, 1, 4, 5] rfl ?_
              exact ihL_16 pl_51 x_55 y_54 hok_52 hfr hfa (by first | omega | decide | exact tt_lo _ | exact tt_hi _) (by first | omega | decide | exact tt_lo _ | exact tt_hi _) (by first | omega | decide | exact tt_lo _ | exact tt_hi _)
        exact hL_16 _ pl (0 : Int32) y_3 trivial hok hfr hfa (by first | omega | decide | exact tt_lo _ | exact tt_hi _) (by first | omega | decide | exact tt_lo _ | exact tt_hi _) (Int.self_le_toNat _)
  exact hL_1 _ pl0 (0 : Int32) (0 : Int64) trivial hok hfr hfa (by first | omega | decide | exact tt_lo _ | exact tt_hi _) (by first | omega | decide | exact tt_lo _ | exact tt_hi _) (Int.self_le_toNat _)

set_option maxHeartbeats 4000000 in
set_option maxRecDepth 100000 in
theorem tc_X0_canBeDue_1 {l : Launch} (hl : l.stackTraces = false) (D : va_G) (cA : Nat → ClassId) (ak : (Nat → Nat) × (Nat → Nat)) {Kd : Nat → Nat} (h0 : Nat) (h1 : Nat) (hk0 : Kd h0 = 1) (hk1 : Kd h1 = 3) {pl0 : va_W} (hok : tt_ok tt_tk cA Kd pl0) : jj_M l D cA ak yX0_canBeDue (.code yX0_canBeDue cX0_canBeDue 3 (some .boolean)) 1 22 0 0 ([] ++ pl0) [.ref h0, .ref h1] (tt_O (fun rx pl1 r => rx = [] ∧ tt_ok tt_tk cA Kd pl1 ∧ tt_fr Kd [] pl0 pl1 ∧ tt_fa Kd [] pl0 pl1 ∧ ((r = some (.int 0)) ∨ (r = some (.int 1))))) (tt_OX (fun _ _ _ => False)) := by
  refine jj_start hl (by decide) jw_e876692b9b (jj_le rfl) ?_
  intro p e s m args below meth c A hargs hA C hex hmn
  have hfr := tt_fr.refl (K := Kd) (WS := []) pl0
  have hfa := tt_fa.refl (K := Kd) (WA := []) pl0
  refine jj_aload_n C dX0_canBeDue_0 rfl ?_
  refine jj_aload_n C dX0_canBeDue_1 rfl ?_
  refine tt_get C hok jk_5 1 (by decide) jw_53dba63b8f (t := (0, (-2147483648), 2147483647)) hk1 (by decide) rfl rfl dX0_canBeDue_2 (fun v_1 hv_1 hf_2 => ?_)
  obtain ⟨x_3, rfl, lx_3, ux_3⟩ := tt_vi hv_1
  obtain ⟨qc, gs, hqc⟩ := tt_recv (cx := []) hok hk0 (by decide) rfl
  refine tt_callV (rest := []) C (tc_X0_placeOfSeries_1 hl D cA ak h0 x_3 hk0 hok) [] [] rfl rfl (by decide) (by decide) (by decide) qc hqc rfl rfl jw_86b162115f jw_0061c834c4 jw_a3c4f03cad jw_7d25d4fd32 jw_3fe68be2d3 jn_X0_placeOfSeries rfl (jj_le rfl) (jj_le rfl) (jj_le rfl) (jj_le rfl) (jj_le rfl) dX0_canBeDue_5 rfl (fun _ _ _ hX => hX.elim) (fun rx pl_4 r O_7 => ?_)
  obtain ⟨rfl, hok_5, hr_6, hfa9, hR_9⟩ := O_7
  replace hf_2 := hr_6.at hk1 (by decide) (by decide) hf_2
  replace hfr := hfr.trans (hr_6.sub (by decide))
  replace hfa := hfa.trans (hfa9.sub (by decide))
  rcases hR_9 with rfl | ⟨x_12, lx_12, ux_12, rfl⟩
  · refine jj_istore_n C dX0_canBeDue_8 (by decide) rfl ?_
    refine jj_aload_n C dX0_canBeDue_9 rfl ?_
    refine tt_get C hok_5 jk_2 1 (by decide) jw_4c8a2fbb77 (t := (0, (-2147483648), 2147483647)) hk0 (by decide) rfl rfl dX0_canBeDue_10 (fun v_13 hv_13 hf_14 => ?_)
    obtain ⟨x_15, rfl, lx_15, ux_15⟩ := tt_vi hv_13
    refine jj_iconst (v := 1) C dX0_canBeDue_13 (by decide) ?_
    refine jj_icmp_ne (tgt := 43) C dX0_canBeDue_14 (by decide) (fun c_16 => ?_) (fun c_16 => ?_)
    · have z_c_16 := jc_neq (a := (x_15).toInt) (b := (1)) c_16 rfl (by decide)
      refine jj_iconst (v := 0) C dX0_canBeDue_43 (by decide) ?_
      exact jj_zret C rfl ⟨[], pl_4, rfl, rfl, hok_5, hfr, hfa, (Or.inl rfl)⟩ dX0_canBeDue_44 (jj_le rfl) (jj_le rfl)
    · have z_c_16 := jc_eq (a := (x_15).toInt) (b := (1)) c_16 rfl (by decide)
      refine jj_iload_n C dX0_canBeDue_17 rfl ?_
      refine jj_iconst (v := (-1)) C dX0_canBeDue_18 (by decide) ?_
      refine jj_icmp_eqT (tgt := 43) C dX0_canBeDue_19 (by decide) (by decide) ?_
      refine jj_iconst (v := 0) C dX0_canBeDue_43 (by decide) ?_
      exact jj_zret C rfl ⟨[], pl_4, rfl, rfl, hok_5, hfr, hfa, (Or.inl rfl)⟩ dX0_canBeDue_44 (jj_le rfl) (jj_le rfl)
  · refine jj_istore_n C dX0_canBeDue_8 (by decide) rfl ?_
    refine jj_aload_n C dX0_canBeDue_9 rfl ?_
    refine tt_get C hok_5 jk_2 1 (by decide) jw_4c8a2fbb77 (t := (0, (-2147483648), 2147483647)) hk0 (by decide) rfl rfl dX0_canBeDue_10 (fun v_17 hv_17 hf_18 => ?_)
    obtain ⟨x_19, rfl, lx_19, ux_19⟩ := tt_vi hv_17
    refine jj_iconst (v := 1) C dX0_canBeDue_13 (by decide) ?_
    refine jj_icmp_ne (tgt := 43) C dX0_canBeDue_14 (by decide) (fun c_20 => ?_) (fun c_20 => ?_)
    · have z_c_20 := jc_neq (a := (x_19).toInt) (b := (1)) c_20 rfl (by decide)
      refine jj_iconst (v := 0) C dX0_canBeDue_43 (by decide) ?_
      exact jj_zret C rfl ⟨[], pl_4, rfl, rfl, hok_5, hfr, hfa, (Or.inl rfl)⟩ dX0_canBeDue_44 (jj_le rfl) (jj_le rfl)
    · have z_c_20 := jc_eq (a := (x_19).toInt) (b := (1)) c_20 rfl (by decide)
      refine jj_iload_n C dX0_canBeDue_17 rfl ?_
      refine jj_iconst (v := (-1)) C dX0_canBeDue_18 (by decide) ?_
      refine jj_icmp_eq (tgt := 43) C dX0_canBeDue_19 (by decide) (fun c_21 => ?_) (fun c_21 => ?_)
      · have z_c_21 := jc_eq (a := (x_12).toInt) (b := (-1)) c_21 rfl (by decide)
        exfalso; omega
      · have z_c_21 := jc_neq (a := (x_12).toInt) (b := (-1)) c_21 rfl (by decide)
        refine jj_aload_n C dX0_canBeDue_22 rfl ?_
        refine tt_get C hok_5 jk_5 4 (by decide) jw_8e377b7e50 (t := (1, (-9223372036854775808), 9223372036854775807)) hk1 (by decide) rfl rfl dX0_canBeDue_23 (fun v_22 hv_22 hf_23 => ?_)
        obtain ⟨y_24, rfl, -, -⟩ := tt_vj hv_22
        refine jj_aload_n C dX0_canBeDue_26 rfl ?_
        refine tt_get C hok_5 jk_2 11 (by decide) jw_b81d81495e (t := (2, 6, 0)) hk0 (by decide) rfl rfl dX0_canBeDue_27 (fun v_25 hv_25 hf_26 => ?_)
        obtain ⟨a_27, rfl, ka_27⟩ := tt_vr hv_25
        refine jj_iload_n C dX0_canBeDue_30 rfl ?_
        refine tt_aald C hok_5 (t := (2, 2, 0)) ka_27 (by decide) rfl rfl rfl (vp_in_iff.mpr ⟨by omega, by omega⟩) dX0_canBeDue_31 (fun v_28 hv_28 => ?_)
        obtain ⟨a_29, rfl, ka_29⟩ := tt_vr hv_28
        refine tt_get C hok_5 jk_9 4 (by decide) jw_e9cf2d287e (t := (1, (-9223372036854775808), 9223372036854775807)) ka_29 (by decide) rfl rfl dX0_canBeDue_32 (fun v_30 hv_30 hf_31 => ?_)
        obtain ⟨y_32, rfl, -, -⟩ := tt_vj hv_30
        refine jj_lcmp_ge (tgt := 43) C dX0_canBeDue_35 dX0_canBeDue_36 (by decide) (fun c_33 => ?_) (fun c_33 => ?_)
        · refine jj_iconst (v := 0) C dX0_canBeDue_43 (by decide) ?_
          exact jj_zret C rfl ⟨[], pl_4, rfl, rfl, hok_5, hfr, hfa, (Or.inl rfl)⟩ dX0_canBeDue_44 (jj_le rfl) (jj_le rfl)
        · refine jj_iconst (v := 1) C dX0_canBeDue_39 (by decide) ?_
          refine jj_goto (tgt := 44) C dX0_canBeDue_40 (by decide) ?_
          exact jj_zret C rfl ⟨[], pl_4, rfl, rfl, hok_5, hfr, hfa, (Or.inr rfl)⟩ dX0_canBeDue_44 (jj_le rfl) (jj_le rfl)

set_option maxHeartbeats 4000000 in
set_option maxRecDepth 100000 in
theorem tc_X0_fallOfPay_1 {l : Launch} (hl : l.stackTraces = false) (D : va_G) (cA : Nat → ClassId) (ak : (Nat → Nat) × (Nat → Nat)) {Kd : Nat → Nat} (h0 : Nat) (p1 : Int32) (hk0 : Kd h0 = 1) {pl0 : va_W} (hok : tt_ok tt_tk cA Kd pl0) : jj_M l D cA ak yX0_fallOfPay (.code yX0_fallOfPay cX0_fallOfPay 5 (some .long)) 2 44 0 0 ([] ++ pl0) [.ref h0, .int p1] (tt_O (fun rx pl1 r => rx = [] ∧ tt_ok tt_tk cA Kd pl1 ∧ tt_fr Kd [] pl0 pl1 ∧ tt_fa Kd [] pl0 pl1 ∧ ((∃ v : Int64, r = some (.long v))))) (tt_OX (fun _ _ _ => False)) := by
  refine jj_start hl (by decide) jw_7e5e56ada0 (jj_le rfl) ?_
  intro p e s m args below meth c A hargs hA C hex hmn
  have hfr := tt_fr.refl (K := Kd) (WS := []) pl0
  have hfa := tt_fa.refl (K := Kd) (WA := []) pl0
  have lp1 := tt_lo p1
  have up1 := tt_hi p1
  refine jj_lconst (v := 0) C dX0_fallOfPay_0 (by decide) ?_
  refine jj_lstore_n C dX0_fallOfPay_1 (by decide) rfl ?_
  refine jj_iconst (v := 0) C dX0_fallOfPay_2 (by decide) ?_
  refine jj_istore C dX0_fallOfPay_3 (by decide) rfl ?_
  have hL_1 : ∀ (N : Nat) (pl : va_W) (x_2 : Int32) (y_3 : Int64), True → tt_ok tt_tk cA Kd pl → tt_fr Kd [] pl0 pl → tt_fa Kd [] pl0 pl → (0 : Int) ≤ x_2.toInt → x_2.toInt ≤ 40 → (2147483648 - x_2.toInt ≤ (N : Int)) → jj_J p l e (jj_rm 2 44 0 0) s m args below meth c 5 A (vx_MQ below (jj_q D A (tt_O (fun rx pl1 r => rx = [] ∧ tt_ok tt_tk cA Kd pl1 ∧ tt_fr Kd [] pl0 pl1 ∧ tt_fa Kd [] pl0 pl1 ∧ ((∃ v : Int64, r = some (.long v)))))) (jj_x D A (tt_OX (fun _ _ _ => False))) args s 0 0 A) (jj_X D A ([] ++ pl)) 0 0 5 [(4, .int x_2), (2, .long y_3), (0, .ref h0), (1, .int p1)] [] := by
    intro NL_1
    induction NL_1 with
    | zero => intro pl x_2 y_3 _ hok hfr hfa lx_2 ux_2 hNL_1; exfalso; omega
    | succ NL_1 ihL_1 =>
      intro pl x_2 y_3 _ hok hfr hfa lx_2 ux_2 hNL_1
      replace ihL_1 := fun pl x_2 y_3 h1 => ihL_1 pl x_2 y_3 trivial h1
      refine jj_iload C dX0_fallOfPay_5 rfl ?_
      refine jj_aload_n C dX0_fallOfPay_7 rfl ?_
      refine tt_get C hok jk_2 8 (by decide) jw_9d0ccd4490 (t := (0, 0, 40)) hk0 (by decide) rfl rfl dX0_fallOfPay_8 (fun v_4 hv_4 hf_5 => ?_)
      obtain ⟨x_6, rfl, lx_6, ux_6⟩ := tt_vi hv_4
      refine jj_icmp_ge (tgt := 79) C dX0_fallOfPay_11 (by decide) (fun c_7 => ?_) (fun c_7 => ?_)
      · have z_c_7 := jc_le (a := (x_6).toInt) (b := (x_2).toInt) c_7 rfl rfl
        refine jj_lload_n C dX0_fallOfPay_79 rfl ?_
        exact jj_lret C ⟨[], pl, rfl, rfl, hok, hfr, hfa, ⟨y_3, rfl⟩⟩ dX0_fallOfPay_80 (jj_le rfl) (jj_le rfl)
      · have z_c_7 := jc_nle (a := (x_6).toInt) (b := (x_2).toInt) c_7 rfl rfl
        refine jj_aload_n C dX0_fallOfPay_14 rfl ?_
        refine tt_get C hok jk_2 12 (by decide) jw_5f730213e9 (t := (2, 7, 0)) hk0 (by decide) rfl rfl dX0_fallOfPay_15 (fun v_8 hv_8 hf_9 => ?_)
        obtain ⟨a_10, rfl, ka_10⟩ := tt_vr hv_8
        refine jj_iload C dX0_fallOfPay_18 rfl ?_
        refine tt_aald C hok (t := (2, 3, 0)) ka_10 (by decide) rfl rfl rfl (vp_in_iff.mpr ⟨by omega, by omega⟩) dX0_fallOfPay_20 (fun v_11 hv_11 => ?_)
        obtain ⟨a_12, rfl, ka_12⟩ := tt_vr hv_11
        refine tt_get C hok jk_5 0 (by decide) jw_89374484be (t := (0, (-2147483648), 2147483647)) ka_12 (by decide) rfl rfl dX0_fallOfPay_21 (fun v_13 hv_13 hf_14 => ?_)
        obtain ⟨x_15, rfl, lx_15, ux_15⟩ := tt_vi hv_13
        refine jj_iload_n C dX0_fallOfPay_24 rfl ?_
        refine jj_icmp_ne (tgt := 73) C dX0_fallOfPay_25 (by decide) (fun c_16 => ?_) (fun c_16 => ?_)
        · have z_c_16 := jc_neq (a := (x_15).toInt) (b := (p1).toInt) c_16 rfl rfl
          obtain ⟨x_17, ex_17, vx_17⟩ := tt_inc (x := x_2) (n := 1) (by omega) (by omega)
          refine jj_iinc (v := x_17) C dX0_fallOfPay_73 rfl ex_17 (by decide) rfl ?_
          refine jj_goto (tgt := 5) C dX0_fallOfPay_76 (by decide) ?_
          exact ihL_1 pl x_17 y_3 hok hfr hfa (by first | omega | decide | exact tt_lo _ | exact tt_hi _) (by first | omega | decide | exact tt_lo _ | exact tt_hi _) (by first | omega | decide | exact tt_lo _ | exact tt_hi _)
        · have z_c_16 := jc_eq (a := (x_15).toInt) (b := (p1).toInt) c_16 rfl rfl
          refine jj_aload_n C dX0_fallOfPay_28 rfl ?_
          refine jj_aload_n C dX0_fallOfPay_29 rfl ?_
          refine tt_getF C hok jk_2 12 (by decide) jw_5f730213e9 (t := (2, 7, 0)) hk0 (by decide) rfl rfl hf_9 dX0_fallOfPay_30 ?_
          refine jj_iload C dX0_fallOfPay_33 rfl ?_
          refine tt_aald C hok (t := (2, 3, 0)) ka_10 (by decide) rfl rfl rfl (vp_in_iff.mpr ⟨by omega, by omega⟩) dX0_fallOfPay_35 (fun v_18 hv_18 => ?_)
          obtain ⟨a_19, rfl, ka_19⟩ := tt_vr hv_18
          obtain ⟨qc, gs, hqc⟩ := tt_recv (cx := []) hok hk0 (by decide) rfl
          refine tt_callV (rest := []) C (tc_X0_canBeDue_1 hl D cA ak h0 a_19 hk0 ka_19 hok) [] [] rfl rfl (by decide) (by decide) (by decide) qc hqc rfl rfl jw_65ae222895 jw_c8c4ed6f7d jw_181ee900e0 jw_7d25d4fd32 jw_e876692b9b jn_X0_canBeDue rfl (jj_le rfl) (jj_le rfl) (jj_le rfl) (jj_le rfl) (jj_le rfl) dX0_fallOfPay_36 rfl (fun _ _ _ hX => hX.elim) (fun rx pl_20 r O_23 => ?_)
          obtain ⟨rfl, hok_21, hr_22, hfa9, hR_25⟩ := O_23
          replace hf_5 := hr_22.at hk0 (by decide) (by decide) hf_5
          replace hf_9 := hr_22.at hk0 (by decide) (by decide) hf_9
          replace hf_14 := hr_22.at ka_12 (by decide) (by decide) hf_14
          replace hfr := hfr.trans (hr_22.sub (by decide))
          replace hfa := hfa.trans (hfa9.sub (by decide))
          rcases hR_25 with rfl | rfl
          · refine jj_if_eqT (tgt := 73) C dX0_fallOfPay_39 (by decide) (by decide) ?_
            obtain ⟨x_28, ex_28, vx_28⟩ := tt_inc (x := x_2) (n := 1) (by omega) (by omega)
            refine jj_iinc (v := x_28) C dX0_fallOfPay_73 rfl ex_28 (by decide) rfl ?_
            refine jj_goto (tgt := 5) C dX0_fallOfPay_76 (by decide) ?_
            exact ihL_1 pl_20 x_28 y_3 hok_21 hfr hfa (by first | omega | decide | exact tt_lo _ | exact tt_hi _) (by first | omega | decide | exact tt_lo _ | exact tt_hi _) (by first | omega | decide | exact tt_lo _ | exact tt_hi _)
          · refine jj_if_eqF (tgt := 73) C dX0_fallOfPay_39 (by decide) (by decide) ?_
            refine jj_lload_n C dX0_fallOfPay_42 rfl ?_
            refine jj_ldc2 (v := 5) C dX0_fallOfPay_43 jw_916057ffd4 ?_
            refine jj_aload_n C dX0_fallOfPay_46 rfl ?_
            refine tt_getF C hok_21 jk_2 12 (by decide) jw_5f730213e9 (t := (2, 7, 0)) hk0 (by decide) rfl rfl hf_9 dX0_fallOfPay_47 ?_
            refine jj_iload C dX0_fallOfPay_50 rfl ?_
            refine tt_aald C hok_21 (t := (2, 3, 0)) ka_10 (by decide) rfl rfl rfl (vp_in_iff.mpr ⟨by omega, by omega⟩) dX0_fallOfPay_52 (fun v_29 hv_29 => ?_)
            obtain ⟨a_30, rfl, ka_30⟩ := tt_vr hv_29
            refine tt_get C hok_21 jk_5 3 (by decide) jw_1f6afd9b6f (t := (1, (-9223372036854775808), 9223372036854775807)) ka_30 (by decide) rfl rfl dX0_fallOfPay_53 (fun v_31 hv_31 hf_32 => ?_)
            obtain ⟨y_33, rfl, -, -⟩ := tt_vj hv_31
            refine jj_aload_n C dX0_fallOfPay_56 rfl ?_
            refine tt_get C hok_21 jk_2 3 (by decide) jw_d83bb35855 (t := (0, (-2147483648), 2147483647)) hk0 (by decide) rfl rfl dX0_fallOfPay_57 (fun v_34 hv_34 hf_35 => ?_)
            obtain ⟨x_36, rfl, lx_36, ux_36⟩ := tt_vi hv_34
            obtain ⟨y_37, ey_37, vy_37⟩ := tt_i2l x_36
            refine jj_i2l (v := y_37) C dX0_fallOfPay_60 ey_37 ?_
            obtain ⟨y_38, ey_38⟩ : ∃ z : Int64, y_33 * y_37 = z := ⟨_, rfl⟩
            refine jj_lmul (v := y_38) C dX0_fallOfPay_61 ey_38 ?_
            refine jj_ldc2 (v := 100) C dX0_fallOfPay_62 jw_11ede7347a ?_
            obtain ⟨y_39, ey_39⟩ : ∃ z : Int64, y_38 / (100 : Int64) = z := ⟨_, rfl⟩
            refine jj_ldiv (v := y_39) C dX0_fallOfPay_65 (by decide) ey_39 ?_
            refine jj_ldc2 (v := 100000) C dX0_fallOfPay_66 jw_c8e745edd7 ?_
            obtain ⟨y_40, ey_40⟩ : ∃ z : Int64, y_39 / (100000 : Int64) = z := ⟨_, rfl⟩
            refine jj_ldiv (v := y_40) C dX0_fallOfPay_69 (by decide) ey_40 ?_
            obtain ⟨y_41, ey_41⟩ : ∃ z : Int64, (5 : Int64) + y_40 = z := ⟨_, rfl⟩
            refine jj_ladd (v := y_41) C dX0_fallOfPay_70 ey_41 ?_
            obtain ⟨y_42, ey_42⟩ : ∃ z : Int64, y_3 + y_41 = z := ⟨_, rfl⟩
            refine jj_ladd (v := y_42) C dX0_fallOfPay_71 ey_42 ?_
            refine jj_lstore_n C dX0_fallOfPay_72 (by decide) rfl ?_
            obtain ⟨x_43, ex_43, vx_43⟩ := tt_inc (x := x_2) (n := 1) (by omega) (by omega)
            refine jj_iinc (v := x_43) C dX0_fallOfPay_73 rfl ex_43 (by decide) rfl ?_
            refine jj_goto (tgt := 5) C dX0_fallOfPay_76 (by decide) ?_
            exact ihL_1 pl_20 x_43 y_42 hok_21 hfr hfa (by first | omega | decide | exact tt_lo _ | exact tt_hi _) (by first | omega | decide | exact tt_lo _ | exact tt_hi _) (by first | omega | decide | exact tt_lo _ | exact tt_hi _)
  exact hL_1 _ pl0 (0 : Int32) (0 : Int64) trivial hok hfr hfa (by first | omega | decide | exact tt_lo _ | exact tt_hi _) (by first | omega | decide | exact tt_lo _ | exact tt_hi _) (Int.self_le_toNat _)

set_option maxHeartbeats 4000000 in
set_option maxRecDepth 100000 in
theorem tc_X1_resetTrial_2 {l : Launch} (hl : l.stackTraces = false) (D : va_G) (cA : Nat → ClassId) (ak : (Nat → Nat) × (Nat → Nat)) {Kd : Nat → Nat} (h0 : Nat) (h1 : Nat) (p2 : Int32) (hk0 : Kd h0 = 9) (hk1 : Kd h1 = 1) {pl0 : va_W} (hok : tt_ok tt_tk cA Kd pl0) : jj_M l D cA ak yX1_resetTrial (.code yX1_resetTrial cX1_resetTrial 4 none) 1 21 0 0 ([] ++ pl0) [.ref h0, .ref h1, .int p2] (tt_O (fun rx pl1 r => rx = [] ∧ tt_ok tt_tk cA Kd pl1 ∧ tt_fr Kd [(2, 0), (2, 1), (2, 2), (2, 3), (2, 4)] pl0 pl1 ∧ tt_fa Kd [] pl0 pl1 ∧ ((r = none)))) (tt_OX (fun _ _ _ => False)) := by
  refine jj_start hl (by decide) jw_94abfb5ed9 (jj_le rfl) ?_
  intro p e s m args below meth c A hargs hA C hex hmn
  have hfr := tt_fr.refl (K := Kd) (WS := [(2, 0), (2, 1), (2, 2), (2, 3), (2, 4)]) pl0
  have hfa := tt_fa.refl (K := Kd) (WA := []) pl0
  have lp2 := tt_lo p2
  have up2 := tt_hi p2
  refine jj_iconst (v := 0) C dX1_resetTrial_0 (by decide) ?_
  refine jj_istore_n C dX1_resetTrial_1 (by decide) rfl ?_
  have hL_1 : ∀ (N : Nat) (pl : va_W) (x_2 : Int32), True → tt_ok tt_tk cA Kd pl → tt_fr Kd [(2, 0), (2, 1), (2, 2), (2, 3), (2, 4)] pl0 pl → tt_fa Kd [] pl0 pl → (0 : Int) ≤ x_2.toInt → x_2.toInt ≤ 6 → (2147483648 - x_2.toInt ≤ (N : Int)) → jj_J p l e (jj_rm 1 21 0 0) s m args below meth c 4 A (vx_MQ below (jj_q D A (tt_O (fun rx pl1 r => rx = [] ∧ tt_ok tt_tk cA Kd pl1 ∧ tt_fr Kd [(2, 0), (2, 1), (2, 2), (2, 3), (2, 4)] pl0 pl1 ∧ tt_fa Kd [] pl0 pl1 ∧ ((r = none))))) (jj_x D A (tt_OX (fun _ _ _ => False))) args s 0 0 A) (jj_X D A ([] ++ pl)) 0 0 2 [(3, .int x_2), (0, .ref h0), (1, .ref h1), (2, .int p2)] [] := by
    intro NL_1
    induction NL_1 with
    | zero => intro pl x_2 _ hok hfr hfa lx_2 ux_2 hNL_1; exfalso; omega
    | succ NL_1 ihL_1 =>
      intro pl x_2 _ hok hfr hfa lx_2 ux_2 hNL_1
      replace ihL_1 := fun pl x_2 h1 => ihL_1 pl x_2 trivial h1
      refine jj_iload_n C dX1_resetTrial_2 rfl ?_
      refine jj_aload_n C dX1_resetTrial_3 rfl ?_
      refine tt_get C hok jk_2 7 (by decide) jw_1a34255153 (t := (0, 0, 6)) hk1 (by decide) rfl rfl dX1_resetTrial_4 (fun v_3 hv_3 hf_4 => ?_)
      obtain ⟨x_5, rfl, lx_5, ux_5⟩ := tt_vi hv_3
      refine jj_icmp_ge (tgt := 50) C dX1_resetTrial_7 (by decide) (fun c_6 => ?_) (fun c_6 => ?_)
      · have z_c_6 := jc_le (a := (x_5).toInt) (b := (x_2).toInt) c_6 rfl rfl
        exact jj_vret C ⟨[], pl, rfl, rfl, hok, hfr, hfa, rfl⟩ dX1_resetTrial_50 (jj_le rfl) (jj_le rfl)
      · have z_c_6 := jc_nle (a := (x_5).toInt) (b := (x_2).toInt) c_6 rfl rfl
        refine jj_aload_n C dX1_resetTrial_10 rfl ?_
        refine tt_get C hok jk_3 0 (by decide) jw_808194b586 (t := (2, 6, 0)) hk0 (by decide) rfl rfl dX1_resetTrial_11 (fun v_7 hv_7 hf_8 => ?_)
        obtain ⟨a_9, rfl, ka_9⟩ := tt_vr hv_7
        refine jj_iload_n C dX1_resetTrial_14 rfl ?_
        refine tt_aald C hok (t := (2, 2, 0)) ka_9 (by decide) rfl rfl rfl (vp_in_iff.mpr ⟨by omega, by omega⟩) dX1_resetTrial_15 (fun v_10 hv_10 => ?_)
        obtain ⟨a_11, rfl, ka_11⟩ := tt_vr hv_10
        refine jj_aload_n C dX1_resetTrial_16 rfl ?_
        refine tt_get C hok jk_2 11 (by decide) jw_56984fd307 (t := (2, 6, 0)) hk1 (by decide) rfl rfl dX1_resetTrial_17 (fun v_12 hv_12 hf_13 => ?_)
        obtain ⟨a_14, rfl, ka_14⟩ := tt_vr hv_12
        refine jj_iload_n C dX1_resetTrial_20 rfl ?_
        refine tt_aald C hok (t := (2, 2, 0)) ka_14 (by decide) rfl rfl rfl (vp_in_iff.mpr ⟨by omega, by omega⟩) dX1_resetTrial_21 (fun v_15 hv_15 => ?_)
        obtain ⟨a_16, rfl, ka_16⟩ := tt_vr hv_15
        obtain ⟨qc, gs, hqc⟩ := tt_recv (cx := []) hok ka_11 (by decide) rfl
        refine tt_callV (rest := []) C (tc_X8_copyFrom_1 hl D cA ak a_11 a_16 ka_11 ka_16 hok) [] [] rfl rfl (by decide) (by decide) (by decide) qc hqc rfl rfl jw_ce2703e07f jw_90d71545dc jw_31822f9d17 jw_364e75910d jw_067ae4989e jn_X8_copyFrom rfl (jj_le rfl) (jj_le rfl) (jj_le rfl) (jj_le rfl) (jj_le rfl) dX1_resetTrial_22 rfl (fun _ _ _ hX => hX.elim) (fun rx pl_17 r O_20 => ?_)
        obtain ⟨rfl, hok_18, hr_19, hfa9, hR_22⟩ := O_20
        replace hf_4 := hr_19.at hk1 (by decide) (by decide) hf_4
        replace hf_8 := hr_19.at hk0 (by decide) (by decide) hf_8
        replace hf_13 := hr_19.at hk1 (by decide) (by decide) hf_13
        replace hfr := hfr.trans (hr_19.sub (by decide))
        replace hfa := hfa.trans (hfa9.sub (by decide))
        obtain rfl := hR_22
        refine jj_aload_n C dX1_resetTrial_25 rfl ?_
        refine tt_getF C hok_18 jk_3 0 (by decide) jw_808194b586 (t := (2, 6, 0)) hk0 (by decide) rfl rfl hf_8 dX1_resetTrial_26 ?_
        refine jj_iload_n C dX1_resetTrial_29 rfl ?_
        refine tt_aald C hok_18 (t := (2, 2, 0)) ka_9 (by decide) rfl rfl rfl (vp_in_iff.mpr ⟨by omega, by omega⟩) dX1_resetTrial_30 (fun v_25 hv_25 => ?_)
        obtain ⟨a_26, rfl, ka_26⟩ := tt_vr hv_25
        refine jj_aload_n C dX1_resetTrial_31 rfl ?_
        refine tt_getF C hok_18 jk_3 0 (by decide) jw_808194b586 (t := (2, 6, 0)) hk0 (by decide) rfl rfl hf_8 dX1_resetTrial_32 ?_
        refine jj_iload_n C dX1_resetTrial_35 rfl ?_
        refine tt_aald C hok_18 (t := (2, 2, 0)) ka_9 (by decide) rfl rfl rfl (vp_in_iff.mpr ⟨by omega, by omega⟩) dX1_resetTrial_36 (fun v_27 hv_27 => ?_)
        obtain ⟨a_28, rfl, ka_28⟩ := tt_vr hv_27
        refine jj_iload_n C dX1_resetTrial_37 rfl ?_
        obtain ⟨qc, gs, hqc⟩ := tt_recv (cx := []) hok_18 ka_28 (by decide) rfl
        refine tt_callV (rest := [.ref a_26]) C (tc_X8_assetsAfter_3 hl D cA ak a_28 p2 ka_28 hok_18) [] [] rfl rfl (by decide) (by decide) (by decide) qc hqc rfl rfl jw_9f44c87e1b jw_f7b9340b8f jw_ed03d6c861 jw_364e75910d jw_37a3f39914 jn_X8_assetsAfter rfl (jj_le rfl) (jj_le rfl) (jj_le rfl) (jj_le rfl) (jj_le rfl) dX1_resetTrial_38 rfl (fun _ _ _ hX => hX.elim) (fun rx pl_29 r O_32 => ?_)
        obtain ⟨rfl, hok_30, hr_31, hfa9, hR_34⟩ := O_32
        replace hf_4 := hr_31.at hk1 (by decide) (by decide) hf_4
        replace hf_8 := hr_31.at hk0 (by decide) (by decide) hf_8
        replace hf_13 := hr_31.at hk1 (by decide) (by decide) hf_13
        replace hfr := hfr.trans (hr_31.sub (by decide))
        replace hfa := hfa.trans (hfa9.sub (by decide))
        obtain ⟨y_37, rfl⟩ := hR_34
        refine rl_put C hok_30 jk_9 2 (by decide) jw_a25c79ea7a (t := (1, (-9223372036854775808), 9223372036854775807)) ka_26 (by decide) rfl rfl rfl (tt_ja y_37) rfl rfl dX1_resetTrial_41 (fun pl_38 hok_39 tr hn tl => ?_)
        replace hf_4 := tr _ _ _ (Or.inl (tt_ne hk1 ka_26 (by decide))) hf_4
        replace hf_8 := tr _ _ _ (Or.inl (tt_ne hk0 ka_26 (by decide))) hf_8
        replace hf_13 := tr _ _ _ (Or.inl (tt_ne hk1 ka_26 (by decide))) hf_13
        have hf_40 := hn
        replace hfr := hfr.put ka_26 tr (by decide)
        replace hfa := hfa.all tl
        obtain ⟨x_41, ex_41, vx_41⟩ := tt_inc (x := x_2) (n := 1) (by omega) (by omega)
        refine jj_iinc (v := x_41) C dX1_resetTrial_44 rfl ex_41 (by decide) rfl ?_
        refine jj_goto (tgt := 2) C dX1_resetTrial_47 (by decide) ?_
        exact ihL_1 pl_38 x_41 hok_39 hfr hfa (by first | omega | decide | exact tt_lo _ | exact tt_hi _) (by first | omega | decide | exact tt_lo _ | exact tt_hi _) (by first | omega | decide | exact tt_lo _ | exact tt_hi _)
  exact hL_1 _ pl0 (0 : Int32) trivial hok hfr hfa (by first | omega | decide | exact tt_lo _ | exact tt_hi _) (by first | omega | decide | exact tt_lo _ | exact tt_hi _) (Int.self_le_toNat _)

set_option maxHeartbeats 4000000 in
set_option maxRecDepth 100000 in
theorem tc_X1_tryRedemption_2 {l : Launch} (hl : l.stackTraces = false) (D : va_G) (cA : Nat → ClassId) (ak : (Nat → Nat) × (Nat → Nat)) {Kd : Nat → Nat} (h0 : Nat) (h1 : Nat) (p2 : Int32) (hk0 : Kd h0 = 9) (hk1 : Kd h1 = 1) {pl0 : va_W} (hok : tt_ok tt_tk cA Kd pl0) : jj_M l D cA ak yX1_tryRedemption (.code yX1_tryRedemption cX1_tryRedemption 15 (some .long)) 2 54 0 0 ([] ++ pl0) [.ref h0, .ref h1, .int p2, .long 9223372036854775807, .int 1] (tt_O (fun rx pl1 r => rx = [] ∧ tt_ok tt_tk cA Kd pl1 ∧ tt_fr Kd [(2, 2), (2, 3), (9, 1), (9, 2), (9, 3), (9, 4), (9, 5)] pl0 pl1 ∧ tt_fa Kd [] pl0 pl1 ∧ ((∃ v : Int64, r = some (.long v))))) (tt_OX (fun _ _ _ => False)) := by
  refine jj_start hl (by decide) jw_a452736dc6 (jj_le rfl) ?_
  intro p e s m args below meth c A hargs hA C hex hmn
  have hfr := tt_fr.refl (K := Kd) (WS := [(2, 2), (2, 3), (9, 1), (9, 2), (9, 3), (9, 4), (9, 5)]) pl0
  have hfa := tt_fa.refl (K := Kd) (WA := []) pl0
  have lp2 := tt_lo p2
  have up2 := tt_hi p2
  refine jj_lconst (v := 0) C dX1_tryRedemption_0 (by decide) ?_
  refine jj_lstore C dX1_tryRedemption_1 (by decide) rfl ?_
  refine jj_lload_n C dX1_tryRedemption_3 rfl ?_
  refine jj_lstore C dX1_tryRedemption_4 (by decide) rfl ?_
  refine jj_iconst (v := 0) C dX1_tryRedemption_6 (by decide) ?_
  refine jj_istore C dX1_tryRedemption_7 (by decide) rfl ?_
  have hL_1 : ∀ (N : Nat) (pl : va_W) (x_2 : Int32) (y_3 : Int64) (y_4 : Int64), True → tt_ok tt_tk cA Kd pl → tt_fr Kd [(2, 2), (2, 3), (9, 1), (9, 2), (9, 3), (9, 4), (9, 5)] pl0 pl → tt_fa Kd [] pl0 pl → (0 : Int) ≤ x_2.toInt → x_2.toInt ≤ 40 → (2147483648 - x_2.toInt ≤ (N : Int)) → jj_J p l e (jj_rm 2 54 0 0) s m args below meth c 15 A (vx_MQ below (jj_q D A (tt_O (fun rx pl1 r => rx = [] ∧ tt_ok tt_tk cA Kd pl1 ∧ tt_fr Kd [(2, 2), (2, 3), (9, 1), (9, 2), (9, 3), (9, 4), (9, 5)] pl0 pl1 ∧ tt_fa Kd [] pl0 pl1 ∧ ((∃ v : Int64, r = some (.long v)))))) (jj_x D A (tt_OX (fun _ _ _ => False))) args s 0 0 A) (jj_X D A ([] ++ pl)) 0 0 9 [(10, .int x_2), (8, .long y_3), (6, .long y_4), (0, .ref h0), (1, .ref h1), (2, .int p2), (3, .long 9223372036854775807), (5, .int 1)] [] := by
    intro NL_1
    induction NL_1 with
    | zero => intro pl x_2 y_3 y_4 _ hok hfr hfa lx_2 ux_2 hNL_1; exfalso; omega
    | succ NL_1 ihL_1 =>
      intro pl x_2 y_3 y_4 _ hok hfr hfa lx_2 ux_2 hNL_1
      replace ihL_1 := fun pl x_2 y_3 y_4 h1 => ihL_1 pl x_2 y_3 y_4 trivial h1
      refine jj_iload C dX1_tryRedemption_9 rfl ?_
      refine jj_aload_n C dX1_tryRedemption_11 rfl ?_
      refine tt_get C hok jk_2 8 (by decide) jw_eaf43346a8 (t := (0, 0, 40)) hk1 (by decide) rfl rfl dX1_tryRedemption_12 (fun v_5 hv_5 hf_6 => ?_)
      obtain ⟨x_7, rfl, lx_7, ux_7⟩ := tt_vi hv_5
      refine jj_icmp_ge (tgt := 173) C dX1_tryRedemption_15 (by decide) (fun c_8 => ?_) (fun c_8 => ?_)
      · have z_c_8 := jc_le (a := (x_7).toInt) (b := (x_2).toInt) c_8 rfl rfl
        refine jj_lload C dX1_tryRedemption_173 rfl ?_
        exact jj_lret C ⟨[], pl, rfl, rfl, hok, hfr, hfa, ⟨y_4, rfl⟩⟩ dX1_tryRedemption_175 (jj_le rfl) (jj_le rfl)
      · have z_c_8 := jc_nle (a := (x_7).toInt) (b := (x_2).toInt) c_8 rfl rfl
        refine jj_lload C dX1_tryRedemption_18 rfl ?_
        refine jj_lconst (v := 0) C dX1_tryRedemption_20 (by decide) ?_
        refine jj_lcmp_le (tgt := 173) C dX1_tryRedemption_21 dX1_tryRedemption_22 (by decide) (fun c_9 => ?_) (fun c_9 => ?_)
        · refine jj_lload C dX1_tryRedemption_173 rfl ?_
          exact jj_lret C ⟨[], pl, rfl, rfl, hok, hfr, hfa, ⟨y_4, rfl⟩⟩ dX1_tryRedemption_175 (jj_le rfl) (jj_le rfl)
        · refine jj_aload_n C dX1_tryRedemption_25 rfl ?_
          refine tt_get C hok jk_2 12 (by decide) jw_41d1bd2a61 (t := (2, 7, 0)) hk1 (by decide) rfl rfl dX1_tryRedemption_26 (fun v_10 hv_10 hf_11 => ?_)
          obtain ⟨a_12, rfl, ka_12⟩ := tt_vr hv_10
          refine jj_iload C dX1_tryRedemption_29 rfl ?_
          refine tt_aald C hok (t := (2, 3, 0)) ka_12 (by decide) rfl rfl rfl (vp_in_iff.mpr ⟨by omega, by omega⟩) dX1_tryRedemption_31 (fun v_13 hv_13 => ?_)
          obtain ⟨a_14, rfl, ka_14⟩ := tt_vr hv_13
          refine jj_astore C dX1_tryRedemption_32 (by decide) rfl ?_
          refine jj_aload_n C dX1_tryRedemption_34 rfl ?_
          refine jj_aload C dX1_tryRedemption_35 rfl ?_
          refine tt_get C hok jk_5 1 (by decide) jw_85587ec127 (t := (0, (-2147483648), 2147483647)) ka_14 (by decide) rfl rfl dX1_tryRedemption_37 (fun v_15 hv_15 hf_16 => ?_)
          obtain ⟨x_17, rfl, lx_17, ux_17⟩ := tt_vi hv_15
          obtain ⟨qc, gs, hqc⟩ := tt_recv (cx := []) hok hk1 (by decide) rfl
          refine tt_callV (rest := []) C (tc_X0_placeOfSeries_1 hl D cA ak h1 x_17 hk1 hok) [] [] rfl rfl (by decide) (by decide) (by decide) qc hqc rfl rfl jw_bb838ff949 jw_0061c834c4 jw_a3c4f03cad jw_7d25d4fd32 jw_3fe68be2d3 jn_X0_placeOfSeries rfl (jj_le rfl) (jj_le rfl) (jj_le rfl) (jj_le rfl) (jj_le rfl) dX1_tryRedemption_40 rfl (fun _ _ _ hX => hX.elim) (fun rx pl_18 r O_21 => ?_)
          obtain ⟨rfl, hok_19, hr_20, hfa9, hR_23⟩ := O_21
          replace hf_6 := hr_20.at hk1 (by decide) (by decide) hf_6
          replace hf_11 := hr_20.at hk1 (by decide) (by decide) hf_11
          replace hf_16 := hr_20.at ka_14 (by decide) (by decide) hf_16
          replace hfr := hfr.trans (hr_20.sub (by decide))
          replace hfa := hfa.trans (hfa9.sub (by decide))
          rcases hR_23 with rfl | ⟨x_26, lx_26, ux_26, rfl⟩
          · refine jj_istore C dX1_tryRedemption_43 (by decide) rfl ?_
            refine jj_aload C dX1_tryRedemption_45 rfl ?_
            refine tt_get C hok_19 jk_5 0 (by decide) jw_a8c98ef318 (t := (0, (-2147483648), 2147483647)) ka_14 (by decide) rfl rfl dX1_tryRedemption_47 (fun v_27 hv_27 hf_28 => ?_)
            obtain ⟨x_29, rfl, lx_29, ux_29⟩ := tt_vi hv_27
            refine jj_iload_n C dX1_tryRedemption_50 rfl ?_
            refine jj_icmp_ne (tgt := 167) C dX1_tryRedemption_51 (by decide) (fun c_30 => ?_) (fun c_30 => ?_)
            · have z_c_30 := jc_neq (a := (x_29).toInt) (b := (p2).toInt) c_30 rfl rfl
              obtain ⟨x_31, ex_31, vx_31⟩ := tt_inc (x := x_2) (n := 1) (by omega) (by omega)
              refine jj_iinc (v := x_31) C dX1_tryRedemption_167 rfl ex_31 (by decide) rfl ?_
              refine jj_goto (tgt := 9) C dX1_tryRedemption_170 (by decide) ?_
              refine jj_loc [0, 3, 4, 5, 6, 7, 8, 9] rfl ?_
              exact ihL_1 pl_18 x_31 y_3 y_4 hok_19 hfr hfa (by first | omega | decide | exact tt_lo _ | exact tt_hi _) (by first | omega | decide | exact tt_lo _ | exact tt_hi _) (by first | omega | decide | exact tt_lo _ | exact tt_hi _)
            · have z_c_30 := jc_eq (a := (x_29).toInt) (b := (p2).toInt) c_30 rfl rfl
              refine jj_iload C dX1_tryRedemption_54 rfl ?_
              refine jj_iconst (v := (-1)) C dX1_tryRedemption_56 (by decide) ?_
              refine jj_icmp_eqT (tgt := 167) C dX1_tryRedemption_57 (by decide) (by decide) ?_
              obtain ⟨x_32, ex_32, vx_32⟩ := tt_inc (x := x_2) (n := 1) (by omega) (by omega)
              refine jj_iinc (v := x_32) C dX1_tryRedemption_167 rfl ex_32 (by decide) rfl ?_
              refine jj_goto (tgt := 9) C dX1_tryRedemption_170 (by decide) ?_
              refine jj_loc [0, 3, 4, 5, 6, 7, 8, 9] rfl ?_
              exact ihL_1 pl_18 x_32 y_3 y_4 hok_19 hfr hfa (by first | omega | decide | exact tt_lo _ | exact tt_hi _) (by first | omega | decide | exact tt_lo _ | exact tt_hi _) (by first | omega | decide | exact tt_lo _ | exact tt_hi _)
          · refine jj_istore C dX1_tryRedemption_43 (by decide) rfl ?_
            refine jj_aload C dX1_tryRedemption_45 rfl ?_
            refine tt_get C hok_19 jk_5 0 (by decide) jw_a8c98ef318 (t := (0, (-2147483648), 2147483647)) ka_14 (by decide) rfl rfl dX1_tryRedemption_47 (fun v_33 hv_33 hf_34 => ?_)
            obtain ⟨x_35, rfl, lx_35, ux_35⟩ := tt_vi hv_33
            refine jj_iload_n C dX1_tryRedemption_50 rfl ?_
            refine jj_icmp_ne (tgt := 167) C dX1_tryRedemption_51 (by decide) (fun c_36 => ?_) (fun c_36 => ?_)
            · have z_c_36 := jc_neq (a := (x_35).toInt) (b := (p2).toInt) c_36 rfl rfl
              obtain ⟨x_37, ex_37, vx_37⟩ := tt_inc (x := x_2) (n := 1) (by omega) (by omega)
              refine jj_iinc (v := x_37) C dX1_tryRedemption_167 rfl ex_37 (by decide) rfl ?_
              refine jj_goto (tgt := 9) C dX1_tryRedemption_170 (by decide) ?_
              refine jj_loc [0, 3, 4, 5, 6, 7, 8, 9] rfl ?_
              exact ihL_1 pl_18 x_37 y_3 y_4 hok_19 hfr hfa (by first | omega | decide | exact tt_lo _ | exact tt_hi _) (by first | omega | decide | exact tt_lo _ | exact tt_hi _) (by first | omega | decide | exact tt_lo _ | exact tt_hi _)
            · have z_c_36 := jc_eq (a := (x_35).toInt) (b := (p2).toInt) c_36 rfl rfl
              refine jj_iload C dX1_tryRedemption_54 rfl ?_
              refine jj_iconst (v := (-1)) C dX1_tryRedemption_56 (by decide) ?_
              refine jj_icmp_eq (tgt := 167) C dX1_tryRedemption_57 (by decide) (fun c_38 => ?_) (fun c_38 => ?_)
              · have z_c_38 := jc_eq (a := (x_26).toInt) (b := (-1)) c_38 rfl (by decide)
                exfalso; omega
              · have z_c_38 := jc_neq (a := (x_26).toInt) (b := (-1)) c_38 rfl (by decide)
                refine jj_lload C dX1_tryRedemption_60 rfl ?_
                refine jj_aload C dX1_tryRedemption_62 rfl ?_
                refine tt_get C hok_19 jk_5 3 (by decide) jw_fcb072e0d9 (t := (1, (-9223372036854775808), 9223372036854775807)) ka_14 (by decide) rfl rfl dX1_tryRedemption_64 (fun v_39 hv_39 hf_40 => ?_)
                obtain ⟨y_41, rfl, -, -⟩ := tt_vj hv_39
                refine tt_call0S (rest := []) C (ct_J9_min_f86c9_1 hl D cA ak y_3 y_41) jw_fa02caeb63 jw_a0cddbe894 jw_a731c8553d jw_e0e7ffaaeb jn_J9_min_f86c9 rfl (jj_le rfl) (jj_le rfl) (jj_le rfl) (jj_le rfl) (jj_le rfl) dX1_tryRedemption_67 rfl (fun w1 r O_42 => ?_)
                rcases O_42 with ⟨c_43, -, rfl⟩ | ⟨c_44, -, rfl⟩
                · refine jj_lstore C dX1_tryRedemption_70 (by decide) rfl ?_
                  refine jj_aload_n C dX1_tryRedemption_72 rfl ?_
                  refine jj_aload_n C dX1_tryRedemption_73 rfl ?_
                  refine jj_aload_n C dX1_tryRedemption_74 rfl ?_
                  refine tt_get C hok_19 jk_3 0 (by decide) jw_808194b586 (t := (2, 6, 0)) hk0 (by decide) rfl rfl dX1_tryRedemption_75 (fun v_45 hv_45 hf_46 => ?_)
                  obtain ⟨a_47, rfl, ka_47⟩ := tt_vr hv_45
                  refine jj_iload C dX1_tryRedemption_78 rfl ?_
                  refine tt_aald C hok_19 (t := (2, 2, 0)) ka_47 (by decide) rfl rfl rfl (vp_in_iff.mpr ⟨by omega, by omega⟩) dX1_tryRedemption_80 (fun v_48 hv_48 => ?_)
                  obtain ⟨a_49, rfl, ka_49⟩ := tt_vr hv_48
                  refine jj_aload C dX1_tryRedemption_81 rfl ?_
                  refine jj_lload C dX1_tryRedemption_83 rfl ?_
                  obtain ⟨qc, gs, hqc⟩ := tt_recv (cx := []) hok_19 hk0 (by decide) rfl
                  refine tt_callV (rest := []) C (tc_X1_quote_1 hl D cA ak h0 h1 a_49 a_14 y_41 hk0 hk1 ka_49 ka_14 hok_19) [] [] rfl rfl (by decide) (by decide) (by decide) qc hqc rfl rfl jw_1832e55719 jw_b1f9248fb6 jw_6c091437de jw_944cf9c3ab jw_9a9d59d9b6 jn_X1_quote rfl (jj_le rfl) (jj_le rfl) (jj_le rfl) (jj_le rfl) (jj_le rfl) dX1_tryRedemption_85 rfl (fun _ _ _ hX => hX.elim) (fun rx pl_50 r O_53 => ?_)
                  obtain ⟨rfl, hok_51, hr_52, hfa9, hR_55⟩ := O_53
                  replace hf_6 := hr_52.at hk1 (by decide) (by decide) hf_6
                  replace hf_11 := hr_52.at hk1 (by decide) (by decide) hf_11
                  replace hf_16 := hr_52.at ka_14 (by decide) (by decide) hf_16
                  replace hf_34 := hr_52.at ka_14 (by decide) (by decide) hf_34
                  replace hf_40 := hr_52.at ka_14 (by decide) (by decide) hf_40
                  replace hf_46 := hr_52.at hk0 (by decide) (by decide) hf_46
                  replace hfr := hfr.trans (hr_52.sub (by decide))
                  replace hfa := hfa.trans (hfa9.sub (by decide))
                  obtain rfl := hR_55
                  refine jj_aload_n C dX1_tryRedemption_88 rfl ?_
                  refine tt_getF C hok_51 jk_3 0 (by decide) jw_808194b586 (t := (2, 6, 0)) hk0 (by decide) rfl rfl hf_46 dX1_tryRedemption_89 ?_
                  refine jj_iload C dX1_tryRedemption_92 rfl ?_
                  refine tt_aald C hok_51 (t := (2, 2, 0)) ka_47 (by decide) rfl rfl rfl (vp_in_iff.mpr ⟨by omega, by omega⟩) dX1_tryRedemption_94 (fun v_58 hv_58 => ?_)
                  obtain ⟨a_59, rfl, ka_59⟩ := tt_vr hv_58
                  refine jj_dup C dX1_tryRedemption_95 rfl ?_
                  refine tt_get C hok_51 jk_9 2 (by decide) jw_a25c79ea7a (t := (1, (-9223372036854775808), 9223372036854775807)) ka_59 (by decide) rfl rfl dX1_tryRedemption_96 (fun v_60 hv_60 hf_61 => ?_)
                  obtain ⟨y_62, rfl, -, -⟩ := tt_vj hv_60
                  refine jj_aload_n C dX1_tryRedemption_99 rfl ?_
                  refine tt_get C hok_51 jk_3 1 (by decide) jw_d747bb1560 (t := (1, (-9223372036854775808), 9223372036854775807)) hk0 (by decide) rfl rfl dX1_tryRedemption_100 (fun v_63 hv_63 hf_64 => ?_)
                  obtain ⟨y_65, rfl, -, -⟩ := tt_vj hv_63
                  refine jj_aload_n C dX1_tryRedemption_103 rfl ?_
                  refine tt_get C hok_51 jk_3 2 (by decide) jw_771ad03ca8 (t := (1, (-9223372036854775808), 9223372036854775807)) hk0 (by decide) rfl rfl dX1_tryRedemption_104 (fun v_66 hv_66 hf_67 => ?_)
                  obtain ⟨y_68, rfl, -, -⟩ := tt_vj hv_66
                  obtain ⟨y_69, ey_69⟩ : ∃ z : Int64, y_65 + y_68 = z := ⟨_, rfl⟩
                  refine jj_ladd (v := y_69) C dX1_tryRedemption_107 ey_69 ?_
                  obtain ⟨y_70, ey_70⟩ : ∃ z : Int64, y_62 - y_69 = z := ⟨_, rfl⟩
                  refine jj_lsub (v := y_70) C dX1_tryRedemption_108 ey_70 ?_
                  refine rl_put C hok_51 jk_9 2 (by decide) jw_a25c79ea7a (t := (1, (-9223372036854775808), 9223372036854775807)) ka_59 (by decide) rfl rfl rfl (tt_ja y_70) rfl rfl dX1_tryRedemption_109 (fun pl_71 hok_72 tr hn tl => ?_)
                  replace hf_6 := tr _ _ _ (Or.inl (tt_ne hk1 ka_59 (by decide))) hf_6
                  replace hf_11 := tr _ _ _ (Or.inl (tt_ne hk1 ka_59 (by decide))) hf_11
                  replace hf_16 := tr _ _ _ (Or.inl (tt_ne ka_14 ka_59 (by decide))) hf_16
                  replace hf_34 := tr _ _ _ (Or.inl (tt_ne ka_14 ka_59 (by decide))) hf_34
                  replace hf_40 := tr _ _ _ (Or.inl (tt_ne ka_14 ka_59 (by decide))) hf_40
                  replace hf_46 := tr _ _ _ (Or.inl (tt_ne hk0 ka_59 (by decide))) hf_46
                  replace hf_64 := tr _ _ _ (Or.inl (tt_ne hk0 ka_59 (by decide))) hf_64
                  replace hf_67 := tr _ _ _ (Or.inl (tt_ne hk0 ka_59 (by decide))) hf_67
                  have hf_73 := hn
                  replace hfr := hfr.put ka_59 tr (by decide)
                  replace hfa := hfa.all tl
                  refine jj_aload_n C dX1_tryRedemption_112 rfl ?_
                  refine tt_getF C hok_72 jk_3 0 (by decide) jw_808194b586 (t := (2, 6, 0)) hk0 (by decide) rfl rfl hf_46 dX1_tryRedemption_113 ?_
                  refine jj_iload C dX1_tryRedemption_116 rfl ?_
                  refine tt_aald C hok_72 (t := (2, 2, 0)) ka_47 (by decide) rfl rfl rfl (vp_in_iff.mpr ⟨by omega, by omega⟩) dX1_tryRedemption_118 (fun v_74 hv_74 => ?_)
                  obtain ⟨a_75, rfl, ka_75⟩ := tt_vr hv_74
                  refine jj_dup C dX1_tryRedemption_119 rfl ?_
                  refine tt_get C hok_72 jk_9 3 (by decide) jw_df3b225d28 (t := (1, (-9223372036854775808), 9223372036854775807)) ka_75 (by decide) rfl rfl dX1_tryRedemption_120 (fun v_76 hv_76 hf_77 => ?_)
                  obtain ⟨y_78, rfl, -, -⟩ := tt_vj hv_76
                  refine jj_lload C dX1_tryRedemption_123 rfl ?_
                  obtain ⟨y_79, ey_79⟩ : ∃ z : Int64, y_78 - y_41 = z := ⟨_, rfl⟩
                  refine jj_lsub (v := y_79) C dX1_tryRedemption_125 ey_79 ?_
                  refine rl_put C hok_72 jk_9 3 (by decide) jw_df3b225d28 (t := (1, (-9223372036854775808), 9223372036854775807)) ka_75 (by decide) rfl rfl rfl (tt_ja y_79) rfl rfl dX1_tryRedemption_126 (fun pl_80 hok_81 tr hn tl => ?_)
                  replace hf_6 := tr _ _ _ (Or.inl (tt_ne hk1 ka_75 (by decide))) hf_6
                  replace hf_11 := tr _ _ _ (Or.inl (tt_ne hk1 ka_75 (by decide))) hf_11
                  replace hf_16 := tr _ _ _ (Or.inl (tt_ne ka_14 ka_75 (by decide))) hf_16
                  replace hf_34 := tr _ _ _ (Or.inl (tt_ne ka_14 ka_75 (by decide))) hf_34
                  replace hf_40 := tr _ _ _ (Or.inl (tt_ne ka_14 ka_75 (by decide))) hf_40
                  replace hf_46 := tr _ _ _ (Or.inl (tt_ne hk0 ka_75 (by decide))) hf_46
                  replace hf_64 := tr _ _ _ (Or.inl (tt_ne hk0 ka_75 (by decide))) hf_64
                  replace hf_67 := tr _ _ _ (Or.inl (tt_ne hk0 ka_75 (by decide))) hf_67
                  replace hf_73 := tr _ _ _ (Or.inr (by decide)) hf_73
                  have hf_82 := hn
                  replace hfr := hfr.put ka_75 tr (by decide)
                  replace hfa := hfa.all tl
                  refine jj_lload C dX1_tryRedemption_129 rfl ?_
                  refine jj_lload C dX1_tryRedemption_131 rfl ?_
                  obtain ⟨y_83, ey_83⟩ : ∃ z : Int64, y_3 - y_41 = z := ⟨_, rfl⟩
                  refine jj_lsub (v := y_83) C dX1_tryRedemption_133 ey_83 ?_
                  refine jj_lstore C dX1_tryRedemption_134 (by decide) rfl ?_
                  refine jj_lload C dX1_tryRedemption_136 rfl ?_
                  refine jj_iload C dX1_tryRedemption_138 rfl ?_
                  refine jj_if_eqF (tgt := 160) C dX1_tryRedemption_140 (by decide) (by decide) ?_
                  refine jj_aload_n C dX1_tryRedemption_143 rfl ?_
                  refine tt_getF C hok_81 jk_3 1 (by decide) jw_d747bb1560 (t := (1, (-9223372036854775808), 9223372036854775807)) hk0 (by decide) rfl rfl hf_64 dX1_tryRedemption_144 ?_
                  refine jj_aload_n C dX1_tryRedemption_147 rfl ?_
                  refine tt_get C hok_81 jk_3 4 (by decide) jw_21f29d6c44 (t := (1, (-9223372036854775808), 9223372036854775807)) hk0 (by decide) rfl rfl dX1_tryRedemption_148 (fun v_84 hv_84 hf_85 => ?_)
                  obtain ⟨y_86, rfl, -, -⟩ := tt_vj hv_84
                  obtain ⟨y_87, ey_87⟩ : ∃ z : Int64, y_65 + y_86 = z := ⟨_, rfl⟩
                  refine jj_ladd (v := y_87) C dX1_tryRedemption_151 ey_87 ?_
                  refine jj_aload_n C dX1_tryRedemption_152 rfl ?_
                  refine tt_get C hok_81 jk_3 5 (by decide) jw_e41f55c9ce (t := (1, (-9223372036854775808), 9223372036854775807)) hk0 (by decide) rfl rfl dX1_tryRedemption_153 (fun v_88 hv_88 hf_89 => ?_)
                  obtain ⟨y_90, rfl, -, -⟩ := tt_vj hv_88
                  obtain ⟨y_91, ey_91⟩ : ∃ z : Int64, y_87 - y_90 = z := ⟨_, rfl⟩
                  refine jj_lsub (v := y_91) C dX1_tryRedemption_156 ey_91 ?_
                  refine jj_goto (tgt := 164) C dX1_tryRedemption_157 (by decide) ?_
                  obtain ⟨y_92, ey_92⟩ : ∃ z : Int64, y_4 + y_91 = z := ⟨_, rfl⟩
                  refine jj_ladd (v := y_92) C dX1_tryRedemption_164 ey_92 ?_
                  refine jj_lstore C dX1_tryRedemption_165 (by decide) rfl ?_
                  obtain ⟨x_93, ex_93, vx_93⟩ := tt_inc (x := x_2) (n := 1) (by omega) (by omega)
                  refine jj_iinc (v := x_93) C dX1_tryRedemption_167 rfl ex_93 (by decide) rfl ?_
                  refine jj_goto (tgt := 9) C dX1_tryRedemption_170 (by decide) ?_
                  refine jj_loc [0, 2, 1, 6, 7, 8, 9, 10] rfl ?_
                  exact ihL_1 pl_80 x_93 y_83 y_92 hok_81 hfr hfa (by first | omega | decide | exact tt_lo _ | exact tt_hi _) (by first | omega | decide | exact tt_lo _ | exact tt_hi _) (by first | omega | decide | exact tt_lo _ | exact tt_hi _)
                · refine jj_lstore C dX1_tryRedemption_70 (by decide) rfl ?_
                  refine jj_aload_n C dX1_tryRedemption_72 rfl ?_
                  refine jj_aload_n C dX1_tryRedemption_73 rfl ?_
                  refine jj_aload_n C dX1_tryRedemption_74 rfl ?_
                  refine tt_get C hok_19 jk_3 0 (by decide) jw_808194b586 (t := (2, 6, 0)) hk0 (by decide) rfl rfl dX1_tryRedemption_75 (fun v_94 hv_94 hf_95 => ?_)
                  obtain ⟨a_96, rfl, ka_96⟩ := tt_vr hv_94
                  refine jj_iload C dX1_tryRedemption_78 rfl ?_
                  refine tt_aald C hok_19 (t := (2, 2, 0)) ka_96 (by decide) rfl rfl rfl (vp_in_iff.mpr ⟨by omega, by omega⟩) dX1_tryRedemption_80 (fun v_97 hv_97 => ?_)
                  obtain ⟨a_98, rfl, ka_98⟩ := tt_vr hv_97
                  refine jj_aload C dX1_tryRedemption_81 rfl ?_
                  refine jj_lload C dX1_tryRedemption_83 rfl ?_
                  obtain ⟨qc, gs, hqc⟩ := tt_recv (cx := []) hok_19 hk0 (by decide) rfl
                  refine tt_callV (rest := []) C (tc_X1_quote_1 hl D cA ak h0 h1 a_98 a_14 y_3 hk0 hk1 ka_98 ka_14 hok_19) [] [] rfl rfl (by decide) (by decide) (by decide) qc hqc rfl rfl jw_1832e55719 jw_b1f9248fb6 jw_6c091437de jw_944cf9c3ab jw_9a9d59d9b6 jn_X1_quote rfl (jj_le rfl) (jj_le rfl) (jj_le rfl) (jj_le rfl) (jj_le rfl) dX1_tryRedemption_85 rfl (fun _ _ _ hX => hX.elim) (fun rx pl_99 r O_102 => ?_)
                  obtain ⟨rfl, hok_100, hr_101, hfa9, hR_104⟩ := O_102
                  replace hf_6 := hr_101.at hk1 (by decide) (by decide) hf_6
                  replace hf_11 := hr_101.at hk1 (by decide) (by decide) hf_11
                  replace hf_16 := hr_101.at ka_14 (by decide) (by decide) hf_16
                  replace hf_34 := hr_101.at ka_14 (by decide) (by decide) hf_34
                  replace hf_40 := hr_101.at ka_14 (by decide) (by decide) hf_40
                  replace hf_95 := hr_101.at hk0 (by decide) (by decide) hf_95
                  replace hfr := hfr.trans (hr_101.sub (by decide))
                  replace hfa := hfa.trans (hfa9.sub (by decide))
                  obtain rfl := hR_104
                  refine jj_aload_n C dX1_tryRedemption_88 rfl ?_
                  refine tt_getF C hok_100 jk_3 0 (by decide) jw_808194b586 (t := (2, 6, 0)) hk0 (by decide) rfl rfl hf_95 dX1_tryRedemption_89 ?_
                  refine jj_iload C dX1_tryRedemption_92 rfl ?_
                  refine tt_aald C hok_100 (t := (2, 2, 0)) ka_96 (by decide) rfl rfl rfl (vp_in_iff.mpr ⟨by omega, by omega⟩) dX1_tryRedemption_94 (fun v_107 hv_107 => ?_)
                  obtain ⟨a_108, rfl, ka_108⟩ := tt_vr hv_107
                  refine jj_dup C dX1_tryRedemption_95 rfl ?_
                  refine tt_get C hok_100 jk_9 2 (by decide) jw_a25c79ea7a (t := (1, (-9223372036854775808), 9223372036854775807)) ka_108 (by decide) rfl rfl dX1_tryRedemption_96 (fun v_109 hv_109 hf_110 => ?_)
                  obtain ⟨y_111, rfl, -, -⟩ := tt_vj hv_109
                  refine jj_aload_n C dX1_tryRedemption_99 rfl ?_
                  refine tt_get C hok_100 jk_3 1 (by decide) jw_d747bb1560 (t := (1, (-9223372036854775808), 9223372036854775807)) hk0 (by decide) rfl rfl dX1_tryRedemption_100 (fun v_112 hv_112 hf_113 => ?_)
                  obtain ⟨y_114, rfl, -, -⟩ := tt_vj hv_112
                  refine jj_aload_n C dX1_tryRedemption_103 rfl ?_
                  refine tt_get C hok_100 jk_3 2 (by decide) jw_771ad03ca8 (t := (1, (-9223372036854775808), 9223372036854775807)) hk0 (by decide) rfl rfl dX1_tryRedemption_104 (fun v_115 hv_115 hf_116 => ?_)
                  obtain ⟨y_117, rfl, -, -⟩ := tt_vj hv_115
                  obtain ⟨y_118, ey_118⟩ : ∃ z : Int64, y_114 + y_117 = z := ⟨_, rfl⟩
                  refine jj_ladd (v := y_118) C dX1_tryRedemption_107 ey_118 ?_
                  obtain ⟨y_119, ey_119⟩ : ∃ z : Int64, y_111 - y_118 = z := ⟨_, rfl⟩
                  refine jj_lsub (v := y_119) C dX1_tryRedemption_108 ey_119 ?_
                  refine rl_put C hok_100 jk_9 2 (by decide) jw_a25c79ea7a (t := (1, (-9223372036854775808), 9223372036854775807)) ka_108 (by decide) rfl rfl rfl (tt_ja y_119) rfl rfl dX1_tryRedemption_109 (fun pl_120 hok_121 tr hn tl => ?_)
                  replace hf_6 := tr _ _ _ (Or.inl (tt_ne hk1 ka_108 (by decide))) hf_6
                  replace hf_11 := tr _ _ _ (Or.inl (tt_ne hk1 ka_108 (by decide))) hf_11
                  replace hf_16 := tr _ _ _ (Or.inl (tt_ne ka_14 ka_108 (by decide))) hf_16
                  replace hf_34 := tr _ _ _ (Or.inl (tt_ne ka_14 ka_108 (by decide))) hf_34
                  replace hf_40 := tr _ _ _ (Or.inl (tt_ne ka_14 ka_108 (by decide))) hf_40
                  replace hf_95 := tr _ _ _ (Or.inl (tt_ne hk0 ka_108 (by decide))) hf_95
                  replace hf_113 := tr _ _ _ (Or.inl (tt_ne hk0 ka_108 (by decide))) hf_113
                  replace hf_116 := tr _ _ _ (Or.inl (tt_ne hk0 ka_108 (by decide))) hf_116
                  have hf_122 := hn
                  replace hfr := hfr.put ka_108 tr (by decide)
                  replace hfa := hfa.all tl
                  refine jj_aload_n C dX1_tryRedemption_112 rfl ?_
                  refine tt_getF C hok_121 jk_3 0 (by decide) jw_808194b586 (t := (2, 6, 0)) hk0 (by decide) rfl rfl hf_95 dX1_tryRedemption_113 ?_
                  refine jj_iload C dX1_tryRedemption_116 rfl ?_
                  refine tt_aald C hok_121 (t := (2, 2, 0)) ka_96 (by decide) rfl rfl rfl (vp_in_iff.mpr ⟨by omega, by omega⟩) dX1_tryRedemption_118 (fun v_123 hv_123 => ?_)
                  obtain ⟨a_124, rfl, ka_124⟩ := tt_vr hv_123
                  refine jj_dup C dX1_tryRedemption_119 rfl ?_
                  refine tt_get C hok_121 jk_9 3 (by decide) jw_df3b225d28 (t := (1, (-9223372036854775808), 9223372036854775807)) ka_124 (by decide) rfl rfl dX1_tryRedemption_120 (fun v_125 hv_125 hf_126 => ?_)
                  obtain ⟨y_127, rfl, -, -⟩ := tt_vj hv_125
                  refine jj_lload C dX1_tryRedemption_123 rfl ?_
                  obtain ⟨y_128, ey_128⟩ : ∃ z : Int64, y_127 - y_3 = z := ⟨_, rfl⟩
                  refine jj_lsub (v := y_128) C dX1_tryRedemption_125 ey_128 ?_
                  refine rl_put C hok_121 jk_9 3 (by decide) jw_df3b225d28 (t := (1, (-9223372036854775808), 9223372036854775807)) ka_124 (by decide) rfl rfl rfl (tt_ja y_128) rfl rfl dX1_tryRedemption_126 (fun pl_129 hok_130 tr hn tl => ?_)
                  replace hf_6 := tr _ _ _ (Or.inl (tt_ne hk1 ka_124 (by decide))) hf_6
                  replace hf_11 := tr _ _ _ (Or.inl (tt_ne hk1 ka_124 (by decide))) hf_11
                  replace hf_16 := tr _ _ _ (Or.inl (tt_ne ka_14 ka_124 (by decide))) hf_16
                  replace hf_34 := tr _ _ _ (Or.inl (tt_ne ka_14 ka_124 (by decide))) hf_34
                  replace hf_40 := tr _ _ _ (Or.inl (tt_ne ka_14 ka_124 (by decide))) hf_40
                  replace hf_95 := tr _ _ _ (Or.inl (tt_ne hk0 ka_124 (by decide))) hf_95
                  replace hf_113 := tr _ _ _ (Or.inl (tt_ne hk0 ka_124 (by decide))) hf_113
                  replace hf_116 := tr _ _ _ (Or.inl (tt_ne hk0 ka_124 (by decide))) hf_116
                  replace hf_122 := tr _ _ _ (Or.inr (by decide)) hf_122
                  have hf_131 := hn
                  replace hfr := hfr.put ka_124 tr (by decide)
                  replace hfa := hfa.all tl
                  refine jj_lload C dX1_tryRedemption_129 rfl ?_
                  refine jj_lload C dX1_tryRedemption_131 rfl ?_
                  obtain ⟨y_132, ey_132⟩ : ∃ z : Int64, y_3 - y_3 = z := ⟨_, rfl⟩
                  refine jj_lsub (v := y_132) C dX1_tryRedemption_133 ey_132 ?_
                  refine jj_lstore C dX1_tryRedemption_134 (by decide) rfl ?_
                  refine jj_lload C dX1_tryRedemption_136 rfl ?_
                  refine jj_iload C dX1_tryRedemption_138 rfl ?_
                  refine jj_if_eqF (tgt := 160) C dX1_tryRedemption_140 (by decide) (by decide) ?_
                  refine jj_aload_n C dX1_tryRedemption_143 rfl ?_
                  refine tt_getF C hok_130 jk_3 1 (by decide) jw_d747bb1560 (t := (1, (-9223372036854775808), 9223372036854775807)) hk0 (by decide) rfl rfl hf_113 dX1_tryRedemption_144 ?_
                  refine jj_aload_n C dX1_tryRedemption_147 rfl ?_
                  refine tt_get C hok_130 jk_3 4 (by decide) jw_21f29d6c44 (t := (1, (-9223372036854775808), 9223372036854775807)) hk0 (by decide) rfl rfl dX1_tryRedemption_148 (fun v_133 hv_133 hf_134 => ?_)
                  obtain ⟨y_135, rfl, -, -⟩ := tt_vj hv_133
                  obtain ⟨y_136, ey_136⟩ : ∃ z : Int64, y_114 + y_135 = z := ⟨_, rfl⟩
                  refine jj_ladd (v := y_136) C dX1_tryRedemption_151 ey_136 ?_
                  refine jj_aload_n C dX1_tryRedemption_152 rfl ?_
                  refine tt_get C hok_130 jk_3 5 (by decide) jw_e41f55c9ce (t := (1, (-9223372036854775808), 9223372036854775807)) hk0 (by decide) rfl rfl dX1_tryRedemption_153 (fun v_137 hv_137 hf_138 => ?_)
                  obtain ⟨y_139, rfl, -, -⟩ := tt_vj hv_137
                  obtain ⟨y_140, ey_140⟩ : ∃ z : Int64, y_136 - y_139 = z := ⟨_, rfl⟩
                  refine jj_lsub (v := y_140) C dX1_tryRedemption_156 ey_140 ?_
                  refine jj_goto (tgt := 164) C dX1_tryRedemption_157 (by decide) ?_
                  obtain ⟨y_141, ey_141⟩ : ∃ z : Int64, y_4 + y_140 = z := ⟨_, rfl⟩
                  refine jj_ladd (v := y_141) C dX1_tryRedemption_164 ey_141 ?_
                  refine jj_lstore C dX1_tryRedemption_165 (by decide) rfl ?_
                  obtain ⟨x_142, ex_142, vx_142⟩ := tt_inc (x := x_2) (n := 1) (by omega) (by omega)
                  refine jj_iinc (v := x_142) C dX1_tryRedemption_167 rfl ex_142 (by decide) rfl ?_
                  refine jj_goto (tgt := 9) C dX1_tryRedemption_170 (by decide) ?_
                  refine jj_loc [0, 2, 1, 6, 7, 8, 9, 10] rfl ?_
                  exact ihL_1 pl_129 x_142 y_132 y_141 hok_130 hfr hfa (by first | omega | decide | exact tt_lo _ | exact tt_hi _) (by first | omega | decide | exact tt_lo _ | exact tt_hi _) (by first | omega | decide | exact tt_lo _ | exact tt_hi _)
  exact hL_1 _ pl0 (0 : Int32) (9223372036854775807 : Int64) (0 : Int64) trivial hok hfr hfa (by first | omega | decide | exact tt_lo _ | exact tt_hi _) (by first | omega | decide | exact tt_lo _ | exact tt_hi _) (Int.self_le_toNat _)

