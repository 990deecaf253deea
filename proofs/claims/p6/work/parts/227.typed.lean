set_option maxHeartbeats 4000000 in
set_option maxRecDepth 100000 in
theorem tc_X0_unitsHeldIn_5 {l : Launch} (hl : l.stackTraces = false) (D : va_G) (cA : Nat → ClassId) (ak : (Nat → Nat) × (Nat → Nat)) {Kd : Nat → Nat} (h0 : Nat) (p1 : Int32) (p2 : Int32) (hk0 : Kd h0 = 1) (lp1 : (0 : Int) ≤ p1.toInt) (up1 : p1.toInt ≤ 6) {pl0 : va_W} (hok : tt_ok tt_tk cA Kd pl0) : jj_M l D cA ak yX0_unitsHeldIn (.code yX0_unitsHeldIn cX0_unitsHeldIn 6 (some .long)) 0 0 0 0 ([] ++ pl0) [.ref h0, .int p1, .int p2] (tt_O (fun rx pl1 r => rx = [] ∧ tt_ok tt_tk cA Kd pl1 ∧ tt_fr Kd [] pl0 pl1 ∧ tt_fa Kd [] pl0 pl1 ∧ ((∃ v : Int64, r = some (.long v))))) (tt_OX (fun _ _ _ => False)) := by
  refine jj_start hl (by decide) jw_f5d838650a (jj_le rfl) ?_
  intro p e s m args below meth c A hargs hA C hex hmn
  have hfr := tt_fr.refl (K := Kd) (WS := []) pl0
  have hfa := tt_fa.refl (K := Kd) (WA := []) pl0
  have lp2 := tt_lo p2
  have up2 := tt_hi p2
  refine jj_lconst (v := 0) C dX0_unitsHeldIn_0 (by decide) ?_
  refine jj_lstore_n C dX0_unitsHeldIn_1 (by decide) rfl ?_
  refine jj_iconst (v := 0) C dX0_unitsHeldIn_2 (by decide) ?_
  refine jj_istore C dX0_unitsHeldIn_3 (by decide) rfl ?_
  have hL_1 : ∀ (N : Nat) (pl : va_W) (x_2 : Int32) (y_3 : Int64), True → tt_ok tt_tk cA Kd pl → tt_fr Kd [] pl0 pl → tt_fa Kd [] pl0 pl → (0 : Int) ≤ x_2.toInt → x_2.toInt ≤ 40 → (2147483648 - x_2.toInt ≤ (N : Int)) → jj_J p l e (jj_rm 0 0 0 0) s m args below meth c 6 A (vx_MQ below (jj_q D A (tt_O (fun rx pl1 r => rx = [] ∧ tt_ok tt_tk cA Kd pl1 ∧ tt_fr Kd [] pl0 pl1 ∧ tt_fa Kd [] pl0 pl1 ∧ ((∃ v : Int64, r = some (.long v)))))) (jj_x D A (tt_OX (fun _ _ _ => False))) args s 0 0 A) (jj_X D A ([] ++ pl)) 0 0 5 [(5, .int x_2), (3, .long y_3), (0, .ref h0), (1, .int p1), (2, .int p2)] [] := by
    intro NL_1
    induction NL_1 with
    | zero => intro pl x_2 y_3 _ hok hfr hfa lx_2 ux_2 hNL_1; exfalso; omega
    | succ NL_1 ihL_1 =>
      intro pl x_2 y_3 _ hok hfr hfa lx_2 ux_2 hNL_1
      replace ihL_1 := fun pl x_2 y_3 h1 => ihL_1 pl x_2 y_3 trivial h1
      refine jj_iload C dX0_unitsHeldIn_5 rfl ?_
      refine jj_aload_n C dX0_unitsHeldIn_7 rfl ?_
      refine tt_get C hok jk_2 8 (by decide) jw_9d0ccd4490 (t := (0, 0, 40)) hk0 (by decide) rfl rfl dX0_unitsHeldIn_8 (fun v_4 hv_4 hf_5 => ?_)
      obtain ⟨x_6, rfl, lx_6, ux_6⟩ := tt_vi hv_4
      refine jj_icmp_ge (tgt := 61) C dX0_unitsHeldIn_11 (by decide) (fun c_7 => ?_) (fun c_7 => ?_)
      · have z_c_7 := jc_le (a := (x_6).toInt) (b := (x_2).toInt) c_7 rfl rfl
        refine jj_lload_n C dX0_unitsHeldIn_61 rfl ?_
        exact jj_lret C ⟨[], pl, rfl, rfl, hok, hfr, hfa, ⟨y_3, rfl⟩⟩ dX0_unitsHeldIn_62 (jj_le rfl) (jj_le rfl)
      · have z_c_7 := jc_nle (a := (x_6).toInt) (b := (x_2).toInt) c_7 rfl rfl
        refine jj_aload_n C dX0_unitsHeldIn_14 rfl ?_
        refine tt_get C hok jk_2 12 (by decide) jw_5f730213e9 (t := (2, 7, 0)) hk0 (by decide) rfl rfl dX0_unitsHeldIn_15 (fun v_8 hv_8 hf_9 => ?_)
        obtain ⟨a_10, rfl, ka_10⟩ := tt_vr hv_8
        refine jj_iload C dX0_unitsHeldIn_18 rfl ?_
        refine tt_aald C hok (t := (2, 3, 0)) ka_10 (by decide) rfl rfl rfl (vp_in_iff.mpr ⟨by omega, by omega⟩) dX0_unitsHeldIn_20 (fun v_11 hv_11 => ?_)
        obtain ⟨a_12, rfl, ka_12⟩ := tt_vr hv_11
        refine tt_get C hok jk_5 0 (by decide) jw_89374484be (t := (0, (-2147483648), 2147483647)) ka_12 (by decide) rfl rfl dX0_unitsHeldIn_21 (fun v_13 hv_13 hf_14 => ?_)
        obtain ⟨x_15, rfl, lx_15, ux_15⟩ := tt_vi hv_13
        refine jj_iload_n C dX0_unitsHeldIn_24 rfl ?_
        refine jj_icmp_ne (tgt := 55) C dX0_unitsHeldIn_25 (by decide) (fun c_16 => ?_) (fun c_16 => ?_)
        · have z_c_16 := jc_neq (a := (x_15).toInt) (b := (p1).toInt) c_16 rfl rfl
          obtain ⟨x_17, ex_17, vx_17⟩ := tt_inc (x := x_2) (n := 1) (by omega) (by omega)
          refine jj_iinc (v := x_17) C dX0_unitsHeldIn_55 rfl ex_17 (by decide) rfl ?_
          refine jj_goto (tgt := 5) C dX0_unitsHeldIn_58 (by decide) ?_
          exact ihL_1 pl x_17 y_3 hok hfr hfa (by first | omega | decide | exact tt_lo _ | exact tt_hi _) (by first | omega | decide | exact tt_lo _ | exact tt_hi _) (by first | omega | decide | exact tt_lo _ | exact tt_hi _)
        · have z_c_16 := jc_eq (a := (x_15).toInt) (b := (p1).toInt) c_16 rfl rfl
          refine jj_aload_n C dX0_unitsHeldIn_28 rfl ?_
          refine tt_getF C hok jk_2 12 (by decide) jw_5f730213e9 (t := (2, 7, 0)) hk0 (by decide) rfl rfl hf_9 dX0_unitsHeldIn_29 ?_
          refine jj_iload C dX0_unitsHeldIn_32 rfl ?_
          refine tt_aald C hok (t := (2, 3, 0)) ka_10 (by decide) rfl rfl rfl (vp_in_iff.mpr ⟨by omega, by omega⟩) dX0_unitsHeldIn_34 (fun v_18 hv_18 => ?_)
          obtain ⟨a_19, rfl, ka_19⟩ := tt_vr hv_18
          refine tt_get C hok jk_5 1 (by decide) jw_53dba63b8f (t := (0, (-2147483648), 2147483647)) ka_19 (by decide) rfl rfl dX0_unitsHeldIn_35 (fun v_20 hv_20 hf_21 => ?_)
          obtain ⟨x_22, rfl, lx_22, ux_22⟩ := tt_vi hv_20
          refine jj_iload_n C dX0_unitsHeldIn_38 rfl ?_
          refine jj_icmp_ne (tgt := 55) C dX0_unitsHeldIn_39 (by decide) (fun c_23 => ?_) (fun c_23 => ?_)
          · have z_c_23 := jc_neq (a := (x_22).toInt) (b := (p2).toInt) c_23 rfl rfl
            obtain ⟨x_24, ex_24, vx_24⟩ := tt_inc (x := x_2) (n := 1) (by omega) (by omega)
            refine jj_iinc (v := x_24) C dX0_unitsHeldIn_55 rfl ex_24 (by decide) rfl ?_
            refine jj_goto (tgt := 5) C dX0_unitsHeldIn_58 (by decide) ?_
            exact ihL_1 pl x_24 y_3 hok hfr hfa (by first | omega | decide | exact tt_lo _ | exact tt_hi _) (by first | omega | decide | exact tt_lo _ | exact tt_hi _) (by first | omega | decide | exact tt_lo _ | exact tt_hi _)
          · have z_c_23 := jc_eq (a := (x_22).toInt) (b := (p2).toInt) c_23 rfl rfl
            refine jj_lload_n C dX0_unitsHeldIn_42 rfl ?_
            refine jj_aload_n C dX0_unitsHeldIn_43 rfl ?_
            refine tt_getF C hok jk_2 12 (by decide) jw_5f730213e9 (t := (2, 7, 0)) hk0 (by decide) rfl rfl hf_9 dX0_unitsHeldIn_44 ?_
            refine jj_iload C dX0_unitsHeldIn_47 rfl ?_
            refine tt_aald C hok (t := (2, 3, 0)) ka_10 (by decide) rfl rfl rfl (vp_in_iff.mpr ⟨by omega, by omega⟩) dX0_unitsHeldIn_49 (fun v_25 hv_25 => ?_)
            obtain ⟨a_26, rfl, ka_26⟩ := tt_vr hv_25
            refine tt_get C hok jk_5 3 (by decide) jw_1f6afd9b6f (t := (1, (-9223372036854775808), 9223372036854775807)) ka_26 (by decide) rfl rfl dX0_unitsHeldIn_50 (fun v_27 hv_27 hf_28 => ?_)
            obtain ⟨y_29, rfl, -, -⟩ := tt_vj hv_27
            obtain ⟨y_30, ey_30⟩ : ∃ z : Int64, y_3 + y_29 = z := ⟨_, rfl⟩
            refine jj_ladd (v := y_30) C dX0_unitsHeldIn_53 ey_30 ?_
            refine jj_lstore_n C dX0_unitsHeldIn_54 (by decide) rfl ?_
            obtain ⟨x_31, ex_31, vx_31⟩ := tt_inc (x := x_2) (n := 1) (by omega) (by omega)
            refine jj_iinc (v := x_31) C dX0_unitsHeldIn_55 rfl ex_31 (by decide) rfl ?_
            refine jj_goto (tgt := 5) C dX0_unitsHeldIn_58 (by decide) ?_
            exact ihL_1 pl x_31 y_30 hok hfr hfa (by first | omega | decide | exact tt_lo _ | exact tt_hi _) (by first | omega | decide | exact tt_lo _ | exact tt_hi _) (by first | omega | decide | exact tt_lo _ | exact tt_hi _)
  exact hL_1 _ pl0 (0 : Int32) (0 : Int64) trivial hok hfr hfa (by first | omega | decide | exact tt_lo _ | exact tt_hi _) (by first | omega | decide | exact tt_lo _ | exact tt_hi _) (Int.self_le_toNat _)

set_option maxHeartbeats 4000000 in
set_option maxRecDepth 100000 in
theorem tc_X0_unitsHeldIn_6 {l : Launch} (hl : l.stackTraces = false) (D : va_G) (cA : Nat → ClassId) (ak : (Nat → Nat) × (Nat → Nat)) {Kd : Nat → Nat} (h0 : Nat) (p1 : Int32) (p2 : Int32) (hk0 : Kd h0 = 1) (lp1 : (0 : Int) ≤ p1.toInt) (up1 : p1.toInt ≤ 9) {pl0 : va_W} (hok : tt_ok tt_tk cA Kd pl0) : jj_M l D cA ak yX0_unitsHeldIn (.code yX0_unitsHeldIn cX0_unitsHeldIn 6 (some .long)) 0 0 0 0 ([] ++ pl0) [.ref h0, .int p1, .int p2] (tt_O (fun rx pl1 r => rx = [] ∧ tt_ok tt_tk cA Kd pl1 ∧ tt_fr Kd [] pl0 pl1 ∧ tt_fa Kd [] pl0 pl1 ∧ ((∃ v : Int64, r = some (.long v))))) (tt_OX (fun _ _ _ => False)) := by
  refine jj_start hl (by decide) jw_f5d838650a (jj_le rfl) ?_
  intro p e s m args below meth c A hargs hA C hex hmn
  have hfr := tt_fr.refl (K := Kd) (WS := []) pl0
  have hfa := tt_fa.refl (K := Kd) (WA := []) pl0
  have lp2 := tt_lo p2
  have up2 := tt_hi p2
  refine jj_lconst (v := 0) C dX0_unitsHeldIn_0 (by decide) ?_
  refine jj_lstore_n C dX0_unitsHeldIn_1 (by decide) rfl ?_
  refine jj_iconst (v := 0) C dX0_unitsHeldIn_2 (by decide) ?_
  refine jj_istore C dX0_unitsHeldIn_3 (by decide) rfl ?_
  have hL_1 : ∀ (N : Nat) (pl : va_W) (x_2 : Int32) (y_3 : Int64), True → tt_ok tt_tk cA Kd pl → tt_fr Kd [] pl0 pl → tt_fa Kd [] pl0 pl → (0 : Int) ≤ x_2.toInt → x_2.toInt ≤ 40 → (2147483648 - x_2.toInt ≤ (N : Int)) → jj_J p l e (jj_rm 0 0 0 0) s m args below meth c 6 A (vx_MQ below (jj_q D A (tt_O (fun rx pl1 r => rx = [] ∧ tt_ok tt_tk cA Kd pl1 ∧ tt_fr Kd [] pl0 pl1 ∧ tt_fa Kd [] pl0 pl1 ∧ ((∃ v : Int64, r = some (.long v)))))) (jj_x D A (tt_OX (fun _ _ _ => False))) args s 0 0 A) (jj_X D A ([] ++ pl)) 0 0 5 [(5, .int x_2), (3, .long y_3), (0, .ref h0), (1, .int p1), (2, .int p2)] [] := by
    intro NL_1
    induction NL_1 with
    | zero => intro pl x_2 y_3 _ hok hfr hfa lx_2 ux_2 hNL_1; exfalso; omega
    | succ NL_1 ihL_1 =>
      intro pl x_2 y_3 _ hok hfr hfa lx_2 ux_2 hNL_1
      replace ihL_1 := fun pl x_2 y_3 h1 => ihL_1 pl x_2 y_3 trivial h1
      refine jj_iload C dX0_unitsHeldIn_5 rfl ?_
      refine jj_aload_n C dX0_unitsHeldIn_7 rfl ?_
      refine tt_get C hok jk_2 8 (by decide) jw_9d0ccd4490 (t := (0, 0, 40)) hk0 (by decide) rfl rfl dX0_unitsHeldIn_8 (fun v_4 hv_4 hf_5 => ?_)
      obtain ⟨x_6, rfl, lx_6, ux_6⟩ := tt_vi hv_4
      refine jj_icmp_ge (tgt := 61) C dX0_unitsHeldIn_11 (by decide) (fun c_7 => ?_) (fun c_7 => ?_)
      · have z_c_7 := jc_le (a := (x_6).toInt) (b := (x_2).toInt) c_7 rfl rfl
        refine jj_lload_n C dX0_unitsHeldIn_61 rfl ?_
        exact jj_lret C ⟨[], pl, rfl, rfl, hok, hfr, hfa, ⟨y_3, rfl⟩⟩ dX0_unitsHeldIn_62 (jj_le rfl) (jj_le rfl)
      · have z_c_7 := jc_nle (a := (x_6).toInt) (b := (x_2).toInt) c_7 rfl rfl
        refine jj_aload_n C dX0_unitsHeldIn_14 rfl ?_
        refine tt_get C hok jk_2 12 (by decide) jw_5f730213e9 (t := (2, 7, 0)) hk0 (by decide) rfl rfl dX0_unitsHeldIn_15 (fun v_8 hv_8 hf_9 => ?_)
        obtain ⟨a_10, rfl, ka_10⟩ := tt_vr hv_8
        refine jj_iload C dX0_unitsHeldIn_18 rfl ?_
        refine tt_aald C hok (t := (2, 3, 0)) ka_10 (by decide) rfl rfl rfl (vp_in_iff.mpr ⟨by omega, by omega⟩) dX0_unitsHeldIn_20 (fun v_11 hv_11 => ?_)
        obtain ⟨a_12, rfl, ka_12⟩ := tt_vr hv_11
        refine tt_get C hok jk_5 0 (by decide) jw_89374484be (t := (0, (-2147483648), 2147483647)) ka_12 (by decide) rfl rfl dX0_unitsHeldIn_21 (fun v_13 hv_13 hf_14 => ?_)
        obtain ⟨x_15, rfl, lx_15, ux_15⟩ := tt_vi hv_13
        refine jj_iload_n C dX0_unitsHeldIn_24 rfl ?_
        refine jj_icmp_ne (tgt := 55) C dX0_unitsHeldIn_25 (by decide) (fun c_16 => ?_) (fun c_16 => ?_)
        · have z_c_16 := jc_neq (a := (x_15).toInt) (b := (p1).toInt) c_16 rfl rfl
          obtain ⟨x_17, ex_17, vx_17⟩ := tt_inc (x := x_2) (n := 1) (by omega) (by omega)
          refine jj_iinc (v := x_17) C dX0_unitsHeldIn_55 rfl ex_17 (by decide) rfl ?_
          refine jj_goto (tgt := 5) C dX0_unitsHeldIn_58 (by decide) ?_
          exact ihL_1 pl x_17 y_3 hok hfr hfa (by first | omega | decide | exact tt_lo _ | exact tt_hi _) (by first | omega | decide | exact tt_lo _ | exact tt_hi _) (by first | omega | decide | exact tt_lo _ | exact tt_hi _)
        · have z_c_16 := jc_eq (a := (x_15).toInt) (b := (p1).toInt) c_16 rfl rfl
          refine jj_aload_n C dX0_unitsHeldIn_28 rfl ?_
          refine tt_getF C hok jk_2 12 (by decide) jw_5f730213e9 (t := (2, 7, 0)) hk0 (by decide) rfl rfl hf_9 dX0_unitsHeldIn_29 ?_
          refine jj_iload C dX0_unitsHeldIn_32 rfl ?_
          refine tt_aald C hok (t := (2, 3, 0)) ka_10 (by decide) rfl rfl rfl (vp_in_iff.mpr ⟨by omega, by omega⟩) dX0_unitsHeldIn_34 (fun v_18 hv_18 => ?_)
          obtain ⟨a_19, rfl, ka_19⟩ := tt_vr hv_18
          refine tt_get C hok jk_5 1 (by decide) jw_53dba63b8f (t := (0, (-2147483648), 2147483647)) ka_19 (by decide) rfl rfl dX0_unitsHeldIn_35 (fun v_20 hv_20 hf_21 => ?_)
          obtain ⟨x_22, rfl, lx_22, ux_22⟩ := tt_vi hv_20
          refine jj_iload_n C dX0_unitsHeldIn_38 rfl ?_
          refine jj_icmp_ne (tgt := 55) C dX0_unitsHeldIn_39 (by decide) (fun c_23 => ?_) (fun c_23 => ?_)
          · have z_c_23 := jc_neq (a := (x_22).toInt) (b := (p2).toInt) c_23 rfl rfl
            obtain ⟨x_24, ex_24, vx_24⟩ := tt_inc (x := x_2) (n := 1) (by omega) (by omega)
            refine jj_iinc (v := x_24) C dX0_unitsHeldIn_55 rfl ex_24 (by decide) rfl ?_
            refine jj_goto (tgt := 5) C dX0_unitsHeldIn_58 (by decide) ?_
            exact ihL_1 pl x_24 y_3 hok hfr hfa (by first | omega | decide | exact tt_lo _ | exact tt_hi _) (by first | omega | decide | exact tt_lo _ | exact tt_hi _) (by first | omega | decide | exact tt_lo _ | exact tt_hi _)
          · have z_c_23 := jc_eq (a := (x_22).toInt) (b := (p2).toInt) c_23 rfl rfl
            refine jj_lload_n C dX0_unitsHeldIn_42 rfl ?_
            refine jj_aload_n C dX0_unitsHeldIn_43 rfl ?_
            refine tt_getF C hok jk_2 12 (by decide) jw_5f730213e9 (t := (2, 7, 0)) hk0 (by decide) rfl rfl hf_9 dX0_unitsHeldIn_44 ?_
            refine jj_iload C dX0_unitsHeldIn_47 rfl ?_
            refine tt_aald C hok (t := (2, 3, 0)) ka_10 (by decide) rfl rfl rfl (vp_in_iff.mpr ⟨by omega, by omega⟩) dX0_unitsHeldIn_49 (fun v_25 hv_25 => ?_)
            obtain ⟨a_26, rfl, ka_26⟩ := tt_vr hv_25
            refine tt_get C hok jk_5 3 (by decide) jw_1f6afd9b6f (t := (1, (-9223372036854775808), 9223372036854775807)) ka_26 (by decide) rfl rfl dX0_unitsHeldIn_50 (fun v_27 hv_27 hf_28 => ?_)
            obtain ⟨y_29, rfl, -, -⟩ := tt_vj hv_27
            obtain ⟨y_30, ey_30⟩ : ∃ z : Int64, y_3 + y_29 = z := ⟨_, rfl⟩
            refine jj_ladd (v := y_30) C dX0_unitsHeldIn_53 ey_30 ?_
            refine jj_lstore_n C dX0_unitsHeldIn_54 (by decide) rfl ?_
            obtain ⟨x_31, ex_31, vx_31⟩ := tt_inc (x := x_2) (n := 1) (by omega) (by omega)
            refine jj_iinc (v := x_31) C dX0_unitsHeldIn_55 rfl ex_31 (by decide) rfl ?_
            refine jj_goto (tgt := 5) C dX0_unitsHeldIn_58 (by decide) ?_
            exact ihL_1 pl x_31 y_30 hok hfr hfa (by first | omega | decide | exact tt_lo _ | exact tt_hi _) (by first | omega | decide | exact tt_lo _ | exact tt_hi _) (by first | omega | decide | exact tt_lo _ | exact tt_hi _)
  exact hL_1 _ pl0 (0 : Int32) (0 : Int64) trivial hok hfr hfa (by first | omega | decide | exact tt_lo _ | exact tt_hi _) (by first | omega | decide | exact tt_lo _ | exact tt_hi _) (Int.self_le_toNat _)

set_option maxHeartbeats 4000000 in
set_option maxRecDepth 100000 in
theorem tc_X0_unitsHeldIn_7 {l : Launch} (hl : l.stackTraces = false) (D : va_G) (cA : Nat → ClassId) (ak : (Nat → Nat) × (Nat → Nat)) {Kd : Nat → Nat} (h0 : Nat) (p1 : Int32) (p2 : Int32) (hk0 : Kd h0 = 1) (lp1 : (0 : Int) ≤ p1.toInt) (up1 : p1.toInt ≤ 10) {pl0 : va_W} (hok : tt_ok tt_tk cA Kd pl0) : jj_M l D cA ak yX0_unitsHeldIn (.code yX0_unitsHeldIn cX0_unitsHeldIn 6 (some .long)) 0 0 0 0 ([] ++ pl0) [.ref h0, .int p1, .int p2] (tt_O (fun rx pl1 r => rx = [] ∧ tt_ok tt_tk cA Kd pl1 ∧ tt_fr Kd [] pl0 pl1 ∧ tt_fa Kd [] pl0 pl1 ∧ ((∃ v : Int64, r = some (.long v))))) (tt_OX (fun _ _ _ => False)) := by
  refine jj_start hl (by decide) jw_f5d838650a (jj_le rfl) ?_
  intro p e s m args below meth c A hargs hA C hex hmn
  have hfr := tt_fr.refl (K := Kd) (WS := []) pl0
  have hfa := tt_fa.refl (K := Kd) (WA := []) pl0
  have lp2 := tt_lo p2
  have up2 := tt_hi p2
  refine jj_lconst (v := 0) C dX0_unitsHeldIn_0 (by decide) ?_
  refine jj_lstore_n C dX0_unitsHeldIn_1 (by decide) rfl ?_
  refine jj_iconst (v := 0) C dX0_unitsHeldIn_2 (by decide) ?_
  refine jj_istore C dX0_unitsHeldIn_3 (by decide) rfl ?_
  have hL_1 : ∀ (N : Nat) (pl : va_W) (x_2 : Int32) (y_3 : Int64), True → tt_ok tt_tk cA Kd pl → tt_fr Kd [] pl0 pl → tt_fa Kd [] pl0 pl → (0 : Int) ≤ x_2.toInt → x_2.toInt ≤ 40 → (2147483648 - x_2.toInt ≤ (N : Int)) → jj_J p l e (jj_rm 0 0 0 0) s m args below meth c 6 A (vx_MQ below (jj_q D A (tt_O (fun rx pl1 r => rx = [] ∧ tt_ok tt_tk cA Kd pl1 ∧ tt_fr Kd [] pl0 pl1 ∧ tt_fa Kd [] pl0 pl1 ∧ ((∃ v : Int64, r = some (.long v)))))) (jj_x D A (tt_OX (fun _ _ _ => False))) args s 0 0 A) (jj_X D A ([] ++ pl)) 0 0 5 [(5, .int x_2), (3, .long y_3), (0, .ref h0), (1, .int p1), (2, .int p2)] [] := by
    intro NL_1
    induction NL_1 with
    | zero => intro pl x_2 y_3 _ hok hfr hfa lx_2 ux_2 hNL_1; exfalso; omega
    | succ NL_1 ihL_1 =>
      intro pl x_2 y_3 _ hok hfr hfa lx_2 ux_2 hNL_1
      replace ihL_1 := fun pl x_2 y_3 h1 => ihL_1 pl x_2 y_3 trivial h1
      refine jj_iload C dX0_unitsHeldIn_5 rfl ?_
      refine jj_aload_n C dX0_unitsHeldIn_7 rfl ?_
      refine tt_get C hok jk_2 8 (by decide) jw_9d0ccd4490 (t := (0, 0, 40)) hk0 (by decide) rfl rfl dX0_unitsHeldIn_8 (fun v_4 hv_4 hf_5 => ?_)
      obtain ⟨x_6, rfl, lx_6, ux_6⟩ := tt_vi hv_4
      refine jj_icmp_ge (tgt := 61) C dX0_unitsHeldIn_11 (by decide) (fun c_7 => ?_) (fun c_7 => ?_)
      · have z_c_7 := jc_le (a := (x_6).toInt) (b := (x_2).toInt) c_7 rfl rfl
        refine jj_lload_n C dX0_unitsHeldIn_61 rfl ?_
        exact jj_lret C ⟨[], pl, rfl, rfl, hok, hfr, hfa, ⟨y_3, rfl⟩⟩ dX0_unitsHeldIn_62 (jj_le rfl) (jj_le rfl)
      · have z_c_7 := jc_nle (a := (x_6).toInt) (b := (x_2).toInt) c_7 rfl rfl
        refine jj_aload_n C dX0_unitsHeldIn_14 rfl ?_
        refine tt_get C hok jk_2 12 (by decide) jw_5f730213e9 (t := (2, 7, 0)) hk0 (by decide) rfl rfl dX0_unitsHeldIn_15 (fun v_8 hv_8 hf_9 => ?_)
        obtain ⟨a_10, rfl, ka_10⟩ := tt_vr hv_8
        refine jj_iload C dX0_unitsHeldIn_18 rfl ?_
        refine tt_aald C hok (t := (2, 3, 0)) ka_10 (by decide) rfl rfl rfl (vp_in_iff.mpr ⟨by omega, by omega⟩) dX0_unitsHeldIn_20 (fun v_11 hv_11 => ?_)
        obtain ⟨a_12, rfl, ka_12⟩ := tt_vr hv_11
        refine tt_get C hok jk_5 0 (by decide) jw_89374484be (t := (0, (-2147483648), 2147483647)) ka_12 (by decide) rfl rfl dX0_unitsHeldIn_21 (fun v_13 hv_13 hf_14 => ?_)
        obtain ⟨x_15, rfl, lx_15, ux_15⟩ := tt_vi hv_13
        refine jj_iload_n C dX0_unitsHeldIn_24 rfl ?_
        refine jj_icmp_ne (tgt := 55) C dX0_unitsHeldIn_25 (by decide) (fun c_16 => ?_) (fun c_16 => ?_)
        · have z_c_16 := jc_neq (a := (x_15).toInt) (b := (p1).toInt) c_16 rfl rfl
          obtain ⟨x_17, ex_17, vx_17⟩ := tt_inc (x := x_2) (n := 1) (by omega) (by omega)
          refine jj_iinc (v := x_17) C dX0_unitsHeldIn_55 rfl ex_17 (by decide) rfl ?_
          refine jj_goto (tgt := 5) C dX0_unitsHeldIn_58 (by decide) ?_
          exact ihL_1 pl x_17 y_3 hok hfr hfa (by first | omega | decide | exact tt_lo _ | exact tt_hi _) (by first | omega | decide | exact tt_lo _ | exact tt_hi _) (by first | omega | decide | exact tt_lo _ | exact tt_hi _)
        · have z_c_16 := jc_eq (a := (x_15).toInt) (b := (p1).toInt) c_16 rfl rfl
          refine jj_aload_n C dX0_unitsHeldIn_28 rfl ?_
          refine tt_getF C hok jk_2 12 (by decide) jw_5f730213e9 (t := (2, 7, 0)) hk0 (by decide) rfl rfl hf_9 dX0_unitsHeldIn_29 ?_
          refine jj_iload C dX0_unitsHeldIn_32 rfl ?_
          refine tt_aald C hok (t := (2, 3, 0)) ka_10 (by decide) rfl rfl rfl (vp_in_iff.mpr ⟨by omega, by omega⟩) dX0_unitsHeldIn_34 (fun v_18 hv_18 => ?_)
          obtain ⟨a_19, rfl, ka_19⟩ := tt_vr hv_18
          refine tt_get C hok jk_5 1 (by decide) jw_53dba63b8f (t := (0, (-2147483648), 2147483647)) ka_19 (by decide) rfl rfl dX0_unitsHeldIn_35 (fun v_20 hv_20 hf_21 => ?_)
          obtain ⟨x_22, rfl, lx_22, ux_22⟩ := tt_vi hv_20
          refine jj_iload_n C dX0_unitsHeldIn_38 rfl ?_
          refine jj_icmp_ne (tgt := 55) C dX0_unitsHeldIn_39 (by decide) (fun c_23 => ?_) (fun c_23 => ?_)
          · have z_c_23 := jc_neq (a := (x_22).toInt) (b := (p2).toInt) c_23 rfl rfl
            obtain ⟨x_24, ex_24, vx_24⟩ := tt_inc (x := x_2) (n := 1) (by omega) (by omega)
            refine jj_iinc (v := x_24) C dX0_unitsHeldIn_55 rfl ex_24 (by decide) rfl ?_
            refine jj_goto (tgt := 5) C dX0_unitsHeldIn_58 (by decide) ?_
            exact ihL_1 pl x_24 y_3 hok hfr hfa (by first | omega | decide | exact tt_lo _ | exact tt_hi _) (by first | omega | decide | exact tt_lo _ | exact tt_hi _) (by first | omega | decide | exact tt_lo _ | exact tt_hi _)
          · have z_c_23 := jc_eq (a := (x_22).toInt) (b := (p2).toInt) c_23 rfl rfl
            refine jj_lload_n C dX0_unitsHeldIn_42 rfl ?_
            refine jj_aload_n C dX0_unitsHeldIn_43 rfl ?_
            refine tt_getF C hok jk_2 12 (by decide) jw_5f730213e9 (t := (2, 7, 0)) hk0 (by decide) rfl rfl hf_9 dX0_unitsHeldIn_44 ?_
            refine jj_iload C dX0_unitsHeldIn_47 rfl ?_
            refine tt_aald C hok (t := (2, 3, 0)) ka_10 (by decide) rfl rfl rfl (vp_in_iff.mpr ⟨by omega, by omega⟩) dX0_unitsHeldIn_49 (fun v_25 hv_25 => ?_)
            obtain ⟨a_26, rfl, ka_26⟩ := tt_vr hv_25
            refine tt_get C hok jk_5 3 (by decide) jw_1f6afd9b6f (t := (1, (-9223372036854775808), 9223372036854775807)) ka_26 (by decide) rfl rfl dX0_unitsHeldIn_50 (fun v_27 hv_27 hf_28 => ?_)
            obtain ⟨y_29, rfl, -, -⟩ := tt_vj hv_27
            obtain ⟨y_30, ey_30⟩ : ∃ z : Int64, y_3 + y_29 = z := ⟨_, rfl⟩
            refine jj_ladd (v := y_30) C dX0_unitsHeldIn_53 ey_30 ?_
            refine jj_lstore_n C dX0_unitsHeldIn_54 (by decide) rfl ?_
            obtain ⟨x_31, ex_31, vx_31⟩ := tt_inc (x := x_2) (n := 1) (by omega) (by omega)
            refine jj_iinc (v := x_31) C dX0_unitsHeldIn_55 rfl ex_31 (by decide) rfl ?_
            refine jj_goto (tgt := 5) C dX0_unitsHeldIn_58 (by decide) ?_
            exact ihL_1 pl x_31 y_30 hok hfr hfa (by first | omega | decide | exact tt_lo _ | exact tt_hi _) (by first | omega | decide | exact tt_lo _ | exact tt_hi _) (by first | omega | decide | exact tt_lo _ | exact tt_hi _)
  exact hL_1 _ pl0 (0 : Int32) (0 : Int64) trivial hok hfr hfa (by first | omega | decide | exact tt_lo _ | exact tt_hi _) (by first | omega | decide | exact tt_lo _ | exact tt_hi _) (Int.self_le_toNat _)

set_option maxHeartbeats 4000000 in
set_option maxRecDepth 100000 in
theorem tc_X0_unitsHeldIn_8 {l : Launch} (hl : l.stackTraces = false) (D : va_G) (cA : Nat → ClassId) (ak : (Nat → Nat) × (Nat → Nat)) {Kd : Nat → Nat} (h0 : Nat) (p1 : Int32) (p2 : Int32) (hk0 : Kd h0 = 1) (lp1 : (0 : Int) ≤ p1.toInt) (up1 : p1.toInt ≤ 11) {pl0 : va_W} (hok : tt_ok tt_tk cA Kd pl0) : jj_M l D cA ak yX0_unitsHeldIn (.code yX0_unitsHeldIn cX0_unitsHeldIn 6 (some .long)) 0 0 0 0 ([] ++ pl0) [.ref h0, .int p1, .int p2] (tt_O (fun rx pl1 r => rx = [] ∧ tt_ok tt_tk cA Kd pl1 ∧ tt_fr Kd [] pl0 pl1 ∧ tt_fa Kd [] pl0 pl1 ∧ ((∃ v : Int64, r = some (.long v))))) (tt_OX (fun _ _ _ => False)) := by
  refine jj_start hl (by decide) jw_f5d838650a (jj_le rfl) ?_
  intro p e s m args below meth c A hargs hA C hex hmn
  have hfr := tt_fr.refl (K := Kd) (WS := []) pl0
  have hfa := tt_fa.refl (K := Kd) (WA := []) pl0
  have lp2 := tt_lo p2
  have up2 := tt_hi p2
  refine jj_lconst (v := 0) C dX0_unitsHeldIn_0 (by decide) ?_
  refine jj_lstore_n C dX0_unitsHeldIn_1 (by decide) rfl ?_
  refine jj_iconst (v := 0) C dX0_unitsHeldIn_2 (by decide) ?_
  refine jj_istore C dX0_unitsHeldIn_3 (by decide) rfl ?_
  have hL_1 : ∀ (N : Nat) (pl : va_W) (x_2 : Int32) (y_3 : Int64), True → tt_ok tt_tk cA Kd pl → tt_fr Kd [] pl0 pl → tt_fa Kd [] pl0 pl → (0 : Int) ≤ x_2.toInt → x_2.toInt ≤ 40 → (2147483648 - x_2.toInt ≤ (N : Int)) → jj_J p l e (jj_rm 0 0 0 0) s m args below meth c 6 A (vx_MQ below (jj_q D A (tt_O (fun rx pl1 r => rx = [] ∧ tt_ok tt_tk cA Kd pl1 ∧ tt_fr Kd [] pl0 pl1 ∧ tt_fa Kd [] pl0 pl1 ∧ ((∃ v : Int64, r = some (.long v)))))) (jj_x D A (tt_OX (fun _ _ _ => False))) args s 0 0 A) (jj_X D A ([] ++ pl)) 0 0 5 [(5, .int x_2), (3, .long y_3), (0, .ref h0), (1, .int p1), (2, .int p2)] [] := by
    intro NL_1
    induction NL_1 with
    | zero => intro pl x_2 y_3 _ hok hfr hfa lx_2 ux_2 hNL_1; exfalso; omega
    | succ NL_1 ihL_1 =>
      intro pl x_2 y_3 _ hok hfr hfa lx_2 ux_2 hNL_1
      replace ihL_1 := fun pl x_2 y_3 h1 => ihL_1 pl x_2 y_3 trivial h1
      refine jj_iload C dX0_unitsHeldIn_5 rfl ?_
      refine jj_aload_n C dX0_unitsHeldIn_7 rfl ?_
      refine tt_get C hok jk_2 8 (by decide) jw_9d0ccd4490 (t := (0, 0, 40)) hk0 (by decide) rfl rfl dX0_unitsHeldIn_8 (fun v_4 hv_4 hf_5 => ?_)
      obtain ⟨x_6, rfl, lx_6, ux_6⟩ := tt_vi hv_4
      refine jj_icmp_ge (tgt := 61) C dX0_unitsHeldIn_11 (by decide) (fun c_7 => ?_) (fun c_7 => ?_)
      · have z_c_7 := jc_le (a := (x_6).toInt) (b := (x_2).toInt) c_7 rfl rfl
        refine jj_lload_n C dX0_unitsHeldIn_61 rfl ?_
        exact jj_lret C ⟨[], pl, rfl, rfl, hok, hfr, hfa, ⟨y_3, rfl⟩⟩ dX0_unitsHeldIn_62 (jj_le rfl) (jj_le rfl)
      · have z_c_7 := jc_nle (a := (x_6).toInt) (b := (x_2).toInt) c_7 rfl rfl
        refine jj_aload_n C dX0_unitsHeldIn_14 rfl ?_
        refine tt_get C hok jk_2 12 (by decide) jw_5f730213e9 (t := (2, 7, 0)) hk0 (by decide) rfl rfl dX0_unitsHeldIn_15 (fun v_8 hv_8 hf_9 => ?_)
        obtain ⟨a_10, rfl, ka_10⟩ := tt_vr hv_8
        refine jj_iload C dX0_unitsHeldIn_18 rfl ?_
        refine tt_aald C hok (t := (2, 3, 0)) ka_10 (by decide) rfl rfl rfl (vp_in_iff.mpr ⟨by omega, by omega⟩) dX0_unitsHeldIn_20 (fun v_11 hv_11 => ?_)
        obtain ⟨a_12, rfl, ka_12⟩ := tt_vr hv_11
        refine tt_get C hok jk_5 0 (by decide) jw_89374484be (t := (0, (-2147483648), 2147483647)) ka_12 (by decide) rfl rfl dX0_unitsHeldIn_21 (fun v_13 hv_13 hf_14 => ?_)
        obtain ⟨x_15, rfl, lx_15, ux_15⟩ := tt_vi hv_13
        refine jj_iload_n C dX0_unitsHeldIn_24 rfl ?_
        refine jj_icmp_ne (tgt := 55) C dX0_unitsHeldIn_25 (by decide) (fun c_16 => ?_) (fun c_16 => ?_)
        · have z_c_16 := jc_neq (a := (x_15).toInt) (b := (p1).toInt) c_16 rfl rfl
          obtain ⟨x_17, ex_17, vx_17⟩ := tt_inc (x := x_2) (n := 1) (by omega) (by omega)
          refine jj_iinc (v := x_17) C dX0_unitsHeldIn_55 rfl ex_17 (by decide) rfl ?_
          refine jj_goto (tgt := 5) C dX0_unitsHeldIn_58 (by decide) ?_
          exact ihL_1 pl x_17 y_3 hok hfr hfa (by first | omega | decide | exact tt_lo _ | exact tt_hi _) (by first | omega | decide | exact tt_lo _ | exact tt_hi _) (by first | omega | decide | exact tt_lo _ | exact tt_hi _)
        · have z_c_16 := jc_eq (a := (x_15).toInt) (b := (p1).toInt) c_16 rfl rfl
          refine jj_aload_n C dX0_unitsHeldIn_28 rfl ?_
          refine tt_getF C hok jk_2 12 (by decide) jw_5f730213e9 (t := (2, 7, 0)) hk0 (by decide) rfl rfl hf_9 dX0_unitsHeldIn_29 ?_
          refine jj_iload C dX0_unitsHeldIn_32 rfl ?_
          refine tt_aald C hok (t := (2, 3, 0)) ka_10 (by decide) rfl rfl rfl (vp_in_iff.mpr ⟨by omega, by omega⟩) dX0_unitsHeldIn_34 (fun v_18 hv_18 => ?_)
          obtain ⟨a_19, rfl, ka_19⟩ := tt_vr hv_18
          refine tt_get C hok jk_5 1 (by decide) jw_53dba63b8f (t := (0, (-2147483648), 2147483647)) ka_19 (by decide) rfl rfl dX0_unitsHeldIn_35 (fun v_20 hv_20 hf_21 => ?_)
          obtain ⟨x_22, rfl, lx_22, ux_22⟩ := tt_vi hv_20
          refine jj_iload_n C dX0_unitsHeldIn_38 rfl ?_
          refine jj_icmp_ne (tgt := 55) C dX0_unitsHeldIn_39 (by decide) (fun c_23 => ?_) (fun c_23 => ?_)
          · have z_c_23 := jc_neq (a := (x_22).toInt) (b := (p2).toInt) c_23 rfl rfl
            obtain ⟨x_24, ex_24, vx_24⟩ := tt_inc (x := x_2) (n := 1) (by omega) (by omega)
            refine jj_iinc (v := x_24) C dX0_unitsHeldIn_55 rfl ex_24 (by decide) rfl ?_
            refine jj_goto (tgt := 5) C dX0_unitsHeldIn_58 (by decide) ?_
            exact ihL_1 pl x_24 y_3 hok hfr hfa (by first | omega | decide | exact tt_lo _ | exact tt_hi _) (by first | omega | decide | exact tt_lo _ | exact tt_hi _) (by first | omega | decide | exact tt_lo _ | exact tt_hi _)
          · have z_c_23 := jc_eq (a := (x_22).toInt) (b := (p2).toInt) c_23 rfl rfl
            refine jj_lload_n C dX0_unitsHeldIn_42 rfl ?_
            refine jj_aload_n C dX0_unitsHeldIn_43 rfl ?_
            refine tt_getF C hok jk_2 12 (by decide) jw_5f730213e9 (t := (2, 7, 0)) hk0 (by decide) rfl rfl hf_9 dX0_unitsHeldIn_44 ?_
            refine jj_iload C dX0_unitsHeldIn_47 rfl ?_
            refine tt_aald C hok (t := (2, 3, 0)) ka_10 (by decide) rfl rfl rfl (vp_in_iff.mpr ⟨by omega, by omega⟩) dX0_unitsHeldIn_49 (fun v_25 hv_25 => ?_)
            obtain ⟨a_26, rfl, ka_26⟩ := tt_vr hv_25
            refine tt_get C hok jk_5 3 (by decide) jw_1f6afd9b6f (t := (1, (-9223372036854775808), 9223372036854775807)) ka_26 (by decide) rfl rfl dX0_unitsHeldIn_50 (fun v_27 hv_27 hf_28 => ?_)
            obtain ⟨y_29, rfl, -, -⟩ := tt_vj hv_27
            obtain ⟨y_30, ey_30⟩ : ∃ z : Int64, y_3 + y_29 = z := ⟨_, rfl⟩
            refine jj_ladd (v := y_30) C dX0_unitsHeldIn_53 ey_30 ?_
            refine jj_lstore_n C dX0_unitsHeldIn_54 (by decide) rfl ?_
            obtain ⟨x_31, ex_31, vx_31⟩ := tt_inc (x := x_2) (n := 1) (by omega) (by omega)
            refine jj_iinc (v := x_31) C dX0_unitsHeldIn_55 rfl ex_31 (by decide) rfl ?_
            refine jj_goto (tgt := 5) C dX0_unitsHeldIn_58 (by decide) ?_
            exact ihL_1 pl x_31 y_30 hok hfr hfa (by first | omega | decide | exact tt_lo _ | exact tt_hi _) (by first | omega | decide | exact tt_lo _ | exact tt_hi _) (by first | omega | decide | exact tt_lo _ | exact tt_hi _)
  exact hL_1 _ pl0 (0 : Int32) (0 : Int64) trivial hok hfr hfa (by first | omega | decide | exact tt_lo _ | exact tt_hi _) (by first | omega | decide | exact tt_lo _ | exact tt_hi _) (Int.self_le_toNat _)

set_option maxHeartbeats 4000000 in
set_option maxRecDepth 100000 in
theorem tc_X0_unitsHeldIn_9 {l : Launch} (hl : l.stackTraces = false) (D : va_G) (cA : Nat → ClassId) (ak : (Nat → Nat) × (Nat → Nat)) {Kd : Nat → Nat} (h0 : Nat) (p1 : Int32) (p2 : Int32) (hk0 : Kd h0 = 1) (lp1 : (0 : Int) ≤ p1.toInt) (up1 : p1.toInt ≤ 12) {pl0 : va_W} (hok : tt_ok tt_tk cA Kd pl0) : jj_M l D cA ak yX0_unitsHeldIn (.code yX0_unitsHeldIn cX0_unitsHeldIn 6 (some .long)) 0 0 0 0 ([] ++ pl0) [.ref h0, .int p1, .int p2] (tt_O (fun rx pl1 r => rx = [] ∧ tt_ok tt_tk cA Kd pl1 ∧ tt_fr Kd [] pl0 pl1 ∧ tt_fa Kd [] pl0 pl1 ∧ ((∃ v : Int64, r = some (.long v))))) (tt_OX (fun _ _ _ => False)) := by
  refine jj_start hl (by decide) jw_f5d838650a (jj_le rfl) ?_
  intro p e s m args below meth c A hargs hA C hex hmn
  have hfr := tt_fr.refl (K := Kd) (WS := []) pl0
  have hfa := tt_fa.refl (K := Kd) (WA := []) pl0
  have lp2 := tt_lo p2
  have up2 := tt_hi p2
  refine jj_lconst (v := 0) C dX0_unitsHeldIn_0 (by decide) ?_
  refine jj_lstore_n C dX0_unitsHeldIn_1 (by decide) rfl ?_
  refine jj_iconst (v := 0) C dX0_unitsHeldIn_2 (by decide) ?_
  refine jj_istore C dX0_unitsHeldIn_3 (by decide) rfl ?_
  have hL_1 : ∀ (N : Nat) (pl : va_W) (x_2 : Int32) (y_3 : Int64), True → tt_ok tt_tk cA Kd pl → tt_fr Kd [] pl0 pl → tt_fa Kd [] pl0 pl → (0 : Int) ≤ x_2.toInt → x_2.toInt ≤ 40 → (2147483648 - x_2.toInt ≤ (N : Int)) → jj_J p l e (jj_rm 0 0 0 0) s m args below meth c 6 A (vx_MQ below (jj_q D A (tt_O (fun rx pl1 r => rx = [] ∧ tt_ok tt_tk cA Kd pl1 ∧ tt_fr Kd [] pl0 pl1 ∧ tt_fa Kd [] pl0 pl1 ∧ ((∃ v : Int64, r = some (.long v)))))) (jj_x D A (tt_OX (fun _ _ _ => False))) args s 0 0 A) (jj_X D A ([] ++ pl)) 0 0 5 [(5, .int x_2), (3, .long y_3), (0, .ref h0), (1, .int p1), (2, .int p2)] [] := by
    intro NL_1
    induction NL_1 with
    | zero => intro pl x_2 y_3 _ hok hfr hfa lx_2 ux_2 hNL_1; exfalso; omega
    | succ NL_1 ihL_1 =>
      intro pl x_2 y_3 _ hok hfr hfa lx_2 ux_2 hNL_1
      replace ihL_1 := fun pl x_2 y_3 h1 => ihL_1 pl x_2 y_3 trivial h1
      refine jj_iload C dX0_unitsHeldIn_5 rfl ?_
      refine jj_aload_n C dX0_unitsHeldIn_7 rfl ?_
      refine tt_get C hok jk_2 8 (by decide) jw_9d0ccd4490 (t := (0, 0, 40)) hk0 (by decide) rfl rfl dX0_unitsHeldIn_8 (fun v_4 hv_4 hf_5 => ?_)
      obtain ⟨x_6, rfl, lx_6, ux_6⟩ := tt_vi hv_4
      refine jj_icmp_ge (tgt := 61) C dX0_unitsHeldIn_11 (by decide) (fun c_7 => ?_) (fun c_7 => ?_)
      · have z_c_7 := jc_le (a := (x_6).toInt) (b := (x_2).toInt) c_7 rfl rfl
        refine jj_lload_n C dX0_unitsHeldIn_61 rfl ?_
        exact jj_lret C ⟨[], pl, rfl, rfl, hok, hfr, hfa, ⟨y_3, rfl⟩⟩ dX0_unitsHeldIn_62 (jj_le rfl) (jj_le rfl)
      · have z_c_7 := jc_nle (a := (x_6).toInt) (b := (x_2).toInt) c_7 rfl rfl
        refine jj_aload_n C dX0_unitsHeldIn_14 rfl ?_
        refine tt_get C hok jk_2 12 (by decide) jw_5f730213e9 (t := (2, 7, 0)) hk0 (by decide) rfl rfl dX0_unitsHeldIn_15 (fun v_8 hv_8 hf_9 => ?_)
        obtain ⟨a_10, rfl, ka_10⟩ := tt_vr hv_8
        refine jj_iload C dX0_unitsHeldIn_18 rfl ?_
        refine tt_aald C hok (t := (2, 3, 0)) ka_10 (by decide) rfl rfl rfl (vp_in_iff.mpr ⟨by omega, by omega⟩) dX0_unitsHeldIn_20 (fun v_11 hv_11 => ?_)
        obtain ⟨a_12, rfl, ka_12⟩ := tt_vr hv_11
        refine tt_get C hok jk_5 0 (by decide) jw_89374484be (t := (0, (-2147483648), 2147483647)) ka_12 (by decide) rfl rfl dX0_unitsHeldIn_21 (fun v_13 hv_13 hf_14 => ?_)
        obtain ⟨x_15, rfl, lx_15, ux_15⟩ := tt_vi hv_13
        refine jj_iload_n C dX0_unitsHeldIn_24 rfl ?_
        refine jj_icmp_ne (tgt := 55) C dX0_unitsHeldIn_25 (by decide) (fun c_16 => ?_) (fun c_16 => ?_)
        · have z_c_16 := jc_neq (a := (x_15).toInt) (b := (p1).toInt) c_16 rfl rfl
          obtain ⟨x_17, ex_17, vx_17⟩ := tt_inc (x := x_2) (n := 1) (by omega) (by omega)
          refine jj_iinc (v := x_17) C dX0_unitsHeldIn_55 rfl ex_17 (by decide) rfl ?_
          refine jj_goto (tgt := 5) C dX0_unitsHeldIn_58 (by decide) ?_
          exact ihL_1 pl x_17 y_3 hok hfr hfa (by first | omega | decide | exact tt_lo _ | exact tt_hi _) (by first | omega | decide | exact tt_lo _ | exact tt_hi _) (by first | omega | decide | exact tt_lo _ | exact tt_hi _)
        · have z_c_16 := jc_eq (a := (x_15).toInt) (b := (p1).toInt) c_16 rfl rfl
          refine jj_aload_n C dX0_unitsHeldIn_28 rfl ?_
          refine tt_getF C hok jk_2 12 (by decide) jw_5f730213e9 (t := (2, 7, 0)) hk0 (by decide) rfl rfl hf_9 dX0_unitsHeldIn_29 ?_
          refine jj_iload C dX0_unitsHeldIn_32 rfl ?_
          refine tt_aald C hok (t := (2, 3, 0)) ka_10 (by decide) rfl rfl rfl (vp_in_iff.mpr ⟨by omega, by omega⟩) dX0_unitsHeldIn_34 (fun v_18 hv_18 => ?_)
          obtain ⟨a_19, rfl, ka_19⟩ := tt_vr hv_18
          refine tt_get C hok jk_5 1 (by decide) jw_53dba63b8f (t := (0, (-2147483648), 2147483647)) ka_19 (by decide) rfl rfl dX0_unitsHeldIn_35 (fun v_20 hv_20 hf_21 => ?_)
          obtain ⟨x_22, rfl, lx_22, ux_22⟩ := tt_vi hv_20
          refine jj_iload_n C dX0_unitsHeldIn_38 rfl ?_
          refine jj_icmp_ne (tgt := 55) C dX0_unitsHeldIn_39 (by decide) (fun c_23 => ?_) (fun c_23 => ?_)
          · have z_c_23 := jc_neq (a := (x_22).toInt) (b := (p2).toInt) c_23 rfl rfl
            obtain ⟨x_24, ex_24, vx_24⟩ := tt_inc (x := x_2) (n := 1) (by omega) (by omega)
            refine jj_iinc (v := x_24) C dX0_unitsHeldIn_55 rfl ex_24 (by decide) rfl ?_
            refine jj_goto (tgt := 5) C dX0_unitsHeldIn_58 (by decide) ?_
            exact ihL_1 pl x_24 y_3 hok hfr hfa (by first | omega | decide | exact tt_lo _ | exact tt_hi _) (by first | omega | decide | exact tt_lo _ | exact tt_hi _) (by first | omega | decide | exact tt_lo _ | exact tt_hi _)
          · have z_c_23 := jc_eq (a := (x_22).toInt) (b := (p2).toInt) c_23 rfl rfl
            refine jj_lload_n C dX0_unitsHeldIn_42 rfl ?_
            refine jj_aload_n C dX0_unitsHeldIn_43 rfl ?_
            refine tt_getF C hok jk_2 12 (by decide) jw_5f730213e9 (t := (2, 7, 0)) hk0 (by decide) rfl rfl hf_9 dX0_unitsHeldIn_44 ?_
            refine jj_iload C dX0_unitsHeldIn_47 rfl ?_
            refine tt_aald C hok (t := (2, 3, 0)) ka_10 (by decide) rfl rfl rfl (vp_in_iff.mpr ⟨by omega, by omega⟩) dX0_unitsHeldIn_49 (fun v_25 hv_25 => ?_)
            obtain ⟨a_26, rfl, ka_26⟩ := tt_vr hv_25
            refine tt_get C hok jk_5 3 (by decide) jw_1f6afd9b6f (t := (1, (-9223372036854775808), 9223372036854775807)) ka_26 (by decide) rfl rfl dX0_unitsHeldIn_50 (fun v_27 hv_27 hf_28 => ?_)
            obtain ⟨y_29, rfl, -, -⟩ := tt_vj hv_27
            obtain ⟨y_30, ey_30⟩ : ∃ z : Int64, y_3 + y_29 = z := ⟨_, rfl⟩
            refine jj_ladd (v := y_30) C dX0_unitsHeldIn_53 ey_30 ?_
            refine jj_lstore_n C dX0_unitsHeldIn_54 (by decide) rfl ?_
            obtain ⟨x_31, ex_31, vx_31⟩ := tt_inc (x := x_2) (n := 1) (by omega) (by omega)
            refine jj_iinc (v := x_31) C dX0_unitsHeldIn_55 rfl ex_31 (by decide) rfl ?_
            refine jj_goto (tgt := 5) C dX0_unitsHeldIn_58 (by decide) ?_
            exact ihL_1 pl x_31 y_30 hok hfr hfa (by first | omega | decide | exact tt_lo _ | exact tt_hi _) (by first | omega | decide | exact tt_lo _ | exact tt_hi _) (by first | omega | decide | exact tt_lo _ | exact tt_hi _)
  exact hL_1 _ pl0 (0 : Int32) (0 : Int64) trivial hok hfr hfa (by first | omega | decide | exact tt_lo _ | exact tt_hi _) (by first | omega | decide | exact tt_lo _ | exact tt_hi _) (Int.self_le_toNat _)

set_option maxHeartbeats 4000000 in
set_option maxRecDepth 100000 in
theorem tc_X0_unitsHeldIn_10 {l : Launch} (hl : l.stackTraces = false) (D : va_G) (cA : Nat → ClassId) (ak : (Nat → Nat) × (Nat → Nat)) {Kd : Nat → Nat} (h0 : Nat) (p1 : Int32) (p2 : Int32) (hk0 : Kd h0 = 1) (lp1 : (0 : Int) ≤ p1.toInt) (up1 : p1.toInt ≤ 20) {pl0 : va_W} (hok : tt_ok tt_tk cA Kd pl0) : jj_M l D cA ak yX0_unitsHeldIn (.code yX0_unitsHeldIn cX0_unitsHeldIn 6 (some .long)) 0 0 0 0 ([] ++ pl0) [.ref h0, .int p1, .int p2] (tt_O (fun rx pl1 r => rx = [] ∧ tt_ok tt_tk cA Kd pl1 ∧ tt_fr Kd [] pl0 pl1 ∧ tt_fa Kd [] pl0 pl1 ∧ ((∃ v : Int64, r = some (.long v))))) (tt_OX (fun _ _ _ => False)) := by
  refine jj_start hl (by decide) jw_f5d838650a (jj_le rfl) ?_
  intro p e s m args below meth c A hargs hA C hex hmn
  have hfr := tt_fr.refl (K := Kd) (WS := []) pl0
  have hfa := tt_fa.refl (K := Kd) (WA := []) pl0
  have lp2 := tt_lo p2
  have up2 := tt_hi p2
  refine jj_lconst (v := 0) C dX0_unitsHeldIn_0 (by decide) ?_
  refine jj_lstore_n C dX0_unitsHeldIn_1 (by decide) rfl ?_
  refine jj_iconst (v := 0) C dX0_unitsHeldIn_2 (by decide) ?_
  refine jj_istore C dX0_unitsHeldIn_3 (by decide) rfl ?_
  have hL_1 : ∀ (N : Nat) (pl : va_W) (x_2 : Int32) (y_3 : Int64), True → tt_ok tt_tk cA Kd pl → tt_fr Kd [] pl0 pl → tt_fa Kd [] pl0 pl → (0 : Int) ≤ x_2.toInt → x_2.toInt ≤ 40 → (2147483648 - x_2.toInt ≤ (N : Int)) → jj_J p l e (jj_rm 0 0 0 0) s m args below meth c 6 A (vx_MQ below (jj_q D A (tt_O (fun rx pl1 r => rx = [] ∧ tt_ok tt_tk cA Kd pl1 ∧ tt_fr Kd [] pl0 pl1 ∧ tt_fa Kd [] pl0 pl1 ∧ ((∃ v : Int64, r = some (.long v)))))) (jj_x D A (tt_OX (fun _ _ _ => False))) args s 0 0 A) (jj_X D A ([] ++ pl)) 0 0 5 [(5, .int x_2), (3, .long y_3), (0, .ref h0), (1, .int p1), (2, .int p2)] [] := by
    intro NL_1
    induction NL_1 with
    | zero => intro pl x_2 y_3 _ hok hfr hfa lx_2 ux_2 hNL_1; exfalso; omega
    | succ NL_1 ihL_1 =>
      intro pl x_2 y_3 _ hok hfr hfa lx_2 ux_2 hNL_1
      replace ihL_1 := fun pl x_2 y_3 h1 => ihL_1 pl x_2 y_3 trivial h1
      refine jj_iload C dX0_unitsHeldIn_5 rfl ?_
      refine jj_aload_n C dX0_unitsHeldIn_7 rfl ?_
      refine tt_get C hok jk_2 8 (by decide) jw_9d0ccd4490 (t := (0, 0, 40)) hk0 (by decide) rfl rfl dX0_unitsHeldIn_8 (fun v_4 hv_4 hf_5 => ?_)
      obtain ⟨x_6, rfl, lx_6, ux_6⟩ := tt_vi hv_4
      refine jj_icmp_ge (tgt := 61) C dX0_unitsHeldIn_11 (by decide) (fun c_7 => ?_) (fun c_7 => ?_)
      · have z_c_7 := jc_le (a := (x_6).toInt) (b := (x_2).toInt) c_7 rfl rfl
        refine jj_lload_n C dX0_unitsHeldIn_61 rfl ?_
        exact jj_lret C ⟨[], pl, rfl, rfl, hok, hfr, hfa, ⟨y_3, rfl⟩⟩ dX0_unitsHeldIn_62 (jj_le rfl) (jj_le rfl)
      · have z_c_7 := jc_nle (a := (x_6).toInt) (b := (x_2).toInt) c_7 rfl rfl
        refine jj_aload_n C dX0_unitsHeldIn_14 rfl ?_
        refine tt_get C hok jk_2 12 (by decide) jw_5f730213e9 (t := (2, 7, 0)) hk0 (by decide) rfl rfl dX0_unitsHeldIn_15 (fun v_8 hv_8 hf_9 => ?_)
        obtain ⟨a_10, rfl, ka_10⟩ := tt_vr hv_8
        refine jj_iload C dX0_unitsHeldIn_18 rfl ?_
        refine tt_aald C hok (t := (2, 3, 0)) ka_10 (by decide) rfl rfl rfl (vp_in_iff.mpr ⟨by omega, by omega⟩) dX0_unitsHeldIn_20 (fun v_11 hv_11 => ?_)
        obtain ⟨a_12, rfl, ka_12⟩ := tt_vr hv_11
        refine tt_get C hok jk_5 0 (by decide) jw_89374484be (t := (0, (-2147483648), 2147483647)) ka_12 (by decide) rfl rfl dX0_unitsHeldIn_21 (fun v_13 hv_13 hf_14 => ?_)
        obtain ⟨x_15, rfl, lx_15, ux_15⟩ := tt_vi hv_13
        refine jj_iload_n C dX0_unitsHeldIn_24 rfl ?_
        refine jj_icmp_ne (tgt := 55) C dX0_unitsHeldIn_25 (by decide) (fun c_16 => ?_) (fun c_16 => ?_)
        · have z_c_16 := jc_neq (a := (x_15).toInt) (b := (p1).toInt) c_16 rfl rfl
          obtain ⟨x_17, ex_17, vx_17⟩ := tt_inc (x := x_2) (n := 1) (by omega) (by omega)
          refine jj_iinc (v := x_17) C dX0_unitsHeldIn_55 rfl ex_17 (by decide) rfl ?_
          refine jj_goto (tgt := 5) C dX0_unitsHeldIn_58 (by decide) ?_
          exact ihL_1 pl x_17 y_3 hok hfr hfa (by first | omega | decide | exact tt_lo _ | exact tt_hi _) (by first | omega | decide | exact tt_lo _ | exact tt_hi _) (by first | omega | decide | exact tt_lo _ | exact tt_hi _)
        · have z_c_16 := jc_eq (a := (x_15).toInt) (b := (p1).toInt) c_16 rfl rfl
          refine jj_aload_n C dX0_unitsHeldIn_28 rfl ?_
          refine tt_getF C hok jk_2 12 (by decide) jw_5f730213e9 (t := (2, 7, 0)) hk0 (by decide) rfl rfl hf_9 dX0_unitsHeldIn_29 ?_
          refine jj_iload C dX0_unitsHeldIn_32 rfl ?_
          refine tt_aald C hok (t := (2, 3, 0)) ka_10 (by decide) rfl rfl rfl (vp_in_iff.mpr ⟨by omega, by omega⟩) dX0_unitsHeldIn_34 (fun v_18 hv_18 => ?_)
          obtain ⟨a_19, rfl, ka_19⟩ := tt_vr hv_18
          refine tt_get C hok jk_5 1 (by decide) jw_53dba63b8f (t := (0, (-2147483648), 2147483647)) ka_19 (by decide) rfl rfl dX0_unitsHeldIn_35 (fun v_20 hv_20 hf_21 => ?_)
          obtain ⟨x_22, rfl, lx_22, ux_22⟩ := tt_vi hv_20
          refine jj_iload_n C dX0_unitsHeldIn_38 rfl ?_
          refine jj_icmp_ne (tgt := 55) C dX0_unitsHeldIn_39 (by decide) (fun c_23 => ?_) (fun c_23 => ?_)
          · have z_c_23 := jc_neq (a := (x_22).toInt) (b := (p2).toInt) c_23 rfl rfl
            obtain ⟨x_24, ex_24, vx_24⟩ := tt_inc (x := x_2) (n := 1) (by omega) (by omega)
            refine jj_iinc (v := x_24) C dX0_unitsHeldIn_55 rfl ex_24 (by decide) rfl ?_
            refine jj_goto (tgt := 5) C dX0_unitsHeldIn_58 (by decide) ?_
            exact ihL_1 pl x_24 y_3 hok hfr hfa (by first | omega | decide | exact tt_lo _ | exact tt_hi _) (by first | omega | decide | exact tt_lo _ | exact tt_hi _) (by first | omega | decide | exact tt_lo _ | exact tt_hi _)
          · have z_c_23 := jc_eq (a := (x_22).toInt) (b := (p2).toInt) c_23 rfl rfl
            refine jj_lload_n C dX0_unitsHeldIn_42 rfl ?_
            refine jj_aload_n C dX0_unitsHeldIn_43 rfl ?_
            refine tt_getF C hok jk_2 12 (by decide) jw_5f730213e9 (t := (2, 7, 0)) hk0 (by decide) rfl rfl hf_9 dX0_unitsHeldIn_44 ?_
            refine jj_iload C dX0_unitsHeldIn_47 rfl ?_
            refine tt_aald C hok (t := (2, 3, 0)) ka_10 (by decide) rfl rfl rfl (vp_in_iff.mpr ⟨by omega, by omega⟩) dX0_unitsHeldIn_49 (fun v_25 hv_25 => ?_)
            obtain ⟨a_26, rfl, ka_26⟩ := tt_vr hv_25
            refine tt_get C hok jk_5 3 (by decide) jw_1f6afd9b6f (t := (1, (-9223372036854775808), 9223372036854775807)) ka_26 (by decide) rfl rfl dX0_unitsHeldIn_50 (fun v_27 hv_27 hf_28 => ?_)
            obtain ⟨y_29, rfl, -, -⟩ := tt_vj hv_27
            obtain ⟨y_30, ey_30⟩ : ∃ z : Int64, y_3 + y_29 = z := ⟨_, rfl⟩
            refine jj_ladd (v := y_30) C dX0_unitsHeldIn_53 ey_30 ?_
            refine jj_lstore_n C dX0_unitsHeldIn_54 (by decide) rfl ?_
            obtain ⟨x_31, ex_31, vx_31⟩ := tt_inc (x := x_2) (n := 1) (by omega) (by omega)
            refine jj_iinc (v := x_31) C dX0_unitsHeldIn_55 rfl ex_31 (by decide) rfl ?_
            refine jj_goto (tgt := 5) C dX0_unitsHeldIn_58 (by decide) ?_
            exact ihL_1 pl x_31 y_30 hok hfr hfa (by first | omega | decide | exact tt_lo _ | exact tt_hi _) (by first | omega | decide | exact tt_lo _ | exact tt_hi _) (by first | omega | decide | exact tt_lo _ | exact tt_hi _)
  exact hL_1 _ pl0 (0 : Int32) (0 : Int64) trivial hok hfr hfa (by first | omega | decide | exact tt_lo _ | exact tt_hi _) (by first | omega | decide | exact tt_lo _ | exact tt_hi _) (Int.self_le_toNat _)

set_option maxHeartbeats 4000000 in
set_option maxRecDepth 100000 in
theorem tc_X0_unitsHeldIn_11 {l : Launch} (hl : l.stackTraces = false) (D : va_G) (cA : Nat → ClassId) (ak : (Nat → Nat) × (Nat → Nat)) {Kd : Nat → Nat} (h0 : Nat) (p1 : Int32) (p2 : Int32) (hk0 : Kd h0 = 1) (lp1 : (0 : Int) ≤ p1.toInt) (up1 : p1.toInt ≤ 40) {pl0 : va_W} (hok : tt_ok tt_tk cA Kd pl0) : jj_M l D cA ak yX0_unitsHeldIn (.code yX0_unitsHeldIn cX0_unitsHeldIn 6 (some .long)) 0 0 0 0 ([] ++ pl0) [.ref h0, .int p1, .int p2] (tt_O (fun rx pl1 r => rx = [] ∧ tt_ok tt_tk cA Kd pl1 ∧ tt_fr Kd [] pl0 pl1 ∧ tt_fa Kd [] pl0 pl1 ∧ ((∃ v : Int64, r = some (.long v))))) (tt_OX (fun _ _ _ => False)) := by
  refine jj_start hl (by decide) jw_f5d838650a (jj_le rfl) ?_
  intro p e s m args below meth c A hargs hA C hex hmn
  have hfr := tt_fr.refl (K := Kd) (WS := []) pl0
  have hfa := tt_fa.refl (K := Kd) (WA := []) pl0
  have lp2 := tt_lo p2
  have up2 := tt_hi p2
  refine jj_lconst (v := 0) C dX0_unitsHeldIn_0 (by decide) ?_
  refine jj_lstore_n C dX0_unitsHeldIn_1 (by decide) rfl ?_
  refine jj_iconst (v := 0) C dX0_unitsHeldIn_2 (by decide) ?_
  refine jj_istore C dX0_unitsHeldIn_3 (by decide) rfl ?_
  have hL_1 : ∀ (N : Nat) (pl : va_W) (x_2 : Int32) (y_3 : Int64), True → tt_ok tt_tk cA Kd pl → tt_fr Kd [] pl0 pl → tt_fa Kd [] pl0 pl → (0 : Int) ≤ x_2.toInt → x_2.toInt ≤ 40 → (2147483648 - x_2.toInt ≤ (N : Int)) → jj_J p l e (jj_rm 0 0 0 0) s m args below meth c 6 A (vx_MQ below (jj_q D A (tt_O (fun rx pl1 r => rx = [] ∧ tt_ok tt_tk cA Kd pl1 ∧ tt_fr Kd [] pl0 pl1 ∧ tt_fa Kd [] pl0 pl1 ∧ ((∃ v : Int64, r = some (.long v)))))) (jj_x D A (tt_OX (fun _ _ _ => False))) args s 0 0 A) (jj_X D A ([] ++ pl)) 0 0 5 [(5, .int x_2), (3, .long y_3), (0, .ref h0), (1, .int p1), (2, .int p2)] [] := by
    intro NL_1
    induction NL_1 with
    | zero => intro pl x_2 y_3 _ hok hfr hfa lx_2 ux_2 hNL_1; exfalso; omega
    | succ NL_1 ihL_1 =>
      intro pl x_2 y_3 _ hok hfr hfa lx_2 ux_2 hNL_1
      replace ihL_1 := fun pl x_2 y_3 h1 => ihL_1 pl x_2 y_3 trivial h1
      refine jj_iload C dX0_unitsHeldIn_5 rfl ?_
      refine jj_aload_n C dX0_unitsHeldIn_7 rfl ?_
      refine tt_get C hok jk_2 8 (by decide) jw_9d0ccd4490 (t := (0, 0, 40)) hk0 (by decide) rfl rfl dX0_unitsHeldIn_8 (fun v_4 hv_4 hf_5 => ?_)
      obtain ⟨x_6, rfl, lx_6, ux_6⟩ := tt_vi hv_4
      refine jj_icmp_ge (tgt := 61) C dX0_unitsHeldIn_11 (by decide) (fun c_7 => ?_) (fun c_7 => ?_)
      · have z_c_7 := jc_le (a := (x_6).toInt) (b := (x_2).toInt) c_7 rfl rfl
        refine jj_lload_n C dX0_unitsHeldIn_61 rfl ?_
        exact jj_lret C ⟨[], pl, rfl, rfl, hok, hfr, hfa, ⟨y_3, rfl⟩⟩ dX0_unitsHeldIn_62 (jj_le rfl) (jj_le rfl)
      · have z_c_7 := jc_nle (a := (x_6).toInt) (b := (x_2).toInt) c_7 rfl rfl
        refine jj_aload_n C dX0_unitsHeldIn_14 rfl ?_
        refine tt_get C hok jk_2 12 (by decide) jw_5f730213e9 (t := (2, 7, 0)) hk0 (by decide) rfl rfl dX0_unitsHeldIn_15 (fun v_8 hv_8 hf_9 => ?_)
        obtain ⟨a_10, rfl, ka_10⟩ := tt_vr hv_8
        refine jj_iload C dX0_unitsHeldIn_18 rfl ?_
        refine tt_aald C hok (t := (2, 3, 0)) ka_10 (by decide) rfl rfl rfl (vp_in_iff.mpr ⟨by omega, by omega⟩) dX0_unitsHeldIn_20 (fun v_11 hv_11 => ?_)
        obtain ⟨a_12, rfl, ka_12⟩ := tt_vr hv_11
        refine tt_get C hok jk_5 0 (by decide) jw_89374484be (t := (0, (-2147483648), 2147483647)) ka_12 (by decide) rfl rfl dX0_unitsHeldIn_21 (fun v_13 hv_13 hf_14 => ?_)
        obtain ⟨x_15, rfl, lx_15, ux_15⟩ := tt_vi hv_13
        refine jj_iload_n C dX0_unitsHeldIn_24 rfl ?_
        refine jj_icmp_ne (tgt := 55) C dX0_unitsHeldIn_25 (by decide) (fun c_16 => ?_) (fun c_16 => ?_)
        · have z_c_16 := jc_neq (a := (x_15).toInt) (b := (p1).toInt) c_16 rfl rfl
          obtain ⟨x_17, ex_17, vx_17⟩ := tt_inc (x := x_2) (n := 1) (by omega) (by omega)
          refine jj_iinc (v := x_17) C dX0_unitsHeldIn_55 rfl ex_17 (by decide) rfl ?_
          refine jj_goto (tgt := 5) C dX0_unitsHeldIn_58 (by decide) ?_
          exact ihL_1 pl x_17 y_3 hok hfr hfa (by first | omega | decide | exact tt_lo _ | exact tt_hi _) (by first | omega | decide | exact tt_lo _ | exact tt_hi _) (by first | omega | decide | exact tt_lo _ | exact tt_hi _)
        · have z_c_16 := jc_eq (a := (x_15).toInt) (b := (p1).toInt) c_16 rfl rfl
          refine jj_aload_n C dX0_unitsHeldIn_28 rfl ?_
          refine tt_getF C hok jk_2 12 (by decide) jw_5f730213e9 (t := (2, 7, 0)) hk0 (by decide) rfl rfl hf_9 dX0_unitsHeldIn_29 ?_
          refine jj_iload C dX0_unitsHeldIn_32 rfl ?_
          refine tt_aald C hok (t := (2, 3, 0)) ka_10 (by decide) rfl rfl rfl (vp_in_iff.mpr ⟨by omega, by omega⟩) dX0_unitsHeldIn_34 (fun v_18 hv_18 => ?_)
          obtain ⟨a_19, rfl, ka_19⟩ := tt_vr hv_18
          refine tt_get C hok jk_5 1 (by decide) jw_53dba63b8f (t := (0, (-2147483648), 2147483647)) ka_19 (by decide) rfl rfl dX0_unitsHeldIn_35 (fun v_20 hv_20 hf_21 => ?_)
          obtain ⟨x_22, rfl, lx_22, ux_22⟩ := tt_vi hv_20
          refine jj_iload_n C dX0_unitsHeldIn_38 rfl ?_
          refine jj_icmp_ne (tgt := 55) C dX0_unitsHeldIn_39 (by decide) (fun c_23 => ?_) (fun c_23 => ?_)
          · have z_c_23 := jc_neq (a := (x_22).toInt) (b := (p2).toInt) c_23 rfl rfl
            obtain ⟨x_24, ex_24, vx_24⟩ := tt_inc (x := x_2) (n := 1) (by omega) (by omega)
            refine jj_iinc (v := x_24) C dX0_unitsHeldIn_55 rfl ex_24 (by decide) rfl ?_
            refine jj_goto (tgt := 5) C dX0_unitsHeldIn_58 (by decide) ?_
            exact ihL_1 pl x_24 y_3 hok hfr hfa (by first | omega | decide | exact tt_lo _ | exact tt_hi _) (by first | omega | decide | exact tt_lo _ | exact tt_hi _) (by first | omega | decide | exact tt_lo _ | exact tt_hi _)
          · have z_c_23 := jc_eq (a := (x_22).toInt) (b := (p2).toInt) c_23 rfl rfl
            refine jj_lload_n C dX0_unitsHeldIn_42 rfl ?_
            refine jj_aload_n C dX0_unitsHeldIn_43 rfl ?_
            refine tt_getF C hok jk_2 12 (by decide) jw_5f730213e9 (t := (2, 7, 0)) hk0 (by decide) rfl rfl hf_9 dX0_unitsHeldIn_44 ?_
            refine jj_iload C dX0_unitsHeldIn_47 rfl ?_
            refine tt_aald C hok (t := (2, 3, 0)) ka_10 (by decide) rfl rfl rfl (vp_in_iff.mpr ⟨by omega, by omega⟩) dX0_unitsHeldIn_49 (fun v_25 hv_25 => ?_)
            obtain ⟨a_26, rfl, ka_26⟩ := tt_vr hv_25
            refine tt_get C hok jk_5 3 (by decide) jw_1f6afd9b6f (t := (1, (-9223372036854775808), 9223372036854775807)) ka_26 (by decide) rfl rfl dX0_unitsHeldIn_50 (fun v_27 hv_27 hf_28 => ?_)
            obtain ⟨y_29, rfl, -, -⟩ := tt_vj hv_27
            obtain ⟨y_30, ey_30⟩ : ∃ z : Int64, y_3 + y_29 = z := ⟨_, rfl⟩
            refine jj_ladd (v := y_30) C dX0_unitsHeldIn_53 ey_30 ?_
            refine jj_lstore_n C dX0_unitsHeldIn_54 (by decide) rfl ?_
            obtain ⟨x_31, ex_31, vx_31⟩ := tt_inc (x := x_2) (n := 1) (by omega) (by omega)
            refine jj_iinc (v := x_31) C dX0_unitsHeldIn_55 rfl ex_31 (by decide) rfl ?_
            refine jj_goto (tgt := 5) C dX0_unitsHeldIn_58 (by decide) ?_
            exact ihL_1 pl x_31 y_30 hok hfr hfa (by first | omega | decide | exact tt_lo _ | exact tt_hi _) (by first | omega | decide | exact tt_lo _ | exact tt_hi _) (by first | omega | decide | exact tt_lo _ | exact tt_hi _)
  exact hL_1 _ pl0 (0 : Int32) (0 : Int64) trivial hok hfr hfa (by first | omega | decide | exact tt_lo _ | exact tt_hi _) (by first | omega | decide | exact tt_lo _ | exact tt_hi _) (Int.self_le_toNat _)

set_option maxHeartbeats 4000000 in
set_option maxRecDepth 100000 in
theorem tc_X0_unitsHeldIn_12 {l : Launch} (hl : l.stackTraces = false) (D : va_G) (cA : Nat → ClassId) (ak : (Nat → Nat) × (Nat → Nat)) {Kd : Nat → Nat} (h0 : Nat) (p1 : Int32) (p2 : Int32) (hk0 : Kd h0 = 1) (lp1 : (0 : Int) ≤ p1.toInt) (up1 : p1.toInt ≤ 399) {pl0 : va_W} (hok : tt_ok tt_tk cA Kd pl0) : jj_M l D cA ak yX0_unitsHeldIn (.code yX0_unitsHeldIn cX0_unitsHeldIn 6 (some .long)) 0 0 0 0 ([] ++ pl0) [.ref h0, .int p1, .int p2] (tt_O (fun rx pl1 r => rx = [] ∧ tt_ok tt_tk cA Kd pl1 ∧ tt_fr Kd [] pl0 pl1 ∧ tt_fa Kd [] pl0 pl1 ∧ ((∃ v : Int64, r = some (.long v))))) (tt_OX (fun _ _ _ => False)) := by
  refine jj_start hl (by decide) jw_f5d838650a (jj_le rfl) ?_
  intro p e s m args below meth c A hargs hA C hex hmn
  have hfr := tt_fr.refl (K := Kd) (WS := []) pl0
  have hfa := tt_fa.refl (K := Kd) (WA := []) pl0
  have lp2 := tt_lo p2
  have up2 := tt_hi p2
  refine jj_lconst (v := 0) C dX0_unitsHeldIn_0 (by decide) ?_
  refine jj_lstore_n C dX0_unitsHeldIn_1 (by decide) rfl ?_
  refine jj_iconst (v := 0) C dX0_unitsHeldIn_2 (by decide) ?_
  refine jj_istore C dX0_unitsHeldIn_3 (by decide) rfl ?_
  have hL_1 : ∀ (N : Nat) (pl : va_W) (x_2 : Int32) (y_3 : Int64), True → tt_ok tt_tk cA Kd pl → tt_fr Kd [] pl0 pl → tt_fa Kd [] pl0 pl → (0 : Int) ≤ x_2.toInt → x_2.toInt ≤ 40 → (2147483648 - x_2.toInt ≤ (N : Int)) → jj_J p l e (jj_rm 0 0 0 0) s m args below meth c 6 A (vx_MQ below (jj_q D A (tt_O (fun rx pl1 r => rx = [] ∧ tt_ok tt_tk cA Kd pl1 ∧ tt_fr Kd [] pl0 pl1 ∧ tt_fa Kd [] pl0 pl1 ∧ ((∃ v : Int64, r = some (.long v)))))) (jj_x D A (tt_OX (fun _ _ _ => False))) args s 0 0 A) (jj_X D A ([] ++ pl)) 0 0 5 [(5, .int x_2), (3, .long y_3), (0, .ref h0), (1, .int p1), (2, .int p2)] [] := by
    intro NL_1
    induction NL_1 with
    | zero => intro pl x_2 y_3 _ hok hfr hfa lx_2 ux_2 hNL_1; exfalso; omega
    | succ NL_1 ihL_1 =>
      intro pl x_2 y_3 _ hok hfr hfa lx_2 ux_2 hNL_1
      replace ihL_1 := fun pl x_2 y_3 h1 => ihL_1 pl x_2 y_3 trivial h1
      refine jj_iload C dX0_unitsHeldIn_5 rfl ?_
      refine jj_aload_n C dX0_unitsHeldIn_7 rfl ?_
      refine tt_get C hok jk_2 8 (by decide) jw_9d0ccd4490 (t := (0, 0, 40)) hk0 (by decide) rfl rfl dX0_unitsHeldIn_8 (fun v_4 hv_4 hf_5 => ?_)
      obtain ⟨x_6, rfl, lx_6, ux_6⟩ := tt_vi hv_4
      refine jj_icmp_ge (tgt := 61) C dX0_unitsHeldIn_11 (by decide) (fun c_7 => ?_) (fun c_7 => ?_)
      · have z_c_7 := jc_le (a := (x_6).toInt) (b := (x_2).toInt) c_7 rfl rfl
        refine jj_lload_n C dX0_unitsHeldIn_61 rfl ?_
        exact jj_lret C ⟨[], pl, rfl, rfl, hok, hfr, hfa, ⟨y_3, rfl⟩⟩ dX0_unitsHeldIn_62 (jj_le rfl) (jj_le rfl)
      · have z_c_7 := jc_nle (a := (x_6).toInt) (b := (x_2).toInt) c_7 rfl rfl
        refine jj_aload_n C dX0_unitsHeldIn_14 rfl ?_
        refine tt_get C hok jk_2 12 (by decide) jw_5f730213e9 (t := (2, 7, 0)) hk0 (by decide) rfl rfl dX0_unitsHeldIn_15 (fun v_8 hv_8 hf_9 => ?_)
        obtain ⟨a_10, rfl, ka_10⟩ := tt_vr hv_8
        refine jj_iload C dX0_unitsHeldIn_18 rfl ?_
        refine tt_aald C hok (t := (2, 3, 0)) ka_10 (by decide) rfl rfl rfl (vp_in_iff.mpr ⟨by omega, by omega⟩) dX0_unitsHeldIn_20 (fun v_11 hv_11 => ?_)
        obtain ⟨a_12, rfl, ka_12⟩ := tt_vr hv_11
        refine tt_get C hok jk_5 0 (by decide) jw_89374484be (t := (0, (-2147483648), 2147483647)) ka_12 (by decide) rfl rfl dX0_unitsHeldIn_21 (fun v_13 hv_13 hf_14 => ?_)
        obtain ⟨x_15, rfl, lx_15, ux_15⟩ := tt_vi hv_13
        refine jj_iload_n C dX0_unitsHeldIn_24 rfl ?_
        refine jj_icmp_ne (tgt := 55) C dX0_unitsHeldIn_25 (by decide) (fun c_16 => ?_) (fun c_16 => ?_)
        · have z_c_16 := jc_neq (a := (x_15).toInt) (b := (p1).toInt) c_16 rfl rfl
          obtain ⟨x_17, ex_17, vx_17⟩ := tt_inc (x := x_2) (n := 1) (by omega) (by omega)
          refine jj_iinc (v := x_17) C dX0_unitsHeldIn_55 rfl ex_17 (by decide) rfl ?_
          refine jj_goto (tgt := 5) C dX0_unitsHeldIn_58 (by decide) ?_
          exact ihL_1 pl x_17 y_3 hok hfr hfa (by first | omega | decide | exact tt_lo _ | exact tt_hi _) (by first | omega | decide | exact tt_lo _ | exact tt_hi _) (by first | omega | decide | exact tt_lo _ | exact tt_hi _)
        · have z_c_16 := jc_eq (a := (x_15).toInt) (b := (p1).toInt) c_16 rfl rfl
          refine jj_aload_n C dX0_unitsHeldIn_28 rfl ?_
          refine tt_getF C hok jk_2 12 (by decide) jw_5f730213e9 (t := (2, 7, 0)) hk0 (by decide) rfl rfl hf_9 dX0_unitsHeldIn_29 ?_
          refine jj_iload C dX0_unitsHeldIn_32 rfl ?_
          refine tt_aald C hok (t := (2, 3, 0)) ka_10 (by decide) rfl rfl rfl (vp_in_iff.mpr ⟨by omega, by omega⟩) dX0_unitsHeldIn_34 (fun v_18 hv_18 => ?_)
          obtain ⟨a_19, rfl, ka_19⟩ := tt_vr hv_18
          refine tt_get C hok jk_5 1 (by decide) jw_53dba63b8f (t := (0, (-2147483648), 2147483647)) ka_19 (by decide) rfl rfl dX0_unitsHeldIn_35 (fun v_20 hv_20 hf_21 => ?_)
          obtain ⟨x_22, rfl, lx_22, ux_22⟩ := tt_vi hv_20
          refine jj_iload_n C dX0_unitsHeldIn_38 rfl ?_
          refine jj_icmp_ne (tgt := 55) C dX0_unitsHeldIn_39 (by decide) (fun c_23 => ?_) (fun c_23 => ?_)
          · have z_c_23 := jc_neq (a := (x_22).toInt) (b := (p2).toInt) c_23 rfl rfl
            obtain ⟨x_24, ex_24, vx_24⟩ := tt_inc (x := x_2) (n := 1) (by omega) (by omega)
            refine jj_iinc (v := x_24) C dX0_unitsHeldIn_55 rfl ex_24 (by decide) rfl ?_
            refine jj_goto (tgt := 5) C dX0_unitsHeldIn_58 (by decide) ?_
            exact ihL_1 pl x_24 y_3 hok hfr hfa (by first | omega | decide | exact tt_lo _ | exact tt_hi _) (by first | omega | decide | exact tt_lo _ | exact tt_hi _) (by first | omega | decide | exact tt_lo _ | exact tt_hi _)
          · have z_c_23 := jc_eq (a := (x_22).toInt) (b := (p2).toInt) c_23 rfl rfl
            refine jj_lload_n C dX0_unitsHeldIn_42 rfl ?_
            refine jj_aload_n C dX0_unitsHeldIn_43 rfl ?_
            refine tt_getF C hok jk_2 12 (by decide) jw_5f730213e9 (t := (2, 7, 0)) hk0 (by decide) rfl rfl hf_9 dX0_unitsHeldIn_44 ?_
            refine jj_iload C dX0_unitsHeldIn_47 rfl ?_
            refine tt_aald C hok (t := (2, 3, 0)) ka_10 (by decide) rfl rfl rfl (vp_in_iff.mpr ⟨by omega, by omega⟩) dX0_unitsHeldIn_49 (fun v_25 hv_25 => ?_)
            obtain ⟨a_26, rfl, ka_26⟩ := tt_vr hv_25
            refine tt_get C hok jk_5 3 (by decide) jw_1f6afd9b6f (t := (1, (-9223372036854775808), 9223372036854775807)) ka_26 (by decide) rfl rfl dX0_unitsHeldIn_50 (fun v_27 hv_27 hf_28 => ?_)
            obtain ⟨y_29, rfl, -, -⟩ := tt_vj hv_27
            obtain ⟨y_30, ey_30⟩ : ∃ z : Int64, y_3 + y_29 = z := ⟨_, rfl⟩
            refine jj_ladd (v := y_30) C dX0_unitsHeldIn_53 ey_30 ?_
            refine jj_lstore_n C dX0_unitsHeldIn_54 (by decide) rfl ?_
            obtain ⟨x_31, ex_31, vx_31⟩ := tt_inc (x := x_2) (n := 1) (by omega) (by omega)
            refine jj_iinc (v := x_31) C dX0_unitsHeldIn_55 rfl ex_31 (by decide) rfl ?_
            refine jj_goto (tgt := 5) C dX0_unitsHeldIn_58 (by decide) ?_
            exact ihL_1 pl x_31 y_30 hok hfr hfa (by first | omega | decide | exact tt_lo _ | exact tt_hi _) (by first | omega | decide | exact tt_lo _ | exact tt_hi _) (by first | omega | decide | exact tt_lo _ | exact tt_hi _)
  exact hL_1 _ pl0 (0 : Int32) (0 : Int64) trivial hok hfr hfa (by first | omega | decide | exact tt_lo _ | exact tt_hi _) (by first | omega | decide | exact tt_lo _ | exact tt_hi _) (Int.self_le_toNat _)

set_option maxHeartbeats 4000000 in
set_option maxRecDepth 100000 in
theorem tc_X0_unitsHeldIn_13 {l : Launch} (hl : l.stackTraces = false) (D : va_G) (cA : Nat → ClassId) (ak : (Nat → Nat) × (Nat → Nat)) {Kd : Nat → Nat} (h0 : Nat) (p1 : Int32) (p2 : Int32) (hk0 : Kd h0 = 1) (lp1 : (0 : Int) ≤ p1.toInt) (up1 : p1.toInt ≤ 400) {pl0 : va_W} (hok : tt_ok tt_tk cA Kd pl0) : jj_M l D cA ak yX0_unitsHeldIn (.code yX0_unitsHeldIn cX0_unitsHeldIn 6 (some .long)) 0 0 0 0 ([] ++ pl0) [.ref h0, .int p1, .int p2] (tt_O (fun rx pl1 r => rx = [] ∧ tt_ok tt_tk cA Kd pl1 ∧ tt_fr Kd [] pl0 pl1 ∧ tt_fa Kd [] pl0 pl1 ∧ ((∃ v : Int64, r = some (.long v))))) (tt_OX (fun _ _ _ => False)) := by
  refine jj_start hl (by decide) jw_f5d838650a (jj_le rfl) ?_
  intro p e s m args below meth c A hargs hA C hex hmn
  have hfr := tt_fr.refl (K := Kd) (WS := []) pl0
  have hfa := tt_fa.refl (K := Kd) (WA := []) pl0
  have lp2 := tt_lo p2
  have up2 := tt_hi p2
  refine jj_lconst (v := 0) C dX0_unitsHeldIn_0 (by decide) ?_
  refine jj_lstore_n C dX0_unitsHeldIn_1 (by decide) rfl ?_
  refine jj_iconst (v := 0) C dX0_unitsHeldIn_2 (by decide) ?_
  refine jj_istore C dX0_unitsHeldIn_3 (by decide) rfl ?_
  have hL_1 : ∀ (N : Nat) (pl : va_W) (x_2 : Int32) (y_3 : Int64), True → tt_ok tt_tk cA Kd pl → tt_fr Kd [] pl0 pl → tt_fa Kd [] pl0 pl → (0 : Int) ≤ x_2.toInt → x_2.toInt ≤ 40 → (2147483648 - x_2.toInt ≤ (N : Int)) → jj_J p l e (jj_rm 0 0 0 0) s m args below meth c 6 A (vx_MQ below (jj_q D A (tt_O (fun rx pl1 r => rx = [] ∧ tt_ok tt_tk cA Kd pl1 ∧ tt_fr Kd [] pl0 pl1 ∧ tt_fa Kd [] pl0 pl1 ∧ ((∃ v : Int64, r = some (.long v)))))) (jj_x D A (tt_OX (fun _ _ _ => False))) args s 0 0 A) (jj_X D A ([] ++ pl)) 0 0 5 [(5, .int x_2), (3, .long y_3), (0, .ref h0), (1, .int p1), (2, .int p2)] [] := by
    intro NL_1
    induction NL_1 with
    | zero => intro pl x_2 y_3 _ hok hfr hfa lx_2 ux_2 hNL_1; exfalso; omega
    | succ NL_1 ihL_1 =>
      intro pl x_2 y_3 _ hok hfr hfa lx_2 ux_2 hNL_1
      replace ihL_1 := fun pl x_2 y_3 h1 => ihL_1 pl x_2 y_3 trivial h1
      refine jj_iload C dX0_unitsHeldIn_5 rfl ?_
      refine jj_aload_n C dX0_unitsHeldIn_7 rfl ?_
      refine tt_get C hok jk_2 8 (by decide) jw_9d0ccd4490 (t := (0, 0, 40)) hk0 (by decide) rfl rfl dX0_unitsHeldIn_8 (fun v_4 hv_4 hf_5 => ?_)
      obtain ⟨x_6, rfl, lx_6, ux_6⟩ := tt_vi hv_4
      refine jj_icmp_ge (tgt := 61) C dX0_unitsHeldIn_11 (by decide) (fun c_7 => ?_) (fun c_7 => ?_)
      · have z_c_7 := jc_le (a := (x_6).toInt) (b := (x_2).toInt) c_7 rfl rfl
        refine jj_lload_n C dX0_unitsHeldIn_61 rfl ?_
        exact jj_lret C ⟨[], pl, rfl, rfl, hok, hfr, hfa, ⟨y_3, rfl⟩⟩ dX0_unitsHeldIn_62 (jj_le rfl) (jj_le rfl)
      · have z_c_7 := jc_nle (a := (x_6).toInt) (b := (x_2).toInt) c_7 rfl rfl
        refine jj_aload_n C dX0_unitsHeldIn_14 rfl ?_
        refine tt_get C hok jk_2 12 (by decide) jw_5f730213e9 (t := (2, 7, 0)) hk0 (by decide) rfl rfl dX0_unitsHeldIn_15 (fun v_8 hv_8 hf_9 => ?_)
        obtain ⟨a_10, rfl, ka_10⟩ := tt_vr hv_8
        refine jj_iload C dX0_unitsHeldIn_18 rfl ?_
        refine tt_aald C hok (t := (2, 3, 0)) ka_10 (by decide) rfl rfl rfl (vp_in_iff.mpr ⟨by omega, by omega⟩) dX0_unitsHeldIn_20 (fun v_11 hv_11 => ?_)
        obtain ⟨a_12, rfl, ka_12⟩ := tt_vr hv_11
        refine tt_get C hok jk_5 0 (by decide) jw_89374484be (t := (0, (-2147483648), 2147483647)) ka_12 (by decide) rfl rfl dX0_unitsHeldIn_21 (fun v_13 hv_13 hf_14 => ?_)
        obtain ⟨x_15, rfl, lx_15, ux_15⟩ := tt_vi hv_13
        refine jj_iload_n C dX0_unitsHeldIn_24 rfl ?_
        refine jj_icmp_ne (tgt := 55) C dX0_unitsHeldIn_25 (by decide) (fun c_16 => ?_) (fun c_16 => ?_)
        · have z_c_16 := jc_neq (a := (x_15).toInt) (b := (p1).toInt) c_16 rfl rfl
          obtain ⟨x_17, ex_17, vx_17⟩ := tt_inc (x := x_2) (n := 1) (by omega) (by omega)
          refine jj_iinc (v := x_17) C dX0_unitsHeldIn_55 rfl ex_17 (by decide) rfl ?_
          refine jj_goto (tgt := 5) C dX0_unitsHeldIn_58 (by decide) ?_
          exact ihL_1 pl x_17 y_3 hok hfr hfa (by first | omega | decide | exact tt_lo _ | exact tt_hi _) (by first | omega | decide | exact tt_lo _ | exact tt_hi _) (by first | omega | decide | exact tt_lo _ | exact tt_hi _)
        · have z_c_16 := jc_eq (a := (x_15).toInt) (b := (p1).toInt) c_16 rfl rfl
          refine jj_aload_n C dX0_unitsHeldIn_28 rfl ?_
          refine tt_getF C hok jk_2 12 (by decide) jw_5f730213e9 (t := (2, 7, 0)) hk0 (by decide) rfl rfl hf_9 dX0_unitsHeldIn_29 ?_
          refine jj_iload C dX0_unitsHeldIn_32 rfl ?_
          refine tt_aald C hok (t := (2, 3, 0)) ka_10 (by decide) rfl rfl rfl (vp_in_iff.mpr ⟨by omega, by omega⟩) dX0_unitsHeldIn_34 (fun v_18 hv_18 => ?_)
          obtain ⟨a_19, rfl, ka_19⟩ := tt_vr hv_18
          refine tt_get C hok jk_5 1 (by decide) jw_53dba63b8f (t := (0, (-2147483648), 2147483647)) ka_19 (by decide) rfl rfl dX0_unitsHeldIn_35 (fun v_20 hv_20 hf_21 => ?_)
          obtain ⟨x_22, rfl, lx_22, ux_22⟩ := tt_vi hv_20
          refine jj_iload_n C dX0_unitsHeldIn_38 rfl ?_
          refine jj_icmp_ne (tgt := 55) C dX0_unitsHeldIn_39 (by decide) (fun c_23 => ?_) (fun c_23 => ?_)
          · have z_c_23 := jc_neq (a := (x_22).toInt) (b := (p2).toInt) c_23 rfl rfl
            obtain ⟨x_24, ex_24, vx_24⟩ := tt_inc (x := x_2) (n := 1) (by omega) (by omega)
            refine jj_iinc (v := x_24) C dX0_unitsHeldIn_55 rfl ex_24 (by decide) rfl ?_
            refine jj_goto (tgt := 5) C dX0_unitsHeldIn_58 (by decide) ?_
            exact ihL_1 pl x_24 y_3 hok hfr hfa (by first | omega | decide | exact tt_lo _ | exact tt_hi _) (by first | omega | decide | exact tt_lo _ | exact tt_hi _) (by first | omega | decide | exact tt_lo _ | exact tt_hi _)
          · have z_c_23 := jc_eq (a := (x_22).toInt) (b := (p2).toInt) c_23 rfl rfl
            refine jj_lload_n C dX0_unitsHeldIn_42 rfl ?_
            refine jj_aload_n C dX0_unitsHeldIn_43 rfl ?_
            refine tt_getF C hok jk_2 12 (by decide) jw_5f730213e9 (t := (2, 7, 0)) hk0 (by decide) rfl rfl hf_9 dX0_unitsHeldIn_44 ?_
            refine jj_iload C dX0_unitsHeldIn_47 rfl ?_
            refine tt_aald C hok (t := (2, 3, 0)) ka_10 (by decide) rfl rfl rfl (vp_in_iff.mpr ⟨by omega, by omega⟩) dX0_unitsHeldIn_49 (fun v_25 hv_25 => ?_)
            obtain ⟨a_26, rfl, ka_26⟩ := tt_vr hv_25
            refine tt_get C hok jk_5 3 (by decide) jw_1f6afd9b6f (t := (1, (-9223372036854775808), 9223372036854775807)) ka_26 (by decide) rfl rfl dX0_unitsHeldIn_50 (fun v_27 hv_27 hf_28 => ?_)
            obtain ⟨y_29, rfl, -, -⟩ := tt_vj hv_27
            obtain ⟨y_30, ey_30⟩ : ∃ z : Int64, y_3 + y_29 = z := ⟨_, rfl⟩
            refine jj_ladd (v := y_30) C dX0_unitsHeldIn_53 ey_30 ?_
            refine jj_lstore_n C dX0_unitsHeldIn_54 (by decide) rfl ?_
            obtain ⟨x_31, ex_31, vx_31⟩ := tt_inc (x := x_2) (n := 1) (by omega) (by omega)
            refine jj_iinc (v := x_31) C dX0_unitsHeldIn_55 rfl ex_31 (by decide) rfl ?_
            refine jj_goto (tgt := 5) C dX0_unitsHeldIn_58 (by decide) ?_
            exact ihL_1 pl x_31 y_30 hok hfr hfa (by first | omega | decide | exact tt_lo _ | exact tt_hi _) (by first | omega | decide | exact tt_lo _ | exact tt_hi _) (by first | omega | decide | exact tt_lo _ | exact tt_hi _)
  exact hL_1 _ pl0 (0 : Int32) (0 : Int64) trivial hok hfr hfa (by first | omega | decide | exact tt_lo _ | exact tt_hi _) (by first | omega | decide | exact tt_lo _ | exact tt_hi _) (Int.self_le_toNat _)

set_option maxHeartbeats 4000000 in
set_option maxRecDepth 100000 in
theorem tc_X0_unitsHeldIn_14 {l : Launch} (hl : l.stackTraces = false) (D : va_G) (cA : Nat → ClassId) (ak : (Nat → Nat) × (Nat → Nat)) {Kd : Nat → Nat} (h0 : Nat) (p1 : Int32) (p2 : Int32) (hk0 : Kd h0 = 1) (lp1 : (0 : Int) ≤ p1.toInt) (up1 : p1.toInt ≤ 1300) {pl0 : va_W} (hok : tt_ok tt_tk cA Kd pl0) : jj_M l D cA ak yX0_unitsHeldIn (.code yX0_unitsHeldIn cX0_unitsHeldIn 6 (some .long)) 0 0 0 0 ([] ++ pl0) [.ref h0, .int p1, .int p2] (tt_O (fun rx pl1 r => rx = [] ∧ tt_ok tt_tk cA Kd pl1 ∧ tt_fr Kd [] pl0 pl1 ∧ tt_fa Kd [] pl0 pl1 ∧ ((∃ v : Int64, r = some (.long v))))) (tt_OX (fun _ _ _ => False)) := by
  refine jj_start hl (by decide) jw_f5d838650a (jj_le rfl) ?_
  intro p e s m args below meth c A hargs hA C hex hmn
  have hfr := tt_fr.refl (K := Kd) (WS := []) pl0
  have hfa := tt_fa.refl (K := Kd) (WA := []) pl0
  have lp2 := tt_lo p2
  have up2 := tt_hi p2
  refine jj_lconst (v := 0) C dX0_unitsHeldIn_0 (by decide) ?_
  refine jj_lstore_n C dX0_unitsHeldIn_1 (by decide) rfl ?_
  refine jj_iconst (v := 0) C dX0_unitsHeldIn_2 (by decide) ?_
  refine jj_istore C dX0_unitsHeldIn_3 (by decide) rfl ?_
  have hL_1 : ∀ (N : Nat) (pl : va_W) (x_2 : Int32) (y_3 : Int64), True → tt_ok tt_tk cA Kd pl → tt_fr Kd [] pl0 pl → tt_fa Kd [] pl0 pl → (0 : Int) ≤ x_2.toInt → x_2.toInt ≤ 40 → (2147483648 - x_2.toInt ≤ (N : Int)) → jj_J p l e (jj_rm 0 0 0 0) s m args below meth c 6 A (vx_MQ below (jj_q D A (tt_O (fun rx pl1 r => rx = [] ∧ tt_ok tt_tk cA Kd pl1 ∧ tt_fr Kd [] pl0 pl1 ∧ tt_fa Kd [] pl0 pl1 ∧ ((∃ v : Int64, r = some (.long v)))))) (jj_x D A (tt_OX (fun _ _ _ => False))) args s 0 0 A) (jj_X D A ([] ++ pl)) 0 0 5 [(5, .int x_2), (3, .long y_3), (0, .ref h0), (1, .int p1), (2, .int p2)] [] := by
    intro NL_1
    induction NL_1 with
    | zero => intro pl x_2 y_3 _ hok hfr hfa lx_2 ux_2 hNL_1; exfalso; omega
    | succ NL_1 ihL_1 =>
      intro pl x_2 y_3 _ hok hfr hfa lx_2 ux_2 hNL_1
      replace ihL_1 := fun pl x_2 y_3 h1 => ihL_1 pl x_2 y_3 trivial h1
      refine jj_iload C dX0_unitsHeldIn_5 rfl ?_
      refine jj_aload_n C dX0_unitsHeldIn_7 rfl ?_
      refine tt_get C hok jk_2 8 (by decide) jw_9d0ccd4490 (t := (0, 0, 40)) hk0 (by decide) rfl rfl dX0_unitsHeldIn_8 (fun v_4 hv_4 hf_5 => ?_)
      obtain ⟨x_6, rfl, lx_6, ux_6⟩ := tt_vi hv_4
      refine jj_icmp_ge (tgt := 61) C dX0_unitsHeldIn_11 (by decide) (fun c_7 => ?_) (fun c_7 => ?_)
      · have z_c_7 := jc_le (a := (x_6).toInt) (b := (x_2).toInt) c_7 rfl rfl
        refine jj_lload_n C dX0_unitsHeldIn_61 rfl ?_
        exact jj_lret C ⟨[], pl, rfl, rfl, hok, hfr, hfa, ⟨y_3, rfl⟩⟩ dX0_unitsHeldIn_62 (jj_le rfl) (jj_le rfl)
      · have z_c_7 := jc_nle (a := (x_6).toInt) (b := (x_2).toInt) c_7 rfl rfl
        refine jj_aload_n C dX0_unitsHeldIn_14 rfl ?_
        refine tt_get C hok jk_2 12 (by decide) jw_5f730213e9 (t := (2, 7, 0)) hk0 (by decide) rfl rfl dX0_unitsHeldIn_15 (fun v_8 hv_8 hf_9 => ?_)
        obtain ⟨a_10, rfl, ka_10⟩ := tt_vr hv_8
        refine jj_iload C dX0_unitsHeldIn_18 rfl ?_
        refine tt_aald C hok (t := (2, 3, 0)) ka_10 (by decide) rfl rfl rfl (vp_in_iff.mpr ⟨by omega, by omega⟩) dX0_unitsHeldIn_20 (fun v_11 hv_11 => ?_)
        obtain ⟨a_12, rfl, ka_12⟩ := tt_vr hv_11
        refine tt_get C hok jk_5 0 (by decide) jw_89374484be (t := (0, (-2147483648), 2147483647)) ka_12 (by decide) rfl rfl dX0_unitsHeldIn_21 (fun v_13 hv_13 hf_14 => ?_)
        obtain ⟨x_15, rfl, lx_15, ux_15⟩ := tt_vi hv_13
        refine jj_iload_n C dX0_unitsHeldIn_24 rfl ?_
        refine jj_icmp_ne (tgt := 55) C dX0_unitsHeldIn_25 (by decide) (fun c_16 => ?_) (fun c_16 => ?_)
        · have z_c_16 := jc_neq (a := (x_15).toInt) (b := (p1).toInt) c_16 rfl rfl
          obtain ⟨x_17, ex_17, vx_17⟩ := tt_inc (x := x_2) (n := 1) (by omega) (by omega)
          refine jj_iinc (v := x_17) C dX0_unitsHeldIn_55 rfl ex_17 (by decide) rfl ?_
          refine jj_goto (tgt := 5) C dX0_unitsHeldIn_58 (by decide) ?_
          exact ihL_1 pl x_17 y_3 hok hfr hfa (by first | omega | decide | exact tt_lo _ | exact tt_hi _) (by first | omega | decide | exact tt_lo _ | exact tt_hi _) (by first | omega | decide | exact tt_lo _ | exact tt_hi _)
        · have z_c_16 := jc_eq (a := (x_15).toInt) (b := (p1).toInt) c_16 rfl rfl
          refine jj_aload_n C dX0_unitsHeldIn_28 rfl ?_
          refine tt_getF C hok jk_2 12 (by decide) jw_5f730213e9 (t := (2, 7, 0)) hk0 (by decide) rfl rfl hf_9 dX0_unitsHeldIn_29 ?_
          refine jj_iload C dX0_unitsHeldIn_32 rfl ?_
          refine tt_aald C hok (t := (2, 3, 0)) ka_10 (by decide) rfl rfl rfl (vp_in_iff.mpr ⟨by omega, by omega⟩) dX0_unitsHeldIn_34 (fun v_18 hv_18 => ?_)
          obtain ⟨a_19, rfl, ka_19⟩ := tt_vr hv_18
          refine tt_get C hok jk_5 1 (by decide) jw_53dba63b8f (t := (0, (-2147483648), 2147483647)) ka_19 (by decide) rfl rfl dX0_unitsHeldIn_35 (fun v_20 hv_20 hf_21 => ?_)
          obtain ⟨x_22, rfl, lx_22, ux_22⟩ := tt_vi hv_20
          refine jj_iload_n C dX0_unitsHeldIn_38 rfl ?_
          refine jj_icmp_ne (tgt := 55) C dX0_unitsHeldIn_39 (by decide) (fun c_23 => ?_) (fun c_23 => ?_)
          · have z_c_23 := jc_neq (a := (x_22).toInt) (b := (p2).toInt) c_23 rfl rfl
            obtain ⟨x_24, ex_24, vx_24⟩ := tt_inc (x := x_2) (n := 1) (by omega) (by omega)
            refine jj_iinc (v := x_24) C dX0_unitsHeldIn_55 rfl ex_24 (by decide) rfl ?_
            refine jj_goto (tgt := 5) C dX0_unitsHeldIn_58 (by decide) ?_
            exact ihL_1 pl x_24 y_3 hok hfr hfa (by first | omega | decide | exact tt_lo _ | exact tt_hi _) (by first | omega | decide | exact tt_lo _ | exact tt_hi _) (by first | omega | decide | exact tt_lo _ | exact tt_hi _)
          · have z_c_23 := jc_eq (a := (x_22).toInt) (b := (p2).toInt) c_23 rfl rfl
            refine jj_lload_n C dX0_unitsHeldIn_42 rfl ?_
            refine jj_aload_n C dX0_unitsHeldIn_43 rfl ?_
            refine tt_getF C hok jk_2 12 (by decide) jw_5f730213e9 (t := (2, 7, 0)) hk0 (by decide) rfl rfl hf_9 dX0_unitsHeldIn_44 ?_
            refine jj_iload C dX0_unitsHeldIn_47 rfl ?_
            refine tt_aald C hok (t := (2, 3, 0)) ka_10 (by decide) rfl rfl rfl (vp_in_iff.mpr ⟨by omega, by omega⟩) dX0_unitsHeldIn_49 (fun v_25 hv_25 => ?_)
            obtain ⟨a_26, rfl, ka_26⟩ := tt_vr hv_25
            refine tt_get C hok jk_5 3 (by decide) jw_1f6afd9b6f (t := (1, (-9223372036854775808), 9223372036854775807)) ka_26 (by decide) rfl rfl dX0_unitsHeldIn_50 (fun v_27 hv_27 hf_28 => ?_)
            obtain ⟨y_29, rfl, -, -⟩ := tt_vj hv_27
            obtain ⟨y_30, ey_30⟩ : ∃ z : Int64, y_3 + y_29 = z := ⟨_, rfl⟩
            refine jj_ladd (v := y_30) C dX0_unitsHeldIn_53 ey_30 ?_
            refine jj_lstore_n C dX0_unitsHeldIn_54 (by decide) rfl ?_
            obtain ⟨x_31, ex_31, vx_31⟩ := tt_inc (x := x_2) (n := 1) (by omega) (by omega)
            refine jj_iinc (v := x_31) C dX0_unitsHeldIn_55 rfl ex_31 (by decide) rfl ?_
            refine jj_goto (tgt := 5) C dX0_unitsHeldIn_58 (by decide) ?_
            exact ihL_1 pl x_31 y_30 hok hfr hfa (by first | omega | decide | exact tt_lo _ | exact tt_hi _) (by first | omega | decide | exact tt_lo _ | exact tt_hi _) (by first | omega | decide | exact tt_lo _ | exact tt_hi _)
  exact hL_1 _ pl0 (0 : Int32) (0 : Int64) trivial hok hfr hfa (by first | omega | decide | exact tt_lo _ | exact tt_hi _) (by first | omega | decide | exact tt_lo _ | exact tt_hi _) (Int.self_le_toNat _)

set_option maxHeartbeats 4000000 in
set_option maxRecDepth 100000 in
theorem tc_X5_putByte_13 {l : Launch} (hl : l.stackTraces = false) (D : va_G) (cA : Nat → ClassId) (ak : (Nat → Nat) × (Nat → Nat)) {Kd : Nat → Nat} (h0 : Nat) (hk0 : Kd h0 = 12) {pl0 : va_W} (hok : tt_ok tt_tk cA Kd pl0) : jj_M l D cA ak yX5_putByte (.code yX5_putByte cX5_putByte 2 none) 0 0 0 0 ([] ++ pl0) [.ref h0, .int 58] (tt_O (fun rx pl1 r => rx = [] ∧ tt_ok tt_tk cA Kd pl1 ∧ tt_fr Kd [(12, 1)] pl0 pl1 ∧ tt_fa Kd [13] pl0 pl1 ∧ ((r = none)))) (tt_OX (fun _ _ _ => False)) := by
  refine jj_start hl (by decide) jw_f2c63e4be6 (jj_le rfl) ?_
  intro p e s m args below meth c A hargs hA C hex hmn
  have hfr := tt_fr.refl (K := Kd) (WS := [(12, 1)]) pl0
  have hfa := tt_fa.refl (K := Kd) (WA := [13]) pl0
  refine jj_aload_n C dX5_putByte_0 rfl ?_
  refine tt_get C hok jk_6 1 (by decide) jw_a08fdff3bb (t := (0, 0, 1300)) hk0 (by decide) rfl rfl dX5_putByte_1 (fun v_1 hv_1 hf_2 => ?_)
  obtain ⟨x_3, rfl, lx_3, ux_3⟩ := tt_vi hv_1
  refine jj_sipush (v := 1300) C dX5_putByte_4 (by decide) ?_
  refine jj_icmp_ge (tgt := 30) C dX5_putByte_7 (by decide) (fun c_4 => ?_) (fun c_4 => ?_)
  · have z_c_4 := jc_le (a := (1300)) (b := (x_3).toInt) c_4 (by decide) rfl
    exact jj_vret C ⟨[], pl0, rfl, rfl, hok, hfr, hfa, rfl⟩ dX5_putByte_30 (jj_le rfl) (jj_le rfl)
  · have z_c_4 := jc_nle (a := (1300)) (b := (x_3).toInt) c_4 (by decide) rfl
    refine jj_aload_n C dX5_putByte_10 rfl ?_
    refine tt_get C hok jk_6 0 (by decide) jw_b2cc65244f (t := (2, 13, 0)) hk0 (by decide) rfl rfl dX5_putByte_11 (fun v_5 hv_5 hf_6 => ?_)
    obtain ⟨a_7, rfl, ka_7⟩ := tt_vr hv_5
    refine jj_aload_n C dX5_putByte_14 rfl ?_
    refine tt_getF C hok jk_6 1 (by decide) jw_a08fdff3bb (t := (0, 0, 1300)) hk0 (by decide) rfl rfl hf_2 dX5_putByte_15 ?_
    refine jj_iload_n C dX5_putByte_18 rfl ?_
    refine tl_bast C hok (t := (0, (-2147483648), 2147483647)) ka_7 (by decide) rfl (vp_in_iff.mpr ⟨by omega, by omega⟩) (tt_ia _) dX5_putByte_19 (fun pl_8 hok_9 tr tl => ?_)
    replace hf_2 := tr _ _ _ hf_2
    replace hf_6 := tr _ _ _ hf_6
    replace hfr := hfr.arr tr
    replace hfa := hfa.wr ka_7 tl (by decide)
    refine jj_aload_n C dX5_putByte_20 rfl ?_
    refine jj_dup C dX5_putByte_21 rfl ?_
    refine tt_getF C hok_9 jk_6 1 (by decide) jw_a08fdff3bb (t := (0, 0, 1300)) hk0 (by decide) rfl rfl hf_2 dX5_putByte_22 ?_
    refine jj_iconst (v := 1) C dX5_putByte_25 (by decide) ?_
    obtain ⟨x_10, ex_10, vx_10⟩ := tt_iadd (x := x_3) (y := (1 : Int32)) (a := x_3.toInt) rfl (b := 1) (by decide) (by omega) (by omega)
    refine jj_iadd (v := x_10) C dX5_putByte_26 ex_10 ?_
    refine rl_put C hok_9 jk_6 1 (by decide) jw_a08fdff3bb (t := (0, 0, 1300)) hk0 (by decide) rfl rfl rfl (tt_iv (by omega) (by omega)) rfl rfl dX5_putByte_27 (fun pl_11 hok_12 tr hn tl => ?_)
    replace hf_6 := tr _ _ _ (Or.inr (by decide)) hf_6
    have hf_13 := hn
    replace hfr := hfr.put hk0 tr (by decide)
    replace hfa := hfa.all tl
    exact jj_vret C ⟨[], pl_11, rfl, rfl, hok_12, hfr, hfa, rfl⟩ dX5_putByte_30 (jj_le rfl) (jj_le rfl)

set_option maxHeartbeats 4000000 in
set_option maxRecDepth 100000 in
theorem tc_X5_putText_7 {l : Launch} (hl : l.stackTraces = false) (D : va_G) (cA : Nat → ClassId) (ak : (Nat → Nat) × (Nat → Nat)) {Kd : Nat → Nat} (h0 : Nat) (hk0 : Kd h0 = 12) {pl0 : va_W} (hok : tt_ok tt_tk cA Kd pl0) : jj_M l D cA ak yX5_putText (.code yX5_putText cX5_putText 3 none) 4 85 0 0 ([] ++ pl0) [.ref h0, .ref (ak.1 19)] (tt_O (fun rx pl1 r => rx = [] ∧ tt_ok tt_tk cA Kd pl1 ∧ tt_fr Kd [(12, 1)] pl0 pl1 ∧ tt_fa Kd [13] pl0 pl1 ∧ ((r = none)))) (tt_OX (fun _ _ _ => False)) := by
  refine jj_start hl (by decide) jw_5a16104e3b (jj_le rfl) ?_
  intro p e s m args below meth c A hargs hA C hex hmn
  have hfr := tt_fr.refl (K := Kd) (WS := [(12, 1)]) pl0
  have hfa := tt_fa.refl (K := Kd) (WA := [13]) pl0
  refine jj_iconst (v := 0) C dX5_putText_0 (by decide) ?_
  refine jj_istore_n C dX5_putText_1 (by decide) rfl ?_
  refine jj_iload_n C dX5_putText_2 rfl ?_
  refine jj_aload_n C dX5_putText_3 rfl ?_
  refine tt_call0Vs (rest := [.int 0]) C (ct_J0_length_8abf5_20 hl D cA ak) 19 (by decide) rfl jw_07c280d6f3 jw_b1ce304435 jw_d08f03a22e jw_4ea6285965 jw_bbc7045666 jn_J0_length_8abf5 rfl (jj_le rfl) (jj_le rfl) (jj_le rfl) (jj_le rfl) (jj_le rfl) dX5_putText_4 rfl (fun w1 r O_1 => ?_)
  obtain ⟨-, rfl⟩ := O_1
  refine jj_icmp_geF (tgt := 26) C dX5_putText_7 (by decide) (by decide) ?_
  refine jj_aload_n C dX5_putText_10 rfl ?_
  refine jj_aload_n C dX5_putText_11 rfl ?_
  refine jj_iload_n C dX5_putText_12 rfl ?_
  refine tt_call0Vs (rest := [.ref h0]) C (ct_J0_charAt_5068e_103 hl D cA ak) 19 (by decide) rfl jw_d18806e438 jw_acb9174fef jw_675efe837b jw_4ea6285965 jw_391c0f56bd jn_J0_charAt_5068e rfl (jj_le rfl) (jj_le rfl) (jj_le rfl) (jj_le rfl) (jj_le rfl) dX5_putText_13 rfl (fun w1 r O_2 => ?_)
  obtain ⟨-, rfl⟩ := O_2
  refine jj_i2b (v := 58) C dX5_putText_16 (by decide) ?_
  obtain ⟨qc, gs, hqc⟩ := tt_recv (cx := []) hok hk0 (by decide) rfl
  refine tt_callV (rest := []) C (tc_X5_putByte_13 hl D cA ak h0 hk0 hok) [] [] rfl rfl (by decide) (by decide) (by decide) qc hqc rfl rfl jw_cc20a77ce3 jw_211b56f0bf jw_e8686d9408 jw_30ed28480a jw_f2c63e4be6 jn_X5_putByte rfl (jj_le rfl) (jj_le rfl) (jj_le rfl) (jj_le rfl) (jj_le rfl) dX5_putText_17 rfl (fun _ _ _ hX => hX.elim) (fun rx pl_3 r O_6 => ?_)
  obtain ⟨rfl, hok_4, hr_5, hfa9, hR_8⟩ := O_6
  replace hfr := hfr.trans (hr_5.sub (by decide))
  replace hfa := hfa.trans (hfa9.sub (by decide))
  obtain rfl := hR_8
  refine jj_iinc (v := 1) C dX5_putText_20 rfl (by decide) (by decide) rfl ?_
  refine jj_goto (tgt := 2) C dX5_putText_23 (by decide) ?_
  refine jj_iload_n C dX5_putText_2 rfl ?_
  refine jj_aload_n C dX5_putText_3 rfl ?_
  refine tt_call0Vs (rest := [.int 1]) C (ct_J0_length_8abf5_20 hl D cA ak) 19 (by decide) rfl jw_07c280d6f3 jw_b1ce304435 jw_d08f03a22e jw_4ea6285965 jw_bbc7045666 jn_J0_length_8abf5 rfl (jj_le rfl) (jj_le rfl) (jj_le rfl) (jj_le rfl) (jj_le rfl) dX5_putText_4 rfl (fun w1 r O_11 => ?_)
  obtain ⟨-, rfl⟩ := O_11
  refine jj_icmp_geT (tgt := 26) C dX5_putText_7 (by decide) (by decide) ?_
  exact jj_vret C ⟨[], pl_3, rfl, rfl, hok_4, hfr, hfa, rfl⟩ dX5_putText_26 (jj_le rfl) (jj_le rfl)

set_option maxHeartbeats 4000000 in
set_option maxRecDepth 100000 in
theorem tc_X5_writeSeries_1 {l : Launch} (hl : l.stackTraces = false) (D : va_G) (cA : Nat → ClassId) (ak : (Nat → Nat) × (Nat → Nat)) {Kd : Nat → Nat} (h0 : Nat) (h1 : Nat) (h2 : Nat) (hk0 : Kd h0 = 12) (hk1 : Kd h1 = 1) (hk2 : Kd h2 = 2) {pl0 : va_W} (hok : tt_ok tt_tk cA Kd pl0) : jj_M l D cA ak yX5_writeSeries (.code yX5_writeSeries cX5_writeSeries 6 none) 6 133 0 0 ([] ++ pl0) [.ref h0, .ref h1, .ref h2] (tt_O (fun rx pl1 r => rx = [] ∧ tt_ok tt_tk cA Kd pl1 ∧ tt_fr Kd [(12, 1)] pl0 pl1 ∧ tt_fa Kd [13, 14] pl0 pl1 ∧ ((r = none)))) (tt_OX (fun _ _ _ => False)) := by
  refine jj_start hl (by decide) jw_add0a538b6 (jj_le rfl) ?_
  intro p e s m args below meth c A hargs hA C hex hmn
  have hfr := tt_fr.refl (K := Kd) (WS := [(12, 1)]) pl0
  have hfa := tt_fa.refl (K := Kd) (WA := [13, 14]) pl0
  refine jj_aload_n C dX5_writeSeries_0 rfl ?_
  refine jj_ldcs (k := 17) (tx := "series ") C dX5_writeSeries_1 (by decide +kernel) ?_
  obtain ⟨qc, gs, hqc⟩ := tt_recv (cx := []) hok hk0 (by decide) rfl
  refine tt_callV (rest := []) C (tc_X5_putText_5 hl D cA ak h0 hk0 hok) [] [] rfl rfl (by decide) (by decide) (by decide) qc hqc rfl rfl jw_ff91692536 jw_b9307dcbf6 jw_3d1837b6f1 jw_30ed28480a jw_5a16104e3b jn_X5_putText rfl (jj_le rfl) (jj_le rfl) (jj_le rfl) (jj_le rfl) (jj_le rfl) dX5_writeSeries_3 rfl (fun _ _ _ hX => hX.elim) (fun rx pl_1 r O_4 => ?_)
  obtain ⟨rfl, hok_2, hr_3, hfa9, hR_6⟩ := O_4
  replace hfr := hfr.trans (hr_3.sub (by decide))
  replace hfa := hfa.trans (hfa9.sub (by decide))
  obtain rfl := hR_6
  refine jj_aload_n C dX5_writeSeries_6 rfl ?_
  refine jj_aload_n C dX5_writeSeries_7 rfl ?_
  refine tt_get C hok_2 jk_9 0 (by decide) jw_4056cb3c52 (t := (0, (-2147483648), 2147483647)) hk2 (by decide) rfl rfl dX5_writeSeries_8 (fun v_9 hv_9 hf_10 => ?_)
  obtain ⟨x_11, rfl, lx_11, ux_11⟩ := tt_vi hv_9
  obtain ⟨y_12, ey_12, vy_12⟩ := tt_i2l x_11
  refine jj_i2l (v := y_12) C dX5_writeSeries_11 ey_12 ?_
  obtain ⟨qc, gs, hqc⟩ := tt_recv (cx := []) hok_2 hk0 (by decide) rfl
  refine tt_callV (rest := []) C (tc_X5_putNumber_1 hl D cA ak h0 y_12 hk0 hok_2) [] [] rfl rfl (by decide) (by decide) (by decide) qc hqc rfl rfl jw_2dacb695e6 jw_15d69287eb jw_824f0dd712 jw_30ed28480a jw_a47eeef3f1 jn_X5_putNumber rfl (jj_le rfl) (jj_le rfl) (jj_le rfl) (jj_le rfl) (jj_le rfl) dX5_writeSeries_12 rfl (fun _ _ _ hX => hX.elim) (fun rx pl_13 r O_16 => ?_)
  obtain ⟨rfl, hok_14, hr_15, hfa9, hR_18⟩ := O_16
  replace hf_10 := hr_15.at hk2 (by decide) (by decide) hf_10
  replace hfr := hfr.trans (hr_15.sub (by decide))
  replace hfa := hfa.trans (hfa9.sub (by decide))
  obtain rfl := hR_18
  refine jj_aload_n C dX5_writeSeries_15 rfl ?_
  refine jj_ldcs (k := 18) (tx := " ") C dX5_writeSeries_16 (by decide +kernel) ?_
  obtain ⟨qc, gs, hqc⟩ := tt_recv (cx := []) hok_14 hk0 (by decide) rfl
  refine tt_callV (rest := []) C (tc_X5_putText_6 hl D cA ak h0 hk0 hok_14) [] [] rfl rfl (by decide) (by decide) (by decide) qc hqc rfl rfl jw_ff91692536 jw_b9307dcbf6 jw_3d1837b6f1 jw_30ed28480a jw_5a16104e3b jn_X5_putText rfl (jj_le rfl) (jj_le rfl) (jj_le rfl) (jj_le rfl) (jj_le rfl) dX5_writeSeries_18 rfl (fun _ _ _ hX => hX.elim) (fun rx pl_21 r O_24 => ?_)
  obtain ⟨rfl, hok_22, hr_23, hfa9, hR_26⟩ := O_24
  replace hf_10 := hr_23.at hk2 (by decide) (by decide) hf_10
  replace hfr := hfr.trans (hr_23.sub (by decide))
  replace hfa := hfa.trans (hfa9.sub (by decide))
  obtain rfl := hR_26
  refine jj_aload_n C dX5_writeSeries_21 rfl ?_
  refine jj_aload_n C dX5_writeSeries_22 rfl ?_
  refine jj_aload_n C dX5_writeSeries_23 rfl ?_
  refine tt_get C hok_22 jk_2 3 (by decide) jw_f25d108244 (t := (0, (-2147483648), 2147483647)) hk1 (by decide) rfl rfl dX5_writeSeries_24 (fun v_29 hv_29 hf_30 => ?_)
  obtain ⟨x_31, rfl, lx_31, ux_31⟩ := tt_vi hv_29
  obtain ⟨qc, gs, hqc⟩ := tt_recv (cx := []) hok_22 hk2 (by decide) rfl
  refine tt_callV (rest := [.ref h0]) C (tc_X8_netPrice_1 hl D cA ak h2 x_31 hk2 hok_22) [] [] rfl rfl (by decide) (by decide) (by decide) qc hqc rfl rfl jw_1c304628c6 jw_1bed268582 jw_88114e5225 jw_364e75910d jw_9476451334 jn_X8_netPrice rfl (jj_le rfl) (jj_le rfl) (jj_le rfl) (jj_le rfl) (jj_le rfl) dX5_writeSeries_27 rfl (fun _ _ _ hX => hX.elim) (fun rx pl_32 r O_35 => ?_)
  obtain ⟨rfl, hok_33, hr_34, hfa9, hR_37⟩ := O_35
  replace hf_10 := hr_34.at hk2 (by decide) (by decide) hf_10
  replace hf_30 := hr_34.at hk1 (by decide) (by decide) hf_30
  replace hfr := hfr.trans (hr_34.sub (by decide))
  replace hfa := hfa.trans (hfa9.sub (by decide))
  rcases hR_37 with rfl | ⟨y_40, rfl⟩
  · obtain ⟨qc, gs, hqc⟩ := tt_recv (cx := []) hok_33 hk0 (by decide) rfl
    refine tt_callV (rest := []) C (tc_X5_putNumber_2 hl D cA ak h0 hk0 hok_33) [] [] rfl rfl (by decide) (by decide) (by decide) qc hqc rfl rfl jw_2dacb695e6 jw_15d69287eb jw_824f0dd712 jw_30ed28480a jw_a47eeef3f1 jn_X5_putNumber rfl (jj_le rfl) (jj_le rfl) (jj_le rfl) (jj_le rfl) (jj_le rfl) dX5_writeSeries_30 rfl (fun _ _ _ hX => hX.elim) (fun rx pl_41 r O_44 => ?_)
    obtain ⟨rfl, hok_42, hr_43, hfa9, hR_46⟩ := O_44
    replace hf_10 := hr_43.at hk2 (by decide) (by decide) hf_10
    replace hf_30 := hr_43.at hk1 (by decide) (by decide) hf_30
    replace hfr := hfr.trans (hr_43.sub (by decide))
    replace hfa := hfa.trans (hfa9.sub (by decide))
    obtain rfl := hR_46
    refine jj_aload_n C dX5_writeSeries_33 rfl ?_
    refine jj_ldcs (k := 18) (tx := " ") C dX5_writeSeries_34 (by decide +kernel) ?_
    obtain ⟨qc, gs, hqc⟩ := tt_recv (cx := []) hok_42 hk0 (by decide) rfl
    refine tt_callV (rest := []) C (tc_X5_putText_6 hl D cA ak h0 hk0 hok_42) [] [] rfl rfl (by decide) (by decide) (by decide) qc hqc rfl rfl jw_ff91692536 jw_b9307dcbf6 jw_3d1837b6f1 jw_30ed28480a jw_5a16104e3b jn_X5_putText rfl (jj_le rfl) (jj_le rfl) (jj_le rfl) (jj_le rfl) (jj_le rfl) dX5_writeSeries_36 rfl (fun _ _ _ hX => hX.elim) (fun rx pl_49 r O_52 => ?_)
    obtain ⟨rfl, hok_50, hr_51, hfa9, hR_54⟩ := O_52
    replace hf_10 := hr_51.at hk2 (by decide) (by decide) hf_10
    replace hf_30 := hr_51.at hk1 (by decide) (by decide) hf_30
    replace hfr := hfr.trans (hr_51.sub (by decide))
    replace hfa := hfa.trans (hfa9.sub (by decide))
    obtain rfl := hR_54
    refine jj_aload_n C dX5_writeSeries_39 rfl ?_
    refine jj_aload_n C dX5_writeSeries_40 rfl ?_
    refine tt_get C hok_50 jk_9 4 (by decide) jw_9b2c2b57a7 (t := (1, (-9223372036854775808), 9223372036854775807)) hk2 (by decide) rfl rfl dX5_writeSeries_41 (fun v_57 hv_57 hf_58 => ?_)
    obtain ⟨y_59, rfl, -, -⟩ := tt_vj hv_57
    obtain ⟨qc, gs, hqc⟩ := tt_recv (cx := []) hok_50 hk0 (by decide) rfl
    refine tt_callV (rest := []) C (tc_X5_putNumber_1 hl D cA ak h0 y_59 hk0 hok_50) [] [] rfl rfl (by decide) (by decide) (by decide) qc hqc rfl rfl jw_2dacb695e6 jw_15d69287eb jw_824f0dd712 jw_30ed28480a jw_a47eeef3f1 jn_X5_putNumber rfl (jj_le rfl) (jj_le rfl) (jj_le rfl) (jj_le rfl) (jj_le rfl) dX5_writeSeries_44 rfl (fun _ _ _ hX => hX.elim) (fun rx pl_60 r O_63 => ?_)
    obtain ⟨rfl, hok_61, hr_62, hfa9, hR_65⟩ := O_63
    replace hf_10 := hr_62.at hk2 (by decide) (by decide) hf_10
    replace hf_30 := hr_62.at hk1 (by decide) (by decide) hf_30
    replace hf_58 := hr_62.at hk2 (by decide) (by decide) hf_58
    replace hfr := hfr.trans (hr_62.sub (by decide))
    replace hfa := hfa.trans (hfa9.sub (by decide))
    obtain rfl := hR_65
    refine jj_iconst (v := 0) C dX5_writeSeries_47 (by decide) ?_
    refine jj_istore_n C dX5_writeSeries_48 (by decide) rfl ?_
    have hL_68 : ∀ (N : Nat) (pl : va_W) (x_69 : Int32), True → tt_ok tt_tk cA Kd pl → tt_fr Kd [(12, 1)] pl0 pl → tt_fa Kd [13, 14] pl0 pl → tt_at pl h2 0 (.int x_11) → tt_at pl h1 3 (.int x_31) → tt_at pl h2 4 (.long y_59) → (0 : Int) ≤ x_69.toInt → x_69.toInt ≤ 2147483647 → (2147483648 - x_69.toInt ≤ (N : Int)) → jj_J p l e (jj_rm 6 133 0 0) s m args below meth c 6 A (vx_MQ below (jj_q D A (tt_O (fun rx pl1 r => rx = [] ∧ tt_ok tt_tk cA Kd pl1 ∧ tt_fr Kd [(12, 1)] pl0 pl1 ∧ tt_fa Kd [13, 14] pl0 pl1 ∧ ((r = none))))) (jj_x D A (tt_OX (fun _ _ _ => False))) args s 0 0 A) (jj_X D A ([] ++ pl)) 0 0 49 [(3, .int x_69), (0, .ref h0), (1, .ref h1), (2, .ref h2)] [] := by
      intro NL_68
      induction NL_68 with
      | zero => intro pl x_69 _ hok hfr hfa hf_70 hf_71 hf_72 lx_69 ux_69 hNL_68; exfalso; omega
      | succ NL_68 ihL_68 =>
        intro pl x_69 _ hok hfr hfa hf_70 hf_71 hf_72 lx_69 ux_69 hNL_68
        replace ihL_68 := fun pl x_69 h1 => ihL_68 pl x_69 trivial h1
        refine jj_iload_n C dX5_writeSeries_49 rfl ?_
        refine jj_aload_n C dX5_writeSeries_50 rfl ?_
        refine tt_get C hok jk_2 0 (by decide) jw_ee64ff1b96 (t := (0, (-2147483648), 2147483647)) hk1 (by decide) rfl rfl dX5_writeSeries_51 (fun v_73 hv_73 hf_74 => ?_)
        obtain ⟨x_75, rfl, lx_75, ux_75⟩ := tt_vi hv_73
        refine jj_icmp_ge (tgt := 105) C dX5_writeSeries_54 (by decide) (fun c_76 => ?_) (fun c_76 => ?_)
        · have z_c_76 := jc_le (a := (x_75).toInt) (b := (x_69).toInt) c_76 rfl rfl
          refine jj_aload_n C dX5_writeSeries_105 rfl ?_
          refine jj_ldcs (k := 16) (tx := "\n") C dX5_writeSeries_106 (by decide +kernel) ?_
          obtain ⟨qc, gs, hqc⟩ := tt_recv (cx := []) hok hk0 (by decide) rfl
          refine tt_callV (rest := []) C (tc_X5_putText_4 hl D cA ak h0 hk0 hok) [] [] rfl rfl (by decide) (by decide) (by decide) qc hqc rfl rfl jw_ff91692536 jw_b9307dcbf6 jw_3d1837b6f1 jw_30ed28480a jw_5a16104e3b jn_X5_putText rfl (jj_le rfl) (jj_le rfl) (jj_le rfl) (jj_le rfl) (jj_le rfl) dX5_writeSeries_108 rfl (fun _ _ _ hX => hX.elim) (fun rx pl_77 r O_80 => ?_)
          obtain ⟨rfl, hok_78, hr_79, hfa9, hR_82⟩ := O_80
          replace hf_70 := hr_79.at hk2 (by decide) (by decide) hf_70
          replace hf_71 := hr_79.at hk1 (by decide) (by decide) hf_71
          replace hf_72 := hr_79.at hk2 (by decide) (by decide) hf_72
          replace hf_74 := hr_79.at hk1 (by decide) (by decide) hf_74
          replace hfr := hfr.trans (hr_79.sub (by decide))
          replace hfa := hfa.trans (hfa9.sub (by decide))
          obtain rfl := hR_82
          exact jj_vret C ⟨[], pl_77, rfl, rfl, hok_78, hfr, hfa, rfl⟩ dX5_writeSeries_111 (jj_le rfl) (jj_le rfl)
        · have z_c_76 := jc_nle (a := (x_75).toInt) (b := (x_69).toInt) c_76 rfl rfl
          refine jj_aload_n C dX5_writeSeries_57 rfl ?_
          refine jj_iload_n C dX5_writeSeries_58 rfl ?_
          refine jj_aload_n C dX5_writeSeries_59 rfl ?_
          refine tt_getF C hok jk_9 0 (by decide) jw_4056cb3c52 (t := (0, (-2147483648), 2147483647)) hk2 (by decide) rfl rfl hf_70 dX5_writeSeries_60 ?_
          obtain ⟨qc, gs, hqc⟩ := tt_recv (cx := []) hok hk1 (by decide) rfl
          refine tt_callV (rest := []) C (tc_X0_unitsHeldIn_1 hl D cA ak h1 x_69 x_11 hk1 hok) [] [] rfl rfl (by decide) (by decide) (by decide) qc hqc rfl rfl jw_212dce9a7f jw_44053edb24 jw_82fd26a6fd jw_7d25d4fd32 jw_f5d838650a jn_X0_unitsHeldIn rfl (jj_le rfl) (jj_le rfl) (jj_le rfl) (jj_le rfl) (jj_le rfl) dX5_writeSeries_63 rfl (fun _ _ _ hX => hX.elim) (fun rx pl_85 r O_88 => ?_)
          obtain ⟨rfl, hok_86, hr_87, hfa9, hR_90⟩ := O_88
          replace hf_70 := hr_87.at hk2 (by decide) (by decide) hf_70
          replace hf_71 := hr_87.at hk1 (by decide) (by decide) hf_71
          replace hf_72 := hr_87.at hk2 (by decide) (by decide) hf_72
          replace hf_74 := hr_87.at hk1 (by decide) (by decide) hf_74
          replace hfr := hfr.trans (hr_87.sub (by decide))
          replace hfa := hfa.trans (hfa9.sub (by decide))
          obtain ⟨y_93, rfl⟩ := hR_90
          refine jj_lstore C dX5_writeSeries_66 (by decide) rfl ?_
          refine jj_lload C dX5_writeSeries_68 rfl ?_
          refine jj_lconst (v := 0) C dX5_writeSeries_70 (by decide) ?_
          refine jj_lcmp_le (tgt := 99) C dX5_writeSeries_71 dX5_writeSeries_72 (by decide) (fun c_94 => ?_) (fun c_94 => ?_)
          · obtain ⟨x_95, ex_95, vx_95⟩ := tt_inc (x := x_69) (n := 1) (by omega) (by omega)
            refine jj_iinc (v := x_95) C dX5_writeSeries_99 rfl ex_95 (by decide) rfl ?_
            refine jj_goto (tgt := 49) C dX5_writeSeries_102 (by decide) ?_
            refine jj_loc [0, 2, 3, 4] rfl ?_
            exact ihL_68 pl_85 x_95 hok_86 hfr hfa hf_70 hf_71 hf_72 (by first | omega | decide | exact tt_lo _ | exact tt_hi _) (by first | omega | decide | exact tt_lo _ | exact tt_hi _) (by first | omega | decide | exact tt_lo _ | exact tt_hi _)
          · refine jj_aload_n C dX5_writeSeries_75 rfl ?_
            refine jj_ldcs (k := 18) (tx := " ") C dX5_writeSeries_76 (by decide +kernel) ?_
            obtain ⟨qc, gs, hqc⟩ := tt_recv (cx := []) hok_86 hk0 (by decide) rfl
            refine tt_callV (rest := []) C (tc_X5_putText_6 hl D cA ak h0 hk0 hok_86) [] [] rfl rfl (by decide) (by decide) (by decide) qc hqc rfl rfl jw_ff91692536 jw_b9307dcbf6 jw_3d1837b6f1 jw_30ed28480a jw_5a16104e3b jn_X5_putText rfl (jj_le rfl) (jj_le rfl) (jj_le rfl) (jj_le rfl) (jj_le rfl) dX5_writeSeries_78 rfl (fun _ _ _ hX => hX.elim) (fun rx pl_96 r O_99 => ?_)
            obtain ⟨rfl, hok_97, hr_98, hfa9, hR_101⟩ := O_99
            replace hf_70 := hr_98.at hk2 (by decide) (by decide) hf_70
            replace hf_71 := hr_98.at hk1 (by decide) (by decide) hf_71
            replace hf_72 := hr_98.at hk2 (by decide) (by decide) hf_72
            replace hf_74 := hr_98.at hk1 (by decide) (by decide) hf_74
            replace hfr := hfr.trans (hr_98.sub (by decide))
            replace hfa := hfa.trans (hfa9.sub (by decide))
            obtain rfl := hR_101
            refine jj_aload_n C dX5_writeSeries_81 rfl ?_
            refine jj_iload_n C dX5_writeSeries_82 rfl ?_
            obtain ⟨y_104, ey_104, vy_104⟩ := tt_i2l x_69
            refine jj_i2l (v := y_104) C dX5_writeSeries_83 ey_104 ?_
            obtain ⟨qc, gs, hqc⟩ := tt_recv (cx := []) hok_97 hk0 (by decide) rfl
            refine tt_callV (rest := []) C (tc_X5_putNumber_1 hl D cA ak h0 y_104 hk0 hok_97) [] [] rfl rfl (by decide) (by decide) (by decide) qc hqc rfl rfl jw_2dacb695e6 jw_15d69287eb jw_824f0dd712 jw_30ed28480a jw_a47eeef3f1 jn_X5_putNumber rfl (jj_le rfl) (jj_le rfl) (jj_le rfl) (jj_le rfl) (jj_le rfl) dX5_writeSeries_84 rfl (fun _ _ _ hX => hX.elim) (fun rx pl_105 r O_108 => ?_)
            obtain ⟨rfl, hok_106, hr_107, hfa9, hR_110⟩ := O_108
            replace hf_70 := hr_107.at hk2 (by decide) (by decide) hf_70
            replace hf_71 := hr_107.at hk1 (by decide) (by decide) hf_71
            replace hf_72 := hr_107.at hk2 (by decide) (by decide) hf_72
            replace hf_74 := hr_107.at hk1 (by decide) (by decide) hf_74
            replace hfr := hfr.trans (hr_107.sub (by decide))
            replace hfa := hfa.trans (hfa9.sub (by decide))
            obtain rfl := hR_110
            refine jj_aload_n C dX5_writeSeries_87 rfl ?_
            refine jj_ldcs (k := 19) (tx := ":") C dX5_writeSeries_88 (by decide +kernel) ?_
            obtain ⟨qc, gs, hqc⟩ := tt_recv (cx := []) hok_106 hk0 (by decide) rfl
            refine tt_callV (rest := []) C (tc_X5_putText_7 hl D cA ak h0 hk0 hok_106) [] [] rfl rfl (by decide) (by decide) (by decide) qc hqc rfl rfl jw_ff91692536 jw_b9307dcbf6 jw_3d1837b6f1 jw_30ed28480a jw_5a16104e3b jn_X5_putText rfl (jj_le rfl) (jj_le rfl) (jj_le rfl) (jj_le rfl) (jj_le rfl) dX5_writeSeries_90 rfl (fun _ _ _ hX => hX.elim) (fun rx pl_113 r O_116 => ?_)
            obtain ⟨rfl, hok_114, hr_115, hfa9, hR_118⟩ := O_116
            replace hf_70 := hr_115.at hk2 (by decide) (by decide) hf_70
            replace hf_71 := hr_115.at hk1 (by decide) (by decide) hf_71
            replace hf_72 := hr_115.at hk2 (by decide) (by decide) hf_72
            replace hf_74 := hr_115.at hk1 (by decide) (by decide) hf_74
            replace hfr := hfr.trans (hr_115.sub (by decide))
            replace hfa := hfa.trans (hfa9.sub (by decide))
            obtain rfl := hR_118
            refine jj_aload_n C dX5_writeSeries_93 rfl ?_
            refine jj_lload C dX5_writeSeries_94 rfl ?_
            obtain ⟨qc, gs, hqc⟩ := tt_recv (cx := []) hok_114 hk0 (by decide) rfl
            refine tt_callV (rest := []) C (tc_X5_putNumber_1 hl D cA ak h0 y_93 hk0 hok_114) [] [] rfl rfl (by decide) (by decide) (by decide) qc hqc rfl rfl jw_2dacb695e6 jw_15d69287eb jw_824f0dd712 jw_30ed28480a jw_a47eeef3f1 jn_X5_putNumber rfl (jj_le rfl) (jj_le rfl) (jj_le rfl) (jj_le rfl) (jj_le rfl) dX5_writeSeries_96 rfl (fun _ _ _ hX => hX.elim) (fun rx pl_121 r O_124 => ?_)
            obtain ⟨rfl, hok_122, hr_123, hfa9, hR_126⟩ := O_124
            replace hf_70 := hr_123.at hk2 (by decide) (by decide) hf_70
            replace hf_71 := hr_123.at hk1 (by decide) (by decide) hf_71
            replace hf_72 := hr_123.at hk2 (by decide) (by decide) hf_72
            replace hf_74 := hr_123.at hk1 (by decide) (by decide) hf_74
            replace hfr := hfr.trans (hr_123.sub (by decide))
            replace hfa := hfa.trans (hfa9.sub (by decide))
            obtain rfl := hR_126
            obtain ⟨x_129, ex_129, vx_129⟩ := tt_inc (x := x_69) (n := 1) (by omega) (by omega)
            refine jj_iinc (v := x_129) C dX5_writeSeries_99 rfl ex_129 (by decide) rfl ?_
            refine jj_goto (tgt := 49) C dX5_writeSeries_102 (by decide) ?_
            refine jj_loc [0, 2, 3, 4] rfl ?_
            exact ihL_68 pl_121 x_129 hok_122 hfr hfa hf_70 hf_71 hf_72 (by first | omega | decide | exact tt_lo _ | exact tt_hi _) (by first | omega | decide | exact tt_lo _ | exact tt_hi _) (by first | omega | decide | exact tt_lo _ | exact tt_hi _)
    exact hL_68 _ pl_60 (0 : Int32) trivial hok_61 hfr hfa hf_10 hf_30 hf_58 (by first | omega | decide | exact tt_lo _ | exact tt_hi _) (by first | omega | decide | exact tt_lo _ | exact tt_hi _) (Int.self_le_toNat _)
  · obtain ⟨qc, gs, hqc⟩ := tt_recv (cx := []) hok_33 hk0 (by decide) rfl
    refine tt_callV (rest := []) C (tc_X5_putNumber_1 hl D cA ak h0 y_40 hk0 hok_33) [] [] rfl rfl (by decide) (by decide) (by decide) qc hqc rfl rfl jw_2dacb695e6 jw_15d69287eb jw_824f0dd712 jw_30ed28480a jw_a47eeef3f1 jn_X5_putNumber rfl (jj_le rfl) (jj_le rfl) (jj_le rfl) (jj_le rfl) (jj_le rfl) dX5_writeSeries_30 rfl (fun _ _ _ hX => hX.elim) (fun rx pl_130 r O_133 => ?_)
    obtain ⟨rfl, hok_131, hr_132, hfa9, hR_135⟩ := O_133
    replace hf_10 := hr_132.at hk2 (by decide) (by decide) hf_10
    replace hf_30 := hr_132.at hk1 (by decide) (by decide) hf_30
    replace hfr := hfr.trans (hr_132.sub (by decide))
    replace hfa := hfa.trans (hfa9.sub (by decide))
    obtain rfl := hR_135
    refine jj_aload_n C dX5_writeSeries_33 rfl ?_
    refine jj_ldcs (k := 18) (tx := " ") C dX5_writeSeries_34 (by decide +kernel) ?_
    obtain ⟨qc, gs, hqc⟩ := tt_recv (cx := []) hok_131 hk0 (by decide) rfl
    refine tt_callV (rest := []) C (tc_X5_putText_6 hl D cA ak h0 hk0 hok_131) [] [] rfl rfl (by decide) (by decide) (by decide) qc hqc rfl rfl jw_ff91692536 jw_b9307dcbf6 jw_3d1837b6f1 jw_30ed28480a jw_5a16104e3b jn_X5_putText rfl (jj_le rfl) (jj_le rfl) (jj_le rfl) (jj_le rfl) (jj_le rfl) dX5_writeSeries_36 rfl (fun _ _ _ hX => hX.elim) (fun rx pl_138 r O_141 => ?_)
    obtain ⟨rfl, hok_139, hr_140, hfa9, hR_143⟩ := O_141
    replace hf_10 := hr_140.at hk2 (by decide) (by decide) hf_10
    replace hf_30 := hr_140.at hk1 (by decide) (by decide) hf_30
    replace hfr := hfr.trans (hr_140.sub (by decide))
    replace hfa := hfa.trans (hfa9.sub (by decide))
    obtain rfl := hR_143
    refine jj_aload_n C dX5_writeSeries_39 rfl ?_
    refine jj_aload_n C dX5_writeSeries_40 rfl ?_
    refine tt_get C hok_139 jk_9 4 (by decide) jw_9b2c2b57a7 (t := (1, (-9223372036854775808), 9223372036854775807)) hk2 (by decide) rfl rfl dX5_writeSeries_41 (fun v_146 hv_146 hf_147 => ?_)
    obtain ⟨y_148, rfl, -, -⟩ := tt_vj hv_146
    obtain ⟨qc, gs, hqc⟩ := tt_recv (cx := []) hok_139 hk0 (by decide) rfl
    refine tt_callV (rest := []) C (tc_X5_putNumber_1 hl D cA ak h0 y_148 hk0 hok_139) [] [] rfl rfl (by decide) (by decide) (by decide) qc hqc rfl rfl jw_2dacb695e6 jw_15d69287eb jw_824f0dd712 jw_30ed28480a jw_a47eeef3f1 jn_X5_putNumber rfl (jj_le rfl) (jj_le rfl) (jj_le rfl) (jj_le rfl) (jj_le rfl) dX5_writeSeries_44 rfl (fun _ _ _ hX => hX.elim) (fun rx pl_149 r O_152 => ?_)
    obtain ⟨rfl, hok_150, hr_151, hfa9, hR_154⟩ := O_152
    replace hf_10 := hr_151.at hk2 (by decide) (by decide) hf_10
    replace hf_30 := hr_151.at hk1 (by decide) (by decide) hf_30
    replace hf_147 := hr_151.at hk2 (by decide) (by decide) hf_147
    replace hfr := hfr.trans (hr_151.sub (by decide))
    replace hfa := hfa.trans (hfa9.sub (by decide))
    obtain rfl := hR_154
    refine jj_iconst (v := 0) C dX5_writeSeries_47 (by decide) ?_
    refine jj_istore_n C dX5_writeSeries_48 (by decide) rfl ?_
    have hL_157 : ∀ (N : Nat) (pl : va_W) (x_158 : Int32), True → tt_ok tt_tk cA Kd pl → tt_fr Kd [(12, 1)] pl0 pl → tt_fa Kd [13, 14] pl0 pl → tt_at pl h2 0 (.int x_11) → tt_at pl h1 3 (.int x_31) → tt_at pl h2 4 (.long y_148) → (0 : Int) ≤ x_158.toInt → x_158.toInt ≤ 2147483647 → (2147483648 - x_158.toInt ≤ (N : Int)) → jj_J p l e (jj_rm 6 133 0 0) s m args below meth c 6 A (vx_MQ below (jj_q D A (tt_O (fun rx pl1 r => rx = [] ∧ tt_ok tt_tk cA Kd pl1 ∧ tt_fr Kd [(12, 1)] pl0 pl1 ∧ tt_fa Kd [13, 14] pl0 pl1 ∧ ((r = none))))) (jj_x D A (tt_OX (fun _ _ _ => False))) args s 0 0 A) (jj_X D A ([] ++ pl)) 0 0 49 [(3, .int x_158), (0, .ref h0), (1, .ref h1), (2, .ref h2)] [] := by
      intro NL_157
      induction NL_157 with
      | zero => intro pl x_158 _ hok hfr hfa hf_159 hf_160 hf_161 lx_158 ux_158 hNL_157; exfalso; omega
      | succ NL_157 ihL_157 =>
        intro pl x_158 _ hok hfr hfa hf_159 hf_160 hf_161 lx_158 ux_158 hNL_157
        replace ihL_157 := fun pl x_158 h1 => ihL_157 pl x_158 trivial h1
        refine jj_iload_n C dX5_writeSeries_49 rfl ?_
        refine jj_aload_n C dX5_writeSeries_50 rfl ?_
        refine tt_get C hok jk_2 0 (by decide) jw_ee64ff1b96 (t := (0, (-2147483648), 2147483647)) hk1 (by decide) rfl rfl dX5_writeSeries_51 (fun v_162 hv_162 hf_163 => ?_)
        obtain ⟨x_164, rfl, lx_164, ux_164⟩ := tt_vi hv_162
        refine jj_icmp_ge (tgt := 105) C dX5_writeSeries_54 (by decide) (fun c_165 => ?_) (fun c_165 => ?_)
        · have z_c_165 := jc_le (a := (x_164).toInt) (b := (x_158).toInt) c_165 rfl rfl
          refine jj_aload_n C dX5_writeSeries_105 rfl ?_
          refine jj_ldcs (k := 16) (tx := "\n") C dX5_writeSeries_106 (by decide +kernel) ?_
          obtain ⟨qc, gs, hqc⟩ := tt_recv (cx := []) hok hk0 (by decide) rfl
          refine tt_callV (rest := []) C (tc_X5_putText_4 hl D cA ak h0 hk0 hok) [] [] rfl rfl (by decide) (by decide) (by decide) qc hqc rfl rfl jw_ff91692536 jw_b9307dcbf6 jw_3d1837b6f1 jw_30ed28480a jw_5a16104e3b jn_X5_putText rfl (jj_le rfl) (jj_le rfl) (jj_le rfl) (jj_le rfl) (jj_le rfl) dX5_writeSeries_108 rfl (fun _ _ _ hX => hX.elim) (fun rx pl_166 r O_169 => ?_)
          obtain ⟨rfl, hok_167, hr_168, hfa9, hR_171⟩ := O_169
          replace hf_159 := hr_168.at hk2 (by decide) (by decide) hf_159
          replace hf_160 := hr_168.at hk1 (by decide) (by decide) hf_160
          replace hf_161 := hr_168.at hk2 (by decide) (by decide) hf_161
          replace hf_163 := hr_168.at hk1 (by decide) (by decide) hf_163
          replace hfr := hfr.trans (hr_168.sub (by decide))
          replace hfa := hfa.trans (hfa9.sub (by decide))
          obtain rfl := hR_171
          exact jj_vret C ⟨[], pl_166, rfl, rfl, hok_167, hfr, hfa, rfl⟩ dX5_writeSeries_111 (jj_le rfl) (jj_le rfl)
        · have z_c_165 := jc_nle (a := (x_164).toInt) (b := (x_158).toInt) c_165 rfl rfl
          refine jj_aload_n C dX5_writeSeries_57 rfl ?_
          refine jj_iload_n C dX5_writeSeries_58 rfl ?_
          refine jj_aload_n C dX5_writeSeries_59 rfl ?_
          refine tt_getF C hok jk_9 0 (by decide) jw_4056cb3c52 (t := (0, (-2147483648), 2147483647)) hk2 (by decide) rfl rfl hf_159 dX5_writeSeries_60 ?_
          obtain ⟨qc, gs, hqc⟩ := tt_recv (cx := []) hok hk1 (by decide) rfl
          refine tt_callV (rest := []) C (tc_X0_unitsHeldIn_1 hl D cA ak h1 x_158 x_11 hk1 hok) [] [] rfl rfl (by decide) (by decide) (by decide) qc hqc rfl rfl jw_212dce9a7f jw_44053edb24 jw_82fd26a6fd jw_7d25d4fd32 jw_f5d838650a jn_X0_unitsHeldIn rfl (jj_le rfl) (jj_le rfl) (jj_le rfl) (jj_le rfl) (jj_le rfl) dX5_writeSeries_63 rfl (fun _ _ _ hX => hX.elim) (fun rx pl_174 r O_177 => ?_)
          obtain ⟨rfl, hok_175, hr_176, hfa9, hR_179⟩ := O_177
          replace hf_159 := hr_176.at hk2 (by decide) (by decide) hf_159
          replace hf_160 := hr_176.at hk1 (by decide) (by decide) hf_160
          replace hf_161 := hr_176.at hk2 (by decide) (by decide) hf_161
          replace hf_163 := hr_176.at hk1 (by decide) (by decide) hf_163
          replace hfr := hfr.trans (hr_176.sub (by decide))
          replace hfa := hfa.trans (hfa9.sub (by decide))
          obtain ⟨y_182, rfl⟩ := hR_179
          refine jj_lstore C dX5_writeSeries_66 (by decide) rfl ?_
          refine jj_lload C dX5_writeSeries_68 rfl ?_
          refine jj_lconst (v := 0) C dX5_writeSeries_70 (by decide) ?_
          refine jj_lcmp_le (tgt := 99) C dX5_writeSeries_71 dX5_writeSeries_72 (by decide) (fun c_183 => ?_) (fun c_183 => ?_)
          · obtain ⟨x_184, ex_184, vx_184⟩ := tt_inc (x := x_158) (n := 1) (by omega) (by omega)
            refine jj_iinc (v := x_184) C dX5_writeSeries_99 rfl ex_184 (by decide) rfl ?_
            refine jj_goto (tgt := 49) C dX5_writeSeries_102 (by decide) ?_
            refine jj_loc [0, 2, 3, 4] rfl ?_
            exact ihL_157 pl_174 x_184 hok_175 hfr hfa hf_159 hf_160 hf_161 (by first | omega | decide | exact tt_lo _ | exact tt_hi _) (by first | omega | decide | exact tt_lo _ | exact tt_hi _) (by first | omega | decide | exact tt_lo _ | exact tt_hi _)
          · refine jj_aload_n C dX5_writeSeries_75 rfl ?_
            refine jj_ldcs (k := 18) (tx := " ") C dX5_writeSeries_76 (by decide +kernel) ?_
            obtain ⟨qc, gs, hqc⟩ := tt_recv (cx := []) hok_175 hk0 (by decide) rfl
            refine tt_callV (rest := []) C (tc_X5_putText_6 hl D cA ak h0 hk0 hok_175) [] [] rfl rfl (by decide) (by decide) (by decide) qc hqc rfl rfl jw_ff91692536 jw_b9307dcbf6 jw_3d1837b6f1 jw_30ed28480a jw_5a16104e3b jn_X5_putText rfl (jj_le rfl) (jj_le rfl) (jj_le rfl) (jj_le rfl) (jj_le rfl) dX5_writeSeries_78 rfl (fun _ _ _ hX => hX.elim) (fun rx pl_185 r O_188 => ?_)
            obtain ⟨rfl, hok_186, hr_187, hfa9, hR_190⟩ := O_188
            replace hf_159 := hr_187.at hk2 (by decide) (by decide) hf_159
            replace hf_160 := hr_187.at hk1 (by decide) (by decide) hf_160
            replace hf_161 := hr_187.at hk2 (by decide) (by decide) hf_161
            replace hf_163 := hr_187.at hk1 (by decide) (by decide) hf_163
            replace hfr := hfr.trans (hr_187.sub (by decide))
            replace hfa := hfa.trans (hfa9.sub (by decide))
            obtain rfl := hR_190
            refine jj_aload_n C dX5_writeSeries_81 rfl ?_
            refine jj_iload_n C dX5_writeSeries_82 rfl ?_
            obtain ⟨y_193, ey_193, vy_193⟩ := tt_i2l x_158
            refine jj_i2l (v := y_193) C dX5_writeSeries_83 ey_193 ?_
            obtain ⟨qc, gs, hqc⟩ := tt_recv (cx := []) hok_186 hk0 (by decide) rfl
            refine tt_callV (rest := []) C (tc_X5_putNumber_1 hl D cA ak h0 y_193 hk0 hok_186) [] [] rfl rfl (by decide) (by decide) (by decide) qc hqc rfl rfl jw_2dacb695e6 jw_15d69287eb jw_824f0dd712 jw_30ed28480a jw_a47eeef3f1 jn_X5_putNumber rfl (jj_le rfl) (jj_le rfl) (jj_le rfl) (jj_le rfl) (jj_le rfl) dX5_writeSeries_84 rfl (fun _ _ _ hX => hX.elim) (fun rx pl_194 r O_197 => ?_)
            obtain ⟨rfl, hok_195, hr_196, hfa9, hR_199⟩ := O_197
            replace hf_159 := hr_196.at hk2 (by decide) (by decide) hf_159
            replace hf_160 := hr_196.at hk1 (by decide) (by decide) hf_160
            replace hf_161 := hr_196.at hk2 (by decide) (by decide) hf_161
            replace hf_163 := hr_196.at hk1 (by decide) (by decide) hf_163
            replace hfr := hfr.trans (hr_196.sub (by decide))
            replace hfa := hfa.trans (hfa9.sub (by decide))
            obtain rfl := hR_199
            refine jj_aload_n C dX5_writeSeries_87 rfl ?_
            refine jj_ldcs (k := 19) (tx := ":") C dX5_writeSeries_88 (by decide +kernel) ?_
            obtain ⟨qc, gs, hqc⟩ := tt_recv (cx := []) hok_195 hk0 (by decide) rfl
            refine tt_callV (rest := []) C (tc_X5_putText_7 hl D cA ak h0 hk0 hok_195) [] [] rfl rfl (by decide) (by decide) (by decide) qc hqc rfl rfl jw_ff91692536 jw_b9307dcbf6 jw_3d1837b6f1 jw_30ed28480a jw_5a16104e3b jn_X5_putText rfl (jj_le rfl) (jj_le rfl) (jj_le rfl) (jj_le rfl) (jj_le rfl) dX5_writeSeries_90 rfl (fun _ _ _ hX => hX.elim) (fun rx pl_202 r O_205 => ?_)
            obtain ⟨rfl, hok_203, hr_204, hfa9, hR_207⟩ := O_205
            replace hf_159 := hr_204.at hk2 (by decide) (by decide) hf_159
            replace hf_160 := hr_204.at hk1 (by decide) (by decide) hf_160
            replace hf_161 := hr_204.at hk2 (by decide) (by decide) hf_161
            replace hf_163 := hr_204.at hk1 (by decide) (by decide) hf_163
            replace hfr := hfr.trans (hr_204.sub (by decide))
            replace hfa := hfa.trans (hfa9.sub (by decide))
            obtain rfl := hR_207
            refine jj_aload_n C dX5_writeSeries_93 rfl ?_
            refine jj_lload C dX5_writeSeries_94 rfl ?_
            obtain ⟨qc, gs, hqc⟩ := tt_recv (cx := []) hok_203 hk0 (by decide) rfl
            refine tt_callV (rest := []) C (tc_X5_putNumber_1 hl D cA ak h0 y_182 hk0 hok_203) [] [] rfl rfl (by decide) (by decide) (by decide) qc hqc rfl rfl jw_2dacb695e6 jw_15d69287eb jw_824f0dd712 jw_30ed28480a jw_a47eeef3f1 jn_X5_putNumber rfl (jj_le rfl) (jj_le rfl) (jj_le rfl) (jj_le rfl) (jj_le rfl) dX5_writeSeries_96 rfl (fun _ _ _ hX => hX.elim) (fun rx pl_210 r O_213 => ?_)
            obtain ⟨rfl, hok_211, hr_212, hfa9, hR_215⟩ := O_213
            replace hf_159 := hr_212.at hk2 (by decide) (by decide) hf_159
            replace hf_160 := hr_212.at hk1 (by decide) (by decide) hf_160
            replace hf_161 := hr_212.at hk2 (by decide) (by decide) hf_161
            replace hf_163 := hr_212.at hk1 (by decide) (by decide) hf_163
            replace hfr := hfr.trans (hr_212.sub (by decide))
            replace hfa := hfa.trans (hfa9.sub (by decide))
            obtain rfl := hR_215
            obtain ⟨x_218, ex_218, vx_218⟩ := tt_inc (x := x_158) (n := 1) (by omega) (by omega)
            refine jj_iinc (v := x_218) C dX5_writeSeries_99 rfl ex_218 (by decide) rfl ?_
            refine jj_goto (tgt := 49) C dX5_writeSeries_102 (by decide) ?_
            refine jj_loc [0, 2, 3, 4] rfl ?_
            exact ihL_157 pl_210 x_218 hok_211 hfr hfa hf_159 hf_160 hf_161 (by first | omega | decide | exact tt_lo _ | exact tt_hi _) (by first | omega | decide | exact tt_lo _ | exact tt_hi _) (by first | omega | decide | exact tt_lo _ | exact tt_hi _)
    exact hL_157 _ pl_149 (0 : Int32) trivial hok_150 hfr hfa hf_10 hf_30 hf_147 (by first | omega | decide | exact tt_lo _ | exact tt_hi _) (by first | omega | decide | exact tt_lo _ | exact tt_hi _) (Int.self_le_toNat _)

