set_option maxHeartbeats 4000000 in
set_option maxRecDepth 100000 in
theorem tc_X9_isWord_12 {l : Launch} (hl : l.stackTraces = false) (D : va_G) (cA : Nat → ClassId) (ak : (Nat → Nat) × (Nat → Nat)) {Kd : Nat → Nat} (h0 : Nat) (hk0 : Kd h0 = 10) {pl0 : va_W} (hok : tt_ok tt_tk cA Kd pl0) : jj_M l D cA ak yX9_isWord (.code yX9_isWord cX9_isWord 3 (some .boolean)) 4 85 0 0 ([] ++ pl0) [.ref h0, .ref (ak.1 11)] (tt_O (fun rx pl1 r => rx = [] ∧ tt_ok tt_tk cA Kd pl1 ∧ tt_fr Kd [] pl0 pl1 ∧ ((r = some (.int 0)) ∨ (r = some (.int 1))))) (tt_OX (fun _ _ _ => False)) := by
  refine jj_start hl (by decide) jw_581 (jj_le rfl) ?_
  intro p e s m args below meth c A hargs hA C hex hmn
  have hfr := tt_fr.refl (K := Kd) (WS := []) pl0
  refine jj_aload_n C dX9_isWord_0 rfl ?_
  refine tt_get C hok jk_10 5 (by decide) jw_542 (t := (0, (-2147483648), 2147483647)) hk0 (by decide) rfl rfl dX9_isWord_1 (fun v_1 hv_1 hf_2 => ?_)
  obtain ⟨x_3, rfl, lx_3, ux_3⟩ := tt_vi hv_1
  refine jj_iconst (v := 1) C dX9_isWord_4 (by decide) ?_
  refine jj_icmp_ne (tgt := 24) C dX9_isWord_5 (by decide) (fun c_4 => ?_) (fun c_4 => ?_)
  · have z_c_4 := jc_neq (a := (x_3).toInt) (b := (1)) c_4 rfl (by decide)
    refine jj_iconst (v := 0) C dX9_isWord_24 (by decide) ?_
    exact jj_zret C rfl ⟨[], pl0, rfl, rfl, hok, hfr, (Or.inl rfl)⟩ dX9_isWord_25 (jj_le rfl) (jj_le rfl)
  · have z_c_4 := jc_eq (a := (x_3).toInt) (b := (1)) c_4 rfl (by decide)
    refine jj_aload_n C dX9_isWord_8 rfl ?_
    refine tt_get C hok jk_10 3 (by decide) jw_541 (t := (0, 0, 400)) hk0 (by decide) rfl rfl dX9_isWord_9 (fun v_5 hv_5 hf_6 => ?_)
    obtain ⟨x_7, rfl, lx_7, ux_7⟩ := tt_vi hv_5
    refine jj_aload_n C dX9_isWord_12 rfl ?_
    refine tt_get C hok jk_10 4 (by decide) jw_540 (t := (0, 0, 400)) hk0 (by decide) rfl rfl dX9_isWord_13 (fun v_8 hv_8 hf_9 => ?_)
    obtain ⟨x_10, rfl, lx_10, ux_10⟩ := tt_vi hv_8
    obtain ⟨x_11, ex_11, vx_11⟩ := tt_isub (x := x_7) (y := x_10) (a := x_7.toInt) rfl (b := x_10.toInt) rfl (by omega) (by omega)
    refine jj_isub (v := x_11) C dX9_isWord_16 ex_11 ?_
    refine jj_aload_n C dX9_isWord_17 rfl ?_
    refine tt_call0Vs (rest := [.int x_11]) C (ct_J0_length_8abf5_12 hl D cA ak) 11 (by decide) rfl jw_582 jw_593 jw_594 jw_584 jw_583 jn_J0_length_8abf5 rfl (jj_le rfl) (jj_le rfl) (jj_le rfl) (jj_le rfl) (jj_le rfl) dX9_isWord_18 rfl (fun w1 r O_12 => ?_)
    obtain ⟨-, rfl⟩ := O_12
    refine jj_icmp_eq (tgt := 26) C dX9_isWord_21 (by decide) (fun c_13 => ?_) (fun c_13 => ?_)
    · have z_c_13 := jc_eq (a := (x_11).toInt) (b := (11)) c_13 rfl (by decide)
      refine jj_iconst (v := 0) C dX9_isWord_26 (by decide) ?_
      refine jj_istore_n C dX9_isWord_27 (by decide) rfl ?_
      refine jj_iload_n C dX9_isWord_28 rfl ?_
      refine jj_aload_n C dX9_isWord_29 rfl ?_
      refine tt_call0Vs (rest := [.int 0]) C (ct_J0_length_8abf5_12 hl D cA ak) 11 (by decide) rfl jw_582 jw_593 jw_594 jw_584 jw_583 jn_J0_length_8abf5 rfl (jj_le rfl) (jj_le rfl) (jj_le rfl) (jj_le rfl) (jj_le rfl) dX9_isWord_30 rfl (fun w1 r O_14 => ?_)
      obtain ⟨-, rfl⟩ := O_14
      refine jj_icmp_geF (tgt := 63) C dX9_isWord_33 (by decide) (by decide) ?_
      refine jj_aload_n C dX9_isWord_36 rfl ?_
      refine tt_get C hok jk_10 0 (by decide) jw_44 (t := (2, 11, 0)) hk0 (by decide) rfl rfl dX9_isWord_37 (fun v_15 hv_15 hf_16 => ?_)
      obtain ⟨a_17, rfl, ka_17⟩ := tt_vr hv_15
      refine jj_aload_n C dX9_isWord_40 rfl ?_
      refine tt_getF C hok jk_10 4 (by decide) jw_540 (t := (0, 0, 400)) hk0 (by decide) rfl rfl hf_9 dX9_isWord_41 ?_
      refine jj_iload_n C dX9_isWord_44 rfl ?_
      obtain ⟨x_18, ex_18, vx_18⟩ := tt_iadd (x := x_10) (y := (0 : Int32)) (a := x_10.toInt) rfl (b := 0) (by decide) (by omega) (by omega)
      refine jj_iadd (v := x_18) C dX9_isWord_45 ex_18 ?_
      refine tt_cald C hok (t := (0, (-2147483648), 2147483647)) ka_17 (by decide) rfl (vp_in_iff.mpr ⟨by omega, by omega⟩) dX9_isWord_46 (fun v_19 hv_19 => ?_)
      refine jj_aload_n C dX9_isWord_47 rfl ?_
      refine jj_iload_n C dX9_isWord_48 rfl ?_
      refine tt_call0Vs (rest := [.int v_19]) C (ct_J0_charAt_5068e_65 hl D cA ak) 11 (by decide) rfl jw_596 jw_618 jw_619 jw_584 jw_597 jn_J0_charAt_5068e rfl (jj_le rfl) (jj_le rfl) (jj_le rfl) (jj_le rfl) (jj_le rfl) dX9_isWord_49 rfl (fun w1 r O_20 => ?_)
      obtain ⟨-, rfl⟩ := O_20
      refine jj_icmp_eq (tgt := 57) C dX9_isWord_52 (by decide) (fun c_21 => ?_) (fun c_21 => ?_)
      · have z_c_21 := jc_eq (a := (v_19).toInt) (b := (99)) c_21 rfl (by decide)
        refine jj_iinc (v := 1) C dX9_isWord_57 rfl (by decide) (by decide) rfl ?_
        refine jj_goto (tgt := 28) C dX9_isWord_60 (by decide) ?_
        refine jj_iload_n C dX9_isWord_28 rfl ?_
        refine jj_aload_n C dX9_isWord_29 rfl ?_
        refine tt_call0Vs (rest := [.int 1]) C (ct_J0_length_8abf5_12 hl D cA ak) 11 (by decide) rfl jw_582 jw_593 jw_594 jw_584 jw_583 jn_J0_length_8abf5 rfl (jj_le rfl) (jj_le rfl) (jj_le rfl) (jj_le rfl) (jj_le rfl) dX9_isWord_30 rfl (fun w1 r O_22 => ?_)
        obtain ⟨-, rfl⟩ := O_22
        refine jj_icmp_geF (tgt := 63) C dX9_isWord_33 (by decide) (by decide) ?_
        refine jj_aload_n C dX9_isWord_36 rfl ?_
        refine tt_getF C hok jk_10 0 (by decide) jw_44 (t := (2, 11, 0)) hk0 (by decide) rfl rfl hf_16 dX9_isWord_37 ?_
        refine jj_aload_n C dX9_isWord_40 rfl ?_
        refine tt_getF C hok jk_10 4 (by decide) jw_540 (t := (0, 0, 400)) hk0 (by decide) rfl rfl hf_9 dX9_isWord_41 ?_
        refine jj_iload_n C dX9_isWord_44 rfl ?_
        obtain ⟨x_23, ex_23, vx_23⟩ := tt_iadd (x := x_10) (y := (1 : Int32)) (a := x_10.toInt) rfl (b := 1) (by decide) (by omega) (by omega)
        refine jj_iadd (v := x_23) C dX9_isWord_45 ex_23 ?_
        refine tt_cald C hok (t := (0, (-2147483648), 2147483647)) ka_17 (by decide) rfl (vp_in_iff.mpr ⟨by omega, by omega⟩) dX9_isWord_46 (fun v_24 hv_24 => ?_)
        refine jj_aload_n C dX9_isWord_47 rfl ?_
        refine jj_iload_n C dX9_isWord_48 rfl ?_
        refine tt_call0Vs (rest := [.int v_24]) C (ct_J0_charAt_5068e_66 hl D cA ak) 11 (by decide) rfl jw_596 jw_618 jw_619 jw_584 jw_597 jn_J0_charAt_5068e rfl (jj_le rfl) (jj_le rfl) (jj_le rfl) (jj_le rfl) (jj_le rfl) dX9_isWord_49 rfl (fun w1 r O_25 => ?_)
        obtain ⟨-, rfl⟩ := O_25
        refine jj_icmp_eq (tgt := 57) C dX9_isWord_52 (by decide) (fun c_26 => ?_) (fun c_26 => ?_)
        · have z_c_26 := jc_eq (a := (v_24).toInt) (b := (114)) c_26 rfl (by decide)
          refine jj_iinc (v := 2) C dX9_isWord_57 rfl (by decide) (by decide) rfl ?_
          refine jj_goto (tgt := 28) C dX9_isWord_60 (by decide) ?_
          refine jj_iload_n C dX9_isWord_28 rfl ?_
          refine jj_aload_n C dX9_isWord_29 rfl ?_
          refine tt_call0Vs (rest := [.int 2]) C (ct_J0_length_8abf5_12 hl D cA ak) 11 (by decide) rfl jw_582 jw_593 jw_594 jw_584 jw_583 jn_J0_length_8abf5 rfl (jj_le rfl) (jj_le rfl) (jj_le rfl) (jj_le rfl) (jj_le rfl) dX9_isWord_30 rfl (fun w1 r O_27 => ?_)
          obtain ⟨-, rfl⟩ := O_27
          refine jj_icmp_geF (tgt := 63) C dX9_isWord_33 (by decide) (by decide) ?_
          refine jj_aload_n C dX9_isWord_36 rfl ?_
          refine tt_getF C hok jk_10 0 (by decide) jw_44 (t := (2, 11, 0)) hk0 (by decide) rfl rfl hf_16 dX9_isWord_37 ?_
          refine jj_aload_n C dX9_isWord_40 rfl ?_
          refine tt_getF C hok jk_10 4 (by decide) jw_540 (t := (0, 0, 400)) hk0 (by decide) rfl rfl hf_9 dX9_isWord_41 ?_
          refine jj_iload_n C dX9_isWord_44 rfl ?_
          obtain ⟨x_28, ex_28, vx_28⟩ := tt_iadd (x := x_10) (y := (2 : Int32)) (a := x_10.toInt) rfl (b := 2) (by decide) (by omega) (by omega)
          refine jj_iadd (v := x_28) C dX9_isWord_45 ex_28 ?_
          refine tt_cald C hok (t := (0, (-2147483648), 2147483647)) ka_17 (by decide) rfl (vp_in_iff.mpr ⟨by omega, by omega⟩) dX9_isWord_46 (fun v_29 hv_29 => ?_)
          refine jj_aload_n C dX9_isWord_47 rfl ?_
          refine jj_iload_n C dX9_isWord_48 rfl ?_
          refine tt_call0Vs (rest := [.int v_29]) C (ct_J0_charAt_5068e_67 hl D cA ak) 11 (by decide) rfl jw_596 jw_618 jw_619 jw_584 jw_597 jn_J0_charAt_5068e rfl (jj_le rfl) (jj_le rfl) (jj_le rfl) (jj_le rfl) (jj_le rfl) dX9_isWord_49 rfl (fun w1 r O_30 => ?_)
          obtain ⟨-, rfl⟩ := O_30
          refine jj_icmp_eq (tgt := 57) C dX9_isWord_52 (by decide) (fun c_31 => ?_) (fun c_31 => ?_)
          · have z_c_31 := jc_eq (a := (v_29).toInt) (b := (121)) c_31 rfl (by decide)
            refine jj_iinc (v := 3) C dX9_isWord_57 rfl (by decide) (by decide) rfl ?_
            refine jj_goto (tgt := 28) C dX9_isWord_60 (by decide) ?_
            refine jj_iload_n C dX9_isWord_28 rfl ?_
            refine jj_aload_n C dX9_isWord_29 rfl ?_
            refine tt_call0Vs (rest := [.int 3]) C (ct_J0_length_8abf5_12 hl D cA ak) 11 (by decide) rfl jw_582 jw_593 jw_594 jw_584 jw_583 jn_J0_length_8abf5 rfl (jj_le rfl) (jj_le rfl) (jj_le rfl) (jj_le rfl) (jj_le rfl) dX9_isWord_30 rfl (fun w1 r O_32 => ?_)
            obtain ⟨-, rfl⟩ := O_32
            refine jj_icmp_geF (tgt := 63) C dX9_isWord_33 (by decide) (by decide) ?_
            refine jj_aload_n C dX9_isWord_36 rfl ?_
            refine tt_getF C hok jk_10 0 (by decide) jw_44 (t := (2, 11, 0)) hk0 (by decide) rfl rfl hf_16 dX9_isWord_37 ?_
            refine jj_aload_n C dX9_isWord_40 rfl ?_
            refine tt_getF C hok jk_10 4 (by decide) jw_540 (t := (0, 0, 400)) hk0 (by decide) rfl rfl hf_9 dX9_isWord_41 ?_
            refine jj_iload_n C dX9_isWord_44 rfl ?_
            obtain ⟨x_33, ex_33, vx_33⟩ := tt_iadd (x := x_10) (y := (3 : Int32)) (a := x_10.toInt) rfl (b := 3) (by decide) (by omega) (by omega)
            refine jj_iadd (v := x_33) C dX9_isWord_45 ex_33 ?_
            refine tt_cald C hok (t := (0, (-2147483648), 2147483647)) ka_17 (by decide) rfl (vp_in_iff.mpr ⟨by omega, by omega⟩) dX9_isWord_46 (fun v_34 hv_34 => ?_)
            refine jj_aload_n C dX9_isWord_47 rfl ?_
            refine jj_iload_n C dX9_isWord_48 rfl ?_
            refine tt_call0Vs (rest := [.int v_34]) C (ct_J0_charAt_5068e_68 hl D cA ak) 11 (by decide) rfl jw_596 jw_618 jw_619 jw_584 jw_597 jn_J0_charAt_5068e rfl (jj_le rfl) (jj_le rfl) (jj_le rfl) (jj_le rfl) (jj_le rfl) dX9_isWord_49 rfl (fun w1 r O_35 => ?_)
            obtain ⟨-, rfl⟩ := O_35
            refine jj_icmp_eq (tgt := 57) C dX9_isWord_52 (by decide) (fun c_36 => ?_) (fun c_36 => ?_)
            · have z_c_36 := jc_eq (a := (v_34).toInt) (b := (115)) c_36 rfl (by decide)
              refine jj_iinc (v := 4) C dX9_isWord_57 rfl (by decide) (by decide) rfl ?_
              refine jj_goto (tgt := 28) C dX9_isWord_60 (by decide) ?_
              refine jj_iload_n C dX9_isWord_28 rfl ?_
              refine jj_aload_n C dX9_isWord_29 rfl ?_
              refine tt_call0Vs (rest := [.int 4]) C (ct_J0_length_8abf5_12 hl D cA ak) 11 (by decide) rfl jw_582 jw_593 jw_594 jw_584 jw_583 jn_J0_length_8abf5 rfl (jj_le rfl) (jj_le rfl) (jj_le rfl) (jj_le rfl) (jj_le rfl) dX9_isWord_30 rfl (fun w1 r O_37 => ?_)
              obtain ⟨-, rfl⟩ := O_37
              refine jj_icmp_geF (tgt := 63) C dX9_isWord_33 (by decide) (by decide) ?_
              refine jj_aload_n C dX9_isWord_36 rfl ?_
              refine tt_getF C hok jk_10 0 (by decide) jw_44 (t := (2, 11, 0)) hk0 (by decide) rfl rfl hf_16 dX9_isWord_37 ?_
              refine jj_aload_n C dX9_isWord_40 rfl ?_
              refine tt_getF C hok jk_10 4 (by decide) jw_540 (t := (0, 0, 400)) hk0 (by decide) rfl rfl hf_9 dX9_isWord_41 ?_
              refine jj_iload_n C dX9_isWord_44 rfl ?_
              obtain ⟨x_38, ex_38, vx_38⟩ := tt_iadd (x := x_10) (y := (4 : Int32)) (a := x_10.toInt) rfl (b := 4) (by decide) (by omega) (by omega)
              refine jj_iadd (v := x_38) C dX9_isWord_45 ex_38 ?_
              refine tt_cald C hok (t := (0, (-2147483648), 2147483647)) ka_17 (by decide) rfl (vp_in_iff.mpr ⟨by omega, by omega⟩) dX9_isWord_46 (fun v_39 hv_39 => ?_)
              refine jj_aload_n C dX9_isWord_47 rfl ?_
              refine jj_iload_n C dX9_isWord_48 rfl ?_
              refine tt_call0Vs (rest := [.int v_39]) C (ct_J0_charAt_5068e_69 hl D cA ak) 11 (by decide) rfl jw_596 jw_618 jw_619 jw_584 jw_597 jn_J0_charAt_5068e rfl (jj_le rfl) (jj_le rfl) (jj_le rfl) (jj_le rfl) (jj_le rfl) dX9_isWord_49 rfl (fun w1 r O_40 => ?_)
              obtain ⟨-, rfl⟩ := O_40
              refine jj_icmp_eq (tgt := 57) C dX9_isWord_52 (by decide) (fun c_41 => ?_) (fun c_41 => ?_)
              · have z_c_41 := jc_eq (a := (v_39).toInt) (b := (116)) c_41 rfl (by decide)
                refine jj_iinc (v := 5) C dX9_isWord_57 rfl (by decide) (by decide) rfl ?_
                refine jj_goto (tgt := 28) C dX9_isWord_60 (by decide) ?_
                refine jj_iload_n C dX9_isWord_28 rfl ?_
                refine jj_aload_n C dX9_isWord_29 rfl ?_
                refine tt_call0Vs (rest := [.int 5]) C (ct_J0_length_8abf5_12 hl D cA ak) 11 (by decide) rfl jw_582 jw_593 jw_594 jw_584 jw_583 jn_J0_length_8abf5 rfl (jj_le rfl) (jj_le rfl) (jj_le rfl) (jj_le rfl) (jj_le rfl) dX9_isWord_30 rfl (fun w1 r O_42 => ?_)
                obtain ⟨-, rfl⟩ := O_42
                refine jj_icmp_geF (tgt := 63) C dX9_isWord_33 (by decide) (by decide) ?_
                refine jj_aload_n C dX9_isWord_36 rfl ?_
                refine tt_getF C hok jk_10 0 (by decide) jw_44 (t := (2, 11, 0)) hk0 (by decide) rfl rfl hf_16 dX9_isWord_37 ?_
                refine jj_aload_n C dX9_isWord_40 rfl ?_
                refine tt_getF C hok jk_10 4 (by decide) jw_540 (t := (0, 0, 400)) hk0 (by decide) rfl rfl hf_9 dX9_isWord_41 ?_
                refine jj_iload_n C dX9_isWord_44 rfl ?_
                obtain ⟨x_43, ex_43, vx_43⟩ := tt_iadd (x := x_10) (y := (5 : Int32)) (a := x_10.toInt) rfl (b := 5) (by decide) (by omega) (by omega)
                refine jj_iadd (v := x_43) C dX9_isWord_45 ex_43 ?_
                refine tt_cald C hok (t := (0, (-2147483648), 2147483647)) ka_17 (by decide) rfl (vp_in_iff.mpr ⟨by omega, by omega⟩) dX9_isWord_46 (fun v_44 hv_44 => ?_)
                refine jj_aload_n C dX9_isWord_47 rfl ?_
                refine jj_iload_n C dX9_isWord_48 rfl ?_
                refine tt_call0Vs (rest := [.int v_44]) C (ct_J0_charAt_5068e_70 hl D cA ak) 11 (by decide) rfl jw_596 jw_618 jw_619 jw_584 jw_597 jn_J0_charAt_5068e rfl (jj_le rfl) (jj_le rfl) (jj_le rfl) (jj_le rfl) (jj_le rfl) dX9_isWord_49 rfl (fun w1 r O_45 => ?_)
                obtain ⟨-, rfl⟩ := O_45
                refine jj_icmp_eq (tgt := 57) C dX9_isWord_52 (by decide) (fun c_46 => ?_) (fun c_46 => ?_)
                · have z_c_46 := jc_eq (a := (v_44).toInt) (b := (97)) c_46 rfl (by decide)
                  refine jj_iinc (v := 6) C dX9_isWord_57 rfl (by decide) (by decide) rfl ?_
                  refine jj_goto (tgt := 28) C dX9_isWord_60 (by decide) ?_
                  refine jj_iload_n C dX9_isWord_28 rfl ?_
                  refine jj_aload_n C dX9_isWord_29 rfl ?_
                  refine tt_call0Vs (rest := [.int 6]) C (ct_J0_length_8abf5_12 hl D cA ak) 11 (by decide) rfl jw_582 jw_593 jw_594 jw_584 jw_583 jn_J0_length_8abf5 rfl (jj_le rfl) (jj_le rfl) (jj_le rfl) (jj_le rfl) (jj_le rfl) dX9_isWord_30 rfl (fun w1 r O_47 => ?_)
                  obtain ⟨-, rfl⟩ := O_47
                  refine jj_icmp_geF (tgt := 63) C dX9_isWord_33 (by decide) (by decide) ?_
                  refine jj_aload_n C dX9_isWord_36 rfl ?_
                  refine tt_getF C hok jk_10 0 (by decide) jw_44 (t := (2, 11, 0)) hk0 (by decide) rfl rfl hf_16 dX9_isWord_37 ?_
                  refine jj_aload_n C dX9_isWord_40 rfl ?_
                  refine tt_getF C hok jk_10 4 (by decide) jw_540 (t := (0, 0, 400)) hk0 (by decide) rfl rfl hf_9 dX9_isWord_41 ?_
                  refine jj_iload_n C dX9_isWord_44 rfl ?_
                  obtain ⟨x_48, ex_48, vx_48⟩ := tt_iadd (x := x_10) (y := (6 : Int32)) (a := x_10.toInt) rfl (b := 6) (by decide) (by omega) (by omega)
                  refine jj_iadd (v := x_48) C dX9_isWord_45 ex_48 ?_
                  refine tt_cald C hok (t := (0, (-2147483648), 2147483647)) ka_17 (by decide) rfl (vp_in_iff.mpr ⟨by omega, by omega⟩) dX9_isWord_46 (fun v_49 hv_49 => ?_)
                  refine jj_aload_n C dX9_isWord_47 rfl ?_
                  refine jj_iload_n C dX9_isWord_48 rfl ?_
                  refine tt_call0Vs (rest := [.int v_49]) C (ct_J0_charAt_5068e_71 hl D cA ak) 11 (by decide) rfl jw_596 jw_618 jw_619 jw_584 jw_597 jn_J0_charAt_5068e rfl (jj_le rfl) (jj_le rfl) (jj_le rfl) (jj_le rfl) (jj_le rfl) dX9_isWord_49 rfl (fun w1 r O_50 => ?_)
                  obtain ⟨-, rfl⟩ := O_50
                  refine jj_icmp_eq (tgt := 57) C dX9_isWord_52 (by decide) (fun c_51 => ?_) (fun c_51 => ?_)
                  · have z_c_51 := jc_eq (a := (v_49).toInt) (b := (108)) c_51 rfl (by decide)
                    refine jj_iinc (v := 7) C dX9_isWord_57 rfl (by decide) (by decide) rfl ?_
                    refine jj_goto (tgt := 28) C dX9_isWord_60 (by decide) ?_
                    refine jj_iload_n C dX9_isWord_28 rfl ?_
                    refine jj_aload_n C dX9_isWord_29 rfl ?_
                    refine tt_call0Vs (rest := [.int 7]) C (ct_J0_length_8abf5_12 hl D cA ak) 11 (by decide) rfl jw_582 jw_593 jw_594 jw_584 jw_583 jn_J0_length_8abf5 rfl (jj_le rfl) (jj_le rfl) (jj_le rfl) (jj_le rfl) (jj_le rfl) dX9_isWord_30 rfl (fun w1 r O_52 => ?_)
                    obtain ⟨-, rfl⟩ := O_52
                    refine jj_icmp_geF (tgt := 63) C dX9_isWord_33 (by decide) (by decide) ?_
                    refine jj_aload_n C dX9_isWord_36 rfl ?_
                    refine tt_getF C hok jk_10 0 (by decide) jw_44 (t := (2, 11, 0)) hk0 (by decide) rfl rfl hf_16 dX9_isWord_37 ?_
                    refine jj_aload_n C dX9_isWord_40 rfl ?_
                    refine tt_getF C hok jk_10 4 (by decide) jw_540 (t := (0, 0, 400)) hk0 (by decide) rfl rfl hf_9 dX9_isWord_41 ?_
                    refine jj_iload_n C dX9_isWord_44 rfl ?_
                    obtain ⟨x_53, ex_53, vx_53⟩ := tt_iadd (x := x_10) (y := (7 : Int32)) (a := x_10.toInt) rfl (b := 7) (by decide) (by omega) (by omega)
                    refine jj_iadd (v := x_53) C dX9_isWord_45 ex_53 ?_
                    refine tt_cald C hok (t := (0, (-2147483648), 2147483647)) ka_17 (by decide) rfl (vp_in_iff.mpr ⟨by omega, by omega⟩) dX9_isWord_46 (fun v_54 hv_54 => ?_)
                    refine jj_aload_n C dX9_isWord_47 rfl ?_
                    refine jj_iload_n C dX9_isWord_48 rfl ?_
                    refine tt_call0Vs (rest := [.int v_54]) C (ct_J0_charAt_5068e_72 hl D cA ak) 11 (by decide) rfl jw_596 jw_618 jw_619 jw_584 jw_597 jn_J0_charAt_5068e rfl (jj_le rfl) (jj_le rfl) (jj_le rfl) (jj_le rfl) (jj_le rfl) dX9_isWord_49 rfl (fun w1 r O_55 => ?_)
                    obtain ⟨-, rfl⟩ := O_55
                    refine jj_icmp_eq (tgt := 57) C dX9_isWord_52 (by decide) (fun c_56 => ?_) (fun c_56 => ?_)
                    · have z_c_56 := jc_eq (a := (v_54).toInt) (b := (108)) c_56 rfl (by decide)
                      refine jj_iinc (v := 8) C dX9_isWord_57 rfl (by decide) (by decide) rfl ?_
                      refine jj_goto (tgt := 28) C dX9_isWord_60 (by decide) ?_
                      refine jj_iload_n C dX9_isWord_28 rfl ?_
                      refine jj_aload_n C dX9_isWord_29 rfl ?_
                      refine tt_call0Vs (rest := [.int 8]) C (ct_J0_length_8abf5_12 hl D cA ak) 11 (by decide) rfl jw_582 jw_593 jw_594 jw_584 jw_583 jn_J0_length_8abf5 rfl (jj_le rfl) (jj_le rfl) (jj_le rfl) (jj_le rfl) (jj_le rfl) dX9_isWord_30 rfl (fun w1 r O_57 => ?_)
                      obtain ⟨-, rfl⟩ := O_57
                      refine jj_icmp_geF (tgt := 63) C dX9_isWord_33 (by decide) (by decide) ?_
                      refine jj_aload_n C dX9_isWord_36 rfl ?_
                      refine tt_getF C hok jk_10 0 (by decide) jw_44 (t := (2, 11, 0)) hk0 (by decide) rfl rfl hf_16 dX9_isWord_37 ?_
                      refine jj_aload_n C dX9_isWord_40 rfl ?_
                      refine tt_getF C hok jk_10 4 (by decide) jw_540 (t := (0, 0, 400)) hk0 (by decide) rfl rfl hf_9 dX9_isWord_41 ?_
                      refine jj_iload_n C dX9_isWord_44 rfl ?_
                      obtain ⟨x_58, ex_58, vx_58⟩ := tt_iadd (x := x_10) (y := (8 : Int32)) (a := x_10.toInt) rfl (b := 8) (by decide) (by omega) (by omega)
                      refine jj_iadd (v := x_58) C dX9_isWord_45 ex_58 ?_
                      refine tt_cald C hok (t := (0, (-2147483648), 2147483647)) ka_17 (by decide) rfl (vp_in_iff.mpr ⟨by omega, by omega⟩) dX9_isWord_46 (fun v_59 hv_59 => ?_)
                      refine jj_aload_n C dX9_isWord_47 rfl ?_
                      refine jj_iload_n C dX9_isWord_48 rfl ?_
                      refine tt_call0Vs (rest := [.int v_59]) C (ct_J0_charAt_5068e_73 hl D cA ak) 11 (by decide) rfl jw_596 jw_618 jw_619 jw_584 jw_597 jn_J0_charAt_5068e rfl (jj_le rfl) (jj_le rfl) (jj_le rfl) (jj_le rfl) (jj_le rfl) dX9_isWord_49 rfl (fun w1 r O_60 => ?_)
                      obtain ⟨-, rfl⟩ := O_60
                      refine jj_icmp_eq (tgt := 57) C dX9_isWord_52 (by decide) (fun c_61 => ?_) (fun c_61 => ?_)
                      · have z_c_61 := jc_eq (a := (v_59).toInt) (b := (105)) c_61 rfl (by decide)
                        refine jj_iinc (v := 9) C dX9_isWord_57 rfl (by decide) (by decide) rfl ?_
                        refine jj_goto (tgt := 28) C dX9_isWord_60 (by decide) ?_
                        refine jj_iload_n C dX9_isWord_28 rfl ?_
                        refine jj_aload_n C dX9_isWord_29 rfl ?_
                        refine tt_call0Vs (rest := [.int 9]) C (ct_J0_length_8abf5_12 hl D cA ak) 11 (by decide) rfl jw_582 jw_593 jw_594 jw_584 jw_583 jn_J0_length_8abf5 rfl (jj_le rfl) (jj_le rfl) (jj_le rfl) (jj_le rfl) (jj_le rfl) dX9_isWord_30 rfl (fun w1 r O_62 => ?_)
                        obtain ⟨-, rfl⟩ := O_62
                        refine jj_icmp_geF (tgt := 63) C dX9_isWord_33 (by decide) (by decide) ?_
                        refine jj_aload_n C dX9_isWord_36 rfl ?_
                        refine tt_getF C hok jk_10 0 (by decide) jw_44 (t := (2, 11, 0)) hk0 (by decide) rfl rfl hf_16 dX9_isWord_37 ?_
                        refine jj_aload_n C dX9_isWord_40 rfl ?_
                        refine tt_getF C hok jk_10 4 (by decide) jw_540 (t := (0, 0, 400)) hk0 (by decide) rfl rfl hf_9 dX9_isWord_41 ?_
                        refine jj_iload_n C dX9_isWord_44 rfl ?_
                        obtain ⟨x_63, ex_63, vx_63⟩ := tt_iadd (x := x_10) (y := (9 : Int32)) (a := x_10.toInt) rfl (b := 9) (by decide) (by omega) (by omega)
                        refine jj_iadd (v := x_63) C dX9_isWord_45 ex_63 ?_
                        refine tt_cald C hok (t := (0, (-2147483648), 2147483647)) ka_17 (by decide) rfl (vp_in_iff.mpr ⟨by omega, by omega⟩) dX9_isWord_46 (fun v_64 hv_64 => ?_)
                        refine jj_aload_n C dX9_isWord_47 rfl ?_
                        refine jj_iload_n C dX9_isWord_48 rfl ?_
                        refine tt_call0Vs (rest := [.int v_64]) C (ct_J0_charAt_5068e_74 hl D cA ak) 11 (by decide) rfl jw_596 jw_618 jw_619 jw_584 jw_597 jn_J0_charAt_5068e rfl (jj_le rfl) (jj_le rfl) (jj_le rfl) (jj_le rfl) (jj_le rfl) dX9_isWord_49 rfl (fun w1 r O_65 => ?_)
                        obtain ⟨-, rfl⟩ := O_65
                        refine jj_icmp_eq (tgt := 57) C dX9_isWord_52 (by decide) (fun c_66 => ?_) (fun c_66 => ?_)
                        · have z_c_66 := jc_eq (a := (v_64).toInt) (b := (122)) c_66 rfl (by decide)
                          refine jj_iinc (v := 10) C dX9_isWord_57 rfl (by decide) (by decide) rfl ?_
                          refine jj_goto (tgt := 28) C dX9_isWord_60 (by decide) ?_
                          refine jj_iload_n C dX9_isWord_28 rfl ?_
                          refine jj_aload_n C dX9_isWord_29 rfl ?_
                          refine tt_call0Vs (rest := [.int 10]) C (ct_J0_length_8abf5_12 hl D cA ak) 11 (by decide) rfl jw_582 jw_593 jw_594 jw_584 jw_583 jn_J0_length_8abf5 rfl (jj_le rfl) (jj_le rfl) (jj_le rfl) (jj_le rfl) (jj_le rfl) dX9_isWord_30 rfl (fun w1 r O_67 => ?_)
                          obtain ⟨-, rfl⟩ := O_67
                          refine jj_icmp_geF (tgt := 63) C dX9_isWord_33 (by decide) (by decide) ?_
                          refine jj_aload_n C dX9_isWord_36 rfl ?_
                          refine tt_getF C hok jk_10 0 (by decide) jw_44 (t := (2, 11, 0)) hk0 (by decide) rfl rfl hf_16 dX9_isWord_37 ?_
                          refine jj_aload_n C dX9_isWord_40 rfl ?_
                          refine tt_getF C hok jk_10 4 (by decide) jw_540 (t := (0, 0, 400)) hk0 (by decide) rfl rfl hf_9 dX9_isWord_41 ?_
                          refine jj_iload_n C dX9_isWord_44 rfl ?_
                          obtain ⟨x_68, ex_68, vx_68⟩ := tt_iadd (x := x_10) (y := (10 : Int32)) (a := x_10.toInt) rfl (b := 10) (by decide) (by omega) (by omega)
                          refine jj_iadd (v := x_68) C dX9_isWord_45 ex_68 ?_
                          refine tt_cald C hok (t := (0, (-2147483648), 2147483647)) ka_17 (by decide) rfl (vp_in_iff.mpr ⟨by omega, by omega⟩) dX9_isWord_46 (fun v_69 hv_69 => ?_)
                          refine jj_aload_n C dX9_isWord_47 rfl ?_
                          refine jj_iload_n C dX9_isWord_48 rfl ?_
                          refine tt_call0Vs (rest := [.int v_69]) C (ct_J0_charAt_5068e_75 hl D cA ak) 11 (by decide) rfl jw_596 jw_618 jw_619 jw_584 jw_597 jn_J0_charAt_5068e rfl (jj_le rfl) (jj_le rfl) (jj_le rfl) (jj_le rfl) (jj_le rfl) dX9_isWord_49 rfl (fun w1 r O_70 => ?_)
                          obtain ⟨-, rfl⟩ := O_70
                          refine jj_icmp_eq (tgt := 57) C dX9_isWord_52 (by decide) (fun c_71 => ?_) (fun c_71 => ?_)
                          · have z_c_71 := jc_eq (a := (v_69).toInt) (b := (101)) c_71 rfl (by decide)
                            refine jj_iinc (v := 11) C dX9_isWord_57 rfl (by decide) (by decide) rfl ?_
                            refine jj_goto (tgt := 28) C dX9_isWord_60 (by decide) ?_
                            refine jj_iload_n C dX9_isWord_28 rfl ?_
                            refine jj_aload_n C dX9_isWord_29 rfl ?_
                            refine tt_call0Vs (rest := [.int 11]) C (ct_J0_length_8abf5_12 hl D cA ak) 11 (by decide) rfl jw_582 jw_593 jw_594 jw_584 jw_583 jn_J0_length_8abf5 rfl (jj_le rfl) (jj_le rfl) (jj_le rfl) (jj_le rfl) (jj_le rfl) dX9_isWord_30 rfl (fun w1 r O_72 => ?_)
                            obtain ⟨-, rfl⟩ := O_72
                            refine jj_icmp_geT (tgt := 63) C dX9_isWord_33 (by decide) (by decide) ?_
                            refine jj_iconst (v := 1) C dX9_isWord_63 (by decide) ?_
                            exact jj_zret C rfl ⟨[], pl0, rfl, rfl, hok, hfr, (Or.inr rfl)⟩ dX9_isWord_64 (jj_le rfl) (jj_le rfl)
                          · have z_c_71 := jc_neq (a := (v_69).toInt) (b := (101)) c_71 rfl (by decide)
                            refine jj_iconst (v := 0) C dX9_isWord_55 (by decide) ?_
                            exact jj_zret C rfl ⟨[], pl0, rfl, rfl, hok, hfr, (Or.inl rfl)⟩ dX9_isWord_56 (jj_le rfl) (jj_le rfl)
                        · have z_c_66 := jc_neq (a := (v_64).toInt) (b := (122)) c_66 rfl (by decide)
                          refine jj_iconst (v := 0) C dX9_isWord_55 (by decide) ?_
                          exact jj_zret C rfl ⟨[], pl0, rfl, rfl, hok, hfr, (Or.inl rfl)⟩ dX9_isWord_56 (jj_le rfl) (jj_le rfl)
                      · have z_c_61 := jc_neq (a := (v_59).toInt) (b := (105)) c_61 rfl (by decide)
                        refine jj_iconst (v := 0) C dX9_isWord_55 (by decide) ?_
                        exact jj_zret C rfl ⟨[], pl0, rfl, rfl, hok, hfr, (Or.inl rfl)⟩ dX9_isWord_56 (jj_le rfl) (jj_le rfl)
                    · have z_c_56 := jc_neq (a := (v_54).toInt) (b := (108)) c_56 rfl (by decide)
                      refine jj_iconst (v := 0) C dX9_isWord_55 (by decide) ?_
                      exact jj_zret C rfl ⟨[], pl0, rfl, rfl, hok, hfr, (Or.inl rfl)⟩ dX9_isWord_56 (jj_le rfl) (jj_le rfl)
                  · have z_c_51 := jc_neq (a := (v_49).toInt) (b := (108)) c_51 rfl (by decide)
                    refine jj_iconst (v := 0) C dX9_isWord_55 (by decide) ?_
                    exact jj_zret C rfl ⟨[], pl0, rfl, rfl, hok, hfr, (Or.inl rfl)⟩ dX9_isWord_56 (jj_le rfl) (jj_le rfl)
                · have z_c_46 := jc_neq (a := (v_44).toInt) (b := (97)) c_46 rfl (by decide)
                  refine jj_iconst (v := 0) C dX9_isWord_55 (by decide) ?_
                  exact jj_zret C rfl ⟨[], pl0, rfl, rfl, hok, hfr, (Or.inl rfl)⟩ dX9_isWord_56 (jj_le rfl) (jj_le rfl)
              · have z_c_41 := jc_neq (a := (v_39).toInt) (b := (116)) c_41 rfl (by decide)
                refine jj_iconst (v := 0) C dX9_isWord_55 (by decide) ?_
                exact jj_zret C rfl ⟨[], pl0, rfl, rfl, hok, hfr, (Or.inl rfl)⟩ dX9_isWord_56 (jj_le rfl) (jj_le rfl)
            · have z_c_36 := jc_neq (a := (v_34).toInt) (b := (115)) c_36 rfl (by decide)
              refine jj_iconst (v := 0) C dX9_isWord_55 (by decide) ?_
              exact jj_zret C rfl ⟨[], pl0, rfl, rfl, hok, hfr, (Or.inl rfl)⟩ dX9_isWord_56 (jj_le rfl) (jj_le rfl)
          · have z_c_31 := jc_neq (a := (v_29).toInt) (b := (121)) c_31 rfl (by decide)
            refine jj_iconst (v := 0) C dX9_isWord_55 (by decide) ?_
            exact jj_zret C rfl ⟨[], pl0, rfl, rfl, hok, hfr, (Or.inl rfl)⟩ dX9_isWord_56 (jj_le rfl) (jj_le rfl)
        · have z_c_26 := jc_neq (a := (v_24).toInt) (b := (114)) c_26 rfl (by decide)
          refine jj_iconst (v := 0) C dX9_isWord_55 (by decide) ?_
          exact jj_zret C rfl ⟨[], pl0, rfl, rfl, hok, hfr, (Or.inl rfl)⟩ dX9_isWord_56 (jj_le rfl) (jj_le rfl)
      · have z_c_21 := jc_neq (a := (v_19).toInt) (b := (99)) c_21 rfl (by decide)
        refine jj_iconst (v := 0) C dX9_isWord_55 (by decide) ?_
        exact jj_zret C rfl ⟨[], pl0, rfl, rfl, hok, hfr, (Or.inl rfl)⟩ dX9_isWord_56 (jj_le rfl) (jj_le rfl)
    · have z_c_13 := jc_neq (a := (x_11).toInt) (b := (11)) c_13 rfl (by decide)
      refine jj_iconst (v := 0) C dX9_isWord_24 (by decide) ?_
      exact jj_zret C rfl ⟨[], pl0, rfl, rfl, hok, hfr, (Or.inl rfl)⟩ dX9_isWord_25 (jj_le rfl) (jj_le rfl)

set_option maxHeartbeats 4000000 in
set_option maxRecDepth 100000 in
theorem tc_X9_isWord_13 {l : Launch} (hl : l.stackTraces = false) (D : va_G) (cA : Nat → ClassId) (ak : (Nat → Nat) × (Nat → Nat)) {Kd : Nat → Nat} (h0 : Nat) (hk0 : Kd h0 = 10) {pl0 : va_W} (hok : tt_ok tt_tk cA Kd pl0) : jj_M l D cA ak yX9_isWord (.code yX9_isWord cX9_isWord 3 (some .boolean)) 4 85 0 0 ([] ++ pl0) [.ref h0, .ref (ak.1 12)] (tt_O (fun rx pl1 r => rx = [] ∧ tt_ok tt_tk cA Kd pl1 ∧ tt_fr Kd [] pl0 pl1 ∧ ((r = some (.int 0)) ∨ (r = some (.int 1))))) (tt_OX (fun _ _ _ => False)) := by
  refine jj_start hl (by decide) jw_581 (jj_le rfl) ?_
  intro p e s m args below meth c A hargs hA C hex hmn
  have hfr := tt_fr.refl (K := Kd) (WS := []) pl0
  refine jj_aload_n C dX9_isWord_0 rfl ?_
  refine tt_get C hok jk_10 5 (by decide) jw_542 (t := (0, (-2147483648), 2147483647)) hk0 (by decide) rfl rfl dX9_isWord_1 (fun v_1 hv_1 hf_2 => ?_)
  obtain ⟨x_3, rfl, lx_3, ux_3⟩ := tt_vi hv_1
  refine jj_iconst (v := 1) C dX9_isWord_4 (by decide) ?_
  refine jj_icmp_ne (tgt := 24) C dX9_isWord_5 (by decide) (fun c_4 => ?_) (fun c_4 => ?_)
  · have z_c_4 := jc_neq (a := (x_3).toInt) (b := (1)) c_4 rfl (by decide)
    refine jj_iconst (v := 0) C dX9_isWord_24 (by decide) ?_
    exact jj_zret C rfl ⟨[], pl0, rfl, rfl, hok, hfr, (Or.inl rfl)⟩ dX9_isWord_25 (jj_le rfl) (jj_le rfl)
  · have z_c_4 := jc_eq (a := (x_3).toInt) (b := (1)) c_4 rfl (by decide)
    refine jj_aload_n C dX9_isWord_8 rfl ?_
    refine tt_get C hok jk_10 3 (by decide) jw_541 (t := (0, 0, 400)) hk0 (by decide) rfl rfl dX9_isWord_9 (fun v_5 hv_5 hf_6 => ?_)
    obtain ⟨x_7, rfl, lx_7, ux_7⟩ := tt_vi hv_5
    refine jj_aload_n C dX9_isWord_12 rfl ?_
    refine tt_get C hok jk_10 4 (by decide) jw_540 (t := (0, 0, 400)) hk0 (by decide) rfl rfl dX9_isWord_13 (fun v_8 hv_8 hf_9 => ?_)
    obtain ⟨x_10, rfl, lx_10, ux_10⟩ := tt_vi hv_8
    obtain ⟨x_11, ex_11, vx_11⟩ := tt_isub (x := x_7) (y := x_10) (a := x_7.toInt) rfl (b := x_10.toInt) rfl (by omega) (by omega)
    refine jj_isub (v := x_11) C dX9_isWord_16 ex_11 ?_
    refine jj_aload_n C dX9_isWord_17 rfl ?_
    refine tt_call0Vs (rest := [.int x_11]) C (ct_J0_length_8abf5_13 hl D cA ak) 12 (by decide) rfl jw_582 jw_593 jw_594 jw_584 jw_583 jn_J0_length_8abf5 rfl (jj_le rfl) (jj_le rfl) (jj_le rfl) (jj_le rfl) (jj_le rfl) dX9_isWord_18 rfl (fun w1 r O_12 => ?_)
    obtain ⟨-, rfl⟩ := O_12
    refine jj_icmp_eq (tgt := 26) C dX9_isWord_21 (by decide) (fun c_13 => ?_) (fun c_13 => ?_)
    · have z_c_13 := jc_eq (a := (x_11).toInt) (b := (5)) c_13 rfl (by decide)
      refine jj_iconst (v := 0) C dX9_isWord_26 (by decide) ?_
      refine jj_istore_n C dX9_isWord_27 (by decide) rfl ?_
      refine jj_iload_n C dX9_isWord_28 rfl ?_
      refine jj_aload_n C dX9_isWord_29 rfl ?_
      refine tt_call0Vs (rest := [.int 0]) C (ct_J0_length_8abf5_13 hl D cA ak) 12 (by decide) rfl jw_582 jw_593 jw_594 jw_584 jw_583 jn_J0_length_8abf5 rfl (jj_le rfl) (jj_le rfl) (jj_le rfl) (jj_le rfl) (jj_le rfl) dX9_isWord_30 rfl (fun w1 r O_14 => ?_)
      obtain ⟨-, rfl⟩ := O_14
      refine jj_icmp_geF (tgt := 63) C dX9_isWord_33 (by decide) (by decide) ?_
      refine jj_aload_n C dX9_isWord_36 rfl ?_
      refine tt_get C hok jk_10 0 (by decide) jw_44 (t := (2, 11, 0)) hk0 (by decide) rfl rfl dX9_isWord_37 (fun v_15 hv_15 hf_16 => ?_)
      obtain ⟨a_17, rfl, ka_17⟩ := tt_vr hv_15
      refine jj_aload_n C dX9_isWord_40 rfl ?_
      refine tt_getF C hok jk_10 4 (by decide) jw_540 (t := (0, 0, 400)) hk0 (by decide) rfl rfl hf_9 dX9_isWord_41 ?_
      refine jj_iload_n C dX9_isWord_44 rfl ?_
      obtain ⟨x_18, ex_18, vx_18⟩ := tt_iadd (x := x_10) (y := (0 : Int32)) (a := x_10.toInt) rfl (b := 0) (by decide) (by omega) (by omega)
      refine jj_iadd (v := x_18) C dX9_isWord_45 ex_18 ?_
      refine tt_cald C hok (t := (0, (-2147483648), 2147483647)) ka_17 (by decide) rfl (vp_in_iff.mpr ⟨by omega, by omega⟩) dX9_isWord_46 (fun v_19 hv_19 => ?_)
      refine jj_aload_n C dX9_isWord_47 rfl ?_
      refine jj_iload_n C dX9_isWord_48 rfl ?_
      refine tt_call0Vs (rest := [.int v_19]) C (ct_J0_charAt_5068e_76 hl D cA ak) 12 (by decide) rfl jw_596 jw_618 jw_619 jw_584 jw_597 jn_J0_charAt_5068e rfl (jj_le rfl) (jj_le rfl) (jj_le rfl) (jj_le rfl) (jj_le rfl) dX9_isWord_49 rfl (fun w1 r O_20 => ?_)
      obtain ⟨-, rfl⟩ := O_20
      refine jj_icmp_eq (tgt := 57) C dX9_isWord_52 (by decide) (fun c_21 => ?_) (fun c_21 => ?_)
      · have z_c_21 := jc_eq (a := (v_19).toInt) (b := (109)) c_21 rfl (by decide)
        refine jj_iinc (v := 1) C dX9_isWord_57 rfl (by decide) (by decide) rfl ?_
        refine jj_goto (tgt := 28) C dX9_isWord_60 (by decide) ?_
        refine jj_iload_n C dX9_isWord_28 rfl ?_
        refine jj_aload_n C dX9_isWord_29 rfl ?_
        refine tt_call0Vs (rest := [.int 1]) C (ct_J0_length_8abf5_13 hl D cA ak) 12 (by decide) rfl jw_582 jw_593 jw_594 jw_584 jw_583 jn_J0_length_8abf5 rfl (jj_le rfl) (jj_le rfl) (jj_le rfl) (jj_le rfl) (jj_le rfl) dX9_isWord_30 rfl (fun w1 r O_22 => ?_)
        obtain ⟨-, rfl⟩ := O_22
        refine jj_icmp_geF (tgt := 63) C dX9_isWord_33 (by decide) (by decide) ?_
        refine jj_aload_n C dX9_isWord_36 rfl ?_
        refine tt_getF C hok jk_10 0 (by decide) jw_44 (t := (2, 11, 0)) hk0 (by decide) rfl rfl hf_16 dX9_isWord_37 ?_
        refine jj_aload_n C dX9_isWord_40 rfl ?_
        refine tt_getF C hok jk_10 4 (by decide) jw_540 (t := (0, 0, 400)) hk0 (by decide) rfl rfl hf_9 dX9_isWord_41 ?_
        refine jj_iload_n C dX9_isWord_44 rfl ?_
        obtain ⟨x_23, ex_23, vx_23⟩ := tt_iadd (x := x_10) (y := (1 : Int32)) (a := x_10.toInt) rfl (b := 1) (by decide) (by omega) (by omega)
        refine jj_iadd (v := x_23) C dX9_isWord_45 ex_23 ?_
        refine tt_cald C hok (t := (0, (-2147483648), 2147483647)) ka_17 (by decide) rfl (vp_in_iff.mpr ⟨by omega, by omega⟩) dX9_isWord_46 (fun v_24 hv_24 => ?_)
        refine jj_aload_n C dX9_isWord_47 rfl ?_
        refine jj_iload_n C dX9_isWord_48 rfl ?_
        refine tt_call0Vs (rest := [.int v_24]) C (ct_J0_charAt_5068e_77 hl D cA ak) 12 (by decide) rfl jw_596 jw_618 jw_619 jw_584 jw_597 jn_J0_charAt_5068e rfl (jj_le rfl) (jj_le rfl) (jj_le rfl) (jj_le rfl) (jj_le rfl) dX9_isWord_49 rfl (fun w1 r O_25 => ?_)
        obtain ⟨-, rfl⟩ := O_25
        refine jj_icmp_eq (tgt := 57) C dX9_isWord_52 (by decide) (fun c_26 => ?_) (fun c_26 => ?_)
        · have z_c_26 := jc_eq (a := (v_24).toInt) (b := (101)) c_26 rfl (by decide)
          refine jj_iinc (v := 2) C dX9_isWord_57 rfl (by decide) (by decide) rfl ?_
          refine jj_goto (tgt := 28) C dX9_isWord_60 (by decide) ?_
          refine jj_iload_n C dX9_isWord_28 rfl ?_
          refine jj_aload_n C dX9_isWord_29 rfl ?_
          refine tt_call0Vs (rest := [.int 2]) C (ct_J0_length_8abf5_13 hl D cA ak) 12 (by decide) rfl jw_582 jw_593 jw_594 jw_584 jw_583 jn_J0_length_8abf5 rfl (jj_le rfl) (jj_le rfl) (jj_le rfl) (jj_le rfl) (jj_le rfl) dX9_isWord_30 rfl (fun w1 r O_27 => ?_)
          obtain ⟨-, rfl⟩ := O_27
          refine jj_icmp_geF (tgt := 63) C dX9_isWord_33 (by decide) (by decide) ?_
          refine jj_aload_n C dX9_isWord_36 rfl ?_
          refine tt_getF C hok jk_10 0 (by decide) jw_44 (t := (2, 11, 0)) hk0 (by decide) rfl rfl hf_16 dX9_isWord_37 ?_
          refine jj_aload_n C dX9_isWord_40 rfl ?_
          refine tt_getF C hok jk_10 4 (by decide) jw_540 (t := (0, 0, 400)) hk0 (by decide) rfl rfl hf_9 dX9_isWord_41 ?_
          refine jj_iload_n C dX9_isWord_44 rfl ?_
          obtain ⟨x_28, ex_28, vx_28⟩ := tt_iadd (x := x_10) (y := (2 : Int32)) (a := x_10.toInt) rfl (b := 2) (by decide) (by omega) (by omega)
          refine jj_iadd (v := x_28) C dX9_isWord_45 ex_28 ?_
          refine tt_cald C hok (t := (0, (-2147483648), 2147483647)) ka_17 (by decide) rfl (vp_in_iff.mpr ⟨by omega, by omega⟩) dX9_isWord_46 (fun v_29 hv_29 => ?_)
          refine jj_aload_n C dX9_isWord_47 rfl ?_
          refine jj_iload_n C dX9_isWord_48 rfl ?_
          refine tt_call0Vs (rest := [.int v_29]) C (ct_J0_charAt_5068e_78 hl D cA ak) 12 (by decide) rfl jw_596 jw_618 jw_619 jw_584 jw_597 jn_J0_charAt_5068e rfl (jj_le rfl) (jj_le rfl) (jj_le rfl) (jj_le rfl) (jj_le rfl) dX9_isWord_49 rfl (fun w1 r O_30 => ?_)
          obtain ⟨-, rfl⟩ := O_30
          refine jj_icmp_eq (tgt := 57) C dX9_isWord_52 (by decide) (fun c_31 => ?_) (fun c_31 => ?_)
          · have z_c_31 := jc_eq (a := (v_29).toInt) (b := (114)) c_31 rfl (by decide)
            refine jj_iinc (v := 3) C dX9_isWord_57 rfl (by decide) (by decide) rfl ?_
            refine jj_goto (tgt := 28) C dX9_isWord_60 (by decide) ?_
            refine jj_iload_n C dX9_isWord_28 rfl ?_
            refine jj_aload_n C dX9_isWord_29 rfl ?_
            refine tt_call0Vs (rest := [.int 3]) C (ct_J0_length_8abf5_13 hl D cA ak) 12 (by decide) rfl jw_582 jw_593 jw_594 jw_584 jw_583 jn_J0_length_8abf5 rfl (jj_le rfl) (jj_le rfl) (jj_le rfl) (jj_le rfl) (jj_le rfl) dX9_isWord_30 rfl (fun w1 r O_32 => ?_)
            obtain ⟨-, rfl⟩ := O_32
            refine jj_icmp_geF (tgt := 63) C dX9_isWord_33 (by decide) (by decide) ?_
            refine jj_aload_n C dX9_isWord_36 rfl ?_
            refine tt_getF C hok jk_10 0 (by decide) jw_44 (t := (2, 11, 0)) hk0 (by decide) rfl rfl hf_16 dX9_isWord_37 ?_
            refine jj_aload_n C dX9_isWord_40 rfl ?_
            refine tt_getF C hok jk_10 4 (by decide) jw_540 (t := (0, 0, 400)) hk0 (by decide) rfl rfl hf_9 dX9_isWord_41 ?_
            refine jj_iload_n C dX9_isWord_44 rfl ?_
            obtain ⟨x_33, ex_33, vx_33⟩ := tt_iadd (x := x_10) (y := (3 : Int32)) (a := x_10.toInt) rfl (b := 3) (by decide) (by omega) (by omega)
            refine jj_iadd (v := x_33) C dX9_isWord_45 ex_33 ?_
            refine tt_cald C hok (t := (0, (-2147483648), 2147483647)) ka_17 (by decide) rfl (vp_in_iff.mpr ⟨by omega, by omega⟩) dX9_isWord_46 (fun v_34 hv_34 => ?_)
            refine jj_aload_n C dX9_isWord_47 rfl ?_
            refine jj_iload_n C dX9_isWord_48 rfl ?_
            refine tt_call0Vs (rest := [.int v_34]) C (ct_J0_charAt_5068e_79 hl D cA ak) 12 (by decide) rfl jw_596 jw_618 jw_619 jw_584 jw_597 jn_J0_charAt_5068e rfl (jj_le rfl) (jj_le rfl) (jj_le rfl) (jj_le rfl) (jj_le rfl) dX9_isWord_49 rfl (fun w1 r O_35 => ?_)
            obtain ⟨-, rfl⟩ := O_35
            refine jj_icmp_eq (tgt := 57) C dX9_isWord_52 (by decide) (fun c_36 => ?_) (fun c_36 => ?_)
            · have z_c_36 := jc_eq (a := (v_34).toInt) (b := (103)) c_36 rfl (by decide)
              refine jj_iinc (v := 4) C dX9_isWord_57 rfl (by decide) (by decide) rfl ?_
              refine jj_goto (tgt := 28) C dX9_isWord_60 (by decide) ?_
              refine jj_iload_n C dX9_isWord_28 rfl ?_
              refine jj_aload_n C dX9_isWord_29 rfl ?_
              refine tt_call0Vs (rest := [.int 4]) C (ct_J0_length_8abf5_13 hl D cA ak) 12 (by decide) rfl jw_582 jw_593 jw_594 jw_584 jw_583 jn_J0_length_8abf5 rfl (jj_le rfl) (jj_le rfl) (jj_le rfl) (jj_le rfl) (jj_le rfl) dX9_isWord_30 rfl (fun w1 r O_37 => ?_)
              obtain ⟨-, rfl⟩ := O_37
              refine jj_icmp_geF (tgt := 63) C dX9_isWord_33 (by decide) (by decide) ?_
              refine jj_aload_n C dX9_isWord_36 rfl ?_
              refine tt_getF C hok jk_10 0 (by decide) jw_44 (t := (2, 11, 0)) hk0 (by decide) rfl rfl hf_16 dX9_isWord_37 ?_
              refine jj_aload_n C dX9_isWord_40 rfl ?_
              refine tt_getF C hok jk_10 4 (by decide) jw_540 (t := (0, 0, 400)) hk0 (by decide) rfl rfl hf_9 dX9_isWord_41 ?_
              refine jj_iload_n C dX9_isWord_44 rfl ?_
              obtain ⟨x_38, ex_38, vx_38⟩ := tt_iadd (x := x_10) (y := (4 : Int32)) (a := x_10.toInt) rfl (b := 4) (by decide) (by omega) (by omega)
              refine jj_iadd (v := x_38) C dX9_isWord_45 ex_38 ?_
              refine tt_cald C hok (t := (0, (-2147483648), 2147483647)) ka_17 (by decide) rfl (vp_in_iff.mpr ⟨by omega, by omega⟩) dX9_isWord_46 (fun v_39 hv_39 => ?_)
              refine jj_aload_n C dX9_isWord_47 rfl ?_
              refine jj_iload_n C dX9_isWord_48 rfl ?_
              refine tt_call0Vs (rest := [.int v_39]) C (ct_J0_charAt_5068e_80 hl D cA ak) 12 (by decide) rfl jw_596 jw_618 jw_619 jw_584 jw_597 jn_J0_charAt_5068e rfl (jj_le rfl) (jj_le rfl) (jj_le rfl) (jj_le rfl) (jj_le rfl) dX9_isWord_49 rfl (fun w1 r O_40 => ?_)
              obtain ⟨-, rfl⟩ := O_40
              refine jj_icmp_eq (tgt := 57) C dX9_isWord_52 (by decide) (fun c_41 => ?_) (fun c_41 => ?_)
              · have z_c_41 := jc_eq (a := (v_39).toInt) (b := (101)) c_41 rfl (by decide)
                refine jj_iinc (v := 5) C dX9_isWord_57 rfl (by decide) (by decide) rfl ?_
                refine jj_goto (tgt := 28) C dX9_isWord_60 (by decide) ?_
                refine jj_iload_n C dX9_isWord_28 rfl ?_
                refine jj_aload_n C dX9_isWord_29 rfl ?_
                refine tt_call0Vs (rest := [.int 5]) C (ct_J0_length_8abf5_13 hl D cA ak) 12 (by decide) rfl jw_582 jw_593 jw_594 jw_584 jw_583 jn_J0_length_8abf5 rfl (jj_le rfl) (jj_le rfl) (jj_le rfl) (jj_le rfl) (jj_le rfl) dX9_isWord_30 rfl (fun w1 r O_42 => ?_)
                obtain ⟨-, rfl⟩ := O_42
                refine jj_icmp_geT (tgt := 63) C dX9_isWord_33 (by decide) (by decide) ?_
                refine jj_iconst (v := 1) C dX9_isWord_63 (by decide) ?_
                exact jj_zret C rfl ⟨[], pl0, rfl, rfl, hok, hfr, (Or.inr rfl)⟩ dX9_isWord_64 (jj_le rfl) (jj_le rfl)
              · have z_c_41 := jc_neq (a := (v_39).toInt) (b := (101)) c_41 rfl (by decide)
                refine jj_iconst (v := 0) C dX9_isWord_55 (by decide) ?_
                exact jj_zret C rfl ⟨[], pl0, rfl, rfl, hok, hfr, (Or.inl rfl)⟩ dX9_isWord_56 (jj_le rfl) (jj_le rfl)
            · have z_c_36 := jc_neq (a := (v_34).toInt) (b := (103)) c_36 rfl (by decide)
              refine jj_iconst (v := 0) C dX9_isWord_55 (by decide) ?_
              exact jj_zret C rfl ⟨[], pl0, rfl, rfl, hok, hfr, (Or.inl rfl)⟩ dX9_isWord_56 (jj_le rfl) (jj_le rfl)
          · have z_c_31 := jc_neq (a := (v_29).toInt) (b := (114)) c_31 rfl (by decide)
            refine jj_iconst (v := 0) C dX9_isWord_55 (by decide) ?_
            exact jj_zret C rfl ⟨[], pl0, rfl, rfl, hok, hfr, (Or.inl rfl)⟩ dX9_isWord_56 (jj_le rfl) (jj_le rfl)
        · have z_c_26 := jc_neq (a := (v_24).toInt) (b := (101)) c_26 rfl (by decide)
          refine jj_iconst (v := 0) C dX9_isWord_55 (by decide) ?_
          exact jj_zret C rfl ⟨[], pl0, rfl, rfl, hok, hfr, (Or.inl rfl)⟩ dX9_isWord_56 (jj_le rfl) (jj_le rfl)
      · have z_c_21 := jc_neq (a := (v_19).toInt) (b := (109)) c_21 rfl (by decide)
        refine jj_iconst (v := 0) C dX9_isWord_55 (by decide) ?_
        exact jj_zret C rfl ⟨[], pl0, rfl, rfl, hok, hfr, (Or.inl rfl)⟩ dX9_isWord_56 (jj_le rfl) (jj_le rfl)
    · have z_c_13 := jc_neq (a := (x_11).toInt) (b := (5)) c_13 rfl (by decide)
      refine jj_iconst (v := 0) C dX9_isWord_24 (by decide) ?_
      exact jj_zret C rfl ⟨[], pl0, rfl, rfl, hok, hfr, (Or.inl rfl)⟩ dX9_isWord_25 (jj_le rfl) (jj_le rfl)

set_option maxHeartbeats 4000000 in
set_option maxRecDepth 100000 in
theorem tc_X7_operationOfWord_1 {l : Launch} (hl : l.stackTraces = false) (D : va_G) (cA : Nat → ClassId) (ak : (Nat → Nat) × (Nat → Nat)) {Kd : Nat → Nat} (h0 : Nat) (hk0 : Kd h0 = 18) {pl0 : va_W} (hok : tt_ok tt_tk cA Kd pl0) : jj_M l D cA ak yX7_operationOfWord (.code yX7_operationOfWord cX7_operationOfWord 1 (some .int)) 5 107 0 0 ([] ++ pl0) [.ref h0] (tt_O (fun rx pl1 r => rx = [] ∧ tt_ok tt_tk cA Kd pl1 ∧ tt_fr Kd [] pl0 pl1 ∧ ((∃ v : Int32, (-1 : Int) ≤ v.toInt ∧ v.toInt ≤ 7 ∧ r = some (.int v))))) (tt_OX (fun _ _ _ => False)) := by
  refine jj_start hl (by decide) jw_738 (jj_le rfl) ?_
  intro p e s m args below meth c A hargs hA C hex hmn
  have hfr := tt_fr.refl (K := Kd) (WS := []) pl0
  refine jj_aload_n C dX7_operationOfWord_0 rfl ?_
  refine tt_get C hok jk_8 0 (by decide) jw_739 (t := (2, 10, 0)) hk0 (by decide) rfl rfl dX7_operationOfWord_1 (fun v_1 hv_1 hf_2 => ?_)
  obtain ⟨a_3, rfl, ka_3⟩ := tt_vr hv_1
  refine jj_ldcs (k := 5) (tx := "subscribe") C dX7_operationOfWord_4 (by decide +kernel) ?_
  obtain ⟨qc, gs, hqc⟩ := tt_recv (cx := []) hok ka_3 (by decide) rfl
  refine tt_callV (rest := []) C (tc_X9_isWord_6 hl D cA ak a_3 ka_3 hok) [] [] rfl rfl (by decide) (by decide) (by decide) qc hqc rfl rfl jw_747 jw_621 jw_622 jw_42 jw_581 jn_X9_isWord rfl (jj_le rfl) (jj_le rfl) (jj_le rfl) (jj_le rfl) (jj_le rfl) dX7_operationOfWord_6 rfl (fun _ _ _ hX => hX.elim) (fun rx pl_4 r O_7 => ?_)
  obtain ⟨rfl, hok_5, hr_6, hR_9⟩ := O_7
  replace hf_2 := hr_6.at hk0 (by decide) (by decide) hf_2
  replace hfr := hfr.trans (hr_6.sub (by decide))
  rcases hR_9 with rfl | rfl
  · refine jj_if_eqT (tgt := 14) C dX7_operationOfWord_9 (by decide) (by decide) ?_
    refine jj_aload_n C dX7_operationOfWord_14 rfl ?_
    refine tt_getF C hok_5 jk_8 0 (by decide) jw_739 (t := (2, 10, 0)) hk0 (by decide) rfl rfl hf_2 dX7_operationOfWord_15 ?_
    refine jj_ldcs (k := 6) (tx := "redeem") C dX7_operationOfWord_18 (by decide +kernel) ?_
    obtain ⟨qc, gs, hqc⟩ := tt_recv (cx := []) hok_5 ka_3 (by decide) rfl
    refine tt_callV (rest := []) C (tc_X9_isWord_7 hl D cA ak a_3 ka_3 hok_5) [] [] rfl rfl (by decide) (by decide) (by decide) qc hqc rfl rfl jw_747 jw_621 jw_622 jw_42 jw_581 jn_X9_isWord rfl (jj_le rfl) (jj_le rfl) (jj_le rfl) (jj_le rfl) (jj_le rfl) dX7_operationOfWord_20 rfl (fun _ _ _ hX => hX.elim) (fun rx pl_10 r O_13 => ?_)
    obtain ⟨rfl, hok_11, hr_12, hR_15⟩ := O_13
    replace hf_2 := hr_12.at hk0 (by decide) (by decide) hf_2
    replace hfr := hfr.trans (hr_12.sub (by decide))
    rcases hR_15 with rfl | rfl
    · refine jj_if_eqT (tgt := 28) C dX7_operationOfWord_23 (by decide) (by decide) ?_
      refine jj_aload_n C dX7_operationOfWord_28 rfl ?_
      refine tt_getF C hok_11 jk_8 0 (by decide) jw_739 (t := (2, 10, 0)) hk0 (by decide) rfl rfl hf_2 dX7_operationOfWord_29 ?_
      refine jj_ldcs (k := 7) (tx := "deal") C dX7_operationOfWord_32 (by decide +kernel) ?_
      obtain ⟨qc, gs, hqc⟩ := tt_recv (cx := []) hok_11 ka_3 (by decide) rfl
      refine tt_callV (rest := []) C (tc_X9_isWord_8 hl D cA ak a_3 ka_3 hok_11) [] [] rfl rfl (by decide) (by decide) (by decide) qc hqc rfl rfl jw_747 jw_621 jw_622 jw_42 jw_581 jn_X9_isWord rfl (jj_le rfl) (jj_le rfl) (jj_le rfl) (jj_le rfl) (jj_le rfl) dX7_operationOfWord_34 rfl (fun _ _ _ hX => hX.elim) (fun rx pl_16 r O_19 => ?_)
      obtain ⟨rfl, hok_17, hr_18, hR_21⟩ := O_19
      replace hf_2 := hr_18.at hk0 (by decide) (by decide) hf_2
      replace hfr := hfr.trans (hr_18.sub (by decide))
      rcases hR_21 with rfl | rfl
      · refine jj_if_eqT (tgt := 42) C dX7_operationOfWord_37 (by decide) (by decide) ?_
        refine jj_aload_n C dX7_operationOfWord_42 rfl ?_
        refine tt_getF C hok_17 jk_8 0 (by decide) jw_739 (t := (2, 10, 0)) hk0 (by decide) rfl rfl hf_2 dX7_operationOfWord_43 ?_
        refine jj_ldcs (k := 8) (tx := "gain") C dX7_operationOfWord_46 (by decide +kernel) ?_
        obtain ⟨qc, gs, hqc⟩ := tt_recv (cx := []) hok_17 ka_3 (by decide) rfl
        refine tt_callV (rest := []) C (tc_X9_isWord_9 hl D cA ak a_3 ka_3 hok_17) [] [] rfl rfl (by decide) (by decide) (by decide) qc hqc rfl rfl jw_747 jw_621 jw_622 jw_42 jw_581 jn_X9_isWord rfl (jj_le rfl) (jj_le rfl) (jj_le rfl) (jj_le rfl) (jj_le rfl) dX7_operationOfWord_48 rfl (fun _ _ _ hX => hX.elim) (fun rx pl_22 r O_25 => ?_)
        obtain ⟨rfl, hok_23, hr_24, hR_27⟩ := O_25
        replace hf_2 := hr_24.at hk0 (by decide) (by decide) hf_2
        replace hfr := hfr.trans (hr_24.sub (by decide))
        rcases hR_27 with rfl | rfl
        · refine jj_if_eqT (tgt := 56) C dX7_operationOfWord_51 (by decide) (by decide) ?_
          refine jj_aload_n C dX7_operationOfWord_56 rfl ?_
          refine tt_getF C hok_23 jk_8 0 (by decide) jw_739 (t := (2, 10, 0)) hk0 (by decide) rfl rfl hf_2 dX7_operationOfWord_57 ?_
          refine jj_ldcs (k := 9) (tx := "lose") C dX7_operationOfWord_60 (by decide +kernel) ?_
          obtain ⟨qc, gs, hqc⟩ := tt_recv (cx := []) hok_23 ka_3 (by decide) rfl
          refine tt_callV (rest := []) C (tc_X9_isWord_10 hl D cA ak a_3 ka_3 hok_23) [] [] rfl rfl (by decide) (by decide) (by decide) qc hqc rfl rfl jw_747 jw_621 jw_622 jw_42 jw_581 jn_X9_isWord rfl (jj_le rfl) (jj_le rfl) (jj_le rfl) (jj_le rfl) (jj_le rfl) dX7_operationOfWord_62 rfl (fun _ _ _ hX => hX.elim) (fun rx pl_28 r O_31 => ?_)
          obtain ⟨rfl, hok_29, hr_30, hR_33⟩ := O_31
          replace hf_2 := hr_30.at hk0 (by decide) (by decide) hf_2
          replace hfr := hfr.trans (hr_30.sub (by decide))
          rcases hR_33 with rfl | rfl
          · refine jj_if_eqT (tgt := 70) C dX7_operationOfWord_65 (by decide) (by decide) ?_
            refine jj_aload_n C dX7_operationOfWord_70 rfl ?_
            refine tt_getF C hok_29 jk_8 0 (by decide) jw_739 (t := (2, 10, 0)) hk0 (by decide) rfl rfl hf_2 dX7_operationOfWord_71 ?_
            refine jj_ldcs (k := 10) (tx := "pass") C dX7_operationOfWord_74 (by decide +kernel) ?_
            obtain ⟨qc, gs, hqc⟩ := tt_recv (cx := []) hok_29 ka_3 (by decide) rfl
            refine tt_callV (rest := []) C (tc_X9_isWord_11 hl D cA ak a_3 ka_3 hok_29) [] [] rfl rfl (by decide) (by decide) (by decide) qc hqc rfl rfl jw_747 jw_621 jw_622 jw_42 jw_581 jn_X9_isWord rfl (jj_le rfl) (jj_le rfl) (jj_le rfl) (jj_le rfl) (jj_le rfl) dX7_operationOfWord_76 rfl (fun _ _ _ hX => hX.elim) (fun rx pl_34 r O_37 => ?_)
            obtain ⟨rfl, hok_35, hr_36, hR_39⟩ := O_37
            replace hf_2 := hr_36.at hk0 (by decide) (by decide) hf_2
            replace hfr := hfr.trans (hr_36.sub (by decide))
            rcases hR_39 with rfl | rfl
            · refine jj_if_eqT (tgt := 84) C dX7_operationOfWord_79 (by decide) (by decide) ?_
              refine jj_aload_n C dX7_operationOfWord_84 rfl ?_
              refine tt_getF C hok_35 jk_8 0 (by decide) jw_739 (t := (2, 10, 0)) hk0 (by decide) rfl rfl hf_2 dX7_operationOfWord_85 ?_
              refine jj_ldcs (k := 11) (tx := "crystallize") C dX7_operationOfWord_88 (by decide +kernel) ?_
              obtain ⟨qc, gs, hqc⟩ := tt_recv (cx := []) hok_35 ka_3 (by decide) rfl
              refine tt_callV (rest := []) C (tc_X9_isWord_12 hl D cA ak a_3 ka_3 hok_35) [] [] rfl rfl (by decide) (by decide) (by decide) qc hqc rfl rfl jw_747 jw_621 jw_622 jw_42 jw_581 jn_X9_isWord rfl (jj_le rfl) (jj_le rfl) (jj_le rfl) (jj_le rfl) (jj_le rfl) dX7_operationOfWord_90 rfl (fun _ _ _ hX => hX.elim) (fun rx pl_40 r O_43 => ?_)
              obtain ⟨rfl, hok_41, hr_42, hR_45⟩ := O_43
              replace hf_2 := hr_42.at hk0 (by decide) (by decide) hf_2
              replace hfr := hfr.trans (hr_42.sub (by decide))
              rcases hR_45 with rfl | rfl
              · refine jj_if_eqT (tgt := 99) C dX7_operationOfWord_93 (by decide) (by decide) ?_
                refine jj_aload_n C dX7_operationOfWord_99 rfl ?_
                refine tt_getF C hok_41 jk_8 0 (by decide) jw_739 (t := (2, 10, 0)) hk0 (by decide) rfl rfl hf_2 dX7_operationOfWord_100 ?_
                refine jj_ldcs (k := 12) (tx := "merge") C dX7_operationOfWord_103 (by decide +kernel) ?_
                obtain ⟨qc, gs, hqc⟩ := tt_recv (cx := []) hok_41 ka_3 (by decide) rfl
                refine tt_callV (rest := []) C (tc_X9_isWord_13 hl D cA ak a_3 ka_3 hok_41) [] [] rfl rfl (by decide) (by decide) (by decide) qc hqc rfl rfl jw_747 jw_621 jw_622 jw_42 jw_581 jn_X9_isWord rfl (jj_le rfl) (jj_le rfl) (jj_le rfl) (jj_le rfl) (jj_le rfl) dX7_operationOfWord_105 rfl (fun _ _ _ hX => hX.elim) (fun rx pl_46 r O_49 => ?_)
                obtain ⟨rfl, hok_47, hr_48, hR_51⟩ := O_49
                replace hf_2 := hr_48.at hk0 (by decide) (by decide) hf_2
                replace hfr := hfr.trans (hr_48.sub (by decide))
                rcases hR_51 with rfl | rfl
                · refine jj_if_eqT (tgt := 116) C dX7_operationOfWord_108 (by decide) (by decide) ?_
                  refine jj_iconst (v := (-1)) C dX7_operationOfWord_116 (by decide) ?_
                  exact jj_iret C ⟨[], pl_46, rfl, rfl, hok_47, hfr, ⟨((-1) : Int32), (by decide), (by decide), rfl⟩⟩ dX7_operationOfWord_117 (jj_le rfl) (jj_le rfl)
                · refine jj_if_eqF (tgt := 116) C dX7_operationOfWord_108 (by decide) (by decide) ?_
                  refine jj_bipush (v := 7) C dX7_operationOfWord_111 (by decide) ?_
                  refine jj_goto (tgt := 117) C dX7_operationOfWord_113 (by decide) ?_
                  exact jj_iret C ⟨[], pl_46, rfl, rfl, hok_47, hfr, ⟨(7 : Int32), (by decide), (by decide), rfl⟩⟩ dX7_operationOfWord_117 (jj_le rfl) (jj_le rfl)
              · refine jj_if_eqF (tgt := 99) C dX7_operationOfWord_93 (by decide) (by decide) ?_
                refine jj_bipush (v := 6) C dX7_operationOfWord_96 (by decide) ?_
                exact jj_iret C ⟨[], pl_40, rfl, rfl, hok_41, hfr, ⟨(6 : Int32), (by decide), (by decide), rfl⟩⟩ dX7_operationOfWord_98 (jj_le rfl) (jj_le rfl)
            · refine jj_if_eqF (tgt := 84) C dX7_operationOfWord_79 (by decide) (by decide) ?_
              refine jj_iconst (v := 5) C dX7_operationOfWord_82 (by decide) ?_
              exact jj_iret C ⟨[], pl_34, rfl, rfl, hok_35, hfr, ⟨(5 : Int32), (by decide), (by decide), rfl⟩⟩ dX7_operationOfWord_83 (jj_le rfl) (jj_le rfl)
          · refine jj_if_eqF (tgt := 70) C dX7_operationOfWord_65 (by decide) (by decide) ?_
            refine jj_iconst (v := 4) C dX7_operationOfWord_68 (by decide) ?_
            exact jj_iret C ⟨[], pl_28, rfl, rfl, hok_29, hfr, ⟨(4 : Int32), (by decide), (by decide), rfl⟩⟩ dX7_operationOfWord_69 (jj_le rfl) (jj_le rfl)
        · refine jj_if_eqF (tgt := 56) C dX7_operationOfWord_51 (by decide) (by decide) ?_
          refine jj_iconst (v := 3) C dX7_operationOfWord_54 (by decide) ?_
          exact jj_iret C ⟨[], pl_22, rfl, rfl, hok_23, hfr, ⟨(3 : Int32), (by decide), (by decide), rfl⟩⟩ dX7_operationOfWord_55 (jj_le rfl) (jj_le rfl)
      · refine jj_if_eqF (tgt := 42) C dX7_operationOfWord_37 (by decide) (by decide) ?_
        refine jj_iconst (v := 2) C dX7_operationOfWord_40 (by decide) ?_
        exact jj_iret C ⟨[], pl_16, rfl, rfl, hok_17, hfr, ⟨(2 : Int32), (by decide), (by decide), rfl⟩⟩ dX7_operationOfWord_41 (jj_le rfl) (jj_le rfl)
    · refine jj_if_eqF (tgt := 28) C dX7_operationOfWord_23 (by decide) (by decide) ?_
      refine jj_iconst (v := 1) C dX7_operationOfWord_26 (by decide) ?_
      exact jj_iret C ⟨[], pl_10, rfl, rfl, hok_11, hfr, ⟨(1 : Int32), (by decide), (by decide), rfl⟩⟩ dX7_operationOfWord_27 (jj_le rfl) (jj_le rfl)
  · refine jj_if_eqF (tgt := 14) C dX7_operationOfWord_9 (by decide) (by decide) ?_
    refine jj_iconst (v := 0) C dX7_operationOfWord_12 (by decide) ?_
    exact jj_iret C ⟨[], pl_4, rfl, rfl, hok_5, hfr, ⟨(0 : Int32), (by decide), (by decide), rfl⟩⟩ dX7_operationOfWord_13 (jj_le rfl) (jj_le rfl)

set_option maxHeartbeats 4000000 in
set_option maxRecDepth 100000 in
theorem tc_X7_numbersOf_1 {l : Launch} (hl : l.stackTraces = false) (D : va_G) (cA : Nat → ClassId) (ak : (Nat → Nat) × (Nat → Nat)) {Kd : Nat → Nat} (p0 : Int32) (lp0 : (0 : Int) ≤ p0.toInt) (up0 : p0.toInt ≤ 7) {pl0 : va_W} (hok : tt_ok tt_tk cA Kd pl0) : jj_M l D cA ak yX7_numbersOf (.code yX7_numbersOf cX7_numbersOf 1 (some .int)) 0 0 0 0 ([] ++ pl0) [.int p0] (tt_O (fun rx pl1 r => rx = [] ∧ tt_ok tt_tk cA Kd pl1 ∧ tt_fr Kd [] pl0 pl1 ∧ (((0 : Int) ≤ p0.toInt ∧ p0.toInt ≤ 1 ∧ r = some (.int 2)) ∨ ((3 : Int) ≤ p0.toInt ∧ p0.toInt ≤ 5 ∧ r = some (.int 1)) ∨ ((2 : Int) ≤ p0.toInt ∧ p0.toInt ≤ 7 ∧ r = some (.int 0))))) (tt_OX (fun _ _ _ => False)) := by
  refine jj_start hl (by decide) jw_753 (jj_le rfl) ?_
  intro p e s m args below meth c A hargs hA C hex hmn
  have hfr := tt_fr.refl (K := Kd) (WS := []) pl0
  refine jj_iload_n C dX7_numbersOf_0 rfl ?_
  refine jj_if_eq (tgt := 9) C dX7_numbersOf_1 (by decide) (fun c_1 => ?_) (fun c_1 => ?_)
  · have z_c_1 := jc_eq (a := (p0).toInt) (b := (0)) c_1 rfl (by decide)
    refine jj_iconst (v := 2) C dX7_numbersOf_9 (by decide) ?_
    exact jj_iret C ⟨[], pl0, rfl, rfl, hok, hfr, (Or.inl ⟨(by first | omega | exact tt_lo _ | exact tt_hi _), (by first | omega | exact tt_lo _ | exact tt_hi _), rfl⟩)⟩ dX7_numbersOf_10 (jj_le rfl) (jj_le rfl)
  · have z_c_1 := jc_neq (a := (p0).toInt) (b := (0)) c_1 rfl (by decide)
    refine jj_iload_n C dX7_numbersOf_4 rfl ?_
    refine jj_iconst (v := 1) C dX7_numbersOf_5 (by decide) ?_
    refine jj_icmp_ne (tgt := 11) C dX7_numbersOf_6 (by decide) (fun c_2 => ?_) (fun c_2 => ?_)
    · have z_c_2 := jc_neq (a := (p0).toInt) (b := (1)) c_2 rfl (by decide)
      refine jj_iload_n C dX7_numbersOf_11 rfl ?_
      refine jj_iconst (v := 3) C dX7_numbersOf_12 (by decide) ?_
      refine jj_icmp_eq (tgt := 26) C dX7_numbersOf_13 (by decide) (fun c_3 => ?_) (fun c_3 => ?_)
      · have z_c_3 := jc_eq (a := (p0).toInt) (b := (3)) c_3 rfl (by decide)
        refine jj_iconst (v := 1) C dX7_numbersOf_26 (by decide) ?_
        refine jj_goto (tgt := 31) C dX7_numbersOf_27 (by decide) ?_
        exact jj_iret C ⟨[], pl0, rfl, rfl, hok, hfr, (Or.inr (Or.inl ⟨(by first | omega | exact tt_lo _ | exact tt_hi _), (by first | omega | exact tt_lo _ | exact tt_hi _), rfl⟩))⟩ dX7_numbersOf_31 (jj_le rfl) (jj_le rfl)
      · have z_c_3 := jc_neq (a := (p0).toInt) (b := (3)) c_3 rfl (by decide)
        refine jj_iload_n C dX7_numbersOf_16 rfl ?_
        refine jj_iconst (v := 4) C dX7_numbersOf_17 (by decide) ?_
        refine jj_icmp_eq (tgt := 26) C dX7_numbersOf_18 (by decide) (fun c_4 => ?_) (fun c_4 => ?_)
        · have z_c_4 := jc_eq (a := (p0).toInt) (b := (4)) c_4 rfl (by decide)
          refine jj_iconst (v := 1) C dX7_numbersOf_26 (by decide) ?_
          refine jj_goto (tgt := 31) C dX7_numbersOf_27 (by decide) ?_
          exact jj_iret C ⟨[], pl0, rfl, rfl, hok, hfr, (Or.inr (Or.inl ⟨(by first | omega | exact tt_lo _ | exact tt_hi _), (by first | omega | exact tt_lo _ | exact tt_hi _), rfl⟩))⟩ dX7_numbersOf_31 (jj_le rfl) (jj_le rfl)
        · have z_c_4 := jc_neq (a := (p0).toInt) (b := (4)) c_4 rfl (by decide)
          refine jj_iload_n C dX7_numbersOf_21 rfl ?_
          refine jj_iconst (v := 5) C dX7_numbersOf_22 (by decide) ?_
          refine jj_icmp_ne (tgt := 30) C dX7_numbersOf_23 (by decide) (fun c_5 => ?_) (fun c_5 => ?_)
          · have z_c_5 := jc_neq (a := (p0).toInt) (b := (5)) c_5 rfl (by decide)
            refine jj_iconst (v := 0) C dX7_numbersOf_30 (by decide) ?_
            exact jj_iret C ⟨[], pl0, rfl, rfl, hok, hfr, (Or.inr (Or.inr ⟨(by first | omega | exact tt_lo _ | exact tt_hi _), (by first | omega | exact tt_lo _ | exact tt_hi _), rfl⟩))⟩ dX7_numbersOf_31 (jj_le rfl) (jj_le rfl)
          · have z_c_5 := jc_eq (a := (p0).toInt) (b := (5)) c_5 rfl (by decide)
            refine jj_iconst (v := 1) C dX7_numbersOf_26 (by decide) ?_
            refine jj_goto (tgt := 31) C dX7_numbersOf_27 (by decide) ?_
            exact jj_iret C ⟨[], pl0, rfl, rfl, hok, hfr, (Or.inr (Or.inl ⟨(by first | omega | exact tt_lo _ | exact tt_hi _), (by first | omega | exact tt_lo _ | exact tt_hi _), rfl⟩))⟩ dX7_numbersOf_31 (jj_le rfl) (jj_le rfl)
    · have z_c_2 := jc_eq (a := (p0).toInt) (b := (1)) c_2 rfl (by decide)
      refine jj_iconst (v := 2) C dX7_numbersOf_9 (by decide) ?_
      exact jj_iret C ⟨[], pl0, rfl, rfl, hok, hfr, (Or.inl ⟨(by first | omega | exact tt_lo _ | exact tt_hi _), (by first | omega | exact tt_lo _ | exact tt_hi _), rfl⟩)⟩ dX7_numbersOf_10 (jj_le rfl) (jj_le rfl)

set_option maxHeartbeats 4000000 in
set_option maxRecDepth 100000 in
theorem tc_X7_readNumber_1 {l : Launch} (hl : l.stackTraces = false) (D : va_G) (cA : Nat → ClassId) (ak : (Nat → Nat) × (Nat → Nat)) {Kd : Nat → Nat} (h0 : Nat) (hk0 : Kd h0 = 18) {pl0 : va_W} (hok : tt_ok tt_tk cA Kd pl0) : jj_M l D cA ak yX7_readNumber (.code yX7_readNumber cX7_readNumber 1 (some .boolean)) 2 41 0 0 ([] ++ pl0) [.ref h0] (tt_O (fun rx pl1 r => rx = [] ∧ tt_ok tt_tk cA Kd pl1 ∧ tt_fr Kd [(10, 3), (10, 4), (10, 5), (10, 6)] pl0 pl1 ∧ ((r = some (.int 0)) ∨ (r = some (.int 1))))) (tt_OX (fun _ _ _ => False)) := by
  refine jj_start hl (by decide) jw_757 (jj_le rfl) ?_
  intro p e s m args below meth c A hargs hA C hex hmn
  have hfr := tt_fr.refl (K := Kd) (WS := [(10, 3), (10, 4), (10, 5), (10, 6)]) pl0
  refine jj_aload_n C dX7_readNumber_0 rfl ?_
  refine tt_get C hok jk_8 0 (by decide) jw_739 (t := (2, 10, 0)) hk0 (by decide) rfl rfl dX7_readNumber_1 (fun v_1 hv_1 hf_2 => ?_)
  obtain ⟨a_3, rfl, ka_3⟩ := tt_vr hv_1
  obtain ⟨qc, gs, hqc⟩ := tt_recv (cx := []) hok ka_3 (by decide) rfl
  refine tt_callV (rest := []) C (tc_X9_advance_1 hl D cA ak a_3 ka_3 hok) [] [] rfl rfl (by decide) (by decide) (by decide) qc hqc rfl rfl jw_758 jw_577 jw_578 jw_42 jw_565 jn_X9_advance rfl (jj_le rfl) (jj_le rfl) (jj_le rfl) (jj_le rfl) (jj_le rfl) dX7_readNumber_4 rfl (fun _ _ _ hX => hX.elim) (fun rx pl_4 r O_7 => ?_)
  obtain ⟨rfl, hok_5, hr_6, hR_9⟩ := O_7
  replace hf_2 := hr_6.at hk0 (by decide) (by decide) hf_2
  replace hfr := hfr.trans (hr_6.sub (by decide))
  obtain rfl := hR_9
  refine jj_aload_n C dX7_readNumber_7 rfl ?_
  refine tt_getF C hok_5 jk_8 0 (by decide) jw_739 (t := (2, 10, 0)) hk0 (by decide) rfl rfl hf_2 dX7_readNumber_8 ?_
  refine tt_get C hok_5 jk_10 5 (by decide) jw_759 (t := (0, (-2147483648), 2147483647)) ka_3 (by decide) rfl rfl dX7_readNumber_11 (fun v_10 hv_10 hf_11 => ?_)
  obtain ⟨x_12, rfl, lx_12, ux_12⟩ := tt_vi hv_10
  refine jj_iconst (v := 2) C dX7_readNumber_14 (by decide) ?_
  refine jj_icmp_ne (tgt := 33) C dX7_readNumber_15 (by decide) (fun c_13 => ?_) (fun c_13 => ?_)
  · have z_c_13 := jc_neq (a := (x_12).toInt) (b := (2)) c_13 rfl (by decide)
    refine jj_iconst (v := 0) C dX7_readNumber_33 (by decide) ?_
    exact jj_zret C rfl ⟨[], pl_4, rfl, rfl, hok_5, hfr, (Or.inl rfl)⟩ dX7_readNumber_34 (jj_le rfl) (jj_le rfl)
  · have z_c_13 := jc_eq (a := (x_12).toInt) (b := (2)) c_13 rfl (by decide)
    refine jj_aload_n C dX7_readNumber_18 rfl ?_
    refine tt_getF C hok_5 jk_8 0 (by decide) jw_739 (t := (2, 10, 0)) hk0 (by decide) rfl rfl hf_2 dX7_readNumber_19 ?_
    refine tt_get C hok_5 jk_10 6 (by decide) jw_760 (t := (0, (-2147483648), 2147483647)) ka_3 (by decide) rfl rfl dX7_readNumber_22 (fun v_14 hv_14 hf_15 => ?_)
    obtain ⟨x_16, rfl, lx_16, ux_16⟩ := tt_vi hv_14
    refine jj_iconst (v := (-1)) C dX7_readNumber_25 (by decide) ?_
    refine jj_icmp_eq (tgt := 33) C dX7_readNumber_26 (by decide) (fun c_17 => ?_) (fun c_17 => ?_)
    · have z_c_17 := jc_eq (a := (x_16).toInt) (b := (-1)) c_17 rfl (by decide)
      refine jj_iconst (v := 0) C dX7_readNumber_33 (by decide) ?_
      exact jj_zret C rfl ⟨[], pl_4, rfl, rfl, hok_5, hfr, (Or.inl rfl)⟩ dX7_readNumber_34 (jj_le rfl) (jj_le rfl)
    · have z_c_17 := jc_neq (a := (x_16).toInt) (b := (-1)) c_17 rfl (by decide)
      refine jj_iconst (v := 1) C dX7_readNumber_29 (by decide) ?_
      refine jj_goto (tgt := 34) C dX7_readNumber_30 (by decide) ?_
      exact jj_zret C rfl ⟨[], pl_4, rfl, rfl, hok_5, hfr, (Or.inr rfl)⟩ dX7_readNumber_34 (jj_le rfl) (jj_le rfl)

set_option maxHeartbeats 4000000 in
set_option maxRecDepth 100000 in
theorem tc_X7_readOperation_1 {l : Launch} (hl : l.stackTraces = false) (D : va_G) (cA : Nat → ClassId) (ak : (Nat → Nat) × (Nat → Nat)) {Kd : Nat → Nat} (h0 : Nat) (hk0 : Kd h0 = 18) {pl0 : va_W} (hok : tt_ok tt_tk cA Kd pl0) : jj_M l D cA ak yX7_readOperation (.code yX7_readOperation cX7_readOperation 2 (some .boolean)) 6 127 0 0 ([] ++ pl0) [.ref h0] (tt_O (fun rx pl1 r => rx = [] ∧ tt_ok tt_tk cA Kd pl1 ∧ tt_fr Kd [(10, 3), (10, 4), (10, 5), (10, 6), (18, 3), (18, 4), (18, 5)] pl0 pl1 ∧ ((r = some (.int 0)) ∨ (r = some (.int 1))))) (tt_OX (fun _ _ _ => False)) := by
  refine jj_start hl (by decide) jw_735 (jj_le rfl) ?_
  intro p e s m args below meth c A hargs hA C hex hmn
  have hfr := tt_fr.refl (K := Kd) (WS := [(10, 3), (10, 4), (10, 5), (10, 6), (18, 3), (18, 4), (18, 5)]) pl0
  refine jj_aload_n C dX7_readOperation_0 rfl ?_
  refine jj_aload_n C dX7_readOperation_1 rfl ?_
  obtain ⟨qc, gs, hqc⟩ := tt_recv (cx := []) hok hk0 (by decide) rfl
  refine tt_callV (rest := [.ref h0]) C (tc_X7_operationOfWord_1 hl D cA ak h0 hk0 hok) [] [] rfl rfl (by decide) (by decide) (by decide) qc hqc rfl rfl jw_737 jw_748 jw_749 jw_736 jw_738 jn_X7_operationOfWord rfl (jj_le rfl) (jj_le rfl) (jj_le rfl) (jj_le rfl) (jj_le rfl) dX7_readOperation_2 rfl (fun _ _ _ hX => hX.elim) (fun rx pl_1 r O_4 => ?_)
  obtain ⟨rfl, hok_2, hr_3, hR_6⟩ := O_4
  replace hfr := hfr.trans (hr_3.sub (by decide))
  obtain ⟨x_7, lx_7, ux_7, rfl⟩ := hR_6
  refine tt_put C hok_2 jk_8 3 (by decide) jw_751 (t := (0, (-2147483648), 2147483647)) hk0 (by decide) rfl rfl rfl (tt_ia x_7) rfl rfl dX7_readOperation_5 (fun pl_8 hok_9 tr hn => ?_)
  have hf_10 := hn
  replace hfr := hfr.put hk0 tr (by decide)
  refine jj_aload_n C dX7_readOperation_8 rfl ?_
  refine tt_getF C hok_9 jk_8 3 (by decide) jw_751 (t := (0, (-2147483648), 2147483647)) hk0 (by decide) rfl rfl hf_10 dX7_readOperation_9 ?_
  refine jj_iconst (v := (-1)) C dX7_readOperation_12 (by decide) ?_
  refine jj_icmp_ne (tgt := 18) C dX7_readOperation_13 (by decide) (fun c_11 => ?_) (fun c_11 => ?_)
  · have z_c_11 := jc_neq (a := (x_7).toInt) (b := (-1)) c_11 rfl (by decide)
    refine jj_aload_n C dX7_readOperation_18 rfl ?_
    refine tt_getF C hok_9 jk_8 3 (by decide) jw_751 (t := (0, (-2147483648), 2147483647)) hk0 (by decide) rfl rfl hf_10 dX7_readOperation_19 ?_
    refine tt_callS (rest := []) C (tc_X7_numbersOf_1 hl D cA ak x_7 (by omega) (by omega) hok_9) [] [] rfl rfl (by decide) (by decide) (by decide) jw_752 jw_754 jw_736 jw_753 jn_X7_numbersOf rfl (jj_le rfl) (jj_le rfl) (jj_le rfl) (jj_le rfl) (jj_le rfl) dX7_readOperation_22 rfl (fun _ _ _ hX => hX.elim) (fun rx pl_12 r O_15 => ?_)
    obtain ⟨rfl, hok_13, hr_14, hR_17⟩ := O_15
    replace hf_10 := hr_14.at hk0 (by decide) (by decide) hf_10
    replace hfr := hfr.trans (hr_14.sub (by decide))
    rcases hR_17 with ⟨l_18, u_19, rfl⟩ | ⟨l_20, u_21, rfl⟩ | ⟨l_22, u_23, rfl⟩
    · refine jj_istore_n C dX7_readOperation_25 (by decide) rfl ?_
      refine jj_iload_n C dX7_readOperation_26 rfl ?_
      refine jj_if_leF (tgt := 50) C dX7_readOperation_27 (by decide) (by decide) ?_
      refine jj_aload_n C dX7_readOperation_30 rfl ?_
      obtain ⟨qc, gs, hqc⟩ := tt_recv (cx := []) hok_13 hk0 (by decide) rfl
      refine tt_callV (rest := []) C (tc_X7_readNumber_1 hl D cA ak h0 hk0 hok_13) [] [] rfl rfl (by decide) (by decide) (by decide) qc hqc rfl rfl jw_756 jw_761 jw_762 jw_736 jw_757 jn_X7_readNumber rfl (jj_le rfl) (jj_le rfl) (jj_le rfl) (jj_le rfl) (jj_le rfl) dX7_readOperation_31 rfl (fun _ _ _ hX => hX.elim) (fun rx pl_24 r O_27 => ?_)
      obtain ⟨rfl, hok_25, hr_26, hR_29⟩ := O_27
      replace hf_10 := hr_26.at hk0 (by decide) (by decide) hf_10
      replace hfr := hfr.trans (hr_26.sub (by decide))
      rcases hR_29 with rfl | rfl
      · refine jj_if_neF (tgt := 39) C dX7_readOperation_34 (by decide) (by decide) ?_
        refine jj_iconst (v := 0) C dX7_readOperation_37 (by decide) ?_
        exact jj_zret C rfl ⟨[], pl_24, rfl, rfl, hok_25, hfr, (Or.inl rfl)⟩ dX7_readOperation_38 (jj_le rfl) (jj_le rfl)
      · refine jj_if_neT (tgt := 39) C dX7_readOperation_34 (by decide) (by decide) ?_
        refine jj_aload_n C dX7_readOperation_39 rfl ?_
        refine jj_aload_n C dX7_readOperation_40 rfl ?_
        refine tt_get C hok_25 jk_8 0 (by decide) jw_739 (t := (2, 10, 0)) hk0 (by decide) rfl rfl dX7_readOperation_41 (fun v_30 hv_30 hf_31 => ?_)
        obtain ⟨a_32, rfl, ka_32⟩ := tt_vr hv_30
        refine tt_get C hok_25 jk_10 6 (by decide) jw_760 (t := (0, (-2147483648), 2147483647)) ka_32 (by decide) rfl rfl dX7_readOperation_44 (fun v_33 hv_33 hf_34 => ?_)
        obtain ⟨x_35, rfl, lx_35, ux_35⟩ := tt_vi hv_33
        refine tt_put C hok_25 jk_8 4 (by decide) jw_764 (t := (0, (-2147483648), 2147483647)) hk0 (by decide) rfl rfl rfl (tt_ia x_35) rfl rfl dX7_readOperation_47 (fun pl_36 hok_37 tr hn => ?_)
        replace hf_10 := tr _ _ _ (Or.inr (by decide)) hf_10
        replace hf_31 := tr _ _ _ (Or.inr (by decide)) hf_31
        replace hf_34 := tr _ _ _ (Or.inl (tt_ne ka_32 hk0 (by decide))) hf_34
        have hf_38 := hn
        replace hfr := hfr.put hk0 tr (by decide)
        refine jj_iload_n C dX7_readOperation_50 rfl ?_
        refine jj_iconst (v := 1) C dX7_readOperation_51 (by decide) ?_
        refine jj_icmp_leF (tgt := 75) C dX7_readOperation_52 (by decide) (by decide) ?_
        refine jj_aload_n C dX7_readOperation_55 rfl ?_
        obtain ⟨qc, gs, hqc⟩ := tt_recv (cx := []) hok_37 hk0 (by decide) rfl
        refine tt_callV (rest := []) C (tc_X7_readNumber_1 hl D cA ak h0 hk0 hok_37) [] [] rfl rfl (by decide) (by decide) (by decide) qc hqc rfl rfl jw_756 jw_761 jw_762 jw_736 jw_757 jn_X7_readNumber rfl (jj_le rfl) (jj_le rfl) (jj_le rfl) (jj_le rfl) (jj_le rfl) dX7_readOperation_56 rfl (fun _ _ _ hX => hX.elim) (fun rx pl_39 r O_42 => ?_)
        obtain ⟨rfl, hok_40, hr_41, hR_44⟩ := O_42
        replace hf_10 := hr_41.at hk0 (by decide) (by decide) hf_10
        replace hf_31 := hr_41.at hk0 (by decide) (by decide) hf_31
        replace hf_38 := hr_41.at hk0 (by decide) (by decide) hf_38
        replace hfr := hfr.trans (hr_41.sub (by decide))
        rcases hR_44 with rfl | rfl
        · refine jj_if_neF (tgt := 64) C dX7_readOperation_59 (by decide) (by decide) ?_
          refine jj_iconst (v := 0) C dX7_readOperation_62 (by decide) ?_
          exact jj_zret C rfl ⟨[], pl_39, rfl, rfl, hok_40, hfr, (Or.inl rfl)⟩ dX7_readOperation_63 (jj_le rfl) (jj_le rfl)
        · refine jj_if_neT (tgt := 64) C dX7_readOperation_59 (by decide) (by decide) ?_
          refine jj_aload_n C dX7_readOperation_64 rfl ?_
          refine jj_aload_n C dX7_readOperation_65 rfl ?_
          refine tt_getF C hok_40 jk_8 0 (by decide) jw_739 (t := (2, 10, 0)) hk0 (by decide) rfl rfl hf_31 dX7_readOperation_66 ?_
          refine tt_get C hok_40 jk_10 6 (by decide) jw_760 (t := (0, (-2147483648), 2147483647)) ka_32 (by decide) rfl rfl dX7_readOperation_69 (fun v_45 hv_45 hf_46 => ?_)
          obtain ⟨x_47, rfl, lx_47, ux_47⟩ := tt_vi hv_45
          refine tt_put C hok_40 jk_8 5 (by decide) jw_765 (t := (0, (-2147483648), 2147483647)) hk0 (by decide) rfl rfl rfl (tt_ia x_47) rfl rfl dX7_readOperation_72 (fun pl_48 hok_49 tr hn => ?_)
          replace hf_10 := tr _ _ _ (Or.inr (by decide)) hf_10
          replace hf_31 := tr _ _ _ (Or.inr (by decide)) hf_31
          replace hf_38 := tr _ _ _ (Or.inr (by decide)) hf_38
          replace hf_46 := tr _ _ _ (Or.inl (tt_ne ka_32 hk0 (by decide))) hf_46
          have hf_50 := hn
          replace hfr := hfr.put hk0 tr (by decide)
          refine jj_aload_n C dX7_readOperation_75 rfl ?_
          refine tt_getF C hok_49 jk_8 0 (by decide) jw_739 (t := (2, 10, 0)) hk0 (by decide) rfl rfl hf_31 dX7_readOperation_76 ?_
          obtain ⟨qc, gs, hqc⟩ := tt_recv (cx := []) hok_49 ka_32 (by decide) rfl
          refine tt_callV (rest := []) C (tc_X9_advance_1 hl D cA ak a_32 ka_32 hok_49) [] [] rfl rfl (by decide) (by decide) (by decide) qc hqc rfl rfl jw_758 jw_577 jw_578 jw_42 jw_565 jn_X9_advance rfl (jj_le rfl) (jj_le rfl) (jj_le rfl) (jj_le rfl) (jj_le rfl) dX7_readOperation_79 rfl (fun _ _ _ hX => hX.elim) (fun rx pl_51 r O_54 => ?_)
          obtain ⟨rfl, hok_52, hr_53, hR_56⟩ := O_54
          replace hf_10 := hr_53.at hk0 (by decide) (by decide) hf_10
          replace hf_31 := hr_53.at hk0 (by decide) (by decide) hf_31
          replace hf_38 := hr_53.at hk0 (by decide) (by decide) hf_38
          replace hf_50 := hr_53.at hk0 (by decide) (by decide) hf_50
          replace hfr := hfr.trans (hr_53.sub (by decide))
          obtain rfl := hR_56
          refine jj_aload_n C dX7_readOperation_82 rfl ?_
          refine tt_getF C hok_52 jk_8 0 (by decide) jw_739 (t := (2, 10, 0)) hk0 (by decide) rfl rfl hf_31 dX7_readOperation_83 ?_
          refine tt_get C hok_52 jk_10 5 (by decide) jw_759 (t := (0, (-2147483648), 2147483647)) ka_32 (by decide) rfl rfl dX7_readOperation_86 (fun v_57 hv_57 hf_58 => ?_)
          obtain ⟨x_59, rfl, lx_59, ux_59⟩ := tt_vi hv_57
          refine jj_iconst (v := 3) C dX7_readOperation_89 (by decide) ?_
          refine jj_icmp_ne (tgt := 97) C dX7_readOperation_90 (by decide) (fun c_60 => ?_) (fun c_60 => ?_)
          · have z_c_60 := jc_neq (a := (x_59).toInt) (b := (3)) c_60 rfl (by decide)
            refine jj_iconst (v := 0) C dX7_readOperation_97 (by decide) ?_
            exact jj_zret C rfl ⟨[], pl_51, rfl, rfl, hok_52, hfr, (Or.inl rfl)⟩ dX7_readOperation_98 (jj_le rfl) (jj_le rfl)
          · have z_c_60 := jc_eq (a := (x_59).toInt) (b := (3)) c_60 rfl (by decide)
            refine jj_iconst (v := 1) C dX7_readOperation_93 (by decide) ?_
            refine jj_goto (tgt := 98) C dX7_readOperation_94 (by decide) ?_
            exact jj_zret C rfl ⟨[], pl_51, rfl, rfl, hok_52, hfr, (Or.inr rfl)⟩ dX7_readOperation_98 (jj_le rfl) (jj_le rfl)
    · refine jj_istore_n C dX7_readOperation_25 (by decide) rfl ?_
      refine jj_iload_n C dX7_readOperation_26 rfl ?_
      refine jj_if_leF (tgt := 50) C dX7_readOperation_27 (by decide) (by decide) ?_
      refine jj_aload_n C dX7_readOperation_30 rfl ?_
      obtain ⟨qc, gs, hqc⟩ := tt_recv (cx := []) hok_13 hk0 (by decide) rfl
      refine tt_callV (rest := []) C (tc_X7_readNumber_1 hl D cA ak h0 hk0 hok_13) [] [] rfl rfl (by decide) (by decide) (by decide) qc hqc rfl rfl jw_756 jw_761 jw_762 jw_736 jw_757 jn_X7_readNumber rfl (jj_le rfl) (jj_le rfl) (jj_le rfl) (jj_le rfl) (jj_le rfl) dX7_readOperation_31 rfl (fun _ _ _ hX => hX.elim) (fun rx pl_61 r O_64 => ?_)
      obtain ⟨rfl, hok_62, hr_63, hR_66⟩ := O_64
      replace hf_10 := hr_63.at hk0 (by decide) (by decide) hf_10
      replace hfr := hfr.trans (hr_63.sub (by decide))
      rcases hR_66 with rfl | rfl
      · refine jj_if_neF (tgt := 39) C dX7_readOperation_34 (by decide) (by decide) ?_
        refine jj_iconst (v := 0) C dX7_readOperation_37 (by decide) ?_
        exact jj_zret C rfl ⟨[], pl_61, rfl, rfl, hok_62, hfr, (Or.inl rfl)⟩ dX7_readOperation_38 (jj_le rfl) (jj_le rfl)
      · refine jj_if_neT (tgt := 39) C dX7_readOperation_34 (by decide) (by decide) ?_
        refine jj_aload_n C dX7_readOperation_39 rfl ?_
        refine jj_aload_n C dX7_readOperation_40 rfl ?_
        refine tt_get C hok_62 jk_8 0 (by decide) jw_739 (t := (2, 10, 0)) hk0 (by decide) rfl rfl dX7_readOperation_41 (fun v_67 hv_67 hf_68 => ?_)
        obtain ⟨a_69, rfl, ka_69⟩ := tt_vr hv_67
        refine tt_get C hok_62 jk_10 6 (by decide) jw_760 (t := (0, (-2147483648), 2147483647)) ka_69 (by decide) rfl rfl dX7_readOperation_44 (fun v_70 hv_70 hf_71 => ?_)
        obtain ⟨x_72, rfl, lx_72, ux_72⟩ := tt_vi hv_70
        refine tt_put C hok_62 jk_8 4 (by decide) jw_764 (t := (0, (-2147483648), 2147483647)) hk0 (by decide) rfl rfl rfl (tt_ia x_72) rfl rfl dX7_readOperation_47 (fun pl_73 hok_74 tr hn => ?_)
        replace hf_10 := tr _ _ _ (Or.inr (by decide)) hf_10
        replace hf_68 := tr _ _ _ (Or.inr (by decide)) hf_68
        replace hf_71 := tr _ _ _ (Or.inl (tt_ne ka_69 hk0 (by decide))) hf_71
        have hf_75 := hn
        replace hfr := hfr.put hk0 tr (by decide)
        refine jj_iload_n C dX7_readOperation_50 rfl ?_
        refine jj_iconst (v := 1) C dX7_readOperation_51 (by decide) ?_
        refine jj_icmp_leT (tgt := 75) C dX7_readOperation_52 (by decide) (by decide) ?_
        refine jj_aload_n C dX7_readOperation_75 rfl ?_
        refine tt_getF C hok_74 jk_8 0 (by decide) jw_739 (t := (2, 10, 0)) hk0 (by decide) rfl rfl hf_68 dX7_readOperation_76 ?_
        obtain ⟨qc, gs, hqc⟩ := tt_recv (cx := []) hok_74 ka_69 (by decide) rfl
        refine tt_callV (rest := []) C (tc_X9_advance_1 hl D cA ak a_69 ka_69 hok_74) [] [] rfl rfl (by decide) (by decide) (by decide) qc hqc rfl rfl jw_758 jw_577 jw_578 jw_42 jw_565 jn_X9_advance rfl (jj_le rfl) (jj_le rfl) (jj_le rfl) (jj_le rfl) (jj_le rfl) dX7_readOperation_79 rfl (fun _ _ _ hX => hX.elim) (fun rx pl_76 r O_79 => ?_)
        obtain ⟨rfl, hok_77, hr_78, hR_81⟩ := O_79
        replace hf_10 := hr_78.at hk0 (by decide) (by decide) hf_10
        replace hf_68 := hr_78.at hk0 (by decide) (by decide) hf_68
        replace hf_75 := hr_78.at hk0 (by decide) (by decide) hf_75
        replace hfr := hfr.trans (hr_78.sub (by decide))
        obtain rfl := hR_81
        refine jj_aload_n C dX7_readOperation_82 rfl ?_
        refine tt_getF C hok_77 jk_8 0 (by decide) jw_739 (t := (2, 10, 0)) hk0 (by decide) rfl rfl hf_68 dX7_readOperation_83 ?_
        refine tt_get C hok_77 jk_10 5 (by decide) jw_759 (t := (0, (-2147483648), 2147483647)) ka_69 (by decide) rfl rfl dX7_readOperation_86 (fun v_82 hv_82 hf_83 => ?_)
        obtain ⟨x_84, rfl, lx_84, ux_84⟩ := tt_vi hv_82
        refine jj_iconst (v := 3) C dX7_readOperation_89 (by decide) ?_
        refine jj_icmp_ne (tgt := 97) C dX7_readOperation_90 (by decide) (fun c_85 => ?_) (fun c_85 => ?_)
        · have z_c_85 := jc_neq (a := (x_84).toInt) (b := (3)) c_85 rfl (by decide)
          refine jj_iconst (v := 0) C dX7_readOperation_97 (by decide) ?_
          exact jj_zret C rfl ⟨[], pl_76, rfl, rfl, hok_77, hfr, (Or.inl rfl)⟩ dX7_readOperation_98 (jj_le rfl) (jj_le rfl)
        · have z_c_85 := jc_eq (a := (x_84).toInt) (b := (3)) c_85 rfl (by decide)
          refine jj_iconst (v := 1) C dX7_readOperation_93 (by decide) ?_
          refine jj_goto (tgt := 98) C dX7_readOperation_94 (by decide) ?_
          exact jj_zret C rfl ⟨[], pl_76, rfl, rfl, hok_77, hfr, (Or.inr rfl)⟩ dX7_readOperation_98 (jj_le rfl) (jj_le rfl)
    · refine jj_istore_n C dX7_readOperation_25 (by decide) rfl ?_
      refine jj_iload_n C dX7_readOperation_26 rfl ?_
      refine jj_if_leT (tgt := 50) C dX7_readOperation_27 (by decide) (by decide) ?_
      refine jj_iload_n C dX7_readOperation_50 rfl ?_
      refine jj_iconst (v := 1) C dX7_readOperation_51 (by decide) ?_
      refine jj_icmp_leT (tgt := 75) C dX7_readOperation_52 (by decide) (by decide) ?_
      refine jj_aload_n C dX7_readOperation_75 rfl ?_
      refine tt_get C hok_13 jk_8 0 (by decide) jw_739 (t := (2, 10, 0)) hk0 (by decide) rfl rfl dX7_readOperation_76 (fun v_86 hv_86 hf_87 => ?_)
      obtain ⟨a_88, rfl, ka_88⟩ := tt_vr hv_86
      obtain ⟨qc, gs, hqc⟩ := tt_recv (cx := []) hok_13 ka_88 (by decide) rfl
      refine tt_callV (rest := []) C (tc_X9_advance_1 hl D cA ak a_88 ka_88 hok_13) [] [] rfl rfl (by decide) (by decide) (by decide) qc hqc rfl rfl jw_758 jw_577 jw_578 jw_42 jw_565 jn_X9_advance rfl (jj_le rfl) (jj_le rfl) (jj_le rfl) (jj_le rfl) (jj_le rfl) dX7_readOperation_79 rfl (fun _ _ _ hX => hX.elim) (fun rx pl_89 r O_92 => ?_)
      obtain ⟨rfl, hok_90, hr_91, hR_94⟩ := O_92
      replace hf_10 := hr_91.at hk0 (by decide) (by decide) hf_10
      replace hf_87 := hr_91.at hk0 (by decide) (by decide) hf_87
      replace hfr := hfr.trans (hr_91.sub (by decide))
      obtain rfl := hR_94
      refine jj_aload_n C dX7_readOperation_82 rfl ?_
      refine tt_getF C hok_90 jk_8 0 (by decide) jw_739 (t := (2, 10, 0)) hk0 (by decide) rfl rfl hf_87 dX7_readOperation_83 ?_
      refine tt_get C hok_90 jk_10 5 (by decide) jw_759 (t := (0, (-2147483648), 2147483647)) ka_88 (by decide) rfl rfl dX7_readOperation_86 (fun v_95 hv_95 hf_96 => ?_)
      obtain ⟨x_97, rfl, lx_97, ux_97⟩ := tt_vi hv_95
      refine jj_iconst (v := 3) C dX7_readOperation_89 (by decide) ?_
      refine jj_icmp_ne (tgt := 97) C dX7_readOperation_90 (by decide) (fun c_98 => ?_) (fun c_98 => ?_)
      · have z_c_98 := jc_neq (a := (x_97).toInt) (b := (3)) c_98 rfl (by decide)
        refine jj_iconst (v := 0) C dX7_readOperation_97 (by decide) ?_
        exact jj_zret C rfl ⟨[], pl_89, rfl, rfl, hok_90, hfr, (Or.inl rfl)⟩ dX7_readOperation_98 (jj_le rfl) (jj_le rfl)
      · have z_c_98 := jc_eq (a := (x_97).toInt) (b := (3)) c_98 rfl (by decide)
        refine jj_iconst (v := 1) C dX7_readOperation_93 (by decide) ?_
        refine jj_goto (tgt := 98) C dX7_readOperation_94 (by decide) ?_
        exact jj_zret C rfl ⟨[], pl_89, rfl, rfl, hok_90, hfr, (Or.inr rfl)⟩ dX7_readOperation_98 (jj_le rfl) (jj_le rfl)
  · have z_c_11 := jc_eq (a := (x_7).toInt) (b := (-1)) c_11 rfl (by decide)
    refine jj_iconst (v := 0) C dX7_readOperation_16 (by decide) ?_
    exact jj_zret C rfl ⟨[], pl_8, rfl, rfl, hok_9, hfr, (Or.inl rfl)⟩ dX7_readOperation_17 (jj_le rfl) (jj_le rfl)

set_option maxHeartbeats 4000000 in
set_option maxRecDepth 100000 in
theorem tc_X7_fault_1 {l : Launch} (hl : l.stackTraces = false) (D : va_G) (cA : Nat → ClassId) (ak : (Nat → Nat) × (Nat → Nat)) {Kd : Nat → Nat} (h0 : Nat) (hk0 : Kd h0 = 18) {pl0 : va_W} (hok : tt_ok tt_tk cA Kd pl0) : jj_M l D cA ak yX7_fault (.code yX7_fault cX7_fault 1 (some .int)) 2 46 0 0 ([] ++ pl0) [.ref h0] (tt_O (fun rx pl1 r => rx = [] ∧ tt_ok tt_tk cA Kd pl1 ∧ tt_fr Kd [] pl0 pl1 ∧ ((r = some (.int 1)) ∨ (r = some (.int 2)) ∨ (r = some (.int 0)) ∨ (r = some (.int 3))))) (tt_OX (fun _ _ _ => False)) := by
  refine jj_start hl (by decide) jw_772 (jj_le rfl) ?_
  intro p e s m args below meth c A hargs hA C hex hmn
  have hfr := tt_fr.refl (K := Kd) (WS := []) pl0
  refine jj_aload_n C dX7_fault_0 rfl ?_
  refine tt_get C hok jk_8 3 (by decide) jw_751 (t := (0, (-2147483648), 2147483647)) hk0 (by decide) rfl rfl dX7_fault_1 (fun v_1 hv_1 hf_2 => ?_)
  obtain ⟨x_3, rfl, lx_3, ux_3⟩ := tt_vi hv_1
  rcases jj_em (x_3 = 0) with c_4 | c_4
  · refine jj_tableIn (tgt := 44) C dX7_fault_4 (by rw [c_4]; decide) (by rw [c_4]; decide) (by rw [c_4]; rfl) (by decide) ?_
    refine jj_aload_n C dX7_fault_44 rfl ?_
    refine tt_get C hok jk_8 1 (by decide) jw_773 (t := (2, 1, 0)) hk0 (by decide) rfl rfl dX7_fault_45 (fun v_5 hv_5 hf_6 => ?_)
    obtain ⟨a_7, rfl, ka_7⟩ := tt_vr hv_5
    refine jj_aload_n C dX7_fault_48 rfl ?_
    refine tt_get C hok jk_8 4 (by decide) jw_764 (t := (0, (-2147483648), 2147483647)) hk0 (by decide) rfl rfl dX7_fault_49 (fun v_8 hv_8 hf_9 => ?_)
    obtain ⟨x_10, rfl, lx_10, ux_10⟩ := tt_vi hv_8
    refine jj_aload_n C dX7_fault_52 rfl ?_
    refine tt_get C hok jk_8 5 (by decide) jw_765 (t := (0, (-2147483648), 2147483647)) hk0 (by decide) rfl rfl dX7_fault_53 (fun v_11 hv_11 hf_12 => ?_)
    obtain ⟨x_13, rfl, lx_13, ux_13⟩ := tt_vi hv_11
    obtain ⟨qc, gs, hqc⟩ := tt_recv (cx := []) hok ka_7 (by decide) rfl
    refine tt_callV (rest := []) C (tc_X0_subscriptionFault_1 hl D cA ak a_7 x_10 x_13 ka_7 hok) [] [] rfl rfl (by decide) (by decide) (by decide) qc hqc rfl rfl jw_774 jw_504 jw_505 jw_133 jw_502 jn_X0_subscriptionFault rfl (jj_le rfl) (jj_le rfl) (jj_le rfl) (jj_le rfl) (jj_le rfl) dX7_fault_56 rfl (fun _ _ _ hX => hX.elim) (fun rx pl_14 r O_17 => ?_)
    obtain ⟨rfl, hok_15, hr_16, hR_19⟩ := O_17
    replace hf_2 := hr_16.at hk0 (by decide) (by decide) hf_2
    replace hf_6 := hr_16.at hk0 (by decide) (by decide) hf_6
    replace hf_9 := hr_16.at hk0 (by decide) (by decide) hf_9
    replace hf_12 := hr_16.at hk0 (by decide) (by decide) hf_12
    replace hfr := hfr.trans (hr_16.sub (by decide))
    rcases hR_19 with rfl | ⟨l_20, u_21, rfl⟩ | ⟨l_22, u_23, l_24, u_25, rfl⟩ | ⟨l_26, u_27, l_28, u_29, rfl⟩
    · exact jj_iret C ⟨[], pl_14, rfl, rfl, hok_15, hfr, (Or.inl rfl)⟩ dX7_fault_59 (jj_le rfl) (jj_le rfl)
    · exact jj_iret C ⟨[], pl_14, rfl, rfl, hok_15, hfr, (Or.inr (Or.inl rfl))⟩ dX7_fault_59 (jj_le rfl) (jj_le rfl)
    · exact jj_iret C ⟨[], pl_14, rfl, rfl, hok_15, hfr, (Or.inr (Or.inr (Or.inl rfl)))⟩ dX7_fault_59 (jj_le rfl) (jj_le rfl)
    · exact jj_iret C ⟨[], pl_14, rfl, rfl, hok_15, hfr, (Or.inr (Or.inr (Or.inr rfl)))⟩ dX7_fault_59 (jj_le rfl) (jj_le rfl)
  rcases jj_em (x_3 = 1) with c_30 | c_30
  · refine jj_tableIn (tgt := 60) C dX7_fault_4 (by rw [c_30]; decide) (by rw [c_30]; decide) (by rw [c_30]; rfl) (by decide) ?_
    refine jj_aload_n C dX7_fault_60 rfl ?_
    refine tt_get C hok jk_8 1 (by decide) jw_773 (t := (2, 1, 0)) hk0 (by decide) rfl rfl dX7_fault_61 (fun v_31 hv_31 hf_32 => ?_)
    obtain ⟨a_33, rfl, ka_33⟩ := tt_vr hv_31
    refine jj_aload_n C dX7_fault_64 rfl ?_
    refine tt_get C hok jk_8 4 (by decide) jw_764 (t := (0, (-2147483648), 2147483647)) hk0 (by decide) rfl rfl dX7_fault_65 (fun v_34 hv_34 hf_35 => ?_)
    obtain ⟨x_36, rfl, lx_36, ux_36⟩ := tt_vi hv_34
    refine jj_aload_n C dX7_fault_68 rfl ?_
    refine tt_get C hok jk_8 5 (by decide) jw_765 (t := (0, (-2147483648), 2147483647)) hk0 (by decide) rfl rfl dX7_fault_69 (fun v_37 hv_37 hf_38 => ?_)
    obtain ⟨x_39, rfl, lx_39, ux_39⟩ := tt_vi hv_37
    obtain ⟨qc, gs, hqc⟩ := tt_recv (cx := []) hok ka_33 (by decide) rfl
    refine tt_callV (rest := []) C (tc_X0_redemptionFault_1 hl D cA ak a_33 x_36 x_39 ka_33 hok) [] [] rfl rfl (by decide) (by decide) (by decide) qc hqc rfl rfl jw_775 jw_458 jw_459 jw_133 jw_447 jn_X0_redemptionFault rfl (jj_le rfl) (jj_le rfl) (jj_le rfl) (jj_le rfl) (jj_le rfl) dX7_fault_72 rfl (fun _ _ _ hX => hX.elim) (fun rx pl_40 r O_43 => ?_)
    obtain ⟨rfl, hok_41, hr_42, hR_45⟩ := O_43
    replace hf_2 := hr_42.at hk0 (by decide) (by decide) hf_2
    replace hf_32 := hr_42.at hk0 (by decide) (by decide) hf_32
    replace hf_35 := hr_42.at hk0 (by decide) (by decide) hf_35
    replace hf_38 := hr_42.at hk0 (by decide) (by decide) hf_38
    replace hfr := hfr.trans (hr_42.sub (by decide))
    rcases hR_45 with rfl | ⟨l_46, u_47, rfl⟩ | ⟨l_48, u_49, l_50, u_51, rfl⟩ | ⟨l_52, u_53, l_54, u_55, rfl⟩
    · exact jj_iret C ⟨[], pl_40, rfl, rfl, hok_41, hfr, (Or.inl rfl)⟩ dX7_fault_75 (jj_le rfl) (jj_le rfl)
    · exact jj_iret C ⟨[], pl_40, rfl, rfl, hok_41, hfr, (Or.inr (Or.inl rfl))⟩ dX7_fault_75 (jj_le rfl) (jj_le rfl)
    · exact jj_iret C ⟨[], pl_40, rfl, rfl, hok_41, hfr, (Or.inr (Or.inr (Or.inl rfl)))⟩ dX7_fault_75 (jj_le rfl) (jj_le rfl)
    · exact jj_iret C ⟨[], pl_40, rfl, rfl, hok_41, hfr, (Or.inr (Or.inr (Or.inr rfl)))⟩ dX7_fault_75 (jj_le rfl) (jj_le rfl)
  rcases jj_em (x_3 = 2) with c_56 | c_56
  · refine jj_tableIn (tgt := 109) C dX7_fault_4 (by rw [c_56]; decide) (by rw [c_56]; decide) (by rw [c_56]; rfl) (by decide) ?_
    refine jj_iconst (v := 0) C dX7_fault_109 (by decide) ?_
    exact jj_iret C ⟨[], pl0, rfl, rfl, hok, hfr, (Or.inr (Or.inr (Or.inl rfl)))⟩ dX7_fault_110 (jj_le rfl) (jj_le rfl)
  rcases jj_em (x_3 = 3) with c_57 | c_57
  · refine jj_tableIn (tgt := 76) C dX7_fault_4 (by rw [c_57]; decide) (by rw [c_57]; decide) (by rw [c_57]; rfl) (by decide) ?_
    refine jj_aload_n C dX7_fault_76 rfl ?_
    refine tt_get C hok jk_8 1 (by decide) jw_773 (t := (2, 1, 0)) hk0 (by decide) rfl rfl dX7_fault_77 (fun v_58 hv_58 hf_59 => ?_)
    obtain ⟨a_60, rfl, ka_60⟩ := tt_vr hv_58
    refine jj_aload_n C dX7_fault_80 rfl ?_
    refine tt_get C hok jk_8 4 (by decide) jw_764 (t := (0, (-2147483648), 2147483647)) hk0 (by decide) rfl rfl dX7_fault_81 (fun v_61 hv_61 hf_62 => ?_)
    obtain ⟨x_63, rfl, lx_63, ux_63⟩ := tt_vi hv_61
    refine tt_callS (rest := []) C (tc_X2_earningFault_1 hl D cA ak a_60 x_63 ka_60 hok) [] [] rfl rfl (by decide) (by decide) (by decide) jw_776 jw_379 jw_175 jw_374 jn_X2_earningFault rfl (jj_le rfl) (jj_le rfl) (jj_le rfl) (jj_le rfl) (jj_le rfl) dX7_fault_84 rfl (fun _ _ _ hX => hX.elim) (fun rx pl_64 r O_67 => ?_)
    obtain ⟨rfl, hok_65, hr_66, hR_69⟩ := O_67
    replace hf_2 := hr_66.at hk0 (by decide) (by decide) hf_2
    replace hf_59 := hr_66.at hk0 (by decide) (by decide) hf_59
    replace hf_62 := hr_66.at hk0 (by decide) (by decide) hf_62
    replace hfr := hfr.trans (hr_66.sub (by decide))
    rcases hR_69 with rfl | ⟨l_70, u_71, rfl⟩ | ⟨l_72, u_73, rfl⟩
    · exact jj_iret C ⟨[], pl_64, rfl, rfl, hok_65, hfr, (Or.inr (Or.inl rfl))⟩ dX7_fault_87 (jj_le rfl) (jj_le rfl)
    · exact jj_iret C ⟨[], pl_64, rfl, rfl, hok_65, hfr, (Or.inr (Or.inr (Or.inl rfl)))⟩ dX7_fault_87 (jj_le rfl) (jj_le rfl)
    · exact jj_iret C ⟨[], pl_64, rfl, rfl, hok_65, hfr, (Or.inr (Or.inr (Or.inr rfl)))⟩ dX7_fault_87 (jj_le rfl) (jj_le rfl)
  rcases jj_em (x_3 = 4) with c_74 | c_74
  · refine jj_tableIn (tgt := 88) C dX7_fault_4 (by rw [c_74]; decide) (by rw [c_74]; decide) (by rw [c_74]; rfl) (by decide) ?_
    refine jj_aload_n C dX7_fault_88 rfl ?_
    refine tt_get C hok jk_8 1 (by decide) jw_773 (t := (2, 1, 0)) hk0 (by decide) rfl rfl dX7_fault_89 (fun v_75 hv_75 hf_76 => ?_)
    obtain ⟨a_77, rfl, ka_77⟩ := tt_vr hv_75
    refine jj_aload_n C dX7_fault_92 rfl ?_
    refine tt_get C hok jk_8 4 (by decide) jw_764 (t := (0, (-2147483648), 2147483647)) hk0 (by decide) rfl rfl dX7_fault_93 (fun v_78 hv_78 hf_79 => ?_)
    obtain ⟨x_80, rfl, lx_80, ux_80⟩ := tt_vi hv_78
    obtain ⟨x_81, ex_81⟩ : ∃ z : Int32, -x_80 = z := ⟨_, rfl⟩
    refine jj_ineg (v := x_81) C dX7_fault_96 ex_81 ?_
    refine tt_callS (rest := []) C (tc_X2_earningFault_1 hl D cA ak a_77 x_81 ka_77 hok) [] [] rfl rfl (by decide) (by decide) (by decide) jw_776 jw_379 jw_175 jw_374 jn_X2_earningFault rfl (jj_le rfl) (jj_le rfl) (jj_le rfl) (jj_le rfl) (jj_le rfl) dX7_fault_97 rfl (fun _ _ _ hX => hX.elim) (fun rx pl_82 r O_85 => ?_)
    obtain ⟨rfl, hok_83, hr_84, hR_87⟩ := O_85
    replace hf_2 := hr_84.at hk0 (by decide) (by decide) hf_2
    replace hf_76 := hr_84.at hk0 (by decide) (by decide) hf_76
    replace hf_79 := hr_84.at hk0 (by decide) (by decide) hf_79
    replace hfr := hfr.trans (hr_84.sub (by decide))
    rcases hR_87 with rfl | ⟨l_88, u_89, rfl⟩ | ⟨l_90, u_91, rfl⟩
    · exact jj_iret C ⟨[], pl_82, rfl, rfl, hok_83, hfr, (Or.inr (Or.inl rfl))⟩ dX7_fault_100 (jj_le rfl) (jj_le rfl)
    · exact jj_iret C ⟨[], pl_82, rfl, rfl, hok_83, hfr, (Or.inr (Or.inr (Or.inl rfl)))⟩ dX7_fault_100 (jj_le rfl) (jj_le rfl)
    · exact jj_iret C ⟨[], pl_82, rfl, rfl, hok_83, hfr, (Or.inr (Or.inr (Or.inr rfl)))⟩ dX7_fault_100 (jj_le rfl) (jj_le rfl)
  rcases jj_em (x_3 = 5) with c_92 | c_92
  · refine jj_tableIn (tgt := 101) C dX7_fault_4 (by rw [c_92]; decide) (by rw [c_92]; decide) (by rw [c_92]; rfl) (by decide) ?_
    refine jj_aload_n C dX7_fault_101 rfl ?_
    refine tt_get C hok jk_8 4 (by decide) jw_764 (t := (0, (-2147483648), 2147483647)) hk0 (by decide) rfl rfl dX7_fault_102 (fun v_93 hv_93 hf_94 => ?_)
    obtain ⟨x_95, rfl, lx_95, ux_95⟩ := tt_vi hv_93
    refine tt_callS (rest := []) C (tc_X2_passingFault_1 hl D cA ak x_95 hok) [] [] rfl rfl (by decide) (by decide) (by decide) jw_777 jw_419 jw_175 jw_418 jn_X2_passingFault rfl (jj_le rfl) (jj_le rfl) (jj_le rfl) (jj_le rfl) (jj_le rfl) dX7_fault_105 rfl (fun _ _ _ hX => hX.elim) (fun rx pl_96 r O_99 => ?_)
    obtain ⟨rfl, hok_97, hr_98, hR_101⟩ := O_99
    replace hf_2 := hr_98.at hk0 (by decide) (by decide) hf_2
    replace hf_94 := hr_98.at hk0 (by decide) (by decide) hf_94
    replace hfr := hfr.trans (hr_98.sub (by decide))
    rcases hR_101 with rfl | ⟨l_102, u_103, rfl⟩
    · exact jj_iret C ⟨[], pl_96, rfl, rfl, hok_97, hfr, (Or.inr (Or.inl rfl))⟩ dX7_fault_108 (jj_le rfl) (jj_le rfl)
    · exact jj_iret C ⟨[], pl_96, rfl, rfl, hok_97, hfr, (Or.inr (Or.inr (Or.inl rfl)))⟩ dX7_fault_108 (jj_le rfl) (jj_le rfl)
  refine jj_tableOut (tgt := 109) C dX7_fault_4 (by have zc_4 := lv_neT (a := 0) c_4 (by decide); have zc_30 := lv_neT (a := 1) c_30 (by decide); have zc_56 := lv_neT (a := 2) c_56 (by decide); have zc_57 := lv_neT (a := 3) c_57 (by decide); have zc_74 := lv_neT (a := 4) c_74 (by decide); have zc_92 := lv_neT (a := 5) c_92 (by decide); omega) (by decide) ?_
  refine jj_iconst (v := 0) C dX7_fault_109 (by decide) ?_
  exact jj_iret C ⟨[], pl0, rfl, rfl, hok, hfr, (Or.inr (Or.inr (Or.inl rfl)))⟩ dX7_fault_110 (jj_le rfl) (jj_le rfl)

