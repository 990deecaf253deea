set_option maxHeartbeats 4000000 in
set_option maxRecDepth 100000 in
theorem tc_X9_isWord_12 {l : Launch} (hl : l.stackTraces = false) (D : va_G) (cA : Nat → ClassId) (ak : (Nat → Nat) × (Nat → Nat)) {Kd : Nat → Nat} (h0 : Nat) (hk0 : Kd h0 = 10) {pl0 : va_W} (hok : tt_ok tt_tk cA Kd pl0) : jj_M l D cA ak yX9_isWord (.code yX9_isWord cX9_isWord 3 (some .boolean)) 4 85 0 0 ([] ++ pl0) [.ref h0, .ref (ak.1 11)] (tt_O (fun rx pl1 r => rx = [] ∧ tt_ok tt_tk cA Kd pl1 ∧ tt_fr Kd [] pl0 pl1 ∧ tt_fa Kd [] pl0 pl1 ∧ ((r = some (.int 0)) ∨ (r = some (.int 1))))) (tt_OX (fun _ _ _ => False)) := by
  refine jj_start hl (by decide) jw_ce1c1f12e9 (jj_le rfl) ?_
  intro p e s m args below meth c A hargs hA C hex hmn
  have hfr := tt_fr.refl (K := Kd) (WS := []) pl0
  have hfa := tt_fa.refl (K := Kd) (WA := []) pl0
  refine jj_aload_n C dX9_isWord_0 rfl ?_
  refine tt_get C hok jk_10 5 (by decide) jw_bde5c0d1a5 (t := (0, (-2147483648), 2147483647)) hk0 (by decide) rfl rfl dX9_isWord_1 (fun v_1 hv_1 hf_2 => ?_)
  obtain ⟨x_3, rfl, lx_3, ux_3⟩ := tt_vi hv_1
  refine jj_iconst (v := 1) C dX9_isWord_4 (by decide) ?_
  refine jj_icmp_ne (tgt := 24) C dX9_isWord_5 (by decide) (fun c_4 => ?_) (fun c_4 => ?_)
  · have z_c_4 := jc_neq (a := (x_3).toInt) (b := (1)) c_4 rfl (by decide)
    refine jj_iconst (v := 0) C dX9_isWord_24 (by decide) ?_
    exact jj_zret C rfl ⟨[], pl0, rfl, rfl, hok, hfr, hfa, (Or.inl rfl)⟩ dX9_isWord_25 (jj_le rfl) (jj_le rfl)
  · have z_c_4 := jc_eq (a := (x_3).toInt) (b := (1)) c_4 rfl (by decide)
    refine jj_aload_n C dX9_isWord_8 rfl ?_
    refine tt_get C hok jk_10 3 (by decide) jw_f99bd0ca2b (t := (0, 0, 400)) hk0 (by decide) rfl rfl dX9_isWord_9 (fun v_5 hv_5 hf_6 => ?_)
    obtain ⟨x_7, rfl, lx_7, ux_7⟩ := tt_vi hv_5
    refine jj_aload_n C dX9_isWord_12 rfl ?_
    refine tt_get C hok jk_10 4 (by decide) jw_66bda6962a (t := (0, 0, 400)) hk0 (by decide) rfl rfl dX9_isWord_13 (fun v_8 hv_8 hf_9 => ?_)
    obtain ⟨x_10, rfl, lx_10, ux_10⟩ := tt_vi hv_8
    obtain ⟨x_11, ex_11, vx_11⟩ := tt_isub (x := x_7) (y := x_10) (a := x_7.toInt) rfl (b := x_10.toInt) rfl (by omega) (by omega)
    refine jj_isub (v := x_11) C dX9_isWord_16 ex_11 ?_
    refine jj_aload_n C dX9_isWord_17 rfl ?_
    refine tt_call0Vs (rest := [.int x_11]) C (ct_J0_length_8abf5_12 hl D cA ak) 11 (by decide) rfl jw_f27063fded jw_b1ce304435 jw_d08f03a22e jw_4ea6285965 jw_bbc7045666 jn_J0_length_8abf5 rfl (jj_le rfl) (jj_le rfl) (jj_le rfl) (jj_le rfl) (jj_le rfl) dX9_isWord_18 rfl (fun w1 r O_12 => ?_)
    obtain ⟨-, rfl⟩ := O_12
    refine jj_icmp_eq (tgt := 26) C dX9_isWord_21 (by decide) (fun c_13 => ?_) (fun c_13 => ?_)
    · have z_c_13 := jc_eq (a := (x_11).toInt) (b := (11)) c_13 rfl (by decide)
      refine jj_iconst (v := 0) C dX9_isWord_26 (by decide) ?_
      refine jj_istore_n C dX9_isWord_27 (by decide) rfl ?_
      refine jj_iload_n C dX9_isWord_28 rfl ?_
      refine jj_aload_n C dX9_isWord_29 rfl ?_
      refine tt_call0Vs (rest := [.int 0]) C (ct_J0_length_8abf5_12 hl D cA ak) 11 (by decide) rfl jw_f27063fded jw_b1ce304435 jw_d08f03a22e jw_4ea6285965 jw_bbc7045666 jn_J0_length_8abf5 rfl (jj_le rfl) (jj_le rfl) (jj_le rfl) (jj_le rfl) (jj_le rfl) dX9_isWord_30 rfl (fun w1 r O_14 => ?_)
      obtain ⟨-, rfl⟩ := O_14
      refine jj_icmp_geF (tgt := 63) C dX9_isWord_33 (by decide) (by decide) ?_
      refine jj_aload_n C dX9_isWord_36 rfl ?_
      refine tt_get C hok jk_10 0 (by decide) jw_0664e1e086 (t := (2, 11, 0)) hk0 (by decide) rfl rfl dX9_isWord_37 (fun v_15 hv_15 hf_16 => ?_)
      obtain ⟨a_17, rfl, ka_17⟩ := tt_vr hv_15
      refine jj_aload_n C dX9_isWord_40 rfl ?_
      refine tt_getF C hok jk_10 4 (by decide) jw_66bda6962a (t := (0, 0, 400)) hk0 (by decide) rfl rfl hf_9 dX9_isWord_41 ?_
      refine jj_iload_n C dX9_isWord_44 rfl ?_
      obtain ⟨x_18, ex_18, vx_18⟩ := tt_iadd (x := x_10) (y := (0 : Int32)) (a := x_10.toInt) rfl (b := 0) (by decide) (by omega) (by omega)
      refine jj_iadd (v := x_18) C dX9_isWord_45 ex_18 ?_
      refine tt_cald C hok (t := (0, (-2147483648), 2147483647)) ka_17 (by decide) rfl (vp_in_iff.mpr ⟨by omega, by omega⟩) dX9_isWord_46 (fun v_19 hv_19 => ?_)
      refine jj_aload_n C dX9_isWord_47 rfl ?_
      refine jj_iload_n C dX9_isWord_48 rfl ?_
      refine tt_call0Vs (rest := [.int v_19]) C (ct_J0_charAt_5068e_65 hl D cA ak) 11 (by decide) rfl jw_076e8de8e0 jw_acb9174fef jw_675efe837b jw_4ea6285965 jw_391c0f56bd jn_J0_charAt_5068e rfl (jj_le rfl) (jj_le rfl) (jj_le rfl) (jj_le rfl) (jj_le rfl) dX9_isWord_49 rfl (fun w1 r O_20 => ?_)
      obtain ⟨-, rfl⟩ := O_20
      refine jj_icmp_eq (tgt := 57) C dX9_isWord_52 (by decide) (fun c_21 => ?_) (fun c_21 => ?_)
      · have z_c_21 := jc_eq (a := (v_19).toInt) (b := (99)) c_21 rfl (by decide)
        refine jj_iinc (v := 1) C dX9_isWord_57 rfl (by decide) (by decide) rfl ?_
        refine jj_goto (tgt := 28) C dX9_isWord_60 (by decide) ?_
        refine jj_iload_n C dX9_isWord_28 rfl ?_
        refine jj_aload_n C dX9_isWord_29 rfl ?_
        refine tt_call0Vs (rest := [.int 1]) C (ct_J0_length_8abf5_12 hl D cA ak) 11 (by decide) rfl jw_f27063fded jw_b1ce304435 jw_d08f03a22e jw_4ea6285965 jw_bbc7045666 jn_J0_length_8abf5 rfl (jj_le rfl) (jj_le rfl) (jj_le rfl) (jj_le rfl) (jj_le rfl) dX9_isWord_30 rfl (fun w1 r O_22 => ?_)
        obtain ⟨-, rfl⟩ := O_22
        refine jj_icmp_geF (tgt := 63) C dX9_isWord_33 (by decide) (by decide) ?_
        refine jj_aload_n C dX9_isWord_36 rfl ?_
        refine tt_getF C hok jk_10 0 (by decide) jw_0664e1e086 (t := (2, 11, 0)) hk0 (by decide) rfl rfl hf_16 dX9_isWord_37 ?_
        refine jj_aload_n C dX9_isWord_40 rfl ?_
        refine tt_getF C hok jk_10 4 (by decide) jw_66bda6962a (t := (0, 0, 400)) hk0 (by decide) rfl rfl hf_9 dX9_isWord_41 ?_
        refine jj_iload_n C dX9_isWord_44 rfl ?_
        obtain ⟨x_23, ex_23, vx_23⟩ := tt_iadd (x := x_10) (y := (1 : Int32)) (a := x_10.toInt) rfl (b := 1) (by decide) (by omega) (by omega)
        refine jj_iadd (v := x_23) C dX9_isWord_45 ex_23 ?_
        refine tt_cald C hok (t := (0, (-2147483648), 2147483647)) ka_17 (by decide) rfl (vp_in_iff.mpr ⟨by omega, by omega⟩) dX9_isWord_46 (fun v_24 hv_24 => ?_)
        refine jj_aload_n C dX9_isWord_47 rfl ?_
        refine jj_iload_n C dX9_isWord_48 rfl ?_
        refine tt_call0Vs (rest := [.int v_24]) C (ct_J0_charAt_5068e_66 hl D cA ak) 11 (by decide) rfl jw_076e8de8e0 jw_acb9174fef jw_675efe837b jw_4ea6285965 jw_391c0f56bd jn_J0_charAt_5068e rfl (jj_le rfl) (jj_le rfl) (jj_le rfl) (jj_le rfl) (jj_le rfl) dX9_isWord_49 rfl (fun w1 r O_25 => ?_)
        obtain ⟨-, rfl⟩ := O_25
        refine jj_icmp_eq (tgt := 57) C dX9_isWord_52 (by decide) (fun c_26 => ?_) (fun c_26 => ?_)
        · have z_c_26 := jc_eq (a := (v_24).toInt) (b := (114)) c_26 rfl (by decide)
          refine jj_iinc (v := 2) C dX9_isWord_57 rfl (by decide) (by decide) rfl ?_
          refine jj_goto (tgt := 28) C dX9_isWord_60 (by decide) ?_
          refine jj_iload_n C dX9_isWord_28 rfl ?_
          refine jj_aload_n C dX9_isWord_29 rfl ?_
          refine tt_call0Vs (rest := [.int 2]) C (ct_J0_length_8abf5_12 hl D cA ak) 11 (by decide) rfl jw_f27063fded jw_b1ce304435 jw_d08f03a22e jw_4ea6285965 jw_bbc7045666 jn_J0_length_8abf5 rfl (jj_le rfl) (jj_le rfl) (jj_le rfl) (jj_le rfl) (jj_le rfl) dX9_isWord_30 rfl (fun w1 r O_27 => ?_)
          obtain ⟨-, rfl⟩ := O_27
          refine jj_icmp_geF (tgt := 63) C dX9_isWord_33 (by decide) (by decide) ?_
          refine jj_aload_n C dX9_isWord_36 rfl ?_
          refine tt_getF C hok jk_10 0 (by decide) jw_0664e1e086 (t := (2, 11, 0)) hk0 (by decide) rfl rfl hf_16 dX9_isWord_37 ?_
          refine jj_aload_n C dX9_isWord_40 rfl ?_
          refine tt_getF C hok jk_10 4 (by decide) jw_66bda6962a (t := (0, 0, 400)) hk0 (by decide) rfl rfl hf_9 dX9_isWord_41 ?_
          refine jj_iload_n C dX9_isWord_44 rfl ?_
          obtain ⟨x_28, ex_28, vx_28⟩ := tt_iadd (x := x_10) (y := (2 : Int32)) (a := x_10.toInt) rfl (b := 2) (by decide) (by omega) (by omega)
          refine jj_iadd (v := x_28) C dX9_isWord_45 ex_28 ?_
          refine tt_cald C hok (t := (0, (-2147483648), 2147483647)) ka_17 (by decide) rfl (vp_in_iff.mpr ⟨by omega, by omega⟩) dX9_isWord_46 (fun v_29 hv_29 => ?_)
          refine jj_aload_n C dX9_isWord_47 rfl ?_
          refine jj_iload_n C dX9_isWord_48 rfl ?_
          refine tt_call0Vs (rest := [.int v_29]) C (ct_J0_charAt_5068e_67 hl D cA ak) 11 (by decide) rfl jw_076e8de8e0 jw_acb9174fef jw_675efe837b jw_4ea6285965 jw_391c0f56bd jn_J0_charAt_5068e rfl (jj_le rfl) (jj_le rfl) (jj_le rfl) (jj_le rfl) (jj_le rfl) dX9_isWord_49 rfl (fun w1 r O_30 => ?_)
          obtain ⟨-, rfl⟩ := O_30
          refine jj_icmp_eq (tgt := 57) C dX9_isWord_52 (by decide) (fun c_31 => ?_) (fun c_31 => ?_)
          · have z_c_31 := jc_eq (a := (v_29).toInt) (b := (121)) c_31 rfl (by decide)
            refine jj_iinc (v := 3) C dX9_isWord_57 rfl (by decide) (by decide) rfl ?_
            refine jj_goto (tgt := 28) C dX9_isWord_60 (by decide) ?_
            refine jj_iload_n C dX9_isWord_28 rfl ?_
            refine jj_aload_n C dX9_isWord_29 rfl ?_
            refine tt_call0Vs (rest := [.int 3]) C (ct_J0_length_8abf5_12 hl D cA ak) 11 (by decide) rfl jw_f27063fded jw_b1ce304435 jw_d08f03a22e jw_4ea6285965 jw_bbc7045666 jn_J0_length_8abf5 rfl (jj_le rfl) (jj_le rfl) (jj_le rfl) (jj_le rfl) (jj_le rfl) dX9_isWord_30 rfl (fun w1 r O_32 => ?_)
            obtain ⟨-, rfl⟩ := O_32
            refine jj_icmp_geF (tgt := 63) C dX9_isWord_33 (by decide) (by decide) ?_
            refine jj_aload_n C dX9_isWord_36 rfl ?_
            refine tt_getF C hok jk_10 0 (by decide) jw_0664e1e086 (t := (2, 11, 0)) hk0 (by decide) rfl rfl hf_16 dX9_isWord_37 ?_
            refine jj_aload_n C dX9_isWord_40 rfl ?_
            refine tt_getF C hok jk_10 4 (by decide) jw_66bda6962a (t := (0, 0, 400)) hk0 (by decide) rfl rfl hf_9 dX9_isWord_41 ?_
            refine jj_iload_n C dX9_isWord_44 rfl ?_
            obtain ⟨x_33, ex_33, vx_33⟩ := tt_iadd (x := x_10) (y := (3 : Int32)) (a := x_10.toInt) rfl (b := 3) (by decide) (by omega) (by omega)
            refine jj_iadd (v := x_33) C dX9_isWord_45 ex_33 ?_
            refine tt_cald C hok (t := (0, (-2147483648), 2147483647)) ka_17 (by decide) rfl (vp_in_iff.mpr ⟨by omega, by omega⟩) dX9_isWord_46 (fun v_34 hv_34 => ?_)
            refine jj_aload_n C dX9_isWord_47 rfl ?_
            refine jj_iload_n C dX9_isWord_48 rfl ?_
            refine tt_call0Vs (rest := [.int v_34]) C (ct_J0_charAt_5068e_68 hl D cA ak) 11 (by decide) rfl jw_076e8de8e0 jw_acb9174fef jw_675efe837b jw_4ea6285965 jw_391c0f56bd jn_J0_charAt_5068e rfl (jj_le rfl) (jj_le rfl) (jj_le rfl) (jj_le rfl) (jj_le rfl) dX9_isWord_49 rfl (fun w1 r O_35 => ?_)
            obtain ⟨-, rfl⟩ := O_35
            refine jj_icmp_eq (tgt := 57) C dX9_isWord_52 (by decide) (fun c_36 => ?_) (fun c_36 => ?_)
            · have z_c_36 := jc_eq (a := (v_34).toInt) (b := (115)) c_36 rfl (by decide)
              refine jj_iinc (v := 4) C dX9_isWord_57 rfl (by decide) (by decide) rfl ?_
              refine jj_goto (tgt := 28) C dX9_isWord_60 (by decide) ?_
              refine jj_iload_n C dX9_isWord_28 rfl ?_
              refine jj_aload_n C dX9_isWord_29 rfl ?_
              refine tt_call0Vs (rest := [.int 4]) C (ct_J0_length_8abf5_12 hl D cA ak) 11 (by decide) rfl jw_f27063fded jw_b1ce304435 jw_d08f03a22e jw_4ea6285965 jw_bbc7045666 jn_J0_length_8abf5 rfl (jj_le rfl) (jj_le rfl) (jj_le rfl) (jj_le rfl) (jj_le rfl) dX9_isWord_30 rfl (fun w1 r O_37 => ?_)
              obtain ⟨-, rfl⟩ := O_37
              refine jj_icmp_geF (tgt := 63) C dX9_isWord_33 (by decide) (by decide) ?_
              refine jj_aload_n C dX9_isWord_36 rfl ?_
              refine tt_getF C hok jk_10 0 (by decide) jw_0664e1e086 (t := (2, 11, 0)) hk0 (by decide) rfl rfl hf_16 dX9_isWord_37 ?_
              refine jj_aload_n C dX9_isWord_40 rfl ?_
              refine tt_getF C hok jk_10 4 (by decide) jw_66bda6962a (t := (0, 0, 400)) hk0 (by decide) rfl rfl hf_9 dX9_isWord_41 ?_
              refine jj_iload_n C dX9_isWord_44 rfl ?_
              obtain ⟨x_38, ex_38, vx_38⟩ := tt_iadd (x := x_10) (y := (4 : Int32)) (a := x_10.toInt) rfl (b := 4) (by decide) (by omega) (by omega)
              refine jj_iadd (v := x_38) C dX9_isWord_45 ex_38 ?_
              refine tt_cald C hok (t := (0, (-2147483648), 2147483647)) ka_17 (by decide) rfl (vp_in_iff.mpr ⟨by omega, by omega⟩) dX9_isWord_46 (fun v_39 hv_39 => ?_)
              refine jj_aload_n C dX9_isWord_47 rfl ?_
              refine jj_iload_n C dX9_isWord_48 rfl ?_
              refine tt_call0Vs (rest := [.int v_39]) C (ct_J0_charAt_5068e_69 hl D cA ak) 11 (by decide) rfl jw_076e8de8e0 jw_acb9174fef jw_675efe837b jw_4ea6285965 jw_391c0f56bd jn_J0_charAt_5068e rfl (jj_le rfl) (jj_le rfl) (jj_le rfl) (jj_le rfl) (jj_le rfl) dX9_isWord_49 rfl (fun w1 r O_40 => ?_)
              obtain ⟨-, rfl⟩ := O_40
              refine jj_icmp_eq (tgt := 57) C dX9_isWord_52 (by decide) (fun c_41 => ?_) (fun c_41 => ?_)
              · have z_c_41 := jc_eq (a := (v_39).toInt) (b := (116)) c_41 rfl (by decide)
                refine jj_iinc (v := 5) C dX9_isWord_57 rfl (by decide) (by decide) rfl ?_
                refine jj_goto (tgt := 28) C dX9_isWord_60 (by decide) ?_
                refine jj_iload_n C dX9_isWord_28 rfl ?_
                refine jj_aload_n C dX9_isWord_29 rfl ?_
                refine tt_call0Vs (rest := [.int 5]) C (ct_J0_length_8abf5_12 hl D cA ak) 11 (by decide) rfl jw_f27063fded jw_b1ce304435 jw_d08f03a22e jw_4ea6285965 jw_bbc7045666 jn_J0_length_8abf5 rfl (jj_le rfl) (jj_le rfl) (jj_le rfl) (jj_le rfl) (jj_le rfl) dX9_isWord_30 rfl (fun w1 r O_42 => ?_)
                obtain ⟨-, rfl⟩ := O_42
                refine jj_icmp_geF (tgt := 63) C dX9_isWord_33 (by decide) (by decide) ?_
                refine jj_aload_n C dX9_isWord_36 rfl ?_
                refine tt_getF C hok jk_10 0 (by decide) jw_0664e1e086 (t := (2, 11, 0)) hk0 (by decide) rfl rfl hf_16 dX9_isWord_37 ?_
                refine jj_aload_n C dX9_isWord_40 rfl ?_
                refine tt_getF C hok jk_10 4 (by decide) jw_66bda6962a (t := (0, 0, 400)) hk0 (by decide) rfl rfl hf_9 dX9_isWord_41 ?_
                refine jj_iload_n C dX9_isWord_44 rfl ?_
                obtain ⟨x_43, ex_43, vx_43⟩ := tt_iadd (x := x_10) (y := (5 : Int32)) (a := x_10.toInt) rfl (b := 5) (by decide) (by omega) (by omega)
                refine jj_iadd (v := x_43) C dX9_isWord_45 ex_43 ?_
                refine tt_cald C hok (t := (0, (-2147483648), 2147483647)) ka_17 (by decide) rfl (vp_in_iff.mpr ⟨by omega, by omega⟩) dX9_isWord_46 (fun v_44 hv_44 => ?_)
                refine jj_aload_n C dX9_isWord_47 rfl ?_
                refine jj_iload_n C dX9_isWord_48 rfl ?_
                refine tt_call0Vs (rest := [.int v_44]) C (ct_J0_charAt_5068e_70 hl D cA ak) 11 (by decide) rfl jw_076e8de8e0 jw_acb9174fef jw_675efe837b jw_4ea6285965 jw_391c0f56bd jn_J0_charAt_5068e rfl (jj_le rfl) (jj_le rfl) (jj_le rfl) (jj_le rfl) (jj_le rfl) dX9_isWord_49 rfl (fun w1 r O_45 => ?_)
                obtain ⟨-, rfl⟩ := O_45
                refine jj_icmp_eq (tgt := 57) C dX9_isWord_52 (by decide) (fun c_46 => ?_) (fun c_46 => ?_)
                · have z_c_46 := jc_eq (a := (v_44).toInt) (b := (97)) c_46 rfl (by decide)
                  refine jj_iinc (v := 6) C dX9_isWord_57 rfl (by decide) (by decide) rfl ?_
                  refine jj_goto (tgt := 28) C dX9_isWord_60 (by decide) ?_
                  refine jj_iload_n C dX9_isWord_28 rfl ?_
                  refine jj_aload_n C dX9_isWord_29 rfl ?_
                  refine tt_call0Vs (rest := [.int 6]) C (ct_J0_length_8abf5_12 hl D cA ak) 11 (by decide) rfl jw_f27063fded jw_b1ce304435 jw_d08f03a22e jw_4ea6285965 jw_bbc7045666 jn_J0_length_8abf5 rfl (jj_le rfl) (jj_le rfl) (jj_le rfl) (jj_le rfl) (jj_le rfl) dX9_isWord_30 rfl (fun w1 r O_47 => ?_)
                  obtain ⟨-, rfl⟩ := O_47
                  refine jj_icmp_geF (tgt := 63) C dX9_isWord_33 (by decide) (by decide) ?_
                  refine jj_aload_n C dX9_isWord_36 rfl ?_
                  refine tt_getF C hok jk_10 0 (by decide) jw_0664e1e086 (t := (2, 11, 0)) hk0 (by decide) rfl rfl hf_16 dX9_isWord_37 ?_
                  refine jj_aload_n C dX9_isWord_40 rfl ?_
                  refine tt_getF C hok jk_10 4 (by decide) jw_66bda6962a (t := (0, 0, 400)) hk0 (by decide) rfl rfl hf_9 dX9_isWord_41 ?_
                  refine jj_iload_n C dX9_isWord_44 rfl ?_
                  obtain ⟨x_48, ex_48, vx_48⟩ := tt_iadd (x := x_10) (y := (6 : Int32)) (a := x_10.toInt) rfl (b := 6) (by decide) (by omega) (by omega)
                  refine jj_iadd (v := x_48) C dX9_isWord_45 ex_48 ?_
                  refine tt_cald C hok (t := (0, (-2147483648), 2147483647)) ka_17 (by decide) rfl (vp_in_iff.mpr ⟨by omega, by omega⟩) dX9_isWord_46 (fun v_49 hv_49 => ?_)
                  refine jj_aload_n C dX9_isWord_47 rfl ?_
                  refine jj_iload_n C dX9_isWord_48 rfl ?_
                  refine tt_call0Vs (rest := [.int v_49]) C (ct_J0_charAt_5068e_71 hl D cA ak) 11 (by decide) rfl jw_076e8de8e0 jw_acb9174fef jw_675efe837b jw_4ea6285965 jw_391c0f56bd jn_J0_charAt_5068e rfl (jj_le rfl) (jj_le rfl) (jj_le rfl) (jj_le rfl) (jj_le rfl) dX9_isWord_49 rfl (fun w1 r O_50 => ?_)
                  obtain ⟨-, rfl⟩ := O_50
                  refine jj_icmp_eq (tgt := 57) C dX9_isWord_52 (by decide) (fun c_51 => ?_) (fun c_51 => ?_)
                  · have z_c_51 := jc_eq (a := (v_49).toInt) (b := (108)) c_51 rfl (by decide)
                    refine jj_iinc (v := 7) C dX9_isWord_57 rfl (by decide) (by decide) rfl ?_
                    refine jj_goto (tgt := 28) C dX9_isWord_60 (by decide) ?_
                    refine jj_iload_n C dX9_isWord_28 rfl ?_
                    refine jj_aload_n C dX9_isWord_29 rfl ?_
                    refine tt_call0Vs (rest := [.int 7]) C (ct_J0_length_8abf5_12 hl D cA ak) 11 (by decide) rfl jw_f27063fded jw_b1ce304435 jw_d08f03a22e jw_4ea6285965 jw_bbc7045666 jn_J0_length_8abf5 rfl (jj_le rfl) (jj_le rfl) (jj_le rfl) (jj_le rfl) (jj_le rfl) dX9_isWord_30 rfl (fun w1 r O_52 => ?_)
                    obtain ⟨-, rfl⟩ := O_52
                    refine jj_icmp_geF (tgt := 63) C dX9_isWord_33 (by decide) (by decide) ?_
                    refine jj_aload_n C dX9_isWord_36 rfl ?_
                    refine tt_getF C hok jk_10 0 (by decide) jw_0664e1e086 (t := (2, 11, 0)) hk0 (by decide) rfl rfl hf_16 dX9_isWord_37 ?_
                    refine jj_aload_n C dX9_isWord_40 rfl ?_
                    refine tt_getF C hok jk_10 4 (by decide) jw_66bda6962a (t := (0, 0, 400)) hk0 (by decide) rfl rfl hf_9 dX9_isWord_41 ?_
                    refine jj_iload_n C dX9_isWord_44 rfl ?_
                    obtain ⟨x_53, ex_53, vx_53⟩ := tt_iadd (x := x_10) (y := (7 : Int32)) (a := x_10.toInt) rfl (b := 7) (by decide) (by omega) (by omega)
                    refine jj_iadd (v := x_53) C dX9_isWord_45 ex_53 ?_
                    refine tt_cald C hok (t := (0, (-2147483648), 2147483647)) ka_17 (by decide) rfl (vp_in_iff.mpr ⟨by omega, by omega⟩) dX9_isWord_46 (fun v_54 hv_54 => ?_)
                    refine jj_aload_n C dX9_isWord_47 rfl ?_
                    refine jj_iload_n C dX9_isWord_48 rfl ?_
                    refine tt_call0Vs (rest := [.int v_54]) C (ct_J0_charAt_5068e_72 hl D cA ak) 11 (by decide) rfl jw_076e8de8e0 jw_acb9174fef jw_675efe837b jw_4ea6285965 jw_391c0f56bd jn_J0_charAt_5068e rfl (jj_le rfl) (jj_le rfl) (jj_le rfl) (jj_le rfl) (jj_le rfl) dX9_isWord_49 rfl (fun w1 r O_55 => ?_)
                    obtain ⟨-, rfl⟩ := O_55
                    refine jj_icmp_eq (tgt := 57) C dX9_isWord_52 (by decide) (fun c_56 => ?_) (fun c_56 => ?_)
                    · have z_c_56 := jc_eq (a := (v_54).toInt) (b := (108)) c_56 rfl (by decide)
                      refine jj_iinc (v := 8) C dX9_isWord_57 rfl (by decide) (by decide) rfl ?_
                      refine jj_goto (tgt := 28) C dX9_isWord_60 (by decide) ?_
                      refine jj_iload_n C dX9_isWord_28 rfl ?_
                      refine jj_aload_n C dX9_isWord_29 rfl ?_
                      refine tt_call0Vs (rest := [.int 8]) C (ct_J0_length_8abf5_12 hl D cA ak) 11 (by decide) rfl jw_f27063fded jw_b1ce304435 jw_d08f03a22e jw_4ea6285965 jw_bbc7045666 jn_J0_length_8abf5 rfl (jj_le rfl) (jj_le rfl) (jj_le rfl) (jj_le rfl) (jj_le rfl) dX9_isWord_30 rfl (fun w1 r O_57 => ?_)
                      obtain ⟨-, rfl⟩ := O_57
                      refine jj_icmp_geF (tgt := 63) C dX9_isWord_33 (by decide) (by decide) ?_
                      refine jj_aload_n C dX9_isWord_36 rfl ?_
                      refine tt_getF C hok jk_10 0 (by decide) jw_0664e1e086 (t := (2, 11, 0)) hk0 (by decide) rfl rfl hf_16 dX9_isWord_37 ?_
                      refine jj_aload_n C dX9_isWord_40 rfl ?_
                      refine tt_getF C hok jk_10 4 (by decide) jw_66bda6962a (t := (0, 0, 400)) hk0 (by decide) rfl rfl hf_9 dX9_isWord_41 ?_
                      refine jj_iload_n C dX9_isWord_44 rfl ?_
                      obtain ⟨x_58, ex_58, vx_58⟩ := tt_iadd (x := x_10) (y := (8 : Int32)) (a := x_10.toInt) rfl (b := 8) (by decide) (by omega) (by omega)
                      refine jj_iadd (v := x_58) C dX9_isWord_45 ex_58 ?_
                      refine tt_cald C hok (t := (0, (-2147483648), 2147483647)) ka_17 (by decide) rfl (vp_in_iff.mpr ⟨by omega, by omega⟩) dX9_isWord_46 (fun v_59 hv_59 => ?_)
                      refine jj_aload_n C dX9_isWord_47 rfl ?_
                      refine jj_iload_n C dX9_isWord_48 rfl ?_
                      refine tt_call0Vs (rest := [.int v_59]) C (ct_J0_charAt_5068e_73 hl D cA ak) 11 (by decide) rfl jw_076e8de8e0 jw_acb9174fef jw_675efe837b jw_4ea6285965 jw_391c0f56bd jn_J0_charAt_5068e rfl (jj_le rfl) (jj_le rfl) (jj_le rfl) (jj_le rfl) (jj_le rfl) dX9_isWord_49 rfl (fun w1 r O_60 => ?_)
                      obtain ⟨-, rfl⟩ := O_60
                      refine jj_icmp_eq (tgt := 57) C dX9_isWord_52 (by decide) (fun c_61 => ?_) (fun c_61 => ?_)
                      · have z_c_61 := jc_eq (a := (v_59).toInt) (b := (105)) c_61 rfl (by decide)
                        refine jj_iinc (v := 9) C dX9_isWord_57 rfl (by decide) (by decide) rfl ?_
                        refine jj_goto (tgt := 28) C dX9_isWord_60 (by decide) ?_
                        refine jj_iload_n C dX9_isWord_28 rfl ?_
                        refine jj_aload_n C dX9_isWord_29 rfl ?_
                        refine tt_call0Vs (rest := [.int 9]) C (ct_J0_length_8abf5_12 hl D cA ak) 11 (by decide) rfl jw_f27063fded jw_b1ce304435 jw_d08f03a22e jw_4ea6285965 jw_bbc7045666 jn_J0_length_8abf5 rfl (jj_le rfl) (jj_le rfl) (jj_le rfl) (jj_le rfl) (jj_le rfl) dX9_isWord_30 rfl (fun w1 r O_62 => ?_)
                        obtain ⟨-, rfl⟩ := O_62
                        refine jj_icmp_geF (tgt := 63) C dX9_isWord_33 (by decide) (by decide) ?_
                        refine jj_aload_n C dX9_isWord_36 rfl ?_
                        refine tt_getF C hok jk_10 0 (by decide) jw_0664e1e086 (t := (2, 11, 0)) hk0 (by decide) rfl rfl hf_16 dX9_isWord_37 ?_
                        refine jj_aload_n C dX9_isWord_40 rfl ?_
                        refine tt_getF C hok jk_10 4 (by decide) jw_66bda6962a (t := (0, 0, 400)) hk0 (by decide) rfl rfl hf_9 dX9_isWord_41 ?_
                        refine jj_iload_n C dX9_isWord_44 rfl ?_
                        obtain ⟨x_63, ex_63, vx_63⟩ := tt_iadd (x := x_10) (y := (9 : Int32)) (a := x_10.toInt) rfl (b := 9) (by decide) (by omega) (by omega)
                        refine jj_iadd (v := x_63) C dX9_isWord_45 ex_63 ?_
                        refine tt_cald C hok (t := (0, (-2147483648), 2147483647)) ka_17 (by decide) rfl (vp_in_iff.mpr ⟨by omega, by omega⟩) dX9_isWord_46 (fun v_64 hv_64 => ?_)
                        refine jj_aload_n C dX9_isWord_47 rfl ?_
                        refine jj_iload_n C dX9_isWord_48 rfl ?_
                        refine tt_call0Vs (rest := [.int v_64]) C (ct_J0_charAt_5068e_74 hl D cA ak) 11 (by decide) rfl jw_076e8de8e0 jw_acb9174fef jw_675efe837b jw_4ea6285965 jw_391c0f56bd jn_J0_charAt_5068e rfl (jj_le rfl) (jj_le rfl) (jj_le rfl) (jj_le rfl) (jj_le rfl) dX9_isWord_49 rfl (fun w1 r O_65 => ?_)
                        obtain ⟨-, rfl⟩ := O_65
                        refine jj_icmp_eq (tgt := 57) C dX9_isWord_52 (by decide) (fun c_66 => ?_) (fun c_66 => ?_)
                        · have z_c_66 := jc_eq (a := (v_64).toInt) (b := (122)) c_66 rfl (by decide)
                          refine jj_iinc (v := 10) C dX9_isWord_57 rfl (by decide) (by decide) rfl ?_
                          refine jj_goto (tgt := 28) C dX9_isWord_60 (by decide) ?_
                          refine jj_iload_n C dX9_isWord_28 rfl ?_
                          refine jj_aload_n C dX9_isWord_29 rfl ?_
                          refine tt_call0Vs (rest := [.int 10]) C (ct_J0_length_8abf5_12 hl D cA ak) 11 (by decide) rfl jw_f27063fded jw_b1ce304435 jw_d08f03a22e jw_4ea6285965 jw_bbc7045666 jn_J0_length_8abf5 rfl (jj_le rfl) (jj_le rfl) (jj_le rfl) (jj_le rfl) (jj_le rfl) dX9_isWord_30 rfl (fun w1 r O_67 => ?_)
                          obtain ⟨-, rfl⟩ := O_67
                          refine jj_icmp_geF (tgt := 63) C dX9_isWord_33 (by decide) (by decide) ?_
                          refine jj_aload_n C dX9_isWord_36 rfl ?_
                          refine tt_getF C hok jk_10 0 (by decide) jw_0664e1e086 (t := (2, 11, 0)) hk0 (by decide) rfl rfl hf_16 dX9_isWord_37 ?_
                          refine jj_aload_n C dX9_isWord_40 rfl ?_
                          refine tt_getF C hok jk_10 4 (by decide) jw_66bda6962a (t := (0, 0, 400)) hk0 (by decide) rfl rfl hf_9 dX9_isWord_41 ?_
                          refine jj_iload_n C dX9_isWord_44 rfl ?_
                          obtain ⟨x_68, ex_68, vx_68⟩ := tt_iadd (x := x_10) (y := (10 : Int32)) (a := x_10.toInt) rfl (b := 10) (by decide) (by omega) (by omega)
                          refine jj_iadd (v := x_68) C dX9_isWord_45 ex_68 ?_
                          refine tt_cald C hok (t := (0, (-2147483648), 2147483647)) ka_17 (by decide) rfl (vp_in_iff.mpr ⟨by omega, by omega⟩) dX9_isWord_46 (fun v_69 hv_69 => ?_)
                          refine jj_aload_n C dX9_isWord_47 rfl ?_
                          refine jj_iload_n C dX9_isWord_48 rfl ?_
                          refine tt_call0Vs (rest := [.int v_69]) C (ct_J0_charAt_5068e_75 hl D cA ak) 11 (by decide) rfl jw_076e8de8e0 jw_acb9174fef jw_675efe837b jw_4ea6285965 jw_391c0f56bd jn_J0_charAt_5068e rfl (jj_le rfl) (jj_le rfl) (jj_le rfl) (jj_le rfl) (jj_le rfl) dX9_isWord_49 rfl (fun w1 r O_70 => ?_)
                          obtain ⟨-, rfl⟩ := O_70
                          refine jj_icmp_eq (tgt := 57) C dX9_isWord_52 (by decide) (fun c_71 => ?_) (fun c_71 => ?_)
                          · have z_c_71 := jc_eq (a := (v_69).toInt) (b := (101)) c_71 rfl (by decide)
                            refine jj_iinc (v := 11) C dX9_isWord_57 rfl (by decide) (by decide) rfl ?_
                            refine jj_goto (tgt := 28) C dX9_isWord_60 (by decide) ?_
                            refine jj_iload_n C dX9_isWord_28 rfl ?_
                            refine jj_aload_n C dX9_isWord_29 rfl ?_
                            refine tt_call0Vs (rest := [.int 11]) C (ct_J0_length_8abf5_12 hl D cA ak) 11 (by decide) rfl jw_f27063fded jw_b1ce304435 jw_d08f03a22e jw_4ea6285965 jw_bbc7045666 jn_J0_length_8abf5 rfl (jj_le rfl) (jj_le rfl) (jj_le rfl) (jj_le rfl) (jj_le rfl) dX9_isWord_30 rfl (fun w1 r O_72 => ?_)
                            obtain ⟨-, rfl⟩ := O_72
                            refine jj_icmp_geT (tgt := 63) C dX9_isWord_33 (by decide) (by decide) ?_
                            refine jj_iconst (v := 1) C dX9_isWord_63 (by decide) ?_
                            exact jj_zret C rfl ⟨[], pl0, rfl, rfl, hok, hfr, hfa, (Or.inr rfl)⟩ dX9_isWord_64 (jj_le rfl) (jj_le rfl)
                          · have z_c_71 := jc_neq (a := (v_69).toInt) (b := (101)) c_71 rfl (by decide)
                            refine jj_iconst (v := 0) C dX9_isWord_55 (by decide) ?_
                            exact jj_zret C rfl ⟨[], pl0, rfl, rfl, hok, hfr, hfa, (Or.inl rfl)⟩ dX9_isWord_56 (jj_le rfl) (jj_le rfl)
                        · have z_c_66 := jc_neq (a := (v_64).toInt) (b := (122)) c_66 rfl (by decide)
                          refine jj_iconst (v := 0) C dX9_isWord_55 (by decide) ?_
                          exact jj_zret C rfl ⟨[], pl0, rfl, rfl, hok, hfr, hfa, (Or.inl rfl)⟩ dX9_isWord_56 (jj_le rfl) (jj_le rfl)
                      · have z_c_61 := jc_neq (a := (v_59).toInt) (b := (105)) c_61 rfl (by decide)
                        refine jj_iconst (v := 0) C dX9_isWord_55 (by decide) ?_
                        exact jj_zret C rfl ⟨[], pl0, rfl, rfl, hok, hfr, hfa, (Or.inl rfl)⟩ dX9_isWord_56 (jj_le rfl) (jj_le rfl)
                    · have z_c_56 := jc_neq (a := (v_54).toInt) (b := (108)) c_56 rfl (by decide)
                      refine jj_iconst (v := 0) C dX9_isWord_55 (by decide) ?_
                      exact jj_zret C rfl ⟨[], pl0, rfl, rfl, hok, hfr, hfa, (Or.inl rfl)⟩ dX9_isWord_56 (jj_le rfl) (jj_le rfl)
                  · have z_c_51 := jc_neq (a := (v_49).toInt) (b := (108)) c_51 rfl (by decide)
                    refine jj_iconst (v := 0) C dX9_isWord_55 (by decide) ?_
                    exact jj_zret C rfl ⟨[], pl0, rfl, rfl, hok, hfr, hfa, (Or.inl rfl)⟩ dX9_isWord_56 (jj_le rfl) (jj_le rfl)
                · have z_c_46 := jc_neq (a := (v_44).toInt) (b := (97)) c_46 rfl (by decide)
                  refine jj_iconst (v := 0) C dX9_isWord_55 (by decide) ?_
                  exact jj_zret C rfl ⟨[], pl0, rfl, rfl, hok, hfr, hfa, (Or.inl rfl)⟩ dX9_isWord_56 (jj_le rfl) (jj_le rfl)
              · have z_c_41 := jc_neq (a := (v_39).toInt) (b := (116)) c_41 rfl (by decide)
                refine jj_iconst (v := 0) C dX9_isWord_55 (by decide) ?_
                exact jj_zret C rfl ⟨[], pl0, rfl, rfl, hok, hfr, hfa, (Or.inl rfl)⟩ dX9_isWord_56 (jj_le rfl) (jj_le rfl)
            · have z_c_36 := jc_neq (a := (v_34).toInt) (b := (115)) c_36 rfl (by decide)
              refine jj_iconst (v := 0) C dX9_isWord_55 (by decide) ?_
              exact jj_zret C rfl ⟨[], pl0, rfl, rfl, hok, hfr, hfa, (Or.inl rfl)⟩ dX9_isWord_56 (jj_le rfl) (jj_le rfl)
          · have z_c_31 := jc_neq (a := (v_29).toInt) (b := (121)) c_31 rfl (by decide)
            refine jj_iconst (v := 0) C dX9_isWord_55 (by decide) ?_
            exact jj_zret C rfl ⟨[], pl0, rfl, rfl, hok, hfr, hfa, (Or.inl rfl)⟩ dX9_isWord_56 (jj_le rfl) (jj_le rfl)
        · have z_c_26 := jc_neq (a := (v_24).toInt) (b := (114)) c_26 rfl (by decide)
          refine jj_iconst (v := 0) C dX9_isWord_55 (by decide) ?_
          exact jj_zret C rfl ⟨[], pl0, rfl, rfl, hok, hfr, hfa, (Or.inl rfl)⟩ dX9_isWord_56 (jj_le rfl) (jj_le rfl)
      · have z_c_21 := jc_neq (a := (v_19).toInt) (b := (99)) c_21 rfl (by decide)
        refine jj_iconst (v := 0) C dX9_isWord_55 (by decide) ?_
        exact jj_zret C rfl ⟨[], pl0, rfl, rfl, hok, hfr, hfa, (Or.inl rfl)⟩ dX9_isWord_56 (jj_le rfl) (jj_le rfl)
    · have z_c_13 := jc_neq (a := (x_11).toInt) (b := (11)) c_13 rfl (by decide)
      refine jj_iconst (v := 0) C dX9_isWord_24 (by decide) ?_
      exact jj_zret C rfl ⟨[], pl0, rfl, rfl, hok, hfr, hfa, (Or.inl rfl)⟩ dX9_isWord_25 (jj_le rfl) (jj_le rfl)

set_option maxHeartbeats 4000000 in
set_option maxRecDepth 100000 in
theorem tc_X9_isWord_13 {l : Launch} (hl : l.stackTraces = false) (D : va_G) (cA : Nat → ClassId) (ak : (Nat → Nat) × (Nat → Nat)) {Kd : Nat → Nat} (h0 : Nat) (hk0 : Kd h0 = 10) {pl0 : va_W} (hok : tt_ok tt_tk cA Kd pl0) : jj_M l D cA ak yX9_isWord (.code yX9_isWord cX9_isWord 3 (some .boolean)) 4 85 0 0 ([] ++ pl0) [.ref h0, .ref (ak.1 12)] (tt_O (fun rx pl1 r => rx = [] ∧ tt_ok tt_tk cA Kd pl1 ∧ tt_fr Kd [] pl0 pl1 ∧ tt_fa Kd [] pl0 pl1 ∧ ((r = some (.int 0)) ∨ (r = some (.int 1))))) (tt_OX (fun _ _ _ => False)) := by
  refine jj_start hl (by decide) jw_ce1c1f12e9 (jj_le rfl) ?_
  intro p e s m args below meth c A hargs hA C hex hmn
  have hfr := tt_fr.refl (K := Kd) (WS := []) pl0
  have hfa := tt_fa.refl (K := Kd) (WA := []) pl0
  refine jj_aload_n C dX9_isWord_0 rfl ?_
  refine tt_get C hok jk_10 5 (by decide) jw_bde5c0d1a5 (t := (0, (-2147483648), 2147483647)) hk0 (by decide) rfl rfl dX9_isWord_1 (fun v_1 hv_1 hf_2 => ?_)
  obtain ⟨x_3, rfl, lx_3, ux_3⟩ := tt_vi hv_1
  refine jj_iconst (v := 1) C dX9_isWord_4 (by decide) ?_
  refine jj_icmp_ne (tgt := 24) C dX9_isWord_5 (by decide) (fun c_4 => ?_) (fun c_4 => ?_)
  · have z_c_4 := jc_neq (a := (x_3).toInt) (b := (1)) c_4 rfl (by decide)
    refine jj_iconst (v := 0) C dX9_isWord_24 (by decide) ?_
    exact jj_zret C rfl ⟨[], pl0, rfl, rfl, hok, hfr, hfa, (Or.inl rfl)⟩ dX9_isWord_25 (jj_le rfl) (jj_le rfl)
  · have z_c_4 := jc_eq (a := (x_3).toInt) (b := (1)) c_4 rfl (by decide)
    refine jj_aload_n C dX9_isWord_8 rfl ?_
    refine tt_get C hok jk_10 3 (by decide) jw_f99bd0ca2b (t := (0, 0, 400)) hk0 (by decide) rfl rfl dX9_isWord_9 (fun v_5 hv_5 hf_6 => ?_)
    obtain ⟨x_7, rfl, lx_7, ux_7⟩ := tt_vi hv_5
    refine jj_aload_n C dX9_isWord_12 rfl ?_
    refine tt_get C hok jk_10 4 (by decide) jw_66bda6962a (t := (0, 0, 400)) hk0 (by decide) rfl rfl dX9_isWord_13 (fun v_8 hv_8 hf_9 => ?_)
    obtain ⟨x_10, rfl, lx_10, ux_10⟩ := tt_vi hv_8
    obtain ⟨x_11, ex_11, vx_11⟩ := tt_isub (x := x_7) (y := x_10) (a := x_7.toInt) rfl (b := x_10.toInt) rfl (by omega) (by omega)
    refine jj_isub (v := x_11) C dX9_isWord_16 ex_11 ?_
    refine jj_aload_n C dX9_isWord_17 rfl ?_
    refine tt_call0Vs (rest := [.int x_11]) C (ct_J0_length_8abf5_13 hl D cA ak) 12 (by decide) rfl jw_f27063fded jw_b1ce304435 jw_d08f03a22e jw_4ea6285965 jw_bbc7045666 jn_J0_length_8abf5 rfl (jj_le rfl) (jj_le rfl) (jj_le rfl) (jj_le rfl) (jj_le rfl) dX9_isWord_18 rfl (fun w1 r O_12 => ?_)
    obtain ⟨-, rfl⟩ := O_12
    refine jj_icmp_eq (tgt := 26) C dX9_isWord_21 (by decide) (fun c_13 => ?_) (fun c_13 => ?_)
    · have z_c_13 := jc_eq (a := (x_11).toInt) (b := (5)) c_13 rfl (by decide)
      refine jj_iconst (v := 0) C dX9_isWord_26 (by decide) ?_
      refine jj_istore_n C dX9_isWord_27 (by decide) rfl ?_
      refine jj_iload_n C dX9_isWord_28 rfl ?_
      refine jj_aload_n C dX9_isWord_29 rfl ?_
      refine tt_call0Vs (rest := [.int 0]) C (ct_J0_length_8abf5_13 hl D cA ak) 12 (by decide) rfl jw_f27063fded jw_b1ce304435 jw_d08f03a22e jw_4ea6285965 jw_bbc7045666 jn_J0_length_8abf5 rfl (jj_le rfl) (jj_le rfl) (jj_le rfl) (jj_le rfl) (jj_le rfl) dX9_isWord_30 rfl (fun w1 r O_14 => ?_)
      obtain ⟨-, rfl⟩ := O_14
      refine jj_icmp_geF (tgt := 63) C dX9_isWord_33 (by decide) (by decide) ?_
      refine jj_aload_n C dX9_isWord_36 rfl ?_
      refine tt_get C hok jk_10 0 (by decide) jw_0664e1e086 (t := (2, 11, 0)) hk0 (by decide) rfl rfl dX9_isWord_37 (fun v_15 hv_15 hf_16 => ?_)
      obtain ⟨a_17, rfl, ka_17⟩ := tt_vr hv_15
      refine jj_aload_n C dX9_isWord_40 rfl ?_
      refine tt_getF C hok jk_10 4 (by decide) jw_66bda6962a (t := (0, 0, 400)) hk0 (by decide) rfl rfl hf_9 dX9_isWord_41 ?_
      refine jj_iload_n C dX9_isWord_44 rfl ?_
      obtain ⟨x_18, ex_18, vx_18⟩ := tt_iadd (x := x_10) (y := (0 : Int32)) (a := x_10.toInt) rfl (b := 0) (by decide) (by omega) (by omega)
      refine jj_iadd (v := x_18) C dX9_isWord_45 ex_18 ?_
      refine tt_cald C hok (t := (0, (-2147483648), 2147483647)) ka_17 (by decide) rfl (vp_in_iff.mpr ⟨by omega, by omega⟩) dX9_isWord_46 (fun v_19 hv_19 => ?_)
      refine jj_aload_n C dX9_isWord_47 rfl ?_
      refine jj_iload_n C dX9_isWord_48 rfl ?_
      refine tt_call0Vs (rest := [.int v_19]) C (ct_J0_charAt_5068e_76 hl D cA ak) 12 (by decide) rfl jw_076e8de8e0 jw_acb9174fef jw_675efe837b jw_4ea6285965 jw_391c0f56bd jn_J0_charAt_5068e rfl (jj_le rfl) (jj_le rfl) (jj_le rfl) (jj_le rfl) (jj_le rfl) dX9_isWord_49 rfl (fun w1 r O_20 => ?_)
      obtain ⟨-, rfl⟩ := O_20
      refine jj_icmp_eq (tgt := 57) C dX9_isWord_52 (by decide) (fun c_21 => ?_) (fun c_21 => ?_)
      · have z_c_21 := jc_eq (a := (v_19).toInt) (b := (109)) c_21 rfl (by decide)
        refine jj_iinc (v := 1) C dX9_isWord_57 rfl (by decide) (by decide) rfl ?_
        refine jj_goto (tgt := 28) C dX9_isWord_60 (by decide) ?_
        refine jj_iload_n C dX9_isWord_28 rfl ?_
        refine jj_aload_n C dX9_isWord_29 rfl ?_
        refine tt_call0Vs (rest := [.int 1]) C (ct_J0_length_8abf5_13 hl D cA ak) 12 (by decide) rfl jw_f27063fded jw_b1ce304435 jw_d08f03a22e jw_4ea6285965 jw_bbc7045666 jn_J0_length_8abf5 rfl (jj_le rfl) (jj_le rfl) (jj_le rfl) (jj_le rfl) (jj_le rfl) dX9_isWord_30 rfl (fun w1 r O_22 => ?_)
        obtain ⟨-, rfl⟩ := O_22
        refine jj_icmp_geF (tgt := 63) C dX9_isWord_33 (by decide) (by decide) ?_
        refine jj_aload_n C dX9_isWord_36 rfl ?_
        refine tt_getF C hok jk_10 0 (by decide) jw_0664e1e086 (t := (2, 11, 0)) hk0 (by decide) rfl rfl hf_16 dX9_isWord_37 ?_
        refine jj_aload_n C dX9_isWord_40 rfl ?_
        refine tt_getF C hok jk_10 4 (by decide) jw_66bda6962a (t := (0, 0, 400)) hk0 (by decide) rfl rfl hf_9 dX9_isWord_41 ?_
        refine jj_iload_n C dX9_isWord_44 rfl ?_
        obtain ⟨x_23, ex_23, vx_23⟩ := tt_iadd (x := x_10) (y := (1 : Int32)) (a := x_10.toInt) rfl (b := 1) (by decide) (by omega) (by omega)
        refine jj_iadd (v := x_23) C dX9_isWord_45 ex_23 ?_
        refine tt_cald C hok (t := (0, (-2147483648), 2147483647)) ka_17 (by decide) rfl (vp_in_iff.mpr ⟨by omega, by omega⟩) dX9_isWord_46 (fun v_24 hv_24 => ?_)
        refine jj_aload_n C dX9_isWord_47 rfl ?_
        refine jj_iload_n C dX9_isWord_48 rfl ?_
        refine tt_call0Vs (rest := [.int v_24]) C (ct_J0_charAt_5068e_77 hl D cA ak) 12 (by decide) rfl jw_076e8de8e0 jw_acb9174fef jw_675efe837b jw_4ea6285965 jw_391c0f56bd jn_J0_charAt_5068e rfl (jj_le rfl) (jj_le rfl) (jj_le rfl) (jj_le rfl) (jj_le rfl) dX9_isWord_49 rfl (fun w1 r O_25 => ?_)
        obtain ⟨-, rfl⟩ := O_25
        refine jj_icmp_eq (tgt := 57) C dX9_isWord_52 (by decide) (fun c_26 => ?_) (fun c_26 => ?_)
        · have z_c_26 := jc_eq (a := (v_24).toInt) (b := (101)) c_26 rfl (by decide)
          refine jj_iinc (v := 2) C dX9_isWord_57 rfl (by decide) (by decide) rfl ?_
          refine jj_goto (tgt := 28) C dX9_isWord_60 (by decide) ?_
          refine jj_iload_n C dX9_isWord_28 rfl ?_
          refine jj_aload_n C dX9_isWord_29 rfl ?_
          refine tt_call0Vs (rest := [.int 2]) C (ct_J0_length_8abf5_13 hl D cA ak) 12 (by decide) rfl jw_f27063fded jw_b1ce304435 jw_d08f03a22e jw_4ea6285965 jw_bbc7045666 jn_J0_length_8abf5 rfl (jj_le rfl) (jj_le rfl) (jj_le rfl) (jj_le rfl) (jj_le rfl) dX9_isWord_30 rfl (fun w1 r O_27 => ?_)
          obtain ⟨-, rfl⟩ := O_27
          refine jj_icmp_geF (tgt := 63) C dX9_isWord_33 (by decide) (by decide) ?_
          refine jj_aload_n C dX9_isWord_36 rfl ?_
          refine tt_getF C hok jk_10 0 (by decide) jw_0664e1e086 (t := (2, 11, 0)) hk0 (by decide) rfl rfl hf_16 dX9_isWord_37 ?_
          refine jj_aload_n C dX9_isWord_40 rfl ?_
          refine tt_getF C hok jk_10 4 (by decide) jw_66bda6962a (t := (0, 0, 400)) hk0 (by decide) rfl rfl hf_9 dX9_isWord_41 ?_
          refine jj_iload_n C dX9_isWord_44 rfl ?_
          obtain ⟨x_28, ex_28, vx_28⟩ := tt_iadd (x := x_10) (y := (2 : Int32)) (a := x_10.toInt) rfl (b := 2) (by decide) (by omega) (by omega)
          refine jj_iadd (v := x_28) C dX9_isWord_45 ex_28 ?_
          refine tt_cald C hok (t := (0, (-2147483648), 2147483647)) ka_17 (by decide) rfl (vp_in_iff.mpr ⟨by omega, by omega⟩) dX9_isWord_46 (fun v_29 hv_29 => ?_)
          refine jj_aload_n C dX9_isWord_47 rfl ?_
          refine jj_iload_n C dX9_isWord_48 rfl ?_
          refine tt_call0Vs (rest := [.int v_29]) C (ct_J0_charAt_5068e_78 hl D cA ak) 12 (by decide) rfl jw_076e8de8e0 jw_acb9174fef jw_675efe837b jw_4ea6285965 jw_391c0f56bd jn_J0_charAt_5068e rfl (jj_le rfl) (jj_le rfl) (jj_le rfl) (jj_le rfl) (jj_le rfl) dX9_isWord_49 rfl (fun w1 r O_30 => ?_)
          obtain ⟨-, rfl⟩ := O_30
          refine jj_icmp_eq (tgt := 57) C dX9_isWord_52 (by decide) (fun c_31 => ?_) (fun c_31 => ?_)
          · have z_c_31 := jc_eq (a := (v_29).toInt) (b := (114)) c_31 rfl (by decide)
            refine jj_iinc (v := 3) C dX9_isWord_57 rfl (by decide) (by decide) rfl ?_
            refine jj_goto (tgt := 28) C dX9_isWord_60 (by decide) ?_
            refine jj_iload_n C dX9_isWord_28 rfl ?_
            refine jj_aload_n C dX9_isWord_29 rfl ?_
            refine tt_call0Vs (rest := [.int 3]) C (ct_J0_length_8abf5_13 hl D cA ak) 12 (by decide) rfl jw_f27063fded jw_b1ce304435 jw_d08f03a22e jw_4ea6285965 jw_bbc7045666 jn_J0_length_8abf5 rfl (jj_le rfl) (jj_le rfl) (jj_le rfl) (jj_le rfl) (jj_le rfl) dX9_isWord_30 rfl (fun w1 r O_32 => ?_)
            obtain ⟨-, rfl⟩ := O_32
            refine jj_icmp_geF (tgt := 63) C dX9_isWord_33 (by decide) (by decide) ?_
            refine jj_aload_n C dX9_isWord_36 rfl ?_
            refine tt_getF C hok jk_10 0 (by decide) jw_0664e1e086 (t := (2, 11, 0)) hk0 (by decide) rfl rfl hf_16 dX9_isWord_37 ?_
            refine jj_aload_n C dX9_isWord_40 rfl ?_
            refine tt_getF C hok jk_10 4 (by decide) jw_66bda6962a (t := (0, 0, 400)) hk0 (by decide) rfl rfl hf_9 dX9_isWord_41 ?_
            refine jj_iload_n C dX9_isWord_44 rfl ?_
            obtain ⟨x_33, ex_33, vx_33⟩ := tt_iadd (x := x_10) (y := (3 : Int32)) (a := x_10.toInt) rfl (b := 3) (by decide) (by omega) (by omega)
            refine jj_iadd (v := x_33) C dX9_isWord_45 ex_33 ?_
            refine tt_cald C hok (t := (0, (-2147483648), 2147483647)) ka_17 (by decide) rfl (vp_in_iff.mpr ⟨by omega, by omega⟩) dX9_isWord_46 (fun v_34 hv_34 => ?_)
            refine jj_aload_n C dX9_isWord_47 rfl ?_
            refine jj_iload_n C dX9_isWord_48 rfl ?_
            refine tt_call0Vs (rest := [.int v_34]) C (ct_J0_charAt_5068e_79 hl D cA ak) 12 (by decide) rfl jw_076e8de8e0 jw_acb9174fef jw_675efe837b jw_4ea6285965 jw_391c0f56bd jn_J0_charAt_5068e rfl (jj_le rfl) (jj_le rfl) (jj_le rfl) (jj_le rfl) (jj_le rfl) dX9_isWord_49 rfl (fun w1 r O_35 => ?_)
            obtain ⟨-, rfl⟩ := O_35
            refine jj_icmp_eq (tgt := 57) C dX9_isWord_52 (by decide) (fun c_36 => ?_) (fun c_36 => ?_)
            · have z_c_36 := jc_eq (a := (v_34).toInt) (b := (103)) c_36 rfl (by decide)
              refine jj_iinc (v := 4) C dX9_isWord_57 rfl (by decide) (by decide) rfl ?_
              refine jj_goto (tgt := 28) C dX9_isWord_60 (by decide) ?_
              refine jj_iload_n C dX9_isWord_28 rfl ?_
              refine jj_aload_n C dX9_isWord_29 rfl ?_
              refine tt_call0Vs (rest := [.int 4]) C (ct_J0_length_8abf5_13 hl D cA ak) 12 (by decide) rfl jw_f27063fded jw_b1ce304435 jw_d08f03a22e jw_4ea6285965 jw_bbc7045666 jn_J0_length_8abf5 rfl (jj_le rfl) (jj_le rfl) (jj_le rfl) (jj_le rfl) (jj_le rfl) dX9_isWord_30 rfl (fun w1 r O_37 => ?_)
              obtain ⟨-, rfl⟩ := O_37
              refine jj_icmp_geF (tgt := 63) C dX9_isWord_33 (by decide) (by decide) ?_
              refine jj_aload_n C dX9_isWord_36 rfl ?_
              refine tt_getF C hok jk_10 0 (by decide) jw_0664e1e086 (t := (2, 11, 0)) hk0 (by decide) rfl rfl hf_16 dX9_isWord_37 ?_
              refine jj_aload_n C dX9_isWord_40 rfl ?_
              refine tt_getF C hok jk_10 4 (by decide) jw_66bda6962a (t := (0, 0, 400)) hk0 (by decide) rfl rfl hf_9 dX9_isWord_41 ?_
              refine jj_iload_n C dX9_isWord_44 rfl ?_
              obtain ⟨x_38, ex_38, vx_38⟩ := tt_iadd (x := x_10) (y := (4 : Int32)) (a := x_10.toInt) rfl (b := 4) (by decide) (by omega) (by omega)
              refine jj_iadd (v := x_38) C dX9_isWord_45 ex_38 ?_
              refine tt_cald C hok (t := (0, (-2147483648), 2147483647)) ka_17 (by decide) rfl (vp_in_iff.mpr ⟨by omega, by omega⟩) dX9_isWord_46 (fun v_39 hv_39 => ?_)
              refine jj_aload_n C dX9_isWord_47 rfl ?_
              refine jj_iload_n C dX9_isWord_48 rfl ?_
              refine tt_call0Vs (rest := [.int v_39]) C (ct_J0_charAt_5068e_80 hl D cA ak) 12 (by decide) rfl jw_076e8de8e0 jw_acb9174fef jw_675efe837b jw_4ea6285965 jw_391c0f56bd jn_J0_charAt_5068e rfl (jj_le rfl) (jj_le rfl) (jj_le rfl) (jj_le rfl) (jj_le rfl) dX9_isWord_49 rfl (fun w1 r O_40 => ?_)
              obtain ⟨-, rfl⟩ := O_40
              refine jj_icmp_eq (tgt := 57) C dX9_isWord_52 (by decide) (fun c_41 => ?_) (fun c_41 => ?_)
              · have z_c_41 := jc_eq (a := (v_39).toInt) (b := (101)) c_41 rfl (by decide)
                refine jj_iinc (v := 5) C dX9_isWord_57 rfl (by decide) (by decide) rfl ?_
                refine jj_goto (tgt := 28) C dX9_isWord_60 (by decide) ?_
                refine jj_iload_n C dX9_isWord_28 rfl ?_
                refine jj_aload_n C dX9_isWord_29 rfl ?_
                refine tt_call0Vs (rest := [.int 5]) C (ct_J0_length_8abf5_13 hl D cA ak) 12 (by decide) rfl jw_f27063fded jw_b1ce304435 jw_d08f03a22e jw_4ea6285965 jw_bbc7045666 jn_J0_length_8abf5 rfl (jj_le rfl) (jj_le rfl) (jj_le rfl) (jj_le rfl) (jj_le rfl) dX9_isWord_30 rfl (fun w1 r O_42 => ?_)
                obtain ⟨-, rfl⟩ := O_42
                refine jj_icmp_geT (tgt := 63) C dX9_isWord_33 (by decide) (by decide) ?_
                refine jj_iconst (v := 1) C dX9_isWord_63 (by decide) ?_
                exact jj_zret C rfl ⟨[], pl0, rfl, rfl, hok, hfr, hfa, (Or.inr rfl)⟩ dX9_isWord_64 (jj_le rfl) (jj_le rfl)
              · have z_c_41 := jc_neq (a := (v_39).toInt) (b := (101)) c_41 rfl (by decide)
                refine jj_iconst (v := 0) C dX9_isWord_55 (by decide) ?_
                exact jj_zret C rfl ⟨[], pl0, rfl, rfl, hok, hfr, hfa, (Or.inl rfl)⟩ dX9_isWord_56 (jj_le rfl) (jj_le rfl)
            · have z_c_36 := jc_neq (a := (v_34).toInt) (b := (103)) c_36 rfl (by decide)
              refine jj_iconst (v := 0) C dX9_isWord_55 (by decide) ?_
              exact jj_zret C rfl ⟨[], pl0, rfl, rfl, hok, hfr, hfa, (Or.inl rfl)⟩ dX9_isWord_56 (jj_le rfl) (jj_le rfl)
          · have z_c_31 := jc_neq (a := (v_29).toInt) (b := (114)) c_31 rfl (by decide)
            refine jj_iconst (v := 0) C dX9_isWord_55 (by decide) ?_
            exact jj_zret C rfl ⟨[], pl0, rfl, rfl, hok, hfr, hfa, (Or.inl rfl)⟩ dX9_isWord_56 (jj_le rfl) (jj_le rfl)
        · have z_c_26 := jc_neq (a := (v_24).toInt) (b := (101)) c_26 rfl (by decide)
          refine jj_iconst (v := 0) C dX9_isWord_55 (by decide) ?_
          exact jj_zret C rfl ⟨[], pl0, rfl, rfl, hok, hfr, hfa, (Or.inl rfl)⟩ dX9_isWord_56 (jj_le rfl) (jj_le rfl)
      · have z_c_21 := jc_neq (a := (v_19).toInt) (b := (109)) c_21 rfl (by decide)
        refine jj_iconst (v := 0) C dX9_isWord_55 (by decide) ?_
        exact jj_zret C rfl ⟨[], pl0, rfl, rfl, hok, hfr, hfa, (Or.inl rfl)⟩ dX9_isWord_56 (jj_le rfl) (jj_le rfl)
    · have z_c_13 := jc_neq (a := (x_11).toInt) (b := (5)) c_13 rfl (by decide)
      refine jj_iconst (v := 0) C dX9_isWord_24 (by decide) ?_
      exact jj_zret C rfl ⟨[], pl0, rfl, rfl, hok, hfr, hfa, (Or.inl rfl)⟩ dX9_isWord_25 (jj_le rfl) (jj_le rfl)

set_option maxHeartbeats 4000000 in
set_option maxRecDepth 100000 in
theorem tc_X7_operationOfWord_1 {l : Launch} (hl : l.stackTraces = false) (D : va_G) (cA : Nat → ClassId) (ak : (Nat → Nat) × (Nat → Nat)) {Kd : Nat → Nat} (h0 : Nat) (hk0 : Kd h0 = 18) {pl0 : va_W} (hok : tt_ok tt_tk cA Kd pl0) : jj_M l D cA ak yX7_operationOfWord (.code yX7_operationOfWord cX7_operationOfWord 1 (some .int)) 5 107 0 0 ([] ++ pl0) [.ref h0] (tt_O (fun rx pl1 r => rx = [] ∧ tt_ok tt_tk cA Kd pl1 ∧ tt_fr Kd [] pl0 pl1 ∧ tt_fa Kd [] pl0 pl1 ∧ ((∃ v : Int32, (-1 : Int) ≤ v.toInt ∧ v.toInt ≤ 7 ∧ r = some (.int v))))) (tt_OX (fun _ _ _ => False)) := by
  refine jj_start hl (by decide) jw_2b9411176e (jj_le rfl) ?_
  intro p e s m args below meth c A hargs hA C hex hmn
  have hfr := tt_fr.refl (K := Kd) (WS := []) pl0
  have hfa := tt_fa.refl (K := Kd) (WA := []) pl0
  refine jj_aload_n C dX7_operationOfWord_0 rfl ?_
  refine tt_get C hok jk_8 0 (by decide) jw_d4197f0942 (t := (2, 10, 0)) hk0 (by decide) rfl rfl dX7_operationOfWord_1 (fun v_1 hv_1 hf_2 => ?_)
  obtain ⟨a_3, rfl, ka_3⟩ := tt_vr hv_1
  refine jj_ldcs (k := 5) (tx := "subscribe") C dX7_operationOfWord_4 (by decide +kernel) ?_
  obtain ⟨qc, gs, hqc⟩ := tt_recv (cx := []) hok ka_3 (by decide) rfl
  refine tt_callV (rest := []) C (tc_X9_isWord_6 hl D cA ak a_3 ka_3 hok) [] [] rfl rfl (by decide) (by decide) (by decide) qc hqc rfl rfl jw_2064d16c8e jw_5e9522a00c jw_73cf9edcb7 jw_a9e7b602dc jw_ce1c1f12e9 jn_X9_isWord rfl (jj_le rfl) (jj_le rfl) (jj_le rfl) (jj_le rfl) (jj_le rfl) dX7_operationOfWord_6 rfl (fun _ _ _ hX => hX.elim) (fun rx pl_4 r O_7 => ?_)
  obtain ⟨rfl, hok_5, hr_6, hfa9, hR_9⟩ := O_7
  replace hf_2 := hr_6.at hk0 (by decide) (by decide) hf_2
  replace hfr := hfr.trans (hr_6.sub (by decide))
  replace hfa := hfa.trans (hfa9.sub (by decide))
  rcases hR_9 with rfl | rfl
  · refine jj_if_eqT (tgt := 14) C dX7_operationOfWord_9 (by decide) (by decide) ?_
    refine jj_aload_n C dX7_operationOfWord_14 rfl ?_
    refine tt_getF C hok_5 jk_8 0 (by decide) jw_d4197f0942 (t := (2, 10, 0)) hk0 (by decide) rfl rfl hf_2 dX7_operationOfWord_15 ?_
    refine jj_ldcs (k := 6) (tx := "redeem") C dX7_operationOfWord_18 (by decide +kernel) ?_
    obtain ⟨qc, gs, hqc⟩ := tt_recv (cx := []) hok_5 ka_3 (by decide) rfl
    refine tt_callV (rest := []) C (tc_X9_isWord_7 hl D cA ak a_3 ka_3 hok_5) [] [] rfl rfl (by decide) (by decide) (by decide) qc hqc rfl rfl jw_2064d16c8e jw_5e9522a00c jw_73cf9edcb7 jw_a9e7b602dc jw_ce1c1f12e9 jn_X9_isWord rfl (jj_le rfl) (jj_le rfl) (jj_le rfl) (jj_le rfl) (jj_le rfl) dX7_operationOfWord_20 rfl (fun _ _ _ hX => hX.elim) (fun rx pl_12 r O_15 => ?_)
    obtain ⟨rfl, hok_13, hr_14, hfa9, hR_17⟩ := O_15
    replace hf_2 := hr_14.at hk0 (by decide) (by decide) hf_2
    replace hfr := hfr.trans (hr_14.sub (by decide))
    replace hfa := hfa.trans (hfa9.sub (by decide))
    rcases hR_17 with rfl | rfl
    · refine jj_if_eqT (tgt := 28) C dX7_operationOfWord_23 (by decide) (by decide) ?_
      refine jj_aload_n C dX7_operationOfWord_28 rfl ?_
      refine tt_getF C hok_13 jk_8 0 (by decide) jw_d4197f0942 (t := (2, 10, 0)) hk0 (by decide) rfl rfl hf_2 dX7_operationOfWord_29 ?_
      refine jj_ldcs (k := 7) (tx := "deal") C dX7_operationOfWord_32 (by decide +kernel) ?_
      obtain ⟨qc, gs, hqc⟩ := tt_recv (cx := []) hok_13 ka_3 (by decide) rfl
      refine tt_callV (rest := []) C (tc_X9_isWord_8 hl D cA ak a_3 ka_3 hok_13) [] [] rfl rfl (by decide) (by decide) (by decide) qc hqc rfl rfl jw_2064d16c8e jw_5e9522a00c jw_73cf9edcb7 jw_a9e7b602dc jw_ce1c1f12e9 jn_X9_isWord rfl (jj_le rfl) (jj_le rfl) (jj_le rfl) (jj_le rfl) (jj_le rfl) dX7_operationOfWord_34 rfl (fun _ _ _ hX => hX.elim) (fun rx pl_20 r O_23 => ?_)
      obtain ⟨rfl, hok_21, hr_22, hfa9, hR_25⟩ := O_23
      replace hf_2 := hr_22.at hk0 (by decide) (by decide) hf_2
      replace hfr := hfr.trans (hr_22.sub (by decide))
      replace hfa := hfa.trans (hfa9.sub (by decide))
      rcases hR_25 with rfl | rfl
      · refine jj_if_eqT (tgt := 42) C dX7_operationOfWord_37 (by decide) (by decide) ?_
        refine jj_aload_n C dX7_operationOfWord_42 rfl ?_
        refine tt_getF C hok_21 jk_8 0 (by decide) jw_d4197f0942 (t := (2, 10, 0)) hk0 (by decide) rfl rfl hf_2 dX7_operationOfWord_43 ?_
        refine jj_ldcs (k := 8) (tx := "gain") C dX7_operationOfWord_46 (by decide +kernel) ?_
        obtain ⟨qc, gs, hqc⟩ := tt_recv (cx := []) hok_21 ka_3 (by decide) rfl
        refine tt_callV (rest := []) C (tc_X9_isWord_9 hl D cA ak a_3 ka_3 hok_21) [] [] rfl rfl (by decide) (by decide) (by decide) qc hqc rfl rfl jw_2064d16c8e jw_5e9522a00c jw_73cf9edcb7 jw_a9e7b602dc jw_ce1c1f12e9 jn_X9_isWord rfl (jj_le rfl) (jj_le rfl) (jj_le rfl) (jj_le rfl) (jj_le rfl) dX7_operationOfWord_48 rfl (fun _ _ _ hX => hX.elim) (fun rx pl_28 r O_31 => ?_)
        obtain ⟨rfl, hok_29, hr_30, hfa9, hR_33⟩ := O_31
        replace hf_2 := hr_30.at hk0 (by decide) (by decide) hf_2
        replace hfr := hfr.trans (hr_30.sub (by decide))
        replace hfa := hfa.trans (hfa9.sub (by decide))
        rcases hR_33 with rfl | rfl
        · refine jj_if_eqT (tgt := 56) C dX7_operationOfWord_51 (by decide) (by decide) ?_
          refine jj_aload_n C dX7_operationOfWord_56 rfl ?_
          refine tt_getF C hok_29 jk_8 0 (by decide) jw_d4197f0942 (t := (2, 10, 0)) hk0 (by decide) rfl rfl hf_2 dX7_operationOfWord_57 ?_
          refine jj_ldcs (k := 9) (tx := "lose") C dX7_operationOfWord_60 (by decide +kernel) ?_
          obtain ⟨qc, gs, hqc⟩ := tt_recv (cx := []) hok_29 ka_3 (by decide) rfl
          refine tt_callV (rest := []) C (tc_X9_isWord_10 hl D cA ak a_3 ka_3 hok_29) [] [] rfl rfl (by decide) (by decide) (by decide) qc hqc rfl rfl jw_2064d16c8e jw_5e9522a00c jw_73cf9edcb7 jw_a9e7b602dc jw_ce1c1f12e9 jn_X9_isWord rfl (jj_le rfl) (jj_le rfl) (jj_le rfl) (jj_le rfl) (jj_le rfl) dX7_operationOfWord_62 rfl (fun _ _ _ hX => hX.elim) (fun rx pl_36 r O_39 => ?_)
          obtain ⟨rfl, hok_37, hr_38, hfa9, hR_41⟩ := O_39
          replace hf_2 := hr_38.at hk0 (by decide) (by decide) hf_2
          replace hfr := hfr.trans (hr_38.sub (by decide))
          replace hfa := hfa.trans (hfa9.sub (by decide))
          rcases hR_41 with rfl | rfl
          · refine jj_if_eqT (tgt := 70) C dX7_operationOfWord_65 (by decide) (by decide) ?_
            refine jj_aload_n C dX7_operationOfWord_70 rfl ?_
            refine tt_getF C hok_37 jk_8 0 (by decide) jw_d4197f0942 (t := (2, 10, 0)) hk0 (by decide) rfl rfl hf_2 dX7_operationOfWord_71 ?_
            refine jj_ldcs (k := 10) (tx := "pass") C dX7_operationOfWord_74 (by decide +kernel) ?_
            obtain ⟨qc, gs, hqc⟩ := tt_recv (cx := []) hok_37 ka_3 (by decide) rfl
            refine tt_callV (rest := []) C (tc_X9_isWord_11 hl D cA ak a_3 ka_3 hok_37) [] [] rfl rfl (by decide) (by decide) (by decide) qc hqc rfl rfl jw_2064d16c8e jw_5e9522a00c jw_73cf9edcb7 jw_a9e7b602dc jw_ce1c1f12e9 jn_X9_isWord rfl (jj_le rfl) (jj_le rfl) (jj_le rfl) (jj_le rfl) (jj_le rfl) dX7_operationOfWord_76 rfl (fun _ _ _ hX => hX.elim) (fun rx pl_44 r O_47 => ?_)
            obtain ⟨rfl, hok_45, hr_46, hfa9, hR_49⟩ := O_47
            replace hf_2 := hr_46.at hk0 (by decide) (by decide) hf_2
            replace hfr := hfr.trans (hr_46.sub (by decide))
            replace hfa := hfa.trans (hfa9.sub (by decide))
            rcases hR_49 with rfl | rfl
            · refine jj_if_eqT (tgt := 84) C dX7_operationOfWord_79 (by decide) (by decide) ?_
              refine jj_aload_n C dX7_operationOfWord_84 rfl ?_
              refine tt_getF C hok_45 jk_8 0 (by decide) jw_d4197f0942 (t := (2, 10, 0)) hk0 (by decide) rfl rfl hf_2 dX7_operationOfWord_85 ?_
              refine jj_ldcs (k := 11) (tx := "crystallize") C dX7_operationOfWord_88 (by decide +kernel) ?_
              obtain ⟨qc, gs, hqc⟩ := tt_recv (cx := []) hok_45 ka_3 (by decide) rfl
              refine tt_callV (rest := []) C (tc_X9_isWord_12 hl D cA ak a_3 ka_3 hok_45) [] [] rfl rfl (by decide) (by decide) (by decide) qc hqc rfl rfl jw_2064d16c8e jw_5e9522a00c jw_73cf9edcb7 jw_a9e7b602dc jw_ce1c1f12e9 jn_X9_isWord rfl (jj_le rfl) (jj_le rfl) (jj_le rfl) (jj_le rfl) (jj_le rfl) dX7_operationOfWord_90 rfl (fun _ _ _ hX => hX.elim) (fun rx pl_52 r O_55 => ?_)
              obtain ⟨rfl, hok_53, hr_54, hfa9, hR_57⟩ := O_55
              replace hf_2 := hr_54.at hk0 (by decide) (by decide) hf_2
              replace hfr := hfr.trans (hr_54.sub (by decide))
              replace hfa := hfa.trans (hfa9.sub (by decide))
              rcases hR_57 with rfl | rfl
              · refine jj_if_eqT (tgt := 99) C dX7_operationOfWord_93 (by decide) (by decide) ?_
                refine jj_aload_n C dX7_operationOfWord_99 rfl ?_
                refine tt_getF C hok_53 jk_8 0 (by decide) jw_d4197f0942 (t := (2, 10, 0)) hk0 (by decide) rfl rfl hf_2 dX7_operationOfWord_100 ?_
                refine jj_ldcs (k := 12) (tx := "merge") C dX7_operationOfWord_103 (by decide +kernel) ?_
                obtain ⟨qc, gs, hqc⟩ := tt_recv (cx := []) hok_53 ka_3 (by decide) rfl
                refine tt_callV (rest := []) C (tc_X9_isWord_13 hl D cA ak a_3 ka_3 hok_53) [] [] rfl rfl (by decide) (by decide) (by decide) qc hqc rfl rfl jw_2064d16c8e jw_5e9522a00c jw_73cf9edcb7 jw_a9e7b602dc jw_ce1c1f12e9 jn_X9_isWord rfl (jj_le rfl) (jj_le rfl) (jj_le rfl) (jj_le rfl) (jj_le rfl) dX7_operationOfWord_105 rfl (fun _ _ _ hX => hX.elim) (fun rx pl_60 r O_63 => ?_)
                obtain ⟨rfl, hok_61, hr_62, hfa9, hR_65⟩ := O_63
                replace hf_2 := hr_62.at hk0 (by decide) (by decide) hf_2
                replace hfr := hfr.trans (hr_62.sub (by decide))
                replace hfa := hfa.trans (hfa9.sub (by decide))
                rcases hR_65 with rfl | rfl
                · refine jj_if_eqT (tgt := 116) C dX7_operationOfWord_108 (by decide) (by decide) ?_
                  refine jj_iconst (v := (-1)) C dX7_operationOfWord_116 (by decide) ?_
                  exact jj_iret C ⟨[], pl_60, rfl, rfl, hok_61, hfr, hfa, ⟨((-1) : Int32), (by decide), (by decide), rfl⟩⟩ dX7_operationOfWord_117 (jj_le rfl) (jj_le rfl)
                · refine jj_if_eqF (tgt := 116) C dX7_operationOfWord_108 (by decide) (by decide) ?_
                  refine jj_bipush (v := 7) C dX7_operationOfWord_111 (by decide) ?_
                  refine jj_goto (tgt := 117) C dX7_operationOfWord_113 (by decide) ?_
                  exact jj_iret C ⟨[], pl_60, rfl, rfl, hok_61, hfr, hfa, ⟨(7 : Int32), (by decide), (by decide), rfl⟩⟩ dX7_operationOfWord_117 (jj_le rfl) (jj_le rfl)
              · refine jj_if_eqF (tgt := 99) C dX7_operationOfWord_93 (by decide) (by decide) ?_
                refine jj_bipush (v := 6) C dX7_operationOfWord_96 (by decide) ?_
                exact jj_iret C ⟨[], pl_52, rfl, rfl, hok_53, hfr, hfa, ⟨(6 : Int32), (by decide), (by decide), rfl⟩⟩ dX7_operationOfWord_98 (jj_le rfl) (jj_le rfl)
            · refine jj_if_eqF (tgt := 84) C dX7_operationOfWord_79 (by decide) (by decide) ?_
              refine jj_iconst (v := 5) C dX7_operationOfWord_82 (by decide) ?_
              exact jj_iret C ⟨[], pl_44, rfl, rfl, hok_45, hfr, hfa, ⟨(5 : Int32), (by decide), (by decide), rfl⟩⟩ dX7_operationOfWord_83 (jj_le rfl) (jj_le rfl)
          · refine jj_if_eqF (tgt := 70) C dX7_operationOfWord_65 (by decide) (by decide) ?_
            refine jj_iconst (v := 4) C dX7_operationOfWord_68 (by decide) ?_
            exact jj_iret C ⟨[], pl_36, rfl, rfl, hok_37, hfr, hfa, ⟨(4 : Int32), (by decide), (by decide), rfl⟩⟩ dX7_operationOfWord_69 (jj_le rfl) (jj_le rfl)
        · refine jj_if_eqF (tgt := 56) C dX7_operationOfWord_51 (by decide) (by decide) ?_
          refine jj_iconst (v := 3) C dX7_operationOfWord_54 (by decide) ?_
          exact jj_iret C ⟨[], pl_28, rfl, rfl, hok_29, hfr, hfa, ⟨(3 : Int32), (by decide), (by decide), rfl⟩⟩ dX7_operationOfWord_55 (jj_le rfl) (jj_le rfl)
      · refine jj_if_eqF (tgt := 42) C dX7_operationOfWord_37 (by decide) (by decide) ?_
        refine jj_iconst (v := 2) C dX7_operationOfWord_40 (by decide) ?_
        exact jj_iret C ⟨[], pl_20, rfl, rfl, hok_21, hfr, hfa, ⟨(2 : Int32), (by decide), (by decide), rfl⟩⟩ dX7_operationOfWord_41 (jj_le rfl) (jj_le rfl)
    · refine jj_if_eqF (tgt := 28) C dX7_operationOfWord_23 (by decide) (by decide) ?_
      refine jj_iconst (v := 1) C dX7_operationOfWord_26 (by decide) ?_
      exact jj_iret C ⟨[], pl_12, rfl, rfl, hok_13, hfr, hfa, ⟨(1 : Int32), (by decide), (by decide), rfl⟩⟩ dX7_operationOfWord_27 (jj_le rfl) (jj_le rfl)
  · refine jj_if_eqF (tgt := 14) C dX7_operationOfWord_9 (by decide) (by decide) ?_
    refine jj_iconst (v := 0) C dX7_operationOfWord_12 (by decide) ?_
    exact jj_iret C ⟨[], pl_4, rfl, rfl, hok_5, hfr, hfa, ⟨(0 : Int32), (by decide), (by decide), rfl⟩⟩ dX7_operationOfWord_13 (jj_le rfl) (jj_le rfl)

set_option maxHeartbeats 4000000 in
set_option maxRecDepth 100000 in
theorem tc_X7_numbersOf_1 {l : Launch} (hl : l.stackTraces = false) (D : va_G) (cA : Nat → ClassId) (ak : (Nat → Nat) × (Nat → Nat)) {Kd : Nat → Nat} (p0 : Int32) (lp0 : (0 : Int) ≤ p0.toInt) (up0 : p0.toInt ≤ 7) {pl0 : va_W} (hok : tt_ok tt_tk cA Kd pl0) : jj_M l D cA ak yX7_numbersOf (.code yX7_numbersOf cX7_numbersOf 1 (some .int)) 0 0 0 0 ([] ++ pl0) [.int p0] (tt_O (fun rx pl1 r => rx = [] ∧ tt_ok tt_tk cA Kd pl1 ∧ tt_fr Kd [] pl0 pl1 ∧ tt_fa Kd [] pl0 pl1 ∧ (((0 : Int) ≤ p0.toInt ∧ p0.toInt ≤ 1 ∧ r = some (.int 2)) ∨ ((3 : Int) ≤ p0.toInt ∧ p0.toInt ≤ 5 ∧ r = some (.int 1)) ∨ ((2 : Int) ≤ p0.toInt ∧ p0.toInt ≤ 7 ∧ r = some (.int 0))))) (tt_OX (fun _ _ _ => False)) := by
  refine jj_start hl (by decide) jw_02dacf5f33 (jj_le rfl) ?_
  intro p e s m args below meth c A hargs hA C hex hmn
  have hfr := tt_fr.refl (K := Kd) (WS := []) pl0
  have hfa := tt_fa.refl (K := Kd) (WA := []) pl0
  refine jj_iload_n C dX7_numbersOf_0 rfl ?_
  refine jj_if_eq (tgt := 9) C dX7_numbersOf_1 (by decide) (fun c_1 => ?_) (fun c_1 => ?_)
  · have z_c_1 := jc_eq (a := (p0).toInt) (b := (0)) c_1 rfl (by decide)
    refine jj_iconst (v := 2) C dX7_numbersOf_9 (by decide) ?_
    exact jj_iret C ⟨[], pl0, rfl, rfl, hok, hfr, hfa, (Or.inl ⟨(by first | omega | exact tt_lo _ | exact tt_hi _), (by first | omega | exact tt_lo _ | exact tt_hi _), rfl⟩)⟩ dX7_numbersOf_10 (jj_le rfl) (jj_le rfl)
  · have z_c_1 := jc_neq (a := (p0).toInt) (b := (0)) c_1 rfl (by decide)
    refine jj_iload_n C dX7_numbersOf_4 rfl ?_
    refine jj_iconst (v := 1) C dX7_numbersOf_5 (by decide) ?_
    refine jj_icmp_ne (tgt := 11) C dX7_numbersOf_6 (by decide) (fun c_2 => ?_) (fun c_2 => ?_)
    · have z_c_2 := jc_neq (a := (p0).toInt) (b := (1)) c_2 rfl (by decide)
      refine jj_iload_n C dX7_numbersOf_11 rfl ?_
      refine jj_iconst (v := 3) C dX7_numbersOf_12 (by decide) ?_
      refine jj_icmp_eq (tgt := 26) C dX7_numbersOf_13 (by decide) (fun c_3 => ?_) (fun c_3 => ?_)
      · have z_c_3 := jc_eq (a := (p0).toInt) (b := (3)) c_3 rfl (by decide)
        refine jj_iconst (v := 1) C dX7_numbersOf_26 (by decide) ?_
        refine jj_goto (tgt := 31) C dX7_numbersOf_27 (by decide) ?_
        exact jj_iret C ⟨[], pl0, rfl, rfl, hok, hfr, hfa, (Or.inr (Or.inl ⟨(by first | omega | exact tt_lo _ | exact tt_hi _), (by first | omega | exact tt_lo _ | exact tt_hi _), rfl⟩))⟩ dX7_numbersOf_31 (jj_le rfl) (jj_le rfl)
      · have z_c_3 := jc_neq (a := (p0).toInt) (b := (3)) c_3 rfl (by decide)
        refine jj_iload_n C dX7_numbersOf_16 rfl ?_
        refine jj_iconst (v := 4) C dX7_numbersOf_17 (by decide) ?_
        refine jj_icmp_eq (tgt := 26) C dX7_numbersOf_18 (by decide) (fun c_4 => ?_) (fun c_4 => ?_)
        · have z_c_4 := jc_eq (a := (p0).toInt) (b := (4)) c_4 rfl (by decide)
          refine jj_iconst (v := 1) C dX7_numbersOf_26 (by decide) ?_
          refine jj_goto (tgt := 31) C dX7_numbersOf_27 (by decide) ?_
          exact jj_iret C ⟨[], pl0, rfl, rfl, hok, hfr, hfa, (Or.inr (Or.inl ⟨(by first | omega | exact tt_lo _ | exact tt_hi _), (by first | omega | exact tt_lo _ | exact tt_hi _), rfl⟩))⟩ dX7_numbersOf_31 (jj_le rfl) (jj_le rfl)
        · have z_c_4 := jc_neq (a := (p0).toInt) (b := (4)) c_4 rfl (by decide)
          refine jj_iload_n C dX7_numbersOf_21 rfl ?_
          refine jj_iconst (v := 5) C dX7_numbersOf_22 (by decide) ?_
          refine jj_icmp_ne (tgt := 30) C dX7_numbersOf_23 (by decide) (fun c_5 => ?_) (fun c_5 => ?_)
          · have z_c_5 := jc_neq (a := (p0).toInt) (b := (5)) c_5 rfl (by decide)
            refine jj_iconst (v := 0) C dX7_numbersOf_30 (by decide) ?_
            exact jj_iret C ⟨[], pl0, rfl, rfl, hok, hfr, hfa, (Or.inr (Or.inr ⟨(by first | omega | exact tt_lo _ | exact tt_hi _), (by first | omega | exact tt_lo _ | exact tt_hi _), rfl⟩))⟩ dX7_numbersOf_31 (jj_le rfl) (jj_le rfl)
          · have z_c_5 := jc_eq (a := (p0).toInt) (b := (5)) c_5 rfl (by decide)
            refine jj_iconst (v := 1) C dX7_numbersOf_26 (by decide) ?_
            refine jj_goto (tgt := 31) C dX7_numbersOf_27 (by decide) ?_
            exact jj_iret C ⟨[], pl0, rfl, rfl, hok, hfr, hfa, (Or.inr (Or.inl ⟨(by first | omega | exact tt_lo _ | exact tt_hi _), (by first | omega | exact tt_lo _ | exact tt_hi _), rfl⟩))⟩ dX7_numbersOf_31 (jj_le rfl) (jj_le rfl)
    · have z_c_2 := jc_eq (a := (p0).toInt) (b := (1)) c_2 rfl (by decide)
      refine jj_iconst (v := 2) C dX7_numbersOf_9 (by decide) ?_
      exact jj_iret C ⟨[], pl0, rfl, rfl, hok, hfr, hfa, (Or.inl ⟨(by first | omega | exact tt_lo _ | exact tt_hi _), (by first | omega | exact tt_lo _ | exact tt_hi _), rfl⟩)⟩ dX7_numbersOf_10 (jj_le rfl) (jj_le rfl)

set_option maxHeartbeats 4000000 in
set_option maxRecDepth 100000 in
theorem tc_X7_readNumber_1 {l : Launch} (hl : l.stackTraces = false) (D : va_G) (cA : Nat → ClassId) (ak : (Nat → Nat) × (Nat → Nat)) {Kd : Nat → Nat} (h0 : Nat) (hk0 : Kd h0 = 18) {pl0 : va_W} (hok : tt_ok tt_tk cA Kd pl0) : jj_M l D cA ak yX7_readNumber (.code yX7_readNumber cX7_readNumber 1 (some .boolean)) 2 41 0 0 ([] ++ pl0) [.ref h0] (tt_O (fun rx pl1 r => rx = [] ∧ tt_ok tt_tk cA Kd pl1 ∧ tt_fr Kd [(10, 3), (10, 4), (10, 5), (10, 6)] pl0 pl1 ∧ tt_fa Kd [] pl0 pl1 ∧ ((r = some (.int 0)) ∨ (r = some (.int 1))))) (tt_OX (fun _ _ _ => False)) := by
  refine jj_start hl (by decide) jw_1669b6f2a4 (jj_le rfl) ?_
  intro p e s m args below meth c A hargs hA C hex hmn
  have hfr := tt_fr.refl (K := Kd) (WS := [(10, 3), (10, 4), (10, 5), (10, 6)]) pl0
  have hfa := tt_fa.refl (K := Kd) (WA := []) pl0
  refine jj_aload_n C dX7_readNumber_0 rfl ?_
  refine tt_get C hok jk_8 0 (by decide) jw_d4197f0942 (t := (2, 10, 0)) hk0 (by decide) rfl rfl dX7_readNumber_1 (fun v_1 hv_1 hf_2 => ?_)
  obtain ⟨a_3, rfl, ka_3⟩ := tt_vr hv_1
  obtain ⟨qc, gs, hqc⟩ := tt_recv (cx := []) hok ka_3 (by decide) rfl
  refine tt_callV (rest := []) C (tc_X9_advance_1 hl D cA ak a_3 ka_3 hok) [] [] rfl rfl (by decide) (by decide) (by decide) qc hqc rfl rfl jw_3b7df8d52d jw_37f6ee43e0 jw_46baf1fc7b jw_a9e7b602dc jw_0d4db63612 jn_X9_advance rfl (jj_le rfl) (jj_le rfl) (jj_le rfl) (jj_le rfl) (jj_le rfl) dX7_readNumber_4 rfl (fun _ _ _ hX => hX.elim) (fun rx pl_4 r O_7 => ?_)
  obtain ⟨rfl, hok_5, hr_6, hfa9, hR_9⟩ := O_7
  replace hf_2 := hr_6.at hk0 (by decide) (by decide) hf_2
  replace hfr := hfr.trans (hr_6.sub (by decide))
  replace hfa := hfa.trans (hfa9.sub (by decide))
  obtain rfl := hR_9
  refine jj_aload_n C dX7_readNumber_7 rfl ?_
  refine tt_getF C hok_5 jk_8 0 (by decide) jw_d4197f0942 (t := (2, 10, 0)) hk0 (by decide) rfl rfl hf_2 dX7_readNumber_8 ?_
  refine tt_get C hok_5 jk_10 5 (by decide) jw_134c2f8053 (t := (0, (-2147483648), 2147483647)) ka_3 (by decide) rfl rfl dX7_readNumber_11 (fun v_12 hv_12 hf_13 => ?_)
  obtain ⟨x_14, rfl, lx_14, ux_14⟩ := tt_vi hv_12
  refine jj_iconst (v := 2) C dX7_readNumber_14 (by decide) ?_
  refine jj_icmp_ne (tgt := 33) C dX7_readNumber_15 (by decide) (fun c_15 => ?_) (fun c_15 => ?_)
  · have z_c_15 := jc_neq (a := (x_14).toInt) (b := (2)) c_15 rfl (by decide)
    refine jj_iconst (v := 0) C dX7_readNumber_33 (by decide) ?_
    exact jj_zret C rfl ⟨[], pl_4, rfl, rfl, hok_5, hfr, hfa, (Or.inl rfl)⟩ dX7_readNumber_34 (jj_le rfl) (jj_le rfl)
  · have z_c_15 := jc_eq (a := (x_14).toInt) (b := (2)) c_15 rfl (by decide)
    refine jj_aload_n C dX7_readNumber_18 rfl ?_
    refine tt_getF C hok_5 jk_8 0 (by decide) jw_d4197f0942 (t := (2, 10, 0)) hk0 (by decide) rfl rfl hf_2 dX7_readNumber_19 ?_
    refine tt_get C hok_5 jk_10 6 (by decide) jw_df4da3d6c5 (t := (0, (-2147483648), 2147483647)) ka_3 (by decide) rfl rfl dX7_readNumber_22 (fun v_16 hv_16 hf_17 => ?_)
    obtain ⟨x_18, rfl, lx_18, ux_18⟩ := tt_vi hv_16
    refine jj_iconst (v := (-1)) C dX7_readNumber_25 (by decide) ?_
    refine jj_icmp_eq (tgt := 33) C dX7_readNumber_26 (by decide) (fun c_19 => ?_) (fun c_19 => ?_)
    · have z_c_19 := jc_eq (a := (x_18).toInt) (b := (-1)) c_19 rfl (by decide)
      refine jj_iconst (v := 0) C dX7_readNumber_33 (by decide) ?_
      exact jj_zret C rfl ⟨[], pl_4, rfl, rfl, hok_5, hfr, hfa, (Or.inl rfl)⟩ dX7_readNumber_34 (jj_le rfl) (jj_le rfl)
    · have z_c_19 := jc_neq (a := (x_18).toInt) (b := (-1)) c_19 rfl (by decide)
      refine jj_iconst (v := 1) C dX7_readNumber_29 (by decide) ?_
      refine jj_goto (tgt := 34) C dX7_readNumber_30 (by decide) ?_
      exact jj_zret C rfl ⟨[], pl_4, rfl, rfl, hok_5, hfr, hfa, (Or.inr rfl)⟩ dX7_readNumber_34 (jj_le rfl) (jj_le rfl)

set_option maxHeartbeats 4000000 in
set_option maxRecDepth 100000 in
theorem tc_X7_readOperation_1 {l : Launch} (hl : l.stackTraces = false) (D : va_G) (cA : Nat → ClassId) (ak : (Nat → Nat) × (Nat → Nat)) {Kd : Nat → Nat} (h0 : Nat) (hk0 : Kd h0 = 18) {pl0 : va_W} (hok : tt_ok tt_tk cA Kd pl0) : jj_M l D cA ak yX7_readOperation (.code yX7_readOperation cX7_readOperation 2 (some .boolean)) 6 127 0 0 ([] ++ pl0) [.ref h0] (tt_O (fun rx pl1 r => rx = [] ∧ tt_ok tt_tk cA Kd pl1 ∧ tt_fr Kd [(10, 3), (10, 4), (10, 5), (10, 6), (18, 3), (18, 4), (18, 5)] pl0 pl1 ∧ tt_fa Kd [] pl0 pl1 ∧ ((r = some (.int 0)) ∨ (r = some (.int 1))))) (tt_OX (fun _ _ _ => False)) := by
  refine jj_start hl (by decide) jw_da6eced28d (jj_le rfl) ?_
  intro p e s m args below meth c A hargs hA C hex hmn
  have hfr := tt_fr.refl (K := Kd) (WS := [(10, 3), (10, 4), (10, 5), (10, 6), (18, 3), (18, 4), (18, 5)]) pl0
  have hfa := tt_fa.refl (K := Kd) (WA := []) pl0
  refine jj_aload_n C dX7_readOperation_0 rfl ?_
  refine jj_aload_n C dX7_readOperation_1 rfl ?_
  obtain ⟨qc, gs, hqc⟩ := tt_recv (cx := []) hok hk0 (by decide) rfl
  refine tt_callV (rest := [.ref h0]) C (tc_X7_operationOfWord_1 hl D cA ak h0 hk0 hok) [] [] rfl rfl (by decide) (by decide) (by decide) qc hqc rfl rfl jw_4abd59ac3e jw_26fd6f139e jw_0a655b8643 jw_ab600d7316 jw_2b9411176e jn_X7_operationOfWord rfl (jj_le rfl) (jj_le rfl) (jj_le rfl) (jj_le rfl) (jj_le rfl) dX7_readOperation_2 rfl (fun _ _ _ hX => hX.elim) (fun rx pl_1 r O_4 => ?_)
  obtain ⟨rfl, hok_2, hr_3, hfa9, hR_6⟩ := O_4
  replace hfr := hfr.trans (hr_3.sub (by decide))
  replace hfa := hfa.trans (hfa9.sub (by decide))
  obtain ⟨x_9, lx_9, ux_9, rfl⟩ := hR_6
  refine rl_put C hok_2 jk_8 3 (by decide) jw_ac85adedeb (t := (0, (-2147483648), 2147483647)) hk0 (by decide) rfl rfl rfl (tt_ia x_9) rfl rfl dX7_readOperation_5 (fun pl_10 hok_11 tr hn tl => ?_)
  have hf_12 := hn
  replace hfr := hfr.put hk0 tr (by decide)
  replace hfa := hfa.all tl
  refine jj_aload_n C dX7_readOperation_8 rfl ?_
  refine tt_getF C hok_11 jk_8 3 (by decide) jw_ac85adedeb (t := (0, (-2147483648), 2147483647)) hk0 (by decide) rfl rfl hf_12 dX7_readOperation_9 ?_
  refine jj_iconst (v := (-1)) C dX7_readOperation_12 (by decide) ?_
  refine jj_icmp_ne (tgt := 18) C dX7_readOperation_13 (by decide) (fun c_13 => ?_) (fun c_13 => ?_)
  · have z_c_13 := jc_neq (a := (x_9).toInt) (b := (-1)) c_13 rfl (by decide)
    refine jj_aload_n C dX7_readOperation_18 rfl ?_
    refine tt_getF C hok_11 jk_8 3 (by decide) jw_ac85adedeb (t := (0, (-2147483648), 2147483647)) hk0 (by decide) rfl rfl hf_12 dX7_readOperation_19 ?_
    refine tt_callS (rest := []) C (tc_X7_numbersOf_1 hl D cA ak x_9 (by omega) (by omega) hok_11) [] [] rfl rfl (by decide) (by decide) (by decide) jw_4396b966f4 jw_bbc0911db6 jw_ab600d7316 jw_02dacf5f33 jn_X7_numbersOf rfl (jj_le rfl) (jj_le rfl) (jj_le rfl) (jj_le rfl) (jj_le rfl) dX7_readOperation_22 rfl (fun _ _ _ hX => hX.elim) (fun rx pl_14 r O_17 => ?_)
    obtain ⟨rfl, hok_15, hr_16, hfa9, hR_19⟩ := O_17
    replace hf_12 := hr_16.at hk0 (by decide) (by decide) hf_12
    replace hfr := hfr.trans (hr_16.sub (by decide))
    replace hfa := hfa.trans (hfa9.sub (by decide))
    rcases hR_19 with ⟨l_22, u_23, rfl⟩ | ⟨l_24, u_25, rfl⟩ | ⟨l_26, u_27, rfl⟩
    · refine jj_istore_n C dX7_readOperation_25 (by decide) rfl ?_
      refine jj_iload_n C dX7_readOperation_26 rfl ?_
      refine jj_if_leF (tgt := 50) C dX7_readOperation_27 (by decide) (by decide) ?_
      refine jj_aload_n C dX7_readOperation_30 rfl ?_
      obtain ⟨qc, gs, hqc⟩ := tt_recv (cx := []) hok_15 hk0 (by decide) rfl
      refine tt_callV (rest := []) C (tc_X7_readNumber_1 hl D cA ak h0 hk0 hok_15) [] [] rfl rfl (by decide) (by decide) (by decide) qc hqc rfl rfl jw_1d4bffcdf0 jw_6064299bdc jw_f0258e673c jw_ab600d7316 jw_1669b6f2a4 jn_X7_readNumber rfl (jj_le rfl) (jj_le rfl) (jj_le rfl) (jj_le rfl) (jj_le rfl) dX7_readOperation_31 rfl (fun _ _ _ hX => hX.elim) (fun rx pl_28 r O_31 => ?_)
      obtain ⟨rfl, hok_29, hr_30, hfa9, hR_33⟩ := O_31
      replace hf_12 := hr_30.at hk0 (by decide) (by decide) hf_12
      replace hfr := hfr.trans (hr_30.sub (by decide))
      replace hfa := hfa.trans (hfa9.sub (by decide))
      rcases hR_33 with rfl | rfl
      · refine jj_if_neF (tgt := 39) C dX7_readOperation_34 (by decide) (by decide) ?_
        refine jj_iconst (v := 0) C dX7_readOperation_37 (by decide) ?_
        exact jj_zret C rfl ⟨[], pl_28, rfl, rfl, hok_29, hfr, hfa, (Or.inl rfl)⟩ dX7_readOperation_38 (jj_le rfl) (jj_le rfl)
      · refine jj_if_neT (tgt := 39) C dX7_readOperation_34 (by decide) (by decide) ?_
        refine jj_aload_n C dX7_readOperation_39 rfl ?_
        refine jj_aload_n C dX7_readOperation_40 rfl ?_
        refine tt_get C hok_29 jk_8 0 (by decide) jw_d4197f0942 (t := (2, 10, 0)) hk0 (by decide) rfl rfl dX7_readOperation_41 (fun v_36 hv_36 hf_37 => ?_)
        obtain ⟨a_38, rfl, ka_38⟩ := tt_vr hv_36
        refine tt_get C hok_29 jk_10 6 (by decide) jw_df4da3d6c5 (t := (0, (-2147483648), 2147483647)) ka_38 (by decide) rfl rfl dX7_readOperation_44 (fun v_39 hv_39 hf_40 => ?_)
        obtain ⟨x_41, rfl, lx_41, ux_41⟩ := tt_vi hv_39
        refine rl_put C hok_29 jk_8 4 (by decide) jw_e240581aab (t := (0, (-2147483648), 2147483647)) hk0 (by decide) rfl rfl rfl (tt_ia x_41) rfl rfl dX7_readOperation_47 (fun pl_42 hok_43 tr hn tl => ?_)
        replace hf_12 := tr _ _ _ (Or.inr (by decide)) hf_12
        replace hf_37 := tr _ _ _ (Or.inr (by decide)) hf_37
        replace hf_40 := tr _ _ _ (Or.inl (tt_ne ka_38 hk0 (by decide))) hf_40
        have hf_44 := hn
        replace hfr := hfr.put hk0 tr (by decide)
        replace hfa := hfa.all tl
        refine jj_iload_n C dX7_readOperation_50 rfl ?_
        refine jj_iconst (v := 1) C dX7_readOperation_51 (by decide) ?_
        refine jj_icmp_leF (tgt := 75) C dX7_readOperation_52 (by decide) (by decide) ?_
        refine jj_aload_n C dX7_readOperation_55 rfl ?_
        obtain ⟨qc, gs, hqc⟩ := tt_recv (cx := []) hok_43 hk0 (by decide) rfl
        refine tt_callV (rest := []) C (tc_X7_readNumber_1 hl D cA ak h0 hk0 hok_43) [] [] rfl rfl (by decide) (by decide) (by decide) qc hqc rfl rfl jw_1d4bffcdf0 jw_6064299bdc jw_f0258e673c jw_ab600d7316 jw_1669b6f2a4 jn_X7_readNumber rfl (jj_le rfl) (jj_le rfl) (jj_le rfl) (jj_le rfl) (jj_le rfl) dX7_readOperation_56 rfl (fun _ _ _ hX => hX.elim) (fun rx pl_45 r O_48 => ?_)
        obtain ⟨rfl, hok_46, hr_47, hfa9, hR_50⟩ := O_48
        replace hf_12 := hr_47.at hk0 (by decide) (by decide) hf_12
        replace hf_37 := hr_47.at hk0 (by decide) (by decide) hf_37
        replace hf_44 := hr_47.at hk0 (by decide) (by decide) hf_44
        replace hfr := hfr.trans (hr_47.sub (by decide))
        replace hfa := hfa.trans (hfa9.sub (by decide))
        rcases hR_50 with rfl | rfl
        · refine jj_if_neF (tgt := 64) C dX7_readOperation_59 (by decide) (by decide) ?_
          refine jj_iconst (v := 0) C dX7_readOperation_62 (by decide) ?_
          exact jj_zret C rfl ⟨[], pl_45, rfl, rfl, hok_46, hfr, hfa, (Or.inl rfl)⟩ dX7_readOperation_63 (jj_le rfl) (jj_le rfl)
        · refine jj_if_neT (tgt := 64) C dX7_readOperation_59 (by decide) (by decide) ?_
          refine jj_aload_n C dX7_readOperation_64 rfl ?_
          refine jj_aload_n C dX7_readOperation_65 rfl ?_
          refine tt_getF C hok_46 jk_8 0 (by decide) jw_d4197f0942 (t := (2, 10, 0)) hk0 (by decide) rfl rfl hf_37 dX7_readOperation_66 ?_
          refine tt_get C hok_46 jk_10 6 (by decide) jw_df4da3d6c5 (t := (0, (-2147483648), 2147483647)) ka_38 (by decide) rfl rfl dX7_readOperation_69 (fun v_53 hv_53 hf_54 => ?_)
          obtain ⟨x_55, rfl, lx_55, ux_55⟩ := tt_vi hv_53
          refine rl_put C hok_46 jk_8 5 (by decide) jw_e8f1de6a57 (t := (0, (-2147483648), 2147483647)) hk0 (by decide) rfl rfl rfl (tt_ia x_55) rfl rfl dX7_readOperation_72 (fun pl_56 hok_57 tr hn tl => ?_)
          replace hf_12 := tr _ _ _ (Or.inr (by decide)) hf_12
          replace hf_37 := tr _ _ _ (Or.inr (by decide)) hf_37
          replace hf_44 := tr _ _ _ (Or.inr (by decide)) hf_44
          replace hf_54 := tr _ _ _ (Or.inl (tt_ne ka_38 hk0 (by decide))) hf_54
          have hf_58 := hn
          replace hfr := hfr.put hk0 tr (by decide)
          replace hfa := hfa.all tl
          refine jj_aload_n C dX7_readOperation_75 rfl ?_
          refine tt_getF C hok_57 jk_8 0 (by decide) jw_d4197f0942 (t := (2, 10, 0)) hk0 (by decide) rfl rfl hf_37 dX7_readOperation_76 ?_
          obtain ⟨qc, gs, hqc⟩ := tt_recv (cx := []) hok_57 ka_38 (by decide) rfl
          refine tt_callV (rest := []) C (tc_X9_advance_1 hl D cA ak a_38 ka_38 hok_57) [] [] rfl rfl (by decide) (by decide) (by decide) qc hqc rfl rfl jw_3b7df8d52d jw_37f6ee43e0 jw_46baf1fc7b jw_a9e7b602dc jw_0d4db63612 jn_X9_advance rfl (jj_le rfl) (jj_le rfl) (jj_le rfl) (jj_le rfl) (jj_le rfl) dX7_readOperation_79 rfl (fun _ _ _ hX => hX.elim) (fun rx pl_59 r O_62 => ?_)
          obtain ⟨rfl, hok_60, hr_61, hfa9, hR_64⟩ := O_62
          replace hf_12 := hr_61.at hk0 (by decide) (by decide) hf_12
          replace hf_37 := hr_61.at hk0 (by decide) (by decide) hf_37
          replace hf_44 := hr_61.at hk0 (by decide) (by decide) hf_44
          replace hf_58 := hr_61.at hk0 (by decide) (by decide) hf_58
          replace hfr := hfr.trans (hr_61.sub (by decide))
          replace hfa := hfa.trans (hfa9.sub (by decide))
          obtain rfl := hR_64
          refine jj_aload_n C dX7_readOperation_82 rfl ?_
          refine tt_getF C hok_60 jk_8 0 (by decide) jw_d4197f0942 (t := (2, 10, 0)) hk0 (by decide) rfl rfl hf_37 dX7_readOperation_83 ?_
          refine tt_get C hok_60 jk_10 5 (by decide) jw_134c2f8053 (t := (0, (-2147483648), 2147483647)) ka_38 (by decide) rfl rfl dX7_readOperation_86 (fun v_67 hv_67 hf_68 => ?_)
          obtain ⟨x_69, rfl, lx_69, ux_69⟩ := tt_vi hv_67
          refine jj_iconst (v := 3) C dX7_readOperation_89 (by decide) ?_
          refine jj_icmp_ne (tgt := 97) C dX7_readOperation_90 (by decide) (fun c_70 => ?_) (fun c_70 => ?_)
          · have z_c_70 := jc_neq (a := (x_69).toInt) (b := (3)) c_70 rfl (by decide)
            refine jj_iconst (v := 0) C dX7_readOperation_97 (by decide) ?_
            exact jj_zret C rfl ⟨[], pl_59, rfl, rfl, hok_60, hfr, hfa, (Or.inl rfl)⟩ dX7_readOperation_98 (jj_le rfl) (jj_le rfl)
          · have z_c_70 := jc_eq (a := (x_69).toInt) (b := (3)) c_70 rfl (by decide)
            refine jj_iconst (v := 1) C dX7_readOperation_93 (by decide) ?_
            refine jj_goto (tgt := 98) C dX7_readOperation_94 (by decide) ?_
            exact jj_zret C rfl ⟨[], pl_59, rfl, rfl, hok_60, hfr, hfa, (Or.inr rfl)⟩ dX7_readOperation_98 (jj_le rfl) (jj_le rfl)
    · refine jj_istore_n C dX7_readOperation_25 (by decide) rfl ?_
      refine jj_iload_n C dX7_readOperation_26 rfl ?_
      refine jj_if_leF (tgt := 50) C dX7_readOperation_27 (by decide) (by decide) ?_
      refine jj_aload_n C dX7_readOperation_30 rfl ?_
      obtain ⟨qc, gs, hqc⟩ := tt_recv (cx := []) hok_15 hk0 (by decide) rfl
      refine tt_callV (rest := []) C (tc_X7_readNumber_1 hl D cA ak h0 hk0 hok_15) [] [] rfl rfl (by decide) (by decide) (by decide) qc hqc rfl rfl jw_1d4bffcdf0 jw_6064299bdc jw_f0258e673c jw_ab600d7316 jw_1669b6f2a4 jn_X7_readNumber rfl (jj_le rfl) (jj_le rfl) (jj_le rfl) (jj_le rfl) (jj_le rfl) dX7_readOperation_31 rfl (fun _ _ _ hX => hX.elim) (fun rx pl_71 r O_74 => ?_)
      obtain ⟨rfl, hok_72, hr_73, hfa9, hR_76⟩ := O_74
      replace hf_12 := hr_73.at hk0 (by decide) (by decide) hf_12
      replace hfr := hfr.trans (hr_73.sub (by decide))
      replace hfa := hfa.trans (hfa9.sub (by decide))
      rcases hR_76 with rfl | rfl
      · refine jj_if_neF (tgt := 39) C dX7_readOperation_34 (by decide) (by decide) ?_
        refine jj_iconst (v := 0) C dX7_readOperation_37 (by decide) ?_
        exact jj_zret C rfl ⟨[], pl_71, rfl, rfl, hok_72, hfr, hfa, (Or.inl rfl)⟩ dX7_readOperation_38 (jj_le rfl) (jj_le rfl)
      · refine jj_if_neT (tgt := 39) C dX7_readOperation_34 (by decide) (by decide) ?_
        refine jj_aload_n C dX7_readOperation_39 rfl ?_
        refine jj_aload_n C dX7_readOperation_40 rfl ?_
        refine tt_get C hok_72 jk_8 0 (by decide) jw_d4197f0942 (t := (2, 10, 0)) hk0 (by decide) rfl rfl dX7_readOperation_41 (fun v_79 hv_79 hf_80 => ?_)
        obtain ⟨a_81, rfl, ka_81⟩ := tt_vr hv_79
        refine tt_get C hok_72 jk_10 6 (by decide) jw_df4da3d6c5 (t := (0, (-2147483648), 2147483647)) ka_81 (by decide) rfl rfl dX7_readOperation_44 (fun v_82 hv_82 hf_83 => ?_)
        obtain ⟨x_84, rfl, lx_84, ux_84⟩ := tt_vi hv_82
        refine rl_put C hok_72 jk_8 4 (by decide) jw_e240581aab (t := (0, (-2147483648), 2147483647)) hk0 (by decide) rfl rfl rfl (tt_ia x_84) rfl rfl dX7_readOperation_47 (fun pl_85 hok_86 tr hn tl => ?_)
        replace hf_12 := tr _ _ _ (Or.inr (by decide)) hf_12
        replace hf_80 := tr _ _ _ (Or.inr (by decide)) hf_80
        replace hf_83 := tr _ _ _ (Or.inl (tt_ne ka_81 hk0 (by decide))) hf_83
        have hf_87 := hn
        replace hfr := hfr.put hk0 tr (by decide)
        replace hfa := hfa.all tl
        refine jj_iload_n C dX7_readOperation_50 rfl ?_
        refine jj_iconst (v := 1) C dX7_readOperation_51 (by decide) ?_
        refine jj_icmp_leT (tgt := 75) C dX7_readOperation_52 (by decide) (by decide) ?_
        refine jj_aload_n C dX7_readOperation_75 rfl ?_
        refine tt_getF C hok_86 jk_8 0 (by decide) jw_d4197f0942 (t := (2, 10, 0)) hk0 (by decide) rfl rfl hf_80 dX7_readOperation_76 ?_
        obtain ⟨qc, gs, hqc⟩ := tt_recv (cx := []) hok_86 ka_81 (by decide) rfl
        refine tt_callV (rest := []) C (tc_X9_advance_1 hl D cA ak a_81 ka_81 hok_86) [] [] rfl rfl (by decide) (by decide) (by decide) qc hqc rfl rfl jw_3b7df8d52d jw_37f6ee43e0 jw_46baf1fc7b jw_a9e7b602dc jw_0d4db63612 jn_X9_advance rfl (jj_le rfl) (jj_le rfl) (jj_le rfl) (jj_le rfl) (jj_le rfl) dX7_readOperation_79 rfl (fun _ _ _ hX => hX.elim) (fun rx pl_88 r O_91 => ?_)
        obtain ⟨rfl, hok_89, hr_90, hfa9, hR_93⟩ := O_91
        replace hf_12 := hr_90.at hk0 (by decide) (by decide) hf_12
        replace hf_80 := hr_90.at hk0 (by decide) (by decide) hf_80
        replace hf_87 := hr_90.at hk0 (by decide) (by decide) hf_87
        replace hfr := hfr.trans (hr_90.sub (by decide))
        replace hfa := hfa.trans (hfa9.sub (by decide))
        obtain rfl := hR_93
        refine jj_aload_n C dX7_readOperation_82 rfl ?_
        refine tt_getF C hok_89 jk_8 0 (by decide) jw_d4197f0942 (t := (2, 10, 0)) hk0 (by decide) rfl rfl hf_80 dX7_readOperation_83 ?_
        refine tt_get C hok_89 jk_10 5 (by decide) jw_134c2f8053 (t := (0, (-2147483648), 2147483647)) ka_81 (by decide) rfl rfl dX7_readOperation_86 (fun v_96 hv_96 hf_97 => ?_)
        obtain ⟨x_98, rfl, lx_98, ux_98⟩ := tt_vi hv_96
        refine jj_iconst (v := 3) C dX7_readOperation_89 (by decide) ?_
        refine jj_icmp_ne (tgt := 97) C dX7_readOperation_90 (by decide) (fun c_99 => ?_) (fun c_99 => ?_)
        · have z_c_99 := jc_neq (a := (x_98).toInt) (b := (3)) c_99 rfl (by decide)
          refine jj_iconst (v := 0) C dX7_readOperation_97 (by decide) ?_
          exact jj_zret C rfl ⟨[], pl_88, rfl, rfl, hok_89, hfr, hfa, (Or.inl rfl)⟩ dX7_readOperation_98 (jj_le rfl) (jj_le rfl)
        · have z_c_99 := jc_eq (a := (x_98).toInt) (b := (3)) c_99 rfl (by decide)
          refine jj_iconst (v := 1) C dX7_readOperation_93 (by decide) ?_
          refine jj_goto (tgt := 98) C dX7_readOperation_94 (by decide) ?_
          exact jj_zret C rfl ⟨[], pl_88, rfl, rfl, hok_89, hfr, hfa, (Or.inr rfl)⟩ dX7_readOperation_98 (jj_le rfl) (jj_le rfl)
    · refine jj_istore_n C dX7_readOperation_25 (by decide) rfl ?_
      refine jj_iload_n C dX7_readOperation_26 rfl ?_
      refine jj_if_leT (tgt := 50) C dX7_readOperation_27 (by decide) (by decide) ?_
      refine jj_iload_n C dX7_readOperation_50 rfl ?_
      refine jj_iconst (v := 1) C dX7_readOperation_51 (by decide) ?_
      refine jj_icmp_leT (tgt := 75) C dX7_readOperation_52 (by decide) (by decide) ?_
      refine jj_aload_n C dX7_readOperation_75 rfl ?_
      refine tt_get C hok_15 jk_8 0 (by decide) jw_d4197f0942 (t := (2, 10, 0)) hk0 (by decide) rfl rfl dX7_readOperation_76 (fun v_100 hv_100 hf_101 => ?_)
      obtain ⟨a_102, rfl, ka_102⟩ := tt_vr hv_100
      obtain ⟨qc, gs, hqc⟩ := tt_recv (cx := []) hok_15 ka_102 (by decide) rfl
      refine tt_callV (rest := []) C (tc_X9_advance_1 hl D cA ak a_102 ka_102 hok_15) [] [] rfl rfl (by decide) (by decide) (by decide) qc hqc rfl rfl jw_3b7df8d52d jw_37f6ee43e0 jw_46baf1fc7b jw_a9e7b602dc jw_0d4db63612 jn_X9_advance rfl (jj_le rfl) (jj_le rfl) (jj_le rfl) (jj_le rfl) (jj_le rfl) dX7_readOperation_79 rfl (fun _ _ _ hX => hX.elim) (fun rx pl_103 r O_106 => ?_)
      obtain ⟨rfl, hok_104, hr_105, hfa9, hR_108⟩ := O_106
      replace hf_12 := hr_105.at hk0 (by decide) (by decide) hf_12
      replace hf_101 := hr_105.at hk0 (by decide) (by decide) hf_101
      replace hfr := hfr.trans (hr_105.sub (by decide))
      replace hfa := hfa.trans (hfa9.sub (by decide))
      obtain rfl := hR_108
      refine jj_aload_n C dX7_readOperation_82 rfl ?_
      refine tt_getF C hok_104 jk_8 0 (by decide) jw_d4197f0942 (t := (2, 10, 0)) hk0 (by decide) rfl rfl hf_101 dX7_readOperation_83 ?_
      refine tt_get C hok_104 jk_10 5 (by decide) jw_134c2f8053 (t := (0, (-2147483648), 2147483647)) ka_102 (by decide) rfl rfl dX7_readOperation_86 (fun v_111 hv_111 hf_112 => ?_)
      obtain ⟨x_113, rfl, lx_113, ux_113⟩ := tt_vi hv_111
      refine jj_iconst (v := 3) C dX7_readOperation_89 (by decide) ?_
      refine jj_icmp_ne (tgt := 97) C dX7_readOperation_90 (by decide) (fun c_114 => ?_) (fun c_114 => ?_)
      · have z_c_114 := jc_neq (a := (x_113).toInt) (b := (3)) c_114 rfl (by decide)
        refine jj_iconst (v := 0) C dX7_readOperation_97 (by decide) ?_
        exact jj_zret C rfl ⟨[], pl_103, rfl, rfl, hok_104, hfr, hfa, (Or.inl rfl)⟩ dX7_readOperation_98 (jj_le rfl) (jj_le rfl)
      · have z_c_114 := jc_eq (a := (x_113).toInt) (b := (3)) c_114 rfl (by decide)
        refine jj_iconst (v := 1) C dX7_readOperation_93 (by decide) ?_
        refine jj_goto (tgt := 98) C dX7_readOperation_94 (by decide) ?_
        exact jj_zret C rfl ⟨[], pl_103, rfl, rfl, hok_104, hfr, hfa, (Or.inr rfl)⟩ dX7_readOperation_98 (jj_le rfl) (jj_le rfl)
  · have z_c_13 := jc_eq (a := (x_9).toInt) (b := (-1)) c_13 rfl (by decide)
    refine jj_iconst (v := 0) C dX7_readOperation_16 (by decide) ?_
    exact jj_zret C rfl ⟨[], pl_10, rfl, rfl, hok_11, hfr, hfa, (Or.inl rfl)⟩ dX7_readOperation_17 (jj_le rfl) (jj_le rfl)

set_option maxHeartbeats 4000000 in
set_option maxRecDepth 100000 in
theorem tc_X7_fault_1 {l : Launch} (hl : l.stackTraces = false) (D : va_G) (cA : Nat → ClassId) (ak : (Nat → Nat) × (Nat → Nat)) {Kd : Nat → Nat} (h0 : Nat) (hk0 : Kd h0 = 18) {pl0 : va_W} (hok : tt_ok tt_tk cA Kd pl0) : jj_M l D cA ak yX7_fault (.code yX7_fault cX7_fault 1 (some .int)) 2 46 0 0 ([] ++ pl0) [.ref h0] (tt_O (fun rx pl1 r => rx = [] ∧ tt_ok tt_tk cA Kd pl1 ∧ tt_fr Kd [] pl0 pl1 ∧ tt_fa Kd [] pl0 pl1 ∧ ((r = some (.int 1)) ∨ (r = some (.int 2)) ∨ (r = some (.int 0)) ∨ (r = some (.int 3))))) (tt_OX (fun _ _ _ => False)) := by
  refine jj_start hl (by decide) jw_c8c917d40e (jj_le rfl) ?_
  intro p e s m args below meth c A hargs hA C hex hmn
  have hfr := tt_fr.refl (K := Kd) (WS := []) pl0
  have hfa := tt_fa.refl (K := Kd) (WA := []) pl0
  refine jj_aload_n C dX7_fault_0 rfl ?_
  refine tt_get C hok jk_8 3 (by decide) jw_ac85adedeb (t := (0, (-2147483648), 2147483647)) hk0 (by decide) rfl rfl dX7_fault_1 (fun v_1 hv_1 hf_2 => ?_)
  obtain ⟨x_3, rfl, lx_3, ux_3⟩ := tt_vi hv_1
  rcases jj_em (x_3 = 0) with c_4 | c_4
  · refine jj_tableIn (tgt := 44) C dX7_fault_4 (by rw [c_4]; decide) (by rw [c_4]; decide) (by rw [c_4]; rfl) (by decide) ?_
    refine jj_aload_n C dX7_fault_44 rfl ?_
    refine tt_get C hok jk_8 1 (by decide) jw_26f46c26b3 (t := (2, 1, 0)) hk0 (by decide) rfl rfl dX7_fault_45 (fun v_5 hv_5 hf_6 => ?_)
    obtain ⟨a_7, rfl, ka_7⟩ := tt_vr hv_5
    refine jj_aload_n C dX7_fault_48 rfl ?_
    refine tt_get C hok jk_8 4 (by decide) jw_e240581aab (t := (0, (-2147483648), 2147483647)) hk0 (by decide) rfl rfl dX7_fault_49 (fun v_8 hv_8 hf_9 => ?_)
    obtain ⟨x_10, rfl, lx_10, ux_10⟩ := tt_vi hv_8
    refine jj_aload_n C dX7_fault_52 rfl ?_
    refine tt_get C hok jk_8 5 (by decide) jw_e8f1de6a57 (t := (0, (-2147483648), 2147483647)) hk0 (by decide) rfl rfl dX7_fault_53 (fun v_11 hv_11 hf_12 => ?_)
    obtain ⟨x_13, rfl, lx_13, ux_13⟩ := tt_vi hv_11
    obtain ⟨qc, gs, hqc⟩ := tt_recv (cx := []) hok ka_7 (by decide) rfl
    refine tt_callV (rest := []) C (tc_X0_subscriptionFault_1 hl D cA ak a_7 x_10 x_13 ka_7 hok) [] [] rfl rfl (by decide) (by decide) (by decide) qc hqc rfl rfl jw_f5a257f58c jw_0f470cf99b jw_b41d0555cc jw_7d25d4fd32 jw_29c1f216db jn_X0_subscriptionFault rfl (jj_le rfl) (jj_le rfl) (jj_le rfl) (jj_le rfl) (jj_le rfl) dX7_fault_56 rfl (fun _ _ _ hX => hX.elim) (fun rx pl_14 r O_17 => ?_)
    obtain ⟨rfl, hok_15, hr_16, hfa9, hR_19⟩ := O_17
    replace hf_2 := hr_16.at hk0 (by decide) (by decide) hf_2
    replace hf_6 := hr_16.at hk0 (by decide) (by decide) hf_6
    replace hf_9 := hr_16.at hk0 (by decide) (by decide) hf_9
    replace hf_12 := hr_16.at hk0 (by decide) (by decide) hf_12
    replace hfr := hfr.trans (hr_16.sub (by decide))
    replace hfa := hfa.trans (hfa9.sub (by decide))
    rcases hR_19 with rfl | ⟨l_22, u_23, rfl⟩ | ⟨l_24, u_25, l_26, u_27, rfl⟩ | ⟨l_28, u_29, l_30, u_31, rfl⟩
    · exact jj_iret C ⟨[], pl_14, rfl, rfl, hok_15, hfr, hfa, (Or.inl rfl)⟩ dX7_fault_59 (jj_le rfl) (jj_le rfl)
    · exact jj_iret C ⟨[], pl_14, rfl, rfl, hok_15, hfr, hfa, (Or.inr (Or.inl rfl))⟩ dX7_fault_59 (jj_le rfl) (jj_le rfl)
    · exact jj_iret C ⟨[], pl_14, rfl, rfl, hok_15, hfr, hfa, (Or.inr (Or.inr (Or.inl rfl)))⟩ dX7_fault_59 (jj_le rfl) (jj_le rfl)
    · exact jj_iret C ⟨[], pl_14, rfl, rfl, hok_15, hfr, hfa, (Or.inr (Or.inr (Or.inr rfl)))⟩ dX7_fault_59 (jj_le rfl) (jj_le rfl)
  rcases jj_em (x_3 = 1) with c_32 | c_32
  · refine jj_tableIn (tgt := 60) C dX7_fault_4 (by rw [c_32]; decide) (by rw [c_32]; decide) (by rw [c_32]; rfl) (by decide) ?_
    refine jj_aload_n C dX7_fault_60 rfl ?_
    refine tt_get C hok jk_8 1 (by decide) jw_26f46c26b3 (t := (2, 1, 0)) hk0 (by decide) rfl rfl dX7_fault_61 (fun v_33 hv_33 hf_34 => ?_)
    obtain ⟨a_35, rfl, ka_35⟩ := tt_vr hv_33
    refine jj_aload_n C dX7_fault_64 rfl ?_
    refine tt_get C hok jk_8 4 (by decide) jw_e240581aab (t := (0, (-2147483648), 2147483647)) hk0 (by decide) rfl rfl dX7_fault_65 (fun v_36 hv_36 hf_37 => ?_)
    obtain ⟨x_38, rfl, lx_38, ux_38⟩ := tt_vi hv_36
    refine jj_aload_n C dX7_fault_68 rfl ?_
    refine tt_get C hok jk_8 5 (by decide) jw_e8f1de6a57 (t := (0, (-2147483648), 2147483647)) hk0 (by decide) rfl rfl dX7_fault_69 (fun v_39 hv_39 hf_40 => ?_)
    obtain ⟨x_41, rfl, lx_41, ux_41⟩ := tt_vi hv_39
    obtain ⟨qc, gs, hqc⟩ := tt_recv (cx := []) hok ka_35 (by decide) rfl
    refine tt_callV (rest := []) C (tc_X0_redemptionFault_1 hl D cA ak a_35 x_38 x_41 ka_35 hok) [] [] rfl rfl (by decide) (by decide) (by decide) qc hqc rfl rfl jw_8ec37529cd jw_bffdf410dc jw_694d163040 jw_7d25d4fd32 jw_e45bbd4879 jn_X0_redemptionFault rfl (jj_le rfl) (jj_le rfl) (jj_le rfl) (jj_le rfl) (jj_le rfl) dX7_fault_72 rfl (fun _ _ _ hX => hX.elim) (fun rx pl_42 r O_45 => ?_)
    obtain ⟨rfl, hok_43, hr_44, hfa9, hR_47⟩ := O_45
    replace hf_2 := hr_44.at hk0 (by decide) (by decide) hf_2
    replace hf_34 := hr_44.at hk0 (by decide) (by decide) hf_34
    replace hf_37 := hr_44.at hk0 (by decide) (by decide) hf_37
    replace hf_40 := hr_44.at hk0 (by decide) (by decide) hf_40
    replace hfr := hfr.trans (hr_44.sub (by decide))
    replace hfa := hfa.trans (hfa9.sub (by decide))
    rcases hR_47 with rfl | ⟨l_50, u_51, rfl⟩ | ⟨l_52, u_53, l_54, u_55, rfl⟩ | ⟨l_56, u_57, l_58, u_59, rfl⟩
    · exact jj_iret C ⟨[], pl_42, rfl, rfl, hok_43, hfr, hfa, (Or.inl rfl)⟩ dX7_fault_75 (jj_le rfl) (jj_le rfl)
    · exact jj_iret C ⟨[], pl_42, rfl, rfl, hok_43, hfr, hfa, (Or.inr (Or.inl rfl))⟩ dX7_fault_75 (jj_le rfl) (jj_le rfl)
    · exact jj_iret C ⟨[], pl_42, rfl, rfl, hok_43, hfr, hfa, (Or.inr (Or.inr (Or.inl rfl)))⟩ dX7_fault_75 (jj_le rfl) (jj_le rfl)
    · exact jj_iret C ⟨[], pl_42, rfl, rfl, hok_43, hfr, hfa, (Or.inr (Or.inr (Or.inr rfl)))⟩ dX7_fault_75 (jj_le rfl) (jj_le rfl)
  rcases jj_em (x_3 = 2) with c_60 | c_60
  · refine jj_tableIn (tgt := 109) C dX7_fault_4 (by rw [c_60]; decide) (by rw [c_60]; decide) (by rw [c_60]; rfl) (by decide) ?_
    refine jj_iconst (v := 0) C dX7_fault_109 (by decide) ?_
    exact jj_iret C ⟨[], pl0, rfl, rfl, hok, hfr, hfa, (Or.inr (Or.inr (Or.inl rfl)))⟩ dX7_fault_110 (jj_le rfl) (jj_le rfl)
  rcases jj_em (x_3 = 3) with c_61 | c_61
  · refine jj_tableIn (tgt := 76) C dX7_fault_4 (by rw [c_61]; decide) (by rw [c_61]; decide) (by rw [c_61]; rfl) (by decide) ?_
    refine jj_aload_n C dX7_fault_76 rfl ?_
    refine tt_get C hok jk_8 1 (by decide) jw_26f46c26b3 (t := (2, 1, 0)) hk0 (by decide) rfl rfl dX7_fault_77 (fun v_62 hv_62 hf_63 => ?_)
    obtain ⟨a_64, rfl, ka_64⟩ := tt_vr hv_62
    refine jj_aload_n C dX7_fault_80 rfl ?_
    refine tt_get C hok jk_8 4 (by decide) jw_e240581aab (t := (0, (-2147483648), 2147483647)) hk0 (by decide) rfl rfl dX7_fault_81 (fun v_65 hv_65 hf_66 => ?_)
    obtain ⟨x_67, rfl, lx_67, ux_67⟩ := tt_vi hv_65
    refine tt_callS (rest := []) C (tc_X2_earningFault_1 hl D cA ak a_64 x_67 ka_64 hok) [] [] rfl rfl (by decide) (by decide) (by decide) jw_7e6bed2b50 jw_49509baa4c jw_79af3f4029 jw_4786ed9c56 jn_X2_earningFault rfl (jj_le rfl) (jj_le rfl) (jj_le rfl) (jj_le rfl) (jj_le rfl) dX7_fault_84 rfl (fun _ _ _ hX => hX.elim) (fun rx pl_68 r O_71 => ?_)
    obtain ⟨rfl, hok_69, hr_70, hfa9, hR_73⟩ := O_71
    replace hf_2 := hr_70.at hk0 (by decide) (by decide) hf_2
    replace hf_63 := hr_70.at hk0 (by decide) (by decide) hf_63
    replace hf_66 := hr_70.at hk0 (by decide) (by decide) hf_66
    replace hfr := hfr.trans (hr_70.sub (by decide))
    replace hfa := hfa.trans (hfa9.sub (by decide))
    rcases hR_73 with rfl | ⟨l_76, u_77, rfl⟩ | ⟨l_78, u_79, rfl⟩
    · exact jj_iret C ⟨[], pl_68, rfl, rfl, hok_69, hfr, hfa, (Or.inr (Or.inl rfl))⟩ dX7_fault_87 (jj_le rfl) (jj_le rfl)
    · exact jj_iret C ⟨[], pl_68, rfl, rfl, hok_69, hfr, hfa, (Or.inr (Or.inr (Or.inl rfl)))⟩ dX7_fault_87 (jj_le rfl) (jj_le rfl)
    · exact jj_iret C ⟨[], pl_68, rfl, rfl, hok_69, hfr, hfa, (Or.inr (Or.inr (Or.inr rfl)))⟩ dX7_fault_87 (jj_le rfl) (jj_le rfl)
  rcases jj_em (x_3 = 4) with c_80 | c_80
  · refine jj_tableIn (tgt := 88) C dX7_fault_4 (by rw [c_80]; decide) (by rw [c_80]; decide) (by rw [c_80]; rfl) (by decide) ?_
    refine jj_aload_n C dX7_fault_88 rfl ?_
    refine tt_get C hok jk_8 1 (by decide) jw_26f46c26b3 (t := (2, 1, 0)) hk0 (by decide) rfl rfl dX7_fault_89 (fun v_81 hv_81 hf_82 => ?_)
    obtain ⟨a_83, rfl, ka_83⟩ := tt_vr hv_81
    refine jj_aload_n C dX7_fault_92 rfl ?_
    refine tt_get C hok jk_8 4 (by decide) jw_e240581aab (t := (0, (-2147483648), 2147483647)) hk0 (by decide) rfl rfl dX7_fault_93 (fun v_84 hv_84 hf_85 => ?_)
    obtain ⟨x_86, rfl, lx_86, ux_86⟩ := tt_vi hv_84
    obtain ⟨x_87, ex_87⟩ : ∃ z : Int32, -x_86 = z := ⟨_, rfl⟩
    refine jj_ineg (v := x_87) C dX7_fault_96 ex_87 ?_
    refine tt_callS (rest := []) C (tc_X2_earningFault_1 hl D cA ak a_83 x_87 ka_83 hok) [] [] rfl rfl (by decide) (by decide) (by decide) jw_7e6bed2b50 jw_49509baa4c jw_79af3f4029 jw_4786ed9c56 jn_X2_earningFault rfl (jj_le rfl) (jj_le rfl) (jj_le rfl) (jj_le rfl) (jj_le rfl) dX7_fault_97 rfl (fun _ _ _ hX => hX.elim) (fun rx pl_88 r O_91 => ?_)
    obtain ⟨rfl, hok_89, hr_90, hfa9, hR_93⟩ := O_91
    replace hf_2 := hr_90.at hk0 (by decide) (by decide) hf_2
    replace hf_82 := hr_90.at hk0 (by decide) (by decide) hf_82
    replace hf_85 := hr_90.at hk0 (by decide) (by decide) hf_85
    replace hfr := hfr.trans (hr_90.sub (by decide))
    replace hfa := hfa.trans (hfa9.sub (by decide))
    rcases hR_93 with rfl | ⟨l_96, u_97, rfl⟩ | ⟨l_98, u_99, rfl⟩
    · exact jj_iret C ⟨[], pl_88, rfl, rfl, hok_89, hfr, hfa, (Or.inr (Or.inl rfl))⟩ dX7_fault_100 (jj_le rfl) (jj_le rfl)
    · exact jj_iret C ⟨[], pl_88, rfl, rfl, hok_89, hfr, hfa, (Or.inr (Or.inr (Or.inl rfl)))⟩ dX7_fault_100 (jj_le rfl) (jj_le rfl)
    · exact jj_iret C ⟨[], pl_88, rfl, rfl, hok_89, hfr, hfa, (Or.inr (Or.inr (Or.inr rfl)))⟩ dX7_fault_100 (jj_le rfl) (jj_le rfl)
  rcases jj_em (x_3 = 5) with c_100 | c_100
  · refine jj_tableIn (tgt := 101) C dX7_fault_4 (by rw [c_100]; decide) (by rw [c_100]; decide) (by rw [c_100]; rfl) (by decide) ?_
    refine jj_aload_n C dX7_fault_101 rfl ?_
    refine tt_get C hok jk_8 4 (by decide) jw_e240581aab (t := (0, (-2147483648), 2147483647)) hk0 (by decide) rfl rfl dX7_fault_102 (fun v_101 hv_101 hf_102 => ?_)
    obtain ⟨x_103, rfl, lx_103, ux_103⟩ := tt_vi hv_101
    refine tt_callS (rest := []) C (tc_X2_passingFault_1 hl D cA ak x_103 hok) [] [] rfl rfl (by decide) (by decide) (by decide) jw_33478a1171 jw_e26adf7707 jw_79af3f4029 jw_a8c5e8379d jn_X2_passingFault rfl (jj_le rfl) (jj_le rfl) (jj_le rfl) (jj_le rfl) (jj_le rfl) dX7_fault_105 rfl (fun _ _ _ hX => hX.elim) (fun rx pl_104 r O_107 => ?_)
    obtain ⟨rfl, hok_105, hr_106, hfa9, hR_109⟩ := O_107
    replace hf_2 := hr_106.at hk0 (by decide) (by decide) hf_2
    replace hf_102 := hr_106.at hk0 (by decide) (by decide) hf_102
    replace hfr := hfr.trans (hr_106.sub (by decide))
    replace hfa := hfa.trans (hfa9.sub (by decide))
    rcases hR_109 with rfl | ⟨l_112, u_113, rfl⟩
    · exact jj_iret C ⟨[], pl_104, rfl, rfl, hok_105, hfr, hfa, (Or.inr (Or.inl rfl))⟩ dX7_fault_108 (jj_le rfl) (jj_le rfl)
    · exact jj_iret C ⟨[], pl_104, rfl, rfl, hok_105, hfr, hfa, (Or.inr (Or.inr (Or.inl rfl)))⟩ dX7_fault_108 (jj_le rfl) (jj_le rfl)
  refine jj_tableOut (tgt := 109) C dX7_fault_4 (by have zc_4 := lv_neT (a := 0) c_4 (by decide); have zc_32 := lv_neT (a := 1) c_32 (by decide); have zc_60 := lv_neT (a := 2) c_60 (by decide); have zc_61 := lv_neT (a := 3) c_61 (by decide); have zc_80 := lv_neT (a := 4) c_80 (by decide); have zc_100 := lv_neT (a := 5) c_100 (by decide); omega) (by decide) ?_
  refine jj_iconst (v := 0) C dX7_fault_109 (by decide) ?_
  exact jj_iret C ⟨[], pl0, rfl, rfl, hok, hfr, hfa, (Or.inr (Or.inr (Or.inl rfl)))⟩ dX7_fault_110 (jj_le rfl) (jj_le rfl)

