set_option maxHeartbeats 4000000 in
set_option maxRecDepth 100000 in
theorem tc_X9_isWord_6 {l : Launch} (hl : l.stackTraces = false) (D : va_G) (cA : Nat → ClassId) (ak : (Nat → Nat) × (Nat → Nat)) {Kd : Nat → Nat} (h0 : Nat) (hk0 : Kd h0 = 10) {pl0 : va_W} (hok : tt_ok tt_tk cA Kd pl0) : jj_M l D cA ak yX9_isWord (.code yX9_isWord cX9_isWord 3 (some .boolean)) 4 85 0 0 ([] ++ pl0) [.ref h0, .ref (ak.1 5)] (tt_O (fun rx pl1 r => rx = [] ∧ tt_ok tt_tk cA Kd pl1 ∧ tt_fr Kd [] pl0 pl1 ∧ tt_fa Kd [] pl0 pl1 ∧ ((r = some (.int 0)) ∨ (r = some (.int 1))))) (tt_OX (fun _ _ _ => False)) := by
  refine jj_start hl (by decide) jw_ce1c1f12e9 (jj_le rfl) ?_
  intro p e s m args below meth c A hargs hA C hex hmn
  have hfr := tt_fr.refl (K := Kd) (WS := []) pl0
  have hfa := tt_fa.refl (K := Kd) (WA := []) pl0
  refine jj_aload_n C dX9_isWord_0 rfl ?_
  refine tt_get C hok jk_10 5 (by decide) jw_bde5c0d1a5 (t := (0, (-2147483648), 2147483647)) hk0 (by decide) rfl rfl dX9_isWord_1 (fun v_1 hv_1 hf_2 => ?_)
  obtain ⟨x_3, rfl, lx_3, ux_3⟩ := tt_vi hv_1
  refine jj_iconst (v := 1) C dX9_isWord_4 (by decide) ?_
  refine jj_icmp_ne (tgt := 24) C dX9_isWord_5 (by decide) (fun c_4 => ?_) (fun c_4 => ?_)
  · have z_c_4 := jc_neq (a := (x_3).toInt) (b := (1)) c_4 rfl (by decide)
    refine jj_iconst (v := 0) C dX9_isWord_24 (by decide) ?_
    exact jj_zret C rfl ⟨[], pl0, rfl, rfl, hok, hfr, hfa, (Or.inl rfl)⟩ dX9_isWord_25 (jj_le rfl) (jj_le rfl)
  · have z_c_4 := jc_eq (a := (x_3).toInt) (b := (1)) c_4 rfl (by decide)
    refine jj_aload_n C dX9_isWord_8 rfl ?_
    refine tt_get C hok jk_10 3 (by decide) jw_f99bd0ca2b (t := (0, 0, 400)) hk0 (by decide) rfl rfl dX9_isWord_9 (fun v_5 hv_5 hf_6 => ?_)
    obtain ⟨x_7, rfl, lx_7, ux_7⟩ := tt_vi hv_5
    refine jj_aload_n C dX9_isWord_12 rfl ?_
    refine tt_get C hok jk_10 4 (by decide) jw_66bda6962a (t := (0, 0, 400)) hk0 (by decide) rfl rfl dX9_isWord_13 (fun v_8 hv_8 hf_9 => ?_)
    obtain ⟨x_10, rfl, lx_10, ux_10⟩ := tt_vi hv_8
    obtain ⟨x_11, ex_11, vx_11⟩ := tt_isub (x := x_7) (y := x_10) (a := x_7.toInt) rfl (b := x_10.toInt) rfl (by omega) (by omega)
    refine jj_isub (v := x_11) C dX9_isWord_16 ex_11 ?_
    refine jj_aload_n C dX9_isWord_17 rfl ?_
    refine tt_call0Vs (rest := [.int x_11]) C (ct_J0_length_8abf5_6 hl D cA ak) 5 (by decide) rfl jw_f27063fded jw_b1ce304435 jw_d08f03a22e jw_4ea6285965 jw_bbc7045666 jn_J0_length_8abf5 rfl (jj_le rfl) (jj_le rfl) (jj_le rfl) (jj_le rfl) (jj_le rfl) dX9_isWord_18 rfl (fun w1 r O_12 => ?_)
    obtain ⟨-, rfl⟩ := O_12
    refine jj_icmp_eq (tgt := 26) C dX9_isWord_21 (by decide) (fun c_13 => ?_) (fun c_13 => ?_)
    · have z_c_13 := jc_eq (a := (x_11).toInt) (b := (9)) c_13 rfl (by decide)
      refine jj_iconst (v := 0) C dX9_isWord_26 (by decide) ?_
      refine jj_istore_n C dX9_isWord_27 (by decide) rfl ?_
      refine jj_iload_n C dX9_isWord_28 rfl ?_
      refine jj_aload_n C dX9_isWord_29 rfl ?_
      refine tt_call0Vs (rest := [.int 0]) C (ct_J0_length_8abf5_6 hl D cA ak) 5 (by decide) rfl jw_f27063fded jw_b1ce304435 jw_d08f03a22e jw_4ea6285965 jw_bbc7045666 jn_J0_length_8abf5 rfl (jj_le rfl) (jj_le rfl) (jj_le rfl) (jj_le rfl) (jj_le rfl) dX9_isWord_30 rfl (fun w1 r O_14 => ?_)
      obtain ⟨-, rfl⟩ := O_14
      refine jj_icmp_geF (tgt := 63) C dX9_isWord_33 (by decide) (by decide) ?_
      refine jj_aload_n C dX9_isWord_36 rfl ?_
      refine tt_get C hok jk_10 0 (by decide) jw_0664e1e086 (t := (2, 11, 0)) hk0 (by decide) rfl rfl dX9_isWord_37 (fun v_15 hv_15 hf_16 => ?_)
      obtain ⟨a_17, rfl, ka_17⟩ := tt_vr hv_15
      refine jj_aload_n C dX9_isWord_40 rfl ?_
      refine tt_getF C hok jk_10 4 (by decide) jw_66bda6962a (t := (0, 0, 400)) hk0 (by decide) rfl rfl hf_9 dX9_isWord_41 ?_
      refine jj_iload_n C dX9_isWord_44 rfl ?_
      obtain ⟨x_18, ex_18, vx_18⟩ := tt_iadd (x := x_10) (y := (0 : Int32)) (a := x_10.toInt) rfl (b := 0) (by decide) (by omega) (by omega)
      refine jj_iadd (v := x_18) C dX9_isWord_45 ex_18 ?_
      refine tt_cald C hok (t := (0, (-2147483648), 2147483647)) ka_17 (by decide) rfl (vp_in_iff.mpr ⟨by omega, by omega⟩) dX9_isWord_46 (fun v_19 hv_19 => ?_)
      refine jj_aload_n C dX9_isWord_47 rfl ?_
      refine jj_iload_n C dX9_isWord_48 rfl ?_
      refine tt_call0Vs (rest := [.int v_19]) C (ct_J0_charAt_5068e_34 hl D cA ak) 5 (by decide) rfl jw_076e8de8e0 jw_acb9174fef jw_675efe837b jw_4ea6285965 jw_391c0f56bd jn_J0_charAt_5068e rfl (jj_le rfl) (jj_le rfl) (jj_le rfl) (jj_le rfl) (jj_le rfl) dX9_isWord_49 rfl (fun w1 r O_20 => ?_)
      obtain ⟨-, rfl⟩ := O_20
      refine jj_icmp_eq (tgt := 57) C dX9_isWord_52 (by decide) (fun c_21 => ?_) (fun c_21 => ?_)
      · have z_c_21 := jc_eq (a := (v_19).toInt) (b := (115)) c_21 rfl (by decide)
        refine jj_iinc (v := 1) C dX9_isWord_57 rfl (by decide) (by decide) rfl ?_
        refine jj_goto (tgt := 28) C dX9_isWord_60 (by decide) ?_
        refine jj_iload_n C dX9_isWord_28 rfl ?_
        refine jj_aload_n C dX9_isWord_29 rfl ?_
        refine tt_call0Vs (rest := [.int 1]) C (ct_J0_length_8abf5_6 hl D cA ak) 5 (by decide) rfl jw_f27063fded jw_b1ce304435 jw_d08f03a22e jw_4ea6285965 jw_bbc7045666 jn_J0_length_8abf5 rfl (jj_le rfl) (jj_le rfl) (jj_le rfl) (jj_le rfl) (jj_le rfl) dX9_isWord_30 rfl (fun w1 r O_22 => ?_)
        obtain ⟨-, rfl⟩ := O_22
        refine jj_icmp_geF (tgt := 63) C dX9_isWord_33 (by decide) (by decide) ?_
        refine jj_aload_n C dX9_isWord_36 rfl ?_
        refine tt_getF C hok jk_10 0 (by decide) jw_0664e1e086 (t := (2, 11, 0)) hk0 (by decide) rfl rfl hf_16 dX9_isWord_37 ?_
        refine jj_aload_n C dX9_isWord_40 rfl ?_
        refine tt_getF C hok jk_10 4 (by decide) jw_66bda6962a (t := (0, 0, 400)) hk0 (by decide) rfl rfl hf_9 dX9_isWord_41 ?_
        refine jj_iload_n C dX9_isWord_44 rfl ?_
        obtain ⟨x_23, ex_23, vx_23⟩ := tt_iadd (x := x_10) (y := (1 : Int32)) (a := x_10.toInt) rfl (b := 1) (by decide) (by omega) (by omega)
        refine jj_iadd (v := x_23) C dX9_isWord_45 ex_23 ?_
        refine tt_cald C hok (t := (0, (-2147483648), 2147483647)) ka_17 (by decide) rfl (vp_in_iff.mpr ⟨by omega, by omega⟩) dX9_isWord_46 (fun v_24 hv_24 => ?_)
        refine jj_aload_n C dX9_isWord_47 rfl ?_
        refine jj_iload_n C dX9_isWord_48 rfl ?_
        refine tt_call0Vs (rest := [.int v_24]) C (ct_J0_charAt_5068e_35 hl D cA ak) 5 (by decide) rfl jw_076e8de8e0 jw_acb9174fef jw_675efe837b jw_4ea6285965 jw_391c0f56bd jn_J0_charAt_5068e rfl (jj_le rfl) (jj_le rfl) (jj_le rfl) (jj_le rfl) (jj_le rfl) dX9_isWord_49 rfl (fun w1 r O_25 => ?_)
        obtain ⟨-, rfl⟩ := O_25
        refine jj_icmp_eq (tgt := 57) C dX9_isWord_52 (by decide) (fun c_26 => ?_) (fun c_26 => ?_)
        · have z_c_26 := jc_eq (a := (v_24).toInt) (b := (117)) c_26 rfl (by decide)
          refine jj_iinc (v := 2) C dX9_isWord_57 rfl (by decide) (by decide) rfl ?_
          refine jj_goto (tgt := 28) C dX9_isWord_60 (by decide) ?_
          refine jj_iload_n C dX9_isWord_28 rfl ?_
          refine jj_aload_n C dX9_isWord_29 rfl ?_
          refine tt_call0Vs (rest := [.int 2]) C (ct_J0_length_8abf5_6 hl D cA ak) 5 (by decide) rfl jw_f27063fded jw_b1ce304435 jw_d08f03a22e jw_4ea6285965 jw_bbc7045666 jn_J0_length_8abf5 rfl (jj_le rfl) (jj_le rfl) (jj_le rfl) (jj_le rfl) (jj_le rfl) dX9_isWord_30 rfl (fun w1 r O_27 => ?_)
          obtain ⟨-, rfl⟩ := O_27
          refine jj_icmp_geF (tgt := 63) C dX9_isWord_33 (by decide) (by decide) ?_
          refine jj_aload_n C dX9_isWord_36 rfl ?_
          refine tt_getF C hok jk_10 0 (by decide) jw_0664e1e086 (t := (2, 11, 0)) hk0 (by decide) rfl rfl hf_16 dX9_isWord_37 ?_
          refine jj_aload_n C dX9_isWord_40 rfl ?_
          refine tt_getF C hok jk_10 4 (by decide) jw_66bda6962a (t := (0, 0, 400)) hk0 (by decide) rfl rfl hf_9 dX9_isWord_41 ?_
          refine jj_iload_n C dX9_isWord_44 rfl ?_
          obtain ⟨x_28, ex_28, vx_28⟩ := tt_iadd (x := x_10) (y := (2 : Int32)) (a := x_10.toInt) rfl (b := 2) (by decide) (by omega) (by omega)
          refine jj_iadd (v := x_28) C dX9_isWord_45 ex_28 ?_
          refine tt_cald C hok (t := (0, (-2147483648), 2147483647)) ka_17 (by decide) rfl (vp_in_iff.mpr ⟨by omega, by omega⟩) dX9_isWord_46 (fun v_29 hv_29 => ?_)
          refine jj_aload_n C dX9_isWord_47 rfl ?_
          refine jj_iload_n C dX9_isWord_48 rfl ?_
          refine tt_call0Vs (rest := [.int v_29]) C (ct_J0_charAt_5068e_36 hl D cA ak) 5 (by decide) rfl jw_076e8de8e0 jw_acb9174fef jw_675efe837b jw_4ea6285965 jw_391c0f56bd jn_J0_charAt_5068e rfl (jj_le rfl) (jj_le rfl) (jj_le rfl) (jj_le rfl) (jj_le rfl) dX9_isWord_49 rfl (fun w1 r O_30 => ?_)
          obtain ⟨-, rfl⟩ := O_30
          refine jj_icmp_eq (tgt := 57) C dX9_isWord_52 (by decide) (fun c_31 => ?_) (fun c_31 => ?_)
          · have z_c_31 := jc_eq (a := (v_29).toInt) (b := (98)) c_31 rfl (by decide)
            refine jj_iinc (v := 3) C dX9_isWord_57 rfl (by decide) (by decide) rfl ?_
            refine jj_goto (tgt := 28) C dX9_isWord_60 (by decide) ?_
            refine jj_iload_n C dX9_isWord_28 rfl ?_
            refine jj_aload_n C dX9_isWord_29 rfl ?_
            refine tt_call0Vs (rest := [.int 3]) C (ct_J0_length_8abf5_6 hl D cA ak) 5 (by decide) rfl jw_f27063fded jw_b1ce304435 jw_d08f03a22e jw_4ea6285965 jw_bbc7045666 jn_J0_length_8abf5 rfl (jj_le rfl) (jj_le rfl) (jj_le rfl) (jj_le rfl) (jj_le rfl) dX9_isWord_30 rfl (fun w1 r O_32 => ?_)
            obtain ⟨-, rfl⟩ := O_32
            refine jj_icmp_geF (tgt := 63) C dX9_isWord_33 (by decide) (by decide) ?_
            refine jj_aload_n C dX9_isWord_36 rfl ?_
            refine tt_getF C hok jk_10 0 (by decide) jw_0664e1e086 (t := (2, 11, 0)) hk0 (by decide) rfl rfl hf_16 dX9_isWord_37 ?_
            refine jj_aload_n C dX9_isWord_40 rfl ?_
            refine tt_getF C hok jk_10 4 (by decide) jw_66bda6962a (t := (0, 0, 400)) hk0 (by decide) rfl rfl hf_9 dX9_isWord_41 ?_
            refine jj_iload_n C dX9_isWord_44 rfl ?_
            obtain ⟨x_33, ex_33, vx_33⟩ := tt_iadd (x := x_10) (y := (3 : Int32)) (a := x_10.toInt) rfl (b := 3) (by decide) (by omega) (by omega)
            refine jj_iadd (v := x_33) C dX9_isWord_45 ex_33 ?_
            refine tt_cald C hok (t := (0, (-2147483648), 2147483647)) ka_17 (by decide) rfl (vp_in_iff.mpr ⟨by omega, by omega⟩) dX9_isWord_46 (fun v_34 hv_34 => ?_)
            refine jj_aload_n C dX9_isWord_47 rfl ?_
            refine jj_iload_n C dX9_isWord_48 rfl ?_
            refine tt_call0Vs (rest := [.int v_34]) C (ct_J0_charAt_5068e_37 hl D cA ak) 5 (by decide) rfl jw_076e8de8e0 jw_acb9174fef jw_675efe837b jw_4ea6285965 jw_391c0f56bd jn_J0_charAt_5068e rfl (jj_le rfl) (jj_le rfl) (jj_le rfl) (jj_le rfl) (jj_le rfl) dX9_isWord_49 rfl (fun w1 r O_35 => ?_)
            obtain ⟨-, rfl⟩ := O_35
            refine jj_icmp_eq (tgt := 57) C dX9_isWord_52 (by decide) (fun c_36 => ?_) (fun c_36 => ?_)
            · have z_c_36 := jc_eq (a := (v_34).toInt) (b := (115)) c_36 rfl (by decide)
              refine jj_iinc (v := 4) C dX9_isWord_57 rfl (by decide) (by decide) rfl ?_
              refine jj_goto (tgt := 28) C dX9_isWord_60 (by decide) ?_
              refine jj_iload_n C dX9_isWord_28 rfl ?_
              refine jj_aload_n C dX9_isWord_29 rfl ?_
              refine tt_call0Vs (rest := [.int 4]) C (ct_J0_length_8abf5_6 hl D cA ak) 5 (by decide) rfl jw_f27063fded jw_b1ce304435 jw_d08f03a22e jw_4ea6285965 jw_bbc7045666 jn_J0_length_8abf5 rfl (jj_le rfl) (jj_le rfl) (jj_le rfl) (jj_le rfl) (jj_le rfl) dX9_isWord_30 rfl (fun w1 r O_37 => ?_)
              obtain ⟨-, rfl⟩ := O_37
              refine jj_icmp_geF (tgt := 63) C dX9_isWord_33 (by decide) (by decide) ?_
              refine jj_aload_n C dX9_isWord_36 rfl ?_
              refine tt_getF C hok jk_10 0 (by decide) jw_0664e1e086 (t := (2, 11, 0)) hk0 (by decide) rfl rfl hf_16 dX9_isWord_37 ?_
              refine jj_aload_n C dX9_isWord_40 rfl ?_
              refine tt_getF C hok jk_10 4 (by decide) jw_66bda6962a (t := (0, 0, 400)) hk0 (by decide) rfl rfl hf_9 dX9_isWord_41 ?_
              refine jj_iload_n C dX9_isWord_44 rfl ?_
              obtain ⟨x_38, ex_38, vx_38⟩ := tt_iadd (x := x_10) (y := (4 : Int32)) (a := x_10.toInt) rfl (b := 4) (by decide) (by omega) (by omega)
              refine jj_iadd (v := x_38) C dX9_isWord_45 ex_38 ?_
              refine tt_cald C hok (t := (0, (-2147483648), 2147483647)) ka_17 (by decide) rfl (vp_in_iff.mpr ⟨by omega, by omega⟩) dX9_isWord_46 (fun v_39 hv_39 => ?_)
              refine jj_aload_n C dX9_isWord_47 rfl ?_
              refine jj_iload_n C dX9_isWord_48 rfl ?_
              refine tt_call0Vs (rest := [.int v_39]) C (ct_J0_charAt_5068e_38 hl D cA ak) 5 (by decide) rfl jw_076e8de8e0 jw_acb9174fef jw_675efe837b jw_4ea6285965 jw_391c0f56bd jn_J0_charAt_5068e rfl (jj_le rfl) (jj_le rfl) (jj_le rfl) (jj_le rfl) (jj_le rfl) dX9_isWord_49 rfl (fun w1 r O_40 => ?_)
              obtain ⟨-, rfl⟩ := O_40
              refine jj_icmp_eq (tgt := 57) C dX9_isWord_52 (by decide) (fun c_41 => ?_) (fun c_41 => ?_)
              · have z_c_41 := jc_eq (a := (v_39).toInt) (b := (99)) c_41 rfl (by decide)
                refine jj_iinc (v := 5) C dX9_isWord_57 rfl (by decide) (by decide) rfl ?_
                refine jj_goto (tgt := 28) C dX9_isWord_60 (by decide) ?_
                refine jj_iload_n C dX9_isWord_28 rfl ?_
                refine jj_aload_n C dX9_isWord_29 rfl ?_
                refine tt_call0Vs (rest := [.int 5]) C (ct_J0_length_8abf5_6 hl D cA ak) 5 (by decide) rfl jw_f27063fded jw_b1ce304435 jw_d08f03a22e jw_4ea6285965 jw_bbc7045666 jn_J0_length_8abf5 rfl (jj_le rfl) (jj_le rfl) (jj_le rfl) (jj_le rfl) (jj_le rfl) dX9_isWord_30 rfl (fun w1 r O_42 => ?_)
                obtain ⟨-, rfl⟩ := O_42
                refine jj_icmp_geF (tgt := 63) C dX9_isWord_33 (by decide) (by decide) ?_
                refine jj_aload_n C dX9_isWord_36 rfl ?_
                refine tt_getF C hok jk_10 0 (by decide) jw_0664e1e086 (t := (2, 11, 0)) hk0 (by decide) rfl rfl hf_16 dX9_isWord_37 ?_
                refine jj_aload_n C dX9_isWord_40 rfl ?_
                refine tt_getF C hok jk_10 4 (by decide) jw_66bda6962a (t := (0, 0, 400)) hk0 (by decide) rfl rfl hf_9 dX9_isWord_41 ?_
                refine jj_iload_n C dX9_isWord_44 rfl ?_
                obtain ⟨x_43, ex_43, vx_43⟩ := tt_iadd (x := x_10) (y := (5 : Int32)) (a := x_10.toInt) rfl (b := 5) (by decide) (by omega) (by omega)
                refine jj_iadd (v := x_43) C dX9_isWord_45 ex_43 ?_
                refine tt_cald C hok (t := (0, (-2147483648), 2147483647)) ka_17 (by decide) rfl (vp_in_iff.mpr ⟨by omega, by omega⟩) dX9_isWord_46 (fun v_44 hv_44 => ?_)
                refine jj_aload_n C dX9_isWord_47 rfl ?_
                refine jj_iload_n C dX9_isWord_48 rfl ?_
                refine tt_call0Vs (rest := [.int v_44]) C (ct_J0_charAt_5068e_39 hl D cA ak) 5 (by decide) rfl jw_076e8de8e0 jw_acb9174fef jw_675efe837b jw_4ea6285965 jw_391c0f56bd jn_J0_charAt_5068e rfl (jj_le rfl) (jj_le rfl) (jj_le rfl) (jj_le rfl) (jj_le rfl) dX9_isWord_49 rfl (fun w1 r O_45 => ?_)
                obtain ⟨-, rfl⟩ := O_45
                refine jj_icmp_eq (tgt := 57) C dX9_isWord_52 (by decide) (fun c_46 => ?_) (fun c_46 => ?_)
                · have z_c_46 := jc_eq (a := (v_44).toInt) (b := (114)) c_46 rfl (by decide)
                  refine jj_iinc (v := 6) C dX9_isWord_57 rfl (by decide) (by decide) rfl ?_
                  refine jj_goto (tgt := 28) C dX9_isWord_60 (by decide) ?_
                  refine jj_iload_n C dX9_isWord_28 rfl ?_
                  refine jj_aload_n C dX9_isWord_29 rfl ?_
                  refine tt_call0Vs (rest := [.int 6]) C (ct_J0_length_8abf5_6 hl D cA ak) 5 (by decide) rfl jw_f27063fded jw_b1ce304435 jw_d08f03a22e jw_4ea6285965 jw_bbc7045666 jn_J0_length_8abf5 rfl (jj_le rfl) (jj_le rfl) (jj_le rfl) (jj_le rfl) (jj_le rfl) dX9_isWord_30 rfl (fun w1 r O_47 => ?_)
                  obtain ⟨-, rfl⟩ := O_47
                  refine jj_icmp_geF (tgt := 63) C dX9_isWord_33 (by decide) (by decide) ?_
                  refine jj_aload_n C dX9_isWord_36 rfl ?_
                  refine tt_getF C hok jk_10 0 (by decide) jw_0664e1e086 (t := (2, 11, 0)) hk0 (by decide) rfl rfl hf_16 dX9_isWord_37 ?_
                  refine jj_aload_n C dX9_isWord_40 rfl ?_
                  refine tt_getF C hok jk_10 4 (by decide) jw_66bda6962a (t := (0, 0, 400)) hk0 (by decide) rfl rfl hf_9 dX9_isWord_41 ?_
                  refine jj_iload_n C dX9_isWord_44 rfl ?_
                  obtain ⟨x_48, ex_48, vx_48⟩ := tt_iadd (x := x_10) (y := (6 : Int32)) (a := x_10.toInt) rfl (b := 6) (by decide) (by omega) (by omega)
                  refine jj_iadd (v := x_48) C dX9_isWord_45 ex_48 ?_
                  refine tt_cald C hok (t := (0, (-2147483648), 2147483647)) ka_17 (by decide) rfl (vp_in_iff.mpr ⟨by omega, by omega⟩) dX9_isWord_46 (fun v_49 hv_49 => ?_)
                  refine jj_aload_n C dX9_isWord_47 rfl ?_
                  refine jj_iload_n C dX9_isWord_48 rfl ?_
                  refine tt_call0Vs (rest := [.int v_49]) C (ct_J0_charAt_5068e_40 hl D cA ak) 5 (by decide) rfl jw_076e8de8e0 jw_acb9174fef jw_675efe837b jw_4ea6285965 jw_391c0f56bd jn_J0_charAt_5068e rfl (jj_le rfl) (jj_le rfl) (jj_le rfl) (jj_le rfl) (jj_le rfl) dX9_isWord_49 rfl (fun w1 r O_50 => ?_)
                  obtain ⟨-, rfl⟩ := O_50
                  refine jj_icmp_eq (tgt := 57) C dX9_isWord_52 (by decide) (fun c_51 => ?_) (fun c_51 => ?_)
                  · have z_c_51 := jc_eq (a := (v_49).toInt) (b := (105)) c_51 rfl (by decide)
                    refine jj_iinc (v := 7) C dX9_isWord_57 rfl (by decide) (by decide) rfl ?_
                    refine jj_goto (tgt := 28) C dX9_isWord_60 (by decide) ?_
                    refine jj_iload_n C dX9_isWord_28 rfl ?_
                    refine jj_aload_n C dX9_isWord_29 rfl ?_
                    refine tt_call0Vs (rest := [.int 7]) C (ct_J0_length_8abf5_6 hl D cA ak) 5 (by decide) rfl jw_f27063fded jw_b1ce304435 jw_d08f03a22e jw_4ea6285965 jw_bbc7045666 jn_J0_length_8abf5 rfl (jj_le rfl) (jj_le rfl) (jj_le rfl) (jj_le rfl) (jj_le rfl) dX9_isWord_30 rfl (fun w1 r O_52 => ?_)
                    obtain ⟨-, rfl⟩ := O_52
                    refine jj_icmp_geF (tgt := 63) C dX9_isWord_33 (by decide) (by decide) ?_
                    refine jj_aload_n C dX9_isWord_36 rfl ?_
                    refine tt_getF C hok jk_10 0 (by decide) jw_0664e1e086 (t := (2, 11, 0)) hk0 (by decide) rfl rfl hf_16 dX9_isWord_37 ?_
                    refine jj_aload_n C dX9_isWord_40 rfl ?_
                    refine tt_getF C hok jk_10 4 (by decide) jw_66bda6962a (t := (0, 0, 400)) hk0 (by decide) rfl rfl hf_9 dX9_isWord_41 ?_
                    refine jj_iload_n C dX9_isWord_44 rfl ?_
                    obtain ⟨x_53, ex_53, vx_53⟩ := tt_iadd (x := x_10) (y := (7 : Int32)) (a := x_10.toInt) rfl (b := 7) (by decide) (by omega) (by omega)
                    refine jj_iadd (v := x_53) C dX9_isWord_45 ex_53 ?_
                    refine tt_cald C hok (t := (0, (-2147483648), 2147483647)) ka_17 (by decide) rfl (vp_in_iff.mpr ⟨by omega, by omega⟩) dX9_isWord_46 (fun v_54 hv_54 => ?_)
                    refine jj_aload_n C dX9_isWord_47 rfl ?_
                    refine jj_iload_n C dX9_isWord_48 rfl ?_
                    refine tt_call0Vs (rest := [.int v_54]) C (ct_J0_charAt_5068e_41 hl D cA ak) 5 (by decide) rfl jw_076e8de8e0 jw_acb9174fef jw_675efe837b jw_4ea6285965 jw_391c0f56bd jn_J0_charAt_5068e rfl (jj_le rfl) (jj_le rfl) (jj_le rfl) (jj_le rfl) (jj_le rfl) dX9_isWord_49 rfl (fun w1 r O_55 => ?_)
                    obtain ⟨-, rfl⟩ := O_55
                    refine jj_icmp_eq (tgt := 57) C dX9_isWord_52 (by decide) (fun c_56 => ?_) (fun c_56 => ?_)
                    · have z_c_56 := jc_eq (a := (v_54).toInt) (b := (98)) c_56 rfl (by decide)
                      refine jj_iinc (v := 8) C dX9_isWord_57 rfl (by decide) (by decide) rfl ?_
                      refine jj_goto (tgt := 28) C dX9_isWord_60 (by decide) ?_
                      refine jj_iload_n C dX9_isWord_28 rfl ?_
                      refine jj_aload_n C dX9_isWord_29 rfl ?_
                      refine tt_call0Vs (rest := [.int 8]) C (ct_J0_length_8abf5_6 hl D cA ak) 5 (by decide) rfl jw_f27063fded jw_b1ce304435 jw_d08f03a22e jw_4ea6285965 jw_bbc7045666 jn_J0_length_8abf5 rfl (jj_le rfl) (jj_le rfl) (jj_le rfl) (jj_le rfl) (jj_le rfl) dX9_isWord_30 rfl (fun w1 r O_57 => ?_)
                      obtain ⟨-, rfl⟩ := O_57
                      refine jj_icmp_geF (tgt := 63) C dX9_isWord_33 (by decide) (by decide) ?_
                      refine jj_aload_n C dX9_isWord_36 rfl ?_
                      refine tt_getF C hok jk_10 0 (by decide) jw_0664e1e086 (t := (2, 11, 0)) hk0 (by decide) rfl rfl hf_16 dX9_isWord_37 ?_
                      refine jj_aload_n C dX9_isWord_40 rfl ?_
                      refine tt_getF C hok jk_10 4 (by decide) jw_66bda6962a (t := (0, 0, 400)) hk0 (by decide) rfl rfl hf_9 dX9_isWord_41 ?_
                      refine jj_iload_n C dX9_isWord_44 rfl ?_
                      obtain ⟨x_58, ex_58, vx_58⟩ := tt_iadd (x := x_10) (y := (8 : Int32)) (a := x_10.toInt) rfl (b := 8) (by decide) (by omega) (by omega)
                      refine jj_iadd (v := x_58) C dX9_isWord_45 ex_58 ?_
                      refine tt_cald C hok (t := (0, (-2147483648), 2147483647)) ka_17 (by decide) rfl (vp_in_iff.mpr ⟨by omega, by omega⟩) dX9_isWord_46 (fun v_59 hv_59 => ?_)
                      refine jj_aload_n C dX9_isWord_47 rfl ?_
                      refine jj_iload_n C dX9_isWord_48 rfl ?_
                      refine tt_call0Vs (rest := [.int v_59]) C (ct_J0_charAt_5068e_42 hl D cA ak) 5 (by decide) rfl jw_076e8de8e0 jw_acb9174fef jw_675efe837b jw_4ea6285965 jw_391c0f56bd jn_J0_charAt_5068e rfl (jj_le rfl) (jj_le rfl) (jj_le rfl) (jj_le rfl) (jj_le rfl) dX9_isWord_49 rfl (fun w1 r O_60 => ?_)
                      obtain ⟨-, rfl⟩ := O_60
                      refine jj_icmp_eq (tgt := 57) C dX9_isWord_52 (by decide) (fun c_61 => ?_) (fun c_61 => ?_)
                      · have z_c_61 := jc_eq (a := (v_59).toInt) (b := (101)) c_61 rfl (by decide)
                        refine jj_iinc (v := 9) C dX9_isWord_57 rfl (by decide) (by decide) rfl ?_
                        refine jj_goto (tgt := 28) C dX9_isWord_60 (by decide) ?_
                        refine jj_iload_n C dX9_isWord_28 rfl ?_
                        refine jj_aload_n C dX9_isWord_29 rfl ?_
                        refine tt_call0Vs (rest := [.int 9]) C (ct_J0_length_8abf5_6 hl D cA ak) 5 (by decide) rfl jw_f27063fded jw_b1ce304435 jw_d08f03a22e jw_4ea6285965 jw_bbc7045666 jn_J0_length_8abf5 rfl (jj_le rfl) (jj_le rfl) (jj_le rfl) (jj_le rfl) (jj_le rfl) dX9_isWord_30 rfl (fun w1 r O_62 => ?_)
                        obtain ⟨-, rfl⟩ := O_62
                        refine jj_icmp_geT (tgt := 63) C dX9_isWord_33 (by decide) (by decide) ?_
                        refine jj_iconst (v := 1) C dX9_isWord_63 (by decide) ?_
                        exact jj_zret C rfl ⟨[], pl0, rfl, rfl, hok, hfr, hfa, (Or.inr rfl)⟩ dX9_isWord_64 (jj_le rfl) (jj_le rfl)
                      · have z_c_61 := jc_neq (a := (v_59).toInt) (b := (101)) c_61 rfl (by decide)
                        refine jj_iconst (v := 0) C dX9_isWord_55 (by decide) ?_
                        exact jj_zret C rfl ⟨[], pl0, rfl, rfl, hok, hfr, hfa, (Or.inl rfl)⟩ dX9_isWord_56 (jj_le rfl) (jj_le rfl)
                    · have z_c_56 := jc_neq (a := (v_54).toInt) (b := (98)) c_56 rfl (by decide)
                      refine jj_iconst (v := 0) C dX9_isWord_55 (by decide) ?_
                      exact jj_zret C rfl ⟨[], pl0, rfl, rfl, hok, hfr, hfa, (Or.inl rfl)⟩ dX9_isWord_56 (jj_le rfl) (jj_le rfl)
                  · have z_c_51 := jc_neq (a := (v_49).toInt) (b := (105)) c_51 rfl (by decide)
                    refine jj_iconst (v := 0) C dX9_isWord_55 (by decide) ?_
                    exact jj_zret C rfl ⟨[], pl0, rfl, rfl, hok, hfr, hfa, (Or.inl rfl)⟩ dX9_isWord_56 (jj_le rfl) (jj_le rfl)
                · have z_c_46 := jc_neq (a := (v_44).toInt) (b := (114)) c_46 rfl (by decide)
                  refine jj_iconst (v := 0) C dX9_isWord_55 (by decide) ?_
                  exact jj_zret C rfl ⟨[], pl0, rfl, rfl, hok, hfr, hfa, (Or.inl rfl)⟩ dX9_isWord_56 (jj_le rfl) (jj_le rfl)
              · have z_c_41 := jc_neq (a := (v_39).toInt) (b := (99)) c_41 rfl (by decide)
                refine jj_iconst (v := 0) C dX9_isWord_55 (by decide) ?_
                exact jj_zret C rfl ⟨[], pl0, rfl, rfl, hok, hfr, hfa, (Or.inl rfl)⟩ dX9_isWord_56 (jj_le rfl) (jj_le rfl)
            · have z_c_36 := jc_neq (a := (v_34).toInt) (b := (115)) c_36 rfl (by decide)
              refine jj_iconst (v := 0) C dX9_isWord_55 (by decide) ?_
              exact jj_zret C rfl ⟨[], pl0, rfl, rfl, hok, hfr, hfa, (Or.inl rfl)⟩ dX9_isWord_56 (jj_le rfl) (jj_le rfl)
          · have z_c_31 := jc_neq (a := (v_29).toInt) (b := (98)) c_31 rfl (by decide)
            refine jj_iconst (v := 0) C dX9_isWord_55 (by decide) ?_
            exact jj_zret C rfl ⟨[], pl0, rfl, rfl, hok, hfr, hfa, (Or.inl rfl)⟩ dX9_isWord_56 (jj_le rfl) (jj_le rfl)
        · have z_c_26 := jc_neq (a := (v_24).toInt) (b := (117)) c_26 rfl (by decide)
          refine jj_iconst (v := 0) C dX9_isWord_55 (by decide) ?_
          exact jj_zret C rfl ⟨[], pl0, rfl, rfl, hok, hfr, hfa, (Or.inl rfl)⟩ dX9_isWord_56 (jj_le rfl) (jj_le rfl)
      · have z_c_21 := jc_neq (a := (v_19).toInt) (b := (115)) c_21 rfl (by decide)
        refine jj_iconst (v := 0) C dX9_isWord_55 (by decide) ?_
        exact jj_zret C rfl ⟨[], pl0, rfl, rfl, hok, hfr, hfa, (Or.inl rfl)⟩ dX9_isWord_56 (jj_le rfl) (jj_le rfl)
    · have z_c_13 := jc_neq (a := (x_11).toInt) (b := (9)) c_13 rfl (by decide)
      refine jj_iconst (v := 0) C dX9_isWord_24 (by decide) ?_
      exact jj_zret C rfl ⟨[], pl0, rfl, rfl, hok, hfr, hfa, (Or.inl rfl)⟩ dX9_isWord_25 (jj_le rfl) (jj_le rfl)

set_option maxHeartbeats 4000000 in
set_option maxRecDepth 100000 in
theorem tc_X9_isWord_7 {l : Launch} (hl : l.stackTraces = false) (D : va_G) (cA : Nat → ClassId) (ak : (Nat → Nat) × (Nat → Nat)) {Kd : Nat → Nat} (h0 : Nat) (hk0 : Kd h0 = 10) {pl0 : va_W} (hok : tt_ok tt_tk cA Kd pl0) : jj_M l D cA ak yX9_isWord (.code yX9_isWord cX9_isWord 3 (some .boolean)) 4 85 0 0 ([] ++ pl0) [.ref h0, .ref (ak.1 6)] (tt_O (fun rx pl1 r => rx = [] ∧ tt_ok tt_tk cA Kd pl1 ∧ tt_fr Kd [] pl0 pl1 ∧ tt_fa Kd [] pl0 pl1 ∧ ((r = some (.int 0)) ∨ (r = some (.int 1))))) (tt_OX (fun _ _ _ => False)) := by
  refine jj_start hl (by decide) jw_ce1c1f12e9 (jj_le rfl) ?_
  intro p e s m args below meth c A hargs hA C hex hmn
  have hfr := tt_fr.refl (K := Kd) (WS := []) pl0
  have hfa := tt_fa.refl (K := Kd) (WA := []) pl0
  refine jj_aload_n C dX9_isWord_0 rfl ?_
  refine tt_get C hok jk_10 5 (by decide) jw_bde5c0d1a5 (t := (0, (-2147483648), 2147483647)) hk0 (by decide) rfl rfl dX9_isWord_1 (fun v_1 hv_1 hf_2 => ?_)
  obtain ⟨x_3, rfl, lx_3, ux_3⟩ := tt_vi hv_1
  refine jj_iconst (v := 1) C dX9_isWord_4 (by decide) ?_
  refine jj_icmp_ne (tgt := 24) C dX9_isWord_5 (by decide) (fun c_4 => ?_) (fun c_4 => ?_)
  · have z_c_4 := jc_neq (a := (x_3).toInt) (b := (1)) c_4 rfl (by decide)
    refine jj_iconst (v := 0) C dX9_isWord_24 (by decide) ?_
    exact jj_zret C rfl ⟨[], pl0, rfl, rfl, hok, hfr, hfa, (Or.inl rfl)⟩ dX9_isWord_25 (jj_le rfl) (jj_le rfl)
  · have z_c_4 := jc_eq (a := (x_3).toInt) (b := (1)) c_4 rfl (by decide)
    refine jj_aload_n C dX9_isWord_8 rfl ?_
    refine tt_get C hok jk_10 3 (by decide) jw_f99bd0ca2b (t := (0, 0, 400)) hk0 (by decide) rfl rfl dX9_isWord_9 (fun v_5 hv_5 hf_6 => ?_)
    obtain ⟨x_7, rfl, lx_7, ux_7⟩ := tt_vi hv_5
    refine jj_aload_n C dX9_isWord_12 rfl ?_
    refine tt_get C hok jk_10 4 (by decide) jw_66bda6962a (t := (0, 0, 400)) hk0 (by decide) rfl rfl dX9_isWord_13 (fun v_8 hv_8 hf_9 => ?_)
    obtain ⟨x_10, rfl, lx_10, ux_10⟩ := tt_vi hv_8
    obtain ⟨x_11, ex_11, vx_11⟩ := tt_isub (x := x_7) (y := x_10) (a := x_7.toInt) rfl (b := x_10.toInt) rfl (by omega) (by omega)
    refine jj_isub (v := x_11) C dX9_isWord_16 ex_11 ?_
    refine jj_aload_n C dX9_isWord_17 rfl ?_
    refine tt_call0Vs (rest := [.int x_11]) C (ct_J0_length_8abf5_7 hl D cA ak) 6 (by decide) rfl jw_f27063fded jw_b1ce304435 jw_d08f03a22e jw_4ea6285965 jw_bbc7045666 jn_J0_length_8abf5 rfl (jj_le rfl) (jj_le rfl) (jj_le rfl) (jj_le rfl) (jj_le rfl) dX9_isWord_18 rfl (fun w1 r O_12 => ?_)
    obtain ⟨-, rfl⟩ := O_12
    refine jj_icmp_eq (tgt := 26) C dX9_isWord_21 (by decide) (fun c_13 => ?_) (fun c_13 => ?_)
    · have z_c_13 := jc_eq (a := (x_11).toInt) (b := (6)) c_13 rfl (by decide)
      refine jj_iconst (v := 0) C dX9_isWord_26 (by decide) ?_
      refine jj_istore_n C dX9_isWord_27 (by decide) rfl ?_
      refine jj_iload_n C dX9_isWord_28 rfl ?_
      refine jj_aload_n C dX9_isWord_29 rfl ?_
      refine tt_call0Vs (rest := [.int 0]) C (ct_J0_length_8abf5_7 hl D cA ak) 6 (by decide) rfl jw_f27063fded jw_b1ce304435 jw_d08f03a22e jw_4ea6285965 jw_bbc7045666 jn_J0_length_8abf5 rfl (jj_le rfl) (jj_le rfl) (jj_le rfl) (jj_le rfl) (jj_le rfl) dX9_isWord_30 rfl (fun w1 r O_14 => ?_)
      obtain ⟨-, rfl⟩ := O_14
      refine jj_icmp_geF (tgt := 63) C dX9_isWord_33 (by decide) (by decide) ?_
      refine jj_aload_n C dX9_isWord_36 rfl ?_
      refine tt_get C hok jk_10 0 (by decide) jw_0664e1e086 (t := (2, 11, 0)) hk0 (by decide) rfl rfl dX9_isWord_37 (fun v_15 hv_15 hf_16 => ?_)
      obtain ⟨a_17, rfl, ka_17⟩ := tt_vr hv_15
      refine jj_aload_n C dX9_isWord_40 rfl ?_
      refine tt_getF C hok jk_10 4 (by decide) jw_66bda6962a (t := (0, 0, 400)) hk0 (by decide) rfl rfl hf_9 dX9_isWord_41 ?_
      refine jj_iload_n C dX9_isWord_44 rfl ?_
      obtain ⟨x_18, ex_18, vx_18⟩ := tt_iadd (x := x_10) (y := (0 : Int32)) (a := x_10.toInt) rfl (b := 0) (by decide) (by omega) (by omega)
      refine jj_iadd (v := x_18) C dX9_isWord_45 ex_18 ?_
      refine tt_cald C hok (t := (0, (-2147483648), 2147483647)) ka_17 (by decide) rfl (vp_in_iff.mpr ⟨by omega, by omega⟩) dX9_isWord_46 (fun v_19 hv_19 => ?_)
      refine jj_aload_n C dX9_isWord_47 rfl ?_
      refine jj_iload_n C dX9_isWord_48 rfl ?_
      refine tt_call0Vs (rest := [.int v_19]) C (ct_J0_charAt_5068e_43 hl D cA ak) 6 (by decide) rfl jw_076e8de8e0 jw_acb9174fef jw_675efe837b jw_4ea6285965 jw_391c0f56bd jn_J0_charAt_5068e rfl (jj_le rfl) (jj_le rfl) (jj_le rfl) (jj_le rfl) (jj_le rfl) dX9_isWord_49 rfl (fun w1 r O_20 => ?_)
      obtain ⟨-, rfl⟩ := O_20
      refine jj_icmp_eq (tgt := 57) C dX9_isWord_52 (by decide) (fun c_21 => ?_) (fun c_21 => ?_)
      · have z_c_21 := jc_eq (a := (v_19).toInt) (b := (114)) c_21 rfl (by decide)
        refine jj_iinc (v := 1) C dX9_isWord_57 rfl (by decide) (by decide) rfl ?_
        refine jj_goto (tgt := 28) C dX9_isWord_60 (by decide) ?_
        refine jj_iload_n C dX9_isWord_28 rfl ?_
        refine jj_aload_n C dX9_isWord_29 rfl ?_
        refine tt_call0Vs (rest := [.int 1]) C (ct_J0_length_8abf5_7 hl D cA ak) 6 (by decide) rfl jw_f27063fded jw_b1ce304435 jw_d08f03a22e jw_4ea6285965 jw_bbc7045666 jn_J0_length_8abf5 rfl (jj_le rfl) (jj_le rfl) (jj_le rfl) (jj_le rfl) (jj_le rfl) dX9_isWord_30 rfl (fun w1 r O_22 => ?_)
        obtain ⟨-, rfl⟩ := O_22
        refine jj_icmp_geF (tgt := 63) C dX9_isWord_33 (by decide) (by decide) ?_
        refine jj_aload_n C dX9_isWord_36 rfl ?_
        refine tt_getF C hok jk_10 0 (by decide) jw_0664e1e086 (t := (2, 11, 0)) hk0 (by decide) rfl rfl hf_16 dX9_isWord_37 ?_
        refine jj_aload_n C dX9_isWord_40 rfl ?_
        refine tt_getF C hok jk_10 4 (by decide) jw_66bda6962a (t := (0, 0, 400)) hk0 (by decide) rfl rfl hf_9 dX9_isWord_41 ?_
        refine jj_iload_n C dX9_isWord_44 rfl ?_
        obtain ⟨x_23, ex_23, vx_23⟩ := tt_iadd (x := x_10) (y := (1 : Int32)) (a := x_10.toInt) rfl (b := 1) (by decide) (by omega) (by omega)
        refine jj_iadd (v := x_23) C dX9_isWord_45 ex_23 ?_
        refine tt_cald C hok (t := (0, (-2147483648), 2147483647)) ka_17 (by decide) rfl (vp_in_iff.mpr ⟨by omega, by omega⟩) dX9_isWord_46 (fun v_24 hv_24 => ?_)
        refine jj_aload_n C dX9_isWord_47 rfl ?_
        refine jj_iload_n C dX9_isWord_48 rfl ?_
        refine tt_call0Vs (rest := [.int v_24]) C (ct_J0_charAt_5068e_44 hl D cA ak) 6 (by decide) rfl jw_076e8de8e0 jw_acb9174fef jw_675efe837b jw_4ea6285965 jw_391c0f56bd jn_J0_charAt_5068e rfl (jj_le rfl) (jj_le rfl) (jj_le rfl) (jj_le rfl) (jj_le rfl) dX9_isWord_49 rfl (fun w1 r O_25 => ?_)
        obtain ⟨-, rfl⟩ := O_25
        refine jj_icmp_eq (tgt := 57) C dX9_isWord_52 (by decide) (fun c_26 => ?_) (fun c_26 => ?_)
        · have z_c_26 := jc_eq (a := (v_24).toInt) (b := (101)) c_26 rfl (by decide)
          refine jj_iinc (v := 2) C dX9_isWord_57 rfl (by decide) (by decide) rfl ?_
          refine jj_goto (tgt := 28) C dX9_isWord_60 (by decide) ?_
          refine jj_iload_n C dX9_isWord_28 rfl ?_
          refine jj_aload_n C dX9_isWord_29 rfl ?_
          refine tt_call0Vs (rest := [.int 2]) C (ct_J0_length_8abf5_7 hl D cA ak) 6 (by decide) rfl jw_f27063fded jw_b1ce304435 jw_d08f03a22e jw_4ea6285965 jw_bbc7045666 jn_J0_length_8abf5 rfl (jj_le rfl) (jj_le rfl) (jj_le rfl) (jj_le rfl) (jj_le rfl) dX9_isWord_30 rfl (fun w1 r O_27 => ?_)
          obtain ⟨-, rfl⟩ := O_27
          refine jj_icmp_geF (tgt := 63) C dX9_isWord_33 (by decide) (by decide) ?_
          refine jj_aload_n C dX9_isWord_36 rfl ?_
          refine tt_getF C hok jk_10 0 (by decide) jw_0664e1e086 (t := (2, 11, 0)) hk0 (by decide) rfl rfl hf_16 dX9_isWord_37 ?_
          refine jj_aload_n C dX9_isWord_40 rfl ?_
          refine tt_getF C hok jk_10 4 (by decide) jw_66bda6962a (t := (0, 0, 400)) hk0 (by decide) rfl rfl hf_9 dX9_isWord_41 ?_
          refine jj_iload_n C dX9_isWord_44 rfl ?_
          obtain ⟨x_28, ex_28, vx_28⟩ := tt_iadd (x := x_10) (y := (2 : Int32)) (a := x_10.toInt) rfl (b := 2) (by decide) (by omega) (by omega)
          refine jj_iadd (v := x_28) C dX9_isWord_45 ex_28 ?_
          refine tt_cald C hok (t := (0, (-2147483648), 2147483647)) ka_17 (by decide) rfl (vp_in_iff.mpr ⟨by omega, by omega⟩) dX9_isWord_46 (fun v_29 hv_29 => ?_)
          refine jj_aload_n C dX9_isWord_47 rfl ?_
          refine jj_iload_n C dX9_isWord_48 rfl ?_
          refine tt_call0Vs (rest := [.int v_29]) C (ct_J0_charAt_5068e_45 hl D cA ak) 6 (by decide) rfl jw_076e8de8e0 jw_acb9174fef jw_675efe837b jw_4ea6285965 jw_391c0f56bd jn_J0_charAt_5068e rfl (jj_le rfl) (jj_le rfl) (jj_le rfl) (jj_le rfl) (jj_le rfl) dX9_isWord_49 rfl (fun w1 r O_30 => ?_)
          obtain ⟨-, rfl⟩ := O_30
          refine jj_icmp_eq (tgt := 57) C dX9_isWord_52 (by decide) (fun c_31 => ?_) (fun c_31 => ?_)
          · have z_c_31 := jc_eq (a := (v_29).toInt) (b := (100)) c_31 rfl (by decide)
            refine jj_iinc (v := 3) C dX9_isWord_57 rfl (by decide) (by decide) rfl ?_
            refine jj_goto (tgt := 28) C dX9_isWord_60 (by decide) ?_
            refine jj_iload_n C dX9_isWord_28 rfl ?_
            refine jj_aload_n C dX9_isWord_29 rfl ?_
            refine tt_call0Vs (rest := [.int 3]) C (ct_J0_length_8abf5_7 hl D cA ak) 6 (by decide) rfl jw_f27063fded jw_b1ce304435 jw_d08f03a22e jw_4ea6285965 jw_bbc7045666 jn_J0_length_8abf5 rfl (jj_le rfl) (jj_le rfl) (jj_le rfl) (jj_le rfl) (jj_le rfl) dX9_isWord_30 rfl (fun w1 r O_32 => ?_)
            obtain ⟨-, rfl⟩ := O_32
            refine jj_icmp_geF (tgt := 63) C dX9_isWord_33 (by decide) (by decide) ?_
            refine jj_aload_n C dX9_isWord_36 rfl ?_
            refine tt_getF C hok jk_10 0 (by decide) jw_0664e1e086 (t := (2, 11, 0)) hk0 (by decide) rfl rfl hf_16 dX9_isWord_37 ?_
            refine jj_aload_n C dX9_isWord_40 rfl ?_
            refine tt_getF C hok jk_10 4 (by decide) jw_66bda6962a (t := (0, 0, 400)) hk0 (by decide) rfl rfl hf_9 dX9_isWord_41 ?_
            refine jj_iload_n C dX9_isWord_44 rfl ?_
            obtain ⟨x_33, ex_33, vx_33⟩ := tt_iadd (x := x_10) (y := (3 : Int32)) (a := x_10.toInt) rfl (b := 3) (by decide) (by omega) (by omega)
            refine jj_iadd (v := x_33) C dX9_isWord_45 ex_33 ?_
            refine tt_cald C hok (t := (0, (-2147483648), 2147483647)) ka_17 (by decide) rfl (vp_in_iff.mpr ⟨by omega, by omega⟩) dX9_isWord_46 (fun v_34 hv_34 => ?_)
            refine jj_aload_n C dX9_isWord_47 rfl ?_
            refine jj_iload_n C dX9_isWord_48 rfl ?_
            refine tt_call0Vs (rest := [.int v_34]) C (ct_J0_charAt_5068e_46 hl D cA ak) 6 (by decide) rfl jw_076e8de8e0 jw_acb9174fef jw_675efe837b jw_4ea6285965 jw_391c0f56bd jn_J0_charAt_5068e rfl (jj_le rfl) (jj_le rfl) (jj_le rfl) (jj_le rfl) (jj_le rfl) dX9_isWord_49 rfl (fun w1 r O_35 => ?_)
            obtain ⟨-, rfl⟩ := O_35
            refine jj_icmp_eq (tgt := 57) C dX9_isWord_52 (by decide) (fun c_36 => ?_) (fun c_36 => ?_)
            · have z_c_36 := jc_eq (a := (v_34).toInt) (b := (101)) c_36 rfl (by decide)
              refine jj_iinc (v := 4) C dX9_isWord_57 rfl (by decide) (by decide) rfl ?_
              refine jj_goto (tgt := 28) C dX9_isWord_60 (by decide) ?_
              refine jj_iload_n C dX9_isWord_28 rfl ?_
              refine jj_aload_n C dX9_isWord_29 rfl ?_
              refine tt_call0Vs (rest := [.int 4]) C (ct_J0_length_8abf5_7 hl D cA ak) 6 (by decide) rfl jw_f27063fded jw_b1ce304435 jw_d08f03a22e jw_4ea6285965 jw_bbc7045666 jn_J0_length_8abf5 rfl (jj_le rfl) (jj_le rfl) (jj_le rfl) (jj_le rfl) (jj_le rfl) dX9_isWord_30 rfl (fun w1 r O_37 => ?_)
              obtain ⟨-, rfl⟩ := O_37
              refine jj_icmp_geF (tgt := 63) C dX9_isWord_33 (by decide) (by decide) ?_
              refine jj_aload_n C dX9_isWord_36 rfl ?_
              refine tt_getF C hok jk_10 0 (by decide) jw_0664e1e086 (t := (2, 11, 0)) hk0 (by decide) rfl rfl hf_16 dX9_isWord_37 ?_
              refine jj_aload_n C dX9_isWord_40 rfl ?_
              refine tt_getF C hok jk_10 4 (by decide) jw_66bda6962a (t := (0, 0, 400)) hk0 (by decide) rfl rfl hf_9 dX9_isWord_41 ?_
              refine jj_iload_n C dX9_isWord_44 rfl ?_
              obtain ⟨x_38, ex_38, vx_38⟩ := tt_iadd (x := x_10) (y := (4 : Int32)) (a := x_10.toInt) rfl (b := 4) (by decide) (by omega) (by omega)
              refine jj_iadd (v := x_38) C dX9_isWord_45 ex_38 ?_
              refine tt_cald C hok (t := (0, (-2147483648), 2147483647)) ka_17 (by decide) rfl (vp_in_iff.mpr ⟨by omega, by omega⟩) dX9_isWord_46 (fun v_39 hv_39 => ?_)
              refine jj_aload_n C dX9_isWord_47 rfl ?_
              refine jj_iload_n C dX9_isWord_48 rfl ?_
              refine tt_call0Vs (rest := [.int v_39]) C (ct_J0_charAt_5068e_47 hl D cA ak) 6 (by decide) rfl jw_076e8de8e0 jw_acb9174fef jw_675efe837b jw_4ea6285965 jw_391c0f56bd jn_J0_charAt_5068e rfl (jj_le rfl) (jj_le rfl) (jj_le rfl) (jj_le rfl) (jj_le rfl) dX9_isWord_49 rfl (fun w1 r O_40 => ?_)
              obtain ⟨-, rfl⟩ := O_40
              refine jj_icmp_eq (tgt := 57) C dX9_isWord_52 (by decide) (fun c_41 => ?_) (fun c_41 => ?_)
              · have z_c_41 := jc_eq (a := (v_39).toInt) (b := (101)) c_41 rfl (by decide)
                refine jj_iinc (v := 5) C dX9_isWord_57 rfl (by decide) (by decide) rfl ?_
                refine jj_goto (tgt := 28) C dX9_isWord_60 (by decide) ?_
                refine jj_iload_n C dX9_isWord_28 rfl ?_
                refine jj_aload_n C dX9_isWord_29 rfl ?_
                refine tt_call0Vs (rest := [.int 5]) C (ct_J0_length_8abf5_7 hl D cA ak) 6 (by decide) rfl jw_f27063fded jw_b1ce304435 jw_d08f03a22e jw_4ea6285965 jw_bbc7045666 jn_J0_length_8abf5 rfl (jj_le rfl) (jj_le rfl) (jj_le rfl) (jj_le rfl) (jj_le rfl) dX9_isWord_30 rfl (fun w1 r O_42 => ?_)
                obtain ⟨-, rfl⟩ := O_42
                refine jj_icmp_geF (tgt := 63) C dX9_isWord_33 (by decide) (by decide) ?_
                refine jj_aload_n C dX9_isWord_36 rfl ?_
                refine tt_getF C hok jk_10 0 (by decide) jw_0664e1e086 (t := (2, 11, 0)) hk0 (by decide) rfl rfl hf_16 dX9_isWord_37 ?_
                refine jj_aload_n C dX9_isWord_40 rfl ?_
                refine tt_getF C hok jk_10 4 (by decide) jw_66bda6962a (t := (0, 0, 400)) hk0 (by decide) rfl rfl hf_9 dX9_isWord_41 ?_
                refine jj_iload_n C dX9_isWord_44 rfl ?_
                obtain ⟨x_43, ex_43, vx_43⟩ := tt_iadd (x := x_10) (y := (5 : Int32)) (a := x_10.toInt) rfl (b := 5) (by decide) (by omega) (by omega)
                refine jj_iadd (v := x_43) C dX9_isWord_45 ex_43 ?_
                refine tt_cald C hok (t := (0, (-2147483648), 2147483647)) ka_17 (by decide) rfl (vp_in_iff.mpr ⟨by omega, by omega⟩) dX9_isWord_46 (fun v_44 hv_44 => ?_)
                refine jj_aload_n C dX9_isWord_47 rfl ?_
                refine jj_iload_n C dX9_isWord_48 rfl ?_
                refine tt_call0Vs (rest := [.int v_44]) C (ct_J0_charAt_5068e_48 hl D cA ak) 6 (by decide) rfl jw_076e8de8e0 jw_acb9174fef jw_675efe837b jw_4ea6285965 jw_391c0f56bd jn_J0_charAt_5068e rfl (jj_le rfl) (jj_le rfl) (jj_le rfl) (jj_le rfl) (jj_le rfl) dX9_isWord_49 rfl (fun w1 r O_45 => ?_)
                obtain ⟨-, rfl⟩ := O_45
                refine jj_icmp_eq (tgt := 57) C dX9_isWord_52 (by decide) (fun c_46 => ?_) (fun c_46 => ?_)
                · have z_c_46 := jc_eq (a := (v_44).toInt) (b := (109)) c_46 rfl (by decide)
                  refine jj_iinc (v := 6) C dX9_isWord_57 rfl (by decide) (by decide) rfl ?_
                  refine jj_goto (tgt := 28) C dX9_isWord_60 (by decide) ?_
                  refine jj_iload_n C dX9_isWord_28 rfl ?_
                  refine jj_aload_n C dX9_isWord_29 rfl ?_
                  refine tt_call0Vs (rest := [.int 6]) C (ct_J0_length_8abf5_7 hl D cA ak) 6 (by decide) rfl jw_f27063fded jw_b1ce304435 jw_d08f03a22e jw_4ea6285965 jw_bbc7045666 jn_J0_length_8abf5 rfl (jj_le rfl) (jj_le rfl) (jj_le rfl) (jj_le rfl) (jj_le rfl) dX9_isWord_30 rfl (fun w1 r O_47 => ?_)
                  obtain ⟨-, rfl⟩ := O_47
                  refine jj_icmp_geT (tgt := 63) C dX9_isWord_33 (by decide) (by decide) ?_
                  refine jj_iconst (v := 1) C dX9_isWord_63 (by decide) ?_
                  exact jj_zret C rfl ⟨[], pl0, rfl, rfl, hok, hfr, hfa, (Or.inr rfl)⟩ dX9_isWord_64 (jj_le rfl) (jj_le rfl)
                · have z_c_46 := jc_neq (a := (v_44).toInt) (b := (109)) c_46 rfl (by decide)
                  refine jj_iconst (v := 0) C dX9_isWord_55 (by decide) ?_
                  exact jj_zret C rfl ⟨[], pl0, rfl, rfl, hok, hfr, hfa, (Or.inl rfl)⟩ dX9_isWord_56 (jj_le rfl) (jj_le rfl)
              · have z_c_41 := jc_neq (a := (v_39).toInt) (b := (101)) c_41 rfl (by decide)
                refine jj_iconst (v := 0) C dX9_isWord_55 (by decide) ?_
                exact jj_zret C rfl ⟨[], pl0, rfl, rfl, hok, hfr, hfa, (Or.inl rfl)⟩ dX9_isWord_56 (jj_le rfl) (jj_le rfl)
            · have z_c_36 := jc_neq (a := (v_34).toInt) (b := (101)) c_36 rfl (by decide)
              refine jj_iconst (v := 0) C dX9_isWord_55 (by decide) ?_
              exact jj_zret C rfl ⟨[], pl0, rfl, rfl, hok, hfr, hfa, (Or.inl rfl)⟩ dX9_isWord_56 (jj_le rfl) (jj_le rfl)
          · have z_c_31 := jc_neq (a := (v_29).toInt) (b := (100)) c_31 rfl (by decide)
            refine jj_iconst (v := 0) C dX9_isWord_55 (by decide) ?_
            exact jj_zret C rfl ⟨[], pl0, rfl, rfl, hok, hfr, hfa, (Or.inl rfl)⟩ dX9_isWord_56 (jj_le rfl) (jj_le rfl)
        · have z_c_26 := jc_neq (a := (v_24).toInt) (b := (101)) c_26 rfl (by decide)
          refine jj_iconst (v := 0) C dX9_isWord_55 (by decide) ?_
          exact jj_zret C rfl ⟨[], pl0, rfl, rfl, hok, hfr, hfa, (Or.inl rfl)⟩ dX9_isWord_56 (jj_le rfl) (jj_le rfl)
      · have z_c_21 := jc_neq (a := (v_19).toInt) (b := (114)) c_21 rfl (by decide)
        refine jj_iconst (v := 0) C dX9_isWord_55 (by decide) ?_
        exact jj_zret C rfl ⟨[], pl0, rfl, rfl, hok, hfr, hfa, (Or.inl rfl)⟩ dX9_isWord_56 (jj_le rfl) (jj_le rfl)
    · have z_c_13 := jc_neq (a := (x_11).toInt) (b := (6)) c_13 rfl (by decide)
      refine jj_iconst (v := 0) C dX9_isWord_24 (by decide) ?_
      exact jj_zret C rfl ⟨[], pl0, rfl, rfl, hok, hfr, hfa, (Or.inl rfl)⟩ dX9_isWord_25 (jj_le rfl) (jj_le rfl)

set_option maxHeartbeats 4000000 in
set_option maxRecDepth 100000 in
theorem tc_X9_isWord_8 {l : Launch} (hl : l.stackTraces = false) (D : va_G) (cA : Nat → ClassId) (ak : (Nat → Nat) × (Nat → Nat)) {Kd : Nat → Nat} (h0 : Nat) (hk0 : Kd h0 = 10) {pl0 : va_W} (hok : tt_ok tt_tk cA Kd pl0) : jj_M l D cA ak yX9_isWord (.code yX9_isWord cX9_isWord 3 (some .boolean)) 4 85 0 0 ([] ++ pl0) [.ref h0, .ref (ak.1 7)] (tt_O (fun rx pl1 r => rx = [] ∧ tt_ok tt_tk cA Kd pl1 ∧ tt_fr Kd [] pl0 pl1 ∧ tt_fa Kd [] pl0 pl1 ∧ ((r = some (.int 0)) ∨ (r = some (.int 1))))) (tt_OX (fun _ _ _ => False)) := by
  refine jj_start hl (by decide) jw_ce1c1f12e9 (jj_le rfl) ?_
  intro p e s m args below meth c A hargs hA C hex hmn
  have hfr := tt_fr.refl (K := Kd) (WS := []) pl0
  have hfa := tt_fa.refl (K := Kd) (WA := []) pl0
  refine jj_aload_n C dX9_isWord_0 rfl ?_
  refine tt_get C hok jk_10 5 (by decide) jw_bde5c0d1a5 (t := (0, (-2147483648), 2147483647)) hk0 (by decide) rfl rfl dX9_isWord_1 (fun v_1 hv_1 hf_2 => ?_)
  obtain ⟨x_3, rfl, lx_3, ux_3⟩ := tt_vi hv_1
  refine jj_iconst (v := 1) C dX9_isWord_4 (by decide) ?_
  refine jj_icmp_ne (tgt := 24) C dX9_isWord_5 (by decide) (fun c_4 => ?_) (fun c_4 => ?_)
  · have z_c_4 := jc_neq (a := (x_3).toInt) (b := (1)) c_4 rfl (by decide)
    refine jj_iconst (v := 0) C dX9_isWord_24 (by decide) ?_
    exact jj_zret C rfl ⟨[], pl0, rfl, rfl, hok, hfr, hfa, (Or.inl rfl)⟩ dX9_isWord_25 (jj_le rfl) (jj_le rfl)
  · have z_c_4 := jc_eq (a := (x_3).toInt) (b := (1)) c_4 rfl (by decide)
    refine jj_aload_n C dX9_isWord_8 rfl ?_
    refine tt_get C hok jk_10 3 (by decide) jw_f99bd0ca2b (t := (0, 0, 400)) hk0 (by decide) rfl rfl dX9_isWord_9 (fun v_5 hv_5 hf_6 => ?_)
    obtain ⟨x_7, rfl, lx_7, ux_7⟩ := tt_vi hv_5
    refine jj_aload_n C dX9_isWord_12 rfl ?_
    refine tt_get C hok jk_10 4 (by decide) jw_66bda6962a (t := (0, 0, 400)) hk0 (by decide) rfl rfl dX9_isWord_13 (fun v_8 hv_8 hf_9 => ?_)
    obtain ⟨x_10, rfl, lx_10, ux_10⟩ := tt_vi hv_8
    obtain ⟨x_11, ex_11, vx_11⟩ := tt_isub (x := x_7) (y := x_10) (a := x_7.toInt) rfl (b := x_10.toInt) rfl (by omega) (by omega)
    refine jj_isub (v := x_11) C dX9_isWord_16 ex_11 ?_
    refine jj_aload_n C dX9_isWord_17 rfl ?_
    refine tt_call0Vs (rest := [.int x_11]) C (ct_J0_length_8abf5_8 hl D cA ak) 7 (by decide) rfl jw_f27063fded jw_b1ce304435 jw_d08f03a22e jw_4ea6285965 jw_bbc7045666 jn_J0_length_8abf5 rfl (jj_le rfl) (jj_le rfl) (jj_le rfl) (jj_le rfl) (jj_le rfl) dX9_isWord_18 rfl (fun w1 r O_12 => ?_)
    obtain ⟨-, rfl⟩ := O_12
    refine jj_icmp_eq (tgt := 26) C dX9_isWord_21 (by decide) (fun c_13 => ?_) (fun c_13 => ?_)
    · have z_c_13 := jc_eq (a := (x_11).toInt) (b := (4)) c_13 rfl (by decide)
      refine jj_iconst (v := 0) C dX9_isWord_26 (by decide) ?_
      refine jj_istore_n C dX9_isWord_27 (by decide) rfl ?_
      refine jj_iload_n C dX9_isWord_28 rfl ?_
      refine jj_aload_n C dX9_isWord_29 rfl ?_
      refine tt_call0Vs (rest := [.int 0]) C (ct_J0_length_8abf5_8 hl D cA ak) 7 (by decide) rfl jw_f27063fded jw_b1ce304435 jw_d08f03a22e jw_4ea6285965 jw_bbc7045666 jn_J0_length_8abf5 rfl (jj_le rfl) (jj_le rfl) (jj_le rfl) (jj_le rfl) (jj_le rfl) dX9_isWord_30 rfl (fun w1 r O_14 => ?_)
      obtain ⟨-, rfl⟩ := O_14
      refine jj_icmp_geF (tgt := 63) C dX9_isWord_33 (by decide) (by decide) ?_
      refine jj_aload_n C dX9_isWord_36 rfl ?_
      refine tt_get C hok jk_10 0 (by decide) jw_0664e1e086 (t := (2, 11, 0)) hk0 (by decide) rfl rfl dX9_isWord_37 (fun v_15 hv_15 hf_16 => ?_)
      obtain ⟨a_17, rfl, ka_17⟩ := tt_vr hv_15
      refine jj_aload_n C dX9_isWord_40 rfl ?_
      refine tt_getF C hok jk_10 4 (by decide) jw_66bda6962a (t := (0, 0, 400)) hk0 (by decide) rfl rfl hf_9 dX9_isWord_41 ?_
      refine jj_iload_n C dX9_isWord_44 rfl ?_
      obtain ⟨x_18, ex_18, vx_18⟩ := tt_iadd (x := x_10) (y := (0 : Int32)) (a := x_10.toInt) rfl (b := 0) (by decide) (by omega) (by omega)
      refine jj_iadd (v := x_18) C dX9_isWord_45 ex_18 ?_
      refine tt_cald C hok (t := (0, (-2147483648), 2147483647)) ka_17 (by decide) rfl (vp_in_iff.mpr ⟨by omega, by omega⟩) dX9_isWord_46 (fun v_19 hv_19 => ?_)
      refine jj_aload_n C dX9_isWord_47 rfl ?_
      refine jj_iload_n C dX9_isWord_48 rfl ?_
      refine tt_call0Vs (rest := [.int v_19]) C (ct_J0_charAt_5068e_49 hl D cA ak) 7 (by decide) rfl jw_076e8de8e0 jw_acb9174fef jw_675efe837b jw_4ea6285965 jw_391c0f56bd jn_J0_charAt_5068e rfl (jj_le rfl) (jj_le rfl) (jj_le rfl) (jj_le rfl) (jj_le rfl) dX9_isWord_49 rfl (fun w1 r O_20 => ?_)
      obtain ⟨-, rfl⟩ := O_20
      refine jj_icmp_eq (tgt := 57) C dX9_isWord_52 (by decide) (fun c_21 => ?_) (fun c_21 => ?_)
      · have z_c_21 := jc_eq (a := (v_19).toInt) (b := (100)) c_21 rfl (by decide)
        refine jj_iinc (v := 1) C dX9_isWord_57 rfl (by decide) (by decide) rfl ?_
        refine jj_goto (tgt := 28) C dX9_isWord_60 (by decide) ?_
        refine jj_iload_n C dX9_isWord_28 rfl ?_
        refine jj_aload_n C dX9_isWord_29 rfl ?_
        refine tt_call0Vs (rest := [.int 1]) C (ct_J0_length_8abf5_8 hl D cA ak) 7 (by decide) rfl jw_f27063fded jw_b1ce304435 jw_d08f03a22e jw_4ea6285965 jw_bbc7045666 jn_J0_length_8abf5 rfl (jj_le rfl) (jj_le rfl) (jj_le rfl) (jj_le rfl) (jj_le rfl) dX9_isWord_30 rfl (fun w1 r O_22 => ?_)
        obtain ⟨-, rfl⟩ := O_22
        refine jj_icmp_geF (tgt := 63) C dX9_isWord_33 (by decide) (by decide) ?_
        refine jj_aload_n C dX9_isWord_36 rfl ?_
        refine tt_getF C hok jk_10 0 (by decide) jw_0664e1e086 (t := (2, 11, 0)) hk0 (by decide) rfl rfl hf_16 dX9_isWord_37 ?_
        refine jj_aload_n C dX9_isWord_40 rfl ?_
        refine tt_getF C hok jk_10 4 (by decide) jw_66bda6962a (t := (0, 0, 400)) hk0 (by decide) rfl rfl hf_9 dX9_isWord_41 ?_
        refine jj_iload_n C dX9_isWord_44 rfl ?_
        obtain ⟨x_23, ex_23, vx_23⟩ := tt_iadd (x := x_10) (y := (1 : Int32)) (a := x_10.toInt) rfl (b := 1) (by decide) (by omega) (by omega)
        refine jj_iadd (v := x_23) C dX9_isWord_45 ex_23 ?_
        refine tt_cald C hok (t := (0, (-2147483648), 2147483647)) ka_17 (by decide) rfl (vp_in_iff.mpr ⟨by omega, by omega⟩) dX9_isWord_46 (fun v_24 hv_24 => ?_)
        refine jj_aload_n C dX9_isWord_47 rfl ?_
        refine jj_iload_n C dX9_isWord_48 rfl ?_
        refine tt_call0Vs (rest := [.int v_24]) C (ct_J0_charAt_5068e_50 hl D cA ak) 7 (by decide) rfl jw_076e8de8e0 jw_acb9174fef jw_675efe837b jw_4ea6285965 jw_391c0f56bd jn_J0_charAt_5068e rfl (jj_le rfl) (jj_le rfl) (jj_le rfl) (jj_le rfl) (jj_le rfl) dX9_isWord_49 rfl (fun w1 r O_25 => ?_)
        obtain ⟨-, rfl⟩ := O_25
        refine jj_icmp_eq (tgt := 57) C dX9_isWord_52 (by decide) (fun c_26 => ?_) (fun c_26 => ?_)
        · have z_c_26 := jc_eq (a := (v_24).toInt) (b := (101)) c_26 rfl (by decide)
          refine jj_iinc (v := 2) C dX9_isWord_57 rfl (by decide) (by decide) rfl ?_
          refine jj_goto (tgt := 28) C dX9_isWord_60 (by decide) ?_
          refine jj_iload_n C dX9_isWord_28 rfl ?_
          refine jj_aload_n C dX9_isWord_29 rfl ?_
          refine tt_call0Vs (rest := [.int 2]) C (ct_J0_length_8abf5_8 hl D cA ak) 7 (by decide) rfl jw_f27063fded jw_b1ce304435 jw_d08f03a22e jw_4ea6285965 jw_bbc7045666 jn_J0_length_8abf5 rfl (jj_le rfl) (jj_le rfl) (jj_le rfl) (jj_le rfl) (jj_le rfl) dX9_isWord_30 rfl (fun w1 r O_27 => ?_)
          obtain ⟨-, rfl⟩ := O_27
          refine jj_icmp_geF (tgt := 63) C dX9_isWord_33 (by decide) (by decide) ?_
          refine jj_aload_n C dX9_isWord_36 rfl ?_
          refine tt_getF C hok jk_10 0 (by decide) jw_0664e1e086 (t := (2, 11, 0)) hk0 (by decide) rfl rfl hf_16 dX9_isWord_37 ?_
          refine jj_aload_n C dX9_isWord_40 rfl ?_
          refine tt_getF C hok jk_10 4 (by decide) jw_66bda6962a (t := (0, 0, 400)) hk0 (by decide) rfl rfl hf_9 dX9_isWord_41 ?_
          refine jj_iload_n C dX9_isWord_44 rfl ?_
          obtain ⟨x_28, ex_28, vx_28⟩ := tt_iadd (x := x_10) (y := (2 : Int32)) (a := x_10.toInt) rfl (b := 2) (by decide) (by omega) (by omega)
          refine jj_iadd (v := x_28) C dX9_isWord_45 ex_28 ?_
          refine tt_cald C hok (t := (0, (-2147483648), 2147483647)) ka_17 (by decide) rfl (vp_in_iff.mpr ⟨by omega, by omega⟩) dX9_isWord_46 (fun v_29 hv_29 => ?_)
          refine jj_aload_n C dX9_isWord_47 rfl ?_
          refine jj_iload_n C dX9_isWord_48 rfl ?_
          refine tt_call0Vs (rest := [.int v_29]) C (ct_J0_charAt_5068e_51 hl D cA ak) 7 (by decide) rfl jw_076e8de8e0 jw_acb9174fef jw_675efe837b jw_4ea6285965 jw_391c0f56bd jn_J0_charAt_5068e rfl (jj_le rfl) (jj_le rfl) (jj_le rfl) (jj_le rfl) (jj_le rfl) dX9_isWord_49 rfl (fun w1 r O_30 => ?_)
          obtain ⟨-, rfl⟩ := O_30
          refine jj_icmp_eq (tgt := 57) C dX9_isWord_52 (by decide) (fun c_31 => ?_) (fun c_31 => ?_)
          · have z_c_31 := jc_eq (a := (v_29).toInt) (b := (97)) c_31 rfl (by decide)
            refine jj_iinc (v := 3) C dX9_isWord_57 rfl (by decide) (by decide) rfl ?_
            refine jj_goto (tgt := 28) C dX9_isWord_60 (by decide) ?_
            refine jj_iload_n C dX9_isWord_28 rfl ?_
            refine jj_aload_n C dX9_isWord_29 rfl ?_
            refine tt_call0Vs (rest := [.int 3]) C (ct_J0_length_8abf5_8 hl D cA ak) 7 (by decide) rfl jw_f27063fded jw_b1ce304435 jw_d08f03a22e jw_4ea6285965 jw_bbc7045666 jn_J0_length_8abf5 rfl (jj_le rfl) (jj_le rfl) (jj_le rfl) (jj_le rfl) (jj_le rfl) dX9_isWord_30 rfl (fun w1 r O_32 => ?_)
            obtain ⟨-, rfl⟩ := O_32
            refine jj_icmp_geF (tgt := 63) C dX9_isWord_33 (by decide) (by decide) ?_
            refine jj_aload_n C dX9_isWord_36 rfl ?_
            refine tt_getF C hok jk_10 0 (by decide) jw_0664e1e086 (t := (2, 11, 0)) hk0 (by decide) rfl rfl hf_16 dX9_isWord_37 ?_
            refine jj_aload_n C dX9_isWord_40 rfl ?_
            refine tt_getF C hok jk_10 4 (by decide) jw_66bda6962a (t := (0, 0, 400)) hk0 (by decide) rfl rfl hf_9 dX9_isWord_41 ?_
            refine jj_iload_n C dX9_isWord_44 rfl ?_
            obtain ⟨x_33, ex_33, vx_33⟩ := tt_iadd (x := x_10) (y := (3 : Int32)) (a := x_10.toInt) rfl (b := 3) (by decide) (by omega) (by omega)
            refine jj_iadd (v := x_33) C dX9_isWord_45 ex_33 ?_
            refine tt_cald C hok (t := (0, (-2147483648), 2147483647)) ka_17 (by decide) rfl (vp_in_iff.mpr ⟨by omega, by omega⟩) dX9_isWord_46 (fun v_34 hv_34 => ?_)
            refine jj_aload_n C dX9_isWord_47 rfl ?_
            refine jj_iload_n C dX9_isWord_48 rfl ?_
            refine tt_call0Vs (rest := [.int v_34]) C (ct_J0_charAt_5068e_52 hl D cA ak) 7 (by decide) rfl jw_076e8de8e0 jw_acb9174fef jw_675efe837b jw_4ea6285965 jw_391c0f56bd jn_J0_charAt_5068e rfl (jj_le rfl) (jj_le rfl) (jj_le rfl) (jj_le rfl) (jj_le rfl) dX9_isWord_49 rfl (fun w1 r O_35 => ?_)
            obtain ⟨-, rfl⟩ := O_35
            refine jj_icmp_eq (tgt := 57) C dX9_isWord_52 (by decide) (fun c_36 => ?_) (fun c_36 => ?_)
            · have z_c_36 := jc_eq (a := (v_34).toInt) (b := (108)) c_36 rfl (by decide)
              refine jj_iinc (v := 4) C dX9_isWord_57 rfl (by decide) (by decide) rfl ?_
              refine jj_goto (tgt := 28) C dX9_isWord_60 (by decide) ?_
              refine jj_iload_n C dX9_isWord_28 rfl ?_
              refine jj_aload_n C dX9_isWord_29 rfl ?_
              refine tt_call0Vs (rest := [.int 4]) C (ct_J0_length_8abf5_8 hl D cA ak) 7 (by decide) rfl jw_f27063fded jw_b1ce304435 jw_d08f03a22e jw_4ea6285965 jw_bbc7045666 jn_J0_length_8abf5 rfl (jj_le rfl) (jj_le rfl) (jj_le rfl) (jj_le rfl) (jj_le rfl) dX9_isWord_30 rfl (fun w1 r O_37 => ?_)
              obtain ⟨-, rfl⟩ := O_37
              refine jj_icmp_geT (tgt := 63) C dX9_isWord_33 (by decide) (by decide) ?_
              refine jj_iconst (v := 1) C dX9_isWord_63 (by decide) ?_
              exact jj_zret C rfl ⟨[], pl0, rfl, rfl, hok, hfr, hfa, (Or.inr rfl)⟩ dX9_isWord_64 (jj_le rfl) (jj_le rfl)
            · have z_c_36 := jc_neq (a := (v_34).toInt) (b := (108)) c_36 rfl (by decide)
              refine jj_iconst (v := 0) C dX9_isWord_55 (by decide) ?_
              exact jj_zret C rfl ⟨[], pl0, rfl, rfl, hok, hfr, hfa, (Or.inl rfl)⟩ dX9_isWord_56 (jj_le rfl) (jj_le rfl)
          · have z_c_31 := jc_neq (a := (v_29).toInt) (b := (97)) c_31 rfl (by decide)
            refine jj_iconst (v := 0) C dX9_isWord_55 (by decide) ?_
            exact jj_zret C rfl ⟨[], pl0, rfl, rfl, hok, hfr, hfa, (Or.inl rfl)⟩ dX9_isWord_56 (jj_le rfl) (jj_le rfl)
        · have z_c_26 := jc_neq (a := (v_24).toInt) (b := (101)) c_26 rfl (by decide)
          refine jj_iconst (v := 0) C dX9_isWord_55 (by decide) ?_
          exact jj_zret C rfl ⟨[], pl0, rfl, rfl, hok, hfr, hfa, (Or.inl rfl)⟩ dX9_isWord_56 (jj_le rfl) (jj_le rfl)
      · have z_c_21 := jc_neq (a := (v_19).toInt) (b := (100)) c_21 rfl (by decide)
        refine jj_iconst (v := 0) C dX9_isWord_55 (by decide) ?_
        exact jj_zret C rfl ⟨[], pl0, rfl, rfl, hok, hfr, hfa, (Or.inl rfl)⟩ dX9_isWord_56 (jj_le rfl) (jj_le rfl)
    · have z_c_13 := jc_neq (a := (x_11).toInt) (b := (4)) c_13 rfl (by decide)
      refine jj_iconst (v := 0) C dX9_isWord_24 (by decide) ?_
      exact jj_zret C rfl ⟨[], pl0, rfl, rfl, hok, hfr, hfa, (Or.inl rfl)⟩ dX9_isWord_25 (jj_le rfl) (jj_le rfl)

set_option maxHeartbeats 4000000 in
set_option maxRecDepth 100000 in
theorem tc_X9_isWord_9 {l : Launch} (hl : l.stackTraces = false) (D : va_G) (cA : Nat → ClassId) (ak : (Nat → Nat) × (Nat → Nat)) {Kd : Nat → Nat} (h0 : Nat) (hk0 : Kd h0 = 10) {pl0 : va_W} (hok : tt_ok tt_tk cA Kd pl0) : jj_M l D cA ak yX9_isWord (.code yX9_isWord cX9_isWord 3 (some .boolean)) 4 85 0 0 ([] ++ pl0) [.ref h0, .ref (ak.1 8)] (tt_O (fun rx pl1 r => rx = [] ∧ tt_ok tt_tk cA Kd pl1 ∧ tt_fr Kd [] pl0 pl1 ∧ tt_fa Kd [] pl0 pl1 ∧ ((r = some (.int 0)) ∨ (r = some (.int 1))))) (tt_OX (fun _ _ _ => False)) := by
  refine jj_start hl (by decide) jw_ce1c1f12e9 (jj_le rfl) ?_
  intro p e s m args below meth c A hargs hA C hex hmn
  have hfr := tt_fr.refl (K := Kd) (WS := []) pl0
  have hfa := tt_fa.refl (K := Kd) (WA := []) pl0
  refine jj_aload_n C dX9_isWord_0 rfl ?_
  refine tt_get C hok jk_10 5 (by decide) jw_bde5c0d1a5 (t := (0, (-2147483648), 2147483647)) hk0 (by decide) rfl rfl dX9_isWord_1 (fun v_1 hv_1 hf_2 => ?_)
  obtain ⟨x_3, rfl, lx_3, ux_3⟩ := tt_vi hv_1
  refine jj_iconst (v := 1) C dX9_isWord_4 (by decide) ?_
  refine jj_icmp_ne (tgt := 24) C dX9_isWord_5 (by decide) (fun c_4 => ?_) (fun c_4 => ?_)
  · have z_c_4 := jc_neq (a := (x_3).toInt) (b := (1)) c_4 rfl (by decide)
    refine jj_iconst (v := 0) C dX9_isWord_24 (by decide) ?_
    exact jj_zret C rfl ⟨[], pl0, rfl, rfl, hok, hfr, hfa, (Or.inl rfl)⟩ dX9_isWord_25 (jj_le rfl) (jj_le rfl)
  · have z_c_4 := jc_eq (a := (x_3).toInt) (b := (1)) c_4 rfl (by decide)
    refine jj_aload_n C dX9_isWord_8 rfl ?_
    refine tt_get C hok jk_10 3 (by decide) jw_f99bd0ca2b (t := (0, 0, 400)) hk0 (by decide) rfl rfl dX9_isWord_9 (fun v_5 hv_5 hf_6 => ?_)
    obtain ⟨x_7, rfl, lx_7, ux_7⟩ := tt_vi hv_5
    refine jj_aload_n C dX9_isWord_12 rfl ?_
    refine tt_get C hok jk_10 4 (by decide) jw_66bda6962a (t := (0, 0, 400)) hk0 (by decide) rfl rfl dX9_isWord_13 (fun v_8 hv_8 hf_9 => ?_)
    obtain ⟨x_10, rfl, lx_10, ux_10⟩ := tt_vi hv_8
    obtain ⟨x_11, ex_11, vx_11⟩ := tt_isub (x := x_7) (y := x_10) (a := x_7.toInt) rfl (b := x_10.toInt) rfl (by omega) (by omega)
    refine jj_isub (v := x_11) C dX9_isWord_16 ex_11 ?_
    refine jj_aload_n C dX9_isWord_17 rfl ?_
    refine tt_call0Vs (rest := [.int x_11]) C (ct_J0_length_8abf5_9 hl D cA ak) 8 (by decide) rfl jw_f27063fded jw_b1ce304435 jw_d08f03a22e jw_4ea6285965 jw_bbc7045666 jn_J0_length_8abf5 rfl (jj_le rfl) (jj_le rfl) (jj_le rfl) (jj_le rfl) (jj_le rfl) dX9_isWord_18 rfl (fun w1 r O_12 => ?_)
    obtain ⟨-, rfl⟩ := O_12
    refine jj_icmp_eq (tgt := 26) C dX9_isWord_21 (by decide) (fun c_13 => ?_) (fun c_13 => ?_)
    · have z_c_13 := jc_eq (a := (x_11).toInt) (b := (4)) c_13 rfl (by decide)
      refine jj_iconst (v := 0) C dX9_isWord_26 (by decide) ?_
      refine jj_istore_n C dX9_isWord_27 (by decide) rfl ?_
      refine jj_iload_n C dX9_isWord_28 rfl ?_
      refine jj_aload_n C dX9_isWord_29 rfl ?_
      refine tt_call0Vs (rest := [.int 0]) C (ct_J0_length_8abf5_9 hl D cA ak) 8 (by decide) rfl jw_f27063fded jw_b1ce304435 jw_d08f03a22e jw_4ea6285965 jw_bbc7045666 jn_J0_length_8abf5 rfl (jj_le rfl) (jj_le rfl) (jj_le rfl) (jj_le rfl) (jj_le rfl) dX9_isWord_30 rfl (fun w1 r O_14 => ?_)
      obtain ⟨-, rfl⟩ := O_14
      refine jj_icmp_geF (tgt := 63) C dX9_isWord_33 (by decide) (by decide) ?_
      refine jj_aload_n C dX9_isWord_36 rfl ?_
      refine tt_get C hok jk_10 0 (by decide) jw_0664e1e086 (t := (2, 11, 0)) hk0 (by decide) rfl rfl dX9_isWord_37 (fun v_15 hv_15 hf_16 => ?_)
      obtain ⟨a_17, rfl, ka_17⟩ := tt_vr hv_15
      refine jj_aload_n C dX9_isWord_40 rfl ?_
      refine tt_getF C hok jk_10 4 (by decide) jw_66bda6962a (t := (0, 0, 400)) hk0 (by decide) rfl rfl hf_9 dX9_isWord_41 ?_
      refine jj_iload_n C dX9_isWord_44 rfl ?_
      obtain ⟨x_18, ex_18, vx_18⟩ := tt_iadd (x := x_10) (y := (0 : Int32)) (a := x_10.toInt) rfl (b := 0) (by decide) (by omega) (by omega)
      refine jj_iadd (v := x_18) C dX9_isWord_45 ex_18 ?_
      refine tt_cald C hok (t := (0, (-2147483648), 2147483647)) ka_17 (by decide) rfl (vp_in_iff.mpr ⟨by omega, by omega⟩) dX9_isWord_46 (fun v_19 hv_19 => ?_)
      refine jj_aload_n C dX9_isWord_47 rfl ?_
      refine jj_iload_n C dX9_isWord_48 rfl ?_
      refine tt_call0Vs (rest := [.int v_19]) C (ct_J0_charAt_5068e_53 hl D cA ak) 8 (by decide) rfl jw_076e8de8e0 jw_acb9174fef jw_675efe837b jw_4ea6285965 jw_391c0f56bd jn_J0_charAt_5068e rfl (jj_le rfl) (jj_le rfl) (jj_le rfl) (jj_le rfl) (jj_le rfl) dX9_isWord_49 rfl (fun w1 r O_20 => ?_)
      obtain ⟨-, rfl⟩ := O_20
      refine jj_icmp_eq (tgt := 57) C dX9_isWord_52 (by decide) (fun c_21 => ?_) (fun c_21 => ?_)
      · have z_c_21 := jc_eq (a := (v_19).toInt) (b := (103)) c_21 rfl (by decide)
        refine jj_iinc (v := 1) C dX9_isWord_57 rfl (by decide) (by decide) rfl ?_
        refine jj_goto (tgt := 28) C dX9_isWord_60 (by decide) ?_
        refine jj_iload_n C dX9_isWord_28 rfl ?_
        refine jj_aload_n C dX9_isWord_29 rfl ?_
        refine tt_call0Vs (rest := [.int 1]) C (ct_J0_length_8abf5_9 hl D cA ak) 8 (by decide) rfl jw_f27063fded jw_b1ce304435 jw_d08f03a22e jw_4ea6285965 jw_bbc7045666 jn_J0_length_8abf5 rfl (jj_le rfl) (jj_le rfl) (jj_le rfl) (jj_le rfl) (jj_le rfl) dX9_isWord_30 rfl (fun w1 r O_22 => ?_)
        obtain ⟨-, rfl⟩ := O_22
        refine jj_icmp_geF (tgt := 63) C dX9_isWord_33 (by decide) (by decide) ?_
        refine jj_aload_n C dX9_isWord_36 rfl ?_
        refine tt_getF C hok jk_10 0 (by decide) jw_0664e1e086 (t := (2, 11, 0)) hk0 (by decide) rfl rfl hf_16 dX9_isWord_37 ?_
        refine jj_aload_n C dX9_isWord_40 rfl ?_
        refine tt_getF C hok jk_10 4 (by decide) jw_66bda6962a (t := (0, 0, 400)) hk0 (by decide) rfl rfl hf_9 dX9_isWord_41 ?_
        refine jj_iload_n C dX9_isWord_44 rfl ?_
        obtain ⟨x_23, ex_23, vx_23⟩ := tt_iadd (x := x_10) (y := (1 : Int32)) (a := x_10.toInt) rfl (b := 1) (by decide) (by omega) (by omega)
        refine jj_iadd (v := x_23) C dX9_isWord_45 ex_23 ?_
        refine tt_cald C hok (t := (0, (-2147483648), 2147483647)) ka_17 (by decide) rfl (vp_in_iff.mpr ⟨by omega, by omega⟩) dX9_isWord_46 (fun v_24 hv_24 => ?_)
        refine jj_aload_n C dX9_isWord_47 rfl ?_
        refine jj_iload_n C dX9_isWord_48 rfl ?_
        refine tt_call0Vs (rest := [.int v_24]) C (ct_J0_charAt_5068e_54 hl D cA ak) 8 (by decide) rfl jw_076e8de8e0 jw_acb9174fef jw_675efe837b jw_4ea6285965 jw_391c0f56bd jn_J0_charAt_5068e rfl (jj_le rfl) (jj_le rfl) (jj_le rfl) (jj_le rfl) (jj_le rfl) dX9_isWord_49 rfl (fun w1 r O_25 => ?_)
        obtain ⟨-, rfl⟩ := O_25
        refine jj_icmp_eq (tgt := 57) C dX9_isWord_52 (by decide) (fun c_26 => ?_) (fun c_26 => ?_)
        · have z_c_26 := jc_eq (a := (v_24).toInt) (b := (97)) c_26 rfl (by decide)
          refine jj_iinc (v := 2) C dX9_isWord_57 rfl (by decide) (by decide) rfl ?_
          refine jj_goto (tgt := 28) C dX9_isWord_60 (by decide) ?_
          refine jj_iload_n C dX9_isWord_28 rfl ?_
          refine jj_aload_n C dX9_isWord_29 rfl ?_
          refine tt_call0Vs (rest := [.int 2]) C (ct_J0_length_8abf5_9 hl D cA ak) 8 (by decide) rfl jw_f27063fded jw_b1ce304435 jw_d08f03a22e jw_4ea6285965 jw_bbc7045666 jn_J0_length_8abf5 rfl (jj_le rfl) (jj_le rfl) (jj_le rfl) (jj_le rfl) (jj_le rfl) dX9_isWord_30 rfl (fun w1 r O_27 => ?_)
          obtain ⟨-, rfl⟩ := O_27
          refine jj_icmp_geF (tgt := 63) C dX9_isWord_33 (by decide) (by decide) ?_
          refine jj_aload_n C dX9_isWord_36 rfl ?_
          refine tt_getF C hok jk_10 0 (by decide) jw_0664e1e086 (t := (2, 11, 0)) hk0 (by decide) rfl rfl hf_16 dX9_isWord_37 ?_
          refine jj_aload_n C dX9_isWord_40 rfl ?_
          refine tt_getF C hok jk_10 4 (by decide) jw_66bda6962a (t := (0, 0, 400)) hk0 (by decide) rfl rfl hf_9 dX9_isWord_41 ?_
          refine jj_iload_n C dX9_isWord_44 rfl ?_
          obtain ⟨x_28, ex_28, vx_28⟩ := tt_iadd (x := x_10) (y := (2 : Int32)) (a := x_10.toInt) rfl (b := 2) (by decide) (by omega) (by omega)
          refine jj_iadd (v := x_28) C dX9_isWord_45 ex_28 ?_
          refine tt_cald C hok (t := (0, (-2147483648), 2147483647)) ka_17 (by decide) rfl (vp_in_iff.mpr ⟨by omega, by omega⟩) dX9_isWord_46 (fun v_29 hv_29 => ?_)
          refine jj_aload_n C dX9_isWord_47 rfl ?_
          refine jj_iload_n C dX9_isWord_48 rfl ?_
          refine tt_call0Vs (rest := [.int v_29]) C (ct_J0_charAt_5068e_55 hl D cA ak) 8 (by decide) rfl jw_076e8de8e0 jw_acb9174fef jw_675efe837b jw_4ea6285965 jw_391c0f56bd jn_J0_charAt_5068e rfl (jj_le rfl) (jj_le rfl) (jj_le rfl) (jj_le rfl) (jj_le rfl) dX9_isWord_49 rfl (fun w1 r O_30 => ?_)
          obtain ⟨-, rfl⟩ := O_30
          refine jj_icmp_eq (tgt := 57) C dX9_isWord_52 (by decide) (fun c_31 => ?_) (fun c_31 => ?_)
          · have z_c_31 := jc_eq (a := (v_29).toInt) (b := (105)) c_31 rfl (by decide)
            refine jj_iinc (v := 3) C dX9_isWord_57 rfl (by decide) (by decide) rfl ?_
            refine jj_goto (tgt := 28) C dX9_isWord_60 (by decide) ?_
            refine jj_iload_n C dX9_isWord_28 rfl ?_
            refine jj_aload_n C dX9_isWord_29 rfl ?_
            refine tt_call0Vs (rest := [.int 3]) C (ct_J0_length_8abf5_9 hl D cA ak) 8 (by decide) rfl jw_f27063fded jw_b1ce304435 jw_d08f03a22e jw_4ea6285965 jw_bbc7045666 jn_J0_length_8abf5 rfl (jj_le rfl) (jj_le rfl) (jj_le rfl) (jj_le rfl) (jj_le rfl) dX9_isWord_30 rfl (fun w1 r O_32 => ?_)
            obtain ⟨-, rfl⟩ := O_32
            refine jj_icmp_geF (tgt := 63) C dX9_isWord_33 (by decide) (by decide) ?_
            refine jj_aload_n C dX9_isWord_36 rfl ?_
            refine tt_getF C hok jk_10 0 (by decide) jw_0664e1e086 (t := (2, 11, 0)) hk0 (by decide) rfl rfl hf_16 dX9_isWord_37 ?_
            refine jj_aload_n C dX9_isWord_40 rfl ?_
            refine tt_getF C hok jk_10 4 (by decide) jw_66bda6962a (t := (0, 0, 400)) hk0 (by decide) rfl rfl hf_9 dX9_isWord_41 ?_
            refine jj_iload_n C dX9_isWord_44 rfl ?_
            obtain ⟨x_33, ex_33, vx_33⟩ := tt_iadd (x := x_10) (y := (3 : Int32)) (a := x_10.toInt) rfl (b := 3) (by decide) (by omega) (by omega)
            refine jj_iadd (v := x_33) C dX9_isWord_45 ex_33 ?_
            refine tt_cald C hok (t := (0, (-2147483648), 2147483647)) ka_17 (by decide) rfl (vp_in_iff.mpr ⟨by omega, by omega⟩) dX9_isWord_46 (fun v_34 hv_34 => ?_)
            refine jj_aload_n C dX9_isWord_47 rfl ?_
            refine jj_iload_n C dX9_isWord_48 rfl ?_
            refine tt_call0Vs (rest := [.int v_34]) C (ct_J0_charAt_5068e_56 hl D cA ak) 8 (by decide) rfl jw_076e8de8e0 jw_acb9174fef jw_675efe837b jw_4ea6285965 jw_391c0f56bd jn_J0_charAt_5068e rfl (jj_le rfl) (jj_le rfl) (jj_le rfl) (jj_le rfl) (jj_le rfl) dX9_isWord_49 rfl (fun w1 r O_35 => ?_)
            obtain ⟨-, rfl⟩ := O_35
            refine jj_icmp_eq (tgt := 57) C dX9_isWord_52 (by decide) (fun c_36 => ?_) (fun c_36 => ?_)
            · have z_c_36 := jc_eq (a := (v_34).toInt) (b := (110)) c_36 rfl (by decide)
              refine jj_iinc (v := 4) C dX9_isWord_57 rfl (by decide) (by decide) rfl ?_
              refine jj_goto (tgt := 28) C dX9_isWord_60 (by decide) ?_
              refine jj_iload_n C dX9_isWord_28 rfl ?_
              refine jj_aload_n C dX9_isWord_29 rfl ?_
              refine tt_call0Vs (rest := [.int 4]) C (ct_J0_length_8abf5_9 hl D cA ak) 8 (by decide) rfl jw_f27063fded jw_b1ce304435 jw_d08f03a22e jw_4ea6285965 jw_bbc7045666 jn_J0_length_8abf5 rfl (jj_le rfl) (jj_le rfl) (jj_le rfl) (jj_le rfl) (jj_le rfl) dX9_isWord_30 rfl (fun w1 r O_37 => ?_)
              obtain ⟨-, rfl⟩ := O_37
              refine jj_icmp_geT (tgt := 63) C dX9_isWord_33 (by decide) (by decide) ?_
              refine jj_iconst (v := 1) C dX9_isWord_63 (by decide) ?_
              exact jj_zret C rfl ⟨[], pl0, rfl, rfl, hok, hfr, hfa, (Or.inr rfl)⟩ dX9_isWord_64 (jj_le rfl) (jj_le rfl)
            · have z_c_36 := jc_neq (a := (v_34).toInt) (b := (110)) c_36 rfl (by decide)
              refine jj_iconst (v := 0) C dX9_isWord_55 (by decide) ?_
              exact jj_zret C rfl ⟨[], pl0, rfl, rfl, hok, hfr, hfa, (Or.inl rfl)⟩ dX9_isWord_56 (jj_le rfl) (jj_le rfl)
          · have z_c_31 := jc_neq (a := (v_29).toInt) (b := (105)) c_31 rfl (by decide)
            refine jj_iconst (v := 0) C dX9_isWord_55 (by decide) ?_
            exact jj_zret C rfl ⟨[], pl0, rfl, rfl, hok, hfr, hfa, (Or.inl rfl)⟩ dX9_isWord_56 (jj_le rfl) (jj_le rfl)
        · have z_c_26 := jc_neq (a := (v_24).toInt) (b := (97)) c_26 rfl (by decide)
          refine jj_iconst (v := 0) C dX9_isWord_55 (by decide) ?_
          exact jj_zret C rfl ⟨[], pl0, rfl, rfl, hok, hfr, hfa, (Or.inl rfl)⟩ dX9_isWord_56 (jj_le rfl) (jj_le rfl)
      · have z_c_21 := jc_neq (a := (v_19).toInt) (b := (103)) c_21 rfl (by decide)
        refine jj_iconst (v := 0) C dX9_isWord_55 (by decide) ?_
        exact jj_zret C rfl ⟨[], pl0, rfl, rfl, hok, hfr, hfa, (Or.inl rfl)⟩ dX9_isWord_56 (jj_le rfl) (jj_le rfl)
    · have z_c_13 := jc_neq (a := (x_11).toInt) (b := (4)) c_13 rfl (by decide)
      refine jj_iconst (v := 0) C dX9_isWord_24 (by decide) ?_
      exact jj_zret C rfl ⟨[], pl0, rfl, rfl, hok, hfr, hfa, (Or.inl rfl)⟩ dX9_isWord_25 (jj_le rfl) (jj_le rfl)

set_option maxHeartbeats 4000000 in
set_option maxRecDepth 100000 in
theorem tc_X9_isWord_10 {l : Launch} (hl : l.stackTraces = false) (D : va_G) (cA : Nat → ClassId) (ak : (Nat → Nat) × (Nat → Nat)) {Kd : Nat → Nat} (h0 : Nat) (hk0 : Kd h0 = 10) {pl0 : va_W} (hok : tt_ok tt_tk cA Kd pl0) : jj_M l D cA ak yX9_isWord (.code yX9_isWord cX9_isWord 3 (some .boolean)) 4 85 0 0 ([] ++ pl0) [.ref h0, .ref (ak.1 9)] (tt_O (fun rx pl1 r => rx = [] ∧ tt_ok tt_tk cA Kd pl1 ∧ tt_fr Kd [] pl0 pl1 ∧ tt_fa Kd [] pl0 pl1 ∧ ((r = some (.int 0)) ∨ (r = some (.int 1))))) (tt_OX (fun _ _ _ => False)) := by
  refine jj_start hl (by decide) jw_ce1c1f12e9 (jj_le rfl) ?_
  intro p e s m args below meth c A hargs hA C hex hmn
  have hfr := tt_fr.refl (K := Kd) (WS := []) pl0
  have hfa := tt_fa.refl (K := Kd) (WA := []) pl0
  refine jj_aload_n C dX9_isWord_0 rfl ?_
  refine tt_get C hok jk_10 5 (by decide) jw_bde5c0d1a5 (t := (0, (-2147483648), 2147483647)) hk0 (by decide) rfl rfl dX9_isWord_1 (fun v_1 hv_1 hf_2 => ?_)
  obtain ⟨x_3, rfl, lx_3, ux_3⟩ := tt_vi hv_1
  refine jj_iconst (v := 1) C dX9_isWord_4 (by decide) ?_
  refine jj_icmp_ne (tgt := 24) C dX9_isWord_5 (by decide) (fun c_4 => ?_) (fun c_4 => ?_)
  · have z_c_4 := jc_neq (a := (x_3).toInt) (b := (1)) c_4 rfl (by decide)
    refine jj_iconst (v := 0) C dX9_isWord_24 (by decide) ?_
    exact jj_zret C rfl ⟨[], pl0, rfl, rfl, hok, hfr, hfa, (Or.inl rfl)⟩ dX9_isWord_25 (jj_le rfl) (jj_le rfl)
  · have z_c_4 := jc_eq (a := (x_3).toInt) (b := (1)) c_4 rfl (by decide)
    refine jj_aload_n C dX9_isWord_8 rfl ?_
    refine tt_get C hok jk_10 3 (by decide) jw_f99bd0ca2b (t := (0, 0, 400)) hk0 (by decide) rfl rfl dX9_isWord_9 (fun v_5 hv_5 hf_6 => ?_)
    obtain ⟨x_7, rfl, lx_7, ux_7⟩ := tt_vi hv_5
    refine jj_aload_n C dX9_isWord_12 rfl ?_
    refine tt_get C hok jk_10 4 (by decide) jw_66bda6962a (t := (0, 0, 400)) hk0 (by decide) rfl rfl dX9_isWord_13 (fun v_8 hv_8 hf_9 => ?_)
    obtain ⟨x_10, rfl, lx_10, ux_10⟩ := tt_vi hv_8
    obtain ⟨x_11, ex_11, vx_11⟩ := tt_isub (x := x_7) (y := x_10) (a := x_7.toInt) rfl (b := x_10.toInt) rfl (by omega) (by omega)
    refine jj_isub (v := x_11) C dX9_isWord_16 ex_11 ?_
    refine jj_aload_n C dX9_isWord_17 rfl ?_
    refine tt_call0Vs (rest := [.int x_11]) C (ct_J0_length_8abf5_10 hl D cA ak) 9 (by decide) rfl jw_f27063fded jw_b1ce304435 jw_d08f03a22e jw_4ea6285965 jw_bbc7045666 jn_J0_length_8abf5 rfl (jj_le rfl) (jj_le rfl) (jj_le rfl) (jj_le rfl) (jj_le rfl) dX9_isWord_18 rfl (fun w1 r O_12 => ?_)
    obtain ⟨-, rfl⟩ := O_12
    refine jj_icmp_eq (tgt := 26) C dX9_isWord_21 (by decide) (fun c_13 => ?_) (fun c_13 => ?_)
    · have z_c_13 := jc_eq (a := (x_11).toInt) (b := (4)) c_13 rfl (by decide)
      refine jj_iconst (v := 0) C dX9_isWord_26 (by decide) ?_
      refine jj_istore_n C dX9_isWord_27 (by decide) rfl ?_
      refine jj_iload_n C dX9_isWord_28 rfl ?_
      refine jj_aload_n C dX9_isWord_29 rfl ?_
      refine tt_call0Vs (rest := [.int 0]) C (ct_J0_length_8abf5_10 hl D cA ak) 9 (by decide) rfl jw_f27063fded jw_b1ce304435 jw_d08f03a22e jw_4ea6285965 jw_bbc7045666 jn_J0_length_8abf5 rfl (jj_le rfl) (jj_le rfl) (jj_le rfl) (jj_le rfl) (jj_le rfl) dX9_isWord_30 rfl (fun w1 r O_14 => ?_)
      obtain ⟨-, rfl⟩ := O_14
      refine jj_icmp_geF (tgt := 63) C dX9_isWord_33 (by decide) (by decide) ?_
      refine jj_aload_n C dX9_isWord_36 rfl ?_
      refine tt_get C hok jk_10 0 (by decide) jw_0664e1e086 (t := (2, 11, 0)) hk0 (by decide) rfl rfl dX9_isWord_37 (fun v_15 hv_15 hf_16 => ?_)
      obtain ⟨a_17, rfl, ka_17⟩ := tt_vr hv_15
      refine jj_aload_n C dX9_isWord_40 rfl ?_
      refine tt_getF C hok jk_10 4 (by decide) jw_66bda6962a (t := (0, 0, 400)) hk0 (by decide) rfl rfl hf_9 dX9_isWord_41 ?_
      refine jj_iload_n C dX9_isWord_44 rfl ?_
      obtain ⟨x_18, ex_18, vx_18⟩ := tt_iadd (x := x_10) (y := (0 : Int32)) (a := x_10.toInt) rfl (b := 0) (by decide) (by omega) (by omega)
      refine jj_iadd (v := x_18) C dX9_isWord_45 ex_18 ?_
      refine tt_cald C hok (t := (0, (-2147483648), 2147483647)) ka_17 (by decide) rfl (vp_in_iff.mpr ⟨by omega, by omega⟩) dX9_isWord_46 (fun v_19 hv_19 => ?_)
      refine jj_aload_n C dX9_isWord_47 rfl ?_
      refine jj_iload_n C dX9_isWord_48 rfl ?_
      refine tt_call0Vs (rest := [.int v_19]) C (ct_J0_charAt_5068e_57 hl D cA ak) 9 (by decide) rfl jw_076e8de8e0 jw_acb9174fef jw_675efe837b jw_4ea6285965 jw_391c0f56bd jn_J0_charAt_5068e rfl (jj_le rfl) (jj_le rfl) (jj_le rfl) (jj_le rfl) (jj_le rfl) dX9_isWord_49 rfl (fun w1 r O_20 => ?_)
      obtain ⟨-, rfl⟩ := O_20
      refine jj_icmp_eq (tgt := 57) C dX9_isWord_52 (by decide) (fun c_21 => ?_) (fun c_21 => ?_)
      · have z_c_21 := jc_eq (a := (v_19).toInt) (b := (108)) c_21 rfl (by decide)
        refine jj_iinc (v := 1) C dX9_isWord_57 rfl (by decide) (by decide) rfl ?_
        refine jj_goto (tgt := 28) C dX9_isWord_60 (by decide) ?_
        refine jj_iload_n C dX9_isWord_28 rfl ?_
        refine jj_aload_n C dX9_isWord_29 rfl ?_
        refine tt_call0Vs (rest := [.int 1]) C (ct_J0_length_8abf5_10 hl D cA ak) 9 (by decide) rfl jw_f27063fded jw_b1ce304435 jw_d08f03a22e jw_4ea6285965 jw_bbc7045666 jn_J0_length_8abf5 rfl (jj_le rfl) (jj_le rfl) (jj_le rfl) (jj_le rfl) (jj_le rfl) dX9_isWord_30 rfl (fun w1 r O_22 => ?_)
        obtain ⟨-, rfl⟩ := O_22
        refine jj_icmp_geF (tgt := 63) C dX9_isWord_33 (by decide) (by decide) ?_
        refine jj_aload_n C dX9_isWord_36 rfl ?_
        refine tt_getF C hok jk_10 0 (by decide) jw_0664e1e086 (t := (2, 11, 0)) hk0 (by decide) rfl rfl hf_16 dX9_isWord_37 ?_
        refine jj_aload_n C dX9_isWord_40 rfl ?_
        refine tt_getF C hok jk_10 4 (by decide) jw_66bda6962a (t := (0, 0, 400)) hk0 (by decide) rfl rfl hf_9 dX9_isWord_41 ?_
        refine jj_iload_n C dX9_isWord_44 rfl ?_
        obtain ⟨x_23, ex_23, vx_23⟩ := tt_iadd (x := x_10) (y := (1 : Int32)) (a := x_10.toInt) rfl (b := 1) (by decide) (by omega) (by omega)
        refine jj_iadd (v := x_23) C dX9_isWord_45 ex_23 ?_
        refine tt_cald C hok (t := (0, (-2147483648), 2147483647)) ka_17 (by decide) rfl (vp_in_iff.mpr ⟨by omega, by omega⟩) dX9_isWord_46 (fun v_24 hv_24 => ?_)
        refine jj_aload_n C dX9_isWord_47 rfl ?_
        refine jj_iload_n C dX9_isWord_48 rfl ?_
        refine tt_call0Vs (rest := [.int v_24]) C (ct_J0_charAt_5068e_58 hl D cA ak) 9 (by decide) rfl jw_076e8de8e0 jw_acb9174fef jw_675efe837b jw_4ea6285965 jw_391c0f56bd jn_J0_charAt_5068e rfl (jj_le rfl) (jj_le rfl) (jj_le rfl) (jj_le rfl) (jj_le rfl) dX9_isWord_49 rfl (fun w1 r O_25 => ?_)
        obtain ⟨-, rfl⟩ := O_25
        refine jj_icmp_eq (tgt := 57) C dX9_isWord_52 (by decide) (fun c_26 => ?_) (fun c_26 => ?_)
        · have z_c_26 := jc_eq (a := (v_24).toInt) (b := (111)) c_26 rfl (by decide)
          refine jj_iinc (v := 2) C dX9_isWord_57 rfl (by decide) (by decide) rfl ?_
          refine jj_goto (tgt := 28) C dX9_isWord_60 (by decide) ?_
          refine jj_iload_n C dX9_isWord_28 rfl ?_
          refine jj_aload_n C dX9_isWord_29 rfl ?_
          refine tt_call0Vs (rest := [.int 2]) C (ct_J0_length_8abf5_10 hl D cA ak) 9 (by decide) rfl jw_f27063fded jw_b1ce304435 jw_d08f03a22e jw_4ea6285965 jw_bbc7045666 jn_J0_length_8abf5 rfl (jj_le rfl) (jj_le rfl) (jj_le rfl) (jj_le rfl) (jj_le rfl) dX9_isWord_30 rfl (fun w1 r O_27 => ?_)
          obtain ⟨-, rfl⟩ := O_27
          refine jj_icmp_geF (tgt := 63) C dX9_isWord_33 (by decide) (by decide) ?_
          refine jj_aload_n C dX9_isWord_36 rfl ?_
          refine tt_getF C hok jk_10 0 (by decide) jw_0664e1e086 (t := (2, 11, 0)) hk0 (by decide) rfl rfl hf_16 dX9_isWord_37 ?_
          refine jj_aload_n C dX9_isWord_40 rfl ?_
          refine tt_getF C hok jk_10 4 (by decide) jw_66bda6962a (t := (0, 0, 400)) hk0 (by decide) rfl rfl hf_9 dX9_isWord_41 ?_
          refine jj_iload_n C dX9_isWord_44 rfl ?_
          obtain ⟨x_28, ex_28, vx_28⟩ := tt_iadd (x := x_10) (y := (2 : Int32)) (a := x_10.toInt) rfl (b := 2) (by decide) (by omega) (by omega)
          refine jj_iadd (v := x_28) C dX9_isWord_45 ex_28 ?_
          refine tt_cald C hok (t := (0, (-2147483648), 2147483647)) ka_17 (by decide) rfl (vp_in_iff.mpr ⟨by omega, by omega⟩) dX9_isWord_46 (fun v_29 hv_29 => ?_)
          refine jj_aload_n C dX9_isWord_47 rfl ?_
          refine jj_iload_n C dX9_isWord_48 rfl ?_
          refine tt_call0Vs (rest := [.int v_29]) C (ct_J0_charAt_5068e_59 hl D cA ak) 9 (by decide) rfl jw_076e8de8e0 jw_acb9174fef jw_675efe837b jw_4ea6285965 jw_391c0f56bd jn_J0_charAt_5068e rfl (jj_le rfl) (jj_le rfl) (jj_le rfl) (jj_le rfl) (jj_le rfl) dX9_isWord_49 rfl (fun w1 r O_30 => ?_)
          obtain ⟨-, rfl⟩ := O_30
          refine jj_icmp_eq (tgt := 57) C dX9_isWord_52 (by decide) (fun c_31 => ?_) (fun c_31 => ?_)
          · have z_c_31 := jc_eq (a := (v_29).toInt) (b := (115)) c_31 rfl (by decide)
            refine jj_iinc (v := 3) C dX9_isWord_57 rfl (by decide) (by decide) rfl ?_
            refine jj_goto (tgt := 28) C dX9_isWord_60 (by decide) ?_
            refine jj_iload_n C dX9_isWord_28 rfl ?_
            refine jj_aload_n C dX9_isWord_29 rfl ?_
            refine tt_call0Vs (rest := [.int 3]) C (ct_J0_length_8abf5_10 hl D cA ak) 9 (by decide) rfl jw_f27063fded jw_b1ce304435 jw_d08f03a22e jw_4ea6285965 jw_bbc7045666 jn_J0_length_8abf5 rfl (jj_le rfl) (jj_le rfl) (jj_le rfl) (jj_le rfl) (jj_le rfl) dX9_isWord_30 rfl (fun w1 r O_32 => ?_)
            obtain ⟨-, rfl⟩ := O_32
            refine jj_icmp_geF (tgt := 63) C dX9_isWord_33 (by decide) (by decide) ?_
            refine jj_aload_n C dX9_isWord_36 rfl ?_
            refine tt_getF C hok jk_10 0 (by decide) jw_0664e1e086 (t := (2, 11, 0)) hk0 (by decide) rfl rfl hf_16 dX9_isWord_37 ?_
            refine jj_aload_n C dX9_isWord_40 rfl ?_
            refine tt_getF C hok jk_10 4 (by decide) jw_66bda6962a (t := (0, 0, 400)) hk0 (by decide) rfl rfl hf_9 dX9_isWord_41 ?_
            refine jj_iload_n C dX9_isWord_44 rfl ?_
            obtain ⟨x_33, ex_33, vx_33⟩ := tt_iadd (x := x_10) (y := (3 : Int32)) (a := x_10.toInt) rfl (b := 3) (by decide) (by omega) (by omega)
            refine jj_iadd (v := x_33) C dX9_isWord_45 ex_33 ?_
            refine tt_cald C hok (t := (0, (-2147483648), 2147483647)) ka_17 (by decide) rfl (vp_in_iff.mpr ⟨by omega, by omega⟩) dX9_isWord_46 (fun v_34 hv_34 => ?_)
            refine jj_aload_n C dX9_isWord_47 rfl ?_
            refine jj_iload_n C dX9_isWord_48 rfl ?_
            refine tt_call0Vs (rest := [.int v_34]) C (ct_J0_charAt_5068e_60 hl D cA ak) 9 (by decide) rfl jw_076e8de8e0 jw_acb9174fef jw_675efe837b jw_4ea6285965 jw_391c0f56bd jn_J0_charAt_5068e rfl (jj_le rfl) (jj_le rfl) (jj_le rfl) (jj_le rfl) (jj_le rfl) dX9_isWord_49 rfl (fun w1 r O_35 => ?_)
            obtain ⟨-, rfl⟩ := O_35
            refine jj_icmp_eq (tgt := 57) C dX9_isWord_52 (by decide) (fun c_36 => ?_) (fun c_36 => ?_)
            · have z_c_36 := jc_eq (a := (v_34).toInt) (b := (101)) c_36 rfl (by decide)
              refine jj_iinc (v := 4) C dX9_isWord_57 rfl (by decide) (by decide) rfl ?_
              refine jj_goto (tgt := 28) C dX9_isWord_60 (by decide) ?_
              refine jj_iload_n C dX9_isWord_28 rfl ?_
              refine jj_aload_n C dX9_isWord_29 rfl ?_
              refine tt_call0Vs (rest := [.int 4]) C (ct_J0_length_8abf5_10 hl D cA ak) 9 (by decide) rfl jw_f27063fded jw_b1ce304435 jw_d08f03a22e jw_4ea6285965 jw_bbc7045666 jn_J0_length_8abf5 rfl (jj_le rfl) (jj_le rfl) (jj_le rfl) (jj_le rfl) (jj_le rfl) dX9_isWord_30 rfl (fun w1 r O_37 => ?_)
              obtain ⟨-, rfl⟩ := O_37
              refine jj_icmp_geT (tgt := 63) C dX9_isWord_33 (by decide) (by decide) ?_
              refine jj_iconst (v := 1) C dX9_isWord_63 (by decide) ?_
              exact jj_zret C rfl ⟨[], pl0, rfl, rfl, hok, hfr, hfa, (Or.inr rfl)⟩ dX9_isWord_64 (jj_le rfl) (jj_le rfl)
            · have z_c_36 := jc_neq (a := (v_34).toInt) (b := (101)) c_36 rfl (by decide)
              refine jj_iconst (v := 0) C dX9_isWord_55 (by decide) ?_
              exact jj_zret C rfl ⟨[], pl0, rfl, rfl, hok, hfr, hfa, (Or.inl rfl)⟩ dX9_isWord_56 (jj_le rfl) (jj_le rfl)
          · have z_c_31 := jc_neq (a := (v_29).toInt) (b := (115)) c_31 rfl (by decide)
            refine jj_iconst (v := 0) C dX9_isWord_55 (by decide) ?_
            exact jj_zret C rfl ⟨[], pl0, rfl, rfl, hok, hfr, hfa, (Or.inl rfl)⟩ dX9_isWord_56 (jj_le rfl) (jj_le rfl)
        · have z_c_26 := jc_neq (a := (v_24).toInt) (b := (111)) c_26 rfl (by decide)
          refine jj_iconst (v := 0) C dX9_isWord_55 (by decide) ?_
          exact jj_zret C rfl ⟨[], pl0, rfl, rfl, hok, hfr, hfa, (Or.inl rfl)⟩ dX9_isWord_56 (jj_le rfl) (jj_le rfl)
      · have z_c_21 := jc_neq (a := (v_19).toInt) (b := (108)) c_21 rfl (by decide)
        refine jj_iconst (v := 0) C dX9_isWord_55 (by decide) ?_
        exact jj_zret C rfl ⟨[], pl0, rfl, rfl, hok, hfr, hfa, (Or.inl rfl)⟩ dX9_isWord_56 (jj_le rfl) (jj_le rfl)
    · have z_c_13 := jc_neq (a := (x_11).toInt) (b := (4)) c_13 rfl (by decide)
      refine jj_iconst (v := 0) C dX9_isWord_24 (by decide) ?_
      exact jj_zret C rfl ⟨[], pl0, rfl, rfl, hok, hfr, hfa, (Or.inl rfl)⟩ dX9_isWord_25 (jj_le rfl) (jj_le rfl)

set_option maxHeartbeats 4000000 in
set_option maxRecDepth 100000 in
theorem tc_X9_isWord_11 {l : Launch} (hl : l.stackTraces = false) (D : va_G) (cA : Nat → ClassId) (ak : (Nat → Nat) × (Nat → Nat)) {Kd : Nat → Nat} (h0 : Nat) (hk0 : Kd h0 = 10) {pl0 : va_W} (hok : tt_ok tt_tk cA Kd pl0) : jj_M l D cA ak yX9_isWord (.code yX9_isWord cX9_isWord 3 (some .boolean)) 4 85 0 0 ([] ++ pl0) [.ref h0, .ref (ak.1 10)] (tt_O (fun rx pl1 r => rx = [] ∧ tt_ok tt_tk cA Kd pl1 ∧ tt_fr Kd [] pl0 pl1 ∧ tt_fa Kd [] pl0 pl1 ∧ ((r = some (.int 0)) ∨ (r = some (.int 1))))) (tt_OX (fun _ _ _ => False)) := by
  refine jj_start hl (by decide) jw_ce1c1f12e9 (jj_le rfl) ?_
  intro p e s m args below meth c A hargs hA C hex hmn
  have hfr := tt_fr.refl (K := Kd) (WS := []) pl0
  have hfa := tt_fa.refl (K := Kd) (WA := []) pl0
  refine jj_aload_n C dX9_isWord_0 rfl ?_
  refine tt_get C hok jk_10 5 (by decide) jw_bde5c0d1a5 (t := (0, (-2147483648), 2147483647)) hk0 (by decide) rfl rfl dX9_isWord_1 (fun v_1 hv_1 hf_2 => ?_)
  obtain ⟨x_3, rfl, lx_3, ux_3⟩ := tt_vi hv_1
  refine jj_iconst (v := 1) C dX9_isWord_4 (by decide) ?_
  refine jj_icmp_ne (tgt := 24) C dX9_isWord_5 (by decide) (fun c_4 => ?_) (fun c_4 => ?_)
  · have z_c_4 := jc_neq (a := (x_3).toInt) (b := (1)) c_4 rfl (by decide)
    refine jj_iconst (v := 0) C dX9_isWord_24 (by decide) ?_
    exact jj_zret C rfl ⟨[], pl0, rfl, rfl, hok, hfr, hfa, (Or.inl rfl)⟩ dX9_isWord_25 (jj_le rfl) (jj_le rfl)
  · have z_c_4 := jc_eq (a := (x_3).toInt) (b := (1)) c_4 rfl (by decide)
    refine jj_aload_n C dX9_isWord_8 rfl ?_
    refine tt_get C hok jk_10 3 (by decide) jw_f99bd0ca2b (t := (0, 0, 400)) hk0 (by decide) rfl rfl dX9_isWord_9 (fun v_5 hv_5 hf_6 => ?_)
    obtain ⟨x_7, rfl, lx_7, ux_7⟩ := tt_vi hv_5
    refine jj_aload_n C dX9_isWord_12 rfl ?_
    refine tt_get C hok jk_10 4 (by decide) jw_66bda6962a (t := (0, 0, 400)) hk0 (by decide) rfl rfl dX9_isWord_13 (fun v_8 hv_8 hf_9 => ?_)
    obtain ⟨x_10, rfl, lx_10, ux_10⟩ := tt_vi hv_8
    obtain ⟨x_11, ex_11, vx_11⟩ := tt_isub (x := x_7) (y := x_10) (a := x_7.toInt) rfl (b := x_10.toInt) rfl (by omega) (by omega)
    refine jj_isub (v := x_11) C dX9_isWord_16 ex_11 ?_
    refine jj_aload_n C dX9_isWord_17 rfl ?_
    refine tt_call0Vs (rest := [.int x_11]) C (ct_J0_length_8abf5_11 hl D cA ak) 10 (by decide) rfl jw_f27063fded jw_b1ce304435 jw_d08f03a22e jw_4ea6285965 jw_bbc7045666 jn_J0_length_8abf5 rfl (jj_le rfl) (jj_le rfl) (jj_le rfl) (jj_le rfl) (jj_le rfl) dX9_isWord_18 rfl (fun w1 r O_12 => ?_)
    obtain ⟨-, rfl⟩ := O_12
    refine jj_icmp_eq (tgt := 26) C dX9_isWord_21 (by decide) (fun c_13 => ?_) (fun c_13 => ?_)
    · have z_c_13 := jc_eq (a := (x_11).toInt) (b := (4)) c_13 rfl (by decide)
      refine jj_iconst (v := 0) C dX9_isWord_26 (by decide) ?_
      refine jj_istore_n C dX9_isWord_27 (by decide) rfl ?_
      refine jj_iload_n C dX9_isWord_28 rfl ?_
      refine jj_aload_n C dX9_isWord_29 rfl ?_
      refine tt_call0Vs (rest := [.int 0]) C (ct_J0_length_8abf5_11 hl D cA ak) 10 (by decide) rfl jw_f27063fded jw_b1ce304435 jw_d08f03a22e jw_4ea6285965 jw_bbc7045666 jn_J0_length_8abf5 rfl (jj_le rfl) (jj_le rfl) (jj_le rfl) (jj_le rfl) (jj_le rfl) dX9_isWord_30 rfl (fun w1 r O_14 => ?_)
      obtain ⟨-, rfl⟩ := O_14
      refine jj_icmp_geF (tgt := 63) C dX9_isWord_33 (by decide) (by decide) ?_
      refine jj_aload_n C dX9_isWord_36 rfl ?_
      refine tt_get C hok jk_10 0 (by decide) jw_0664e1e086 (t := (2, 11, 0)) hk0 (by decide) rfl rfl dX9_isWord_37 (fun v_15 hv_15 hf_16 => ?_)
      obtain ⟨a_17, rfl, ka_17⟩ := tt_vr hv_15
      refine jj_aload_n C dX9_isWord_40 rfl ?_
      refine tt_getF C hok jk_10 4 (by decide) jw_66bda6962a (t := (0, 0, 400)) hk0 (by decide) rfl rfl hf_9 dX9_isWord_41 ?_
      refine jj_iload_n C dX9_isWord_44 rfl ?_
      obtain ⟨x_18, ex_18, vx_18⟩ := tt_iadd (x := x_10) (y := (0 : Int32)) (a := x_10.toInt) rfl (b := 0) (by decide) (by omega) (by omega)
      refine jj_iadd (v := x_18) C dX9_isWord_45 ex_18 ?_
      refine tt_cald C hok (t := (0, (-2147483648), 2147483647)) ka_17 (by decide) rfl (vp_in_iff.mpr ⟨by omega, by omega⟩) dX9_isWord_46 (fun v_19 hv_19 => ?_)
      refine jj_aload_n C dX9_isWord_47 rfl ?_
      refine jj_iload_n C dX9_isWord_48 rfl ?_
      refine tt_call0Vs (rest := [.int v_19]) C (ct_J0_charAt_5068e_61 hl D cA ak) 10 (by decide) rfl jw_076e8de8e0 jw_acb9174fef jw_675efe837b jw_4ea6285965 jw_391c0f56bd jn_J0_charAt_5068e rfl (jj_le rfl) (jj_le rfl) (jj_le rfl) (jj_le rfl) (jj_le rfl) dX9_isWord_49 rfl (fun w1 r O_20 => ?_)
      obtain ⟨-, rfl⟩ := O_20
      refine jj_icmp_eq (tgt := 57) C dX9_isWord_52 (by decide) (fun c_21 => ?_) (fun c_21 => ?_)
      · have z_c_21 := jc_eq (a := (v_19).toInt) (b := (112)) c_21 rfl (by decide)
        refine jj_iinc (v := 1) C dX9_isWord_57 rfl (by decide) (by decide) rfl ?_
        refine jj_goto (tgt := 28) C dX9_isWord_60 (by decide) ?_
        refine jj_iload_n C dX9_isWord_28 rfl ?_
        refine jj_aload_n C dX9_isWord_29 rfl ?_
        refine tt_call0Vs (rest := [.int 1]) C (ct_J0_length_8abf5_11 hl D cA ak) 10 (by decide) rfl jw_f27063fded jw_b1ce304435 jw_d08f03a22e jw_4ea6285965 jw_bbc7045666 jn_J0_length_8abf5 rfl (jj_le rfl) (jj_le rfl) (jj_le rfl) (jj_le rfl) (jj_le rfl) dX9_isWord_30 rfl (fun w1 r O_22 => ?_)
        obtain ⟨-, rfl⟩ := O_22
        refine jj_icmp_geF (tgt := 63) C dX9_isWord_33 (by decide) (by decide) ?_
        refine jj_aload_n C dX9_isWord_36 rfl ?_
        refine tt_getF C hok jk_10 0 (by decide) jw_0664e1e086 (t := (2, 11, 0)) hk0 (by decide) rfl rfl hf_16 dX9_isWord_37 ?_
        refine jj_aload_n C dX9_isWord_40 rfl ?_
        refine tt_getF C hok jk_10 4 (by decide) jw_66bda6962a (t := (0, 0, 400)) hk0 (by decide) rfl rfl hf_9 dX9_isWord_41 ?_
        refine jj_iload_n C dX9_isWord_44 rfl ?_
        obtain ⟨x_23, ex_23, vx_23⟩ := tt_iadd (x := x_10) (y := (1 : Int32)) (a := x_10.toInt) rfl (b := 1) (by decide) (by omega) (by omega)
        refine jj_iadd (v := x_23) C dX9_isWord_45 ex_23 ?_
        refine tt_cald C hok (t := (0, (-2147483648), 2147483647)) ka_17 (by decide) rfl (vp_in_iff.mpr ⟨by omega, by omega⟩) dX9_isWord_46 (fun v_24 hv_24 => ?_)
        refine jj_aload_n C dX9_isWord_47 rfl ?_
        refine jj_iload_n C dX9_isWord_48 rfl ?_
        refine tt_call0Vs (rest := [.int v_24]) C (ct_J0_charAt_5068e_62 hl D cA ak) 10 (by decide) rfl jw_076e8de8e0 jw_acb9174fef jw_675efe837b jw_4ea6285965 jw_391c0f56bd jn_J0_charAt_5068e rfl (jj_le rfl) (jj_le rfl) (jj_le rfl) (jj_le rfl) (jj_le rfl) dX9_isWord_49 rfl (fun w1 r O_25 => ?_)
        obtain ⟨-, rfl⟩ := O_25
        refine jj_icmp_eq (tgt := 57) C dX9_isWord_52 (by decide) (fun c_26 => ?_) (fun c_26 => ?_)
        · have z_c_26 := jc_eq (a := (v_24).toInt) (b := (97)) c_26 rfl (by decide)
          refine jj_iinc (v := 2) C dX9_isWord_57 rfl (by decide) (by decide) rfl ?_
          refine jj_goto (tgt := 28) C dX9_isWord_60 (by decide) ?_
          refine jj_iload_n C dX9_isWord_28 rfl ?_
          refine jj_aload_n C dX9_isWord_29 rfl ?_
          refine tt_call0Vs (rest := [.int 2]) C (ct_J0_length_8abf5_11 hl D cA ak) 10 (by decide) rfl jw_f27063fded jw_b1ce304435 jw_d08f03a22e jw_4ea6285965 jw_bbc7045666 jn_J0_length_8abf5 rfl (jj_le rfl) (jj_le rfl) (jj_le rfl) (jj_le rfl) (jj_le rfl) dX9_isWord_30 rfl (fun w1 r O_27 => ?_)
          obtain ⟨-, rfl⟩ := O_27
          refine jj_icmp_geF (tgt := 63) C dX9_isWord_33 (by decide) (by decide) ?_
          refine jj_aload_n C dX9_isWord_36 rfl ?_
          refine tt_getF C hok jk_10 0 (by decide) jw_0664e1e086 (t := (2, 11, 0)) hk0 (by decide) rfl rfl hf_16 dX9_isWord_37 ?_
          refine jj_aload_n C dX9_isWord_40 rfl ?_
          refine tt_getF C hok jk_10 4 (by decide) jw_66bda6962a (t := (0, 0, 400)) hk0 (by decide) rfl rfl hf_9 dX9_isWord_41 ?_
          refine jj_iload_n C dX9_isWord_44 rfl ?_
          obtain ⟨x_28, ex_28, vx_28⟩ := tt_iadd (x := x_10) (y := (2 : Int32)) (a := x_10.toInt) rfl (b := 2) (by decide) (by omega) (by omega)
          refine jj_iadd (v := x_28) C dX9_isWord_45 ex_28 ?_
          refine tt_cald C hok (t := (0, (-2147483648), 2147483647)) ka_17 (by decide) rfl (vp_in_iff.mpr ⟨by omega, by omega⟩) dX9_isWord_46 (fun v_29 hv_29 => ?_)
          refine jj_aload_n C dX9_isWord_47 rfl ?_
          refine jj_iload_n C dX9_isWord_48 rfl ?_
          refine tt_call0Vs (rest := [.int v_29]) C (ct_J0_charAt_5068e_63 hl D cA ak) 10 (by decide) rfl jw_076e8de8e0 jw_acb9174fef jw_675efe837b jw_4ea6285965 jw_391c0f56bd jn_J0_charAt_5068e rfl (jj_le rfl) (jj_le rfl) (jj_le rfl) (jj_le rfl) (jj_le rfl) dX9_isWord_49 rfl (fun w1 r O_30 => ?_)
          obtain ⟨-, rfl⟩ := O_30
          refine jj_icmp_eq (tgt := 57) C dX9_isWord_52 (by decide) (fun c_31 => ?_) (fun c_31 => ?_)
          · have z_c_31 := jc_eq (a := (v_29).toInt) (b := (115)) c_31 rfl (by decide)
            refine jj_iinc (v := 3) C dX9_isWord_57 rfl (by decide) (by decide) rfl ?_
            refine jj_goto (tgt := 28) C dX9_isWord_60 (by decide) ?_
            refine jj_iload_n C dX9_isWord_28 rfl ?_
            refine jj_aload_n C dX9_isWord_29 rfl ?_
            refine tt_call0Vs (rest := [.int 3]) C (ct_J0_length_8abf5_11 hl D cA ak) 10 (by decide) rfl jw_f27063fded jw_b1ce304435 jw_d08f03a22e jw_4ea6285965 jw_bbc7045666 jn_J0_length_8abf5 rfl (jj_le rfl) (jj_le rfl) (jj_le rfl) (jj_le rfl) (jj_le rfl) dX9_isWord_30 rfl (fun w1 r O_32 => ?_)
            obtain ⟨-, rfl⟩ := O_32
            refine jj_icmp_geF (tgt := 63) C dX9_isWord_33 (by decide) (by decide) ?_
            refine jj_aload_n C dX9_isWord_36 rfl ?_
            refine tt_getF C hok jk_10 0 (by decide) jw_0664e1e086 (t := (2, 11, 0)) hk0 (by decide) rfl rfl hf_16 dX9_isWord_37 ?_
            refine jj_aload_n C dX9_isWord_40 rfl ?_
            refine tt_getF C hok jk_10 4 (by decide) jw_66bda6962a (t := (0, 0, 400)) hk0 (by decide) rfl rfl hf_9 dX9_isWord_41 ?_
            refine jj_iload_n C dX9_isWord_44 rfl ?_
            obtain ⟨x_33, ex_33, vx_33⟩ := tt_iadd (x := x_10) (y := (3 : Int32)) (a := x_10.toInt) rfl (b := 3) (by decide) (by omega) (by omega)
            refine jj_iadd (v := x_33) C dX9_isWord_45 ex_33 ?_
            refine tt_cald C hok (t := (0, (-2147483648), 2147483647)) ka_17 (by decide) rfl (vp_in_iff.mpr ⟨by omega, by omega⟩) dX9_isWord_46 (fun v_34 hv_34 => ?_)
            refine jj_aload_n C dX9_isWord_47 rfl ?_
            refine jj_iload_n C dX9_isWord_48 rfl ?_
            refine tt_call0Vs (rest := [.int v_34]) C (ct_J0_charAt_5068e_64 hl D cA ak) 10 (by decide) rfl jw_076e8de8e0 jw_acb9174fef jw_675efe837b jw_4ea6285965 jw_391c0f56bd jn_J0_charAt_5068e rfl (jj_le rfl) (jj_le rfl) (jj_le rfl) (jj_le rfl) (jj_le rfl) dX9_isWord_49 rfl (fun w1 r O_35 => ?_)
            obtain ⟨-, rfl⟩ := O_35
            refine jj_icmp_eq (tgt := 57) C dX9_isWord_52 (by decide) (fun c_36 => ?_) (fun c_36 => ?_)
            · have z_c_36 := jc_eq (a := (v_34).toInt) (b := (115)) c_36 rfl (by decide)
              refine jj_iinc (v := 4) C dX9_isWord_57 rfl (by decide) (by decide) rfl ?_
              refine jj_goto (tgt := 28) C dX9_isWord_60 (by decide) ?_
              refine jj_iload_n C dX9_isWord_28 rfl ?_
              refine jj_aload_n C dX9_isWord_29 rfl ?_
              refine tt_call0Vs (rest := [.int 4]) C (ct_J0_length_8abf5_11 hl D cA ak) 10 (by decide) rfl jw_f27063fded jw_b1ce304435 jw_d08f03a22e jw_4ea6285965 jw_bbc7045666 jn_J0_length_8abf5 rfl (jj_le rfl) (jj_le rfl) (jj_le rfl) (jj_le rfl) (jj_le rfl) dX9_isWord_30 rfl (fun w1 r O_37 => ?_)
              obtain ⟨-, rfl⟩ := O_37
              refine jj_icmp_geT (tgt := 63) C dX9_isWord_33 (by decide) (by decide) ?_
              refine jj_iconst (v := 1) C dX9_isWord_63 (by decide) ?_
              exact jj_zret C rfl ⟨[], pl0, rfl, rfl, hok, hfr, hfa, (Or.inr rfl)⟩ dX9_isWord_64 (jj_le rfl) (jj_le rfl)
            · have z_c_36 := jc_neq (a := (v_34).toInt) (b := (115)) c_36 rfl (by decide)
              refine jj_iconst (v := 0) C dX9_isWord_55 (by decide) ?_
              exact jj_zret C rfl ⟨[], pl0, rfl, rfl, hok, hfr, hfa, (Or.inl rfl)⟩ dX9_isWord_56 (jj_le rfl) (jj_le rfl)
          · have z_c_31 := jc_neq (a := (v_29).toInt) (b := (115)) c_31 rfl (by decide)
            refine jj_iconst (v := 0) C dX9_isWord_55 (by decide) ?_
            exact jj_zret C rfl ⟨[], pl0, rfl, rfl, hok, hfr, hfa, (Or.inl rfl)⟩ dX9_isWord_56 (jj_le rfl) (jj_le rfl)
        · have z_c_26 := jc_neq (a := (v_24).toInt) (b := (97)) c_26 rfl (by decide)
          refine jj_iconst (v := 0) C dX9_isWord_55 (by decide) ?_
          exact jj_zret C rfl ⟨[], pl0, rfl, rfl, hok, hfr, hfa, (Or.inl rfl)⟩ dX9_isWord_56 (jj_le rfl) (jj_le rfl)
      · have z_c_21 := jc_neq (a := (v_19).toInt) (b := (112)) c_21 rfl (by decide)
        refine jj_iconst (v := 0) C dX9_isWord_55 (by decide) ?_
        exact jj_zret C rfl ⟨[], pl0, rfl, rfl, hok, hfr, hfa, (Or.inl rfl)⟩ dX9_isWord_56 (jj_le rfl) (jj_le rfl)
    · have z_c_13 := jc_neq (a := (x_11).toInt) (b := (4)) c_13 rfl (by decide)
      refine jj_iconst (v := 0) C dX9_isWord_24 (by decide) ?_
      exact jj_zret C rfl ⟨[], pl0, rfl, rfl, hok, hfr, hfa, (Or.inl rfl)⟩ dX9_isWord_25 (jj_le rfl) (jj_le rfl)

