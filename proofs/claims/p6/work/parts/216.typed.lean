set_option maxHeartbeats 4000000 in
set_option maxRecDepth 100000 in
theorem tc_X9_isWord_1 {l : Launch} (hl : l.stackTraces = false) (D : va_G) (cA : Nat → ClassId) (ak : (Nat → Nat) × (Nat → Nat)) {Kd : Nat → Nat} (h0 : Nat) (hk0 : Kd h0 = 10) {pl0 : va_W} (hok : tt_ok tt_tk cA Kd pl0) : jj_M l D cA ak yX9_isWord (.code yX9_isWord cX9_isWord 3 (some .boolean)) 4 85 0 0 ([] ++ pl0) [.ref h0, .ref (ak.1 0)] (tt_O (fun rx pl1 r => rx = [] ∧ tt_ok tt_tk cA Kd pl1 ∧ tt_fr Kd [] pl0 pl1 ∧ tt_fa Kd [] pl0 pl1 ∧ ((r = some (.int 0)) ∨ (r = some (.int 1))))) (tt_OX (fun _ _ _ => False)) := by
  refine jj_start hl (by decide) jw_ce1c1f12e9 (jj_le rfl) ?_
  intro p e s m args below meth c A hargs hA C hex hmn
  have hfr := tt_fr.refl (K := Kd) (WS := []) pl0
  have hfa := tt_fa.refl (K := Kd) (WA := []) pl0
  refine jj_aload_n C dX9_isWord_0 rfl ?_
  refine tt_get C hok jk_10 5 (by decide) jw_bde5c0d1a5 (t := (0, (-2147483648), 2147483647)) hk0 (by decide) rfl rfl dX9_isWord_1 (fun v_1 hv_1 hf_2 => ?_)
  obtain ⟨x_3, rfl, lx_3, ux_3⟩ := tt_vi hv_1
  refine jj_iconst (v := 1) C dX9_isWord_4 (by decide) ?_
  refine jj_icmp_ne (tgt := 24) C dX9_isWord_5 (by decide) (fun c_4 => ?_) (fun c_4 => ?_)
  · have z_c_4 := jc_neq (a := (x_3).toInt) (b := (1)) c_4 rfl (by decide)
    refine jj_iconst (v := 0) C dX9_isWord_24 (by decide) ?_
    exact jj_zret C rfl ⟨[], pl0, rfl, rfl, hok, hfr, hfa, (Or.inl rfl)⟩ dX9_isWord_25 (jj_le rfl) (jj_le rfl)
  · have z_c_4 := jc_eq (a := (x_3).toInt) (b := (1)) c_4 rfl (by decide)
    refine jj_aload_n C dX9_isWord_8 rfl ?_
    refine tt_get C hok jk_10 3 (by decide) jw_f99bd0ca2b (t := (0, 0, 400)) hk0 (by decide) rfl rfl dX9_isWord_9 (fun v_5 hv_5 hf_6 => ?_)
    obtain ⟨x_7, rfl, lx_7, ux_7⟩ := tt_vi hv_5
    refine jj_aload_n C dX9_isWord_12 rfl ?_
    refine tt_get C hok jk_10 4 (by decide) jw_66bda6962a (t := (0, 0, 400)) hk0 (by decide) rfl rfl dX9_isWord_13 (fun v_8 hv_8 hf_9 => ?_)
    obtain ⟨x_10, rfl, lx_10, ux_10⟩ := tt_vi hv_8
    obtain ⟨x_11, ex_11, vx_11⟩ := tt_isub (x := x_7) (y := x_10) (a := x_7.toInt) rfl (b := x_10.toInt) rfl (by omega) (by omega)
    refine jj_isub (v := x_11) C dX9_isWord_16 ex_11 ?_
    refine jj_aload_n C dX9_isWord_17 rfl ?_
    refine tt_call0Vs (rest := [.int x_11]) C (ct_J0_length_8abf5_1 hl D cA ak) 0 (by decide) rfl jw_f27063fded jw_b1ce304435 jw_d08f03a22e jw_4ea6285965 jw_bbc7045666 jn_J0_length_8abf5 rfl (jj_le rfl) (jj_le rfl) (jj_le rfl) (jj_le rfl) (jj_le rfl) dX9_isWord_18 rfl (fun w1 r O_12 => ?_)
    obtain ⟨-, rfl⟩ := O_12
    refine jj_icmp_eq (tgt := 26) C dX9_isWord_21 (by decide) (fun c_13 => ?_) (fun c_13 => ?_)
    · have z_c_13 := jc_eq (a := (x_11).toInt) (b := (4)) c_13 rfl (by decide)
      refine jj_iconst (v := 0) C dX9_isWord_26 (by decide) ?_
      refine jj_istore_n C dX9_isWord_27 (by decide) rfl ?_
      refine jj_iload_n C dX9_isWord_28 rfl ?_
      refine jj_aload_n C dX9_isWord_29 rfl ?_
      refine tt_call0Vs (rest := [.int 0]) C (ct_J0_length_8abf5_1 hl D cA ak) 0 (by decide) rfl jw_f27063fded jw_b1ce304435 jw_d08f03a22e jw_4ea6285965 jw_bbc7045666 jn_J0_length_8abf5 rfl (jj_le rfl) (jj_le rfl) (jj_le rfl) (jj_le rfl) (jj_le rfl) dX9_isWord_30 rfl (fun w1 r O_14 => ?_)
      obtain ⟨-, rfl⟩ := O_14
      refine jj_icmp_geF (tgt := 63) C dX9_isWord_33 (by decide) (by decide) ?_
      refine jj_aload_n C dX9_isWord_36 rfl ?_
      refine tt_get C hok jk_10 0 (by decide) jw_0664e1e086 (t := (2, 11, 0)) hk0 (by decide) rfl rfl dX9_isWord_37 (fun v_15 hv_15 hf_16 => ?_)
      obtain ⟨a_17, rfl, ka_17⟩ := tt_vr hv_15
      refine jj_aload_n C dX9_isWord_40 rfl ?_
      refine tt_getF C hok jk_10 4 (by decide) jw_66bda6962a (t := (0, 0, 400)) hk0 (by decide) rfl rfl hf_9 dX9_isWord_41 ?_
      refine jj_iload_n C dX9_isWord_44 rfl ?_
      obtain ⟨x_18, ex_18, vx_18⟩ := tt_iadd (x := x_10) (y := (0 : Int32)) (a := x_10.toInt) rfl (b := 0) (by decide) (by omega) (by omega)
      refine jj_iadd (v := x_18) C dX9_isWord_45 ex_18 ?_
      refine tt_cald C hok (t := (0, (-2147483648), 2147483647)) ka_17 (by decide) rfl (vp_in_iff.mpr ⟨by omega, by omega⟩) dX9_isWord_46 (fun v_19 hv_19 => ?_)
      refine jj_aload_n C dX9_isWord_47 rfl ?_
      refine jj_iload_n C dX9_isWord_48 rfl ?_
      refine tt_call0Vs (rest := [.int v_19]) C (ct_J0_charAt_5068e_1 hl D cA ak) 0 (by decide) rfl jw_076e8de8e0 jw_acb9174fef jw_675efe837b jw_4ea6285965 jw_391c0f56bd jn_J0_charAt_5068e rfl (jj_le rfl) (jj_le rfl) (jj_le rfl) (jj_le rfl) (jj_le rfl) dX9_isWord_49 rfl (fun w1 r O_20 => ?_)
      obtain ⟨-, rfl⟩ := O_20
      refine jj_icmp_eq (tgt := 57) C dX9_isWord_52 (by decide) (fun c_21 => ?_) (fun c_21 => ?_)
      · have z_c_21 := jc_eq (a := (v_19).toInt) (b := (102)) c_21 rfl (by decide)
        refine jj_iinc (v := 1) C dX9_isWord_57 rfl (by decide) (by decide) rfl ?_
        refine jj_goto (tgt := 28) C dX9_isWord_60 (by decide) ?_
        refine jj_iload_n C dX9_isWord_28 rfl ?_
        refine jj_aload_n C dX9_isWord_29 rfl ?_
        refine tt_call0Vs (rest := [.int 1]) C (ct_J0_length_8abf5_1 hl D cA ak) 0 (by decide) rfl jw_f27063fded jw_b1ce304435 jw_d08f03a22e jw_4ea6285965 jw_bbc7045666 jn_J0_length_8abf5 rfl (jj_le rfl) (jj_le rfl) (jj_le rfl) (jj_le rfl) (jj_le rfl) dX9_isWord_30 rfl (fun w1 r O_22 => ?_)
        obtain ⟨-, rfl⟩ := O_22
        refine jj_icmp_geF (tgt := 63) C dX9_isWord_33 (by decide) (by decide) ?_
        refine jj_aload_n C dX9_isWord_36 rfl ?_
        refine tt_getF C hok jk_10 0 (by decide) jw_0664e1e086 (t := (2, 11, 0)) hk0 (by decide) rfl rfl hf_16 dX9_isWord_37 ?_
        refine jj_aload_n C dX9_isWord_40 rfl ?_
        refine tt_getF C hok jk_10 4 (by decide) jw_66bda6962a (t := (0, 0, 400)) hk0 (by decide) rfl rfl hf_9 dX9_isWord_41 ?_
        refine jj_iload_n C dX9_isWord_44 rfl ?_
        obtain ⟨x_23, ex_23, vx_23⟩ := tt_iadd (x := x_10) (y := (1 : Int32)) (a := x_10.toInt) rfl (b := 1) (by decide) (by omega) (by omega)
        refine jj_iadd (v := x_23) C dX9_isWord_45 ex_23 ?_
        refine tt_cald C hok (t := (0, (-2147483648), 2147483647)) ka_17 (by decide) rfl (vp_in_iff.mpr ⟨by omega, by omega⟩) dX9_isWord_46 (fun v_24 hv_24 => ?_)
        refine jj_aload_n C dX9_isWord_47 rfl ?_
        refine jj_iload_n C dX9_isWord_48 rfl ?_
        refine tt_call0Vs (rest := [.int v_24]) C (ct_J0_charAt_5068e_2 hl D cA ak) 0 (by decide) rfl jw_076e8de8e0 jw_acb9174fef jw_675efe837b jw_4ea6285965 jw_391c0f56bd jn_J0_charAt_5068e rfl (jj_le rfl) (jj_le rfl) (jj_le rfl) (jj_le rfl) (jj_le rfl) dX9_isWord_49 rfl (fun w1 r O_25 => ?_)
        obtain ⟨-, rfl⟩ := O_25
        refine jj_icmp_eq (tgt := 57) C dX9_isWord_52 (by decide) (fun c_26 => ?_) (fun c_26 => ?_)
        · have z_c_26 := jc_eq (a := (v_24).toInt) (b := (117)) c_26 rfl (by decide)
          refine jj_iinc (v := 2) C dX9_isWord_57 rfl (by decide) (by decide) rfl ?_
          refine jj_goto (tgt := 28) C dX9_isWord_60 (by decide) ?_
          refine jj_iload_n C dX9_isWord_28 rfl ?_
          refine jj_aload_n C dX9_isWord_29 rfl ?_
          refine tt_call0Vs (rest := [.int 2]) C (ct_J0_length_8abf5_1 hl D cA ak) 0 (by decide) rfl jw_f27063fded jw_b1ce304435 jw_d08f03a22e jw_4ea6285965 jw_bbc7045666 jn_J0_length_8abf5 rfl (jj_le rfl) (jj_le rfl) (jj_le rfl) (jj_le rfl) (jj_le rfl) dX9_isWord_30 rfl (fun w1 r O_27 => ?_)
          obtain ⟨-, rfl⟩ := O_27
          refine jj_icmp_geF (tgt := 63) C dX9_isWord_33 (by decide) (by decide) ?_
          refine jj_aload_n C dX9_isWord_36 rfl ?_
          refine tt_getF C hok jk_10 0 (by decide) jw_0664e1e086 (t := (2, 11, 0)) hk0 (by decide) rfl rfl hf_16 dX9_isWord_37 ?_
          refine jj_aload_n C dX9_isWord_40 rfl ?_
          refine tt_getF C hok jk_10 4 (by decide) jw_66bda6962a (t := (0, 0, 400)) hk0 (by decide) rfl rfl hf_9 dX9_isWord_41 ?_
          refine jj_iload_n C dX9_isWord_44 rfl ?_
          obtain ⟨x_28, ex_28, vx_28⟩ := tt_iadd (x := x_10) (y := (2 : Int32)) (a := x_10.toInt) rfl (b := 2) (by decide) (by omega) (by omega)
          refine jj_iadd (v := x_28) C dX9_isWord_45 ex_28 ?_
          refine tt_cald C hok (t := (0, (-2147483648), 2147483647)) ka_17 (by decide) rfl (vp_in_iff.mpr ⟨by omega, by omega⟩) dX9_isWord_46 (fun v_29 hv_29 => ?_)
          refine jj_aload_n C dX9_isWord_47 rfl ?_
          refine jj_iload_n C dX9_isWord_48 rfl ?_
          refine tt_call0Vs (rest := [.int v_29]) C (ct_J0_charAt_5068e_3 hl D cA ak) 0 (by decide) rfl jw_076e8de8e0 jw_acb9174fef jw_675efe837b jw_4ea6285965 jw_391c0f56bd jn_J0_charAt_5068e rfl (jj_le rfl) (jj_le rfl) (jj_le rfl) (jj_le rfl) (jj_le rfl) dX9_isWord_49 rfl (fun w1 r O_30 => ?_)
          obtain ⟨-, rfl⟩ := O_30
          refine jj_icmp_eq (tgt := 57) C dX9_isWord_52 (by decide) (fun c_31 => ?_) (fun c_31 => ?_)
          · have z_c_31 := jc_eq (a := (v_29).toInt) (b := (110)) c_31 rfl (by decide)
            refine jj_iinc (v := 3) C dX9_isWord_57 rfl (by decide) (by decide) rfl ?_
            refine jj_goto (tgt := 28) C dX9_isWord_60 (by decide) ?_
            refine jj_iload_n C dX9_isWord_28 rfl ?_
            refine jj_aload_n C dX9_isWord_29 rfl ?_
            refine tt_call0Vs (rest := [.int 3]) C (ct_J0_length_8abf5_1 hl D cA ak) 0 (by decide) rfl jw_f27063fded jw_b1ce304435 jw_d08f03a22e jw_4ea6285965 jw_bbc7045666 jn_J0_length_8abf5 rfl (jj_le rfl) (jj_le rfl) (jj_le rfl) (jj_le rfl) (jj_le rfl) dX9_isWord_30 rfl (fun w1 r O_32 => ?_)
            obtain ⟨-, rfl⟩ := O_32
            refine jj_icmp_geF (tgt := 63) C dX9_isWord_33 (by decide) (by decide) ?_
            refine jj_aload_n C dX9_isWord_36 rfl ?_
            refine tt_getF C hok jk_10 0 (by decide) jw_0664e1e086 (t := (2, 11, 0)) hk0 (by decide) rfl rfl hf_16 dX9_isWord_37 ?_
            refine jj_aload_n C dX9_isWord_40 rfl ?_
            refine tt_getF C hok jk_10 4 (by decide) jw_66bda6962a (t := (0, 0, 400)) hk0 (by decide) rfl rfl hf_9 dX9_isWord_41 ?_
            refine jj_iload_n C dX9_isWord_44 rfl ?_
            obtain ⟨x_33, ex_33, vx_33⟩ := tt_iadd (x := x_10) (y := (3 : Int32)) (a := x_10.toInt) rfl (b := 3) (by decide) (by omega) (by omega)
            refine jj_iadd (v := x_33) C dX9_isWord_45 ex_33 ?_
            refine tt_cald C hok (t := (0, (-2147483648), 2147483647)) ka_17 (by decide) rfl (vp_in_iff.mpr ⟨by omega, by omega⟩) dX9_isWord_46 (fun v_34 hv_34 => ?_)
            refine jj_aload_n C dX9_isWord_47 rfl ?_
            refine jj_iload_n C dX9_isWord_48 rfl ?_
            refine tt_call0Vs (rest := [.int v_34]) C (ct_J0_charAt_5068e_4 hl D cA ak) 0 (by decide) rfl jw_076e8de8e0 jw_acb9174fef jw_675efe837b jw_4ea6285965 jw_391c0f56bd jn_J0_charAt_5068e rfl (jj_le rfl) (jj_le rfl) (jj_le rfl) (jj_le rfl) (jj_le rfl) dX9_isWord_49 rfl (fun w1 r O_35 => ?_)
            obtain ⟨-, rfl⟩ := O_35
            refine jj_icmp_eq (tgt := 57) C dX9_isWord_52 (by decide) (fun c_36 => ?_) (fun c_36 => ?_)
            · have z_c_36 := jc_eq (a := (v_34).toInt) (b := (100)) c_36 rfl (by decide)
              refine jj_iinc (v := 4) C dX9_isWord_57 rfl (by decide) (by decide) rfl ?_
              refine jj_goto (tgt := 28) C dX9_isWord_60 (by decide) ?_
              refine jj_iload_n C dX9_isWord_28 rfl ?_
              refine jj_aload_n C dX9_isWord_29 rfl ?_
              refine tt_call0Vs (rest := [.int 4]) C (ct_J0_length_8abf5_1 hl D cA ak) 0 (by decide) rfl jw_f27063fded jw_b1ce304435 jw_d08f03a22e jw_4ea6285965 jw_bbc7045666 jn_J0_length_8abf5 rfl (jj_le rfl) (jj_le rfl) (jj_le rfl) (jj_le rfl) (jj_le rfl) dX9_isWord_30 rfl (fun w1 r O_37 => ?_)
              obtain ⟨-, rfl⟩ := O_37
              refine jj_icmp_geT (tgt := 63) C dX9_isWord_33 (by decide) (by decide) ?_
              refine jj_iconst (v := 1) C dX9_isWord_63 (by decide) ?_
              exact jj_zret C rfl ⟨[], pl0, rfl, rfl, hok, hfr, hfa, (Or.inr rfl)⟩ dX9_isWord_64 (jj_le rfl) (jj_le rfl)
            · have z_c_36 := jc_neq (a := (v_34).toInt) (b := (100)) c_36 rfl (by decide)
              refine jj_iconst (v := 0) C dX9_isWord_55 (by decide) ?_
              exact jj_zret C rfl ⟨[], pl0, rfl, rfl, hok, hfr, hfa, (Or.inl rfl)⟩ dX9_isWord_56 (jj_le rfl) (jj_le rfl)
          · have z_c_31 := jc_neq (a := (v_29).toInt) (b := (110)) c_31 rfl (by decide)
            refine jj_iconst (v := 0) C dX9_isWord_55 (by decide) ?_
            exact jj_zret C rfl ⟨[], pl0, rfl, rfl, hok, hfr, hfa, (Or.inl rfl)⟩ dX9_isWord_56 (jj_le rfl) (jj_le rfl)
        · have z_c_26 := jc_neq (a := (v_24).toInt) (b := (117)) c_26 rfl (by decide)
          refine jj_iconst (v := 0) C dX9_isWord_55 (by decide) ?_
          exact jj_zret C rfl ⟨[], pl0, rfl, rfl, hok, hfr, hfa, (Or.inl rfl)⟩ dX9_isWord_56 (jj_le rfl) (jj_le rfl)
      · have z_c_21 := jc_neq (a := (v_19).toInt) (b := (102)) c_21 rfl (by decide)
        refine jj_iconst (v := 0) C dX9_isWord_55 (by decide) ?_
        exact jj_zret C rfl ⟨[], pl0, rfl, rfl, hok, hfr, hfa, (Or.inl rfl)⟩ dX9_isWord_56 (jj_le rfl) (jj_le rfl)
    · have z_c_13 := jc_neq (a := (x_11).toInt) (b := (4)) c_13 rfl (by decide)
      refine jj_iconst (v := 0) C dX9_isWord_24 (by decide) ?_
      exact jj_zret C rfl ⟨[], pl0, rfl, rfl, hok, hfr, hfa, (Or.inl rfl)⟩ dX9_isWord_25 (jj_le rfl) (jj_le rfl)

set_option maxHeartbeats 4000000 in
set_option maxRecDepth 100000 in
theorem tc_X3_accept_1 {l : Launch} (hl : l.stackTraces = false) (D : va_G) (cA : Nat → ClassId) (ak : (Nat → Nat) × (Nat → Nat)) {Kd : Nat → Nat} (h0 : Nat) (hk0 : Kd h0 = 17) {pl0 : va_W} (hok : tt_ok tt_tk cA Kd pl0) : jj_M l D cA ak yX3_accept (.code yX3_accept cX3_accept 3 (some .boolean)) 0 0 0 0 ([] ++ pl0) [.ref h0, .int 0, .int 1] (tt_O (fun rx pl1 r => rx = [] ∧ tt_ok tt_tk cA Kd pl1 ∧ tt_fr Kd [(17, 2)] pl0 pl1 ∧ tt_fa Kd [] pl0 pl1 ∧ ((r = some (.int 0))))) (tt_OX (fun _ _ _ => False)) := by
  refine jj_start hl (by decide) jw_0001e2e84f (jj_le rfl) ?_
  intro p e s m args below meth c A hargs hA C hex hmn
  have hfr := tt_fr.refl (K := Kd) (WS := [(17, 2)]) pl0
  have hfa := tt_fa.refl (K := Kd) (WA := []) pl0
  refine jj_iload_n C dX3_accept_0 rfl ?_
  refine jj_if_neF (tgt := 9) C dX3_accept_1 (by decide) (by decide) ?_
  refine jj_aload_n C dX3_accept_4 rfl ?_
  refine jj_iload_n C dX3_accept_5 rfl ?_
  refine rl_put C hok jk_4 2 (by decide) jw_c9663815d9 (t := (0, (-2147483648), 2147483647)) hk0 (by decide) rfl rfl rfl (tt_ia (1 : Int32)) rfl rfl dX3_accept_6 (fun pl_1 hok_2 tr hn tl => ?_)
  have hf_3 := hn
  replace hfr := hfr.put hk0 tr (by decide)
  replace hfa := hfa.all tl
  refine jj_iload_n C dX3_accept_9 rfl ?_
  exact jj_zret C rfl ⟨[], pl_1, rfl, rfl, hok_2, hfr, hfa, rfl⟩ dX3_accept_10 (jj_le rfl) (jj_le rfl)

set_option maxHeartbeats 4000000 in
set_option maxRecDepth 100000 in
theorem tc_X3_accept_2 {l : Launch} (hl : l.stackTraces = false) (D : va_G) (cA : Nat → ClassId) (ak : (Nat → Nat) × (Nat → Nat)) {Kd : Nat → Nat} (h0 : Nat) (hk0 : Kd h0 = 17) {pl0 : va_W} (hok : tt_ok tt_tk cA Kd pl0) : jj_M l D cA ak yX3_accept (.code yX3_accept cX3_accept 3 (some .boolean)) 0 0 0 0 ([] ++ pl0) [.ref h0, .int 1, .int 1] (tt_O (fun rx pl1 r => rx = [] ∧ tt_ok tt_tk cA Kd pl1 ∧ tt_fr Kd [] pl0 pl1 ∧ tt_fa Kd [] pl0 pl1 ∧ ((r = some (.int 1))))) (tt_OX (fun _ _ _ => False)) := by
  refine jj_start hl (by decide) jw_0001e2e84f (jj_le rfl) ?_
  intro p e s m args below meth c A hargs hA C hex hmn
  have hfr := tt_fr.refl (K := Kd) (WS := []) pl0
  have hfa := tt_fa.refl (K := Kd) (WA := []) pl0
  refine jj_iload_n C dX3_accept_0 rfl ?_
  refine jj_if_neT (tgt := 9) C dX3_accept_1 (by decide) (by decide) ?_
  refine jj_iload_n C dX3_accept_9 rfl ?_
  exact jj_zret C rfl ⟨[], pl0, rfl, rfl, hok, hfr, hfa, rfl⟩ dX3_accept_10 (jj_le rfl) (jj_le rfl)

set_option maxHeartbeats 4000000 in
set_option maxRecDepth 100000 in
theorem tc_X3_readWord_1 {l : Launch} (hl : l.stackTraces = false) (D : va_G) (cA : Nat → ClassId) (ak : (Nat → Nat) × (Nat → Nat)) {Kd : Nat → Nat} (h0 : Nat) (hk0 : Kd h0 = 17) {pl0 : va_W} (hok : tt_ok tt_tk cA Kd pl0) : jj_M l D cA ak yX3_readWord (.code yX3_readWord cX3_readWord 2 (some .boolean)) 5 107 0 0 ([] ++ pl0) [.ref h0, .ref (ak.1 0)] (tt_O (fun rx pl1 r => rx = [] ∧ tt_ok tt_tk cA Kd pl1 ∧ tt_fr Kd [(10, 3), (10, 4), (10, 5), (10, 6), (17, 2)] pl0 pl1 ∧ tt_fa Kd [] pl0 pl1 ∧ ((r = some (.int 0)) ∨ (r = some (.int 1))))) (tt_OX (fun _ _ _ => False)) := by
  refine jj_start hl (by decide) jw_e40f0ddd13 (jj_le rfl) ?_
  intro p e s m args below meth c A hargs hA C hex hmn
  have hfr := tt_fr.refl (K := Kd) (WS := [(10, 3), (10, 4), (10, 5), (10, 6), (17, 2)]) pl0
  have hfa := tt_fa.refl (K := Kd) (WA := []) pl0
  refine jj_aload_n C dX3_readWord_0 rfl ?_
  refine tt_get C hok jk_4 0 (by decide) jw_70cd29f103 (t := (2, 10, 0)) hk0 (by decide) rfl rfl dX3_readWord_1 (fun v_1 hv_1 hf_2 => ?_)
  obtain ⟨a_3, rfl, ka_3⟩ := tt_vr hv_1
  obtain ⟨qc, gs, hqc⟩ := tt_recv (cx := []) hok ka_3 (by decide) rfl
  refine tt_callV (rest := []) C (tc_X9_advance_1 hl D cA ak a_3 ka_3 hok) [] [] rfl rfl (by decide) (by decide) (by decide) qc hqc rfl rfl jw_97c023d194 jw_37f6ee43e0 jw_46baf1fc7b jw_a9e7b602dc jw_0d4db63612 jn_X9_advance rfl (jj_le rfl) (jj_le rfl) (jj_le rfl) (jj_le rfl) (jj_le rfl) dX3_readWord_4 rfl (fun _ _ _ hX => hX.elim) (fun rx pl_4 r O_7 => ?_)
  obtain ⟨rfl, hok_5, hr_6, hfa9, hR_9⟩ := O_7
  replace hf_2 := hr_6.at hk0 (by decide) (by decide) hf_2
  replace hfr := hfr.trans (hr_6.sub (by decide))
  replace hfa := hfa.trans (hfa9.sub (by decide))
  obtain rfl := hR_9
  refine jj_aload_n C dX3_readWord_7 rfl ?_
  refine jj_aload_n C dX3_readWord_8 rfl ?_
  refine tt_getF C hok_5 jk_4 0 (by decide) jw_70cd29f103 (t := (2, 10, 0)) hk0 (by decide) rfl rfl hf_2 dX3_readWord_9 ?_
  refine jj_aload_n C dX3_readWord_12 rfl ?_
  obtain ⟨qc, gs, hqc⟩ := tt_recv (cx := []) hok_5 ka_3 (by decide) rfl
  refine tt_callV (rest := [.ref h0]) C (tc_X9_isWord_1 hl D cA ak a_3 ka_3 hok_5) [] [] rfl rfl (by decide) (by decide) (by decide) qc hqc rfl rfl jw_b0fe72c6f4 jw_5e9522a00c jw_73cf9edcb7 jw_a9e7b602dc jw_ce1c1f12e9 jn_X9_isWord rfl (jj_le rfl) (jj_le rfl) (jj_le rfl) (jj_le rfl) (jj_le rfl) dX3_readWord_13 rfl (fun _ _ _ hX => hX.elim) (fun rx pl_12 r O_15 => ?_)
  obtain ⟨rfl, hok_13, hr_14, hfa9, hR_17⟩ := O_15
  replace hf_2 := hr_14.at hk0 (by decide) (by decide) hf_2
  replace hfr := hfr.trans (hr_14.sub (by decide))
  replace hfa := hfa.trans (hfa9.sub (by decide))
  rcases hR_17 with rfl | rfl
  · refine jj_iconst (v := 1) C dX3_readWord_16 (by decide) ?_
    obtain ⟨qc, gs, hqc⟩ := tt_recv (cx := []) hok_13 hk0 (by decide) rfl
    refine tt_callV (rest := []) C (tc_X3_accept_1 hl D cA ak h0 hk0 hok_13) [] [] rfl rfl (by decide) (by decide) (by decide) qc hqc rfl rfl jw_713f4d2af1 jw_b3e457240a jw_58c48ce796 jw_9d546d0b6f jw_0001e2e84f jn_X3_accept rfl (jj_le rfl) (jj_le rfl) (jj_le rfl) (jj_le rfl) (jj_le rfl) dX3_readWord_17 rfl (fun _ _ _ hX => hX.elim) (fun rx pl_20 r O_23 => ?_)
    obtain ⟨rfl, hok_21, hr_22, hfa9, hR_25⟩ := O_23
    replace hf_2 := hr_22.at hk0 (by decide) (by decide) hf_2
    replace hfr := hfr.trans (hr_22.sub (by decide))
    replace hfa := hfa.trans (hfa9.sub (by decide))
    obtain rfl := hR_25
    exact jj_zret C rfl ⟨[], pl_20, rfl, rfl, hok_21, hfr, hfa, (Or.inl rfl)⟩ dX3_readWord_20 (jj_le rfl) (jj_le rfl)
  · refine jj_iconst (v := 1) C dX3_readWord_16 (by decide) ?_
    obtain ⟨qc, gs, hqc⟩ := tt_recv (cx := []) hok_13 hk0 (by decide) rfl
    refine tt_callV (rest := []) C (tc_X3_accept_2 hl D cA ak h0 hk0 hok_13) [] [] rfl rfl (by decide) (by decide) (by decide) qc hqc rfl rfl jw_713f4d2af1 jw_b3e457240a jw_58c48ce796 jw_9d546d0b6f jw_0001e2e84f jn_X3_accept rfl (jj_le rfl) (jj_le rfl) (jj_le rfl) (jj_le rfl) (jj_le rfl) dX3_readWord_17 rfl (fun _ _ _ hX => hX.elim) (fun rx pl_28 r O_31 => ?_)
    obtain ⟨rfl, hok_29, hr_30, hfa9, hR_33⟩ := O_31
    replace hf_2 := hr_30.at hk0 (by decide) (by decide) hf_2
    replace hfr := hfr.trans (hr_30.sub (by decide))
    replace hfa := hfa.trans (hfa9.sub (by decide))
    obtain rfl := hR_33
    exact jj_zret C rfl ⟨[], pl_28, rfl, rfl, hok_29, hfr, hfa, (Or.inr rfl)⟩ dX3_readWord_20 (jj_le rfl) (jj_le rfl)

set_option maxHeartbeats 4000000 in
set_option maxRecDepth 100000 in
theorem tc_X9_isWord_2 {l : Launch} (hl : l.stackTraces = false) (D : va_G) (cA : Nat → ClassId) (ak : (Nat → Nat) × (Nat → Nat)) {Kd : Nat → Nat} (h0 : Nat) (hk0 : Kd h0 = 10) {pl0 : va_W} (hok : tt_ok tt_tk cA Kd pl0) : jj_M l D cA ak yX9_isWord (.code yX9_isWord cX9_isWord 3 (some .boolean)) 4 85 0 0 ([] ++ pl0) [.ref h0, .ref (ak.1 1)] (tt_O (fun rx pl1 r => rx = [] ∧ tt_ok tt_tk cA Kd pl1 ∧ tt_fr Kd [] pl0 pl1 ∧ tt_fa Kd [] pl0 pl1 ∧ ((r = some (.int 0)) ∨ (r = some (.int 1))))) (tt_OX (fun _ _ _ => False)) := by
  refine jj_start hl (by decide) jw_ce1c1f12e9 (jj_le rfl) ?_
  intro p e s m args below meth c A hargs hA C hex hmn
  have hfr := tt_fr.refl (K := Kd) (WS := []) pl0
  have hfa := tt_fa.refl (K := Kd) (WA := []) pl0
  refine jj_aload_n C dX9_isWord_0 rfl ?_
  refine tt_get C hok jk_10 5 (by decide) jw_bde5c0d1a5 (t := (0, (-2147483648), 2147483647)) hk0 (by decide) rfl rfl dX9_isWord_1 (fun v_1 hv_1 hf_2 => ?_)
  obtain ⟨x_3, rfl, lx_3, ux_3⟩ := tt_vi hv_1
  refine jj_iconst (v := 1) C dX9_isWord_4 (by decide) ?_
  refine jj_icmp_ne (tgt := 24) C dX9_isWord_5 (by decide) (fun c_4 => ?_) (fun c_4 => ?_)
  · have z_c_4 := jc_neq (a := (x_3).toInt) (b := (1)) c_4 rfl (by decide)
    refine jj_iconst (v := 0) C dX9_isWord_24 (by decide) ?_
    exact jj_zret C rfl ⟨[], pl0, rfl, rfl, hok, hfr, hfa, (Or.inl rfl)⟩ dX9_isWord_25 (jj_le rfl) (jj_le rfl)
  · have z_c_4 := jc_eq (a := (x_3).toInt) (b := (1)) c_4 rfl (by decide)
    refine jj_aload_n C dX9_isWord_8 rfl ?_
    refine tt_get C hok jk_10 3 (by decide) jw_f99bd0ca2b (t := (0, 0, 400)) hk0 (by decide) rfl rfl dX9_isWord_9 (fun v_5 hv_5 hf_6 => ?_)
    obtain ⟨x_7, rfl, lx_7, ux_7⟩ := tt_vi hv_5
    refine jj_aload_n C dX9_isWord_12 rfl ?_
    refine tt_get C hok jk_10 4 (by decide) jw_66bda6962a (t := (0, 0, 400)) hk0 (by decide) rfl rfl dX9_isWord_13 (fun v_8 hv_8 hf_9 => ?_)
    obtain ⟨x_10, rfl, lx_10, ux_10⟩ := tt_vi hv_8
    obtain ⟨x_11, ex_11, vx_11⟩ := tt_isub (x := x_7) (y := x_10) (a := x_7.toInt) rfl (b := x_10.toInt) rfl (by omega) (by omega)
    refine jj_isub (v := x_11) C dX9_isWord_16 ex_11 ?_
    refine jj_aload_n C dX9_isWord_17 rfl ?_
    refine tt_call0Vs (rest := [.int x_11]) C (ct_J0_length_8abf5_2 hl D cA ak) 1 (by decide) rfl jw_f27063fded jw_b1ce304435 jw_d08f03a22e jw_4ea6285965 jw_bbc7045666 jn_J0_length_8abf5 rfl (jj_le rfl) (jj_le rfl) (jj_le rfl) (jj_le rfl) (jj_le rfl) dX9_isWord_18 rfl (fun w1 r O_12 => ?_)
    obtain ⟨-, rfl⟩ := O_12
    refine jj_icmp_eq (tgt := 26) C dX9_isWord_21 (by decide) (fun c_13 => ?_) (fun c_13 => ?_)
    · have z_c_13 := jc_eq (a := (x_11).toInt) (b := (5)) c_13 rfl (by decide)
      refine jj_iconst (v := 0) C dX9_isWord_26 (by decide) ?_
      refine jj_istore_n C dX9_isWord_27 (by decide) rfl ?_
      refine jj_iload_n C dX9_isWord_28 rfl ?_
      refine jj_aload_n C dX9_isWord_29 rfl ?_
      refine tt_call0Vs (rest := [.int 0]) C (ct_J0_length_8abf5_2 hl D cA ak) 1 (by decide) rfl jw_f27063fded jw_b1ce304435 jw_d08f03a22e jw_4ea6285965 jw_bbc7045666 jn_J0_length_8abf5 rfl (jj_le rfl) (jj_le rfl) (jj_le rfl) (jj_le rfl) (jj_le rfl) dX9_isWord_30 rfl (fun w1 r O_14 => ?_)
      obtain ⟨-, rfl⟩ := O_14
      refine jj_icmp_geF (tgt := 63) C dX9_isWord_33 (by decide) (by decide) ?_
      refine jj_aload_n C dX9_isWord_36 rfl ?_
      refine tt_get C hok jk_10 0 (by decide) jw_0664e1e086 (t := (2, 11, 0)) hk0 (by decide) rfl rfl dX9_isWord_37 (fun v_15 hv_15 hf_16 => ?_)
      obtain ⟨a_17, rfl, ka_17⟩ := tt_vr hv_15
      refine jj_aload_n C dX9_isWord_40 rfl ?_
      refine tt_getF C hok jk_10 4 (by decide) jw_66bda6962a (t := (0, 0, 400)) hk0 (by decide) rfl rfl hf_9 dX9_isWord_41 ?_
      refine jj_iload_n C dX9_isWord_44 rfl ?_
      obtain ⟨x_18, ex_18, vx_18⟩ := tt_iadd (x := x_10) (y := (0 : Int32)) (a := x_10.toInt) rfl (b := 0) (by decide) (by omega) (by omega)
      refine jj_iadd (v := x_18) C dX9_isWord_45 ex_18 ?_
      refine tt_cald C hok (t := (0, (-2147483648), 2147483647)) ka_17 (by decide) rfl (vp_in_iff.mpr ⟨by omega, by omega⟩) dX9_isWord_46 (fun v_19 hv_19 => ?_)
      refine jj_aload_n C dX9_isWord_47 rfl ?_
      refine jj_iload_n C dX9_isWord_48 rfl ?_
      refine tt_call0Vs (rest := [.int v_19]) C (ct_J0_charAt_5068e_5 hl D cA ak) 1 (by decide) rfl jw_076e8de8e0 jw_acb9174fef jw_675efe837b jw_4ea6285965 jw_391c0f56bd jn_J0_charAt_5068e rfl (jj_le rfl) (jj_le rfl) (jj_le rfl) (jj_le rfl) (jj_le rfl) dX9_isWord_49 rfl (fun w1 r O_20 => ?_)
      obtain ⟨-, rfl⟩ := O_20
      refine jj_icmp_eq (tgt := 57) C dX9_isWord_52 (by decide) (fun c_21 => ?_) (fun c_21 => ?_)
      · have z_c_21 := jc_eq (a := (v_19).toInt) (b := (101)) c_21 rfl (by decide)
        refine jj_iinc (v := 1) C dX9_isWord_57 rfl (by decide) (by decide) rfl ?_
        refine jj_goto (tgt := 28) C dX9_isWord_60 (by decide) ?_
        refine jj_iload_n C dX9_isWord_28 rfl ?_
        refine jj_aload_n C dX9_isWord_29 rfl ?_
        refine tt_call0Vs (rest := [.int 1]) C (ct_J0_length_8abf5_2 hl D cA ak) 1 (by decide) rfl jw_f27063fded jw_b1ce304435 jw_d08f03a22e jw_4ea6285965 jw_bbc7045666 jn_J0_length_8abf5 rfl (jj_le rfl) (jj_le rfl) (jj_le rfl) (jj_le rfl) (jj_le rfl) dX9_isWord_30 rfl (fun w1 r O_22 => ?_)
        obtain ⟨-, rfl⟩ := O_22
        refine jj_icmp_geF (tgt := 63) C dX9_isWord_33 (by decide) (by decide) ?_
        refine jj_aload_n C dX9_isWord_36 rfl ?_
        refine tt_getF C hok jk_10 0 (by decide) jw_0664e1e086 (t := (2, 11, 0)) hk0 (by decide) rfl rfl hf_16 dX9_isWord_37 ?_
        refine jj_aload_n C dX9_isWord_40 rfl ?_
        refine tt_getF C hok jk_10 4 (by decide) jw_66bda6962a (t := (0, 0, 400)) hk0 (by decide) rfl rfl hf_9 dX9_isWord_41 ?_
        refine jj_iload_n C dX9_isWord_44 rfl ?_
        obtain ⟨x_23, ex_23, vx_23⟩ := tt_iadd (x := x_10) (y := (1 : Int32)) (a := x_10.toInt) rfl (b := 1) (by decide) (by omega) (by omega)
        refine jj_iadd (v := x_23) C dX9_isWord_45 ex_23 ?_
        refine tt_cald C hok (t := (0, (-2147483648), 2147483647)) ka_17 (by decide) rfl (vp_in_iff.mpr ⟨by omega, by omega⟩) dX9_isWord_46 (fun v_24 hv_24 => ?_)
        refine jj_aload_n C dX9_isWord_47 rfl ?_
        refine jj_iload_n C dX9_isWord_48 rfl ?_
        refine tt_call0Vs (rest := [.int v_24]) C (ct_J0_charAt_5068e_6 hl D cA ak) 1 (by decide) rfl jw_076e8de8e0 jw_acb9174fef jw_675efe837b jw_4ea6285965 jw_391c0f56bd jn_J0_charAt_5068e rfl (jj_le rfl) (jj_le rfl) (jj_le rfl) (jj_le rfl) (jj_le rfl) dX9_isWord_49 rfl (fun w1 r O_25 => ?_)
        obtain ⟨-, rfl⟩ := O_25
        refine jj_icmp_eq (tgt := 57) C dX9_isWord_52 (by decide) (fun c_26 => ?_) (fun c_26 => ?_)
        · have z_c_26 := jc_eq (a := (v_24).toInt) (b := (113)) c_26 rfl (by decide)
          refine jj_iinc (v := 2) C dX9_isWord_57 rfl (by decide) (by decide) rfl ?_
          refine jj_goto (tgt := 28) C dX9_isWord_60 (by decide) ?_
          refine jj_iload_n C dX9_isWord_28 rfl ?_
          refine jj_aload_n C dX9_isWord_29 rfl ?_
          refine tt_call0Vs (rest := [.int 2]) C (ct_J0_length_8abf5_2 hl D cA ak) 1 (by decide) rfl jw_f27063fded jw_b1ce304435 jw_d08f03a22e jw_4ea6285965 jw_bbc7045666 jn_J0_length_8abf5 rfl (jj_le rfl) (jj_le rfl) (jj_le rfl) (jj_le rfl) (jj_le rfl) dX9_isWord_30 rfl (fun w1 r O_27 => ?_)
          obtain ⟨-, rfl⟩ := O_27
          refine jj_icmp_geF (tgt := 63) C dX9_isWord_33 (by decide) (by decide) ?_
          refine jj_aload_n C dX9_isWord_36 rfl ?_
          refine tt_getF C hok jk_10 0 (by decide) jw_0664e1e086 (t := (2, 11, 0)) hk0 (by decide) rfl rfl hf_16 dX9_isWord_37 ?_
          refine jj_aload_n C dX9_isWord_40 rfl ?_
          refine tt_getF C hok jk_10 4 (by decide) jw_66bda6962a (t := (0, 0, 400)) hk0 (by decide) rfl rfl hf_9 dX9_isWord_41 ?_
          refine jj_iload_n C dX9_isWord_44 rfl ?_
          obtain ⟨x_28, ex_28, vx_28⟩ := tt_iadd (x := x_10) (y := (2 : Int32)) (a := x_10.toInt) rfl (b := 2) (by decide) (by omega) (by omega)
          refine jj_iadd (v := x_28) C dX9_isWord_45 ex_28 ?_
          refine tt_cald C hok (t := (0, (-2147483648), 2147483647)) ka_17 (by decide) rfl (vp_in_iff.mpr ⟨by omega, by omega⟩) dX9_isWord_46 (fun v_29 hv_29 => ?_)
          refine jj_aload_n C dX9_isWord_47 rfl ?_
          refine jj_iload_n C dX9_isWord_48 rfl ?_
          refine tt_call0Vs (rest := [.int v_29]) C (ct_J0_charAt_5068e_7 hl D cA ak) 1 (by decide) rfl jw_076e8de8e0 jw_acb9174fef jw_675efe837b jw_4ea6285965 jw_391c0f56bd jn_J0_charAt_5068e rfl (jj_le rfl) (jj_le rfl) (jj_le rfl) (jj_le rfl) (jj_le rfl) dX9_isWord_49 rfl (fun w1 r O_30 => ?_)
          obtain ⟨-, rfl⟩ := O_30
          refine jj_icmp_eq (tgt := 57) C dX9_isWord_52 (by decide) (fun c_31 => ?_) (fun c_31 => ?_)
          · have z_c_31 := jc_eq (a := (v_29).toInt) (b := (117)) c_31 rfl (by decide)
            refine jj_iinc (v := 3) C dX9_isWord_57 rfl (by decide) (by decide) rfl ?_
            refine jj_goto (tgt := 28) C dX9_isWord_60 (by decide) ?_
            refine jj_iload_n C dX9_isWord_28 rfl ?_
            refine jj_aload_n C dX9_isWord_29 rfl ?_
            refine tt_call0Vs (rest := [.int 3]) C (ct_J0_length_8abf5_2 hl D cA ak) 1 (by decide) rfl jw_f27063fded jw_b1ce304435 jw_d08f03a22e jw_4ea6285965 jw_bbc7045666 jn_J0_length_8abf5 rfl (jj_le rfl) (jj_le rfl) (jj_le rfl) (jj_le rfl) (jj_le rfl) dX9_isWord_30 rfl (fun w1 r O_32 => ?_)
            obtain ⟨-, rfl⟩ := O_32
            refine jj_icmp_geF (tgt := 63) C dX9_isWord_33 (by decide) (by decide) ?_
            refine jj_aload_n C dX9_isWord_36 rfl ?_
            refine tt_getF C hok jk_10 0 (by decide) jw_0664e1e086 (t := (2, 11, 0)) hk0 (by decide) rfl rfl hf_16 dX9_isWord_37 ?_
            refine jj_aload_n C dX9_isWord_40 rfl ?_
            refine tt_getF C hok jk_10 4 (by decide) jw_66bda6962a (t := (0, 0, 400)) hk0 (by decide) rfl rfl hf_9 dX9_isWord_41 ?_
            refine jj_iload_n C dX9_isWord_44 rfl ?_
            obtain ⟨x_33, ex_33, vx_33⟩ := tt_iadd (x := x_10) (y := (3 : Int32)) (a := x_10.toInt) rfl (b := 3) (by decide) (by omega) (by omega)
            refine jj_iadd (v := x_33) C dX9_isWord_45 ex_33 ?_
            refine tt_cald C hok (t := (0, (-2147483648), 2147483647)) ka_17 (by decide) rfl (vp_in_iff.mpr ⟨by omega, by omega⟩) dX9_isWord_46 (fun v_34 hv_34 => ?_)
            refine jj_aload_n C dX9_isWord_47 rfl ?_
            refine jj_iload_n C dX9_isWord_48 rfl ?_
            refine tt_call0Vs (rest := [.int v_34]) C (ct_J0_charAt_5068e_8 hl D cA ak) 1 (by decide) rfl jw_076e8de8e0 jw_acb9174fef jw_675efe837b jw_4ea6285965 jw_391c0f56bd jn_J0_charAt_5068e rfl (jj_le rfl) (jj_le rfl) (jj_le rfl) (jj_le rfl) (jj_le rfl) dX9_isWord_49 rfl (fun w1 r O_35 => ?_)
            obtain ⟨-, rfl⟩ := O_35
            refine jj_icmp_eq (tgt := 57) C dX9_isWord_52 (by decide) (fun c_36 => ?_) (fun c_36 => ?_)
            · have z_c_36 := jc_eq (a := (v_34).toInt) (b := (97)) c_36 rfl (by decide)
              refine jj_iinc (v := 4) C dX9_isWord_57 rfl (by decide) (by decide) rfl ?_
              refine jj_goto (tgt := 28) C dX9_isWord_60 (by decide) ?_
              refine jj_iload_n C dX9_isWord_28 rfl ?_
              refine jj_aload_n C dX9_isWord_29 rfl ?_
              refine tt_call0Vs (rest := [.int 4]) C (ct_J0_length_8abf5_2 hl D cA ak) 1 (by decide) rfl jw_f27063fded jw_b1ce304435 jw_d08f03a22e jw_4ea6285965 jw_bbc7045666 jn_J0_length_8abf5 rfl (jj_le rfl) (jj_le rfl) (jj_le rfl) (jj_le rfl) (jj_le rfl) dX9_isWord_30 rfl (fun w1 r O_37 => ?_)
              obtain ⟨-, rfl⟩ := O_37
              refine jj_icmp_geF (tgt := 63) C dX9_isWord_33 (by decide) (by decide) ?_
              refine jj_aload_n C dX9_isWord_36 rfl ?_
              refine tt_getF C hok jk_10 0 (by decide) jw_0664e1e086 (t := (2, 11, 0)) hk0 (by decide) rfl rfl hf_16 dX9_isWord_37 ?_
              refine jj_aload_n C dX9_isWord_40 rfl ?_
              refine tt_getF C hok jk_10 4 (by decide) jw_66bda6962a (t := (0, 0, 400)) hk0 (by decide) rfl rfl hf_9 dX9_isWord_41 ?_
              refine jj_iload_n C dX9_isWord_44 rfl ?_
              obtain ⟨x_38, ex_38, vx_38⟩ := tt_iadd (x := x_10) (y := (4 : Int32)) (a := x_10.toInt) rfl (b := 4) (by decide) (by omega) (by omega)
              refine jj_iadd (v := x_38) C dX9_isWord_45 ex_38 ?_
              refine tt_cald C hok (t := (0, (-2147483648), 2147483647)) ka_17 (by decide) rfl (vp_in_iff.mpr ⟨by omega, by omega⟩) dX9_isWord_46 (fun v_39 hv_39 => ?_)
              refine jj_aload_n C dX9_isWord_47 rfl ?_
              refine jj_iload_n C dX9_isWord_48 rfl ?_
              refine tt_call0Vs (rest := [.int v_39]) C (ct_J0_charAt_5068e_9 hl D cA ak) 1 (by decide) rfl jw_076e8de8e0 jw_acb9174fef jw_675efe837b jw_4ea6285965 jw_391c0f56bd jn_J0_charAt_5068e rfl (jj_le rfl) (jj_le rfl) (jj_le rfl) (jj_le rfl) (jj_le rfl) dX9_isWord_49 rfl (fun w1 r O_40 => ?_)
              obtain ⟨-, rfl⟩ := O_40
              refine jj_icmp_eq (tgt := 57) C dX9_isWord_52 (by decide) (fun c_41 => ?_) (fun c_41 => ?_)
              · have z_c_41 := jc_eq (a := (v_39).toInt) (b := (108)) c_41 rfl (by decide)
                refine jj_iinc (v := 5) C dX9_isWord_57 rfl (by decide) (by decide) rfl ?_
                refine jj_goto (tgt := 28) C dX9_isWord_60 (by decide) ?_
                refine jj_iload_n C dX9_isWord_28 rfl ?_
                refine jj_aload_n C dX9_isWord_29 rfl ?_
                refine tt_call0Vs (rest := [.int 5]) C (ct_J0_length_8abf5_2 hl D cA ak) 1 (by decide) rfl jw_f27063fded jw_b1ce304435 jw_d08f03a22e jw_4ea6285965 jw_bbc7045666 jn_J0_length_8abf5 rfl (jj_le rfl) (jj_le rfl) (jj_le rfl) (jj_le rfl) (jj_le rfl) dX9_isWord_30 rfl (fun w1 r O_42 => ?_)
                obtain ⟨-, rfl⟩ := O_42
                refine jj_icmp_geT (tgt := 63) C dX9_isWord_33 (by decide) (by decide) ?_
                refine jj_iconst (v := 1) C dX9_isWord_63 (by decide) ?_
                exact jj_zret C rfl ⟨[], pl0, rfl, rfl, hok, hfr, hfa, (Or.inr rfl)⟩ dX9_isWord_64 (jj_le rfl) (jj_le rfl)
              · have z_c_41 := jc_neq (a := (v_39).toInt) (b := (108)) c_41 rfl (by decide)
                refine jj_iconst (v := 0) C dX9_isWord_55 (by decide) ?_
                exact jj_zret C rfl ⟨[], pl0, rfl, rfl, hok, hfr, hfa, (Or.inl rfl)⟩ dX9_isWord_56 (jj_le rfl) (jj_le rfl)
            · have z_c_36 := jc_neq (a := (v_34).toInt) (b := (97)) c_36 rfl (by decide)
              refine jj_iconst (v := 0) C dX9_isWord_55 (by decide) ?_
              exact jj_zret C rfl ⟨[], pl0, rfl, rfl, hok, hfr, hfa, (Or.inl rfl)⟩ dX9_isWord_56 (jj_le rfl) (jj_le rfl)
          · have z_c_31 := jc_neq (a := (v_29).toInt) (b := (117)) c_31 rfl (by decide)
            refine jj_iconst (v := 0) C dX9_isWord_55 (by decide) ?_
            exact jj_zret C rfl ⟨[], pl0, rfl, rfl, hok, hfr, hfa, (Or.inl rfl)⟩ dX9_isWord_56 (jj_le rfl) (jj_le rfl)
        · have z_c_26 := jc_neq (a := (v_24).toInt) (b := (113)) c_26 rfl (by decide)
          refine jj_iconst (v := 0) C dX9_isWord_55 (by decide) ?_
          exact jj_zret C rfl ⟨[], pl0, rfl, rfl, hok, hfr, hfa, (Or.inl rfl)⟩ dX9_isWord_56 (jj_le rfl) (jj_le rfl)
      · have z_c_21 := jc_neq (a := (v_19).toInt) (b := (101)) c_21 rfl (by decide)
        refine jj_iconst (v := 0) C dX9_isWord_55 (by decide) ?_
        exact jj_zret C rfl ⟨[], pl0, rfl, rfl, hok, hfr, hfa, (Or.inl rfl)⟩ dX9_isWord_56 (jj_le rfl) (jj_le rfl)
    · have z_c_13 := jc_neq (a := (x_11).toInt) (b := (5)) c_13 rfl (by decide)
      refine jj_iconst (v := 0) C dX9_isWord_24 (by decide) ?_
      exact jj_zret C rfl ⟨[], pl0, rfl, rfl, hok, hfr, hfa, (Or.inl rfl)⟩ dX9_isWord_25 (jj_le rfl) (jj_le rfl)

set_option maxHeartbeats 4000000 in
set_option maxRecDepth 100000 in
theorem tc_X9_isWord_3 {l : Launch} (hl : l.stackTraces = false) (D : va_G) (cA : Nat → ClassId) (ak : (Nat → Nat) × (Nat → Nat)) {Kd : Nat → Nat} (h0 : Nat) (hk0 : Kd h0 = 10) {pl0 : va_W} (hok : tt_ok tt_tk cA Kd pl0) : jj_M l D cA ak yX9_isWord (.code yX9_isWord cX9_isWord 3 (some .boolean)) 4 85 0 0 ([] ++ pl0) [.ref h0, .ref (ak.1 2)] (tt_O (fun rx pl1 r => rx = [] ∧ tt_ok tt_tk cA Kd pl1 ∧ tt_fr Kd [] pl0 pl1 ∧ tt_fa Kd [] pl0 pl1 ∧ ((r = some (.int 0)) ∨ (r = some (.int 1))))) (tt_OX (fun _ _ _ => False)) := by
  refine jj_start hl (by decide) jw_ce1c1f12e9 (jj_le rfl) ?_
  intro p e s m args below meth c A hargs hA C hex hmn
  have hfr := tt_fr.refl (K := Kd) (WS := []) pl0
  have hfa := tt_fa.refl (K := Kd) (WA := []) pl0
  refine jj_aload_n C dX9_isWord_0 rfl ?_
  refine tt_get C hok jk_10 5 (by decide) jw_bde5c0d1a5 (t := (0, (-2147483648), 2147483647)) hk0 (by decide) rfl rfl dX9_isWord_1 (fun v_1 hv_1 hf_2 => ?_)
  obtain ⟨x_3, rfl, lx_3, ux_3⟩ := tt_vi hv_1
  refine jj_iconst (v := 1) C dX9_isWord_4 (by decide) ?_
  refine jj_icmp_ne (tgt := 24) C dX9_isWord_5 (by decide) (fun c_4 => ?_) (fun c_4 => ?_)
  · have z_c_4 := jc_neq (a := (x_3).toInt) (b := (1)) c_4 rfl (by decide)
    refine jj_iconst (v := 0) C dX9_isWord_24 (by decide) ?_
    exact jj_zret C rfl ⟨[], pl0, rfl, rfl, hok, hfr, hfa, (Or.inl rfl)⟩ dX9_isWord_25 (jj_le rfl) (jj_le rfl)
  · have z_c_4 := jc_eq (a := (x_3).toInt) (b := (1)) c_4 rfl (by decide)
    refine jj_aload_n C dX9_isWord_8 rfl ?_
    refine tt_get C hok jk_10 3 (by decide) jw_f99bd0ca2b (t := (0, 0, 400)) hk0 (by decide) rfl rfl dX9_isWord_9 (fun v_5 hv_5 hf_6 => ?_)
    obtain ⟨x_7, rfl, lx_7, ux_7⟩ := tt_vi hv_5
    refine jj_aload_n C dX9_isWord_12 rfl ?_
    refine tt_get C hok jk_10 4 (by decide) jw_66bda6962a (t := (0, 0, 400)) hk0 (by decide) rfl rfl dX9_isWord_13 (fun v_8 hv_8 hf_9 => ?_)
    obtain ⟨x_10, rfl, lx_10, ux_10⟩ := tt_vi hv_8
    obtain ⟨x_11, ex_11, vx_11⟩ := tt_isub (x := x_7) (y := x_10) (a := x_7.toInt) rfl (b := x_10.toInt) rfl (by omega) (by omega)
    refine jj_isub (v := x_11) C dX9_isWord_16 ex_11 ?_
    refine jj_aload_n C dX9_isWord_17 rfl ?_
    refine tt_call0Vs (rest := [.int x_11]) C (ct_J0_length_8abf5_3 hl D cA ak) 2 (by decide) rfl jw_f27063fded jw_b1ce304435 jw_d08f03a22e jw_4ea6285965 jw_bbc7045666 jn_J0_length_8abf5 rfl (jj_le rfl) (jj_le rfl) (jj_le rfl) (jj_le rfl) (jj_le rfl) dX9_isWord_18 rfl (fun w1 r O_12 => ?_)
    obtain ⟨-, rfl⟩ := O_12
    refine jj_icmp_eq (tgt := 26) C dX9_isWord_21 (by decide) (fun c_13 => ?_) (fun c_13 => ?_)
    · have z_c_13 := jc_eq (a := (x_11).toInt) (b := (6)) c_13 rfl (by decide)
      refine jj_iconst (v := 0) C dX9_isWord_26 (by decide) ?_
      refine jj_istore_n C dX9_isWord_27 (by decide) rfl ?_
      refine jj_iload_n C dX9_isWord_28 rfl ?_
      refine jj_aload_n C dX9_isWord_29 rfl ?_
      refine tt_call0Vs (rest := [.int 0]) C (ct_J0_length_8abf5_3 hl D cA ak) 2 (by decide) rfl jw_f27063fded jw_b1ce304435 jw_d08f03a22e jw_4ea6285965 jw_bbc7045666 jn_J0_length_8abf5 rfl (jj_le rfl) (jj_le rfl) (jj_le rfl) (jj_le rfl) (jj_le rfl) dX9_isWord_30 rfl (fun w1 r O_14 => ?_)
      obtain ⟨-, rfl⟩ := O_14
      refine jj_icmp_geF (tgt := 63) C dX9_isWord_33 (by decide) (by decide) ?_
      refine jj_aload_n C dX9_isWord_36 rfl ?_
      refine tt_get C hok jk_10 0 (by decide) jw_0664e1e086 (t := (2, 11, 0)) hk0 (by decide) rfl rfl dX9_isWord_37 (fun v_15 hv_15 hf_16 => ?_)
      obtain ⟨a_17, rfl, ka_17⟩ := tt_vr hv_15
      refine jj_aload_n C dX9_isWord_40 rfl ?_
      refine tt_getF C hok jk_10 4 (by decide) jw_66bda6962a (t := (0, 0, 400)) hk0 (by decide) rfl rfl hf_9 dX9_isWord_41 ?_
      refine jj_iload_n C dX9_isWord_44 rfl ?_
      obtain ⟨x_18, ex_18, vx_18⟩ := tt_iadd (x := x_10) (y := (0 : Int32)) (a := x_10.toInt) rfl (b := 0) (by decide) (by omega) (by omega)
      refine jj_iadd (v := x_18) C dX9_isWord_45 ex_18 ?_
      refine tt_cald C hok (t := (0, (-2147483648), 2147483647)) ka_17 (by decide) rfl (vp_in_iff.mpr ⟨by omega, by omega⟩) dX9_isWord_46 (fun v_19 hv_19 => ?_)
      refine jj_aload_n C dX9_isWord_47 rfl ?_
      refine jj_iload_n C dX9_isWord_48 rfl ?_
      refine tt_call0Vs (rest := [.int v_19]) C (ct_J0_charAt_5068e_10 hl D cA ak) 2 (by decide) rfl jw_076e8de8e0 jw_acb9174fef jw_675efe837b jw_4ea6285965 jw_391c0f56bd jn_J0_charAt_5068e rfl (jj_le rfl) (jj_le rfl) (jj_le rfl) (jj_le rfl) (jj_le rfl) dX9_isWord_49 rfl (fun w1 r O_20 => ?_)
      obtain ⟨-, rfl⟩ := O_20
      refine jj_icmp_eq (tgt := 57) C dX9_isWord_52 (by decide) (fun c_21 => ?_) (fun c_21 => ?_)
      · have z_c_21 := jc_eq (a := (v_19).toInt) (b := (115)) c_21 rfl (by decide)
        refine jj_iinc (v := 1) C dX9_isWord_57 rfl (by decide) (by decide) rfl ?_
        refine jj_goto (tgt := 28) C dX9_isWord_60 (by decide) ?_
        refine jj_iload_n C dX9_isWord_28 rfl ?_
        refine jj_aload_n C dX9_isWord_29 rfl ?_
        refine tt_call0Vs (rest := [.int 1]) C (ct_J0_length_8abf5_3 hl D cA ak) 2 (by decide) rfl jw_f27063fded jw_b1ce304435 jw_d08f03a22e jw_4ea6285965 jw_bbc7045666 jn_J0_length_8abf5 rfl (jj_le rfl) (jj_le rfl) (jj_le rfl) (jj_le rfl) (jj_le rfl) dX9_isWord_30 rfl (fun w1 r O_22 => ?_)
        obtain ⟨-, rfl⟩ := O_22
        refine jj_icmp_geF (tgt := 63) C dX9_isWord_33 (by decide) (by decide) ?_
        refine jj_aload_n C dX9_isWord_36 rfl ?_
        refine tt_getF C hok jk_10 0 (by decide) jw_0664e1e086 (t := (2, 11, 0)) hk0 (by decide) rfl rfl hf_16 dX9_isWord_37 ?_
        refine jj_aload_n C dX9_isWord_40 rfl ?_
        refine tt_getF C hok jk_10 4 (by decide) jw_66bda6962a (t := (0, 0, 400)) hk0 (by decide) rfl rfl hf_9 dX9_isWord_41 ?_
        refine jj_iload_n C dX9_isWord_44 rfl ?_
        obtain ⟨x_23, ex_23, vx_23⟩ := tt_iadd (x := x_10) (y := (1 : Int32)) (a := x_10.toInt) rfl (b := 1) (by decide) (by omega) (by omega)
        refine jj_iadd (v := x_23) C dX9_isWord_45 ex_23 ?_
        refine tt_cald C hok (t := (0, (-2147483648), 2147483647)) ka_17 (by decide) rfl (vp_in_iff.mpr ⟨by omega, by omega⟩) dX9_isWord_46 (fun v_24 hv_24 => ?_)
        refine jj_aload_n C dX9_isWord_47 rfl ?_
        refine jj_iload_n C dX9_isWord_48 rfl ?_
        refine tt_call0Vs (rest := [.int v_24]) C (ct_J0_charAt_5068e_11 hl D cA ak) 2 (by decide) rfl jw_076e8de8e0 jw_acb9174fef jw_675efe837b jw_4ea6285965 jw_391c0f56bd jn_J0_charAt_5068e rfl (jj_le rfl) (jj_le rfl) (jj_le rfl) (jj_le rfl) (jj_le rfl) dX9_isWord_49 rfl (fun w1 r O_25 => ?_)
        obtain ⟨-, rfl⟩ := O_25
        refine jj_icmp_eq (tgt := 57) C dX9_isWord_52 (by decide) (fun c_26 => ?_) (fun c_26 => ?_)
        · have z_c_26 := jc_eq (a := (v_24).toInt) (b := (101)) c_26 rfl (by decide)
          refine jj_iinc (v := 2) C dX9_isWord_57 rfl (by decide) (by decide) rfl ?_
          refine jj_goto (tgt := 28) C dX9_isWord_60 (by decide) ?_
          refine jj_iload_n C dX9_isWord_28 rfl ?_
          refine jj_aload_n C dX9_isWord_29 rfl ?_
          refine tt_call0Vs (rest := [.int 2]) C (ct_J0_length_8abf5_3 hl D cA ak) 2 (by decide) rfl jw_f27063fded jw_b1ce304435 jw_d08f03a22e jw_4ea6285965 jw_bbc7045666 jn_J0_length_8abf5 rfl (jj_le rfl) (jj_le rfl) (jj_le rfl) (jj_le rfl) (jj_le rfl) dX9_isWord_30 rfl (fun w1 r O_27 => ?_)
          obtain ⟨-, rfl⟩ := O_27
          refine jj_icmp_geF (tgt := 63) C dX9_isWord_33 (by decide) (by decide) ?_
          refine jj_aload_n C dX9_isWord_36 rfl ?_
          refine tt_getF C hok jk_10 0 (by decide) jw_0664e1e086 (t := (2, 11, 0)) hk0 (by decide) rfl rfl hf_16 dX9_isWord_37 ?_
          refine jj_aload_n C dX9_isWord_40 rfl ?_
          refine tt_getF C hok jk_10 4 (by decide) jw_66bda6962a (t := (0, 0, 400)) hk0 (by decide) rfl rfl hf_9 dX9_isWord_41 ?_
          refine jj_iload_n C dX9_isWord_44 rfl ?_
          obtain ⟨x_28, ex_28, vx_28⟩ := tt_iadd (x := x_10) (y := (2 : Int32)) (a := x_10.toInt) rfl (b := 2) (by decide) (by omega) (by omega)
          refine jj_iadd (v := x_28) C dX9_isWord_45 ex_28 ?_
          refine tt_cald C hok (t := (0, (-2147483648), 2147483647)) ka_17 (by decide) rfl (vp_in_iff.mpr ⟨by omega, by omega⟩) dX9_isWord_46 (fun v_29 hv_29 => ?_)
          refine jj_aload_n C dX9_isWord_47 rfl ?_
          refine jj_iload_n C dX9_isWord_48 rfl ?_
          refine tt_call0Vs (rest := [.int v_29]) C (ct_J0_charAt_5068e_12 hl D cA ak) 2 (by decide) rfl jw_076e8de8e0 jw_acb9174fef jw_675efe837b jw_4ea6285965 jw_391c0f56bd jn_J0_charAt_5068e rfl (jj_le rfl) (jj_le rfl) (jj_le rfl) (jj_le rfl) (jj_le rfl) dX9_isWord_49 rfl (fun w1 r O_30 => ?_)
          obtain ⟨-, rfl⟩ := O_30
          refine jj_icmp_eq (tgt := 57) C dX9_isWord_52 (by decide) (fun c_31 => ?_) (fun c_31 => ?_)
          · have z_c_31 := jc_eq (a := (v_29).toInt) (b := (114)) c_31 rfl (by decide)
            refine jj_iinc (v := 3) C dX9_isWord_57 rfl (by decide) (by decide) rfl ?_
            refine jj_goto (tgt := 28) C dX9_isWord_60 (by decide) ?_
            refine jj_iload_n C dX9_isWord_28 rfl ?_
            refine jj_aload_n C dX9_isWord_29 rfl ?_
            refine tt_call0Vs (rest := [.int 3]) C (ct_J0_length_8abf5_3 hl D cA ak) 2 (by decide) rfl jw_f27063fded jw_b1ce304435 jw_d08f03a22e jw_4ea6285965 jw_bbc7045666 jn_J0_length_8abf5 rfl (jj_le rfl) (jj_le rfl) (jj_le rfl) (jj_le rfl) (jj_le rfl) dX9_isWord_30 rfl (fun w1 r O_32 => ?_)
            obtain ⟨-, rfl⟩ := O_32
            refine jj_icmp_geF (tgt := 63) C dX9_isWord_33 (by decide) (by decide) ?_
            refine jj_aload_n C dX9_isWord_36 rfl ?_
            refine tt_getF C hok jk_10 0 (by decide) jw_0664e1e086 (t := (2, 11, 0)) hk0 (by decide) rfl rfl hf_16 dX9_isWord_37 ?_
            refine jj_aload_n C dX9_isWord_40 rfl ?_
            refine tt_getF C hok jk_10 4 (by decide) jw_66bda6962a (t := (0, 0, 400)) hk0 (by decide) rfl rfl hf_9 dX9_isWord_41 ?_
            refine jj_iload_n C dX9_isWord_44 rfl ?_
            obtain ⟨x_33, ex_33, vx_33⟩ := tt_iadd (x := x_10) (y := (3 : Int32)) (a := x_10.toInt) rfl (b := 3) (by decide) (by omega) (by omega)
            refine jj_iadd (v := x_33) C dX9_isWord_45 ex_33 ?_
            refine tt_cald C hok (t := (0, (-2147483648), 2147483647)) ka_17 (by decide) rfl (vp_in_iff.mpr ⟨by omega, by omega⟩) dX9_isWord_46 (fun v_34 hv_34 => ?_)
            refine jj_aload_n C dX9_isWord_47 rfl ?_
            refine jj_iload_n C dX9_isWord_48 rfl ?_
            refine tt_call0Vs (rest := [.int v_34]) C (ct_J0_charAt_5068e_13 hl D cA ak) 2 (by decide) rfl jw_076e8de8e0 jw_acb9174fef jw_675efe837b jw_4ea6285965 jw_391c0f56bd jn_J0_charAt_5068e rfl (jj_le rfl) (jj_le rfl) (jj_le rfl) (jj_le rfl) (jj_le rfl) dX9_isWord_49 rfl (fun w1 r O_35 => ?_)
            obtain ⟨-, rfl⟩ := O_35
            refine jj_icmp_eq (tgt := 57) C dX9_isWord_52 (by decide) (fun c_36 => ?_) (fun c_36 => ?_)
            · have z_c_36 := jc_eq (a := (v_34).toInt) (b := (105)) c_36 rfl (by decide)
              refine jj_iinc (v := 4) C dX9_isWord_57 rfl (by decide) (by decide) rfl ?_
              refine jj_goto (tgt := 28) C dX9_isWord_60 (by decide) ?_
              refine jj_iload_n C dX9_isWord_28 rfl ?_
              refine jj_aload_n C dX9_isWord_29 rfl ?_
              refine tt_call0Vs (rest := [.int 4]) C (ct_J0_length_8abf5_3 hl D cA ak) 2 (by decide) rfl jw_f27063fded jw_b1ce304435 jw_d08f03a22e jw_4ea6285965 jw_bbc7045666 jn_J0_length_8abf5 rfl (jj_le rfl) (jj_le rfl) (jj_le rfl) (jj_le rfl) (jj_le rfl) dX9_isWord_30 rfl (fun w1 r O_37 => ?_)
              obtain ⟨-, rfl⟩ := O_37
              refine jj_icmp_geF (tgt := 63) C dX9_isWord_33 (by decide) (by decide) ?_
              refine jj_aload_n C dX9_isWord_36 rfl ?_
              refine tt_getF C hok jk_10 0 (by decide) jw_0664e1e086 (t := (2, 11, 0)) hk0 (by decide) rfl rfl hf_16 dX9_isWord_37 ?_
              refine jj_aload_n C dX9_isWord_40 rfl ?_
              refine tt_getF C hok jk_10 4 (by decide) jw_66bda6962a (t := (0, 0, 400)) hk0 (by decide) rfl rfl hf_9 dX9_isWord_41 ?_
              refine jj_iload_n C dX9_isWord_44 rfl ?_
              obtain ⟨x_38, ex_38, vx_38⟩ := tt_iadd (x := x_10) (y := (4 : Int32)) (a := x_10.toInt) rfl (b := 4) (by decide) (by omega) (by omega)
              refine jj_iadd (v := x_38) C dX9_isWord_45 ex_38 ?_
              refine tt_cald C hok (t := (0, (-2147483648), 2147483647)) ka_17 (by decide) rfl (vp_in_iff.mpr ⟨by omega, by omega⟩) dX9_isWord_46 (fun v_39 hv_39 => ?_)
              refine jj_aload_n C dX9_isWord_47 rfl ?_
              refine jj_iload_n C dX9_isWord_48 rfl ?_
              refine tt_call0Vs (rest := [.int v_39]) C (ct_J0_charAt_5068e_14 hl D cA ak) 2 (by decide) rfl jw_076e8de8e0 jw_acb9174fef jw_675efe837b jw_4ea6285965 jw_391c0f56bd jn_J0_charAt_5068e rfl (jj_le rfl) (jj_le rfl) (jj_le rfl) (jj_le rfl) (jj_le rfl) dX9_isWord_49 rfl (fun w1 r O_40 => ?_)
              obtain ⟨-, rfl⟩ := O_40
              refine jj_icmp_eq (tgt := 57) C dX9_isWord_52 (by decide) (fun c_41 => ?_) (fun c_41 => ?_)
              · have z_c_41 := jc_eq (a := (v_39).toInt) (b := (101)) c_41 rfl (by decide)
                refine jj_iinc (v := 5) C dX9_isWord_57 rfl (by decide) (by decide) rfl ?_
                refine jj_goto (tgt := 28) C dX9_isWord_60 (by decide) ?_
                refine jj_iload_n C dX9_isWord_28 rfl ?_
                refine jj_aload_n C dX9_isWord_29 rfl ?_
                refine tt_call0Vs (rest := [.int 5]) C (ct_J0_length_8abf5_3 hl D cA ak) 2 (by decide) rfl jw_f27063fded jw_b1ce304435 jw_d08f03a22e jw_4ea6285965 jw_bbc7045666 jn_J0_length_8abf5 rfl (jj_le rfl) (jj_le rfl) (jj_le rfl) (jj_le rfl) (jj_le rfl) dX9_isWord_30 rfl (fun w1 r O_42 => ?_)
                obtain ⟨-, rfl⟩ := O_42
                refine jj_icmp_geF (tgt := 63) C dX9_isWord_33 (by decide) (by decide) ?_
                refine jj_aload_n C dX9_isWord_36 rfl ?_
                refine tt_getF C hok jk_10 0 (by decide) jw_0664e1e086 (t := (2, 11, 0)) hk0 (by decide) rfl rfl hf_16 dX9_isWord_37 ?_
                refine jj_aload_n C dX9_isWord_40 rfl ?_
                refine tt_getF C hok jk_10 4 (by decide) jw_66bda6962a (t := (0, 0, 400)) hk0 (by decide) rfl rfl hf_9 dX9_isWord_41 ?_
                refine jj_iload_n C dX9_isWord_44 rfl ?_
                obtain ⟨x_43, ex_43, vx_43⟩ := tt_iadd (x := x_10) (y := (5 : Int32)) (a := x_10.toInt) rfl (b := 5) (by decide) (by omega) (by omega)
                refine jj_iadd (v := x_43) C dX9_isWord_45 ex_43 ?_
                refine tt_cald C hok (t := (0, (-2147483648), 2147483647)) ka_17 (by decide) rfl (vp_in_iff.mpr ⟨by omega, by omega⟩) dX9_isWord_46 (fun v_44 hv_44 => ?_)
                refine jj_aload_n C dX9_isWord_47 rfl ?_
                refine jj_iload_n C dX9_isWord_48 rfl ?_
                refine tt_call0Vs (rest := [.int v_44]) C (ct_J0_charAt_5068e_15 hl D cA ak) 2 (by decide) rfl jw_076e8de8e0 jw_acb9174fef jw_675efe837b jw_4ea6285965 jw_391c0f56bd jn_J0_charAt_5068e rfl (jj_le rfl) (jj_le rfl) (jj_le rfl) (jj_le rfl) (jj_le rfl) dX9_isWord_49 rfl (fun w1 r O_45 => ?_)
                obtain ⟨-, rfl⟩ := O_45
                refine jj_icmp_eq (tgt := 57) C dX9_isWord_52 (by decide) (fun c_46 => ?_) (fun c_46 => ?_)
                · have z_c_46 := jc_eq (a := (v_44).toInt) (b := (115)) c_46 rfl (by decide)
                  refine jj_iinc (v := 6) C dX9_isWord_57 rfl (by decide) (by decide) rfl ?_
                  refine jj_goto (tgt := 28) C dX9_isWord_60 (by decide) ?_
                  refine jj_iload_n C dX9_isWord_28 rfl ?_
                  refine jj_aload_n C dX9_isWord_29 rfl ?_
                  refine tt_call0Vs (rest := [.int 6]) C (ct_J0_length_8abf5_3 hl D cA ak) 2 (by decide) rfl jw_f27063fded jw_b1ce304435 jw_d08f03a22e jw_4ea6285965 jw_bbc7045666 jn_J0_length_8abf5 rfl (jj_le rfl) (jj_le rfl) (jj_le rfl) (jj_le rfl) (jj_le rfl) dX9_isWord_30 rfl (fun w1 r O_47 => ?_)
                  obtain ⟨-, rfl⟩ := O_47
                  refine jj_icmp_geT (tgt := 63) C dX9_isWord_33 (by decide) (by decide) ?_
                  refine jj_iconst (v := 1) C dX9_isWord_63 (by decide) ?_
                  exact jj_zret C rfl ⟨[], pl0, rfl, rfl, hok, hfr, hfa, (Or.inr rfl)⟩ dX9_isWord_64 (jj_le rfl) (jj_le rfl)
                · have z_c_46 := jc_neq (a := (v_44).toInt) (b := (115)) c_46 rfl (by decide)
                  refine jj_iconst (v := 0) C dX9_isWord_55 (by decide) ?_
                  exact jj_zret C rfl ⟨[], pl0, rfl, rfl, hok, hfr, hfa, (Or.inl rfl)⟩ dX9_isWord_56 (jj_le rfl) (jj_le rfl)
              · have z_c_41 := jc_neq (a := (v_39).toInt) (b := (101)) c_41 rfl (by decide)
                refine jj_iconst (v := 0) C dX9_isWord_55 (by decide) ?_
                exact jj_zret C rfl ⟨[], pl0, rfl, rfl, hok, hfr, hfa, (Or.inl rfl)⟩ dX9_isWord_56 (jj_le rfl) (jj_le rfl)
            · have z_c_36 := jc_neq (a := (v_34).toInt) (b := (105)) c_36 rfl (by decide)
              refine jj_iconst (v := 0) C dX9_isWord_55 (by decide) ?_
              exact jj_zret C rfl ⟨[], pl0, rfl, rfl, hok, hfr, hfa, (Or.inl rfl)⟩ dX9_isWord_56 (jj_le rfl) (jj_le rfl)
          · have z_c_31 := jc_neq (a := (v_29).toInt) (b := (114)) c_31 rfl (by decide)
            refine jj_iconst (v := 0) C dX9_isWord_55 (by decide) ?_
            exact jj_zret C rfl ⟨[], pl0, rfl, rfl, hok, hfr, hfa, (Or.inl rfl)⟩ dX9_isWord_56 (jj_le rfl) (jj_le rfl)
        · have z_c_26 := jc_neq (a := (v_24).toInt) (b := (101)) c_26 rfl (by decide)
          refine jj_iconst (v := 0) C dX9_isWord_55 (by decide) ?_
          exact jj_zret C rfl ⟨[], pl0, rfl, rfl, hok, hfr, hfa, (Or.inl rfl)⟩ dX9_isWord_56 (jj_le rfl) (jj_le rfl)
      · have z_c_21 := jc_neq (a := (v_19).toInt) (b := (115)) c_21 rfl (by decide)
        refine jj_iconst (v := 0) C dX9_isWord_55 (by decide) ?_
        exact jj_zret C rfl ⟨[], pl0, rfl, rfl, hok, hfr, hfa, (Or.inl rfl)⟩ dX9_isWord_56 (jj_le rfl) (jj_le rfl)
    · have z_c_13 := jc_neq (a := (x_11).toInt) (b := (6)) c_13 rfl (by decide)
      refine jj_iconst (v := 0) C dX9_isWord_24 (by decide) ?_
      exact jj_zret C rfl ⟨[], pl0, rfl, rfl, hok, hfr, hfa, (Or.inl rfl)⟩ dX9_isWord_25 (jj_le rfl) (jj_le rfl)

set_option maxHeartbeats 4000000 in
set_option maxRecDepth 100000 in
theorem tc_X3_readMethod_1 {l : Launch} (hl : l.stackTraces = false) (D : va_G) (cA : Nat → ClassId) (ak : (Nat → Nat) × (Nat → Nat)) {Kd : Nat → Nat} (h0 : Nat) (hk0 : Kd h0 = 17) {pl0 : va_W} (hok : tt_ok tt_tk cA Kd pl0) : jj_M l D cA ak yX3_readMethod (.code yX3_readMethod cX3_readMethod 1 (some .boolean)) 5 107 0 0 ([] ++ pl0) [.ref h0] (tt_O (fun rx pl1 r => rx = [] ∧ tt_ok tt_tk cA Kd pl1 ∧ tt_fr Kd [(1, 1), (10, 3), (10, 4), (10, 5), (10, 6), (17, 2)] pl0 pl1 ∧ tt_fa Kd [] pl0 pl1 ∧ ((r = some (.int 0)) ∨ (r = some (.int 1))))) (tt_OX (fun _ _ _ => False)) := by
  refine jj_start hl (by decide) jw_fe37aa9023 (jj_le rfl) ?_
  intro p e s m args below meth c A hargs hA C hex hmn
  have hfr := tt_fr.refl (K := Kd) (WS := [(1, 1), (10, 3), (10, 4), (10, 5), (10, 6), (17, 2)]) pl0
  have hfa := tt_fa.refl (K := Kd) (WA := []) pl0
  refine jj_aload_n C dX3_readMethod_0 rfl ?_
  refine tt_get C hok jk_4 0 (by decide) jw_70cd29f103 (t := (2, 10, 0)) hk0 (by decide) rfl rfl dX3_readMethod_1 (fun v_1 hv_1 hf_2 => ?_)
  obtain ⟨a_3, rfl, ka_3⟩ := tt_vr hv_1
  obtain ⟨qc, gs, hqc⟩ := tt_recv (cx := []) hok ka_3 (by decide) rfl
  refine tt_callV (rest := []) C (tc_X9_advance_1 hl D cA ak a_3 ka_3 hok) [] [] rfl rfl (by decide) (by decide) (by decide) qc hqc rfl rfl jw_97c023d194 jw_37f6ee43e0 jw_46baf1fc7b jw_a9e7b602dc jw_0d4db63612 jn_X9_advance rfl (jj_le rfl) (jj_le rfl) (jj_le rfl) (jj_le rfl) (jj_le rfl) dX3_readMethod_4 rfl (fun _ _ _ hX => hX.elim) (fun rx pl_4 r O_7 => ?_)
  obtain ⟨rfl, hok_5, hr_6, hfa9, hR_9⟩ := O_7
  replace hf_2 := hr_6.at hk0 (by decide) (by decide) hf_2
  replace hfr := hfr.trans (hr_6.sub (by decide))
  replace hfa := hfa.trans (hfa9.sub (by decide))
  obtain rfl := hR_9
  refine jj_aload_n C dX3_readMethod_7 rfl ?_
  refine tt_get C hok_5 jk_4 1 (by decide) jw_bdf52ddf93 (t := (2, 1, 0)) hk0 (by decide) rfl rfl dX3_readMethod_8 (fun v_12 hv_12 hf_13 => ?_)
  obtain ⟨a_14, rfl, ka_14⟩ := tt_vr hv_12
  refine jj_aload_n C dX3_readMethod_11 rfl ?_
  refine tt_getF C hok_5 jk_4 0 (by decide) jw_70cd29f103 (t := (2, 10, 0)) hk0 (by decide) rfl rfl hf_2 dX3_readMethod_12 ?_
  refine jj_ldcs (k := 1) (tx := "equal") C dX3_readMethod_15 (by decide +kernel) ?_
  obtain ⟨qc, gs, hqc⟩ := tt_recv (cx := []) hok_5 ka_3 (by decide) rfl
  refine tt_callV (rest := [.ref a_14]) C (tc_X9_isWord_2 hl D cA ak a_3 ka_3 hok_5) [] [] rfl rfl (by decide) (by decide) (by decide) qc hqc rfl rfl jw_b0fe72c6f4 jw_5e9522a00c jw_73cf9edcb7 jw_a9e7b602dc jw_ce1c1f12e9 jn_X9_isWord rfl (jj_le rfl) (jj_le rfl) (jj_le rfl) (jj_le rfl) (jj_le rfl) dX3_readMethod_17 rfl (fun _ _ _ hX => hX.elim) (fun rx pl_15 r O_18 => ?_)
  obtain ⟨rfl, hok_16, hr_17, hfa9, hR_20⟩ := O_18
  replace hf_2 := hr_17.at hk0 (by decide) (by decide) hf_2
  replace hf_13 := hr_17.at hk0 (by decide) (by decide) hf_13
  replace hfr := hfr.trans (hr_17.sub (by decide))
  replace hfa := hfa.trans (hfa9.sub (by decide))
  rcases hR_20 with rfl | rfl
  · refine jj_if_eqT (tgt := 27) C dX3_readMethod_20 (by decide) (by decide) ?_
    refine jj_iconst (v := 0) C dX3_readMethod_27 (by decide) ?_
    refine rl_put C hok_16 jk_2 1 (by decide) jw_f222fdc0b2 (t := (0, (-2147483648), 2147483647)) ka_14 (by decide) rfl rfl rfl (tt_ia (0 : Int32)) rfl rfl dX3_readMethod_28 (fun pl_23 hok_24 tr hn tl => ?_)
    replace hf_2 := tr _ _ _ (Or.inl (tt_ne hk0 ka_14 (by decide))) hf_2
    replace hf_13 := tr _ _ _ (Or.inl (tt_ne hk0 ka_14 (by decide))) hf_13
    have hf_25 := hn
    replace hfr := hfr.put ka_14 tr (by decide)
    replace hfa := hfa.all tl
    refine jj_aload_n C dX3_readMethod_31 rfl ?_
    refine jj_aload_n C dX3_readMethod_32 rfl ?_
    refine tt_getF C hok_24 jk_4 1 (by decide) jw_bdf52ddf93 (t := (2, 1, 0)) hk0 (by decide) rfl rfl hf_13 dX3_readMethod_33 ?_
    refine tt_getF C hok_24 jk_2 1 (by decide) jw_f222fdc0b2 (t := (0, (-2147483648), 2147483647)) ka_14 (by decide) rfl rfl hf_25 dX3_readMethod_36 ?_
    refine jj_iconst (v := 1) C dX3_readMethod_39 (by decide) ?_
    refine jj_icmp_eqF (tgt := 55) C dX3_readMethod_40 (by decide) (by decide) ?_
    refine jj_aload_n C dX3_readMethod_43 rfl ?_
    refine tt_getF C hok_24 jk_4 0 (by decide) jw_70cd29f103 (t := (2, 10, 0)) hk0 (by decide) rfl rfl hf_2 dX3_readMethod_44 ?_
    refine jj_ldcs (k := 2) (tx := "series") C dX3_readMethod_47 (by decide +kernel) ?_
    obtain ⟨qc, gs, hqc⟩ := tt_recv (cx := []) hok_24 ka_3 (by decide) rfl
    refine tt_callV (rest := [.ref h0]) C (tc_X9_isWord_3 hl D cA ak a_3 ka_3 hok_24) [] [] rfl rfl (by decide) (by decide) (by decide) qc hqc rfl rfl jw_b0fe72c6f4 jw_5e9522a00c jw_73cf9edcb7 jw_a9e7b602dc jw_ce1c1f12e9 jn_X9_isWord rfl (jj_le rfl) (jj_le rfl) (jj_le rfl) (jj_le rfl) (jj_le rfl) dX3_readMethod_49 rfl (fun _ _ _ hX => hX.elim) (fun rx pl_26 r O_29 => ?_)
    obtain ⟨rfl, hok_27, hr_28, hfa9, hR_31⟩ := O_29
    replace hf_2 := hr_28.at hk0 (by decide) (by decide) hf_2
    replace hf_13 := hr_28.at hk0 (by decide) (by decide) hf_13
    replace hf_25 := hr_28.at ka_14 (by decide) (by decide) hf_25
    replace hfr := hfr.trans (hr_28.sub (by decide))
    replace hfa := hfa.trans (hfa9.sub (by decide))
    rcases hR_31 with rfl | rfl
    · refine jj_if_eqT (tgt := 59) C dX3_readMethod_52 (by decide) (by decide) ?_
      refine jj_iconst (v := 0) C dX3_readMethod_59 (by decide) ?_
      refine jj_iconst (v := 1) C dX3_readMethod_60 (by decide) ?_
      obtain ⟨qc, gs, hqc⟩ := tt_recv (cx := []) hok_27 hk0 (by decide) rfl
      refine tt_callV (rest := []) C (tc_X3_accept_1 hl D cA ak h0 hk0 hok_27) [] [] rfl rfl (by decide) (by decide) (by decide) qc hqc rfl rfl jw_713f4d2af1 jw_b3e457240a jw_58c48ce796 jw_9d546d0b6f jw_0001e2e84f jn_X3_accept rfl (jj_le rfl) (jj_le rfl) (jj_le rfl) (jj_le rfl) (jj_le rfl) dX3_readMethod_61 rfl (fun _ _ _ hX => hX.elim) (fun rx pl_34 r O_37 => ?_)
      obtain ⟨rfl, hok_35, hr_36, hfa9, hR_39⟩ := O_37
      replace hf_2 := hr_36.at hk0 (by decide) (by decide) hf_2
      replace hf_13 := hr_36.at hk0 (by decide) (by decide) hf_13
      replace hf_25 := hr_36.at ka_14 (by decide) (by decide) hf_25
      replace hfr := hfr.trans (hr_36.sub (by decide))
      replace hfa := hfa.trans (hfa9.sub (by decide))
      obtain rfl := hR_39
      exact jj_zret C rfl ⟨[], pl_34, rfl, rfl, hok_35, hfr, hfa, (Or.inl rfl)⟩ dX3_readMethod_64 (jj_le rfl) (jj_le rfl)
    · refine jj_if_eqF (tgt := 59) C dX3_readMethod_52 (by decide) (by decide) ?_
      refine jj_iconst (v := 1) C dX3_readMethod_55 (by decide) ?_
      refine jj_goto (tgt := 60) C dX3_readMethod_56 (by decide) ?_
      refine jj_iconst (v := 1) C dX3_readMethod_60 (by decide) ?_
      obtain ⟨qc, gs, hqc⟩ := tt_recv (cx := []) hok_27 hk0 (by decide) rfl
      refine tt_callV (rest := []) C (tc_X3_accept_2 hl D cA ak h0 hk0 hok_27) [] [] rfl rfl (by decide) (by decide) (by decide) qc hqc rfl rfl jw_713f4d2af1 jw_b3e457240a jw_58c48ce796 jw_9d546d0b6f jw_0001e2e84f jn_X3_accept rfl (jj_le rfl) (jj_le rfl) (jj_le rfl) (jj_le rfl) (jj_le rfl) dX3_readMethod_61 rfl (fun _ _ _ hX => hX.elim) (fun rx pl_42 r O_45 => ?_)
      obtain ⟨rfl, hok_43, hr_44, hfa9, hR_47⟩ := O_45
      replace hf_2 := hr_44.at hk0 (by decide) (by decide) hf_2
      replace hf_13 := hr_44.at hk0 (by decide) (by decide) hf_13
      replace hf_25 := hr_44.at ka_14 (by decide) (by decide) hf_25
      replace hfr := hfr.trans (hr_44.sub (by decide))
      replace hfa := hfa.trans (hfa9.sub (by decide))
      obtain rfl := hR_47
      exact jj_zret C rfl ⟨[], pl_42, rfl, rfl, hok_43, hfr, hfa, (Or.inr rfl)⟩ dX3_readMethod_64 (jj_le rfl) (jj_le rfl)
  · refine jj_if_eqF (tgt := 27) C dX3_readMethod_20 (by decide) (by decide) ?_
    refine jj_iconst (v := 1) C dX3_readMethod_23 (by decide) ?_
    refine jj_goto (tgt := 28) C dX3_readMethod_24 (by decide) ?_
    refine rl_put C hok_16 jk_2 1 (by decide) jw_f222fdc0b2 (t := (0, (-2147483648), 2147483647)) ka_14 (by decide) rfl rfl rfl (tt_ia (1 : Int32)) rfl rfl dX3_readMethod_28 (fun pl_50 hok_51 tr hn tl => ?_)
    replace hf_2 := tr _ _ _ (Or.inl (tt_ne hk0 ka_14 (by decide))) hf_2
    replace hf_13 := tr _ _ _ (Or.inl (tt_ne hk0 ka_14 (by decide))) hf_13
    have hf_52 := hn
    replace hfr := hfr.put ka_14 tr (by decide)
    replace hfa := hfa.all tl
    refine jj_aload_n C dX3_readMethod_31 rfl ?_
    refine jj_aload_n C dX3_readMethod_32 rfl ?_
    refine tt_getF C hok_51 jk_4 1 (by decide) jw_bdf52ddf93 (t := (2, 1, 0)) hk0 (by decide) rfl rfl hf_13 dX3_readMethod_33 ?_
    refine tt_getF C hok_51 jk_2 1 (by decide) jw_f222fdc0b2 (t := (0, (-2147483648), 2147483647)) ka_14 (by decide) rfl rfl hf_52 dX3_readMethod_36 ?_
    refine jj_iconst (v := 1) C dX3_readMethod_39 (by decide) ?_
    refine jj_icmp_eqT (tgt := 55) C dX3_readMethod_40 (by decide) (by decide) ?_
    refine jj_iconst (v := 1) C dX3_readMethod_55 (by decide) ?_
    refine jj_goto (tgt := 60) C dX3_readMethod_56 (by decide) ?_
    refine jj_iconst (v := 1) C dX3_readMethod_60 (by decide) ?_
    obtain ⟨qc, gs, hqc⟩ := tt_recv (cx := []) hok_51 hk0 (by decide) rfl
    refine tt_callV (rest := []) C (tc_X3_accept_2 hl D cA ak h0 hk0 hok_51) [] [] rfl rfl (by decide) (by decide) (by decide) qc hqc rfl rfl jw_713f4d2af1 jw_b3e457240a jw_58c48ce796 jw_9d546d0b6f jw_0001e2e84f jn_X3_accept rfl (jj_le rfl) (jj_le rfl) (jj_le rfl) (jj_le rfl) (jj_le rfl) dX3_readMethod_61 rfl (fun _ _ _ hX => hX.elim) (fun rx pl_53 r O_56 => ?_)
    obtain ⟨rfl, hok_54, hr_55, hfa9, hR_58⟩ := O_56
    replace hf_2 := hr_55.at hk0 (by decide) (by decide) hf_2
    replace hf_13 := hr_55.at hk0 (by decide) (by decide) hf_13
    replace hf_52 := hr_55.at ka_14 (by decide) (by decide) hf_52
    replace hfr := hfr.trans (hr_55.sub (by decide))
    replace hfa := hfa.trans (hfa9.sub (by decide))
    obtain rfl := hR_58
    exact jj_zret C rfl ⟨[], pl_53, rfl, rfl, hok_54, hfr, hfa, (Or.inr rfl)⟩ dX3_readMethod_64 (jj_le rfl) (jj_le rfl)

set_option maxHeartbeats 4000000 in
set_option maxRecDepth 100000 in
theorem tc_X3_accept_3 {l : Launch} (hl : l.stackTraces = false) (D : va_G) (cA : Nat → ClassId) (ak : (Nat → Nat) × (Nat → Nat)) {Kd : Nat → Nat} (h0 : Nat) (hk0 : Kd h0 = 17) {pl0 : va_W} (hok : tt_ok tt_tk cA Kd pl0) : jj_M l D cA ak yX3_accept (.code yX3_accept cX3_accept 3 (some .boolean)) 0 0 0 0 ([] ++ pl0) [.ref h0, .int 0, .int 2] (tt_O (fun rx pl1 r => rx = [] ∧ tt_ok tt_tk cA Kd pl1 ∧ tt_fr Kd [(17, 2)] pl0 pl1 ∧ tt_fa Kd [] pl0 pl1 ∧ ((r = some (.int 0))))) (tt_OX (fun _ _ _ => False)) := by
  refine jj_start hl (by decide) jw_0001e2e84f (jj_le rfl) ?_
  intro p e s m args below meth c A hargs hA C hex hmn
  have hfr := tt_fr.refl (K := Kd) (WS := [(17, 2)]) pl0
  have hfa := tt_fa.refl (K := Kd) (WA := []) pl0
  refine jj_iload_n C dX3_accept_0 rfl ?_
  refine jj_if_neF (tgt := 9) C dX3_accept_1 (by decide) (by decide) ?_
  refine jj_aload_n C dX3_accept_4 rfl ?_
  refine jj_iload_n C dX3_accept_5 rfl ?_
  refine rl_put C hok jk_4 2 (by decide) jw_c9663815d9 (t := (0, (-2147483648), 2147483647)) hk0 (by decide) rfl rfl rfl (tt_ia (2 : Int32)) rfl rfl dX3_accept_6 (fun pl_1 hok_2 tr hn tl => ?_)
  have hf_3 := hn
  replace hfr := hfr.put hk0 tr (by decide)
  replace hfa := hfa.all tl
  refine jj_iload_n C dX3_accept_9 rfl ?_
  exact jj_zret C rfl ⟨[], pl_1, rfl, rfl, hok_2, hfr, hfa, rfl⟩ dX3_accept_10 (jj_le rfl) (jj_le rfl)

set_option maxHeartbeats 4000000 in
set_option maxRecDepth 100000 in
theorem tc_X3_accept_4 {l : Launch} (hl : l.stackTraces = false) (D : va_G) (cA : Nat → ClassId) (ak : (Nat → Nat) × (Nat → Nat)) {Kd : Nat → Nat} (h0 : Nat) (hk0 : Kd h0 = 17) {pl0 : va_W} (hok : tt_ok tt_tk cA Kd pl0) : jj_M l D cA ak yX3_accept (.code yX3_accept cX3_accept 3 (some .boolean)) 0 0 0 0 ([] ++ pl0) [.ref h0, .int 1, .int 2] (tt_O (fun rx pl1 r => rx = [] ∧ tt_ok tt_tk cA Kd pl1 ∧ tt_fr Kd [] pl0 pl1 ∧ tt_fa Kd [] pl0 pl1 ∧ ((r = some (.int 1))))) (tt_OX (fun _ _ _ => False)) := by
  refine jj_start hl (by decide) jw_0001e2e84f (jj_le rfl) ?_
  intro p e s m args below meth c A hargs hA C hex hmn
  have hfr := tt_fr.refl (K := Kd) (WS := []) pl0
  have hfa := tt_fa.refl (K := Kd) (WA := []) pl0
  refine jj_iload_n C dX3_accept_0 rfl ?_
  refine jj_if_neT (tgt := 9) C dX3_accept_1 (by decide) (by decide) ?_
  refine jj_iload_n C dX3_accept_9 rfl ?_
  exact jj_zret C rfl ⟨[], pl0, rfl, rfl, hok, hfr, hfa, rfl⟩ dX3_accept_10 (jj_le rfl) (jj_le rfl)

set_option maxHeartbeats 4000000 in
set_option maxRecDepth 100000 in
theorem tc_X3_readNumber_1 {l : Launch} (hl : l.stackTraces = false) (D : va_G) (cA : Nat → ClassId) (ak : (Nat → Nat) × (Nat → Nat)) {Kd : Nat → Nat} (h0 : Nat) (hk0 : Kd h0 = 17) {pl0 : va_W} (hok : tt_ok tt_tk cA Kd pl0) : jj_M l D cA ak yX3_readNumber (.code yX3_readNumber cX3_readNumber 3 (some .boolean)) 2 41 0 0 ([] ++ pl0) [.ref h0, .int 0, .int 9999] (tt_O (fun rx pl1 r => rx = [] ∧ tt_ok tt_tk cA Kd pl1 ∧ tt_fr Kd [(10, 3), (10, 4), (10, 5), (10, 6), (17, 2)] pl0 pl1 ∧ tt_fa Kd [] pl0 pl1 ∧ ((r = some (.int 0)) ∨ (r = some (.int 1))))) (tt_OX (fun _ _ _ => False)) := by
  refine jj_start hl (by decide) jw_ad178c7ce3 (jj_le rfl) ?_
  intro p e s m args below meth c A hargs hA C hex hmn
  have hfr := tt_fr.refl (K := Kd) (WS := [(10, 3), (10, 4), (10, 5), (10, 6), (17, 2)]) pl0
  have hfa := tt_fa.refl (K := Kd) (WA := []) pl0
  refine jj_aload_n C dX3_readNumber_0 rfl ?_
  refine tt_get C hok jk_4 0 (by decide) jw_70cd29f103 (t := (2, 10, 0)) hk0 (by decide) rfl rfl dX3_readNumber_1 (fun v_1 hv_1 hf_2 => ?_)
  obtain ⟨a_3, rfl, ka_3⟩ := tt_vr hv_1
  obtain ⟨qc, gs, hqc⟩ := tt_recv (cx := []) hok ka_3 (by decide) rfl
  refine tt_callV (rest := []) C (tc_X9_advance_1 hl D cA ak a_3 ka_3 hok) [] [] rfl rfl (by decide) (by decide) (by decide) qc hqc rfl rfl jw_97c023d194 jw_37f6ee43e0 jw_46baf1fc7b jw_a9e7b602dc jw_0d4db63612 jn_X9_advance rfl (jj_le rfl) (jj_le rfl) (jj_le rfl) (jj_le rfl) (jj_le rfl) dX3_readNumber_4 rfl (fun _ _ _ hX => hX.elim) (fun rx pl_4 r O_7 => ?_)
  obtain ⟨rfl, hok_5, hr_6, hfa9, hR_9⟩ := O_7
  replace hf_2 := hr_6.at hk0 (by decide) (by decide) hf_2
  replace hfr := hfr.trans (hr_6.sub (by decide))
  replace hfa := hfa.trans (hfa9.sub (by decide))
  obtain rfl := hR_9
  refine jj_aload_n C dX3_readNumber_7 rfl ?_
  refine jj_aload_n C dX3_readNumber_8 rfl ?_
  refine tt_getF C hok_5 jk_4 0 (by decide) jw_70cd29f103 (t := (2, 10, 0)) hk0 (by decide) rfl rfl hf_2 dX3_readNumber_9 ?_
  refine tt_get C hok_5 jk_10 5 (by decide) jw_601d0e39ae (t := (0, (-2147483648), 2147483647)) ka_3 (by decide) rfl rfl dX3_readNumber_12 (fun v_12 hv_12 hf_13 => ?_)
  obtain ⟨x_14, rfl, lx_14, ux_14⟩ := tt_vi hv_12
  refine jj_iconst (v := 2) C dX3_readNumber_15 (by decide) ?_
  refine jj_icmp_ne (tgt := 23) C dX3_readNumber_16 (by decide) (fun c_15 => ?_) (fun c_15 => ?_)
  · have z_c_15 := jc_neq (a := (x_14).toInt) (b := (2)) c_15 rfl (by decide)
    refine jj_iconst (v := 0) C dX3_readNumber_23 (by decide) ?_
    refine jj_iconst (v := 1) C dX3_readNumber_24 (by decide) ?_
    obtain ⟨qc, gs, hqc⟩ := tt_recv (cx := []) hok_5 hk0 (by decide) rfl
    refine tt_callV (rest := []) C (tc_X3_accept_1 hl D cA ak h0 hk0 hok_5) [] [] rfl rfl (by decide) (by decide) (by decide) qc hqc rfl rfl jw_713f4d2af1 jw_b3e457240a jw_58c48ce796 jw_9d546d0b6f jw_0001e2e84f jn_X3_accept rfl (jj_le rfl) (jj_le rfl) (jj_le rfl) (jj_le rfl) (jj_le rfl) dX3_readNumber_25 rfl (fun _ _ _ hX => hX.elim) (fun rx pl_16 r O_19 => ?_)
    obtain ⟨rfl, hok_17, hr_18, hfa9, hR_21⟩ := O_19
    replace hf_2 := hr_18.at hk0 (by decide) (by decide) hf_2
    replace hf_13 := hr_18.at ka_3 (by decide) (by decide) hf_13
    replace hfr := hfr.trans (hr_18.sub (by decide))
    replace hfa := hfa.trans (hfa9.sub (by decide))
    obtain rfl := hR_21
    refine jj_if_eqT (tgt := 70) C dX3_readNumber_28 (by decide) (by decide) ?_
    refine jj_iconst (v := 0) C dX3_readNumber_70 (by decide) ?_
    exact jj_zret C rfl ⟨[], pl_16, rfl, rfl, hok_17, hfr, hfa, (Or.inl rfl)⟩ dX3_readNumber_71 (jj_le rfl) (jj_le rfl)
  · have z_c_15 := jc_eq (a := (x_14).toInt) (b := (2)) c_15 rfl (by decide)
    refine jj_iconst (v := 1) C dX3_readNumber_19 (by decide) ?_
    refine jj_goto (tgt := 24) C dX3_readNumber_20 (by decide) ?_
    refine jj_iconst (v := 1) C dX3_readNumber_24 (by decide) ?_
    obtain ⟨qc, gs, hqc⟩ := tt_recv (cx := []) hok_5 hk0 (by decide) rfl
    refine tt_callV (rest := []) C (tc_X3_accept_2 hl D cA ak h0 hk0 hok_5) [] [] rfl rfl (by decide) (by decide) (by decide) qc hqc rfl rfl jw_713f4d2af1 jw_b3e457240a jw_58c48ce796 jw_9d546d0b6f jw_0001e2e84f jn_X3_accept rfl (jj_le rfl) (jj_le rfl) (jj_le rfl) (jj_le rfl) (jj_le rfl) dX3_readNumber_25 rfl (fun _ _ _ hX => hX.elim) (fun rx pl_24 r O_27 => ?_)
    obtain ⟨rfl, hok_25, hr_26, hfa9, hR_29⟩ := O_27
    replace hf_2 := hr_26.at hk0 (by decide) (by decide) hf_2
    replace hf_13 := hr_26.at ka_3 (by decide) (by decide) hf_13
    replace hfr := hfr.trans (hr_26.sub (by decide))
    replace hfa := hfa.trans (hfa9.sub (by decide))
    obtain rfl := hR_29
    refine jj_if_eqF (tgt := 70) C dX3_readNumber_28 (by decide) (by decide) ?_
    refine jj_aload_n C dX3_readNumber_31 rfl ?_
    refine jj_aload_n C dX3_readNumber_32 rfl ?_
    refine tt_getF C hok_25 jk_4 0 (by decide) jw_70cd29f103 (t := (2, 10, 0)) hk0 (by decide) rfl rfl hf_2 dX3_readNumber_33 ?_
    refine tt_get C hok_25 jk_10 6 (by decide) jw_c96d139a1d (t := (0, (-2147483648), 2147483647)) ka_3 (by decide) rfl rfl dX3_readNumber_36 (fun v_32 hv_32 hf_33 => ?_)
    obtain ⟨x_34, rfl, lx_34, ux_34⟩ := tt_vi hv_32
    refine jj_iload_n C dX3_readNumber_39 rfl ?_
    refine jj_icmp_lt (tgt := 58) C dX3_readNumber_40 (by decide) (fun c_35 => ?_) (fun c_35 => ?_)
    · have z_c_35 := jc_lt (a := (x_34).toInt) (b := (0)) c_35 rfl (by decide)
      refine jj_iconst (v := 0) C dX3_readNumber_58 (by decide) ?_
      refine jj_iconst (v := 2) C dX3_readNumber_59 (by decide) ?_
      obtain ⟨qc, gs, hqc⟩ := tt_recv (cx := []) hok_25 hk0 (by decide) rfl
      refine tt_callV (rest := []) C (tc_X3_accept_3 hl D cA ak h0 hk0 hok_25) [] [] rfl rfl (by decide) (by decide) (by decide) qc hqc rfl rfl jw_713f4d2af1 jw_b3e457240a jw_58c48ce796 jw_9d546d0b6f jw_0001e2e84f jn_X3_accept rfl (jj_le rfl) (jj_le rfl) (jj_le rfl) (jj_le rfl) (jj_le rfl) dX3_readNumber_60 rfl (fun _ _ _ hX => hX.elim) (fun rx pl_36 r O_39 => ?_)
      obtain ⟨rfl, hok_37, hr_38, hfa9, hR_41⟩ := O_39
      replace hf_2 := hr_38.at hk0 (by decide) (by decide) hf_2
      replace hf_13 := hr_38.at ka_3 (by decide) (by decide) hf_13
      replace hf_33 := hr_38.at ka_3 (by decide) (by decide) hf_33
      replace hfr := hfr.trans (hr_38.sub (by decide))
      replace hfa := hfa.trans (hfa9.sub (by decide))
      obtain rfl := hR_41
      refine jj_if_eqT (tgt := 70) C dX3_readNumber_63 (by decide) (by decide) ?_
      refine jj_iconst (v := 0) C dX3_readNumber_70 (by decide) ?_
      exact jj_zret C rfl ⟨[], pl_36, rfl, rfl, hok_37, hfr, hfa, (Or.inl rfl)⟩ dX3_readNumber_71 (jj_le rfl) (jj_le rfl)
    · have z_c_35 := jc_nlt (a := (x_34).toInt) (b := (0)) c_35 rfl (by decide)
      refine jj_aload_n C dX3_readNumber_43 rfl ?_
      refine tt_getF C hok_25 jk_4 0 (by decide) jw_70cd29f103 (t := (2, 10, 0)) hk0 (by decide) rfl rfl hf_2 dX3_readNumber_44 ?_
      refine tt_getF C hok_25 jk_10 6 (by decide) jw_c96d139a1d (t := (0, (-2147483648), 2147483647)) ka_3 (by decide) rfl rfl hf_33 dX3_readNumber_47 ?_
      refine jj_iload_n C dX3_readNumber_50 rfl ?_
      refine jj_icmp_gt (tgt := 58) C dX3_readNumber_51 (by decide) (fun c_44 => ?_) (fun c_44 => ?_)
      · have z_c_44 := jc_lt (a := (9999)) (b := (x_34).toInt) c_44 (by decide) rfl
        refine jj_iconst (v := 0) C dX3_readNumber_58 (by decide) ?_
        refine jj_iconst (v := 2) C dX3_readNumber_59 (by decide) ?_
        obtain ⟨qc, gs, hqc⟩ := tt_recv (cx := []) hok_25 hk0 (by decide) rfl
        refine tt_callV (rest := []) C (tc_X3_accept_3 hl D cA ak h0 hk0 hok_25) [] [] rfl rfl (by decide) (by decide) (by decide) qc hqc rfl rfl jw_713f4d2af1 jw_b3e457240a jw_58c48ce796 jw_9d546d0b6f jw_0001e2e84f jn_X3_accept rfl (jj_le rfl) (jj_le rfl) (jj_le rfl) (jj_le rfl) (jj_le rfl) dX3_readNumber_60 rfl (fun _ _ _ hX => hX.elim) (fun rx pl_45 r O_48 => ?_)
        obtain ⟨rfl, hok_46, hr_47, hfa9, hR_50⟩ := O_48
        replace hf_2 := hr_47.at hk0 (by decide) (by decide) hf_2
        replace hf_13 := hr_47.at ka_3 (by decide) (by decide) hf_13
        replace hf_33 := hr_47.at ka_3 (by decide) (by decide) hf_33
        replace hfr := hfr.trans (hr_47.sub (by decide))
        replace hfa := hfa.trans (hfa9.sub (by decide))
        obtain rfl := hR_50
        refine jj_if_eqT (tgt := 70) C dX3_readNumber_63 (by decide) (by decide) ?_
        refine jj_iconst (v := 0) C dX3_readNumber_70 (by decide) ?_
        exact jj_zret C rfl ⟨[], pl_45, rfl, rfl, hok_46, hfr, hfa, (Or.inl rfl)⟩ dX3_readNumber_71 (jj_le rfl) (jj_le rfl)
      · have z_c_44 := jc_nlt (a := (9999)) (b := (x_34).toInt) c_44 (by decide) rfl
        refine jj_iconst (v := 1) C dX3_readNumber_54 (by decide) ?_
        refine jj_goto (tgt := 59) C dX3_readNumber_55 (by decide) ?_
        refine jj_iconst (v := 2) C dX3_readNumber_59 (by decide) ?_
        obtain ⟨qc, gs, hqc⟩ := tt_recv (cx := []) hok_25 hk0 (by decide) rfl
        refine tt_callV (rest := []) C (tc_X3_accept_4 hl D cA ak h0 hk0 hok_25) [] [] rfl rfl (by decide) (by decide) (by decide) qc hqc rfl rfl jw_713f4d2af1 jw_b3e457240a jw_58c48ce796 jw_9d546d0b6f jw_0001e2e84f jn_X3_accept rfl (jj_le rfl) (jj_le rfl) (jj_le rfl) (jj_le rfl) (jj_le rfl) dX3_readNumber_60 rfl (fun _ _ _ hX => hX.elim) (fun rx pl_53 r O_56 => ?_)
        obtain ⟨rfl, hok_54, hr_55, hfa9, hR_58⟩ := O_56
        replace hf_2 := hr_55.at hk0 (by decide) (by decide) hf_2
        replace hf_13 := hr_55.at ka_3 (by decide) (by decide) hf_13
        replace hf_33 := hr_55.at ka_3 (by decide) (by decide) hf_33
        replace hfr := hfr.trans (hr_55.sub (by decide))
        replace hfa := hfa.trans (hfa9.sub (by decide))
        obtain rfl := hR_58
        refine jj_if_eqF (tgt := 70) C dX3_readNumber_63 (by decide) (by decide) ?_
        refine jj_iconst (v := 1) C dX3_readNumber_66 (by decide) ?_
        refine jj_goto (tgt := 71) C dX3_readNumber_67 (by decide) ?_
        exact jj_zret C rfl ⟨[], pl_53, rfl, rfl, hok_54, hfr, hfa, (Or.inr rfl)⟩ dX3_readNumber_71 (jj_le rfl) (jj_le rfl)

set_option maxHeartbeats 4000000 in
set_option maxRecDepth 100000 in
theorem tc_X3_readNumber_2 {l : Launch} (hl : l.stackTraces = false) (D : va_G) (cA : Nat → ClassId) (ak : (Nat → Nat) × (Nat → Nat)) {Kd : Nat → Nat} (h0 : Nat) (hk0 : Kd h0 = 17) {pl0 : va_W} (hok : tt_ok tt_tk cA Kd pl0) : jj_M l D cA ak yX3_readNumber (.code yX3_readNumber cX3_readNumber 3 (some .boolean)) 2 41 0 0 ([] ++ pl0) [.ref h0, .int 0, .int 50] (tt_O (fun rx pl1 r => rx = [] ∧ tt_ok tt_tk cA Kd pl1 ∧ tt_fr Kd [(10, 3), (10, 4), (10, 5), (10, 6), (17, 2)] pl0 pl1 ∧ tt_fa Kd [] pl0 pl1 ∧ ((r = some (.int 0)) ∨ (r = some (.int 1))))) (tt_OX (fun _ _ _ => False)) := by
  refine jj_start hl (by decide) jw_ad178c7ce3 (jj_le rfl) ?_
  intro p e s m args below meth c A hargs hA C hex hmn
  have hfr := tt_fr.refl (K := Kd) (WS := [(10, 3), (10, 4), (10, 5), (10, 6), (17, 2)]) pl0
  have hfa := tt_fa.refl (K := Kd) (WA := []) pl0
  refine jj_aload_n C dX3_readNumber_0 rfl ?_
  refine tt_get C hok jk_4 0 (by decide) jw_70cd29f103 (t := (2, 10, 0)) hk0 (by decide) rfl rfl dX3_readNumber_1 (fun v_1 hv_1 hf_2 => ?_)
  obtain ⟨a_3, rfl, ka_3⟩ := tt_vr hv_1
  obtain ⟨qc, gs, hqc⟩ := tt_recv (cx := []) hok ka_3 (by decide) rfl
  refine tt_callV (rest := []) C (tc_X9_advance_1 hl D cA ak a_3 ka_3 hok) [] [] rfl rfl (by decide) (by decide) (by decide) qc hqc rfl rfl jw_97c023d194 jw_37f6ee43e0 jw_46baf1fc7b jw_a9e7b602dc jw_0d4db63612 jn_X9_advance rfl (jj_le rfl) (jj_le rfl) (jj_le rfl) (jj_le rfl) (jj_le rfl) dX3_readNumber_4 rfl (fun _ _ _ hX => hX.elim) (fun rx pl_4 r O_7 => ?_)
  obtain ⟨rfl, hok_5, hr_6, hfa9, hR_9⟩ := O_7
  replace hf_2 := hr_6.at hk0 (by decide) (by decide) hf_2
  replace hfr := hfr.trans (hr_6.sub (by decide))
  replace hfa := hfa.trans (hfa9.sub (by decide))
  obtain rfl := hR_9
  refine jj_aload_n C dX3_readNumber_7 rfl ?_
  refine jj_aload_n C dX3_readNumber_8 rfl ?_
  refine tt_getF C hok_5 jk_4 0 (by decide) jw_70cd29f103 (t := (2, 10, 0)) hk0 (by decide) rfl rfl hf_2 dX3_readNumber_9 ?_
  refine tt_get C hok_5 jk_10 5 (by decide) jw_601d0e39ae (t := (0, (-2147483648), 2147483647)) ka_3 (by decide) rfl rfl dX3_readNumber_12 (fun v_12 hv_12 hf_13 => ?_)
  obtain ⟨x_14, rfl, lx_14, ux_14⟩ := tt_vi hv_12
  refine jj_iconst (v := 2) C dX3_readNumber_15 (by decide) ?_
  refine jj_icmp_ne (tgt := 23) C dX3_readNumber_16 (by decide) (fun c_15 => ?_) (fun c_15 => ?_)
  · have z_c_15 := jc_neq (a := (x_14).toInt) (b := (2)) c_15 rfl (by decide)
    refine jj_iconst (v := 0) C dX3_readNumber_23 (by decide) ?_
    refine jj_iconst (v := 1) C dX3_readNumber_24 (by decide) ?_
    obtain ⟨qc, gs, hqc⟩ := tt_recv (cx := []) hok_5 hk0 (by decide) rfl
    refine tt_callV (rest := []) C (tc_X3_accept_1 hl D cA ak h0 hk0 hok_5) [] [] rfl rfl (by decide) (by decide) (by decide) qc hqc rfl rfl jw_713f4d2af1 jw_b3e457240a jw_58c48ce796 jw_9d546d0b6f jw_0001e2e84f jn_X3_accept rfl (jj_le rfl) (jj_le rfl) (jj_le rfl) (jj_le rfl) (jj_le rfl) dX3_readNumber_25 rfl (fun _ _ _ hX => hX.elim) (fun rx pl_16 r O_19 => ?_)
    obtain ⟨rfl, hok_17, hr_18, hfa9, hR_21⟩ := O_19
    replace hf_2 := hr_18.at hk0 (by decide) (by decide) hf_2
    replace hf_13 := hr_18.at ka_3 (by decide) (by decide) hf_13
    replace hfr := hfr.trans (hr_18.sub (by decide))
    replace hfa := hfa.trans (hfa9.sub (by decide))
    obtain rfl := hR_21
    refine jj_if_eqT (tgt := 70) C dX3_readNumber_28 (by decide) (by decide) ?_
    refine jj_iconst (v := 0) C dX3_readNumber_70 (by decide) ?_
    exact jj_zret C rfl ⟨[], pl_16, rfl, rfl, hok_17, hfr, hfa, (Or.inl rfl)⟩ dX3_readNumber_71 (jj_le rfl) (jj_le rfl)
  · have z_c_15 := jc_eq (a := (x_14).toInt) (b := (2)) c_15 rfl (by decide)
    refine jj_iconst (v := 1) C dX3_readNumber_19 (by decide) ?_
    refine jj_goto (tgt := 24) C dX3_readNumber_20 (by decide) ?_
    refine jj_iconst (v := 1) C dX3_readNumber_24 (by decide) ?_
    obtain ⟨qc, gs, hqc⟩ := tt_recv (cx := []) hok_5 hk0 (by decide) rfl
    refine tt_callV (rest := []) C (tc_X3_accept_2 hl D cA ak h0 hk0 hok_5) [] [] rfl rfl (by decide) (by decide) (by decide) qc hqc rfl rfl jw_713f4d2af1 jw_b3e457240a jw_58c48ce796 jw_9d546d0b6f jw_0001e2e84f jn_X3_accept rfl (jj_le rfl) (jj_le rfl) (jj_le rfl) (jj_le rfl) (jj_le rfl) dX3_readNumber_25 rfl (fun _ _ _ hX => hX.elim) (fun rx pl_24 r O_27 => ?_)
    obtain ⟨rfl, hok_25, hr_26, hfa9, hR_29⟩ := O_27
    replace hf_2 := hr_26.at hk0 (by decide) (by decide) hf_2
    replace hf_13 := hr_26.at ka_3 (by decide) (by decide) hf_13
    replace hfr := hfr.trans (hr_26.sub (by decide))
    replace hfa := hfa.trans (hfa9.sub (by decide))
    obtain rfl := hR_29
    refine jj_if_eqF (tgt := 70) C dX3_readNumber_28 (by decide) (by decide) ?_
    refine jj_aload_n C dX3_readNumber_31 rfl ?_
    refine jj_aload_n C dX3_readNumber_32 rfl ?_
    refine tt_getF C hok_25 jk_4 0 (by decide) jw_70cd29f103 (t := (2, 10, 0)) hk0 (by decide) rfl rfl hf_2 dX3_readNumber_33 ?_
    refine tt_get C hok_25 jk_10 6 (by decide) jw_c96d139a1d (t := (0, (-2147483648), 2147483647)) ka_3 (by decide) rfl rfl dX3_readNumber_36 (fun v_32 hv_32 hf_33 => ?_)
    obtain ⟨x_34, rfl, lx_34, ux_34⟩ := tt_vi hv_32
    refine jj_iload_n C dX3_readNumber_39 rfl ?_
    refine jj_icmp_lt (tgt := 58) C dX3_readNumber_40 (by decide) (fun c_35 => ?_) (fun c_35 => ?_)
    · have z_c_35 := jc_lt (a := (x_34).toInt) (b := (0)) c_35 rfl (by decide)
      refine jj_iconst (v := 0) C dX3_readNumber_58 (by decide) ?_
      refine jj_iconst (v := 2) C dX3_readNumber_59 (by decide) ?_
      obtain ⟨qc, gs, hqc⟩ := tt_recv (cx := []) hok_25 hk0 (by decide) rfl
      refine tt_callV (rest := []) C (tc_X3_accept_3 hl D cA ak h0 hk0 hok_25) [] [] rfl rfl (by decide) (by decide) (by decide) qc hqc rfl rfl jw_713f4d2af1 jw_b3e457240a jw_58c48ce796 jw_9d546d0b6f jw_0001e2e84f jn_X3_accept rfl (jj_le rfl) (jj_le rfl) (jj_le rfl) (jj_le rfl) (jj_le rfl) dX3_readNumber_60 rfl (fun _ _ _ hX => hX.elim) (fun rx pl_36 r O_39 => ?_)
      obtain ⟨rfl, hok_37, hr_38, hfa9, hR_41⟩ := O_39
      replace hf_2 := hr_38.at hk0 (by decide) (by decide) hf_2
      replace hf_13 := hr_38.at ka_3 (by decide) (by decide) hf_13
      replace hf_33 := hr_38.at ka_3 (by decide) (by decide) hf_33
      replace hfr := hfr.trans (hr_38.sub (by decide))
      replace hfa := hfa.trans (hfa9.sub (by decide))
      obtain rfl := hR_41
      refine jj_if_eqT (tgt := 70) C dX3_readNumber_63 (by decide) (by decide) ?_
      refine jj_iconst (v := 0) C dX3_readNumber_70 (by decide) ?_
      exact jj_zret C rfl ⟨[], pl_36, rfl, rfl, hok_37, hfr, hfa, (Or.inl rfl)⟩ dX3_readNumber_71 (jj_le rfl) (jj_le rfl)
    · have z_c_35 := jc_nlt (a := (x_34).toInt) (b := (0)) c_35 rfl (by decide)
      refine jj_aload_n C dX3_readNumber_43 rfl ?_
      refine tt_getF C hok_25 jk_4 0 (by decide) jw_70cd29f103 (t := (2, 10, 0)) hk0 (by decide) rfl rfl hf_2 dX3_readNumber_44 ?_
      refine tt_getF C hok_25 jk_10 6 (by decide) jw_c96d139a1d (t := (0, (-2147483648), 2147483647)) ka_3 (by decide) rfl rfl hf_33 dX3_readNumber_47 ?_
      refine jj_iload_n C dX3_readNumber_50 rfl ?_
      refine jj_icmp_gt (tgt := 58) C dX3_readNumber_51 (by decide) (fun c_44 => ?_) (fun c_44 => ?_)
      · have z_c_44 := jc_lt (a := (50)) (b := (x_34).toInt) c_44 (by decide) rfl
        refine jj_iconst (v := 0) C dX3_readNumber_58 (by decide) ?_
        refine jj_iconst (v := 2) C dX3_readNumber_59 (by decide) ?_
        obtain ⟨qc, gs, hqc⟩ := tt_recv (cx := []) hok_25 hk0 (by decide) rfl
        refine tt_callV (rest := []) C (tc_X3_accept_3 hl D cA ak h0 hk0 hok_25) [] [] rfl rfl (by decide) (by decide) (by decide) qc hqc rfl rfl jw_713f4d2af1 jw_b3e457240a jw_58c48ce796 jw_9d546d0b6f jw_0001e2e84f jn_X3_accept rfl (jj_le rfl) (jj_le rfl) (jj_le rfl) (jj_le rfl) (jj_le rfl) dX3_readNumber_60 rfl (fun _ _ _ hX => hX.elim) (fun rx pl_45 r O_48 => ?_)
        obtain ⟨rfl, hok_46, hr_47, hfa9, hR_50⟩ := O_48
        replace hf_2 := hr_47.at hk0 (by decide) (by decide) hf_2
        replace hf_13 := hr_47.at ka_3 (by decide) (by decide) hf_13
        replace hf_33 := hr_47.at ka_3 (by decide) (by decide) hf_33
        replace hfr := hfr.trans (hr_47.sub (by decide))
        replace hfa := hfa.trans (hfa9.sub (by decide))
        obtain rfl := hR_50
        refine jj_if_eqT (tgt := 70) C dX3_readNumber_63 (by decide) (by decide) ?_
        refine jj_iconst (v := 0) C dX3_readNumber_70 (by decide) ?_
        exact jj_zret C rfl ⟨[], pl_45, rfl, rfl, hok_46, hfr, hfa, (Or.inl rfl)⟩ dX3_readNumber_71 (jj_le rfl) (jj_le rfl)
      · have z_c_44 := jc_nlt (a := (50)) (b := (x_34).toInt) c_44 (by decide) rfl
        refine jj_iconst (v := 1) C dX3_readNumber_54 (by decide) ?_
        refine jj_goto (tgt := 59) C dX3_readNumber_55 (by decide) ?_
        refine jj_iconst (v := 2) C dX3_readNumber_59 (by decide) ?_
        obtain ⟨qc, gs, hqc⟩ := tt_recv (cx := []) hok_25 hk0 (by decide) rfl
        refine tt_callV (rest := []) C (tc_X3_accept_4 hl D cA ak h0 hk0 hok_25) [] [] rfl rfl (by decide) (by decide) (by decide) qc hqc rfl rfl jw_713f4d2af1 jw_b3e457240a jw_58c48ce796 jw_9d546d0b6f jw_0001e2e84f jn_X3_accept rfl (jj_le rfl) (jj_le rfl) (jj_le rfl) (jj_le rfl) (jj_le rfl) dX3_readNumber_60 rfl (fun _ _ _ hX => hX.elim) (fun rx pl_53 r O_56 => ?_)
        obtain ⟨rfl, hok_54, hr_55, hfa9, hR_58⟩ := O_56
        replace hf_2 := hr_55.at hk0 (by decide) (by decide) hf_2
        replace hf_13 := hr_55.at ka_3 (by decide) (by decide) hf_13
        replace hf_33 := hr_55.at ka_3 (by decide) (by decide) hf_33
        replace hfr := hfr.trans (hr_55.sub (by decide))
        replace hfa := hfa.trans (hfa9.sub (by decide))
        obtain rfl := hR_58
        refine jj_if_eqF (tgt := 70) C dX3_readNumber_63 (by decide) (by decide) ?_
        refine jj_iconst (v := 1) C dX3_readNumber_66 (by decide) ?_
        refine jj_goto (tgt := 71) C dX3_readNumber_67 (by decide) ?_
        exact jj_zret C rfl ⟨[], pl_53, rfl, rfl, hok_54, hfr, hfa, (Or.inr rfl)⟩ dX3_readNumber_71 (jj_le rfl) (jj_le rfl)

set_option maxHeartbeats 4000000 in
set_option maxRecDepth 100000 in
theorem tc_X3_readNumber_3 {l : Launch} (hl : l.stackTraces = false) (D : va_G) (cA : Nat → ClassId) (ak : (Nat → Nat) × (Nat → Nat)) {Kd : Nat → Nat} (h0 : Nat) (hk0 : Kd h0 = 17) {pl0 : va_W} (hok : tt_ok tt_tk cA Kd pl0) : jj_M l D cA ak yX3_readNumber (.code yX3_readNumber cX3_readNumber 3 (some .boolean)) 2 41 0 0 ([] ++ pl0) [.ref h0, .int 1, .int 100] (tt_O (fun rx pl1 r => rx = [] ∧ tt_ok tt_tk cA Kd pl1 ∧ tt_fr Kd [(10, 3), (10, 4), (10, 5), (10, 6), (17, 2)] pl0 pl1 ∧ tt_fa Kd [] pl0 pl1 ∧ ((r = some (.int 0)) ∨ (r = some (.int 1))))) (tt_OX (fun _ _ _ => False)) := by
  refine jj_start hl (by decide) jw_ad178c7ce3 (jj_le rfl) ?_
  intro p e s m args below meth c A hargs hA C hex hmn
  have hfr := tt_fr.refl (K := Kd) (WS := [(10, 3), (10, 4), (10, 5), (10, 6), (17, 2)]) pl0
  have hfa := tt_fa.refl (K := Kd) (WA := []) pl0
  refine jj_aload_n C dX3_readNumber_0 rfl ?_
  refine tt_get C hok jk_4 0 (by decide) jw_70cd29f103 (t := (2, 10, 0)) hk0 (by decide) rfl rfl dX3_readNumber_1 (fun v_1 hv_1 hf_2 => ?_)
  obtain ⟨a_3, rfl, ka_3⟩ := tt_vr hv_1
  obtain ⟨qc, gs, hqc⟩ := tt_recv (cx := []) hok ka_3 (by decide) rfl
  refine tt_callV (rest := []) C (tc_X9_advance_1 hl D cA ak a_3 ka_3 hok) [] [] rfl rfl (by decide) (by decide) (by decide) qc hqc rfl rfl jw_97c023d194 jw_37f6ee43e0 jw_46baf1fc7b jw_a9e7b602dc jw_0d4db63612 jn_X9_advance rfl (jj_le rfl) (jj_le rfl) (jj_le rfl) (jj_le rfl) (jj_le rfl) dX3_readNumber_4 rfl (fun _ _ _ hX => hX.elim) (fun rx pl_4 r O_7 => ?_)
  obtain ⟨rfl, hok_5, hr_6, hfa9, hR_9⟩ := O_7
  replace hf_2 := hr_6.at hk0 (by decide) (by decide) hf_2
  replace hfr := hfr.trans (hr_6.sub (by decide))
  replace hfa := hfa.trans (hfa9.sub (by decide))
  obtain rfl := hR_9
  refine jj_aload_n C dX3_readNumber_7 rfl ?_
  refine jj_aload_n C dX3_readNumber_8 rfl ?_
  refine tt_getF C hok_5 jk_4 0 (by decide) jw_70cd29f103 (t := (2, 10, 0)) hk0 (by decide) rfl rfl hf_2 dX3_readNumber_9 ?_
  refine tt_get C hok_5 jk_10 5 (by decide) jw_601d0e39ae (t := (0, (-2147483648), 2147483647)) ka_3 (by decide) rfl rfl dX3_readNumber_12 (fun v_12 hv_12 hf_13 => ?_)
  obtain ⟨x_14, rfl, lx_14, ux_14⟩ := tt_vi hv_12
  refine jj_iconst (v := 2) C dX3_readNumber_15 (by decide) ?_
  refine jj_icmp_ne (tgt := 23) C dX3_readNumber_16 (by decide) (fun c_15 => ?_) (fun c_15 => ?_)
  · have z_c_15 := jc_neq (a := (x_14).toInt) (b := (2)) c_15 rfl (by decide)
    refine jj_iconst (v := 0) C dX3_readNumber_23 (by decide) ?_
    refine jj_iconst (v := 1) C dX3_readNumber_24 (by decide) ?_
    obtain ⟨qc, gs, hqc⟩ := tt_recv (cx := []) hok_5 hk0 (by decide) rfl
    refine tt_callV (rest := []) C (tc_X3_accept_1 hl D cA ak h0 hk0 hok_5) [] [] rfl rfl (by decide) (by decide) (by decide) qc hqc rfl rfl jw_713f4d2af1 jw_b3e457240a jw_58c48ce796 jw_9d546d0b6f jw_0001e2e84f jn_X3_accept rfl (jj_le rfl) (jj_le rfl) (jj_le rfl) (jj_le rfl) (jj_le rfl) dX3_readNumber_25 rfl (fun _ _ _ hX => hX.elim) (fun rx pl_16 r O_19 => ?_)
    obtain ⟨rfl, hok_17, hr_18, hfa9, hR_21⟩ := O_19
    replace hf_2 := hr_18.at hk0 (by decide) (by decide) hf_2
    replace hf_13 := hr_18.at ka_3 (by decide) (by decide) hf_13
    replace hfr := hfr.trans (hr_18.sub (by decide))
    replace hfa := hfa.trans (hfa9.sub (by decide))
    obtain rfl := hR_21
    refine jj_if_eqT (tgt := 70) C dX3_readNumber_28 (by decide) (by decide) ?_
    refine jj_iconst (v := 0) C dX3_readNumber_70 (by decide) ?_
    exact jj_zret C rfl ⟨[], pl_16, rfl, rfl, hok_17, hfr, hfa, (Or.inl rfl)⟩ dX3_readNumber_71 (jj_le rfl) (jj_le rfl)
  · have z_c_15 := jc_eq (a := (x_14).toInt) (b := (2)) c_15 rfl (by decide)
    refine jj_iconst (v := 1) C dX3_readNumber_19 (by decide) ?_
    refine jj_goto (tgt := 24) C dX3_readNumber_20 (by decide) ?_
    refine jj_iconst (v := 1) C dX3_readNumber_24 (by decide) ?_
    obtain ⟨qc, gs, hqc⟩ := tt_recv (cx := []) hok_5 hk0 (by decide) rfl
    refine tt_callV (rest := []) C (tc_X3_accept_2 hl D cA ak h0 hk0 hok_5) [] [] rfl rfl (by decide) (by decide) (by decide) qc hqc rfl rfl jw_713f4d2af1 jw_b3e457240a jw_58c48ce796 jw_9d546d0b6f jw_0001e2e84f jn_X3_accept rfl (jj_le rfl) (jj_le rfl) (jj_le rfl) (jj_le rfl) (jj_le rfl) dX3_readNumber_25 rfl (fun _ _ _ hX => hX.elim) (fun rx pl_24 r O_27 => ?_)
    obtain ⟨rfl, hok_25, hr_26, hfa9, hR_29⟩ := O_27
    replace hf_2 := hr_26.at hk0 (by decide) (by decide) hf_2
    replace hf_13 := hr_26.at ka_3 (by decide) (by decide) hf_13
    replace hfr := hfr.trans (hr_26.sub (by decide))
    replace hfa := hfa.trans (hfa9.sub (by decide))
    obtain rfl := hR_29
    refine jj_if_eqF (tgt := 70) C dX3_readNumber_28 (by decide) (by decide) ?_
    refine jj_aload_n C dX3_readNumber_31 rfl ?_
    refine jj_aload_n C dX3_readNumber_32 rfl ?_
    refine tt_getF C hok_25 jk_4 0 (by decide) jw_70cd29f103 (t := (2, 10, 0)) hk0 (by decide) rfl rfl hf_2 dX3_readNumber_33 ?_
    refine tt_get C hok_25 jk_10 6 (by decide) jw_c96d139a1d (t := (0, (-2147483648), 2147483647)) ka_3 (by decide) rfl rfl dX3_readNumber_36 (fun v_32 hv_32 hf_33 => ?_)
    obtain ⟨x_34, rfl, lx_34, ux_34⟩ := tt_vi hv_32
    refine jj_iload_n C dX3_readNumber_39 rfl ?_
    refine jj_icmp_lt (tgt := 58) C dX3_readNumber_40 (by decide) (fun c_35 => ?_) (fun c_35 => ?_)
    · have z_c_35 := jc_lt (a := (x_34).toInt) (b := (1)) c_35 rfl (by decide)
      refine jj_iconst (v := 0) C dX3_readNumber_58 (by decide) ?_
      refine jj_iconst (v := 2) C dX3_readNumber_59 (by decide) ?_
      obtain ⟨qc, gs, hqc⟩ := tt_recv (cx := []) hok_25 hk0 (by decide) rfl
      refine tt_callV (rest := []) C (tc_X3_accept_3 hl D cA ak h0 hk0 hok_25) [] [] rfl rfl (by decide) (by decide) (by decide) qc hqc rfl rfl jw_713f4d2af1 jw_b3e457240a jw_58c48ce796 jw_9d546d0b6f jw_0001e2e84f jn_X3_accept rfl (jj_le rfl) (jj_le rfl) (jj_le rfl) (jj_le rfl) (jj_le rfl) dX3_readNumber_60 rfl (fun _ _ _ hX => hX.elim) (fun rx pl_36 r O_39 => ?_)
      obtain ⟨rfl, hok_37, hr_38, hfa9, hR_41⟩ := O_39
      replace hf_2 := hr_38.at hk0 (by decide) (by decide) hf_2
      replace hf_13 := hr_38.at ka_3 (by decide) (by decide) hf_13
      replace hf_33 := hr_38.at ka_3 (by decide) (by decide) hf_33
      replace hfr := hfr.trans (hr_38.sub (by decide))
      replace hfa := hfa.trans (hfa9.sub (by decide))
      obtain rfl := hR_41
      refine jj_if_eqT (tgt := 70) C dX3_readNumber_63 (by decide) (by decide) ?_
      refine jj_iconst (v := 0) C dX3_readNumber_70 (by decide) ?_
      exact jj_zret C rfl ⟨[], pl_36, rfl, rfl, hok_37, hfr, hfa, (Or.inl rfl)⟩ dX3_readNumber_71 (jj_le rfl) (jj_le rfl)
    · have z_c_35 := jc_nlt (a := (x_34).toInt) (b := (1)) c_35 rfl (by decide)
      refine jj_aload_n C dX3_readNumber_43 rfl ?_
      refine tt_getF C hok_25 jk_4 0 (by decide) jw_70cd29f103 (t := (2, 10, 0)) hk0 (by decide) rfl rfl hf_2 dX3_readNumber_44 ?_
      refine tt_getF C hok_25 jk_10 6 (by decide) jw_c96d139a1d (t := (0, (-2147483648), 2147483647)) ka_3 (by decide) rfl rfl hf_33 dX3_readNumber_47 ?_
      refine jj_iload_n C dX3_readNumber_50 rfl ?_
      refine jj_icmp_gt (tgt := 58) C dX3_readNumber_51 (by decide) (fun c_44 => ?_) (fun c_44 => ?_)
      · have z_c_44 := jc_lt (a := (100)) (b := (x_34).toInt) c_44 (by decide) rfl
        refine jj_iconst (v := 0) C dX3_readNumber_58 (by decide) ?_
        refine jj_iconst (v := 2) C dX3_readNumber_59 (by decide) ?_
        obtain ⟨qc, gs, hqc⟩ := tt_recv (cx := []) hok_25 hk0 (by decide) rfl
        refine tt_callV (rest := []) C (tc_X3_accept_3 hl D cA ak h0 hk0 hok_25) [] [] rfl rfl (by decide) (by decide) (by decide) qc hqc rfl rfl jw_713f4d2af1 jw_b3e457240a jw_58c48ce796 jw_9d546d0b6f jw_0001e2e84f jn_X3_accept rfl (jj_le rfl) (jj_le rfl) (jj_le rfl) (jj_le rfl) (jj_le rfl) dX3_readNumber_60 rfl (fun _ _ _ hX => hX.elim) (fun rx pl_45 r O_48 => ?_)
        obtain ⟨rfl, hok_46, hr_47, hfa9, hR_50⟩ := O_48
        replace hf_2 := hr_47.at hk0 (by decide) (by decide) hf_2
        replace hf_13 := hr_47.at ka_3 (by decide) (by decide) hf_13
        replace hf_33 := hr_47.at ka_3 (by decide) (by decide) hf_33
        replace hfr := hfr.trans (hr_47.sub (by decide))
        replace hfa := hfa.trans (hfa9.sub (by decide))
        obtain rfl := hR_50
        refine jj_if_eqT (tgt := 70) C dX3_readNumber_63 (by decide) (by decide) ?_
        refine jj_iconst (v := 0) C dX3_readNumber_70 (by decide) ?_
        exact jj_zret C rfl ⟨[], pl_45, rfl, rfl, hok_46, hfr, hfa, (Or.inl rfl)⟩ dX3_readNumber_71 (jj_le rfl) (jj_le rfl)
      · have z_c_44 := jc_nlt (a := (100)) (b := (x_34).toInt) c_44 (by decide) rfl
        refine jj_iconst (v := 1) C dX3_readNumber_54 (by decide) ?_
        refine jj_goto (tgt := 59) C dX3_readNumber_55 (by decide) ?_
        refine jj_iconst (v := 2) C dX3_readNumber_59 (by decide) ?_
        obtain ⟨qc, gs, hqc⟩ := tt_recv (cx := []) hok_25 hk0 (by decide) rfl
        refine tt_callV (rest := []) C (tc_X3_accept_4 hl D cA ak h0 hk0 hok_25) [] [] rfl rfl (by decide) (by decide) (by decide) qc hqc rfl rfl jw_713f4d2af1 jw_b3e457240a jw_58c48ce796 jw_9d546d0b6f jw_0001e2e84f jn_X3_accept rfl (jj_le rfl) (jj_le rfl) (jj_le rfl) (jj_le rfl) (jj_le rfl) dX3_readNumber_60 rfl (fun _ _ _ hX => hX.elim) (fun rx pl_53 r O_56 => ?_)
        obtain ⟨rfl, hok_54, hr_55, hfa9, hR_58⟩ := O_56
        replace hf_2 := hr_55.at hk0 (by decide) (by decide) hf_2
        replace hf_13 := hr_55.at ka_3 (by decide) (by decide) hf_13
        replace hf_33 := hr_55.at ka_3 (by decide) (by decide) hf_33
        replace hfr := hfr.trans (hr_55.sub (by decide))
        replace hfa := hfa.trans (hfa9.sub (by decide))
        obtain rfl := hR_58
        refine jj_if_eqF (tgt := 70) C dX3_readNumber_63 (by decide) (by decide) ?_
        refine jj_iconst (v := 1) C dX3_readNumber_66 (by decide) ?_
        refine jj_goto (tgt := 71) C dX3_readNumber_67 (by decide) ?_
        exact jj_zret C rfl ⟨[], pl_53, rfl, rfl, hok_54, hfr, hfa, (Or.inr rfl)⟩ dX3_readNumber_71 (jj_le rfl) (jj_le rfl)

