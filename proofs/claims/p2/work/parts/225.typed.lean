set_option maxHeartbeats 4000000 in
set_option maxRecDepth 100000 in
theorem tc_X5_putByte_7 {l : Launch} (hl : l.stackTraces = false) (D : va_G) (cA : Nat → ClassId) (ak : (Nat → Nat) × (Nat → Nat)) {Kd : Nat → Nat} (h0 : Nat) (hk0 : Kd h0 = 12) {pl0 : va_W} (hok : tt_ok tt_tk cA Kd pl0) : jj_M l D cA ak yX5_putByte (.code yX5_putByte cX5_putByte 2 none) 0 0 0 0 ([] ++ pl0) [.ref h0, .int 115] (tt_O (fun rx pl1 r => rx = [] ∧ tt_ok tt_tk cA Kd pl1 ∧ tt_fr Kd [(12, 1)] pl0 pl1 ∧ ((r = none)))) (tt_OX (fun _ _ _ => False)) := by
  refine jj_start hl (by decide) jw_801 (jj_le rfl) ?_
  intro p e s m args below meth c A hargs hA C hex hmn
  have hfr := tt_fr.refl (K := Kd) (WS := [(12, 1)]) pl0
  refine jj_aload_n C dX5_putByte_0 rfl ?_
  refine tt_get C hok jk_6 1 (by decide) jw_795 (t := (0, 0, 1300)) hk0 (by decide) rfl rfl dX5_putByte_1 (fun v_1 hv_1 hf_2 => ?_)
  obtain ⟨x_3, rfl, lx_3, ux_3⟩ := tt_vi hv_1
  refine jj_sipush (v := 1300) C dX5_putByte_4 (by decide) ?_
  refine jj_icmp_ge (tgt := 30) C dX5_putByte_7 (by decide) (fun c_4 => ?_) (fun c_4 => ?_)
  · have z_c_4 := jc_le (a := (1300)) (b := (x_3).toInt) c_4 (by decide) rfl
    exact jj_vret C ⟨[], pl0, rfl, rfl, hok, hfr, rfl⟩ dX5_putByte_30 (jj_le rfl) (jj_le rfl)
  · have z_c_4 := jc_nle (a := (1300)) (b := (x_3).toInt) c_4 (by decide) rfl
    refine jj_aload_n C dX5_putByte_10 rfl ?_
    refine tt_get C hok jk_6 0 (by decide) jw_802 (t := (2, 13, 0)) hk0 (by decide) rfl rfl dX5_putByte_11 (fun v_5 hv_5 hf_6 => ?_)
    obtain ⟨a_7, rfl, ka_7⟩ := tt_vr hv_5
    refine jj_aload_n C dX5_putByte_14 rfl ?_
    refine tt_getF C hok jk_6 1 (by decide) jw_795 (t := (0, 0, 1300)) hk0 (by decide) rfl rfl hf_2 dX5_putByte_15 ?_
    refine jj_iload_n C dX5_putByte_18 rfl ?_
    refine tt_bast C hok (t := (0, (-2147483648), 2147483647)) ka_7 (by decide) rfl (vp_in_iff.mpr ⟨by omega, by omega⟩) (tt_ia _) dX5_putByte_19 (fun pl_8 hok_9 tr => ?_)
    replace hf_2 := tr _ _ _ hf_2
    replace hf_6 := tr _ _ _ hf_6
    replace hfr := hfr.arr tr
    refine jj_aload_n C dX5_putByte_20 rfl ?_
    refine jj_dup C dX5_putByte_21 rfl ?_
    refine tt_getF C hok_9 jk_6 1 (by decide) jw_795 (t := (0, 0, 1300)) hk0 (by decide) rfl rfl hf_2 dX5_putByte_22 ?_
    refine jj_iconst (v := 1) C dX5_putByte_25 (by decide) ?_
    obtain ⟨x_10, ex_10, vx_10⟩ := tt_iadd (x := x_3) (y := (1 : Int32)) (a := x_3.toInt) rfl (b := 1) (by decide) (by omega) (by omega)
    refine jj_iadd (v := x_10) C dX5_putByte_26 ex_10 ?_
    refine tt_put C hok_9 jk_6 1 (by decide) jw_795 (t := (0, 0, 1300)) hk0 (by decide) rfl rfl rfl (tt_iv (by omega) (by omega)) rfl rfl dX5_putByte_27 (fun pl_11 hok_12 tr hn => ?_)
    replace hf_6 := tr _ _ _ (Or.inr (by decide)) hf_6
    have hf_13 := hn
    replace hfr := hfr.put hk0 tr (by decide)
    exact jj_vret C ⟨[], pl_11, rfl, rfl, hok_12, hfr, rfl⟩ dX5_putByte_30 (jj_le rfl) (jj_le rfl)

set_option maxHeartbeats 4000000 in
set_option maxRecDepth 100000 in
theorem tc_X5_putByte_8 {l : Launch} (hl : l.stackTraces = false) (D : va_G) (cA : Nat → ClassId) (ak : (Nat → Nat) × (Nat → Nat)) {Kd : Nat → Nat} (h0 : Nat) (hk0 : Kd h0 = 12) {pl0 : va_W} (hok : tt_ok tt_tk cA Kd pl0) : jj_M l D cA ak yX5_putByte (.code yX5_putByte cX5_putByte 2 none) 0 0 0 0 ([] ++ pl0) [.ref h0, .int 101] (tt_O (fun rx pl1 r => rx = [] ∧ tt_ok tt_tk cA Kd pl1 ∧ tt_fr Kd [(12, 1)] pl0 pl1 ∧ ((r = none)))) (tt_OX (fun _ _ _ => False)) := by
  refine jj_start hl (by decide) jw_801 (jj_le rfl) ?_
  intro p e s m args below meth c A hargs hA C hex hmn
  have hfr := tt_fr.refl (K := Kd) (WS := [(12, 1)]) pl0
  refine jj_aload_n C dX5_putByte_0 rfl ?_
  refine tt_get C hok jk_6 1 (by decide) jw_795 (t := (0, 0, 1300)) hk0 (by decide) rfl rfl dX5_putByte_1 (fun v_1 hv_1 hf_2 => ?_)
  obtain ⟨x_3, rfl, lx_3, ux_3⟩ := tt_vi hv_1
  refine jj_sipush (v := 1300) C dX5_putByte_4 (by decide) ?_
  refine jj_icmp_ge (tgt := 30) C dX5_putByte_7 (by decide) (fun c_4 => ?_) (fun c_4 => ?_)
  · have z_c_4 := jc_le (a := (1300)) (b := (x_3).toInt) c_4 (by decide) rfl
    exact jj_vret C ⟨[], pl0, rfl, rfl, hok, hfr, rfl⟩ dX5_putByte_30 (jj_le rfl) (jj_le rfl)
  · have z_c_4 := jc_nle (a := (1300)) (b := (x_3).toInt) c_4 (by decide) rfl
    refine jj_aload_n C dX5_putByte_10 rfl ?_
    refine tt_get C hok jk_6 0 (by decide) jw_802 (t := (2, 13, 0)) hk0 (by decide) rfl rfl dX5_putByte_11 (fun v_5 hv_5 hf_6 => ?_)
    obtain ⟨a_7, rfl, ka_7⟩ := tt_vr hv_5
    refine jj_aload_n C dX5_putByte_14 rfl ?_
    refine tt_getF C hok jk_6 1 (by decide) jw_795 (t := (0, 0, 1300)) hk0 (by decide) rfl rfl hf_2 dX5_putByte_15 ?_
    refine jj_iload_n C dX5_putByte_18 rfl ?_
    refine tt_bast C hok (t := (0, (-2147483648), 2147483647)) ka_7 (by decide) rfl (vp_in_iff.mpr ⟨by omega, by omega⟩) (tt_ia _) dX5_putByte_19 (fun pl_8 hok_9 tr => ?_)
    replace hf_2 := tr _ _ _ hf_2
    replace hf_6 := tr _ _ _ hf_6
    replace hfr := hfr.arr tr
    refine jj_aload_n C dX5_putByte_20 rfl ?_
    refine jj_dup C dX5_putByte_21 rfl ?_
    refine tt_getF C hok_9 jk_6 1 (by decide) jw_795 (t := (0, 0, 1300)) hk0 (by decide) rfl rfl hf_2 dX5_putByte_22 ?_
    refine jj_iconst (v := 1) C dX5_putByte_25 (by decide) ?_
    obtain ⟨x_10, ex_10, vx_10⟩ := tt_iadd (x := x_3) (y := (1 : Int32)) (a := x_3.toInt) rfl (b := 1) (by decide) (by omega) (by omega)
    refine jj_iadd (v := x_10) C dX5_putByte_26 ex_10 ?_
    refine tt_put C hok_9 jk_6 1 (by decide) jw_795 (t := (0, 0, 1300)) hk0 (by decide) rfl rfl rfl (tt_iv (by omega) (by omega)) rfl rfl dX5_putByte_27 (fun pl_11 hok_12 tr hn => ?_)
    replace hf_6 := tr _ _ _ (Or.inr (by decide)) hf_6
    have hf_13 := hn
    replace hfr := hfr.put hk0 tr (by decide)
    exact jj_vret C ⟨[], pl_11, rfl, rfl, hok_12, hfr, rfl⟩ dX5_putByte_30 (jj_le rfl) (jj_le rfl)

set_option maxHeartbeats 4000000 in
set_option maxRecDepth 100000 in
theorem tc_X5_putByte_9 {l : Launch} (hl : l.stackTraces = false) (D : va_G) (cA : Nat → ClassId) (ak : (Nat → Nat) × (Nat → Nat)) {Kd : Nat → Nat} (h0 : Nat) (hk0 : Kd h0 = 12) {pl0 : va_W} (hok : tt_ok tt_tk cA Kd pl0) : jj_M l D cA ak yX5_putByte (.code yX5_putByte cX5_putByte 2 none) 0 0 0 0 ([] ++ pl0) [.ref h0, .int 116] (tt_O (fun rx pl1 r => rx = [] ∧ tt_ok tt_tk cA Kd pl1 ∧ tt_fr Kd [(12, 1)] pl0 pl1 ∧ ((r = none)))) (tt_OX (fun _ _ _ => False)) := by
  refine jj_start hl (by decide) jw_801 (jj_le rfl) ?_
  intro p e s m args below meth c A hargs hA C hex hmn
  have hfr := tt_fr.refl (K := Kd) (WS := [(12, 1)]) pl0
  refine jj_aload_n C dX5_putByte_0 rfl ?_
  refine tt_get C hok jk_6 1 (by decide) jw_795 (t := (0, 0, 1300)) hk0 (by decide) rfl rfl dX5_putByte_1 (fun v_1 hv_1 hf_2 => ?_)
  obtain ⟨x_3, rfl, lx_3, ux_3⟩ := tt_vi hv_1
  refine jj_sipush (v := 1300) C dX5_putByte_4 (by decide) ?_
  refine jj_icmp_ge (tgt := 30) C dX5_putByte_7 (by decide) (fun c_4 => ?_) (fun c_4 => ?_)
  · have z_c_4 := jc_le (a := (1300)) (b := (x_3).toInt) c_4 (by decide) rfl
    exact jj_vret C ⟨[], pl0, rfl, rfl, hok, hfr, rfl⟩ dX5_putByte_30 (jj_le rfl) (jj_le rfl)
  · have z_c_4 := jc_nle (a := (1300)) (b := (x_3).toInt) c_4 (by decide) rfl
    refine jj_aload_n C dX5_putByte_10 rfl ?_
    refine tt_get C hok jk_6 0 (by decide) jw_802 (t := (2, 13, 0)) hk0 (by decide) rfl rfl dX5_putByte_11 (fun v_5 hv_5 hf_6 => ?_)
    obtain ⟨a_7, rfl, ka_7⟩ := tt_vr hv_5
    refine jj_aload_n C dX5_putByte_14 rfl ?_
    refine tt_getF C hok jk_6 1 (by decide) jw_795 (t := (0, 0, 1300)) hk0 (by decide) rfl rfl hf_2 dX5_putByte_15 ?_
    refine jj_iload_n C dX5_putByte_18 rfl ?_
    refine tt_bast C hok (t := (0, (-2147483648), 2147483647)) ka_7 (by decide) rfl (vp_in_iff.mpr ⟨by omega, by omega⟩) (tt_ia _) dX5_putByte_19 (fun pl_8 hok_9 tr => ?_)
    replace hf_2 := tr _ _ _ hf_2
    replace hf_6 := tr _ _ _ hf_6
    replace hfr := hfr.arr tr
    refine jj_aload_n C dX5_putByte_20 rfl ?_
    refine jj_dup C dX5_putByte_21 rfl ?_
    refine tt_getF C hok_9 jk_6 1 (by decide) jw_795 (t := (0, 0, 1300)) hk0 (by decide) rfl rfl hf_2 dX5_putByte_22 ?_
    refine jj_iconst (v := 1) C dX5_putByte_25 (by decide) ?_
    obtain ⟨x_10, ex_10, vx_10⟩ := tt_iadd (x := x_3) (y := (1 : Int32)) (a := x_3.toInt) rfl (b := 1) (by decide) (by omega) (by omega)
    refine jj_iadd (v := x_10) C dX5_putByte_26 ex_10 ?_
    refine tt_put C hok_9 jk_6 1 (by decide) jw_795 (t := (0, 0, 1300)) hk0 (by decide) rfl rfl rfl (tt_iv (by omega) (by omega)) rfl rfl dX5_putByte_27 (fun pl_11 hok_12 tr hn => ?_)
    replace hf_6 := tr _ _ _ (Or.inr (by decide)) hf_6
    have hf_13 := hn
    replace hfr := hfr.put hk0 tr (by decide)
    exact jj_vret C ⟨[], pl_11, rfl, rfl, hok_12, hfr, rfl⟩ dX5_putByte_30 (jj_le rfl) (jj_le rfl)

set_option maxHeartbeats 4000000 in
set_option maxRecDepth 100000 in
theorem tc_X5_putText_3 {l : Launch} (hl : l.stackTraces = false) (D : va_G) (cA : Nat → ClassId) (ak : (Nat → Nat) × (Nat → Nat)) {Kd : Nat → Nat} (h0 : Nat) (hk0 : Kd h0 = 12) {pl0 : va_W} (hok : tt_ok tt_tk cA Kd pl0) : jj_M l D cA ak yX5_putText (.code yX5_putText cX5_putText 3 none) 4 85 0 0 ([] ++ pl0) [.ref h0, .ref (ak.1 15)] (tt_O (fun rx pl1 r => rx = [] ∧ tt_ok tt_tk cA Kd pl1 ∧ tt_fr Kd [(12, 1)] pl0 pl1 ∧ ((r = none)))) (tt_OX (fun _ _ _ => False)) := by
  refine jj_start hl (by decide) jw_797 (jj_le rfl) ?_
  intro p e s m args below meth c A hargs hA C hex hmn
  have hfr := tt_fr.refl (K := Kd) (WS := [(12, 1)]) pl0
  refine jj_iconst (v := 0) C dX5_putText_0 (by decide) ?_
  refine jj_istore_n C dX5_putText_1 (by decide) rfl ?_
  refine jj_iload_n C dX5_putText_2 rfl ?_
  refine jj_aload_n C dX5_putText_3 rfl ?_
  refine tt_call0Vs (rest := [.int 0]) C (ct_J0_length_8abf5_16 hl D cA ak) 15 (by decide) rfl jw_798 jw_593 jw_594 jw_584 jw_583 jn_J0_length_8abf5 rfl (jj_le rfl) (jj_le rfl) (jj_le rfl) (jj_le rfl) (jj_le rfl) dX5_putText_4 rfl (fun w1 r O_1 => ?_)
  obtain ⟨-, rfl⟩ := O_1
  refine jj_icmp_geF (tgt := 26) C dX5_putText_7 (by decide) (by decide) ?_
  refine jj_aload_n C dX5_putText_10 rfl ?_
  refine jj_aload_n C dX5_putText_11 rfl ?_
  refine jj_iload_n C dX5_putText_12 rfl ?_
  refine tt_call0Vs (rest := [.ref h0]) C (ct_J0_charAt_5068e_86 hl D cA ak) 15 (by decide) rfl jw_799 jw_618 jw_619 jw_584 jw_597 jn_J0_charAt_5068e rfl (jj_le rfl) (jj_le rfl) (jj_le rfl) (jj_le rfl) (jj_le rfl) dX5_putText_13 rfl (fun w1 r O_2 => ?_)
  obtain ⟨-, rfl⟩ := O_2
  refine jj_i2b (v := 32) C dX5_putText_16 (by decide) ?_
  obtain ⟨qc, gs, hqc⟩ := tt_recv (cx := []) hok hk0 (by decide) rfl
  refine tt_callV (rest := []) C (tc_X5_putByte_4 hl D cA ak h0 hk0 hok) [] [] rfl rfl (by decide) (by decide) (by decide) qc hqc rfl rfl jw_800 jw_803 jw_804 jw_794 jw_801 jn_X5_putByte rfl (jj_le rfl) (jj_le rfl) (jj_le rfl) (jj_le rfl) (jj_le rfl) dX5_putText_17 rfl (fun _ _ _ hX => hX.elim) (fun rx pl_3 r O_6 => ?_)
  obtain ⟨rfl, hok_4, hr_5, hR_8⟩ := O_6
  replace hfr := hfr.trans (hr_5.sub (by decide))
  obtain rfl := hR_8
  refine jj_iinc (v := 1) C dX5_putText_20 rfl (by decide) (by decide) rfl ?_
  refine jj_goto (tgt := 2) C dX5_putText_23 (by decide) ?_
  refine jj_iload_n C dX5_putText_2 rfl ?_
  refine jj_aload_n C dX5_putText_3 rfl ?_
  refine tt_call0Vs (rest := [.int 1]) C (ct_J0_length_8abf5_16 hl D cA ak) 15 (by decide) rfl jw_798 jw_593 jw_594 jw_584 jw_583 jn_J0_length_8abf5 rfl (jj_le rfl) (jj_le rfl) (jj_le rfl) (jj_le rfl) (jj_le rfl) dX5_putText_4 rfl (fun w1 r O_9 => ?_)
  obtain ⟨-, rfl⟩ := O_9
  refine jj_icmp_geF (tgt := 26) C dX5_putText_7 (by decide) (by decide) ?_
  refine jj_aload_n C dX5_putText_10 rfl ?_
  refine jj_aload_n C dX5_putText_11 rfl ?_
  refine jj_iload_n C dX5_putText_12 rfl ?_
  refine tt_call0Vs (rest := [.ref h0]) C (ct_J0_charAt_5068e_87 hl D cA ak) 15 (by decide) rfl jw_799 jw_618 jw_619 jw_584 jw_597 jn_J0_charAt_5068e rfl (jj_le rfl) (jj_le rfl) (jj_le rfl) (jj_le rfl) (jj_le rfl) dX5_putText_13 rfl (fun w1 r O_10 => ?_)
  obtain ⟨-, rfl⟩ := O_10
  refine jj_i2b (v := 97) C dX5_putText_16 (by decide) ?_
  obtain ⟨qc, gs, hqc⟩ := tt_recv (cx := []) hok_4 hk0 (by decide) rfl
  refine tt_callV (rest := []) C (tc_X5_putByte_2 hl D cA ak h0 hk0 hok_4) [] [] rfl rfl (by decide) (by decide) (by decide) qc hqc rfl rfl jw_800 jw_803 jw_804 jw_794 jw_801 jn_X5_putByte rfl (jj_le rfl) (jj_le rfl) (jj_le rfl) (jj_le rfl) (jj_le rfl) dX5_putText_17 rfl (fun _ _ _ hX => hX.elim) (fun rx pl_11 r O_14 => ?_)
  obtain ⟨rfl, hok_12, hr_13, hR_16⟩ := O_14
  replace hfr := hfr.trans (hr_13.sub (by decide))
  obtain rfl := hR_16
  refine jj_iinc (v := 2) C dX5_putText_20 rfl (by decide) (by decide) rfl ?_
  refine jj_goto (tgt := 2) C dX5_putText_23 (by decide) ?_
  refine jj_iload_n C dX5_putText_2 rfl ?_
  refine jj_aload_n C dX5_putText_3 rfl ?_
  refine tt_call0Vs (rest := [.int 2]) C (ct_J0_length_8abf5_16 hl D cA ak) 15 (by decide) rfl jw_798 jw_593 jw_594 jw_584 jw_583 jn_J0_length_8abf5 rfl (jj_le rfl) (jj_le rfl) (jj_le rfl) (jj_le rfl) (jj_le rfl) dX5_putText_4 rfl (fun w1 r O_17 => ?_)
  obtain ⟨-, rfl⟩ := O_17
  refine jj_icmp_geF (tgt := 26) C dX5_putText_7 (by decide) (by decide) ?_
  refine jj_aload_n C dX5_putText_10 rfl ?_
  refine jj_aload_n C dX5_putText_11 rfl ?_
  refine jj_iload_n C dX5_putText_12 rfl ?_
  refine tt_call0Vs (rest := [.ref h0]) C (ct_J0_charAt_5068e_88 hl D cA ak) 15 (by decide) rfl jw_799 jw_618 jw_619 jw_584 jw_597 jn_J0_charAt_5068e rfl (jj_le rfl) (jj_le rfl) (jj_le rfl) (jj_le rfl) (jj_le rfl) dX5_putText_13 rfl (fun w1 r O_18 => ?_)
  obtain ⟨-, rfl⟩ := O_18
  refine jj_i2b (v := 115) C dX5_putText_16 (by decide) ?_
  obtain ⟨qc, gs, hqc⟩ := tt_recv (cx := []) hok_12 hk0 (by decide) rfl
  refine tt_callV (rest := []) C (tc_X5_putByte_7 hl D cA ak h0 hk0 hok_12) [] [] rfl rfl (by decide) (by decide) (by decide) qc hqc rfl rfl jw_800 jw_803 jw_804 jw_794 jw_801 jn_X5_putByte rfl (jj_le rfl) (jj_le rfl) (jj_le rfl) (jj_le rfl) (jj_le rfl) dX5_putText_17 rfl (fun _ _ _ hX => hX.elim) (fun rx pl_19 r O_22 => ?_)
  obtain ⟨rfl, hok_20, hr_21, hR_24⟩ := O_22
  replace hfr := hfr.trans (hr_21.sub (by decide))
  obtain rfl := hR_24
  refine jj_iinc (v := 3) C dX5_putText_20 rfl (by decide) (by decide) rfl ?_
  refine jj_goto (tgt := 2) C dX5_putText_23 (by decide) ?_
  refine jj_iload_n C dX5_putText_2 rfl ?_
  refine jj_aload_n C dX5_putText_3 rfl ?_
  refine tt_call0Vs (rest := [.int 3]) C (ct_J0_length_8abf5_16 hl D cA ak) 15 (by decide) rfl jw_798 jw_593 jw_594 jw_584 jw_583 jn_J0_length_8abf5 rfl (jj_le rfl) (jj_le rfl) (jj_le rfl) (jj_le rfl) (jj_le rfl) dX5_putText_4 rfl (fun w1 r O_25 => ?_)
  obtain ⟨-, rfl⟩ := O_25
  refine jj_icmp_geF (tgt := 26) C dX5_putText_7 (by decide) (by decide) ?_
  refine jj_aload_n C dX5_putText_10 rfl ?_
  refine jj_aload_n C dX5_putText_11 rfl ?_
  refine jj_iload_n C dX5_putText_12 rfl ?_
  refine tt_call0Vs (rest := [.ref h0]) C (ct_J0_charAt_5068e_89 hl D cA ak) 15 (by decide) rfl jw_799 jw_618 jw_619 jw_584 jw_597 jn_J0_charAt_5068e rfl (jj_le rfl) (jj_le rfl) (jj_le rfl) (jj_le rfl) (jj_le rfl) dX5_putText_13 rfl (fun w1 r O_26 => ?_)
  obtain ⟨-, rfl⟩ := O_26
  refine jj_i2b (v := 115) C dX5_putText_16 (by decide) ?_
  obtain ⟨qc, gs, hqc⟩ := tt_recv (cx := []) hok_20 hk0 (by decide) rfl
  refine tt_callV (rest := []) C (tc_X5_putByte_7 hl D cA ak h0 hk0 hok_20) [] [] rfl rfl (by decide) (by decide) (by decide) qc hqc rfl rfl jw_800 jw_803 jw_804 jw_794 jw_801 jn_X5_putByte rfl (jj_le rfl) (jj_le rfl) (jj_le rfl) (jj_le rfl) (jj_le rfl) dX5_putText_17 rfl (fun _ _ _ hX => hX.elim) (fun rx pl_27 r O_30 => ?_)
  obtain ⟨rfl, hok_28, hr_29, hR_32⟩ := O_30
  replace hfr := hfr.trans (hr_29.sub (by decide))
  obtain rfl := hR_32
  refine jj_iinc (v := 4) C dX5_putText_20 rfl (by decide) (by decide) rfl ?_
  refine jj_goto (tgt := 2) C dX5_putText_23 (by decide) ?_
  refine jj_iload_n C dX5_putText_2 rfl ?_
  refine jj_aload_n C dX5_putText_3 rfl ?_
  refine tt_call0Vs (rest := [.int 4]) C (ct_J0_length_8abf5_16 hl D cA ak) 15 (by decide) rfl jw_798 jw_593 jw_594 jw_584 jw_583 jn_J0_length_8abf5 rfl (jj_le rfl) (jj_le rfl) (jj_le rfl) (jj_le rfl) (jj_le rfl) dX5_putText_4 rfl (fun w1 r O_33 => ?_)
  obtain ⟨-, rfl⟩ := O_33
  refine jj_icmp_geF (tgt := 26) C dX5_putText_7 (by decide) (by decide) ?_
  refine jj_aload_n C dX5_putText_10 rfl ?_
  refine jj_aload_n C dX5_putText_11 rfl ?_
  refine jj_iload_n C dX5_putText_12 rfl ?_
  refine tt_call0Vs (rest := [.ref h0]) C (ct_J0_charAt_5068e_90 hl D cA ak) 15 (by decide) rfl jw_799 jw_618 jw_619 jw_584 jw_597 jn_J0_charAt_5068e rfl (jj_le rfl) (jj_le rfl) (jj_le rfl) (jj_le rfl) (jj_le rfl) dX5_putText_13 rfl (fun w1 r O_34 => ?_)
  obtain ⟨-, rfl⟩ := O_34
  refine jj_i2b (v := 101) C dX5_putText_16 (by decide) ?_
  obtain ⟨qc, gs, hqc⟩ := tt_recv (cx := []) hok_28 hk0 (by decide) rfl
  refine tt_callV (rest := []) C (tc_X5_putByte_8 hl D cA ak h0 hk0 hok_28) [] [] rfl rfl (by decide) (by decide) (by decide) qc hqc rfl rfl jw_800 jw_803 jw_804 jw_794 jw_801 jn_X5_putByte rfl (jj_le rfl) (jj_le rfl) (jj_le rfl) (jj_le rfl) (jj_le rfl) dX5_putText_17 rfl (fun _ _ _ hX => hX.elim) (fun rx pl_35 r O_38 => ?_)
  obtain ⟨rfl, hok_36, hr_37, hR_40⟩ := O_38
  replace hfr := hfr.trans (hr_37.sub (by decide))
  obtain rfl := hR_40
  refine jj_iinc (v := 5) C dX5_putText_20 rfl (by decide) (by decide) rfl ?_
  refine jj_goto (tgt := 2) C dX5_putText_23 (by decide) ?_
  refine jj_iload_n C dX5_putText_2 rfl ?_
  refine jj_aload_n C dX5_putText_3 rfl ?_
  refine tt_call0Vs (rest := [.int 5]) C (ct_J0_length_8abf5_16 hl D cA ak) 15 (by decide) rfl jw_798 jw_593 jw_594 jw_584 jw_583 jn_J0_length_8abf5 rfl (jj_le rfl) (jj_le rfl) (jj_le rfl) (jj_le rfl) (jj_le rfl) dX5_putText_4 rfl (fun w1 r O_41 => ?_)
  obtain ⟨-, rfl⟩ := O_41
  refine jj_icmp_geF (tgt := 26) C dX5_putText_7 (by decide) (by decide) ?_
  refine jj_aload_n C dX5_putText_10 rfl ?_
  refine jj_aload_n C dX5_putText_11 rfl ?_
  refine jj_iload_n C dX5_putText_12 rfl ?_
  refine tt_call0Vs (rest := [.ref h0]) C (ct_J0_charAt_5068e_91 hl D cA ak) 15 (by decide) rfl jw_799 jw_618 jw_619 jw_584 jw_597 jn_J0_charAt_5068e rfl (jj_le rfl) (jj_le rfl) (jj_le rfl) (jj_le rfl) (jj_le rfl) dX5_putText_13 rfl (fun w1 r O_42 => ?_)
  obtain ⟨-, rfl⟩ := O_42
  refine jj_i2b (v := 116) C dX5_putText_16 (by decide) ?_
  obtain ⟨qc, gs, hqc⟩ := tt_recv (cx := []) hok_36 hk0 (by decide) rfl
  refine tt_callV (rest := []) C (tc_X5_putByte_9 hl D cA ak h0 hk0 hok_36) [] [] rfl rfl (by decide) (by decide) (by decide) qc hqc rfl rfl jw_800 jw_803 jw_804 jw_794 jw_801 jn_X5_putByte rfl (jj_le rfl) (jj_le rfl) (jj_le rfl) (jj_le rfl) (jj_le rfl) dX5_putText_17 rfl (fun _ _ _ hX => hX.elim) (fun rx pl_43 r O_46 => ?_)
  obtain ⟨rfl, hok_44, hr_45, hR_48⟩ := O_46
  replace hfr := hfr.trans (hr_45.sub (by decide))
  obtain rfl := hR_48
  refine jj_iinc (v := 6) C dX5_putText_20 rfl (by decide) (by decide) rfl ?_
  refine jj_goto (tgt := 2) C dX5_putText_23 (by decide) ?_
  refine jj_iload_n C dX5_putText_2 rfl ?_
  refine jj_aload_n C dX5_putText_3 rfl ?_
  refine tt_call0Vs (rest := [.int 6]) C (ct_J0_length_8abf5_16 hl D cA ak) 15 (by decide) rfl jw_798 jw_593 jw_594 jw_584 jw_583 jn_J0_length_8abf5 rfl (jj_le rfl) (jj_le rfl) (jj_le rfl) (jj_le rfl) (jj_le rfl) dX5_putText_4 rfl (fun w1 r O_49 => ?_)
  obtain ⟨-, rfl⟩ := O_49
  refine jj_icmp_geF (tgt := 26) C dX5_putText_7 (by decide) (by decide) ?_
  refine jj_aload_n C dX5_putText_10 rfl ?_
  refine jj_aload_n C dX5_putText_11 rfl ?_
  refine jj_iload_n C dX5_putText_12 rfl ?_
  refine tt_call0Vs (rest := [.ref h0]) C (ct_J0_charAt_5068e_92 hl D cA ak) 15 (by decide) rfl jw_799 jw_618 jw_619 jw_584 jw_597 jn_J0_charAt_5068e rfl (jj_le rfl) (jj_le rfl) (jj_le rfl) (jj_le rfl) (jj_le rfl) dX5_putText_13 rfl (fun w1 r O_50 => ?_)
  obtain ⟨-, rfl⟩ := O_50
  refine jj_i2b (v := 115) C dX5_putText_16 (by decide) ?_
  obtain ⟨qc, gs, hqc⟩ := tt_recv (cx := []) hok_44 hk0 (by decide) rfl
  refine tt_callV (rest := []) C (tc_X5_putByte_7 hl D cA ak h0 hk0 hok_44) [] [] rfl rfl (by decide) (by decide) (by decide) qc hqc rfl rfl jw_800 jw_803 jw_804 jw_794 jw_801 jn_X5_putByte rfl (jj_le rfl) (jj_le rfl) (jj_le rfl) (jj_le rfl) (jj_le rfl) dX5_putText_17 rfl (fun _ _ _ hX => hX.elim) (fun rx pl_51 r O_54 => ?_)
  obtain ⟨rfl, hok_52, hr_53, hR_56⟩ := O_54
  replace hfr := hfr.trans (hr_53.sub (by decide))
  obtain rfl := hR_56
  refine jj_iinc (v := 7) C dX5_putText_20 rfl (by decide) (by decide) rfl ?_
  refine jj_goto (tgt := 2) C dX5_putText_23 (by decide) ?_
  refine jj_iload_n C dX5_putText_2 rfl ?_
  refine jj_aload_n C dX5_putText_3 rfl ?_
  refine tt_call0Vs (rest := [.int 7]) C (ct_J0_length_8abf5_16 hl D cA ak) 15 (by decide) rfl jw_798 jw_593 jw_594 jw_584 jw_583 jn_J0_length_8abf5 rfl (jj_le rfl) (jj_le rfl) (jj_le rfl) (jj_le rfl) (jj_le rfl) dX5_putText_4 rfl (fun w1 r O_57 => ?_)
  obtain ⟨-, rfl⟩ := O_57
  refine jj_icmp_geF (tgt := 26) C dX5_putText_7 (by decide) (by decide) ?_
  refine jj_aload_n C dX5_putText_10 rfl ?_
  refine jj_aload_n C dX5_putText_11 rfl ?_
  refine jj_iload_n C dX5_putText_12 rfl ?_
  refine tt_call0Vs (rest := [.ref h0]) C (ct_J0_charAt_5068e_93 hl D cA ak) 15 (by decide) rfl jw_799 jw_618 jw_619 jw_584 jw_597 jn_J0_charAt_5068e rfl (jj_le rfl) (jj_le rfl) (jj_le rfl) (jj_le rfl) (jj_le rfl) dX5_putText_13 rfl (fun w1 r O_58 => ?_)
  obtain ⟨-, rfl⟩ := O_58
  refine jj_i2b (v := 32) C dX5_putText_16 (by decide) ?_
  obtain ⟨qc, gs, hqc⟩ := tt_recv (cx := []) hok_52 hk0 (by decide) rfl
  refine tt_callV (rest := []) C (tc_X5_putByte_4 hl D cA ak h0 hk0 hok_52) [] [] rfl rfl (by decide) (by decide) (by decide) qc hqc rfl rfl jw_800 jw_803 jw_804 jw_794 jw_801 jn_X5_putByte rfl (jj_le rfl) (jj_le rfl) (jj_le rfl) (jj_le rfl) (jj_le rfl) dX5_putText_17 rfl (fun _ _ _ hX => hX.elim) (fun rx pl_59 r O_62 => ?_)
  obtain ⟨rfl, hok_60, hr_61, hR_64⟩ := O_62
  replace hfr := hfr.trans (hr_61.sub (by decide))
  obtain rfl := hR_64
  refine jj_iinc (v := 8) C dX5_putText_20 rfl (by decide) (by decide) rfl ?_
  refine jj_goto (tgt := 2) C dX5_putText_23 (by decide) ?_
  refine jj_iload_n C dX5_putText_2 rfl ?_
  refine jj_aload_n C dX5_putText_3 rfl ?_
  refine tt_call0Vs (rest := [.int 8]) C (ct_J0_length_8abf5_16 hl D cA ak) 15 (by decide) rfl jw_798 jw_593 jw_594 jw_584 jw_583 jn_J0_length_8abf5 rfl (jj_le rfl) (jj_le rfl) (jj_le rfl) (jj_le rfl) (jj_le rfl) dX5_putText_4 rfl (fun w1 r O_65 => ?_)
  obtain ⟨-, rfl⟩ := O_65
  refine jj_icmp_geT (tgt := 26) C dX5_putText_7 (by decide) (by decide) ?_
  exact jj_vret C ⟨[], pl_59, rfl, rfl, hok_60, hfr, rfl⟩ dX5_putText_26 (jj_le rfl) (jj_le rfl)

set_option maxHeartbeats 4000000 in
set_option maxRecDepth 100000 in
theorem tc_X5_putByte_10 {l : Launch} (hl : l.stackTraces = false) (D : va_G) (cA : Nat → ClassId) (ak : (Nat → Nat) × (Nat → Nat)) {Kd : Nat → Nat} (h0 : Nat) (hk0 : Kd h0 = 12) {pl0 : va_W} (hok : tt_ok tt_tk cA Kd pl0) : jj_M l D cA ak yX5_putByte (.code yX5_putByte cX5_putByte 2 none) 0 0 0 0 ([] ++ pl0) [.ref h0, .int 10] (tt_O (fun rx pl1 r => rx = [] ∧ tt_ok tt_tk cA Kd pl1 ∧ tt_fr Kd [(12, 1)] pl0 pl1 ∧ ((r = none)))) (tt_OX (fun _ _ _ => False)) := by
  refine jj_start hl (by decide) jw_801 (jj_le rfl) ?_
  intro p e s m args below meth c A hargs hA C hex hmn
  have hfr := tt_fr.refl (K := Kd) (WS := [(12, 1)]) pl0
  refine jj_aload_n C dX5_putByte_0 rfl ?_
  refine tt_get C hok jk_6 1 (by decide) jw_795 (t := (0, 0, 1300)) hk0 (by decide) rfl rfl dX5_putByte_1 (fun v_1 hv_1 hf_2 => ?_)
  obtain ⟨x_3, rfl, lx_3, ux_3⟩ := tt_vi hv_1
  refine jj_sipush (v := 1300) C dX5_putByte_4 (by decide) ?_
  refine jj_icmp_ge (tgt := 30) C dX5_putByte_7 (by decide) (fun c_4 => ?_) (fun c_4 => ?_)
  · have z_c_4 := jc_le (a := (1300)) (b := (x_3).toInt) c_4 (by decide) rfl
    exact jj_vret C ⟨[], pl0, rfl, rfl, hok, hfr, rfl⟩ dX5_putByte_30 (jj_le rfl) (jj_le rfl)
  · have z_c_4 := jc_nle (a := (1300)) (b := (x_3).toInt) c_4 (by decide) rfl
    refine jj_aload_n C dX5_putByte_10 rfl ?_
    refine tt_get C hok jk_6 0 (by decide) jw_802 (t := (2, 13, 0)) hk0 (by decide) rfl rfl dX5_putByte_11 (fun v_5 hv_5 hf_6 => ?_)
    obtain ⟨a_7, rfl, ka_7⟩ := tt_vr hv_5
    refine jj_aload_n C dX5_putByte_14 rfl ?_
    refine tt_getF C hok jk_6 1 (by decide) jw_795 (t := (0, 0, 1300)) hk0 (by decide) rfl rfl hf_2 dX5_putByte_15 ?_
    refine jj_iload_n C dX5_putByte_18 rfl ?_
    refine tt_bast C hok (t := (0, (-2147483648), 2147483647)) ka_7 (by decide) rfl (vp_in_iff.mpr ⟨by omega, by omega⟩) (tt_ia _) dX5_putByte_19 (fun pl_8 hok_9 tr => ?_)
    replace hf_2 := tr _ _ _ hf_2
    replace hf_6 := tr _ _ _ hf_6
    replace hfr := hfr.arr tr
    refine jj_aload_n C dX5_putByte_20 rfl ?_
    refine jj_dup C dX5_putByte_21 rfl ?_
    refine tt_getF C hok_9 jk_6 1 (by decide) jw_795 (t := (0, 0, 1300)) hk0 (by decide) rfl rfl hf_2 dX5_putByte_22 ?_
    refine jj_iconst (v := 1) C dX5_putByte_25 (by decide) ?_
    obtain ⟨x_10, ex_10, vx_10⟩ := tt_iadd (x := x_3) (y := (1 : Int32)) (a := x_3.toInt) rfl (b := 1) (by decide) (by omega) (by omega)
    refine jj_iadd (v := x_10) C dX5_putByte_26 ex_10 ?_
    refine tt_put C hok_9 jk_6 1 (by decide) jw_795 (t := (0, 0, 1300)) hk0 (by decide) rfl rfl rfl (tt_iv (by omega) (by omega)) rfl rfl dX5_putByte_27 (fun pl_11 hok_12 tr hn => ?_)
    replace hf_6 := tr _ _ _ (Or.inr (by decide)) hf_6
    have hf_13 := hn
    replace hfr := hfr.put hk0 tr (by decide)
    exact jj_vret C ⟨[], pl_11, rfl, rfl, hok_12, hfr, rfl⟩ dX5_putByte_30 (jj_le rfl) (jj_le rfl)

set_option maxHeartbeats 4000000 in
set_option maxRecDepth 100000 in
theorem tc_X5_putText_4 {l : Launch} (hl : l.stackTraces = false) (D : va_G) (cA : Nat → ClassId) (ak : (Nat → Nat) × (Nat → Nat)) {Kd : Nat → Nat} (h0 : Nat) (hk0 : Kd h0 = 12) {pl0 : va_W} (hok : tt_ok tt_tk cA Kd pl0) : jj_M l D cA ak yX5_putText (.code yX5_putText cX5_putText 3 none) 4 85 0 0 ([] ++ pl0) [.ref h0, .ref (ak.1 16)] (tt_O (fun rx pl1 r => rx = [] ∧ tt_ok tt_tk cA Kd pl1 ∧ tt_fr Kd [(12, 1)] pl0 pl1 ∧ ((r = none)))) (tt_OX (fun _ _ _ => False)) := by
  refine jj_start hl (by decide) jw_797 (jj_le rfl) ?_
  intro p e s m args below meth c A hargs hA C hex hmn
  have hfr := tt_fr.refl (K := Kd) (WS := [(12, 1)]) pl0
  refine jj_iconst (v := 0) C dX5_putText_0 (by decide) ?_
  refine jj_istore_n C dX5_putText_1 (by decide) rfl ?_
  refine jj_iload_n C dX5_putText_2 rfl ?_
  refine jj_aload_n C dX5_putText_3 rfl ?_
  refine tt_call0Vs (rest := [.int 0]) C (ct_J0_length_8abf5_17 hl D cA ak) 16 (by decide) rfl jw_798 jw_593 jw_594 jw_584 jw_583 jn_J0_length_8abf5 rfl (jj_le rfl) (jj_le rfl) (jj_le rfl) (jj_le rfl) (jj_le rfl) dX5_putText_4 rfl (fun w1 r O_1 => ?_)
  obtain ⟨-, rfl⟩ := O_1
  refine jj_icmp_geF (tgt := 26) C dX5_putText_7 (by decide) (by decide) ?_
  refine jj_aload_n C dX5_putText_10 rfl ?_
  refine jj_aload_n C dX5_putText_11 rfl ?_
  refine jj_iload_n C dX5_putText_12 rfl ?_
  refine tt_call0Vs (rest := [.ref h0]) C (ct_J0_charAt_5068e_94 hl D cA ak) 16 (by decide) rfl jw_799 jw_618 jw_619 jw_584 jw_597 jn_J0_charAt_5068e rfl (jj_le rfl) (jj_le rfl) (jj_le rfl) (jj_le rfl) (jj_le rfl) dX5_putText_13 rfl (fun w1 r O_2 => ?_)
  obtain ⟨-, rfl⟩ := O_2
  refine jj_i2b (v := 10) C dX5_putText_16 (by decide) ?_
  obtain ⟨qc, gs, hqc⟩ := tt_recv (cx := []) hok hk0 (by decide) rfl
  refine tt_callV (rest := []) C (tc_X5_putByte_10 hl D cA ak h0 hk0 hok) [] [] rfl rfl (by decide) (by decide) (by decide) qc hqc rfl rfl jw_800 jw_803 jw_804 jw_794 jw_801 jn_X5_putByte rfl (jj_le rfl) (jj_le rfl) (jj_le rfl) (jj_le rfl) (jj_le rfl) dX5_putText_17 rfl (fun _ _ _ hX => hX.elim) (fun rx pl_3 r O_6 => ?_)
  obtain ⟨rfl, hok_4, hr_5, hR_8⟩ := O_6
  replace hfr := hfr.trans (hr_5.sub (by decide))
  obtain rfl := hR_8
  refine jj_iinc (v := 1) C dX5_putText_20 rfl (by decide) (by decide) rfl ?_
  refine jj_goto (tgt := 2) C dX5_putText_23 (by decide) ?_
  refine jj_iload_n C dX5_putText_2 rfl ?_
  refine jj_aload_n C dX5_putText_3 rfl ?_
  refine tt_call0Vs (rest := [.int 1]) C (ct_J0_length_8abf5_17 hl D cA ak) 16 (by decide) rfl jw_798 jw_593 jw_594 jw_584 jw_583 jn_J0_length_8abf5 rfl (jj_le rfl) (jj_le rfl) (jj_le rfl) (jj_le rfl) (jj_le rfl) dX5_putText_4 rfl (fun w1 r O_9 => ?_)
  obtain ⟨-, rfl⟩ := O_9
  refine jj_icmp_geT (tgt := 26) C dX5_putText_7 (by decide) (by decide) ?_
  exact jj_vret C ⟨[], pl_3, rfl, rfl, hok_4, hfr, rfl⟩ dX5_putText_26 (jj_le rfl) (jj_le rfl)

set_option maxHeartbeats 4000000 in
set_option maxRecDepth 100000 in
theorem tc_X5_putByte_11 {l : Launch} (hl : l.stackTraces = false) (D : va_G) (cA : Nat → ClassId) (ak : (Nat → Nat) × (Nat → Nat)) {Kd : Nat → Nat} (h0 : Nat) (hk0 : Kd h0 = 12) {pl0 : va_W} (hok : tt_ok tt_tk cA Kd pl0) : jj_M l D cA ak yX5_putByte (.code yX5_putByte cX5_putByte 2 none) 0 0 0 0 ([] ++ pl0) [.ref h0, .int 114] (tt_O (fun rx pl1 r => rx = [] ∧ tt_ok tt_tk cA Kd pl1 ∧ tt_fr Kd [(12, 1)] pl0 pl1 ∧ ((r = none)))) (tt_OX (fun _ _ _ => False)) := by
  refine jj_start hl (by decide) jw_801 (jj_le rfl) ?_
  intro p e s m args below meth c A hargs hA C hex hmn
  have hfr := tt_fr.refl (K := Kd) (WS := [(12, 1)]) pl0
  refine jj_aload_n C dX5_putByte_0 rfl ?_
  refine tt_get C hok jk_6 1 (by decide) jw_795 (t := (0, 0, 1300)) hk0 (by decide) rfl rfl dX5_putByte_1 (fun v_1 hv_1 hf_2 => ?_)
  obtain ⟨x_3, rfl, lx_3, ux_3⟩ := tt_vi hv_1
  refine jj_sipush (v := 1300) C dX5_putByte_4 (by decide) ?_
  refine jj_icmp_ge (tgt := 30) C dX5_putByte_7 (by decide) (fun c_4 => ?_) (fun c_4 => ?_)
  · have z_c_4 := jc_le (a := (1300)) (b := (x_3).toInt) c_4 (by decide) rfl
    exact jj_vret C ⟨[], pl0, rfl, rfl, hok, hfr, rfl⟩ dX5_putByte_30 (jj_le rfl) (jj_le rfl)
  · have z_c_4 := jc_nle (a := (1300)) (b := (x_3).toInt) c_4 (by decide) rfl
    refine jj_aload_n C dX5_putByte_10 rfl ?_
    refine tt_get C hok jk_6 0 (by decide) jw_802 (t := (2, 13, 0)) hk0 (by decide) rfl rfl dX5_putByte_11 (fun v_5 hv_5 hf_6 => ?_)
    obtain ⟨a_7, rfl, ka_7⟩ := tt_vr hv_5
    refine jj_aload_n C dX5_putByte_14 rfl ?_
    refine tt_getF C hok jk_6 1 (by decide) jw_795 (t := (0, 0, 1300)) hk0 (by decide) rfl rfl hf_2 dX5_putByte_15 ?_
    refine jj_iload_n C dX5_putByte_18 rfl ?_
    refine tt_bast C hok (t := (0, (-2147483648), 2147483647)) ka_7 (by decide) rfl (vp_in_iff.mpr ⟨by omega, by omega⟩) (tt_ia _) dX5_putByte_19 (fun pl_8 hok_9 tr => ?_)
    replace hf_2 := tr _ _ _ hf_2
    replace hf_6 := tr _ _ _ hf_6
    replace hfr := hfr.arr tr
    refine jj_aload_n C dX5_putByte_20 rfl ?_
    refine jj_dup C dX5_putByte_21 rfl ?_
    refine tt_getF C hok_9 jk_6 1 (by decide) jw_795 (t := (0, 0, 1300)) hk0 (by decide) rfl rfl hf_2 dX5_putByte_22 ?_
    refine jj_iconst (v := 1) C dX5_putByte_25 (by decide) ?_
    obtain ⟨x_10, ex_10, vx_10⟩ := tt_iadd (x := x_3) (y := (1 : Int32)) (a := x_3.toInt) rfl (b := 1) (by decide) (by omega) (by omega)
    refine jj_iadd (v := x_10) C dX5_putByte_26 ex_10 ?_
    refine tt_put C hok_9 jk_6 1 (by decide) jw_795 (t := (0, 0, 1300)) hk0 (by decide) rfl rfl rfl (tt_iv (by omega) (by omega)) rfl rfl dX5_putByte_27 (fun pl_11 hok_12 tr hn => ?_)
    replace hf_6 := tr _ _ _ (Or.inr (by decide)) hf_6
    have hf_13 := hn
    replace hfr := hfr.put hk0 tr (by decide)
    exact jj_vret C ⟨[], pl_11, rfl, rfl, hok_12, hfr, rfl⟩ dX5_putByte_30 (jj_le rfl) (jj_le rfl)

set_option maxHeartbeats 4000000 in
set_option maxRecDepth 100000 in
theorem tc_X5_putByte_12 {l : Launch} (hl : l.stackTraces = false) (D : va_G) (cA : Nat → ClassId) (ak : (Nat → Nat) × (Nat → Nat)) {Kd : Nat → Nat} (h0 : Nat) (hk0 : Kd h0 = 12) {pl0 : va_W} (hok : tt_ok tt_tk cA Kd pl0) : jj_M l D cA ak yX5_putByte (.code yX5_putByte cX5_putByte 2 none) 0 0 0 0 ([] ++ pl0) [.ref h0, .int 105] (tt_O (fun rx pl1 r => rx = [] ∧ tt_ok tt_tk cA Kd pl1 ∧ tt_fr Kd [(12, 1)] pl0 pl1 ∧ ((r = none)))) (tt_OX (fun _ _ _ => False)) := by
  refine jj_start hl (by decide) jw_801 (jj_le rfl) ?_
  intro p e s m args below meth c A hargs hA C hex hmn
  have hfr := tt_fr.refl (K := Kd) (WS := [(12, 1)]) pl0
  refine jj_aload_n C dX5_putByte_0 rfl ?_
  refine tt_get C hok jk_6 1 (by decide) jw_795 (t := (0, 0, 1300)) hk0 (by decide) rfl rfl dX5_putByte_1 (fun v_1 hv_1 hf_2 => ?_)
  obtain ⟨x_3, rfl, lx_3, ux_3⟩ := tt_vi hv_1
  refine jj_sipush (v := 1300) C dX5_putByte_4 (by decide) ?_
  refine jj_icmp_ge (tgt := 30) C dX5_putByte_7 (by decide) (fun c_4 => ?_) (fun c_4 => ?_)
  · have z_c_4 := jc_le (a := (1300)) (b := (x_3).toInt) c_4 (by decide) rfl
    exact jj_vret C ⟨[], pl0, rfl, rfl, hok, hfr, rfl⟩ dX5_putByte_30 (jj_le rfl) (jj_le rfl)
  · have z_c_4 := jc_nle (a := (1300)) (b := (x_3).toInt) c_4 (by decide) rfl
    refine jj_aload_n C dX5_putByte_10 rfl ?_
    refine tt_get C hok jk_6 0 (by decide) jw_802 (t := (2, 13, 0)) hk0 (by decide) rfl rfl dX5_putByte_11 (fun v_5 hv_5 hf_6 => ?_)
    obtain ⟨a_7, rfl, ka_7⟩ := tt_vr hv_5
    refine jj_aload_n C dX5_putByte_14 rfl ?_
    refine tt_getF C hok jk_6 1 (by decide) jw_795 (t := (0, 0, 1300)) hk0 (by decide) rfl rfl hf_2 dX5_putByte_15 ?_
    refine jj_iload_n C dX5_putByte_18 rfl ?_
    refine tt_bast C hok (t := (0, (-2147483648), 2147483647)) ka_7 (by decide) rfl (vp_in_iff.mpr ⟨by omega, by omega⟩) (tt_ia _) dX5_putByte_19 (fun pl_8 hok_9 tr => ?_)
    replace hf_2 := tr _ _ _ hf_2
    replace hf_6 := tr _ _ _ hf_6
    replace hfr := hfr.arr tr
    refine jj_aload_n C dX5_putByte_20 rfl ?_
    refine jj_dup C dX5_putByte_21 rfl ?_
    refine tt_getF C hok_9 jk_6 1 (by decide) jw_795 (t := (0, 0, 1300)) hk0 (by decide) rfl rfl hf_2 dX5_putByte_22 ?_
    refine jj_iconst (v := 1) C dX5_putByte_25 (by decide) ?_
    obtain ⟨x_10, ex_10, vx_10⟩ := tt_iadd (x := x_3) (y := (1 : Int32)) (a := x_3.toInt) rfl (b := 1) (by decide) (by omega) (by omega)
    refine jj_iadd (v := x_10) C dX5_putByte_26 ex_10 ?_
    refine tt_put C hok_9 jk_6 1 (by decide) jw_795 (t := (0, 0, 1300)) hk0 (by decide) rfl rfl rfl (tt_iv (by omega) (by omega)) rfl rfl dX5_putByte_27 (fun pl_11 hok_12 tr hn => ?_)
    replace hf_6 := tr _ _ _ (Or.inr (by decide)) hf_6
    have hf_13 := hn
    replace hfr := hfr.put hk0 tr (by decide)
    exact jj_vret C ⟨[], pl_11, rfl, rfl, hok_12, hfr, rfl⟩ dX5_putByte_30 (jj_le rfl) (jj_le rfl)

set_option maxHeartbeats 4000000 in
set_option maxRecDepth 100000 in
theorem tc_X5_putText_5 {l : Launch} (hl : l.stackTraces = false) (D : va_G) (cA : Nat → ClassId) (ak : (Nat → Nat) × (Nat → Nat)) {Kd : Nat → Nat} (h0 : Nat) (hk0 : Kd h0 = 12) {pl0 : va_W} (hok : tt_ok tt_tk cA Kd pl0) : jj_M l D cA ak yX5_putText (.code yX5_putText cX5_putText 3 none) 4 85 0 0 ([] ++ pl0) [.ref h0, .ref (ak.1 17)] (tt_O (fun rx pl1 r => rx = [] ∧ tt_ok tt_tk cA Kd pl1 ∧ tt_fr Kd [(12, 1)] pl0 pl1 ∧ ((r = none)))) (tt_OX (fun _ _ _ => False)) := by
  refine jj_start hl (by decide) jw_797 (jj_le rfl) ?_
  intro p e s m args below meth c A hargs hA C hex hmn
  have hfr := tt_fr.refl (K := Kd) (WS := [(12, 1)]) pl0
  refine jj_iconst (v := 0) C dX5_putText_0 (by decide) ?_
  refine jj_istore_n C dX5_putText_1 (by decide) rfl ?_
  refine jj_iload_n C dX5_putText_2 rfl ?_
  refine jj_aload_n C dX5_putText_3 rfl ?_
  refine tt_call0Vs (rest := [.int 0]) C (ct_J0_length_8abf5_18 hl D cA ak) 17 (by decide) rfl jw_798 jw_593 jw_594 jw_584 jw_583 jn_J0_length_8abf5 rfl (jj_le rfl) (jj_le rfl) (jj_le rfl) (jj_le rfl) (jj_le rfl) dX5_putText_4 rfl (fun w1 r O_1 => ?_)
  obtain ⟨-, rfl⟩ := O_1
  refine jj_icmp_geF (tgt := 26) C dX5_putText_7 (by decide) (by decide) ?_
  refine jj_aload_n C dX5_putText_10 rfl ?_
  refine jj_aload_n C dX5_putText_11 rfl ?_
  refine jj_iload_n C dX5_putText_12 rfl ?_
  refine tt_call0Vs (rest := [.ref h0]) C (ct_J0_charAt_5068e_95 hl D cA ak) 17 (by decide) rfl jw_799 jw_618 jw_619 jw_584 jw_597 jn_J0_charAt_5068e rfl (jj_le rfl) (jj_le rfl) (jj_le rfl) (jj_le rfl) (jj_le rfl) dX5_putText_13 rfl (fun w1 r O_2 => ?_)
  obtain ⟨-, rfl⟩ := O_2
  refine jj_i2b (v := 115) C dX5_putText_16 (by decide) ?_
  obtain ⟨qc, gs, hqc⟩ := tt_recv (cx := []) hok hk0 (by decide) rfl
  refine tt_callV (rest := []) C (tc_X5_putByte_7 hl D cA ak h0 hk0 hok) [] [] rfl rfl (by decide) (by decide) (by decide) qc hqc rfl rfl jw_800 jw_803 jw_804 jw_794 jw_801 jn_X5_putByte rfl (jj_le rfl) (jj_le rfl) (jj_le rfl) (jj_le rfl) (jj_le rfl) dX5_putText_17 rfl (fun _ _ _ hX => hX.elim) (fun rx pl_3 r O_6 => ?_)
  obtain ⟨rfl, hok_4, hr_5, hR_8⟩ := O_6
  replace hfr := hfr.trans (hr_5.sub (by decide))
  obtain rfl := hR_8
  refine jj_iinc (v := 1) C dX5_putText_20 rfl (by decide) (by decide) rfl ?_
  refine jj_goto (tgt := 2) C dX5_putText_23 (by decide) ?_
  refine jj_iload_n C dX5_putText_2 rfl ?_
  refine jj_aload_n C dX5_putText_3 rfl ?_
  refine tt_call0Vs (rest := [.int 1]) C (ct_J0_length_8abf5_18 hl D cA ak) 17 (by decide) rfl jw_798 jw_593 jw_594 jw_584 jw_583 jn_J0_length_8abf5 rfl (jj_le rfl) (jj_le rfl) (jj_le rfl) (jj_le rfl) (jj_le rfl) dX5_putText_4 rfl (fun w1 r O_9 => ?_)
  obtain ⟨-, rfl⟩ := O_9
  refine jj_icmp_geF (tgt := 26) C dX5_putText_7 (by decide) (by decide) ?_
  refine jj_aload_n C dX5_putText_10 rfl ?_
  refine jj_aload_n C dX5_putText_11 rfl ?_
  refine jj_iload_n C dX5_putText_12 rfl ?_
  refine tt_call0Vs (rest := [.ref h0]) C (ct_J0_charAt_5068e_96 hl D cA ak) 17 (by decide) rfl jw_799 jw_618 jw_619 jw_584 jw_597 jn_J0_charAt_5068e rfl (jj_le rfl) (jj_le rfl) (jj_le rfl) (jj_le rfl) (jj_le rfl) dX5_putText_13 rfl (fun w1 r O_10 => ?_)
  obtain ⟨-, rfl⟩ := O_10
  refine jj_i2b (v := 101) C dX5_putText_16 (by decide) ?_
  obtain ⟨qc, gs, hqc⟩ := tt_recv (cx := []) hok_4 hk0 (by decide) rfl
  refine tt_callV (rest := []) C (tc_X5_putByte_8 hl D cA ak h0 hk0 hok_4) [] [] rfl rfl (by decide) (by decide) (by decide) qc hqc rfl rfl jw_800 jw_803 jw_804 jw_794 jw_801 jn_X5_putByte rfl (jj_le rfl) (jj_le rfl) (jj_le rfl) (jj_le rfl) (jj_le rfl) dX5_putText_17 rfl (fun _ _ _ hX => hX.elim) (fun rx pl_11 r O_14 => ?_)
  obtain ⟨rfl, hok_12, hr_13, hR_16⟩ := O_14
  replace hfr := hfr.trans (hr_13.sub (by decide))
  obtain rfl := hR_16
  refine jj_iinc (v := 2) C dX5_putText_20 rfl (by decide) (by decide) rfl ?_
  refine jj_goto (tgt := 2) C dX5_putText_23 (by decide) ?_
  refine jj_iload_n C dX5_putText_2 rfl ?_
  refine jj_aload_n C dX5_putText_3 rfl ?_
  refine tt_call0Vs (rest := [.int 2]) C (ct_J0_length_8abf5_18 hl D cA ak) 17 (by decide) rfl jw_798 jw_593 jw_594 jw_584 jw_583 jn_J0_length_8abf5 rfl (jj_le rfl) (jj_le rfl) (jj_le rfl) (jj_le rfl) (jj_le rfl) dX5_putText_4 rfl (fun w1 r O_17 => ?_)
  obtain ⟨-, rfl⟩ := O_17
  refine jj_icmp_geF (tgt := 26) C dX5_putText_7 (by decide) (by decide) ?_
  refine jj_aload_n C dX5_putText_10 rfl ?_
  refine jj_aload_n C dX5_putText_11 rfl ?_
  refine jj_iload_n C dX5_putText_12 rfl ?_
  refine tt_call0Vs (rest := [.ref h0]) C (ct_J0_charAt_5068e_97 hl D cA ak) 17 (by decide) rfl jw_799 jw_618 jw_619 jw_584 jw_597 jn_J0_charAt_5068e rfl (jj_le rfl) (jj_le rfl) (jj_le rfl) (jj_le rfl) (jj_le rfl) dX5_putText_13 rfl (fun w1 r O_18 => ?_)
  obtain ⟨-, rfl⟩ := O_18
  refine jj_i2b (v := 114) C dX5_putText_16 (by decide) ?_
  obtain ⟨qc, gs, hqc⟩ := tt_recv (cx := []) hok_12 hk0 (by decide) rfl
  refine tt_callV (rest := []) C (tc_X5_putByte_11 hl D cA ak h0 hk0 hok_12) [] [] rfl rfl (by decide) (by decide) (by decide) qc hqc rfl rfl jw_800 jw_803 jw_804 jw_794 jw_801 jn_X5_putByte rfl (jj_le rfl) (jj_le rfl) (jj_le rfl) (jj_le rfl) (jj_le rfl) dX5_putText_17 rfl (fun _ _ _ hX => hX.elim) (fun rx pl_19 r O_22 => ?_)
  obtain ⟨rfl, hok_20, hr_21, hR_24⟩ := O_22
  replace hfr := hfr.trans (hr_21.sub (by decide))
  obtain rfl := hR_24
  refine jj_iinc (v := 3) C dX5_putText_20 rfl (by decide) (by decide) rfl ?_
  refine jj_goto (tgt := 2) C dX5_putText_23 (by decide) ?_
  refine jj_iload_n C dX5_putText_2 rfl ?_
  refine jj_aload_n C dX5_putText_3 rfl ?_
  refine tt_call0Vs (rest := [.int 3]) C (ct_J0_length_8abf5_18 hl D cA ak) 17 (by decide) rfl jw_798 jw_593 jw_594 jw_584 jw_583 jn_J0_length_8abf5 rfl (jj_le rfl) (jj_le rfl) (jj_le rfl) (jj_le rfl) (jj_le rfl) dX5_putText_4 rfl (fun w1 r O_25 => ?_)
  obtain ⟨-, rfl⟩ := O_25
  refine jj_icmp_geF (tgt := 26) C dX5_putText_7 (by decide) (by decide) ?_
  refine jj_aload_n C dX5_putText_10 rfl ?_
  refine jj_aload_n C dX5_putText_11 rfl ?_
  refine jj_iload_n C dX5_putText_12 rfl ?_
  refine tt_call0Vs (rest := [.ref h0]) C (ct_J0_charAt_5068e_98 hl D cA ak) 17 (by decide) rfl jw_799 jw_618 jw_619 jw_584 jw_597 jn_J0_charAt_5068e rfl (jj_le rfl) (jj_le rfl) (jj_le rfl) (jj_le rfl) (jj_le rfl) dX5_putText_13 rfl (fun w1 r O_26 => ?_)
  obtain ⟨-, rfl⟩ := O_26
  refine jj_i2b (v := 105) C dX5_putText_16 (by decide) ?_
  obtain ⟨qc, gs, hqc⟩ := tt_recv (cx := []) hok_20 hk0 (by decide) rfl
  refine tt_callV (rest := []) C (tc_X5_putByte_12 hl D cA ak h0 hk0 hok_20) [] [] rfl rfl (by decide) (by decide) (by decide) qc hqc rfl rfl jw_800 jw_803 jw_804 jw_794 jw_801 jn_X5_putByte rfl (jj_le rfl) (jj_le rfl) (jj_le rfl) (jj_le rfl) (jj_le rfl) dX5_putText_17 rfl (fun _ _ _ hX => hX.elim) (fun rx pl_27 r O_30 => ?_)
  obtain ⟨rfl, hok_28, hr_29, hR_32⟩ := O_30
  replace hfr := hfr.trans (hr_29.sub (by decide))
  obtain rfl := hR_32
  refine jj_iinc (v := 4) C dX5_putText_20 rfl (by decide) (by decide) rfl ?_
  refine jj_goto (tgt := 2) C dX5_putText_23 (by decide) ?_
  refine jj_iload_n C dX5_putText_2 rfl ?_
  refine jj_aload_n C dX5_putText_3 rfl ?_
  refine tt_call0Vs (rest := [.int 4]) C (ct_J0_length_8abf5_18 hl D cA ak) 17 (by decide) rfl jw_798 jw_593 jw_594 jw_584 jw_583 jn_J0_length_8abf5 rfl (jj_le rfl) (jj_le rfl) (jj_le rfl) (jj_le rfl) (jj_le rfl) dX5_putText_4 rfl (fun w1 r O_33 => ?_)
  obtain ⟨-, rfl⟩ := O_33
  refine jj_icmp_geF (tgt := 26) C dX5_putText_7 (by decide) (by decide) ?_
  refine jj_aload_n C dX5_putText_10 rfl ?_
  refine jj_aload_n C dX5_putText_11 rfl ?_
  refine jj_iload_n C dX5_putText_12 rfl ?_
  refine tt_call0Vs (rest := [.ref h0]) C (ct_J0_charAt_5068e_99 hl D cA ak) 17 (by decide) rfl jw_799 jw_618 jw_619 jw_584 jw_597 jn_J0_charAt_5068e rfl (jj_le rfl) (jj_le rfl) (jj_le rfl) (jj_le rfl) (jj_le rfl) dX5_putText_13 rfl (fun w1 r O_34 => ?_)
  obtain ⟨-, rfl⟩ := O_34
  refine jj_i2b (v := 101) C dX5_putText_16 (by decide) ?_
  obtain ⟨qc, gs, hqc⟩ := tt_recv (cx := []) hok_28 hk0 (by decide) rfl
  refine tt_callV (rest := []) C (tc_X5_putByte_8 hl D cA ak h0 hk0 hok_28) [] [] rfl rfl (by decide) (by decide) (by decide) qc hqc rfl rfl jw_800 jw_803 jw_804 jw_794 jw_801 jn_X5_putByte rfl (jj_le rfl) (jj_le rfl) (jj_le rfl) (jj_le rfl) (jj_le rfl) dX5_putText_17 rfl (fun _ _ _ hX => hX.elim) (fun rx pl_35 r O_38 => ?_)
  obtain ⟨rfl, hok_36, hr_37, hR_40⟩ := O_38
  replace hfr := hfr.trans (hr_37.sub (by decide))
  obtain rfl := hR_40
  refine jj_iinc (v := 5) C dX5_putText_20 rfl (by decide) (by decide) rfl ?_
  refine jj_goto (tgt := 2) C dX5_putText_23 (by decide) ?_
  refine jj_iload_n C dX5_putText_2 rfl ?_
  refine jj_aload_n C dX5_putText_3 rfl ?_
  refine tt_call0Vs (rest := [.int 5]) C (ct_J0_length_8abf5_18 hl D cA ak) 17 (by decide) rfl jw_798 jw_593 jw_594 jw_584 jw_583 jn_J0_length_8abf5 rfl (jj_le rfl) (jj_le rfl) (jj_le rfl) (jj_le rfl) (jj_le rfl) dX5_putText_4 rfl (fun w1 r O_41 => ?_)
  obtain ⟨-, rfl⟩ := O_41
  refine jj_icmp_geF (tgt := 26) C dX5_putText_7 (by decide) (by decide) ?_
  refine jj_aload_n C dX5_putText_10 rfl ?_
  refine jj_aload_n C dX5_putText_11 rfl ?_
  refine jj_iload_n C dX5_putText_12 rfl ?_
  refine tt_call0Vs (rest := [.ref h0]) C (ct_J0_charAt_5068e_100 hl D cA ak) 17 (by decide) rfl jw_799 jw_618 jw_619 jw_584 jw_597 jn_J0_charAt_5068e rfl (jj_le rfl) (jj_le rfl) (jj_le rfl) (jj_le rfl) (jj_le rfl) dX5_putText_13 rfl (fun w1 r O_42 => ?_)
  obtain ⟨-, rfl⟩ := O_42
  refine jj_i2b (v := 115) C dX5_putText_16 (by decide) ?_
  obtain ⟨qc, gs, hqc⟩ := tt_recv (cx := []) hok_36 hk0 (by decide) rfl
  refine tt_callV (rest := []) C (tc_X5_putByte_7 hl D cA ak h0 hk0 hok_36) [] [] rfl rfl (by decide) (by decide) (by decide) qc hqc rfl rfl jw_800 jw_803 jw_804 jw_794 jw_801 jn_X5_putByte rfl (jj_le rfl) (jj_le rfl) (jj_le rfl) (jj_le rfl) (jj_le rfl) dX5_putText_17 rfl (fun _ _ _ hX => hX.elim) (fun rx pl_43 r O_46 => ?_)
  obtain ⟨rfl, hok_44, hr_45, hR_48⟩ := O_46
  replace hfr := hfr.trans (hr_45.sub (by decide))
  obtain rfl := hR_48
  refine jj_iinc (v := 6) C dX5_putText_20 rfl (by decide) (by decide) rfl ?_
  refine jj_goto (tgt := 2) C dX5_putText_23 (by decide) ?_
  refine jj_iload_n C dX5_putText_2 rfl ?_
  refine jj_aload_n C dX5_putText_3 rfl ?_
  refine tt_call0Vs (rest := [.int 6]) C (ct_J0_length_8abf5_18 hl D cA ak) 17 (by decide) rfl jw_798 jw_593 jw_594 jw_584 jw_583 jn_J0_length_8abf5 rfl (jj_le rfl) (jj_le rfl) (jj_le rfl) (jj_le rfl) (jj_le rfl) dX5_putText_4 rfl (fun w1 r O_49 => ?_)
  obtain ⟨-, rfl⟩ := O_49
  refine jj_icmp_geF (tgt := 26) C dX5_putText_7 (by decide) (by decide) ?_
  refine jj_aload_n C dX5_putText_10 rfl ?_
  refine jj_aload_n C dX5_putText_11 rfl ?_
  refine jj_iload_n C dX5_putText_12 rfl ?_
  refine tt_call0Vs (rest := [.ref h0]) C (ct_J0_charAt_5068e_101 hl D cA ak) 17 (by decide) rfl jw_799 jw_618 jw_619 jw_584 jw_597 jn_J0_charAt_5068e rfl (jj_le rfl) (jj_le rfl) (jj_le rfl) (jj_le rfl) (jj_le rfl) dX5_putText_13 rfl (fun w1 r O_50 => ?_)
  obtain ⟨-, rfl⟩ := O_50
  refine jj_i2b (v := 32) C dX5_putText_16 (by decide) ?_
  obtain ⟨qc, gs, hqc⟩ := tt_recv (cx := []) hok_44 hk0 (by decide) rfl
  refine tt_callV (rest := []) C (tc_X5_putByte_4 hl D cA ak h0 hk0 hok_44) [] [] rfl rfl (by decide) (by decide) (by decide) qc hqc rfl rfl jw_800 jw_803 jw_804 jw_794 jw_801 jn_X5_putByte rfl (jj_le rfl) (jj_le rfl) (jj_le rfl) (jj_le rfl) (jj_le rfl) dX5_putText_17 rfl (fun _ _ _ hX => hX.elim) (fun rx pl_51 r O_54 => ?_)
  obtain ⟨rfl, hok_52, hr_53, hR_56⟩ := O_54
  replace hfr := hfr.trans (hr_53.sub (by decide))
  obtain rfl := hR_56
  refine jj_iinc (v := 7) C dX5_putText_20 rfl (by decide) (by decide) rfl ?_
  refine jj_goto (tgt := 2) C dX5_putText_23 (by decide) ?_
  refine jj_iload_n C dX5_putText_2 rfl ?_
  refine jj_aload_n C dX5_putText_3 rfl ?_
  refine tt_call0Vs (rest := [.int 7]) C (ct_J0_length_8abf5_18 hl D cA ak) 17 (by decide) rfl jw_798 jw_593 jw_594 jw_584 jw_583 jn_J0_length_8abf5 rfl (jj_le rfl) (jj_le rfl) (jj_le rfl) (jj_le rfl) (jj_le rfl) dX5_putText_4 rfl (fun w1 r O_57 => ?_)
  obtain ⟨-, rfl⟩ := O_57
  refine jj_icmp_geT (tgt := 26) C dX5_putText_7 (by decide) (by decide) ?_
  exact jj_vret C ⟨[], pl_51, rfl, rfl, hok_52, hfr, rfl⟩ dX5_putText_26 (jj_le rfl) (jj_le rfl)

set_option maxHeartbeats 4000000 in
set_option maxRecDepth 100000 in
theorem tc_X5_putText_6 {l : Launch} (hl : l.stackTraces = false) (D : va_G) (cA : Nat → ClassId) (ak : (Nat → Nat) × (Nat → Nat)) {Kd : Nat → Nat} (h0 : Nat) (hk0 : Kd h0 = 12) {pl0 : va_W} (hok : tt_ok tt_tk cA Kd pl0) : jj_M l D cA ak yX5_putText (.code yX5_putText cX5_putText 3 none) 4 85 0 0 ([] ++ pl0) [.ref h0, .ref (ak.1 18)] (tt_O (fun rx pl1 r => rx = [] ∧ tt_ok tt_tk cA Kd pl1 ∧ tt_fr Kd [(12, 1)] pl0 pl1 ∧ ((r = none)))) (tt_OX (fun _ _ _ => False)) := by
  refine jj_start hl (by decide) jw_797 (jj_le rfl) ?_
  intro p e s m args below meth c A hargs hA C hex hmn
  have hfr := tt_fr.refl (K := Kd) (WS := [(12, 1)]) pl0
  refine jj_iconst (v := 0) C dX5_putText_0 (by decide) ?_
  refine jj_istore_n C dX5_putText_1 (by decide) rfl ?_
  refine jj_iload_n C dX5_putText_2 rfl ?_
  refine jj_aload_n C dX5_putText_3 rfl ?_
  refine tt_call0Vs (rest := [.int 0]) C (ct_J0_length_8abf5_19 hl D cA ak) 18 (by decide) rfl jw_798 jw_593 jw_594 jw_584 jw_583 jn_J0_length_8abf5 rfl (jj_le rfl) (jj_le rfl) (jj_le rfl) (jj_le rfl) (jj_le rfl) dX5_putText_4 rfl (fun w1 r O_1 => ?_)
  obtain ⟨-, rfl⟩ := O_1
  refine jj_icmp_geF (tgt := 26) C dX5_putText_7 (by decide) (by decide) ?_
  refine jj_aload_n C dX5_putText_10 rfl ?_
  refine jj_aload_n C dX5_putText_11 rfl ?_
  refine jj_iload_n C dX5_putText_12 rfl ?_
  refine tt_call0Vs (rest := [.ref h0]) C (ct_J0_charAt_5068e_102 hl D cA ak) 18 (by decide) rfl jw_799 jw_618 jw_619 jw_584 jw_597 jn_J0_charAt_5068e rfl (jj_le rfl) (jj_le rfl) (jj_le rfl) (jj_le rfl) (jj_le rfl) dX5_putText_13 rfl (fun w1 r O_2 => ?_)
  obtain ⟨-, rfl⟩ := O_2
  refine jj_i2b (v := 32) C dX5_putText_16 (by decide) ?_
  obtain ⟨qc, gs, hqc⟩ := tt_recv (cx := []) hok hk0 (by decide) rfl
  refine tt_callV (rest := []) C (tc_X5_putByte_4 hl D cA ak h0 hk0 hok) [] [] rfl rfl (by decide) (by decide) (by decide) qc hqc rfl rfl jw_800 jw_803 jw_804 jw_794 jw_801 jn_X5_putByte rfl (jj_le rfl) (jj_le rfl) (jj_le rfl) (jj_le rfl) (jj_le rfl) dX5_putText_17 rfl (fun _ _ _ hX => hX.elim) (fun rx pl_3 r O_6 => ?_)
  obtain ⟨rfl, hok_4, hr_5, hR_8⟩ := O_6
  replace hfr := hfr.trans (hr_5.sub (by decide))
  obtain rfl := hR_8
  refine jj_iinc (v := 1) C dX5_putText_20 rfl (by decide) (by decide) rfl ?_
  refine jj_goto (tgt := 2) C dX5_putText_23 (by decide) ?_
  refine jj_iload_n C dX5_putText_2 rfl ?_
  refine jj_aload_n C dX5_putText_3 rfl ?_
  refine tt_call0Vs (rest := [.int 1]) C (ct_J0_length_8abf5_19 hl D cA ak) 18 (by decide) rfl jw_798 jw_593 jw_594 jw_584 jw_583 jn_J0_length_8abf5 rfl (jj_le rfl) (jj_le rfl) (jj_le rfl) (jj_le rfl) (jj_le rfl) dX5_putText_4 rfl (fun w1 r O_9 => ?_)
  obtain ⟨-, rfl⟩ := O_9
  refine jj_icmp_geT (tgt := 26) C dX5_putText_7 (by decide) (by decide) ?_
  exact jj_vret C ⟨[], pl_3, rfl, rfl, hok_4, hfr, rfl⟩ dX5_putText_26 (jj_le rfl) (jj_le rfl)

set_option maxHeartbeats 4000000 in
set_option maxRecDepth 100000 in
theorem tc_X5_putNumber_2 {l : Launch} (hl : l.stackTraces = false) (D : va_G) (cA : Nat → ClassId) (ak : (Nat → Nat) × (Nat → Nat)) {Kd : Nat → Nat} (h0 : Nat) (hk0 : Kd h0 = 12) {pl0 : va_W} (hok : tt_ok tt_tk cA Kd pl0) : jj_M l D cA ak yX5_putNumber (.code yX5_putNumber cX5_putNumber 7 none) 1 21 0 0 ([] ++ pl0) [.ref h0, .long 1000000] (tt_O (fun rx pl1 r => rx = [] ∧ tt_ok tt_tk cA Kd pl1 ∧ tt_fr Kd [(12, 1)] pl0 pl1 ∧ ((r = none)))) (tt_OX (fun _ _ _ => False)) := by
  refine jj_start hl (by decide) jw_811 (jj_le rfl) ?_
  intro p e s m args below meth c A hargs hA C hex hmn
  have hfr := tt_fr.refl (K := Kd) (WS := [(12, 1)]) pl0
  refine jj_lload_n C dX5_putNumber_0 rfl ?_
  refine jj_lconst (v := 0) C dX5_putNumber_1 (by decide) ?_
  refine jj_lcmp_geT (tgt := 12) C dX5_putNumber_2 dX5_putNumber_3 (by decide) (by decide) ?_
  refine jj_lload_n C dX5_putNumber_12 rfl ?_
  refine jj_lstore_n C dX5_putNumber_13 (by decide) rfl ?_
  refine jj_bipush (v := 20) C dX5_putNumber_14 (by decide) ?_
  refine jj_istore C dX5_putNumber_16 (by decide) rfl ?_
  have hL_1 : ∀ (N : Nat) (pl : va_W) (x_2 : Int32) (y_3 : Int64), True → tt_ok tt_tk cA Kd pl → tt_fr Kd [(12, 1)] pl0 pl → (1 : Int) ≤ x_2.toInt → x_2.toInt ≤ 20 → (x_2.toInt + 2147483649 ≤ (N : Int)) → jj_J p l e (jj_rm 1 21 0 0) s m args below meth c 7 A (vx_MQ below (jj_q D A (tt_O (fun rx pl1 r => rx = [] ∧ tt_ok tt_tk cA Kd pl1 ∧ tt_fr Kd [(12, 1)] pl0 pl1 ∧ ((r = none))))) (jj_x D A (tt_OX (fun _ _ _ => False))) args s 0 0 A) (jj_X D A ([] ++ pl)) 0 0 18 [(5, .int x_2), (3, .long y_3), (0, .ref h0), (1, .long 1000000)] [] := by
    intro NL_1
    induction NL_1 with
    | zero => intro pl x_2 y_3 _ hok hfr lx_2 ux_2 hNL_1; exfalso; omega
    | succ NL_1 ihL_1 =>
      intro pl x_2 y_3 _ hok hfr lx_2 ux_2 hNL_1
      replace ihL_1 := fun pl x_2 y_3 h1 => ihL_1 pl x_2 y_3 trivial h1
      obtain ⟨x_4, ex_4, vx_4⟩ := tt_inc (x := x_2) (n := (-1)) (by omega) (by omega)
      refine jj_iinc (v := x_4) C dX5_putNumber_18 rfl ex_4 (by decide) rfl ?_
      refine jj_aload_n C dX5_putNumber_21 rfl ?_
      refine tt_get C hok jk_6 2 (by decide) jw_812 (t := (2, 14, 0)) hk0 (by decide) rfl rfl dX5_putNumber_22 (fun v_5 hv_5 hf_6 => ?_)
      obtain ⟨a_7, rfl, ka_7⟩ := tt_vr hv_5
      refine jj_iload C dX5_putNumber_25 rfl ?_
      refine jj_ldc2 (v := 48) C dX5_putNumber_27 jw_813 ?_
      refine jj_lload_n C dX5_putNumber_30 rfl ?_
      refine jj_ldc2 (v := 10) C dX5_putNumber_31 jw_814 ?_
      obtain ⟨y_8, ey_8⟩ : ∃ z : Int64, y_3 - y_3 / (10 : Int64) * (10 : Int64) = z := ⟨_, rfl⟩
      refine jj_lrem (v := y_8) C dX5_putNumber_34 (by decide) ey_8 ?_
      refine tt_call0S (rest := [.long 48, .int x_4, .ref a_7]) C (ct_J9_abs_067f4_1 hl D cA ak y_8) jw_815 jw_817 jw_144 jw_816 jn_J9_abs_067f4 rfl (jj_le rfl) (jj_le rfl) (jj_le rfl) (jj_le rfl) (jj_le rfl) dX5_putNumber_35 rfl (fun w1 r O_9 => ?_)
      rcases O_9 with ⟨c_10, -, rfl⟩ | ⟨c_11, -, rfl⟩
      · obtain ⟨y_12, ey_12⟩ : ∃ z : Int64, (48 : Int64) + y_8 = z := ⟨_, rfl⟩
        refine jj_ladd (v := y_12) C dX5_putNumber_38 ey_12 ?_
        obtain ⟨x_13, ex_13⟩ : ∃ z : Int32, y_12.toInt32 = z := ⟨_, rfl⟩
        refine jj_l2i (v := x_13) C dX5_putNumber_39 ex_13 ?_
        obtain ⟨x_14, ex_14⟩ : ∃ z : Int32, x_13.toInt8.toInt32 = z := ⟨_, rfl⟩
        refine jj_i2b (v := x_14) C dX5_putNumber_40 ex_14 ?_
        refine tt_bast C hok (t := (0, (-2147483648), 2147483647)) ka_7 (by decide) rfl (vp_in_iff.mpr ⟨by omega, by omega⟩) (tt_ia _) dX5_putNumber_41 (fun pl_15 hok_16 tr => ?_)
        replace hf_6 := tr _ _ _ hf_6
        replace hfr := hfr.arr tr
        refine jj_lload_n C dX5_putNumber_42 rfl ?_
        refine jj_ldc2 (v := 10) C dX5_putNumber_43 jw_814 ?_
        obtain ⟨y_17, ey_17⟩ : ∃ z : Int64, y_3 / (10 : Int64) = z := ⟨_, rfl⟩
        refine jj_ldiv (v := y_17) C dX5_putNumber_46 (by decide) ey_17 ?_
        refine jj_lstore_n C dX5_putNumber_47 (by decide) rfl ?_
        refine jj_lload_n C dX5_putNumber_48 rfl ?_
        refine jj_lconst (v := 0) C dX5_putNumber_49 (by decide) ?_
        refine jj_lcmp_eq (tgt := 59) C dX5_putNumber_50 dX5_putNumber_51 (by decide) (fun c_18 => ?_) (fun c_18 => ?_)
        · refine jj_iload C dX5_putNumber_59 rfl ?_
          refine jj_istore C dX5_putNumber_61 (by decide) rfl ?_
          have hL_19 : ∀ (N : Nat) (pl : va_W) (x_20 : Int32), True → tt_ok tt_tk cA Kd pl → tt_fr Kd [(12, 1)] pl0 pl → tt_at pl h0 2 (.ref a_7) → (0 : Int) ≤ x_20.toInt → x_20.toInt ≤ 20 → (2147483648 - x_20.toInt ≤ (N : Int)) → jj_J p l e (jj_rm 1 21 0 0) s m args below meth c 7 A (vx_MQ below (jj_q D A (tt_O (fun rx pl1 r => rx = [] ∧ tt_ok tt_tk cA Kd pl1 ∧ tt_fr Kd [(12, 1)] pl0 pl1 ∧ ((r = none))))) (jj_x D A (tt_OX (fun _ _ _ => False))) args s 0 0 A) (jj_X D A ([] ++ pl)) 0 0 63 [(6, .int x_20), (3, .long y_17), (5, .int x_4), (0, .ref h0), (1, .long 1000000)] [] := by
            intro NL_19
            induction NL_19 with
            | zero => intro pl x_20 _ hok hfr hf_21 lx_20 ux_20 hNL_19; exfalso; omega
            | succ NL_19 ihL_19 =>
              intro pl x_20 _ hok hfr hf_21 lx_20 ux_20 hNL_19
              replace ihL_19 := fun pl x_20 h1 => ihL_19 pl x_20 trivial h1
              refine jj_iload C dX5_putNumber_63 rfl ?_
              refine jj_bipush (v := 20) C dX5_putNumber_65 (by decide) ?_
              refine jj_icmp_ge (tgt := 87) C dX5_putNumber_67 (by decide) (fun c_22 => ?_) (fun c_22 => ?_)
              · have z_c_22 := jc_le (a := (20)) (b := (x_20).toInt) c_22 (by decide) rfl
                exact jj_vret C ⟨[], pl, rfl, rfl, hok, hfr, rfl⟩ dX5_putNumber_87 (jj_le rfl) (jj_le rfl)
              · have z_c_22 := jc_nle (a := (20)) (b := (x_20).toInt) c_22 (by decide) rfl
                refine jj_aload_n C dX5_putNumber_70 rfl ?_
                refine jj_aload_n C dX5_putNumber_71 rfl ?_
                refine tt_getF C hok jk_6 2 (by decide) jw_812 (t := (2, 14, 0)) hk0 (by decide) rfl rfl hf_21 dX5_putNumber_72 ?_
                refine jj_iload C dX5_putNumber_75 rfl ?_
                refine tt_bald C hok (t := (0, (-2147483648), 2147483647)) ka_7 (by decide) rfl (vp_in_iff.mpr ⟨by omega, by omega⟩) dX5_putNumber_77 (fun v_23 hv_23 => ?_)
                obtain ⟨qc, gs, hqc⟩ := tt_recv (cx := []) hok hk0 (by decide) rfl
                refine tt_callV (rest := []) C (tc_X5_putByte_5 hl D cA ak h0 v_23 hk0 hok) [] [] rfl rfl (by decide) (by decide) (by decide) qc hqc rfl rfl jw_800 jw_803 jw_804 jw_794 jw_801 jn_X5_putByte rfl (jj_le rfl) (jj_le rfl) (jj_le rfl) (jj_le rfl) (jj_le rfl) dX5_putNumber_78 rfl (fun _ _ _ hX => hX.elim) (fun rx pl_24 r O_27 => ?_)
                obtain ⟨rfl, hok_25, hr_26, hR_29⟩ := O_27
                replace hf_21 := hr_26.at hk0 (by decide) (by decide) hf_21
                replace hfr := hfr.trans (hr_26.sub (by decide))
                obtain rfl := hR_29
                obtain ⟨x_30, ex_30, vx_30⟩ := tt_inc (x := x_20) (n := 1) (by omega) (by omega)
                refine jj_iinc (v := x_30) C dX5_putNumber_81 rfl ex_30 (by decide) rfl ?_
                refine jj_goto (tgt := 63) C dX5_putNumber_84 (by decide) ?_
                exact ihL_19 pl_24 x_30 hok_25 hfr hf_21 (by first | omega | decide | exact tt_lo _ | exact tt_hi _) (by first | omega | decide | exact tt_lo _ | exact tt_hi _) (by first | omega | decide | exact tt_lo _ | exact tt_hi _)
          exact hL_19 _ pl_15 x_4 trivial hok_16 hfr hf_6 (by first | omega | decide | exact tt_lo _ | exact tt_hi _) (by first | omega | decide | exact tt_lo _ | exact tt_hi _) (Int.self_le_toNat _)
        · refine jj_iload C dX5_putNumber_54 rfl ?_
          refine jj_if_gt (tgt := 18) C dX5_putNumber_56 (by decide) (fun c_31 => ?_) (fun c_31 => ?_)
          · have z_c_31 := jc_lt (a := (0)) (b := (x_4).toInt) c_31 (by decide) rfl
            refine jj_loc [1, 0, 2, 3] rfl ?_
            exact ihL_1 pl_15 x_4 y_17 hok_16 hfr (by first | omega | decide | exact tt_lo _ | exact tt_hi _) (by first | omega | decide | exact tt_lo _ | exact tt_hi _) (by first | omega | decide | exact tt_lo _ | exact tt_hi _)
          · have z_c_31 := jc_nlt (a := (0)) (b := (x_4).toInt) c_31 (by decide) rfl
            refine jj_iload C dX5_putNumber_59 rfl ?_
            refine jj_istore C dX5_putNumber_61 (by decide) rfl ?_
            have hL_32 : ∀ (N : Nat) (pl : va_W) (x_33 : Int32), True → tt_ok tt_tk cA Kd pl → tt_fr Kd [(12, 1)] pl0 pl → tt_at pl h0 2 (.ref a_7) → (0 : Int) ≤ x_33.toInt → x_33.toInt ≤ 20 → (2147483648 - x_33.toInt ≤ (N : Int)) → jj_J p l e (jj_rm 1 21 0 0) s m args below meth c 7 A (vx_MQ below (jj_q D A (tt_O (fun rx pl1 r => rx = [] ∧ tt_ok tt_tk cA Kd pl1 ∧ tt_fr Kd [(12, 1)] pl0 pl1 ∧ ((r = none))))) (jj_x D A (tt_OX (fun _ _ _ => False))) args s 0 0 A) (jj_X D A ([] ++ pl)) 0 0 63 [(6, .int x_33), (3, .long y_17), (5, .int x_4), (0, .ref h0), (1, .long 1000000)] [] := by
              intro NL_32
              induction NL_32 with
              | zero => intro pl x_33 _ hok hfr hf_34 lx_33 ux_33 hNL_32; exfalso; omega
              | succ NL_32 ihL_32 =>
                intro pl x_33 _ hok hfr hf_34 lx_33 ux_33 hNL_32
                replace ihL_32 := fun pl x_33 h1 => ihL_32 pl x_33 trivial h1
                refine jj_iload C dX5_putNumber_63 rfl ?_
                refine jj_bipush (v := 20) C dX5_putNumber_65 (by decide) ?_
                refine jj_icmp_ge (tgt := 87) C dX5_putNumber_67 (by decide) (fun c_35 => ?_) (fun c_35 => ?_)
                · have z_c_35 := jc_le (a := (20)) (b := (x_33).toInt) c_35 (by decide) rfl
                  exact jj_vret C ⟨[], pl, rfl, rfl, hok, hfr, rfl⟩ dX5_putNumber_87 (jj_le rfl) (jj_le rfl)
                · have z_c_35 := jc_nle (a := (20)) (b := (x_33).toInt) c_35 (by decide) rfl
                  refine jj_aload_n C dX5_putNumber_70 rfl ?_
                  refine jj_aload_n C dX5_putNumber_71 rfl ?_
                  refine tt_getF C hok jk_6 2 (by decide) jw_812 (t := (2, 14, 0)) hk0 (by decide) rfl rfl hf_34 dX5_putNumber_72 ?_
                  refine jj_iload C dX5_putNumber_75 rfl ?_
                  refine tt_bald C hok (t := (0, (-2147483648), 2147483647)) ka_7 (by decide) rfl (vp_in_iff.mpr ⟨by omega, by omega⟩) dX5_putNumber_77 (fun v_36 hv_36 => ?_)
                  obtain ⟨qc, gs, hqc⟩ := tt_recv (cx := []) hok hk0 (by decide) rfl
                  refine tt_callV (rest := []) C (tc_X5_putByte_5 hl D cA ak h0 v_36 hk0 hok) [] [] rfl rfl (by decide) (by decide) (by decide) qc hqc rfl rfl jw_800 jw_803 jw_804 jw_794 jw_801 jn_X5_putByte rfl (jj_le rfl) (jj_le rfl) (jj_le rfl) (jj_le rfl) (jj_le rfl) dX5_putNumber_78 rfl (fun _ _ _ hX => hX.elim) (fun rx pl_37 r O_40 => ?_)
                  obtain ⟨rfl, hok_38, hr_39, hR_42⟩ := O_40
                  replace hf_34 := hr_39.at hk0 (by decide) (by decide) hf_34
                  replace hfr := hfr.trans (hr_39.sub (by decide))
                  obtain rfl := hR_42
                  obtain ⟨x_43, ex_43, vx_43⟩ := tt_inc (x := x_33) (n := 1) (by omega) (by omega)
                  refine jj_iinc (v := x_43) C dX5_putNumber_81 rfl ex_43 (by decide) rfl ?_
                  refine jj_goto (tgt := 63) C dX5_putNumber_84 (by decide) ?_
                  exact ihL_32 pl_37 x_43 hok_38 hfr hf_34 (by first | omega | decide | exact tt_lo _ | exact tt_hi _) (by first | omega | decide | exact tt_lo _ | exact tt_hi _) (by first | omega | decide | exact tt_lo _ | exact tt_hi _)
            exact hL_32 _ pl_15 x_4 trivial hok_16 hfr hf_6 (by first | omega | decide | exact tt_lo _ | exact tt_hi _) (by first | omega | decide | exact tt_lo _ | exact tt_hi _) (Int.self_le_toNat _)
      · obtain ⟨y_44, ey_44⟩ : ∃ z : Int64, (48 : Int64) + (-y_8) = z := ⟨_, rfl⟩
        refine jj_ladd (v := y_44) C dX5_putNumber_38 ey_44 ?_
        obtain ⟨x_45, ex_45⟩ : ∃ z : Int32, y_44.toInt32 = z := ⟨_, rfl⟩
        refine jj_l2i (v := x_45) C dX5_putNumber_39 ex_45 ?_
        obtain ⟨x_46, ex_46⟩ : ∃ z : Int32, x_45.toInt8.toInt32 = z := ⟨_, rfl⟩
        refine jj_i2b (v := x_46) C dX5_putNumber_40 ex_46 ?_
        refine tt_bast C hok (t := (0, (-2147483648), 2147483647)) ka_7 (by decide) rfl (vp_in_iff.mpr ⟨by omega, by omega⟩) (tt_ia _) dX5_putNumber_41 (fun pl_47 hok_48 tr => ?_)
        replace hf_6 := tr _ _ _ hf_6
        replace hfr := hfr.arr tr
        refine jj_lload_n C dX5_putNumber_42 rfl ?_
        refine jj_ldc2 (v := 10) C dX5_putNumber_43 jw_814 ?_
        obtain ⟨y_49, ey_49⟩ : ∃ z : Int64, y_3 / (10 : Int64) = z := ⟨_, rfl⟩
        refine jj_ldiv (v := y_49) C dX5_putNumber_46 (by decide) ey_49 ?_
        refine jj_lstore_n C dX5_putNumber_47 (by decide) rfl ?_
        refine jj_lload_n C dX5_putNumber_48 rfl ?_
        refine jj_lconst (v := 0) C dX5_putNumber_49 (by decide) ?_
        refine jj_lcmp_eq (tgt := 59) C dX5_putNumber_50 dX5_putNumber_51 (by decide) (fun c_50 => ?_) (fun c_50 => ?_)
        · refine jj_iload C dX5_putNumber_59 rfl ?_
          refine jj_istore C dX5_putNumber_61 (by decide) rfl ?_
          have hL_51 : ∀ (N : Nat) (pl : va_W) (x_52 : Int32), True → tt_ok tt_tk cA Kd pl → tt_fr Kd [(12, 1)] pl0 pl → tt_at pl h0 2 (.ref a_7) → (0 : Int) ≤ x_52.toInt → x_52.toInt ≤ 20 → (2147483648 - x_52.toInt ≤ (N : Int)) → jj_J p l e (jj_rm 1 21 0 0) s m args below meth c 7 A (vx_MQ below (jj_q D A (tt_O (fun rx pl1 r => rx = [] ∧ tt_ok tt_tk cA Kd pl1 ∧ tt_fr Kd [(12, 1)] pl0 pl1 ∧ ((r = none))))) (jj_x D A (tt_OX (fun _ _ _ => False))) args s 0 0 A) (jj_X D A ([] ++ pl)) 0 0 63 [(6, .int x_52), (3, .long y_49), (5, .int x_4), (0, .ref h0), (1, .long 1000000)] [] := by
            intro NL_51
            induction NL_51 with
            | zero => intro pl x_52 _ hok hfr hf_53 lx_52 ux_52 hNL_51; exfalso; omega
            | succ NL_51 ihL_51 =>
              intro pl x_52 _ hok hfr hf_53 lx_52 ux_52 hNL_51
              replace ihL_51 := fun pl x_52 h1 => ihL_51 pl x_52 trivial h1
              refine jj_iload C dX5_putNumber_63 rfl ?_
              refine jj_bipush (v := 20) C dX5_putNumber_65 (by decide) ?_
              refine jj_icmp_ge (tgt := 87) C dX5_putNumber_67 (by decide) (fun c_54 => ?_) (fun c_54 => ?_)
              · have z_c_54 := jc_le (a := (20)) (b := (x_52).toInt) c_54 (by decide) rfl
                exact jj_vret C ⟨[], pl, rfl, rfl, hok, hfr, rfl⟩ dX5_putNumber_87 (jj_le rfl) (jj_le rfl)
              · have z_c_54 := jc_nle (a := (20)) (b := (x_52).toInt) c_54 (by decide) rfl
                refine jj_aload_n C dX5_putNumber_70 rfl ?_
                refine jj_aload_n C dX5_putNumber_71 rfl ?_
                refine tt_getF C hok jk_6 2 (by decide) jw_812 (t := (2, 14, 0)) hk0 (by decide) rfl rfl hf_53 dX5_putNumber_72 ?_
                refine jj_iload C dX5_putNumber_75 rfl ?_
                refine tt_bald C hok (t := (0, (-2147483648), 2147483647)) ka_7 (by decide) rfl (vp_in_iff.mpr ⟨by omega, by omega⟩) dX5_putNumber_77 (fun v_55 hv_55 => ?_)
                obtain ⟨qc, gs, hqc⟩ := tt_recv (cx := []) hok hk0 (by decide) rfl
                refine tt_callV (rest := []) C (tc_X5_putByte_5 hl D cA ak h0 v_55 hk0 hok) [] [] rfl rfl (by decide) (by decide) (by decide) qc hqc rfl rfl jw_800 jw_803 jw_804 jw_794 jw_801 jn_X5_putByte rfl (jj_le rfl) (jj_le rfl) (jj_le rfl) (jj_le rfl) (jj_le rfl) dX5_putNumber_78 rfl (fun _ _ _ hX => hX.elim) (fun rx pl_56 r O_59 => ?_)
                obtain ⟨rfl, hok_57, hr_58, hR_61⟩ := O_59
                replace hf_53 := hr_58.at hk0 (by decide) (by decide) hf_53
                replace hfr := hfr.trans (hr_58.sub (by decide))
                obtain rfl := hR_61
                obtain ⟨x_62, ex_62, vx_62⟩ := tt_inc (x := x_52) (n := 1) (by omega) (by omega)
                refine jj_iinc (v := x_62) C dX5_putNumber_81 rfl ex_62 (by decide) rfl ?_
                refine jj_goto (tgt := 63) C dX5_putNumber_84 (by decide) ?_
                exact ihL_51 pl_56 x_62 hok_57 hfr hf_53 (by first | omega | decide | exact tt_lo _ | exact tt_hi _) (by first | omega | decide | exact tt_lo _ | exact tt_hi _) (by first | omega | decide | exact tt_lo _ | exact tt_hi _)
          exact hL_51 _ pl_47 x_4 trivial hok_48 hfr hf_6 (by first | omega | decide | exact tt_lo _ | exact tt_hi _) (by first | omega | decide | exact tt_lo _ | exact tt_hi _) (Int.self_le_toNat _)
        · refine jj_iload C dX5_putNumber_54 rfl ?_
          refine jj_if_gt (tgt := 18) C dX5_putNumber_56 (by decide) (fun c_63 => ?_) (fun c_63 => ?_)
          · have z_c_63 := jc_lt (a := (0)) (b := (x_4).toInt) c_63 (by decide) rfl
            refine jj_loc [1, 0, 2, 3] rfl ?_
            exact ihL_1 pl_47 x_4 y_49 hok_48 hfr (by first | omega | decide | exact tt_lo _ | exact tt_hi _) (by first | omega | decide | exact tt_lo _ | exact tt_hi _) (by first | omega | decide | exact tt_lo _ | exact tt_hi _)
          · have z_c_63 := jc_nlt (a := (0)) (b := (x_4).toInt) c_63 (by decide) rfl
            refine jj_iload C dX5_putNumber_59 rfl ?_
            refine jj_istore C dX5_putNumber_61 (by decide) rfl ?_
            have hL_64 : ∀ (N : Nat) (pl : va_W) (x_65 : Int32), True → tt_ok tt_tk cA Kd pl → tt_fr Kd [(12, 1)] pl0 pl → tt_at pl h0 2 (.ref a_7) → (0 : Int) ≤ x_65.toInt → x_65.toInt ≤ 20 → (2147483648 - x_65.toInt ≤ (N : Int)) → jj_J p l e (jj_rm 1 21 0 0) s m args below meth c 7 A (vx_MQ below (jj_q D A (tt_O (fun rx pl1 r => rx = [] ∧ tt_ok tt_tk cA Kd pl1 ∧ tt_fr Kd [(12, 1)] pl0 pl1 ∧ ((r = none))))) (jj_x D A (tt_OX (fun _ _ _ => False))) args s 0 0 A) (jj_X D A ([] ++ pl)) 0 0 63 [(6, .int x_65), (3, .long y_49), (5, .int x_4), (0, .ref h0), (1, .long 1000000)] [] := by
              intro NL_64
              induction NL_64 with
              | zero => intro pl x_65 _ hok hfr hf_66 lx_65 ux_65 hNL_64; exfalso; omega
              | succ NL_64 ihL_64 =>
                intro pl x_65 _ hok hfr hf_66 lx_65 ux_65 hNL_64
                replace ihL_64 := fun pl x_65 h1 => ihL_64 pl x_65 trivial h1
                refine jj_iload C dX5_putNumber_63 rfl ?_
                refine jj_bipush (v := 20) C dX5_putNumber_65 (by decide) ?_
                refine jj_icmp_ge (tgt := 87) C dX5_putNumber_67 (by decide) (fun c_67 => ?_) (fun c_67 => ?_)
                · have z_c_67 := jc_le (a := (20)) (b := (x_65).toInt) c_67 (by decide) rfl
                  exact jj_vret C ⟨[], pl, rfl, rfl, hok, hfr, rfl⟩ dX5_putNumber_87 (jj_le rfl) (jj_le rfl)
                · have z_c_67 := jc_nle (a := (20)) (b := (x_65).toInt) c_67 (by decide) rfl
                  refine jj_aload_n C dX5_putNumber_70 rfl ?_
                  refine jj_aload_n C dX5_putNumber_71 rfl ?_
                  refine tt_getF C hok jk_6 2 (by decide) jw_812 (t := (2, 14, 0)) hk0 (by decide) rfl rfl hf_66 dX5_putNumber_72 ?_
                  refine jj_iload C dX5_putNumber_75 rfl ?_
                  refine tt_bald C hok (t := (0, (-2147483648), 2147483647)) ka_7 (by decide) rfl (vp_in_iff.mpr ⟨by omega, by omega⟩) dX5_putNumber_77 (fun v_68 hv_68 => ?_)
                  obtain ⟨qc, gs, hqc⟩ := tt_recv (cx := []) hok hk0 (by decide) rfl
                  refine tt_callV (rest := []) C (tc_X5_putByte_5 hl D cA ak h0 v_68 hk0 hok) [] [] rfl rfl (by decide) (by decide) (by decide) qc hqc rfl rfl jw_800 jw_803 jw_804 jw_794 jw_801 jn_X5_putByte rfl (jj_le rfl) (jj_le rfl) (jj_le rfl) (jj_le rfl) (jj_le rfl) dX5_putNumber_78 rfl (fun _ _ _ hX => hX.elim) (fun rx pl_69 r O_72 => ?_)
                  obtain ⟨rfl, hok_70, hr_71, hR_74⟩ := O_72
                  replace hf_66 := hr_71.at hk0 (by decide) (by decide) hf_66
                  replace hfr := hfr.trans (hr_71.sub (by decide))
                  obtain rfl := hR_74
                  obtain ⟨x_75, ex_75, vx_75⟩ := tt_inc (x := x_65) (n := 1) (by omega) (by omega)
                  refine jj_iinc (v := x_75) C dX5_putNumber_81 rfl ex_75 (by decide) rfl ?_
                  refine jj_goto (tgt := 63) C dX5_putNumber_84 (by decide) ?_
                  exact ihL_64 pl_69 x_75 hok_70 hfr hf_66 (by first | omega | decide | exact tt_lo _ | exact tt_hi _) (by first | omega | decide | exact tt_lo _ | exact tt_hi _) (by first | omega | decide | exact tt_lo _ | exact tt_hi _)
            exact hL_64 _ pl_47 x_4 trivial hok_48 hfr hf_6 (by first | omega | decide | exact tt_lo _ | exact tt_hi _) (by first | omega | decide | exact tt_lo _ | exact tt_hi _) (Int.self_le_toNat _)
  exact hL_1 _ pl0 (20 : Int32) (1000000 : Int64) trivial hok hfr (by first | omega | decide | exact tt_lo _ | exact tt_hi _) (by first | omega | decide | exact tt_lo _ | exact tt_hi _) (Int.self_le_toNat _)

set_option maxHeartbeats 4000000 in
set_option maxRecDepth 100000 in
theorem tc_X0_unitsHeldIn_2 {l : Launch} (hl : l.stackTraces = false) (D : va_G) (cA : Nat → ClassId) (ak : (Nat → Nat) × (Nat → Nat)) {Kd : Nat → Nat} (h0 : Nat) (p1 : Int32) (p2 : Int32) (hk0 : Kd h0 = 1) (lp1 : (0 : Int) ≤ p1.toInt) (up1 : p1.toInt ≤ 0) {pl0 : va_W} (hok : tt_ok tt_tk cA Kd pl0) : jj_M l D cA ak yX0_unitsHeldIn (.code yX0_unitsHeldIn cX0_unitsHeldIn 6 (some .long)) 0 0 0 0 ([] ++ pl0) [.ref h0, .int p1, .int p2] (tt_O (fun rx pl1 r => rx = [] ∧ tt_ok tt_tk cA Kd pl1 ∧ tt_fr Kd [] pl0 pl1 ∧ ((∃ v : Int64, r = some (.long v))))) (tt_OX (fun _ _ _ => False)) := by
  refine jj_start hl (by decide) jw_405 (jj_le rfl) ?_
  intro p e s m args below meth c A hargs hA C hex hmn
  have hfr := tt_fr.refl (K := Kd) (WS := []) pl0
  have lp2 := tt_lo p2
  have up2 := tt_hi p2
  refine jj_lconst (v := 0) C dX0_unitsHeldIn_0 (by decide) ?_
  refine jj_lstore_n C dX0_unitsHeldIn_1 (by decide) rfl ?_
  refine jj_iconst (v := 0) C dX0_unitsHeldIn_2 (by decide) ?_
  refine jj_istore C dX0_unitsHeldIn_3 (by decide) rfl ?_
  have hL_1 : ∀ (N : Nat) (pl : va_W) (x_2 : Int32) (y_3 : Int64), True → tt_ok tt_tk cA Kd pl → tt_fr Kd [] pl0 pl → (0 : Int) ≤ x_2.toInt → x_2.toInt ≤ 40 → (2147483648 - x_2.toInt ≤ (N : Int)) → jj_J p l e (jj_rm 0 0 0 0) s m args below meth c 6 A (vx_MQ below (jj_q D A (tt_O (fun rx pl1 r => rx = [] ∧ tt_ok tt_tk cA Kd pl1 ∧ tt_fr Kd [] pl0 pl1 ∧ ((∃ v : Int64, r = some (.long v)))))) (jj_x D A (tt_OX (fun _ _ _ => False))) args s 0 0 A) (jj_X D A ([] ++ pl)) 0 0 5 [(5, .int x_2), (3, .long y_3), (0, .ref h0), (1, .int p1), (2, .int p2)] [] := by
    intro NL_1
    induction NL_1 with
    | zero => intro pl x_2 y_3 _ hok hfr lx_2 ux_2 hNL_1; exfalso; omega
    | succ NL_1 ihL_1 =>
      intro pl x_2 y_3 _ hok hfr lx_2 ux_2 hNL_1
      replace ihL_1 := fun pl x_2 y_3 h1 => ihL_1 pl x_2 y_3 trivial h1
      refine jj_iload C dX0_unitsHeldIn_5 rfl ?_
      refine jj_aload_n C dX0_unitsHeldIn_7 rfl ?_
      refine tt_get C hok jk_2 8 (by decide) jw_199 (t := (0, 0, 40)) hk0 (by decide) rfl rfl dX0_unitsHeldIn_8 (fun v_4 hv_4 hf_5 => ?_)
      obtain ⟨x_6, rfl, lx_6, ux_6⟩ := tt_vi hv_4
      refine jj_icmp_ge (tgt := 61) C dX0_unitsHeldIn_11 (by decide) (fun c_7 => ?_) (fun c_7 => ?_)
      · have z_c_7 := jc_le (a := (x_6).toInt) (b := (x_2).toInt) c_7 rfl rfl
        refine jj_lload_n C dX0_unitsHeldIn_61 rfl ?_
        exact jj_lret C ⟨[], pl, rfl, rfl, hok, hfr, ⟨y_3, rfl⟩⟩ dX0_unitsHeldIn_62 (jj_le rfl) (jj_le rfl)
      · have z_c_7 := jc_nle (a := (x_6).toInt) (b := (x_2).toInt) c_7 rfl rfl
        refine jj_aload_n C dX0_unitsHeldIn_14 rfl ?_
        refine tt_get C hok jk_2 12 (by decide) jw_214 (t := (2, 7, 0)) hk0 (by decide) rfl rfl dX0_unitsHeldIn_15 (fun v_8 hv_8 hf_9 => ?_)
        obtain ⟨a_10, rfl, ka_10⟩ := tt_vr hv_8
        refine jj_iload C dX0_unitsHeldIn_18 rfl ?_
        refine tt_aald C hok (t := (2, 3, 0)) ka_10 (by decide) rfl rfl rfl (vp_in_iff.mpr ⟨by omega, by omega⟩) dX0_unitsHeldIn_20 (fun v_11 hv_11 => ?_)
        obtain ⟨a_12, rfl, ka_12⟩ := tt_vr hv_11
        refine tt_get C hok jk_5 0 (by decide) jw_249 (t := (0, (-2147483648), 2147483647)) ka_12 (by decide) rfl rfl dX0_unitsHeldIn_21 (fun v_13 hv_13 hf_14 => ?_)
        obtain ⟨x_15, rfl, lx_15, ux_15⟩ := tt_vi hv_13
        refine jj_iload_n C dX0_unitsHeldIn_24 rfl ?_
        refine jj_icmp_ne (tgt := 55) C dX0_unitsHeldIn_25 (by decide) (fun c_16 => ?_) (fun c_16 => ?_)
        · have z_c_16 := jc_neq (a := (x_15).toInt) (b := (p1).toInt) c_16 rfl rfl
          obtain ⟨x_17, ex_17, vx_17⟩ := tt_inc (x := x_2) (n := 1) (by omega) (by omega)
          refine jj_iinc (v := x_17) C dX0_unitsHeldIn_55 rfl ex_17 (by decide) rfl ?_
          refine jj_goto (tgt := 5) C dX0_unitsHeldIn_58 (by decide) ?_
          exact ihL_1 pl x_17 y_3 hok hfr (by first | omega | decide | exact tt_lo _ | exact tt_hi _) (by first | omega | decide | exact tt_lo _ | exact tt_hi _) (by first | omega | decide | exact tt_lo _ | exact tt_hi _)
        · have z_c_16 := jc_eq (a := (x_15).toInt) (b := (p1).toInt) c_16 rfl rfl
          refine jj_aload_n C dX0_unitsHeldIn_28 rfl ?_
          refine tt_getF C hok jk_2 12 (by decide) jw_214 (t := (2, 7, 0)) hk0 (by decide) rfl rfl hf_9 dX0_unitsHeldIn_29 ?_
          refine jj_iload C dX0_unitsHeldIn_32 rfl ?_
          refine tt_aald C hok (t := (2, 3, 0)) ka_10 (by decide) rfl rfl rfl (vp_in_iff.mpr ⟨by omega, by omega⟩) dX0_unitsHeldIn_34 (fun v_18 hv_18 => ?_)
          obtain ⟨a_19, rfl, ka_19⟩ := tt_vr hv_18
          refine tt_get C hok jk_5 1 (by decide) jw_350 (t := (0, (-2147483648), 2147483647)) ka_19 (by decide) rfl rfl dX0_unitsHeldIn_35 (fun v_20 hv_20 hf_21 => ?_)
          obtain ⟨x_22, rfl, lx_22, ux_22⟩ := tt_vi hv_20
          refine jj_iload_n C dX0_unitsHeldIn_38 rfl ?_
          refine jj_icmp_ne (tgt := 55) C dX0_unitsHeldIn_39 (by decide) (fun c_23 => ?_) (fun c_23 => ?_)
          · have z_c_23 := jc_neq (a := (x_22).toInt) (b := (p2).toInt) c_23 rfl rfl
            obtain ⟨x_24, ex_24, vx_24⟩ := tt_inc (x := x_2) (n := 1) (by omega) (by omega)
            refine jj_iinc (v := x_24) C dX0_unitsHeldIn_55 rfl ex_24 (by decide) rfl ?_
            refine jj_goto (tgt := 5) C dX0_unitsHeldIn_58 (by decide) ?_
            exact ihL_1 pl x_24 y_3 hok hfr (by first | omega | decide | exact tt_lo _ | exact tt_hi _) (by first | omega | decide | exact tt_lo _ | exact tt_hi _) (by first | omega | decide | exact tt_lo _ | exact tt_hi _)
          · have z_c_23 := jc_eq (a := (x_22).toInt) (b := (p2).toInt) c_23 rfl rfl
            refine jj_lload_n C dX0_unitsHeldIn_42 rfl ?_
            refine jj_aload_n C dX0_unitsHeldIn_43 rfl ?_
            refine tt_getF C hok jk_2 12 (by decide) jw_214 (t := (2, 7, 0)) hk0 (by decide) rfl rfl hf_9 dX0_unitsHeldIn_44 ?_
            refine jj_iload C dX0_unitsHeldIn_47 rfl ?_
            refine tt_aald C hok (t := (2, 3, 0)) ka_10 (by decide) rfl rfl rfl (vp_in_iff.mpr ⟨by omega, by omega⟩) dX0_unitsHeldIn_49 (fun v_25 hv_25 => ?_)
            obtain ⟨a_26, rfl, ka_26⟩ := tt_vr hv_25
            refine tt_get C hok jk_5 3 (by decide) jw_250 (t := (1, (-9223372036854775808), 9223372036854775807)) ka_26 (by decide) rfl rfl dX0_unitsHeldIn_50 (fun v_27 hv_27 hf_28 => ?_)
            obtain ⟨y_29, rfl, -, -⟩ := tt_vj hv_27
            obtain ⟨y_30, ey_30⟩ : ∃ z : Int64, y_3 + y_29 = z := ⟨_, rfl⟩
            refine jj_ladd (v := y_30) C dX0_unitsHeldIn_53 ey_30 ?_
            refine jj_lstore_n C dX0_unitsHeldIn_54 (by decide) rfl ?_
            obtain ⟨x_31, ex_31, vx_31⟩ := tt_inc (x := x_2) (n := 1) (by omega) (by omega)
            refine jj_iinc (v := x_31) C dX0_unitsHeldIn_55 rfl ex_31 (by decide) rfl ?_
            refine jj_goto (tgt := 5) C dX0_unitsHeldIn_58 (by decide) ?_
            exact ihL_1 pl x_31 y_30 hok hfr (by first | omega | decide | exact tt_lo _ | exact tt_hi _) (by first | omega | decide | exact tt_lo _ | exact tt_hi _) (by first | omega | decide | exact tt_lo _ | exact tt_hi _)
  exact hL_1 _ pl0 (0 : Int32) (0 : Int64) trivial hok hfr (by first | omega | decide | exact tt_lo _ | exact tt_hi _) (by first | omega | decide | exact tt_lo _ | exact tt_hi _) (Int.self_le_toNat _)

set_option maxHeartbeats 4000000 in
set_option maxRecDepth 100000 in
theorem tc_X0_unitsHeldIn_3 {l : Launch} (hl : l.stackTraces = false) (D : va_G) (cA : Nat → ClassId) (ak : (Nat → Nat) × (Nat → Nat)) {Kd : Nat → Nat} (h0 : Nat) (p1 : Int32) (p2 : Int32) (hk0 : Kd h0 = 1) (lp1 : (0 : Int) ≤ p1.toInt) (up1 : p1.toInt ≤ 1) {pl0 : va_W} (hok : tt_ok tt_tk cA Kd pl0) : jj_M l D cA ak yX0_unitsHeldIn (.code yX0_unitsHeldIn cX0_unitsHeldIn 6 (some .long)) 0 0 0 0 ([] ++ pl0) [.ref h0, .int p1, .int p2] (tt_O (fun rx pl1 r => rx = [] ∧ tt_ok tt_tk cA Kd pl1 ∧ tt_fr Kd [] pl0 pl1 ∧ ((∃ v : Int64, r = some (.long v))))) (tt_OX (fun _ _ _ => False)) := by
  refine jj_start hl (by decide) jw_405 (jj_le rfl) ?_
  intro p e s m args below meth c A hargs hA C hex hmn
  have hfr := tt_fr.refl (K := Kd) (WS := []) pl0
  have lp2 := tt_lo p2
  have up2 := tt_hi p2
  refine jj_lconst (v := 0) C dX0_unitsHeldIn_0 (by decide) ?_
  refine jj_lstore_n C dX0_unitsHeldIn_1 (by decide) rfl ?_
  refine jj_iconst (v := 0) C dX0_unitsHeldIn_2 (by decide) ?_
  refine jj_istore C dX0_unitsHeldIn_3 (by decide) rfl ?_
  have hL_1 : ∀ (N : Nat) (pl : va_W) (x_2 : Int32) (y_3 : Int64), True → tt_ok tt_tk cA Kd pl → tt_fr Kd [] pl0 pl → (0 : Int) ≤ x_2.toInt → x_2.toInt ≤ 40 → (2147483648 - x_2.toInt ≤ (N : Int)) → jj_J p l e (jj_rm 0 0 0 0) s m args below meth c 6 A (vx_MQ below (jj_q D A (tt_O (fun rx pl1 r => rx = [] ∧ tt_ok tt_tk cA Kd pl1 ∧ tt_fr Kd [] pl0 pl1 ∧ ((∃ v : Int64, r = some (.long v)))))) (jj_x D A (tt_OX (fun _ _ _ => False))) args s 0 0 A) (jj_X D A ([] ++ pl)) 0 0 5 [(5, .int x_2), (3, .long y_3), (0, .ref h0), (1, .int p1), (2, .int p2)] [] := by
    intro NL_1
    induction NL_1 with
    | zero => intro pl x_2 y_3 _ hok hfr lx_2 ux_2 hNL_1; exfalso; omega
    | succ NL_1 ihL_1 =>
      intro pl x_2 y_3 _ hok hfr lx_2 ux_2 hNL_1
      replace ihL_1 := fun pl x_2 y_3 h1 => ihL_1 pl x_2 y_3 trivial h1
      refine jj_iload C dX0_unitsHeldIn_5 rfl ?_
      refine jj_aload_n C dX0_unitsHeldIn_7 rfl ?_
      refine tt_get C hok jk_2 8 (by decide) jw_199 (t := (0, 0, 40)) hk0 (by decide) rfl rfl dX0_unitsHeldIn_8 (fun v_4 hv_4 hf_5 => ?_)
      obtain ⟨x_6, rfl, lx_6, ux_6⟩ := tt_vi hv_4
      refine jj_icmp_ge (tgt := 61) C dX0_unitsHeldIn_11 (by decide) (fun c_7 => ?_) (fun c_7 => ?_)
      · have z_c_7 := jc_le (a := (x_6).toInt) (b := (x_2).toInt) c_7 rfl rfl
        refine jj_lload_n C dX0_unitsHeldIn_61 rfl ?_
        exact jj_lret C ⟨[], pl, rfl, rfl, hok, hfr, ⟨y_3, rfl⟩⟩ dX0_unitsHeldIn_62 (jj_le rfl) (jj_le rfl)
      · have z_c_7 := jc_nle (a := (x_6).toInt) (b := (x_2).toInt) c_7 rfl rfl
        refine jj_aload_n C dX0_unitsHeldIn_14 rfl ?_
        refine tt_get C hok jk_2 12 (by decide) jw_214 (t := (2, 7, 0)) hk0 (by decide) rfl rfl dX0_unitsHeldIn_15 (fun v_8 hv_8 hf_9 => ?_)
        obtain ⟨a_10, rfl, ka_10⟩ := tt_vr hv_8
        refine jj_iload C dX0_unitsHeldIn_18 rfl ?_
        refine tt_aald C hok (t := (2, 3, 0)) ka_10 (by decide) rfl rfl rfl (vp_in_iff.mpr ⟨by omega, by omega⟩) dX0_unitsHeldIn_20 (fun v_11 hv_11 => ?_)
        obtain ⟨a_12, rfl, ka_12⟩ := tt_vr hv_11
        refine tt_get C hok jk_5 0 (by decide) jw_249 (t := (0, (-2147483648), 2147483647)) ka_12 (by decide) rfl rfl dX0_unitsHeldIn_21 (fun v_13 hv_13 hf_14 => ?_)
        obtain ⟨x_15, rfl, lx_15, ux_15⟩ := tt_vi hv_13
        refine jj_iload_n C dX0_unitsHeldIn_24 rfl ?_
        refine jj_icmp_ne (tgt := 55) C dX0_unitsHeldIn_25 (by decide) (fun c_16 => ?_) (fun c_16 => ?_)
        · have z_c_16 := jc_neq (a := (x_15).toInt) (b := (p1).toInt) c_16 rfl rfl
          obtain ⟨x_17, ex_17, vx_17⟩ := tt_inc (x := x_2) (n := 1) (by omega) (by omega)
          refine jj_iinc (v := x_17) C dX0_unitsHeldIn_55 rfl ex_17 (by decide) rfl ?_
          refine jj_goto (tgt := 5) C dX0_unitsHeldIn_58 (by decide) ?_
          exact ihL_1 pl x_17 y_3 hok hfr (by first | omega | decide | exact tt_lo _ | exact tt_hi _) (by first | omega | decide | exact tt_lo _ | exact tt_hi _) (by first | omega | decide | exact tt_lo _ | exact tt_hi _)
        · have z_c_16 := jc_eq (a := (x_15).toInt) (b := (p1).toInt) c_16 rfl rfl
          refine jj_aload_n C dX0_unitsHeldIn_28 rfl ?_
          refine tt_getF C hok jk_2 12 (by decide) jw_214 (t := (2, 7, 0)) hk0 (by decide) rfl rfl hf_9 dX0_unitsHeldIn_29 ?_
          refine jj_iload C dX0_unitsHeldIn_32 rfl ?_
          refine tt_aald C hok (t := (2, 3, 0)) ka_10 (by decide) rfl rfl rfl (vp_in_iff.mpr ⟨by omega, by omega⟩) dX0_unitsHeldIn_34 (fun v_18 hv_18 => ?_)
          obtain ⟨a_19, rfl, ka_19⟩ := tt_vr hv_18
          refine tt_get C hok jk_5 1 (by decide) jw_350 (t := (0, (-2147483648), 2147483647)) ka_19 (by decide) rfl rfl dX0_unitsHeldIn_35 (fun v_20 hv_20 hf_21 => ?_)
          obtain ⟨x_22, rfl, lx_22, ux_22⟩ := tt_vi hv_20
          refine jj_iload_n C dX0_unitsHeldIn_38 rfl ?_
          refine jj_icmp_ne (tgt := 55) C dX0_unitsHeldIn_39 (by decide) (fun c_23 => ?_) (fun c_23 => ?_)
          · have z_c_23 := jc_neq (a := (x_22).toInt) (b := (p2).toInt) c_23 rfl rfl
            obtain ⟨x_24, ex_24, vx_24⟩ := tt_inc (x := x_2) (n := 1) (by omega) (by omega)
            refine jj_iinc (v := x_24) C dX0_unitsHeldIn_55 rfl ex_24 (by decide) rfl ?_
            refine jj_goto (tgt := 5) C dX0_unitsHeldIn_58 (by decide) ?_
            exact ihL_1 pl x_24 y_3 hok hfr (by first | omega | decide | exact tt_lo _ | exact tt_hi _) (by first | omega | decide | exact tt_lo _ | exact tt_hi _) (by first | omega | decide | exact tt_lo _ | exact tt_hi _)
          · have z_c_23 := jc_eq (a := (x_22).toInt) (b := (p2).toInt) c_23 rfl rfl
            refine jj_lload_n C dX0_unitsHeldIn_42 rfl ?_
            refine jj_aload_n C dX0_unitsHeldIn_43 rfl ?_
            refine tt_getF C hok jk_2 12 (by decide) jw_214 (t := (2, 7, 0)) hk0 (by decide) rfl rfl hf_9 dX0_unitsHeldIn_44 ?_
            refine jj_iload C dX0_unitsHeldIn_47 rfl ?_
            refine tt_aald C hok (t := (2, 3, 0)) ka_10 (by decide) rfl rfl rfl (vp_in_iff.mpr ⟨by omega, by omega⟩) dX0_unitsHeldIn_49 (fun v_25 hv_25 => ?_)
            obtain ⟨a_26, rfl, ka_26⟩ := tt_vr hv_25
            refine tt_get C hok jk_5 3 (by decide) jw_250 (t := (1, (-9223372036854775808), 9223372036854775807)) ka_26 (by decide) rfl rfl dX0_unitsHeldIn_50 (fun v_27 hv_27 hf_28 => ?_)
            obtain ⟨y_29, rfl, -, -⟩ := tt_vj hv_27
            obtain ⟨y_30, ey_30⟩ : ∃ z : Int64, y_3 + y_29 = z := ⟨_, rfl⟩
            refine jj_ladd (v := y_30) C dX0_unitsHeldIn_53 ey_30 ?_
            refine jj_lstore_n C dX0_unitsHeldIn_54 (by decide) rfl ?_
            obtain ⟨x_31, ex_31, vx_31⟩ := tt_inc (x := x_2) (n := 1) (by omega) (by omega)
            refine jj_iinc (v := x_31) C dX0_unitsHeldIn_55 rfl ex_31 (by decide) rfl ?_
            refine jj_goto (tgt := 5) C dX0_unitsHeldIn_58 (by decide) ?_
            exact ihL_1 pl x_31 y_30 hok hfr (by first | omega | decide | exact tt_lo _ | exact tt_hi _) (by first | omega | decide | exact tt_lo _ | exact tt_hi _) (by first | omega | decide | exact tt_lo _ | exact tt_hi _)
  exact hL_1 _ pl0 (0 : Int32) (0 : Int64) trivial hok hfr (by first | omega | decide | exact tt_lo _ | exact tt_hi _) (by first | omega | decide | exact tt_lo _ | exact tt_hi _) (Int.self_le_toNat _)

set_option maxHeartbeats 4000000 in
set_option maxRecDepth 100000 in
theorem tc_X0_unitsHeldIn_4 {l : Launch} (hl : l.stackTraces = false) (D : va_G) (cA : Nat → ClassId) (ak : (Nat → Nat) × (Nat → Nat)) {Kd : Nat → Nat} (h0 : Nat) (p1 : Int32) (p2 : Int32) (hk0 : Kd h0 = 1) (lp1 : (0 : Int) ≤ p1.toInt) (up1 : p1.toInt ≤ 5) {pl0 : va_W} (hok : tt_ok tt_tk cA Kd pl0) : jj_M l D cA ak yX0_unitsHeldIn (.code yX0_unitsHeldIn cX0_unitsHeldIn 6 (some .long)) 0 0 0 0 ([] ++ pl0) [.ref h0, .int p1, .int p2] (tt_O (fun rx pl1 r => rx = [] ∧ tt_ok tt_tk cA Kd pl1 ∧ tt_fr Kd [] pl0 pl1 ∧ ((∃ v : Int64, r = some (.long v))))) (tt_OX (fun _ _ _ => False)) := by
  refine jj_start hl (by decide) jw_405 (jj_le rfl) ?_
  intro p e s m args below meth c A hargs hA C hex hmn
  have hfr := tt_fr.refl (K := Kd) (WS := []) pl0
  have lp2 := tt_lo p2
  have up2 := tt_hi p2
  refine jj_lconst (v := 0) C dX0_unitsHeldIn_0 (by decide) ?_
  refine jj_lstore_n C dX0_unitsHeldIn_1 (by decide) rfl ?_
  refine jj_iconst (v := 0) C dX0_unitsHeldIn_2 (by decide) ?_
  refine jj_istore C dX0_unitsHeldIn_3 (by decide) rfl ?_
  have hL_1 : ∀ (N : Nat) (pl : va_W) (x_2 : Int32) (y_3 : Int64), True → tt_ok tt_tk cA Kd pl → tt_fr Kd [] pl0 pl → (0 : Int) ≤ x_2.toInt → x_2.toInt ≤ 40 → (2147483648 - x_2.toInt ≤ (N : Int)) → jj_J p l e (jj_rm 0 0 0 0) s m args below meth c 6 A (vx_MQ below (jj_q D A (tt_O (fun rx pl1 r => rx = [] ∧ tt_ok tt_tk cA Kd pl1 ∧ tt_fr Kd [] pl0 pl1 ∧ ((∃ v : Int64, r = some (.long v)))))) (jj_x D A (tt_OX (fun _ _ _ => False))) args s 0 0 A) (jj_X D A ([] ++ pl)) 0 0 5 [(5, .int x_2), (3, .long y_3), (0, .ref h0), (1, .int p1), (2, .int p2)] [] := by
    intro NL_1
    induction NL_1 with
    | zero => intro pl x_2 y_3 _ hok hfr lx_2 ux_2 hNL_1; exfalso; omega
    | succ NL_1 ihL_1 =>
      intro pl x_2 y_3 _ hok hfr lx_2 ux_2 hNL_1
      replace ihL_1 := fun pl x_2 y_3 h1 => ihL_1 pl x_2 y_3 trivial h1
      refine jj_iload C dX0_unitsHeldIn_5 rfl ?_
      refine jj_aload_n C dX0_unitsHeldIn_7 rfl ?_
      refine tt_get C hok jk_2 8 (by decide) jw_199 (t := (0, 0, 40)) hk0 (by decide) rfl rfl dX0_unitsHeldIn_8 (fun v_4 hv_4 hf_5 => ?_)
      obtain ⟨x_6, rfl, lx_6, ux_6⟩ := tt_vi hv_4
      refine jj_icmp_ge (tgt := 61) C dX0_unitsHeldIn_11 (by decide) (fun c_7 => ?_) (fun c_7 => ?_)
      · have z_c_7 := jc_le (a := (x_6).toInt) (b := (x_2).toInt) c_7 rfl rfl
        refine jj_lload_n C dX0_unitsHeldIn_61 rfl ?_
        exact jj_lret C ⟨[], pl, rfl, rfl, hok, hfr, ⟨y_3, rfl⟩⟩ dX0_unitsHeldIn_62 (jj_le rfl) (jj_le rfl)
      · have z_c_7 := jc_nle (a := (x_6).toInt) (b := (x_2).toInt) c_7 rfl rfl
        refine jj_aload_n C dX0_unitsHeldIn_14 rfl ?_
        refine tt_get C hok jk_2 12 (by decide) jw_214 (t := (2, 7, 0)) hk0 (by decide) rfl rfl dX0_unitsHeldIn_15 (fun v_8 hv_8 hf_9 => ?_)
        obtain ⟨a_10, rfl, ka_10⟩ := tt_vr hv_8
        refine jj_iload C dX0_unitsHeldIn_18 rfl ?_
        refine tt_aald C hok (t := (2, 3, 0)) ka_10 (by decide) rfl rfl rfl (vp_in_iff.mpr ⟨by omega, by omega⟩) dX0_unitsHeldIn_20 (fun v_11 hv_11 => ?_)
        obtain ⟨a_12, rfl, ka_12⟩ := tt_vr hv_11
        refine tt_get C hok jk_5 0 (by decide) jw_249 (t := (0, (-2147483648), 2147483647)) ka_12 (by decide) rfl rfl dX0_unitsHeldIn_21 (fun v_13 hv_13 hf_14 => ?_)
        obtain ⟨x_15, rfl, lx_15, ux_15⟩ := tt_vi hv_13
        refine jj_iload_n C dX0_unitsHeldIn_24 rfl ?_
        refine jj_icmp_ne (tgt := 55) C dX0_unitsHeldIn_25 (by decide) (fun c_16 => ?_) (fun c_16 => ?_)
        · have z_c_16 := jc_neq (a := (x_15).toInt) (b := (p1).toInt) c_16 rfl rfl
          obtain ⟨x_17, ex_17, vx_17⟩ := tt_inc (x := x_2) (n := 1) (by omega) (by omega)
          refine jj_iinc (v := x_17) C dX0_unitsHeldIn_55 rfl ex_17 (by decide) rfl ?_
          refine jj_goto (tgt := 5) C dX0_unitsHeldIn_58 (by decide) ?_
          exact ihL_1 pl x_17 y_3 hok hfr (by first | omega | decide | exact tt_lo _ | exact tt_hi _) (by first | omega | decide | exact tt_lo _ | exact tt_hi _) (by first | omega | decide | exact tt_lo _ | exact tt_hi _)
        · have z_c_16 := jc_eq (a := (x_15).toInt) (b := (p1).toInt) c_16 rfl rfl
          refine jj_aload_n C dX0_unitsHeldIn_28 rfl ?_
          refine tt_getF C hok jk_2 12 (by decide) jw_214 (t := (2, 7, 0)) hk0 (by decide) rfl rfl hf_9 dX0_unitsHeldIn_29 ?_
          refine jj_iload C dX0_unitsHeldIn_32 rfl ?_
          refine tt_aald C hok (t := (2, 3, 0)) ka_10 (by decide) rfl rfl rfl (vp_in_iff.mpr ⟨by omega, by omega⟩) dX0_unitsHeldIn_34 (fun v_18 hv_18 => ?_)
          obtain ⟨a_19, rfl, ka_19⟩ := tt_vr hv_18
          refine tt_get C hok jk_5 1 (by decide) jw_350 (t := (0, (-2147483648), 2147483647)) ka_19 (by decide) rfl rfl dX0_unitsHeldIn_35 (fun v_20 hv_20 hf_21 => ?_)
          obtain ⟨x_22, rfl, lx_22, ux_22⟩ := tt_vi hv_20
          refine jj_iload_n C dX0_unitsHeldIn_38 rfl ?_
          refine jj_icmp_ne (tgt := 55) C dX0_unitsHeldIn_39 (by decide) (fun c_23 => ?_) (fun c_23 => ?_)
          · have z_c_23 := jc_neq (a := (x_22).toInt) (b := (p2).toInt) c_23 rfl rfl
            obtain ⟨x_24, ex_24, vx_24⟩ := tt_inc (x := x_2) (n := 1) (by omega) (by omega)
            refine jj_iinc (v := x_24) C dX0_unitsHeldIn_55 rfl ex_24 (by decide) rfl ?_
            refine jj_goto (tgt := 5) C dX0_unitsHeldIn_58 (by decide) ?_
            exact ihL_1 pl x_24 y_3 hok hfr (by first | omega | decide | exact tt_lo _ | exact tt_hi _) (by first | omega | decide | exact tt_lo _ | exact tt_hi _) (by first | omega | decide | exact tt_lo _ | exact tt_hi _)
          · have z_c_23 := jc_eq (a := (x_22).toInt) (b := (p2).toInt) c_23 rfl rfl
            refine jj_lload_n C dX0_unitsHeldIn_42 rfl ?_
            refine jj_aload_n C dX0_unitsHeldIn_43 rfl ?_
            refine tt_getF C hok jk_2 12 (by decide) jw_214 (t := (2, 7, 0)) hk0 (by decide) rfl rfl hf_9 dX0_unitsHeldIn_44 ?_
            refine jj_iload C dX0_unitsHeldIn_47 rfl ?_
            refine tt_aald C hok (t := (2, 3, 0)) ka_10 (by decide) rfl rfl rfl (vp_in_iff.mpr ⟨by omega, by omega⟩) dX0_unitsHeldIn_49 (fun v_25 hv_25 => ?_)
            obtain ⟨a_26, rfl, ka_26⟩ := tt_vr hv_25
            refine tt_get C hok jk_5 3 (by decide) jw_250 (t := (1, (-9223372036854775808), 9223372036854775807)) ka_26 (by decide) rfl rfl dX0_unitsHeldIn_50 (fun v_27 hv_27 hf_28 => ?_)
            obtain ⟨y_29, rfl, -, -⟩ := tt_vj hv_27
            obtain ⟨y_30, ey_30⟩ : ∃ z : Int64, y_3 + y_29 = z := ⟨_, rfl⟩
            refine jj_ladd (v := y_30) C dX0_unitsHeldIn_53 ey_30 ?_
            refine jj_lstore_n C dX0_unitsHeldIn_54 (by decide) rfl ?_
            obtain ⟨x_31, ex_31, vx_31⟩ := tt_inc (x := x_2) (n := 1) (by omega) (by omega)
            refine jj_iinc (v := x_31) C dX0_unitsHeldIn_55 rfl ex_31 (by decide) rfl ?_
            refine jj_goto (tgt := 5) C dX0_unitsHeldIn_58 (by decide) ?_
            exact ihL_1 pl x_31 y_30 hok hfr (by first | omega | decide | exact tt_lo _ | exact tt_hi _) (by first | omega | decide | exact tt_lo _ | exact tt_hi _) (by first | omega | decide | exact tt_lo _ | exact tt_hi _)
  exact hL_1 _ pl0 (0 : Int32) (0 : Int64) trivial hok hfr (by first | omega | decide | exact tt_lo _ | exact tt_hi _) (by first | omega | decide | exact tt_lo _ | exact tt_hi _) (Int.self_le_toNat _)

