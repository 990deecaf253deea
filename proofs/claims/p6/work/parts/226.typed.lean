set_option maxHeartbeats 4000000 in
set_option maxRecDepth 100000 in
theorem tc_X5_putByte_7 {l : Launch} (hl : l.stackTraces = false) (D : va_G) (cA : Nat → ClassId) (ak : (Nat → Nat) × (Nat → Nat)) {Kd : Nat → Nat} (h0 : Nat) (hk0 : Kd h0 = 12) {pl0 : va_W} (hok : tt_ok tt_tk cA Kd pl0) : jj_M l D cA ak yX5_putByte (.code yX5_putByte cX5_putByte 2 none) 0 0 0 0 ([] ++ pl0) [.ref h0, .int 115] (tt_O (fun rx pl1 r => rx = [] ∧ tt_ok tt_tk cA Kd pl1 ∧ tt_fr Kd [(12, 1)] pl0 pl1 ∧ tt_fa Kd [13] pl0 pl1 ∧ ((r = none)))) (tt_OX (fun _ _ _ => False)) := by
  refine jj_start hl (by decide) jw_f2c63e4be6 (jj_le rfl) ?_
  intro p e s m args below meth c A hargs hA C hex hmn
  have hfr := tt_fr.refl (K := Kd) (WS := [(12, 1)]) pl0
  have hfa := tt_fa.refl (K := Kd) (WA := [13]) pl0
  refine jj_aload_n C dX5_putByte_0 rfl ?_
  refine tt_get C hok jk_6 1 (by decide) jw_a08fdff3bb (t := (0, 0, 1300)) hk0 (by decide) rfl rfl dX5_putByte_1 (fun v_1 hv_1 hf_2 => ?_)
  obtain ⟨x_3, rfl, lx_3, ux_3⟩ := tt_vi hv_1
  refine jj_sipush (v := 1300) C dX5_putByte_4 (by decide) ?_
  refine jj_icmp_ge (tgt := 30) C dX5_putByte_7 (by decide) (fun c_4 => ?_) (fun c_4 => ?_)
  · have z_c_4 := jc_le (a := (1300)) (b := (x_3).toInt) c_4 (by decide) rfl
    exact jj_vret C ⟨[], pl0, rfl, rfl, hok, hfr, hfa, rfl⟩ dX5_putByte_30 (jj_le rfl) (jj_le rfl)
  · have z_c_4 := jc_nle (a := (1300)) (b := (x_3).toInt) c_4 (by decide) rfl
    refine jj_aload_n C dX5_putByte_10 rfl ?_
    refine tt_get C hok jk_6 0 (by decide) jw_b2cc65244f (t := (2, 13, 0)) hk0 (by decide) rfl rfl dX5_putByte_11 (fun v_5 hv_5 hf_6 => ?_)
    obtain ⟨a_7, rfl, ka_7⟩ := tt_vr hv_5
    refine jj_aload_n C dX5_putByte_14 rfl ?_
    refine tt_getF C hok jk_6 1 (by decide) jw_a08fdff3bb (t := (0, 0, 1300)) hk0 (by decide) rfl rfl hf_2 dX5_putByte_15 ?_
    refine jj_iload_n C dX5_putByte_18 rfl ?_
    refine tl_bast C hok (t := (0, (-2147483648), 2147483647)) ka_7 (by decide) rfl (vp_in_iff.mpr ⟨by omega, by omega⟩) (tt_ia _) dX5_putByte_19 (fun pl_8 hok_9 tr tl => ?_)
    replace hf_2 := tr _ _ _ hf_2
    replace hf_6 := tr _ _ _ hf_6
    replace hfr := hfr.arr tr
    replace hfa := hfa.wr ka_7 tl (by decide)
    refine jj_aload_n C dX5_putByte_20 rfl ?_
    refine jj_dup C dX5_putByte_21 rfl ?_
    refine tt_getF C hok_9 jk_6 1 (by decide) jw_a08fdff3bb (t := (0, 0, 1300)) hk0 (by decide) rfl rfl hf_2 dX5_putByte_22 ?_
    refine jj_iconst (v := 1) C dX5_putByte_25 (by decide) ?_
    obtain ⟨x_10, ex_10, vx_10⟩ := tt_iadd (x := x_3) (y := (1 : Int32)) (a := x_3.toInt) rfl (b := 1) (by decide) (by omega) (by omega)
    refine jj_iadd (v := x_10) C dX5_putByte_26 ex_10 ?_
    refine rl_put C hok_9 jk_6 1 (by decide) jw_a08fdff3bb (t := (0, 0, 1300)) hk0 (by decide) rfl rfl rfl (tt_iv (by omega) (by omega)) rfl rfl dX5_putByte_27 (fun pl_11 hok_12 tr hn tl => ?_)
    replace hf_6 := tr _ _ _ (Or.inr (by decide)) hf_6
    have hf_13 := hn
    replace hfr := hfr.put hk0 tr (by decide)
    replace hfa := hfa.all tl
    exact jj_vret C ⟨[], pl_11, rfl, rfl, hok_12, hfr, hfa, rfl⟩ dX5_putByte_30 (jj_le rfl) (jj_le rfl)

set_option maxHeartbeats 4000000 in
set_option maxRecDepth 100000 in
theorem tc_X5_putByte_8 {l : Launch} (hl : l.stackTraces = false) (D : va_G) (cA : Nat → ClassId) (ak : (Nat → Nat) × (Nat → Nat)) {Kd : Nat → Nat} (h0 : Nat) (hk0 : Kd h0 = 12) {pl0 : va_W} (hok : tt_ok tt_tk cA Kd pl0) : jj_M l D cA ak yX5_putByte (.code yX5_putByte cX5_putByte 2 none) 0 0 0 0 ([] ++ pl0) [.ref h0, .int 101] (tt_O (fun rx pl1 r => rx = [] ∧ tt_ok tt_tk cA Kd pl1 ∧ tt_fr Kd [(12, 1)] pl0 pl1 ∧ tt_fa Kd [13] pl0 pl1 ∧ ((r = none)))) (tt_OX (fun _ _ _ => False)) := by
  refine jj_start hl (by decide) jw_f2c63e4be6 (jj_le rfl) ?_
  intro p e s m args below meth c A hargs hA C hex hmn
  have hfr := tt_fr.refl (K := Kd) (WS := [(12, 1)]) pl0
  have hfa := tt_fa.refl (K := Kd) (WA := [13]) pl0
  refine jj_aload_n C dX5_putByte_0 rfl ?_
  refine tt_get C hok jk_6 1 (by decide) jw_a08fdff3bb (t := (0, 0, 1300)) hk0 (by decide) rfl rfl dX5_putByte_1 (fun v_1 hv_1 hf_2 => ?_)
  obtain ⟨x_3, rfl, lx_3, ux_3⟩ := tt_vi hv_1
  refine jj_sipush (v := 1300) C dX5_putByte_4 (by decide) ?_
  refine jj_icmp_ge (tgt := 30) C dX5_putByte_7 (by decide) (fun c_4 => ?_) (fun c_4 => ?_)
  · have z_c_4 := jc_le (a := (1300)) (b := (x_3).toInt) c_4 (by decide) rfl
    exact jj_vret C ⟨[], pl0, rfl, rfl, hok, hfr, hfa, rfl⟩ dX5_putByte_30 (jj_le rfl) (jj_le rfl)
  · have z_c_4 := jc_nle (a := (1300)) (b := (x_3).toInt) c_4 (by decide) rfl
    refine jj_aload_n C dX5_putByte_10 rfl ?_
    refine tt_get C hok jk_6 0 (by decide) jw_b2cc65244f (t := (2, 13, 0)) hk0 (by decide) rfl rfl dX5_putByte_11 (fun v_5 hv_5 hf_6 => ?_)
    obtain ⟨a_7, rfl, ka_7⟩ := tt_vr hv_5
    refine jj_aload_n C dX5_putByte_14 rfl ?_
    refine tt_getF C hok jk_6 1 (by decide) jw_a08fdff3bb (t := (0, 0, 1300)) hk0 (by decide) rfl rfl hf_2 dX5_putByte_15 ?_
    refine jj_iload_n C dX5_putByte_18 rfl ?_
    refine tl_bast C hok (t := (0, (-2147483648), 2147483647)) ka_7 (by decide) rfl (vp_in_iff.mpr ⟨by omega, by omega⟩) (tt_ia _) dX5_putByte_19 (fun pl_8 hok_9 tr tl => ?_)
    replace hf_2 := tr _ _ _ hf_2
    replace hf_6 := tr _ _ _ hf_6
    replace hfr := hfr.arr tr
    replace hfa := hfa.wr ka_7 tl (by decide)
    refine jj_aload_n C dX5_putByte_20 rfl ?_
    refine jj_dup C dX5_putByte_21 rfl ?_
    refine tt_getF C hok_9 jk_6 1 (by decide) jw_a08fdff3bb (t := (0, 0, 1300)) hk0 (by decide) rfl rfl hf_2 dX5_putByte_22 ?_
    refine jj_iconst (v := 1) C dX5_putByte_25 (by decide) ?_
    obtain ⟨x_10, ex_10, vx_10⟩ := tt_iadd (x := x_3) (y := (1 : Int32)) (a := x_3.toInt) rfl (b := 1) (by decide) (by omega) (by omega)
    refine jj_iadd (v := x_10) C dX5_putByte_26 ex_10 ?_
    refine rl_put C hok_9 jk_6 1 (by decide) jw_a08fdff3bb (t := (0, 0, 1300)) hk0 (by decide) rfl rfl rfl (tt_iv (by omega) (by omega)) rfl rfl dX5_putByte_27 (fun pl_11 hok_12 tr hn tl => ?_)
    replace hf_6 := tr _ _ _ (Or.inr (by decide)) hf_6
    have hf_13 := hn
    replace hfr := hfr.put hk0 tr (by decide)
    replace hfa := hfa.all tl
    exact jj_vret C ⟨[], pl_11, rfl, rfl, hok_12, hfr, hfa, rfl⟩ dX5_putByte_30 (jj_le rfl) (jj_le rfl)

set_option maxHeartbeats 4000000 in
set_option maxRecDepth 100000 in
theorem tc_X5_putByte_9 {l : Launch} (hl : l.stackTraces = false) (D : va_G) (cA : Nat → ClassId) (ak : (Nat → Nat) × (Nat → Nat)) {Kd : Nat → Nat} (h0 : Nat) (hk0 : Kd h0 = 12) {pl0 : va_W} (hok : tt_ok tt_tk cA Kd pl0) : jj_M l D cA ak yX5_putByte (.code yX5_putByte cX5_putByte 2 none) 0 0 0 0 ([] ++ pl0) [.ref h0, .int 116] (tt_O (fun rx pl1 r => rx = [] ∧ tt_ok tt_tk cA Kd pl1 ∧ tt_fr Kd [(12, 1)] pl0 pl1 ∧ tt_fa Kd [13] pl0 pl1 ∧ ((r = none)))) (tt_OX (fun _ _ _ => False)) := by
  refine jj_start hl (by decide) jw_f2c63e4be6 (jj_le rfl) ?_
  intro p e s m args below meth c A hargs hA C hex hmn
  have hfr := tt_fr.refl (K := Kd) (WS := [(12, 1)]) pl0
  have hfa := tt_fa.refl (K := Kd) (WA := [13]) pl0
  refine jj_aload_n C dX5_putByte_0 rfl ?_
  refine tt_get C hok jk_6 1 (by decide) jw_a08fdff3bb (t := (0, 0, 1300)) hk0 (by decide) rfl rfl dX5_putByte_1 (fun v_1 hv_1 hf_2 => ?_)
  obtain ⟨x_3, rfl, lx_3, ux_3⟩ := tt_vi hv_1
  refine jj_sipush (v := 1300) C dX5_putByte_4 (by decide) ?_
  refine jj_icmp_ge (tgt := 30) C dX5_putByte_7 (by decide) (fun c_4 => ?_) (fun c_4 => ?_)
  · have z_c_4 := jc_le (a := (1300)) (b := (x_3).toInt) c_4 (by decide) rfl
    exact jj_vret C ⟨[], pl0, rfl, rfl, hok, hfr, hfa, rfl⟩ dX5_putByte_30 (jj_le rfl) (jj_le rfl)
  · have z_c_4 := jc_nle (a := (1300)) (b := (x_3).toInt) c_4 (by decide) rfl
    refine jj_aload_n C dX5_putByte_10 rfl ?_
    refine tt_get C hok jk_6 0 (by decide) jw_b2cc65244f (t := (2, 13, 0)) hk0 (by decide) rfl rfl dX5_putByte_11 (fun v_5 hv_5 hf_6 => ?_)
    obtain ⟨a_7, rfl, ka_7⟩ := tt_vr hv_5
    refine jj_aload_n C dX5_putByte_14 rfl ?_
    refine tt_getF C hok jk_6 1 (by decide) jw_a08fdff3bb (t := (0, 0, 1300)) hk0 (by decide) rfl rfl hf_2 dX5_putByte_15 ?_
    refine jj_iload_n C dX5_putByte_18 rfl ?_
    refine tl_bast C hok (t := (0, (-2147483648), 2147483647)) ka_7 (by decide) rfl (vp_in_iff.mpr ⟨by omega, by omega⟩) (tt_ia _) dX5_putByte_19 (fun pl_8 hok_9 tr tl => ?_)
    replace hf_2 := tr _ _ _ hf_2
    replace hf_6 := tr _ _ _ hf_6
    replace hfr := hfr.arr tr
    replace hfa := hfa.wr ka_7 tl (by decide)
    refine jj_aload_n C dX5_putByte_20 rfl ?_
    refine jj_dup C dX5_putByte_21 rfl ?_
    refine tt_getF C hok_9 jk_6 1 (by decide) jw_a08fdff3bb (t := (0, 0, 1300)) hk0 (by decide) rfl rfl hf_2 dX5_putByte_22 ?_
    refine jj_iconst (v := 1) C dX5_putByte_25 (by decide) ?_
    obtain ⟨x_10, ex_10, vx_10⟩ := tt_iadd (x := x_3) (y := (1 : Int32)) (a := x_3.toInt) rfl (b := 1) (by decide) (by omega) (by omega)
    refine jj_iadd (v := x_10) C dX5_putByte_26 ex_10 ?_
    refine rl_put C hok_9 jk_6 1 (by decide) jw_a08fdff3bb (t := (0, 0, 1300)) hk0 (by decide) rfl rfl rfl (tt_iv (by omega) (by omega)) rfl rfl dX5_putByte_27 (fun pl_11 hok_12 tr hn tl => ?_)
    replace hf_6 := tr _ _ _ (Or.inr (by decide)) hf_6
    have hf_13 := hn
    replace hfr := hfr.put hk0 tr (by decide)
    replace hfa := hfa.all tl
    exact jj_vret C ⟨[], pl_11, rfl, rfl, hok_12, hfr, hfa, rfl⟩ dX5_putByte_30 (jj_le rfl) (jj_le rfl)

set_option maxHeartbeats 4000000 in
set_option maxRecDepth 100000 in
theorem tc_X5_putText_3 {l : Launch} (hl : l.stackTraces = false) (D : va_G) (cA : Nat → ClassId) (ak : (Nat → Nat) × (Nat → Nat)) {Kd : Nat → Nat} (h0 : Nat) (hk0 : Kd h0 = 12) {pl0 : va_W} (hok : tt_ok tt_tk cA Kd pl0) : jj_M l D cA ak yX5_putText (.code yX5_putText cX5_putText 3 none) 4 85 0 0 ([] ++ pl0) [.ref h0, .ref (ak.1 15)] (tt_O (fun rx pl1 r => rx = [] ∧ tt_ok tt_tk cA Kd pl1 ∧ tt_fr Kd [(12, 1)] pl0 pl1 ∧ tt_fa Kd [13] pl0 pl1 ∧ ((r = none)))) (tt_OX (fun _ _ _ => False)) := by
  refine jj_start hl (by decide) jw_5a16104e3b (jj_le rfl) ?_
  intro p e s m args below meth c A hargs hA C hex hmn
  have hfr := tt_fr.refl (K := Kd) (WS := [(12, 1)]) pl0
  have hfa := tt_fa.refl (K := Kd) (WA := [13]) pl0
  refine jj_iconst (v := 0) C dX5_putText_0 (by decide) ?_
  refine jj_istore_n C dX5_putText_1 (by decide) rfl ?_
  refine jj_iload_n C dX5_putText_2 rfl ?_
  refine jj_aload_n C dX5_putText_3 rfl ?_
  refine tt_call0Vs (rest := [.int 0]) C (ct_J0_length_8abf5_16 hl D cA ak) 15 (by decide) rfl jw_07c280d6f3 jw_b1ce304435 jw_d08f03a22e jw_4ea6285965 jw_bbc7045666 jn_J0_length_8abf5 rfl (jj_le rfl) (jj_le rfl) (jj_le rfl) (jj_le rfl) (jj_le rfl) dX5_putText_4 rfl (fun w1 r O_1 => ?_)
  obtain ⟨-, rfl⟩ := O_1
  refine jj_icmp_geF (tgt := 26) C dX5_putText_7 (by decide) (by decide) ?_
  refine jj_aload_n C dX5_putText_10 rfl ?_
  refine jj_aload_n C dX5_putText_11 rfl ?_
  refine jj_iload_n C dX5_putText_12 rfl ?_
  refine tt_call0Vs (rest := [.ref h0]) C (ct_J0_charAt_5068e_86 hl D cA ak) 15 (by decide) rfl jw_d18806e438 jw_acb9174fef jw_675efe837b jw_4ea6285965 jw_391c0f56bd jn_J0_charAt_5068e rfl (jj_le rfl) (jj_le rfl) (jj_le rfl) (jj_le rfl) (jj_le rfl) dX5_putText_13 rfl (fun w1 r O_2 => ?_)
  obtain ⟨-, rfl⟩ := O_2
  refine jj_i2b (v := 32) C dX5_putText_16 (by decide) ?_
  obtain ⟨qc, gs, hqc⟩ := tt_recv (cx := []) hok hk0 (by decide) rfl
  refine tt_callV (rest := []) C (tc_X5_putByte_4 hl D cA ak h0 hk0 hok) [] [] rfl rfl (by decide) (by decide) (by decide) qc hqc rfl rfl jw_cc20a77ce3 jw_211b56f0bf jw_e8686d9408 jw_30ed28480a jw_f2c63e4be6 jn_X5_putByte rfl (jj_le rfl) (jj_le rfl) (jj_le rfl) (jj_le rfl) (jj_le rfl) dX5_putText_17 rfl (fun _ _ _ hX => hX.elim) (fun rx pl_3 r O_6 => ?_)
  obtain ⟨rfl, hok_4, hr_5, hfa9, hR_8⟩ := O_6
  replace hfr := hfr.trans (hr_5.sub (by decide))
  replace hfa := hfa.trans (hfa9.sub (by decide))
  obtain rfl := hR_8
  refine jj_iinc (v := 1) C dX5_putText_20 rfl (by decide) (by decide) rfl ?_
  refine jj_goto (tgt := 2) C dX5_putText_23 (by decide) ?_
  refine jj_iload_n C dX5_putText_2 rfl ?_
  refine jj_aload_n C dX5_putText_3 rfl ?_
  refine tt_call0Vs (rest := [.int 1]) C (ct_J0_length_8abf5_16 hl D cA ak) 15 (by decide) rfl jw_07c280d6f3 jw_b1ce304435 jw_d08f03a22e jw_4ea6285965 jw_bbc7045666 jn_J0_length_8abf5 rfl (jj_le rfl) (jj_le rfl) (jj_le rfl) (jj_le rfl) (jj_le rfl) dX5_putText_4 rfl (fun w1 r O_11 => ?_)
  obtain ⟨-, rfl⟩ := O_11
  refine jj_icmp_geF (tgt := 26) C dX5_putText_7 (by decide) (by decide) ?_
  refine jj_aload_n C dX5_putText_10 rfl ?_
  refine jj_aload_n C dX5_putText_11 rfl ?_
  refine jj_iload_n C dX5_putText_12 rfl ?_
  refine tt_call0Vs (rest := [.ref h0]) C (ct_J0_charAt_5068e_87 hl D cA ak) 15 (by decide) rfl jw_d18806e438 jw_acb9174fef jw_675efe837b jw_4ea6285965 jw_391c0f56bd jn_J0_charAt_5068e rfl (jj_le rfl) (jj_le rfl) (jj_le rfl) (jj_le rfl) (jj_le rfl) dX5_putText_13 rfl (fun w1 r O_12 => ?_)
  obtain ⟨-, rfl⟩ := O_12
  refine jj_i2b (v := 97) C dX5_putText_16 (by decide) ?_
  obtain ⟨qc, gs, hqc⟩ := tt_recv (cx := []) hok_4 hk0 (by decide) rfl
  refine tt_callV (rest := []) C (tc_X5_putByte_2 hl D cA ak h0 hk0 hok_4) [] [] rfl rfl (by decide) (by decide) (by decide) qc hqc rfl rfl jw_cc20a77ce3 jw_211b56f0bf jw_e8686d9408 jw_30ed28480a jw_f2c63e4be6 jn_X5_putByte rfl (jj_le rfl) (jj_le rfl) (jj_le rfl) (jj_le rfl) (jj_le rfl) dX5_putText_17 rfl (fun _ _ _ hX => hX.elim) (fun rx pl_13 r O_16 => ?_)
  obtain ⟨rfl, hok_14, hr_15, hfa9, hR_18⟩ := O_16
  replace hfr := hfr.trans (hr_15.sub (by decide))
  replace hfa := hfa.trans (hfa9.sub (by decide))
  obtain rfl := hR_18
  refine jj_iinc (v := 2) C dX5_putText_20 rfl (by decide) (by decide) rfl ?_
  refine jj_goto (tgt := 2) C dX5_putText_23 (by decide) ?_
  refine jj_iload_n C dX5_putText_2 rfl ?_
  refine jj_aload_n C dX5_putText_3 rfl ?_
  refine tt_call0Vs (rest := [.int 2]) C (ct_J0_length_8abf5_16 hl D cA ak) 15 (by decide) rfl jw_07c280d6f3 jw_b1ce304435 jw_d08f03a22e jw_4ea6285965 jw_bbc7045666 jn_J0_length_8abf5 rfl (jj_le rfl) (jj_le rfl) (jj_le rfl) (jj_le rfl) (jj_le rfl) dX5_putText_4 rfl (fun w1 r O_21 => ?_)
  obtain ⟨-, rfl⟩ := O_21
  refine jj_icmp_geF (tgt := 26) C dX5_putText_7 (by decide) (by decide) ?_
  refine jj_aload_n C dX5_putText_10 rfl ?_
  refine jj_aload_n C dX5_putText_11 rfl ?_
  refine jj_iload_n C dX5_putText_12 rfl ?_
  refine tt_call0Vs (rest := [.ref h0]) C (ct_J0_charAt_5068e_88 hl D cA ak) 15 (by decide) rfl jw_d18806e438 jw_acb9174fef jw_675efe837b jw_4ea6285965 jw_391c0f56bd jn_J0_charAt_5068e rfl (jj_le rfl) (jj_le rfl) (jj_le rfl) (jj_le rfl) (jj_le rfl) dX5_putText_13 rfl (fun w1 r O_22 => ?_)
  obtain ⟨-, rfl⟩ := O_22
  refine jj_i2b (v := 115) C dX5_putText_16 (by decide) ?_
  obtain ⟨qc, gs, hqc⟩ := tt_recv (cx := []) hok_14 hk0 (by decide) rfl
  refine tt_callV (rest := []) C (tc_X5_putByte_7 hl D cA ak h0 hk0 hok_14) [] [] rfl rfl (by decide) (by decide) (by decide) qc hqc rfl rfl jw_cc20a77ce3 jw_211b56f0bf jw_e8686d9408 jw_30ed28480a jw_f2c63e4be6 jn_X5_putByte rfl (jj_le rfl) (jj_le rfl) (jj_le rfl) (jj_le rfl) (jj_le rfl) dX5_putText_17 rfl (fun _ _ _ hX => hX.elim) (fun rx pl_23 r O_26 => ?_)
  obtain ⟨rfl, hok_24, hr_25, hfa9, hR_28⟩ := O_26
  replace hfr := hfr.trans (hr_25.sub (by decide))
  replace hfa := hfa.trans (hfa9.sub (by decide))
  obtain rfl := hR_28
  refine jj_iinc (v := 3) C dX5_putText_20 rfl (by decide) (by decide) rfl ?_
  refine jj_goto (tgt := 2) C dX5_putText_23 (by decide) ?_
  refine jj_iload_n C dX5_putText_2 rfl ?_
  refine jj_aload_n C dX5_putText_3 rfl ?_
  refine tt_call0Vs (rest := [.int 3]) C (ct_J0_length_8abf5_16 hl D cA ak) 15 (by decide) rfl jw_07c280d6f3 jw_b1ce304435 jw_d08f03a22e jw_4ea6285965 jw_bbc7045666 jn_J0_length_8abf5 rfl (jj_le rfl) (jj_le rfl) (jj_le rfl) (jj_le rfl) (jj_le rfl) dX5_putText_4 rfl (fun w1 r O_31 => ?_)
  obtain ⟨-, rfl⟩ := O_31
  refine jj_icmp_geF (tgt := 26) C dX5_putText_7 (by decide) (by decide) ?_
  refine jj_aload_n C dX5_putText_10 rfl ?_
  refine jj_aload_n C dX5_putText_11 rfl ?_
  refine jj_iload_n C dX5_putText_12 rfl ?_
  refine tt_call0Vs (rest := [.ref h0]) C (ct_J0_charAt_5068e_89 hl D cA ak) 15 (by decide) rfl jw_d18806e438 jw_acb9174fef jw_675efe837b jw_4ea6285965 jw_391c0f56bd jn_J0_charAt_5068e rfl (jj_le rfl) (jj_le rfl) (jj_le rfl) (jj_le rfl) (jj_le rfl) dX5_putText_13 rfl (fun w1 r O_32 => ?_)
  obtain ⟨-, rfl⟩ := O_32
  refine jj_i2b (v := 115) C dX5_putText_16 (by decide) ?_
  obtain ⟨qc, gs, hqc⟩ := tt_recv (cx := []) hok_24 hk0 (by decide) rfl
  refine tt_callV (rest := []) C (tc_X5_putByte_7 hl D cA ak h0 hk0 hok_24) [] [] rfl rfl (by decide) (by decide) (by decide) qc hqc rfl rfl jw_cc20a77ce3 jw_211b56f0bf jw_e8686d9408 jw_30ed28480a jw_f2c63e4be6 jn_X5_putByte rfl (jj_le rfl) (jj_le rfl) (jj_le rfl) (jj_le rfl) (jj_le rfl) dX5_putText_17 rfl (fun _ _ _ hX => hX.elim) (fun rx pl_33 r O_36 => ?_)
  obtain ⟨rfl, hok_34, hr_35, hfa9, hR_38⟩ := O_36
  replace hfr := hfr.trans (hr_35.sub (by decide))
  replace hfa := hfa.trans (hfa9.sub (by decide))
  obtain rfl := hR_38
  refine jj_iinc (v := 4) C dX5_putText_20 rfl (by decide) (by decide) rfl ?_
  refine jj_goto (tgt := 2) C dX5_putText_23 (by decide) ?_
  refine jj_iload_n C dX5_putText_2 rfl ?_
  refine jj_aload_n C dX5_putText_3 rfl ?_
  refine tt_call0Vs (rest := [.int 4]) C (ct_J0_length_8abf5_16 hl D cA ak) 15 (by decide) rfl jw_07c280d6f3 jw_b1ce304435 jw_d08f03a22e jw_4ea6285965 jw_bbc7045666 jn_J0_length_8abf5 rfl (jj_le rfl) (jj_le rfl) (jj_le rfl) (jj_le rfl) (jj_le rfl) dX5_putText_4 rfl (fun w1 r O_41 => ?_)
  obtain ⟨-, rfl⟩ := O_41
  refine jj_icmp_geF (tgt := 26) C dX5_putText_7 (by decide) (by decide) ?_
  refine jj_aload_n C dX5_putText_10 rfl ?_
  refine jj_aload_n C dX5_putText_11 rfl ?_
  refine jj_iload_n C dX5_putText_12 rfl ?_
  refine tt_call0Vs (rest := [.ref h0]) C (ct_J0_charAt_5068e_90 hl D cA ak) 15 (by decide) rfl jw_d18806e438 jw_acb9174fef jw_675efe837b jw_4ea6285965 jw_391c0f56bd jn_J0_charAt_5068e rfl (jj_le rfl) (jj_le rfl) (jj_le rfl) (jj_le rfl) (jj_le rfl) dX5_putText_13 rfl (fun w1 r O_42 => ?_)
  obtain ⟨-, rfl⟩ := O_42
  refine jj_i2b (v := 101) C dX5_putText_16 (by decide) ?_
  obtain ⟨qc, gs, hqc⟩ := tt_recv (cx := []) hok_34 hk0 (by decide) rfl
  refine tt_callV (rest := []) C (tc_X5_putByte_8 hl D cA ak h0 hk0 hok_34) [] [] rfl rfl (by decide) (by decide) (by decide) qc hqc rfl rfl jw_cc20a77ce3 jw_211b56f0bf jw_e8686d9408 jw_30ed28480a jw_f2c63e4be6 jn_X5_putByte rfl (jj_le rfl) (jj_le rfl) (jj_le rfl) (jj_le rfl) (jj_le rfl) dX5_putText_17 rfl (fun _ _ _ hX => hX.elim) (fun rx pl_43 r O_46 => ?_)
  obtain ⟨rfl, hok_44, hr_45, hfa9, hR_48⟩ := O_46
  replace hfr := hfr.trans (hr_45.sub (by decide))
  replace hfa := hfa.trans (hfa9.sub (by decide))
  obtain rfl := hR_48
  refine jj_iinc (v := 5) C dX5_putText_20 rfl (by decide) (by decide) rfl ?_
  refine jj_goto (tgt := 2) C dX5_putText_23 (by decide) ?_
  refine jj_iload_n C dX5_putText_2 rfl ?_
  refine jj_aload_n C dX5_putText_3 rfl ?_
  refine tt_call0Vs (rest := [.int 5]) C (ct_J0_length_8abf5_16 hl D cA ak) 15 (by decide) rfl jw_07c280d6f3 jw_b1ce304435 jw_d08f03a22e jw_4ea6285965 jw_bbc7045666 jn_J0_length_8abf5 rfl (jj_le rfl) (jj_le rfl) (jj_le rfl) (jj_le rfl) (jj_le rfl) dX5_putText_4 rfl (fun w1 r O_51 => ?_)
  obtain ⟨-, rfl⟩ := O_51
  refine jj_icmp_geF (tgt := 26) C dX5_putText_7 (by decide) (by decide) ?_
  refine jj_aload_n C dX5_putText_10 rfl ?_
  refine jj_aload_n C dX5_putText_11 rfl ?_
  refine jj_iload_n C dX5_putText_12 rfl ?_
  refine tt_call0Vs (rest := [.ref h0]) C (ct_J0_charAt_5068e_91 hl D cA ak) 15 (by decide) rfl jw_d18806e438 jw_acb9174fef jw_675efe837b jw_4ea6285965 jw_391c0f56bd jn_J0_charAt_5068e rfl (jj_le rfl) (jj_le rfl) (jj_le rfl) (jj_le rfl) (jj_le rfl) dX5_putText_13 rfl (fun w1 r O_52 => ?_)
  obtain ⟨-, rfl⟩ := O_52
  refine jj_i2b (v := 116) C dX5_putText_16 (by decide) ?_
  obtain ⟨qc, gs, hqc⟩ := tt_recv (cx := []) hok_44 hk0 (by decide) rfl
  refine tt_callV (rest := []) C (tc_X5_putByte_9 hl D cA ak h0 hk0 hok_44) [] [] rfl rfl (by decide) (by decide) (by decide) qc hqc rfl rfl jw_cc20a77ce3 jw_211b56f0bf jw_e8686d9408 jw_30ed28480a jw_f2c63e4be6 jn_X5_putByte rfl (jj_le rfl) (jj_le rfl) (jj_le rfl) (jj_le rfl) (jj_le rfl) dX5_putText_17 rfl (fun _ _ _ hX => hX.elim) (fun rx pl_53 r O_56 => ?_)
  obtain ⟨rfl, hok_54, hr_55, hfa9, hR_58⟩ := O_56
  replace hfr := hfr.trans (hr_55.sub (by decide))
  replace hfa := hfa.trans (hfa9.sub (by decide))
  obtain rfl := hR_58
  refine jj_iinc (v := 6) C dX5_putText_20 rfl (by decide) (by decide) rfl ?_
  refine jj_goto (tgt := 2) C dX5_putText_23 (by decide) ?_
  refine jj_iload_n C dX5_putText_2 rfl ?_
  refine jj_aload_n C dX5_putText_3 rfl ?_
  refine tt_call0Vs (rest := [.int 6]) C (ct_J0_length_8abf5_16 hl D cA ak) 15 (by decide) rfl jw_07c280d6f3 jw_b1ce304435 jw_d08f03a22e jw_4ea6285965 jw_bbc7045666 jn_J0_length_8abf5 rfl (jj_le rfl) (jj_le rfl) (jj_le rfl) (jj_le rfl) (jj_le rfl) dX5_putText_4 rfl (fun w1 r O_61 => ?_)
  obtain ⟨-, rfl⟩ := O_61
  refine jj_icmp_geF (tgt := 26) C dX5_putText_7 (by decide) (by decide) ?_
  refine jj_aload_n C dX5_putText_10 rfl ?_
  refine jj_aload_n C dX5_putText_11 rfl ?_
  refine jj_iload_n C dX5_putText_12 rfl ?_
  refine tt_call0Vs (rest := [.ref h0]) C (ct_J0_charAt_5068e_92 hl D cA ak) 15 (by decide) rfl jw_d18806e438 jw_acb9174fef jw_675efe837b jw_4ea6285965 jw_391c0f56bd jn_J0_charAt_5068e rfl (jj_le rfl) (jj_le rfl) (jj_le rfl) (jj_le rfl) (jj_le rfl) dX5_putText_13 rfl (fun w1 r O_62 => ?_)
  obtain ⟨-, rfl⟩ := O_62
  refine jj_i2b (v := 115) C dX5_putText_16 (by decide) ?_
  obtain ⟨qc, gs, hqc⟩ := tt_recv (cx := []) hok_54 hk0 (by decide) rfl
  refine tt_callV (rest := []) C (tc_X5_putByte_7 hl D cA ak h0 hk0 hok_54) [] [] rfl rfl (by decide) (by decide) (by decide) qc hqc rfl rfl jw_cc20a77ce3 jw_211b56f0bf jw_e8686d9408 jw_30ed28480a jw_f2c63e4be6 jn_X5_putByte rfl (jj_le rfl) (jj_le rfl) (jj_le rfl) (jj_le rfl) (jj_le rfl) dX5_putText_17 rfl (fun _ _ _ hX => hX.elim) (fun rx pl_63 r O_66 => ?_)
  obtain ⟨rfl, hok_64, hr_65, hfa9, hR_68⟩ := O_66
  replace hfr := hfr.trans (hr_65.sub (by decide))
  replace hfa := hfa.trans (hfa9.sub (by decide))
  obtain rfl := hR_68
  refine jj_iinc (v := 7) C dX5_putText_20 rfl (by decide) (by decide) rfl ?_
  refine jj_goto (tgt := 2) C dX5_putText_23 (by decide) ?_
  refine jj_iload_n C dX5_putText_2 rfl ?_
  refine jj_aload_n C dX5_putText_3 rfl ?_
  refine tt_call0Vs (rest := [.int 7]) C (ct_J0_length_8abf5_16 hl D cA ak) 15 (by decide) rfl jw_07c280d6f3 jw_b1ce304435 jw_d08f03a22e jw_4ea6285965 jw_bbc7045666 jn_J0_length_8abf5 rfl (jj_le rfl) (jj_le rfl) (jj_le rfl) (jj_le rfl) (jj_le rfl) dX5_putText_4 rfl (fun w1 r O_71 => ?_)
  obtain ⟨-, rfl⟩ := O_71
  refine jj_icmp_geF (tgt := 26) C dX5_putText_7 (by decide) (by decide) ?_
  refine jj_aload_n C dX5_putText_10 rfl ?_
  refine jj_aload_n C dX5_putText_11 rfl ?_
  refine jj_iload_n C dX5_putText_12 rfl ?_
  refine tt_call0Vs (rest := [.ref h0]) C (ct_J0_charAt_5068e_93 hl D cA ak) 15 (by decide) rfl jw_d18806e438 jw_acb9174fef jw_675efe837b jw_4ea6285965 jw_391c0f56bd jn_J0_charAt_5068e rfl (jj_le rfl) (jj_le rfl) (jj_le rfl) (jj_le rfl) (jj_le rfl) dX5_putText_13 rfl (fun w1 r O_72 => ?_)
  obtain ⟨-, rfl⟩ := O_72
  refine jj_i2b (v := 32) C dX5_putText_16 (by decide) ?_
  obtain ⟨qc, gs, hqc⟩ := tt_recv (cx := []) hok_64 hk0 (by decide) rfl
  refine tt_callV (rest := []) C (tc_X5_putByte_4 hl D cA ak h0 hk0 hok_64) [] [] rfl rfl (by decide) (by decide) (by decide) qc hqc rfl rfl jw_cc20a77ce3 jw_211b56f0bf jw_e8686d9408 jw_30ed28480a jw_f2c63e4be6 jn_X5_putByte rfl (jj_le rfl) (jj_le rfl) (jj_le rfl) (jj_le rfl) (jj_le rfl) dX5_putText_17 rfl (fun _ _ _ hX => hX.elim) (fun rx pl_73 r O_76 => ?_)
  obtain ⟨rfl, hok_74, hr_75, hfa9, hR_78⟩ := O_76
  replace hfr := hfr.trans (hr_75.sub (by decide))
  replace hfa := hfa.trans (hfa9.sub (by decide))
  obtain rfl := hR_78
  refine jj_iinc (v := 8) C dX5_putText_20 rfl (by decide) (by decide) rfl ?_
  refine jj_goto (tgt := 2) C dX5_putText_23 (by decide) ?_
  refine jj_iload_n C dX5_putText_2 rfl ?_
  refine jj_aload_n C dX5_putText_3 rfl ?_
  refine tt_call0Vs (rest := [.int 8]) C (ct_J0_length_8abf5_16 hl D cA ak) 15 (by decide) rfl jw_07c280d6f3 jw_b1ce304435 jw_d08f03a22e jw_4ea6285965 jw_bbc7045666 jn_J0_length_8abf5 rfl (jj_le rfl) (jj_le rfl) (jj_le rfl) (jj_le rfl) (jj_le rfl) dX5_putText_4 rfl (fun w1 r O_81 => ?_)
  obtain ⟨-, rfl⟩ := O_81
  refine jj_icmp_geT (tgt := 26) C dX5_putText_7 (by decide) (by decide) ?_
  exact jj_vret C ⟨[], pl_73, rfl, rfl, hok_74, hfr, hfa, rfl⟩ dX5_putText_26 (jj_le rfl) (jj_le rfl)

set_option maxHeartbeats 4000000 in
set_option maxRecDepth 100000 in
theorem tc_X5_putByte_10 {l : Launch} (hl : l.stackTraces = false) (D : va_G) (cA : Nat → ClassId) (ak : (Nat → Nat) × (Nat → Nat)) {Kd : Nat → Nat} (h0 : Nat) (hk0 : Kd h0 = 12) {pl0 : va_W} (hok : tt_ok tt_tk cA Kd pl0) : jj_M l D cA ak yX5_putByte (.code yX5_putByte cX5_putByte 2 none) 0 0 0 0 ([] ++ pl0) [.ref h0, .int 10] (tt_O (fun rx pl1 r => rx = [] ∧ tt_ok tt_tk cA Kd pl1 ∧ tt_fr Kd [(12, 1)] pl0 pl1 ∧ tt_fa Kd [13] pl0 pl1 ∧ ((r = none)))) (tt_OX (fun _ _ _ => False)) := by
  refine jj_start hl (by decide) jw_f2c63e4be6 (jj_le rfl) ?_
  intro p e s m args below meth c A hargs hA C hex hmn
  have hfr := tt_fr.refl (K := Kd) (WS := [(12, 1)]) pl0
  have hfa := tt_fa.refl (K := Kd) (WA := [13]) pl0
  refine jj_aload_n C dX5_putByte_0 rfl ?_
  refine tt_get C hok jk_6 1 (by decide) jw_a08fdff3bb (t := (0, 0, 1300)) hk0 (by decide) rfl rfl dX5_putByte_1 (fun v_1 hv_1 hf_2 => ?_)
  obtain ⟨x_3, rfl, lx_3, ux_3⟩ := tt_vi hv_1
  refine jj_sipush (v := 1300) C dX5_putByte_4 (by decide) ?_
  refine jj_icmp_ge (tgt := 30) C dX5_putByte_7 (by decide) (fun c_4 => ?_) (fun c_4 => ?_)
  · have z_c_4 := jc_le (a := (1300)) (b := (x_3).toInt) c_4 (by decide) rfl
    exact jj_vret C ⟨[], pl0, rfl, rfl, hok, hfr, hfa, rfl⟩ dX5_putByte_30 (jj_le rfl) (jj_le rfl)
  · have z_c_4 := jc_nle (a := (1300)) (b := (x_3).toInt) c_4 (by decide) rfl
    refine jj_aload_n C dX5_putByte_10 rfl ?_
    refine tt_get C hok jk_6 0 (by decide) jw_b2cc65244f (t := (2, 13, 0)) hk0 (by decide) rfl rfl dX5_putByte_11 (fun v_5 hv_5 hf_6 => ?_)
    obtain ⟨a_7, rfl, ka_7⟩ := tt_vr hv_5
    refine jj_aload_n C dX5_putByte_14 rfl ?_
    refine tt_getF C hok jk_6 1 (by decide) jw_a08fdff3bb (t := (0, 0, 1300)) hk0 (by decide) rfl rfl hf_2 dX5_putByte_15 ?_
    refine jj_iload_n C dX5_putByte_18 rfl ?_
    refine tl_bast C hok (t := (0, (-2147483648), 2147483647)) ka_7 (by decide) rfl (vp_in_iff.mpr ⟨by omega, by omega⟩) (tt_ia _) dX5_putByte_19 (fun pl_8 hok_9 tr tl => ?_)
    replace hf_2 := tr _ _ _ hf_2
    replace hf_6 := tr _ _ _ hf_6
    replace hfr := hfr.arr tr
    replace hfa := hfa.wr ka_7 tl (by decide)
    refine jj_aload_n C dX5_putByte_20 rfl ?_
    refine jj_dup C dX5_putByte_21 rfl ?_
    refine tt_getF C hok_9 jk_6 1 (by decide) jw_a08fdff3bb (t := (0, 0, 1300)) hk0 (by decide) rfl rfl hf_2 dX5_putByte_22 ?_
    refine jj_iconst (v := 1) C dX5_putByte_25 (by decide) ?_
    obtain ⟨x_10, ex_10, vx_10⟩ := tt_iadd (x := x_3) (y := (1 : Int32)) (a := x_3.toInt) rfl (b := 1) (by decide) (by omega) (by omega)
    refine jj_iadd (v := x_10) C dX5_putByte_26 ex_10 ?_
    refine rl_put C hok_9 jk_6 1 (by decide) jw_a08fdff3bb (t := (0, 0, 1300)) hk0 (by decide) rfl rfl rfl (tt_iv (by omega) (by omega)) rfl rfl dX5_putByte_27 (fun pl_11 hok_12 tr hn tl => ?_)
    replace hf_6 := tr _ _ _ (Or.inr (by decide)) hf_6
    have hf_13 := hn
    replace hfr := hfr.put hk0 tr (by decide)
    replace hfa := hfa.all tl
    exact jj_vret C ⟨[], pl_11, rfl, rfl, hok_12, hfr, hfa, rfl⟩ dX5_putByte_30 (jj_le rfl) (jj_le rfl)

set_option maxHeartbeats 4000000 in
set_option maxRecDepth 100000 in
theorem tc_X5_putText_4 {l : Launch} (hl : l.stackTraces = false) (D : va_G) (cA : Nat → ClassId) (ak : (Nat → Nat) × (Nat → Nat)) {Kd : Nat → Nat} (h0 : Nat) (hk0 : Kd h0 = 12) {pl0 : va_W} (hok : tt_ok tt_tk cA Kd pl0) : jj_M l D cA ak yX5_putText (.code yX5_putText cX5_putText 3 none) 4 85 0 0 ([] ++ pl0) [.ref h0, .ref (ak.1 16)] (tt_O (fun rx pl1 r => rx = [] ∧ tt_ok tt_tk cA Kd pl1 ∧ tt_fr Kd [(12, 1)] pl0 pl1 ∧ tt_fa Kd [13] pl0 pl1 ∧ ((r = none)))) (tt_OX (fun _ _ _ => False)) := by
  refine jj_start hl (by decide) jw_5a16104e3b (jj_le rfl) ?_
  intro p e s m args below meth c A hargs hA C hex hmn
  have hfr := tt_fr.refl (K := Kd) (WS := [(12, 1)]) pl0
  have hfa := tt_fa.refl (K := Kd) (WA := [13]) pl0
  refine jj_iconst (v := 0) C dX5_putText_0 (by decide) ?_
  refine jj_istore_n C dX5_putText_1 (by decide) rfl ?_
  refine jj_iload_n C dX5_putText_2 rfl ?_
  refine jj_aload_n C dX5_putText_3 rfl ?_
  refine tt_call0Vs (rest := [.int 0]) C (ct_J0_length_8abf5_17 hl D cA ak) 16 (by decide) rfl jw_07c280d6f3 jw_b1ce304435 jw_d08f03a22e jw_4ea6285965 jw_bbc7045666 jn_J0_length_8abf5 rfl (jj_le rfl) (jj_le rfl) (jj_le rfl) (jj_le rfl) (jj_le rfl) dX5_putText_4 rfl (fun w1 r O_1 => ?_)
  obtain ⟨-, rfl⟩ := O_1
  refine jj_icmp_geF (tgt := 26) C dX5_putText_7 (by decide) (by decide) ?_
  refine jj_aload_n C dX5_putText_10 rfl ?_
  refine jj_aload_n C dX5_putText_11 rfl ?_
  refine jj_iload_n C dX5_putText_12 rfl ?_
  refine tt_call0Vs (rest := [.ref h0]) C (ct_J0_charAt_5068e_94 hl D cA ak) 16 (by decide) rfl jw_d18806e438 jw_acb9174fef jw_675efe837b jw_4ea6285965 jw_391c0f56bd jn_J0_charAt_5068e rfl (jj_le rfl) (jj_le rfl) (jj_le rfl) (jj_le rfl) (jj_le rfl) dX5_putText_13 rfl (fun w1 r O_2 => ?_)
  obtain ⟨-, rfl⟩ := O_2
  refine jj_i2b (v := 10) C dX5_putText_16 (by decide) ?_
  obtain ⟨qc, gs, hqc⟩ := tt_recv (cx := []) hok hk0 (by decide) rfl
  refine tt_callV (rest := []) C (tc_X5_putByte_10 hl D cA ak h0 hk0 hok) [] [] rfl rfl (by decide) (by decide) (by decide) qc hqc rfl rfl jw_cc20a77ce3 jw_211b56f0bf jw_e8686d9408 jw_30ed28480a jw_f2c63e4be6 jn_X5_putByte rfl (jj_le rfl) (jj_le rfl) (jj_le rfl) (jj_le rfl) (jj_le rfl) dX5_putText_17 rfl (fun _ _ _ hX => hX.elim) (fun rx pl_3 r O_6 => ?_)
  obtain ⟨rfl, hok_4, hr_5, hfa9, hR_8⟩ := O_6
  replace hfr := hfr.trans (hr_5.sub (by decide))
  replace hfa := hfa.trans (hfa9.sub (by decide))
  obtain rfl := hR_8
  refine jj_iinc (v := 1) C dX5_putText_20 rfl (by decide) (by decide) rfl ?_
  refine jj_goto (tgt := 2) C dX5_putText_23 (by decide) ?_
  refine jj_iload_n C dX5_putText_2 rfl ?_
  refine jj_aload_n C dX5_putText_3 rfl ?_
  refine tt_call0Vs (rest := [.int 1]) C (ct_J0_length_8abf5_17 hl D cA ak) 16 (by decide) rfl jw_07c280d6f3 jw_b1ce304435 jw_d08f03a22e jw_4ea6285965 jw_bbc7045666 jn_J0_length_8abf5 rfl (jj_le rfl) (jj_le rfl) (jj_le rfl) (jj_le rfl) (jj_le rfl) dX5_putText_4 rfl (fun w1 r O_11 => ?_)
  obtain ⟨-, rfl⟩ := O_11
  refine jj_icmp_geT (tgt := 26) C dX5_putText_7 (by decide) (by decide) ?_
  exact jj_vret C ⟨[], pl_3, rfl, rfl, hok_4, hfr, hfa, rfl⟩ dX5_putText_26 (jj_le rfl) (jj_le rfl)

set_option maxHeartbeats 4000000 in
set_option maxRecDepth 100000 in
theorem tc_X5_putByte_11 {l : Launch} (hl : l.stackTraces = false) (D : va_G) (cA : Nat → ClassId) (ak : (Nat → Nat) × (Nat → Nat)) {Kd : Nat → Nat} (h0 : Nat) (hk0 : Kd h0 = 12) {pl0 : va_W} (hok : tt_ok tt_tk cA Kd pl0) : jj_M l D cA ak yX5_putByte (.code yX5_putByte cX5_putByte 2 none) 0 0 0 0 ([] ++ pl0) [.ref h0, .int 114] (tt_O (fun rx pl1 r => rx = [] ∧ tt_ok tt_tk cA Kd pl1 ∧ tt_fr Kd [(12, 1)] pl0 pl1 ∧ tt_fa Kd [13] pl0 pl1 ∧ ((r = none)))) (tt_OX (fun _ _ _ => False)) := by
  refine jj_start hl (by decide) jw_f2c63e4be6 (jj_le rfl) ?_
  intro p e s m args below meth c A hargs hA C hex hmn
  have hfr := tt_fr.refl (K := Kd) (WS := [(12, 1)]) pl0
  have hfa := tt_fa.refl (K := Kd) (WA := [13]) pl0
  refine jj_aload_n C dX5_putByte_0 rfl ?_
  refine tt_get C hok jk_6 1 (by decide) jw_a08fdff3bb (t := (0, 0, 1300)) hk0 (by decide) rfl rfl dX5_putByte_1 (fun v_1 hv_1 hf_2 => ?_)
  obtain ⟨x_3, rfl, lx_3, ux_3⟩ := tt_vi hv_1
  refine jj_sipush (v := 1300) C dX5_putByte_4 (by decide) ?_
  refine jj_icmp_ge (tgt := 30) C dX5_putByte_7 (by decide) (fun c_4 => ?_) (fun c_4 => ?_)
  · have z_c_4 := jc_le (a := (1300)) (b := (x_3).toInt) c_4 (by decide) rfl
    exact jj_vret C ⟨[], pl0, rfl, rfl, hok, hfr, hfa, rfl⟩ dX5_putByte_30 (jj_le rfl) (jj_le rfl)
  · have z_c_4 := jc_nle (a := (1300)) (b := (x_3).toInt) c_4 (by decide) rfl
    refine jj_aload_n C dX5_putByte_10 rfl ?_
    refine tt_get C hok jk_6 0 (by decide) jw_b2cc65244f (t := (2, 13, 0)) hk0 (by decide) rfl rfl dX5_putByte_11 (fun v_5 hv_5 hf_6 => ?_)
    obtain ⟨a_7, rfl, ka_7⟩ := tt_vr hv_5
    refine jj_aload_n C dX5_putByte_14 rfl ?_
    refine tt_getF C hok jk_6 1 (by decide) jw_a08fdff3bb (t := (0, 0, 1300)) hk0 (by decide) rfl rfl hf_2 dX5_putByte_15 ?_
    refine jj_iload_n C dX5_putByte_18 rfl ?_
    refine tl_bast C hok (t := (0, (-2147483648), 2147483647)) ka_7 (by decide) rfl (vp_in_iff.mpr ⟨by omega, by omega⟩) (tt_ia _) dX5_putByte_19 (fun pl_8 hok_9 tr tl => ?_)
    replace hf_2 := tr _ _ _ hf_2
    replace hf_6 := tr _ _ _ hf_6
    replace hfr := hfr.arr tr
    replace hfa := hfa.wr ka_7 tl (by decide)
    refine jj_aload_n C dX5_putByte_20 rfl ?_
    refine jj_dup C dX5_putByte_21 rfl ?_
    refine tt_getF C hok_9 jk_6 1 (by decide) jw_a08fdff3bb (t := (0, 0, 1300)) hk0 (by decide) rfl rfl hf_2 dX5_putByte_22 ?_
    refine jj_iconst (v := 1) C dX5_putByte_25 (by decide) ?_
    obtain ⟨x_10, ex_10, vx_10⟩ := tt_iadd (x := x_3) (y := (1 : Int32)) (a := x_3.toInt) rfl (b := 1) (by decide) (by omega) (by omega)
    refine jj_iadd (v := x_10) C dX5_putByte_26 ex_10 ?_
    refine rl_put C hok_9 jk_6 1 (by decide) jw_a08fdff3bb (t := (0, 0, 1300)) hk0 (by decide) rfl rfl rfl (tt_iv (by omega) (by omega)) rfl rfl dX5_putByte_27 (fun pl_11 hok_12 tr hn tl => ?_)
    replace hf_6 := tr _ _ _ (Or.inr (by decide)) hf_6
    have hf_13 := hn
    replace hfr := hfr.put hk0 tr (by decide)
    replace hfa := hfa.all tl
    exact jj_vret C ⟨[], pl_11, rfl, rfl, hok_12, hfr, hfa, rfl⟩ dX5_putByte_30 (jj_le rfl) (jj_le rfl)

set_option maxHeartbeats 4000000 in
set_option maxRecDepth 100000 in
theorem tc_X5_putByte_12 {l : Launch} (hl : l.stackTraces = false) (D : va_G) (cA : Nat → ClassId) (ak : (Nat → Nat) × (Nat → Nat)) {Kd : Nat → Nat} (h0 : Nat) (hk0 : Kd h0 = 12) {pl0 : va_W} (hok : tt_ok tt_tk cA Kd pl0) : jj_M l D cA ak yX5_putByte (.code yX5_putByte cX5_putByte 2 none) 0 0 0 0 ([] ++ pl0) [.ref h0, .int 105] (tt_O (fun rx pl1 r => rx = [] ∧ tt_ok tt_tk cA Kd pl1 ∧ tt_fr Kd [(12, 1)] pl0 pl1 ∧ tt_fa Kd [13] pl0 pl1 ∧ ((r = none)))) (tt_OX (fun _ _ _ => False)) := by
  refine jj_start hl (by decide) jw_f2c63e4be6 (jj_le rfl) ?_
  intro p e s m args below meth c A hargs hA C hex hmn
  have hfr := tt_fr.refl (K := Kd) (WS := [(12, 1)]) pl0
  have hfa := tt_fa.refl (K := Kd) (WA := [13]) pl0
  refine jj_aload_n C dX5_putByte_0 rfl ?_
  refine tt_get C hok jk_6 1 (by decide) jw_a08fdff3bb (t := (0, 0, 1300)) hk0 (by decide) rfl rfl dX5_putByte_1 (fun v_1 hv_1 hf_2 => ?_)
  obtain ⟨x_3, rfl, lx_3, ux_3⟩ := tt_vi hv_1
  refine jj_sipush (v := 1300) C dX5_putByte_4 (by decide) ?_
  refine jj_icmp_ge (tgt := 30) C dX5_putByte_7 (by decide) (fun c_4 => ?_) (fun c_4 => ?_)
  · have z_c_4 := jc_le (a := (1300)) (b := (x_3).toInt) c_4 (by decide) rfl
    exact jj_vret C ⟨[], pl0, rfl, rfl, hok, hfr, hfa, rfl⟩ dX5_putByte_30 (jj_le rfl) (jj_le rfl)
  · have z_c_4 := jc_nle (a := (1300)) (b := (x_3).toInt) c_4 (by decide) rfl
    refine jj_aload_n C dX5_putByte_10 rfl ?_
    refine tt_get C hok jk_6 0 (by decide) jw_b2cc65244f (t := (2, 13, 0)) hk0 (by decide) rfl rfl dX5_putByte_11 (fun v_5 hv_5 hf_6 => ?_)
    obtain ⟨a_7, rfl, ka_7⟩ := tt_vr hv_5
    refine jj_aload_n C dX5_putByte_14 rfl ?_
    refine tt_getF C hok jk_6 1 (by decide) jw_a08fdff3bb (t := (0, 0, 1300)) hk0 (by decide) rfl rfl hf_2 dX5_putByte_15 ?_
    refine jj_iload_n C dX5_putByte_18 rfl ?_
    refine tl_bast C hok (t := (0, (-2147483648), 2147483647)) ka_7 (by decide) rfl (vp_in_iff.mpr ⟨by omega, by omega⟩) (tt_ia _) dX5_putByte_19 (fun pl_8 hok_9 tr tl => ?_)
    replace hf_2 := tr _ _ _ hf_2
    replace hf_6 := tr _ _ _ hf_6
    replace hfr := hfr.arr tr
    replace hfa := hfa.wr ka_7 tl (by decide)
    refine jj_aload_n C dX5_putByte_20 rfl ?_
    refine jj_dup C dX5_putByte_21 rfl ?_
    refine tt_getF C hok_9 jk_6 1 (by decide) jw_a08fdff3bb (t := (0, 0, 1300)) hk0 (by decide) rfl rfl hf_2 dX5_putByte_22 ?_
    refine jj_iconst (v := 1) C dX5_putByte_25 (by decide) ?_
    obtain ⟨x_10, ex_10, vx_10⟩ := tt_iadd (x := x_3) (y := (1 : Int32)) (a := x_3.toInt) rfl (b := 1) (by decide) (by omega) (by omega)
    refine jj_iadd (v := x_10) C dX5_putByte_26 ex_10 ?_
    refine rl_put C hok_9 jk_6 1 (by decide) jw_a08fdff3bb (t := (0, 0, 1300)) hk0 (by decide) rfl rfl rfl (tt_iv (by omega) (by omega)) rfl rfl dX5_putByte_27 (fun pl_11 hok_12 tr hn tl => ?_)
    replace hf_6 := tr _ _ _ (Or.inr (by decide)) hf_6
    have hf_13 := hn
    replace hfr := hfr.put hk0 tr (by decide)
    replace hfa := hfa.all tl
    exact jj_vret C ⟨[], pl_11, rfl, rfl, hok_12, hfr, hfa, rfl⟩ dX5_putByte_30 (jj_le rfl) (jj_le rfl)

set_option maxHeartbeats 4000000 in
set_option maxRecDepth 100000 in
theorem tc_X5_putText_5 {l : Launch} (hl : l.stackTraces = false) (D : va_G) (cA : Nat → ClassId) (ak : (Nat → Nat) × (Nat → Nat)) {Kd : Nat → Nat} (h0 : Nat) (hk0 : Kd h0 = 12) {pl0 : va_W} (hok : tt_ok tt_tk cA Kd pl0) : jj_M l D cA ak yX5_putText (.code yX5_putText cX5_putText 3 none) 4 85 0 0 ([] ++ pl0) [.ref h0, .ref (ak.1 17)] (tt_O (fun rx pl1 r => rx = [] ∧ tt_ok tt_tk cA Kd pl1 ∧ tt_fr Kd [(12, 1)] pl0 pl1 ∧ tt_fa Kd [13] pl0 pl1 ∧ ((r = none)))) (tt_OX (fun _ _ _ => False)) := by
  refine jj_start hl (by decide) jw_5a16104e3b (jj_le rfl) ?_
  intro p e s m args below meth c A hargs hA C hex hmn
  have hfr := tt_fr.refl (K := Kd) (WS := [(12, 1)]) pl0
  have hfa := tt_fa.refl (K := Kd) (WA := [13]) pl0
  refine jj_iconst (v := 0) C dX5_putText_0 (by decide) ?_
  refine jj_istore_n C dX5_putText_1 (by decide) rfl ?_
  refine jj_iload_n C dX5_putText_2 rfl ?_
  refine jj_aload_n C dX5_putText_3 rfl ?_
  refine tt_call0Vs (rest := [.int 0]) C (ct_J0_length_8abf5_18 hl D cA ak) 17 (by decide) rfl jw_07c280d6f3 jw_b1ce304435 jw_d08f03a22e jw_4ea6285965 jw_bbc7045666 jn_J0_length_8abf5 rfl (jj_le rfl) (jj_le rfl) (jj_le rfl) (jj_le rfl) (jj_le rfl) dX5_putText_4 rfl (fun w1 r O_1 => ?_)
  obtain ⟨-, rfl⟩ := O_1
  refine jj_icmp_geF (tgt := 26) C dX5_putText_7 (by decide) (by decide) ?_
  refine jj_aload_n C dX5_putText_10 rfl ?_
  refine jj_aload_n C dX5_putText_11 rfl ?_
  refine jj_iload_n C dX5_putText_12 rfl ?_
  refine tt_call0Vs (rest := [.ref h0]) C (ct_J0_charAt_5068e_95 hl D cA ak) 17 (by decide) rfl jw_d18806e438 jw_acb9174fef jw_675efe837b jw_4ea6285965 jw_391c0f56bd jn_J0_charAt_5068e rfl (jj_le rfl) (jj_le rfl) (jj_le rfl) (jj_le rfl) (jj_le rfl) dX5_putText_13 rfl (fun w1 r O_2 => ?_)
  obtain ⟨-, rfl⟩ := O_2
  refine jj_i2b (v := 115) C dX5_putText_16 (by decide) ?_
  obtain ⟨qc, gs, hqc⟩ := tt_recv (cx := []) hok hk0 (by decide) rfl
  refine tt_callV (rest := []) C (tc_X5_putByte_7 hl D cA ak h0 hk0 hok) [] [] rfl rfl (by decide) (by decide) (by decide) qc hqc rfl rfl jw_cc20a77ce3 jw_211b56f0bf jw_e8686d9408 jw_30ed28480a jw_f2c63e4be6 jn_X5_putByte rfl (jj_le rfl) (jj_le rfl) (jj_le rfl) (jj_le rfl) (jj_le rfl) dX5_putText_17 rfl (fun _ _ _ hX => hX.elim) (fun rx pl_3 r O_6 => ?_)
  obtain ⟨rfl, hok_4, hr_5, hfa9, hR_8⟩ := O_6
  replace hfr := hfr.trans (hr_5.sub (by decide))
  replace hfa := hfa.trans (hfa9.sub (by decide))
  obtain rfl := hR_8
  refine jj_iinc (v := 1) C dX5_putText_20 rfl (by decide) (by decide) rfl ?_
  refine jj_goto (tgt := 2) C dX5_putText_23 (by decide) ?_
  refine jj_iload_n C dX5_putText_2 rfl ?_
  refine jj_aload_n C dX5_putText_3 rfl ?_
  refine tt_call0Vs (rest := [.int 1]) C (ct_J0_length_8abf5_18 hl D cA ak) 17 (by decide) rfl jw_07c280d6f3 jw_b1ce304435 jw_d08f03a22e jw_4ea6285965 jw_bbc7045666 jn_J0_length_8abf5 rfl (jj_le rfl) (jj_le rfl) (jj_le rfl) (jj_le rfl) (jj_le rfl) dX5_putText_4 rfl (fun w1 r O_11 => ?_)
  obtain ⟨-, rfl⟩ := O_11
  refine jj_icmp_geF (tgt := 26) C dX5_putText_7 (by decide) (by decide) ?_
  refine jj_aload_n C dX5_putText_10 rfl ?_
  refine jj_aload_n C dX5_putText_11 rfl ?_
  refine jj_iload_n C dX5_putText_12 rfl ?_
  refine tt_call0Vs (rest := [.ref h0]) C (ct_J0_charAt_5068e_96 hl D cA ak) 17 (by decide) rfl jw_d18806e438 jw_acb9174fef jw_675efe837b jw_4ea6285965 jw_391c0f56bd jn_J0_charAt_5068e rfl (jj_le rfl) (jj_le rfl) (jj_le rfl) (jj_le rfl) (jj_le rfl) dX5_putText_13 rfl (fun w1 r O_12 => ?_)
  obtain ⟨-, rfl⟩ := O_12
  refine jj_i2b (v := 101) C dX5_putText_16 (by decide) ?_
  obtain ⟨qc, gs, hqc⟩ := tt_recv (cx := []) hok_4 hk0 (by decide) rfl
  refine tt_callV (rest := []) C (tc_X5_putByte_8 hl D cA ak h0 hk0 hok_4) [] [] rfl rfl (by decide) (by decide) (by decide) qc hqc rfl rfl jw_cc20a77ce3 jw_211b56f0bf jw_e8686d9408 jw_30ed28480a jw_f2c63e4be6 jn_X5_putByte rfl (jj_le rfl) (jj_le rfl) (jj_le rfl) (jj_le rfl) (jj_le rfl) dX5_putText_17 rfl (fun _ _ _ hX => hX.elim) (fun rx pl_13 r O_16 => ?_)
  obtain ⟨rfl, hok_14, hr_15, hfa9, hR_18⟩ := O_16
  replace hfr := hfr.trans (hr_15.sub (by decide))
  replace hfa := hfa.trans (hfa9.sub (by decide))
  obtain rfl := hR_18
  refine jj_iinc (v := 2) C dX5_putText_20 rfl (by decide) (by decide) rfl ?_
  refine jj_goto (tgt := 2) C dX5_putText_23 (by decide) ?_
  refine jj_iload_n C dX5_putText_2 rfl ?_
  refine jj_aload_n C dX5_putText_3 rfl ?_
  refine tt_call0Vs (rest := [.int 2]) C (ct_J0_length_8abf5_18 hl D cA ak) 17 (by decide) rfl jw_07c280d6f3 jw_b1ce304435 jw_d08f03a22e jw_4ea6285965 jw_bbc7045666 jn_J0_length_8abf5 rfl (jj_le rfl) (jj_le rfl) (jj_le rfl) (jj_le rfl) (jj_le rfl) dX5_putText_4 rfl (fun w1 r O_21 => ?_)
  obtain ⟨-, rfl⟩ := O_21
  refine jj_icmp_geF (tgt := 26) C dX5_putText_7 (by decide) (by decide) ?_
  refine jj_aload_n C dX5_putText_10 rfl ?_
  refine jj_aload_n C dX5_putText_11 rfl ?_
  refine jj_iload_n C dX5_putText_12 rfl ?_
  refine tt_call0Vs (rest := [.ref h0]) C (ct_J0_charAt_5068e_97 hl D cA ak) 17 (by decide) rfl jw_d18806e438 jw_acb9174fef jw_675efe837b jw_4ea6285965 jw_391c0f56bd jn_J0_charAt_5068e rfl (jj_le rfl) (jj_le rfl) (jj_le rfl) (jj_le rfl) (jj_le rfl) dX5_putText_13 rfl (fun w1 r O_22 => ?_)
  obtain ⟨-, rfl⟩ := O_22
  refine jj_i2b (v := 114) C dX5_putText_16 (by decide) ?_
  obtain ⟨qc, gs, hqc⟩ := tt_recv (cx := []) hok_14 hk0 (by decide) rfl
  refine tt_callV (rest := []) C (tc_X5_putByte_11 hl D cA ak h0 hk0 hok_14) [] [] rfl rfl (by decide) (by decide) (by decide) qc hqc rfl rfl jw_cc20a77ce3 jw_211b56f0bf jw_e8686d9408 jw_30ed28480a jw_f2c63e4be6 jn_X5_putByte rfl (jj_le rfl) (jj_le rfl) (jj_le rfl) (jj_le rfl) (jj_le rfl) dX5_putText_17 rfl (fun _ _ _ hX => hX.elim) (fun rx pl_23 r O_26 => ?_)
  obtain ⟨rfl, hok_24, hr_25, hfa9, hR_28⟩ := O_26
  replace hfr := hfr.trans (hr_25.sub (by decide))
  replace hfa := hfa.trans (hfa9.sub (by decide))
  obtain rfl := hR_28
  refine jj_iinc (v := 3) C dX5_putText_20 rfl (by decide) (by decide) rfl ?_
  refine jj_goto (tgt := 2) C dX5_putText_23 (by decide) ?_
  refine jj_iload_n C dX5_putText_2 rfl ?_
  refine jj_aload_n C dX5_putText_3 rfl ?_
  refine tt_call0Vs (rest := [.int 3]) C (ct_J0_length_8abf5_18 hl D cA ak) 17 (by decide) rfl jw_07c280d6f3 jw_b1ce304435 jw_d08f03a22e jw_4ea6285965 jw_bbc7045666 jn_J0_length_8abf5 rfl (jj_le rfl) (jj_le rfl) (jj_le rfl) (jj_le rfl) (jj_le rfl) dX5_putText_4 rfl (fun w1 r O_31 => ?_)
  obtain ⟨-, rfl⟩ := O_31
  refine jj_icmp_geF (tgt := 26) C dX5_putText_7 (by decide) (by decide) ?_
  refine jj_aload_n C dX5_putText_10 rfl ?_
  refine jj_aload_n C dX5_putText_11 rfl ?_
  refine jj_iload_n C dX5_putText_12 rfl ?_
  refine tt_call0Vs (rest := [.ref h0]) C (ct_J0_charAt_5068e_98 hl D cA ak) 17 (by decide) rfl jw_d18806e438 jw_acb9174fef jw_675efe837b jw_4ea6285965 jw_391c0f56bd jn_J0_charAt_5068e rfl (jj_le rfl) (jj_le rfl) (jj_le rfl) (jj_le rfl) (jj_le rfl) dX5_putText_13 rfl (fun w1 r O_32 => ?_)
  obtain ⟨-, rfl⟩ := O_32
  refine jj_i2b (v := 105) C dX5_putText_16 (by decide) ?_
  obtain ⟨qc, gs, hqc⟩ := tt_recv (cx := []) hok_24 hk0 (by decide) rfl
  refine tt_callV (rest := []) C (tc_X5_putByte_12 hl D cA ak h0 hk0 hok_24) [] [] rfl rfl (by decide) (by decide) (by decide) qc hqc rfl rfl jw_cc20a77ce3 jw_211b56f0bf jw_e8686d9408 jw_30ed28480a jw_f2c63e4be6 jn_X5_putByte rfl (jj_le rfl) (jj_le rfl) (jj_le rfl) (jj_le rfl) (jj_le rfl) dX5_putText_17 rfl (fun _ _ _ hX => hX.elim) (fun rx pl_33 r O_36 => ?_)
  obtain ⟨rfl, hok_34, hr_35, hfa9, hR_38⟩ := O_36
  replace hfr := hfr.trans (hr_35.sub (by decide))
  replace hfa := hfa.trans (hfa9.sub (by decide))
  obtain rfl := hR_38
  refine jj_iinc (v := 4) C dX5_putText_20 rfl (by decide) (by decide) rfl ?_
  refine jj_goto (tgt := 2) C dX5_putText_23 (by decide) ?_
  refine jj_iload_n C dX5_putText_2 rfl ?_
  refine jj_aload_n C dX5_putText_3 rfl ?_
  refine tt_call0Vs (rest := [.int 4]) C (ct_J0_length_8abf5_18 hl D cA ak) 17 (by decide) rfl jw_07c280d6f3 jw_b1ce304435 jw_d08f03a22e jw_4ea6285965 jw_bbc7045666 jn_J0_length_8abf5 rfl (jj_le rfl) (jj_le rfl) (jj_le rfl) (jj_le rfl) (jj_le rfl) dX5_putText_4 rfl (fun w1 r O_41 => ?_)
  obtain ⟨-, rfl⟩ := O_41
  refine jj_icmp_geF (tgt := 26) C dX5_putText_7 (by decide) (by decide) ?_
  refine jj_aload_n C dX5_putText_10 rfl ?_
  refine jj_aload_n C dX5_putText_11 rfl ?_
  refine jj_iload_n C dX5_putText_12 rfl ?_
  refine tt_call0Vs (rest := [.ref h0]) C (ct_J0_charAt_5068e_99 hl D cA ak) 17 (by decide) rfl jw_d18806e438 jw_acb9174fef jw_675efe837b jw_4ea6285965 jw_391c0f56bd jn_J0_charAt_5068e rfl (jj_le rfl) (jj_le rfl) (jj_le rfl) (jj_le rfl) (jj_le rfl) dX5_putText_13 rfl (fun w1 r O_42 => ?_)
  obtain ⟨-, rfl⟩ := O_42
  refine jj_i2b (v := 101) C dX5_putText_16 (by decide) ?_
  obtain ⟨qc, gs, hqc⟩ := tt_recv (cx := []) hok_34 hk0 (by decide) rfl
  refine tt_callV (rest := []) C (tc_X5_putByte_8 hl D cA ak h0 hk0 hok_34) [] [] rfl rfl (by decide) (by decide) (by decide) qc hqc rfl rfl jw_cc20a77ce3 jw_211b56f0bf jw_e8686d9408 jw_30ed28480a jw_f2c63e4be6 jn_X5_putByte rfl (jj_le rfl) (jj_le rfl) (jj_le rfl) (jj_le rfl) (jj_le rfl) dX5_putText_17 rfl (fun _ _ _ hX => hX.elim) (fun rx pl_43 r O_46 => ?_)
  obtain ⟨rfl, hok_44, hr_45, hfa9, hR_48⟩ := O_46
  replace hfr := hfr.trans (hr_45.sub (by decide))
  replace hfa := hfa.trans (hfa9.sub (by decide))
  obtain rfl := hR_48
  refine jj_iinc (v := 5) C dX5_putText_20 rfl (by decide) (by decide) rfl ?_
  refine jj_goto (tgt := 2) C dX5_putText_23 (by decide) ?_
  refine jj_iload_n C dX5_putText_2 rfl ?_
  refine jj_aload_n C dX5_putText_3 rfl ?_
  refine tt_call0Vs (rest := [.int 5]) C (ct_J0_length_8abf5_18 hl D cA ak) 17 (by decide) rfl jw_07c280d6f3 jw_b1ce304435 jw_d08f03a22e jw_4ea6285965 jw_bbc7045666 jn_J0_length_8abf5 rfl (jj_le rfl) (jj_le rfl) (jj_le rfl) (jj_le rfl) (jj_le rfl) dX5_putText_4 rfl (fun w1 r O_51 => ?_)
  obtain ⟨-, rfl⟩ := O_51
  refine jj_icmp_geF (tgt := 26) C dX5_putText_7 (by decide) (by decide) ?_
  refine jj_aload_n C dX5_putText_10 rfl ?_
  refine jj_aload_n C dX5_putText_11 rfl ?_
  refine jj_iload_n C dX5_putText_12 rfl ?_
  refine tt_call0Vs (rest := [.ref h0]) C (ct_J0_charAt_5068e_100 hl D cA ak) 17 (by decide) rfl jw_d18806e438 jw_acb9174fef jw_675efe837b jw_4ea6285965 jw_391c0f56bd jn_J0_charAt_5068e rfl (jj_le rfl) (jj_le rfl) (jj_le rfl) (jj_le rfl) (jj_le rfl) dX5_putText_13 rfl (fun w1 r O_52 => ?_)
  obtain ⟨-, rfl⟩ := O_52
  refine jj_i2b (v := 115) C dX5_putText_16 (by decide) ?_
  obtain ⟨qc, gs, hqc⟩ := tt_recv (cx := []) hok_44 hk0 (by decide) rfl
  refine tt_callV (rest := []) C (tc_X5_putByte_7 hl D cA ak h0 hk0 hok_44) [] [] rfl rfl (by decide) (by decide) (by decide) qc hqc rfl rfl jw_cc20a77ce3 jw_211b56f0bf jw_e8686d9408 jw_30ed28480a jw_f2c63e4be6 jn_X5_putByte rfl (jj_le rfl) (jj_le rfl) (jj_le rfl) (jj_le rfl) (jj_le rfl) dX5_putText_17 rfl (fun _ _ _ hX => hX.elim) (fun rx pl_53 r O_56 => ?_)
  obtain ⟨rfl, hok_54, hr_55, hfa9, hR_58⟩ := O_56
  replace hfr := hfr.trans (hr_55.sub (by decide))
  replace hfa := hfa.trans (hfa9.sub (by decide))
  obtain rfl := hR_58
  refine jj_iinc (v := 6) C dX5_putText_20 rfl (by decide) (by decide) rfl ?_
  refine jj_goto (tgt := 2) C dX5_putText_23 (by decide) ?_
  refine jj_iload_n C dX5_putText_2 rfl ?_
  refine jj_aload_n C dX5_putText_3 rfl ?_
  refine tt_call0Vs (rest := [.int 6]) C (ct_J0_length_8abf5_18 hl D cA ak) 17 (by decide) rfl jw_07c280d6f3 jw_b1ce304435 jw_d08f03a22e jw_4ea6285965 jw_bbc7045666 jn_J0_length_8abf5 rfl (jj_le rfl) (jj_le rfl) (jj_le rfl) (jj_le rfl) (jj_le rfl) dX5_putText_4 rfl (fun w1 r O_61 => ?_)
  obtain ⟨-, rfl⟩ := O_61
  refine jj_icmp_geF (tgt := 26) C dX5_putText_7 (by decide) (by decide) ?_
  refine jj_aload_n C dX5_putText_10 rfl ?_
  refine jj_aload_n C dX5_putText_11 rfl ?_
  refine jj_iload_n C dX5_putText_12 rfl ?_
  refine tt_call0Vs (rest := [.ref h0]) C (ct_J0_charAt_5068e_101 hl D cA ak) 17 (by decide) rfl jw_d18806e438 jw_acb9174fef jw_675efe837b jw_4ea6285965 jw_391c0f56bd jn_J0_charAt_5068e rfl (jj_le rfl) (jj_le rfl) (jj_le rfl) (jj_le rfl) (jj_le rfl) dX5_putText_13 rfl (fun w1 r O_62 => ?_)
  obtain ⟨-, rfl⟩ := O_62
  refine jj_i2b (v := 32) C dX5_putText_16 (by decide) ?_
  obtain ⟨qc, gs, hqc⟩ := tt_recv (cx := []) hok_54 hk0 (by decide) rfl
  refine tt_callV (rest := []) C (tc_X5_putByte_4 hl D cA ak h0 hk0 hok_54) [] [] rfl rfl (by decide) (by decide) (by decide) qc hqc rfl rfl jw_cc20a77ce3 jw_211b56f0bf jw_e8686d9408 jw_30ed28480a jw_f2c63e4be6 jn_X5_putByte rfl (jj_le rfl) (jj_le rfl) (jj_le rfl) (jj_le rfl) (jj_le rfl) dX5_putText_17 rfl (fun _ _ _ hX => hX.elim) (fun rx pl_63 r O_66 => ?_)
  obtain ⟨rfl, hok_64, hr_65, hfa9, hR_68⟩ := O_66
  replace hfr := hfr.trans (hr_65.sub (by decide))
  replace hfa := hfa.trans (hfa9.sub (by decide))
  obtain rfl := hR_68
  refine jj_iinc (v := 7) C dX5_putText_20 rfl (by decide) (by decide) rfl ?_
  refine jj_goto (tgt := 2) C dX5_putText_23 (by decide) ?_
  refine jj_iload_n C dX5_putText_2 rfl ?_
  refine jj_aload_n C dX5_putText_3 rfl ?_
  refine tt_call0Vs (rest := [.int 7]) C (ct_J0_length_8abf5_18 hl D cA ak) 17 (by decide) rfl jw_07c280d6f3 jw_b1ce304435 jw_d08f03a22e jw_4ea6285965 jw_bbc7045666 jn_J0_length_8abf5 rfl (jj_le rfl) (jj_le rfl) (jj_le rfl) (jj_le rfl) (jj_le rfl) dX5_putText_4 rfl (fun w1 r O_71 => ?_)
  obtain ⟨-, rfl⟩ := O_71
  refine jj_icmp_geT (tgt := 26) C dX5_putText_7 (by decide) (by decide) ?_
  exact jj_vret C ⟨[], pl_63, rfl, rfl, hok_64, hfr, hfa, rfl⟩ dX5_putText_26 (jj_le rfl) (jj_le rfl)

set_option maxHeartbeats 4000000 in
set_option maxRecDepth 100000 in
theorem tc_X5_putText_6 {l : Launch} (hl : l.stackTraces = false) (D : va_G) (cA : Nat → ClassId) (ak : (Nat → Nat) × (Nat → Nat)) {Kd : Nat → Nat} (h0 : Nat) (hk0 : Kd h0 = 12) {pl0 : va_W} (hok : tt_ok tt_tk cA Kd pl0) : jj_M l D cA ak yX5_putText (.code yX5_putText cX5_putText 3 none) 4 85 0 0 ([] ++ pl0) [.ref h0, .ref (ak.1 18)] (tt_O (fun rx pl1 r => rx = [] ∧ tt_ok tt_tk cA Kd pl1 ∧ tt_fr Kd [(12, 1)] pl0 pl1 ∧ tt_fa Kd [13] pl0 pl1 ∧ ((r = none)))) (tt_OX (fun _ _ _ => False)) := by
  refine jj_start hl (by decide) jw_5a16104e3b (jj_le rfl) ?_
  intro p e s m args below meth c A hargs hA C hex hmn
  have hfr := tt_fr.refl (K := Kd) (WS := [(12, 1)]) pl0
  have hfa := tt_fa.refl (K := Kd) (WA := [13]) pl0
  refine jj_iconst (v := 0) C dX5_putText_0 (by decide) ?_
  refine jj_istore_n C dX5_putText_1 (by decide) rfl ?_
  refine jj_iload_n C dX5_putText_2 rfl ?_
  refine jj_aload_n C dX5_putText_3 rfl ?_
  refine tt_call0Vs (rest := [.int 0]) C (ct_J0_length_8abf5_19 hl D cA ak) 18 (by decide) rfl jw_07c280d6f3 jw_b1ce304435 jw_d08f03a22e jw_4ea6285965 jw_bbc7045666 jn_J0_length_8abf5 rfl (jj_le rfl) (jj_le rfl) (jj_le rfl) (jj_le rfl) (jj_le rfl) dX5_putText_4 rfl (fun w1 r O_1 => ?_)
  obtain ⟨-, rfl⟩ := O_1
  refine jj_icmp_geF (tgt := 26) C dX5_putText_7 (by decide) (by decide) ?_
  refine jj_aload_n C dX5_putText_10 rfl ?_
  refine jj_aload_n C dX5_putText_11 rfl ?_
  refine jj_iload_n C dX5_putText_12 rfl ?_
  refine tt_call0Vs (rest := [.ref h0]) C (ct_J0_charAt_5068e_102 hl D cA ak) 18 (by decide) rfl jw_d18806e438 jw_acb9174fef jw_675efe837b jw_4ea6285965 jw_391c0f56bd jn_J0_charAt_5068e rfl (jj_le rfl) (jj_le rfl) (jj_le rfl) (jj_le rfl) (jj_le rfl) dX5_putText_13 rfl (fun w1 r O_2 => ?_)
  obtain ⟨-, rfl⟩ := O_2
  refine jj_i2b (v := 32) C dX5_putText_16 (by decide) ?_
  obtain ⟨qc, gs, hqc⟩ := tt_recv (cx := []) hok hk0 (by decide) rfl
  refine tt_callV (rest := []) C (tc_X5_putByte_4 hl D cA ak h0 hk0 hok) [] [] rfl rfl (by decide) (by decide) (by decide) qc hqc rfl rfl jw_cc20a77ce3 jw_211b56f0bf jw_e8686d9408 jw_30ed28480a jw_f2c63e4be6 jn_X5_putByte rfl (jj_le rfl) (jj_le rfl) (jj_le rfl) (jj_le rfl) (jj_le rfl) dX5_putText_17 rfl (fun _ _ _ hX => hX.elim) (fun rx pl_3 r O_6 => ?_)
  obtain ⟨rfl, hok_4, hr_5, hfa9, hR_8⟩ := O_6
  replace hfr := hfr.trans (hr_5.sub (by decide))
  replace hfa := hfa.trans (hfa9.sub (by decide))
  obtain rfl := hR_8
  refine jj_iinc (v := 1) C dX5_putText_20 rfl (by decide) (by decide) rfl ?_
  refine jj_goto (tgt := 2) C dX5_putText_23 (by decide) ?_
  refine jj_iload_n C dX5_putText_2 rfl ?_
  refine jj_aload_n C dX5_putText_3 rfl ?_
  refine tt_call0Vs (rest := [.int 1]) C (ct_J0_length_8abf5_19 hl D cA ak) 18 (by decide) rfl jw_07c280d6f3 jw_b1ce304435 jw_d08f03a22e jw_4ea6285965 jw_bbc7045666 jn_J0_length_8abf5 rfl (jj_le rfl) (jj_le rfl) (jj_le rfl) (jj_le rfl) (jj_le rfl) dX5_putText_4 rfl (fun w1 r O_11 => ?_)
  obtain ⟨-, rfl⟩ := O_11
  refine jj_icmp_geT (tgt := 26) C dX5_putText_7 (by decide) (by decide) ?_
  exact jj_vret C ⟨[], pl_3, rfl, rfl, hok_4, hfr, hfa, rfl⟩ dX5_putText_26 (jj_le rfl) (jj_le rfl)

set_option maxHeartbeats 4000000 in
set_option maxRecDepth 100000 in
theorem tc_X5_putNumber_2 {l : Launch} (hl : l.stackTraces = false) (D : va_G) (cA : Nat → ClassId) (ak : (Nat → Nat) × (Nat → Nat)) {Kd : Nat → Nat} (h0 : Nat) (hk0 : Kd h0 = 12) {pl0 : va_W} (hok : tt_ok tt_tk cA Kd pl0) : jj_M l D cA ak yX5_putNumber (.code yX5_putNumber cX5_putNumber 7 none) 1 21 0 0 ([] ++ pl0) [.ref h0, .long 1000000] (tt_O (fun rx pl1 r => rx = [] ∧ tt_ok tt_tk cA Kd pl1 ∧ tt_fr Kd [(12, 1)] pl0 pl1 ∧ tt_fa Kd [13, 14] pl0 pl1 ∧ ((r = none)))) (tt_OX (fun _ _ _ => False)) := by
  refine jj_start hl (by decide) jw_a47eeef3f1 (jj_le rfl) ?_
  intro p e s m args below meth c A hargs hA C hex hmn
  have hfr := tt_fr.refl (K := Kd) (WS := [(12, 1)]) pl0
  have hfa := tt_fa.refl (K := Kd) (WA := [13, 14]) pl0
  refine jj_lload_n C dX5_putNumber_0 rfl ?_
  refine jj_lconst (v := 0) C dX5_putNumber_1 (by decide) ?_
  refine jj_lcmp_geT (tgt := 12) C dX5_putNumber_2 dX5_putNumber_3 (by decide) (by decide) ?_
  refine jj_lload_n C dX5_putNumber_12 rfl ?_
  refine jj_lstore_n C dX5_putNumber_13 (by decide) rfl ?_
  refine jj_bipush (v := 20) C dX5_putNumber_14 (by decide) ?_
  refine jj_istore C dX5_putNumber_16 (by decide) rfl ?_
  have hL_1 : ∀ (N : Nat) (pl : va_W) (x_2 : Int32) (y_3 : Int64), True → tt_ok tt_tk cA Kd pl → tt_fr Kd [(12, 1)] pl0 pl → tt_fa Kd [13, 14] pl0 pl → (1 : Int) ≤ x_2.toInt → x_2.toInt ≤ 20 → (x_2.toInt + 2147483649 ≤ (N : Int)) → jj_J p l e (jj_rm 1 21 0 0) s m args below meth c 7 A (vx_MQ below (jj_q D A (tt_O (fun rx pl1 r => rx = [] ∧ tt_ok tt_tk cA Kd pl1 ∧ tt_fr Kd [(12, 1)] pl0 pl1 ∧ tt_fa Kd [13, 14] pl0 pl1 ∧ ((r = none))))) (jj_x D A (tt_OX (fun _ _ _ => False))) args s 0 0 A) (jj_X D A ([] ++ pl)) 0 0 18 [(5, .int x_2), (3, .long y_3), (0, .ref h0), (1, .long 1000000)] [] := by
    intro NL_1
    induction NL_1 with
    | zero => intro pl x_2 y_3 _ hok hfr hfa lx_2 ux_2 hNL_1; exfalso; omega
    | succ NL_1 ihL_1 =>
      intro pl x_2 y_3 _ hok hfr hfa lx_2 ux_2 hNL_1
      replace ihL_1 := fun pl x_2 y_3 h1 => ihL_1 pl x_2 y_3 trivial h1
      obtain ⟨x_4, ex_4, vx_4⟩ := tt_inc (x := x_2) (n := (-1)) (by omega) (by omega)
      refine jj_iinc (v := x_4) C dX5_putNumber_18 rfl ex_4 (by decide) rfl ?_
      refine jj_aload_n C dX5_putNumber_21 rfl ?_
      refine tt_get C hok jk_6 2 (by decide) jw_7b666017dd (t := (2, 14, 0)) hk0 (by decide) rfl rfl dX5_putNumber_22 (fun v_5 hv_5 hf_6 => ?_)
      obtain ⟨a_7, rfl, ka_7⟩ := tt_vr hv_5
      refine jj_iload C dX5_putNumber_25 rfl ?_
      refine jj_ldc2 (v := 48) C dX5_putNumber_27 jw_5fecb731cf ?_
      refine jj_lload_n C dX5_putNumber_30 rfl ?_
      refine jj_ldc2 (v := 10) C dX5_putNumber_31 jw_60554028df ?_
      obtain ⟨y_8, ey_8⟩ : ∃ z : Int64, y_3 - y_3 / (10 : Int64) * (10 : Int64) = z := ⟨_, rfl⟩
      refine jj_lrem (v := y_8) C dX5_putNumber_34 (by decide) ey_8 ?_
      refine tt_call0S (rest := [.long 48, .int x_4, .ref a_7]) C (ct_J9_abs_067f4_1 hl D cA ak y_8) jw_7749df1616 jw_453771f3e9 jw_a731c8553d jw_320de93b97 jn_J9_abs_067f4 rfl (jj_le rfl) (jj_le rfl) (jj_le rfl) (jj_le rfl) (jj_le rfl) dX5_putNumber_35 rfl (fun w1 r O_9 => ?_)
      rcases O_9 with ⟨c_10, -, rfl⟩ | ⟨c_11, -, rfl⟩
      · obtain ⟨y_12, ey_12⟩ : ∃ z : Int64, (48 : Int64) + y_8 = z := ⟨_, rfl⟩
        refine jj_ladd (v := y_12) C dX5_putNumber_38 ey_12 ?_
        obtain ⟨x_13, ex_13⟩ : ∃ z : Int32, y_12.toInt32 = z := ⟨_, rfl⟩
        refine jj_l2i (v := x_13) C dX5_putNumber_39 ex_13 ?_
        obtain ⟨x_14, ex_14⟩ : ∃ z : Int32, x_13.toInt8.toInt32 = z := ⟨_, rfl⟩
        refine jj_i2b (v := x_14) C dX5_putNumber_40 ex_14 ?_
        refine tl_bast C hok (t := (0, (-2147483648), 2147483647)) ka_7 (by decide) rfl (vp_in_iff.mpr ⟨by omega, by omega⟩) (tt_ia _) dX5_putNumber_41 (fun pl_15 hok_16 tr tl => ?_)
        replace hf_6 := tr _ _ _ hf_6
        replace hfr := hfr.arr tr
        replace hfa := hfa.wr ka_7 tl (by decide)
        refine jj_lload_n C dX5_putNumber_42 rfl ?_
        refine jj_ldc2 (v := 10) C dX5_putNumber_43 jw_60554028df ?_
        obtain ⟨y_17, ey_17⟩ : ∃ z : Int64, y_3 / (10 : Int64) = z := ⟨_, rfl⟩
        refine jj_ldiv (v := y_17) C dX5_putNumber_46 (by decide) ey_17 ?_
        refine jj_lstore_n C dX5_putNumber_47 (by decide) rfl ?_
        refine jj_lload_n C dX5_putNumber_48 rfl ?_
        refine jj_lconst (v := 0) C dX5_putNumber_49 (by decide) ?_
        refine jj_lcmp_eq (tgt := 59) C dX5_putNumber_50 dX5_putNumber_51 (by decide) (fun c_18 => ?_) (fun c_18 => ?_)
        · refine jj_iload C dX5_putNumber_59 rfl ?_
          refine jj_istore C dX5_putNumber_61 (by decide) rfl ?_
          have hL_19 : ∀ (N : Nat) (pl : va_W) (x_20 : Int32), True → tt_ok tt_tk cA Kd pl → tt_fr Kd [(12, 1)] pl0 pl → tt_fa Kd [13, 14] pl0 pl → tt_at pl h0 2 (.ref a_7) → (0 : Int) ≤ x_20.toInt → x_20.toInt ≤ 20 → (2147483648 - x_20.toInt ≤ (N : Int)) → jj_J p l e (jj_rm 1 21 0 0) s m args below meth c 7 A (vx_MQ below (jj_q D A (tt_O (fun rx pl1 r => rx = [] ∧ tt_ok tt_tk cA Kd pl1 ∧ tt_fr Kd [(12, 1)] pl0 pl1 ∧ tt_fa Kd [13, 14] pl0 pl1 ∧ ((r = none))))) (jj_x D A (tt_OX (fun _ _ _ => False))) args s 0 0 A) (jj_X D A ([] ++ pl)) 0 0 63 [(6, .int x_20), (3, .long y_17), (5, .int x_4), (0, .ref h0), (1, .long 1000000)] [] := by
            intro NL_19
            induction NL_19 with
            | zero => intro pl x_20 _ hok hfr hfa hf_21 lx_20 ux_20 hNL_19; exfalso; omega
            | succ NL_19 ihL_19 =>
              intro pl x_20 _ hok hfr hfa hf_21 lx_20 ux_20 hNL_19
              replace ihL_19 := fun pl x_20 h1 => ihL_19 pl x_20 trivial h1
              refine jj_iload C dX5_putNumber_63 rfl ?_
              refine jj_bipush (v := 20) C dX5_putNumber_65 (by decide) ?_
              refine jj_icmp_ge (tgt := 87) C dX5_putNumber_67 (by decide) (fun c_22 => ?_) (fun c_22 => ?_)
              · have z_c_22 := jc_le (a := (20)) (b := (x_20).toInt) c_22 (by decide) rfl
                exact jj_vret C ⟨[], pl, rfl, rfl, hok, hfr, hfa, rfl⟩ dX5_putNumber_87 (jj_le rfl) (jj_le rfl)
              · have z_c_22 := jc_nle (a := (20)) (b := (x_20).toInt) c_22 (by decide) rfl
                refine jj_aload_n C dX5_putNumber_70 rfl ?_
                refine jj_aload_n C dX5_putNumber_71 rfl ?_
                refine tt_getF C hok jk_6 2 (by decide) jw_7b666017dd (t := (2, 14, 0)) hk0 (by decide) rfl rfl hf_21 dX5_putNumber_72 ?_
                refine jj_iload C dX5_putNumber_75 rfl ?_
                refine tt_bald C hok (t := (0, (-2147483648), 2147483647)) ka_7 (by decide) rfl (vp_in_iff.mpr ⟨by omega, by omega⟩) dX5_putNumber_77 (fun v_23 hv_23 => ?_)
                obtain ⟨qc, gs, hqc⟩ := tt_recv (cx := []) hok hk0 (by decide) rfl
                refine tt_callV (rest := []) C (tc_X5_putByte_5 hl D cA ak h0 v_23 hk0 hok) [] [] rfl rfl (by decide) (by decide) (by decide) qc hqc rfl rfl jw_cc20a77ce3 jw_211b56f0bf jw_e8686d9408 jw_30ed28480a jw_f2c63e4be6 jn_X5_putByte rfl (jj_le rfl) (jj_le rfl) (jj_le rfl) (jj_le rfl) (jj_le rfl) dX5_putNumber_78 rfl (fun _ _ _ hX => hX.elim) (fun rx pl_24 r O_27 => ?_)
                obtain ⟨rfl, hok_25, hr_26, hfa9, hR_29⟩ := O_27
                replace hf_21 := hr_26.at hk0 (by decide) (by decide) hf_21
                replace hfr := hfr.trans (hr_26.sub (by decide))
                replace hfa := hfa.trans (hfa9.sub (by decide))
                obtain rfl := hR_29
                obtain ⟨x_32, ex_32, vx_32⟩ := tt_inc (x := x_20) (n := 1) (by omega) (by omega)
                refine jj_iinc (v := x_32) C dX5_putNumber_81 rfl ex_32 (by decide) rfl ?_
                refine jj_goto (tgt := 63) C dX5_putNumber_84 (by decide) ?_
                exact ihL_19 pl_24 x_32 hok_25 hfr hfa hf_21 (by first | omega | decide | exact tt_lo _ | exact tt_hi _) (by first | omega | decide | exact tt_lo _ | exact tt_hi _) (by first | omega | decide | exact tt_lo _ | exact tt_hi _)
          exact hL_19 _ pl_15 x_4 trivial hok_16 hfr hfa hf_6 (by first | omega | decide | exact tt_lo _ | exact tt_hi _) (by first | omega | decide | exact tt_lo _ | exact tt_hi _) (Int.self_le_toNat _)
        · refine jj_iload C dX5_putNumber_54 rfl ?_
          refine jj_if_gt (tgt := 18) C dX5_putNumber_56 (by decide) (fun c_33 => ?_) (fun c_33 => ?_)
          · have z_c_33 := jc_lt (a := (0)) (b := (x_4).toInt) c_33 (by decide) rfl
            refine jj_loc [1, 0, 2, 3] rfl ?_
            exact ihL_1 pl_15 x_4 y_17 hok_16 hfr hfa (by first | omega | decide | exact tt_lo _ | exact tt_hi _) (by first | omega | decide | exact tt_lo _ | exact tt_hi _) (by first | omega | decide | exact tt_lo _ | exact tt_hi _)
          · have z_c_33 := jc_nlt (a := (0)) (b := (x_4).toInt) c_33 (by decide) rfl
            refine jj_iload C dX5_putNumber_59 rfl ?_
            refine jj_istore C dX5_putNumber_61 (by decide) rfl ?_
            have hL_34 : ∀ (N : Nat) (pl : va_W) (x_35 : Int32), True → tt_ok tt_tk cA Kd pl → tt_fr Kd [(12, 1)] pl0 pl → tt_fa Kd [13, 14] pl0 pl → tt_at pl h0 2 (.ref a_7) → (0 : Int) ≤ x_35.toInt → x_35.toInt ≤ 20 → (2147483648 - x_35.toInt ≤ (N : Int)) → jj_J p l e (jj_rm 1 21 0 0) s m args below meth c 7 A (vx_MQ below (jj_q D A (tt_O (fun rx pl1 r => rx = [] ∧ tt_ok tt_tk cA Kd pl1 ∧ tt_fr Kd [(12, 1)] pl0 pl1 ∧ tt_fa Kd [13, 14] pl0 pl1 ∧ ((r = none))))) (jj_x D A (tt_OX (fun _ _ _ => False))) args s 0 0 A) (jj_X D A ([] ++ pl)) 0 0 63 [(6, .int x_35), (3, .long y_17), (5, .int x_4), (0, .ref h0), (1, .long 1000000)] [] := by
              intro NL_34
              induction NL_34 with
              | zero => intro pl x_35 _ hok hfr hfa hf_36 lx_35 ux_35 hNL_34; exfalso; omega
              | succ NL_34 ihL_34 =>
                intro pl x_35 _ hok hfr hfa hf_36 lx_35 ux_35 hNL_34
                replace ihL_34 := fun pl x_35 h1 => ihL_34 pl x_35 trivial h1
                refine jj_iload C dX5_putNumber_63 rfl ?_
                refine jj_bipush (v := 20) C dX5_putNumber_65 (by decide) ?_
                refine jj_icmp_ge (tgt := 87) C dX5_putNumber_67 (by decide) (fun c_37 => ?_) (fun c_37 => ?_)
                · have z_c_37 := jc_le (a := (20)) (b := (x_35).toInt) c_37 (by decide) rfl
                  exact jj_vret C ⟨[], pl, rfl, rfl, hok, hfr, hfa, rfl⟩ dX5_putNumber_87 (jj_le rfl) (jj_le rfl)
                · have z_c_37 := jc_nle (a := (20)) (b := (x_35).toInt) c_37 (by decide) rfl
                  refine jj_aload_n C dX5_putNumber_70 rfl ?_
                  refine jj_aload_n C dX5_putNumber_71 rfl ?_
                  refine tt_getF C hok jk_6 2 (by decide) jw_7b666017dd (t := (2, 14, 0)) hk0 (by decide) rfl rfl hf_36 dX5_putNumber_72 ?_
                  refine jj_iload C dX5_putNumber_75 rfl ?_
                  refine tt_bald C hok (t := (0, (-2147483648), 2147483647)) ka_7 (by decide) rfl (vp_in_iff.mpr ⟨by omega, by omega⟩) dX5_putNumber_77 (fun v_38 hv_38 => ?_)
                  obtain ⟨qc, gs, hqc⟩ := tt_recv (cx := []) hok hk0 (by decide) rfl
                  refine tt_callV (rest := []) C (tc_X5_putByte_5 hl D cA ak h0 v_38 hk0 hok) [] [] rfl rfl (by decide) (by decide) (by decide) qc hqc rfl rfl jw_cc20a77ce3 jw_211b56f0bf jw_e8686d9408 jw_30ed28480a jw_f2c63e4be6 jn_X5_putByte rfl (jj_le rfl) (jj_le rfl) (jj_le rfl) (jj_le rfl) (jj_le rfl) dX5_putNumber_78 rfl (fun _ _ _ hX => hX.elim) (fun rx pl_39 r O_42 => ?_)
                  obtain ⟨rfl, hok_40, hr_41, hfa9, hR_44⟩ := O_42
                  replace hf_36 := hr_41.at hk0 (by decide) (by decide) hf_36
                  replace hfr := hfr.trans (hr_41.sub (by decide))
                  replace hfa := hfa.trans (hfa9.sub (by decide))
                  obtain rfl := hR_44
                  obtain ⟨x_47, ex_47, vx_47⟩ := tt_inc (x := x_35) (n := 1) (by omega) (by omega)
                  refine jj_iinc (v := x_47) C dX5_putNumber_81 rfl ex_47 (by decide) rfl ?_
                  refine jj_goto (tgt := 63) C dX5_putNumber_84 (by decide) ?_
                  exact ihL_34 pl_39 x_47 hok_40 hfr hfa hf_36 (by first | omega | decide | exact tt_lo _ | exact tt_hi _) (by first | omega | decide | exact tt_lo _ | exact tt_hi _) (by first | omega | decide | exact tt_lo _ | exact tt_hi _)
            exact hL_34 _ pl_15 x_4 trivial hok_16 hfr hfa hf_6 (by first | omega | decide | exact tt_lo _ | exact tt_hi _) (by first | omega | decide | exact tt_lo _ | exact tt_hi _) (Int.self_le_toNat _)
      · obtain ⟨y_48, ey_48⟩ : ∃ z : Int64, (48 : Int64) + (-y_8) = z := ⟨_, rfl⟩
        refine jj_ladd (v := y_48) C dX5_putNumber_38 ey_48 ?_
        obtain ⟨x_49, ex_49⟩ : ∃ z : Int32, y_48.toInt32 = z := ⟨_, rfl⟩
        refine jj_l2i (v := x_49) C dX5_putNumber_39 ex_49 ?_
        obtain ⟨x_50, ex_50⟩ : ∃ z : Int32, x_49.toInt8.toInt32 = z := ⟨_, rfl⟩
        refine jj_i2b (v := x_50) C dX5_putNumber_40 ex_50 ?_
        refine tl_bast C hok (t := (0, (-2147483648), 2147483647)) ka_7 (by decide) rfl (vp_in_iff.mpr ⟨by omega, by omega⟩) (tt_ia _) dX5_putNumber_41 (fun pl_51 hok_52 tr tl => ?_)
        replace hf_6 := tr _ _ _ hf_6
        replace hfr := hfr.arr tr
        replace hfa := hfa.wr ka_7 tl (by decide)
        refine jj_lload_n C dX5_putNumber_42 rfl ?_
        refine jj_ldc2 (v := 10) C dX5_putNumber_43 jw_60554028df ?_
        obtain ⟨y_53, ey_53⟩ : ∃ z : Int64, y_3 / (10 : Int64) = z := ⟨_, rfl⟩
        refine jj_ldiv (v := y_53) C dX5_putNumber_46 (by decide) ey_53 ?_
        refine jj_lstore_n C dX5_putNumber_47 (by decide) rfl ?_
        refine jj_lload_n C dX5_putNumber_48 rfl ?_
        refine jj_lconst (v := 0) C dX5_putNumber_49 (by decide) ?_
        refine jj_lcmp_eq (tgt := 59) C dX5_putNumber_50 dX5_putNumber_51 (by decide) (fun c_54 => ?_) (fun c_54 => ?_)
        · refine jj_iload C dX5_putNumber_59 rfl ?_
          refine jj_istore C dX5_putNumber_61 (by decide) rfl ?_
          have hL_55 : ∀ (N : Nat) (pl : va_W) (x_56 : Int32), True → tt_ok tt_tk cA Kd pl → tt_fr Kd [(12, 1)] pl0 pl → tt_fa Kd [13, 14] pl0 pl → tt_at pl h0 2 (.ref a_7) → (0 : Int) ≤ x_56.toInt → x_56.toInt ≤ 20 → (2147483648 - x_56.toInt ≤ (N : Int)) → jj_J p l e (jj_rm 1 21 0 0) s m args below meth c 7 A (vx_MQ below (jj_q D A (tt_O (fun rx pl1 r => rx = [] ∧ tt_ok tt_tk cA Kd pl1 ∧ tt_fr Kd [(12, 1)] pl0 pl1 ∧ tt_fa Kd [13, 14] pl0 pl1 ∧ ((r = none))))) (jj_x D A (tt_OX (fun _ _ _ => False))) args s 0 0 A) (jj_X D A ([] ++ pl)) 0 0 63 [(6, .int x_56), (3, .long y_53), (5, .int x_4), (0, .ref h0), (1, .long 1000000)] [] := by
            intro NL_55
            induction NL_55 with
            | zero => intro pl x_56 _ hok hfr hfa hf_57 lx_56 ux_56 hNL_55; exfalso; omega
            | succ NL_55 ihL_55 =>
              intro pl x_56 _ hok hfr hfa hf_57 lx_56 ux_56 hNL_55
              replace ihL_55 := fun pl x_56 h1 => ihL_55 pl x_56 trivial h1
              refine jj_iload C dX5_putNumber_63 rfl ?_
              refine jj_bipush (v := 20) C dX5_putNumber_65 (by decide) ?_
              refine jj_icmp_ge (tgt := 87) C dX5_putNumber_67 (by decide) (fun c_58 => ?_) (fun c_58 => ?_)
              · have z_c_58 := jc_le (a := (20)) (b := (x_56).toInt) c_58 (by decide) rfl
                exact jj_vret C ⟨[], pl, rfl, rfl, hok, hfr, hfa, rfl⟩ dX5_putNumber_87 (jj_le rfl) (jj_le rfl)
              · have z_c_58 := jc_nle (a := (20)) (b := (x_56).toInt) c_58 (by decide) rfl
                refine jj_aload_n C dX5_putNumber_70 rfl ?_
                refine jj_aload_n C dX5_putNumber_71 rfl ?_
                refine tt_getF C hok jk_6 2 (by decide) jw_7b666017dd (t := (2, 14, 0)) hk0 (by decide) rfl rfl hf_57 dX5_putNumber_72 ?_
                refine jj_iload C dX5_putNumber_75 rfl ?_
                refine tt_bald C hok (t := (0, (-2147483648), 2147483647)) ka_7 (by decide) rfl (vp_in_iff.mpr ⟨by omega, by omega⟩) dX5_putNumber_77 (fun v_59 hv_59 => ?_)
                obtain ⟨qc, gs, hqc⟩ := tt_recv (cx := []) hok hk0 (by decide) rfl
                refine tt_callV (rest := []) C (tc_X5_putByte_5 hl D cA ak h0 v_59 hk0 hok) [] [] rfl rfl (by decide) (by decide) (by decide) qc hqc rfl rfl jw_cc20a77ce3 jw_211b56f0bf jw_e8686d9408 jw_30ed28480a jw_f2c63e4be6 jn_X5_putByte rfl (jj_le rfl) (jj_le rfl) (jj_le rfl) (jj_le rfl) (jj_le rfl) dX5_putNumber_78 rfl (fun _ _ _ hX => hX.elim) (fun rx pl_60 r O_63 => ?_)
                obtain ⟨rfl, hok_61, hr_62, hfa9, hR_65⟩ := O_63
                replace hf_57 := hr_62.at hk0 (by decide) (by decide) hf_57
                replace hfr := hfr.trans (hr_62.sub (by decide))
                replace hfa := hfa.trans (hfa9.sub (by decide))
                obtain rfl := hR_65
                obtain ⟨x_68, ex_68, vx_68⟩ := tt_inc (x := x_56) (n := 1) (by omega) (by omega)
                refine jj_iinc (v := x_68) C dX5_putNumber_81 rfl ex_68 (by decide) rfl ?_
                refine jj_goto (tgt := 63) C dX5_putNumber_84 (by decide) ?_
                exact ihL_55 pl_60 x_68 hok_61 hfr hfa hf_57 (by first | omega | decide | exact tt_lo _ | exact tt_hi _) (by first | omega | decide | exact tt_lo _ | exact tt_hi _) (by first | omega | decide | exact tt_lo _ | exact tt_hi _)
          exact hL_55 _ pl_51 x_4 trivial hok_52 hfr hfa hf_6 (by first | omega | decide | exact tt_lo _ | exact tt_hi _) (by first | omega | decide | exact tt_lo _ | exact tt_hi _) (Int.self_le_toNat _)
        · refine jj_iload C dX5_putNumber_54 rfl ?_
          refine jj_if_gt (tgt := 18) C dX5_putNumber_56 (by decide) (fun c_69 => ?_) (fun c_69 => ?_)
          · have z_c_69 := jc_lt (a := (0)) (b := (x_4).toInt) c_69 (by decide) rfl
            refine jj_loc [1, 0, 2, 3] rfl ?_
            exact ihL_1 pl_51 x_4 y_53 hok_52 hfr hfa (by first | omega | decide | exact tt_lo _ | exact tt_hi _) (by first | omega | decide | exact tt_lo _ | exact tt_hi _) (by first | omega | decide | exact tt_lo _ | exact tt_hi _)
          · have z_c_69 := jc_nlt (a := (0)) (b := (x_4).toInt) c_69 (by decide) rfl
            refine jj_iload C dX5_putNumber_59 rfl ?_
            refine jj_istore C dX5_putNumber_61 (by decide) rfl ?_
            have hL_70 : ∀ (N : Nat) (pl : va_W) (x_71 : Int32), True → tt_ok tt_tk cA Kd pl → tt_fr Kd [(12, 1)] pl0 pl → tt_fa Kd [13, 14] pl0 pl → tt_at pl h0 2 (.ref a_7) → (0 : Int) ≤ x_71.toInt → x_71.toInt ≤ 20 → (2147483648 - x_71.toInt ≤ (N : Int)) → jj_J p l e (jj_rm 1 21 0 0) s m args below meth c 7 A (vx_MQ below (jj_q D A (tt_O (fun rx pl1 r => rx = [] ∧ tt_ok tt_tk cA Kd pl1 ∧ tt_fr Kd [(12, 1)] pl0 pl1 ∧ tt_fa Kd [13, 14] pl0 pl1 ∧ ((r = none))))) (jj_x D A (tt_OX (fun _ _ _ => False))) args s 0 0 A) (jj_X D A ([] ++ pl)) 0 0 63 [(6, .int x_71), (3, .long y_53), (5, .int x_4), (0, .ref h0), (1, .long 1000000)] [] := by
              intro NL_70
              induction NL_70 with
              | zero => intro pl x_71 _ hok hfr hfa hf_72 lx_71 ux_71 hNL_70; exfalso; omega
              | succ NL_70 ihL_70 =>
                intro pl x_71 _ hok hfr hfa hf_72 lx_71 ux_71 hNL_70
                replace ihL_70 := fun pl x_71 h1 => ihL_70 pl x_71 trivial h1
                refine jj_iload C dX5_putNumber_63 rfl ?_
                refine jj_bipush (v := 20) C dX5_putNumber_65 (by decide) ?_
                refine jj_icmp_ge (tgt := 87) C dX5_putNumber_67 (by decide) (fun c_73 => ?_) (fun c_73 => ?_)
                · have z_c_73 := jc_le (a := (20)) (b := (x_71).toInt) c_73 (by decide) rfl
                  exact jj_vret C ⟨[], pl, rfl, rfl, hok, hfr, hfa, rfl⟩ dX5_putNumber_87 (jj_le rfl) (jj_le rfl)
                · have z_c_73 := jc_nle (a := (20)) (b := (x_71).toInt) c_73 (by decide) rfl
                  refine jj_aload_n C dX5_putNumber_70 rfl ?_
                  refine jj_aload_n C dX5_putNumber_71 rfl ?_
                  refine tt_getF C hok jk_6 2 (by decide) jw_7b666017dd (t := (2, 14, 0)) hk0 (by decide) rfl rfl hf_72 dX5_putNumber_72 ?_
                  refine jj_iload C dX5_putNumber_75 rfl ?_
                  refine tt_bald C hok (t := (0, (-2147483648), 2147483647)) ka_7 (by decide) rfl (vp_in_iff.mpr ⟨by omega, by omega⟩) dX5_putNumber_77 (fun v_74 hv_74 => ?_)
                  obtain ⟨qc, gs, hqc⟩ := tt_recv (cx := []) hok hk0 (by decide) rfl
                  refine tt_callV (rest := []) C (tc_X5_putByte_5 hl D cA ak h0 v_74 hk0 hok) [] [] rfl rfl (by decide) (by decide) (by decide) qc hqc rfl rfl jw_cc20a77ce3 jw_211b56f0bf jw_e8686d9408 jw_30ed28480a jw_f2c63e4be6 jn_X5_putByte rfl (jj_le rfl) (jj_le rfl) (jj_le rfl) (jj_le rfl) (jj_le rfl) dX5_putNumber_78 rfl (fun _ _ _ hX => hX.elim) (fun rx pl_75 r O_78 => ?_)
                  obtain ⟨rfl, hok_76, hr_77, hfa9, hR_80⟩ := O_78
                  replace hf_72 := hr_77.at hk0 (by decide) (by decide) hf_72
                  replace hfr := hfr.trans (hr_77.sub (by decide))
                  replace hfa := hfa.trans (hfa9.sub (by decide))
                  obtain rfl := hR_80
                  obtain ⟨x_83, ex_83, vx_83⟩ := tt_inc (x := x_71) (n := 1) (by omega) (by omega)
                  refine jj_iinc (v := x_83) C dX5_putNumber_81 rfl ex_83 (by decide) rfl ?_
                  refine jj_goto (tgt := 63) C dX5_putNumber_84 (by decide) ?_
                  exact ihL_70 pl_75 x_83 hok_76 hfr hfa hf_72 (by first | omega | decide | exact tt_lo _ | exact tt_hi _) (by first | omega | decide | exact tt_lo _ | exact tt_hi _) (by first | omega | decide | exact tt_lo _ | exact tt_hi _)
            exact hL_70 _ pl_51 x_4 trivial hok_52 hfr hfa hf_6 (by first | omega | decide | exact tt_lo _ | exact tt_hi _) (by first | omega | decide | exact tt_lo _ | exact tt_hi _) (Int.self_le_toNat _)
  exact hL_1 _ pl0 (20 : Int32) (1000000 : Int64) trivial hok hfr hfa (by first | omega | decide | exact tt_lo _ | exact tt_hi _) (by first | omega | decide | exact tt_lo _ | exact tt_hi _) (Int.self_le_toNat _)

set_option maxHeartbeats 4000000 in
set_option maxRecDepth 100000 in
theorem tc_X0_unitsHeldIn_2 {l : Launch} (hl : l.stackTraces = false) (D : va_G) (cA : Nat → ClassId) (ak : (Nat → Nat) × (Nat → Nat)) {Kd : Nat → Nat} (h0 : Nat) (p1 : Int32) (p2 : Int32) (hk0 : Kd h0 = 1) (lp1 : (0 : Int) ≤ p1.toInt) (up1 : p1.toInt ≤ 0) {pl0 : va_W} (hok : tt_ok tt_tk cA Kd pl0) : jj_M l D cA ak yX0_unitsHeldIn (.code yX0_unitsHeldIn cX0_unitsHeldIn 6 (some .long)) 0 0 0 0 ([] ++ pl0) [.ref h0, .int p1, .int p2] (tt_O (fun rx pl1 r => rx = [] ∧ tt_ok tt_tk cA Kd pl1 ∧ tt_fr Kd [] pl0 pl1 ∧ tt_fa Kd [] pl0 pl1 ∧ ((∃ v : Int64, r = some (.long v))))) (tt_OX (fun _ _ _ => False)) := by
  refine jj_start hl (by decide) jw_f5d838650a (jj_le rfl) ?_
  intro p e s m args below meth c A hargs hA C hex hmn
  have hfr := tt_fr.refl (K := Kd) (WS := []) pl0
  have hfa := tt_fa.refl (K := Kd) (WA := []) pl0
  have lp2 := tt_lo p2
  have up2 := tt_hi p2
  refine jj_lconst (v := 0) C dX0_unitsHeldIn_0 (by decide) ?_
  refine jj_lstore_n C dX0_unitsHeldIn_1 (by decide) rfl ?_
  refine jj_iconst (v := 0) C dX0_unitsHeldIn_2 (by decide) ?_
  refine jj_istore C dX0_unitsHeldIn_3 (by decide) rfl ?_
  have hL_1 : ∀ (N : Nat) (pl : va_W) (x_2 : Int32) (y_3 : Int64), True → tt_ok tt_tk cA Kd pl → tt_fr Kd [] pl0 pl → tt_fa Kd [] pl0 pl → (0 : Int) ≤ x_2.toInt → x_2.toInt ≤ 40 → (2147483648 - x_2.toInt ≤ (N : Int)) → jj_J p l e (jj_rm 0 0 0 0) s m args below meth c 6 A (vx_MQ below (jj_q D A (tt_O (fun rx pl1 r => rx = [] ∧ tt_ok tt_tk cA Kd pl1 ∧ tt_fr Kd [] pl0 pl1 ∧ tt_fa Kd [] pl0 pl1 ∧ ((∃ v : Int64, r = some (.long v)))))) (jj_x D A (tt_OX (fun _ _ _ => False))) args s 0 0 A) (jj_X D A ([] ++ pl)) 0 0 5 [(5, .int x_2), (3, .long y_3), (0, .ref h0), (1, .int p1), (2, .int p2)] [] := by
    intro NL_1
    induction NL_1 with
    | zero => intro pl x_2 y_3 _ hok hfr hfa lx_2 ux_2 hNL_1; exfalso; omega
    | succ NL_1 ihL_1 =>
      intro pl x_2 y_3 _ hok hfr hfa lx_2 ux_2 hNL_1
      replace ihL_1 := fun pl x_2 y_3 h1 => ihL_1 pl x_2 y_3 trivial h1
      refine jj_iload C dX0_unitsHeldIn_5 rfl ?_
      refine jj_aload_n C dX0_unitsHeldIn_7 rfl ?_
      refine tt_get C hok jk_2 8 (by decide) jw_9d0ccd4490 (t := (0, 0, 40)) hk0 (by decide) rfl rfl dX0_unitsHeldIn_8 (fun v_4 hv_4 hf_5 => ?_)
      obtain ⟨x_6, rfl, lx_6, ux_6⟩ := tt_vi hv_4
      refine jj_icmp_ge (tgt := 61) C dX0_unitsHeldIn_11 (by decide) (fun c_7 => ?_) (fun c_7 => ?_)
      · have z_c_7 := jc_le (a := (x_6).toInt) (b := (x_2).toInt) c_7 rfl rfl
        refine jj_lload_n C dX0_unitsHeldIn_61 rfl ?_
        exact jj_lret C ⟨[], pl, rfl, rfl, hok, hfr, hfa, ⟨y_3, rfl⟩⟩ dX0_unitsHeldIn_62 (jj_le rfl) (jj_le rfl)
      · have z_c_7 := jc_nle (a := (x_6).toInt) (b := (x_2).toInt) c_7 rfl rfl
        refine jj_aload_n C dX0_unitsHeldIn_14 rfl ?_
        refine tt_get C hok jk_2 12 (by decide) jw_5f730213e9 (t := (2, 7, 0)) hk0 (by decide) rfl rfl dX0_unitsHeldIn_15 (fun v_8 hv_8 hf_9 => ?_)
        obtain ⟨a_10, rfl, ka_10⟩ := tt_vr hv_8
        refine jj_iload C dX0_unitsHeldIn_18 rfl ?_
        refine tt_aald C hok (t := (2, 3, 0)) ka_10 (by decide) rfl rfl rfl (vp_in_iff.mpr ⟨by omega, by omega⟩) dX0_unitsHeldIn_20 (fun v_11 hv_11 => ?_)
        obtain ⟨a_12, rfl, ka_12⟩ := tt_vr hv_11
        refine tt_get C hok jk_5 0 (by decide) jw_89374484be (t := (0, (-2147483648), 2147483647)) ka_12 (by decide) rfl rfl dX0_unitsHeldIn_21 (fun v_13 hv_13 hf_14 => ?_)
        obtain ⟨x_15, rfl, lx_15, ux_15⟩ := tt_vi hv_13
        refine jj_iload_n C dX0_unitsHeldIn_24 rfl ?_
        refine jj_icmp_ne (tgt := 55) C dX0_unitsHeldIn_25 (by decide) (fun c_16 => ?_) (fun c_16 => ?_)
        · have z_c_16 := jc_neq (a := (x_15).toInt) (b := (p1).toInt) c_16 rfl rfl
          obtain ⟨x_17, ex_17, vx_17⟩ := tt_inc (x := x_2) (n := 1) (by omega) (by omega)
          refine jj_iinc (v := x_17) C dX0_unitsHeldIn_55 rfl ex_17 (by decide) rfl ?_
          refine jj_goto (tgt := 5) C dX0_unitsHeldIn_58 (by decide) ?_
          exact ihL_1 pl x_17 y_3 hok hfr hfa (by first | omega | decide | exact tt_lo _ | exact tt_hi _) (by first | omega | decide | exact tt_lo _ | exact tt_hi _) (by first | omega | decide | exact tt_lo _ | exact tt_hi _)
        · have z_c_16 := jc_eq (a := (x_15).toInt) (b := (p1).toInt) c_16 rfl rfl
          refine jj_aload_n C dX0_unitsHeldIn_28 rfl ?_
          refine tt_getF C hok jk_2 12 (by decide) jw_5f730213e9 (t := (2, 7, 0)) hk0 (by decide) rfl rfl hf_9 dX0_unitsHeldIn_29 ?_
          refine jj_iload C dX0_unitsHeldIn_32 rfl ?_
          refine tt_aald C hok (t := (2, 3, 0)) ka_10 (by decide) rfl rfl rfl (vp_in_iff.mpr ⟨by omega, by omega⟩) dX0_unitsHeldIn_34 (fun v_18 hv_18 => ?_)
          obtain ⟨a_19, rfl, ka_19⟩ := tt_vr hv_18
          refine tt_get C hok jk_5 1 (by decide) jw_53dba63b8f (t := (0, (-2147483648), 2147483647)) ka_19 (by decide) rfl rfl dX0_unitsHeldIn_35 (fun v_20 hv_20 hf_21 => ?_)
          obtain ⟨x_22, rfl, lx_22, ux_22⟩ := tt_vi hv_20
          refine jj_iload_n C dX0_unitsHeldIn_38 rfl ?_
          refine jj_icmp_ne (tgt := 55) C dX0_unitsHeldIn_39 (by decide) (fun c_23 => ?_) (fun c_23 => ?_)
          · have z_c_23 := jc_neq (a := (x_22).toInt) (b := (p2).toInt) c_23 rfl rfl
            obtain ⟨x_24, ex_24, vx_24⟩ := tt_inc (x := x_2) (n := 1) (by omega) (by omega)
            refine jj_iinc (v := x_24) C dX0_unitsHeldIn_55 rfl ex_24 (by decide) rfl ?_
            refine jj_goto (tgt := 5) C dX0_unitsHeldIn_58 (by decide) ?_
            exact ihL_1 pl x_24 y_3 hok hfr hfa (by first | omega | decide | exact tt_lo _ | exact tt_hi _) (by first | omega | decide | exact tt_lo _ | exact tt_hi _) (by first | omega | decide | exact tt_lo _ | exact tt_hi _)
          · have z_c_23 := jc_eq (a := (x_22).toInt) (b := (p2).toInt) c_23 rfl rfl
            refine jj_lload_n C dX0_unitsHeldIn_42 rfl ?_
            refine jj_aload_n C dX0_unitsHeldIn_43 rfl ?_
            refine tt_getF C hok jk_2 12 (by decide) jw_5f730213e9 (t := (2, 7, 0)) hk0 (by decide) rfl rfl hf_9 dX0_unitsHeldIn_44 ?_
            refine jj_iload C dX0_unitsHeldIn_47 rfl ?_
            refine tt_aald C hok (t := (2, 3, 0)) ka_10 (by decide) rfl rfl rfl (vp_in_iff.mpr ⟨by omega, by omega⟩) dX0_unitsHeldIn_49 (fun v_25 hv_25 => ?_)
            obtain ⟨a_26, rfl, ka_26⟩ := tt_vr hv_25
            refine tt_get C hok jk_5 3 (by decide) jw_1f6afd9b6f (t := (1, (-9223372036854775808), 9223372036854775807)) ka_26 (by decide) rfl rfl dX0_unitsHeldIn_50 (fun v_27 hv_27 hf_28 => ?_)
            obtain ⟨y_29, rfl, -, -⟩ := tt_vj hv_27
            obtain ⟨y_30, ey_30⟩ : ∃ z : Int64, y_3 + y_29 = z := ⟨_, rfl⟩
            refine jj_ladd (v := y_30) C dX0_unitsHeldIn_53 ey_30 ?_
            refine jj_lstore_n C dX0_unitsHeldIn_54 (by decide) rfl ?_
            obtain ⟨x_31, ex_31, vx_31⟩ := tt_inc (x := x_2) (n := 1) (by omega) (by omega)
            refine jj_iinc (v := x_31) C dX0_unitsHeldIn_55 rfl ex_31 (by decide) rfl ?_
            refine jj_goto (tgt := 5) C dX0_unitsHeldIn_58 (by decide) ?_
            exact ihL_1 pl x_31 y_30 hok hfr hfa (by first | omega | decide | exact tt_lo _ | exact tt_hi _) (by first | omega | decide | exact tt_lo _ | exact tt_hi _) (by first | omega | decide | exact tt_lo _ | exact tt_hi _)
  exact hL_1 _ pl0 (0 : Int32) (0 : Int64) trivial hok hfr hfa (by first | omega | decide | exact tt_lo _ | exact tt_hi _) (by first | omega | decide | exact tt_lo _ | exact tt_hi _) (Int.self_le_toNat _)

set_option maxHeartbeats 4000000 in
set_option maxRecDepth 100000 in
theorem tc_X0_unitsHeldIn_3 {l : Launch} (hl : l.stackTraces = false) (D : va_G) (cA : Nat → ClassId) (ak : (Nat → Nat) × (Nat → Nat)) {Kd : Nat → Nat} (h0 : Nat) (p1 : Int32) (p2 : Int32) (hk0 : Kd h0 = 1) (lp1 : (0 : Int) ≤ p1.toInt) (up1 : p1.toInt ≤ 1) {pl0 : va_W} (hok : tt_ok tt_tk cA Kd pl0) : jj_M l D cA ak yX0_unitsHeldIn (.code yX0_unitsHeldIn cX0_unitsHeldIn 6 (some .long)) 0 0 0 0 ([] ++ pl0) [.ref h0, .int p1, .int p2] (tt_O (fun rx pl1 r => rx = [] ∧ tt_ok tt_tk cA Kd pl1 ∧ tt_fr Kd [] pl0 pl1 ∧ tt_fa Kd [] pl0 pl1 ∧ ((∃ v : Int64, r = some (.long v))))) (tt_OX (fun _ _ _ => False)) := by
  refine jj_start hl (by decide) jw_f5d838650a (jj_le rfl) ?_
  intro p e s m args below meth c A hargs hA C hex hmn
  have hfr := tt_fr.refl (K := Kd) (WS := []) pl0
  have hfa := tt_fa.refl (K := Kd) (WA := []) pl0
  have lp2 := tt_lo p2
  have up2 := tt_hi p2
  refine jj_lconst (v := 0) C dX0_unitsHeldIn_0 (by decide) ?_
  refine jj_lstore_n C dX0_unitsHeldIn_1 (by decide) rfl ?_
  refine jj_iconst (v := 0) C dX0_unitsHeldIn_2 (by decide) ?_
  refine jj_istore C dX0_unitsHeldIn_3 (by decide) rfl ?_
  have hL_1 : ∀ (N : Nat) (pl : va_W) (x_2 : Int32) (y_3 : Int64), True → tt_ok tt_tk cA Kd pl → tt_fr Kd [] pl0 pl → tt_fa Kd [] pl0 pl → (0 : Int) ≤ x_2.toInt → x_2.toInt ≤ 40 → (2147483648 - x_2.toInt ≤ (N : Int)) → jj_J p l e (jj_rm 0 0 0 0) s m args below meth c 6 A (vx_MQ below (jj_q D A (tt_O (fun rx pl1 r => rx = [] ∧ tt_ok tt_tk cA Kd pl1 ∧ tt_fr Kd [] pl0 pl1 ∧ tt_fa Kd [] pl0 pl1 ∧ ((∃ v : Int64, r = some (.long v)))))) (jj_x D A (tt_OX (fun _ _ _ => False))) args s 0 0 A) (jj_X D A ([] ++ pl)) 0 0 5 [(5, .int x_2), (3, .long y_3), (0, .ref h0), (1, .int p1), (2, .int p2)] [] := by
    intro NL_1
    induction NL_1 with
    | zero => intro pl x_2 y_3 _ hok hfr hfa lx_2 ux_2 hNL_1; exfalso; omega
    | succ NL_1 ihL_1 =>
      intro pl x_2 y_3 _ hok hfr hfa lx_2 ux_2 hNL_1
      replace ihL_1 := fun pl x_2 y_3 h1 => ihL_1 pl x_2 y_3 trivial h1
      refine jj_iload C dX0_unitsHeldIn_5 rfl ?_
      refine jj_aload_n C dX0_unitsHeldIn_7 rfl ?_
      refine tt_get C hok jk_2 8 (by decide) jw_9d0ccd4490 (t := (0, 0, 40)) hk0 (by decide) rfl rfl dX0_unitsHeldIn_8 (fun v_4 hv_4 hf_5 => ?_)
      obtain ⟨x_6, rfl, lx_6, ux_6⟩ := tt_vi hv_4
      refine jj_icmp_ge (tgt := 61) C dX0_unitsHeldIn_11 (by decide) (fun c_7 => ?_) (fun c_7 => ?_)
      · have z_c_7 := jc_le (a := (x_6).toInt) (b := (x_2).toInt) c_7 rfl rfl
        refine jj_lload_n C dX0_unitsHeldIn_61 rfl ?_
        exact jj_lret C ⟨[], pl, rfl, rfl, hok, hfr, hfa, ⟨y_3, rfl⟩⟩ dX0_unitsHeldIn_62 (jj_le rfl) (jj_le rfl)
      · have z_c_7 := jc_nle (a := (x_6).toInt) (b := (x_2).toInt) c_7 rfl rfl
        refine jj_aload_n C dX0_unitsHeldIn_14 rfl ?_
        refine tt_get C hok jk_2 12 (by decide) jw_5f730213e9 (t := (2, 7, 0)) hk0 (by decide) rfl rfl dX0_unitsHeldIn_15 (fun v_8 hv_8 hf_9 => ?_)
        obtain ⟨a_10, rfl, ka_10⟩ := tt_vr hv_8
        refine jj_iload C dX0_unitsHeldIn_18 rfl ?_
        refine tt_aald C hok (t := (2, 3, 0)) ka_10 (by decide) rfl rfl rfl (vp_in_iff.mpr ⟨by omega, by omega⟩) dX0_unitsHeldIn_20 (fun v_11 hv_11 => ?_)
        obtain ⟨a_12, rfl, ka_12⟩ := tt_vr hv_11
        refine tt_get C hok jk_5 0 (by decide) jw_89374484be (t := (0, (-2147483648), 2147483647)) ka_12 (by decide) rfl rfl dX0_unitsHeldIn_21 (fun v_13 hv_13 hf_14 => ?_)
        obtain ⟨x_15, rfl, lx_15, ux_15⟩ := tt_vi hv_13
        refine jj_iload_n C dX0_unitsHeldIn_24 rfl ?_
        refine jj_icmp_ne (tgt := 55) C dX0_unitsHeldIn_25 (by decide) (fun c_16 => ?_) (fun c_16 => ?_)
        · have z_c_16 := jc_neq (a := (x_15).toInt) (b := (p1).toInt) c_16 rfl rfl
          obtain ⟨x_17, ex_17, vx_17⟩ := tt_inc (x := x_2) (n := 1) (by omega) (by omega)
          refine jj_iinc (v := x_17) C dX0_unitsHeldIn_55 rfl ex_17 (by decide) rfl ?_
          refine jj_goto (tgt := 5) C dX0_unitsHeldIn_58 (by decide) ?_
          exact ihL_1 pl x_17 y_3 hok hfr hfa (by first | omega | decide | exact tt_lo _ | exact tt_hi _) (by first | omega | decide | exact tt_lo _ | exact tt_hi _) (by first | omega | decide | exact tt_lo _ | exact tt_hi _)
        · have z_c_16 := jc_eq (a := (x_15).toInt) (b := (p1).toInt) c_16 rfl rfl
          refine jj_aload_n C dX0_unitsHeldIn_28 rfl ?_
          refine tt_getF C hok jk_2 12 (by decide) jw_5f730213e9 (t := (2, 7, 0)) hk0 (by decide) rfl rfl hf_9 dX0_unitsHeldIn_29 ?_
          refine jj_iload C dX0_unitsHeldIn_32 rfl ?_
          refine tt_aald C hok (t := (2, 3, 0)) ka_10 (by decide) rfl rfl rfl (vp_in_iff.mpr ⟨by omega, by omega⟩) dX0_unitsHeldIn_34 (fun v_18 hv_18 => ?_)
          obtain ⟨a_19, rfl, ka_19⟩ := tt_vr hv_18
          refine tt_get C hok jk_5 1 (by decide) jw_53dba63b8f (t := (0, (-2147483648), 2147483647)) ka_19 (by decide) rfl rfl dX0_unitsHeldIn_35 (fun v_20 hv_20 hf_21 => ?_)
          obtain ⟨x_22, rfl, lx_22, ux_22⟩ := tt_vi hv_20
          refine jj_iload_n C dX0_unitsHeldIn_38 rfl ?_
          refine jj_icmp_ne (tgt := 55) C dX0_unitsHeldIn_39 (by decide) (fun c_23 => ?_) (fun c_23 => ?_)
          · have z_c_23 := jc_neq (a := (x_22).toInt) (b := (p2).toInt) c_23 rfl rfl
            obtain ⟨x_24, ex_24, vx_24⟩ := tt_inc (x := x_2) (n := 1) (by omega) (by omega)
            refine jj_iinc (v := x_24) C dX0_unitsHeldIn_55 rfl ex_24 (by decide) rfl ?_
            refine jj_goto (tgt := 5) C dX0_unitsHeldIn_58 (by decide) ?_
            exact ihL_1 pl x_24 y_3 hok hfr hfa (by first | omega | decide | exact tt_lo _ | exact tt_hi _) (by first | omega | decide | exact tt_lo _ | exact tt_hi _) (by first | omega | decide | exact tt_lo _ | exact tt_hi _)
          · have z_c_23 := jc_eq (a := (x_22).toInt) (b := (p2).toInt) c_23 rfl rfl
            refine jj_lload_n C dX0_unitsHeldIn_42 rfl ?_
            refine jj_aload_n C dX0_unitsHeldIn_43 rfl ?_
            refine tt_getF C hok jk_2 12 (by decide) jw_5f730213e9 (t := (2, 7, 0)) hk0 (by decide) rfl rfl hf_9 dX0_unitsHeldIn_44 ?_
            refine jj_iload C dX0_unitsHeldIn_47 rfl ?_
            refine tt_aald C hok (t := (2, 3, 0)) ka_10 (by decide) rfl rfl rfl (vp_in_iff.mpr ⟨by omega, by omega⟩) dX0_unitsHeldIn_49 (fun v_25 hv_25 => ?_)
            obtain ⟨a_26, rfl, ka_26⟩ := tt_vr hv_25
            refine tt_get C hok jk_5 3 (by decide) jw_1f6afd9b6f (t := (1, (-9223372036854775808), 9223372036854775807)) ka_26 (by decide) rfl rfl dX0_unitsHeldIn_50 (fun v_27 hv_27 hf_28 => ?_)
            obtain ⟨y_29, rfl, -, -⟩ := tt_vj hv_27
            obtain ⟨y_30, ey_30⟩ : ∃ z : Int64, y_3 + y_29 = z := ⟨_, rfl⟩
            refine jj_ladd (v := y_30) C dX0_unitsHeldIn_53 ey_30 ?_
            refine jj_lstore_n C dX0_unitsHeldIn_54 (by decide) rfl ?_
            obtain ⟨x_31, ex_31, vx_31⟩ := tt_inc (x := x_2) (n := 1) (by omega) (by omega)
            refine jj_iinc (v := x_31) C dX0_unitsHeldIn_55 rfl ex_31 (by decide) rfl ?_
            refine jj_goto (tgt := 5) C dX0_unitsHeldIn_58 (by decide) ?_
            exact ihL_1 pl x_31 y_30 hok hfr hfa (by first | omega | decide | exact tt_lo _ | exact tt_hi _) (by first | omega | decide | exact tt_lo _ | exact tt_hi _) (by first | omega | decide | exact tt_lo _ | exact tt_hi _)
  exact hL_1 _ pl0 (0 : Int32) (0 : Int64) trivial hok hfr hfa (by first | omega | decide | exact tt_lo _ | exact tt_hi _) (by first | omega | decide | exact tt_lo _ | exact tt_hi _) (Int.self_le_toNat _)

set_option maxHeartbeats 4000000 in
set_option maxRecDepth 100000 in
theorem tc_X0_unitsHeldIn_4 {l : Launch} (hl : l.stackTraces = false) (D : va_G) (cA : Nat → ClassId) (ak : (Nat → Nat) × (Nat → Nat)) {Kd : Nat → Nat} (h0 : Nat) (p1 : Int32) (p2 : Int32) (hk0 : Kd h0 = 1) (lp1 : (0 : Int) ≤ p1.toInt) (up1 : p1.toInt ≤ 5) {pl0 : va_W} (hok : tt_ok tt_tk cA Kd pl0) : jj_M l D cA ak yX0_unitsHeldIn (.code yX0_unitsHeldIn cX0_unitsHeldIn 6 (some .long)) 0 0 0 0 ([] ++ pl0) [.ref h0, .int p1, .int p2] (tt_O (fun rx pl1 r => rx = [] ∧ tt_ok tt_tk cA Kd pl1 ∧ tt_fr Kd [] pl0 pl1 ∧ tt_fa Kd [] pl0 pl1 ∧ ((∃ v : Int64, r = some (.long v))))) (tt_OX (fun _ _ _ => False)) := by
  refine jj_start hl (by decide) jw_f5d838650a (jj_le rfl) ?_
  intro p e s m args below meth c A hargs hA C hex hmn
  have hfr := tt_fr.refl (K := Kd) (WS := []) pl0
  have hfa := tt_fa.refl (K := Kd) (WA := []) pl0
  have lp2 := tt_lo p2
  have up2 := tt_hi p2
  refine jj_lconst (v := 0) C dX0_unitsHeldIn_0 (by decide) ?_
  refine jj_lstore_n C dX0_unitsHeldIn_1 (by decide) rfl ?_
  refine jj_iconst (v := 0) C dX0_unitsHeldIn_2 (by decide) ?_
  refine jj_istore C dX0_unitsHeldIn_3 (by decide) rfl ?_
  have hL_1 : ∀ (N : Nat) (pl : va_W) (x_2 : Int32) (y_3 : Int64), True → tt_ok tt_tk cA Kd pl → tt_fr Kd [] pl0 pl → tt_fa Kd [] pl0 pl → (0 : Int) ≤ x_2.toInt → x_2.toInt ≤ 40 → (2147483648 - x_2.toInt ≤ (N : Int)) → jj_J p l e (jj_rm 0 0 0 0) s m args below meth c 6 A (vx_MQ below (jj_q D A (tt_O (fun rx pl1 r => rx = [] ∧ tt_ok tt_tk cA Kd pl1 ∧ tt_fr Kd [] pl0 pl1 ∧ tt_fa Kd [] pl0 pl1 ∧ ((∃ v : Int64, r = some (.long v)))))) (jj_x D A (tt_OX (fun _ _ _ => False))) args s 0 0 A) (jj_X D A ([] ++ pl)) 0 0 5 [(5, .int x_2), (3, .long y_3), (0, .ref h0), (1, .int p1), (2, .int p2)] [] := by
    intro NL_1
    induction NL_1 with
    | zero => intro pl x_2 y_3 _ hok hfr hfa lx_2 ux_2 hNL_1; exfalso; omega
    | succ NL_1 ihL_1 =>
      intro pl x_2 y_3 _ hok hfr hfa lx_2 ux_2 hNL_1
      replace ihL_1 := fun pl x_2 y_3 h1 => ihL_1 pl x_2 y_3 trivial h1
      refine jj_iload C dX0_unitsHeldIn_5 rfl ?_
      refine jj_aload_n C dX0_unitsHeldIn_7 rfl ?_
      refine tt_get C hok jk_2 8 (by decide) jw_9d0ccd4490 (t := (0, 0, 40)) hk0 (by decide) rfl rfl dX0_unitsHeldIn_8 (fun v_4 hv_4 hf_5 => ?_)
      obtain ⟨x_6, rfl, lx_6, ux_6⟩ := tt_vi hv_4
      refine jj_icmp_ge (tgt := 61) C dX0_unitsHeldIn_11 (by decide) (fun c_7 => ?_) (fun c_7 => ?_)
      · have z_c_7 := jc_le (a := (x_6).toInt) (b := (x_2).toInt) c_7 rfl rfl
        refine jj_lload_n C dX0_unitsHeldIn_61 rfl ?_
        exact jj_lret C ⟨[], pl, rfl, rfl, hok, hfr, hfa, ⟨y_3, rfl⟩⟩ dX0_unitsHeldIn_62 (jj_le rfl) (jj_le rfl)
      · have z_c_7 := jc_nle (a := (x_6).toInt) (b := (x_2).toInt) c_7 rfl rfl
        refine jj_aload_n C dX0_unitsHeldIn_14 rfl ?_
        refine tt_get C hok jk_2 12 (by decide) jw_5f730213e9 (t := (2, 7, 0)) hk0 (by decide) rfl rfl dX0_unitsHeldIn_15 (fun v_8 hv_8 hf_9 => ?_)
        obtain ⟨a_10, rfl, ka_10⟩ := tt_vr hv_8
        refine jj_iload C dX0_unitsHeldIn_18 rfl ?_
        refine tt_aald C hok (t := (2, 3, 0)) ka_10 (by decide) rfl rfl rfl (vp_in_iff.mpr ⟨by omega, by omega⟩) dX0_unitsHeldIn_20 (fun v_11 hv_11 => ?_)
        obtain ⟨a_12, rfl, ka_12⟩ := tt_vr hv_11
        refine tt_get C hok jk_5 0 (by decide) jw_89374484be (t := (0, (-2147483648), 2147483647)) ka_12 (by decide) rfl rfl dX0_unitsHeldIn_21 (fun v_13 hv_13 hf_14 => ?_)
        obtain ⟨x_15, rfl, lx_15, ux_15⟩ := tt_vi hv_13
        refine jj_iload_n C dX0_unitsHeldIn_24 rfl ?_
        refine jj_icmp_ne (tgt := 55) C dX0_unitsHeldIn_25 (by decide) (fun c_16 => ?_) (fun c_16 => ?_)
        · have z_c_16 := jc_neq (a := (x_15).toInt) (b := (p1).toInt) c_16 rfl rfl
          obtain ⟨x_17, ex_17, vx_17⟩ := tt_inc (x := x_2) (n := 1) (by omega) (by omega)
          refine jj_iinc (v := x_17) C dX0_unitsHeldIn_55 rfl ex_17 (by decide) rfl ?_
          refine jj_goto (tgt := 5) C dX0_unitsHeldIn_58 (by decide) ?_
          exact ihL_1 pl x_17 y_3 hok hfr hfa (by first | omega | decide | exact tt_lo _ | exact tt_hi _) (by first | omega | decide | exact tt_lo _ | exact tt_hi _) (by first | omega | decide | exact tt_lo _ | exact tt_hi _)
        · have z_c_16 := jc_eq (a := (x_15).toInt) (b := (p1).toInt) c_16 rfl rfl
          refine jj_aload_n C dX0_unitsHeldIn_28 rfl ?_
          refine tt_getF C hok jk_2 12 (by decide) jw_5f730213e9 (t := (2, 7, 0)) hk0 (by decide) rfl rfl hf_9 dX0_unitsHeldIn_29 ?_
          refine jj_iload C dX0_unitsHeldIn_32 rfl ?_
          refine tt_aald C hok (t := (2, 3, 0)) ka_10 (by decide) rfl rfl rfl (vp_in_iff.mpr ⟨by omega, by omega⟩) dX0_unitsHeldIn_34 (fun v_18 hv_18 => ?_)
          obtain ⟨a_19, rfl, ka_19⟩ := tt_vr hv_18
          refine tt_get C hok jk_5 1 (by decide) jw_53dba63b8f (t := (0, (-2147483648), 2147483647)) ka_19 (by decide) rfl rfl dX0_unitsHeldIn_35 (fun v_20 hv_20 hf_21 => ?_)
          obtain ⟨x_22, rfl, lx_22, ux_22⟩ := tt_vi hv_20
          refine jj_iload_n C dX0_unitsHeldIn_38 rfl ?_
          refine jj_icmp_ne (tgt := 55) C dX0_unitsHeldIn_39 (by decide) (fun c_23 => ?_) (fun c_23 => ?_)
          · have z_c_23 := jc_neq (a := (x_22).toInt) (b := (p2).toInt) c_23 rfl rfl
            obtain ⟨x_24, ex_24, vx_24⟩ := tt_inc (x := x_2) (n := 1) (by omega) (by omega)
            refine jj_iinc (v := x_24) C dX0_unitsHeldIn_55 rfl ex_24 (by decide) rfl ?_
            refine jj_goto (tgt := 5) C dX0_unitsHeldIn_58 (by decide) ?_
            exact ihL_1 pl x_24 y_3 hok hfr hfa (by first | omega | decide | exact tt_lo _ | exact tt_hi _) (by first | omega | decide | exact tt_lo _ | exact tt_hi _) (by first | omega | decide | exact tt_lo _ | exact tt_hi _)
          · have z_c_23 := jc_eq (a := (x_22).toInt) (b := (p2).toInt) c_23 rfl rfl
            refine jj_lload_n C dX0_unitsHeldIn_42 rfl ?_
            refine jj_aload_n C dX0_unitsHeldIn_43 rfl ?_
            refine tt_getF C hok jk_2 12 (by decide) jw_5f730213e9 (t := (2, 7, 0)) hk0 (by decide) rfl rfl hf_9 dX0_unitsHeldIn_44 ?_
            refine jj_iload C dX0_unitsHeldIn_47 rfl ?_
            refine tt_aald C hok (t := (2, 3, 0)) ka_10 (by decide) rfl rfl rfl (vp_in_iff.mpr ⟨by omega, by omega⟩) dX0_unitsHeldIn_49 (fun v_25 hv_25 => ?_)
            obtain ⟨a_26, rfl, ka_26⟩ := tt_vr hv_25
            refine tt_get C hok jk_5 3 (by decide) jw_1f6afd9b6f (t := (1, (-9223372036854775808), 9223372036854775807)) ka_26 (by decide) rfl rfl dX0_unitsHeldIn_50 (fun v_27 hv_27 hf_28 => ?_)
            obtain ⟨y_29, rfl, -, -⟩ := tt_vj hv_27
            obtain ⟨y_30, ey_30⟩ : ∃ z : Int64, y_3 + y_29 = z := ⟨_, rfl⟩
            refine jj_ladd (v := y_30) C dX0_unitsHeldIn_53 ey_30 ?_
            refine jj_lstore_n C dX0_unitsHeldIn_54 (by decide) rfl ?_
            obtain ⟨x_31, ex_31, vx_31⟩ := tt_inc (x := x_2) (n := 1) (by omega) (by omega)
            refine jj_iinc (v := x_31) C dX0_unitsHeldIn_55 rfl ex_31 (by decide) rfl ?_
            refine jj_goto (tgt := 5) C dX0_unitsHeldIn_58 (by decide) ?_
            exact ihL_1 pl x_31 y_30 hok hfr hfa (by first | omega | decide | exact tt_lo _ | exact tt_hi _) (by first | omega | decide | exact tt_lo _ | exact tt_hi _) (by first | omega | decide | exact tt_lo _ | exact tt_hi _)
  exact hL_1 _ pl0 (0 : Int32) (0 : Int64) trivial hok hfr hfa (by first | omega | decide | exact tt_lo _ | exact tt_hi _) (by first | omega | decide | exact tt_lo _ | exact tt_hi _) (Int.self_le_toNat _)

