
set_option maxHeartbeats 4000000 in
set_option maxRecDepth 100000 in
theorem tf_putFour {l : Launch} (hl : l.stackTraces = false) (D : va_G) (cA : Nat → ClassId) (ak : (Nat → Nat) × (Nat → Nat)) {Kd : Nat → Nat} (h0 : Nat) (p1 x : Int32) (hk0 : Kd h0 = 10) (lx : 0 ≤ x.toInt) (ux : x.toInt ≤ 396) {pl0 : va_W} (hok : tt_ok tt_tk cA Kd pl0) (hf0 : tt_at pl0 h0 1 (.int x)) : jj_M l D cA ak yX9_putFour (.code yX9_putFour cX9_putFour 3 none) 0 0 0 0 ([] ++ pl0) [.ref h0, .int p1] (tt_O (fun rx pl1 r => rx = [] ∧ tt_ok tt_tk cA Kd pl1 ∧ tt_fr Kd [(10, 1)] pl0 pl1 ∧ tt_fa Kd [11] pl0 pl1 ∧ ((∃ z : Int32, z.toInt = x.toInt + 4 ∧ tt_at pl1 h0 1 (.int z) ∧ r = none)))) (tt_OX (fun _ _ _ => False)) := by
  refine jj_start hl (by decide) jw_7315f2d416 (jj_le rfl) ?_
  intro p e s m args below meth c A hargs hA C hex hmn
  have hfr := tt_fr.refl (K := Kd) (WS := [(10, 1)]) pl0
  have hfa := tt_fa.refl (K := Kd) (WA := [11]) pl0
  have lp_p1 := tt_lo p1
  have up_p1 := tt_hi p1
  refine jj_bipush (v := 24) C dX9_putFour_0 (by decide) ?_
  refine jj_istore_n C dX9_putFour_2 (by decide) rfl ?_
  refine jj_iload_n C dX9_putFour_3 rfl ?_
  refine jj_if_ltF (tgt := 50) C dX9_putFour_4 (by decide) (by decide) ?_
  refine jj_aload_n C dX9_putFour_7 rfl ?_
  refine tt_getF C hok jk_10 1 (by decide) jw_133bcadae3 (t := (0, 0, 400)) hk0 (by decide) rfl rfl hf0 dX9_putFour_8 ?_
  refine jj_sipush (v := 400) C dX9_putFour_11 (by decide) ?_
  refine jj_icmp_ge (tgt := 50) C dX9_putFour_14 (by decide) (fun c_1 => ?_) (fun c_1 => ?_)
  · have z_c_1 := jc_le (a := (400)) (b := (x).toInt) c_1 (by decide) rfl
    exfalso; omega
  · have z_c_1 := jc_nle (a := (400)) (b := (x).toInt) c_1 (by decide) rfl
    refine jj_aload_n C dX9_putFour_17 rfl ?_
    refine tt_get C hok jk_10 0 (by decide) jw_0664e1e086 (t := (2, 11, 0)) hk0 (by decide) rfl rfl dX9_putFour_18 (fun v_2 hv_2 hf_3 => ?_)
    obtain ⟨a_4, rfl, ka_4⟩ := tt_vr hv_2
    refine jj_aload_n C dX9_putFour_21 rfl ?_
    refine tt_getF C hok jk_10 1 (by decide) jw_133bcadae3 (t := (0, 0, 400)) hk0 (by decide) rfl rfl hf0 dX9_putFour_22 ?_
    refine jj_iload_n C dX9_putFour_25 rfl ?_
    refine jj_iload_n C dX9_putFour_26 rfl ?_
    obtain ⟨x_5, ex_5⟩ : ∃ z : Int32, (p1.toUInt32 >>> ((24 : Int32).toUInt32 &&& Int32.toUInt32 31)).toInt32 = z := ⟨_, rfl⟩
    refine jj_iushr (v := x_5) C dX9_putFour_27 ex_5 ?_
    refine jj_sipush (v := 255) C dX9_putFour_28 (by decide) ?_
    obtain ⟨x_6, ex_6⟩ : ∃ z : Int32, x_5 &&& (255 : Int32) = z := ⟨_, rfl⟩
    refine jj_iand (v := x_6) C dX9_putFour_31 ex_6 ?_
    obtain ⟨x_7, ex_7⟩ : ∃ z : Int32, (x_6.toUInt32 % 65536).toInt32 = z := ⟨_, rfl⟩
    refine jj_i2c (v := x_7) C dX9_putFour_32 ex_7 ?_
    refine tl_cast C hok (t := (0, (-2147483648), 2147483647)) ka_4 (by decide) rfl (vp_in_iff.mpr ⟨by omega, by omega⟩) (tt_ia _) dX9_putFour_33 (fun pl_8 hok_9 tr tl => ?_)
    replace hf0 := tr _ _ _ hf0
    replace hf_3 := tr _ _ _ hf_3
    replace hfr := hfr.arr tr
    replace hfa := hfa.wr ka_4 tl (by decide)
    refine jj_aload_n C dX9_putFour_34 rfl ?_
    refine jj_dup C dX9_putFour_35 rfl ?_
    refine tt_getF C hok_9 jk_10 1 (by decide) jw_133bcadae3 (t := (0, 0, 400)) hk0 (by decide) rfl rfl hf0 dX9_putFour_36 ?_
    refine jj_iconst (v := 1) C dX9_putFour_39 (by decide) ?_
    obtain ⟨x_10, ex_10, vx_10⟩ := tt_iadd (x := x) (y := (1 : Int32)) (a := x.toInt) rfl (b := 1) (by decide) (by omega) (by omega)
    refine jj_iadd (v := x_10) C dX9_putFour_40 ex_10 ?_
    refine rl_put C hok_9 jk_10 1 (by decide) jw_133bcadae3 (t := (0, 0, 400)) hk0 (by decide) rfl rfl rfl (tt_iv (by omega) (by omega)) rfl rfl dX9_putFour_41 (fun pl_11 hok_12 tr hn tl => ?_)
    replace hf_3 := tr _ _ _ (Or.inr (by decide)) hf_3
    have hf_13 := hn
    replace hfr := hfr.put hk0 tr (by decide)
    replace hfa := hfa.all tl
    refine jj_iinc (v := 16) C dX9_putFour_44 rfl (by decide) (by decide) rfl ?_
    refine jj_goto (tgt := 3) C dX9_putFour_47 (by decide) ?_
    refine jj_iload_n C dX9_putFour_3 rfl ?_
    refine jj_if_ltF (tgt := 50) C dX9_putFour_4 (by decide) (by decide) ?_
    refine jj_aload_n C dX9_putFour_7 rfl ?_
    refine tt_getF C hok_12 jk_10 1 (by decide) jw_133bcadae3 (t := (0, 0, 400)) hk0 (by decide) rfl rfl hf_13 dX9_putFour_8 ?_
    refine jj_sipush (v := 400) C dX9_putFour_11 (by decide) ?_
    refine jj_icmp_ge (tgt := 50) C dX9_putFour_14 (by decide) (fun c_14 => ?_) (fun c_14 => ?_)
    · have z_c_14 := jc_le (a := (400)) (b := (x_10).toInt) c_14 (by decide) rfl
      exfalso; omega
    · have z_c_14 := jc_nle (a := (400)) (b := (x_10).toInt) c_14 (by decide) rfl
      refine jj_aload_n C dX9_putFour_17 rfl ?_
      refine tt_getF C hok_12 jk_10 0 (by decide) jw_0664e1e086 (t := (2, 11, 0)) hk0 (by decide) rfl rfl hf_3 dX9_putFour_18 ?_
      refine jj_aload_n C dX9_putFour_21 rfl ?_
      refine tt_getF C hok_12 jk_10 1 (by decide) jw_133bcadae3 (t := (0, 0, 400)) hk0 (by decide) rfl rfl hf_13 dX9_putFour_22 ?_
      refine jj_iload_n C dX9_putFour_25 rfl ?_
      refine jj_iload_n C dX9_putFour_26 rfl ?_
      obtain ⟨x_15, ex_15⟩ : ∃ z : Int32, (p1.toUInt32 >>> ((16 : Int32).toUInt32 &&& Int32.toUInt32 31)).toInt32 = z := ⟨_, rfl⟩
      refine jj_iushr (v := x_15) C dX9_putFour_27 ex_15 ?_
      refine jj_sipush (v := 255) C dX9_putFour_28 (by decide) ?_
      obtain ⟨x_16, ex_16⟩ : ∃ z : Int32, x_15 &&& (255 : Int32) = z := ⟨_, rfl⟩
      refine jj_iand (v := x_16) C dX9_putFour_31 ex_16 ?_
      obtain ⟨x_17, ex_17⟩ : ∃ z : Int32, (x_16.toUInt32 % 65536).toInt32 = z := ⟨_, rfl⟩
      refine jj_i2c (v := x_17) C dX9_putFour_32 ex_17 ?_
      refine tl_cast C hok_12 (t := (0, (-2147483648), 2147483647)) ka_4 (by decide) rfl (vp_in_iff.mpr ⟨by omega, by omega⟩) (tt_ia _) dX9_putFour_33 (fun pl_18 hok_19 tr tl => ?_)
      replace hf_3 := tr _ _ _ hf_3
      replace hf_13 := tr _ _ _ hf_13
      replace hfr := hfr.arr tr
      replace hfa := hfa.wr ka_4 tl (by decide)
      refine jj_aload_n C dX9_putFour_34 rfl ?_
      refine jj_dup C dX9_putFour_35 rfl ?_
      refine tt_getF C hok_19 jk_10 1 (by decide) jw_133bcadae3 (t := (0, 0, 400)) hk0 (by decide) rfl rfl hf_13 dX9_putFour_36 ?_
      refine jj_iconst (v := 1) C dX9_putFour_39 (by decide) ?_
      obtain ⟨x_20, ex_20, vx_20⟩ := tt_iadd (x := x_10) (y := (1 : Int32)) (a := x_10.toInt) rfl (b := 1) (by decide) (by omega) (by omega)
      refine jj_iadd (v := x_20) C dX9_putFour_40 ex_20 ?_
      refine rl_put C hok_19 jk_10 1 (by decide) jw_133bcadae3 (t := (0, 0, 400)) hk0 (by decide) rfl rfl rfl (tt_iv (by omega) (by omega)) rfl rfl dX9_putFour_41 (fun pl_21 hok_22 tr hn tl => ?_)
      replace hf_3 := tr _ _ _ (Or.inr (by decide)) hf_3
      have hf_23 := hn
      replace hfr := hfr.put hk0 tr (by decide)
      replace hfa := hfa.all tl
      refine jj_iinc (v := 8) C dX9_putFour_44 rfl (by decide) (by decide) rfl ?_
      refine jj_goto (tgt := 3) C dX9_putFour_47 (by decide) ?_
      refine jj_iload_n C dX9_putFour_3 rfl ?_
      refine jj_if_ltF (tgt := 50) C dX9_putFour_4 (by decide) (by decide) ?_
      refine jj_aload_n C dX9_putFour_7 rfl ?_
      refine tt_getF C hok_22 jk_10 1 (by decide) jw_133bcadae3 (t := (0, 0, 400)) hk0 (by decide) rfl rfl hf_23 dX9_putFour_8 ?_
      refine jj_sipush (v := 400) C dX9_putFour_11 (by decide) ?_
      refine jj_icmp_ge (tgt := 50) C dX9_putFour_14 (by decide) (fun c_24 => ?_) (fun c_24 => ?_)
      · have z_c_24 := jc_le (a := (400)) (b := (x_20).toInt) c_24 (by decide) rfl
        exfalso; omega
      · have z_c_24 := jc_nle (a := (400)) (b := (x_20).toInt) c_24 (by decide) rfl
        refine jj_aload_n C dX9_putFour_17 rfl ?_
        refine tt_getF C hok_22 jk_10 0 (by decide) jw_0664e1e086 (t := (2, 11, 0)) hk0 (by decide) rfl rfl hf_3 dX9_putFour_18 ?_
        refine jj_aload_n C dX9_putFour_21 rfl ?_
        refine tt_getF C hok_22 jk_10 1 (by decide) jw_133bcadae3 (t := (0, 0, 400)) hk0 (by decide) rfl rfl hf_23 dX9_putFour_22 ?_
        refine jj_iload_n C dX9_putFour_25 rfl ?_
        refine jj_iload_n C dX9_putFour_26 rfl ?_
        obtain ⟨x_25, ex_25⟩ : ∃ z : Int32, (p1.toUInt32 >>> ((8 : Int32).toUInt32 &&& Int32.toUInt32 31)).toInt32 = z := ⟨_, rfl⟩
        refine jj_iushr (v := x_25) C dX9_putFour_27 ex_25 ?_
        refine jj_sipush (v := 255) C dX9_putFour_28 (by decide) ?_
        obtain ⟨x_26, ex_26⟩ : ∃ z : Int32, x_25 &&& (255 : Int32) = z := ⟨_, rfl⟩
        refine jj_iand (v := x_26) C dX9_putFour_31 ex_26 ?_
        obtain ⟨x_27, ex_27⟩ : ∃ z : Int32, (x_26.toUInt32 % 65536).toInt32 = z := ⟨_, rfl⟩
        refine jj_i2c (v := x_27) C dX9_putFour_32 ex_27 ?_
        refine tl_cast C hok_22 (t := (0, (-2147483648), 2147483647)) ka_4 (by decide) rfl (vp_in_iff.mpr ⟨by omega, by omega⟩) (tt_ia _) dX9_putFour_33 (fun pl_28 hok_29 tr tl => ?_)
        replace hf_3 := tr _ _ _ hf_3
        replace hf_23 := tr _ _ _ hf_23
        replace hfr := hfr.arr tr
        replace hfa := hfa.wr ka_4 tl (by decide)
        refine jj_aload_n C dX9_putFour_34 rfl ?_
        refine jj_dup C dX9_putFour_35 rfl ?_
        refine tt_getF C hok_29 jk_10 1 (by decide) jw_133bcadae3 (t := (0, 0, 400)) hk0 (by decide) rfl rfl hf_23 dX9_putFour_36 ?_
        refine jj_iconst (v := 1) C dX9_putFour_39 (by decide) ?_
        obtain ⟨x_30, ex_30, vx_30⟩ := tt_iadd (x := x_20) (y := (1 : Int32)) (a := x_20.toInt) rfl (b := 1) (by decide) (by omega) (by omega)
        refine jj_iadd (v := x_30) C dX9_putFour_40 ex_30 ?_
        refine rl_put C hok_29 jk_10 1 (by decide) jw_133bcadae3 (t := (0, 0, 400)) hk0 (by decide) rfl rfl rfl (tt_iv (by omega) (by omega)) rfl rfl dX9_putFour_41 (fun pl_31 hok_32 tr hn tl => ?_)
        replace hf_3 := tr _ _ _ (Or.inr (by decide)) hf_3
        have hf_33 := hn
        replace hfr := hfr.put hk0 tr (by decide)
        replace hfa := hfa.all tl
        refine jj_iinc (v := 0) C dX9_putFour_44 rfl (by decide) (by decide) rfl ?_
        refine jj_goto (tgt := 3) C dX9_putFour_47 (by decide) ?_
        refine jj_iload_n C dX9_putFour_3 rfl ?_
        refine jj_if_ltF (tgt := 50) C dX9_putFour_4 (by decide) (by decide) ?_
        refine jj_aload_n C dX9_putFour_7 rfl ?_
        refine tt_getF C hok_32 jk_10 1 (by decide) jw_133bcadae3 (t := (0, 0, 400)) hk0 (by decide) rfl rfl hf_33 dX9_putFour_8 ?_
        refine jj_sipush (v := 400) C dX9_putFour_11 (by decide) ?_
        refine jj_icmp_ge (tgt := 50) C dX9_putFour_14 (by decide) (fun c_34 => ?_) (fun c_34 => ?_)
        · have z_c_34 := jc_le (a := (400)) (b := (x_30).toInt) c_34 (by decide) rfl
          exfalso; omega
        · have z_c_34 := jc_nle (a := (400)) (b := (x_30).toInt) c_34 (by decide) rfl
          refine jj_aload_n C dX9_putFour_17 rfl ?_
          refine tt_getF C hok_32 jk_10 0 (by decide) jw_0664e1e086 (t := (2, 11, 0)) hk0 (by decide) rfl rfl hf_3 dX9_putFour_18 ?_
          refine jj_aload_n C dX9_putFour_21 rfl ?_
          refine tt_getF C hok_32 jk_10 1 (by decide) jw_133bcadae3 (t := (0, 0, 400)) hk0 (by decide) rfl rfl hf_33 dX9_putFour_22 ?_
          refine jj_iload_n C dX9_putFour_25 rfl ?_
          refine jj_iload_n C dX9_putFour_26 rfl ?_
          obtain ⟨x_35, ex_35⟩ : ∃ z : Int32, (p1.toUInt32 >>> ((0 : Int32).toUInt32 &&& Int32.toUInt32 31)).toInt32 = z := ⟨_, rfl⟩
          refine jj_iushr (v := x_35) C dX9_putFour_27 ex_35 ?_
          refine jj_sipush (v := 255) C dX9_putFour_28 (by decide) ?_
          obtain ⟨x_36, ex_36⟩ : ∃ z : Int32, x_35 &&& (255 : Int32) = z := ⟨_, rfl⟩
          refine jj_iand (v := x_36) C dX9_putFour_31 ex_36 ?_
          obtain ⟨x_37, ex_37⟩ : ∃ z : Int32, (x_36.toUInt32 % 65536).toInt32 = z := ⟨_, rfl⟩
          refine jj_i2c (v := x_37) C dX9_putFour_32 ex_37 ?_
          refine tl_cast C hok_32 (t := (0, (-2147483648), 2147483647)) ka_4 (by decide) rfl (vp_in_iff.mpr ⟨by omega, by omega⟩) (tt_ia _) dX9_putFour_33 (fun pl_38 hok_39 tr tl => ?_)
          replace hf_3 := tr _ _ _ hf_3
          replace hf_33 := tr _ _ _ hf_33
          replace hfr := hfr.arr tr
          replace hfa := hfa.wr ka_4 tl (by decide)
          refine jj_aload_n C dX9_putFour_34 rfl ?_
          refine jj_dup C dX9_putFour_35 rfl ?_
          refine tt_getF C hok_39 jk_10 1 (by decide) jw_133bcadae3 (t := (0, 0, 400)) hk0 (by decide) rfl rfl hf_33 dX9_putFour_36 ?_
          refine jj_iconst (v := 1) C dX9_putFour_39 (by decide) ?_
          obtain ⟨x_40, ex_40, vx_40⟩ := tt_iadd (x := x_30) (y := (1 : Int32)) (a := x_30.toInt) rfl (b := 1) (by decide) (by omega) (by omega)
          refine jj_iadd (v := x_40) C dX9_putFour_40 ex_40 ?_
          refine rl_put C hok_39 jk_10 1 (by decide) jw_133bcadae3 (t := (0, 0, 400)) hk0 (by decide) rfl rfl rfl (tt_iv (by omega) (by omega)) rfl rfl dX9_putFour_41 (fun pl_41 hok_42 tr hn tl => ?_)
          replace hf_3 := tr _ _ _ (Or.inr (by decide)) hf_3
          have hf_43 := hn
          replace hfr := hfr.put hk0 tr (by decide)
          replace hfa := hfa.all tl
          refine jj_iinc (v := (-8)) C dX9_putFour_44 rfl (by decide) (by decide) rfl ?_
          refine jj_goto (tgt := 3) C dX9_putFour_47 (by decide) ?_
          refine jj_iload_n C dX9_putFour_3 rfl ?_
          refine jj_if_ltT (tgt := 50) C dX9_putFour_4 (by decide) (by decide) ?_
          exact jj_vret C ⟨[], pl_41, rfl, rfl, hok_42, hfr, hfa, ⟨x_40, (by omega), hf_43, rfl⟩⟩ dX9_putFour_50 (jj_le rfl) (jj_le rfl)

set_option maxHeartbeats 4000000 in
set_option maxRecDepth 100000 in
theorem tf_takeBuffer {l : Launch} (hl : l.stackTraces = false) (D : va_G) (cA : Nat → ClassId) (ak : (Nat → Nat) × (Nat → Nat)) {Kd : Nat → Nat} (h0 : Nat) (hk0 : Kd h0 = 10) {pl0 : va_W} (hok : tt_ok tt_tk cA Kd pl0) : jj_M l D cA ak yX9_takeBuffer (.code yX9_takeBuffer cX9_takeBuffer 1 none) 0 0 0 0 ([] ++ pl0) [.ref h0] (tt_O (fun rx pl1 r => rx = [] ∧ tt_ok tt_tk cA Kd pl1 ∧ tt_fr Kd [(10, 1), (10, 2), (10, 3), (10, 4), (10, 5)] pl0 pl1 ∧ tt_fa Kd [] pl0 pl1 ∧ ((tt_at pl1 h0 1 (.int 0) ∧ r = none)))) (tt_OX (fun _ _ _ => False)) := by
  refine jj_start hl (by decide) jw_e4fa8c07c9 (jj_le rfl) ?_
  intro p e s m args below meth c A hargs hA C hex hmn
  have hfr := tt_fr.refl (K := Kd) (WS := [(10, 1), (10, 2), (10, 3), (10, 4), (10, 5)]) pl0
  have hfa := tt_fa.refl (K := Kd) (WA := []) pl0
  refine jj_aload_n C dX9_takeBuffer_0 rfl ?_
  refine jj_aload_n C dX9_takeBuffer_1 rfl ?_
  refine tt_get C hok jk_10 1 (by decide) jw_133bcadae3 (t := (0, 0, 400)) hk0 (by decide) rfl rfl dX9_takeBuffer_2 (fun v_1 hv_1 hf_2 => ?_)
  obtain ⟨x_3, rfl, lx_3, ux_3⟩ := tt_vi hv_1
  refine rl_put C hok jk_10 2 (by decide) jw_bc3c1a7c51 (t := (0, 0, 400)) hk0 (by decide) rfl rfl rfl (tt_iv (by omega) (by omega)) rfl rfl dX9_takeBuffer_5 (fun pl_4 hok_5 tr hn tl => ?_)
  replace hf_2 := tr _ _ _ (Or.inr (by decide)) hf_2
  have hf_6 := hn
  replace hfr := hfr.put hk0 tr (by decide)
  replace hfa := hfa.all tl
  refine jj_aload_n C dX9_takeBuffer_8 rfl ?_
  refine jj_iconst (v := 0) C dX9_takeBuffer_9 (by decide) ?_
  refine rl_put C hok_5 jk_10 1 (by decide) jw_133bcadae3 (t := (0, 0, 400)) hk0 (by decide) rfl rfl rfl (tt_iv (by decide) (by decide)) rfl rfl dX9_takeBuffer_10 (fun pl_7 hok_8 tr hn tl => ?_)
  replace hf_6 := tr _ _ _ (Or.inr (by decide)) hf_6
  have hf_9 := hn
  replace hfr := hfr.put hk0 tr (by decide)
  replace hfa := hfa.all tl
  refine jj_aload_n C dX9_takeBuffer_13 rfl ?_
  refine jj_iconst (v := 0) C dX9_takeBuffer_14 (by decide) ?_
  refine rl_put C hok_8 jk_10 4 (by decide) jw_66bda6962a (t := (0, 0, 400)) hk0 (by decide) rfl rfl rfl (tt_iv (by decide) (by decide)) rfl rfl dX9_takeBuffer_15 (fun pl_10 hok_11 tr hn tl => ?_)
  replace hf_6 := tr _ _ _ (Or.inr (by decide)) hf_6
  replace hf_9 := tr _ _ _ (Or.inr (by decide)) hf_9
  have hf_12 := hn
  replace hfr := hfr.put hk0 tr (by decide)
  replace hfa := hfa.all tl
  refine jj_aload_n C dX9_takeBuffer_18 rfl ?_
  refine jj_iconst (v := 0) C dX9_takeBuffer_19 (by decide) ?_
  refine rl_put C hok_11 jk_10 3 (by decide) jw_f99bd0ca2b (t := (0, 0, 400)) hk0 (by decide) rfl rfl rfl (tt_iv (by decide) (by decide)) rfl rfl dX9_takeBuffer_20 (fun pl_13 hok_14 tr hn tl => ?_)
  replace hf_6 := tr _ _ _ (Or.inr (by decide)) hf_6
  replace hf_9 := tr _ _ _ (Or.inr (by decide)) hf_9
  replace hf_12 := tr _ _ _ (Or.inr (by decide)) hf_12
  have hf_15 := hn
  replace hfr := hfr.put hk0 tr (by decide)
  replace hfa := hfa.all tl
  refine jj_aload_n C dX9_takeBuffer_23 rfl ?_
  refine jj_iconst (v := 0) C dX9_takeBuffer_24 (by decide) ?_
  refine rl_put C hok_14 jk_10 5 (by decide) jw_bde5c0d1a5 (t := (0, (-2147483648), 2147483647)) hk0 (by decide) rfl rfl rfl (tt_ia (0 : Int32)) rfl rfl dX9_takeBuffer_25 (fun pl_16 hok_17 tr hn tl => ?_)
  replace hf_6 := tr _ _ _ (Or.inr (by decide)) hf_6
  replace hf_9 := tr _ _ _ (Or.inr (by decide)) hf_9
  replace hf_12 := tr _ _ _ (Or.inr (by decide)) hf_12
  replace hf_15 := tr _ _ _ (Or.inr (by decide)) hf_15
  have hf_18 := hn
  replace hfr := hfr.put hk0 tr (by decide)
  replace hfa := hfa.all tl
  exact jj_vret C ⟨[], pl_16, rfl, rfl, hok_17, hfr, hfa, ⟨hf_9, rfl⟩⟩ dX9_takeBuffer_28 (jj_le rfl) (jj_le rfl)

set_option maxHeartbeats 4000000 in
set_option maxRecDepth 100000 in
theorem tf_appendText {l : Launch} (hl : l.stackTraces = false) (D : va_G) (cA : Nat → ClassId) (ak : (Nat → Nat) × (Nat → Nat)) {Kd : Nat → Nat} (h0 at0 : Nat) (p1 p2 p3 p4 p5 x : Int32) (hk0 : Kd h0 = 15) (hk1 : Kd at0 = 10) (lx : 0 ≤ x.toInt) (ux : x.toInt ≤ 400) {pl0 : va_W} (hok : tt_ok tt_tk cA Kd pl0) (ha0 : tt_at pl0 h0 0 (.ref at0)) (hf0 : tt_at pl0 at0 1 (.int x)) : jj_M l D cA ak yX10_appendText (.code yX10_appendText cX10_appendText 6 (some .int)) 6 82 1 6 ([] ++ pl0) [.ref h0, .int p1, .int p2, .int p3, .int p4, .int p5] (tt_O (fun rx pl1 r => rx = [] ∧ tt_ok tt_tk cA Kd pl1 ∧ tt_fr Kd [(10, 1)] pl0 pl1 ∧ tt_fa Kd [11] pl0 pl1 ∧ ((x.toInt ≤ 380 ∧ ∃ z : Int32, z.toInt = x.toInt + 20 ∧ tt_at pl1 at0 1 (.int z) ∧ r = some (.int z))))) (tt_OX (fun E rx pl1 => rx = [] ∧ tt_ok tt_tk cA Kd pl1 ∧ tt_fr Kd [(10, 1)] pl0 pl1 ∧ tt_fa Kd [11] pl0 pl1 ∧ 380 < x.toInt ∧ E = "java/lang/IllegalStateException" ∧ tt_at pl1 at0 1 (.int x))) := by
  refine jj_start hl (by decide) jw_632226b39c (jj_le rfl) ?_
  intro p e s m args below meth c A hargs hA C hex hmn
  have hfr := tt_fr.refl (K := Kd) (WS := [(10, 1)]) pl0
  have hfa := tt_fa.refl (K := Kd) (WA := [11]) pl0
  have lp_p1 := tt_lo p1
  have up_p1 := tt_hi p1
  have lp_p2 := tt_lo p2
  have up_p2 := tt_hi p2
  have lp_p3 := tt_lo p3
  have up_p3 := tt_hi p3
  have lp_p4 := tt_lo p4
  have up_p4 := tt_hi p4
  have lp_p5 := tt_lo p5
  have up_p5 := tt_hi p5
  refine jj_aload_n C dX10_appendText_0 rfl ?_
  refine tt_getF C hok jk_11 0 (by decide) jw_4836d4133c (t := (2, 10, 0)) hk0 (by decide) rfl rfl ha0 dX10_appendText_1 ?_
  refine tt_getF C hok jk_10 1 (by decide) jw_73b0a985ca (t := (0, 0, 400)) hk1 (by decide) rfl rfl hf0 dX10_appendText_4 ?_
  refine jj_bipush (v := 20) C dX10_appendText_7 (by decide) ?_
  obtain ⟨x_1, ex_1, vx_1⟩ := tt_iadd (x := x) (y := (20 : Int32)) (a := x.toInt) rfl (b := 20) (by decide) (by omega) (by omega)
  refine jj_iadd (v := x_1) C dX10_appendText_9 ex_1 ?_
  refine jj_sipush (v := 400) C dX10_appendText_10 (by decide) ?_
  refine jj_icmp_le (tgt := 26) C dX10_appendText_13 (by decide) (fun c_2 => ?_) (fun c_2 => ?_)
  · have z_c_2 := jc_le (a := (x_1).toInt) (b := (400)) c_2 rfl (by decide)
    refine jj_aload_n C dX10_appendText_26 rfl ?_
    refine tt_getF C hok jk_11 0 (by decide) jw_4836d4133c (t := (2, 10, 0)) hk0 (by decide) rfl rfl ha0 dX10_appendText_27 ?_
    refine jj_iload_n C dX10_appendText_30 rfl ?_
    obtain ⟨qc, gs, hqc⟩ := tt_recv (cx := []) hok hk1 (by decide) rfl
    refine tt_callV (rest := []) C (tf_putFour hl D cA ak at0 p1 x hk1 (by omega) (by omega) hok hf0) [] [] rfl rfl (by decide) (by decide) (by decide) qc hqc rfl rfl jw_2c6a0579ce jw_465aad3f08 jw_9200269c04 jw_a9e7b602dc jw_7315f2d416 jn_X9_putFour rfl (jj_le rfl) (jj_le rfl) (jj_le rfl) (jj_le rfl) (jj_le rfl) dX10_appendText_31 rfl (fun _ _ _ hX => hX.elim) (fun rx pl_3 r O_6 => ?_)
    obtain ⟨rfl, hok_4, hr_5, hfa9, x_8, vx_8, hf_7, rfl⟩ := O_6
    replace ha0 := hr_5.at hk0 (by decide) (by decide) ha0
    replace hfr := hfr.trans (hr_5.sub (by decide))
    replace hfa := hfa.trans (hfa9.sub (by decide))
    refine jj_aload_n C dX10_appendText_34 rfl ?_
    refine tt_getF C hok_4 jk_11 0 (by decide) jw_4836d4133c (t := (2, 10, 0)) hk0 (by decide) rfl rfl ha0 dX10_appendText_35 ?_
    refine jj_iload_n C dX10_appendText_38 rfl ?_
    obtain ⟨qc, gs, hqc⟩ := tt_recv (cx := []) hok_4 hk1 (by decide) rfl
    refine tt_callV (rest := []) C (tf_putFour hl D cA ak at0 p2 x_8 hk1 (by omega) (by omega) hok_4 hf_7) [] [] rfl rfl (by decide) (by decide) (by decide) qc hqc rfl rfl jw_2c6a0579ce jw_465aad3f08 jw_9200269c04 jw_a9e7b602dc jw_7315f2d416 jn_X9_putFour rfl (jj_le rfl) (jj_le rfl) (jj_le rfl) (jj_le rfl) (jj_le rfl) dX10_appendText_39 rfl (fun _ _ _ hX => hX.elim) (fun rx pl_9 r O_12 => ?_)
    obtain ⟨rfl, hok_10, hr_11, hfa9, x_14, vx_14, hf_13, rfl⟩ := O_12
    replace ha0 := hr_11.at hk0 (by decide) (by decide) ha0
    replace hfr := hfr.trans (hr_11.sub (by decide))
    replace hfa := hfa.trans (hfa9.sub (by decide))
    refine jj_aload_n C dX10_appendText_42 rfl ?_
    refine tt_getF C hok_10 jk_11 0 (by decide) jw_4836d4133c (t := (2, 10, 0)) hk0 (by decide) rfl rfl ha0 dX10_appendText_43 ?_
    refine jj_iload_n C dX10_appendText_46 rfl ?_
    obtain ⟨qc, gs, hqc⟩ := tt_recv (cx := []) hok_10 hk1 (by decide) rfl
    refine tt_callV (rest := []) C (tf_putFour hl D cA ak at0 p3 x_14 hk1 (by omega) (by omega) hok_10 hf_13) [] [] rfl rfl (by decide) (by decide) (by decide) qc hqc rfl rfl jw_2c6a0579ce jw_465aad3f08 jw_9200269c04 jw_a9e7b602dc jw_7315f2d416 jn_X9_putFour rfl (jj_le rfl) (jj_le rfl) (jj_le rfl) (jj_le rfl) (jj_le rfl) dX10_appendText_47 rfl (fun _ _ _ hX => hX.elim) (fun rx pl_15 r O_18 => ?_)
    obtain ⟨rfl, hok_16, hr_17, hfa9, x_20, vx_20, hf_19, rfl⟩ := O_18
    replace ha0 := hr_17.at hk0 (by decide) (by decide) ha0
    replace hfr := hfr.trans (hr_17.sub (by decide))
    replace hfa := hfa.trans (hfa9.sub (by decide))
    refine jj_aload_n C dX10_appendText_50 rfl ?_
    refine tt_getF C hok_16 jk_11 0 (by decide) jw_4836d4133c (t := (2, 10, 0)) hk0 (by decide) rfl rfl ha0 dX10_appendText_51 ?_
    refine jj_iload C dX10_appendText_54 rfl ?_
    obtain ⟨qc, gs, hqc⟩ := tt_recv (cx := []) hok_16 hk1 (by decide) rfl
    refine tt_callV (rest := []) C (tf_putFour hl D cA ak at0 p4 x_20 hk1 (by omega) (by omega) hok_16 hf_19) [] [] rfl rfl (by decide) (by decide) (by decide) qc hqc rfl rfl jw_2c6a0579ce jw_465aad3f08 jw_9200269c04 jw_a9e7b602dc jw_7315f2d416 jn_X9_putFour rfl (jj_le rfl) (jj_le rfl) (jj_le rfl) (jj_le rfl) (jj_le rfl) dX10_appendText_56 rfl (fun _ _ _ hX => hX.elim) (fun rx pl_21 r O_24 => ?_)
    obtain ⟨rfl, hok_22, hr_23, hfa9, x_26, vx_26, hf_25, rfl⟩ := O_24
    replace ha0 := hr_23.at hk0 (by decide) (by decide) ha0
    replace hfr := hfr.trans (hr_23.sub (by decide))
    replace hfa := hfa.trans (hfa9.sub (by decide))
    refine jj_aload_n C dX10_appendText_59 rfl ?_
    refine tt_getF C hok_22 jk_11 0 (by decide) jw_4836d4133c (t := (2, 10, 0)) hk0 (by decide) rfl rfl ha0 dX10_appendText_60 ?_
    refine jj_iload C dX10_appendText_63 rfl ?_
    obtain ⟨qc, gs, hqc⟩ := tt_recv (cx := []) hok_22 hk1 (by decide) rfl
    refine tt_callV (rest := []) C (tf_putFour hl D cA ak at0 p5 x_26 hk1 (by omega) (by omega) hok_22 hf_25) [] [] rfl rfl (by decide) (by decide) (by decide) qc hqc rfl rfl jw_2c6a0579ce jw_465aad3f08 jw_9200269c04 jw_a9e7b602dc jw_7315f2d416 jn_X9_putFour rfl (jj_le rfl) (jj_le rfl) (jj_le rfl) (jj_le rfl) (jj_le rfl) dX10_appendText_65 rfl (fun _ _ _ hX => hX.elim) (fun rx pl_27 r O_30 => ?_)
    obtain ⟨rfl, hok_28, hr_29, hfa9, x_32, vx_32, hf_31, rfl⟩ := O_30
    replace ha0 := hr_29.at hk0 (by decide) (by decide) ha0
    replace hfr := hfr.trans (hr_29.sub (by decide))
    replace hfa := hfa.trans (hfa9.sub (by decide))
    refine jj_aload_n C dX10_appendText_68 rfl ?_
    refine tt_getF C hok_28 jk_11 0 (by decide) jw_4836d4133c (t := (2, 10, 0)) hk0 (by decide) rfl rfl ha0 dX10_appendText_69 ?_
    refine tt_getF C hok_28 jk_10 1 (by decide) jw_73b0a985ca (t := (0, 0, 400)) hk1 (by decide) rfl rfl hf_31 dX10_appendText_72 ?_
    exact jj_iret C ⟨[], pl_27, rfl, rfl, hok_28, hfr, hfa, ⟨(by omega), x_32, (by omega), hf_31, rfl⟩⟩ dX10_appendText_75 (jj_le rfl) (jj_le rfl)
  · have z_c_2 := jc_nle (a := (x_1).toInt) (b := (400)) c_2 rfl (by decide)
    exact jj_throw (k := 36) (text := "the text buffer is full") C jt_RX10_64 jw_2e653062aa (by decide +kernel) dX10_appendText_16 dX10_appendText_19 dX10_appendText_20 dX10_appendText_22 dX10_appendText_25 hex (jj_le rfl) (jj_le rfl) (jj_le rfl) (jj_le rfl) ⟨[], pl0, rfl, rfl, hok, hfr, hfa, (by omega), rfl, hf0⟩ (jj_le rfl) (jj_le rfl)

set_option maxHeartbeats 4000000 in
set_option maxRecDepth 100000 in
theorem tf_truncateText {l : Launch} (hl : l.stackTraces = false) (D : va_G) (cA : Nat → ClassId) (ak : (Nat → Nat) × (Nat → Nat)) {Kd : Nat → Nat} (h0 at0 : Nat) (p1 x : Int32) (hk0 : Kd h0 = 15) (hk1 : Kd at0 = 10) (lx : 0 ≤ x.toInt) (ux : x.toInt ≤ 400) {pl0 : va_W} (hok : tt_ok tt_tk cA Kd pl0) (ha0 : tt_at pl0 h0 0 (.ref at0)) (hf0 : tt_at pl0 at0 1 (.int x)) : jj_M l D cA ak yX10_truncateText (.code yX10_truncateText cX10_truncateText 2 (some .int)) 6 82 1 6 ([] ++ pl0) [.ref h0, .int p1] (tt_O (fun rx pl1 r => rx = [] ∧ tt_ok tt_tk cA Kd pl1 ∧ tt_fr Kd [(10, 1)] pl0 pl1 ∧ tt_fa Kd [] pl0 pl1 ∧ ((0 ≤ p1.toInt ∧ p1.toInt ≤ x.toInt ∧ tt_at pl1 at0 1 (.int p1) ∧ r = some (.int p1))))) (tt_OX (fun E rx pl1 => rx = [] ∧ tt_ok tt_tk cA Kd pl1 ∧ tt_fr Kd [(10, 1)] pl0 pl1 ∧ tt_fa Kd [] pl0 pl1 ∧ (p1.toInt < 0 ∨ x.toInt < p1.toInt) ∧ E = "java/lang/IllegalArgumentException" ∧ tt_at pl1 at0 1 (.int x))) := by
  refine jj_start hl (by decide) jw_be9ea47be0 (jj_le rfl) ?_
  intro p e s m args below meth c A hargs hA C hex hmn
  have hfr := tt_fr.refl (K := Kd) (WS := [(10, 1)]) pl0
  have hfa := tt_fa.refl (K := Kd) (WA := []) pl0
  have lp_p1 := tt_lo p1
  have up_p1 := tt_hi p1
  refine jj_iload_n C dX10_truncateText_0 rfl ?_
  refine jj_if_lt (tgt := 15) C dX10_truncateText_1 (by decide) (fun c_1 => ?_) (fun c_1 => ?_)
  · have z_c_1 := jc_lt (a := (p1).toInt) (b := (0)) c_1 rfl (by decide)
    exact jj_throw (k := 37) (text := "no such length") C jt_RX10_75 jw_0e6c957e85 (by decide +kernel) dX10_truncateText_15 dX10_truncateText_18 dX10_truncateText_19 dX10_truncateText_21 dX10_truncateText_24 hex (jj_le rfl) (jj_le rfl) (jj_le rfl) (jj_le rfl) ⟨[], pl0, rfl, rfl, hok, hfr, hfa, (by omega), rfl, hf0⟩ (jj_le rfl) (jj_le rfl)
  · have z_c_1 := jc_nlt (a := (p1).toInt) (b := (0)) c_1 rfl (by decide)
    refine jj_iload_n C dX10_truncateText_4 rfl ?_
    refine jj_aload_n C dX10_truncateText_5 rfl ?_
    refine tt_getF C hok jk_11 0 (by decide) jw_4836d4133c (t := (2, 10, 0)) hk0 (by decide) rfl rfl ha0 dX10_truncateText_6 ?_
    refine tt_getF C hok jk_10 1 (by decide) jw_73b0a985ca (t := (0, 0, 400)) hk1 (by decide) rfl rfl hf0 dX10_truncateText_9 ?_
    refine jj_icmp_le (tgt := 25) C dX10_truncateText_12 (by decide) (fun c_2 => ?_) (fun c_2 => ?_)
    · have z_c_2 := jc_le (a := (p1).toInt) (b := (x).toInt) c_2 rfl rfl
      refine jj_aload_n C dX10_truncateText_25 rfl ?_
      refine tt_getF C hok jk_11 0 (by decide) jw_4836d4133c (t := (2, 10, 0)) hk0 (by decide) rfl rfl ha0 dX10_truncateText_26 ?_
      refine jj_iload_n C dX10_truncateText_29 rfl ?_
      refine rl_put C hok jk_10 1 (by decide) jw_73b0a985ca (t := (0, 0, 400)) hk1 (by decide) rfl rfl rfl (tt_iv (by omega) (by omega)) rfl rfl dX10_truncateText_30 (fun pl_3 hok_4 tr hn tl => ?_)
      replace ha0 := tr _ _ _ (Or.inl (tt_ne hk0 hk1 (by decide))) ha0
      have hf_5 := hn
      replace hfr := hfr.put hk1 tr (by decide)
      replace hfa := hfa.all tl
      refine jj_iload_n C dX10_truncateText_33 rfl ?_
      exact jj_iret C ⟨[], pl_3, rfl, rfl, hok_4, hfr, hfa, ⟨(by omega), (by omega), hf_5, rfl⟩⟩ dX10_truncateText_34 (jj_le rfl) (jj_le rfl)
    · have z_c_2 := jc_nle (a := (p1).toInt) (b := (x).toInt) c_2 rfl rfl
      exact jj_throw (k := 37) (text := "no such length") C jt_RX10_75 jw_0e6c957e85 (by decide +kernel) dX10_truncateText_15 dX10_truncateText_18 dX10_truncateText_19 dX10_truncateText_21 dX10_truncateText_24 hex (jj_le rfl) (jj_le rfl) (jj_le rfl) (jj_le rfl) ⟨[], pl0, rfl, rfl, hok, hfr, hfa, (by omega), rfl, hf0⟩ (jj_le rfl) (jj_le rfl)

set_option maxHeartbeats 4000000 in
set_option maxRecDepth 100000 in
theorem tf_parseFund {l : Launch} (hl : l.stackTraces = false) (D : va_G) (cA : Nat → ClassId) (ak : (Nat → Nat) × (Nat → Nat)) {Kd : Nat → Nat} (h0 at0 : Nat) (hk0 : Kd h0 = 15) (hk1 : Kd at0 = 10) {pl0 : va_W} (hok : tt_ok tt_tk cA Kd pl0) (ha0 : tt_at pl0 h0 0 (.ref at0)) : jj_M l D cA ak yX10_parseFund (.code yX10_parseFund cX10_parseFund 3 (some .int)) 8 168 1 3 ([] ++ pl0) [.ref h0] (tt_O (fun rx pl1 r => ∃ K1 : Nat → Nat, tt_ex Kd K1 ∧ rx = [] ∧ tt_ok tt_tk cA K1 pl1 ∧ tt_fr Kd [(1, 0), (1, 1), (1, 2), (1, 3), (1, 4), (1, 5), (1, 6), (1, 7), (1, 8), (1, 9), (2, 0), (2, 1), (2, 2), (2, 3), (2, 4), (3, 0), (3, 1), (3, 2), (3, 3), (3, 4), (3, 5), (4, 0), (4, 1), (4, 2), (4, 3), (4, 4), (9, 1), (9, 2), (9, 3), (9, 4), (9, 5), (10, 1), (10, 2), (10, 3), (10, 4), (10, 5), (10, 6), (15, 1), (15, 2), (15, 8), (17, 2)] pl0 pl1 ∧ tt_fa Kd [5] pl0 pl1 ∧ ((tt_at pl1 at0 1 (.int 0) ∧ ∃ v : Int32, r = some (.int v))))) (tt_OX (fun _ _ _ => False)) := by
  refine jj_start hl (by decide) jw_1f123082b6 (jj_le rfl) ?_
  intro p e s m args below meth c A hargs hA C hex hmn
  have hfr := tt_fr.refl (K := Kd) (WS := [(1, 0), (1, 1), (1, 2), (1, 3), (1, 4), (1, 5), (1, 6), (1, 7), (1, 8), (1, 9), (2, 0), (2, 1), (2, 2), (2, 3), (2, 4), (3, 0), (3, 1), (3, 2), (3, 3), (3, 4), (3, 5), (4, 0), (4, 1), (4, 2), (4, 3), (4, 4), (9, 1), (9, 2), (9, 3), (9, 4), (9, 5), (10, 1), (10, 2), (10, 3), (10, 4), (10, 5), (10, 6), (15, 1), (15, 2), (15, 8), (17, 2)]) pl0
  have hfa := tt_fa.refl (K := Kd) (WA := [5]) pl0
  refine jj_aload_n C dX10_parseFund_0 rfl ?_
  refine tt_getF C hok jk_11 0 (by decide) jw_4836d4133c (t := (2, 10, 0)) hk0 (by decide) rfl rfl ha0 dX10_parseFund_1 ?_
  obtain ⟨qc, gs, hqc⟩ := tt_recv (cx := []) hok hk1 (by decide) rfl
  refine tt_callV (rest := []) C (tf_takeBuffer hl D cA ak at0 hk1 hok) [] [] rfl rfl (by decide) (by decide) (by decide) qc hqc rfl rfl jw_5efda3794a jw_30b807515b jw_13e4836c11 jw_a9e7b602dc jw_e4fa8c07c9 jn_X9_takeBuffer rfl (jj_le rfl) (jj_le rfl) (jj_le rfl) (jj_le rfl) (jj_le rfl) dX10_parseFund_4 rfl (fun _ _ _ hX => hX.elim) (fun rx pl_1 r O_4 => ?_)
  obtain ⟨rfl, hok_2, hr_3, hfa9, hf_5, rfl⟩ := O_4
  replace ha0 := hr_3.at hk0 (by decide) (by decide) ha0
  replace hfr := hfr.trans (hr_3.sub (by decide))
  replace hfa := hfa.trans (hfa9.sub (by decide))
  refine jj_new (wt := []) C jk_4 jw_0cf788dab0 jw_a522655315 jw_9d546d0b6f jd_4 (jj_le rfl) (jj_le rfl) dX10_parseFund_7 (fun q_6 => ?_)
  refine tt_swp rfl ?_
  refine jj_dup C dX10_parseFund_10 rfl ?_
  refine jj_aload_n C dX10_parseFund_11 rfl ?_
  refine tt_getF C hok_2 jk_11 0 (by decide) jw_4836d4133c (t := (2, 10, 0)) hk0 (by decide) rfl rfl ha0 dX10_parseFund_12 ?_
  refine jj_aload_n C dX10_parseFund_15 rfl ?_
  refine tt_get C hok_2 jk_11 4 (by decide) jw_a0e4d790fa (t := (2, 1, 0)) hk0 (by decide) rfl rfl dX10_parseFund_16 (fun v_7 hv_7 hf_8 => ?_)
  obtain ⟨a_9, rfl, ka_9⟩ := tt_vr hv_7
  refine tt_callI0 (rest := [.ref q_6]) C (ct_X3_init_1 hl D cA ak q_6 at0 a_9) [0] [] rfl rfl (by decide) (by decide) (by decide) jw_d39ed87e8d jw_a345980fa4 jw_9d546d0b6f jw_815a5635de rfl jn_X3_init rfl (jj_le rfl) (jj_le rfl) (jj_le rfl) (jj_le rfl) (jj_le rfl) dX10_parseFund_19 rfl (fun w1 r hO => ?_)
  obtain ⟨rfl, rfl⟩ := hO
  refine tt_apd rfl ?_
  refine tl_prom (k := 17) [] rfl hok_2 (fun K1 hz _ => tt_Eo (fts := [(2, 10, 0), (2, 1, 0), (0, (-2147483648), 2147483647)]) rfl ⟨tt_rv (hz.kd hk1 (by decide)), tt_rv (hz.kd ka_9 (by decide)), (tt_ia _), trivial⟩) (fun K_10 pl_11 hok_12 hx_14 kq_6 tr tr2 tl => ?_)
  replace ha0 := tr _ _ _ ha0
  replace hf_5 := tr _ _ _ hf_5
  replace hf_8 := tr _ _ _ hf_8
  replace hfr := hfr.arr tr
  replace hfa := hfa.all tl
  have hk0 := hx_14.kd hk0 (by decide)
  have hk1 := hx_14.kd hk1 (by decide)
  have ka_9 := hx_14.kd ka_9 (by decide)
  have hx_13 := hx_14
  have hf_15 := tr2 _ 0 _ _ rfl rfl
  have hf_16 := tr2 _ 1 _ _ rfl rfl
  have hf_17 := tr2 _ 2 _ _ rfl rfl
  refine jj_astore_n C dX10_parseFund_22 (by decide) rfl ?_
  refine jj_aload_n C dX10_parseFund_23 rfl ?_
  obtain ⟨qc, gs, hqc⟩ := tt_recv (cx := []) hok_12 kq_6 (by decide) rfl
  refine tt_callV (rest := []) C (tc_X3_readAll_1 hl D cA ak q_6 kq_6 hok_12) [] [] rfl rfl (by decide) (by decide) (by decide) qc hqc rfl rfl jw_3aa8a9688c jw_7a91a56686 jw_1f44e8e425 jw_9d546d0b6f jw_48ef172467 jn_X3_readAll rfl (jj_le rfl) (jj_le rfl) (jj_le rfl) (jj_le rfl) (jj_le rfl) dX10_parseFund_24 rfl (fun _ _ _ hX => hX.elim) (fun rx pl_18 r O_21 => ?_)
  obtain ⟨rfl, hok_19, hr_20, hfa9, hR_23⟩ := O_21
  replace ha0 := hr_20.at hk0 (by decide) (by decide) ha0
  replace hf_5 := hr_20.at hk1 (by decide) (by decide) hf_5
  replace hf_8 := hr_20.at hk0 (by decide) (by decide) hf_8
  replace hf_15 := hr_20.at kq_6 (by decide) (by decide) hf_15
  replace hf_16 := hr_20.at kq_6 (by decide) (by decide) hf_16
  replace hfr := hfr.transX hx_13 (hr_20.sub (by decide))
  replace hfa := hfa.transX hx_13 (hfa9.sub (by decide))
  rcases hR_23 with rfl | rfl
  · refine jj_if_neF (tgt := 51) C dX10_parseFund_27 (by decide) (by decide) ?_
    refine jj_aload_n C dX10_parseFund_30 rfl ?_
    refine jj_aload_n C dX10_parseFund_31 rfl ?_
    refine tt_get C hok_19 jk_4 2 (by decide) jw_14f27d9163 (t := (0, (-2147483648), 2147483647)) kq_6 (by decide) rfl rfl dX10_parseFund_32 (fun v_26 hv_26 hf_27 => ?_)
    obtain ⟨x_28, rfl, lx_28, ux_28⟩ := tt_vi hv_26
    refine rl_put C hok_19 jk_11 1 (by decide) jw_1eeb46a090 (t := (0, (-2147483648), 2147483647)) hk0 (by decide) rfl rfl rfl (tt_ia x_28) rfl rfl dX10_parseFund_35 (fun pl_29 hok_30 tr hn tl => ?_)
    replace ha0 := tr _ _ _ (Or.inr (by decide)) ha0
    replace hf_5 := tr _ _ _ (Or.inl (tt_ne hk1 hk0 (by decide))) hf_5
    replace hf_8 := tr _ _ _ (Or.inr (by decide)) hf_8
    replace hf_15 := tr _ _ _ (Or.inl (tt_ne kq_6 hk0 (by decide))) hf_15
    replace hf_16 := tr _ _ _ (Or.inl (tt_ne kq_6 hk0 (by decide))) hf_16
    replace hf_27 := tr _ _ _ (Or.inl (tt_ne kq_6 hk0 (by decide))) hf_27
    have hf_31 := hn
    replace hfr := hfr.putX hx_13 hk0 tr (by decide)
    replace hfa := hfa.all tl
    refine jj_aload_n C dX10_parseFund_38 rfl ?_
    refine jj_aload_n C dX10_parseFund_39 rfl ?_
    refine tt_getF C hok_30 jk_11 0 (by decide) jw_4836d4133c (t := (2, 10, 0)) hk0 (by decide) rfl rfl ha0 dX10_parseFund_40 ?_
    refine tt_get C hok_30 jk_10 4 (by decide) jw_26ab74fd32 (t := (0, 0, 400)) hk1 (by decide) rfl rfl dX10_parseFund_43 (fun v_32 hv_32 hf_33 => ?_)
    obtain ⟨x_34, rfl, lx_34, ux_34⟩ := tt_vi hv_32
    refine rl_put C hok_30 jk_11 2 (by decide) jw_e0c9868424 (t := (0, (-2147483648), 2147483647)) hk0 (by decide) rfl rfl rfl (tt_ia x_34) rfl rfl dX10_parseFund_46 (fun pl_35 hok_36 tr hn tl => ?_)
    replace ha0 := tr _ _ _ (Or.inr (by decide)) ha0
    replace hf_5 := tr _ _ _ (Or.inl (tt_ne hk1 hk0 (by decide))) hf_5
    replace hf_8 := tr _ _ _ (Or.inr (by decide)) hf_8
    replace hf_15 := tr _ _ _ (Or.inl (tt_ne kq_6 hk0 (by decide))) hf_15
    replace hf_16 := tr _ _ _ (Or.inl (tt_ne kq_6 hk0 (by decide))) hf_16
    replace hf_27 := tr _ _ _ (Or.inl (tt_ne kq_6 hk0 (by decide))) hf_27
    replace hf_31 := tr _ _ _ (Or.inr (by decide)) hf_31
    replace hf_33 := tr _ _ _ (Or.inl (tt_ne hk1 hk0 (by decide))) hf_33
    have hf_37 := hn
    replace hfr := hfr.putX hx_13 hk0 tr (by decide)
    replace hfa := hfa.all tl
    refine jj_iconst (v := (-1)) C dX10_parseFund_49 (by decide) ?_
    exact jj_iret C ⟨[], pl_35, rfl, K_10, hx_13, rfl, hok_36, hfr, hfa, ⟨hf_5, ((-1) : Int32), rfl⟩⟩ dX10_parseFund_50 (jj_le rfl) (jj_le rfl)
  · refine jj_if_neT (tgt := 51) C dX10_parseFund_27 (by decide) (by decide) ?_
    refine jj_aload_n C dX10_parseFund_51 rfl ?_
    refine jj_iconst (v := 0) C dX10_parseFund_52 (by decide) ?_
    refine rl_put C hok_19 jk_11 1 (by decide) jw_1eeb46a090 (t := (0, (-2147483648), 2147483647)) hk0 (by decide) rfl rfl rfl (tt_ia (0 : Int32)) rfl rfl dX10_parseFund_53 (fun pl_38 hok_39 tr hn tl => ?_)
    replace ha0 := tr _ _ _ (Or.inr (by decide)) ha0
    replace hf_5 := tr _ _ _ (Or.inl (tt_ne hk1 hk0 (by decide))) hf_5
    replace hf_8 := tr _ _ _ (Or.inr (by decide)) hf_8
    replace hf_15 := tr _ _ _ (Or.inl (tt_ne kq_6 hk0 (by decide))) hf_15
    replace hf_16 := tr _ _ _ (Or.inl (tt_ne kq_6 hk0 (by decide))) hf_16
    have hf_40 := hn
    replace hfr := hfr.putX hx_13 hk0 tr (by decide)
    replace hfa := hfa.all tl
    refine jj_aload_n C dX10_parseFund_56 rfl ?_
    refine jj_iconst (v := (-1)) C dX10_parseFund_57 (by decide) ?_
    refine rl_put C hok_39 jk_11 2 (by decide) jw_e0c9868424 (t := (0, (-2147483648), 2147483647)) hk0 (by decide) rfl rfl rfl (tt_ia ((-1) : Int32)) rfl rfl dX10_parseFund_58 (fun pl_41 hok_42 tr hn tl => ?_)
    replace ha0 := tr _ _ _ (Or.inr (by decide)) ha0
    replace hf_5 := tr _ _ _ (Or.inl (tt_ne hk1 hk0 (by decide))) hf_5
    replace hf_8 := tr _ _ _ (Or.inr (by decide)) hf_8
    replace hf_15 := tr _ _ _ (Or.inl (tt_ne kq_6 hk0 (by decide))) hf_15
    replace hf_16 := tr _ _ _ (Or.inl (tt_ne kq_6 hk0 (by decide))) hf_16
    replace hf_40 := tr _ _ _ (Or.inr (by decide)) hf_40
    have hf_43 := hn
    replace hfr := hfr.putX hx_13 hk0 tr (by decide)
    replace hfa := hfa.all tl
    refine jj_aload_n C dX10_parseFund_61 rfl ?_
    refine tt_getF C hok_42 jk_11 4 (by decide) jw_a0e4d790fa (t := (2, 1, 0)) hk0 (by decide) rfl rfl hf_8 dX10_parseFund_62 ?_
    refine tt_get C hok_42 jk_2 9 (by decide) jw_e1b9780688 (t := (0, 0, 12)) ka_9 (by decide) rfl rfl dX10_parseFund_65 (fun v_44 hv_44 hf_45 => ?_)
    obtain ⟨x_46, rfl, lx_46, ux_46⟩ := tt_vi hv_44
    refine jj_istore_n C dX10_parseFund_68 (by decide) rfl ?_
    refine jj_aload_n C dX10_parseFund_69 rfl ?_
    refine tt_get C hok_42 jk_11 5 (by decide) jw_34b8702fe2 (t := (2, 9, 0)) hk0 (by decide) rfl rfl dX10_parseFund_70 (fun v_47 hv_47 hf_48 => ?_)
    obtain ⟨a_49, rfl, ka_49⟩ := tt_vr hv_47
    refine jj_aload_n C dX10_parseFund_73 rfl ?_
    refine tt_getF C hok_42 jk_11 4 (by decide) jw_a0e4d790fa (t := (2, 1, 0)) hk0 (by decide) rfl rfl hf_8 dX10_parseFund_74 ?_
    obtain ⟨qc, gs, hqc⟩ := tt_recv (cx := []) hok_42 ka_49 (by decide) rfl
    refine tt_callV (rest := []) C (tc_X1_holdDealing_1 hl D cA ak a_49 a_9 ka_49 ka_9 hok_42) [] [] rfl rfl (by decide) (by decide) (by decide) qc hqc rfl rfl jw_3c4052a5f5 jw_9492be7750 jw_6c693009b5 jw_944cf9c3ab jw_cb08e29005 jn_X1_holdDealing rfl (jj_le rfl) (jj_le rfl) (jj_le rfl) (jj_le rfl) (jj_le rfl) dX10_parseFund_77 rfl (fun _ _ _ hX => hX.elim) (fun rx pl_50 r O_53 => ?_)
    obtain ⟨rfl, hok_51, hr_52, hfa9, hR_55⟩ := O_53
    replace ha0 := hr_52.at hk0 (by decide) (by decide) ha0
    replace hf_5 := hr_52.at hk1 (by decide) (by decide) hf_5
    replace hf_8 := hr_52.at hk0 (by decide) (by decide) hf_8
    replace hf_15 := hr_52.at kq_6 (by decide) (by decide) hf_15
    replace hf_16 := hr_52.at kq_6 (by decide) (by decide) hf_16
    replace hf_40 := hr_52.at hk0 (by decide) (by decide) hf_40
    replace hf_43 := hr_52.at hk0 (by decide) (by decide) hf_43
    replace hf_48 := hr_52.at hk0 (by decide) (by decide) hf_48
    replace hfr := hfr.transX hx_13 (hr_52.sub (by decide))
    replace hfa := hfa.transX hx_13 (hfa9.sub (by decide))
    obtain ⟨x_58, lx_58, ux_58, rfl⟩ := hR_55
    refine jj_pop C dX10_parseFund_80 rfl ?_
    refine jj_aload_n C dX10_parseFund_81 rfl ?_
    refine tt_get C hok_51 jk_11 3 (by decide) jw_f82a97e333 (t := (2, 1, 0)) hk0 (by decide) rfl rfl dX10_parseFund_82 (fun v_59 hv_59 hf_60 => ?_)
    obtain ⟨a_61, rfl, ka_61⟩ := tt_vr hv_59
    refine jj_aload_n C dX10_parseFund_85 rfl ?_
    refine tt_getF C hok_51 jk_11 4 (by decide) jw_a0e4d790fa (t := (2, 1, 0)) hk0 (by decide) rfl rfl hf_8 dX10_parseFund_86 ?_
    obtain ⟨qc, gs, hqc⟩ := tt_recv (cx := []) hok_51 ka_61 (by decide) rfl
    refine tt_callV (rest := []) C (tc_X0_copyFrom_1 hl D cA ak a_61 a_9 ka_61 ka_9 hok_51) [] [] rfl rfl (by decide) (by decide) (by decide) qc hqc rfl rfl jw_4d0cb05860 jw_8aa1bdb2cc jw_ac98d74d03 jw_7d25d4fd32 jw_58241735d3 jn_X0_copyFrom rfl (jj_le rfl) (jj_le rfl) (jj_le rfl) (jj_le rfl) (jj_le rfl) dX10_parseFund_89 rfl (fun _ _ _ hX => hX.elim) (fun rx pl_62 r O_65 => ?_)
    obtain ⟨rfl, hok_63, hr_64, hfa9, hR_67⟩ := O_65
    replace ha0 := hr_64.at hk0 (by decide) (by decide) ha0
    replace hf_5 := hr_64.at hk1 (by decide) (by decide) hf_5
    replace hf_8 := hr_64.at hk0 (by decide) (by decide) hf_8
    replace hf_15 := hr_64.at kq_6 (by decide) (by decide) hf_15
    replace hf_16 := hr_64.at kq_6 (by decide) (by decide) hf_16
    replace hf_40 := hr_64.at hk0 (by decide) (by decide) hf_40
    replace hf_43 := hr_64.at hk0 (by decide) (by decide) hf_43
    replace hf_48 := hr_64.at hk0 (by decide) (by decide) hf_48
    replace hf_60 := hr_64.at hk0 (by decide) (by decide) hf_60
    replace hfr := hfr.transX hx_13 (hr_64.sub (by decide))
    replace hfa := hfa.transX hx_13 (hfa9.sub (by decide))
    obtain rfl := hR_67
    refine jj_aload_n C dX10_parseFund_92 rfl ?_
    refine jj_iconst (v := 0) C dX10_parseFund_93 (by decide) ?_
    refine rl_put C hok_63 jk_11 8 (by decide) jw_427985f7c9 (t := (0, 0, 10)) hk0 (by decide) rfl rfl rfl (tt_iv (by decide) (by decide)) rfl rfl dX10_parseFund_94 (fun pl_70 hok_71 tr hn tl => ?_)
    replace ha0 := tr _ _ _ (Or.inr (by decide)) ha0
    replace hf_5 := tr _ _ _ (Or.inl (tt_ne hk1 hk0 (by decide))) hf_5
    replace hf_8 := tr _ _ _ (Or.inr (by decide)) hf_8
    replace hf_15 := tr _ _ _ (Or.inl (tt_ne kq_6 hk0 (by decide))) hf_15
    replace hf_16 := tr _ _ _ (Or.inl (tt_ne kq_6 hk0 (by decide))) hf_16
    replace hf_40 := tr _ _ _ (Or.inr (by decide)) hf_40
    replace hf_43 := tr _ _ _ (Or.inr (by decide)) hf_43
    replace hf_48 := tr _ _ _ (Or.inr (by decide)) hf_48
    replace hf_60 := tr _ _ _ (Or.inr (by decide)) hf_60
    have hf_72 := hn
    replace hfr := hfr.putX hx_13 hk0 tr (by decide)
    replace hfa := hfa.all tl
    refine jj_iload_n C dX10_parseFund_97 rfl ?_
    exact jj_iret C ⟨[], pl_70, rfl, K_10, hx_13, rfl, hok_71, hfr, hfa, ⟨hf_5, x_46, rfl⟩⟩ dX10_parseFund_98 (jj_le rfl) (jj_le rfl)

set_option maxHeartbeats 4000000 in
set_option maxRecDepth 100000 in
theorem tf_runScript {l : Launch} (hl : l.stackTraces = false) (D : va_G) (cA : Nat → ClassId) (ak : (Nat → Nat) × (Nat → Nat)) {Kd : Nat → Nat} (h0 at0 : Nat) (hk0 : Kd h0 = 15) (hk1 : Kd at0 = 10) {pl0 : va_W} (hok : tt_ok tt_tk cA Kd pl0) (ha0 : tt_at pl0 h0 0 (.ref at0)) : jj_M l D cA ak yX10_runScript (.code yX10_runScript cX10_runScript 4 (some .int)) 7 155 64 414 ([] ++ pl0) [.ref h0] (tt_O (fun rx pl1 r => ∃ K1 : Nat → Nat, tt_ex Kd K1 ∧ rx = [] ∧ tt_ok tt_tk cA K1 pl1 ∧ tt_fr Kd [(1, 0), (1, 1), (1, 2), (1, 3), (1, 4), (1, 5), (1, 6), (1, 7), (1, 8), (1, 9), (2, 0), (2, 1), (2, 2), (2, 3), (2, 4), (3, 0), (3, 1), (3, 2), (3, 3), (3, 4), (3, 5), (4, 0), (4, 1), (4, 2), (4, 3), (4, 4), (9, 1), (9, 2), (9, 3), (9, 4), (9, 5), (10, 1), (10, 2), (10, 3), (10, 4), (10, 5), (10, 6), (15, 7), (15, 8), (18, 3), (18, 4), (18, 5)] pl0 pl1 ∧ tt_fa Kd [5] pl0 pl1 ∧ ((tt_at pl1 at0 1 (.int 0) ∧ ∃ v : Int32, r = some (.int v))))) (tt_OX (fun _ _ _ => False)) := by
  refine jj_start hl (by decide) jw_afb4873726 (jj_le rfl) ?_
  intro p e s m args below meth c A hargs hA C hex hmn
  have hfr := tt_fr.refl (K := Kd) (WS := [(1, 0), (1, 1), (1, 2), (1, 3), (1, 4), (1, 5), (1, 6), (1, 7), (1, 8), (1, 9), (2, 0), (2, 1), (2, 2), (2, 3), (2, 4), (3, 0), (3, 1), (3, 2), (3, 3), (3, 4), (3, 5), (4, 0), (4, 1), (4, 2), (4, 3), (4, 4), (9, 1), (9, 2), (9, 3), (9, 4), (9, 5), (10, 1), (10, 2), (10, 3), (10, 4), (10, 5), (10, 6), (15, 7), (15, 8), (18, 3), (18, 4), (18, 5)]) pl0
  have hfa := tt_fa.refl (K := Kd) (WA := [5]) pl0
  refine jj_aload_n C dX10_runScript_0 rfl ?_
  refine tt_getF C hok jk_11 0 (by decide) jw_4836d4133c (t := (2, 10, 0)) hk0 (by decide) rfl rfl ha0 dX10_runScript_1 ?_
  obtain ⟨qc, gs, hqc⟩ := tt_recv (cx := []) hok hk1 (by decide) rfl
  refine tt_callV (rest := []) C (tf_takeBuffer hl D cA ak at0 hk1 hok) [] [] rfl rfl (by decide) (by decide) (by decide) qc hqc rfl rfl jw_5efda3794a jw_30b807515b jw_13e4836c11 jw_a9e7b602dc jw_e4fa8c07c9 jn_X9_takeBuffer rfl (jj_le rfl) (jj_le rfl) (jj_le rfl) (jj_le rfl) (jj_le rfl) dX10_runScript_4 rfl (fun _ _ _ hX => hX.elim) (fun rx pl_1 r O_4 => ?_)
  obtain ⟨rfl, hok_2, hr_3, hfa9, hf_5, rfl⟩ := O_4
  replace ha0 := hr_3.at hk0 (by decide) (by decide) ha0
  replace hfr := hfr.trans (hr_3.sub (by decide))
  replace hfa := hfa.trans (hfa9.sub (by decide))
  refine jj_aload_n C dX10_runScript_7 rfl ?_
  refine tt_get C hok_2 jk_11 4 (by decide) jw_a0e4d790fa (t := (2, 1, 0)) hk0 (by decide) rfl rfl dX10_runScript_8 (fun v_6 hv_6 hf_7 => ?_)
  obtain ⟨a_8, rfl, ka_8⟩ := tt_vr hv_6
  refine jj_aload_n C dX10_runScript_11 rfl ?_
  refine tt_get C hok_2 jk_11 3 (by decide) jw_f82a97e333 (t := (2, 1, 0)) hk0 (by decide) rfl rfl dX10_runScript_12 (fun v_9 hv_9 hf_10 => ?_)
  obtain ⟨a_11, rfl, ka_11⟩ := tt_vr hv_9
  obtain ⟨qc, gs, hqc⟩ := tt_recv (cx := []) hok_2 ka_8 (by decide) rfl
  refine tt_callV (rest := []) C (tc_X0_copyFrom_1 hl D cA ak a_8 a_11 ka_8 ka_11 hok_2) [] [] rfl rfl (by decide) (by decide) (by decide) qc hqc rfl rfl jw_4d0cb05860 jw_8aa1bdb2cc jw_ac98d74d03 jw_7d25d4fd32 jw_58241735d3 jn_X0_copyFrom rfl (jj_le rfl) (jj_le rfl) (jj_le rfl) (jj_le rfl) (jj_le rfl) dX10_runScript_15 rfl (fun _ _ _ hX => hX.elim) (fun rx pl_12 r O_15 => ?_)
  obtain ⟨rfl, hok_13, hr_14, hfa9, hR_17⟩ := O_15
  replace ha0 := hr_14.at hk0 (by decide) (by decide) ha0
  replace hf_5 := hr_14.at hk1 (by decide) (by decide) hf_5
  replace hf_7 := hr_14.at hk0 (by decide) (by decide) hf_7
  replace hf_10 := hr_14.at hk0 (by decide) (by decide) hf_10
  replace hfr := hfr.trans (hr_14.sub (by decide))
  replace hfa := hfa.trans (hfa9.sub (by decide))
  obtain rfl := hR_17
  refine jj_new (wt := []) C jk_8 jw_dcae64b9ab jw_bbdab67eb7 jw_ab600d7316 jd_8 (jj_le rfl) (jj_le rfl) dX10_runScript_18 (fun q_20 => ?_)
  refine tt_swp rfl ?_
  refine jj_dup C dX10_runScript_21 rfl ?_
  refine jj_aload_n C dX10_runScript_22 rfl ?_
  refine tt_getF C hok_13 jk_11 0 (by decide) jw_4836d4133c (t := (2, 10, 0)) hk0 (by decide) rfl rfl ha0 dX10_runScript_23 ?_
  refine jj_aload_n C dX10_runScript_26 rfl ?_
  refine tt_getF C hok_13 jk_11 4 (by decide) jw_a0e4d790fa (t := (2, 1, 0)) hk0 (by decide) rfl rfl hf_7 dX10_runScript_27 ?_
  refine jj_aload_n C dX10_runScript_30 rfl ?_
  refine tt_get C hok_13 jk_11 5 (by decide) jw_34b8702fe2 (t := (2, 9, 0)) hk0 (by decide) rfl rfl dX10_runScript_31 (fun v_21 hv_21 hf_22 => ?_)
  obtain ⟨a_23, rfl, ka_23⟩ := tt_vr hv_21
  refine tt_callI0 (rest := [.ref q_20]) C (ct_X7_init_1 hl D cA ak q_20 at0 a_8 a_23) [0] [] rfl rfl (by decide) (by decide) (by decide) jw_88ef7d888c jw_61caa2835f jw_ab600d7316 jw_05338e0863 rfl jn_X7_init rfl (jj_le rfl) (jj_le rfl) (jj_le rfl) (jj_le rfl) (jj_le rfl) dX10_runScript_34 rfl (fun w1 r hO => ?_)
  obtain ⟨rfl, rfl⟩ := hO
  refine tt_apd rfl ?_
  refine tl_prom (k := 18) [] rfl hok_13 (fun K1 hz _ => tt_Eo (fts := [(2, 10, 0), (2, 1, 0), (2, 9, 0), (0, (-2147483648), 2147483647), (0, (-2147483648), 2147483647), (0, (-2147483648), 2147483647)]) rfl ⟨tt_rv (hz.kd hk1 (by decide)), tt_rv (hz.kd ka_8 (by decide)), tt_rv (hz.kd ka_23 (by decide)), (tt_ia _), (tt_ia _), (tt_ia _), trivial⟩) (fun K_24 pl_25 hok_26 hx_28 kq_20 tr tr2 tl => ?_)
  replace ha0 := tr _ _ _ ha0
  replace hf_5 := tr _ _ _ hf_5
  replace hf_7 := tr _ _ _ hf_7
  replace hf_10 := tr _ _ _ hf_10
  replace hf_22 := tr _ _ _ hf_22
  replace hfr := hfr.arr tr
  replace hfa := hfa.all tl
  have hk0 := hx_28.kd hk0 (by decide)
  have hk1 := hx_28.kd hk1 (by decide)
  have ka_8 := hx_28.kd ka_8 (by decide)
  have ka_11 := hx_28.kd ka_11 (by decide)
  have ka_23 := hx_28.kd ka_23 (by decide)
  have hx_27 := hx_28
  have hf_29 := tr2 _ 0 _ _ rfl rfl
  have hf_30 := tr2 _ 1 _ _ rfl rfl
  have hf_31 := tr2 _ 2 _ _ rfl rfl
  have hf_32 := tr2 _ 3 _ _ rfl rfl
  have hf_33 := tr2 _ 4 _ _ rfl rfl
  have hf_34 := tr2 _ 5 _ _ rfl rfl
  refine jj_astore_n C dX10_runScript_37 (by decide) rfl ?_
  refine jj_iconst (v := 0) C dX10_runScript_38 (by decide) ?_
  refine jj_istore_n C dX10_runScript_39 (by decide) rfl ?_
  refine jj_aload_n C dX10_runScript_40 rfl ?_
  refine tt_getF C hok_26 jk_11 0 (by decide) jw_4836d4133c (t := (2, 10, 0)) hk0 (by decide) rfl rfl ha0 dX10_runScript_41 ?_
  obtain ⟨qc, gs, hqc⟩ := tt_recv (cx := []) hok_26 hk1 (by decide) rfl
  refine tt_callV (rest := []) C (tc_X9_advance_1 hl D cA ak at0 hk1 hok_26) [] [] rfl rfl (by decide) (by decide) (by decide) qc hqc rfl rfl jw_e348f4fe02 jw_37f6ee43e0 jw_46baf1fc7b jw_a9e7b602dc jw_0d4db63612 jn_X9_advance rfl (jj_le rfl) (jj_le rfl) (jj_le rfl) (jj_le rfl) (jj_le rfl) dX10_runScript_44 rfl (fun _ _ _ hX => hX.elim) (fun rx pl_35 r O_38 => ?_)
  obtain ⟨rfl, hok_36, hr_37, hfa9, hR_40⟩ := O_38
  replace ha0 := hr_37.at hk0 (by decide) (by decide) ha0
  replace hf_5 := hr_37.at hk1 (by decide) (by decide) hf_5
  replace hf_7 := hr_37.at hk0 (by decide) (by decide) hf_7
  replace hf_10 := hr_37.at hk0 (by decide) (by decide) hf_10
  replace hf_22 := hr_37.at hk0 (by decide) (by decide) hf_22
  replace hf_29 := hr_37.at kq_20 (by decide) (by decide) hf_29
  replace hf_30 := hr_37.at kq_20 (by decide) (by decide) hf_30
  replace hf_31 := hr_37.at kq_20 (by decide) (by decide) hf_31
  replace hf_32 := hr_37.at kq_20 (by decide) (by decide) hf_32
  replace hf_33 := hr_37.at kq_20 (by decide) (by decide) hf_33
  replace hf_34 := hr_37.at kq_20 (by decide) (by decide) hf_34
  replace hfr := hfr.transX hx_27 (hr_37.sub (by decide))
  replace hfa := hfa.transX hx_27 (hfa9.sub (by decide))
  obtain rfl := hR_40
  have hL_43 : ∀ (N : Nat) (pl : va_W) (x_44 : Int32), True → tt_ok tt_tk cA K_24 pl → tt_fr Kd [(1, 0), (1, 1), (1, 2), (1, 3), (1, 4), (1, 5), (1, 6), (1, 7), (1, 8), (1, 9), (2, 0), (2, 1), (2, 2), (2, 3), (2, 4), (3, 0), (3, 1), (3, 2), (3, 3), (3, 4), (3, 5), (4, 0), (4, 1), (4, 2), (4, 3), (4, 4), (9, 1), (9, 2), (9, 3), (9, 4), (9, 5), (10, 1), (10, 2), (10, 3), (10, 4), (10, 5), (10, 6), (15, 7), (15, 8), (18, 3), (18, 4), (18, 5)] pl0 pl → tt_fa Kd [5] pl0 pl → tt_at pl h0 0 (.ref at0) → tt_at pl at0 1 (.int 0) → tt_at pl h0 4 (.ref a_8) → tt_at pl h0 3 (.ref a_11) → tt_at pl h0 5 (.ref a_23) → tt_at pl q_20 0 (.ref at0) → tt_at pl q_20 1 (.ref a_8) → tt_at pl q_20 2 (.ref a_23) → (0 : Int) ≤ x_44.toInt → x_44.toInt ≤ 400 → (2147483648 - x_44.toInt ≤ (N : Int)) → jj_J p l e (jj_rm 7 155 64 414) s m args below meth c 4 A (vx_MQ below (jj_q D A (tt_O (fun rx pl1 r => ∃ K1 : Nat → Nat, tt_ex Kd K1 ∧ rx = [] ∧ tt_ok tt_tk cA K1 pl1 ∧ tt_fr Kd [(1, 0), (1, 1), (1, 2), (1, 3), (1, 4), (1, 5), (1, 6), (1, 7), (1, 8), (1, 9), (2, 0), (2, 1), (2, 2), (2, 3), (2, 4), (3, 0), (3, 1), (3, 2), (3, 3), (3, 4), (3, 5), (4, 0), (4, 1), (4, 2), (4, 3), (4, 4), (9, 1), (9, 2), (9, 3), (9, 4), (9, 5), (10, 1), (10, 2), (10, 3), (10, 4), (10, 5), (10, 6), (15, 7), (15, 8), (18, 3), (18, 4), (18, 5)] pl0 pl1 ∧ tt_fa Kd [5] pl0 pl1 ∧ ((tt_at pl1 at0 1 (.int 0) ∧ ∃ v : Int32, r = some (.int v)))))) (jj_x D A (tt_OX (fun _ _ _ => False))) args s 64 414 A) (jj_X D A ([] ++ pl)) 1 6 47 [(2, .int x_44), (1, .ref q_20), (0, .ref h0)] [] := by
    intro NL_43
    induction NL_43 with
    | zero => intro pl x_44 _ hok hfr hfa hf_45 hf_46 hf_47 hf_48 hf_49 hf_50 hf_51 hf_52 lx_44 ux_44 hNL_43; exfalso; omega
    | succ NL_43 ihL_43 =>
      intro pl x_44 _ hok hfr hfa hf_45 hf_46 hf_47 hf_48 hf_49 hf_50 hf_51 hf_52 lx_44 ux_44 hNL_43
      replace ihL_43 := fun pl x_44 h1 => ihL_43 pl x_44 trivial h1
      refine jj_aload_n C dX10_runScript_47 rfl ?_
      refine tt_getF C hok jk_11 0 (by decide) jw_4836d4133c (t := (2, 10, 0)) hk0 (by decide) rfl rfl hf_45 dX10_runScript_48 ?_
      refine tt_get C hok jk_10 5 (by decide) jw_cd2663a0ff (t := (0, (-2147483648), 2147483647)) hk1 (by decide) rfl rfl dX10_runScript_51 (fun v_53 hv_53 hf_54 => ?_)
      obtain ⟨x_55, rfl, lx_55, ux_55⟩ := tt_vi hv_53
      refine jj_if_eq (tgt := 113) C dX10_runScript_54 (by decide) (fun c_56 => ?_) (fun c_56 => ?_)
      · have z_c_56 := jc_eq (a := (x_55).toInt) (b := (0)) c_56 rfl (by decide)
        refine jj_aload_n C dX10_runScript_113 rfl ?_
        obtain ⟨qc, gs, hqc⟩ := tt_recv (cx := []) hok hk0 (by decide) rfl
        refine tt_callV (rest := []) C (tc_X10_remember_1 hl D cA ak h0 hk0 hok) [] [] rfl rfl (by decide) (by decide) (by decide) qc hqc rfl rfl jw_0283246098 jw_467be33587 jw_328a25009e jw_6f6d707074 jw_eabf0b0f0c jn_X10_remember rfl (jj_le rfl) (jj_le rfl) (jj_le rfl) (jj_le rfl) (jj_le rfl) dX10_runScript_114 rfl (fun _ _ _ hX => hX.elim) (fun rx pl_57 r O_60 => ?_)
        obtain ⟨K_64, hx_63, rfl, hok_58, hr_59, hfa9, hR_62⟩ := O_60
        replace hf_45 := hr_59.at hk0 (by decide) (by decide) hf_45
        replace hf_46 := hr_59.at hk1 (by decide) (by decide) hf_46
        replace hf_47 := hr_59.at hk0 (by decide) (by decide) hf_47
        replace hf_48 := hr_59.at hk0 (by decide) (by decide) hf_48
        replace hf_49 := hr_59.at hk0 (by decide) (by decide) hf_49
        replace hf_50 := hr_59.at kq_20 (by decide) (by decide) hf_50
        replace hf_51 := hr_59.at kq_20 (by decide) (by decide) hf_51
        replace hf_52 := hr_59.at kq_20 (by decide) (by decide) hf_52
        replace hf_54 := hr_59.at hk1 (by decide) (by decide) hf_54
        replace hfr := hfr.transX hx_27 (hr_59.sub (by decide))
        replace hfa := hfa.transX hx_27 (hfa9.sub (by decide))
        have hk0 := hx_63.kd hk0 (by decide)
        have hk1 := hx_63.kd hk1 (by decide)
        have ka_8 := hx_63.kd ka_8 (by decide)
        have ka_11 := hx_63.kd ka_11 (by decide)
        have ka_23 := hx_63.kd ka_23 (by decide)
        have kq_20 := hx_63.kd kq_20 (by decide)
        have hx_65 := hx_27.trans hx_63
        obtain rfl := hR_62
        refine jj_aload_n C dX10_runScript_117 rfl ?_
        refine tt_getF C hok_58 jk_11 3 (by decide) jw_f82a97e333 (t := (2, 1, 0)) hk0 (by decide) rfl rfl hf_48 dX10_runScript_118 ?_
        refine jj_aload_n C dX10_runScript_121 rfl ?_
        refine tt_getF C hok_58 jk_11 4 (by decide) jw_a0e4d790fa (t := (2, 1, 0)) hk0 (by decide) rfl rfl hf_47 dX10_runScript_122 ?_
        obtain ⟨qc, gs, hqc⟩ := tt_recv (cx := []) hok_58 ka_11 (by decide) rfl
        refine tt_callV (rest := []) C (tc_X0_copyFrom_1 hl D cA ak a_11 a_8 ka_11 ka_8 hok_58) [] [] rfl rfl (by decide) (by decide) (by decide) qc hqc rfl rfl jw_4d0cb05860 jw_8aa1bdb2cc jw_ac98d74d03 jw_7d25d4fd32 jw_58241735d3 jn_X0_copyFrom rfl (jj_le rfl) (jj_le rfl) (jj_le rfl) (jj_le rfl) (jj_le rfl) dX10_runScript_125 rfl (fun _ _ _ hX => hX.elim) (fun rx pl_66 r O_69 => ?_)
        obtain ⟨rfl, hok_67, hr_68, hfa9, hR_71⟩ := O_69
        replace hf_45 := hr_68.at hk0 (by decide) (by decide) hf_45
        replace hf_46 := hr_68.at hk1 (by decide) (by decide) hf_46
        replace hf_47 := hr_68.at hk0 (by decide) (by decide) hf_47
        replace hf_48 := hr_68.at hk0 (by decide) (by decide) hf_48
        replace hf_49 := hr_68.at hk0 (by decide) (by decide) hf_49
        replace hf_50 := hr_68.at kq_20 (by decide) (by decide) hf_50
        replace hf_51 := hr_68.at kq_20 (by decide) (by decide) hf_51
        replace hf_52 := hr_68.at kq_20 (by decide) (by decide) hf_52
        replace hf_54 := hr_68.at hk1 (by decide) (by decide) hf_54
        replace hfr := hfr.transX hx_65 (hr_68.sub (by decide))
        replace hfa := hfa.transX hx_65 (hfa9.sub (by decide))
        obtain rfl := hR_71
        refine jj_iload_n C dX10_runScript_128 rfl ?_
        exact jj_iret C ⟨[], pl_66, rfl, K_64, hx_65, rfl, hok_67, hfr, hfa, ⟨hf_46, x_44, rfl⟩⟩ dX10_runScript_129 (jj_le rfl) (jj_le rfl)
      · have z_c_56 := jc_neq (a := (x_55).toInt) (b := (0)) c_56 rfl (by decide)
        refine jj_iload_n C dX10_runScript_57 rfl ?_
        refine jj_sipush (v := 400) C dX10_runScript_58 (by decide) ?_
        refine jj_icmp_ge (tgt := 113) C dX10_runScript_61 (by decide) (fun c_74 => ?_) (fun c_74 => ?_)
        · have z_c_74 := jc_le (a := (400)) (b := (x_44).toInt) c_74 (by decide) rfl
          refine jj_aload_n C dX10_runScript_113 rfl ?_
          obtain ⟨qc, gs, hqc⟩ := tt_recv (cx := []) hok hk0 (by decide) rfl
          refine tt_callV (rest := []) C (tc_X10_remember_1 hl D cA ak h0 hk0 hok) [] [] rfl rfl (by decide) (by decide) (by decide) qc hqc rfl rfl jw_0283246098 jw_467be33587 jw_328a25009e jw_6f6d707074 jw_eabf0b0f0c jn_X10_remember rfl (jj_le rfl) (jj_le rfl) (jj_le rfl) (jj_le rfl) (jj_le rfl) dX10_runScript_114 rfl (fun _ _ _ hX => hX.elim) (fun rx pl_75 r O_78 => ?_)
          obtain ⟨K_82, hx_81, rfl, hok_76, hr_77, hfa9, hR_80⟩ := O_78
          replace hf_45 := hr_77.at hk0 (by decide) (by decide) hf_45
          replace hf_46 := hr_77.at hk1 (by decide) (by decide) hf_46
          replace hf_47 := hr_77.at hk0 (by decide) (by decide) hf_47
          replace hf_48 := hr_77.at hk0 (by decide) (by decide) hf_48
          replace hf_49 := hr_77.at hk0 (by decide) (by decide) hf_49
          replace hf_50 := hr_77.at kq_20 (by decide) (by decide) hf_50
          replace hf_51 := hr_77.at kq_20 (by decide) (by decide) hf_51
          replace hf_52 := hr_77.at kq_20 (by decide) (by decide) hf_52
          replace hf_54 := hr_77.at hk1 (by decide) (by decide) hf_54
          replace hfr := hfr.transX hx_27 (hr_77.sub (by decide))
          replace hfa := hfa.transX hx_27 (hfa9.sub (by decide))
          have hk0 := hx_81.kd hk0 (by decide)
          have hk1 := hx_81.kd hk1 (by decide)
          have ka_8 := hx_81.kd ka_8 (by decide)
          have ka_11 := hx_81.kd ka_11 (by decide)
          have ka_23 := hx_81.kd ka_23 (by decide)
          have kq_20 := hx_81.kd kq_20 (by decide)
          have hx_83 := hx_27.trans hx_81
          obtain rfl := hR_80
          refine jj_aload_n C dX10_runScript_117 rfl ?_
          refine tt_getF C hok_76 jk_11 3 (by decide) jw_f82a97e333 (t := (2, 1, 0)) hk0 (by decide) rfl rfl hf_48 dX10_runScript_118 ?_
          refine jj_aload_n C dX10_runScript_121 rfl ?_
          refine tt_getF C hok_76 jk_11 4 (by decide) jw_a0e4d790fa (t := (2, 1, 0)) hk0 (by decide) rfl rfl hf_47 dX10_runScript_122 ?_
          obtain ⟨qc, gs, hqc⟩ := tt_recv (cx := []) hok_76 ka_11 (by decide) rfl
          refine tt_callV (rest := []) C (tc_X0_copyFrom_1 hl D cA ak a_11 a_8 ka_11 ka_8 hok_76) [] [] rfl rfl (by decide) (by decide) (by decide) qc hqc rfl rfl jw_4d0cb05860 jw_8aa1bdb2cc jw_ac98d74d03 jw_7d25d4fd32 jw_58241735d3 jn_X0_copyFrom rfl (jj_le rfl) (jj_le rfl) (jj_le rfl) (jj_le rfl) (jj_le rfl) dX10_runScript_125 rfl (fun _ _ _ hX => hX.elim) (fun rx pl_84 r O_87 => ?_)
          obtain ⟨rfl, hok_85, hr_86, hfa9, hR_89⟩ := O_87
          replace hf_45 := hr_86.at hk0 (by decide) (by decide) hf_45
          replace hf_46 := hr_86.at hk1 (by decide) (by decide) hf_46
          replace hf_47 := hr_86.at hk0 (by decide) (by decide) hf_47
          replace hf_48 := hr_86.at hk0 (by decide) (by decide) hf_48
          replace hf_49 := hr_86.at hk0 (by decide) (by decide) hf_49
          replace hf_50 := hr_86.at kq_20 (by decide) (by decide) hf_50
          replace hf_51 := hr_86.at kq_20 (by decide) (by decide) hf_51
          replace hf_52 := hr_86.at kq_20 (by decide) (by decide) hf_52
          replace hf_54 := hr_86.at hk1 (by decide) (by decide) hf_54
          replace hfr := hfr.transX hx_83 (hr_86.sub (by decide))
          replace hfa := hfa.transX hx_83 (hfa9.sub (by decide))
          obtain rfl := hR_89
          refine jj_iload_n C dX10_runScript_128 rfl ?_
          exact jj_iret C ⟨[], pl_84, rfl, K_82, hx_83, rfl, hok_85, hfr, hfa, ⟨hf_46, x_44, rfl⟩⟩ dX10_runScript_129 (jj_le rfl) (jj_le rfl)
        · have z_c_74 := jc_nle (a := (400)) (b := (x_44).toInt) c_74 (by decide) rfl
          refine jj_aload_n C dX10_runScript_64 rfl ?_
          refine tt_getF C hok jk_11 0 (by decide) jw_4836d4133c (t := (2, 10, 0)) hk0 (by decide) rfl rfl hf_45 dX10_runScript_65 ?_
          refine tt_get C hok jk_10 4 (by decide) jw_26ab74fd32 (t := (0, 0, 400)) hk1 (by decide) rfl rfl dX10_runScript_68 (fun v_92 hv_92 hf_93 => ?_)
          obtain ⟨x_94, rfl, lx_94, ux_94⟩ := tt_vi hv_92
          refine jj_istore_n C dX10_runScript_71 (by decide) rfl ?_
          refine jj_aload_n C dX10_runScript_72 rfl ?_
          obtain ⟨qc, gs, hqc⟩ := tt_recv (cx := []) hok kq_20 (by decide) rfl
          refine tt_callV (rest := []) C (tc_X7_readOperation_1 hl D cA ak q_20 kq_20 hok) [] [] rfl rfl (by decide) (by decide) (by decide) qc hqc rfl rfl jw_94b317b503 jw_f3e3f3c0e3 jw_c9488e7a7e jw_ab600d7316 jw_da6eced28d jn_X7_readOperation rfl (jj_le rfl) (jj_le rfl) (jj_le rfl) (jj_le rfl) (jj_le rfl) dX10_runScript_73 rfl (fun _ _ _ hX => hX.elim) (fun rx pl_95 r O_98 => ?_)
          obtain ⟨rfl, hok_96, hr_97, hfa9, hR_100⟩ := O_98
          replace hf_45 := hr_97.at hk0 (by decide) (by decide) hf_45
          replace hf_46 := hr_97.at hk1 (by decide) (by decide) hf_46
          replace hf_47 := hr_97.at hk0 (by decide) (by decide) hf_47
          replace hf_48 := hr_97.at hk0 (by decide) (by decide) hf_48
          replace hf_49 := hr_97.at hk0 (by decide) (by decide) hf_49
          replace hf_50 := hr_97.at kq_20 (by decide) (by decide) hf_50
          replace hf_51 := hr_97.at kq_20 (by decide) (by decide) hf_51
          replace hf_52 := hr_97.at kq_20 (by decide) (by decide) hf_52
          replace hfr := hfr.transX hx_27 (hr_97.sub (by decide))
          replace hfa := hfa.transX hx_27 (hfa9.sub (by decide))
          rcases hR_100 with rfl | rfl
          · refine jj_if_neF (tgt := 89) C dX10_runScript_76 (by decide) (by decide) ?_
            refine jj_iconst (v := (-1)) C dX10_runScript_79 (by decide) ?_
            refine jj_aload_n C dX10_runScript_80 rfl ?_
            refine tt_getF C hok_96 jk_11 0 (by decide) jw_4836d4133c (t := (2, 10, 0)) hk0 (by decide) rfl rfl hf_45 dX10_runScript_81 ?_
            refine tt_get C hok_96 jk_10 4 (by decide) jw_26ab74fd32 (t := (0, 0, 400)) hk1 (by decide) rfl rfl dX10_runScript_84 (fun v_103 hv_103 hf_104 => ?_)
            obtain ⟨x_105, rfl, lx_105, ux_105⟩ := tt_vi hv_103
            obtain ⟨x_106, ex_106, vx_106⟩ := tt_isub (x := ((-1) : Int32)) (y := x_105) (a := (-1)) (by decide) (b := x_105.toInt) rfl (by omega) (by omega)
            refine jj_isub (v := x_106) C dX10_runScript_87 ex_106 ?_
            exact jj_iret C ⟨[], pl_95, rfl, K_24, hx_27, rfl, hok_96, hfr, hfa, ⟨hf_46, x_106, rfl⟩⟩ dX10_runScript_88 (jj_le rfl) (jj_le rfl)
          · refine jj_if_neT (tgt := 89) C dX10_runScript_76 (by decide) (by decide) ?_
            refine jj_aload_n C dX10_runScript_89 rfl ?_
            obtain ⟨qc, gs, hqc⟩ := tt_recv (cx := []) hok_96 kq_20 (by decide) rfl
            refine tt_callV (rest := []) C (tc_X7_execute_1 hl D cA ak q_20 kq_20 hok_96) [] [] rfl rfl (by decide) (by decide) (by decide) qc hqc rfl rfl jw_048b460b76 jw_e3f2ab3506 jw_701169423c jw_ab600d7316 jw_e890299aba jn_X7_execute rfl (jj_le rfl) (jj_le rfl) (jj_le rfl) (jj_le rfl) (jj_le rfl) dX10_runScript_90 rfl (fun _ _ _ hX => hX.elim) (fun rx pl_107 r O_110 => ?_)
            obtain ⟨rfl, hok_108, hr_109, hfa9, hR_112⟩ := O_110
            replace hf_45 := hr_109.at hk0 (by decide) (by decide) hf_45
            replace hf_46 := hr_109.at hk1 (by decide) (by decide) hf_46
            replace hf_47 := hr_109.at hk0 (by decide) (by decide) hf_47
            replace hf_48 := hr_109.at hk0 (by decide) (by decide) hf_48
            replace hf_49 := hr_109.at hk0 (by decide) (by decide) hf_49
            replace hf_50 := hr_109.at kq_20 (by decide) (by decide) hf_50
            replace hf_51 := hr_109.at kq_20 (by decide) (by decide) hf_51
            replace hf_52 := hr_109.at kq_20 (by decide) (by decide) hf_52
            replace hfr := hfr.transX hx_27 (hr_109.sub (by decide))
            replace hfa := hfa.transX hx_27 (hfa9.sub (by decide))
            rcases hR_112 with rfl | rfl
            · refine jj_if_neF (tgt := 100) C dX10_runScript_93 (by decide) (by decide) ?_
              refine jj_iconst (v := (-1)) C dX10_runScript_96 (by decide) ?_
              refine jj_iload_n C dX10_runScript_97 rfl ?_
              obtain ⟨x_115, ex_115, vx_115⟩ := tt_isub (x := ((-1) : Int32)) (y := x_94) (a := (-1)) (by decide) (b := x_94.toInt) rfl (by omega) (by omega)
              refine jj_isub (v := x_115) C dX10_runScript_98 ex_115 ?_
              exact jj_iret C ⟨[], pl_107, rfl, K_24, hx_27, rfl, hok_108, hfr, hfa, ⟨hf_46, x_115, rfl⟩⟩ dX10_runScript_99 (jj_le rfl) (jj_le rfl)
            · refine jj_if_neT (tgt := 100) C dX10_runScript_93 (by decide) (by decide) ?_
              obtain ⟨x_116, ex_116, vx_116⟩ := tt_inc (x := x_44) (n := 1) (by omega) (by omega)
              refine jj_iinc (v := x_116) C dX10_runScript_100 rfl ex_116 (by decide) rfl ?_
              refine jj_aload_n C dX10_runScript_103 rfl ?_
              refine tt_getF C hok_108 jk_11 0 (by decide) jw_4836d4133c (t := (2, 10, 0)) hk0 (by decide) rfl rfl hf_45 dX10_runScript_104 ?_
              obtain ⟨qc, gs, hqc⟩ := tt_recv (cx := []) hok_108 hk1 (by decide) rfl
              refine tt_callV (rest := []) C (tc_X9_advance_1 hl D cA ak at0 hk1 hok_108) [] [] rfl rfl (by decide) (by decide) (by decide) qc hqc rfl rfl jw_e348f4fe02 jw_37f6ee43e0 jw_46baf1fc7b jw_a9e7b602dc jw_0d4db63612 jn_X9_advance rfl (jj_le rfl) (jj_le rfl) (jj_le rfl) (jj_le rfl) (jj_le rfl) dX10_runScript_107 rfl (fun _ _ _ hX => hX.elim) (fun rx pl_117 r O_120 => ?_)
              obtain ⟨rfl, hok_118, hr_119, hfa9, hR_122⟩ := O_120
              replace hf_45 := hr_119.at hk0 (by decide) (by decide) hf_45
              replace hf_46 := hr_119.at hk1 (by decide) (by decide) hf_46
              replace hf_47 := hr_119.at hk0 (by decide) (by decide) hf_47
              replace hf_48 := hr_119.at hk0 (by decide) (by decide) hf_48
              replace hf_49 := hr_119.at hk0 (by decide) (by decide) hf_49
              replace hf_50 := hr_119.at kq_20 (by decide) (by decide) hf_50
              replace hf_51 := hr_119.at kq_20 (by decide) (by decide) hf_51
              replace hf_52 := hr_119.at kq_20 (by decide) (by decide) hf_52
              replace hfr := hfr.transX hx_27 (hr_119.sub (by decide))
              replace hfa := hfa.transX hx_27 (hfa9.sub (by decide))
              obtain rfl := hR_122
              refine jj_goto (tgt := 47) C dX10_runScript_110 (by decide) ?_
              refine jj_loc [0, 2, 3] rfl ?_
              exact ihL_43 pl_117 x_116 hok_118 hfr hfa hf_45 hf_46 hf_47 hf_48 hf_49 hf_50 hf_51 hf_52 (by first | omega | decide | exact tt_lo _ | exact tt_hi _) (by first | omega | decide | exact tt_lo _ | exact tt_hi _) (by first | omega | decide | exact tt_lo _ | exact tt_hi _)
  exact hL_43 _ pl_35 (0 : Int32) trivial hok_36 hfr hfa ha0 hf_5 hf_7 hf_10 hf_22 hf_29 hf_30 hf_31 (by first | omega | decide | exact tt_lo _ | exact tt_hi _) (by first | omega | decide | exact tt_lo _ | exact tt_hi _) (Int.self_le_toNat _)
