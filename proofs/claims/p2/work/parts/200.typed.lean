theorem tt_lo (x : Int32) : (-2147483648 : Int) ≤ x.toInt := by have h := Int32.le_toInt x; omega
theorem tt_hi (x : Int32) : x.toInt ≤ (2147483647 : Int) := by have h := Int32.toInt_lt x; omega
theorem tt_fitZ {v : Int32} (h1 : 0 ≤ v.toInt) (h2 : v.toInt ≤ 1) : fits .boolean (.int v) = true := by
  have h : v = 0 ∨ v = 1 := by
    rcases (by omega : v.toInt = 0 ∨ v.toInt = 1) with h | h
    · exact Or.inl (Int32.toInt_inj.mp (h.trans (by decide)))
    · exact Or.inr (Int32.toInt_inj.mp (h.trans (by decide)))
  rcases h with rfl | rfl <;> rfl
def tt_tk : Nat → tt_K
  | 1 => (0, 2, 0, [(0, (-2147483648), 2147483647), (0, (-2147483648), 2147483647), (0, (-2147483648), 2147483647), (0, (-2147483648), 2147483647), (0, (-2147483648), 2147483647), (0, (-2147483648), 2147483647), (0, (-2147483648), 2147483647), (0, 0, 6), (0, 0, 40), (0, 0, 12), (2, 5, 0), (2, 6, 0), (2, 7, 0), (2, 8, 0)])
  | 2 => (0, 9, 0, [(0, (-2147483648), 2147483647), (0, (-2147483648), 2147483647), (1, (-9223372036854775808), 9223372036854775807), (1, (-9223372036854775808), 9223372036854775807), (1, (-9223372036854775808), 9223372036854775807)])
  | 3 => (0, 5, 0, [(0, (-2147483648), 2147483647), (0, (-2147483648), 2147483647), (0, (-2147483648), 2147483647), (1, (-9223372036854775808), 9223372036854775807), (1, (-9223372036854775808), 9223372036854775807), (1, (-9223372036854775808), 9223372036854775807)])
  | 4 => (0, 7, 0, [(0, (-2147483648), 2147483647), (0, (-2147483648), 2147483647), (0, 0, 1), (1, (-9223372036854775808), 9223372036854775807), (1, (-9223372036854775808), 9223372036854775807)])
  | 5 => (2, 2, 6, [(1, (-9223372036854775808), 9223372036854775807)])
  | 6 => (3, 8, 6, [(2, 2, 0)])
  | 7 => (3, 6, 40, [(2, 3, 0)])
  | 8 => (3, 7, 12, [(2, 4, 0)])
  | 9 => (0, 3, 0, [(2, 6, 0), (1, (-9223372036854775808), 9223372036854775807), (1, (-9223372036854775808), 9223372036854775807), (1, (-9223372036854775808), 9223372036854775807), (1, (-9223372036854775808), 9223372036854775807), (1, (-9223372036854775808), 9223372036854775807)])
  | 10 => (0, 10, 0, [(2, 11, 0), (0, 0, 400), (0, 0, 400), (0, 0, 400), (0, 0, 400), (0, (-2147483648), 2147483647), (0, (-2147483648), 2147483647)])
  | 11 => (1, 1, 400, [(0, (-2147483648), 2147483647)])
  | 12 => (0, 6, 0, [(2, 13, 0), (0, 0, 1300), (2, 14, 0)])
  | 13 => (1, 0, 1300, [(0, (-2147483648), 2147483647)])
  | 14 => (1, 0, 20, [(0, (-2147483648), 2147483647)])
  | 15 => (0, 11, 0, [(2, 10, 0), (0, (-2147483648), 2147483647), (0, (-2147483648), 2147483647), (2, 1, 0), (2, 1, 0), (2, 9, 0), (2, 16, 0), (0, 0, 9), (0, 0, 10), (2, 12, 0)])
  | 16 => (3, 5, 10, [(3, 1, 0)])
  | 17 => (0, 4, 0, [(2, 10, 0), (2, 1, 0), (0, (-2147483648), 2147483647)])
  | 18 => (0, 8, 0, [(2, 10, 0), (2, 1, 0), (2, 9, 0), (0, (-2147483648), 2147483647), (0, (-2147483648), 2147483647), (0, (-2147483648), 2147483647)])
  | _ => (0, 0, 0, [])
set_option maxHeartbeats 4000000 in
set_option maxRecDepth 100000 in
theorem tc_X10_account_1 {l : Launch} (hl : l.stackTraces = false) (D : va_G) (cA : Nat → ClassId) (ak : (Nat → Nat) × (Nat → Nat)) {Kd : Nat → Nat} (h0 : Nat) (p1 : Int32) (hk0 : Kd h0 = 15) {pl0 : va_W} (hok : tt_ok tt_tk cA Kd pl0) : jj_M l D cA ak yX10_account (.code yX10_account cX10_account 2 (some .long)) 6 82 1 6 ([] ++ pl0) [.ref h0, .int p1] (tt_O (fun rx pl1 r => rx = [] ∧ tt_ok tt_tk cA Kd pl1 ∧ tt_fr Kd [] pl0 pl1 ∧ ((∃ v : Int64, (0 : Int) ≤ p1.toInt ∧ p1.toInt ≤ 5 ∧ r = some (.long v))))) (tt_OX (fun E rx pl1 => rx = [] ∧ tt_ok tt_tk cA Kd pl1 ∧ tt_fr Kd [] pl0 pl1 ∧ (E = "java/lang/IllegalArgumentException"))) := by
  refine jj_start hl (by decide) jw_839 (jj_le rfl) ?_
  intro p e s m args below meth c A hargs hA C hex hmn
  have hfr := tt_fr.refl (K := Kd) (WS := []) pl0
  have lp1 := tt_lo p1
  have up1 := tt_hi p1
  refine jj_iload_n C dX10_account_0 rfl ?_
  refine jj_if_lt (tgt := 10) C dX10_account_1 (by decide) (fun c_1 => ?_) (fun c_1 => ?_)
  · have z_c_1 := jc_lt (a := (p1).toInt) (b := (0)) c_1 rfl (by decide)
    exact jj_throw (k := 43) (text := "no such account") C jt_RX10_75 jw_1 (by decide +kernel) dX10_account_10 dX10_account_13 dX10_account_14 dX10_account_16 dX10_account_19 hex (jj_le rfl) (jj_le rfl) (jj_le rfl) (jj_le rfl) ⟨[], pl0, rfl, rfl, hok, hfr, rfl⟩ (jj_le rfl) (jj_le rfl)
  · have z_c_1 := jc_nlt (a := (p1).toInt) (b := (0)) c_1 rfl (by decide)
    refine jj_iload_n C dX10_account_4 rfl ?_
    refine jj_bipush (v := 6) C dX10_account_5 (by decide) ?_
    refine jj_icmp_lt (tgt := 20) C dX10_account_7 (by decide) (fun c_2 => ?_) (fun c_2 => ?_)
    · have z_c_2 := jc_lt (a := (p1).toInt) (b := (6)) c_2 rfl (by decide)
      refine jj_aload_n C dX10_account_20 rfl ?_
      refine tt_get C hok jk_11 3 (by decide) jw_2 (t := (2, 1, 0)) hk0 (by decide) rfl rfl dX10_account_21 (fun v_3 hv_3 hf_4 => ?_)
      obtain ⟨a_5, rfl, ka_5⟩ := tt_vr hv_3
      refine tt_get C hok jk_2 10 (by decide) jw_14 (t := (2, 5, 0)) ka_5 (by decide) rfl rfl dX10_account_24 (fun v_6 hv_6 hf_7 => ?_)
      obtain ⟨a_8, rfl, ka_8⟩ := tt_vr hv_6
      refine jj_iload_n C dX10_account_27 rfl ?_
      refine tt_lald C hok (t := (1, (-9223372036854775808), 9223372036854775807)) ka_8 (by decide) rfl (vp_in_iff.mpr ⟨by omega, by omega⟩) dX10_account_28 (fun v_9 hv_9 => ?_)
      exact jj_lret C ⟨[], pl0, rfl, rfl, hok, hfr, ⟨v_9, (by first | omega | exact tt_lo _ | exact tt_hi _), (by first | omega | exact tt_lo _ | exact tt_hi _), rfl⟩⟩ dX10_account_29 (jj_le rfl) (jj_le rfl)
    · have z_c_2 := jc_nlt (a := (p1).toInt) (b := (6)) c_2 rfl (by decide)
      exact jj_throw (k := 43) (text := "no such account") C jt_RX10_75 jw_1 (by decide +kernel) dX10_account_10 dX10_account_13 dX10_account_14 dX10_account_16 dX10_account_19 hex (jj_le rfl) (jj_le rfl) (jj_le rfl) (jj_le rfl) ⟨[], pl0, rfl, rfl, hok, hfr, rfl⟩ (jj_le rfl) (jj_le rfl)

set_option maxHeartbeats 4000000 in
set_option maxRecDepth 100000 in
theorem tc_X9_putFour_1 {l : Launch} (hl : l.stackTraces = false) (D : va_G) (cA : Nat → ClassId) (ak : (Nat → Nat) × (Nat → Nat)) {Kd : Nat → Nat} (h0 : Nat) (p1 : Int32) (hk0 : Kd h0 = 10) {pl0 : va_W} (hok : tt_ok tt_tk cA Kd pl0) : jj_M l D cA ak yX9_putFour (.code yX9_putFour cX9_putFour 3 none) 0 0 0 0 ([] ++ pl0) [.ref h0, .int p1] (tt_O (fun rx pl1 r => rx = [] ∧ tt_ok tt_tk cA Kd pl1 ∧ tt_fr Kd [(10, 1)] pl0 pl1 ∧ ((r = none)))) (tt_OX (fun _ _ _ => False)) := by
  refine jj_start hl (by decide) jw_41 (jj_le rfl) ?_
  intro p e s m args below meth c A hargs hA C hex hmn
  have hfr := tt_fr.refl (K := Kd) (WS := [(10, 1)]) pl0
  have lp1 := tt_lo p1
  have up1 := tt_hi p1
  refine jj_bipush (v := 24) C dX9_putFour_0 (by decide) ?_
  refine jj_istore_n C dX9_putFour_2 (by decide) rfl ?_
  have hL_1 : ∀ (N : Nat) (pl : va_W) (x_2 : Int32), True → tt_ok tt_tk cA Kd pl → tt_fr Kd [(10, 1)] pl0 pl → (-2147483648 : Int) ≤ x_2.toInt → x_2.toInt ≤ 24 → (x_2.toInt + 2147483649 ≤ (N : Int)) → jj_J p l e (jj_rm 0 0 0 0) s m args below meth c 3 A (vx_MQ below (jj_q D A (tt_O (fun rx pl1 r => rx = [] ∧ tt_ok tt_tk cA Kd pl1 ∧ tt_fr Kd [(10, 1)] pl0 pl1 ∧ ((r = none))))) (jj_x D A (tt_OX (fun _ _ _ => False))) args s 0 0 A) (jj_X D A ([] ++ pl)) 0 0 3 [(2, .int x_2), (0, .ref h0), (1, .int p1)] [] := by
    intro NL_1
    induction NL_1 with
    | zero => intro pl x_2 _ hok hfr lx_2 ux_2 hNL_1; exfalso; omega
    | succ NL_1 ihL_1 =>
      intro pl x_2 _ hok hfr lx_2 ux_2 hNL_1
      replace ihL_1 := fun pl x_2 h1 => ihL_1 pl x_2 trivial h1
      refine jj_iload_n C dX9_putFour_3 rfl ?_
      refine jj_if_lt (tgt := 50) C dX9_putFour_4 (by decide) (fun c_3 => ?_) (fun c_3 => ?_)
      · have z_c_3 := jc_lt (a := (x_2).toInt) (b := (0)) c_3 rfl (by decide)
        exact jj_vret C ⟨[], pl, rfl, rfl, hok, hfr, rfl⟩ dX9_putFour_50 (jj_le rfl) (jj_le rfl)
      · have z_c_3 := jc_nlt (a := (x_2).toInt) (b := (0)) c_3 rfl (by decide)
        refine jj_aload_n C dX9_putFour_7 rfl ?_
        refine tt_get C hok jk_10 1 (by decide) jw_43 (t := (0, 0, 400)) hk0 (by decide) rfl rfl dX9_putFour_8 (fun v_4 hv_4 hf_5 => ?_)
        obtain ⟨x_6, rfl, lx_6, ux_6⟩ := tt_vi hv_4
        refine jj_sipush (v := 400) C dX9_putFour_11 (by decide) ?_
        refine jj_icmp_ge (tgt := 50) C dX9_putFour_14 (by decide) (fun c_7 => ?_) (fun c_7 => ?_)
        · have z_c_7 := jc_le (a := (400)) (b := (x_6).toInt) c_7 (by decide) rfl
          exact jj_vret C ⟨[], pl, rfl, rfl, hok, hfr, rfl⟩ dX9_putFour_50 (jj_le rfl) (jj_le rfl)
        · have z_c_7 := jc_nle (a := (400)) (b := (x_6).toInt) c_7 (by decide) rfl
          refine jj_aload_n C dX9_putFour_17 rfl ?_
          refine tt_get C hok jk_10 0 (by decide) jw_44 (t := (2, 11, 0)) hk0 (by decide) rfl rfl dX9_putFour_18 (fun v_8 hv_8 hf_9 => ?_)
          obtain ⟨a_10, rfl, ka_10⟩ := tt_vr hv_8
          refine jj_aload_n C dX9_putFour_21 rfl ?_
          refine tt_getF C hok jk_10 1 (by decide) jw_43 (t := (0, 0, 400)) hk0 (by decide) rfl rfl hf_5 dX9_putFour_22 ?_
          refine jj_iload_n C dX9_putFour_25 rfl ?_
          refine jj_iload_n C dX9_putFour_26 rfl ?_
          obtain ⟨x_11, ex_11⟩ : ∃ z : Int32, (p1.toUInt32 >>> (x_2.toUInt32 &&& Int32.toUInt32 31)).toInt32 = z := ⟨_, rfl⟩
          refine jj_iushr (v := x_11) C dX9_putFour_27 ex_11 ?_
          refine jj_sipush (v := 255) C dX9_putFour_28 (by decide) ?_
          obtain ⟨x_12, ex_12⟩ : ∃ z : Int32, x_11 &&& (255 : Int32) = z := ⟨_, rfl⟩
          refine jj_iand (v := x_12) C dX9_putFour_31 ex_12 ?_
          obtain ⟨x_13, ex_13⟩ : ∃ z : Int32, (x_12.toUInt32 % 65536).toInt32 = z := ⟨_, rfl⟩
          refine jj_i2c (v := x_13) C dX9_putFour_32 ex_13 ?_
          refine tt_cast C hok (t := (0, (-2147483648), 2147483647)) ka_10 (by decide) rfl (vp_in_iff.mpr ⟨by omega, by omega⟩) (tt_ia _) dX9_putFour_33 (fun pl_14 hok_15 tr => ?_)
          replace hf_5 := tr _ _ _ hf_5
          replace hf_9 := tr _ _ _ hf_9
          replace hfr := hfr.arr tr
          refine jj_aload_n C dX9_putFour_34 rfl ?_
          refine jj_dup C dX9_putFour_35 rfl ?_
          refine tt_getF C hok_15 jk_10 1 (by decide) jw_43 (t := (0, 0, 400)) hk0 (by decide) rfl rfl hf_5 dX9_putFour_36 ?_
          refine jj_iconst (v := 1) C dX9_putFour_39 (by decide) ?_
          obtain ⟨x_16, ex_16, vx_16⟩ := tt_iadd (x := x_6) (y := (1 : Int32)) (a := x_6.toInt) rfl (b := 1) (by decide) (by omega) (by omega)
          refine jj_iadd (v := x_16) C dX9_putFour_40 ex_16 ?_
          refine tt_put C hok_15 jk_10 1 (by decide) jw_43 (t := (0, 0, 400)) hk0 (by decide) rfl rfl rfl (tt_iv (by omega) (by omega)) rfl rfl dX9_putFour_41 (fun pl_17 hok_18 tr hn => ?_)
          replace hf_9 := tr _ _ _ (Or.inr (by decide)) hf_9
          have hf_19 := hn
          replace hfr := hfr.put hk0 tr (by decide)
          obtain ⟨x_20, ex_20, vx_20⟩ := tt_inc (x := x_2) (n := (-8)) (by omega) (by omega)
          refine jj_iinc (v := x_20) C dX9_putFour_44 rfl ex_20 (by decide) rfl ?_
          refine jj_goto (tgt := 3) C dX9_putFour_47 (by decide) ?_
          exact ihL_1 pl_17 x_20 hok_18 hfr (by first | omega | decide | exact tt_lo _ | exact tt_hi _) (by first | omega | decide | exact tt_lo _ | exact tt_hi _) (by first | omega | decide | exact tt_lo _ | exact tt_hi _)
  exact hL_1 _ pl0 (24 : Int32) trivial hok hfr (by first | omega | decide | exact tt_lo _ | exact tt_hi _) (by first | omega | decide | exact tt_lo _ | exact tt_hi _) (Int.self_le_toNat _)

set_option maxHeartbeats 4000000 in
set_option maxRecDepth 100000 in
theorem tc_X10_appendText_1 {l : Launch} (hl : l.stackTraces = false) (D : va_G) (cA : Nat → ClassId) (ak : (Nat → Nat) × (Nat → Nat)) {Kd : Nat → Nat} (h0 : Nat) (p1 : Int32) (p2 : Int32) (p3 : Int32) (p4 : Int32) (p5 : Int32) (hk0 : Kd h0 = 15) {pl0 : va_W} (hok : tt_ok tt_tk cA Kd pl0) : jj_M l D cA ak yX10_appendText (.code yX10_appendText cX10_appendText 6 (some .int)) 6 82 1 6 ([] ++ pl0) [.ref h0, .int p1, .int p2, .int p3, .int p4, .int p5] (tt_O (fun rx pl1 r => rx = [] ∧ tt_ok tt_tk cA Kd pl1 ∧ tt_fr Kd [(10, 1)] pl0 pl1 ∧ ((∃ v : Int32, (0 : Int) ≤ v.toInt ∧ v.toInt ≤ 400 ∧ r = some (.int v))))) (tt_OX (fun E rx pl1 => rx = [] ∧ tt_ok tt_tk cA Kd pl1 ∧ tt_fr Kd [(10, 1)] pl0 pl1 ∧ (E = "java/lang/IllegalStateException"))) := by
  refine jj_start hl (by decide) jw_840 (jj_le rfl) ?_
  intro p e s m args below meth c A hargs hA C hex hmn
  have hfr := tt_fr.refl (K := Kd) (WS := [(10, 1)]) pl0
  have lp1 := tt_lo p1
  have up1 := tt_hi p1
  have lp2 := tt_lo p2
  have up2 := tt_hi p2
  have lp3 := tt_lo p3
  have up3 := tt_hi p3
  have lp4 := tt_lo p4
  have up4 := tt_hi p4
  have lp5 := tt_lo p5
  have up5 := tt_hi p5
  refine jj_aload_n C dX10_appendText_0 rfl ?_
  refine tt_get C hok jk_11 0 (by decide) jw_30 (t := (2, 10, 0)) hk0 (by decide) rfl rfl dX10_appendText_1 (fun v_1 hv_1 hf_2 => ?_)
  obtain ⟨a_3, rfl, ka_3⟩ := tt_vr hv_1
  refine tt_get C hok jk_10 1 (by decide) jw_31 (t := (0, 0, 400)) ka_3 (by decide) rfl rfl dX10_appendText_4 (fun v_4 hv_4 hf_5 => ?_)
  obtain ⟨x_6, rfl, lx_6, ux_6⟩ := tt_vi hv_4
  refine jj_bipush (v := 20) C dX10_appendText_7 (by decide) ?_
  obtain ⟨x_7, ex_7, vx_7⟩ := tt_iadd (x := x_6) (y := (20 : Int32)) (a := x_6.toInt) rfl (b := 20) (by decide) (by omega) (by omega)
  refine jj_iadd (v := x_7) C dX10_appendText_9 ex_7 ?_
  refine jj_sipush (v := 400) C dX10_appendText_10 (by decide) ?_
  refine jj_icmp_le (tgt := 26) C dX10_appendText_13 (by decide) (fun c_8 => ?_) (fun c_8 => ?_)
  · have z_c_8 := jc_le (a := (x_7).toInt) (b := (400)) c_8 rfl (by decide)
    refine jj_aload_n C dX10_appendText_26 rfl ?_
    refine tt_getF C hok jk_11 0 (by decide) jw_30 (t := (2, 10, 0)) hk0 (by decide) rfl rfl hf_2 dX10_appendText_27 ?_
    refine jj_iload_n C dX10_appendText_30 rfl ?_
    obtain ⟨qc, gs, hqc⟩ := tt_recv (cx := []) hok ka_3 (by decide) rfl
    refine tt_callV (rest := []) C (tc_X9_putFour_1 hl D cA ak a_3 p1 ka_3 hok) [] [] rfl rfl (by decide) (by decide) (by decide) qc hqc rfl rfl jw_40 jw_45 jw_46 jw_42 jw_41 jn_X9_putFour rfl (jj_le rfl) (jj_le rfl) (jj_le rfl) (jj_le rfl) (jj_le rfl) dX10_appendText_31 rfl (fun _ _ _ hX => hX.elim) (fun rx pl_9 r O_12 => ?_)
    obtain ⟨rfl, hok_10, hr_11, hR_14⟩ := O_12
    replace hf_2 := hr_11.at hk0 (by decide) (by decide) hf_2
    replace hfr := hfr.trans (hr_11.sub (by decide))
    obtain rfl := hR_14
    refine jj_aload_n C dX10_appendText_34 rfl ?_
    refine tt_getF C hok_10 jk_11 0 (by decide) jw_30 (t := (2, 10, 0)) hk0 (by decide) rfl rfl hf_2 dX10_appendText_35 ?_
    refine jj_iload_n C dX10_appendText_38 rfl ?_
    obtain ⟨qc, gs, hqc⟩ := tt_recv (cx := []) hok_10 ka_3 (by decide) rfl
    refine tt_callV (rest := []) C (tc_X9_putFour_1 hl D cA ak a_3 p2 ka_3 hok_10) [] [] rfl rfl (by decide) (by decide) (by decide) qc hqc rfl rfl jw_40 jw_45 jw_46 jw_42 jw_41 jn_X9_putFour rfl (jj_le rfl) (jj_le rfl) (jj_le rfl) (jj_le rfl) (jj_le rfl) dX10_appendText_39 rfl (fun _ _ _ hX => hX.elim) (fun rx pl_15 r O_18 => ?_)
    obtain ⟨rfl, hok_16, hr_17, hR_20⟩ := O_18
    replace hf_2 := hr_17.at hk0 (by decide) (by decide) hf_2
    replace hfr := hfr.trans (hr_17.sub (by decide))
    obtain rfl := hR_20
    refine jj_aload_n C dX10_appendText_42 rfl ?_
    refine tt_getF C hok_16 jk_11 0 (by decide) jw_30 (t := (2, 10, 0)) hk0 (by decide) rfl rfl hf_2 dX10_appendText_43 ?_
    refine jj_iload_n C dX10_appendText_46 rfl ?_
    obtain ⟨qc, gs, hqc⟩ := tt_recv (cx := []) hok_16 ka_3 (by decide) rfl
    refine tt_callV (rest := []) C (tc_X9_putFour_1 hl D cA ak a_3 p3 ka_3 hok_16) [] [] rfl rfl (by decide) (by decide) (by decide) qc hqc rfl rfl jw_40 jw_45 jw_46 jw_42 jw_41 jn_X9_putFour rfl (jj_le rfl) (jj_le rfl) (jj_le rfl) (jj_le rfl) (jj_le rfl) dX10_appendText_47 rfl (fun _ _ _ hX => hX.elim) (fun rx pl_21 r O_24 => ?_)
    obtain ⟨rfl, hok_22, hr_23, hR_26⟩ := O_24
    replace hf_2 := hr_23.at hk0 (by decide) (by decide) hf_2
    replace hfr := hfr.trans (hr_23.sub (by decide))
    obtain rfl := hR_26
    refine jj_aload_n C dX10_appendText_50 rfl ?_
    refine tt_getF C hok_22 jk_11 0 (by decide) jw_30 (t := (2, 10, 0)) hk0 (by decide) rfl rfl hf_2 dX10_appendText_51 ?_
    refine jj_iload C dX10_appendText_54 rfl ?_
    obtain ⟨qc, gs, hqc⟩ := tt_recv (cx := []) hok_22 ka_3 (by decide) rfl
    refine tt_callV (rest := []) C (tc_X9_putFour_1 hl D cA ak a_3 p4 ka_3 hok_22) [] [] rfl rfl (by decide) (by decide) (by decide) qc hqc rfl rfl jw_40 jw_45 jw_46 jw_42 jw_41 jn_X9_putFour rfl (jj_le rfl) (jj_le rfl) (jj_le rfl) (jj_le rfl) (jj_le rfl) dX10_appendText_56 rfl (fun _ _ _ hX => hX.elim) (fun rx pl_27 r O_30 => ?_)
    obtain ⟨rfl, hok_28, hr_29, hR_32⟩ := O_30
    replace hf_2 := hr_29.at hk0 (by decide) (by decide) hf_2
    replace hfr := hfr.trans (hr_29.sub (by decide))
    obtain rfl := hR_32
    refine jj_aload_n C dX10_appendText_59 rfl ?_
    refine tt_getF C hok_28 jk_11 0 (by decide) jw_30 (t := (2, 10, 0)) hk0 (by decide) rfl rfl hf_2 dX10_appendText_60 ?_
    refine jj_iload C dX10_appendText_63 rfl ?_
    obtain ⟨qc, gs, hqc⟩ := tt_recv (cx := []) hok_28 ka_3 (by decide) rfl
    refine tt_callV (rest := []) C (tc_X9_putFour_1 hl D cA ak a_3 p5 ka_3 hok_28) [] [] rfl rfl (by decide) (by decide) (by decide) qc hqc rfl rfl jw_40 jw_45 jw_46 jw_42 jw_41 jn_X9_putFour rfl (jj_le rfl) (jj_le rfl) (jj_le rfl) (jj_le rfl) (jj_le rfl) dX10_appendText_65 rfl (fun _ _ _ hX => hX.elim) (fun rx pl_33 r O_36 => ?_)
    obtain ⟨rfl, hok_34, hr_35, hR_38⟩ := O_36
    replace hf_2 := hr_35.at hk0 (by decide) (by decide) hf_2
    replace hfr := hfr.trans (hr_35.sub (by decide))
    obtain rfl := hR_38
    refine jj_aload_n C dX10_appendText_68 rfl ?_
    refine tt_getF C hok_34 jk_11 0 (by decide) jw_30 (t := (2, 10, 0)) hk0 (by decide) rfl rfl hf_2 dX10_appendText_69 ?_
    refine tt_get C hok_34 jk_10 1 (by decide) jw_31 (t := (0, 0, 400)) ka_3 (by decide) rfl rfl dX10_appendText_72 (fun v_39 hv_39 hf_40 => ?_)
    obtain ⟨x_41, rfl, lx_41, ux_41⟩ := tt_vi hv_39
    exact jj_iret C ⟨[], pl_33, rfl, rfl, hok_34, hfr, ⟨x_41, (by first | omega | exact tt_lo _ | exact tt_hi _), (by first | omega | exact tt_lo _ | exact tt_hi _), rfl⟩⟩ dX10_appendText_75 (jj_le rfl) (jj_le rfl)
  · have z_c_8 := jc_nle (a := (x_7).toInt) (b := (400)) c_8 rfl (by decide)
    exact jj_throw (k := 36) (text := "the text buffer is full") C jt_RX10_64 jw_49 (by decide +kernel) dX10_appendText_16 dX10_appendText_19 dX10_appendText_20 dX10_appendText_22 dX10_appendText_25 hex (jj_le rfl) (jj_le rfl) (jj_le rfl) (jj_le rfl) ⟨[], pl0, rfl, rfl, hok, hfr, rfl⟩ (jj_le rfl) (jj_le rfl)

set_option maxHeartbeats 4000000 in
set_option maxRecDepth 100000 in
theorem tc_X10_refuse_1 {l : Launch} (hl : l.stackTraces = false) (D : va_G) (cA : Nat → ClassId) (ak : (Nat → Nat) × (Nat → Nat)) {Kd : Nat → Nat} {pl0 : va_W} (hok : tt_ok tt_tk cA Kd pl0) : jj_M l D cA ak yX10_refuse (.code yX10_refuse cX10_refuse 1 none) 6 82 1 6 ([] ++ pl0) [.int 1] (tt_O (fun rx pl1 r => False)) (tt_OX (fun E rx pl1 => rx = [] ∧ tt_ok tt_tk cA Kd pl1 ∧ tt_fr Kd [] pl0 pl1 ∧ (E = "java/lang/IndexOutOfBoundsException"))) := by
  refine jj_start hl (by decide) jw_54 (jj_le rfl) ?_
  intro p e s m args below meth c A hargs hA C hex hmn
  have hfr := tt_fr.refl (K := Kd) (WS := []) pl0
  refine jj_iload_n C dX10_refuse_0 rfl ?_
  refine jj_iconst (v := 1) C dX10_refuse_1 (by decide) ?_
  refine jj_icmp_neF (tgt := 15) C dX10_refuse_2 (by decide) (by decide) ?_
  exact jj_throw (k := 38) (text := "there is no such number") C jt_RX10_200 jw_56 (by decide +kernel) dX10_refuse_5 dX10_refuse_8 dX10_refuse_9 dX10_refuse_11 dX10_refuse_14 hex (jj_le rfl) (jj_le rfl) (jj_le rfl) (jj_le rfl) ⟨[], pl0, rfl, rfl, hok, hfr, rfl⟩ (jj_le rfl) (jj_le rfl)

set_option maxHeartbeats 4000000 in
set_option maxRecDepth 100000 in
theorem tc_X10_refuse_2 {l : Launch} (hl : l.stackTraces = false) (D : va_G) (cA : Nat → ClassId) (ak : (Nat → Nat) × (Nat → Nat)) {Kd : Nat → Nat} {pl0 : va_W} (hok : tt_ok tt_tk cA Kd pl0) : jj_M l D cA ak yX10_refuse (.code yX10_refuse cX10_refuse 1 none) 0 0 0 0 ([] ++ pl0) [.int 0] (tt_O (fun rx pl1 r => rx = [] ∧ tt_ok tt_tk cA Kd pl1 ∧ tt_fr Kd [] pl0 pl1 ∧ ((r = none)))) (tt_OX (fun _ _ _ => False)) := by
  refine jj_start hl (by decide) jw_54 (jj_le rfl) ?_
  intro p e s m args below meth c A hargs hA C hex hmn
  have hfr := tt_fr.refl (K := Kd) (WS := []) pl0
  refine jj_iload_n C dX10_refuse_0 rfl ?_
  refine jj_iconst (v := 1) C dX10_refuse_1 (by decide) ?_
  refine jj_icmp_neT (tgt := 15) C dX10_refuse_2 (by decide) (by decide) ?_
  refine jj_iload_n C dX10_refuse_15 rfl ?_
  refine jj_iconst (v := 2) C dX10_refuse_16 (by decide) ?_
  refine jj_icmp_neT (tgt := 30) C dX10_refuse_17 (by decide) (by decide) ?_
  refine jj_iload_n C dX10_refuse_30 rfl ?_
  refine jj_iconst (v := 3) C dX10_refuse_31 (by decide) ?_
  refine jj_icmp_neT (tgt := 45) C dX10_refuse_32 (by decide) (by decide) ?_
  exact jj_vret C ⟨[], pl0, rfl, rfl, hok, hfr, rfl⟩ dX10_refuse_45 (jj_le rfl) (jj_le rfl)

set_option maxHeartbeats 4000000 in
set_option maxRecDepth 100000 in
theorem tc_X10_checkRequest_1 {l : Launch} (hl : l.stackTraces = false) (D : va_G) (cA : Nat → ClassId) (ak : (Nat → Nat) × (Nat → Nat)) {Kd : Nat → Nat} (h0 : Nat) (p1 : Int32) (hk0 : Kd h0 = 15) {pl0 : va_W} (hok : tt_ok tt_tk cA Kd pl0) : jj_M l D cA ak yX10_checkRequest (.code yX10_checkRequest cX10_checkRequest 2 none) 7 102 1 6 ([] ++ pl0) [.ref h0, .int p1] (tt_O (fun rx pl1 r => rx = [] ∧ tt_ok tt_tk cA Kd pl1 ∧ tt_fr Kd [] pl0 pl1 ∧ (((0 : Int) ≤ p1.toInt ∧ p1.toInt ≤ 11 ∧ r = none)))) (tt_OX (fun E rx pl1 => rx = [] ∧ tt_ok tt_tk cA Kd pl1 ∧ tt_fr Kd [] pl0 pl1 ∧ (E = "java/lang/IndexOutOfBoundsException"))) := by
  refine jj_start hl (by decide) jw_51 (jj_le rfl) ?_
  intro p e s m args below meth c A hargs hA C hex hmn
  have hfr := tt_fr.refl (K := Kd) (WS := []) pl0
  have lp1 := tt_lo p1
  have up1 := tt_hi p1
  refine jj_iload_n C dX10_checkRequest_0 rfl ?_
  refine jj_if_lt (tgt := 19) C dX10_checkRequest_1 (by decide) (fun c_1 => ?_) (fun c_1 => ?_)
  · have z_c_1 := jc_lt (a := (p1).toInt) (b := (0)) c_1 rfl (by decide)
    refine jj_iconst (v := 1) C dX10_checkRequest_19 (by decide) ?_
    refine tt_callS (rest := []) C (tc_X10_refuse_1 hl D cA ak  hok) [] [] rfl rfl (by decide) (by decide) (by decide) jw_53 jw_57 jw_52 jw_54 jn_X10_refuse rfl (jj_le rfl) (jj_le rfl) (jj_le rfl) (jj_le rfl) (jj_le rfl) dX10_checkRequest_20 rfl (fun E rx pl_2 X_6 => ?_) (fun rx pl_2 r O_5 => ?_)
    · obtain ⟨rfl, hok_3, hr_4, hE_7⟩ := X_6
      replace hfr := hfr.trans (hr_4.sub (by decide))
      obtain rfl := hE_7
      exact jj_out C hex ⟨[], pl_2, rfl, rfl, hok_3, hfr, rfl⟩ (jj_le rfl) (jj_le rfl)
    · exact O_5.elim
  · have z_c_1 := jc_nlt (a := (p1).toInt) (b := (0)) c_1 rfl (by decide)
    refine jj_iload_n C dX10_checkRequest_4 rfl ?_
    refine jj_aload_n C dX10_checkRequest_5 rfl ?_
    refine tt_get C hok jk_11 3 (by decide) jw_2 (t := (2, 1, 0)) hk0 (by decide) rfl rfl dX10_checkRequest_6 (fun v_9 hv_9 hf_10 => ?_)
    obtain ⟨a_11, rfl, ka_11⟩ := tt_vr hv_9
    refine tt_get C hok jk_2 9 (by decide) jw_59 (t := (0, 0, 12)) ka_11 (by decide) rfl rfl dX10_checkRequest_9 (fun v_12 hv_12 hf_13 => ?_)
    obtain ⟨x_14, rfl, lx_14, ux_14⟩ := tt_vi hv_12
    refine jj_icmp_ge (tgt := 19) C dX10_checkRequest_12 (by decide) (fun c_15 => ?_) (fun c_15 => ?_)
    · have z_c_15 := jc_le (a := (x_14).toInt) (b := (p1).toInt) c_15 rfl rfl
      refine jj_iconst (v := 1) C dX10_checkRequest_19 (by decide) ?_
      refine tt_callS (rest := []) C (tc_X10_refuse_1 hl D cA ak  hok) [] [] rfl rfl (by decide) (by decide) (by decide) jw_53 jw_57 jw_52 jw_54 jn_X10_refuse rfl (jj_le rfl) (jj_le rfl) (jj_le rfl) (jj_le rfl) (jj_le rfl) dX10_checkRequest_20 rfl (fun E rx pl_16 X_20 => ?_) (fun rx pl_16 r O_19 => ?_)
      · obtain ⟨rfl, hok_17, hr_18, hE_21⟩ := X_20
        replace hf_10 := hr_18.at hk0 (by decide) (by decide) hf_10
        replace hf_13 := hr_18.at ka_11 (by decide) (by decide) hf_13
        replace hfr := hfr.trans (hr_18.sub (by decide))
        obtain rfl := hE_21
        exact jj_out C hex ⟨[], pl_16, rfl, rfl, hok_17, hfr, rfl⟩ (jj_le rfl) (jj_le rfl)
      · exact O_19.elim
    · have z_c_15 := jc_nle (a := (x_14).toInt) (b := (p1).toInt) c_15 rfl rfl
      refine jj_iconst (v := 0) C dX10_checkRequest_15 (by decide) ?_
      refine jj_goto (tgt := 20) C dX10_checkRequest_16 (by decide) ?_
      refine tt_callS (rest := []) C (tc_X10_refuse_2 hl D cA ak  hok) [] [] rfl rfl (by decide) (by decide) (by decide) jw_53 jw_57 jw_52 jw_54 jn_X10_refuse rfl (jj_le rfl) (jj_le rfl) (jj_le rfl) (jj_le rfl) (jj_le rfl) dX10_checkRequest_20 rfl (fun _ _ _ hX => hX.elim) (fun rx pl_23 r O_26 => ?_)
      obtain ⟨rfl, hok_24, hr_25, hR_28⟩ := O_26
      replace hf_10 := hr_25.at hk0 (by decide) (by decide) hf_10
      replace hf_13 := hr_25.at ka_11 (by decide) (by decide) hf_13
      replace hfr := hfr.trans (hr_25.sub (by decide))
      obtain rfl := hR_28
      exact jj_vret C ⟨[], pl_23, rfl, rfl, hok_24, hfr, ⟨(by first | omega | exact tt_lo _ | exact tt_hi _), (by first | omega | exact tt_lo _ | exact tt_hi _), rfl⟩⟩ dX10_checkRequest_23 (jj_le rfl) (jj_le rfl)

set_option maxHeartbeats 4000000 in
set_option maxRecDepth 100000 in
theorem tc_X8_copyFrom_1 {l : Launch} (hl : l.stackTraces = false) (D : va_G) (cA : Nat → ClassId) (ak : (Nat → Nat) × (Nat → Nat)) {Kd : Nat → Nat} (h0 : Nat) (h1 : Nat) (hk0 : Kd h0 = 2) (hk1 : Kd h1 = 2) {pl0 : va_W} (hok : tt_ok tt_tk cA Kd pl0) : jj_M l D cA ak yX8_copyFrom (.code yX8_copyFrom cX8_copyFrom 2 none) 0 0 0 0 ([] ++ pl0) [.ref h0, .ref h1] (tt_O (fun rx pl1 r => rx = [] ∧ tt_ok tt_tk cA Kd pl1 ∧ tt_fr Kd [(2, 0), (2, 1), (2, 2), (2, 3), (2, 4)] pl0 pl1 ∧ ((r = none)))) (tt_OX (fun _ _ _ => False)) := by
  refine jj_start hl (by decide) jw_91 (jj_le rfl) ?_
  intro p e s m args below meth c A hargs hA C hex hmn
  have hfr := tt_fr.refl (K := Kd) (WS := [(2, 0), (2, 1), (2, 2), (2, 3), (2, 4)]) pl0
  refine jj_aload_n C dX8_copyFrom_0 rfl ?_
  refine jj_aload_n C dX8_copyFrom_1 rfl ?_
  refine tt_get C hok jk_9 0 (by decide) jw_93 (t := (0, (-2147483648), 2147483647)) hk1 (by decide) rfl rfl dX8_copyFrom_2 (fun v_1 hv_1 hf_2 => ?_)
  obtain ⟨x_3, rfl, lx_3, ux_3⟩ := tt_vi hv_1
  refine tt_put C hok jk_9 0 (by decide) jw_93 (t := (0, (-2147483648), 2147483647)) hk0 (by decide) rfl rfl rfl (tt_ia x_3) rfl rfl dX8_copyFrom_5 (fun pl_4 hok_5 tr hn => ?_)
  have hf_6 := hn
  replace hfr := hfr.put hk0 tr (by decide)
  refine jj_aload_n C dX8_copyFrom_8 rfl ?_
  refine jj_aload_n C dX8_copyFrom_9 rfl ?_
  refine tt_get C hok_5 jk_9 1 (by decide) jw_100 (t := (0, (-2147483648), 2147483647)) hk1 (by decide) rfl rfl dX8_copyFrom_10 (fun v_7 hv_7 hf_8 => ?_)
  obtain ⟨x_9, rfl, lx_9, ux_9⟩ := tt_vi hv_7
  refine tt_put C hok_5 jk_9 1 (by decide) jw_100 (t := (0, (-2147483648), 2147483647)) hk0 (by decide) rfl rfl rfl (tt_ia x_9) rfl rfl dX8_copyFrom_13 (fun pl_10 hok_11 tr hn => ?_)
  replace hf_6 := tr _ _ _ (Or.inr (by decide)) hf_6
  have hf_12 := hn
  replace hfr := hfr.put hk0 tr (by decide)
  refine jj_aload_n C dX8_copyFrom_16 rfl ?_
  refine jj_aload_n C dX8_copyFrom_17 rfl ?_
  refine tt_get C hok_11 jk_9 2 (by decide) jw_101 (t := (1, (-9223372036854775808), 9223372036854775807)) hk1 (by decide) rfl rfl dX8_copyFrom_18 (fun v_13 hv_13 hf_14 => ?_)
  obtain ⟨y_15, rfl, -, -⟩ := tt_vj hv_13
  refine tt_put C hok_11 jk_9 2 (by decide) jw_101 (t := (1, (-9223372036854775808), 9223372036854775807)) hk0 (by decide) rfl rfl rfl (tt_ja y_15) rfl rfl dX8_copyFrom_21 (fun pl_16 hok_17 tr hn => ?_)
  replace hf_6 := tr _ _ _ (Or.inr (by decide)) hf_6
  replace hf_12 := tr _ _ _ (Or.inr (by decide)) hf_12
  have hf_18 := hn
  replace hfr := hfr.put hk0 tr (by decide)
  refine jj_aload_n C dX8_copyFrom_24 rfl ?_
  refine jj_aload_n C dX8_copyFrom_25 rfl ?_
  refine tt_get C hok_17 jk_9 3 (by decide) jw_102 (t := (1, (-9223372036854775808), 9223372036854775807)) hk1 (by decide) rfl rfl dX8_copyFrom_26 (fun v_19 hv_19 hf_20 => ?_)
  obtain ⟨y_21, rfl, -, -⟩ := tt_vj hv_19
  refine tt_put C hok_17 jk_9 3 (by decide) jw_102 (t := (1, (-9223372036854775808), 9223372036854775807)) hk0 (by decide) rfl rfl rfl (tt_ja y_21) rfl rfl dX8_copyFrom_29 (fun pl_22 hok_23 tr hn => ?_)
  replace hf_6 := tr _ _ _ (Or.inr (by decide)) hf_6
  replace hf_12 := tr _ _ _ (Or.inr (by decide)) hf_12
  replace hf_18 := tr _ _ _ (Or.inr (by decide)) hf_18
  have hf_24 := hn
  replace hfr := hfr.put hk0 tr (by decide)
  refine jj_aload_n C dX8_copyFrom_32 rfl ?_
  refine jj_aload_n C dX8_copyFrom_33 rfl ?_
  refine tt_get C hok_23 jk_9 4 (by decide) jw_103 (t := (1, (-9223372036854775808), 9223372036854775807)) hk1 (by decide) rfl rfl dX8_copyFrom_34 (fun v_25 hv_25 hf_26 => ?_)
  obtain ⟨y_27, rfl, -, -⟩ := tt_vj hv_25
  refine tt_put C hok_23 jk_9 4 (by decide) jw_103 (t := (1, (-9223372036854775808), 9223372036854775807)) hk0 (by decide) rfl rfl rfl (tt_ja y_27) rfl rfl dX8_copyFrom_37 (fun pl_28 hok_29 tr hn => ?_)
  replace hf_6 := tr _ _ _ (Or.inr (by decide)) hf_6
  replace hf_12 := tr _ _ _ (Or.inr (by decide)) hf_12
  replace hf_18 := tr _ _ _ (Or.inr (by decide)) hf_18
  replace hf_24 := tr _ _ _ (Or.inr (by decide)) hf_24
  have hf_30 := hn
  replace hfr := hfr.put hk0 tr (by decide)
  exact jj_vret C ⟨[], pl_28, rfl, rfl, hok_29, hfr, rfl⟩ dX8_copyFrom_40 (jj_le rfl) (jj_le rfl)

set_option maxHeartbeats 4000000 in
set_option maxRecDepth 100000 in
theorem tc_X8_assetsAfter_1 {l : Launch} (hl : l.stackTraces = false) (D : va_G) (cA : Nat → ClassId) (ak : (Nat → Nat) × (Nat → Nat)) {Kd : Nat → Nat} (h0 : Nat) (hk0 : Kd h0 = 2) {pl0 : va_W} (hok : tt_ok tt_tk cA Kd pl0) : jj_M l D cA ak yX8_assetsAfter (.code yX8_assetsAfter cX8_assetsAfter 2 (some .long)) 0 0 0 0 ([] ++ pl0) [.ref h0, .int 0] (tt_O (fun rx pl1 r => rx = [] ∧ tt_ok tt_tk cA Kd pl1 ∧ tt_fr Kd [] pl0 pl1 ∧ ((∃ v : Int64, r = some (.long v))))) (tt_OX (fun _ _ _ => False)) := by
  refine jj_start hl (by decide) jw_108 (jj_le rfl) ?_
  intro p e s m args below meth c A hargs hA C hex hmn
  have hfr := tt_fr.refl (K := Kd) (WS := []) pl0
  refine jj_aload_n C dX8_assetsAfter_0 rfl ?_
  refine tt_get C hok jk_9 2 (by decide) jw_101 (t := (1, (-9223372036854775808), 9223372036854775807)) hk0 (by decide) rfl rfl dX8_assetsAfter_1 (fun v_1 hv_1 hf_2 => ?_)
  obtain ⟨y_3, rfl, -, -⟩ := tt_vj hv_1
  refine jj_aload_n C dX8_assetsAfter_4 rfl ?_
  refine tt_getF C hok jk_9 2 (by decide) jw_101 (t := (1, (-9223372036854775808), 9223372036854775807)) hk0 (by decide) rfl rfl hf_2 dX8_assetsAfter_5 ?_
  refine jj_iload_n C dX8_assetsAfter_8 rfl ?_
  refine jj_i2l (v := 0) C dX8_assetsAfter_9 (by decide) ?_
  obtain ⟨y_4, ey_4⟩ : ∃ z : Int64, y_3 * (0 : Int64) = z := ⟨_, rfl⟩
  refine jj_lmul (v := y_4) C dX8_assetsAfter_10 ey_4 ?_
  refine jj_ldc2 (v := 10000) C dX8_assetsAfter_11 jw_109 ?_
  obtain ⟨y_5, ey_5⟩ : ∃ z : Int64, y_4 / (10000 : Int64) = z := ⟨_, rfl⟩
  refine jj_ldiv (v := y_5) C dX8_assetsAfter_14 (by decide) ey_5 ?_
  obtain ⟨y_6, ey_6⟩ : ∃ z : Int64, y_3 + y_5 = z := ⟨_, rfl⟩
  refine jj_ladd (v := y_6) C dX8_assetsAfter_15 ey_6 ?_
  exact jj_lret C ⟨[], pl0, rfl, rfl, hok, hfr, ⟨y_6, rfl⟩⟩ dX8_assetsAfter_16 (jj_le rfl) (jj_le rfl)

set_option maxHeartbeats 4000000 in
set_option maxRecDepth 100000 in
theorem tc_X1_resetTrial_1 {l : Launch} (hl : l.stackTraces = false) (D : va_G) (cA : Nat → ClassId) (ak : (Nat → Nat) × (Nat → Nat)) {Kd : Nat → Nat} (h0 : Nat) (h1 : Nat) (hk0 : Kd h0 = 9) (hk1 : Kd h1 = 1) {pl0 : va_W} (hok : tt_ok tt_tk cA Kd pl0) : jj_M l D cA ak yX1_resetTrial (.code yX1_resetTrial cX1_resetTrial 4 none) 1 21 0 0 ([] ++ pl0) [.ref h0, .ref h1, .int 0] (tt_O (fun rx pl1 r => rx = [] ∧ tt_ok tt_tk cA Kd pl1 ∧ tt_fr Kd [(2, 0), (2, 1), (2, 2), (2, 3), (2, 4)] pl0 pl1 ∧ ((r = none)))) (tt_OX (fun _ _ _ => False)) := by
  refine jj_start hl (by decide) jw_79 (jj_le rfl) ?_
  intro p e s m args below meth c A hargs hA C hex hmn
  have hfr := tt_fr.refl (K := Kd) (WS := [(2, 0), (2, 1), (2, 2), (2, 3), (2, 4)]) pl0
  refine jj_iconst (v := 0) C dX1_resetTrial_0 (by decide) ?_
  refine jj_istore_n C dX1_resetTrial_1 (by decide) rfl ?_
  have hL_1 : ∀ (N : Nat) (pl : va_W) (x_2 : Int32), True → tt_ok tt_tk cA Kd pl → tt_fr Kd [(2, 0), (2, 1), (2, 2), (2, 3), (2, 4)] pl0 pl → (0 : Int) ≤ x_2.toInt → x_2.toInt ≤ 6 → (2147483648 - x_2.toInt ≤ (N : Int)) → jj_J p l e (jj_rm 1 21 0 0) s m args below meth c 4 A (vx_MQ below (jj_q D A (tt_O (fun rx pl1 r => rx = [] ∧ tt_ok tt_tk cA Kd pl1 ∧ tt_fr Kd [(2, 0), (2, 1), (2, 2), (2, 3), (2, 4)] pl0 pl1 ∧ ((r = none))))) (jj_x D A (tt_OX (fun _ _ _ => False))) args s 0 0 A) (jj_X D A ([] ++ pl)) 0 0 2 [(3, .int x_2), (0, .ref h0), (1, .ref h1), (2, .int 0)] [] := by
    intro NL_1
    induction NL_1 with
    | zero => intro pl x_2 _ hok hfr lx_2 ux_2 hNL_1; exfalso; omega
    | succ NL_1 ihL_1 =>
      intro pl x_2 _ hok hfr lx_2 ux_2 hNL_1
      replace ihL_1 := fun pl x_2 h1 => ihL_1 pl x_2 trivial h1
      refine jj_iload_n C dX1_resetTrial_2 rfl ?_
      refine jj_aload_n C dX1_resetTrial_3 rfl ?_
      refine tt_get C hok jk_2 7 (by decide) jw_80 (t := (0, 0, 6)) hk1 (by decide) rfl rfl dX1_resetTrial_4 (fun v_3 hv_3 hf_4 => ?_)
      obtain ⟨x_5, rfl, lx_5, ux_5⟩ := tt_vi hv_3
      refine jj_icmp_ge (tgt := 50) C dX1_resetTrial_7 (by decide) (fun c_6 => ?_) (fun c_6 => ?_)
      · have z_c_6 := jc_le (a := (x_5).toInt) (b := (x_2).toInt) c_6 rfl rfl
        exact jj_vret C ⟨[], pl, rfl, rfl, hok, hfr, rfl⟩ dX1_resetTrial_50 (jj_le rfl) (jj_le rfl)
      · have z_c_6 := jc_nle (a := (x_5).toInt) (b := (x_2).toInt) c_6 rfl rfl
        refine jj_aload_n C dX1_resetTrial_10 rfl ?_
        refine tt_get C hok jk_3 0 (by decide) jw_81 (t := (2, 6, 0)) hk0 (by decide) rfl rfl dX1_resetTrial_11 (fun v_7 hv_7 hf_8 => ?_)
        obtain ⟨a_9, rfl, ka_9⟩ := tt_vr hv_7
        refine jj_iload_n C dX1_resetTrial_14 rfl ?_
        refine tt_aald C hok (t := (2, 2, 0)) ka_9 (by decide) rfl rfl rfl (vp_in_iff.mpr ⟨by omega, by omega⟩) dX1_resetTrial_15 (fun v_10 hv_10 => ?_)
        obtain ⟨a_11, rfl, ka_11⟩ := tt_vr hv_10
        refine jj_aload_n C dX1_resetTrial_16 rfl ?_
        refine tt_get C hok jk_2 11 (by decide) jw_89 (t := (2, 6, 0)) hk1 (by decide) rfl rfl dX1_resetTrial_17 (fun v_12 hv_12 hf_13 => ?_)
        obtain ⟨a_14, rfl, ka_14⟩ := tt_vr hv_12
        refine jj_iload_n C dX1_resetTrial_20 rfl ?_
        refine tt_aald C hok (t := (2, 2, 0)) ka_14 (by decide) rfl rfl rfl (vp_in_iff.mpr ⟨by omega, by omega⟩) dX1_resetTrial_21 (fun v_15 hv_15 => ?_)
        obtain ⟨a_16, rfl, ka_16⟩ := tt_vr hv_15
        obtain ⟨qc, gs, hqc⟩ := tt_recv (cx := []) hok ka_11 (by decide) rfl
        refine tt_callV (rest := []) C (tc_X8_copyFrom_1 hl D cA ak a_11 a_16 ka_11 ka_16 hok) [] [] rfl rfl (by decide) (by decide) (by decide) qc hqc rfl rfl jw_90 jw_104 jw_105 jw_92 jw_91 jn_X8_copyFrom rfl (jj_le rfl) (jj_le rfl) (jj_le rfl) (jj_le rfl) (jj_le rfl) dX1_resetTrial_22 rfl (fun _ _ _ hX => hX.elim) (fun rx pl_17 r O_20 => ?_)
        obtain ⟨rfl, hok_18, hr_19, hR_22⟩ := O_20
        replace hf_4 := hr_19.at hk1 (by decide) (by decide) hf_4
        replace hf_8 := hr_19.at hk0 (by decide) (by decide) hf_8
        replace hf_13 := hr_19.at hk1 (by decide) (by decide) hf_13
        replace hfr := hfr.trans (hr_19.sub (by decide))
        obtain rfl := hR_22
        refine jj_aload_n C dX1_resetTrial_25 rfl ?_
        refine tt_getF C hok_18 jk_3 0 (by decide) jw_81 (t := (2, 6, 0)) hk0 (by decide) rfl rfl hf_8 dX1_resetTrial_26 ?_
        refine jj_iload_n C dX1_resetTrial_29 rfl ?_
        refine tt_aald C hok_18 (t := (2, 2, 0)) ka_9 (by decide) rfl rfl rfl (vp_in_iff.mpr ⟨by omega, by omega⟩) dX1_resetTrial_30 (fun v_23 hv_23 => ?_)
        obtain ⟨a_24, rfl, ka_24⟩ := tt_vr hv_23
        refine jj_aload_n C dX1_resetTrial_31 rfl ?_
        refine tt_getF C hok_18 jk_3 0 (by decide) jw_81 (t := (2, 6, 0)) hk0 (by decide) rfl rfl hf_8 dX1_resetTrial_32 ?_
        refine jj_iload_n C dX1_resetTrial_35 rfl ?_
        refine tt_aald C hok_18 (t := (2, 2, 0)) ka_9 (by decide) rfl rfl rfl (vp_in_iff.mpr ⟨by omega, by omega⟩) dX1_resetTrial_36 (fun v_25 hv_25 => ?_)
        obtain ⟨a_26, rfl, ka_26⟩ := tt_vr hv_25
        refine jj_iload_n C dX1_resetTrial_37 rfl ?_
        obtain ⟨qc, gs, hqc⟩ := tt_recv (cx := []) hok_18 ka_26 (by decide) rfl
        refine tt_callV (rest := [.ref a_24]) C (tc_X8_assetsAfter_1 hl D cA ak a_26 ka_26 hok_18) [] [] rfl rfl (by decide) (by decide) (by decide) qc hqc rfl rfl jw_107 jw_110 jw_111 jw_92 jw_108 jn_X8_assetsAfter rfl (jj_le rfl) (jj_le rfl) (jj_le rfl) (jj_le rfl) (jj_le rfl) dX1_resetTrial_38 rfl (fun _ _ _ hX => hX.elim) (fun rx pl_27 r O_30 => ?_)
        obtain ⟨rfl, hok_28, hr_29, hR_32⟩ := O_30
        replace hf_4 := hr_29.at hk1 (by decide) (by decide) hf_4
        replace hf_8 := hr_29.at hk0 (by decide) (by decide) hf_8
        replace hf_13 := hr_29.at hk1 (by decide) (by decide) hf_13
        replace hfr := hfr.trans (hr_29.sub (by decide))
        obtain ⟨y_33, rfl⟩ := hR_32
        refine tt_put C hok_28 jk_9 2 (by decide) jw_113 (t := (1, (-9223372036854775808), 9223372036854775807)) ka_24 (by decide) rfl rfl rfl (tt_ja y_33) rfl rfl dX1_resetTrial_41 (fun pl_34 hok_35 tr hn => ?_)
        replace hf_4 := tr _ _ _ (Or.inl (tt_ne hk1 ka_24 (by decide))) hf_4
        replace hf_8 := tr _ _ _ (Or.inl (tt_ne hk0 ka_24 (by decide))) hf_8
        replace hf_13 := tr _ _ _ (Or.inl (tt_ne hk1 ka_24 (by decide))) hf_13
        have hf_36 := hn
        replace hfr := hfr.put ka_24 tr (by decide)
        obtain ⟨x_37, ex_37, vx_37⟩ := tt_inc (x := x_2) (n := 1) (by omega) (by omega)
        refine jj_iinc (v := x_37) C dX1_resetTrial_44 rfl ex_37 (by decide) rfl ?_
        refine jj_goto (tgt := 2) C dX1_resetTrial_47 (by decide) ?_
        exact ihL_1 pl_34 x_37 hok_35 hfr (by first | omega | decide | exact tt_lo _ | exact tt_hi _) (by first | omega | decide | exact tt_lo _ | exact tt_hi _) (by first | omega | decide | exact tt_lo _ | exact tt_hi _)
  exact hL_1 _ pl0 (0 : Int32) trivial hok hfr (by first | omega | decide | exact tt_lo _ | exact tt_hi _) (by first | omega | decide | exact tt_lo _ | exact tt_hi _) (Int.self_le_toNat _)

set_option maxHeartbeats 4000000 in
set_option maxRecDepth 100000 in
theorem tc_X0_placeOfSeries_1 {l : Launch} (hl : l.stackTraces = false) (D : va_G) (cA : Nat → ClassId) (ak : (Nat → Nat) × (Nat → Nat)) {Kd : Nat → Nat} (h0 : Nat) (p1 : Int32) (hk0 : Kd h0 = 1) {pl0 : va_W} (hok : tt_ok tt_tk cA Kd pl0) : jj_M l D cA ak yX0_placeOfSeries (.code yX0_placeOfSeries cX0_placeOfSeries 3 (some .int)) 0 0 0 0 ([] ++ pl0) [.ref h0, .int p1] (tt_O (fun rx pl1 r => rx = [] ∧ tt_ok tt_tk cA Kd pl1 ∧ tt_fr Kd [] pl0 pl1 ∧ ((r = some (.int (-1))) ∨ (∃ v : Int32, (0 : Int) ≤ v.toInt ∧ v.toInt ≤ 5 ∧ r = some (.int v))))) (tt_OX (fun _ _ _ => False)) := by
  refine jj_start hl (by decide) jw_132 (jj_le rfl) ?_
  intro p e s m args below meth c A hargs hA C hex hmn
  have hfr := tt_fr.refl (K := Kd) (WS := []) pl0
  have lp1 := tt_lo p1
  have up1 := tt_hi p1
  refine jj_iconst (v := 0) C dX0_placeOfSeries_0 (by decide) ?_
  refine jj_istore_n C dX0_placeOfSeries_1 (by decide) rfl ?_
  have hL_1 : ∀ (N : Nat) (pl : va_W) (x_2 : Int32), True → tt_ok tt_tk cA Kd pl → tt_fr Kd [] pl0 pl → (0 : Int) ≤ x_2.toInt → x_2.toInt ≤ 6 → (2147483648 - x_2.toInt ≤ (N : Int)) → jj_J p l e (jj_rm 0 0 0 0) s m args below meth c 3 A (vx_MQ below (jj_q D A (tt_O (fun rx pl1 r => rx = [] ∧ tt_ok tt_tk cA Kd pl1 ∧ tt_fr Kd [] pl0 pl1 ∧ ((r = some (.int (-1))) ∨ (∃ v : Int32, (0 : Int) ≤ v.toInt ∧ v.toInt ≤ 5 ∧ r = some (.int v)))))) (jj_x D A (tt_OX (fun _ _ _ => False))) args s 0 0 A) (jj_X D A ([] ++ pl)) 0 0 2 [(2, .int x_2), (0, .ref h0), (1, .int p1)] [] := by
    intro NL_1
    induction NL_1 with
    | zero => intro pl x_2 _ hok hfr lx_2 ux_2 hNL_1; exfalso; omega
    | succ NL_1 ihL_1 =>
      intro pl x_2 _ hok hfr lx_2 ux_2 hNL_1
      replace ihL_1 := fun pl x_2 h1 => ihL_1 pl x_2 trivial h1
      refine jj_iload_n C dX0_placeOfSeries_2 rfl ?_
      refine jj_aload_n C dX0_placeOfSeries_3 rfl ?_
      refine tt_get C hok jk_2 7 (by decide) jw_134 (t := (0, 0, 6)) hk0 (by decide) rfl rfl dX0_placeOfSeries_4 (fun v_3 hv_3 hf_4 => ?_)
      obtain ⟨x_5, rfl, lx_5, ux_5⟩ := tt_vi hv_3
      refine jj_icmp_ge (tgt := 31) C dX0_placeOfSeries_7 (by decide) (fun c_6 => ?_) (fun c_6 => ?_)
      · have z_c_6 := jc_le (a := (x_5).toInt) (b := (x_2).toInt) c_6 rfl rfl
        refine jj_iconst (v := (-1)) C dX0_placeOfSeries_31 (by decide) ?_
        exact jj_iret C ⟨[], pl, rfl, rfl, hok, hfr, (Or.inl rfl)⟩ dX0_placeOfSeries_32 (jj_le rfl) (jj_le rfl)
      · have z_c_6 := jc_nle (a := (x_5).toInt) (b := (x_2).toInt) c_6 rfl rfl
        refine jj_aload_n C dX0_placeOfSeries_10 rfl ?_
        refine tt_get C hok jk_2 11 (by decide) jw_135 (t := (2, 6, 0)) hk0 (by decide) rfl rfl dX0_placeOfSeries_11 (fun v_7 hv_7 hf_8 => ?_)
        obtain ⟨a_9, rfl, ka_9⟩ := tt_vr hv_7
        refine jj_iload_n C dX0_placeOfSeries_14 rfl ?_
        refine tt_aald C hok (t := (2, 2, 0)) ka_9 (by decide) rfl rfl rfl (vp_in_iff.mpr ⟨by omega, by omega⟩) dX0_placeOfSeries_15 (fun v_10 hv_10 => ?_)
        obtain ⟨a_11, rfl, ka_11⟩ := tt_vr hv_10
        refine tt_get C hok jk_9 0 (by decide) jw_136 (t := (0, (-2147483648), 2147483647)) ka_11 (by decide) rfl rfl dX0_placeOfSeries_16 (fun v_12 hv_12 hf_13 => ?_)
        obtain ⟨x_14, rfl, lx_14, ux_14⟩ := tt_vi hv_12
        refine jj_iload_n C dX0_placeOfSeries_19 rfl ?_
        refine jj_icmp_ne (tgt := 25) C dX0_placeOfSeries_20 (by decide) (fun c_15 => ?_) (fun c_15 => ?_)
        · have z_c_15 := jc_neq (a := (x_14).toInt) (b := (p1).toInt) c_15 rfl rfl
          obtain ⟨x_16, ex_16, vx_16⟩ := tt_inc (x := x_2) (n := 1) (by omega) (by omega)
          refine jj_iinc (v := x_16) C dX0_placeOfSeries_25 rfl ex_16 (by decide) rfl ?_
          refine jj_goto (tgt := 2) C dX0_placeOfSeries_28 (by decide) ?_
          exact ihL_1 pl x_16 hok hfr (by first | omega | decide | exact tt_lo _ | exact tt_hi _) (by first | omega | decide | exact tt_lo _ | exact tt_hi _) (by first | omega | decide | exact tt_lo _ | exact tt_hi _)
        · have z_c_15 := jc_eq (a := (x_14).toInt) (b := (p1).toInt) c_15 rfl rfl
          refine jj_iload_n C dX0_placeOfSeries_23 rfl ?_
          exact jj_iret C ⟨[], pl, rfl, rfl, hok, hfr, (Or.inr ⟨x_2, (by first | omega | exact tt_lo _ | exact tt_hi _), (by first | omega | exact tt_lo _ | exact tt_hi _), rfl⟩)⟩ dX0_placeOfSeries_24 (jj_le rfl) (jj_le rfl)
  exact hL_1 _ pl0 (0 : Int32) trivial hok hfr (by first | omega | decide | exact tt_lo _ | exact tt_hi _) (by first | omega | decide | exact tt_lo _ | exact tt_hi _) (Int.self_le_toNat _)

set_option maxHeartbeats 4000000 in
set_option maxRecDepth 100000 in
theorem tc_X8_accruedFee_1 {l : Launch} (hl : l.stackTraces = false) (D : va_G) (cA : Nat → ClassId) (ak : (Nat → Nat) × (Nat → Nat)) {Kd : Nat → Nat} (h0 : Nat) (p1 : Int32) (hk0 : Kd h0 = 2) {pl0 : va_W} (hok : tt_ok tt_tk cA Kd pl0) : jj_M l D cA ak yX8_accruedFee (.code yX8_accruedFee cX8_accruedFee 6 (some .long)) 0 0 0 0 ([] ++ pl0) [.ref h0, .int p1] (tt_O (fun rx pl1 r => rx = [] ∧ tt_ok tt_tk cA Kd pl1 ∧ tt_fr Kd [] pl0 pl1 ∧ ((r = some (.long 0)) ∨ (∃ v : Int64, r = some (.long v))))) (tt_OX (fun _ _ _ => False)) := by
  refine jj_start hl (by decide) jw_151 (jj_le rfl) ?_
  intro p e s m args below meth c A hargs hA C hex hmn
  have hfr := tt_fr.refl (K := Kd) (WS := []) pl0
  have lp1 := tt_lo p1
  have up1 := tt_hi p1
  refine jj_aload_n C dX8_accruedFee_0 rfl ?_
  refine tt_get C hok jk_9 4 (by decide) jw_103 (t := (1, (-9223372036854775808), 9223372036854775807)) hk0 (by decide) rfl rfl dX8_accruedFee_1 (fun v_1 hv_1 hf_2 => ?_)
  obtain ⟨y_3, rfl, -, -⟩ := tt_vj hv_1
  refine jj_ldc2 (v := 100000) C dX8_accruedFee_4 jw_152 ?_
  obtain ⟨y_4, ey_4⟩ : ∃ z : Int64, y_3 / (100000 : Int64) = z := ⟨_, rfl⟩
  refine jj_ldiv (v := y_4) C dX8_accruedFee_7 (by decide) ey_4 ?_
  refine jj_aload_n C dX8_accruedFee_8 rfl ?_
  refine tt_get C hok jk_9 3 (by decide) jw_102 (t := (1, (-9223372036854775808), 9223372036854775807)) hk0 (by decide) rfl rfl dX8_accruedFee_9 (fun v_5 hv_5 hf_6 => ?_)
  obtain ⟨y_7, rfl, -, -⟩ := tt_vj hv_5
  obtain ⟨y_8, ey_8⟩ : ∃ z : Int64, y_4 * y_7 = z := ⟨_, rfl⟩
  refine jj_lmul (v := y_8) C dX8_accruedFee_12 ey_8 ?_
  refine jj_aload_n C dX8_accruedFee_13 rfl ?_
  refine tt_getF C hok jk_9 4 (by decide) jw_103 (t := (1, (-9223372036854775808), 9223372036854775807)) hk0 (by decide) rfl rfl hf_2 dX8_accruedFee_14 ?_
  refine jj_ldc2 (v := 100000) C dX8_accruedFee_17 jw_152 ?_
  obtain ⟨y_9, ey_9⟩ : ∃ z : Int64, y_3 - y_3 / (100000 : Int64) * (100000 : Int64) = z := ⟨_, rfl⟩
  refine jj_lrem (v := y_9) C dX8_accruedFee_20 (by decide) ey_9 ?_
  refine jj_aload_n C dX8_accruedFee_21 rfl ?_
  refine tt_getF C hok jk_9 3 (by decide) jw_102 (t := (1, (-9223372036854775808), 9223372036854775807)) hk0 (by decide) rfl rfl hf_6 dX8_accruedFee_22 ?_
  obtain ⟨y_10, ey_10⟩ : ∃ z : Int64, y_9 * y_7 = z := ⟨_, rfl⟩
  refine jj_lmul (v := y_10) C dX8_accruedFee_25 ey_10 ?_
  refine jj_ldc2 (v := 100000) C dX8_accruedFee_26 jw_152 ?_
  obtain ⟨y_11, ey_11⟩ : ∃ z : Int64, y_10 / (100000 : Int64) = z := ⟨_, rfl⟩
  refine jj_ldiv (v := y_11) C dX8_accruedFee_29 (by decide) ey_11 ?_
  obtain ⟨y_12, ey_12⟩ : ∃ z : Int64, y_8 + y_11 = z := ⟨_, rfl⟩
  refine jj_ladd (v := y_12) C dX8_accruedFee_30 ey_12 ?_
  refine jj_lstore_n C dX8_accruedFee_31 (by decide) rfl ?_
  refine jj_aload_n C dX8_accruedFee_32 rfl ?_
  refine tt_get C hok jk_9 2 (by decide) jw_101 (t := (1, (-9223372036854775808), 9223372036854775807)) hk0 (by decide) rfl rfl dX8_accruedFee_33 (fun v_13 hv_13 hf_14 => ?_)
  obtain ⟨y_15, rfl, -, -⟩ := tt_vj hv_13
  refine jj_lload_n C dX8_accruedFee_36 rfl ?_
  obtain ⟨y_16, ey_16⟩ : ∃ z : Int64, y_15 - y_12 = z := ⟨_, rfl⟩
  refine jj_lsub (v := y_16) C dX8_accruedFee_37 ey_16 ?_
  refine jj_lstore C dX8_accruedFee_38 (by decide) rfl ?_
  refine jj_lload C dX8_accruedFee_40 rfl ?_
  refine jj_lconst (v := 0) C dX8_accruedFee_42 (by decide) ?_
  refine jj_lcmp_le (tgt := 59) C dX8_accruedFee_43 dX8_accruedFee_44 (by decide) (fun c_17 => ?_) (fun c_17 => ?_)
  · refine jj_lconst (v := 0) C dX8_accruedFee_59 (by decide) ?_
    exact jj_lret C ⟨[], pl0, rfl, rfl, hok, hfr, (Or.inl rfl)⟩ dX8_accruedFee_60 (jj_le rfl) (jj_le rfl)
  · refine jj_lload C dX8_accruedFee_47 rfl ?_
    refine jj_iload_n C dX8_accruedFee_49 rfl ?_
    obtain ⟨y_18, ey_18, vy_18⟩ := tt_i2l p1
    refine jj_i2l (v := y_18) C dX8_accruedFee_50 ey_18 ?_
    obtain ⟨y_19, ey_19⟩ : ∃ z : Int64, y_16 * y_18 = z := ⟨_, rfl⟩
    refine jj_lmul (v := y_19) C dX8_accruedFee_51 ey_19 ?_
    refine jj_ldc2 (v := 100) C dX8_accruedFee_52 jw_153 ?_
    obtain ⟨y_20, ey_20⟩ : ∃ z : Int64, y_19 / (100 : Int64) = z := ⟨_, rfl⟩
    refine jj_ldiv (v := y_20) C dX8_accruedFee_55 (by decide) ey_20 ?_
    refine jj_goto (tgt := 60) C dX8_accruedFee_56 (by decide) ?_
    exact jj_lret C ⟨[], pl0, rfl, rfl, hok, hfr, (Or.inr ⟨y_20, rfl⟩)⟩ dX8_accruedFee_60 (jj_le rfl) (jj_le rfl)

set_option maxHeartbeats 4000000 in
set_option maxRecDepth 100000 in
theorem tc_X8_grossPrice_1 {l : Launch} (hl : l.stackTraces = false) (D : va_G) (cA : Nat → ClassId) (ak : (Nat → Nat) × (Nat → Nat)) {Kd : Nat → Nat} (h0 : Nat) (hk0 : Kd h0 = 2) {pl0 : va_W} (hok : tt_ok tt_tk cA Kd pl0) : jj_M l D cA ak yX8_grossPrice (.code yX8_grossPrice cX8_grossPrice 1 (some .long)) 0 0 0 0 ([] ++ pl0) [.ref h0] (tt_O (fun rx pl1 r => rx = [] ∧ tt_ok tt_tk cA Kd pl1 ∧ tt_fr Kd [] pl0 pl1 ∧ ((r = some (.long 1000000)) ∨ (∃ v : Int64, r = some (.long v))))) (tt_OX (fun _ _ _ => False)) := by
  refine jj_start hl (by decide) jw_167 (jj_le rfl) ?_
  intro p e s m args below meth c A hargs hA C hex hmn
  have hfr := tt_fr.refl (K := Kd) (WS := []) pl0
  refine jj_aload_n C dX8_grossPrice_0 rfl ?_
  refine tt_get C hok jk_9 3 (by decide) jw_102 (t := (1, (-9223372036854775808), 9223372036854775807)) hk0 (by decide) rfl rfl dX8_grossPrice_1 (fun v_1 hv_1 hf_2 => ?_)
  obtain ⟨y_3, rfl, -, -⟩ := tt_vj hv_1
  refine jj_lconst (v := 0) C dX8_grossPrice_4 (by decide) ?_
  refine jj_lcmp_le (tgt := 25) C dX8_grossPrice_5 dX8_grossPrice_6 (by decide) (fun c_4 => ?_) (fun c_4 => ?_)
  · refine jj_ldc2 (v := 1000000) C dX8_grossPrice_25 jw_168 ?_
    exact jj_lret C ⟨[], pl0, rfl, rfl, hok, hfr, (Or.inl rfl)⟩ dX8_grossPrice_28 (jj_le rfl) (jj_le rfl)
  · refine jj_aload_n C dX8_grossPrice_9 rfl ?_
    refine tt_get C hok jk_9 2 (by decide) jw_101 (t := (1, (-9223372036854775808), 9223372036854775807)) hk0 (by decide) rfl rfl dX8_grossPrice_10 (fun v_5 hv_5 hf_6 => ?_)
    obtain ⟨y_7, rfl, -, -⟩ := tt_vj hv_5
    refine jj_ldc2 (v := 100000) C dX8_grossPrice_13 jw_152 ?_
    obtain ⟨y_8, ey_8⟩ : ∃ z : Int64, y_7 * (100000 : Int64) = z := ⟨_, rfl⟩
    refine jj_lmul (v := y_8) C dX8_grossPrice_16 ey_8 ?_
    refine jj_aload_n C dX8_grossPrice_17 rfl ?_
    refine tt_getF C hok jk_9 3 (by decide) jw_102 (t := (1, (-9223372036854775808), 9223372036854775807)) hk0 (by decide) rfl rfl hf_2 dX8_grossPrice_18 ?_
    obtain ⟨y_9, ey_9⟩ : ∃ z : Int64, y_8 / y_3 = z := ⟨_, rfl⟩
    refine jj_ldiv (v := y_9) C dX8_grossPrice_21 (jt_nzpL (by first | exact Int64.not_le.mp c_4 | exact Int32.not_le.mp c_4)) ey_9 ?_
    refine jj_goto (tgt := 28) C dX8_grossPrice_22 (by decide) ?_
    exact jj_lret C ⟨[], pl0, rfl, rfl, hok, hfr, (Or.inr ⟨y_9, rfl⟩)⟩ dX8_grossPrice_28 (jj_le rfl) (jj_le rfl)

set_option maxHeartbeats 4000000 in
set_option maxRecDepth 100000 in
theorem tc_X2_dueOn_1 {l : Launch} (hl : l.stackTraces = false) (D : va_G) (cA : Nat → ClassId) (ak : (Nat → Nat) × (Nat → Nat)) {Kd : Nat → Nat} (p0 : Int64) (p1 : Int64) (p2 : Int64) (p3 : Int32) {pl0 : va_W} (hok : tt_ok tt_tk cA Kd pl0) : jj_M l D cA ak yX2_dueOn (.code yX2_dueOn cX2_dueOn 7 (some .long)) 0 0 0 0 ([] ++ pl0) [.long p0, .long p1, .long p2, .int p3] (tt_O (fun rx pl1 r => rx = [] ∧ tt_ok tt_tk cA Kd pl1 ∧ tt_fr Kd [] pl0 pl1 ∧ ((r = some (.long 0)) ∨ (∃ v : Int64, r = some (.long v))))) (tt_OX (fun _ _ _ => False)) := by
  refine jj_start hl (by decide) jw_174 (jj_le rfl) ?_
  intro p e s m args below meth c A hargs hA C hex hmn
  have hfr := tt_fr.refl (K := Kd) (WS := []) pl0
  have lp3 := tt_lo p3
  have up3 := tt_hi p3
  refine jj_lload C dX2_dueOn_0 rfl ?_
  refine jj_lload_n C dX2_dueOn_2 rfl ?_
  refine jj_lcmp_le (tgt := 28) C dX2_dueOn_3 dX2_dueOn_4 (by decide) (fun c_1 => ?_) (fun c_1 => ?_)
  · refine jj_lconst (v := 0) C dX2_dueOn_28 (by decide) ?_
    exact jj_lret C ⟨[], pl0, rfl, rfl, hok, hfr, (Or.inl rfl)⟩ dX2_dueOn_29 (jj_le rfl) (jj_le rfl)
  · refine jj_lload_n C dX2_dueOn_7 rfl ?_
    refine jj_lload C dX2_dueOn_8 rfl ?_
    refine jj_lload_n C dX2_dueOn_10 rfl ?_
    obtain ⟨y_2, ey_2⟩ : ∃ z : Int64, p2 - p1 = z := ⟨_, rfl⟩
    refine jj_lsub (v := y_2) C dX2_dueOn_11 ey_2 ?_
    obtain ⟨y_3, ey_3⟩ : ∃ z : Int64, p0 * y_2 = z := ⟨_, rfl⟩
    refine jj_lmul (v := y_3) C dX2_dueOn_12 ey_3 ?_
    refine jj_iload C dX2_dueOn_13 rfl ?_
    obtain ⟨y_4, ey_4, vy_4⟩ := tt_i2l p3
    refine jj_i2l (v := y_4) C dX2_dueOn_15 ey_4 ?_
    obtain ⟨y_5, ey_5⟩ : ∃ z : Int64, y_3 * y_4 = z := ⟨_, rfl⟩
    refine jj_lmul (v := y_5) C dX2_dueOn_16 ey_5 ?_
    refine jj_ldc2 (v := 100) C dX2_dueOn_17 jw_176 ?_
    obtain ⟨y_6, ey_6⟩ : ∃ z : Int64, y_5 / (100 : Int64) = z := ⟨_, rfl⟩
    refine jj_ldiv (v := y_6) C dX2_dueOn_20 (by decide) ey_6 ?_
    refine jj_ldc2 (v := 100000) C dX2_dueOn_21 jw_177 ?_
    obtain ⟨y_7, ey_7⟩ : ∃ z : Int64, y_6 / (100000 : Int64) = z := ⟨_, rfl⟩
    refine jj_ldiv (v := y_7) C dX2_dueOn_24 (by decide) ey_7 ?_
    refine jj_goto (tgt := 29) C dX2_dueOn_25 (by decide) ?_
    exact jj_lret C ⟨[], pl0, rfl, rfl, hok, hfr, (Or.inr ⟨y_7, rfl⟩)⟩ dX2_dueOn_29 (jj_le rfl) (jj_le rfl)

set_option maxHeartbeats 4000000 in
set_option maxRecDepth 100000 in
theorem tc_X2_dueOn_2 {l : Launch} (hl : l.stackTraces = false) (D : va_G) (cA : Nat → ClassId) (ak : (Nat → Nat) × (Nat → Nat)) {Kd : Nat → Nat} (p0 : Int64) (p1 : Int64) (p3 : Int32) {pl0 : va_W} (hok : tt_ok tt_tk cA Kd pl0) : jj_M l D cA ak yX2_dueOn (.code yX2_dueOn cX2_dueOn 7 (some .long)) 0 0 0 0 ([] ++ pl0) [.long p0, .long p1, .long 1000000, .int p3] (tt_O (fun rx pl1 r => rx = [] ∧ tt_ok tt_tk cA Kd pl1 ∧ tt_fr Kd [] pl0 pl1 ∧ ((r = some (.long 0)) ∨ (∃ v : Int64, r = some (.long v))))) (tt_OX (fun _ _ _ => False)) := by
  refine jj_start hl (by decide) jw_174 (jj_le rfl) ?_
  intro p e s m args below meth c A hargs hA C hex hmn
  have hfr := tt_fr.refl (K := Kd) (WS := []) pl0
  have lp3 := tt_lo p3
  have up3 := tt_hi p3
  refine jj_lload C dX2_dueOn_0 rfl ?_
  refine jj_lload_n C dX2_dueOn_2 rfl ?_
  refine jj_lcmp_le (tgt := 28) C dX2_dueOn_3 dX2_dueOn_4 (by decide) (fun c_1 => ?_) (fun c_1 => ?_)
  · refine jj_lconst (v := 0) C dX2_dueOn_28 (by decide) ?_
    exact jj_lret C ⟨[], pl0, rfl, rfl, hok, hfr, (Or.inl rfl)⟩ dX2_dueOn_29 (jj_le rfl) (jj_le rfl)
  · refine jj_lload_n C dX2_dueOn_7 rfl ?_
    refine jj_lload C dX2_dueOn_8 rfl ?_
    refine jj_lload_n C dX2_dueOn_10 rfl ?_
    obtain ⟨y_2, ey_2⟩ : ∃ z : Int64, (1000000 : Int64) - p1 = z := ⟨_, rfl⟩
    refine jj_lsub (v := y_2) C dX2_dueOn_11 ey_2 ?_
    obtain ⟨y_3, ey_3⟩ : ∃ z : Int64, p0 * y_2 = z := ⟨_, rfl⟩
    refine jj_lmul (v := y_3) C dX2_dueOn_12 ey_3 ?_
    refine jj_iload C dX2_dueOn_13 rfl ?_
    obtain ⟨y_4, ey_4, vy_4⟩ := tt_i2l p3
    refine jj_i2l (v := y_4) C dX2_dueOn_15 ey_4 ?_
    obtain ⟨y_5, ey_5⟩ : ∃ z : Int64, y_3 * y_4 = z := ⟨_, rfl⟩
    refine jj_lmul (v := y_5) C dX2_dueOn_16 ey_5 ?_
    refine jj_ldc2 (v := 100) C dX2_dueOn_17 jw_176 ?_
    obtain ⟨y_6, ey_6⟩ : ∃ z : Int64, y_5 / (100 : Int64) = z := ⟨_, rfl⟩
    refine jj_ldiv (v := y_6) C dX2_dueOn_20 (by decide) ey_6 ?_
    refine jj_ldc2 (v := 100000) C dX2_dueOn_21 jw_177 ?_
    obtain ⟨y_7, ey_7⟩ : ∃ z : Int64, y_6 / (100000 : Int64) = z := ⟨_, rfl⟩
    refine jj_ldiv (v := y_7) C dX2_dueOn_24 (by decide) ey_7 ?_
    refine jj_goto (tgt := 29) C dX2_dueOn_25 (by decide) ?_
    exact jj_lret C ⟨[], pl0, rfl, rfl, hok, hfr, (Or.inr ⟨y_7, rfl⟩)⟩ dX2_dueOn_29 (jj_le rfl) (jj_le rfl)

set_option maxHeartbeats 4000000 in
set_option maxRecDepth 100000 in
theorem tc_X1_quote_1 {l : Launch} (hl : l.stackTraces = false) (D : va_G) (cA : Nat → ClassId) (ak : (Nat → Nat) × (Nat → Nat)) {Kd : Nat → Nat} (h0 : Nat) (h1 : Nat) (h2 : Nat) (h3 : Nat) (p4 : Int64) (hk0 : Kd h0 = 9) (hk1 : Kd h1 = 1) (hk2 : Kd h2 = 2) (hk3 : Kd h3 = 3) {pl0 : va_W} (hok : tt_ok tt_tk cA Kd pl0) : jj_M l D cA ak yX1_quote (.code yX1_quote cX1_quote 9 none) 1 26 0 0 ([] ++ pl0) [.ref h0, .ref h1, .ref h2, .ref h3, .long p4] (tt_O (fun rx pl1 r => rx = [] ∧ tt_ok tt_tk cA Kd pl1 ∧ tt_fr Kd [(9, 1), (9, 2), (9, 3), (9, 4), (9, 5)] pl0 pl1 ∧ ((r = none)))) (tt_OX (fun _ _ _ => False)) := by
  refine jj_start hl (by decide) jw_148 (jj_le rfl) ?_
  intro p e s m args below meth c A hargs hA C hex hmn
  have hfr := tt_fr.refl (K := Kd) (WS := [(9, 1), (9, 2), (9, 3), (9, 4), (9, 5)]) pl0
  refine jj_aload_n C dX1_quote_0 rfl ?_
  refine jj_aload_n C dX1_quote_1 rfl ?_
  refine tt_get C hok jk_2 3 (by decide) jw_149 (t := (0, (-2147483648), 2147483647)) hk1 (by decide) rfl rfl dX1_quote_2 (fun v_1 hv_1 hf_2 => ?_)
  obtain ⟨x_3, rfl, lx_3, ux_3⟩ := tt_vi hv_1
  obtain ⟨qc, gs, hqc⟩ := tt_recv (cx := []) hok hk2 (by decide) rfl
  refine tt_callV (rest := []) C (tc_X8_accruedFee_1 hl D cA ak h2 x_3 hk2 hok) [] [] rfl rfl (by decide) (by decide) (by decide) qc hqc rfl rfl jw_150 jw_154 jw_155 jw_92 jw_151 jn_X8_accruedFee rfl (jj_le rfl) (jj_le rfl) (jj_le rfl) (jj_le rfl) (jj_le rfl) dX1_quote_5 rfl (fun _ _ _ hX => hX.elim) (fun rx pl_4 r O_7 => ?_)
  obtain ⟨rfl, hok_5, hr_6, hR_9⟩ := O_7
  replace hf_2 := hr_6.at hk1 (by decide) (by decide) hf_2
  replace hfr := hfr.trans (hr_6.sub (by decide))
  rcases hR_9 with rfl | ⟨y_10, rfl⟩
  · refine jj_lstore C dX1_quote_8 (by decide) rfl ?_
    refine jj_aload_n C dX1_quote_10 rfl ?_
    refine tt_get C hok_5 jk_9 3 (by decide) jw_157 (t := (1, (-9223372036854775808), 9223372036854775807)) hk2 (by decide) rfl rfl dX1_quote_11 (fun v_11 hv_11 hf_12 => ?_)
    obtain ⟨y_13, rfl, -, -⟩ := tt_vj hv_11
    refine jj_lconst (v := 0) C dX1_quote_14 (by decide) ?_
    refine jj_lcmp_le (tgt := 32) C dX1_quote_15 dX1_quote_16 (by decide) (fun c_14 => ?_) (fun c_14 => ?_)
    · refine jj_iconst (v := 0) C dX1_quote_32 (by decide) ?_
      refine jj_istore C dX1_quote_33 (by decide) rfl ?_
      refine jj_aload_n C dX1_quote_35 rfl ?_
      refine jj_iload C dX1_quote_36 rfl ?_
      refine jj_if_eqT (tgt := 59) C dX1_quote_38 (by decide) (by decide) ?_
      refine jj_lconst (v := 0) C dX1_quote_59 (by decide) ?_
      refine tt_put C hok_5 jk_3 1 (by decide) jw_158 (t := (1, (-9223372036854775808), 9223372036854775807)) hk0 (by decide) rfl rfl rfl (tt_ja (0 : Int64)) rfl rfl dX1_quote_60 (fun pl_15 hok_16 tr hn => ?_)
      replace hf_2 := tr _ _ _ (Or.inl (tt_ne hk1 hk0 (by decide))) hf_2
      replace hf_12 := tr _ _ _ (Or.inl (tt_ne hk2 hk0 (by decide))) hf_12
      have hf_17 := hn
      replace hfr := hfr.put hk0 tr (by decide)
      refine jj_aload_n C dX1_quote_63 rfl ?_
      refine jj_iload C dX1_quote_64 rfl ?_
      refine jj_if_eqT (tgt := 82) C dX1_quote_66 (by decide) (by decide) ?_
      refine jj_lconst (v := 0) C dX1_quote_82 (by decide) ?_
      refine tt_put C hok_16 jk_3 2 (by decide) jw_159 (t := (1, (-9223372036854775808), 9223372036854775807)) hk0 (by decide) rfl rfl rfl (tt_ja (0 : Int64)) rfl rfl dX1_quote_83 (fun pl_18 hok_19 tr hn => ?_)
      replace hf_2 := tr _ _ _ (Or.inl (tt_ne hk1 hk0 (by decide))) hf_2
      replace hf_12 := tr _ _ _ (Or.inl (tt_ne hk2 hk0 (by decide))) hf_12
      replace hf_17 := tr _ _ _ (Or.inr (by decide)) hf_17
      have hf_20 := hn
      replace hfr := hfr.put hk0 tr (by decide)
      refine jj_aload_n C dX1_quote_86 rfl ?_
      refine jj_iload C dX1_quote_87 rfl ?_
      refine jj_if_eqT (tgt := 107) C dX1_quote_89 (by decide) (by decide) ?_
      refine jj_lconst (v := 0) C dX1_quote_107 (by decide) ?_
      refine tt_put C hok_19 jk_3 3 (by decide) jw_160 (t := (1, (-9223372036854775808), 9223372036854775807)) hk0 (by decide) rfl rfl rfl (tt_ja (0 : Int64)) rfl rfl dX1_quote_108 (fun pl_21 hok_22 tr hn => ?_)
      replace hf_2 := tr _ _ _ (Or.inl (tt_ne hk1 hk0 (by decide))) hf_2
      replace hf_12 := tr _ _ _ (Or.inl (tt_ne hk2 hk0 (by decide))) hf_12
      replace hf_17 := tr _ _ _ (Or.inr (by decide)) hf_17
      replace hf_20 := tr _ _ _ (Or.inr (by decide)) hf_20
      have hf_23 := hn
      replace hfr := hfr.put hk0 tr (by decide)
      refine jj_aload_n C dX1_quote_111 rfl ?_
      refine jj_aload_n C dX1_quote_112 rfl ?_
      refine tt_getF C hok_22 jk_3 2 (by decide) jw_159 (t := (1, (-9223372036854775808), 9223372036854775807)) hk0 (by decide) rfl rfl hf_20 dX1_quote_113 ?_
      refine jj_aload_n C dX1_quote_116 rfl ?_
      refine tt_getF C hok_22 jk_3 3 (by decide) jw_160 (t := (1, (-9223372036854775808), 9223372036854775807)) hk0 (by decide) rfl rfl hf_23 dX1_quote_117 ?_
      refine tt_call0S (rest := [.ref h0]) C (ct_J9_min_f86c9_2 hl D cA ak) jw_142 jw_145 jw_144 jw_143 jn_J9_min_f86c9 rfl (jj_le rfl) (jj_le rfl) (jj_le rfl) (jj_le rfl) (jj_le rfl) dX1_quote_120 rfl (fun w1 r O_24 => ?_)
      obtain ⟨-, rfl⟩ := O_24
      refine tt_put C hok_22 jk_3 4 (by decide) jw_161 (t := (1, (-9223372036854775808), 9223372036854775807)) hk0 (by decide) rfl rfl rfl (tt_ja (0 : Int64)) rfl rfl dX1_quote_123 (fun pl_25 hok_26 tr hn => ?_)
      replace hf_2 := tr _ _ _ (Or.inl (tt_ne hk1 hk0 (by decide))) hf_2
      replace hf_12 := tr _ _ _ (Or.inl (tt_ne hk2 hk0 (by decide))) hf_12
      replace hf_17 := tr _ _ _ (Or.inr (by decide)) hf_17
      replace hf_20 := tr _ _ _ (Or.inr (by decide)) hf_20
      replace hf_23 := tr _ _ _ (Or.inr (by decide)) hf_23
      have hf_27 := hn
      replace hfr := hfr.put hk0 tr (by decide)
      refine jj_aload_n C dX1_quote_126 rfl ?_
      refine jj_iload C dX1_quote_127 rfl ?_
      refine jj_if_eqT (tgt := 167) C dX1_quote_129 (by decide) (by decide) ?_
      refine jj_lconst (v := 0) C dX1_quote_167 (by decide) ?_
      refine tt_put C hok_26 jk_3 5 (by decide) jw_162 (t := (1, (-9223372036854775808), 9223372036854775807)) hk0 (by decide) rfl rfl rfl (tt_ja (0 : Int64)) rfl rfl dX1_quote_168 (fun pl_28 hok_29 tr hn => ?_)
      replace hf_2 := tr _ _ _ (Or.inl (tt_ne hk1 hk0 (by decide))) hf_2
      replace hf_12 := tr _ _ _ (Or.inl (tt_ne hk2 hk0 (by decide))) hf_12
      replace hf_17 := tr _ _ _ (Or.inr (by decide)) hf_17
      replace hf_20 := tr _ _ _ (Or.inr (by decide)) hf_20
      replace hf_23 := tr _ _ _ (Or.inr (by decide)) hf_23
      replace hf_27 := tr _ _ _ (Or.inr (by decide)) hf_27
      have hf_30 := hn
      replace hfr := hfr.put hk0 tr (by decide)
      exact jj_vret C ⟨[], pl_28, rfl, rfl, hok_29, hfr, rfl⟩ dX1_quote_171 (jj_le rfl) (jj_le rfl)
    · refine jj_aload_n C dX1_quote_19 rfl ?_
      refine tt_get C hok_5 jk_5 3 (by decide) jw_141 (t := (1, (-9223372036854775808), 9223372036854775807)) hk3 (by decide) rfl rfl dX1_quote_20 (fun v_31 hv_31 hf_32 => ?_)
      obtain ⟨y_33, rfl, -, -⟩ := tt_vj hv_31
      refine jj_lconst (v := 0) C dX1_quote_23 (by decide) ?_
      refine jj_lcmp_le (tgt := 32) C dX1_quote_24 dX1_quote_25 (by decide) (fun c_34 => ?_) (fun c_34 => ?_)
      · refine jj_iconst (v := 0) C dX1_quote_32 (by decide) ?_
        refine jj_istore C dX1_quote_33 (by decide) rfl ?_
        refine jj_aload_n C dX1_quote_35 rfl ?_
        refine jj_iload C dX1_quote_36 rfl ?_
        refine jj_if_eqT (tgt := 59) C dX1_quote_38 (by decide) (by decide) ?_
        refine jj_lconst (v := 0) C dX1_quote_59 (by decide) ?_
        refine tt_put C hok_5 jk_3 1 (by decide) jw_158 (t := (1, (-9223372036854775808), 9223372036854775807)) hk0 (by decide) rfl rfl rfl (tt_ja (0 : Int64)) rfl rfl dX1_quote_60 (fun pl_35 hok_36 tr hn => ?_)
        replace hf_2 := tr _ _ _ (Or.inl (tt_ne hk1 hk0 (by decide))) hf_2
        replace hf_12 := tr _ _ _ (Or.inl (tt_ne hk2 hk0 (by decide))) hf_12
        replace hf_32 := tr _ _ _ (Or.inl (tt_ne hk3 hk0 (by decide))) hf_32
        have hf_37 := hn
        replace hfr := hfr.put hk0 tr (by decide)
        refine jj_aload_n C dX1_quote_63 rfl ?_
        refine jj_iload C dX1_quote_64 rfl ?_
        refine jj_if_eqT (tgt := 82) C dX1_quote_66 (by decide) (by decide) ?_
        refine jj_lconst (v := 0) C dX1_quote_82 (by decide) ?_
        refine tt_put C hok_36 jk_3 2 (by decide) jw_159 (t := (1, (-9223372036854775808), 9223372036854775807)) hk0 (by decide) rfl rfl rfl (tt_ja (0 : Int64)) rfl rfl dX1_quote_83 (fun pl_38 hok_39 tr hn => ?_)
        replace hf_2 := tr _ _ _ (Or.inl (tt_ne hk1 hk0 (by decide))) hf_2
        replace hf_12 := tr _ _ _ (Or.inl (tt_ne hk2 hk0 (by decide))) hf_12
        replace hf_32 := tr _ _ _ (Or.inl (tt_ne hk3 hk0 (by decide))) hf_32
        replace hf_37 := tr _ _ _ (Or.inr (by decide)) hf_37
        have hf_40 := hn
        replace hfr := hfr.put hk0 tr (by decide)
        refine jj_aload_n C dX1_quote_86 rfl ?_
        refine jj_iload C dX1_quote_87 rfl ?_
        refine jj_if_eqT (tgt := 107) C dX1_quote_89 (by decide) (by decide) ?_
        refine jj_lconst (v := 0) C dX1_quote_107 (by decide) ?_
        refine tt_put C hok_39 jk_3 3 (by decide) jw_160 (t := (1, (-9223372036854775808), 9223372036854775807)) hk0 (by decide) rfl rfl rfl (tt_ja (0 : Int64)) rfl rfl dX1_quote_108 (fun pl_41 hok_42 tr hn => ?_)
        replace hf_2 := tr _ _ _ (Or.inl (tt_ne hk1 hk0 (by decide))) hf_2
        replace hf_12 := tr _ _ _ (Or.inl (tt_ne hk2 hk0 (by decide))) hf_12
        replace hf_32 := tr _ _ _ (Or.inl (tt_ne hk3 hk0 (by decide))) hf_32
        replace hf_37 := tr _ _ _ (Or.inr (by decide)) hf_37
        replace hf_40 := tr _ _ _ (Or.inr (by decide)) hf_40
        have hf_43 := hn
        replace hfr := hfr.put hk0 tr (by decide)
        refine jj_aload_n C dX1_quote_111 rfl ?_
        refine jj_aload_n C dX1_quote_112 rfl ?_
        refine tt_getF C hok_42 jk_3 2 (by decide) jw_159 (t := (1, (-9223372036854775808), 9223372036854775807)) hk0 (by decide) rfl rfl hf_40 dX1_quote_113 ?_
        refine jj_aload_n C dX1_quote_116 rfl ?_
        refine tt_getF C hok_42 jk_3 3 (by decide) jw_160 (t := (1, (-9223372036854775808), 9223372036854775807)) hk0 (by decide) rfl rfl hf_43 dX1_quote_117 ?_
        refine tt_call0S (rest := [.ref h0]) C (ct_J9_min_f86c9_2 hl D cA ak) jw_142 jw_145 jw_144 jw_143 jn_J9_min_f86c9 rfl (jj_le rfl) (jj_le rfl) (jj_le rfl) (jj_le rfl) (jj_le rfl) dX1_quote_120 rfl (fun w1 r O_44 => ?_)
        obtain ⟨-, rfl⟩ := O_44
        refine tt_put C hok_42 jk_3 4 (by decide) jw_161 (t := (1, (-9223372036854775808), 9223372036854775807)) hk0 (by decide) rfl rfl rfl (tt_ja (0 : Int64)) rfl rfl dX1_quote_123 (fun pl_45 hok_46 tr hn => ?_)
        replace hf_2 := tr _ _ _ (Or.inl (tt_ne hk1 hk0 (by decide))) hf_2
        replace hf_12 := tr _ _ _ (Or.inl (tt_ne hk2 hk0 (by decide))) hf_12
        replace hf_32 := tr _ _ _ (Or.inl (tt_ne hk3 hk0 (by decide))) hf_32
        replace hf_37 := tr _ _ _ (Or.inr (by decide)) hf_37
        replace hf_40 := tr _ _ _ (Or.inr (by decide)) hf_40
        replace hf_43 := tr _ _ _ (Or.inr (by decide)) hf_43
        have hf_47 := hn
        replace hfr := hfr.put hk0 tr (by decide)
        refine jj_aload_n C dX1_quote_126 rfl ?_
        refine jj_iload C dX1_quote_127 rfl ?_
        refine jj_if_eqT (tgt := 167) C dX1_quote_129 (by decide) (by decide) ?_
        refine jj_lconst (v := 0) C dX1_quote_167 (by decide) ?_
        refine tt_put C hok_46 jk_3 5 (by decide) jw_162 (t := (1, (-9223372036854775808), 9223372036854775807)) hk0 (by decide) rfl rfl rfl (tt_ja (0 : Int64)) rfl rfl dX1_quote_168 (fun pl_48 hok_49 tr hn => ?_)
        replace hf_2 := tr _ _ _ (Or.inl (tt_ne hk1 hk0 (by decide))) hf_2
        replace hf_12 := tr _ _ _ (Or.inl (tt_ne hk2 hk0 (by decide))) hf_12
        replace hf_32 := tr _ _ _ (Or.inl (tt_ne hk3 hk0 (by decide))) hf_32
        replace hf_37 := tr _ _ _ (Or.inr (by decide)) hf_37
        replace hf_40 := tr _ _ _ (Or.inr (by decide)) hf_40
        replace hf_43 := tr _ _ _ (Or.inr (by decide)) hf_43
        replace hf_47 := tr _ _ _ (Or.inr (by decide)) hf_47
        have hf_50 := hn
        replace hfr := hfr.put hk0 tr (by decide)
        exact jj_vret C ⟨[], pl_48, rfl, rfl, hok_49, hfr, rfl⟩ dX1_quote_171 (jj_le rfl) (jj_le rfl)
      · refine jj_iconst (v := 1) C dX1_quote_28 (by decide) ?_
        refine jj_goto (tgt := 33) C dX1_quote_29 (by decide) ?_
        refine jj_istore C dX1_quote_33 (by decide) rfl ?_
        refine jj_aload_n C dX1_quote_35 rfl ?_
        refine jj_iload C dX1_quote_36 rfl ?_
        refine jj_if_eqF (tgt := 59) C dX1_quote_38 (by decide) (by decide) ?_
        refine jj_aload_n C dX1_quote_41 rfl ?_
        refine tt_get C hok_5 jk_9 2 (by decide) jw_113 (t := (1, (-9223372036854775808), 9223372036854775807)) hk2 (by decide) rfl rfl dX1_quote_42 (fun v_51 hv_51 hf_52 => ?_)
        obtain ⟨y_53, rfl, -, -⟩ := tt_vj hv_51
        refine jj_lload C dX1_quote_45 rfl ?_
        obtain ⟨y_54, ey_54⟩ : ∃ z : Int64, y_53 - (0 : Int64) = z := ⟨_, rfl⟩
        refine jj_lsub (v := y_54) C dX1_quote_47 ey_54 ?_
        refine jj_lload C dX1_quote_48 rfl ?_
        obtain ⟨y_55, ey_55⟩ : ∃ z : Int64, y_54 * p4 = z := ⟨_, rfl⟩
        refine jj_lmul (v := y_55) C dX1_quote_50 ey_55 ?_
        refine jj_aload_n C dX1_quote_51 rfl ?_
        refine tt_getF C hok_5 jk_9 3 (by decide) jw_157 (t := (1, (-9223372036854775808), 9223372036854775807)) hk2 (by decide) rfl rfl hf_12 dX1_quote_52 ?_
        obtain ⟨y_56, ey_56⟩ : ∃ z : Int64, y_55 / y_13 = z := ⟨_, rfl⟩
        refine jj_ldiv (v := y_56) C dX1_quote_55 (jt_nzpL (by first | exact Int64.not_le.mp c_14 | exact Int32.not_le.mp c_14)) ey_56 ?_
        refine jj_goto (tgt := 60) C dX1_quote_56 (by decide) ?_
        refine tt_put C hok_5 jk_3 1 (by decide) jw_158 (t := (1, (-9223372036854775808), 9223372036854775807)) hk0 (by decide) rfl rfl rfl (tt_ja y_56) rfl rfl dX1_quote_60 (fun pl_57 hok_58 tr hn => ?_)
        replace hf_2 := tr _ _ _ (Or.inl (tt_ne hk1 hk0 (by decide))) hf_2
        replace hf_12 := tr _ _ _ (Or.inl (tt_ne hk2 hk0 (by decide))) hf_12
        replace hf_32 := tr _ _ _ (Or.inl (tt_ne hk3 hk0 (by decide))) hf_32
        replace hf_52 := tr _ _ _ (Or.inl (tt_ne hk2 hk0 (by decide))) hf_52
        have hf_59 := hn
        replace hfr := hfr.put hk0 tr (by decide)
        refine jj_aload_n C dX1_quote_63 rfl ?_
        refine jj_iload C dX1_quote_64 rfl ?_
        refine jj_if_eqF (tgt := 82) C dX1_quote_66 (by decide) (by decide) ?_
        refine jj_lload C dX1_quote_69 rfl ?_
        refine jj_lload C dX1_quote_71 rfl ?_
        obtain ⟨y_60, ey_60⟩ : ∃ z : Int64, (0 : Int64) * p4 = z := ⟨_, rfl⟩
        refine jj_lmul (v := y_60) C dX1_quote_73 ey_60 ?_
        refine jj_aload_n C dX1_quote_74 rfl ?_
        refine tt_getF C hok_58 jk_9 3 (by decide) jw_157 (t := (1, (-9223372036854775808), 9223372036854775807)) hk2 (by decide) rfl rfl hf_12 dX1_quote_75 ?_
        obtain ⟨y_61, ey_61⟩ : ∃ z : Int64, y_60 / y_13 = z := ⟨_, rfl⟩
        refine jj_ldiv (v := y_61) C dX1_quote_78 (jt_nzpL (by first | exact Int64.not_le.mp c_14 | exact Int32.not_le.mp c_14)) ey_61 ?_
        refine jj_goto (tgt := 83) C dX1_quote_79 (by decide) ?_
        refine tt_put C hok_58 jk_3 2 (by decide) jw_159 (t := (1, (-9223372036854775808), 9223372036854775807)) hk0 (by decide) rfl rfl rfl (tt_ja y_61) rfl rfl dX1_quote_83 (fun pl_62 hok_63 tr hn => ?_)
        replace hf_2 := tr _ _ _ (Or.inl (tt_ne hk1 hk0 (by decide))) hf_2
        replace hf_12 := tr _ _ _ (Or.inl (tt_ne hk2 hk0 (by decide))) hf_12
        replace hf_32 := tr _ _ _ (Or.inl (tt_ne hk3 hk0 (by decide))) hf_32
        replace hf_52 := tr _ _ _ (Or.inl (tt_ne hk2 hk0 (by decide))) hf_52
        replace hf_59 := tr _ _ _ (Or.inr (by decide)) hf_59
        have hf_64 := hn
        replace hfr := hfr.put hk0 tr (by decide)
        refine jj_aload_n C dX1_quote_86 rfl ?_
        refine jj_iload C dX1_quote_87 rfl ?_
        refine jj_if_eqF (tgt := 107) C dX1_quote_89 (by decide) (by decide) ?_
        refine jj_aload_n C dX1_quote_92 rfl ?_
        refine tt_get C hok_63 jk_5 5 (by decide) jw_163 (t := (1, (-9223372036854775808), 9223372036854775807)) hk3 (by decide) rfl rfl dX1_quote_93 (fun v_65 hv_65 hf_66 => ?_)
        obtain ⟨y_67, rfl, -, -⟩ := tt_vj hv_65
        refine jj_lload C dX1_quote_96 rfl ?_
        obtain ⟨y_68, ey_68⟩ : ∃ z : Int64, y_67 * p4 = z := ⟨_, rfl⟩
        refine jj_lmul (v := y_68) C dX1_quote_98 ey_68 ?_
        refine jj_aload_n C dX1_quote_99 rfl ?_
        refine tt_getF C hok_63 jk_5 3 (by decide) jw_141 (t := (1, (-9223372036854775808), 9223372036854775807)) hk3 (by decide) rfl rfl hf_32 dX1_quote_100 ?_
        obtain ⟨y_69, ey_69⟩ : ∃ z : Int64, y_68 / y_33 = z := ⟨_, rfl⟩
        refine jj_ldiv (v := y_69) C dX1_quote_103 (jt_nzpL (by first | exact Int64.not_le.mp c_34 | exact Int32.not_le.mp c_34)) ey_69 ?_
        refine jj_goto (tgt := 108) C dX1_quote_104 (by decide) ?_
        refine tt_put C hok_63 jk_3 3 (by decide) jw_160 (t := (1, (-9223372036854775808), 9223372036854775807)) hk0 (by decide) rfl rfl rfl (tt_ja y_69) rfl rfl dX1_quote_108 (fun pl_70 hok_71 tr hn => ?_)
        replace hf_2 := tr _ _ _ (Or.inl (tt_ne hk1 hk0 (by decide))) hf_2
        replace hf_12 := tr _ _ _ (Or.inl (tt_ne hk2 hk0 (by decide))) hf_12
        replace hf_32 := tr _ _ _ (Or.inl (tt_ne hk3 hk0 (by decide))) hf_32
        replace hf_52 := tr _ _ _ (Or.inl (tt_ne hk2 hk0 (by decide))) hf_52
        replace hf_59 := tr _ _ _ (Or.inr (by decide)) hf_59
        replace hf_64 := tr _ _ _ (Or.inr (by decide)) hf_64
        replace hf_66 := tr _ _ _ (Or.inl (tt_ne hk3 hk0 (by decide))) hf_66
        have hf_72 := hn
        replace hfr := hfr.put hk0 tr (by decide)
        refine jj_aload_n C dX1_quote_111 rfl ?_
        refine jj_aload_n C dX1_quote_112 rfl ?_
        refine tt_getF C hok_71 jk_3 2 (by decide) jw_159 (t := (1, (-9223372036854775808), 9223372036854775807)) hk0 (by decide) rfl rfl hf_64 dX1_quote_113 ?_
        refine jj_aload_n C dX1_quote_116 rfl ?_
        refine tt_getF C hok_71 jk_3 3 (by decide) jw_160 (t := (1, (-9223372036854775808), 9223372036854775807)) hk0 (by decide) rfl rfl hf_72 dX1_quote_117 ?_
        refine tt_call0S (rest := [.ref h0]) C (ct_J9_min_f86c9_1 hl D cA ak y_61 y_69) jw_142 jw_145 jw_144 jw_143 jn_J9_min_f86c9 rfl (jj_le rfl) (jj_le rfl) (jj_le rfl) (jj_le rfl) (jj_le rfl) dX1_quote_120 rfl (fun w1 r O_73 => ?_)
        rcases O_73 with ⟨c_74, -, rfl⟩ | ⟨c_75, -, rfl⟩
        · refine tt_put C hok_71 jk_3 4 (by decide) jw_161 (t := (1, (-9223372036854775808), 9223372036854775807)) hk0 (by decide) rfl rfl rfl (tt_ja y_69) rfl rfl dX1_quote_123 (fun pl_76 hok_77 tr hn => ?_)
          replace hf_2 := tr _ _ _ (Or.inl (tt_ne hk1 hk0 (by decide))) hf_2
          replace hf_12 := tr _ _ _ (Or.inl (tt_ne hk2 hk0 (by decide))) hf_12
          replace hf_32 := tr _ _ _ (Or.inl (tt_ne hk3 hk0 (by decide))) hf_32
          replace hf_52 := tr _ _ _ (Or.inl (tt_ne hk2 hk0 (by decide))) hf_52
          replace hf_59 := tr _ _ _ (Or.inr (by decide)) hf_59
          replace hf_64 := tr _ _ _ (Or.inr (by decide)) hf_64
          replace hf_66 := tr _ _ _ (Or.inl (tt_ne hk3 hk0 (by decide))) hf_66
          replace hf_72 := tr _ _ _ (Or.inr (by decide)) hf_72
          have hf_78 := hn
          replace hfr := hfr.put hk0 tr (by decide)
          refine jj_aload_n C dX1_quote_126 rfl ?_
          refine jj_iload C dX1_quote_127 rfl ?_
          refine jj_if_eqF (tgt := 167) C dX1_quote_129 (by decide) (by decide) ?_
          refine jj_aload_n C dX1_quote_132 rfl ?_
          refine tt_get C hok_77 jk_2 1 (by decide) jw_164 (t := (0, (-2147483648), 2147483647)) hk1 (by decide) rfl rfl dX1_quote_133 (fun v_79 hv_79 hf_80 => ?_)
          obtain ⟨x_81, rfl, lx_81, ux_81⟩ := tt_vi hv_79
          refine jj_iconst (v := 1) C dX1_quote_136 (by decide) ?_
          refine jj_icmp_ne (tgt := 167) C dX1_quote_137 (by decide) (fun c_82 => ?_) (fun c_82 => ?_)
          · have z_c_82 := jc_neq (a := (x_81).toInt) (b := (1)) c_82 rfl (by decide)
            refine jj_lconst (v := 0) C dX1_quote_167 (by decide) ?_
            refine tt_put C hok_77 jk_3 5 (by decide) jw_162 (t := (1, (-9223372036854775808), 9223372036854775807)) hk0 (by decide) rfl rfl rfl (tt_ja (0 : Int64)) rfl rfl dX1_quote_168 (fun pl_83 hok_84 tr hn => ?_)
            replace hf_2 := tr _ _ _ (Or.inl (tt_ne hk1 hk0 (by decide))) hf_2
            replace hf_12 := tr _ _ _ (Or.inl (tt_ne hk2 hk0 (by decide))) hf_12
            replace hf_32 := tr _ _ _ (Or.inl (tt_ne hk3 hk0 (by decide))) hf_32
            replace hf_52 := tr _ _ _ (Or.inl (tt_ne hk2 hk0 (by decide))) hf_52
            replace hf_59 := tr _ _ _ (Or.inr (by decide)) hf_59
            replace hf_64 := tr _ _ _ (Or.inr (by decide)) hf_64
            replace hf_66 := tr _ _ _ (Or.inl (tt_ne hk3 hk0 (by decide))) hf_66
            replace hf_72 := tr _ _ _ (Or.inr (by decide)) hf_72
            replace hf_78 := tr _ _ _ (Or.inr (by decide)) hf_78
            replace hf_80 := tr _ _ _ (Or.inl (tt_ne hk1 hk0 (by decide))) hf_80
            have hf_85 := hn
            replace hfr := hfr.put hk0 tr (by decide)
            exact jj_vret C ⟨[], pl_83, rfl, rfl, hok_84, hfr, rfl⟩ dX1_quote_171 (jj_le rfl) (jj_le rfl)
          · have z_c_82 := jc_eq (a := (x_81).toInt) (b := (1)) c_82 rfl (by decide)
            refine jj_lload C dX1_quote_140 rfl ?_
            refine jj_aload_n C dX1_quote_142 rfl ?_
            refine tt_get C hok_77 jk_5 4 (by decide) jw_165 (t := (1, (-9223372036854775808), 9223372036854775807)) hk3 (by decide) rfl rfl dX1_quote_143 (fun v_86 hv_86 hf_87 => ?_)
            obtain ⟨y_88, rfl, -, -⟩ := tt_vj hv_86
            refine jj_aload_n C dX1_quote_146 rfl ?_
            obtain ⟨qc, gs, hqc⟩ := tt_recv (cx := []) hok_77 hk2 (by decide) rfl
            refine tt_callV (rest := [.long y_88, .long p4, .ref h0]) C (tc_X8_grossPrice_1 hl D cA ak h2 hk2 hok_77) [] [] rfl rfl (by decide) (by decide) (by decide) qc hqc rfl rfl jw_166 jw_169 jw_170 jw_92 jw_167 jn_X8_grossPrice rfl (jj_le rfl) (jj_le rfl) (jj_le rfl) (jj_le rfl) (jj_le rfl) dX1_quote_147 rfl (fun _ _ _ hX => hX.elim) (fun rx pl_89 r O_92 => ?_)
            obtain ⟨rfl, hok_90, hr_91, hR_94⟩ := O_92
            replace hf_2 := hr_91.at hk1 (by decide) (by decide) hf_2
            replace hf_12 := hr_91.at hk2 (by decide) (by decide) hf_12
            replace hf_32 := hr_91.at hk3 (by decide) (by decide) hf_32
            replace hf_52 := hr_91.at hk2 (by decide) (by decide) hf_52
            replace hf_59 := hr_91.at hk0 (by decide) (by decide) hf_59
            replace hf_64 := hr_91.at hk0 (by decide) (by decide) hf_64
            replace hf_66 := hr_91.at hk3 (by decide) (by decide) hf_66
            replace hf_72 := hr_91.at hk0 (by decide) (by decide) hf_72
            replace hf_78 := hr_91.at hk0 (by decide) (by decide) hf_78
            replace hf_80 := hr_91.at hk1 (by decide) (by decide) hf_80
            replace hf_87 := hr_91.at hk3 (by decide) (by decide) hf_87
            replace hfr := hfr.trans (hr_91.sub (by decide))
            rcases hR_94 with rfl | ⟨y_95, rfl⟩
            · refine jj_aload_n C dX1_quote_150 rfl ?_
              refine tt_get C hok_90 jk_9 4 (by decide) jw_172 (t := (1, (-9223372036854775808), 9223372036854775807)) hk2 (by decide) rfl rfl dX1_quote_151 (fun v_96 hv_96 hf_97 => ?_)
              obtain ⟨y_98, rfl, -, -⟩ := tt_vj hv_96
              refine tt_call0S (rest := [.long y_88, .long p4, .ref h0]) C (ct_J9_min_f86c9_3 hl D cA ak y_98) jw_142 jw_145 jw_144 jw_143 jn_J9_min_f86c9 rfl (jj_le rfl) (jj_le rfl) (jj_le rfl) (jj_le rfl) (jj_le rfl) dX1_quote_154 rfl (fun w1 r O_99 => ?_)
              rcases O_99 with ⟨c_100, -, rfl⟩ | ⟨c_101, -, rfl⟩
              · refine jj_aload_n C dX1_quote_157 rfl ?_
                refine tt_getF C hok_90 jk_2 3 (by decide) jw_149 (t := (0, (-2147483648), 2147483647)) hk1 (by decide) rfl rfl hf_2 dX1_quote_158 ?_
                refine tt_callS (rest := [.ref h0]) C (tc_X2_dueOn_1 hl D cA ak p4 y_88 y_98 x_3 hok_90) [] [] rfl rfl (by decide) (by decide) (by decide) jw_173 jw_178 jw_175 jw_174 jn_X2_dueOn rfl (jj_le rfl) (jj_le rfl) (jj_le rfl) (jj_le rfl) (jj_le rfl) dX1_quote_161 rfl (fun _ _ _ hX => hX.elim) (fun rx pl_102 r O_105 => ?_)
                obtain ⟨rfl, hok_103, hr_104, hR_107⟩ := O_105
                replace hf_2 := hr_104.at hk1 (by decide) (by decide) hf_2
                replace hf_12 := hr_104.at hk2 (by decide) (by decide) hf_12
                replace hf_32 := hr_104.at hk3 (by decide) (by decide) hf_32
                replace hf_52 := hr_104.at hk2 (by decide) (by decide) hf_52
                replace hf_59 := hr_104.at hk0 (by decide) (by decide) hf_59
                replace hf_64 := hr_104.at hk0 (by decide) (by decide) hf_64
                replace hf_66 := hr_104.at hk3 (by decide) (by decide) hf_66
                replace hf_72 := hr_104.at hk0 (by decide) (by decide) hf_72
                replace hf_78 := hr_104.at hk0 (by decide) (by decide) hf_78
                replace hf_80 := hr_104.at hk1 (by decide) (by decide) hf_80
                replace hf_87 := hr_104.at hk3 (by decide) (by decide) hf_87
                replace hf_97 := hr_104.at hk2 (by decide) (by decide) hf_97
                replace hfr := hfr.trans (hr_104.sub (by decide))
                rcases hR_107 with rfl | ⟨y_108, rfl⟩
                · refine jj_goto (tgt := 168) C dX1_quote_164 (by decide) ?_
                  refine tt_put C hok_103 jk_3 5 (by decide) jw_162 (t := (1, (-9223372036854775808), 9223372036854775807)) hk0 (by decide) rfl rfl rfl (tt_ja (0 : Int64)) rfl rfl dX1_quote_168 (fun pl_109 hok_110 tr hn => ?_)
                  replace hf_2 := tr _ _ _ (Or.inl (tt_ne hk1 hk0 (by decide))) hf_2
                  replace hf_12 := tr _ _ _ (Or.inl (tt_ne hk2 hk0 (by decide))) hf_12
                  replace hf_32 := tr _ _ _ (Or.inl (tt_ne hk3 hk0 (by decide))) hf_32
                  replace hf_52 := tr _ _ _ (Or.inl (tt_ne hk2 hk0 (by decide))) hf_52
                  replace hf_59 := tr _ _ _ (Or.inr (by decide)) hf_59
                  replace hf_64 := tr _ _ _ (Or.inr (by decide)) hf_64
                  replace hf_66 := tr _ _ _ (Or.inl (tt_ne hk3 hk0 (by decide))) hf_66
                  replace hf_72 := tr _ _ _ (Or.inr (by decide)) hf_72
                  replace hf_78 := tr _ _ _ (Or.inr (by decide)) hf_78
                  replace hf_80 := tr _ _ _ (Or.inl (tt_ne hk1 hk0 (by decide))) hf_80
                  replace hf_87 := tr _ _ _ (Or.inl (tt_ne hk3 hk0 (by decide))) hf_87
                  replace hf_97 := tr _ _ _ (Or.inl (tt_ne hk2 hk0 (by decide))) hf_97
                  have hf_111 := hn
                  replace hfr := hfr.put hk0 tr (by decide)
                  exact jj_vret C ⟨[], pl_109, rfl, rfl, hok_110, hfr, rfl⟩ dX1_quote_171 (jj_le rfl) (jj_le rfl)
                · refine jj_goto (tgt := 168) C dX1_quote_164 (by decide) ?_
                  refine tt_put C hok_103 jk_3 5 (by decide) jw_162 (t := (1, (-9223372036854775808), 9223372036854775807)) hk0 (by decide) rfl rfl rfl (tt_ja y_108) rfl rfl dX1_quote_168 (fun pl_112 hok_113 tr hn => ?_)
                  replace hf_2 := tr _ _ _ (Or.inl (tt_ne hk1 hk0 (by decide))) hf_2
                  replace hf_12 := tr _ _ _ (Or.inl (tt_ne hk2 hk0 (by decide))) hf_12
                  replace hf_32 := tr _ _ _ (Or.inl (tt_ne hk3 hk0 (by decide))) hf_32
                  replace hf_52 := tr _ _ _ (Or.inl (tt_ne hk2 hk0 (by decide))) hf_52
                  replace hf_59 := tr _ _ _ (Or.inr (by decide)) hf_59
                  replace hf_64 := tr _ _ _ (Or.inr (by decide)) hf_64
                  replace hf_66 := tr _ _ _ (Or.inl (tt_ne hk3 hk0 (by decide))) hf_66
                  replace hf_72 := tr _ _ _ (Or.inr (by decide)) hf_72
                  replace hf_78 := tr _ _ _ (Or.inr (by decide)) hf_78
                  replace hf_80 := tr _ _ _ (Or.inl (tt_ne hk1 hk0 (by decide))) hf_80
                  replace hf_87 := tr _ _ _ (Or.inl (tt_ne hk3 hk0 (by decide))) hf_87
                  replace hf_97 := tr _ _ _ (Or.inl (tt_ne hk2 hk0 (by decide))) hf_97
                  have hf_114 := hn
                  replace hfr := hfr.put hk0 tr (by decide)
                  exact jj_vret C ⟨[], pl_112, rfl, rfl, hok_113, hfr, rfl⟩ dX1_quote_171 (jj_le rfl) (jj_le rfl)
              · refine jj_aload_n C dX1_quote_157 rfl ?_
                refine tt_getF C hok_90 jk_2 3 (by decide) jw_149 (t := (0, (-2147483648), 2147483647)) hk1 (by decide) rfl rfl hf_2 dX1_quote_158 ?_
                refine tt_callS (rest := [.ref h0]) C (tc_X2_dueOn_2 hl D cA ak p4 y_88 x_3 hok_90) [] [] rfl rfl (by decide) (by decide) (by decide) jw_173 jw_178 jw_175 jw_174 jn_X2_dueOn rfl (jj_le rfl) (jj_le rfl) (jj_le rfl) (jj_le rfl) (jj_le rfl) dX1_quote_161 rfl (fun _ _ _ hX => hX.elim) (fun rx pl_115 r O_118 => ?_)
                obtain ⟨rfl, hok_116, hr_117, hR_120⟩ := O_118
                replace hf_2 := hr_117.at hk1 (by decide) (by decide) hf_2
                replace hf_12 := hr_117.at hk2 (by decide) (by decide) hf_12
                replace hf_32 := hr_117.at hk3 (by decide) (by decide) hf_32
                replace hf_52 := hr_117.at hk2 (by decide) (by decide) hf_52
                replace hf_59 := hr_117.at hk0 (by decide) (by decide) hf_59
                replace hf_64 := hr_117.at hk0 (by decide) (by decide) hf_64
                replace hf_66 := hr_117.at hk3 (by decide) (by decide) hf_66
                replace hf_72 := hr_117.at hk0 (by decide) (by decide) hf_72
                replace hf_78 := hr_117.at hk0 (by decide) (by decide) hf_78
                replace hf_80 := hr_117.at hk1 (by decide) (by decide) hf_80
                replace hf_87 := hr_117.at hk3 (by decide) (by decide) hf_87
                replace hf_97 := hr_117.at hk2 (by decide) (by decide) hf_97
                replace hfr := hfr.trans (hr_117.sub (by decide))
                rcases hR_120 with rfl | ⟨y_121, rfl⟩
                · refine jj_goto (tgt := 168) C dX1_quote_164 (by decide) ?_
                  refine tt_put C hok_116 jk_3 5 (by decide) jw_162 (t := (1, (-9223372036854775808), 9223372036854775807)) hk0 (by decide) rfl rfl rfl (tt_ja (0 : Int64)) rfl rfl dX1_quote_168 (fun pl_122 hok_123 tr hn => ?_)
                  replace hf_2 := tr _ _ _ (Or.inl (tt_ne hk1 hk0 (by decide))) hf_2
                  replace hf_12 := tr _ _ _ (Or.inl (tt_ne hk2 hk0 (by decide))) hf_12
                  replace hf_32 := tr _ _ _ (Or.inl (tt_ne hk3 hk0 (by decide))) hf_32
                  replace hf_52 := tr _ _ _ (Or.inl (tt_ne hk2 hk0 (by decide))) hf_52
                  replace hf_59 := tr _ _ _ (Or.inr (by decide)) hf_59
                  replace hf_64 := tr _ _ _ (Or.inr (by decide)) hf_64
                  replace hf_66 := tr _ _ _ (Or.inl (tt_ne hk3 hk0 (by decide))) hf_66
                  replace hf_72 := tr _ _ _ (Or.inr (by decide)) hf_72
                  replace hf_78 := tr _ _ _ (Or.inr (by decide)) hf_78
                  replace hf_80 := tr _ _ _ (Or.inl (tt_ne hk1 hk0 (by decide))) hf_80
                  replace hf_87 := tr _ _ _ (Or.inl (tt_ne hk3 hk0 (by decide))) hf_87
                  replace hf_97 := tr _ _ _ (Or.inl (tt_ne hk2 hk0 (by decide))) hf_97
                  have hf_124 := hn
                  replace hfr := hfr.put hk0 tr (by decide)
                  exact jj_vret C ⟨[], pl_122, rfl, rfl, hok_123, hfr, rfl⟩ dX1_quote_171 (jj_le rfl) (jj_le rfl)
                · refine jj_goto (tgt := 168) C dX1_quote_164 (by decide) ?_
                  refine tt_put C hok_116 jk_3 5 (by decide) jw_162 (t := (1, (-9223372036854775808), 9223372036854775807)) hk0 (by decide) rfl rfl rfl (tt_ja y_121) rfl rfl dX1_quote_168 (fun pl_125 hok_126 tr hn => ?_)
                  replace hf_2 := tr _ _ _ (Or.inl (tt_ne hk1 hk0 (by decide))) hf_2
                  replace hf_12 := tr _ _ _ (Or.inl (tt_ne hk2 hk0 (by decide))) hf_12
                  replace hf_32 := tr _ _ _ (Or.inl (tt_ne hk3 hk0 (by decide))) hf_32
                  replace hf_52 := tr _ _ _ (Or.inl (tt_ne hk2 hk0 (by decide))) hf_52
                  replace hf_59 := tr _ _ _ (Or.inr (by decide)) hf_59
                  replace hf_64 := tr _ _ _ (Or.inr (by decide)) hf_64
                  replace hf_66 := tr _ _ _ (Or.inl (tt_ne hk3 hk0 (by decide))) hf_66
                  replace hf_72 := tr _ _ _ (Or.inr (by decide)) hf_72
                  replace hf_78 := tr _ _ _ (Or.inr (by decide)) hf_78
                  replace hf_80 := tr _ _ _ (Or.inl (tt_ne hk1 hk0 (by decide))) hf_80
                  replace hf_87 := tr _ _ _ (Or.inl (tt_ne hk3 hk0 (by decide))) hf_87
                  replace hf_97 := tr _ _ _ (Or.inl (tt_ne hk2 hk0 (by decide))) hf_97
                  have hf_127 := hn
                  replace hfr := hfr.put hk0 tr (by decide)
                  exact jj_vret C ⟨[], pl_125, rfl, rfl, hok_126, hfr, rfl⟩ dX1_quote_171 (jj_le rfl) (jj_le rfl)
            · refine jj_aload_n C dX1_quote_150 rfl ?_
              refine tt_get C hok_90 jk_9 4 (by decide) jw_172 (t := (1, (-9223372036854775808), 9223372036854775807)) hk2 (by decide) rfl rfl dX1_quote_151 (fun v_128 hv_128 hf_129 => ?_)
              obtain ⟨y_130, rfl, -, -⟩ := tt_vj hv_128
              refine tt_call0S (rest := [.long y_88, .long p4, .ref h0]) C (ct_J9_min_f86c9_1 hl D cA ak y_95 y_130) jw_142 jw_145 jw_144 jw_143 jn_J9_min_f86c9 rfl (jj_le rfl) (jj_le rfl) (jj_le rfl) (jj_le rfl) (jj_le rfl) dX1_quote_154 rfl (fun w1 r O_131 => ?_)
              rcases O_131 with ⟨c_132, -, rfl⟩ | ⟨c_133, -, rfl⟩
              · refine jj_aload_n C dX1_quote_157 rfl ?_
                refine tt_getF C hok_90 jk_2 3 (by decide) jw_149 (t := (0, (-2147483648), 2147483647)) hk1 (by decide) rfl rfl hf_2 dX1_quote_158 ?_
                refine tt_callS (rest := [.ref h0]) C (tc_X2_dueOn_1 hl D cA ak p4 y_88 y_130 x_3 hok_90) [] [] rfl rfl (by decide) (by decide) (by decide) jw_173 jw_178 jw_175 jw_174 jn_X2_dueOn rfl (jj_le rfl) (jj_le rfl) (jj_le rfl) (jj_le rfl) (jj_le rfl) dX1_quote_161 rfl (fun _ _ _ hX => hX.elim) (fun rx pl_134 r O_137 => ?_)
                obtain ⟨rfl, hok_135, hr_136, hR_139⟩ := O_137
                replace hf_2 := hr_136.at hk1 (by decide) (by decide) hf_2
                replace hf_12 := hr_136.at hk2 (by decide) (by decide) hf_12
                replace hf_32 := hr_136.at hk3 (by decide) (by decide) hf_32
                replace hf_52 := hr_136.at hk2 (by decide) (by decide) hf_52
                replace hf_59 := hr_136.at hk0 (by decide) (by decide) hf_59
                replace hf_64 := hr_136.at hk0 (by decide) (by decide) hf_64
                replace hf_66 := hr_136.at hk3 (by decide) (by decide) hf_66
                replace hf_72 := hr_136.at hk0 (by decide) (by decide) hf_72
                replace hf_78 := hr_136.at hk0 (by decide) (by decide) hf_78
                replace hf_80 := hr_136.at hk1 (by decide) (by decide) hf_80
                replace hf_87 := hr_136.at hk3 (by decide) (by decide) hf_87
                replace hf_129 := hr_136.at hk2 (by decide) (by decide) hf_129
                replace hfr := hfr.trans (hr_136.sub (by decide))
                rcases hR_139 with rfl | ⟨y_140, rfl⟩
                · refine jj_goto (tgt := 168) C dX1_quote_164 (by decide) ?_
                  refine tt_put C hok_135 jk_3 5 (by decide) jw_162 (t := (1, (-9223372036854775808), 9223372036854775807)) hk0 (by decide) rfl rfl rfl (tt_ja (0 : Int64)) rfl rfl dX1_quote_168 (fun pl_141 hok_142 tr hn => ?_)
                  replace hf_2 := tr _ _ _ (Or.inl (tt_ne hk1 hk0 (by decide))) hf_2
                  replace hf_12 := tr _ _ _ (Or.inl (tt_ne hk2 hk0 (by decide))) hf_12
                  replace hf_32 := tr _ _ _ (Or.inl (tt_ne hk3 hk0 (by decide))) hf_32
                  replace hf_52 := tr _ _ _ (Or.inl (tt_ne hk2 hk0 (by decide))) hf_52
                  replace hf_59 := tr _ _ _ (Or.inr (by decide)) hf_59
                  replace hf_64 := tr _ _ _ (Or.inr (by decide)) hf_64
                  replace hf_66 := tr _ _ _ (Or.inl (tt_ne hk3 hk0 (by decide))) hf_66
                  replace hf_72 := tr _ _ _ (Or.inr (by decide)) hf_72
                  replace hf_78 := tr _ _ _ (Or.inr (by decide)) hf_78
                  replace hf_80 := tr _ _ _ (Or.inl (tt_ne hk1 hk0 (by decide))) hf_80
                  replace hf_87 := tr _ _ _ (Or.inl (tt_ne hk3 hk0 (by decide))) hf_87
                  replace hf_129 := tr _ _ _ (Or.inl (tt_ne hk2 hk0 (by decide))) hf_129
                  have hf_143 := hn
                  replace hfr := hfr.put hk0 tr (by decide)
                  exact jj_vret C ⟨[], pl_141, rfl, rfl, hok_142, hfr, rfl⟩ dX1_quote_171 (jj_le rfl) (jj_le rfl)
                · refine jj_goto (tgt := 168) C dX1_quote_164 (by decide) ?_
                  refine tt_put C hok_135 jk_3 5 (by decide) jw_162 (t := (1, (-9223372036854775808), 9223372036854775807)) hk0 (by decide) rfl rfl rfl (tt_ja y_140) rfl rfl dX1_quote_168 (fun pl_144 hok_145 tr hn => ?_)
                  replace hf_2 := tr _ _ _ (Or.inl (tt_ne hk1 hk0 (by decide))) hf_2
                  replace hf_12 := tr _ _ _ (Or.inl (tt_ne hk2 hk0 (by decide))) hf_12
                  replace hf_32 := tr _ _ _ (Or.inl (tt_ne hk3 hk0 (by decide))) hf_32
                  replace hf_52 := tr _ _ _ (Or.inl (tt_ne hk2 hk0 (by decide))) hf_52
                  replace hf_59 := tr _ _ _ (Or.inr (by decide)) hf_59
                  replace hf_64 := tr _ _ _ (Or.inr (by decide)) hf_64
                  replace hf_66 := tr _ _ _ (Or.inl (tt_ne hk3 hk0 (by decide))) hf_66
                  replace hf_72 := tr _ _ _ (Or.inr (by decide)) hf_72
                  replace hf_78 := tr _ _ _ (Or.inr (by decide)) hf_78
                  replace hf_80 := tr _ _ _ (Or.inl (tt_ne hk1 hk0 (by decide))) hf_80
                  replace hf_87 := tr _ _ _ (Or.inl (tt_ne hk3 hk0 (by decide))) hf_87
                  replace hf_129 := tr _ _ _ (Or.inl (tt_ne hk2 hk0 (by decide))) hf_129
                  have hf_146 := hn
                  replace hfr := hfr.put hk0 tr (by decide)
                  exact jj_vret C ⟨[], pl_144, rfl, rfl, hok_145, hfr, rfl⟩ dX1_quote_171 (jj_le rfl) (jj_le rfl)
              · refine jj_aload_n C dX1_quote_157 rfl ?_
                refine tt_getF C hok_90 jk_2 3 (by decide) jw_149 (t := (0, (-2147483648), 2147483647)) hk1 (by decide) rfl rfl hf_2 dX1_quote_158 ?_
                refine tt_callS (rest := [.ref h0]) C (tc_X2_dueOn_1 hl D cA ak p4 y_88 y_95 x_3 hok_90) [] [] rfl rfl (by decide) (by decide) (by decide) jw_173 jw_178 jw_175 jw_174 jn_X2_dueOn rfl (jj_le rfl) (jj_le rfl) (jj_le rfl) (jj_le rfl) (jj_le rfl) dX1_quote_161 rfl (fun _ _ _ hX => hX.elim) (fun rx pl_147 r O_150 => ?_)
                obtain ⟨rfl, hok_148, hr_149, hR_152⟩ := O_150
                replace hf_2 := hr_149.at hk1 (by decide) (by decide) hf_2
                replace hf_12 := hr_149.at hk2 (by decide) (by decide) hf_12
                replace hf_32 := hr_149.at hk3 (by decide) (by decide) hf_32
                replace hf_52 := hr_149.at hk2 (by decide) (by decide) hf_52
                replace hf_59 := hr_149.at hk0 (by decide) (by decide) hf_59
                replace hf_64 := hr_149.at hk0 (by decide) (by decide) hf_64
                replace hf_66 := hr_149.at hk3 (by decide) (by decide) hf_66
                replace hf_72 := hr_149.at hk0 (by decide) (by decide) hf_72
                replace hf_78 := hr_149.at hk0 (by decide) (by decide) hf_78
                replace hf_80 := hr_149.at hk1 (by decide) (by decide) hf_80
                replace hf_87 := hr_149.at hk3 (by decide) (by decide) hf_87
                replace hf_129 := hr_149.at hk2 (by decide) (by decide) hf_129
                replace hfr := hfr.trans (hr_149.sub (by decide))
                rcases hR_152 with rfl | ⟨y_153, rfl⟩
                · refine jj_goto (tgt := 168) C dX1_quote_164 (by decide) ?_
                  refine tt_put C hok_148 jk_3 5 (by decide) jw_162 (t := (1, (-9223372036854775808), 9223372036854775807)) hk0 (by decide) rfl rfl rfl (tt_ja (0 : Int64)) rfl rfl dX1_quote_168 (fun pl_154 hok_155 tr hn => ?_)
                  replace hf_2 := tr _ _ _ (Or.inl (tt_ne hk1 hk0 (by decide))) hf_2
                  replace hf_12 := tr _ _ _ (Or.inl (tt_ne hk2 hk0 (by decide))) hf_12
                  replace hf_32 := tr _ _ _ (Or.inl (tt_ne hk3 hk0 (by decide))) hf_32
                  replace hf_52 := tr _ _ _ (Or.inl (tt_ne hk2 hk0 (by decide))) hf_52
                  replace hf_59 := tr _ _ _ (Or.inr (by decide)) hf_59
                  replace hf_64 := tr _ _ _ (Or.inr (by decide)) hf_64
                  replace hf_66 := tr _ _ _ (Or.inl (tt_ne hk3 hk0 (by decide))) hf_66
                  replace hf_72 := tr _ _ _ (Or.inr (by decide)) hf_72
                  replace hf_78 := tr _ _ _ (Or.inr (by decide)) hf_78
                  replace hf_80 := tr _ _ _ (Or.inl (tt_ne hk1 hk0 (by decide))) hf_80
                  replace hf_87 := tr _ _ _ (Or.inl (tt_ne hk3 hk0 (by decide))) hf_87
                  replace hf_129 := tr _ _ _ (Or.inl (tt_ne hk2 hk0 (by decide))) hf_129
                  have hf_156 := hn
                  replace hfr := hfr.put hk0 tr (by decide)
                  exact jj_vret C ⟨[], pl_154, rfl, rfl, hok_155, hfr, rfl⟩ dX1_quote_171 (jj_le rfl) (jj_le rfl)
                · refine jj_goto (tgt := 168) C dX1_quote_164 (by decide) ?_
                  refine tt_put C hok_148 jk_3 5 (by decide) jw_162 (t := (1, (-9223372036854775808), 9223372036854775807)) hk0 (by decide) rfl rfl rfl (tt_ja y_153) rfl rfl dX1_quote_168 (fun pl_157 hok_158 tr hn => ?_)
                  replace hf_2 := tr _ _ _ (Or.inl (tt_ne hk1 hk0 (by decide))) hf_2
                  replace hf_12 := tr _ _ _ (Or.inl (tt_ne hk2 hk0 (by decide))) hf_12
                  replace hf_32 := tr _ _ _ (Or.inl (tt_ne hk3 hk0 (by decide))) hf_32
                  replace hf_52 := tr _ _ _ (Or.inl (tt_ne hk2 hk0 (by decide))) hf_52
                  replace hf_59 := tr _ _ _ (Or.inr (by decide)) hf_59
                  replace hf_64 := tr _ _ _ (Or.inr (by decide)) hf_64
                  replace hf_66 := tr _ _ _ (Or.inl (tt_ne hk3 hk0 (by decide))) hf_66
                  replace hf_72 := tr _ _ _ (Or.inr (by decide)) hf_72
                  replace hf_78 := tr _ _ _ (Or.inr (by decide)) hf_78
                  replace hf_80 := tr _ _ _ (Or.inl (tt_ne hk1 hk0 (by decide))) hf_80
                  replace hf_87 := tr _ _ _ (Or.inl (tt_ne hk3 hk0 (by decide))) hf_87
                  replace hf_129 := tr _ _ _ (Or.inl (tt_ne hk2 hk0 (by decide))) hf_129
                  have hf_159 := hn
                  replace hfr := hfr.put hk0 tr (by decide)
                  exact jj_vret C ⟨[], pl_157, rfl, rfl, hok_158, hfr, rfl⟩ dX1_quote_171 (jj_le rfl) (jj_le rfl)
        · refine tt_put C hok_71 jk_3 4 (by decide) jw_161 (t := (1, (-9223372036854775808), 9223372036854775807)) hk0 (by decide) rfl rfl rfl (tt_ja y_61) rfl rfl dX1_quote_123 (fun pl_160 hok_161 tr hn => ?_)
          replace hf_2 := tr _ _ _ (Or.inl (tt_ne hk1 hk0 (by decide))) hf_2
          replace hf_12 := tr _ _ _ (Or.inl (tt_ne hk2 hk0 (by decide))) hf_12
          replace hf_32 := tr _ _ _ (Or.inl (tt_ne hk3 hk0 (by decide))) hf_32
          replace hf_52 := tr _ _ _ (Or.inl (tt_ne hk2 hk0 (by decide))) hf_52
          replace hf_59 := tr _ _ _ (Or.inr (by decide)) hf_59
          replace hf_64 := tr _ _ _ (Or.inr (by decide)) hf_64
          replace hf_66 := tr _ _ _ (Or.inl (tt_ne hk3 hk0 (by decide))) hf_66
          replace hf_72 := tr _ _ _ (Or.inr (by decide)) hf_72
          have hf_162 := hn
          replace hfr := hfr.put hk0 tr (by decide)
          refine jj_aload_n C dX1_quote_126 rfl ?_
          refine jj_iload C dX1_quote_127 rfl ?_
          refine jj_if_eqF (tgt := 167) C dX1_quote_129 (by decide) (by decide) ?_
          refine jj_aload_n C dX1_quote_132 rfl ?_
          refine tt_get C hok_161 jk_2 1 (by decide) jw_164 (t := (0, (-2147483648), 2147483647)) hk1 (by decide) rfl rfl dX1_quote_133 (fun v_163 hv_163 hf_164 => ?_)
          obtain ⟨x_165, rfl, lx_165, ux_165⟩ := tt_vi hv_163
          refine jj_iconst (v := 1) C dX1_quote_136 (by decide) ?_
          refine jj_icmp_ne (tgt := 167) C dX1_quote_137 (by decide) (fun c_166 => ?_) (fun c_166 => ?_)
          · have z_c_166 := jc_neq (a := (x_165).toInt) (b := (1)) c_166 rfl (by decide)
            refine jj_lconst (v := 0) C dX1_quote_167 (by decide) ?_
            refine tt_put C hok_161 jk_3 5 (by decide) jw_162 (t := (1, (-9223372036854775808), 9223372036854775807)) hk0 (by decide) rfl rfl rfl (tt_ja (0 : Int64)) rfl rfl dX1_quote_168 (fun pl_167 hok_168 tr hn => ?_)
            replace hf_2 := tr _ _ _ (Or.inl (tt_ne hk1 hk0 (by decide))) hf_2
            replace hf_12 := tr _ _ _ (Or.inl (tt_ne hk2 hk0 (by decide))) hf_12
            replace hf_32 := tr _ _ _ (Or.inl (tt_ne hk3 hk0 (by decide))) hf_32
            replace hf_52 := tr _ _ _ (Or.inl (tt_ne hk2 hk0 (by decide))) hf_52
            replace hf_59 := tr _ _ _ (Or.inr (by decide)) hf_59
            replace hf_64 := tr _ _ _ (Or.inr (by decide)) hf_64
            replace hf_66 := tr _ _ _ (Or.inl (tt_ne hk3 hk0 (by decide))) hf_66
            replace hf_72 := tr _ _ _ (Or.inr (by decide)) hf_72
            replace hf_162 := tr _ _ _ (Or.inr (by decide)) hf_162
            replace hf_164 := tr _ _ _ (Or.inl (tt_ne hk1 hk0 (by decide))) hf_164
            have hf_169 := hn
            replace hfr := hfr.put hk0 tr (by decide)
            exact jj_vret C ⟨[], pl_167, rfl, rfl, hok_168, hfr, rfl⟩ dX1_quote_171 (jj_le rfl) (jj_le rfl)
          · have z_c_166 := jc_eq (a := (x_165).toInt) (b := (1)) c_166 rfl (by decide)
            refine jj_lload C dX1_quote_140 rfl ?_
            refine jj_aload_n C dX1_quote_142 rfl ?_
            refine tt_get C hok_161 jk_5 4 (by decide) jw_165 (t := (1, (-9223372036854775808), 9223372036854775807)) hk3 (by decide) rfl rfl dX1_quote_143 (fun v_170 hv_170 hf_171 => ?_)
            obtain ⟨y_172, rfl, -, -⟩ := tt_vj hv_170
            refine jj_aload_n C dX1_quote_146 rfl ?_
            obtain ⟨qc, gs, hqc⟩ := tt_recv (cx := []) hok_161 hk2 (by decide) rfl
            refine tt_callV (rest := [.long y_172, .long p4, .ref h0]) C (tc_X8_grossPrice_1 hl D cA ak h2 hk2 hok_161) [] [] rfl rfl (by decide) (by decide) (by decide) qc hqc rfl rfl jw_166 jw_169 jw_170 jw_92 jw_167 jn_X8_grossPrice rfl (jj_le rfl) (jj_le rfl) (jj_le rfl) (jj_le rfl) (jj_le rfl) dX1_quote_147 rfl (fun _ _ _ hX => hX.elim) (fun rx pl_173 r O_176 => ?_)
            obtain ⟨rfl, hok_174, hr_175, hR_178⟩ := O_176
            replace hf_2 := hr_175.at hk1 (by decide) (by decide) hf_2
            replace hf_12 := hr_175.at hk2 (by decide) (by decide) hf_12
            replace hf_32 := hr_175.at hk3 (by decide) (by decide) hf_32
            replace hf_52 := hr_175.at hk2 (by decide) (by decide) hf_52
            replace hf_59 := hr_175.at hk0 (by decide) (by decide) hf_59
            replace hf_64 := hr_175.at hk0 (by decide) (by decide) hf_64
            replace hf_66 := hr_175.at hk3 (by decide) (by decide) hf_66
            replace hf_72 := hr_175.at hk0 (by decide) (by decide) hf_72
            replace hf_162 := hr_175.at hk0 (by decide) (by decide) hf_162
            replace hf_164 := hr_175.at hk1 (by decide) (by decide) hf_164
            replace hf_171 := hr_175.at hk3 (by decide) (by decide) hf_171
            replace hfr := hfr.trans (hr_175.sub (by decide))
            rcases hR_178 with rfl | ⟨y_179, rfl⟩
            · refine jj_aload_n C dX1_quote_150 rfl ?_
              refine tt_get C hok_174 jk_9 4 (by decide) jw_172 (t := (1, (-9223372036854775808), 9223372036854775807)) hk2 (by decide) rfl rfl dX1_quote_151 (fun v_180 hv_180 hf_181 => ?_)
              obtain ⟨y_182, rfl, -, -⟩ := tt_vj hv_180
              refine tt_call0S (rest := [.long y_172, .long p4, .ref h0]) C (ct_J9_min_f86c9_3 hl D cA ak y_182) jw_142 jw_145 jw_144 jw_143 jn_J9_min_f86c9 rfl (jj_le rfl) (jj_le rfl) (jj_le rfl) (jj_le rfl) (jj_le rfl) dX1_quote_154 rfl (fun w1 r O_183 => ?_)
              rcases O_183 with ⟨c_184, -, rfl⟩ | ⟨c_185, -, rfl⟩
              · refine jj_aload_n C dX1_quote_157 rfl ?_
                refine tt_getF C hok_174 jk_2 3 (by decide) jw_149 (t := (0, (-2147483648), 2147483647)) hk1 (by decide) rfl rfl hf_2 dX1_quote_158 ?_
                refine tt_callS (rest := [.ref h0]) C (tc_X2_dueOn_1 hl D cA ak p4 y_172 y_182 x_3 hok_174) [] [] rfl rfl (by decide) (by decide) (by decide) jw_173 jw_178 jw_175 jw_174 jn_X2_dueOn rfl (jj_le rfl) (jj_le rfl) (jj_le rfl) (jj_le rfl) (jj_le rfl) dX1_quote_161 rfl (fun _ _ _ hX => hX.elim) (fun rx pl_186 r O_189 => ?_)
                obtain ⟨rfl, hok_187, hr_188, hR_191⟩ := O_189
                replace hf_2 := hr_188.at hk1 (by decide) (by decide) hf_2
                replace hf_12 := hr_188.at hk2 (by decide) (by decide) hf_12
                replace hf_32 := hr_188.at hk3 (by decide) (by decide) hf_32
                replace hf_52 := hr_188.at hk2 (by decide) (by decide) hf_52
                replace hf_59 := hr_188.at hk0 (by decide) (by decide) hf_59
                replace hf_64 := hr_188.at hk0 (by decide) (by decide) hf_64
                replace hf_66 := hr_188.at hk3 (by decide) (by decide) hf_66
                replace hf_72 := hr_188.at hk0 (by decide) (by decide) hf_72
                replace hf_162 := hr_188.at hk0 (by decide) (by decide) hf_162
                replace hf_164 := hr_188.at hk1 (by decide) (by decide) hf_164
                replace hf_171 := hr_188.at hk3 (by decide) (by decide) hf_171
                replace hf_181 := hr_188.at hk2 (by decide) (by decide) hf_181
                replace hfr := hfr.trans (hr_188.sub (by decide))
                rcases hR_191 with rfl | ⟨y_192, rfl⟩
                · refine jj_goto (tgt := 168) C dX1_quote_164 (by decide) ?_
                  refine tt_put C hok_187 jk_3 5 (by decide) jw_162 (t := (1, (-9223372036854775808), 9223372036854775807)) hk0 (by decide) rfl rfl rfl (tt_ja (0 : Int64)) rfl rfl dX1_quote_168 (fun pl_193 hok_194 tr hn => ?_)
                  replace hf_2 := tr _ _ _ (Or.inl (tt_ne hk1 hk0 (by decide))) hf_2
                  replace hf_12 := tr _ _ _ (Or.inl (tt_ne hk2 hk0 (by decide))) hf_12
                  replace hf_32 := tr _ _ _ (Or.inl (tt_ne hk3 hk0 (by decide))) hf_32
                  replace hf_52 := tr _ _ _ (Or.inl (tt_ne hk2 hk0 (by decide))) hf_52
                  replace hf_59 := tr _ _ _ (Or.inr (by decide)) hf_59
                  replace hf_64 := tr _ _ _ (Or.inr (by decide)) hf_64
                  replace hf_66 := tr _ _ _ (Or.inl (tt_ne hk3 hk0 (by decide))) hf_66
                  replace hf_72 := tr _ _ _ (Or.inr (by decide)) hf_72
                  replace hf_162 := tr _ _ _ (Or.inr (by decide)) hf_162
                  replace hf_164 := tr _ _ _ (Or.inl (tt_ne hk1 hk0 (by decide))) hf_164
                  replace hf_171 := tr _ _ _ (Or.inl (tt_ne hk3 hk0 (by decide))) hf_171
                  replace hf_181 := tr _ _ _ (Or.inl (tt_ne hk2 hk0 (by decide))) hf_181
                  have hf_195 := hn
                  replace hfr := hfr.put hk0 tr (by decide)
                  exact jj_vret C ⟨[], pl_193, rfl, rfl, hok_194, hfr, rfl⟩ dX1_quote_171 (jj_le rfl) (jj_le rfl)
                · refine jj_goto (tgt := 168) C dX1_quote_164 (by decide) ?_
                  refine tt_put C hok_187 jk_3 5 (by decide) jw_162 (t := (1, (-9223372036854775808), 9223372036854775807)) hk0 (by decide) rfl rfl rfl (tt_ja y_192) rfl rfl dX1_quote_168 (fun pl_196 hok_197 tr hn => ?_)
                  replace hf_2 := tr _ _ _ (Or.inl (tt_ne hk1 hk0 (by decide))) hf_2
                  replace hf_12 := tr _ _ _ (Or.inl (tt_ne hk2 hk0 (by decide))) hf_12
                  replace hf_32 := tr _ _ _ (Or.inl (tt_ne hk3 hk0 (by decide))) hf_32
                  replace hf_52 := tr _ _ _ (Or.inl (tt_ne hk2 hk0 (by decide))) hf_52
                  replace hf_59 := tr _ _ _ (Or.inr (by decide)) hf_59
                  replace hf_64 := tr _ _ _ (Or.inr (by decide)) hf_64
                  replace hf_66 := tr _ _ _ (Or.inl (tt_ne hk3 hk0 (by decide))) hf_66
                  replace hf_72 := tr _ _ _ (Or.inr (by decide)) hf_72
                  replace hf_162 := tr _ _ _ (Or.inr (by decide)) hf_162
                  replace hf_164 := tr _ _ _ (Or.inl (tt_ne hk1 hk0 (by decide))) hf_164
                  replace hf_171 := tr _ _ _ (Or.inl (tt_ne hk3 hk0 (by decide))) hf_171
                  replace hf_181 := tr _ _ _ (Or.inl (tt_ne hk2 hk0 (by decide))) hf_181
                  have hf_198 := hn
                  replace hfr := hfr.put hk0 tr (by decide)
                  exact jj_vret C ⟨[], pl_196, rfl, rfl, hok_197, hfr, rfl⟩ dX1_quote_171 (jj_le rfl) (jj_le rfl)
              · refine jj_aload_n C dX1_quote_157 rfl ?_
                refine tt_getF C hok_174 jk_2 3 (by decide) jw_149 (t := (0, (-2147483648), 2147483647)) hk1 (by decide) rfl rfl hf_2 dX1_quote_158 ?_
                refine tt_callS (rest := [.ref h0]) C (tc_X2_dueOn_2 hl D cA ak p4 y_172 x_3 hok_174) [] [] rfl rfl (by decide) (by decide) (by decide) jw_173 jw_178 jw_175 jw_174 jn_X2_dueOn rfl (jj_le rfl) (jj_le rfl) (jj_le rfl) (jj_le rfl) (jj_le rfl) dX1_quote_161 rfl (fun _ _ _ hX => hX.elim) (fun rx pl_199 r O_202 => ?_)
                obtain ⟨rfl, hok_200, hr_201, hR_204⟩ := O_202
                replace hf_2 := hr_201.at hk1 (by decide) (by decide) hf_2
                replace hf_12 := hr_201.at hk2 (by decide) (by decide) hf_12
                replace hf_32 := hr_201.at hk3 (by decide) (by decide) hf_32
                replace hf_52 := hr_201.at hk2 (by decide) (by decide) hf_52
                replace hf_59 := hr_201.at hk0 (by decide) (by decide) hf_59
                replace hf_64 := hr_201.at hk0 (by decide) (by decide) hf_64
                replace hf_66 := hr_201.at hk3 (by decide) (by decide) hf_66
                replace hf_72 := hr_201.at hk0 (by decide) (by decide) hf_72
                replace hf_162 := hr_201.at hk0 (by decide) (by decide) hf_162
                replace hf_164 := hr_201.at hk1 (by decide) (by decide) hf_164
                replace hf_171 := hr_201.at hk3 (by decide) (by decide) hf_171
                replace hf_181 := hr_201.at hk2 (by decide) (by decide) hf_181
                replace hfr := hfr.trans (hr_201.sub (by decide))
                rcases hR_204 with rfl | ⟨y_205, rfl⟩
                · refine jj_goto (tgt := 168) C dX1_quote_164 (by decide) ?_
                  refine tt_put C hok_200 jk_3 5 (by decide) jw_162 (t := (1, (-9223372036854775808), 9223372036854775807)) hk0 (by decide) rfl rfl rfl (tt_ja (0 : Int64)) rfl rfl dX1_quote_168 (fun pl_206 hok_207 tr hn => ?_)
                  replace hf_2 := tr _ _ _ (Or.inl (tt_ne hk1 hk0 (by decide))) hf_2
                  replace hf_12 := tr _ _ _ (Or.inl (tt_ne hk2 hk0 (by decide))) hf_12
                  replace hf_32 := tr _ _ _ (Or.inl (tt_ne hk3 hk0 (by decide))) hf_32
                  replace hf_52 := tr _ _ _ (Or.inl (tt_ne hk2 hk0 (by decide))) hf_52
                  replace hf_59 := tr _ _ _ (Or.inr (by decide)) hf_59
                  replace hf_64 := tr _ _ _ (Or.inr (by decide)) hf_64
                  replace hf_66 := tr _ _ _ (Or.inl (tt_ne hk3 hk0 (by decide))) hf_66
                  replace hf_72 := tr _ _ _ (Or.inr (by decide)) hf_72
                  replace hf_162 := tr _ _ _ (Or.inr (by decide)) hf_162
                  replace hf_164 := tr _ _ _ (Or.inl (tt_ne hk1 hk0 (by decide))) hf_164
                  replace hf_171 := tr _ _ _ (Or.inl (tt_ne hk3 hk0 (by decide))) hf_171
                  replace hf_181 := tr _ _ _ (Or.inl (tt_ne hk2 hk0 (by decide))) hf_181
                  have hf_208 := hn
                  replace hfr := hfr.put hk0 tr (by decide)
                  exact jj_vret C ⟨[], pl_206, rfl, rfl, hok_207, hfr, rfl⟩ dX1_quote_171 (jj_le rfl) (jj_le rfl)
                · refine jj_goto (tgt := 168) C dX1_quote_164 (by decide) ?_
                  refine tt_put C hok_200 jk_3 5 (by decide) jw_162 (t := (1, (-9223372036854775808), 9223372036854775807)) hk0 (by decide) rfl rfl rfl (tt_ja y_205) rfl rfl dX1_quote_168 (fun pl_209 hok_210 tr hn => ?_)
                  replace hf_2 := tr _ _ _ (Or.inl (tt_ne hk1 hk0 (by decide))) hf_2
                  replace hf_12 := tr _ _ _ (Or.inl (tt_ne hk2 hk0 (by decide))) hf_12
                  replace hf_32 := tr _ _ _ (Or.inl (tt_ne hk3 hk0 (by decide))) hf_32
                  replace hf_52 := tr _ _ _ (Or.inl (tt_ne hk2 hk0 (by decide))) hf_52
                  replace hf_59 := tr _ _ _ (Or.inr (by decide)) hf_59
                  replace hf_64 := tr _ _ _ (Or.inr (by decide)) hf_64
                  replace hf_66 := tr _ _ _ (Or.inl (tt_ne hk3 hk0 (by decide))) hf_66
                  replace hf_72 := tr _ _ _ (Or.inr (by decide)) hf_72
                  replace hf_162 := tr _ _ _ (Or.inr (by decide)) hf_162
                  replace hf_164 := tr _ _ _ (Or.inl (tt_ne hk1 hk0 (by decide))) hf_164
                  replace hf_171 := tr _ _ _ (Or.inl (tt_ne hk3 hk0 (by decide))) hf_171
                  replace hf_181 := tr _ _ _ (Or.inl (tt_ne hk2 hk0 (by decide))) hf_181
                  have hf_211 := hn
                  replace hfr := hfr.put hk0 tr (by decide)
                  exact jj_vret C ⟨[], pl_209, rfl, rfl, hok_210, hfr, rfl⟩ dX1_quote_171 (jj_le rfl) (jj_le rfl)
            · refine jj_aload_n C dX1_quote_150 rfl ?_
              refine tt_get C hok_174 jk_9 4 (by decide) jw_172 (t := (1, (-9223372036854775808), 9223372036854775807)) hk2 (by decide) rfl rfl dX1_quote_151 (fun v_212 hv_212 hf_213 => ?_)
              obtain ⟨y_214, rfl, -, -⟩ := tt_vj hv_212
              refine tt_call0S (rest := [.long y_172, .long p4, .ref h0]) C (ct_J9_min_f86c9_1 hl D cA ak y_179 y_214) jw_142 jw_145 jw_144 jw_143 jn_J9_min_f86c9 rfl (jj_le rfl) (jj_le rfl) (jj_le rfl) (jj_le rfl) (jj_le rfl) dX1_quote_154 rfl (fun w1 r O_215 => ?_)
              rcases O_215 with ⟨c_216, -, rfl⟩ | ⟨c_217, -, rfl⟩
              · refine jj_aload_n C dX1_quote_157 rfl ?_
                refine tt_getF C hok_174 jk_2 3 (by decide) jw_149 (t := (0, (-2147483648), 2147483647)) hk1 (by decide) rfl rfl hf_2 dX1_quote_158 ?_
                refine tt_callS (rest := [.ref h0]) C (tc_X2_dueOn_1 hl D cA ak p4 y_172 y_214 x_3 hok_174) [] [] rfl rfl (by decide) (by decide) (by decide) jw_173 jw_178 jw_175 jw_174 jn_X2_dueOn rfl (jj_le rfl) (jj_le rfl) (jj_le rfl) (jj_le rfl) (jj_le rfl) dX1_quote_161 rfl (fun _ _ _ hX => hX.elim) (fun rx pl_218 r O_221 => ?_)
                obtain ⟨rfl, hok_219, hr_220, hR_223⟩ := O_221
                replace hf_2 := hr_220.at hk1 (by decide) (by decide) hf_2
                replace hf_12 := hr_220.at hk2 (by decide) (by decide) hf_12
                replace hf_32 := hr_220.at hk3 (by decide) (by decide) hf_32
                replace hf_52 := hr_220.at hk2 (by decide) (by decide) hf_52
                replace hf_59 := hr_220.at hk0 (by decide) (by decide) hf_59
                replace hf_64 := hr_220.at hk0 (by decide) (by decide) hf_64
                replace hf_66 := hr_220.at hk3 (by decide) (by decide) hf_66
                replace hf_72 := hr_220.at hk0 (by decide) (by decide) hf_72
                replace hf_162 := hr_220.at hk0 (by decide) (by decide) hf_162
                replace hf_164 := hr_220.at hk1 (by decide) (by decide) hf_164
                replace hf_171 := hr_220.at hk3 (by decide) (by decide) hf_171
                replace hf_213 := hr_220.at hk2 (by decide) (by decide) hf_213
                replace hfr := hfr.trans (hr_220.sub (by decide))
                rcases hR_223 with rfl | ⟨y_224, rfl⟩
                · refine jj_goto (tgt := 168) C dX1_quote_164 (by decide) ?_
                  refine tt_put C hok_219 jk_3 5 (by decide) jw_162 (t := (1, (-9223372036854775808), 9223372036854775807)) hk0 (by decide) rfl rfl rfl (tt_ja (0 : Int64)) rfl rfl dX1_quote_168 (fun pl_225 hok_226 tr hn => ?_)
                  replace hf_2 := tr _ _ _ (Or.inl (tt_ne hk1 hk0 (by decide))) hf_2
                  replace hf_12 := tr _ _ _ (Or.inl (tt_ne hk2 hk0 (by decide))) hf_12
                  replace hf_32 := tr _ _ _ (Or.inl (tt_ne hk3 hk0 (by decide))) hf_32
                  replace hf_52 := tr _ _ _ (Or.inl (tt_ne hk2 hk0 (by decide))) hf_52
                  replace hf_59 := tr _ _ _ (Or.inr (by decide)) hf_59
                  replace hf_64 := tr _ _ _ (Or.inr (by decide)) hf_64
                  replace hf_66 := tr _ _ _ (Or.inl (tt_ne hk3 hk0 (by decide))) hf_66
                  replace hf_72 := tr _ _ _ (Or.inr (by decide)) hf_72
                  replace hf_162 := tr _ _ _ (Or.inr (by decide)) hf_162
                  replace hf_164 := tr _ _ _ (Or.inl (tt_ne hk1 hk0 (by decide))) hf_164
                  replace hf_171 := tr _ _ _ (Or.inl (tt_ne hk3 hk0 (by decide))) hf_171
                  replace hf_213 := tr _ _ _ (Or.inl (tt_ne hk2 hk0 (by decide))) hf_213
                  have hf_227 := hn
                  replace hfr := hfr.put hk0 tr (by decide)
                  exact jj_vret C ⟨[], pl_225, rfl, rfl, hok_226, hfr, rfl⟩ dX1_quote_171 (jj_le rfl) (jj_le rfl)
                · refine jj_goto (tgt := 168) C dX1_quote_164 (by decide) ?_
                  refine tt_put C hok_219 jk_3 5 (by decide) jw_162 (t := (1, (-9223372036854775808), 9223372036854775807)) hk0 (by decide) rfl rfl rfl (tt_ja y_224) rfl rfl dX1_quote_168 (fun pl_228 hok_229 tr hn => ?_)
                  replace hf_2 := tr _ _ _ (Or.inl (tt_ne hk1 hk0 (by decide))) hf_2
                  replace hf_12 := tr _ _ _ (Or.inl (tt_ne hk2 hk0 (by decide))) hf_12
                  replace hf_32 := tr _ _ _ (Or.inl (tt_ne hk3 hk0 (by decide))) hf_32
                  replace hf_52 := tr _ _ _ (Or.inl (tt_ne hk2 hk0 (by decide))) hf_52
                  replace hf_59 := tr _ _ _ (Or.inr (by decide)) hf_59
                  replace hf_64 := tr _ _ _ (Or.inr (by decide)) hf_64
                  replace hf_66 := tr _ _ _ (Or.inl (tt_ne hk3 hk0 (by decide))) hf_66
                  replace hf_72 := tr _ _ _ (Or.inr (by decide)) hf_72
                  replace hf_162 := tr _ _ _ (Or.inr (by decide)) hf_162
                  replace hf_164 := tr _ _ _ (Or.inl (tt_ne hk1 hk0 (by decide))) hf_164
                  replace hf_171 := tr _ _ _ (Or.inl (tt_ne hk3 hk0 (by decide))) hf_171
                  replace hf_213 := tr _ _ _ (Or.inl (tt_ne hk2 hk0 (by decide))) hf_213
                  have hf_230 := hn
                  replace hfr := hfr.put hk0 tr (by decide)
                  exact jj_vret C ⟨[], pl_228, rfl, rfl, hok_229, hfr, rfl⟩ dX1_quote_171 (jj_le rfl) (jj_le rfl)
              · refine jj_aload_n C dX1_quote_157 rfl ?_
                refine tt_getF C hok_174 jk_2 3 (by decide) jw_149 (t := (0, (-2147483648), 2147483647)) hk1 (by decide) rfl rfl hf_2 dX1_quote_158 ?_
                refine tt_callS (rest := [.ref h0]) C (tc_X2_dueOn_1 hl D cA ak p4 y_172 y_179 x_3 hok_174) [] [] rfl rfl (by decide) (by decide) (by decide) jw_173 jw_178 jw_175 jw_174 jn_X2_dueOn rfl (jj_le rfl) (jj_le rfl) (jj_le rfl) (jj_le rfl) (jj_le rfl) dX1_quote_161 rfl (fun _ _ _ hX => hX.elim) (fun rx pl_231 r O_234 => ?_)
                obtain ⟨rfl, hok_232, hr_233, hR_236⟩ := O_234
                replace hf_2 := hr_233.at hk1 (by decide) (by decide) hf_2
                replace hf_12 := hr_233.at hk2 (by decide) (by decide) hf_12
                replace hf_32 := hr_233.at hk3 (by decide) (by decide) hf_32
                replace hf_52 := hr_233.at hk2 (by decide) (by decide) hf_52
                replace hf_59 := hr_233.at hk0 (by decide) (by decide) hf_59
                replace hf_64 := hr_233.at hk0 (by decide) (by decide) hf_64
                replace hf_66 := hr_233.at hk3 (by decide) (by decide) hf_66
                replace hf_72 := hr_233.at hk0 (by decide) (by decide) hf_72
                replace hf_162 := hr_233.at hk0 (by decide) (by decide) hf_162
                replace hf_164 := hr_233.at hk1 (by decide) (by decide) hf_164
                replace hf_171 := hr_233.at hk3 (by decide) (by decide) hf_171
                replace hf_213 := hr_233.at hk2 (by decide) (by decide) hf_213
                replace hfr := hfr.trans (hr_233.sub (by decide))
                rcases hR_236 with rfl | ⟨y_237, rfl⟩
                · refine jj_goto (tgt := 168) C dX1_quote_164 (by decide) ?_
                  refine tt_put C hok_232 jk_3 5 (by decide) jw_162 (t := (1, (-9223372036854775808), 9223372036854775807)) hk0 (by decide) rfl rfl rfl (tt_ja (0 : Int64)) rfl rfl dX1_quote_168 (fun pl_238 hok_239 tr hn => ?_)
                  replace hf_2 := tr _ _ _ (Or.inl (tt_ne hk1 hk0 (by decide))) hf_2
                  replace hf_12 := tr _ _ _ (Or.inl (tt_ne hk2 hk0 (by decide))) hf_12
                  replace hf_32 := tr _ _ _ (Or.inl (tt_ne hk3 hk0 (by decide))) hf_32
                  replace hf_52 := tr _ _ _ (Or.inl (tt_ne hk2 hk0 (by decide))) hf_52
                  replace hf_59 := tr _ _ _ (Or.inr (by decide)) hf_59
                  replace hf_64 := tr _ _ _ (Or.inr (by decide)) hf_64
                  replace hf_66 := tr _ _ _ (Or.inl (tt_ne hk3 hk0 (by decide))) hf_66
                  replace hf_72 := tr _ _ _ (Or.inr (by decide)) hf_72
                  replace hf_162 := tr _ _ _ (Or.inr (by decide)) hf_162
                  replace hf_164 := tr _ _ _ (Or.inl (tt_ne hk1 hk0 (by decide))) hf_164
                  replace hf_171 := tr _ _ _ (Or.inl (tt_ne hk3 hk0 (by decide))) hf_171
                  replace hf_213 := tr _ _ _ (Or.inl (tt_ne hk2 hk0 (by decide))) hf_213
                  have hf_240 := hn
                  replace hfr := hfr.put hk0 tr (by decide)
                  exact jj_vret C ⟨[], pl_238, rfl, rfl, hok_239, hfr, rfl⟩ dX1_quote_171 (jj_le rfl) (jj_le rfl)
                · refine jj_goto (tgt := 168) C dX1_quote_164 (by decide) ?_
                  refine tt_put C hok_232 jk_3 5 (by decide) jw_162 (t := (1, (-9223372036854775808), 9223372036854775807)) hk0 (by decide) rfl rfl rfl (tt_ja y_237) rfl rfl dX1_quote_168 (fun pl_241 hok_242 tr hn => ?_)
                  replace hf_2 := tr _ _ _ (Or.inl (tt_ne hk1 hk0 (by decide))) hf_2
                  replace hf_12 := tr _ _ _ (Or.inl (tt_ne hk2 hk0 (by decide))) hf_12
                  replace hf_32 := tr _ _ _ (Or.inl (tt_ne hk3 hk0 (by decide))) hf_32
                  replace hf_52 := tr _ _ _ (Or.inl (tt_ne hk2 hk0 (by decide))) hf_52
                  replace hf_59 := tr _ _ _ (Or.inr (by decide)) hf_59
                  replace hf_64 := tr _ _ _ (Or.inr (by decide)) hf_64
                  replace hf_66 := tr _ _ _ (Or.inl (tt_ne hk3 hk0 (by decide))) hf_66
                  replace hf_72 := tr _ _ _ (Or.inr (by decide)) hf_72
                  replace hf_162 := tr _ _ _ (Or.inr (by decide)) hf_162
                  replace hf_164 := tr _ _ _ (Or.inl (tt_ne hk1 hk0 (by decide))) hf_164
                  replace hf_171 := tr _ _ _ (Or.inl (tt_ne hk3 hk0 (by decide))) hf_171
                  replace hf_213 := tr _ _ _ (Or.inl (tt_ne hk2 hk0 (by decide))) hf_213
                  have hf_243 := hn
                  replace hfr := hfr.put hk0 tr (by decide)
                  exact jj_vret C ⟨[], pl_241, rfl, rfl, hok_242, hfr, rfl⟩ dX1_quote_171 (jj_le rfl) (jj_le rfl)
  · refine jj_lstore C dX1_quote_8 (by decide) rfl ?_
    refine jj_aload_n C dX1_quote_10 rfl ?_
    refine tt_get C hok_5 jk_9 3 (by decide) jw_157 (t := (1, (-9223372036854775808), 9223372036854775807)) hk2 (by decide) rfl rfl dX1_quote_11 (fun v_244 hv_244 hf_245 => ?_)
    obtain ⟨y_246, rfl, -, -⟩ := tt_vj hv_244
    refine jj_lconst (v := 0) C dX1_quote_14 (by decide) ?_
    refine jj_lcmp_le (tgt := 32) C dX1_quote_15 dX1_quote_16 (by decide) (fun c_247 => ?_) (fun c_247 => ?_)
    · refine jj_iconst (v := 0) C dX1_quote_32 (by decide) ?_
      refine jj_istore C dX1_quote_33 (by decide) rfl ?_
      refine jj_aload_n C dX1_quote_35 rfl ?_
      refine jj_iload C dX1_quote_36 rfl ?_
      refine jj_if_eqT (tgt := 59) C dX1_quote_38 (by decide) (by decide) ?_
      refine jj_lconst (v := 0) C dX1_quote_59 (by decide) ?_
      refine tt_put C hok_5 jk_3 1 (by decide) jw_158 (t := (1, (-9223372036854775808), 9223372036854775807)) hk0 (by decide) rfl rfl rfl (tt_ja (0 : Int64)) rfl rfl dX1_quote_60 (fun pl_248 hok_249 tr hn => ?_)
      replace hf_2 := tr _ _ _ (Or.inl (tt_ne hk1 hk0 (by decide))) hf_2
      replace hf_245 := tr _ _ _ (Or.inl (tt_ne hk2 hk0 (by decide))) hf_245
      have hf_250 := hn
      replace hfr := hfr.put hk0 tr (by decide)
      refine jj_aload_n C dX1_quote_63 rfl ?_
      refine jj_iload C dX1_quote_64 rfl ?_
      refine jj_if_eqT (tgt := 82) C dX1_quote_66 (by decide) (by decide) ?_
      refine jj_lconst (v := 0) C dX1_quote_82 (by decide) ?_
      refine tt_put C hok_249 jk_3 2 (by decide) jw_159 (t := (1, (-9223372036854775808), 9223372036854775807)) hk0 (by decide) rfl rfl rfl (tt_ja (0 : Int64)) rfl rfl dX1_quote_83 (fun pl_251 hok_252 tr hn => ?_)
      replace hf_2 := tr _ _ _ (Or.inl (tt_ne hk1 hk0 (by decide))) hf_2
      replace hf_245 := tr _ _ _ (Or.inl (tt_ne hk2 hk0 (by decide))) hf_245
      replace hf_250 := tr _ _ _ (Or.inr (by decide)) hf_250
      have hf_253 := hn
      replace hfr := hfr.put hk0 tr (by decide)
      refine jj_aload_n C dX1_quote_86 rfl ?_
      refine jj_iload C dX1_quote_87 rfl ?_
      refine jj_if_eqT (tgt := 107) C dX1_quote_89 (by decide) (by decide) ?_
      refine jj_lconst (v := 0) C dX1_quote_107 (by decide) ?_
      refine tt_put C hok_252 jk_3 3 (by decide) jw_160 (t := (1, (-9223372036854775808), 9223372036854775807)) hk0 (by decide) rfl rfl rfl (tt_ja (0 : Int64)) rfl rfl dX1_quote_108 (fun pl_254 hok_255 tr hn => ?_)
      replace hf_2 := tr _ _ _ (Or.inl (tt_ne hk1 hk0 (by decide))) hf_2
      replace hf_245 := tr _ _ _ (Or.inl (tt_ne hk2 hk0 (by decide))) hf_245
      replace hf_250 := tr _ _ _ (Or.inr (by decide)) hf_250
      replace hf_253 := tr _ _ _ (Or.inr (by decide)) hf_253
      have hf_256 := hn
      replace hfr := hfr.put hk0 tr (by decide)
      refine jj_aload_n C dX1_quote_111 rfl ?_
      refine jj_aload_n C dX1_quote_112 rfl ?_
      refine tt_getF C hok_255 jk_3 2 (by decide) jw_159 (t := (1, (-9223372036854775808), 9223372036854775807)) hk0 (by decide) rfl rfl hf_253 dX1_quote_113 ?_
      refine jj_aload_n C dX1_quote_116 rfl ?_
      refine tt_getF C hok_255 jk_3 3 (by decide) jw_160 (t := (1, (-9223372036854775808), 9223372036854775807)) hk0 (by decide) rfl rfl hf_256 dX1_quote_117 ?_
      refine tt_call0S (rest := [.ref h0]) C (ct_J9_min_f86c9_2 hl D cA ak) jw_142 jw_145 jw_144 jw_143 jn_J9_min_f86c9 rfl (jj_le rfl) (jj_le rfl) (jj_le rfl) (jj_le rfl) (jj_le rfl) dX1_quote_120 rfl (fun w1 r O_257 => ?_)
      obtain ⟨-, rfl⟩ := O_257
      refine tt_put C hok_255 jk_3 4 (by decide) jw_161 (t := (1, (-9223372036854775808), 9223372036854775807)) hk0 (by decide) rfl rfl rfl (tt_ja (0 : Int64)) rfl rfl dX1_quote_123 (fun pl_258 hok_259 tr hn => ?_)
      replace hf_2 := tr _ _ _ (Or.inl (tt_ne hk1 hk0 (by decide))) hf_2
      replace hf_245 := tr _ _ _ (Or.inl (tt_ne hk2 hk0 (by decide))) hf_245
      replace hf_250 := tr _ _ _ (Or.inr (by decide)) hf_250
      replace hf_253 := tr _ _ _ (Or.inr (by decide)) hf_253
      replace hf_256 := tr _ _ _ (Or.inr (by decide)) hf_256
      have hf_260 := hn
      replace hfr := hfr.put hk0 tr (by decide)
      refine jj_aload_n C dX1_quote_126 rfl ?_
      refine jj_iload C dX1_quote_127 rfl ?_
      refine jj_if_eqT (tgt := 167) C dX1_quote_129 (by decide) (by decide) ?_
      refine jj_lconst (v := 0) C dX1_quote_167 (by decide) ?_
      refine tt_put C hok_259 jk_3 5 (by decide) jw_162 (t := (1, (-9223372036854775808), 9223372036854775807)) hk0 (by decide) rfl rfl rfl (tt_ja (0 : Int64)) rfl rfl dX1_quote_168 (fun pl_261 hok_262 tr hn => ?_)
      replace hf_2 := tr _ _ _ (Or.inl (tt_ne hk1 hk0 (by decide))) hf_2
      replace hf_245 := tr _ _ _ (Or.inl (tt_ne hk2 hk0 (by decide))) hf_245
      replace hf_250 := tr _ _ _ (Or.inr (by decide)) hf_250
      replace hf_253 := tr _ _ _ (Or.inr (by decide)) hf_253
      replace hf_256 := tr _ _ _ (Or.inr (by decide)) hf_256
      replace hf_260 := tr _ _ _ (Or.inr (by decide)) hf_260
      have hf_263 := hn
      replace hfr := hfr.put hk0 tr (by decide)
      exact jj_vret C ⟨[], pl_261, rfl, rfl, hok_262, hfr, rfl⟩ dX1_quote_171 (jj_le rfl) (jj_le rfl)
    · refine jj_aload_n C dX1_quote_19 rfl ?_
      refine tt_get C hok_5 jk_5 3 (by decide) jw_141 (t := (1, (-9223372036854775808), 9223372036854775807)) hk3 (by decide) rfl rfl dX1_quote_20 (fun v_264 hv_264 hf_265 => ?_)
      obtain ⟨y_266, rfl, -, -⟩ := tt_vj hv_264
      refine jj_lconst (v := 0) C dX1_quote_23 (by decide) ?_
      refine jj_lcmp_le (tgt := 32) C dX1_quote_24 dX1_quote_25 (by decide) (fun c_267 => ?_) (fun c_267 => ?_)
      · refine jj_iconst (v := 0) C dX1_quote_32 (by decide) ?_
        refine jj_istore C dX1_quote_33 (by decide) rfl ?_
        refine jj_aload_n C dX1_quote_35 rfl ?_
        refine jj_iload C dX1_quote_36 rfl ?_
        refine jj_if_eqT (tgt := 59) C dX1_quote_38 (by decide) (by decide) ?_
        refine jj_lconst (v := 0) C dX1_quote_59 (by decide) ?_
        refine tt_put C hok_5 jk_3 1 (by decide) jw_158 (t := (1, (-9223372036854775808), 9223372036854775807)) hk0 (by decide) rfl rfl rfl (tt_ja (0 : Int64)) rfl rfl dX1_quote_60 (fun pl_268 hok_269 tr hn => ?_)
        replace hf_2 := tr _ _ _ (Or.inl (tt_ne hk1 hk0 (by decide))) hf_2
        replace hf_245 := tr _ _ _ (Or.inl (tt_ne hk2 hk0 (by decide))) hf_245
        replace hf_265 := tr _ _ _ (Or.inl (tt_ne hk3 hk0 (by decide))) hf_265
        have hf_270 := hn
        replace hfr := hfr.put hk0 tr (by decide)
        refine jj_aload_n C dX1_quote_63 rfl ?_
        refine jj_iload C dX1_quote_64 rfl ?_
        refine jj_if_eqT (tgt := 82) C dX1_quote_66 (by decide) (by decide) ?_
        refine jj_lconst (v := 0) C dX1_quote_82 (by decide) ?_
        refine tt_put C hok_269 jk_3 2 (by decide) jw_159 (t := (1, (-9223372036854775808), 9223372036854775807)) hk0 (by decide) rfl rfl rfl (tt_ja (0 : Int64)) rfl rfl dX1_quote_83 (fun pl_271 hok_272 tr hn => ?_)
        replace hf_2 := tr _ _ _ (Or.inl (tt_ne hk1 hk0 (by decide))) hf_2
        replace hf_245 := tr _ _ _ (Or.inl (tt_ne hk2 hk0 (by decide))) hf_245
        replace hf_265 := tr _ _ _ (Or.inl (tt_ne hk3 hk0 (by decide))) hf_265
        replace hf_270 := tr _ _ _ (Or.inr (by decide)) hf_270
        have hf_273 := hn
        replace hfr := hfr.put hk0 tr (by decide)
        refine jj_aload_n C dX1_quote_86 rfl ?_
        refine jj_iload C dX1_quote_87 rfl ?_
        refine jj_if_eqT (tgt := 107) C dX1_quote_89 (by decide) (by decide) ?_
        refine jj_lconst (v := 0) C dX1_quote_107 (by decide) ?_
        refine tt_put C hok_272 jk_3 3 (by decide) jw_160 (t := (1, (-9223372036854775808), 9223372036854775807)) hk0 (by decide) rfl rfl rfl (tt_ja (0 : Int64)) rfl rfl dX1_quote_108 (fun pl_274 hok_275 tr hn => ?_)
        replace hf_2 := tr _ _ _ (Or.inl (tt_ne hk1 hk0 (by decide))) hf_2
        replace hf_245 := tr _ _ _ (Or.inl (tt_ne hk2 hk0 (by decide))) hf_245
        replace hf_265 := tr _ _ _ (Or.inl (tt_ne hk3 hk0 (by decide))) hf_265
        replace hf_270 := tr _ _ _ (Or.inr (by decide)) hf_270
        replace hf_273 := tr _ _ _ (Or.inr (by decide)) hf_273
        have hf_276 := hn
        replace hfr := hfr.put hk0 tr (by decide)
        refine jj_aload_n C dX1_quote_111 rfl ?_
        refine jj_aload_n C dX1_quote_112 rfl ?_
        refine tt_getF C hok_275 jk_3 2 (by decide) jw_159 (t := (1, (-9223372036854775808), 9223372036854775807)) hk0 (by decide) rfl rfl hf_273 dX1_quote_113 ?_
        refine jj_aload_n C dX1_quote_116 rfl ?_
        refine tt_getF C hok_275 jk_3 3 (by decide) jw_160 (t := (1, (-9223372036854775808), 9223372036854775807)) hk0 (by decide) rfl rfl hf_276 dX1_quote_117 ?_
        refine tt_call0S (rest := [.ref h0]) C (ct_J9_min_f86c9_2 hl D cA ak) jw_142 jw_145 jw_144 jw_143 jn_J9_min_f86c9 rfl (jj_le rfl) (jj_le rfl) (jj_le rfl) (jj_le rfl) (jj_le rfl) dX1_quote_120 rfl (fun w1 r O_277 => ?_)
        obtain ⟨-, rfl⟩ := O_277
        refine tt_put C hok_275 jk_3 4 (by decide) jw_161 (t := (1, (-9223372036854775808), 9223372036854775807)) hk0 (by decide) rfl rfl rfl (tt_ja (0 : Int64)) rfl rfl dX1_quote_123 (fun pl_278 hok_279 tr hn => ?_)
        replace hf_2 := tr _ _ _ (Or.inl (tt_ne hk1 hk0 (by decide))) hf_2
        replace hf_245 := tr _ _ _ (Or.inl (tt_ne hk2 hk0 (by decide))) hf_245
        replace hf_265 := tr _ _ _ (Or.inl (tt_ne hk3 hk0 (by decide))) hf_265
        replace hf_270 := tr _ _ _ (Or.inr (by decide)) hf_270
        replace hf_273 := tr _ _ _ (Or.inr (by decide)) hf_273
        replace hf_276 := tr _ _ _ (Or.inr (by decide)) hf_276
        have hf_280 := hn
        replace hfr := hfr.put hk0 tr (by decide)
        refine jj_aload_n C dX1_quote_126 rfl ?_
        refine jj_iload C dX1_quote_127 rfl ?_
        refine jj_if_eqT (tgt := 167) C dX1_quote_129 (by decide) (by decide) ?_
        refine jj_lconst (v := 0) C dX1_quote_167 (by decide) ?_
        refine tt_put C hok_279 jk_3 5 (by decide) jw_162 (t := (1, (-9223372036854775808), 9223372036854775807)) hk0 (by decide) rfl rfl rfl (tt_ja (0 : Int64)) rfl rfl dX1_quote_168 (fun pl_281 hok_282 tr hn => ?_)
        replace hf_2 := tr _ _ _ (Or.inl (tt_ne hk1 hk0 (by decide))) hf_2
        replace hf_245 := tr _ _ _ (Or.inl (tt_ne hk2 hk0 (by decide))) hf_245
        replace hf_265 := tr _ _ _ (Or.inl (tt_ne hk3 hk0 (by decide))) hf_265
        replace hf_270 := tr _ _ _ (Or.inr (by decide)) hf_270
        replace hf_273 := tr _ _ _ (Or.inr (by decide)) hf_273
        replace hf_276 := tr _ _ _ (Or.inr (by decide)) hf_276
        replace hf_280 := tr _ _ _ (Or.inr (by decide)) hf_280
        have hf_283 := hn
        replace hfr := hfr.put hk0 tr (by decide)
        exact jj_vret C ⟨[], pl_281, rfl, rfl, hok_282, hfr, rfl⟩ dX1_quote_171 (jj_le rfl) (jj_le rfl)
      · refine jj_iconst (v := 1) C dX1_quote_28 (by decide) ?_
        refine jj_goto (tgt := 33) C dX1_quote_29 (by decide) ?_
        refine jj_istore C dX1_quote_33 (by decide) rfl ?_
        refine jj_aload_n C dX1_quote_35 rfl ?_
        refine jj_iload C dX1_quote_36 rfl ?_
        refine jj_if_eqF (tgt := 59) C dX1_quote_38 (by decide) (by decide) ?_
        refine jj_aload_n C dX1_quote_41 rfl ?_
        refine tt_get C hok_5 jk_9 2 (by decide) jw_113 (t := (1, (-9223372036854775808), 9223372036854775807)) hk2 (by decide) rfl rfl dX1_quote_42 (fun v_284 hv_284 hf_285 => ?_)
        obtain ⟨y_286, rfl, -, -⟩ := tt_vj hv_284
        refine jj_lload C dX1_quote_45 rfl ?_
        obtain ⟨y_287, ey_287⟩ : ∃ z : Int64, y_286 - y_10 = z := ⟨_, rfl⟩
        refine jj_lsub (v := y_287) C dX1_quote_47 ey_287 ?_
        refine jj_lload C dX1_quote_48 rfl ?_
        obtain ⟨y_288, ey_288⟩ : ∃ z : Int64, y_287 * p4 = z := ⟨_, rfl⟩
        refine jj_lmul (v := y_288) C dX1_quote_50 ey_288 ?_
        refine jj_aload_n C dX1_quote_51 rfl ?_
        refine tt_getF C hok_5 jk_9 3 (by decide) jw_157 (t := (1, (-9223372036854775808), 9223372036854775807)) hk2 (by decide) rfl rfl hf_245 dX1_quote_52 ?_
        obtain ⟨y_289, ey_289⟩ : ∃ z : Int64, y_288 / y_246 = z := ⟨_, rfl⟩
        refine jj_ldiv (v := y_289) C dX1_quote_55 (jt_nzpL (by first | exact Int64.not_le.mp c_247 | exact Int32.not_le.mp c_247)) ey_289 ?_
        refine jj_goto (tgt := 60) C dX1_quote_56 (by decide) ?_
        refine tt_put C hok_5 jk_3 1 (by decide) jw_158 (t := (1, (-9223372036854775808), 9223372036854775807)) hk0 (by decide) rfl rfl rfl (tt_ja y_289) rfl rfl dX1_quote_60 (fun pl_290 hok_291 tr hn => ?_)
        replace hf_2 := tr _ _ _ (Or.inl (tt_ne hk1 hk0 (by decide))) hf_2
        replace hf_245 := tr _ _ _ (Or.inl (tt_ne hk2 hk0 (by decide))) hf_245
        replace hf_265 := tr _ _ _ (Or.inl (tt_ne hk3 hk0 (by decide))) hf_265
        replace hf_285 := tr _ _ _ (Or.inl (tt_ne hk2 hk0 (by decide))) hf_285
        have hf_292 := hn
        replace hfr := hfr.put hk0 tr (by decide)
        refine jj_aload_n C dX1_quote_63 rfl ?_
        refine jj_iload C dX1_quote_64 rfl ?_
        refine jj_if_eqF (tgt := 82) C dX1_quote_66 (by decide) (by decide) ?_
        refine jj_lload C dX1_quote_69 rfl ?_
        refine jj_lload C dX1_quote_71 rfl ?_
        obtain ⟨y_293, ey_293⟩ : ∃ z : Int64, y_10 * p4 = z := ⟨_, rfl⟩
        refine jj_lmul (v := y_293) C dX1_quote_73 ey_293 ?_
        refine jj_aload_n C dX1_quote_74 rfl ?_
        refine tt_getF C hok_291 jk_9 3 (by decide) jw_157 (t := (1, (-9223372036854775808), 9223372036854775807)) hk2 (by decide) rfl rfl hf_245 dX1_quote_75 ?_
        obtain ⟨y_294, ey_294⟩ : ∃ z : Int64, y_293 / y_246 = z := ⟨_, rfl⟩
        refine jj_ldiv (v := y_294) C dX1_quote_78 (jt_nzpL (by first | exact Int64.not_le.mp c_247 | exact Int32.not_le.mp c_247)) ey_294 ?_
        refine jj_goto (tgt := 83) C dX1_quote_79 (by decide) ?_
        refine tt_put C hok_291 jk_3 2 (by decide) jw_159 (t := (1, (-9223372036854775808), 9223372036854775807)) hk0 (by decide) rfl rfl rfl (tt_ja y_294) rfl rfl dX1_quote_83 (fun pl_295 hok_296 tr hn => ?_)
        replace hf_2 := tr _ _ _ (Or.inl (tt_ne hk1 hk0 (by decide))) hf_2
        replace hf_245 := tr _ _ _ (Or.inl (tt_ne hk2 hk0 (by decide))) hf_245
        replace hf_265 := tr _ _ _ (Or.inl (tt_ne hk3 hk0 (by decide))) hf_265
        replace hf_285 := tr _ _ _ (Or.inl (tt_ne hk2 hk0 (by decide))) hf_285
        replace hf_292 := tr _ _ _ (Or.inr (by decide)) hf_292
        have hf_297 := hn
        replace hfr := hfr.put hk0 tr (by decide)
        refine jj_aload_n C dX1_quote_86 rfl ?_
        refine jj_iload C dX1_quote_87 rfl ?_
        refine jj_if_eqF (tgt := 107) C dX1_quote_89 (by decide) (by decide) ?_
        refine jj_aload_n C dX1_quote_92 rfl ?_
        refine tt_get C hok_296 jk_5 5 (by decide) jw_163 (t := (1, (-9223372036854775808), 9223372036854775807)) hk3 (by decide) rfl rfl dX1_quote_93 (fun v_298 hv_298 hf_299 => ?_)
        obtain ⟨y_300, rfl, -, -⟩ := tt_vj hv_298
        refine jj_lload C dX1_quote_96 rfl ?_
        obtain ⟨y_301, ey_301⟩ : ∃ z : Int64, y_300 * p4 = z := ⟨_, rfl⟩
        refine jj_lmul (v := y_301) C dX1_quote_98 ey_301 ?_
        refine jj_aload_n C dX1_quote_99 rfl ?_
        refine tt_getF C hok_296 jk_5 3 (by decide) jw_141 (t := (1, (-9223372036854775808), 9223372036854775807)) hk3 (by decide) rfl rfl hf_265 dX1_quote_100 ?_
        obtain ⟨y_302, ey_302⟩ : ∃ z : Int64, y_301 / y_266 = z := ⟨_, rfl⟩
        refine jj_ldiv (v := y_302) C dX1_quote_103 (jt_nzpL (by first | exact Int64.not_le.mp c_267 | exact Int32.not_le.mp c_267)) ey_302 ?_
        refine jj_goto (tgt := 108) C dX1_quote_104 (by decide) ?_
        refine tt_put C hok_296 jk_3 3 (by decide) jw_160 (t := (1, (-9223372036854775808), 9223372036854775807)) hk0 (by decide) rfl rfl rfl (tt_ja y_302) rfl rfl dX1_quote_108 (fun pl_303 hok_304 tr hn => ?_)
        replace hf_2 := tr _ _ _ (Or.inl (tt_ne hk1 hk0 (by decide))) hf_2
        replace hf_245 := tr _ _ _ (Or.inl (tt_ne hk2 hk0 (by decide))) hf_245
        replace hf_265 := tr _ _ _ (Or.inl (tt_ne hk3 hk0 (by decide))) hf_265
        replace hf_285 := tr _ _ _ (Or.inl (tt_ne hk2 hk0 (by decide))) hf_285
        replace hf_292 := tr _ _ _ (Or.inr (by decide)) hf_292
        replace hf_297 := tr _ _ _ (Or.inr (by decide)) hf_297
        replace hf_299 := tr _ _ _ (Or.inl (tt_ne hk3 hk0 (by decide))) hf_299
        have hf_305 := hn
        replace hfr := hfr.put hk0 tr (by decide)
        refine jj_aload_n C dX1_quote_111 rfl ?_
        refine jj_aload_n C dX1_quote_112 rfl ?_
        refine tt_getF C hok_304 jk_3 2 (by decide) jw_159 (t := (1, (-9223372036854775808), 9223372036854775807)) hk0 (by decide) rfl rfl hf_297 dX1_quote_113 ?_
        refine jj_aload_n C dX1_quote_116 rfl ?_
        refine tt_getF C hok_304 jk_3 3 (by decide) jw_160 (t := (1, (-9223372036854775808), 9223372036854775807)) hk0 (by decide) rfl rfl hf_305 dX1_quote_117 ?_
        refine tt_call0S (rest := [.ref h0]) C (ct_J9_min_f86c9_1 hl D cA ak y_294 y_302) jw_142 jw_145 jw_144 jw_143 jn_J9_min_f86c9 rfl (jj_le rfl) (jj_le rfl) (jj_le rfl) (jj_le rfl) (jj_le rfl) dX1_quote_120 rfl (fun w1 r O_306 => ?_)
        rcases O_306 with ⟨c_307, -, rfl⟩ | ⟨c_308, -, rfl⟩
        · refine tt_put C hok_304 jk_3 4 (by decide) jw_161 (t := (1, (-9223372036854775808), 9223372036854775807)) hk0 (by decide) rfl rfl rfl (tt_ja y_302) rfl rfl dX1_quote_123 (fun pl_309 hok_310 tr hn => ?_)
          replace hf_2 := tr _ _ _ (Or.inl (tt_ne hk1 hk0 (by decide))) hf_2
          replace hf_245 := tr _ _ _ (Or.inl (tt_ne hk2 hk0 (by decide))) hf_245
          replace hf_265 := tr _ _ _ (Or.inl (tt_ne hk3 hk0 (by decide))) hf_265
          replace hf_285 := tr _ _ _ (Or.inl (tt_ne hk2 hk0 (by decide))) hf_285
          replace hf_292 := tr _ _ _ (Or.inr (by decide)) hf_292
          replace hf_297 := tr _ _ _ (Or.inr (by decide)) hf_297
          replace hf_299 := tr _ _ _ (Or.inl (tt_ne hk3 hk0 (by decide))) hf_299
          replace hf_305 := tr _ _ _ (Or.inr (by decide)) hf_305
          have hf_311 := hn
          replace hfr := hfr.put hk0 tr (by decide)
          refine jj_aload_n C dX1_quote_126 rfl ?_
          refine jj_iload C dX1_quote_127 rfl ?_
          refine jj_if_eqF (tgt := 167) C dX1_quote_129 (by decide) (by decide) ?_
          refine jj_aload_n C dX1_quote_132 rfl ?_
          refine tt_get C hok_310 jk_2 1 (by decide) jw_164 (t := (0, (-2147483648), 2147483647)) hk1 (by decide) rfl rfl dX1_quote_133 (fun v_312 hv_312 hf_313 => ?_)
          obtain ⟨x_314, rfl, lx_314, ux_314⟩ := tt_vi hv_312
          refine jj_iconst (v := 1) C dX1_quote_136 (by decide) ?_
          refine jj_icmp_ne (tgt := 167) C dX1_quote_137 (by decide) (fun c_315 => ?_) (fun c_315 => ?_)
          · have z_c_315 := jc_neq (a := (x_314).toInt) (b := (1)) c_315 rfl (by decide)
            refine jj_lconst (v := 0) C dX1_quote_167 (by decide) ?_
            refine tt_put C hok_310 jk_3 5 (by decide) jw_162 (t := (1, (-9223372036854775808), 9223372036854775807)) hk0 (by decide) rfl rfl rfl (tt_ja (0 : Int64)) rfl rfl dX1_quote_168 (fun pl_316 hok_317 tr hn => ?_)
            replace hf_2 := tr _ _ _ (Or.inl (tt_ne hk1 hk0 (by decide))) hf_2
            replace hf_245 := tr _ _ _ (Or.inl (tt_ne hk2 hk0 (by decide))) hf_245
            replace hf_265 := tr _ _ _ (Or.inl (tt_ne hk3 hk0 (by decide))) hf_265
            replace hf_285 := tr _ _ _ (Or.inl (tt_ne hk2 hk0 (by decide))) hf_285
            replace hf_292 := tr _ _ _ (Or.inr (by decide)) hf_292
            replace hf_297 := tr _ _ _ (Or.inr (by decide)) hf_297
            replace hf_299 := tr _ _ _ (Or.inl (tt_ne hk3 hk0 (by decide))) hf_299
            replace hf_305 := tr _ _ _ (Or.inr (by decide)) hf_305
            replace hf_311 := tr _ _ _ (Or.inr (by decide)) hf_311
            replace hf_313 := tr _ _ _ (Or.inl (tt_ne hk1 hk0 (by decide))) hf_313
            have hf_318 := hn
            replace hfr := hfr.put hk0 tr (by decide)
            exact jj_vret C ⟨[], pl_316, rfl, rfl, hok_317, hfr, rfl⟩ dX1_quote_171 (jj_le rfl) (jj_le rfl)
          · have z_c_315 := jc_eq (a := (x_314).toInt) (b := (1)) c_315 rfl (by decide)
            refine jj_lload C dX1_quote_140 rfl ?_
            refine jj_aload_n C dX1_quote_142 rfl ?_
            refine tt_get C hok_310 jk_5 4 (by decide) jw_165 (t := (1, (-9223372036854775808), 9223372036854775807)) hk3 (by decide) rfl rfl dX1_quote_143 (fun v_319 hv_319 hf_320 => ?_)
            obtain ⟨y_321, rfl, -, -⟩ := tt_vj hv_319
            refine jj_aload_n C dX1_quote_146 rfl ?_
            obtain ⟨qc, gs, hqc⟩ := tt_recv (cx := []) hok_310 hk2 (by decide) rfl
            refine tt_callV (rest := [.long y_321, .long p4, .ref h0]) C (tc_X8_grossPrice_1 hl D cA ak h2 hk2 hok_310) [] [] rfl rfl (by decide) (by decide) (by decide) qc hqc rfl rfl jw_166 jw_169 jw_170 jw_92 jw_167 jn_X8_grossPrice rfl (jj_le rfl) (jj_le rfl) (jj_le rfl) (jj_le rfl) (jj_le rfl) dX1_quote_147 rfl (fun _ _ _ hX => hX.elim) (fun rx pl_322 r O_325 => ?_)
            obtain ⟨rfl, hok_323, hr_324, hR_327⟩ := O_325
            replace hf_2 := hr_324.at hk1 (by decide) (by decide) hf_2
            replace hf_245 := hr_324.at hk2 (by decide) (by decide) hf_245
            replace hf_265 := hr_324.at hk3 (by decide) (by decide) hf_265
            replace hf_285 := hr_324.at hk2 (by decide) (by decide) hf_285
            replace hf_292 := hr_324.at hk0 (by decide) (by decide) hf_292
            replace hf_297 := hr_324.at hk0 (by decide) (by decide) hf_297
            replace hf_299 := hr_324.at hk3 (by decide) (by decide) hf_299
            replace hf_305 := hr_324.at hk0 (by decide) (by decide) hf_305
            replace hf_311 := hr_324.at hk0 (by decide) (by decide) hf_311
            replace hf_313 := hr_324.at hk1 (by decide) (by decide) hf_313
            replace hf_320 := hr_324.at hk3 (by decide) (by decide) hf_320
            replace hfr := hfr.trans (hr_324.sub (by decide))
            rcases hR_327 with rfl | ⟨y_328, rfl⟩
            · refine jj_aload_n C dX1_quote_150 rfl ?_
              refine tt_get C hok_323 jk_9 4 (by decide) jw_172 (t := (1, (-9223372036854775808), 9223372036854775807)) hk2 (by decide) rfl rfl dX1_quote_151 (fun v_329 hv_329 hf_330 => ?_)
              obtain ⟨y_331, rfl, -, -⟩ := tt_vj hv_329
              refine tt_call0S (rest := [.long y_321, .long p4, .ref h0]) C (ct_J9_min_f86c9_3 hl D cA ak y_331) jw_142 jw_145 jw_144 jw_143 jn_J9_min_f86c9 rfl (jj_le rfl) (jj_le rfl) (jj_le rfl) (jj_le rfl) (jj_le rfl) dX1_quote_154 rfl (fun w1 r O_332 => ?_)
              rcases O_332 with ⟨c_333, -, rfl⟩ | ⟨c_334, -, rfl⟩
              · refine jj_aload_n C dX1_quote_157 rfl ?_
                refine tt_getF C hok_323 jk_2 3 (by decide) jw_149 (t := (0, (-2147483648), 2147483647)) hk1 (by decide) rfl rfl hf_2 dX1_quote_158 ?_
                refine tt_callS (rest := [.ref h0]) C (tc_X2_dueOn_1 hl D cA ak p4 y_321 y_331 x_3 hok_323) [] [] rfl rfl (by decide) (by decide) (by decide) jw_173 jw_178 jw_175 jw_174 jn_X2_dueOn rfl (jj_le rfl) (jj_le rfl) (jj_le rfl) (jj_le rfl) (jj_le rfl) dX1_quote_161 rfl (fun _ _ _ hX => hX.elim) (fun rx pl_335 r O_338 => ?_)
                obtain ⟨rfl, hok_336, hr_337, hR_340⟩ := O_338
                replace hf_2 := hr_337.at hk1 (by decide) (by decide) hf_2
                replace hf_245 := hr_337.at hk2 (by decide) (by decide) hf_245
                replace hf_265 := hr_337.at hk3 (by decide) (by decide) hf_265
                replace hf_285 := hr_337.at hk2 (by decide) (by decide) hf_285
                replace hf_292 := hr_337.at hk0 (by decide) (by decide) hf_292
                replace hf_297 := hr_337.at hk0 (by decide) (by decide) hf_297
                replace hf_299 := hr_337.at hk3 (by decide) (by decide) hf_299
                replace hf_305 := hr_337.at hk0 (by decide) (by decide) hf_305
                replace hf_311 := hr_337.at hk0 (by decide) (by decide) hf_311
                replace hf_313 := hr_337.at hk1 (by decide) (by decide) hf_313
                replace hf_320 := hr_337.at hk3 (by decide) (by decide) hf_320
                replace hf_330 := hr_337.at hk2 (by decide) (by decide) hf_330
                replace hfr := hfr.trans (hr_337.sub (by decide))
                rcases hR_340 with rfl | ⟨y_341, rfl⟩
                · refine jj_goto (tgt := 168) C dX1_quote_164 (by decide) ?_
                  refine tt_put C hok_336 jk_3 5 (by decide) jw_162 (t := (1, (-9223372036854775808), 9223372036854775807)) hk0 (by decide) rfl rfl rfl (tt_ja (0 : Int64)) rfl rfl dX1_quote_168 (fun pl_342 hok_343 tr hn => ?_)
                  replace hf_2 := tr _ _ _ (Or.inl (tt_ne hk1 hk0 (by decide))) hf_2
                  replace hf_245 := tr _ _ _ (Or.inl (tt_ne hk2 hk0 (by decide))) hf_245
                  replace hf_265 := tr _ _ _ (Or.inl (tt_ne hk3 hk0 (by decide))) hf_265
                  replace hf_285 := tr _ _ _ (Or.inl (tt_ne hk2 hk0 (by decide))) hf_285
                  replace hf_292 := tr _ _ _ (Or.inr (by decide)) hf_292
                  replace hf_297 := tr _ _ _ (Or.inr (by decide)) hf_297
                  replace hf_299 := tr _ _ _ (Or.inl (tt_ne hk3 hk0 (by decide))) hf_299
                  replace hf_305 := tr _ _ _ (Or.inr (by decide)) hf_305
                  replace hf_311 := tr _ _ _ (Or.inr (by decide)) hf_311
                  replace hf_313 := tr _ _ _ (Or.inl (tt_ne hk1 hk0 (by decide))) hf_313
                  replace hf_320 := tr _ _ _ (Or.inl (tt_ne hk3 hk0 (by decide))) hf_320
                  replace hf_330 := tr _ _ _ (Or.inl (tt_ne hk2 hk0 (by decide))) hf_330
                  have hf_344 := hn
                  replace hfr := hfr.put hk0 tr (by decide)
                  exact jj_vret C ⟨[], pl_342, rfl, rfl, hok_343, hfr, rfl⟩ dX1_quote_171 (jj_le rfl) (jj_le rfl)
                · refine jj_goto (tgt := 168) C dX1_quote_164 (by decide) ?_
                  refine tt_put C hok_336 jk_3 5 (by decide) jw_162 (t := (1, (-9223372036854775808), 9223372036854775807)) hk0 (by decide) rfl rfl rfl (tt_ja y_341) rfl rfl dX1_quote_168 (fun pl_345 hok_346 tr hn => ?_)
                  replace hf_2 := tr _ _ _ (Or.inl (tt_ne hk1 hk0 (by decide))) hf_2
                  replace hf_245 := tr _ _ _ (Or.inl (tt_ne hk2 hk0 (by decide))) hf_245
                  replace hf_265 := tr _ _ _ (Or.inl (tt_ne hk3 hk0 (by decide))) hf_265
                  replace hf_285 := tr _ _ _ (Or.inl (tt_ne hk2 hk0 (by decide))) hf_285
                  replace hf_292 := tr _ _ _ (Or.inr (by decide)) hf_292
                  replace hf_297 := tr _ _ _ (Or.inr (by decide)) hf_297
                  replace hf_299 := tr _ _ _ (Or.inl (tt_ne hk3 hk0 (by decide))) hf_299
                  replace hf_305 := tr _ _ _ (Or.inr (by decide)) hf_305
                  replace hf_311 := tr _ _ _ (Or.inr (by decide)) hf_311
                  replace hf_313 := tr _ _ _ (Or.inl (tt_ne hk1 hk0 (by decide))) hf_313
                  replace hf_320 := tr _ _ _ (Or.inl (tt_ne hk3 hk0 (by decide))) hf_320
                  replace hf_330 := tr _ _ _ (Or.inl (tt_ne hk2 hk0 (by decide))) hf_330
                  have hf_347 := hn
                  replace hfr := hfr.put hk0 tr (by decide)
                  exact jj_vret C ⟨[], pl_345, rfl, rfl, hok_346, hfr, rfl⟩ dX1_quote_171 (jj_le rfl) (jj_le rfl)
              · refine jj_aload_n C dX1_quote_157 rfl ?_
                refine tt_getF C hok_323 jk_2 3 (by decide) jw_149 (t := (0, (-2147483648), 2147483647)) hk1 (by decide) rfl rfl hf_2 dX1_quote_158 ?_
                refine tt_callS (rest := [.ref h0]) C (tc_X2_dueOn_2 hl D cA ak p4 y_321 x_3 hok_323) [] [] rfl rfl (by decide) (by decide) (by decide) jw_173 jw_178 jw_175 jw_174 jn_X2_dueOn rfl (jj_le rfl) (jj_le rfl) (jj_le rfl) (jj_le rfl) (jj_le rfl) dX1_quote_161 rfl (fun _ _ _ hX => hX.elim) (fun rx pl_348 r O_351 => ?_)
                obtain ⟨rfl, hok_349, hr_350, hR_353⟩ := O_351
                replace hf_2 := hr_350.at hk1 (by decide) (by decide) hf_2
                replace hf_245 := hr_350.at hk2 (by decide) (by decide) hf_245
                replace hf_265 := hr_350.at hk3 (by decide) (by decide) hf_265
                replace hf_285 := hr_350.at hk2 (by decide) (by decide) hf_285
                replace hf_292 := hr_350.at hk0 (by decide) (by decide) hf_292
                replace hf_297 := hr_350.at hk0 (by decide) (by decide) hf_297
                replace hf_299 := hr_350.at hk3 (by decide) (by decide) hf_299
                replace hf_305 := hr_350.at hk0 (by decide) (by decide) hf_305
                replace hf_311 := hr_350.at hk0 (by decide) (by decide) hf_311
                replace hf_313 := hr_350.at hk1 (by decide) (by decide) hf_313
                replace hf_320 := hr_350.at hk3 (by decide) (by decide) hf_320
                replace hf_330 := hr_350.at hk2 (by decide) (by decide) hf_330
                replace hfr := hfr.trans (hr_350.sub (by decide))
                rcases hR_353 with rfl | ⟨y_354, rfl⟩
                · refine jj_goto (tgt := 168) C dX1_quote_164 (by decide) ?_
                  refine tt_put C hok_349 jk_3 5 (by decide) jw_162 (t := (1, (-9223372036854775808), 9223372036854775807)) hk0 (by decide) rfl rfl rfl (tt_ja (0 : Int64)) rfl rfl dX1_quote_168 (fun pl_355 hok_356 tr hn => ?_)
                  replace hf_2 := tr _ _ _ (Or.inl (tt_ne hk1 hk0 (by decide))) hf_2
                  replace hf_245 := tr _ _ _ (Or.inl (tt_ne hk2 hk0 (by decide))) hf_245
                  replace hf_265 := tr _ _ _ (Or.inl (tt_ne hk3 hk0 (by decide))) hf_265
                  replace hf_285 := tr _ _ _ (Or.inl (tt_ne hk2 hk0 (by decide))) hf_285
                  replace hf_292 := tr _ _ _ (Or.inr (by decide)) hf_292
                  replace hf_297 := tr _ _ _ (Or.inr (by decide)) hf_297
                  replace hf_299 := tr _ _ _ (Or.inl (tt_ne hk3 hk0 (by decide))) hf_299
                  replace hf_305 := tr _ _ _ (Or.inr (by decide)) hf_305
                  replace hf_311 := tr _ _ _ (Or.inr (by decide)) hf_311
                  replace hf_313 := tr _ _ _ (Or.inl (tt_ne hk1 hk0 (by decide))) hf_313
                  replace hf_320 := tr _ _ _ (Or.inl (tt_ne hk3 hk0 (by decide))) hf_320
                  replace hf_330 := tr _ _ _ (Or.inl (tt_ne hk2 hk0 (by decide))) hf_330
                  have hf_357 := hn
                  replace hfr := hfr.put hk0 tr (by decide)
                  exact jj_vret C ⟨[], pl_355, rfl, rfl, hok_356, hfr, rfl⟩ dX1_quote_171 (jj_le rfl) (jj_le rfl)
                · refine jj_goto (tgt := 168) C dX1_quote_164 (by decide) ?_
                  refine tt_put C hok_349 jk_3 5 (by decide) jw_162 (t := (1, (-9223372036854775808), 9223372036854775807)) hk0 (by decide) rfl rfl rfl (tt_ja y_354) rfl rfl dX1_quote_168 (fun pl_358 hok_359 tr hn => ?_)
                  replace hf_2 := tr _ _ _ (Or.inl (tt_ne hk1 hk0 (by decide))) hf_2
                  replace hf_245 := tr _ _ _ (Or.inl (tt_ne hk2 hk0 (by decide))) hf_245
                  replace hf_265 := tr _ _ _ (Or.inl (tt_ne hk3 hk0 (by decide))) hf_265
                  replace hf_285 := tr _ _ _ (Or.inl (tt_ne hk2 hk0 (by decide))) hf_285
                  replace hf_292 := tr _ _ _ (Or.inr (by decide)) hf_292
                  replace hf_297 := tr _ _ _ (Or.inr (by decide)) hf_297
                  replace hf_299 := tr _ _ _ (Or.inl (tt_ne hk3 hk0 (by decide))) hf_299
                  replace hf_305 := tr _ _ _ (Or.inr (by decide)) hf_305
                  replace hf_311 := tr _ _ _ (Or.inr (by decide)) hf_311
                  replace hf_313 := tr _ _ _ (Or.inl (tt_ne hk1 hk0 (by decide))) hf_313
                  replace hf_320 := tr _ _ _ (Or.inl (tt_ne hk3 hk0 (by decide))) hf_320
                  replace hf_330 := tr _ _ _ (Or.inl (tt_ne hk2 hk0 (by decide))) hf_330
                  have hf_360 := hn
                  replace hfr := hfr.put hk0 tr (by decide)
                  exact jj_vret C ⟨[], pl_358, rfl, rfl, hok_359, hfr, rfl⟩ dX1_quote_171 (jj_le rfl) (jj_le rfl)
            · refine jj_aload_n C dX1_quote_150 rfl ?_
              refine tt_get C hok_323 jk_9 4 (by decide) jw_172 (t := (1, (-9223372036854775808), 9223372036854775807)) hk2 (by decide) rfl rfl dX1_quote_151 (fun v_361 hv_361 hf_362 => ?_)
              obtain ⟨y_363, rfl, -, -⟩ := tt_vj hv_361
              refine tt_call0S (rest := [.long y_321, .long p4, .ref h0]) C (ct_J9_min_f86c9_1 hl D cA ak y_328 y_363) jw_142 jw_145 jw_144 jw_143 jn_J9_min_f86c9 rfl (jj_le rfl) (jj_le rfl) (jj_le rfl) (jj_le rfl) (jj_le rfl) dX1_quote_154 rfl (fun w1 r O_364 => ?_)
              rcases O_364 with ⟨c_365, -, rfl⟩ | ⟨c_366, -, rfl⟩
              · refine jj_aload_n C dX1_quote_157 rfl ?_
                refine tt_getF C hok_323 jk_2 3 (by decide) jw_149 (t := (0, (-2147483648), 2147483647)) hk1 (by decide) rfl rfl hf_2 dX1_quote_158 ?_
                refine tt_callS (rest := [.ref h0]) C (tc_X2_dueOn_1 hl D cA ak p4 y_321 y_363 x_3 hok_323) [] [] rfl rfl (by decide) (by decide) (by decide) jw_173 jw_178 jw_175 jw_174 jn_X2_dueOn rfl (jj_le rfl) (jj_le rfl) (jj_le rfl) (jj_le rfl) (jj_le rfl) dX1_quote_161 rfl (fun _ _ _ hX => hX.elim) (fun rx pl_367 r O_370 => ?_)
                obtain ⟨rfl, hok_368, hr_369, hR_372⟩ := O_370
                replace hf_2 := hr_369.at hk1 (by decide) (by decide) hf_2
                replace hf_245 := hr_369.at hk2 (by decide) (by decide) hf_245
                replace hf_265 := hr_369.at hk3 (by decide) (by decide) hf_265
                replace hf_285 := hr_369.at hk2 (by decide) (by decide) hf_285
                replace hf_292 := hr_369.at hk0 (by decide) (by decide) hf_292
                replace hf_297 := hr_369.at hk0 (by decide) (by decide) hf_297
                replace hf_299 := hr_369.at hk3 (by decide) (by decide) hf_299
                replace hf_305 := hr_369.at hk0 (by decide) (by decide) hf_305
                replace hf_311 := hr_369.at hk0 (by decide) (by decide) hf_311
                replace hf_313 := hr_369.at hk1 (by decide) (by decide) hf_313
                replace hf_320 := hr_369.at hk3 (by decide) (by decide) hf_320
                replace hf_362 := hr_369.at hk2 (by decide) (by decide) hf_362
                replace hfr := hfr.trans (hr_369.sub (by decide))
                rcases hR_372 with rfl | ⟨y_373, rfl⟩
                · refine jj_goto (tgt := 168) C dX1_quote_164 (by decide) ?_
                  refine tt_put C hok_368 jk_3 5 (by decide) jw_162 (t := (1, (-9223372036854775808), 9223372036854775807)) hk0 (by decide) rfl rfl rfl (tt_ja (0 : Int64)) rfl rfl dX1_quote_168 (fun pl_374 hok_375 tr hn => ?_)
                  replace hf_2 := tr _ _ _ (Or.inl (tt_ne hk1 hk0 (by decide))) hf_2
                  replace hf_245 := tr _ _ _ (Or.inl (tt_ne hk2 hk0 (by decide))) hf_245
                  replace hf_265 := tr _ _ _ (Or.inl (tt_ne hk3 hk0 (by decide))) hf_265
                  replace hf_285 := tr _ _ _ (Or.inl (tt_ne hk2 hk0 (by decide))) hf_285
                  replace hf_292 := tr _ _ _ (Or.inr (by decide)) hf_292
                  replace hf_297 := tr _ _ _ (Or.inr (by decide)) hf_297
                  replace hf_299 := tr _ _ _ (Or.inl (tt_ne hk3 hk0 (by decide))) hf_299
                  replace hf_305 := tr _ _ _ (Or.inr (by decide)) hf_305
                  replace hf_311 := tr _ _ _ (Or.inr (by decide)) hf_311
                  replace hf_313 := tr _ _ _ (Or.inl (tt_ne hk1 hk0 (by decide))) hf_313
                  replace hf_320 := tr _ _ _ (Or.inl (tt_ne hk3 hk0 (by decide))) hf_320
                  replace hf_362 := tr _ _ _ (Or.inl (tt_ne hk2 hk0 (by decide))) hf_362
                  have hf_376 := hn
                  replace hfr := hfr.put hk0 tr (by decide)
                  exact jj_vret C ⟨[], pl_374, rfl, rfl, hok_375, hfr, rfl⟩ dX1_quote_171 (jj_le rfl) (jj_le rfl)
                · refine jj_goto (tgt := 168) C dX1_quote_164 (by decide) ?_
                  refine tt_put C hok_368 jk_3 5 (by decide) jw_162 (t := (1, (-9223372036854775808), 9223372036854775807)) hk0 (by decide) rfl rfl rfl (tt_ja y_373) rfl rfl dX1_quote_168 (fun pl_377 hok_378 tr hn => ?_)
                  replace hf_2 := tr _ _ _ (Or.inl (tt_ne hk1 hk0 (by decide))) hf_2
                  replace hf_245 := tr _ _ _ (Or.inl (tt_ne hk2 hk0 (by decide))) hf_245
                  replace hf_265 := tr _ _ _ (Or.inl (tt_ne hk3 hk0 (by decide))) hf_265
                  replace hf_285 := tr _ _ _ (Or.inl (tt_ne hk2 hk0 (by decide))) hf_285
                  replace hf_292 := tr _ _ _ (Or.inr (by decide)) hf_292
                  replace hf_297 := tr _ _ _ (Or.inr (by decide)) hf_297
                  replace hf_299 := tr _ _ _ (Or.inl (tt_ne hk3 hk0 (by decide))) hf_299
                  replace hf_305 := tr _ _ _ (Or.inr (by decide)) hf_305
                  replace hf_311 := tr _ _ _ (Or.inr (by decide)) hf_311
                  replace hf_313 := tr _ _ _ (Or.inl (tt_ne hk1 hk0 (by decide))) hf_313
                  replace hf_320 := tr _ _ _ (Or.inl (tt_ne hk3 hk0 (by decide))) hf_320
                  replace hf_362 := tr _ _ _ (Or.inl (tt_ne hk2 hk0 (by decide))) hf_362
                  have hf_379 := hn
                  replace hfr := hfr.put hk0 tr (by decide)
                  exact jj_vret C ⟨[], pl_377, rfl, rfl, hok_378, hfr, rfl⟩ dX1_quote_171 (jj_le rfl) (jj_le rfl)
              · refine jj_aload_n C dX1_quote_157 rfl ?_
                refine tt_getF C hok_323 jk_2 3 (by decide) jw_149 (t := (0, (-2147483648), 2147483647)) hk1 (by decide) rfl rfl hf_2 dX1_quote_158 ?_
                refine tt_callS (rest := [.ref h0]) C (tc_X2_dueOn_1 hl D cA ak p4 y_321 y_328 x_3 hok_323) [] [] rfl rfl (by decide) (by decide) (by decide) jw_173 jw_178 jw_175 jw_174 jn_X2_dueOn rfl (jj_le rfl) (jj_le rfl) (jj_le rfl) (jj_le rfl) (jj_le rfl) dX1_quote_161 rfl (fun _ _ _ hX => hX.elim) (fun rx pl_380 r O_383 => ?_)
                obtain ⟨rfl, hok_381, hr_382, hR_385⟩ := O_383
                replace hf_2 := hr_382.at hk1 (by decide) (by decide) hf_2
                replace hf_245 := hr_382.at hk2 (by decide) (by decide) hf_245
                replace hf_265 := hr_382.at hk3 (by decide) (by decide) hf_265
                replace hf_285 := hr_382.at hk2 (by decide) (by decide) hf_285
                replace hf_292 := hr_382.at hk0 (by decide) (by decide) hf_292
                replace hf_297 := hr_382.at hk0 (by decide) (by decide) hf_297
                replace hf_299 := hr_382.at hk3 (by decide) (by decide) hf_299
                replace hf_305 := hr_382.at hk0 (by decide) (by decide) hf_305
                replace hf_311 := hr_382.at hk0 (by decide) (by decide) hf_311
                replace hf_313 := hr_382.at hk1 (by decide) (by decide) hf_313
                replace hf_320 := hr_382.at hk3 (by decide) (by decide) hf_320
                replace hf_362 := hr_382.at hk2 (by decide) (by decide) hf_362
                replace hfr := hfr.trans (hr_382.sub (by decide))
                rcases hR_385 with rfl | ⟨y_386, rfl⟩
                · refine jj_goto (tgt := 168) C dX1_quote_164 (by decide) ?_
                  refine tt_put C hok_381 jk_3 5 (by decide) jw_162 (t := (1, (-9223372036854775808), 9223372036854775807)) hk0 (by decide) rfl rfl rfl (tt_ja (0 : Int64)) rfl rfl dX1_quote_168 (fun pl_387 hok_388 tr hn => ?_)
                  replace hf_2 := tr _ _ _ (Or.inl (tt_ne hk1 hk0 (by decide))) hf_2
                  replace hf_245 := tr _ _ _ (Or.inl (tt_ne hk2 hk0 (by decide))) hf_245
                  replace hf_265 := tr _ _ _ (Or.inl (tt_ne hk3 hk0 (by decide))) hf_265
                  replace hf_285 := tr _ _ _ (Or.inl (tt_ne hk2 hk0 (by decide))) hf_285
                  replace hf_292 := tr _ _ _ (Or.inr (by decide)) hf_292
                  replace hf_297 := tr _ _ _ (Or.inr (by decide)) hf_297
                  replace hf_299 := tr _ _ _ (Or.inl (tt_ne hk3 hk0 (by decide))) hf_299
                  replace hf_305 := tr _ _ _ (Or.inr (by decide)) hf_305
                  replace hf_311 := tr _ _ _ (Or.inr (by decide)) hf_311
                  replace hf_313 := tr _ _ _ (Or.inl (tt_ne hk1 hk0 (by decide))) hf_313
                  replace hf_320 := tr _ _ _ (Or.inl (tt_ne hk3 hk0 (by decide))) hf_320
                  replace hf_362 := tr _ _ _ (Or.inl (tt_ne hk2 hk0 (by decide))) hf_362
                  have hf_389 := hn
                  replace hfr := hfr.put hk0 tr (by decide)
                  exact jj_vret C ⟨[], pl_387, rfl, rfl, hok_388, hfr, rfl⟩ dX1_quote_171 (jj_le rfl) (jj_le rfl)
                · refine jj_goto (tgt := 168) C dX1_quote_164 (by decide) ?_
                  refine tt_put C hok_381 jk_3 5 (by decide) jw_162 (t := (1, (-9223372036854775808), 9223372036854775807)) hk0 (by decide) rfl rfl rfl (tt_ja y_386) rfl rfl dX1_quote_168 (fun pl_390 hok_391 tr hn => ?_)
                  replace hf_2 := tr _ _ _ (Or.inl (tt_ne hk1 hk0 (by decide))) hf_2
                  replace hf_245 := tr _ _ _ (Or.inl (tt_ne hk2 hk0 (by decide))) hf_245
                  replace hf_265 := tr _ _ _ (Or.inl (tt_ne hk3 hk0 (by decide))) hf_265
                  replace hf_285 := tr _ _ _ (Or.inl (tt_ne hk2 hk0 (by decide))) hf_285
                  replace hf_292 := tr _ _ _ (Or.inr (by decide)) hf_292
                  replace hf_297 := tr _ _ _ (Or.inr (by decide)) hf_297
                  replace hf_299 := tr _ _ _ (Or.inl (tt_ne hk3 hk0 (by decide))) hf_299
                  replace hf_305 := tr _ _ _ (Or.inr (by decide)) hf_305
                  replace hf_311 := tr _ _ _ (Or.inr (by decide)) hf_311
                  replace hf_313 := tr _ _ _ (Or.inl (tt_ne hk1 hk0 (by decide))) hf_313
                  replace hf_320 := tr _ _ _ (Or.inl (tt_ne hk3 hk0 (by decide))) hf_320
                  replace hf_362 := tr _ _ _ (Or.inl (tt_ne hk2 hk0 (by decide))) hf_362
                  have hf_392 := hn
                  replace hfr := hfr.put hk0 tr (by decide)
                  exact jj_vret C ⟨[], pl_390, rfl, rfl, hok_391, hfr, rfl⟩ dX1_quote_171 (jj_le rfl) (jj_le rfl)
        · refine tt_put C hok_304 jk_3 4 (by decide) jw_161 (t := (1, (-9223372036854775808), 9223372036854775807)) hk0 (by decide) rfl rfl rfl (tt_ja y_294) rfl rfl dX1_quote_123 (fun pl_393 hok_394 tr hn => ?_)
          replace hf_2 := tr _ _ _ (Or.inl (tt_ne hk1 hk0 (by decide))) hf_2
          replace hf_245 := tr _ _ _ (Or.inl (tt_ne hk2 hk0 (by decide))) hf_245
          replace hf_265 := tr _ _ _ (Or.inl (tt_ne hk3 hk0 (by decide))) hf_265
          replace hf_285 := tr _ _ _ (Or.inl (tt_ne hk2 hk0 (by decide))) hf_285
          replace hf_292 := tr _ _ _ (Or.inr (by decide)) hf_292
          replace hf_297 := tr _ _ _ (Or.inr (by decide)) hf_297
          replace hf_299 := tr _ _ _ (Or.inl (tt_ne hk3 hk0 (by decide))) hf_299
          replace hf_305 := tr _ _ _ (Or.inr (by decide)) hf_305
          have hf_395 := hn
          replace hfr := hfr.put hk0 tr (by decide)
          refine jj_aload_n C dX1_quote_126 rfl ?_
          refine jj_iload C dX1_quote_127 rfl ?_
          refine jj_if_eqF (tgt := 167) C dX1_quote_129 (by decide) (by decide) ?_
          refine jj_aload_n C dX1_quote_132 rfl ?_
          refine tt_get C hok_394 jk_2 1 (by decide) jw_164 (t := (0, (-2147483648), 2147483647)) hk1 (by decide) rfl rfl dX1_quote_133 (fun v_396 hv_396 hf_397 => ?_)
          obtain ⟨x_398, rfl, lx_398, ux_398⟩ := tt_vi hv_396
          refine jj_iconst (v := 1) C dX1_quote_136 (by decide) ?_
          refine jj_icmp_ne (tgt := 167) C dX1_quote_137 (by decide) (fun c_399 => ?_) (fun c_399 => ?_)
          · have z_c_399 := jc_neq (a := (x_398).toInt) (b := (1)) c_399 rfl (by decide)
            refine jj_lconst (v := 0) C dX1_quote_167 (by decide) ?_
            refine tt_put C hok_394 jk_3 5 (by decide) jw_162 (t := (1, (-9223372036854775808), 9223372036854775807)) hk0 (by decide) rfl rfl rfl (tt_ja (0 : Int64)) rfl rfl dX1_quote_168 (fun pl_400 hok_401 tr hn => ?_)
            replace hf_2 := tr _ _ _ (Or.inl (tt_ne hk1 hk0 (by decide))) hf_2
            replace hf_245 := tr _ _ _ (Or.inl (tt_ne hk2 hk0 (by decide))) hf_245
            replace hf_265 := tr _ _ _ (Or.inl (tt_ne hk3 hk0 (by decide))) hf_265
            replace hf_285 := tr _ _ _ (Or.inl (tt_ne hk2 hk0 (by decide))) hf_285
            replace hf_292 := tr _ _ _ (Or.inr (by decide)) hf_292
            replace hf_297 := tr _ _ _ (Or.inr (by decide)) hf_297
            replace hf_299 := tr _ _ _ (Or.inl (tt_ne hk3 hk0 (by decide))) hf_299
            replace hf_305 := tr _ _ _ (Or.inr (by decide)) hf_305
            replace hf_395 := tr _ _ _ (Or.inr (by decide)) hf_395
            replace hf_397 := tr _ _ _ (Or.inl (tt_ne hk1 hk0 (by decide))) hf_397
            have hf_402 := hn
            replace hfr := hfr.put hk0 tr (by decide)
            exact jj_vret C ⟨[], pl_400, rfl, rfl, hok_401, hfr, rfl⟩ dX1_quote_171 (jj_le rfl) (jj_le rfl)
          · have z_c_399 := jc_eq (a := (x_398).toInt) (b := (1)) c_399 rfl (by decide)
            refine jj_lload C dX1_quote_140 rfl ?_
            refine jj_aload_n C dX1_quote_142 rfl ?_
            refine tt_get C hok_394 jk_5 4 (by decide) jw_165 (t := (1, (-9223372036854775808), 9223372036854775807)) hk3 (by decide) rfl rfl dX1_quote_143 (fun v_403 hv_403 hf_404 => ?_)
            obtain ⟨y_405, rfl, -, -⟩ := tt_vj hv_403
            refine jj_aload_n C dX1_quote_146 rfl ?_
            obtain ⟨qc, gs, hqc⟩ := tt_recv (cx := []) hok_394 hk2 (by decide) rfl
            refine tt_callV (rest := [.long y_405, .long p4, .ref h0]) C (tc_X8_grossPrice_1 hl D cA ak h2 hk2 hok_394) [] [] rfl rfl (by decide) (by decide) (by decide) qc hqc rfl rfl jw_166 jw_169 jw_170 jw_92 jw_167 jn_X8_grossPrice rfl (jj_le rfl) (jj_le rfl) (jj_le rfl) (jj_le rfl) (jj_le rfl) dX1_quote_147 rfl (fun _ _ _ hX => hX.elim) (fun rx pl_406 r O_409 => ?_)
            obtain ⟨rfl, hok_407, hr_408, hR_411⟩ := O_409
            replace hf_2 := hr_408.at hk1 (by decide) (by decide) hf_2
            replace hf_245 := hr_408.at hk2 (by decide) (by decide) hf_245
            replace hf_265 := hr_408.at hk3 (by decide) (by decide) hf_265
            replace hf_285 := hr_408.at hk2 (by decide) (by decide) hf_285
            replace hf_292 := hr_408.at hk0 (by decide) (by decide) hf_292
            replace hf_297 := hr_408.at hk0 (by decide) (by decide) hf_297
            replace hf_299 := hr_408.at hk3 (by decide) (by decide) hf_299
            replace hf_305 := hr_408.at hk0 (by decide) (by decide) hf_305
            replace hf_395 := hr_408.at hk0 (by decide) (by decide) hf_395
            replace hf_397 := hr_408.at hk1 (by decide) (by decide) hf_397
            replace hf_404 := hr_408.at hk3 (by decide) (by decide) hf_404
            replace hfr := hfr.trans (hr_408.sub (by decide))
            rcases hR_411 with rfl | ⟨y_412, rfl⟩
            · refine jj_aload_n C dX1_quote_150 rfl ?_
              refine tt_get C hok_407 jk_9 4 (by decide) jw_172 (t := (1, (-9223372036854775808), 9223372036854775807)) hk2 (by decide) rfl rfl dX1_quote_151 (fun v_413 hv_413 hf_414 => ?_)
              obtain ⟨y_415, rfl, -, -⟩ := tt_vj hv_413
              refine tt_call0S (rest := [.long y_405, .long p4, .ref h0]) C (ct_J9_min_f86c9_3 hl D cA ak y_415) jw_142 jw_145 jw_144 jw_143 jn_J9_min_f86c9 rfl (jj_le rfl) (jj_le rfl) (jj_le rfl) (jj_le rfl) (jj_le rfl) dX1_quote_154 rfl (fun w1 r O_416 => ?_)
              rcases O_416 with ⟨c_417, -, rfl⟩ | ⟨c_418, -, rfl⟩
              · refine jj_aload_n C dX1_quote_157 rfl ?_
                refine tt_getF C hok_407 jk_2 3 (by decide) jw_149 (t := (0, (-2147483648), 2147483647)) hk1 (by decide) rfl rfl hf_2 dX1_quote_158 ?_
                refine tt_callS (rest := [.ref h0]) C (tc_X2_dueOn_1 hl D cA ak p4 y_405 y_415 x_3 hok_407) [] [] rfl rfl (by decide) (by decide) (by decide) jw_173 jw_178 jw_175 jw_174 jn_X2_dueOn rfl (jj_le rfl) (jj_le rfl) (jj_le rfl) (jj_le rfl) (jj_le rfl) dX1_quote_161 rfl (fun _ _ _ hX => hX.elim) (fun rx pl_419 r O_422 => ?_)
                obtain ⟨rfl, hok_420, hr_421, hR_424⟩ := O_422
                replace hf_2 := hr_421.at hk1 (by decide) (by decide) hf_2
                replace hf_245 := hr_421.at hk2 (by decide) (by decide) hf_245
                replace hf_265 := hr_421.at hk3 (by decide) (by decide) hf_265
                replace hf_285 := hr_421.at hk2 (by decide) (by decide) hf_285
                replace hf_292 := hr_421.at hk0 (by decide) (by decide) hf_292
                replace hf_297 := hr_421.at hk0 (by decide) (by decide) hf_297
                replace hf_299 := hr_421.at hk3 (by decide) (by decide) hf_299
                replace hf_305 := hr_421.at hk0 (by decide) (by decide) hf_305
                replace hf_395 := hr_421.at hk0 (by decide) (by decide) hf_395
                replace hf_397 := hr_421.at hk1 (by decide) (by decide) hf_397
                replace hf_404 := hr_421.at hk3 (by decide) (by decide) hf_404
                replace hf_414 := hr_421.at hk2 (by decide) (by decide) hf_414
                replace hfr := hfr.trans (hr_421.sub (by decide))
                rcases hR_424 with rfl | ⟨y_425, rfl⟩
                · refine jj_goto (tgt := 168) C dX1_quote_164 (by decide) ?_
                  refine tt_put C hok_420 jk_3 5 (by decide) jw_162 (t := (1, (-9223372036854775808), 9223372036854775807)) hk0 (by decide) rfl rfl rfl (tt_ja (0 : Int64)) rfl rfl dX1_quote_168 (fun pl_426 hok_427 tr hn => ?_)
                  replace hf_2 := tr _ _ _ (Or.inl (tt_ne hk1 hk0 (by decide))) hf_2
                  replace hf_245 := tr _ _ _ (Or.inl (tt_ne hk2 hk0 (by decide))) hf_245
                  replace hf_265 := tr _ _ _ (Or.inl (tt_ne hk3 hk0 (by decide))) hf_265
                  replace hf_285 := tr _ _ _ (Or.inl (tt_ne hk2 hk0 (by decide))) hf_285
                  replace hf_292 := tr _ _ _ (Or.inr (by decide)) hf_292
                  replace hf_297 := tr _ _ _ (Or.inr (by decide)) hf_297
                  replace hf_299 := tr _ _ _ (Or.inl (tt_ne hk3 hk0 (by decide))) hf_299
                  replace hf_305 := tr _ _ _ (Or.inr (by decide)) hf_305
                  replace hf_395 := tr _ _ _ (Or.inr (by decide)) hf_395
                  replace hf_397 := tr _ _ _ (Or.inl (tt_ne hk1 hk0 (by decide))) hf_397
                  replace hf_404 := tr _ _ _ (Or.inl (tt_ne hk3 hk0 (by decide))) hf_404
                  replace hf_414 := tr _ _ _ (Or.inl (tt_ne hk2 hk0 (by decide))) hf_414
                  have hf_428 := hn
                  replace hfr := hfr.put hk0 tr (by decide)
                  exact jj_vret C ⟨[], pl_426, rfl, rfl, hok_427, hfr, rfl⟩ dX1_quote_171 (jj_le rfl) (jj_le rfl)
                · refine jj_goto (tgt := 168) C dX1_quote_164 (by decide) ?_
                  refine tt_put C hok_420 jk_3 5 (by decide) jw_162 (t := (1, (-9223372036854775808), 9223372036854775807)) hk0 (by decide) rfl rfl rfl (tt_ja y_425) rfl rfl dX1_quote_168 (fun pl_429 hok_430 tr hn => ?_)
                  replace hf_2 := tr _ _ _ (Or.inl (tt_ne hk1 hk0 (by decide))) hf_2
                  replace hf_245 := tr _ _ _ (Or.inl (tt_ne hk2 hk0 (by decide))) hf_245
                  replace hf_265 := tr _ _ _ (Or.inl (tt_ne hk3 hk0 (by decide))) hf_265
                  replace hf_285 := tr _ _ _ (Or.inl (tt_ne hk2 hk0 (by decide))) hf_285
                  replace hf_292 := tr _ _ _ (Or.inr (by decide)) hf_292
                  replace hf_297 := tr _ _ _ (Or.inr (by decide)) hf_297
                  replace hf_299 := tr _ _ _ (Or.inl (tt_ne hk3 hk0 (by decide))) hf_299
                  replace hf_305 := tr _ _ _ (Or.inr (by decide)) hf_305
                  replace hf_395 := tr _ _ _ (Or.inr (by decide)) hf_395
                  replace hf_397 := tr _ _ _ (Or.inl (tt_ne hk1 hk0 (by decide))) hf_397
                  replace hf_404 := tr _ _ _ (Or.inl (tt_ne hk3 hk0 (by decide))) hf_404
                  replace hf_414 := tr _ _ _ (Or.inl (tt_ne hk2 hk0 (by decide))) hf_414
                  have hf_431 := hn
                  replace hfr := hfr.put hk0 tr (by decide)
                  exact jj_vret C ⟨[], pl_429, rfl, rfl, hok_430, hfr, rfl⟩ dX1_quote_171 (jj_le rfl) (jj_le rfl)
              · refine jj_aload_n C dX1_quote_157 rfl ?_
                refine tt_getF C hok_407 jk_2 3 (by decide) jw_149 (t := (0, (-2147483648), 2147483647)) hk1 (by decide) rfl rfl hf_2 dX1_quote_158 ?_
                refine tt_callS (rest := [.ref h0]) C (tc_X2_dueOn_2 hl D cA ak p4 y_405 x_3 hok_407) [] [] rfl rfl (by decide) (by decide) (by decide) jw_173 jw_178 jw_175 jw_174 jn_X2_dueOn rfl (jj_le rfl) (jj_le rfl) (jj_le rfl) (jj_le rfl) (jj_le rfl) dX1_quote_161 rfl (fun _ _ _ hX => hX.elim) (fun rx pl_432 r O_435 => ?_)
                obtain ⟨rfl, hok_433, hr_434, hR_437⟩ := O_435
                replace hf_2 := hr_434.at hk1 (by decide) (by decide) hf_2
                replace hf_245 := hr_434.at hk2 (by decide) (by decide) hf_245
                replace hf_265 := hr_434.at hk3 (by decide) (by decide) hf_265
                replace hf_285 := hr_434.at hk2 (by decide) (by decide) hf_285
                replace hf_292 := hr_434.at hk0 (by decide) (by decide) hf_292
                replace hf_297 := hr_434.at hk0 (by decide) (by decide) hf_297
                replace hf_299 := hr_434.at hk3 (by decide) (by decide) hf_299
                replace hf_305 := hr_434.at hk0 (by decide) (by decide) hf_305
                replace hf_395 := hr_434.at hk0 (by decide) (by decide) hf_395
                replace hf_397 := hr_434.at hk1 (by decide) (by decide) hf_397
                replace hf_404 := hr_434.at hk3 (by decide) (by decide) hf_404
                replace hf_414 := hr_434.at hk2 (by decide) (by decide) hf_414
                replace hfr := hfr.trans (hr_434.sub (by decide))
                rcases hR_437 with rfl | ⟨y_438, rfl⟩
                · refine jj_goto (tgt := 168) C dX1_quote_164 (by decide) ?_
                  refine tt_put C hok_433 jk_3 5 (by decide) jw_162 (t := (1, (-9223372036854775808), 9223372036854775807)) hk0 (by decide) rfl rfl rfl (tt_ja (0 : Int64)) rfl rfl dX1_quote_168 (fun pl_439 hok_440 tr hn => ?_)
                  replace hf_2 := tr _ _ _ (Or.inl (tt_ne hk1 hk0 (by decide))) hf_2
                  replace hf_245 := tr _ _ _ (Or.inl (tt_ne hk2 hk0 (by decide))) hf_245
                  replace hf_265 := tr _ _ _ (Or.inl (tt_ne hk3 hk0 (by decide))) hf_265
                  replace hf_285 := tr _ _ _ (Or.inl (tt_ne hk2 hk0 (by decide))) hf_285
                  replace hf_292 := tr _ _ _ (Or.inr (by decide)) hf_292
                  replace hf_297 := tr _ _ _ (Or.inr (by decide)) hf_297
                  replace hf_299 := tr _ _ _ (Or.inl (tt_ne hk3 hk0 (by decide))) hf_299
                  replace hf_305 := tr _ _ _ (Or.inr (by decide)) hf_305
                  replace hf_395 := tr _ _ _ (Or.inr (by decide)) hf_395
                  replace hf_397 := tr _ _ _ (Or.inl (tt_ne hk1 hk0 (by decide))) hf_397
                  replace hf_404 := tr _ _ _ (Or.inl (tt_ne hk3 hk0 (by decide))) hf_404
                  replace hf_414 := tr _ _ _ (Or.inl (tt_ne hk2 hk0 (by decide))) hf_414
                  have hf_441 := hn
                  replace hfr := hfr.put hk0 tr (by decide)
                  exact jj_vret C ⟨[], pl_439, rfl, rfl, hok_440, hfr, rfl⟩ dX1_quote_171 (jj_le rfl) (jj_le rfl)
                · refine jj_goto (tgt := 168) C dX1_quote_164 (by decide) ?_
                  refine tt_put C hok_433 jk_3 5 (by decide) jw_162 (t := (1, (-9223372036854775808), 9223372036854775807)) hk0 (by decide) rfl rfl rfl (tt_ja y_438) rfl rfl dX1_quote_168 (fun pl_442 hok_443 tr hn => ?_)
                  replace hf_2 := tr _ _ _ (Or.inl (tt_ne hk1 hk0 (by decide))) hf_2
                  replace hf_245 := tr _ _ _ (Or.inl (tt_ne hk2 hk0 (by decide))) hf_245
                  replace hf_265 := tr _ _ _ (Or.inl (tt_ne hk3 hk0 (by decide))) hf_265
                  replace hf_285 := tr _ _ _ (Or.inl (tt_ne hk2 hk0 (by decide))) hf_285
                  replace hf_292 := tr _ _ _ (Or.inr (by decide)) hf_292
                  replace hf_297 := tr _ _ _ (Or.inr (by decide)) hf_297
                  replace hf_299 := tr _ _ _ (Or.inl (tt_ne hk3 hk0 (by decide))) hf_299
                  replace hf_305 := tr _ _ _ (Or.inr (by decide)) hf_305
                  replace hf_395 := tr _ _ _ (Or.inr (by decide)) hf_395
                  replace hf_397 := tr _ _ _ (Or.inl (tt_ne hk1 hk0 (by decide))) hf_397
                  replace hf_404 := tr _ _ _ (Or.inl (tt_ne hk3 hk0 (by decide))) hf_404
                  replace hf_414 := tr _ _ _ (Or.inl (tt_ne hk2 hk0 (by decide))) hf_414
                  have hf_444 := hn
                  replace hfr := hfr.put hk0 tr (by decide)
                  exact jj_vret C ⟨[], pl_442, rfl, rfl, hok_443, hfr, rfl⟩ dX1_quote_171 (jj_le rfl) (jj_le rfl)
            · refine jj_aload_n C dX1_quote_150 rfl ?_
              refine tt_get C hok_407 jk_9 4 (by decide) jw_172 (t := (1, (-9223372036854775808), 9223372036854775807)) hk2 (by decide) rfl rfl dX1_quote_151 (fun v_445 hv_445 hf_446 => ?_)
              obtain ⟨y_447, rfl, -, -⟩ := tt_vj hv_445
              refine tt_call0S (rest := [.long y_405, .long p4, .ref h0]) C (ct_J9_min_f86c9_1 hl D cA ak y_412 y_447) jw_142 jw_145 jw_144 jw_143 jn_J9_min_f86c9 rfl (jj_le rfl) (jj_le rfl) (jj_le rfl) (jj_le rfl) (jj_le rfl) dX1_quote_154 rfl (fun w1 r O_448 => ?_)
              rcases O_448 with ⟨c_449, -, rfl⟩ | ⟨c_450, -, rfl⟩
              · refine jj_aload_n C dX1_quote_157 rfl ?_
                refine tt_getF C hok_407 jk_2 3 (by decide) jw_149 (t := (0, (-2147483648), 2147483647)) hk1 (by decide) rfl rfl hf_2 dX1_quote_158 ?_
                refine tt_callS (rest := [.ref h0]) C (tc_X2_dueOn_1 hl D cA ak p4 y_405 y_447 x_3 hok_407) [] [] rfl rfl (by decide) (by decide) (by decide) jw_173 jw_178 jw_175 jw_174 jn_X2_dueOn rfl (jj_le rfl) (jj_le rfl) (jj_le rfl) (jj_le rfl) (jj_le rfl) dX1_quote_161 rfl (fun _ _ _ hX => hX.elim) (fun rx pl_451 r O_454 => ?_)
                obtain ⟨rfl, hok_452, hr_453, hR_456⟩ := O_454
                replace hf_2 := hr_453.at hk1 (by decide) (by decide) hf_2
                replace hf_245 := hr_453.at hk2 (by decide) (by decide) hf_245
                replace hf_265 := hr_453.at hk3 (by decide) (by decide) hf_265
                replace hf_285 := hr_453.at hk2 (by decide) (by decide) hf_285
                replace hf_292 := hr_453.at hk0 (by decide) (by decide) hf_292
                replace hf_297 := hr_453.at hk0 (by decide) (by decide) hf_297
                replace hf_299 := hr_453.at hk3 (by decide) (by decide) hf_299
                replace hf_305 := hr_453.at hk0 (by decide) (by decide) hf_305
                replace hf_395 := hr_453.at hk0 (by decide) (by decide) hf_395
                replace hf_397 := hr_453.at hk1 (by decide) (by decide) hf_397
                replace hf_404 := hr_453.at hk3 (by decide) (by decide) hf_404
                replace hf_446 := hr_453.at hk2 (by decide) (by decide) hf_446
                replace hfr := hfr.trans (hr_453.sub (by decide))
                rcases hR_456 with rfl | ⟨y_457, rfl⟩
                · refine jj_goto (tgt := 168) C dX1_quote_164 (by decide) ?_
                  refine tt_put C hok_452 jk_3 5 (by decide) jw_162 (t := (1, (-9223372036854775808), 9223372036854775807)) hk0 (by decide) rfl rfl rfl (tt_ja (0 : Int64)) rfl rfl dX1_quote_168 (fun pl_458 hok_459 tr hn => ?_)
                  replace hf_2 := tr _ _ _ (Or.inl (tt_ne hk1 hk0 (by decide))) hf_2
                  replace hf_245 := tr _ _ _ (Or.inl (tt_ne hk2 hk0 (by decide))) hf_245
                  replace hf_265 := tr _ _ _ (Or.inl (tt_ne hk3 hk0 (by decide))) hf_265
                  replace hf_285 := tr _ _ _ (Or.inl (tt_ne hk2 hk0 (by decide))) hf_285
                  replace hf_292 := tr _ _ _ (Or.inr (by decide)) hf_292
                  replace hf_297 := tr _ _ _ (Or.inr (by decide)) hf_297
                  replace hf_299 := tr _ _ _ (Or.inl (tt_ne hk3 hk0 (by decide))) hf_299
                  replace hf_305 := tr _ _ _ (Or.inr (by decide)) hf_305
                  replace hf_395 := tr _ _ _ (Or.inr (by decide)) hf_395
                  replace hf_397 := tr _ _ _ (Or.inl (tt_ne hk1 hk0 (by decide))) hf_397
                  replace hf_404 := tr _ _ _ (Or.inl (tt_ne hk3 hk0 (by decide))) hf_404
                  replace hf_446 := tr _ _ _ (Or.inl (tt_ne hk2 hk0 (by decide))) hf_446
                  have hf_460 := hn
                  replace hfr := hfr.put hk0 tr (by decide)
                  exact jj_vret C ⟨[], pl_458, rfl, rfl, hok_459, hfr, rfl⟩ dX1_quote_171 (jj_le rfl) (jj_le rfl)
                · refine jj_goto (tgt := 168) C dX1_quote_164 (by decide) ?_
                  refine tt_put C hok_452 jk_3 5 (by decide) jw_162 (t := (1, (-9223372036854775808), 9223372036854775807)) hk0 (by decide) rfl rfl rfl (tt_ja y_457) rfl rfl dX1_quote_168 (fun pl_461 hok_462 tr hn => ?_)
                  replace hf_2 := tr _ _ _ (Or.inl (tt_ne hk1 hk0 (by decide))) hf_2
                  replace hf_245 := tr _ _ _ (Or.inl (tt_ne hk2 hk0 (by decide))) hf_245
                  replace hf_265 := tr _ _ _ (Or.inl (tt_ne hk3 hk0 (by decide))) hf_265
                  replace hf_285 := tr _ _ _ (Or.inl (tt_ne hk2 hk0 (by decide))) hf_285
                  replace hf_292 := tr _ _ _ (Or.inr (by decide)) hf_292
                  replace hf_297 := tr _ _ _ (Or.inr (by decide)) hf_297
                  replace hf_299 := tr _ _ _ (Or.inl (tt_ne hk3 hk0 (by decide))) hf_299
                  replace hf_305 := tr _ _ _ (Or.inr (by decide)) hf_305
                  replace hf_395 := tr _ _ _ (Or.inr (by decide)) hf_395
                  replace hf_397 := tr _ _ _ (Or.inl (tt_ne hk1 hk0 (by decide))) hf_397
                  replace hf_404 := tr _ _ _ (Or.inl (tt_ne hk3 hk0 (by decide))) hf_404
                  replace hf_446 := tr _ _ _ (Or.inl (tt_ne hk2 hk0 (by decide))) hf_446
                  have hf_463 := hn
                  replace hfr := hfr.put hk0 tr (by decide)
                  exact jj_vret C ⟨[], pl_461, rfl, rfl, hok_462, hfr, rfl⟩ dX1_quote_171 (jj_le rfl) (jj_le rfl)
              · refine jj_aload_n C dX1_quote_157 rfl ?_
                refine tt_getF C hok_407 jk_2 3 (by decide) jw_149 (t := (0, (-2147483648), 2147483647)) hk1 (by decide) rfl rfl hf_2 dX1_quote_158 ?_
                refine tt_callS (rest := [.ref h0]) C (tc_X2_dueOn_1 hl D cA ak p4 y_405 y_412 x_3 hok_407) [] [] rfl rfl (by decide) (by decide) (by decide) jw_173 jw_178 jw_175 jw_174 jn_X2_dueOn rfl (jj_le rfl) (jj_le rfl) (jj_le rfl) (jj_le rfl) (jj_le rfl) dX1_quote_161 rfl (fun _ _ _ hX => hX.elim) (fun rx pl_464 r O_467 => ?_)
                obtain ⟨rfl, hok_465, hr_466, hR_469⟩ := O_467
                replace hf_2 := hr_466.at hk1 (by decide) (by decide) hf_2
                replace hf_245 := hr_466.at hk2 (by decide) (by decide) hf_245
                replace hf_265 := hr_466.at hk3 (by decide) (by decide) hf_265
                replace hf_285 := hr_466.at hk2 (by decide) (by decide) hf_285
                replace hf_292 := hr_466.at hk0 (by decide) (by decide) hf_292
                replace hf_297 := hr_466.at hk0 (by decide) (by decide) hf_297
                replace hf_299 := hr_466.at hk3 (by decide) (by decide) hf_299
                replace hf_305 := hr_466.at hk0 (by decide) (by decide) hf_305
                replace hf_395 := hr_466.at hk0 (by decide) (by decide) hf_395
                replace hf_397 := hr_466.at hk1 (by decide) (by decide) hf_397
                replace hf_404 := hr_466.at hk3 (by decide) (by decide) hf_404
                replace hf_446 := hr_466.at hk2 (by decide) (by decide) hf_446
                replace hfr := hfr.trans (hr_466.sub (by decide))
                rcases hR_469 with rfl | ⟨y_470, rfl⟩
                · refine jj_goto (tgt := 168) C dX1_quote_164 (by decide) ?_
                  refine tt_put C hok_465 jk_3 5 (by decide) jw_162 (t := (1, (-9223372036854775808), 9223372036854775807)) hk0 (by decide) rfl rfl rfl (tt_ja (0 : Int64)) rfl rfl dX1_quote_168 (fun pl_471 hok_472 tr hn => ?_)
                  replace hf_2 := tr _ _ _ (Or.inl (tt_ne hk1 hk0 (by decide))) hf_2
                  replace hf_245 := tr _ _ _ (Or.inl (tt_ne hk2 hk0 (by decide))) hf_245
                  replace hf_265 := tr _ _ _ (Or.inl (tt_ne hk3 hk0 (by decide))) hf_265
                  replace hf_285 := tr _ _ _ (Or.inl (tt_ne hk2 hk0 (by decide))) hf_285
                  replace hf_292 := tr _ _ _ (Or.inr (by decide)) hf_292
                  replace hf_297 := tr _ _ _ (Or.inr (by decide)) hf_297
                  replace hf_299 := tr _ _ _ (Or.inl (tt_ne hk3 hk0 (by decide))) hf_299
                  replace hf_305 := tr _ _ _ (Or.inr (by decide)) hf_305
                  replace hf_395 := tr _ _ _ (Or.inr (by decide)) hf_395
                  replace hf_397 := tr _ _ _ (Or.inl (tt_ne hk1 hk0 (by decide))) hf_397
                  replace hf_404 := tr _ _ _ (Or.inl (tt_ne hk3 hk0 (by decide))) hf_404
                  replace hf_446 := tr _ _ _ (Or.inl (tt_ne hk2 hk0 (by decide))) hf_446
                  have hf_473 := hn
                  replace hfr := hfr.put hk0 tr (by decide)
                  exact jj_vret C ⟨[], pl_471, rfl, rfl, hok_472, hfr, rfl⟩ dX1_quote_171 (jj_le rfl) (jj_le rfl)
                · refine jj_goto (tgt := 168) C dX1_quote_164 (by decide) ?_
                  refine tt_put C hok_465 jk_3 5 (by decide) jw_162 (t := (1, (-9223372036854775808), 9223372036854775807)) hk0 (by decide) rfl rfl rfl (tt_ja y_470) rfl rfl dX1_quote_168 (fun pl_474 hok_475 tr hn => ?_)
                  replace hf_2 := tr _ _ _ (Or.inl (tt_ne hk1 hk0 (by decide))) hf_2
                  replace hf_245 := tr _ _ _ (Or.inl (tt_ne hk2 hk0 (by decide))) hf_245
                  replace hf_265 := tr _ _ _ (Or.inl (tt_ne hk3 hk0 (by decide))) hf_265
                  replace hf_285 := tr _ _ _ (Or.inl (tt_ne hk2 hk0 (by decide))) hf_285
                  replace hf_292 := tr _ _ _ (Or.inr (by decide)) hf_292
                  replace hf_297 := tr _ _ _ (Or.inr (by decide)) hf_297
                  replace hf_299 := tr _ _ _ (Or.inl (tt_ne hk3 hk0 (by decide))) hf_299
                  replace hf_305 := tr _ _ _ (Or.inr (by decide)) hf_305
                  replace hf_395 := tr _ _ _ (Or.inr (by decide)) hf_395
                  replace hf_397 := tr _ _ _ (Or.inl (tt_ne hk1 hk0 (by decide))) hf_397
                  replace hf_404 := tr _ _ _ (Or.inl (tt_ne hk3 hk0 (by decide))) hf_404
                  replace hf_446 := tr _ _ _ (Or.inl (tt_ne hk2 hk0 (by decide))) hf_446
                  have hf_476 := hn
                  replace hfr := hfr.put hk0 tr (by decide)
                  exact jj_vret C ⟨[], pl_474, rfl, rfl, hok_475, hfr, rfl⟩ dX1_quote_171 (jj_le rfl) (jj_le rfl)

