theorem tt_lo (x : Int32) : (-2147483648 : Int) ≤ x.toInt := by have h := Int32.le_toInt x; omega
theorem tt_hi (x : Int32) : x.toInt ≤ (2147483647 : Int) := by have h := Int32.toInt_lt x; omega
theorem tt_fitZ {v : Int32} (h1 : 0 ≤ v.toInt) (h2 : v.toInt ≤ 1) : fits .boolean (.int v) = true := by
  have h : v = 0 ∨ v = 1 := by
    rcases (by omega : v.toInt = 0 ∨ v.toInt = 1) with h | h
    · exact Or.inl (Int32.toInt_inj.mp (h.trans (by decide)))
    · exact Or.inr (Int32.toInt_inj.mp (h.trans (by decide)))
  rcases h with rfl | rfl <;> rfl
def tt_tk : Nat → tt_K
  | 1 => (0, 2, 0, [(0, (-2147483648), 2147483647), (0, (-2147483648), 2147483647), (0, (-2147483648), 2147483647), (0, (-2147483648), 2147483647), (0, (-2147483648), 2147483647), (0, (-2147483648), 2147483647), (0, (-2147483648), 2147483647), (0, 0, 6), (0, 0, 40), (0, 0, 12), (2, 5, 0), (2, 6, 0), (2, 7, 0), (2, 8, 0)])
  | 2 => (0, 9, 0, [(0, (-2147483648), 2147483647), (0, (-2147483648), 2147483647), (1, (-9223372036854775808), 9223372036854775807), (1, (-9223372036854775808), 9223372036854775807), (1, (-9223372036854775808), 9223372036854775807)])
  | 3 => (0, 5, 0, [(0, (-2147483648), 2147483647), (0, (-2147483648), 2147483647), (0, (-2147483648), 2147483647), (1, (-9223372036854775808), 9223372036854775807), (1, (-9223372036854775808), 9223372036854775807), (1, (-9223372036854775808), 9223372036854775807)])
  | 4 => (0, 7, 0, [(0, (-2147483648), 2147483647), (0, (-2147483648), 2147483647), (0, 0, 1), (1, (-9223372036854775808), 9223372036854775807), (1, (-9223372036854775808), 9223372036854775807)])
  | 5 => (2, 2, 6, [(1, (-9223372036854775808), 9223372036854775807)])
  | 6 => (3, 8, 6, [(2, 2, 0)])
  | 7 => (3, 6, 40, [(2, 3, 0)])
  | 8 => (3, 7, 12, [(2, 4, 0)])
  | 9 => (0, 3, 0, [(2, 6, 0), (1, (-9223372036854775808), 9223372036854775807), (1, (-9223372036854775808), 9223372036854775807), (1, (-9223372036854775808), 9223372036854775807), (1, (-9223372036854775808), 9223372036854775807), (1, (-9223372036854775808), 9223372036854775807)])
  | 10 => (0, 10, 0, [(2, 11, 0), (0, 0, 400), (0, 0, 400), (0, 0, 400), (0, 0, 400), (0, (-2147483648), 2147483647), (0, (-2147483648), 2147483647)])
  | 11 => (1, 1, 400, [(0, (-2147483648), 2147483647)])
  | 12 => (0, 6, 0, [(2, 13, 0), (0, 0, 1300), (2, 14, 0)])
  | 13 => (1, 0, 1300, [(0, (-2147483648), 2147483647)])
  | 14 => (1, 0, 20, [(0, (-2147483648), 2147483647)])
  | 15 => (0, 11, 0, [(2, 10, 0), (0, (-2147483648), 2147483647), (0, (-2147483648), 2147483647), (2, 1, 0), (2, 1, 0), (2, 9, 0), (2, 16, 0), (0, 0, 9), (0, 0, 10), (2, 12, 0)])
  | 16 => (3, 5, 10, [(3, 1, 0)])
  | 17 => (0, 4, 0, [(2, 10, 0), (2, 1, 0), (0, (-2147483648), 2147483647)])
  | 18 => (0, 8, 0, [(2, 10, 0), (2, 1, 0), (2, 9, 0), (0, (-2147483648), 2147483647), (0, (-2147483648), 2147483647), (0, (-2147483648), 2147483647)])
  | _ => (0, 0, 0, [])
set_option maxHeartbeats 4000000 in
set_option maxRecDepth 100000 in
theorem tc_X10_account_1 {l : Launch} (hl : l.stackTraces = false) (D : va_G) (cA : Nat → ClassId) (ak : (Nat → Nat) × (Nat → Nat)) {Kd : Nat → Nat} (h0 : Nat) (p1 : Int32) (hk0 : Kd h0 = 15) {pl0 : va_W} (hok : tt_ok tt_tk cA Kd pl0) : jj_M l D cA ak yX10_account (.code yX10_account cX10_account 2 (some .long)) 6 82 1 6 ([] ++ pl0) [.ref h0, .int p1] (tt_O (fun rx pl1 r => rx = [] ∧ tt_ok tt_tk cA Kd pl1 ∧ tt_fr Kd [] pl0 pl1 ∧ tt_fa Kd [] pl0 pl1 ∧ ((∃ v : Int64, (0 : Int) ≤ p1.toInt ∧ p1.toInt ≤ 5 ∧ r = some (.long v))))) (tt_OX (fun E rx pl1 => rx = [] ∧ tt_ok tt_tk cA Kd pl1 ∧ tt_fr Kd [] pl0 pl1 ∧ tt_fa Kd [] pl0 pl1 ∧ (E = "java/lang/IllegalArgumentException"))) := by
  refine jj_start hl (by decide) jw_d79d291ce5 (jj_le rfl) ?_
  intro p e s m args below meth c A hargs hA C hex hmn
  have hfr := tt_fr.refl (K := Kd) (WS := []) pl0
  have hfa := tt_fa.refl (K := Kd) (WA := []) pl0
  have lp1 := tt_lo p1
  have up1 := tt_hi p1
  refine jj_iload_n C dX10_account_0 rfl ?_
  refine jj_if_lt (tgt := 10) C dX10_account_1 (by decide) (fun c_1 => ?_) (fun c_1 => ?_)
  · have z_c_1 := jc_lt (a := (p1).toInt) (b := (0)) c_1 rfl (by decide)
    exact jj_throw (k := 43) (text := "no such account") C jt_RX10_75 jw_0e6c957e85 (by decide +kernel) dX10_account_10 dX10_account_13 dX10_account_14 dX10_account_16 dX10_account_19 hex (jj_le rfl) (jj_le rfl) (jj_le rfl) (jj_le rfl) ⟨[], pl0, rfl, rfl, hok, hfr, hfa, rfl⟩ (jj_le rfl) (jj_le rfl)
  · have z_c_1 := jc_nlt (a := (p1).toInt) (b := (0)) c_1 rfl (by decide)
    refine jj_iload_n C dX10_account_4 rfl ?_
    refine jj_bipush (v := 6) C dX10_account_5 (by decide) ?_
    refine jj_icmp_lt (tgt := 20) C dX10_account_7 (by decide) (fun c_2 => ?_) (fun c_2 => ?_)
    · have z_c_2 := jc_lt (a := (p1).toInt) (b := (6)) c_2 rfl (by decide)
      refine jj_aload_n C dX10_account_20 rfl ?_
      refine tt_get C hok jk_11 3 (by decide) jw_f82a97e333 (t := (2, 1, 0)) hk0 (by decide) rfl rfl dX10_account_21 (fun v_3 hv_3 hf_4 => ?_)
      obtain ⟨a_5, rfl, ka_5⟩ := tt_vr hv_3
      refine tt_get C hok jk_2 10 (by decide) jw_952185ebde (t := (2, 5, 0)) ka_5 (by decide) rfl rfl dX10_account_24 (fun v_6 hv_6 hf_7 => ?_)
      obtain ⟨a_8, rfl, ka_8⟩ := tt_vr hv_6
      refine jj_iload_n C dX10_account_27 rfl ?_
      refine tt_lald C hok (t := (1, (-9223372036854775808), 9223372036854775807)) ka_8 (by decide) rfl (vp_in_iff.mpr ⟨by omega, by omega⟩) dX10_account_28 (fun v_9 hv_9 => ?_)
      exact jj_lret C ⟨[], pl0, rfl, rfl, hok, hfr, hfa, ⟨v_9, (by first | omega | exact tt_lo _ | exact tt_hi _), (by first | omega | exact tt_lo _ | exact tt_hi _), rfl⟩⟩ dX10_account_29 (jj_le rfl) (jj_le rfl)
    · have z_c_2 := jc_nlt (a := (p1).toInt) (b := (6)) c_2 rfl (by decide)
      exact jj_throw (k := 43) (text := "no such account") C jt_RX10_75 jw_0e6c957e85 (by decide +kernel) dX10_account_10 dX10_account_13 dX10_account_14 dX10_account_16 dX10_account_19 hex (jj_le rfl) (jj_le rfl) (jj_le rfl) (jj_le rfl) ⟨[], pl0, rfl, rfl, hok, hfr, hfa, rfl⟩ (jj_le rfl) (jj_le rfl)

set_option maxHeartbeats 4000000 in
set_option maxRecDepth 100000 in
theorem tc_X9_putFour_1 {l : Launch} (hl : l.stackTraces = false) (D : va_G) (cA : Nat → ClassId) (ak : (Nat → Nat) × (Nat → Nat)) {Kd : Nat → Nat} (h0 : Nat) (p1 : Int32) (hk0 : Kd h0 = 10) {pl0 : va_W} (hok : tt_ok tt_tk cA Kd pl0) : jj_M l D cA ak yX9_putFour (.code yX9_putFour cX9_putFour 3 none) 0 0 0 0 ([] ++ pl0) [.ref h0, .int p1] (tt_O (fun rx pl1 r => rx = [] ∧ tt_ok tt_tk cA Kd pl1 ∧ tt_fr Kd [(10, 1)] pl0 pl1 ∧ tt_fa Kd [11] pl0 pl1 ∧ ((r = none)))) (tt_OX (fun _ _ _ => False)) := by
  refine jj_start hl (by decide) jw_7315f2d416 (jj_le rfl) ?_
  intro p e s m args below meth c A hargs hA C hex hmn
  have hfr := tt_fr.refl (K := Kd) (WS := [(10, 1)]) pl0
  have hfa := tt_fa.refl (K := Kd) (WA := [11]) pl0
  have lp1 := tt_lo p1
  have up1 := tt_hi p1
  refine jj_bipush (v := 24) C dX9_putFour_0 (by decide) ?_
  refine jj_istore_n C dX9_putFour_2 (by decide) rfl ?_
  have hL_1 : ∀ (N : Nat) (pl : va_W) (x_2 : Int32), True → tt_ok tt_tk cA Kd pl → tt_fr Kd [(10, 1)] pl0 pl → tt_fa Kd [11] pl0 pl → (-2147483648 : Int) ≤ x_2.toInt → x_2.toInt ≤ 24 → (x_2.toInt + 2147483649 ≤ (N : Int)) → jj_J p l e (jj_rm 0 0 0 0) s m args below meth c 3 A (vx_MQ below (jj_q D A (tt_O (fun rx pl1 r => rx = [] ∧ tt_ok tt_tk cA Kd pl1 ∧ tt_fr Kd [(10, 1)] pl0 pl1 ∧ tt_fa Kd [11] pl0 pl1 ∧ ((r = none))))) (jj_x D A (tt_OX (fun _ _ _ => False))) args s 0 0 A) (jj_X D A ([] ++ pl)) 0 0 3 [(2, .int x_2), (0, .ref h0), (1, .int p1)] [] := by
    intro NL_1
    induction NL_1 with
    | zero => intro pl x_2 _ hok hfr hfa lx_2 ux_2 hNL_1; exfalso; omega
    | succ NL_1 ihL_1 =>
      intro pl x_2 _ hok hfr hfa lx_2 ux_2 hNL_1
      replace ihL_1 := fun pl x_2 h1 => ihL_1 pl x_2 trivial h1
      refine jj_iload_n C dX9_putFour_3 rfl ?_
      refine jj_if_lt (tgt := 50) C dX9_putFour_4 (by decide) (fun c_3 => ?_) (fun c_3 => ?_)
      · have z_c_3 := jc_lt (a := (x_2).toInt) (b := (0)) c_3 rfl (by decide)
        exact jj_vret C ⟨[], pl, rfl, rfl, hok, hfr, hfa, rfl⟩ dX9_putFour_50 (jj_le rfl) (jj_le rfl)
      · have z_c_3 := jc_nlt (a := (x_2).toInt) (b := (0)) c_3 rfl (by decide)
        refine jj_aload_n C dX9_putFour_7 rfl ?_
        refine tt_get C hok jk_10 1 (by decide) jw_133bcadae3 (t := (0, 0, 400)) hk0 (by decide) rfl rfl dX9_putFour_8 (fun v_4 hv_4 hf_5 => ?_)
        obtain ⟨x_6, rfl, lx_6, ux_6⟩ := tt_vi hv_4
        refine jj_sipush (v := 400) C dX9_putFour_11 (by decide) ?_
        refine jj_icmp_ge (tgt := 50) C dX9_putFour_14 (by decide) (fun c_7 => ?_) (fun c_7 => ?_)
        · have z_c_7 := jc_le (a := (400)) (b := (x_6).toInt) c_7 (by decide) rfl
          exact jj_vret C ⟨[], pl, rfl, rfl, hok, hfr, hfa, rfl⟩ dX9_putFour_50 (jj_le rfl) (jj_le rfl)
        · have z_c_7 := jc_nle (a := (400)) (b := (x_6).toInt) c_7 (by decide) rfl
          refine jj_aload_n C dX9_putFour_17 rfl ?_
          refine tt_get C hok jk_10 0 (by decide) jw_0664e1e086 (t := (2, 11, 0)) hk0 (by decide) rfl rfl dX9_putFour_18 (fun v_8 hv_8 hf_9 => ?_)
          obtain ⟨a_10, rfl, ka_10⟩ := tt_vr hv_8
          refine jj_aload_n C dX9_putFour_21 rfl ?_
          refine tt_getF C hok jk_10 1 (by decide) jw_133bcadae3 (t := (0, 0, 400)) hk0 (by decide) rfl rfl hf_5 dX9_putFour_22 ?_
          refine jj_iload_n C dX9_putFour_25 rfl ?_
          refine jj_iload_n C dX9_putFour_26 rfl ?_
          obtain ⟨x_11, ex_11⟩ : ∃ z : Int32, (p1.toUInt32 >>> (x_2.toUInt32 &&& Int32.toUInt32 31)).toInt32 = z := ⟨_, rfl⟩
          refine jj_iushr (v := x_11) C dX9_putFour_27 ex_11 ?_
          refine jj_sipush (v := 255) C dX9_putFour_28 (by decide) ?_
          obtain ⟨x_12, ex_12⟩ : ∃ z : Int32, x_11 &&& (255 : Int32) = z := ⟨_, rfl⟩
          refine jj_iand (v := x_12) C dX9_putFour_31 ex_12 ?_
          obtain ⟨x_13, ex_13⟩ : ∃ z : Int32, (x_12.toUInt32 % 65536).toInt32 = z := ⟨_, rfl⟩
          refine jj_i2c (v := x_13) C dX9_putFour_32 ex_13 ?_
          refine tl_cast C hok (t := (0, (-2147483648), 2147483647)) ka_10 (by decide) rfl (vp_in_iff.mpr ⟨by omega, by omega⟩) (tt_ia _) dX9_putFour_33 (fun pl_14 hok_15 tr tl => ?_)
          replace hf_5 := tr _ _ _ hf_5
          replace hf_9 := tr _ _ _ hf_9
          replace hfr := hfr.arr tr
          replace hfa := hfa.wr ka_10 tl (by decide)
          refine jj_aload_n C dX9_putFour_34 rfl ?_
          refine jj_dup C dX9_putFour_35 rfl ?_
          refine tt_getF C hok_15 jk_10 1 (by decide) jw_133bcadae3 (t := (0, 0, 400)) hk0 (by decide) rfl rfl hf_5 dX9_putFour_36 ?_
          refine jj_iconst (v := 1) C dX9_putFour_39 (by decide) ?_
          obtain ⟨x_16, ex_16, vx_16⟩ := tt_iadd (x := x_6) (y := (1 : Int32)) (a := x_6.toInt) rfl (b := 1) (by decide) (by omega) (by omega)
          refine jj_iadd (v := x_16) C dX9_putFour_40 ex_16 ?_
          refine rl_put C hok_15 jk_10 1 (by decide) jw_133bcadae3 (t := (0, 0, 400)) hk0 (by decide) rfl rfl rfl (tt_iv (by omega) (by omega)) rfl rfl dX9_putFour_41 (fun pl_17 hok_18 tr hn tl => ?_)
          replace hf_9 := tr _ _ _ (Or.inr (by decide)) hf_9
          have hf_19 := hn
          replace hfr := hfr.put hk0 tr (by decide)
          replace hfa := hfa.all tl
          obtain ⟨x_20, ex_20, vx_20⟩ := tt_inc (x := x_2) (n := (-8)) (by omega) (by omega)
          refine jj_iinc (v := x_20) C dX9_putFour_44 rfl ex_20 (by decide) rfl ?_
          refine jj_goto (tgt := 3) C dX9_putFour_47 (by decide) ?_
          exact ihL_1 pl_17 x_20 hok_18 hfr hfa (by first | omega | decide | exact tt_lo _ | exact tt_hi _) (by first | omega | decide | exact tt_lo _ | exact tt_hi _) (by first | omega | decide | exact tt_lo _ | exact tt_hi _)
  exact hL_1 _ pl0 (24 : Int32) trivial hok hfr hfa (by first | omega | decide | exact tt_lo _ | exact tt_hi _) (by first | omega | decide | exact tt_lo _ | exact tt_hi _) (Int.self_le_toNat _)

set_option maxHeartbeats 4000000 in
set_option maxRecDepth 100000 in
theorem tc_X10_appendText_1 {l : Launch} (hl : l.stackTraces = false) (D : va_G) (cA : Nat → ClassId) (ak : (Nat → Nat) × (Nat → Nat)) {Kd : Nat → Nat} (h0 : Nat) (p1 : Int32) (p2 : Int32) (p3 : Int32) (p4 : Int32) (p5 : Int32) (hk0 : Kd h0 = 15) {pl0 : va_W} (hok : tt_ok tt_tk cA Kd pl0) : jj_M l D cA ak yX10_appendText (.code yX10_appendText cX10_appendText 6 (some .int)) 6 82 1 6 ([] ++ pl0) [.ref h0, .int p1, .int p2, .int p3, .int p4, .int p5] (tt_O (fun rx pl1 r => rx = [] ∧ tt_ok tt_tk cA Kd pl1 ∧ tt_fr Kd [(10, 1)] pl0 pl1 ∧ tt_fa Kd [11] pl0 pl1 ∧ ((∃ v : Int32, (0 : Int) ≤ v.toInt ∧ v.toInt ≤ 400 ∧ r = some (.int v))))) (tt_OX (fun E rx pl1 => rx = [] ∧ tt_ok tt_tk cA Kd pl1 ∧ tt_fr Kd [(10, 1)] pl0 pl1 ∧ tt_fa Kd [11] pl0 pl1 ∧ (E = "java/lang/IllegalStateException"))) := by
  refine jj_start hl (by decide) jw_632226b39c (jj_le rfl) ?_
  intro p e s m args below meth c A hargs hA C hex hmn
  have hfr := tt_fr.refl (K := Kd) (WS := [(10, 1)]) pl0
  have hfa := tt_fa.refl (K := Kd) (WA := [11]) pl0
  have lp1 := tt_lo p1
  have up1 := tt_hi p1
  have lp2 := tt_lo p2
  have up2 := tt_hi p2
  have lp3 := tt_lo p3
  have up3 := tt_hi p3
  have lp4 := tt_lo p4
  have up4 := tt_hi p4
  have lp5 := tt_lo p5
  have up5 := tt_hi p5
  refine jj_aload_n C dX10_appendText_0 rfl ?_
  refine tt_get C hok jk_11 0 (by decide) jw_4836d4133c (t := (2, 10, 0)) hk0 (by decide) rfl rfl dX10_appendText_1 (fun v_1 hv_1 hf_2 => ?_)
  obtain ⟨a_3, rfl, ka_3⟩ := tt_vr hv_1
  refine tt_get C hok jk_10 1 (by decide) jw_73b0a985ca (t := (0, 0, 400)) ka_3 (by decide) rfl rfl dX10_appendText_4 (fun v_4 hv_4 hf_5 => ?_)
  obtain ⟨x_6, rfl, lx_6, ux_6⟩ := tt_vi hv_4
  refine jj_bipush (v := 20) C dX10_appendText_7 (by decide) ?_
  obtain ⟨x_7, ex_7, vx_7⟩ := tt_iadd (x := x_6) (y := (20 : Int32)) (a := x_6.toInt) rfl (b := 20) (by decide) (by omega) (by omega)
  refine jj_iadd (v := x_7) C dX10_appendText_9 ex_7 ?_
  refine jj_sipush (v := 400) C dX10_appendText_10 (by decide) ?_
  refine jj_icmp_le (tgt := 26) C dX10_appendText_13 (by decide) (fun c_8 => ?_) (fun c_8 => ?_)
  · have z_c_8 := jc_le (a := (x_7).toInt) (b := (400)) c_8 rfl (by decide)
    refine jj_aload_n C dX10_appendText_26 rfl ?_
    refine tt_getF C hok jk_11 0 (by decide) jw_4836d4133c (t := (2, 10, 0)) hk0 (by decide) rfl rfl hf_2 dX10_appendText_27 ?_
    refine jj_iload_n C dX10_appendText_30 rfl ?_
    obtain ⟨qc, gs, hqc⟩ := tt_recv (cx := []) hok ka_3 (by decide) rfl
    refine tt_callV (rest := []) C (tc_X9_putFour_1 hl D cA ak a_3 p1 ka_3 hok) [] [] rfl rfl (by decide) (by decide) (by decide) qc hqc rfl rfl jw_2c6a0579ce jw_465aad3f08 jw_9200269c04 jw_a9e7b602dc jw_7315f2d416 jn_X9_putFour rfl (jj_le rfl) (jj_le rfl) (jj_le rfl) (jj_le rfl) (jj_le rfl) dX10_appendText_31 rfl (fun _ _ _ hX => hX.elim) (fun rx pl_9 r O_12 => ?_)
    obtain ⟨rfl, hok_10, hr_11, hfa9, hR_14⟩ := O_12
    replace hf_2 := hr_11.at hk0 (by decide) (by decide) hf_2
    replace hfr := hfr.trans (hr_11.sub (by decide))
    replace hfa := hfa.trans (hfa9.sub (by decide))
    obtain rfl := hR_14
    refine jj_aload_n C dX10_appendText_34 rfl ?_
    refine tt_getF C hok_10 jk_11 0 (by decide) jw_4836d4133c (t := (2, 10, 0)) hk0 (by decide) rfl rfl hf_2 dX10_appendText_35 ?_
    refine jj_iload_n C dX10_appendText_38 rfl ?_
    obtain ⟨qc, gs, hqc⟩ := tt_recv (cx := []) hok_10 ka_3 (by decide) rfl
    refine tt_callV (rest := []) C (tc_X9_putFour_1 hl D cA ak a_3 p2 ka_3 hok_10) [] [] rfl rfl (by decide) (by decide) (by decide) qc hqc rfl rfl jw_2c6a0579ce jw_465aad3f08 jw_9200269c04 jw_a9e7b602dc jw_7315f2d416 jn_X9_putFour rfl (jj_le rfl) (jj_le rfl) (jj_le rfl) (jj_le rfl) (jj_le rfl) dX10_appendText_39 rfl (fun _ _ _ hX => hX.elim) (fun rx pl_17 r O_20 => ?_)
    obtain ⟨rfl, hok_18, hr_19, hfa9, hR_22⟩ := O_20
    replace hf_2 := hr_19.at hk0 (by decide) (by decide) hf_2
    replace hfr := hfr.trans (hr_19.sub (by decide))
    replace hfa := hfa.trans (hfa9.sub (by decide))
    obtain rfl := hR_22
    refine jj_aload_n C dX10_appendText_42 rfl ?_
    refine tt_getF C hok_18 jk_11 0 (by decide) jw_4836d4133c (t := (2, 10, 0)) hk0 (by decide) rfl rfl hf_2 dX10_appendText_43 ?_
    refine jj_iload_n C dX10_appendText_46 rfl ?_
    obtain ⟨qc, gs, hqc⟩ := tt_recv (cx := []) hok_18 ka_3 (by decide) rfl
    refine tt_callV (rest := []) C (tc_X9_putFour_1 hl D cA ak a_3 p3 ka_3 hok_18) [] [] rfl rfl (by decide) (by decide) (by decide) qc hqc rfl rfl jw_2c6a0579ce jw_465aad3f08 jw_9200269c04 jw_a9e7b602dc jw_7315f2d416 jn_X9_putFour rfl (jj_le rfl) (jj_le rfl) (jj_le rfl) (jj_le rfl) (jj_le rfl) dX10_appendText_47 rfl (fun _ _ _ hX => hX.elim) (fun rx pl_25 r O_28 => ?_)
    obtain ⟨rfl, hok_26, hr_27, hfa9, hR_30⟩ := O_28
    replace hf_2 := hr_27.at hk0 (by decide) (by decide) hf_2
    replace hfr := hfr.trans (hr_27.sub (by decide))
    replace hfa := hfa.trans (hfa9.sub (by decide))
    obtain rfl := hR_30
    refine jj_aload_n C dX10_appendText_50 rfl ?_
    refine tt_getF C hok_26 jk_11 0 (by decide) jw_4836d4133c (t := (2, 10, 0)) hk0 (by decide) rfl rfl hf_2 dX10_appendText_51 ?_
    refine jj_iload C dX10_appendText_54 rfl ?_
    obtain ⟨qc, gs, hqc⟩ := tt_recv (cx := []) hok_26 ka_3 (by decide) rfl
    refine tt_callV (rest := []) C (tc_X9_putFour_1 hl D cA ak a_3 p4 ka_3 hok_26) [] [] rfl rfl (by decide) (by decide) (by decide) qc hqc rfl rfl jw_2c6a0579ce jw_465aad3f08 jw_9200269c04 jw_a9e7b602dc jw_7315f2d416 jn_X9_putFour rfl (jj_le rfl) (jj_le rfl) (jj_le rfl) (jj_le rfl) (jj_le rfl) dX10_appendText_56 rfl (fun _ _ _ hX => hX.elim) (fun rx pl_33 r O_36 => ?_)
    obtain ⟨rfl, hok_34, hr_35, hfa9, hR_38⟩ := O_36
    replace hf_2 := hr_35.at hk0 (by decide) (by decide) hf_2
    replace hfr := hfr.trans (hr_35.sub (by decide))
    replace hfa := hfa.trans (hfa9.sub (by decide))
    obtain rfl := hR_38
    refine jj_aload_n C dX10_appendText_59 rfl ?_
    refine tt_getF C hok_34 jk_11 0 (by decide) jw_4836d4133c (t := (2, 10, 0)) hk0 (by decide) rfl rfl hf_2 dX10_appendText_60 ?_
    refine jj_iload C dX10_appendText_63 rfl ?_
    obtain ⟨qc, gs, hqc⟩ := tt_recv (cx := []) hok_34 ka_3 (by decide) rfl
    refine tt_callV (rest := []) C (tc_X9_putFour_1 hl D cA ak a_3 p5 ka_3 hok_34) [] [] rfl rfl (by decide) (by decide) (by decide) qc hqc rfl rfl jw_2c6a0579ce jw_465aad3f08 jw_9200269c04 jw_a9e7b602dc jw_7315f2d416 jn_X9_putFour rfl (jj_le rfl) (jj_le rfl) (jj_le rfl) (jj_le rfl) (jj_le rfl) dX10_appendText_65 rfl (fun _ _ _ hX => hX.elim) (fun rx pl_41 r O_44 => ?_)
    obtain ⟨rfl, hok_42, hr_43, hfa9, hR_46⟩ := O_44
    replace hf_2 := hr_43.at hk0 (by decide) (by decide) hf_2
    replace hfr := hfr.trans (hr_43.sub (by decide))
    replace hfa := hfa.trans (hfa9.sub (by decide))
    obtain rfl := hR_46
    refine jj_aload_n C dX10_appendText_68 rfl ?_
    refine tt_getF C hok_42 jk_11 0 (by decide) jw_4836d4133c (t := (2, 10, 0)) hk0 (by decide) rfl rfl hf_2 dX10_appendText_69 ?_
    refine tt_get C hok_42 jk_10 1 (by decide) jw_73b0a985ca (t := (0, 0, 400)) ka_3 (by decide) rfl rfl dX10_appendText_72 (fun v_49 hv_49 hf_50 => ?_)
    obtain ⟨x_51, rfl, lx_51, ux_51⟩ := tt_vi hv_49
    exact jj_iret C ⟨[], pl_41, rfl, rfl, hok_42, hfr, hfa, ⟨x_51, (by first | omega | exact tt_lo _ | exact tt_hi _), (by first | omega | exact tt_lo _ | exact tt_hi _), rfl⟩⟩ dX10_appendText_75 (jj_le rfl) (jj_le rfl)
  · have z_c_8 := jc_nle (a := (x_7).toInt) (b := (400)) c_8 rfl (by decide)
    exact jj_throw (k := 36) (text := "the text buffer is full") C jt_RX10_64 jw_2e653062aa (by decide +kernel) dX10_appendText_16 dX10_appendText_19 dX10_appendText_20 dX10_appendText_22 dX10_appendText_25 hex (jj_le rfl) (jj_le rfl) (jj_le rfl) (jj_le rfl) ⟨[], pl0, rfl, rfl, hok, hfr, hfa, rfl⟩ (jj_le rfl) (jj_le rfl)

set_option maxHeartbeats 4000000 in
set_option maxRecDepth 100000 in
theorem tc_X10_refuse_1 {l : Launch} (hl : l.stackTraces = false) (D : va_G) (cA : Nat → ClassId) (ak : (Nat → Nat) × (Nat → Nat)) {Kd : Nat → Nat} {pl0 : va_W} (hok : tt_ok tt_tk cA Kd pl0) : jj_M l D cA ak yX10_refuse (.code yX10_refuse cX10_refuse 1 none) 6 82 1 6 ([] ++ pl0) [.int 1] (tt_O (fun rx pl1 r => False)) (tt_OX (fun E rx pl1 => rx = [] ∧ tt_ok tt_tk cA Kd pl1 ∧ tt_fr Kd [] pl0 pl1 ∧ tt_fa Kd [] pl0 pl1 ∧ (E = "java/lang/IndexOutOfBoundsException"))) := by
  refine jj_start hl (by decide) jw_57df353171 (jj_le rfl) ?_
  intro p e s m args below meth c A hargs hA C hex hmn
  have hfr := tt_fr.refl (K := Kd) (WS := []) pl0
  have hfa := tt_fa.refl (K := Kd) (WA := []) pl0
  refine jj_iload_n C dX10_refuse_0 rfl ?_
  refine jj_iconst (v := 1) C dX10_refuse_1 (by decide) ?_
  refine jj_icmp_neF (tgt := 15) C dX10_refuse_2 (by decide) (by decide) ?_
  exact jj_throw (k := 38) (text := "there is no such number") C jt_RX10_200 jw_290c9469a0 (by decide +kernel) dX10_refuse_5 dX10_refuse_8 dX10_refuse_9 dX10_refuse_11 dX10_refuse_14 hex (jj_le rfl) (jj_le rfl) (jj_le rfl) (jj_le rfl) ⟨[], pl0, rfl, rfl, hok, hfr, hfa, rfl⟩ (jj_le rfl) (jj_le rfl)

set_option maxHeartbeats 4000000 in
set_option maxRecDepth 100000 in
theorem tc_X10_refuse_2 {l : Launch} (hl : l.stackTraces = false) (D : va_G) (cA : Nat → ClassId) (ak : (Nat → Nat) × (Nat → Nat)) {Kd : Nat → Nat} {pl0 : va_W} (hok : tt_ok tt_tk cA Kd pl0) : jj_M l D cA ak yX10_refuse (.code yX10_refuse cX10_refuse 1 none) 0 0 0 0 ([] ++ pl0) [.int 0] (tt_O (fun rx pl1 r => rx = [] ∧ tt_ok tt_tk cA Kd pl1 ∧ tt_fr Kd [] pl0 pl1 ∧ tt_fa Kd [] pl0 pl1 ∧ ((r = none)))) (tt_OX (fun _ _ _ => False)) := by
  refine jj_start hl (by decide) jw_57df353171 (jj_le rfl) ?_
  intro p e s m args below meth c A hargs hA C hex hmn
  have hfr := tt_fr.refl (K := Kd) (WS := []) pl0
  have hfa := tt_fa.refl (K := Kd) (WA := []) pl0
  refine jj_iload_n C dX10_refuse_0 rfl ?_
  refine jj_iconst (v := 1) C dX10_refuse_1 (by decide) ?_
  refine jj_icmp_neT (tgt := 15) C dX10_refuse_2 (by decide) (by decide) ?_
  refine jj_iload_n C dX10_refuse_15 rfl ?_
  refine jj_iconst (v := 2) C dX10_refuse_16 (by decide) ?_
  refine jj_icmp_neT (tgt := 30) C dX10_refuse_17 (by decide) (by decide) ?_
  refine jj_iload_n C dX10_refuse_30 rfl ?_
  refine jj_iconst (v := 3) C dX10_refuse_31 (by decide) ?_
  refine jj_icmp_neT (tgt := 45) C dX10_refuse_32 (by decide) (by decide) ?_
  exact jj_vret C ⟨[], pl0, rfl, rfl, hok, hfr, hfa, rfl⟩ dX10_refuse_45 (jj_le rfl) (jj_le rfl)

set_option maxHeartbeats 4000000 in
set_option maxRecDepth 100000 in
theorem tc_X10_checkRequest_1 {l : Launch} (hl : l.stackTraces = false) (D : va_G) (cA : Nat → ClassId) (ak : (Nat → Nat) × (Nat → Nat)) {Kd : Nat → Nat} (h0 : Nat) (p1 : Int32) (hk0 : Kd h0 = 15) {pl0 : va_W} (hok : tt_ok tt_tk cA Kd pl0) : jj_M l D cA ak yX10_checkRequest (.code yX10_checkRequest cX10_checkRequest 2 none) 7 102 1 6 ([] ++ pl0) [.ref h0, .int p1] (tt_O (fun rx pl1 r => rx = [] ∧ tt_ok tt_tk cA Kd pl1 ∧ tt_fr Kd [] pl0 pl1 ∧ tt_fa Kd [] pl0 pl1 ∧ (((0 : Int) ≤ p1.toInt ∧ p1.toInt ≤ 11 ∧ r = none)))) (tt_OX (fun E rx pl1 => rx = [] ∧ tt_ok tt_tk cA Kd pl1 ∧ tt_fr Kd [] pl0 pl1 ∧ tt_fa Kd [] pl0 pl1 ∧ (E = "java/lang/IndexOutOfBoundsException"))) := by
  refine jj_start hl (by decide) jw_31f2a3897e (jj_le rfl) ?_
  intro p e s m args below meth c A hargs hA C hex hmn
  have hfr := tt_fr.refl (K := Kd) (WS := []) pl0
  have hfa := tt_fa.refl (K := Kd) (WA := []) pl0
  have lp1 := tt_lo p1
  have up1 := tt_hi p1
  refine jj_iload_n C dX10_checkRequest_0 rfl ?_
  refine jj_if_lt (tgt := 19) C dX10_checkRequest_1 (by decide) (fun c_1 => ?_) (fun c_1 => ?_)
  · have z_c_1 := jc_lt (a := (p1).toInt) (b := (0)) c_1 rfl (by decide)
    refine jj_iconst (v := 1) C dX10_checkRequest_19 (by decide) ?_
    refine tt_callS (rest := []) C (tc_X10_refuse_1 hl D cA ak  hok) [] [] rfl rfl (by decide) (by decide) (by decide) jw_90eccdbdf8 jw_751c22758b jw_6f6d707074 jw_57df353171 jn_X10_refuse rfl (jj_le rfl) (jj_le rfl) (jj_le rfl) (jj_le rfl) (jj_le rfl) dX10_checkRequest_20 rfl (fun E rx pl_2 X_6 => ?_) (fun rx pl_2 r O_5 => ?_)
    · obtain ⟨rfl, hok_3, hr_4, hfa9, hE_7⟩ := X_6
      replace hfr := hfr.trans (hr_4.sub (by decide))
      replace hfa := hfa.trans (hfa9.sub (by decide))
      obtain rfl := hE_7
      exact jj_out C hex ⟨[], pl_2, rfl, rfl, hok_3, hfr, hfa, rfl⟩ (jj_le rfl) (jj_le rfl)
    · exact O_5.elim
  · have z_c_1 := jc_nlt (a := (p1).toInt) (b := (0)) c_1 rfl (by decide)
    refine jj_iload_n C dX10_checkRequest_4 rfl ?_
    refine jj_aload_n C dX10_checkRequest_5 rfl ?_
    refine tt_get C hok jk_11 3 (by decide) jw_f82a97e333 (t := (2, 1, 0)) hk0 (by decide) rfl rfl dX10_checkRequest_6 (fun v_11 hv_11 hf_12 => ?_)
    obtain ⟨a_13, rfl, ka_13⟩ := tt_vr hv_11
    refine tt_get C hok jk_2 9 (by decide) jw_e1b9780688 (t := (0, 0, 12)) ka_13 (by decide) rfl rfl dX10_checkRequest_9 (fun v_14 hv_14 hf_15 => ?_)
    obtain ⟨x_16, rfl, lx_16, ux_16⟩ := tt_vi hv_14
    refine jj_icmp_ge (tgt := 19) C dX10_checkRequest_12 (by decide) (fun c_17 => ?_) (fun c_17 => ?_)
    · have z_c_17 := jc_le (a := (x_16).toInt) (b := (p1).toInt) c_17 rfl rfl
      refine jj_iconst (v := 1) C dX10_checkRequest_19 (by decide) ?_
      refine tt_callS (rest := []) C (tc_X10_refuse_1 hl D cA ak  hok) [] [] rfl rfl (by decide) (by decide) (by decide) jw_90eccdbdf8 jw_751c22758b jw_6f6d707074 jw_57df353171 jn_X10_refuse rfl (jj_le rfl) (jj_le rfl) (jj_le rfl) (jj_le rfl) (jj_le rfl) dX10_checkRequest_20 rfl (fun E rx pl_18 X_22 => ?_) (fun rx pl_18 r O_21 => ?_)
      · obtain ⟨rfl, hok_19, hr_20, hfa9, hE_23⟩ := X_22
        replace hf_12 := hr_20.at hk0 (by decide) (by decide) hf_12
        replace hf_15 := hr_20.at ka_13 (by decide) (by decide) hf_15
        replace hfr := hfr.trans (hr_20.sub (by decide))
        replace hfa := hfa.trans (hfa9.sub (by decide))
        obtain rfl := hE_23
        exact jj_out C hex ⟨[], pl_18, rfl, rfl, hok_19, hfr, hfa, rfl⟩ (jj_le rfl) (jj_le rfl)
      · exact O_21.elim
    · have z_c_17 := jc_nle (a := (x_16).toInt) (b := (p1).toInt) c_17 rfl rfl
      refine jj_iconst (v := 0) C dX10_checkRequest_15 (by decide) ?_
      refine jj_goto (tgt := 20) C dX10_checkRequest_16 (by decide) ?_
      refine tt_callS (rest := []) C (tc_X10_refuse_2 hl D cA ak  hok) [] [] rfl rfl (by decide) (by decide) (by decide) jw_90eccdbdf8 jw_751c22758b jw_6f6d707074 jw_57df353171 jn_X10_refuse rfl (jj_le rfl) (jj_le rfl) (jj_le rfl) (jj_le rfl) (jj_le rfl) dX10_checkRequest_20 rfl (fun _ _ _ hX => hX.elim) (fun rx pl_27 r O_30 => ?_)
      obtain ⟨rfl, hok_28, hr_29, hfa9, hR_32⟩ := O_30
      replace hf_12 := hr_29.at hk0 (by decide) (by decide) hf_12
      replace hf_15 := hr_29.at ka_13 (by decide) (by decide) hf_15
      replace hfr := hfr.trans (hr_29.sub (by decide))
      replace hfa := hfa.trans (hfa9.sub (by decide))
      obtain rfl := hR_32
      exact jj_vret C ⟨[], pl_27, rfl, rfl, hok_28, hfr, hfa, ⟨(by first | omega | exact tt_lo _ | exact tt_hi _), (by first | omega | exact tt_lo _ | exact tt_hi _), rfl⟩⟩ dX10_checkRequest_23 (jj_le rfl) (jj_le rfl)

set_option maxHeartbeats 4000000 in
set_option maxRecDepth 100000 in
theorem tc_X8_copyFrom_1 {l : Launch} (hl : l.stackTraces = false) (D : va_G) (cA : Nat → ClassId) (ak : (Nat → Nat) × (Nat → Nat)) {Kd : Nat → Nat} (h0 : Nat) (h1 : Nat) (hk0 : Kd h0 = 2) (hk1 : Kd h1 = 2) {pl0 : va_W} (hok : tt_ok tt_tk cA Kd pl0) : jj_M l D cA ak yX8_copyFrom (.code yX8_copyFrom cX8_copyFrom 2 none) 0 0 0 0 ([] ++ pl0) [.ref h0, .ref h1] (tt_O (fun rx pl1 r => rx = [] ∧ tt_ok tt_tk cA Kd pl1 ∧ tt_fr Kd [(2, 0), (2, 1), (2, 2), (2, 3), (2, 4)] pl0 pl1 ∧ tt_fa Kd [] pl0 pl1 ∧ ((r = none)))) (tt_OX (fun _ _ _ => False)) := by
  refine jj_start hl (by decide) jw_067ae4989e (jj_le rfl) ?_
  intro p e s m args below meth c A hargs hA C hex hmn
  have hfr := tt_fr.refl (K := Kd) (WS := [(2, 0), (2, 1), (2, 2), (2, 3), (2, 4)]) pl0
  have hfa := tt_fa.refl (K := Kd) (WA := []) pl0
  refine jj_aload_n C dX8_copyFrom_0 rfl ?_
  refine jj_aload_n C dX8_copyFrom_1 rfl ?_
  refine tt_get C hok jk_9 0 (by decide) jw_91bc8df070 (t := (0, (-2147483648), 2147483647)) hk1 (by decide) rfl rfl dX8_copyFrom_2 (fun v_1 hv_1 hf_2 => ?_)
  obtain ⟨x_3, rfl, lx_3, ux_3⟩ := tt_vi hv_1
  refine rl_put C hok jk_9 0 (by decide) jw_91bc8df070 (t := (0, (-2147483648), 2147483647)) hk0 (by decide) rfl rfl rfl (tt_ia x_3) rfl rfl dX8_copyFrom_5 (fun pl_4 hok_5 tr hn tl => ?_)
  have hf_6 := hn
  replace hfr := hfr.put hk0 tr (by decide)
  replace hfa := hfa.all tl
  refine jj_aload_n C dX8_copyFrom_8 rfl ?_
  refine jj_aload_n C dX8_copyFrom_9 rfl ?_
  refine tt_get C hok_5 jk_9 1 (by decide) jw_9aacc2e946 (t := (0, (-2147483648), 2147483647)) hk1 (by decide) rfl rfl dX8_copyFrom_10 (fun v_7 hv_7 hf_8 => ?_)
  obtain ⟨x_9, rfl, lx_9, ux_9⟩ := tt_vi hv_7
  refine rl_put C hok_5 jk_9 1 (by decide) jw_9aacc2e946 (t := (0, (-2147483648), 2147483647)) hk0 (by decide) rfl rfl rfl (tt_ia x_9) rfl rfl dX8_copyFrom_13 (fun pl_10 hok_11 tr hn tl => ?_)
  replace hf_6 := tr _ _ _ (Or.inr (by decide)) hf_6
  have hf_12 := hn
  replace hfr := hfr.put hk0 tr (by decide)
  replace hfa := hfa.all tl
  refine jj_aload_n C dX8_copyFrom_16 rfl ?_
  refine jj_aload_n C dX8_copyFrom_17 rfl ?_
  refine tt_get C hok_11 jk_9 2 (by decide) jw_589ef22e6e (t := (1, (-9223372036854775808), 9223372036854775807)) hk1 (by decide) rfl rfl dX8_copyFrom_18 (fun v_13 hv_13 hf_14 => ?_)
  obtain ⟨y_15, rfl, -, -⟩ := tt_vj hv_13
  refine rl_put C hok_11 jk_9 2 (by decide) jw_589ef22e6e (t := (1, (-9223372036854775808), 9223372036854775807)) hk0 (by decide) rfl rfl rfl (tt_ja y_15) rfl rfl dX8_copyFrom_21 (fun pl_16 hok_17 tr hn tl => ?_)
  replace hf_6 := tr _ _ _ (Or.inr (by decide)) hf_6
  replace hf_12 := tr _ _ _ (Or.inr (by decide)) hf_12
  have hf_18 := hn
  replace hfr := hfr.put hk0 tr (by decide)
  replace hfa := hfa.all tl
  refine jj_aload_n C dX8_copyFrom_24 rfl ?_
  refine jj_aload_n C dX8_copyFrom_25 rfl ?_
  refine tt_get C hok_17 jk_9 3 (by decide) jw_dade208d77 (t := (1, (-9223372036854775808), 9223372036854775807)) hk1 (by decide) rfl rfl dX8_copyFrom_26 (fun v_19 hv_19 hf_20 => ?_)
  obtain ⟨y_21, rfl, -, -⟩ := tt_vj hv_19
  refine rl_put C hok_17 jk_9 3 (by decide) jw_dade208d77 (t := (1, (-9223372036854775808), 9223372036854775807)) hk0 (by decide) rfl rfl rfl (tt_ja y_21) rfl rfl dX8_copyFrom_29 (fun pl_22 hok_23 tr hn tl => ?_)
  replace hf_6 := tr _ _ _ (Or.inr (by decide)) hf_6
  replace hf_12 := tr _ _ _ (Or.inr (by decide)) hf_12
  replace hf_18 := tr _ _ _ (Or.inr (by decide)) hf_18
  have hf_24 := hn
  replace hfr := hfr.put hk0 tr (by decide)
  replace hfa := hfa.all tl
  refine jj_aload_n C dX8_copyFrom_32 rfl ?_
  refine jj_aload_n C dX8_copyFrom_33 rfl ?_
  refine tt_get C hok_23 jk_9 4 (by decide) jw_e3193c06db (t := (1, (-9223372036854775808), 9223372036854775807)) hk1 (by decide) rfl rfl dX8_copyFrom_34 (fun v_25 hv_25 hf_26 => ?_)
  obtain ⟨y_27, rfl, -, -⟩ := tt_vj hv_25
  refine rl_put C hok_23 jk_9 4 (by decide) jw_e3193c06db (t := (1, (-9223372036854775808), 9223372036854775807)) hk0 (by decide) rfl rfl rfl (tt_ja y_27) rfl rfl dX8_copyFrom_37 (fun pl_28 hok_29 tr hn tl => ?_)
  replace hf_6 := tr _ _ _ (Or.inr (by decide)) hf_6
  replace hf_12 := tr _ _ _ (Or.inr (by decide)) hf_12
  replace hf_18 := tr _ _ _ (Or.inr (by decide)) hf_18
  replace hf_24 := tr _ _ _ (Or.inr (by decide)) hf_24
  have hf_30 := hn
  replace hfr := hfr.put hk0 tr (by decide)
  replace hfa := hfa.all tl
  exact jj_vret C ⟨[], pl_28, rfl, rfl, hok_29, hfr, hfa, rfl⟩ dX8_copyFrom_40 (jj_le rfl) (jj_le rfl)

set_option maxHeartbeats 4000000 in
set_option maxRecDepth 100000 in
theorem tc_X8_assetsAfter_1 {l : Launch} (hl : l.stackTraces = false) (D : va_G) (cA : Nat → ClassId) (ak : (Nat → Nat) × (Nat → Nat)) {Kd : Nat → Nat} (h0 : Nat) (hk0 : Kd h0 = 2) {pl0 : va_W} (hok : tt_ok tt_tk cA Kd pl0) : jj_M l D cA ak yX8_assetsAfter (.code yX8_assetsAfter cX8_assetsAfter 2 (some .long)) 0 0 0 0 ([] ++ pl0) [.ref h0, .int 0] (tt_O (fun rx pl1 r => rx = [] ∧ tt_ok tt_tk cA Kd pl1 ∧ tt_fr Kd [] pl0 pl1 ∧ tt_fa Kd [] pl0 pl1 ∧ ((∃ v : Int64, r = some (.long v))))) (tt_OX (fun _ _ _ => False)) := by
  refine jj_start hl (by decide) jw_37a3f39914 (jj_le rfl) ?_
  intro p e s m args below meth c A hargs hA C hex hmn
  have hfr := tt_fr.refl (K := Kd) (WS := []) pl0
  have hfa := tt_fa.refl (K := Kd) (WA := []) pl0
  refine jj_aload_n C dX8_assetsAfter_0 rfl ?_
  refine tt_get C hok jk_9 2 (by decide) jw_589ef22e6e (t := (1, (-9223372036854775808), 9223372036854775807)) hk0 (by decide) rfl rfl dX8_assetsAfter_1 (fun v_1 hv_1 hf_2 => ?_)
  obtain ⟨y_3, rfl, -, -⟩ := tt_vj hv_1
  refine jj_aload_n C dX8_assetsAfter_4 rfl ?_
  refine tt_getF C hok jk_9 2 (by decide) jw_589ef22e6e (t := (1, (-9223372036854775808), 9223372036854775807)) hk0 (by decide) rfl rfl hf_2 dX8_assetsAfter_5 ?_
  refine jj_iload_n C dX8_assetsAfter_8 rfl ?_
  refine jj_i2l (v := 0) C dX8_assetsAfter_9 (by decide) ?_
  obtain ⟨y_4, ey_4⟩ : ∃ z : Int64, y_3 * (0 : Int64) = z := ⟨_, rfl⟩
  refine jj_lmul (v := y_4) C dX8_assetsAfter_10 ey_4 ?_
  refine jj_ldc2 (v := 10000) C dX8_assetsAfter_11 jw_60b8791c95 ?_
  obtain ⟨y_5, ey_5⟩ : ∃ z : Int64, y_4 / (10000 : Int64) = z := ⟨_, rfl⟩
  refine jj_ldiv (v := y_5) C dX8_assetsAfter_14 (by decide) ey_5 ?_
  obtain ⟨y_6, ey_6⟩ : ∃ z : Int64, y_3 + y_5 = z := ⟨_, rfl⟩
  refine jj_ladd (v := y_6) C dX8_assetsAfter_15 ey_6 ?_
  exact jj_lret C ⟨[], pl0, rfl, rfl, hok, hfr, hfa, ⟨y_6, rfl⟩⟩ dX8_assetsAfter_16 (jj_le rfl) (jj_le rfl)

set_option maxHeartbeats 4000000 in
set_option maxRecDepth 100000 in
theorem tc_X1_resetTrial_1 {l : Launch} (hl : l.stackTraces = false) (D : va_G) (cA : Nat → ClassId) (ak : (Nat → Nat) × (Nat → Nat)) {Kd : Nat → Nat} (h0 : Nat) (h1 : Nat) (hk0 : Kd h0 = 9) (hk1 : Kd h1 = 1) {pl0 : va_W} (hok : tt_ok tt_tk cA Kd pl0) : jj_M l D cA ak yX1_resetTrial (.code yX1_resetTrial cX1_resetTrial 4 none) 1 21 0 0 ([] ++ pl0) [.ref h0, .ref h1, .int 0] (tt_O (fun rx pl1 r => rx = [] ∧ tt_ok tt_tk cA Kd pl1 ∧ tt_fr Kd [(2, 0), (2, 1), (2, 2), (2, 3), (2, 4)] pl0 pl1 ∧ tt_fa Kd [] pl0 pl1 ∧ ((r = none)))) (tt_OX (fun _ _ _ => False)) := by
  refine jj_start hl (by decide) jw_94abfb5ed9 (jj_le rfl) ?_
  intro p e s m args below meth c A hargs hA C hex hmn
  have hfr := tt_fr.refl (K := Kd) (WS := [(2, 0), (2, 1), (2, 2), (2, 3), (2, 4)]) pl0
  have hfa := tt_fa.refl (K := Kd) (WA := []) pl0
  refine jj_iconst (v := 0) C dX1_resetTrial_0 (by decide) ?_
  refine jj_istore_n C dX1_resetTrial_1 (by decide) rfl ?_
  have hL_1 : ∀ (N : Nat) (pl : va_W) (x_2 : Int32), True → tt_ok tt_tk cA Kd pl → tt_fr Kd [(2, 0), (2, 1), (2, 2), (2, 3), (2, 4)] pl0 pl → tt_fa Kd [] pl0 pl → (0 : Int) ≤ x_2.toInt → x_2.toInt ≤ 6 → (2147483648 - x_2.toInt ≤ (N : Int)) → jj_J p l e (jj_rm 1 21 0 0) s m args below meth c 4 A (vx_MQ below (jj_q D A (tt_O (fun rx pl1 r => rx = [] ∧ tt_ok tt_tk cA Kd pl1 ∧ tt_fr Kd [(2, 0), (2, 1), (2, 2), (2, 3), (2, 4)] pl0 pl1 ∧ tt_fa Kd [] pl0 pl1 ∧ ((r = none))))) (jj_x D A (tt_OX (fun _ _ _ => False))) args s 0 0 A) (jj_X D A ([] ++ pl)) 0 0 2 [(3, .int x_2), (0, .ref h0), (1, .ref h1), (2, .int 0)] [] := by
    intro NL_1
    induction NL_1 with
    | zero => intro pl x_2 _ hok hfr hfa lx_2 ux_2 hNL_1; exfalso; omega
    | succ NL_1 ihL_1 =>
      intro pl x_2 _ hok hfr hfa lx_2 ux_2 hNL_1
      replace ihL_1 := fun pl x_2 h1 => ihL_1 pl x_2 trivial h1
      refine jj_iload_n C dX1_resetTrial_2 rfl ?_
      refine jj_aload_n C dX1_resetTrial_3 rfl ?_
      refine tt_get C hok jk_2 7 (by decide) jw_1a34255153 (t := (0, 0, 6)) hk1 (by decide) rfl rfl dX1_resetTrial_4 (fun v_3 hv_3 hf_4 => ?_)
      obtain ⟨x_5, rfl, lx_5, ux_5⟩ := tt_vi hv_3
      refine jj_icmp_ge (tgt := 50) C dX1_resetTrial_7 (by decide) (fun c_6 => ?_) (fun c_6 => ?_)
      · have z_c_6 := jc_le (a := (x_5).toInt) (b := (x_2).toInt) c_6 rfl rfl
        exact jj_vret C ⟨[], pl, rfl, rfl, hok, hfr, hfa, rfl⟩ dX1_resetTrial_50 (jj_le rfl) (jj_le rfl)
      · have z_c_6 := jc_nle (a := (x_5).toInt) (b := (x_2).toInt) c_6 rfl rfl
        refine jj_aload_n C dX1_resetTrial_10 rfl ?_
        refine tt_get C hok jk_3 0 (by decide) jw_808194b586 (t := (2, 6, 0)) hk0 (by decide) rfl rfl dX1_resetTrial_11 (fun v_7 hv_7 hf_8 => ?_)
        obtain ⟨a_9, rfl, ka_9⟩ := tt_vr hv_7
        refine jj_iload_n C dX1_resetTrial_14 rfl ?_
        refine tt_aald C hok (t := (2, 2, 0)) ka_9 (by decide) rfl rfl rfl (vp_in_iff.mpr ⟨by omega, by omega⟩) dX1_resetTrial_15 (fun v_10 hv_10 => ?_)
        obtain ⟨a_11, rfl, ka_11⟩ := tt_vr hv_10
        refine jj_aload_n C dX1_resetTrial_16 rfl ?_
        refine tt_get C hok jk_2 11 (by decide) jw_56984fd307 (t := (2, 6, 0)) hk1 (by decide) rfl rfl dX1_resetTrial_17 (fun v_12 hv_12 hf_13 => ?_)
        obtain ⟨a_14, rfl, ka_14⟩ := tt_vr hv_12
        refine jj_iload_n C dX1_resetTrial_20 rfl ?_
        refine tt_aald C hok (t := (2, 2, 0)) ka_14 (by decide) rfl rfl rfl (vp_in_iff.mpr ⟨by omega, by omega⟩) dX1_resetTrial_21 (fun v_15 hv_15 => ?_)
        obtain ⟨a_16, rfl, ka_16⟩ := tt_vr hv_15
        obtain ⟨qc, gs, hqc⟩ := tt_recv (cx := []) hok ka_11 (by decide) rfl
        refine tt_callV (rest := []) C (tc_X8_copyFrom_1 hl D cA ak a_11 a_16 ka_11 ka_16 hok) [] [] rfl rfl (by decide) (by decide) (by decide) qc hqc rfl rfl jw_ce2703e07f jw_90d71545dc jw_31822f9d17 jw_364e75910d jw_067ae4989e jn_X8_copyFrom rfl (jj_le rfl) (jj_le rfl) (jj_le rfl) (jj_le rfl) (jj_le rfl) dX1_resetTrial_22 rfl (fun _ _ _ hX => hX.elim) (fun rx pl_17 r O_20 => ?_)
        obtain ⟨rfl, hok_18, hr_19, hfa9, hR_22⟩ := O_20
        replace hf_4 := hr_19.at hk1 (by decide) (by decide) hf_4
        replace hf_8 := hr_19.at hk0 (by decide) (by decide) hf_8
        replace hf_13 := hr_19.at hk1 (by decide) (by decide) hf_13
        replace hfr := hfr.trans (hr_19.sub (by decide))
        replace hfa := hfa.trans (hfa9.sub (by decide))
        obtain rfl := hR_22
        refine jj_aload_n C dX1_resetTrial_25 rfl ?_
        refine tt_getF C hok_18 jk_3 0 (by decide) jw_808194b586 (t := (2, 6, 0)) hk0 (by decide) rfl rfl hf_8 dX1_resetTrial_26 ?_
        refine jj_iload_n C dX1_resetTrial_29 rfl ?_
        refine tt_aald C hok_18 (t := (2, 2, 0)) ka_9 (by decide) rfl rfl rfl (vp_in_iff.mpr ⟨by omega, by omega⟩) dX1_resetTrial_30 (fun v_25 hv_25 => ?_)
        obtain ⟨a_26, rfl, ka_26⟩ := tt_vr hv_25
        refine jj_aload_n C dX1_resetTrial_31 rfl ?_
        refine tt_getF C hok_18 jk_3 0 (by decide) jw_808194b586 (t := (2, 6, 0)) hk0 (by decide) rfl rfl hf_8 dX1_resetTrial_32 ?_
        refine jj_iload_n C dX1_resetTrial_35 rfl ?_
        refine tt_aald C hok_18 (t := (2, 2, 0)) ka_9 (by decide) rfl rfl rfl (vp_in_iff.mpr ⟨by omega, by omega⟩) dX1_resetTrial_36 (fun v_27 hv_27 => ?_)
        obtain ⟨a_28, rfl, ka_28⟩ := tt_vr hv_27
        refine jj_iload_n C dX1_resetTrial_37 rfl ?_
        obtain ⟨qc, gs, hqc⟩ := tt_recv (cx := []) hok_18 ka_28 (by decide) rfl
        refine tt_callV (rest := [.ref a_26]) C (tc_X8_assetsAfter_1 hl D cA ak a_28 ka_28 hok_18) [] [] rfl rfl (by decide) (by decide) (by decide) qc hqc rfl rfl jw_9f44c87e1b jw_f7b9340b8f jw_ed03d6c861 jw_364e75910d jw_37a3f39914 jn_X8_assetsAfter rfl (jj_le rfl) (jj_le rfl) (jj_le rfl) (jj_le rfl) (jj_le rfl) dX1_resetTrial_38 rfl (fun _ _ _ hX => hX.elim) (fun rx pl_29 r O_32 => ?_)
        obtain ⟨rfl, hok_30, hr_31, hfa9, hR_34⟩ := O_32
        replace hf_4 := hr_31.at hk1 (by decide) (by decide) hf_4
        replace hf_8 := hr_31.at hk0 (by decide) (by decide) hf_8
        replace hf_13 := hr_31.at hk1 (by decide) (by decide) hf_13
        replace hfr := hfr.trans (hr_31.sub (by decide))
        replace hfa := hfa.trans (hfa9.sub (by decide))
        obtain ⟨y_37, rfl⟩ := hR_34
        refine rl_put C hok_30 jk_9 2 (by decide) jw_a25c79ea7a (t := (1, (-9223372036854775808), 9223372036854775807)) ka_26 (by decide) rfl rfl rfl (tt_ja y_37) rfl rfl dX1_resetTrial_41 (fun pl_38 hok_39 tr hn tl => ?_)
        replace hf_4 := tr _ _ _ (Or.inl (tt_ne hk1 ka_26 (by decide))) hf_4
        replace hf_8 := tr _ _ _ (Or.inl (tt_ne hk0 ka_26 (by decide))) hf_8
        replace hf_13 := tr _ _ _ (Or.inl (tt_ne hk1 ka_26 (by decide))) hf_13
        have hf_40 := hn
        replace hfr := hfr.put ka_26 tr (by decide)
        replace hfa := hfa.all tl
        obtain ⟨x_41, ex_41, vx_41⟩ := tt_inc (x := x_2) (n := 1) (by omega) (by omega)
        refine jj_iinc (v := x_41) C dX1_resetTrial_44 rfl ex_41 (by decide) rfl ?_
        refine jj_goto (tgt := 2) C dX1_resetTrial_47 (by decide) ?_
        exact ihL_1 pl_38 x_41 hok_39 hfr hfa (by first | omega | decide | exact tt_lo _ | exact tt_hi _) (by first | omega | decide | exact tt_lo _ | exact tt_hi _) (by first | omega | decide | exact tt_lo _ | exact tt_hi _)
  exact hL_1 _ pl0 (0 : Int32) trivial hok hfr hfa (by first | omega | decide | exact tt_lo _ | exact tt_hi _) (by first | omega | decide | exact tt_lo _ | exact tt_hi _) (Int.self_le_toNat _)

set_option maxHeartbeats 4000000 in
set_option maxRecDepth 100000 in
theorem tc_X0_placeOfSeries_1 {l : Launch} (hl : l.stackTraces = false) (D : va_G) (cA : Nat → ClassId) (ak : (Nat → Nat) × (Nat → Nat)) {Kd : Nat → Nat} (h0 : Nat) (p1 : Int32) (hk0 : Kd h0 = 1) {pl0 : va_W} (hok : tt_ok tt_tk cA Kd pl0) : jj_M l D cA ak yX0_placeOfSeries (.code yX0_placeOfSeries cX0_placeOfSeries 3 (some .int)) 0 0 0 0 ([] ++ pl0) [.ref h0, .int p1] (tt_O (fun rx pl1 r => rx = [] ∧ tt_ok tt_tk cA Kd pl1 ∧ tt_fr Kd [] pl0 pl1 ∧ tt_fa Kd [] pl0 pl1 ∧ ((r = some (.int (-1))) ∨ (∃ v : Int32, (0 : Int) ≤ v.toInt ∧ v.toInt ≤ 5 ∧ r = some (.int v))))) (tt_OX (fun _ _ _ => False)) := by
  refine jj_start hl (by decide) jw_3fe68be2d3 (jj_le rfl) ?_
  intro p e s m args below meth c A hargs hA C hex hmn
  have hfr := tt_fr.refl (K := Kd) (WS := []) pl0
  have hfa := tt_fa.refl (K := Kd) (WA := []) pl0
  have lp1 := tt_lo p1
  have up1 := tt_hi p1
  refine jj_iconst (v := 0) C dX0_placeOfSeries_0 (by decide) ?_
  refine jj_istore_n C dX0_placeOfSeries_1 (by decide) rfl ?_
  have hL_1 : ∀ (N : Nat) (pl : va_W) (x_2 : Int32), True → tt_ok tt_tk cA Kd pl → tt_fr Kd [] pl0 pl → tt_fa Kd [] pl0 pl → (0 : Int) ≤ x_2.toInt → x_2.toInt ≤ 6 → (2147483648 - x_2.toInt ≤ (N : Int)) → jj_J p l e (jj_rm 0 0 0 0) s m args below meth c 3 A (vx_MQ below (jj_q D A (tt_O (fun rx pl1 r => rx = [] ∧ tt_ok tt_tk cA Kd pl1 ∧ tt_fr Kd [] pl0 pl1 ∧ tt_fa Kd [] pl0 pl1 ∧ ((r = some (.int (-1))) ∨ (∃ v : Int32, (0 : Int) ≤ v.toInt ∧ v.toInt ≤ 5 ∧ r = some (.int v)))))) (jj_x D A (tt_OX (fun _ _ _ => False))) args s 0 0 A) (jj_X D A ([] ++ pl)) 0 0 2 [(2, .int x_2), (0, .ref h0), (1, .int p1)] [] := by
    intro NL_1
    induction NL_1 with
    | zero => intro pl x_2 _ hok hfr hfa lx_2 ux_2 hNL_1; exfalso; omega
    | succ NL_1 ihL_1 =>
      intro pl x_2 _ hok hfr hfa lx_2 ux_2 hNL_1
      replace ihL_1 := fun pl x_2 h1 => ihL_1 pl x_2 trivial h1
      refine jj_iload_n C dX0_placeOfSeries_2 rfl ?_
      refine jj_aload_n C dX0_placeOfSeries_3 rfl ?_
      refine tt_get C hok jk_2 7 (by decide) jw_4839b30b4b (t := (0, 0, 6)) hk0 (by decide) rfl rfl dX0_placeOfSeries_4 (fun v_3 hv_3 hf_4 => ?_)
      obtain ⟨x_5, rfl, lx_5, ux_5⟩ := tt_vi hv_3
      refine jj_icmp_ge (tgt := 31) C dX0_placeOfSeries_7 (by decide) (fun c_6 => ?_) (fun c_6 => ?_)
      · have z_c_6 := jc_le (a := (x_5).toInt) (b := (x_2).toInt) c_6 rfl rfl
        refine jj_iconst (v := (-1)) C dX0_placeOfSeries_31 (by decide) ?_
        exact jj_iret C ⟨[], pl, rfl, rfl, hok, hfr, hfa, (Or.inl rfl)⟩ dX0_placeOfSeries_32 (jj_le rfl) (jj_le rfl)
      · have z_c_6 := jc_nle (a := (x_5).toInt) (b := (x_2).toInt) c_6 rfl rfl
        refine jj_aload_n C dX0_placeOfSeries_10 rfl ?_
        refine tt_get C hok jk_2 11 (by decide) jw_b81d81495e (t := (2, 6, 0)) hk0 (by decide) rfl rfl dX0_placeOfSeries_11 (fun v_7 hv_7 hf_8 => ?_)
        obtain ⟨a_9, rfl, ka_9⟩ := tt_vr hv_7
        refine jj_iload_n C dX0_placeOfSeries_14 rfl ?_
        refine tt_aald C hok (t := (2, 2, 0)) ka_9 (by decide) rfl rfl rfl (vp_in_iff.mpr ⟨by omega, by omega⟩) dX0_placeOfSeries_15 (fun v_10 hv_10 => ?_)
        obtain ⟨a_11, rfl, ka_11⟩ := tt_vr hv_10
        refine tt_get C hok jk_9 0 (by decide) jw_80b89a5c28 (t := (0, (-2147483648), 2147483647)) ka_11 (by decide) rfl rfl dX0_placeOfSeries_16 (fun v_12 hv_12 hf_13 => ?_)
        obtain ⟨x_14, rfl, lx_14, ux_14⟩ := tt_vi hv_12
        refine jj_iload_n C dX0_placeOfSeries_19 rfl ?_
        refine jj_icmp_ne (tgt := 25) C dX0_placeOfSeries_20 (by decide) (fun c_15 => ?_) (fun c_15 => ?_)
        · have z_c_15 := jc_neq (a := (x_14).toInt) (b := (p1).toInt) c_15 rfl rfl
          obtain ⟨x_16, ex_16, vx_16⟩ := tt_inc (x := x_2) (n := 1) (by omega) (by omega)
          refine jj_iinc (v := x_16) C dX0_placeOfSeries_25 rfl ex_16 (by decide) rfl ?_
          refine jj_goto (tgt := 2) C dX0_placeOfSeries_28 (by decide) ?_
          exact ihL_1 pl x_16 hok hfr hfa (by first | omega | decide | exact tt_lo _ | exact tt_hi _) (by first | omega | decide | exact tt_lo _ | exact tt_hi _) (by first | omega | decide | exact tt_lo _ | exact tt_hi _)
        · have z_c_15 := jc_eq (a := (x_14).toInt) (b := (p1).toInt) c_15 rfl rfl
          refine jj_iload_n C dX0_placeOfSeries_23 rfl ?_
          exact jj_iret C ⟨[], pl, rfl, rfl, hok, hfr, hfa, (Or.inr ⟨x_2, (by first | omega | exact tt_lo _ | exact tt_hi _), (by first | omega | exact tt_lo _ | exact tt_hi _), rfl⟩)⟩ dX0_placeOfSeries_24 (jj_le rfl) (jj_le rfl)
  exact hL_1 _ pl0 (0 : Int32) trivial hok hfr hfa (by first | omega | decide | exact tt_lo _ | exact tt_hi _) (by first | omega | decide | exact tt_lo _ | exact tt_hi _) (Int.self_le_toNat _)

set_option maxHeartbeats 4000000 in
set_option maxRecDepth 100000 in
theorem tc_X8_accruedFee_1 {l : Launch} (hl : l.stackTraces = false) (D : va_G) (cA : Nat → ClassId) (ak : (Nat → Nat) × (Nat → Nat)) {Kd : Nat → Nat} (h0 : Nat) (p1 : Int32) (hk0 : Kd h0 = 2) {pl0 : va_W} (hok : tt_ok tt_tk cA Kd pl0) : jj_M l D cA ak yX8_accruedFee (.code yX8_accruedFee cX8_accruedFee 6 (some .long)) 0 0 0 0 ([] ++ pl0) [.ref h0, .int p1] (tt_O (fun rx pl1 r => rx = [] ∧ tt_ok tt_tk cA Kd pl1 ∧ tt_fr Kd [] pl0 pl1 ∧ tt_fa Kd [] pl0 pl1 ∧ ((r = some (.long 0)) ∨ (∃ v : Int64, r = some (.long v))))) (tt_OX (fun _ _ _ => False)) := by
  refine jj_start hl (by decide) jw_449e8f4cf4 (jj_le rfl) ?_
  intro p e s m args below meth c A hargs hA C hex hmn
  have hfr := tt_fr.refl (K := Kd) (WS := []) pl0
  have hfa := tt_fa.refl (K := Kd) (WA := []) pl0
  have lp1 := tt_lo p1
  have up1 := tt_hi p1
  refine jj_aload_n C dX8_accruedFee_0 rfl ?_
  refine tt_get C hok jk_9 4 (by decide) jw_e3193c06db (t := (1, (-9223372036854775808), 9223372036854775807)) hk0 (by decide) rfl rfl dX8_accruedFee_1 (fun v_1 hv_1 hf_2 => ?_)
  obtain ⟨y_3, rfl, -, -⟩ := tt_vj hv_1
  refine jj_ldc2 (v := 100000) C dX8_accruedFee_4 jw_fb244e1aed ?_
  obtain ⟨y_4, ey_4⟩ : ∃ z : Int64, y_3 / (100000 : Int64) = z := ⟨_, rfl⟩
  refine jj_ldiv (v := y_4) C dX8_accruedFee_7 (by decide) ey_4 ?_
  refine jj_aload_n C dX8_accruedFee_8 rfl ?_
  refine tt_get C hok jk_9 3 (by decide) jw_dade208d77 (t := (1, (-9223372036854775808), 9223372036854775807)) hk0 (by decide) rfl rfl dX8_accruedFee_9 (fun v_5 hv_5 hf_6 => ?_)
  obtain ⟨y_7, rfl, -, -⟩ := tt_vj hv_5
  obtain ⟨y_8, ey_8⟩ : ∃ z : Int64, y_4 * y_7 = z := ⟨_, rfl⟩
  refine jj_lmul (v := y_8) C dX8_accruedFee_12 ey_8 ?_
  refine jj_aload_n C dX8_accruedFee_13 rfl ?_
  refine tt_getF C hok jk_9 4 (by decide) jw_e3193c06db (t := (1, (-9223372036854775808), 9223372036854775807)) hk0 (by decide) rfl rfl hf_2 dX8_accruedFee_14 ?_
  refine jj_ldc2 (v := 100000) C dX8_accruedFee_17 jw_fb244e1aed ?_
  obtain ⟨y_9, ey_9⟩ : ∃ z : Int64, y_3 - y_3 / (100000 : Int64) * (100000 : Int64) = z := ⟨_, rfl⟩
  refine jj_lrem (v := y_9) C dX8_accruedFee_20 (by decide) ey_9 ?_
  refine jj_aload_n C dX8_accruedFee_21 rfl ?_
  refine tt_getF C hok jk_9 3 (by decide) jw_dade208d77 (t := (1, (-9223372036854775808), 9223372036854775807)) hk0 (by decide) rfl rfl hf_6 dX8_accruedFee_22 ?_
  obtain ⟨y_10, ey_10⟩ : ∃ z : Int64, y_9 * y_7 = z := ⟨_, rfl⟩
  refine jj_lmul (v := y_10) C dX8_accruedFee_25 ey_10 ?_
  refine jj_ldc2 (v := 100000) C dX8_accruedFee_26 jw_fb244e1aed ?_
  obtain ⟨y_11, ey_11⟩ : ∃ z : Int64, y_10 / (100000 : Int64) = z := ⟨_, rfl⟩
  refine jj_ldiv (v := y_11) C dX8_accruedFee_29 (by decide) ey_11 ?_
  obtain ⟨y_12, ey_12⟩ : ∃ z : Int64, y_8 + y_11 = z := ⟨_, rfl⟩
  refine jj_ladd (v := y_12) C dX8_accruedFee_30 ey_12 ?_
  refine jj_lstore_n C dX8_accruedFee_31 (by decide) rfl ?_
  refine jj_aload_n C dX8_accruedFee_32 rfl ?_
  refine tt_get C hok jk_9 2 (by decide) jw_589ef22e6e (t := (1, (-9223372036854775808), 9223372036854775807)) hk0 (by decide) rfl rfl dX8_accruedFee_33 (fun v_13 hv_13 hf_14 => ?_)
  obtain ⟨y_15, rfl, -, -⟩ := tt_vj hv_13
  refine jj_lload_n C dX8_accruedFee_36 rfl ?_
  obtain ⟨y_16, ey_16⟩ : ∃ z : Int64, y_15 - y_12 = z := ⟨_, rfl⟩
  refine jj_lsub (v := y_16) C dX8_accruedFee_37 ey_16 ?_
  refine jj_lstore C dX8_accruedFee_38 (by decide) rfl ?_
  refine jj_lload C dX8_accruedFee_40 rfl ?_
  refine jj_lconst (v := 0) C dX8_accruedFee_42 (by decide) ?_
  refine jj_lcmp_le (tgt := 59) C dX8_accruedFee_43 dX8_accruedFee_44 (by decide) (fun c_17 => ?_) (fun c_17 => ?_)
  · refine jj_lconst (v := 0) C dX8_accruedFee_59 (by decide) ?_
    exact jj_lret C ⟨[], pl0, rfl, rfl, hok, hfr, hfa, (Or.inl rfl)⟩ dX8_accruedFee_60 (jj_le rfl) (jj_le rfl)
  · refine jj_lload C dX8_accruedFee_47 rfl ?_
    refine jj_iload_n C dX8_accruedFee_49 rfl ?_
    obtain ⟨y_18, ey_18, vy_18⟩ := tt_i2l p1
    refine jj_i2l (v := y_18) C dX8_accruedFee_50 ey_18 ?_
    obtain ⟨y_19, ey_19⟩ : ∃ z : Int64, y_16 * y_18 = z := ⟨_, rfl⟩
    refine jj_lmul (v := y_19) C dX8_accruedFee_51 ey_19 ?_
    refine jj_ldc2 (v := 100) C dX8_accruedFee_52 jw_60a3b5db88 ?_
    obtain ⟨y_20, ey_20⟩ : ∃ z : Int64, y_19 / (100 : Int64) = z := ⟨_, rfl⟩
    refine jj_ldiv (v := y_20) C dX8_accruedFee_55 (by decide) ey_20 ?_
    refine jj_goto (tgt := 60) C dX8_accruedFee_56 (by decide) ?_
    exact jj_lret C ⟨[], pl0, rfl, rfl, hok, hfr, hfa, (Or.inr ⟨y_20, rfl⟩)⟩ dX8_accruedFee_60 (jj_le rfl) (jj_le rfl)

set_option maxHeartbeats 4000000 in
set_option maxRecDepth 100000 in
theorem tc_X8_grossPrice_1 {l : Launch} (hl : l.stackTraces = false) (D : va_G) (cA : Nat → ClassId) (ak : (Nat → Nat) × (Nat → Nat)) {Kd : Nat → Nat} (h0 : Nat) (hk0 : Kd h0 = 2) {pl0 : va_W} (hok : tt_ok tt_tk cA Kd pl0) : jj_M l D cA ak yX8_grossPrice (.code yX8_grossPrice cX8_grossPrice 1 (some .long)) 0 0 0 0 ([] ++ pl0) [.ref h0] (tt_O (fun rx pl1 r => rx = [] ∧ tt_ok tt_tk cA Kd pl1 ∧ tt_fr Kd [] pl0 pl1 ∧ tt_fa Kd [] pl0 pl1 ∧ ((r = some (.long 1000000)) ∨ (∃ v : Int64, r = some (.long v))))) (tt_OX (fun _ _ _ => False)) := by
  refine jj_start hl (by decide) jw_11bb953c63 (jj_le rfl) ?_
  intro p e s m args below meth c A hargs hA C hex hmn
  have hfr := tt_fr.refl (K := Kd) (WS := []) pl0
  have hfa := tt_fa.refl (K := Kd) (WA := []) pl0
  refine jj_aload_n C dX8_grossPrice_0 rfl ?_
  refine tt_get C hok jk_9 3 (by decide) jw_dade208d77 (t := (1, (-9223372036854775808), 9223372036854775807)) hk0 (by decide) rfl rfl dX8_grossPrice_1 (fun v_1 hv_1 hf_2 => ?_)
  obtain ⟨y_3, rfl, -, -⟩ := tt_vj hv_1
  refine jj_lconst (v := 0) C dX8_grossPrice_4 (by decide) ?_
  refine jj_lcmp_le (tgt := 25) C dX8_grossPrice_5 dX8_grossPrice_6 (by decide) (fun c_4 => ?_) (fun c_4 => ?_)
  · refine jj_ldc2 (v := 1000000) C dX8_grossPrice_25 jw_6861b3b77c ?_
    exact jj_lret C ⟨[], pl0, rfl, rfl, hok, hfr, hfa, (Or.inl rfl)⟩ dX8_grossPrice_28 (jj_le rfl) (jj_le rfl)
  · refine jj_aload_n C dX8_grossPrice_9 rfl ?_
    refine tt_get C hok jk_9 2 (by decide) jw_589ef22e6e (t := (1, (-9223372036854775808), 9223372036854775807)) hk0 (by decide) rfl rfl dX8_grossPrice_10 (fun v_5 hv_5 hf_6 => ?_)
    obtain ⟨y_7, rfl, -, -⟩ := tt_vj hv_5
    refine jj_ldc2 (v := 100000) C dX8_grossPrice_13 jw_fb244e1aed ?_
    obtain ⟨y_8, ey_8⟩ : ∃ z : Int64, y_7 * (100000 : Int64) = z := ⟨_, rfl⟩
    refine jj_lmul (v := y_8) C dX8_grossPrice_16 ey_8 ?_
    refine jj_aload_n C dX8_grossPrice_17 rfl ?_
    refine tt_getF C hok jk_9 3 (by decide) jw_dade208d77 (t := (1, (-9223372036854775808), 9223372036854775807)) hk0 (by decide) rfl rfl hf_2 dX8_grossPrice_18 ?_
    obtain ⟨y_9, ey_9⟩ : ∃ z : Int64, y_8 / y_3 = z := ⟨_, rfl⟩
    refine jj_ldiv (v := y_9) C dX8_grossPrice_21 (jt_nzpL (by first | exact Int64.not_le.mp c_4 | exact Int32.not_le.mp c_4)) ey_9 ?_
    refine jj_goto (tgt := 28) C dX8_grossPrice_22 (by decide) ?_
    exact jj_lret C ⟨[], pl0, rfl, rfl, hok, hfr, hfa, (Or.inr ⟨y_9, rfl⟩)⟩ dX8_grossPrice_28 (jj_le rfl) (jj_le rfl)

set_option maxHeartbeats 4000000 in
set_option maxRecDepth 100000 in
theorem tc_X2_dueOn_1 {l : Launch} (hl : l.stackTraces = false) (D : va_G) (cA : Nat → ClassId) (ak : (Nat → Nat) × (Nat → Nat)) {Kd : Nat → Nat} (p0 : Int64) (p1 : Int64) (p2 : Int64) (p3 : Int32) {pl0 : va_W} (hok : tt_ok tt_tk cA Kd pl0) : jj_M l D cA ak yX2_dueOn (.code yX2_dueOn cX2_dueOn 7 (some .long)) 0 0 0 0 ([] ++ pl0) [.long p0, .long p1, .long p2, .int p3] (tt_O (fun rx pl1 r => rx = [] ∧ tt_ok tt_tk cA Kd pl1 ∧ tt_fr Kd [] pl0 pl1 ∧ tt_fa Kd [] pl0 pl1 ∧ ((r = some (.long 0)) ∨ (∃ v : Int64, r = some (.long v))))) (tt_OX (fun _ _ _ => False)) := by
  refine jj_start hl (by decide) jw_eebd9e2034 (jj_le rfl) ?_
  intro p e s m args below meth c A hargs hA C hex hmn
  have hfr := tt_fr.refl (K := Kd) (WS := []) pl0
  have hfa := tt_fa.refl (K := Kd) (WA := []) pl0
  have lp3 := tt_lo p3
  have up3 := tt_hi p3
  refine jj_lload C dX2_dueOn_0 rfl ?_
  refine jj_lload_n C dX2_dueOn_2 rfl ?_
  refine jj_lcmp_le (tgt := 28) C dX2_dueOn_3 dX2_dueOn_4 (by decide) (fun c_1 => ?_) (fun c_1 => ?_)
  · refine jj_lconst (v := 0) C dX2_dueOn_28 (by decide) ?_
    exact jj_lret C ⟨[], pl0, rfl, rfl, hok, hfr, hfa, (Or.inl rfl)⟩ dX2_dueOn_29 (jj_le rfl) (jj_le rfl)
  · refine jj_lload_n C dX2_dueOn_7 rfl ?_
    refine jj_lload C dX2_dueOn_8 rfl ?_
    refine jj_lload_n C dX2_dueOn_10 rfl ?_
    obtain ⟨y_2, ey_2⟩ : ∃ z : Int64, p2 - p1 = z := ⟨_, rfl⟩
    refine jj_lsub (v := y_2) C dX2_dueOn_11 ey_2 ?_
    obtain ⟨y_3, ey_3⟩ : ∃ z : Int64, p0 * y_2 = z := ⟨_, rfl⟩
    refine jj_lmul (v := y_3) C dX2_dueOn_12 ey_3 ?_
    refine jj_iload C dX2_dueOn_13 rfl ?_
    obtain ⟨y_4, ey_4, vy_4⟩ := tt_i2l p3
    refine jj_i2l (v := y_4) C dX2_dueOn_15 ey_4 ?_
    obtain ⟨y_5, ey_5⟩ : ∃ z : Int64, y_3 * y_4 = z := ⟨_, rfl⟩
    refine jj_lmul (v := y_5) C dX2_dueOn_16 ey_5 ?_
    refine jj_ldc2 (v := 100) C dX2_dueOn_17 jw_0871e3df77 ?_
    obtain ⟨y_6, ey_6⟩ : ∃ z : Int64, y_5 / (100 : Int64) = z := ⟨_, rfl⟩
    refine jj_ldiv (v := y_6) C dX2_dueOn_20 (by decide) ey_6 ?_
    refine jj_ldc2 (v := 100000) C dX2_dueOn_21 jw_acb9b226b5 ?_
    obtain ⟨y_7, ey_7⟩ : ∃ z : Int64, y_6 / (100000 : Int64) = z := ⟨_, rfl⟩
    refine jj_ldiv (v := y_7) C dX2_dueOn_24 (by decide) ey_7 ?_
    refine jj_goto (tgt := 29) C dX2_dueOn_25 (by decide) ?_
    exact jj_lret C ⟨[], pl0, rfl, rfl, hok, hfr, hfa, (Or.inr ⟨y_7, rfl⟩)⟩ dX2_dueOn_29 (jj_le rfl) (jj_le rfl)

set_option maxHeartbeats 4000000 in
set_option maxRecDepth 100000 in
theorem tc_X2_dueOn_2 {l : Launch} (hl : l.stackTraces = false) (D : va_G) (cA : Nat → ClassId) (ak : (Nat → Nat) × (Nat → Nat)) {Kd : Nat → Nat} (p0 : Int64) (p1 : Int64) (p3 : Int32) {pl0 : va_W} (hok : tt_ok tt_tk cA Kd pl0) : jj_M l D cA ak yX2_dueOn (.code yX2_dueOn cX2_dueOn 7 (some .long)) 0 0 0 0 ([] ++ pl0) [.long p0, .long p1, .long 1000000, .int p3] (tt_O (fun rx pl1 r => rx = [] ∧ tt_ok tt_tk cA Kd pl1 ∧ tt_fr Kd [] pl0 pl1 ∧ tt_fa Kd [] pl0 pl1 ∧ ((r = some (.long 0)) ∨ (∃ v : Int64, r = some (.long v))))) (tt_OX (fun _ _ _ => False)) := by
  refine jj_start hl (by decide) jw_eebd9e2034 (jj_le rfl) ?_
  intro p e s m args below meth c A hargs hA C hex hmn
  have hfr := tt_fr.refl (K := Kd) (WS := []) pl0
  have hfa := tt_fa.refl (K := Kd) (WA := []) pl0
  have lp3 := tt_lo p3
  have up3 := tt_hi p3
  refine jj_lload C dX2_dueOn_0 rfl ?_
  refine jj_lload_n C dX2_dueOn_2 rfl ?_
  refine jj_lcmp_le (tgt := 28) C dX2_dueOn_3 dX2_dueOn_4 (by decide) (fun c_1 => ?_) (fun c_1 => ?_)
  · refine jj_lconst (v := 0) C dX2_dueOn_28 (by decide) ?_
    exact jj_lret C ⟨[], pl0, rfl, rfl, hok, hfr, hfa, (Or.inl rfl)⟩ dX2_dueOn_29 (jj_le rfl) (jj_le rfl)
  · refine jj_lload_n C dX2_dueOn_7 rfl ?_
    refine jj_lload C dX2_dueOn_8 rfl ?_
    refine jj_lload_n C dX2_dueOn_10 rfl ?_
    obtain ⟨y_2, ey_2⟩ : ∃ z : Int64, (1000000 : Int64) - p1 = z := ⟨_, rfl⟩
    refine jj_lsub (v := y_2) C dX2_dueOn_11 ey_2 ?_
    obtain ⟨y_3, ey_3⟩ : ∃ z : Int64, p0 * y_2 = z := ⟨_, rfl⟩
    refine jj_lmul (v := y_3) C dX2_dueOn_12 ey_3 ?_
    refine jj_iload C dX2_dueOn_13 rfl ?_
    obtain ⟨y_4, ey_4, vy_4⟩ := tt_i2l p3
    refine jj_i2l (v := y_4) C dX2_dueOn_15 ey_4 ?_
    obtain ⟨y_5, ey_5⟩ : ∃ z : Int64, y_3 * y_4 = z := ⟨_, rfl⟩
    refine jj_lmul (v := y_5) C dX2_dueOn_16 ey_5 ?_
    refine jj_ldc2 (v := 100) C dX2_dueOn_17 jw_0871e3df77 ?_
    obtain ⟨y_6, ey_6⟩ : ∃ z : Int64, y_5 / (100 : Int64) = z := ⟨_, rfl⟩
    refine jj_ldiv (v := y_6) C dX2_dueOn_20 (by decide) ey_6 ?_
    refine jj_ldc2 (v := 100000) C dX2_dueOn_21 jw_acb9b226b5 ?_
    obtain ⟨y_7, ey_7⟩ : ∃ z : Int64, y_6 / (100000 : Int64) = z := ⟨_, rfl⟩
    refine jj_ldiv (v := y_7) C dX2_dueOn_24 (by decide) ey_7 ?_
    refine jj_goto (tgt := 29) C dX2_dueOn_25 (by decide) ?_
    exact jj_lret C ⟨[], pl0, rfl, rfl, hok, hfr, hfa, (Or.inr ⟨y_7, rfl⟩)⟩ dX2_dueOn_29 (jj_le rfl) (jj_le rfl)

set_option maxHeartbeats 4000000 in
set_option maxRecDepth 100000 in
theorem tc_X1_quote_1 {l : Launch} (hl : l.stackTraces = false) (D : va_G) (cA : Nat → ClassId) (ak : (Nat → Nat) × (Nat → Nat)) {Kd : Nat → Nat} (h0 : Nat) (h1 : Nat) (h2 : Nat) (h3 : Nat) (p4 : Int64) (hk0 : Kd h0 = 9) (hk1 : Kd h1 = 1) (hk2 : Kd h2 = 2) (hk3 : Kd h3 = 3) {pl0 : va_W} (hok : tt_ok tt_tk cA Kd pl0) : jj_M l D cA ak yX1_quote (.code yX1_quote cX1_quote 9 none) 1 26 0 0 ([] ++ pl0) [.ref h0, .ref h1, .ref h2, .ref h3, .long p4] (tt_O (fun rx pl1 r => rx = [] ∧ tt_ok tt_tk cA Kd pl1 ∧ tt_fr Kd [(9, 1), (9, 2), (9, 3), (9, 4), (9, 5)] pl0 pl1 ∧ tt_fa Kd [] pl0 pl1 ∧ ((r = none)))) (tt_OX (fun _ _ _ => False)) := by
  refine jj_start hl (by decide) jw_9a9d59d9b6 (jj_le rfl) ?_
  intro p e s m args below meth c A hargs hA C hex hmn
  have hfr := tt_fr.refl (K := Kd) (WS := [(9, 1), (9, 2), (9, 3), (9, 4), (9, 5)]) pl0
  have hfa := tt_fa.refl (K := Kd) (WA := []) pl0
  refine jj_aload_n C dX1_quote_0 rfl ?_
  refine jj_aload_n C dX1_quote_1 rfl ?_
  refine tt_get C hok jk_2 3 (by decide) jw_8322fbab96 (t := (0, (-2147483648), 2147483647)) hk1 (by decide) rfl rfl dX1_quote_2 (fun v_1 hv_1 hf_2 => ?_)
  obtain ⟨x_3, rfl, lx_3, ux_3⟩ := tt_vi hv_1
  obtain ⟨qc, gs, hqc⟩ := tt_recv (cx := []) hok hk2 (by decide) rfl
  refine tt_callV (rest := []) C (tc_X8_accruedFee_1 hl D cA ak h2 x_3 hk2 hok) [] [] rfl rfl (by decide) (by decide) (by decide) qc hqc rfl rfl jw_8866efbbb4 jw_16e73d269e jw_e0ac78627f jw_364e75910d jw_449e8f4cf4 jn_X8_accruedFee rfl (jj_le rfl) (jj_le rfl) (jj_le rfl) (jj_le rfl) (jj_le rfl) dX1_quote_5 rfl (fun _ _ _ hX => hX.elim) (fun rx pl_4 r O_7 => ?_)
  obtain ⟨rfl, hok_5, hr_6, hfa9, hR_9⟩ := O_7
  replace hf_2 := hr_6.at hk1 (by decide) (by decide) hf_2
  replace hfr := hfr.trans (hr_6.sub (by decide))
  replace hfa := hfa.trans (hfa9.sub (by decide))
  rcases hR_9 with rfl | ⟨y_12, rfl⟩
  · refine jj_lstore C dX1_quote_8 (by decide) rfl ?_
    refine jj_aload_n C dX1_quote_10 rfl ?_
    refine tt_get C hok_5 jk_9 3 (by decide) jw_df3b225d28 (t := (1, (-9223372036854775808), 9223372036854775807)) hk2 (by decide) rfl rfl dX1_quote_11 (fun v_13 hv_13 hf_14 => ?_)
    obtain ⟨y_15, rfl, -, -⟩ := tt_vj hv_13
    refine jj_lconst (v := 0) C dX1_quote_14 (by decide) ?_
    refine jj_lcmp_le (tgt := 32) C dX1_quote_15 dX1_quote_16 (by decide) (fun c_16 => ?_) (fun c_16 => ?_)
    · refine jj_iconst (v := 0) C dX1_quote_32 (by decide) ?_
      refine jj_istore C dX1_quote_33 (by decide) rfl ?_
      refine jj_aload_n C dX1_quote_35 rfl ?_
      refine jj_iload C dX1_quote_36 rfl ?_
      refine jj_if_eqT (tgt := 59) C dX1_quote_38 (by decide) (by decide) ?_
      refine jj_lconst (v := 0) C dX1_quote_59 (by decide) ?_
      refine rl_put C hok_5 jk_3 1 (by decide) jw_d747bb1560 (t := (1, (-9223372036854775808), 9223372036854775807)) hk0 (by decide) rfl rfl rfl (tt_ja (0 : Int64)) rfl rfl dX1_quote_60 (fun pl_17 hok_18 tr hn tl => ?_)
      replace hf_2 := tr _ _ _ (Or.inl (tt_ne hk1 hk0 (by decide))) hf_2
      replace hf_14 := tr _ _ _ (Or.inl (tt_ne hk2 hk0 (by decide))) hf_14
      have hf_19 := hn
      replace hfr := hfr.put hk0 tr (by decide)
      replace hfa := hfa.all tl
      refine jj_aload_n C dX1_quote_63 rfl ?_
      refine jj_iload C dX1_quote_64 rfl ?_
      refine jj_if_eqT (tgt := 82) C dX1_quote_66 (by decide) (by decide) ?_
      refine jj_lconst (v := 0) C dX1_quote_82 (by decide) ?_
      refine rl_put C hok_18 jk_3 2 (by decide) jw_771ad03ca8 (t := (1, (-9223372036854775808), 9223372036854775807)) hk0 (by decide) rfl rfl rfl (tt_ja (0 : Int64)) rfl rfl dX1_quote_83 (fun pl_20 hok_21 tr hn tl => ?_)
      replace hf_2 := tr _ _ _ (Or.inl (tt_ne hk1 hk0 (by decide))) hf_2
      replace hf_14 := tr _ _ _ (Or.inl (tt_ne hk2 hk0 (by decide))) hf_14
      replace hf_19 := tr _ _ _ (Or.inr (by decide)) hf_19
      have hf_22 := hn
      replace hfr := hfr.put hk0 tr (by decide)
      replace hfa := hfa.all tl
      refine jj_aload_n C dX1_quote_86 rfl ?_
      refine jj_iload C dX1_quote_87 rfl ?_
      refine jj_if_eqT (tgt := 107) C dX1_quote_89 (by decide) (by decide) ?_
      refine jj_lconst (v := 0) C dX1_quote_107 (by decide) ?_
      refine rl_put C hok_21 jk_3 3 (by decide) jw_71edc34996 (t := (1, (-9223372036854775808), 9223372036854775807)) hk0 (by decide) rfl rfl rfl (tt_ja (0 : Int64)) rfl rfl dX1_quote_108 (fun pl_23 hok_24 tr hn tl => ?_)
      replace hf_2 := tr _ _ _ (Or.inl (tt_ne hk1 hk0 (by decide))) hf_2
      replace hf_14 := tr _ _ _ (Or.inl (tt_ne hk2 hk0 (by decide))) hf_14
      replace hf_19 := tr _ _ _ (Or.inr (by decide)) hf_19
      replace hf_22 := tr _ _ _ (Or.inr (by decide)) hf_22
      have hf_25 := hn
      replace hfr := hfr.put hk0 tr (by decide)
      replace hfa := hfa.all tl
      refine jj_aload_n C dX1_quote_111 rfl ?_
      refine jj_aload_n C dX1_quote_112 rfl ?_
      refine tt_getF C hok_24 jk_3 2 (by decide) jw_771ad03ca8 (t := (1, (-9223372036854775808), 9223372036854775807)) hk0 (by decide) rfl rfl hf_22 dX1_quote_113 ?_
      refine jj_aload_n C dX1_quote_116 rfl ?_
      refine tt_getF C hok_24 jk_3 3 (by decide) jw_71edc34996 (t := (1, (-9223372036854775808), 9223372036854775807)) hk0 (by decide) rfl rfl hf_25 dX1_quote_117 ?_
      refine tt_call0S (rest := [.ref h0]) C (ct_J9_min_f86c9_2 hl D cA ak) jw_fa02caeb63 jw_a0cddbe894 jw_a731c8553d jw_e0e7ffaaeb jn_J9_min_f86c9 rfl (jj_le rfl) (jj_le rfl) (jj_le rfl) (jj_le rfl) (jj_le rfl) dX1_quote_120 rfl (fun w1 r O_26 => ?_)
      obtain ⟨-, rfl⟩ := O_26
      refine rl_put C hok_24 jk_3 4 (by decide) jw_21f29d6c44 (t := (1, (-9223372036854775808), 9223372036854775807)) hk0 (by decide) rfl rfl rfl (tt_ja (0 : Int64)) rfl rfl dX1_quote_123 (fun pl_27 hok_28 tr hn tl => ?_)
      replace hf_2 := tr _ _ _ (Or.inl (tt_ne hk1 hk0 (by decide))) hf_2
      replace hf_14 := tr _ _ _ (Or.inl (tt_ne hk2 hk0 (by decide))) hf_14
      replace hf_19 := tr _ _ _ (Or.inr (by decide)) hf_19
      replace hf_22 := tr _ _ _ (Or.inr (by decide)) hf_22
      replace hf_25 := tr _ _ _ (Or.inr (by decide)) hf_25
      have hf_29 := hn
      replace hfr := hfr.put hk0 tr (by decide)
      replace hfa := hfa.all tl
      refine jj_aload_n C dX1_quote_126 rfl ?_
      refine jj_iload C dX1_quote_127 rfl ?_
      refine jj_if_eqT (tgt := 167) C dX1_quote_129 (by decide) (by decide) ?_
      refine jj_lconst (v := 0) C dX1_quote_167 (by decide) ?_
      refine rl_put C hok_28 jk_3 5 (by decide) jw_e41f55c9ce (t := (1, (-9223372036854775808), 9223372036854775807)) hk0 (by decide) rfl rfl rfl (tt_ja (0 : Int64)) rfl rfl dX1_quote_168 (fun pl_30 hok_31 tr hn tl => ?_)
      replace hf_2 := tr _ _ _ (Or.inl (tt_ne hk1 hk0 (by decide))) hf_2
      replace hf_14 := tr _ _ _ (Or.inl (tt_ne hk2 hk0 (by decide))) hf_14
      replace hf_19 := tr _ _ _ (Or.inr (by decide)) hf_19
      replace hf_22 := tr _ _ _ (Or.inr (by decide)) hf_22
      replace hf_25 := tr _ _ _ (Or.inr (by decide)) hf_25
      replace hf_29 := tr _ _ _ (Or.inr (by decide)) hf_29
      have hf_32 := hn
      replace hfr := hfr.put hk0 tr (by decide)
      replace hfa := hfa.all tl
      exact jj_vret C ⟨[], pl_30, rfl, rfl, hok_31, hfr, hfa, rfl⟩ dX1_quote_171 (jj_le rfl) (jj_le rfl)
    · refine jj_aload_n C dX1_quote_19 rfl ?_
      refine tt_get C hok_5 jk_5 3 (by decide) jw_fcb072e0d9 (t := (1, (-9223372036854775808), 9223372036854775807)) hk3 (by decide) rfl rfl dX1_quote_20 (fun v_33 hv_33 hf_34 => ?_)
      obtain ⟨y_35, rfl, -, -⟩ := tt_vj hv_33
      refine jj_lconst (v := 0) C dX1_quote_23 (by decide) ?_
      refine jj_lcmp_le (tgt := 32) C dX1_quote_24 dX1_quote_25 (by decide) (fun c_36 => ?_) (fun c_36 => ?_)
      · refine jj_iconst (v := 0) C dX1_quote_32 (by decide) ?_
        refine jj_istore C dX1_quote_33 (by decide) rfl ?_
        refine jj_aload_n C dX1_quote_35 rfl ?_
        refine jj_iload C dX1_quote_36 rfl ?_
        refine jj_if_eqT (tgt := 59) C dX1_quote_38 (by decide) (by decide) ?_
        refine jj_lconst (v := 0) C dX1_quote_59 (by decide) ?_
        refine rl_put C hok_5 jk_3 1 (by decide) jw_d747bb1560 (t := (1, (-9223372036854775808), 9223372036854775807)) hk0 (by decide) rfl rfl rfl (tt_ja (0 : Int64)) rfl rfl dX1_quote_60 (fun pl_37 hok_38 tr hn tl => ?_)
        replace hf_2 := tr _ _ _ (Or.inl (tt_ne hk1 hk0 (by decide))) hf_2
        replace hf_14 := tr _ _ _ (Or.inl (tt_ne hk2 hk0 (by decide))) hf_14
        replace hf_34 := tr _ _ _ (Or.inl (tt_ne hk3 hk0 (by decide))) hf_34
        have hf_39 := hn
        replace hfr := hfr.put hk0 tr (by decide)
        replace hfa := hfa.all tl
        refine jj_aload_n C dX1_quote_63 rfl ?_
        refine jj_iload C dX1_quote_64 rfl ?_
        refine jj_if_eqT (tgt := 82) C dX1_quote_66 (by decide) (by decide) ?_
        refine jj_lconst (v := 0) C dX1_quote_82 (by decide) ?_
        refine rl_put C hok_38 jk_3 2 (by decide) jw_771ad03ca8 (t := (1, (-9223372036854775808), 9223372036854775807)) hk0 (by decide) rfl rfl rfl (tt_ja (0 : Int64)) rfl rfl dX1_quote_83 (fun pl_40 hok_41 tr hn tl => ?_)
        replace hf_2 := tr _ _ _ (Or.inl (tt_ne hk1 hk0 (by decide))) hf_2
        replace hf_14 := tr _ _ _ (Or.inl (tt_ne hk2 hk0 (by decide))) hf_14
        replace hf_34 := tr _ _ _ (Or.inl (tt_ne hk3 hk0 (by decide))) hf_34
        replace hf_39 := tr _ _ _ (Or.inr (by decide)) hf_39
        have hf_42 := hn
        replace hfr := hfr.put hk0 tr (by decide)
        replace hfa := hfa.all tl
        refine jj_aload_n C dX1_quote_86 rfl ?_
        refine jj_iload C dX1_quote_87 rfl ?_
        refine jj_if_eqT (tgt := 107) C dX1_quote_89 (by decide) (by decide) ?_
        refine jj_lconst (v := 0) C dX1_quote_107 (by decide) ?_
        refine rl_put C hok_41 jk_3 3 (by decide) jw_71edc34996 (t := (1, (-9223372036854775808), 9223372036854775807)) hk0 (by decide) rfl rfl rfl (tt_ja (0 : Int64)) rfl rfl dX1_quote_108 (fun pl_43 hok_44 tr hn tl => ?_)
        replace hf_2 := tr _ _ _ (Or.inl (tt_ne hk1 hk0 (by decide))) hf_2
        replace hf_14 := tr _ _ _ (Or.inl (tt_ne hk2 hk0 (by decide))) hf_14
        replace hf_34 := tr _ _ _ (Or.inl (tt_ne hk3 hk0 (by decide))) hf_34
        replace hf_39 := tr _ _ _ (Or.inr (by decide)) hf_39
        replace hf_42 := tr _ _ _ (Or.inr (by decide)) hf_42
        have hf_45 := hn
        replace hfr := hfr.put hk0 tr (by decide)
        replace hfa := hfa.all tl
        refine jj_aload_n C dX1_quote_111 rfl ?_
        refine jj_aload_n C dX1_quote_112 rfl ?_
        refine tt_getF C hok_44 jk_3 2 (by decide) jw_771ad03ca8 (t := (1, (-9223372036854775808), 9223372036854775807)) hk0 (by decide) rfl rfl hf_42 dX1_quote_113 ?_
        refine jj_aload_n C dX1_quote_116 rfl ?_
        refine tt_getF C hok_44 jk_3 3 (by decide) jw_71edc34996 (t := (1, (-9223372036854775808), 9223372036854775807)) hk0 (by decide) rfl rfl hf_45 dX1_quote_117 ?_
        refine tt_call0S (rest := [.ref h0]) C (ct_J9_min_f86c9_2 hl D cA ak) jw_fa02caeb63 jw_a0cddbe894 jw_a731c8553d jw_e0e7ffaaeb jn_J9_min_f86c9 rfl (jj_le rfl) (jj_le rfl) (jj_le rfl) (jj_le rfl) (jj_le rfl) dX1_quote_120 rfl (fun w1 r O_46 => ?_)
        obtain ⟨-, rfl⟩ := O_46
        refine rl_put C hok_44 jk_3 4 (by decide) jw_21f29d6c44 (t := (1, (-9223372036854775808), 9223372036854775807)) hk0 (by decide) rfl rfl rfl (tt_ja (0 : Int64)) rfl rfl dX1_quote_123 (fun pl_47 hok_48 tr hn tl => ?_)
        replace hf_2 := tr _ _ _ (Or.inl (tt_ne hk1 hk0 (by decide))) hf_2
        replace hf_14 := tr _ _ _ (Or.inl (tt_ne hk2 hk0 (by decide))) hf_14
        replace hf_34 := tr _ _ _ (Or.inl (tt_ne hk3 hk0 (by decide))) hf_34
        replace hf_39 := tr _ _ _ (Or.inr (by decide)) hf_39
        replace hf_42 := tr _ _ _ (Or.inr (by decide)) hf_42
        replace hf_45 := tr _ _ _ (Or.inr (by decide)) hf_45
        have hf_49 := hn
        replace hfr := hfr.put hk0 tr (by decide)
        replace hfa := hfa.all tl
        refine jj_aload_n C dX1_quote_126 rfl ?_
        refine jj_iload C dX1_quote_127 rfl ?_
        refine jj_if_eqT (tgt := 167) C dX1_quote_129 (by decide) (by decide) ?_
        refine jj_lconst (v := 0) C dX1_quote_167 (by decide) ?_
        refine rl_put C hok_48 jk_3 5 (by decide) jw_e41f55c9ce (t := (1, (-9223372036854775808), 9223372036854775807)) hk0 (by decide) rfl rfl rfl (tt_ja (0 : Int64)) rfl rfl dX1_quote_168 (fun pl_50 hok_51 tr hn tl => ?_)
        replace hf_2 := tr _ _ _ (Or.inl (tt_ne hk1 hk0 (by decide))) hf_2
        replace hf_14 := tr _ _ _ (Or.inl (tt_ne hk2 hk0 (by decide))) hf_14
        replace hf_34 := tr _ _ _ (Or.inl (tt_ne hk3 hk0 (by decide))) hf_34
        replace hf_39 := tr _ _ _ (Or.inr (by decide)) hf_39
        replace hf_42 := tr _ _ _ (Or.inr (by decide)) hf_42
        replace hf_45 := tr _ _ _ (Or.inr (by decide)) hf_45
        replace hf_49 := tr _ _ _ (Or.inr (by decide)) hf_49
        have hf_52 := hn
        replace hfr := hfr.put hk0 tr (by decide)
        replace hfa := hfa.all tl
        exact jj_vret C ⟨[], pl_50, rfl, rfl, hok_51, hfr, hfa, rfl⟩ dX1_quote_171 (jj_le rfl) (jj_le rfl)
      · refine jj_iconst (v := 1) C dX1_quote_28 (by decide) ?_
        refine jj_goto (tgt := 33) C dX1_quote_29 (by decide) ?_
        refine jj_istore C dX1_quote_33 (by decide) rfl ?_
        refine jj_aload_n C dX1_quote_35 rfl ?_
        refine jj_iload C dX1_quote_36 rfl ?_
        refine jj_if_eqF (tgt := 59) C dX1_quote_38 (by decide) (by decide) ?_
        refine jj_aload_n C dX1_quote_41 rfl ?_
        refine tt_get C hok_5 jk_9 2 (by decide) jw_a25c79ea7a (t := (1, (-9223372036854775808), 9223372036854775807)) hk2 (by decide) rfl rfl dX1_quote_42 (fun v_53 hv_53 hf_54 => ?_)
        obtain ⟨y_55, rfl, -, -⟩ := tt_vj hv_53
        refine jj_lload C dX1_quote_45 rfl ?_
        obtain ⟨y_56, ey_56⟩ : ∃ z : Int64, y_55 - (0 : Int64) = z := ⟨_, rfl⟩
        refine jj_lsub (v := y_56) C dX1_quote_47 ey_56 ?_
        refine jj_lload C dX1_quote_48 rfl ?_
        obtain ⟨y_57, ey_57⟩ : ∃ z : Int64, y_56 * p4 = z := ⟨_, rfl⟩
        refine jj_lmul (v := y_57) C dX1_quote_50 ey_57 ?_
        refine jj_aload_n C dX1_quote_51 rfl ?_
        refine tt_getF C hok_5 jk_9 3 (by decide) jw_df3b225d28 (t := (1, (-9223372036854775808), 9223372036854775807)) hk2 (by decide) rfl rfl hf_14 dX1_quote_52 ?_
        obtain ⟨y_58, ey_58⟩ : ∃ z : Int64, y_57 / y_15 = z := ⟨_, rfl⟩
        refine jj_ldiv (v := y_58) C dX1_quote_55 (jt_nzpL (by first | exact Int64.not_le.mp c_16 | exact Int32.not_le.mp c_16)) ey_58 ?_
        refine jj_goto (tgt := 60) C dX1_quote_56 (by decide) ?_
        refine rl_put C hok_5 jk_3 1 (by decide) jw_d747bb1560 (t := (1, (-9223372036854775808), 9223372036854775807)) hk0 (by decide) rfl rfl rfl (tt_ja y_58) rfl rfl dX1_quote_60 (fun pl_59 hok_60 tr hn tl => ?_)
        replace hf_2 := tr _ _ _ (Or.inl (tt_ne hk1 hk0 (by decide))) hf_2
        replace hf_14 := tr _ _ _ (Or.inl (tt_ne hk2 hk0 (by decide))) hf_14
        replace hf_34 := tr _ _ _ (Or.inl (tt_ne hk3 hk0 (by decide))) hf_34
        replace hf_54 := tr _ _ _ (Or.inl (tt_ne hk2 hk0 (by decide))) hf_54
        have hf_61 := hn
        replace hfr := hfr.put hk0 tr (by decide)
        replace hfa := hfa.all tl
        refine jj_aload_n C dX1_quote_63 rfl ?_
        refine jj_iload C dX1_quote_64 rfl ?_
        refine jj_if_eqF (tgt := 82) C dX1_quote_66 (by decide) (by decide) ?_
        refine jj_lload C dX1_quote_69 rfl ?_
        refine jj_lload C dX1_quote_71 rfl ?_
        obtain ⟨y_62, ey_62⟩ : ∃ z : Int64, (0 : Int64) * p4 = z := ⟨_, rfl⟩
        refine jj_lmul (v := y_62) C dX1_quote_73 ey_62 ?_
        refine jj_aload_n C dX1_quote_74 rfl ?_
        refine tt_getF C hok_60 jk_9 3 (by decide) jw_df3b225d28 (t := (1, (-9223372036854775808), 9223372036854775807)) hk2 (by decide) rfl rfl hf_14 dX1_quote_75 ?_
        obtain ⟨y_63, ey_63⟩ : ∃ z : Int64, y_62 / y_15 = z := ⟨_, rfl⟩
        refine jj_ldiv (v := y_63) C dX1_quote_78 (jt_nzpL (by first | exact Int64.not_le.mp c_16 | exact Int32.not_le.mp c_16)) ey_63 ?_
        refine jj_goto (tgt := 83) C dX1_quote_79 (by decide) ?_
        refine rl_put C hok_60 jk_3 2 (by decide) jw_771ad03ca8 (t := (1, (-9223372036854775808), 9223372036854775807)) hk0 (by decide) rfl rfl rfl (tt_ja y_63) rfl rfl dX1_quote_83 (fun pl_64 hok_65 tr hn tl => ?_)
        replace hf_2 := tr _ _ _ (Or.inl (tt_ne hk1 hk0 (by decide))) hf_2
        replace hf_14 := tr _ _ _ (Or.inl (tt_ne hk2 hk0 (by decide))) hf_14
        replace hf_34 := tr _ _ _ (Or.inl (tt_ne hk3 hk0 (by decide))) hf_34
        replace hf_54 := tr _ _ _ (Or.inl (tt_ne hk2 hk0 (by decide))) hf_54
        replace hf_61 := tr _ _ _ (Or.inr (by decide)) hf_61
        have hf_66 := hn
        replace hfr := hfr.put hk0 tr (by decide)
        replace hfa := hfa.all tl
        refine jj_aload_n C dX1_quote_86 rfl ?_
        refine jj_iload C dX1_quote_87 rfl ?_
        refine jj_if_eqF (tgt := 107) C dX1_quote_89 (by decide) (by decide) ?_
        refine jj_aload_n C dX1_quote_92 rfl ?_
        refine tt_get C hok_65 jk_5 5 (by decide) jw_5ff29d8ec5 (t := (1, (-9223372036854775808), 9223372036854775807)) hk3 (by decide) rfl rfl dX1_quote_93 (fun v_67 hv_67 hf_68 => ?_)
        obtain ⟨y_69, rfl, -, -⟩ := tt_vj hv_67
        refine jj_lload C dX1_quote_96 rfl ?_
        obtain ⟨y_70, ey_70⟩ : ∃ z : Int64, y_69 * p4 = z := ⟨_, rfl⟩
        refine jj_lmul (v := y_70) C dX1_quote_98 ey_70 ?_
        refine jj_aload_n C dX1_quote_99 rfl ?_
        refine tt_getF C hok_65 jk_5 3 (by decide) jw_fcb072e0d9 (t := (1, (-9223372036854775808), 9223372036854775807)) hk3 (by decide) rfl rfl hf_34 dX1_quote_100 ?_
        obtain ⟨y_71, ey_71⟩ : ∃ z : Int64, y_70 / y_35 = z := ⟨_, rfl⟩
        refine jj_ldiv (v := y_71) C dX1_quote_103 (jt_nzpL (by first | exact Int64.not_le.mp c_36 | exact Int32.not_le.mp c_36)) ey_71 ?_
        refine jj_goto (tgt := 108) C dX1_quote_104 (by decide) ?_
        refine rl_put C hok_65 jk_3 3 (by decide) jw_71edc34996 (t := (1, (-9223372036854775808), 9223372036854775807)) hk0 (by decide) rfl rfl rfl (tt_ja y_71) rfl rfl dX1_quote_108 (fun pl_72 hok_73 tr hn tl => ?_)
        replace hf_2 := tr _ _ _ (Or.inl (tt_ne hk1 hk0 (by decide))) hf_2
        replace hf_14 := tr _ _ _ (Or.inl (tt_ne hk2 hk0 (by decide))) hf_14
        replace hf_34 := tr _ _ _ (Or.inl (tt_ne hk3 hk0 (by decide))) hf_34
        replace hf_54 := tr _ _ _ (Or.inl (tt_ne hk2 hk0 (by decide))) hf_54
        replace hf_61 := tr _ _ _ (Or.inr (by decide)) hf_61
        replace hf_66 := tr _ _ _ (Or.inr (by decide)) hf_66
        replace hf_68 := tr _ _ _ (Or.inl (tt_ne hk3 hk0 (by decide))) hf_68
        have hf_74 := hn
        replace hfr := hfr.put hk0 tr (by decide)
        replace hfa := hfa.all tl
        refine jj_aload_n C dX1_quote_111 rfl ?_
        refine jj_aload_n C dX1_quote_112 rfl ?_
        refine tt_getF C hok_73 jk_3 2 (by decide) jw_771ad03ca8 (t := (1, (-9223372036854775808), 9223372036854775807)) hk0 (by decide) rfl rfl hf_66 dX1_quote_113 ?_
        refine jj_aload_n C dX1_quote_116 rfl ?_
        refine tt_getF C hok_73 jk_3 3 (by decide) jw_71edc34996 (t := (1, (-9223372036854775808), 9223372036854775807)) hk0 (by decide) rfl rfl hf_74 dX1_quote_117 ?_
        refine tt_call0S (rest := [.ref h0]) C (ct_J9_min_f86c9_1 hl D cA ak y_63 y_71) jw_fa02caeb63 jw_a0cddbe894 jw_a731c8553d jw_e0e7ffaaeb jn_J9_min_f86c9 rfl (jj_le rfl) (jj_le rfl) (jj_le rfl) (jj_le rfl) (jj_le rfl) dX1_quote_120 rfl (fun w1 r O_75 => ?_)
        rcases O_75 with ⟨c_76, -, rfl⟩ | ⟨c_77, -, rfl⟩
        · refine rl_put C hok_73 jk_3 4 (by decide) jw_21f29d6c44 (t := (1, (-9223372036854775808), 9223372036854775807)) hk0 (by decide) rfl rfl rfl (tt_ja y_71) rfl rfl dX1_quote_123 (fun pl_78 hok_79 tr hn tl => ?_)
          replace hf_2 := tr _ _ _ (Or.inl (tt_ne hk1 hk0 (by decide))) hf_2
          replace hf_14 := tr _ _ _ (Or.inl (tt_ne hk2 hk0 (by decide))) hf_14
          replace hf_34 := tr _ _ _ (Or.inl (tt_ne hk3 hk0 (by decide))) hf_34
          replace hf_54 := tr _ _ _ (Or.inl (tt_ne hk2 hk0 (by decide))) hf_54
          replace hf_61 := tr _ _ _ (Or.inr (by decide)) hf_61
          replace hf_66 := tr _ _ _ (Or.inr (by decide)) hf_66
          replace hf_68 := tr _ _ _ (Or.inl (tt_ne hk3 hk0 (by decide))) hf_68
          replace hf_74 := tr _ _ _ (Or.inr (by decide)) hf_74
          have hf_80 := hn
          replace hfr := hfr.put hk0 tr (by decide)
          replace hfa := hfa.all tl
          refine jj_aload_n C dX1_quote_126 rfl ?_
          refine jj_iload C dX1_quote_127 rfl ?_
          refine jj_if_eqF (tgt := 167) C dX1_quote_129 (by decide) (by decide) ?_
          refine jj_aload_n C dX1_quote_132 rfl ?_
          refine tt_get C hok_79 jk_2 1 (by decide) jw_23f70347f5 (t := (0, (-2147483648), 2147483647)) hk1 (by decide) rfl rfl dX1_quote_133 (fun v_81 hv_81 hf_82 => ?_)
          obtain ⟨x_83, rfl, lx_83, ux_83⟩ := tt_vi hv_81
          refine jj_iconst (v := 1) C dX1_quote_136 (by decide) ?_
          refine jj_icmp_ne (tgt := 167) C dX1_quote_137 (by decide) (fun c_84 => ?_) (fun c_84 => ?_)
          · have z_c_84 := jc_neq (a := (x_83).toInt) (b := (1)) c_84 rfl (by decide)
            refine jj_lconst (v := 0) C dX1_quote_167 (by decide) ?_
            refine rl_put C hok_79 jk_3 5 (by decide) jw_e41f55c9ce (t := (1, (-9223372036854775808), 9223372036854775807)) hk0 (by decide) rfl rfl rfl (tt_ja (0 : Int64)) rfl rfl dX1_quote_168 (fun pl_85 hok_86 tr hn tl => ?_)
            replace hf_2 := tr _ _ _ (Or.inl (tt_ne hk1 hk0 (by decide))) hf_2
            replace hf_14 := tr _ _ _ (Or.inl (tt_ne hk2 hk0 (by decide))) hf_14
            replace hf_34 := tr _ _ _ (Or.inl (tt_ne hk3 hk0 (by decide))) hf_34
            replace hf_54 := tr _ _ _ (Or.inl (tt_ne hk2 hk0 (by decide))) hf_54
            replace hf_61 := tr _ _ _ (Or.inr (by decide)) hf_61
            replace hf_66 := tr _ _ _ (Or.inr (by decide)) hf_66
            replace hf_68 := tr _ _ _ (Or.inl (tt_ne hk3 hk0 (by decide))) hf_68
            replace hf_74 := tr _ _ _ (Or.inr (by decide)) hf_74
            replace hf_80 := tr _ _ _ (Or.inr (by decide)) hf_80
            replace hf_82 := tr _ _ _ (Or.inl (tt_ne hk1 hk0 (by decide))) hf_82
            have hf_87 := hn
            replace hfr := hfr.put hk0 tr (by decide)
            replace hfa := hfa.all tl
            exact jj_vret C ⟨[], pl_85, rfl, rfl, hok_86, hfr, hfa, rfl⟩ dX1_quote_171 (jj_le rfl) (jj_le rfl)
          · have z_c_84 := jc_eq (a := (x_83).toInt) (b := (1)) c_84 rfl (by decide)
            refine jj_lload C dX1_quote_140 rfl ?_
            refine jj_aload_n C dX1_quote_142 rfl ?_
            refine tt_get C hok_79 jk_5 4 (by decide) jw_3ffc3c6a36 (t := (1, (-9223372036854775808), 9223372036854775807)) hk3 (by decide) rfl rfl dX1_quote_143 (fun v_88 hv_88 hf_89 => ?_)
            obtain ⟨y_90, rfl, -, -⟩ := tt_vj hv_88
            refine jj_aload_n C dX1_quote_146 rfl ?_
            obtain ⟨qc, gs, hqc⟩ := tt_recv (cx := []) hok_79 hk2 (by decide) rfl
            refine tt_callV (rest := [.long y_90, .long p4, .ref h0]) C (tc_X8_grossPrice_1 hl D cA ak h2 hk2 hok_79) [] [] rfl rfl (by decide) (by decide) (by decide) qc hqc rfl rfl jw_7a88110815 jw_8d67ffd46e jw_4ae9f31643 jw_364e75910d jw_11bb953c63 jn_X8_grossPrice rfl (jj_le rfl) (jj_le rfl) (jj_le rfl) (jj_le rfl) (jj_le rfl) dX1_quote_147 rfl (fun _ _ _ hX => hX.elim) (fun rx pl_91 r O_94 => ?_)
            obtain ⟨rfl, hok_92, hr_93, hfa9, hR_96⟩ := O_94
            replace hf_2 := hr_93.at hk1 (by decide) (by decide) hf_2
            replace hf_14 := hr_93.at hk2 (by decide) (by decide) hf_14
            replace hf_34 := hr_93.at hk3 (by decide) (by decide) hf_34
            replace hf_54 := hr_93.at hk2 (by decide) (by decide) hf_54
            replace hf_61 := hr_93.at hk0 (by decide) (by decide) hf_61
            replace hf_66 := hr_93.at hk0 (by decide) (by decide) hf_66
            replace hf_68 := hr_93.at hk3 (by decide) (by decide) hf_68
            replace hf_74 := hr_93.at hk0 (by decide) (by decide) hf_74
            replace hf_80 := hr_93.at hk0 (by decide) (by decide) hf_80
            replace hf_82 := hr_93.at hk1 (by decide) (by decide) hf_82
            replace hf_89 := hr_93.at hk3 (by decide) (by decide) hf_89
            replace hfr := hfr.trans (hr_93.sub (by decide))
            replace hfa := hfa.trans (hfa9.sub (by decide))
            rcases hR_96 with rfl | ⟨y_99, rfl⟩
            · refine jj_aload_n C dX1_quote_150 rfl ?_
              refine tt_get C hok_92 jk_9 4 (by decide) jw_0a98b03de8 (t := (1, (-9223372036854775808), 9223372036854775807)) hk2 (by decide) rfl rfl dX1_quote_151 (fun v_100 hv_100 hf_101 => ?_)
              obtain ⟨y_102, rfl, -, -⟩ := tt_vj hv_100
              refine tt_call0S (rest := [.long y_90, .long p4, .ref h0]) C (ct_J9_min_f86c9_3 hl D cA ak y_102) jw_fa02caeb63 jw_a0cddbe894 jw_a731c8553d jw_e0e7ffaaeb jn_J9_min_f86c9 rfl (jj_le rfl) (jj_le rfl) (jj_le rfl) (jj_le rfl) (jj_le rfl) dX1_quote_154 rfl (fun w1 r O_103 => ?_)
              rcases O_103 with ⟨c_104, -, rfl⟩ | ⟨c_105, -, rfl⟩
              · refine jj_aload_n C dX1_quote_157 rfl ?_
                refine tt_getF C hok_92 jk_2 3 (by decide) jw_8322fbab96 (t := (0, (-2147483648), 2147483647)) hk1 (by decide) rfl rfl hf_2 dX1_quote_158 ?_
                refine tt_callS (rest := [.ref h0]) C (tc_X2_dueOn_1 hl D cA ak p4 y_90 y_102 x_3 hok_92) [] [] rfl rfl (by decide) (by decide) (by decide) jw_2f594c34e3 jw_06dd566a56 jw_79af3f4029 jw_eebd9e2034 jn_X2_dueOn rfl (jj_le rfl) (jj_le rfl) (jj_le rfl) (jj_le rfl) (jj_le rfl) dX1_quote_161 rfl (fun _ _ _ hX => hX.elim) (fun rx pl_106 r O_109 => ?_)
                obtain ⟨rfl, hok_107, hr_108, hfa9, hR_111⟩ := O_109
                replace hf_2 := hr_108.at hk1 (by decide) (by decide) hf_2
                replace hf_14 := hr_108.at hk2 (by decide) (by decide) hf_14
                replace hf_34 := hr_108.at hk3 (by decide) (by decide) hf_34
                replace hf_54 := hr_108.at hk2 (by decide) (by decide) hf_54
                replace hf_61 := hr_108.at hk0 (by decide) (by decide) hf_61
                replace hf_66 := hr_108.at hk0 (by decide) (by decide) hf_66
                replace hf_68 := hr_108.at hk3 (by decide) (by decide) hf_68
                replace hf_74 := hr_108.at hk0 (by decide) (by decide) hf_74
                replace hf_80 := hr_108.at hk0 (by decide) (by decide) hf_80
                replace hf_82 := hr_108.at hk1 (by decide) (by decide) hf_82
                replace hf_89 := hr_108.at hk3 (by decide) (by decide) hf_89
                replace hf_101 := hr_108.at hk2 (by decide) (by decide) hf_101
                replace hfr := hfr.trans (hr_108.sub (by decide))
                replace hfa := hfa.trans (hfa9.sub (by decide))
                rcases hR_111 with rfl | ⟨y_114, rfl⟩
                · refine jj_goto (tgt := 168) C dX1_quote_164 (by decide) ?_
                  refine rl_put C hok_107 jk_3 5 (by decide) jw_e41f55c9ce (t := (1, (-9223372036854775808), 9223372036854775807)) hk0 (by decide) rfl rfl rfl (tt_ja (0 : Int64)) rfl rfl dX1_quote_168 (fun pl_115 hok_116 tr hn tl => ?_)
                  replace hf_2 := tr _ _ _ (Or.inl (tt_ne hk1 hk0 (by decide))) hf_2
                  replace hf_14 := tr _ _ _ (Or.inl (tt_ne hk2 hk0 (by decide))) hf_14
                  replace hf_34 := tr _ _ _ (Or.inl (tt_ne hk3 hk0 (by decide))) hf_34
                  replace hf_54 := tr _ _ _ (Or.inl (tt_ne hk2 hk0 (by decide))) hf_54
                  replace hf_61 := tr _ _ _ (Or.inr (by decide)) hf_61
                  replace hf_66 := tr _ _ _ (Or.inr (by decide)) hf_66
                  replace hf_68 := tr _ _ _ (Or.inl (tt_ne hk3 hk0 (by decide))) hf_68
                  replace hf_74 := tr _ _ _ (Or.inr (by decide)) hf_74
                  replace hf_80 := tr _ _ _ (Or.inr (by decide)) hf_80
                  replace hf_82 := tr _ _ _ (Or.inl (tt_ne hk1 hk0 (by decide))) hf_82
                  replace hf_89 := tr _ _ _ (Or.inl (tt_ne hk3 hk0 (by decide))) hf_89
                  replace hf_101 := tr _ _ _ (Or.inl (tt_ne hk2 hk0 (by decide))) hf_101
                  have hf_117 := hn
                  replace hfr := hfr.put hk0 tr (by decide)
                  replace hfa := hfa.all tl
                  exact jj_vret C ⟨[], pl_115, rfl, rfl, hok_116, hfr, hfa, rfl⟩ dX1_quote_171 (jj_le rfl) (jj_le rfl)
                · refine jj_goto (tgt := 168) C dX1_quote_164 (by decide) ?_
                  refine rl_put C hok_107 jk_3 5 (by decide) jw_e41f55c9ce (t := (1, (-9223372036854775808), 9223372036854775807)) hk0 (by decide) rfl rfl rfl (tt_ja y_114) rfl rfl dX1_quote_168 (fun pl_118 hok_119 tr hn tl => ?_)
                  replace hf_2 := tr _ _ _ (Or.inl (tt_ne hk1 hk0 (by decide))) hf_2
                  replace hf_14 := tr _ _ _ (Or.inl (tt_ne hk2 hk0 (by decide))) hf_14
                  replace hf_34 := tr _ _ _ (Or.inl (tt_ne hk3 hk0 (by decide))) hf_34
                  replace hf_54 := tr _ _ _ (Or.inl (tt_ne hk2 hk0 (by decide))) hf_54
                  replace hf_61 := tr _ _ _ (Or.inr (by decide)) hf_61
                  replace hf_66 := tr _ _ _ (Or.inr (by decide)) hf_66
                  replace hf_68 := tr _ _ _ (Or.inl (tt_ne hk3 hk0 (by decide))) hf_68
                  replace hf_74 := tr _ _ _ (Or.inr (by decide)) hf_74
                  replace hf_80 := tr _ _ _ (Or.inr (by decide)) hf_80
                  replace hf_82 := tr _ _ _ (Or.inl (tt_ne hk1 hk0 (by decide))) hf_82
                  replace hf_89 := tr _ _ _ (Or.inl (tt_ne hk3 hk0 (by decide))) hf_89
                  replace hf_101 := tr _ _ _ (Or.inl (tt_ne hk2 hk0 (by decide))) hf_101
                  have hf_120 := hn
                  replace hfr := hfr.put hk0 tr (by decide)
                  replace hfa := hfa.all tl
                  exact jj_vret C ⟨[], pl_118, rfl, rfl, hok_119, hfr, hfa, rfl⟩ dX1_quote_171 (jj_le rfl) (jj_le rfl)
              · refine jj_aload_n C dX1_quote_157 rfl ?_
                refine tt_getF C hok_92 jk_2 3 (by decide) jw_8322fbab96 (t := (0, (-2147483648), 2147483647)) hk1 (by decide) rfl rfl hf_2 dX1_quote_158 ?_
                refine tt_callS (rest := [.ref h0]) C (tc_X2_dueOn_2 hl D cA ak p4 y_90 x_3 hok_92) [] [] rfl rfl (by decide) (by decide) (by decide) jw_2f594c34e3 jw_06dd566a56 jw_79af3f4029 jw_eebd9e2034 jn_X2_dueOn rfl (jj_le rfl) (jj_le rfl) (jj_le rfl) (jj_le rfl) (jj_le rfl) dX1_quote_161 rfl (fun _ _ _ hX => hX.elim) (fun rx pl_121 r O_124 => ?_)
                obtain ⟨rfl, hok_122, hr_123, hfa9, hR_126⟩ := O_124
                replace hf_2 := hr_123.at hk1 (by decide) (by decide) hf_2
                replace hf_14 := hr_123.at hk2 (by decide) (by decide) hf_14
                replace hf_34 := hr_123.at hk3 (by decide) (by decide) hf_34
                replace hf_54 := hr_123.at hk2 (by decide) (by decide) hf_54
                replace hf_61 := hr_123.at hk0 (by decide) (by decide) hf_61
                replace hf_66 := hr_123.at hk0 (by decide) (by decide) hf_66
                replace hf_68 := hr_123.at hk3 (by decide) (by decide) hf_68
                replace hf_74 := hr_123.at hk0 (by decide) (by decide) hf_74
                replace hf_80 := hr_123.at hk0 (by decide) (by decide) hf_80
                replace hf_82 := hr_123.at hk1 (by decide) (by decide) hf_82
                replace hf_89 := hr_123.at hk3 (by decide) (by decide) hf_89
                replace hf_101 := hr_123.at hk2 (by decide) (by decide) hf_101
                replace hfr := hfr.trans (hr_123.sub (by decide))
                replace hfa := hfa.trans (hfa9.sub (by decide))
                rcases hR_126 with rfl | ⟨y_129, rfl⟩
                · refine jj_goto (tgt := 168) C dX1_quote_164 (by decide) ?_
                  refine rl_put C hok_122 jk_3 5 (by decide) jw_e41f55c9ce (t := (1, (-9223372036854775808), 9223372036854775807)) hk0 (by decide) rfl rfl rfl (tt_ja (0 : Int64)) rfl rfl dX1_quote_168 (fun pl_130 hok_131 tr hn tl => ?_)
                  replace hf_2 := tr _ _ _ (Or.inl (tt_ne hk1 hk0 (by decide))) hf_2
                  replace hf_14 := tr _ _ _ (Or.inl (tt_ne hk2 hk0 (by decide))) hf_14
                  replace hf_34 := tr _ _ _ (Or.inl (tt_ne hk3 hk0 (by decide))) hf_34
                  replace hf_54 := tr _ _ _ (Or.inl (tt_ne hk2 hk0 (by decide))) hf_54
                  replace hf_61 := tr _ _ _ (Or.inr (by decide)) hf_61
                  replace hf_66 := tr _ _ _ (Or.inr (by decide)) hf_66
                  replace hf_68 := tr _ _ _ (Or.inl (tt_ne hk3 hk0 (by decide))) hf_68
                  replace hf_74 := tr _ _ _ (Or.inr (by decide)) hf_74
                  replace hf_80 := tr _ _ _ (Or.inr (by decide)) hf_80
                  replace hf_82 := tr _ _ _ (Or.inl (tt_ne hk1 hk0 (by decide))) hf_82
                  replace hf_89 := tr _ _ _ (Or.inl (tt_ne hk3 hk0 (by decide))) hf_89
                  replace hf_101 := tr _ _ _ (Or.inl (tt_ne hk2 hk0 (by decide))) hf_101
                  have hf_132 := hn
                  replace hfr := hfr.put hk0 tr (by decide)
                  replace hfa := hfa.all tl
                  exact jj_vret C ⟨[], pl_130, rfl, rfl, hok_131, hfr, hfa, rfl⟩ dX1_quote_171 (jj_le rfl) (jj_le rfl)
                · refine jj_goto (tgt := 168) C dX1_quote_164 (by decide) ?_
                  refine rl_put C hok_122 jk_3 5 (by decide) jw_e41f55c9ce (t := (1, (-9223372036854775808), 9223372036854775807)) hk0 (by decide) rfl rfl rfl (tt_ja y_129) rfl rfl dX1_quote_168 (fun pl_133 hok_134 tr hn tl => ?_)
                  replace hf_2 := tr _ _ _ (Or.inl (tt_ne hk1 hk0 (by decide))) hf_2
                  replace hf_14 := tr _ _ _ (Or.inl (tt_ne hk2 hk0 (by decide))) hf_14
                  replace hf_34 := tr _ _ _ (Or.inl (tt_ne hk3 hk0 (by decide))) hf_34
                  replace hf_54 := tr _ _ _ (Or.inl (tt_ne hk2 hk0 (by decide))) hf_54
                  replace hf_61 := tr _ _ _ (Or.inr (by decide)) hf_61
                  replace hf_66 := tr _ _ _ (Or.inr (by decide)) hf_66
                  replace hf_68 := tr _ _ _ (Or.inl (tt_ne hk3 hk0 (by decide))) hf_68
                  replace hf_74 := tr _ _ _ (Or.inr (by decide)) hf_74
                  replace hf_80 := tr _ _ _ (Or.inr (by decide)) hf_80
                  replace hf_82 := tr _ _ _ (Or.inl (tt_ne hk1 hk0 (by decide))) hf_82
                  replace hf_89 := tr _ _ _ (Or.inl (tt_ne hk3 hk0 (by decide))) hf_89
                  replace hf_101 := tr _ _ _ (Or.inl (tt_ne hk2 hk0 (by decide))) hf_101
                  have hf_135 := hn
                  replace hfr := hfr.put hk0 tr (by decide)
                  replace hfa := hfa.all tl
                  exact jj_vret C ⟨[], pl_133, rfl, rfl, hok_134, hfr, hfa, rfl⟩ dX1_quote_171 (jj_le rfl) (jj_le rfl)
            · refine jj_aload_n C dX1_quote_150 rfl ?_
              refine tt_get C hok_92 jk_9 4 (by decide) jw_0a98b03de8 (t := (1, (-9223372036854775808), 9223372036854775807)) hk2 (by decide) rfl rfl dX1_quote_151 (fun v_136 hv_136 hf_137 => ?_)
              obtain ⟨y_138, rfl, -, -⟩ := tt_vj hv_136
              refine tt_call0S (rest := [.long y_90, .long p4, .ref h0]) C (ct_J9_min_f86c9_1 hl D cA ak y_99 y_138) jw_fa02caeb63 jw_a0cddbe894 jw_a731c8553d jw_e0e7ffaaeb jn_J9_min_f86c9 rfl (jj_le rfl) (jj_le rfl) (jj_le rfl) (jj_le rfl) (jj_le rfl) dX1_quote_154 rfl (fun w1 r O_139 => ?_)
              rcases O_139 with ⟨c_140, -, rfl⟩ | ⟨c_141, -, rfl⟩
              · refine jj_aload_n C dX1_quote_157 rfl ?_
                refine tt_getF C hok_92 jk_2 3 (by decide) jw_8322fbab96 (t := (0, (-2147483648), 2147483647)) hk1 (by decide) rfl rfl hf_2 dX1_quote_158 ?_
                refine tt_callS (rest := [.ref h0]) C (tc_X2_dueOn_1 hl D cA ak p4 y_90 y_138 x_3 hok_92) [] [] rfl rfl (by decide) (by decide) (by decide) jw_2f594c34e3 jw_06dd566a56 jw_79af3f4029 jw_eebd9e2034 jn_X2_dueOn rfl (jj_le rfl) (jj_le rfl) (jj_le rfl) (jj_le rfl) (jj_le rfl) dX1_quote_161 rfl (fun _ _ _ hX => hX.elim) (fun rx pl_142 r O_145 => ?_)
                obtain ⟨rfl, hok_143, hr_144, hfa9, hR_147⟩ := O_145
                replace hf_2 := hr_144.at hk1 (by decide) (by decide) hf_2
                replace hf_14 := hr_144.at hk2 (by decide) (by decide) hf_14
                replace hf_34 := hr_144.at hk3 (by decide) (by decide) hf_34
                replace hf_54 := hr_144.at hk2 (by decide) (by decide) hf_54
                replace hf_61 := hr_144.at hk0 (by decide) (by decide) hf_61
                replace hf_66 := hr_144.at hk0 (by decide) (by decide) hf_66
                replace hf_68 := hr_144.at hk3 (by decide) (by decide) hf_68
                replace hf_74 := hr_144.at hk0 (by decide) (by decide) hf_74
                replace hf_80 := hr_144.at hk0 (by decide) (by decide) hf_80
                replace hf_82 := hr_144.at hk1 (by decide) (by decide) hf_82
                replace hf_89 := hr_144.at hk3 (by decide) (by decide) hf_89
                replace hf_137 := hr_144.at hk2 (by decide) (by decide) hf_137
                replace hfr := hfr.trans (hr_144.sub (by decide))
                replace hfa := hfa.trans (hfa9.sub (by decide))
                rcases hR_147 with rfl | ⟨y_150, rfl⟩
                · refine jj_goto (tgt := 168) C dX1_quote_164 (by decide) ?_
                  refine rl_put C hok_143 jk_3 5 (by decide) jw_e41f55c9ce (t := (1, (-9223372036854775808), 9223372036854775807)) hk0 (by decide) rfl rfl rfl (tt_ja (0 : Int64)) rfl rfl dX1_quote_168 (fun pl_151 hok_152 tr hn tl => ?_)
                  replace hf_2 := tr _ _ _ (Or.inl (tt_ne hk1 hk0 (by decide))) hf_2
                  replace hf_14 := tr _ _ _ (Or.inl (tt_ne hk2 hk0 (by decide))) hf_14
                  replace hf_34 := tr _ _ _ (Or.inl (tt_ne hk3 hk0 (by decide))) hf_34
                  replace hf_54 := tr _ _ _ (Or.inl (tt_ne hk2 hk0 (by decide))) hf_54
                  replace hf_61 := tr _ _ _ (Or.inr (by decide)) hf_61
                  replace hf_66 := tr _ _ _ (Or.inr (by decide)) hf_66
                  replace hf_68 := tr _ _ _ (Or.inl (tt_ne hk3 hk0 (by decide))) hf_68
                  replace hf_74 := tr _ _ _ (Or.inr (by decide)) hf_74
                  replace hf_80 := tr _ _ _ (Or.inr (by decide)) hf_80
                  replace hf_82 := tr _ _ _ (Or.inl (tt_ne hk1 hk0 (by decide))) hf_82
                  replace hf_89 := tr _ _ _ (Or.inl (tt_ne hk3 hk0 (by decide))) hf_89
                  replace hf_137 := tr _ _ _ (Or.inl (tt_ne hk2 hk0 (by decide))) hf_137
                  have hf_153 := hn
                  replace hfr := hfr.put hk0 tr (by decide)
                  replace hfa := hfa.all tl
                  exact jj_vret C ⟨[], pl_151, rfl, rfl, hok_152, hfr, hfa, rfl⟩ dX1_quote_171 (jj_le rfl) (jj_le rfl)
                · refine jj_goto (tgt := 168) C dX1_quote_164 (by decide) ?_
                  refine rl_put C hok_143 jk_3 5 (by decide) jw_e41f55c9ce (t := (1, (-9223372036854775808), 9223372036854775807)) hk0 (by decide) rfl rfl rfl (tt_ja y_150) rfl rfl dX1_quote_168 (fun pl_154 hok_155 tr hn tl => ?_)
                  replace hf_2 := tr _ _ _ (Or.inl (tt_ne hk1 hk0 (by decide))) hf_2
                  replace hf_14 := tr _ _ _ (Or.inl (tt_ne hk2 hk0 (by decide))) hf_14
                  replace hf_34 := tr _ _ _ (Or.inl (tt_ne hk3 hk0 (by decide))) hf_34
                  replace hf_54 := tr _ _ _ (Or.inl (tt_ne hk2 hk0 (by decide))) hf_54
                  replace hf_61 := tr _ _ _ (Or.inr (by decide)) hf_61
                  replace hf_66 := tr _ _ _ (Or.inr (by decide)) hf_66
                  replace hf_68 := tr _ _ _ (Or.inl (tt_ne hk3 hk0 (by decide))) hf_68
                  replace hf_74 := tr _ _ _ (Or.inr (by decide)) hf_74
                  replace hf_80 := tr _ _ _ (Or.inr (by decide)) hf_80
                  replace hf_82 := tr _ _ _ (Or.inl (tt_ne hk1 hk0 (by decide))) hf_82
                  replace hf_89 := tr _ _ _ (Or.inl (tt_ne hk3 hk0 (by decide))) hf_89
                  replace hf_137 := tr _ _ _ (Or.inl (tt_ne hk2 hk0 (by decide))) hf_137
                  have hf_156 := hn
                  replace hfr := hfr.put hk0 tr (by decide)
                  replace hfa := hfa.all tl
                  exact jj_vret C ⟨[], pl_154, rfl, rfl, hok_155, hfr, hfa, rfl⟩ dX1_quote_171 (jj_le rfl) (jj_le rfl)
              · refine jj_aload_n C dX1_quote_157 rfl ?_
                refine tt_getF C hok_92 jk_2 3 (by decide) jw_8322fbab96 (t := (0, (-2147483648), 2147483647)) hk1 (by decide) rfl rfl hf_2 dX1_quote_158 ?_
                refine tt_callS (rest := [.ref h0]) C (tc_X2_dueOn_1 hl D cA ak p4 y_90 y_99 x_3 hok_92) [] [] rfl rfl (by decide) (by decide) (by decide) jw_2f594c34e3 jw_06dd566a56 jw_79af3f4029 jw_eebd9e2034 jn_X2_dueOn rfl (jj_le rfl) (jj_le rfl) (jj_le rfl) (jj_le rfl) (jj_le rfl) dX1_quote_161 rfl (fun _ _ _ hX => hX.elim) (fun rx pl_157 r O_160 => ?_)
                obtain ⟨rfl, hok_158, hr_159, hfa9, hR_162⟩ := O_160
                replace hf_2 := hr_159.at hk1 (by decide) (by decide) hf_2
                replace hf_14 := hr_159.at hk2 (by decide) (by decide) hf_14
                replace hf_34 := hr_159.at hk3 (by decide) (by decide) hf_34
                replace hf_54 := hr_159.at hk2 (by decide) (by decide) hf_54
                replace hf_61 := hr_159.at hk0 (by decide) (by decide) hf_61
                replace hf_66 := hr_159.at hk0 (by decide) (by decide) hf_66
                replace hf_68 := hr_159.at hk3 (by decide) (by decide) hf_68
                replace hf_74 := hr_159.at hk0 (by decide) (by decide) hf_74
                replace hf_80 := hr_159.at hk0 (by decide) (by decide) hf_80
                replace hf_82 := hr_159.at hk1 (by decide) (by decide) hf_82
                replace hf_89 := hr_159.at hk3 (by decide) (by decide) hf_89
                replace hf_137 := hr_159.at hk2 (by decide) (by decide) hf_137
                replace hfr := hfr.trans (hr_159.sub (by decide))
                replace hfa := hfa.trans (hfa9.sub (by decide))
                rcases hR_162 with rfl | ⟨y_165, rfl⟩
                · refine jj_goto (tgt := 168) C dX1_quote_164 (by decide) ?_
                  refine rl_put C hok_158 jk_3 5 (by decide) jw_e41f55c9ce (t := (1, (-9223372036854775808), 9223372036854775807)) hk0 (by decide) rfl rfl rfl (tt_ja (0 : Int64)) rfl rfl dX1_quote_168 (fun pl_166 hok_167 tr hn tl => ?_)
                  replace hf_2 := tr _ _ _ (Or.inl (tt_ne hk1 hk0 (by decide))) hf_2
                  replace hf_14 := tr _ _ _ (Or.inl (tt_ne hk2 hk0 (by decide))) hf_14
                  replace hf_34 := tr _ _ _ (Or.inl (tt_ne hk3 hk0 (by decide))) hf_34
                  replace hf_54 := tr _ _ _ (Or.inl (tt_ne hk2 hk0 (by decide))) hf_54
                  replace hf_61 := tr _ _ _ (Or.inr (by decide)) hf_61
                  replace hf_66 := tr _ _ _ (Or.inr (by decide)) hf_66
                  replace hf_68 := tr _ _ _ (Or.inl (tt_ne hk3 hk0 (by decide))) hf_68
                  replace hf_74 := tr _ _ _ (Or.inr (by decide)) hf_74
                  replace hf_80 := tr _ _ _ (Or.inr (by decide)) hf_80
                  replace hf_82 := tr _ _ _ (Or.inl (tt_ne hk1 hk0 (by decide))) hf_82
                  replace hf_89 := tr _ _ _ (Or.inl (tt_ne hk3 hk0 (by decide))) hf_89
                  replace hf_137 := tr _ _ _ (Or.inl (tt_ne hk2 hk0 (by decide))) hf_137
                  have hf_168 := hn
                  replace hfr := hfr.put hk0 tr (by decide)
                  replace hfa := hfa.all tl
                  exact jj_vret C ⟨[], pl_166, rfl, rfl, hok_167, hfr, hfa, rfl⟩ dX1_quote_171 (jj_le rfl) (jj_le rfl)
                · refine jj_goto (tgt := 168) C dX1_quote_164 (by decide) ?_
                  refine rl_put C hok_158 jk_3 5 (by decide) jw_e41f55c9ce (t := (1, (-9223372036854775808), 9223372036854775807)) hk0 (by decide) rfl rfl rfl (tt_ja y_165) rfl rfl dX1_quote_168 (fun pl_169 hok_170 tr hn tl => ?_)
                  replace hf_2 := tr _ _ _ (Or.inl (tt_ne hk1 hk0 (by decide))) hf_2
                  replace hf_14 := tr _ _ _ (Or.inl (tt_ne hk2 hk0 (by decide))) hf_14
                  replace hf_34 := tr _ _ _ (Or.inl (tt_ne hk3 hk0 (by decide))) hf_34
                  replace hf_54 := tr _ _ _ (Or.inl (tt_ne hk2 hk0 (by decide))) hf_54
                  replace hf_61 := tr _ _ _ (Or.inr (by decide)) hf_61
                  replace hf_66 := tr _ _ _ (Or.inr (by decide)) hf_66
                  replace hf_68 := tr _ _ _ (Or.inl (tt_ne hk3 hk0 (by decide))) hf_68
                  replace hf_74 := tr _ _ _ (Or.inr (by decide)) hf_74
                  replace hf_80 := tr _ _ _ (Or.inr (by decide)) hf_80
                  replace hf_82 := tr _ _ _ (Or.inl (tt_ne hk1 hk0 (by decide))) hf_82
                  replace hf_89 := tr _ _ _ (Or.inl (tt_ne hk3 hk0 (by decide))) hf_89
                  replace hf_137 := tr _ _ _ (Or.inl (tt_ne hk2 hk0 (by decide))) hf_137
                  have hf_171 := hn
                  replace hfr := hfr.put hk0 tr (by decide)
                  replace hfa := hfa.all tl
                  exact jj_vret C ⟨[], pl_169, rfl, rfl, hok_170, hfr, hfa, rfl⟩ dX1_quote_171 (jj_le rfl) (jj_le rfl)
        · refine rl_put C hok_73 jk_3 4 (by decide) jw_21f29d6c44 (t := (1, (-9223372036854775808), 9223372036854775807)) hk0 (by decide) rfl rfl rfl (tt_ja y_63) rfl rfl dX1_quote_123 (fun pl_172 hok_173 tr hn tl => ?_)
          replace hf_2 := tr _ _ _ (Or.inl (tt_ne hk1 hk0 (by decide))) hf_2
          replace hf_14 := tr _ _ _ (Or.inl (tt_ne hk2 hk0 (by decide))) hf_14
          replace hf_34 := tr _ _ _ (Or.inl (tt_ne hk3 hk0 (by decide))) hf_34
          replace hf_54 := tr _ _ _ (Or.inl (tt_ne hk2 hk0 (by decide))) hf_54
          replace hf_61 := tr _ _ _ (Or.inr (by decide)) hf_61
          replace hf_66 := tr _ _ _ (Or.inr (by decide)) hf_66
          replace hf_68 := tr _ _ _ (Or.inl (tt_ne hk3 hk0 (by decide))) hf_68
          replace hf_74 := tr _ _ _ (Or.inr (by decide)) hf_74
          have hf_174 := hn
          replace hfr := hfr.put hk0 tr (by decide)
          replace hfa := hfa.all tl
          refine jj_aload_n C dX1_quote_126 rfl ?_
          refine jj_iload C dX1_quote_127 rfl ?_
          refine jj_if_eqF (tgt := 167) C dX1_quote_129 (by decide) (by decide) ?_
          refine jj_aload_n C dX1_quote_132 rfl ?_
          refine tt_get C hok_173 jk_2 1 (by decide) jw_23f70347f5 (t := (0, (-2147483648), 2147483647)) hk1 (by decide) rfl rfl dX1_quote_133 (fun v_175 hv_175 hf_176 => ?_)
          obtain ⟨x_177, rfl, lx_177, ux_177⟩ := tt_vi hv_175
          refine jj_iconst (v := 1) C dX1_quote_136 (by decide) ?_
          refine jj_icmp_ne (tgt := 167) C dX1_quote_137 (by decide) (fun c_178 => ?_) (fun c_178 => ?_)
          · have z_c_178 := jc_neq (a := (x_177).toInt) (b := (1)) c_178 rfl (by decide)
            refine jj_lconst (v := 0) C dX1_quote_167 (by decide) ?_
            refine rl_put C hok_173 jk_3 5 (by decide) jw_e41f55c9ce (t := (1, (-9223372036854775808), 9223372036854775807)) hk0 (by decide) rfl rfl rfl (tt_ja (0 : Int64)) rfl rfl dX1_quote_168 (fun pl_179 hok_180 tr hn tl => ?_)
            replace hf_2 := tr _ _ _ (Or.inl (tt_ne hk1 hk0 (by decide))) hf_2
            replace hf_14 := tr _ _ _ (Or.inl (tt_ne hk2 hk0 (by decide))) hf_14
            replace hf_34 := tr _ _ _ (Or.inl (tt_ne hk3 hk0 (by decide))) hf_34
            replace hf_54 := tr _ _ _ (Or.inl (tt_ne hk2 hk0 (by decide))) hf_54
            replace hf_61 := tr _ _ _ (Or.inr (by decide)) hf_61
            replace hf_66 := tr _ _ _ (Or.inr (by decide)) hf_66
            replace hf_68 := tr _ _ _ (Or.inl (tt_ne hk3 hk0 (by decide))) hf_68
            replace hf_74 := tr _ _ _ (Or.inr (by decide)) hf_74
            replace hf_174 := tr _ _ _ (Or.inr (by decide)) hf_174
            replace hf_176 := tr _ _ _ (Or.inl (tt_ne hk1 hk0 (by decide))) hf_176
            have hf_181 := hn
            replace hfr := hfr.put hk0 tr (by decide)
            replace hfa := hfa.all tl
            exact jj_vret C ⟨[], pl_179, rfl, rfl, hok_180, hfr, hfa, rfl⟩ dX1_quote_171 (jj_le rfl) (jj_le rfl)
          · have z_c_178 := jc_eq (a := (x_177).toInt) (b := (1)) c_178 rfl (by decide)
            refine jj_lload C dX1_quote_140 rfl ?_
            refine jj_aload_n C dX1_quote_142 rfl ?_
            refine tt_get C hok_173 jk_5 4 (by decide) jw_3ffc3c6a36 (t := (1, (-9223372036854775808), 9223372036854775807)) hk3 (by decide) rfl rfl dX1_quote_143 (fun v_182 hv_182 hf_183 => ?_)
            obtain ⟨y_184, rfl, -, -⟩ := tt_vj hv_182
            refine jj_aload_n C dX1_quote_146 rfl ?_
            obtain ⟨qc, gs, hqc⟩ := tt_recv (cx := []) hok_173 hk2 (by decide) rfl
            refine tt_callV (rest := [.long y_184, .long p4, .ref h0]) C (tc_X8_grossPrice_1 hl D cA ak h2 hk2 hok_173) [] [] rfl rfl (by decide) (by decide) (by decide) qc hqc rfl rfl jw_7a88110815 jw_8d67ffd46e jw_4ae9f31643 jw_364e75910d jw_11bb953c63 jn_X8_grossPrice rfl (jj_le rfl) (jj_le rfl) (jj_le rfl) (jj_le rfl) (jj_le rfl) dX1_quote_147 rfl (fun _ _ _ hX => hX.elim) (fun rx pl_185 r O_188 => ?_)
            obtain ⟨rfl, hok_186, hr_187, hfa9, hR_190⟩ := O_188
            replace hf_2 := hr_187.at hk1 (by decide) (by decide) hf_2
            replace hf_14 := hr_187.at hk2 (by decide) (by decide) hf_14
            replace hf_34 := hr_187.at hk3 (by decide) (by decide) hf_34
            replace hf_54 := hr_187.at hk2 (by decide) (by decide) hf_54
            replace hf_61 := hr_187.at hk0 (by decide) (by decide) hf_61
            replace hf_66 := hr_187.at hk0 (by decide) (by decide) hf_66
            replace hf_68 := hr_187.at hk3 (by decide) (by decide) hf_68
            replace hf_74 := hr_187.at hk0 (by decide) (by decide) hf_74
            replace hf_174 := hr_187.at hk0 (by decide) (by decide) hf_174
            replace hf_176 := hr_187.at hk1 (by decide) (by decide) hf_176
            replace hf_183 := hr_187.at hk3 (by decide) (by decide) hf_183
            replace hfr := hfr.trans (hr_187.sub (by decide))
            replace hfa := hfa.trans (hfa9.sub (by decide))
            rcases hR_190 with rfl | ⟨y_193, rfl⟩
            · refine jj_aload_n C dX1_quote_150 rfl ?_
              refine tt_get C hok_186 jk_9 4 (by decide) jw_0a98b03de8 (t := (1, (-9223372036854775808), 9223372036854775807)) hk2 (by decide) rfl rfl dX1_quote_151 (fun v_194 hv_194 hf_195 => ?_)
              obtain ⟨y_196, rfl, -, -⟩ := tt_vj hv_194
              refine tt_call0S (rest := [.long y_184, .long p4, .ref h0]) C (ct_J9_min_f86c9_3 hl D cA ak y_196) jw_fa02caeb63 jw_a0cddbe894 jw_a731c8553d jw_e0e7ffaaeb jn_J9_min_f86c9 rfl (jj_le rfl) (jj_le rfl) (jj_le rfl) (jj_le rfl) (jj_le rfl) dX1_quote_154 rfl (fun w1 r O_197 => ?_)
              rcases O_197 with ⟨c_198, -, rfl⟩ | ⟨c_199, -, rfl⟩
              · refine jj_aload_n C dX1_quote_157 rfl ?_
                refine tt_getF C hok_186 jk_2 3 (by decide) jw_8322fbab96 (t := (0, (-2147483648), 2147483647)) hk1 (by decide) rfl rfl hf_2 dX1_quote_158 ?_
                refine tt_callS (rest := [.ref h0]) C (tc_X2_dueOn_1 hl D cA ak p4 y_184 y_196 x_3 hok_186) [] [] rfl rfl (by decide) (by decide) (by decide) jw_2f594c34e3 jw_06dd566a56 jw_79af3f4029 jw_eebd9e2034 jn_X2_dueOn rfl (jj_le rfl) (jj_le rfl) (jj_le rfl) (jj_le rfl) (jj_le rfl) dX1_quote_161 rfl (fun _ _ _ hX => hX.elim) (fun rx pl_200 r O_203 => ?_)
                obtain ⟨rfl, hok_201, hr_202, hfa9, hR_205⟩ := O_203
                replace hf_2 := hr_202.at hk1 (by decide) (by decide) hf_2
                replace hf_14 := hr_202.at hk2 (by decide) (by decide) hf_14
                replace hf_34 := hr_202.at hk3 (by decide) (by decide) hf_34
                replace hf_54 := hr_202.at hk2 (by decide) (by decide) hf_54
                replace hf_61 := hr_202.at hk0 (by decide) (by decide) hf_61
                replace hf_66 := hr_202.at hk0 (by decide) (by decide) hf_66
                replace hf_68 := hr_202.at hk3 (by decide) (by decide) hf_68
                replace hf_74 := hr_202.at hk0 (by decide) (by decide) hf_74
                replace hf_174 := hr_202.at hk0 (by decide) (by decide) hf_174
                replace hf_176 := hr_202.at hk1 (by decide) (by decide) hf_176
                replace hf_183 := hr_202.at hk3 (by decide) (by decide) hf_183
                replace hf_195 := hr_202.at hk2 (by decide) (by decide) hf_195
                replace hfr := hfr.trans (hr_202.sub (by decide))
                replace hfa := hfa.trans (hfa9.sub (by decide))
                rcases hR_205 with rfl | ⟨y_208, rfl⟩
                · refine jj_goto (tgt := 168) C dX1_quote_164 (by decide) ?_
                  refine rl_put C hok_201 jk_3 5 (by decide) jw_e41f55c9ce (t := (1, (-9223372036854775808), 9223372036854775807)) hk0 (by decide) rfl rfl rfl (tt_ja (0 : Int64)) rfl rfl dX1_quote_168 (fun pl_209 hok_210 tr hn tl => ?_)
                  replace hf_2 := tr _ _ _ (Or.inl (tt_ne hk1 hk0 (by decide))) hf_2
                  replace hf_14 := tr _ _ _ (Or.inl (tt_ne hk2 hk0 (by decide))) hf_14
                  replace hf_34 := tr _ _ _ (Or.inl (tt_ne hk3 hk0 (by decide))) hf_34
                  replace hf_54 := tr _ _ _ (Or.inl (tt_ne hk2 hk0 (by decide))) hf_54
                  replace hf_61 := tr _ _ _ (Or.inr (by decide)) hf_61
                  replace hf_66 := tr _ _ _ (Or.inr (by decide)) hf_66
                  replace hf_68 := tr _ _ _ (Or.inl (tt_ne hk3 hk0 (by decide))) hf_68
                  replace hf_74 := tr _ _ _ (Or.inr (by decide)) hf_74
                  replace hf_174 := tr _ _ _ (Or.inr (by decide)) hf_174
                  replace hf_176 := tr _ _ _ (Or.inl (tt_ne hk1 hk0 (by decide))) hf_176
                  replace hf_183 := tr _ _ _ (Or.inl (tt_ne hk3 hk0 (by decide))) hf_183
                  replace hf_195 := tr _ _ _ (Or.inl (tt_ne hk2 hk0 (by decide))) hf_195
                  have hf_211 := hn
                  replace hfr := hfr.put hk0 tr (by decide)
                  replace hfa := hfa.all tl
                  exact jj_vret C ⟨[], pl_209, rfl, rfl, hok_210, hfr, hfa, rfl⟩ dX1_quote_171 (jj_le rfl) (jj_le rfl)
                · refine jj_goto (tgt := 168) C dX1_quote_164 (by decide) ?_
                  refine rl_put C hok_201 jk_3 5 (by decide) jw_e41f55c9ce (t := (1, (-9223372036854775808), 9223372036854775807)) hk0 (by decide) rfl rfl rfl (tt_ja y_208) rfl rfl dX1_quote_168 (fun pl_212 hok_213 tr hn tl => ?_)
                  replace hf_2 := tr _ _ _ (Or.inl (tt_ne hk1 hk0 (by decide))) hf_2
                  replace hf_14 := tr _ _ _ (Or.inl (tt_ne hk2 hk0 (by decide))) hf_14
                  replace hf_34 := tr _ _ _ (Or.inl (tt_ne hk3 hk0 (by decide))) hf_34
                  replace hf_54 := tr _ _ _ (Or.inl (tt_ne hk2 hk0 (by decide))) hf_54
                  replace hf_61 := tr _ _ _ (Or.inr (by decide)) hf_61
                  replace hf_66 := tr _ _ _ (Or.inr (by decide)) hf_66
                  replace hf_68 := tr _ _ _ (Or.inl (tt_ne hk3 hk0 (by decide))) hf_68
                  replace hf_74 := tr _ _ _ (Or.inr (by decide)) hf_74
                  replace hf_174 := tr _ _ _ (Or.inr (by decide)) hf_174
                  replace hf_176 := tr _ _ _ (Or.inl (tt_ne hk1 hk0 (by decide))) hf_176
                  replace hf_183 := tr _ _ _ (Or.inl (tt_ne hk3 hk0 (by decide))) hf_183
                  replace hf_195 := tr _ _ _ (Or.inl (tt_ne hk2 hk0 (by decide))) hf_195
                  have hf_214 := hn
                  replace hfr := hfr.put hk0 tr (by decide)
                  replace hfa := hfa.all tl
                  exact jj_vret C ⟨[], pl_212, rfl, rfl, hok_213, hfr, hfa, rfl⟩ dX1_quote_171 (jj_le rfl) (jj_le rfl)
              · refine jj_aload_n C dX1_quote_157 rfl ?_
                refine tt_getF C hok_186 jk_2 3 (by decide) jw_8322fbab96 (t := (0, (-2147483648), 2147483647)) hk1 (by decide) rfl rfl hf_2 dX1_quote_158 ?_
                refine tt_callS (rest := [.ref h0]) C (tc_X2_dueOn_2 hl D cA ak p4 y_184 x_3 hok_186) [] [] rfl rfl (by decide) (by decide) (by decide) jw_2f594c34e3 jw_06dd566a56 jw_79af3f4029 jw_eebd9e2034 jn_X2_dueOn rfl (jj_le rfl) (jj_le rfl) (jj_le rfl) (jj_le rfl) (jj_le rfl) dX1_quote_161 rfl (fun _ _ _ hX => hX.elim) (fun rx pl_215 r O_218 => ?_)
                obtain ⟨rfl, hok_216, hr_217, hfa9, hR_220⟩ := O_218
                replace hf_2 := hr_217.at hk1 (by decide) (by decide) hf_2
                replace hf_14 := hr_217.at hk2 (by decide) (by decide) hf_14
                replace hf_34 := hr_217.at hk3 (by decide) (by decide) hf_34
                replace hf_54 := hr_217.at hk2 (by decide) (by decide) hf_54
                replace hf_61 := hr_217.at hk0 (by decide) (by decide) hf_61
                replace hf_66 := hr_217.at hk0 (by decide) (by decide) hf_66
                replace hf_68 := hr_217.at hk3 (by decide) (by decide) hf_68
                replace hf_74 := hr_217.at hk0 (by decide) (by decide) hf_74
                replace hf_174 := hr_217.at hk0 (by decide) (by decide) hf_174
                replace hf_176 := hr_217.at hk1 (by decide) (by decide) hf_176
                replace hf_183 := hr_217.at hk3 (by decide) (by decide) hf_183
                replace hf_195 := hr_217.at hk2 (by decide) (by decide) hf_195
                replace hfr := hfr.trans (hr_217.sub (by decide))
                replace hfa := hfa.trans (hfa9.sub (by decide))
                rcases hR_220 with rfl | ⟨y_223, rfl⟩
                · refine jj_goto (tgt := 168) C dX1_quote_164 (by decide) ?_
                  refine rl_put C hok_216 jk_3 5 (by decide) jw_e41f55c9ce (t := (1, (-9223372036854775808), 9223372036854775807)) hk0 (by decide) rfl rfl rfl (tt_ja (0 : Int64)) rfl rfl dX1_quote_168 (fun pl_224 hok_225 tr hn tl => ?_)
                  replace hf_2 := tr _ _ _ (Or.inl (tt_ne hk1 hk0 (by decide))) hf_2
                  replace hf_14 := tr _ _ _ (Or.inl (tt_ne hk2 hk0 (by decide))) hf_14
                  replace hf_34 := tr _ _ _ (Or.inl (tt_ne hk3 hk0 (by decide))) hf_34
                  replace hf_54 := tr _ _ _ (Or.inl (tt_ne hk2 hk0 (by decide))) hf_54
                  replace hf_61 := tr _ _ _ (Or.inr (by decide)) hf_61
                  replace hf_66 := tr _ _ _ (Or.inr (by decide)) hf_66
                  replace hf_68 := tr _ _ _ (Or.inl (tt_ne hk3 hk0 (by decide))) hf_68
                  replace hf_74 := tr _ _ _ (Or.inr (by decide)) hf_74
                  replace hf_174 := tr _ _ _ (Or.inr (by decide)) hf_174
                  replace hf_176 := tr _ _ _ (Or.inl (tt_ne hk1 hk0 (by decide))) hf_176
                  replace hf_183 := tr _ _ _ (Or.inl (tt_ne hk3 hk0 (by decide))) hf_183
                  replace hf_195 := tr _ _ _ (Or.inl (tt_ne hk2 hk0 (by decide))) hf_195
                  have hf_226 := hn
                  replace hfr := hfr.put hk0 tr (by decide)
                  replace hfa := hfa.all tl
                  exact jj_vret C ⟨[], pl_224, rfl, rfl, hok_225, hfr, hfa, rfl⟩ dX1_quote_171 (jj_le rfl) (jj_le rfl)
                · refine jj_goto (tgt := 168) C dX1_quote_164 (by decide) ?_
                  refine rl_put C hok_216 jk_3 5 (by decide) jw_e41f55c9ce (t := (1, (-9223372036854775808), 9223372036854775807)) hk0 (by decide) rfl rfl rfl (tt_ja y_223) rfl rfl dX1_quote_168 (fun pl_227 hok_228 tr hn tl => ?_)
                  replace hf_2 := tr _ _ _ (Or.inl (tt_ne hk1 hk0 (by decide))) hf_2
                  replace hf_14 := tr _ _ _ (Or.inl (tt_ne hk2 hk0 (by decide))) hf_14
                  replace hf_34 := tr _ _ _ (Or.inl (tt_ne hk3 hk0 (by decide))) hf_34
                  replace hf_54 := tr _ _ _ (Or.inl (tt_ne hk2 hk0 (by decide))) hf_54
                  replace hf_61 := tr _ _ _ (Or.inr (by decide)) hf_61
                  replace hf_66 := tr _ _ _ (Or.inr (by decide)) hf_66
                  replace hf_68 := tr _ _ _ (Or.inl (tt_ne hk3 hk0 (by decide))) hf_68
                  replace hf_74 := tr _ _ _ (Or.inr (by decide)) hf_74
                  replace hf_174 := tr _ _ _ (Or.inr (by decide)) hf_174
                  replace hf_176 := tr _ _ _ (Or.inl (tt_ne hk1 hk0 (by decide))) hf_176
                  replace hf_183 := tr _ _ _ (Or.inl (tt_ne hk3 hk0 (by decide))) hf_183
                  replace hf_195 := tr _ _ _ (Or.inl (tt_ne hk2 hk0 (by decide))) hf_195
                  have hf_229 := hn
                  replace hfr := hfr.put hk0 tr (by decide)
                  replace hfa := hfa.all tl
                  exact jj_vret C ⟨[], pl_227, rfl, rfl, hok_228, hfr, hfa, rfl⟩ dX1_quote_171 (jj_le rfl) (jj_le rfl)
            · refine jj_aload_n C dX1_quote_150 rfl ?_
              refine tt_get C hok_186 jk_9 4 (by decide) jw_0a98b03de8 (t := (1, (-9223372036854775808), 9223372036854775807)) hk2 (by decide) rfl rfl dX1_quote_151 (fun v_230 hv_230 hf_231 => ?_)
              obtain ⟨y_232, rfl, -, -⟩ := tt_vj hv_230
              refine tt_call0S (rest := [.long y_184, .long p4, .ref h0]) C (ct_J9_min_f86c9_1 hl D cA ak y_193 y_232) jw_fa02caeb63 jw_a0cddbe894 jw_a731c8553d jw_e0e7ffaaeb jn_J9_min_f86c9 rfl (jj_le rfl) (jj_le rfl) (jj_le rfl) (jj_le rfl) (jj_le rfl) dX1_quote_154 rfl (fun w1 r O_233 => ?_)
              rcases O_233 with ⟨c_234, -, rfl⟩ | ⟨c_235, -, rfl⟩
              · refine jj_aload_n C dX1_quote_157 rfl ?_
                refine tt_getF C hok_186 jk_2 3 (by decide) jw_8322fbab96 (t := (0, (-2147483648), 2147483647)) hk1 (by decide) rfl rfl hf_2 dX1_quote_158 ?_
                refine tt_callS (rest := [.ref h0]) C (tc_X2_dueOn_1 hl D cA ak p4 y_184 y_232 x_3 hok_186) [] [] rfl rfl (by decide) (by decide) (by decide) jw_2f594c34e3 jw_06dd566a56 jw_79af3f4029 jw_eebd9e2034 jn_X2_dueOn rfl (jj_le rfl) (jj_le rfl) (jj_le rfl) (jj_le rfl) (jj_le rfl) dX1_quote_161 rfl (fun _ _ _ hX => hX.elim) (fun rx pl_236 r O_239 => ?_)
                obtain ⟨rfl, hok_237, hr_238, hfa9, hR_241⟩ := O_239
                replace hf_2 := hr_238.at hk1 (by decide) (by decide) hf_2
                replace hf_14 := hr_238.at hk2 (by decide) (by decide) hf_14
                replace hf_34 := hr_238.at hk3 (by decide) (by decide) hf_34
                replace hf_54 := hr_238.at hk2 (by decide) (by decide) hf_54
                replace hf_61 := hr_238.at hk0 (by decide) (by decide) hf_61
                replace hf_66 := hr_238.at hk0 (by decide) (by decide) hf_66
                replace hf_68 := hr_238.at hk3 (by decide) (by decide) hf_68
                replace hf_74 := hr_238.at hk0 (by decide) (by decide) hf_74
                replace hf_174 := hr_238.at hk0 (by decide) (by decide) hf_174
                replace hf_176 := hr_238.at hk1 (by decide) (by decide) hf_176
                replace hf_183 := hr_238.at hk3 (by decide) (by decide) hf_183
                replace hf_231 := hr_238.at hk2 (by decide) (by decide) hf_231
                replace hfr := hfr.trans (hr_238.sub (by decide))
                replace hfa := hfa.trans (hfa9.sub (by decide))
                rcases hR_241 with rfl | ⟨y_244, rfl⟩
                · refine jj_goto (tgt := 168) C dX1_quote_164 (by decide) ?_
                  refine rl_put C hok_237 jk_3 5 (by decide) jw_e41f55c9ce (t := (1, (-9223372036854775808), 9223372036854775807)) hk0 (by decide) rfl rfl rfl (tt_ja (0 : Int64)) rfl rfl dX1_quote_168 (fun pl_245 hok_246 tr hn tl => ?_)
                  replace hf_2 := tr _ _ _ (Or.inl (tt_ne hk1 hk0 (by decide))) hf_2
                  replace hf_14 := tr _ _ _ (Or.inl (tt_ne hk2 hk0 (by decide))) hf_14
                  replace hf_34 := tr _ _ _ (Or.inl (tt_ne hk3 hk0 (by decide))) hf_34
                  replace hf_54 := tr _ _ _ (Or.inl (tt_ne hk2 hk0 (by decide))) hf_54
                  replace hf_61 := tr _ _ _ (Or.inr (by decide)) hf_61
                  replace hf_66 := tr _ _ _ (Or.inr (by decide)) hf_66
                  replace hf_68 := tr _ _ _ (Or.inl (tt_ne hk3 hk0 (by decide))) hf_68
                  replace hf_74 := tr _ _ _ (Or.inr (by decide)) hf_74
                  replace hf_174 := tr _ _ _ (Or.inr (by decide)) hf_174
                  replace hf_176 := tr _ _ _ (Or.inl (tt_ne hk1 hk0 (by decide))) hf_176
                  replace hf_183 := tr _ _ _ (Or.inl (tt_ne hk3 hk0 (by decide))) hf_183
                  replace hf_231 := tr _ _ _ (Or.inl (tt_ne hk2 hk0 (by decide))) hf_231
                  have hf_247 := hn
                  replace hfr := hfr.put hk0 tr (by decide)
                  replace hfa := hfa.all tl
                  exact jj_vret C ⟨[], pl_245, rfl, rfl, hok_246, hfr, hfa, rfl⟩ dX1_quote_171 (jj_le rfl) (jj_le rfl)
                · refine jj_goto (tgt := 168) C dX1_quote_164 (by decide) ?_
                  refine rl_put C hok_237 jk_3 5 (by decide) jw_e41f55c9ce (t := (1, (-9223372036854775808), 9223372036854775807)) hk0 (by decide) rfl rfl rfl (tt_ja y_244) rfl rfl dX1_quote_168 (fun pl_248 hok_249 tr hn tl => ?_)
                  replace hf_2 := tr _ _ _ (Or.inl (tt_ne hk1 hk0 (by decide))) hf_2
                  replace hf_14 := tr _ _ _ (Or.inl (tt_ne hk2 hk0 (by decide))) hf_14
                  replace hf_34 := tr _ _ _ (Or.inl (tt_ne hk3 hk0 (by decide))) hf_34
                  replace hf_54 := tr _ _ _ (Or.inl (tt_ne hk2 hk0 (by decide))) hf_54
                  replace hf_61 := tr _ _ _ (Or.inr (by decide)) hf_61
                  replace hf_66 := tr _ _ _ (Or.inr (by decide)) hf_66
                  replace hf_68 := tr _ _ _ (Or.inl (tt_ne hk3 hk0 (by decide))) hf_68
                  replace hf_74 := tr _ _ _ (Or.inr (by decide)) hf_74
                  replace hf_174 := tr _ _ _ (Or.inr (by decide)) hf_174
                  replace hf_176 := tr _ _ _ (Or.inl (tt_ne hk1 hk0 (by decide))) hf_176
                  replace hf_183 := tr _ _ _ (Or.inl (tt_ne hk3 hk0 (by decide))) hf_183
                  replace hf_231 := tr _ _ _ (Or.inl (tt_ne hk2 hk0 (by decide))) hf_231
                  have hf_250 := hn
                  replace hfr := hfr.put hk0 tr (by decide)
                  replace hfa := hfa.all tl
                  exact jj_vret C ⟨[], pl_248, rfl, rfl, hok_249, hfr, hfa, rfl⟩ dX1_quote_171 (jj_le rfl) (jj_le rfl)
              · refine jj_aload_n C dX1_quote_157 rfl ?_
                refine tt_getF C hok_186 jk_2 3 (by decide) jw_8322fbab96 (t := (0, (-2147483648), 2147483647)) hk1 (by decide) rfl rfl hf_2 dX1_quote_158 ?_
                refine tt_callS (rest := [.ref h0]) C (tc_X2_dueOn_1 hl D cA ak p4 y_184 y_193 x_3 hok_186) [] [] rfl rfl (by decide) (by decide) (by decide) jw_2f594c34e3 jw_06dd566a56 jw_79af3f4029 jw_eebd9e2034 jn_X2_dueOn rfl (jj_le rfl) (jj_le rfl) (jj_le rfl) (jj_le rfl) (jj_le rfl) dX1_quote_161 rfl (fun _ _ _ hX => hX.elim) (fun rx pl_251 r O_254 => ?_)
                obtain ⟨rfl, hok_252, hr_253, hfa9, hR_256⟩ := O_254
                replace hf_2 := hr_253.at hk1 (by decide) (by decide) hf_2
                replace hf_14 := hr_253.at hk2 (by decide) (by decide) hf_14
                replace hf_34 := hr_253.at hk3 (by decide) (by decide) hf_34
                replace hf_54 := hr_253.at hk2 (by decide) (by decide) hf_54
                replace hf_61 := hr_253.at hk0 (by decide) (by decide) hf_61
                replace hf_66 := hr_253.at hk0 (by decide) (by decide) hf_66
                replace hf_68 := hr_253.at hk3 (by decide) (by decide) hf_68
                replace hf_74 := hr_253.at hk0 (by decide) (by decide) hf_74
                replace hf_174 := hr_253.at hk0 (by decide) (by decide) hf_174
                replace hf_176 := hr_253.at hk1 (by decide) (by decide) hf_176
                replace hf_183 := hr_253.at hk3 (by decide) (by decide) hf_183
                replace hf_231 := hr_253.at hk2 (by decide) (by decide) hf_231
                replace hfr := hfr.trans (hr_253.sub (by decide))
                replace hfa := hfa.trans (hfa9.sub (by decide))
                rcases hR_256 with rfl | ⟨y_259, rfl⟩
                · refine jj_goto (tgt := 168) C dX1_quote_164 (by decide) ?_
                  refine rl_put C hok_252 jk_3 5 (by decide) jw_e41f55c9ce (t := (1, (-9223372036854775808), 9223372036854775807)) hk0 (by decide) rfl rfl rfl (tt_ja (0 : Int64)) rfl rfl dX1_quote_168 (fun pl_260 hok_261 tr hn tl => ?_)
                  replace hf_2 := tr _ _ _ (Or.inl (tt_ne hk1 hk0 (by decide))) hf_2
                  replace hf_14 := tr _ _ _ (Or.inl (tt_ne hk2 hk0 (by decide))) hf_14
                  replace hf_34 := tr _ _ _ (Or.inl (tt_ne hk3 hk0 (by decide))) hf_34
                  replace hf_54 := tr _ _ _ (Or.inl (tt_ne hk2 hk0 (by decide))) hf_54
                  replace hf_61 := tr _ _ _ (Or.inr (by decide)) hf_61
                  replace hf_66 := tr _ _ _ (Or.inr (by decide)) hf_66
                  replace hf_68 := tr _ _ _ (Or.inl (tt_ne hk3 hk0 (by decide))) hf_68
                  replace hf_74 := tr _ _ _ (Or.inr (by decide)) hf_74
                  replace hf_174 := tr _ _ _ (Or.inr (by decide)) hf_174
                  replace hf_176 := tr _ _ _ (Or.inl (tt_ne hk1 hk0 (by decide))) hf_176
                  replace hf_183 := tr _ _ _ (Or.inl (tt_ne hk3 hk0 (by decide))) hf_183
                  replace hf_231 := tr _ _ _ (Or.inl (tt_ne hk2 hk0 (by decide))) hf_231
                  have hf_262 := hn
                  replace hfr := hfr.put hk0 tr (by decide)
                  replace hfa := hfa.all tl
                  exact jj_vret C ⟨[], pl_260, rfl, rfl, hok_261, hfr, hfa, rfl⟩ dX1_quote_171 (jj_le rfl) (jj_le rfl)
                · refine jj_goto (tgt := 168) C dX1_quote_164 (by decide) ?_
                  refine rl_put C hok_252 jk_3 5 (by decide) jw_e41f55c9ce (t := (1, (-9223372036854775808), 9223372036854775807)) hk0 (by decide) rfl rfl rfl (tt_ja y_259) rfl rfl dX1_quote_168 (fun pl_263 hok_264 tr hn tl => ?_)
                  replace hf_2 := tr _ _ _ (Or.inl (tt_ne hk1 hk0 (by decide))) hf_2
                  replace hf_14 := tr _ _ _ (Or.inl (tt_ne hk2 hk0 (by decide))) hf_14
                  replace hf_34 := tr _ _ _ (Or.inl (tt_ne hk3 hk0 (by decide))) hf_34
                  replace hf_54 := tr _ _ _ (Or.inl (tt_ne hk2 hk0 (by decide))) hf_54
                  replace hf_61 := tr _ _ _ (Or.inr (by decide)) hf_61
                  replace hf_66 := tr _ _ _ (Or.inr (by decide)) hf_66
                  replace hf_68 := tr _ _ _ (Or.inl (tt_ne hk3 hk0 (by decide))) hf_68
                  replace hf_74 := tr _ _ _ (Or.inr (by decide)) hf_74
                  replace hf_174 := tr _ _ _ (Or.inr (by decide)) hf_174
                  replace hf_176 := tr _ _ _ (Or.inl (tt_ne hk1 hk0 (by decide))) hf_176
                  replace hf_183 := tr _ _ _ (Or.inl (tt_ne hk3 hk0 (by decide))) hf_183
                  replace hf_231 := tr _ _ _ (Or.inl (tt_ne hk2 hk0 (by decide))) hf_231
                  have hf_265 := hn
                  replace hfr := hfr.put hk0 tr (by decide)
                  replace hfa := hfa.all tl
                  exact jj_vret C ⟨[], pl_263, rfl, rfl, hok_264, hfr, hfa, rfl⟩ dX1_quote_171 (jj_le rfl) (jj_le rfl)
  · refine jj_lstore C dX1_quote_8 (by decide) rfl ?_
    refine jj_aload_n C dX1_quote_10 rfl ?_
    refine tt_get C hok_5 jk_9 3 (by decide) jw_df3b225d28 (t := (1, (-9223372036854775808), 9223372036854775807)) hk2 (by decide) rfl rfl dX1_quote_11 (fun v_266 hv_266 hf_267 => ?_)
    obtain ⟨y_268, rfl, -, -⟩ := tt_vj hv_266
    refine jj_lconst (v := 0) C dX1_quote_14 (by decide) ?_
    refine jj_lcmp_le (tgt := 32) C dX1_quote_15 dX1_quote_16 (by decide) (fun c_269 => ?_) (fun c_269 => ?_)
    · refine jj_iconst (v := 0) C dX1_quote_32 (by decide) ?_
      refine jj_istore C dX1_quote_33 (by decide) rfl ?_
      refine jj_aload_n C dX1_quote_35 rfl ?_
      refine jj_iload C dX1_quote_36 rfl ?_
      refine jj_if_eqT (tgt := 59) C dX1_quote_38 (by decide) (by decide) ?_
      refine jj_lconst (v := 0) C dX1_quote_59 (by decide) ?_
      refine rl_put C hok_5 jk_3 1 (by decide) jw_d747bb1560 (t := (1, (-9223372036854775808), 9223372036854775807)) hk0 (by decide) rfl rfl rfl (tt_ja (0 : Int64)) rfl rfl dX1_quote_60 (fun pl_270 hok_271 tr hn tl => ?_)
      replace hf_2 := tr _ _ _ (Or.inl (tt_ne hk1 hk0 (by decide))) hf_2
      replace hf_267 := tr _ _ _ (Or.inl (tt_ne hk2 hk0 (by decide))) hf_267
      have hf_272 := hn
      replace hfr := hfr.put hk0 tr (by decide)
      replace hfa := hfa.all tl
      refine jj_aload_n C dX1_quote_63 rfl ?_
      refine jj_iload C dX1_quote_64 rfl ?_
      refine jj_if_eqT (tgt := 82) C dX1_quote_66 (by decide) (by decide) ?_
      refine jj_lconst (v := 0) C dX1_quote_82 (by decide) ?_
      refine rl_put C hok_271 jk_3 2 (by decide) jw_771ad03ca8 (t := (1, (-9223372036854775808), 9223372036854775807)) hk0 (by decide) rfl rfl rfl (tt_ja (0 : Int64)) rfl rfl dX1_quote_83 (fun pl_273 hok_274 tr hn tl => ?_)
      replace hf_2 := tr _ _ _ (Or.inl (tt_ne hk1 hk0 (by decide))) hf_2
      replace hf_267 := tr _ _ _ (Or.inl (tt_ne hk2 hk0 (by decide))) hf_267
      replace hf_272 := tr _ _ _ (Or.inr (by decide)) hf_272
      have hf_275 := hn
      replace hfr := hfr.put hk0 tr (by decide)
      replace hfa := hfa.all tl
      refine jj_aload_n C dX1_quote_86 rfl ?_
      refine jj_iload C dX1_quote_87 rfl ?_
      refine jj_if_eqT (tgt := 107) C dX1_quote_89 (by decide) (by decide) ?_
      refine jj_lconst (v := 0) C dX1_quote_107 (by decide) ?_
      refine rl_put C hok_274 jk_3 3 (by decide) jw_71edc34996 (t := (1, (-9223372036854775808), 9223372036854775807)) hk0 (by decide) rfl rfl rfl (tt_ja (0 : Int64)) rfl rfl dX1_quote_108 (fun pl_276 hok_277 tr hn tl => ?_)
      replace hf_2 := tr _ _ _ (Or.inl (tt_ne hk1 hk0 (by decide))) hf_2
      replace hf_267 := tr _ _ _ (Or.inl (tt_ne hk2 hk0 (by decide))) hf_267
      replace hf_272 := tr _ _ _ (Or.inr (by decide)) hf_272
      replace hf_275 := tr _ _ _ (Or.inr (by decide)) hf_275
      have hf_278 := hn
      replace hfr := hfr.put hk0 tr (by decide)
      replace hfa := hfa.all tl
      refine jj_aload_n C dX1_quote_111 rfl ?_
      refine jj_aload_n C dX1_quote_112 rfl ?_
      refine tt_getF C hok_277 jk_3 2 (by decide) jw_771ad03ca8 (t := (1, (-9223372036854775808), 9223372036854775807)) hk0 (by decide) rfl rfl hf_275 dX1_quote_113 ?_
      refine jj_aload_n C dX1_quote_116 rfl ?_
      refine tt_getF C hok_277 jk_3 3 (by decide) jw_71edc34996 (t := (1, (-9223372036854775808), 9223372036854775807)) hk0 (by decide) rfl rfl hf_278 dX1_quote_117 ?_
      refine tt_call0S (rest := [.ref h0]) C (ct_J9_min_f86c9_2 hl D cA ak) jw_fa02caeb63 jw_a0cddbe894 jw_a731c8553d jw_e0e7ffaaeb jn_J9_min_f86c9 rfl (jj_le rfl) (jj_le rfl) (jj_le rfl) (jj_le rfl) (jj_le rfl) dX1_quote_120 rfl (fun w1 r O_279 => ?_)
      obtain ⟨-, rfl⟩ := O_279
      refine rl_put C hok_277 jk_3 4 (by decide) jw_21f29d6c44 (t := (1, (-9223372036854775808), 9223372036854775807)) hk0 (by decide) rfl rfl rfl (tt_ja (0 : Int64)) rfl rfl dX1_quote_123 (fun pl_280 hok_281 tr hn tl => ?_)
      replace hf_2 := tr _ _ _ (Or.inl (tt_ne hk1 hk0 (by decide))) hf_2
      replace hf_267 := tr _ _ _ (Or.inl (tt_ne hk2 hk0 (by decide))) hf_267
      replace hf_272 := tr _ _ _ (Or.inr (by decide)) hf_272
      replace hf_275 := tr _ _ _ (Or.inr (by decide)) hf_275
      replace hf_278 := tr _ _ _ (Or.inr (by decide)) hf_278
      have hf_282 := hn
      replace hfr := hfr.put hk0 tr (by decide)
      replace hfa := hfa.all tl
      refine jj_aload_n C dX1_quote_126 rfl ?_
      refine jj_iload C dX1_quote_127 rfl ?_
      refine jj_if_eqT (tgt := 167) C dX1_quote_129 (by decide) (by decide) ?_
      refine jj_lconst (v := 0) C dX1_quote_167 (by decide) ?_
      refine rl_put C hok_281 jk_3 5 (by decide) jw_e41f55c9ce (t := (1, (-9223372036854775808), 9223372036854775807)) hk0 (by decide) rfl rfl rfl (tt_ja (0 : Int64)) rfl rfl dX1_quote_168 (fun pl_283 hok_284 tr hn tl => ?_)
      replace hf_2 := tr _ _ _ (Or.inl (tt_ne hk1 hk0 (by decide))) hf_2
      replace hf_267 := tr _ _ _ (Or.inl (tt_ne hk2 hk0 (by decide))) hf_267
      replace hf_272 := tr _ _ _ (Or.inr (by decide)) hf_272
      replace hf_275 := tr _ _ _ (Or.inr (by decide)) hf_275
      replace hf_278 := tr _ _ _ (Or.inr (by decide)) hf_278
      replace hf_282 := tr _ _ _ (Or.inr (by decide)) hf_282
      have hf_285 := hn
      replace hfr := hfr.put hk0 tr (by decide)
      replace hfa := hfa.all tl
      exact jj_vret C ⟨[], pl_283, rfl, rfl, hok_284, hfr, hfa, rfl⟩ dX1_quote_171 (jj_le rfl) (jj_le rfl)
    · refine jj_aload_n C dX1_quote_19 rfl ?_
      refine tt_get C hok_5 jk_5 3 (by decide) jw_fcb072e0d9 (t := (1, (-9223372036854775808), 9223372036854775807)) hk3 (by decide) rfl rfl dX1_quote_20 (fun v_286 hv_286 hf_287 => ?_)
      obtain ⟨y_288, rfl, -, -⟩ := tt_vj hv_286
      refine jj_lconst (v := 0) C dX1_quote_23 (by decide) ?_
      refine jj_lcmp_le (tgt := 32) C dX1_quote_24 dX1_quote_25 (by decide) (fun c_289 => ?_) (fun c_289 => ?_)
      · refine jj_iconst (v := 0) C dX1_quote_32 (by decide) ?_
        refine jj_istore C dX1_quote_33 (by decide) rfl ?_
        refine jj_aload_n C dX1_quote_35 rfl ?_
        refine jj_iload C dX1_quote_36 rfl ?_
        refine jj_if_eqT (tgt := 59) C dX1_quote_38 (by decide) (by decide) ?_
        refine jj_lconst (v := 0) C dX1_quote_59 (by decide) ?_
        refine rl_put C hok_5 jk_3 1 (by decide) jw_d747bb1560 (t := (1, (-9223372036854775808), 9223372036854775807)) hk0 (by decide) rfl rfl rfl (tt_ja (0 : Int64)) rfl rfl dX1_quote_60 (fun pl_290 hok_291 tr hn tl => ?_)
        replace hf_2 := tr _ _ _ (Or.inl (tt_ne hk1 hk0 (by decide))) hf_2
        replace hf_267 := tr _ _ _ (Or.inl (tt_ne hk2 hk0 (by decide))) hf_267
        replace hf_287 := tr _ _ _ (Or.inl (tt_ne hk3 hk0 (by decide))) hf_287
        have hf_292 := hn
        replace hfr := hfr.put hk0 tr (by decide)
        replace hfa := hfa.all tl
        refine jj_aload_n C dX1_quote_63 rfl ?_
        refine jj_iload C dX1_quote_64 rfl ?_
        refine jj_if_eqT (tgt := 82) C dX1_quote_66 (by decide) (by decide) ?_
        refine jj_lconst (v := 0) C dX1_quote_82 (by decide) ?_
        refine rl_put C hok_291 jk_3 2 (by decide) jw_771ad03ca8 (t := (1, (-9223372036854775808), 9223372036854775807)) hk0 (by decide) rfl rfl rfl (tt_ja (0 : Int64)) rfl rfl dX1_quote_83 (fun pl_293 hok_294 tr hn tl => ?_)
        replace hf_2 := tr _ _ _ (Or.inl (tt_ne hk1 hk0 (by decide))) hf_2
        replace hf_267 := tr _ _ _ (Or.inl (tt_ne hk2 hk0 (by decide))) hf_267
        replace hf_287 := tr _ _ _ (Or.inl (tt_ne hk3 hk0 (by decide))) hf_287
        replace hf_292 := tr _ _ _ (Or.inr (by decide)) hf_292
        have hf_295 := hn
        replace hfr := hfr.put hk0 tr (by decide)
        replace hfa := hfa.all tl
        refine jj_aload_n C dX1_quote_86 rfl ?_
        refine jj_iload C dX1_quote_87 rfl ?_
        refine jj_if_eqT (tgt := 107) C dX1_quote_89 (by decide) (by decide) ?_
        refine jj_lconst (v := 0) C dX1_quote_107 (by decide) ?_
        refine rl_put C hok_294 jk_3 3 (by decide) jw_71edc34996 (t := (1, (-9223372036854775808), 9223372036854775807)) hk0 (by decide) rfl rfl rfl (tt_ja (0 : Int64)) rfl rfl dX1_quote_108 (fun pl_296 hok_297 tr hn tl => ?_)
        replace hf_2 := tr _ _ _ (Or.inl (tt_ne hk1 hk0 (by decide))) hf_2
        replace hf_267 := tr _ _ _ (Or.inl (tt_ne hk2 hk0 (by decide))) hf_267
        replace hf_287 := tr _ _ _ (Or.inl (tt_ne hk3 hk0 (by decide))) hf_287
        replace hf_292 := tr _ _ _ (Or.inr (by decide)) hf_292
        replace hf_295 := tr _ _ _ (Or.inr (by decide)) hf_295
        have hf_298 := hn
        replace hfr := hfr.put hk0 tr (by decide)
        replace hfa := hfa.all tl
        refine jj_aload_n C dX1_quote_111 rfl ?_
        refine jj_aload_n C dX1_quote_112 rfl ?_
        refine tt_getF C hok_297 jk_3 2 (by decide) jw_771ad03ca8 (t := (1, (-9223372036854775808), 9223372036854775807)) hk0 (by decide) rfl rfl hf_295 dX1_quote_113 ?_
        refine jj_aload_n C dX1_quote_116 rfl ?_
        refine tt_getF C hok_297 jk_3 3 (by decide) jw_71edc34996 (t := (1, (-9223372036854775808), 9223372036854775807)) hk0 (by decide) rfl rfl hf_298 dX1_quote_117 ?_
        refine tt_call0S (rest := [.ref h0]) C (ct_J9_min_f86c9_2 hl D cA ak) jw_fa02caeb63 jw_a0cddbe894 jw_a731c8553d jw_e0e7ffaaeb jn_J9_min_f86c9 rfl (jj_le rfl) (jj_le rfl) (jj_le rfl) (jj_le rfl) (jj_le rfl) dX1_quote_120 rfl (fun w1 r O_299 => ?_)
        obtain ⟨-, rfl⟩ := O_299
        refine rl_put C hok_297 jk_3 4 (by decide) jw_21f29d6c44 (t := (1, (-9223372036854775808), 9223372036854775807)) hk0 (by decide) rfl rfl rfl (tt_ja (0 : Int64)) rfl rfl dX1_quote_123 (fun pl_300 hok_301 tr hn tl => ?_)
        replace hf_2 := tr _ _ _ (Or.inl (tt_ne hk1 hk0 (by decide))) hf_2
        replace hf_267 := tr _ _ _ (Or.inl (tt_ne hk2 hk0 (by decide))) hf_267
        replace hf_287 := tr _ _ _ (Or.inl (tt_ne hk3 hk0 (by decide))) hf_287
        replace hf_292 := tr _ _ _ (Or.inr (by decide)) hf_292
        replace hf_295 := tr _ _ _ (Or.inr (by decide)) hf_295
        replace hf_298 := tr _ _ _ (Or.inr (by decide)) hf_298
        have hf_302 := hn
        replace hfr := hfr.put hk0 tr (by decide)
        replace hfa := hfa.all tl
        refine jj_aload_n C dX1_quote_126 rfl ?_
        refine jj_iload C dX1_quote_127 rfl ?_
        refine jj_if_eqT (tgt := 167) C dX1_quote_129 (by decide) (by decide) ?_
        refine jj_lconst (v := 0) C dX1_quote_167 (by decide) ?_
        refine rl_put C hok_301 jk_3 5 (by decide) jw_e41f55c9ce (t := (1, (-9223372036854775808), 9223372036854775807)) hk0 (by decide) rfl rfl rfl (tt_ja (0 : Int64)) rfl rfl dX1_quote_168 (fun pl_303 hok_304 tr hn tl => ?_)
        replace hf_2 := tr _ _ _ (Or.inl (tt_ne hk1 hk0 (by decide))) hf_2
        replace hf_267 := tr _ _ _ (Or.inl (tt_ne hk2 hk0 (by decide))) hf_267
        replace hf_287 := tr _ _ _ (Or.inl (tt_ne hk3 hk0 (by decide))) hf_287
        replace hf_292 := tr _ _ _ (Or.inr (by decide)) hf_292
        replace hf_295 := tr _ _ _ (Or.inr (by decide)) hf_295
        replace hf_298 := tr _ _ _ (Or.inr (by decide)) hf_298
        replace hf_302 := tr _ _ _ (Or.inr (by decide)) hf_302
        have hf_305 := hn
        replace hfr := hfr.put hk0 tr (by decide)
        replace hfa := hfa.all tl
        exact jj_vret C ⟨[], pl_303, rfl, rfl, hok_304, hfr, hfa, rfl⟩ dX1_quote_171 (jj_le rfl) (jj_le rfl)
      · refine jj_iconst (v := 1) C dX1_quote_28 (by decide) ?_
        refine jj_goto (tgt := 33) C dX1_quote_29 (by decide) ?_
        refine jj_istore C dX1_quote_33 (by decide) rfl ?_
        refine jj_aload_n C dX1_quote_35 rfl ?_
        refine jj_iload C dX1_quote_36 rfl ?_
        refine jj_if_eqF (tgt := 59) C dX1_quote_38 (by decide) (by decide) ?_
        refine jj_aload_n C dX1_quote_41 rfl ?_
        refine tt_get C hok_5 jk_9 2 (by decide) jw_a25c79ea7a (t := (1, (-9223372036854775808), 9223372036854775807)) hk2 (by decide) rfl rfl dX1_quote_42 (fun v_306 hv_306 hf_307 => ?_)
        obtain ⟨y_308, rfl, -, -⟩ := tt_vj hv_306
        refine jj_lload C dX1_quote_45 rfl ?_
        obtain ⟨y_309, ey_309⟩ : ∃ z : Int64, y_308 - y_12 = z := ⟨_, rfl⟩
        refine jj_lsub (v := y_309) C dX1_quote_47 ey_309 ?_
        refine jj_lload C dX1_quote_48 rfl ?_
        obtain ⟨y_310, ey_310⟩ : ∃ z : Int64, y_309 * p4 = z := ⟨_, rfl⟩
        refine jj_lmul (v := y_310) C dX1_quote_50 ey_310 ?_
        refine jj_aload_n C dX1_quote_51 rfl ?_
        refine tt_getF C hok_5 jk_9 3 (by decide) jw_df3b225d28 (t := (1, (-9223372036854775808), 9223372036854775807)) hk2 (by decide) rfl rfl hf_267 dX1_quote_52 ?_
        obtain ⟨y_311, ey_311⟩ : ∃ z : Int64, y_310 / y_268 = z := ⟨_, rfl⟩
        refine jj_ldiv (v := y_311) C dX1_quote_55 (jt_nzpL (by first | exact Int64.not_le.mp c_269 | exact Int32.not_le.mp c_269)) ey_311 ?_
        refine jj_goto (tgt := 60) C dX1_quote_56 (by decide) ?_
        refine rl_put C hok_5 jk_3 1 (by decide) jw_d747bb1560 (t := (1, (-9223372036854775808), 9223372036854775807)) hk0 (by decide) rfl rfl rfl (tt_ja y_311) rfl rfl dX1_quote_60 (fun pl_312 hok_313 tr hn tl => ?_)
        replace hf_2 := tr _ _ _ (Or.inl (tt_ne hk1 hk0 (by decide))) hf_2
        replace hf_267 := tr _ _ _ (Or.inl (tt_ne hk2 hk0 (by decide))) hf_267
        replace hf_287 := tr _ _ _ (Or.inl (tt_ne hk3 hk0 (by decide))) hf_287
        replace hf_307 := tr _ _ _ (Or.inl (tt_ne hk2 hk0 (by decide))) hf_307
        have hf_314 := hn
        replace hfr := hfr.put hk0 tr (by decide)
        replace hfa := hfa.all tl
        refine jj_aload_n C dX1_quote_63 rfl ?_
        refine jj_iload C dX1_quote_64 rfl ?_
        refine jj_if_eqF (tgt := 82) C dX1_quote_66 (by decide) (by decide) ?_
        refine jj_lload C dX1_quote_69 rfl ?_
        refine jj_lload C dX1_quote_71 rfl ?_
        obtain ⟨y_315, ey_315⟩ : ∃ z : Int64, y_12 * p4 = z := ⟨_, rfl⟩
        refine jj_lmul (v := y_315) C dX1_quote_73 ey_315 ?_
        refine jj_aload_n C dX1_quote_74 rfl ?_
        refine tt_getF C hok_313 jk_9 3 (by decide) jw_df3b225d28 (t := (1, (-9223372036854775808), 9223372036854775807)) hk2 (by decide) rfl rfl hf_267 dX1_quote_75 ?_
        obtain ⟨y_316, ey_316⟩ : ∃ z : Int64, y_315 / y_268 = z := ⟨_, rfl⟩
        refine jj_ldiv (v := y_316) C dX1_quote_78 (jt_nzpL (by first | exact Int64.not_le.mp c_269 | exact Int32.not_le.mp c_269)) ey_316 ?_
        refine jj_goto (tgt := 83) C dX1_quote_79 (by decide) ?_
        refine rl_put C hok_313 jk_3 2 (by decide) jw_771ad03ca8 (t := (1, (-9223372036854775808), 9223372036854775807)) hk0 (by decide) rfl rfl rfl (tt_ja y_316) rfl rfl dX1_quote_83 (fun pl_317 hok_318 tr hn tl => ?_)
        replace hf_2 := tr _ _ _ (Or.inl (tt_ne hk1 hk0 (by decide))) hf_2
        replace hf_267 := tr _ _ _ (Or.inl (tt_ne hk2 hk0 (by decide))) hf_267
        replace hf_287 := tr _ _ _ (Or.inl (tt_ne hk3 hk0 (by decide))) hf_287
        replace hf_307 := tr _ _ _ (Or.inl (tt_ne hk2 hk0 (by decide))) hf_307
        replace hf_314 := tr _ _ _ (Or.inr (by decide)) hf_314
        have hf_319 := hn
        replace hfr := hfr.put hk0 tr (by decide)
        replace hfa := hfa.all tl
        refine jj_aload_n C dX1_quote_86 rfl ?_
        refine jj_iload C dX1_quote_87 rfl ?_
        refine jj_if_eqF (tgt := 107) C dX1_quote_89 (by decide) (by decide) ?_
        refine jj_aload_n C dX1_quote_92 rfl ?_
        refine tt_get C hok_318 jk_5 5 (by decide) jw_5ff29d8ec5 (t := (1, (-9223372036854775808), 9223372036854775807)) hk3 (by decide) rfl rfl dX1_quote_93 (fun v_320 hv_320 hf_321 => ?_)
        obtain ⟨y_322, rfl, -, -⟩ := tt_vj hv_320
        refine jj_lload C dX1_quote_96 rfl ?_
        obtain ⟨y_323, ey_323⟩ : ∃ z : Int64, y_322 * p4 = z := ⟨_, rfl⟩
        refine jj_lmul (v := y_323) C dX1_quote_98 ey_323 ?_
        refine jj_aload_n C dX1_quote_99 rfl ?_
        refine tt_getF C hok_318 jk_5 3 (by decide) jw_fcb072e0d9 (t := (1, (-9223372036854775808), 9223372036854775807)) hk3 (by decide) rfl rfl hf_287 dX1_quote_100 ?_
        obtain ⟨y_324, ey_324⟩ : ∃ z : Int64, y_323 / y_288 = z := ⟨_, rfl⟩
        refine jj_ldiv (v := y_324) C dX1_quote_103 (jt_nzpL (by first | exact Int64.not_le.mp c_289 | exact Int32.not_le.mp c_289)) ey_324 ?_
        refine jj_goto (tgt := 108) C dX1_quote_104 (by decide) ?_
        refine rl_put C hok_318 jk_3 3 (by decide) jw_71edc34996 (t := (1, (-9223372036854775808), 9223372036854775807)) hk0 (by decide) rfl rfl rfl (tt_ja y_324) rfl rfl dX1_quote_108 (fun pl_325 hok_326 tr hn tl => ?_)
        replace hf_2 := tr _ _ _ (Or.inl (tt_ne hk1 hk0 (by decide))) hf_2
        replace hf_267 := tr _ _ _ (Or.inl (tt_ne hk2 hk0 (by decide))) hf_267
        replace hf_287 := tr _ _ _ (Or.inl (tt_ne hk3 hk0 (by decide))) hf_287
        replace hf_307 := tr _ _ _ (Or.inl (tt_ne hk2 hk0 (by decide))) hf_307
        replace hf_314 := tr _ _ _ (Or.inr (by decide)) hf_314
        replace hf_319 := tr _ _ _ (Or.inr (by decide)) hf_319
        replace hf_321 := tr _ _ _ (Or.inl (tt_ne hk3 hk0 (by decide))) hf_321
        have hf_327 := hn
        replace hfr := hfr.put hk0 tr (by decide)
        replace hfa := hfa.all tl
        refine jj_aload_n C dX1_quote_111 rfl ?_
        refine jj_aload_n C dX1_quote_112 rfl ?_
        refine tt_getF C hok_326 jk_3 2 (by decide) jw_771ad03ca8 (t := (1, (-9223372036854775808), 9223372036854775807)) hk0 (by decide) rfl rfl hf_319 dX1_quote_113 ?_
        refine jj_aload_n C dX1_quote_116 rfl ?_
        refine tt_getF C hok_326 jk_3 3 (by decide) jw_71edc34996 (t := (1, (-9223372036854775808), 9223372036854775807)) hk0 (by decide) rfl rfl hf_327 dX1_quote_117 ?_
        refine tt_call0S (rest := [.ref h0]) C (ct_J9_min_f86c9_1 hl D cA ak y_316 y_324) jw_fa02caeb63 jw_a0cddbe894 jw_a731c8553d jw_e0e7ffaaeb jn_J9_min_f86c9 rfl (jj_le rfl) (jj_le rfl) (jj_le rfl) (jj_le rfl) (jj_le rfl) dX1_quote_120 rfl (fun w1 r O_328 => ?_)
        rcases O_328 with ⟨c_329, -, rfl⟩ | ⟨c_330, -, rfl⟩
        · refine rl_put C hok_326 jk_3 4 (by decide) jw_21f29d6c44 (t := (1, (-9223372036854775808), 9223372036854775807)) hk0 (by decide) rfl rfl rfl (tt_ja y_324) rfl rfl dX1_quote_123 (fun pl_331 hok_332 tr hn tl => ?_)
          replace hf_2 := tr _ _ _ (Or.inl (tt_ne hk1 hk0 (by decide))) hf_2
          replace hf_267 := tr _ _ _ (Or.inl (tt_ne hk2 hk0 (by decide))) hf_267
          replace hf_287 := tr _ _ _ (Or.inl (tt_ne hk3 hk0 (by decide))) hf_287
          replace hf_307 := tr _ _ _ (Or.inl (tt_ne hk2 hk0 (by decide))) hf_307
          replace hf_314 := tr _ _ _ (Or.inr (by decide)) hf_314
          replace hf_319 := tr _ _ _ (Or.inr (by decide)) hf_319
          replace hf_321 := tr _ _ _ (Or.inl (tt_ne hk3 hk0 (by decide))) hf_321
          replace hf_327 := tr _ _ _ (Or.inr (by decide)) hf_327
          have hf_333 := hn
          replace hfr := hfr.put hk0 tr (by decide)
          replace hfa := hfa.all tl
          refine jj_aload_n C dX1_quote_126 rfl ?_
          refine jj_iload C dX1_quote_127 rfl ?_
          refine jj_if_eqF (tgt := 167) C dX1_quote_129 (by decide) (by decide) ?_
          refine jj_aload_n C dX1_quote_132 rfl ?_
          refine tt_get C hok_332 jk_2 1 (by decide) jw_23f70347f5 (t := (0, (-2147483648), 2147483647)) hk1 (by decide) rfl rfl dX1_quote_133 (fun v_334 hv_334 hf_335 => ?_)
          obtain ⟨x_336, rfl, lx_336, ux_336⟩ := tt_vi hv_334
          refine jj_iconst (v := 1) C dX1_quote_136 (by decide) ?_
          refine jj_icmp_ne (tgt := 167) C dX1_quote_137 (by decide) (fun c_337 => ?_) (fun c_337 => ?_)
          · have z_c_337 := jc_neq (a := (x_336).toInt) (b := (1)) c_337 rfl (by decide)
            refine jj_lconst (v := 0) C dX1_quote_167 (by decide) ?_
            refine rl_put C hok_332 jk_3 5 (by decide) jw_e41f55c9ce (t := (1, (-9223372036854775808), 9223372036854775807)) hk0 (by decide) rfl rfl rfl (tt_ja (0 : Int64)) rfl rfl dX1_quote_168 (fun pl_338 hok_339 tr hn tl => ?_)
            replace hf_2 := tr _ _ _ (Or.inl (tt_ne hk1 hk0 (by decide))) hf_2
            replace hf_267 := tr _ _ _ (Or.inl (tt_ne hk2 hk0 (by decide))) hf_267
            replace hf_287 := tr _ _ _ (Or.inl (tt_ne hk3 hk0 (by decide))) hf_287
            replace hf_307 := tr _ _ _ (Or.inl (tt_ne hk2 hk0 (by decide))) hf_307
            replace hf_314 := tr _ _ _ (Or.inr (by decide)) hf_314
            replace hf_319 := tr _ _ _ (Or.inr (by decide)) hf_319
            replace hf_321 := tr _ _ _ (Or.inl (tt_ne hk3 hk0 (by decide))) hf_321
            replace hf_327 := tr _ _ _ (Or.inr (by decide)) hf_327
            replace hf_333 := tr _ _ _ (Or.inr (by decide)) hf_333
            replace hf_335 := tr _ _ _ (Or.inl (tt_ne hk1 hk0 (by decide))) hf_335
            have hf_340 := hn
            replace hfr := hfr.put hk0 tr (by decide)
            replace hfa := hfa.all tl
            exact jj_vret C ⟨[], pl_338, rfl, rfl, hok_339, hfr, hfa, rfl⟩ dX1_quote_171 (jj_le rfl) (jj_le rfl)
          · have z_c_337 := jc_eq (a := (x_336).toInt) (b := (1)) c_337 rfl (by decide)
            refine jj_lload C dX1_quote_140 rfl ?_
            refine jj_aload_n C dX1_quote_142 rfl ?_
            refine tt_get C hok_332 jk_5 4 (by decide) jw_3ffc3c6a36 (t := (1, (-9223372036854775808), 9223372036854775807)) hk3 (by decide) rfl rfl dX1_quote_143 (fun v_341 hv_341 hf_342 => ?_)
            obtain ⟨y_343, rfl, -, -⟩ := tt_vj hv_341
            refine jj_aload_n C dX1_quote_146 rfl ?_
            obtain ⟨qc, gs, hqc⟩ := tt_recv (cx := []) hok_332 hk2 (by decide) rfl
            refine tt_callV (rest := [.long y_343, .long p4, .ref h0]) C (tc_X8_grossPrice_1 hl D cA ak h2 hk2 hok_332) [] [] rfl rfl (by decide) (by decide) (by decide) qc hqc rfl rfl jw_7a88110815 jw_8d67ffd46e jw_4ae9f31643 jw_364e75910d jw_11bb953c63 jn_X8_grossPrice rfl (jj_le rfl) (jj_le rfl) (jj_le rfl) (jj_le rfl) (jj_le rfl) dX1_quote_147 rfl (fun _ _ _ hX => hX.elim) (fun rx pl_344 r O_347 => ?_)
            obtain ⟨rfl, hok_345, hr_346, hfa9, hR_349⟩ := O_347
            replace hf_2 := hr_346.at hk1 (by decide) (by decide) hf_2
            replace hf_267 := hr_346.at hk2 (by decide) (by decide) hf_267
            replace hf_287 := hr_346.at hk3 (by decide) (by decide) hf_287
            replace hf_307 := hr_346.at hk2 (by decide) (by decide) hf_307
            replace hf_314 := hr_346.at hk0 (by decide) (by decide) hf_314
            replace hf_319 := hr_346.at hk0 (by decide) (by decide) hf_319
            replace hf_321 := hr_346.at hk3 (by decide) (by decide) hf_321
            replace hf_327 := hr_346.at hk0 (by decide) (by decide) hf_327
            replace hf_333 := hr_346.at hk0 (by decide) (by decide) hf_333
            replace hf_335 := hr_346.at hk1 (by decide) (by decide) hf_335
            replace hf_342 := hr_346.at hk3 (by decide) (by decide) hf_342
            replace hfr := hfr.trans (hr_346.sub (by decide))
            replace hfa := hfa.trans (hfa9.sub (by decide))
            rcases hR_349 with rfl | ⟨y_352, rfl⟩
            · refine jj_aload_n C dX1_quote_150 rfl ?_
              refine tt_get C hok_345 jk_9 4 (by decide) jw_0a98b03de8 (t := (1, (-9223372036854775808), 9223372036854775807)) hk2 (by decide) rfl rfl dX1_quote_151 (fun v_353 hv_353 hf_354 => ?_)
              obtain ⟨y_355, rfl, -, -⟩ := tt_vj hv_353
              refine tt_call0S (rest := [.long y_343, .long p4, .ref h0]) C (ct_J9_min_f86c9_3 hl D cA ak y_355) jw_fa02caeb63 jw_a0cddbe894 jw_a731c8553d jw_e0e7ffaaeb jn_J9_min_f86c9 rfl (jj_le rfl) (jj_le rfl) (jj_le rfl) (jj_le rfl) (jj_le rfl) dX1_quote_154 rfl (fun w1 r O_356 => ?_)
              rcases O_356 with ⟨c_357, -, rfl⟩ | ⟨c_358, -, rfl⟩
              · refine jj_aload_n C dX1_quote_157 rfl ?_
                refine tt_getF C hok_345 jk_2 3 (by decide) jw_8322fbab96 (t := (0, (-2147483648), 2147483647)) hk1 (by decide) rfl rfl hf_2 dX1_quote_158 ?_
                refine tt_callS (rest := [.ref h0]) C (tc_X2_dueOn_1 hl D cA ak p4 y_343 y_355 x_3 hok_345) [] [] rfl rfl (by decide) (by decide) (by decide) jw_2f594c34e3 jw_06dd566a56 jw_79af3f4029 jw_eebd9e2034 jn_X2_dueOn rfl (jj_le rfl) (jj_le rfl) (jj_le rfl) (jj_le rfl) (jj_le rfl) dX1_quote_161 rfl (fun _ _ _ hX => hX.elim) (fun rx pl_359 r O_362 => ?_)
                obtain ⟨rfl, hok_360, hr_361, hfa9, hR_364⟩ := O_362
                replace hf_2 := hr_361.at hk1 (by decide) (by decide) hf_2
                replace hf_267 := hr_361.at hk2 (by decide) (by decide) hf_267
                replace hf_287 := hr_361.at hk3 (by decide) (by decide) hf_287
                replace hf_307 := hr_361.at hk2 (by decide) (by decide) hf_307
                replace hf_314 := hr_361.at hk0 (by decide) (by decide) hf_314
                replace hf_319 := hr_361.at hk0 (by decide) (by decide) hf_319
                replace hf_321 := hr_361.at hk3 (by decide) (by decide) hf_321
                replace hf_327 := hr_361.at hk0 (by decide) (by decide) hf_327
                replace hf_333 := hr_361.at hk0 (by decide) (by decide) hf_333
                replace hf_335 := hr_361.at hk1 (by decide) (by decide) hf_335
                replace hf_342 := hr_361.at hk3 (by decide) (by decide) hf_342
                replace hf_354 := hr_361.at hk2 (by decide) (by decide) hf_354
                replace hfr := hfr.trans (hr_361.sub (by decide))
                replace hfa := hfa.trans (hfa9.sub (by decide))
                rcases hR_364 with rfl | ⟨y_367, rfl⟩
                · refine jj_goto (tgt := 168) C dX1_quote_164 (by decide) ?_
                  refine rl_put C hok_360 jk_3 5 (by decide) jw_e41f55c9ce (t := (1, (-9223372036854775808), 9223372036854775807)) hk0 (by decide) rfl rfl rfl (tt_ja (0 : Int64)) rfl rfl dX1_quote_168 (fun pl_368 hok_369 tr hn tl => ?_)
                  replace hf_2 := tr _ _ _ (Or.inl (tt_ne hk1 hk0 (by decide))) hf_2
                  replace hf_267 := tr _ _ _ (Or.inl (tt_ne hk2 hk0 (by decide))) hf_267
                  replace hf_287 := tr _ _ _ (Or.inl (tt_ne hk3 hk0 (by decide))) hf_287
                  replace hf_307 := tr _ _ _ (Or.inl (tt_ne hk2 hk0 (by decide))) hf_307
                  replace hf_314 := tr _ _ _ (Or.inr (by decide)) hf_314
                  replace hf_319 := tr _ _ _ (Or.inr (by decide)) hf_319
                  replace hf_321 := tr _ _ _ (Or.inl (tt_ne hk3 hk0 (by decide))) hf_321
                  replace hf_327 := tr _ _ _ (Or.inr (by decide)) hf_327
                  replace hf_333 := tr _ _ _ (Or.inr (by decide)) hf_333
                  replace hf_335 := tr _ _ _ (Or.inl (tt_ne hk1 hk0 (by decide))) hf_335
                  replace hf_342 := tr _ _ _ (Or.inl (tt_ne hk3 hk0 (by decide))) hf_342
                  replace hf_354 := tr _ _ _ (Or.inl (tt_ne hk2 hk0 (by decide))) hf_354
                  have hf_370 := hn
                  replace hfr := hfr.put hk0 tr (by decide)
                  replace hfa := hfa.all tl
                  exact jj_vret C ⟨[], pl_368, rfl, rfl, hok_369, hfr, hfa, rfl⟩ dX1_quote_171 (jj_le rfl) (jj_le rfl)
                · refine jj_goto (tgt := 168) C dX1_quote_164 (by decide) ?_
                  refine rl_put C hok_360 jk_3 5 (by decide) jw_e41f55c9ce (t := (1, (-9223372036854775808), 9223372036854775807)) hk0 (by decide) rfl rfl rfl (tt_ja y_367) rfl rfl dX1_quote_168 (fun pl_371 hok_372 tr hn tl => ?_)
                  replace hf_2 := tr _ _ _ (Or.inl (tt_ne hk1 hk0 (by decide))) hf_2
                  replace hf_267 := tr _ _ _ (Or.inl (tt_ne hk2 hk0 (by decide))) hf_267
                  replace hf_287 := tr _ _ _ (Or.inl (tt_ne hk3 hk0 (by decide))) hf_287
                  replace hf_307 := tr _ _ _ (Or.inl (tt_ne hk2 hk0 (by decide))) hf_307
                  replace hf_314 := tr _ _ _ (Or.inr (by decide)) hf_314
                  replace hf_319 := tr _ _ _ (Or.inr (by decide)) hf_319
                  replace hf_321 := tr _ _ _ (Or.inl (tt_ne hk3 hk0 (by decide))) hf_321
                  replace hf_327 := tr _ _ _ (Or.inr (by decide)) hf_327
                  replace hf_333 := tr _ _ _ (Or.inr (by decide)) hf_333
                  replace hf_335 := tr _ _ _ (Or.inl (tt_ne hk1 hk0 (by decide))) hf_335
                  replace hf_342 := tr _ _ _ (Or.inl (tt_ne hk3 hk0 (by decide))) hf_342
                  replace hf_354 := tr _ _ _ (Or.inl (tt_ne hk2 hk0 (by decide))) hf_354
                  have hf_373 := hn
                  replace hfr := hfr.put hk0 tr (by decide)
                  replace hfa := hfa.all tl
                  exact jj_vret C ⟨[], pl_371, rfl, rfl, hok_372, hfr, hfa, rfl⟩ dX1_quote_171 (jj_le rfl) (jj_le rfl)
              · refine jj_aload_n C dX1_quote_157 rfl ?_
                refine tt_getF C hok_345 jk_2 3 (by decide) jw_8322fbab96 (t := (0, (-2147483648), 2147483647)) hk1 (by decide) rfl rfl hf_2 dX1_quote_158 ?_
                refine tt_callS (rest := [.ref h0]) C (tc_X2_dueOn_2 hl D cA ak p4 y_343 x_3 hok_345) [] [] rfl rfl (by decide) (by decide) (by decide) jw_2f594c34e3 jw_06dd566a56 jw_79af3f4029 jw_eebd9e2034 jn_X2_dueOn rfl (jj_le rfl) (jj_le rfl) (jj_le rfl) (jj_le rfl) (jj_le rfl) dX1_quote_161 rfl (fun _ _ _ hX => hX.elim) (fun rx pl_374 r O_377 => ?_)
                obtain ⟨rfl, hok_375, hr_376, hfa9, hR_379⟩ := O_377
                replace hf_2 := hr_376.at hk1 (by decide) (by decide) hf_2
                replace hf_267 := hr_376.at hk2 (by decide) (by decide) hf_267
                replace hf_287 := hr_376.at hk3 (by decide) (by decide) hf_287
                replace hf_307 := hr_376.at hk2 (by decide) (by decide) hf_307
                replace hf_314 := hr_376.at hk0 (by decide) (by decide) hf_314
                replace hf_319 := hr_376.at hk0 (by decide) (by decide) hf_319
                replace hf_321 := hr_376.at hk3 (by decide) (by decide) hf_321
                replace hf_327 := hr_376.at hk0 (by decide) (by decide) hf_327
                replace hf_333 := hr_376.at hk0 (by decide) (by decide) hf_333
                replace hf_335 := hr_376.at hk1 (by decide) (by decide) hf_335
                replace hf_342 := hr_376.at hk3 (by decide) (by decide) hf_342
                replace hf_354 := hr_376.at hk2 (by decide) (by decide) hf_354
                replace hfr := hfr.trans (hr_376.sub (by decide))
                replace hfa := hfa.trans (hfa9.sub (by decide))
                rcases hR_379 with rfl | ⟨y_382, rfl⟩
                · refine jj_goto (tgt := 168) C dX1_quote_164 (by decide) ?_
                  refine rl_put C hok_375 jk_3 5 (by decide) jw_e41f55c9ce (t := (1, (-9223372036854775808), 9223372036854775807)) hk0 (by decide) rfl rfl rfl (tt_ja (0 : Int64)) rfl rfl dX1_quote_168 (fun pl_383 hok_384 tr hn tl => ?_)
                  replace hf_2 := tr _ _ _ (Or.inl (tt_ne hk1 hk0 (by decide))) hf_2
                  replace hf_267 := tr _ _ _ (Or.inl (tt_ne hk2 hk0 (by decide))) hf_267
                  replace hf_287 := tr _ _ _ (Or.inl (tt_ne hk3 hk0 (by decide))) hf_287
                  replace hf_307 := tr _ _ _ (Or.inl (tt_ne hk2 hk0 (by decide))) hf_307
                  replace hf_314 := tr _ _ _ (Or.inr (by decide)) hf_314
                  replace hf_319 := tr _ _ _ (Or.inr (by decide)) hf_319
                  replace hf_321 := tr _ _ _ (Or.inl (tt_ne hk3 hk0 (by decide))) hf_321
                  replace hf_327 := tr _ _ _ (Or.inr (by decide)) hf_327
                  replace hf_333 := tr _ _ _ (Or.inr (by decide)) hf_333
                  replace hf_335 := tr _ _ _ (Or.inl (tt_ne hk1 hk0 (by decide))) hf_335
                  replace hf_342 := tr _ _ _ (Or.inl (tt_ne hk3 hk0 (by decide))) hf_342
                  replace hf_354 := tr _ _ _ (Or.inl (tt_ne hk2 hk0 (by decide))) hf_354
                  have hf_385 := hn
                  replace hfr := hfr.put hk0 tr (by decide)
                  replace hfa := hfa.all tl
                  exact jj_vret C ⟨[], pl_383, rfl, rfl, hok_384, hfr, hfa, rfl⟩ dX1_quote_171 (jj_le rfl) (jj_le rfl)
                · refine jj_goto (tgt := 168) C dX1_quote_164 (by decide) ?_
                  refine rl_put C hok_375 jk_3 5 (by decide) jw_e41f55c9ce (t := (1, (-9223372036854775808), 9223372036854775807)) hk0 (by decide) rfl rfl rfl (tt_ja y_382) rfl rfl dX1_quote_168 (fun pl_386 hok_387 tr hn tl => ?_)
                  replace hf_2 := tr _ _ _ (Or.inl (tt_ne hk1 hk0 (by decide))) hf_2
                  replace hf_267 := tr _ _ _ (Or.inl (tt_ne hk2 hk0 (by decide))) hf_267
                  replace hf_287 := tr _ _ _ (Or.inl (tt_ne hk3 hk0 (by decide))) hf_287
                  replace hf_307 := tr _ _ _ (Or.inl (tt_ne hk2 hk0 (by decide))) hf_307
                  replace hf_314 := tr _ _ _ (Or.inr (by decide)) hf_314
                  replace hf_319 := tr _ _ _ (Or.inr (by decide)) hf_319
                  replace hf_321 := tr _ _ _ (Or.inl (tt_ne hk3 hk0 (by decide))) hf_321
                  replace hf_327 := tr _ _ _ (Or.inr (by decide)) hf_327
                  replace hf_333 := tr _ _ _ (Or.inr (by decide)) hf_333
                  replace hf_335 := tr _ _ _ (Or.inl (tt_ne hk1 hk0 (by decide))) hf_335
                  replace hf_342 := tr _ _ _ (Or.inl (tt_ne hk3 hk0 (by decide))) hf_342
                  replace hf_354 := tr _ _ _ (Or.inl (tt_ne hk2 hk0 (by decide))) hf_354
                  have hf_388 := hn
                  replace hfr := hfr.put hk0 tr (by decide)
                  replace hfa := hfa.all tl
                  exact jj_vret C ⟨[], pl_386, rfl, rfl, hok_387, hfr, hfa, rfl⟩ dX1_quote_171 (jj_le rfl) (jj_le rfl)
            · refine jj_aload_n C dX1_quote_150 rfl ?_
              refine tt_get C hok_345 jk_9 4 (by decide) jw_0a98b03de8 (t := (1, (-9223372036854775808), 9223372036854775807)) hk2 (by decide) rfl rfl dX1_quote_151 (fun v_389 hv_389 hf_390 => ?_)
              obtain ⟨y_391, rfl, -, -⟩ := tt_vj hv_389
              refine tt_call0S (rest := [.long y_343, .long p4, .ref h0]) C (ct_J9_min_f86c9_1 hl D cA ak y_352 y_391) jw_fa02caeb63 jw_a0cddbe894 jw_a731c8553d jw_e0e7ffaaeb jn_J9_min_f86c9 rfl (jj_le rfl) (jj_le rfl) (jj_le rfl) (jj_le rfl) (jj_le rfl) dX1_quote_154 rfl (fun w1 r O_392 => ?_)
              rcases O_392 with ⟨c_393, -, rfl⟩ | ⟨c_394, -, rfl⟩
              · refine jj_aload_n C dX1_quote_157 rfl ?_
                refine tt_getF C hok_345 jk_2 3 (by decide) jw_8322fbab96 (t := (0, (-2147483648), 2147483647)) hk1 (by decide) rfl rfl hf_2 dX1_quote_158 ?_
                refine tt_callS (rest := [.ref h0]) C (tc_X2_dueOn_1 hl D cA ak p4 y_343 y_391 x_3 hok_345) [] [] rfl rfl (by decide) (by decide) (by decide) jw_2f594c34e3 jw_06dd566a56 jw_79af3f4029 jw_eebd9e2034 jn_X2_dueOn rfl (jj_le rfl) (jj_le rfl) (jj_le rfl) (jj_le rfl) (jj_le rfl) dX1_quote_161 rfl (fun _ _ _ hX => hX.elim) (fun rx pl_395 r O_398 => ?_)
                obtain ⟨rfl, hok_396, hr_397, hfa9, hR_400⟩ := O_398
                replace hf_2 := hr_397.at hk1 (by decide) (by decide) hf_2
                replace hf_267 := hr_397.at hk2 (by decide) (by decide) hf_267
                replace hf_287 := hr_397.at hk3 (by decide) (by decide) hf_287
                replace hf_307 := hr_397.at hk2 (by decide) (by decide) hf_307
                replace hf_314 := hr_397.at hk0 (by decide) (by decide) hf_314
                replace hf_319 := hr_397.at hk0 (by decide) (by decide) hf_319
                replace hf_321 := hr_397.at hk3 (by decide) (by decide) hf_321
                replace hf_327 := hr_397.at hk0 (by decide) (by decide) hf_327
                replace hf_333 := hr_397.at hk0 (by decide) (by decide) hf_333
                replace hf_335 := hr_397.at hk1 (by decide) (by decide) hf_335
                replace hf_342 := hr_397.at hk3 (by decide) (by decide) hf_342
                replace hf_390 := hr_397.at hk2 (by decide) (by decide) hf_390
                replace hfr := hfr.trans (hr_397.sub (by decide))
                replace hfa := hfa.trans (hfa9.sub (by decide))
                rcases hR_400 with rfl | ⟨y_403, rfl⟩
                · refine jj_goto (tgt := 168) C dX1_quote_164 (by decide) ?_
                  refine rl_put C hok_396 jk_3 5 (by decide) jw_e41f55c9ce (t := (1, (-9223372036854775808), 9223372036854775807)) hk0 (by decide) rfl rfl rfl (tt_ja (0 : Int64)) rfl rfl dX1_quote_168 (fun pl_404 hok_405 tr hn tl => ?_)
                  replace hf_2 := tr _ _ _ (Or.inl (tt_ne hk1 hk0 (by decide))) hf_2
                  replace hf_267 := tr _ _ _ (Or.inl (tt_ne hk2 hk0 (by decide))) hf_267
                  replace hf_287 := tr _ _ _ (Or.inl (tt_ne hk3 hk0 (by decide))) hf_287
                  replace hf_307 := tr _ _ _ (Or.inl (tt_ne hk2 hk0 (by decide))) hf_307
                  replace hf_314 := tr _ _ _ (Or.inr (by decide)) hf_314
                  replace hf_319 := tr _ _ _ (Or.inr (by decide)) hf_319
                  replace hf_321 := tr _ _ _ (Or.inl (tt_ne hk3 hk0 (by decide))) hf_321
                  replace hf_327 := tr _ _ _ (Or.inr (by decide)) hf_327
                  replace hf_333 := tr _ _ _ (Or.inr (by decide)) hf_333
                  replace hf_335 := tr _ _ _ (Or.inl (tt_ne hk1 hk0 (by decide))) hf_335
                  replace hf_342 := tr _ _ _ (Or.inl (tt_ne hk3 hk0 (by decide))) hf_342
                  replace hf_390 := tr _ _ _ (Or.inl (tt_ne hk2 hk0 (by decide))) hf_390
                  have hf_406 := hn
                  replace hfr := hfr.put hk0 tr (by decide)
                  replace hfa := hfa.all tl
                  exact jj_vret C ⟨[], pl_404, rfl, rfl, hok_405, hfr, hfa, rfl⟩ dX1_quote_171 (jj_le rfl) (jj_le rfl)
                · refine jj_goto (tgt := 168) C dX1_quote_164 (by decide) ?_
                  refine rl_put C hok_396 jk_3 5 (by decide) jw_e41f55c9ce (t := (1, (-9223372036854775808), 9223372036854775807)) hk0 (by decide) rfl rfl rfl (tt_ja y_403) rfl rfl dX1_quote_168 (fun pl_407 hok_408 tr hn tl => ?_)
                  replace hf_2 := tr _ _ _ (Or.inl (tt_ne hk1 hk0 (by decide))) hf_2
                  replace hf_267 := tr _ _ _ (Or.inl (tt_ne hk2 hk0 (by decide))) hf_267
                  replace hf_287 := tr _ _ _ (Or.inl (tt_ne hk3 hk0 (by decide))) hf_287
                  replace hf_307 := tr _ _ _ (Or.inl (tt_ne hk2 hk0 (by decide))) hf_307
                  replace hf_314 := tr _ _ _ (Or.inr (by decide)) hf_314
                  replace hf_319 := tr _ _ _ (Or.inr (by decide)) hf_319
                  replace hf_321 := tr _ _ _ (Or.inl (tt_ne hk3 hk0 (by decide))) hf_321
                  replace hf_327 := tr _ _ _ (Or.inr (by decide)) hf_327
                  replace hf_333 := tr _ _ _ (Or.inr (by decide)) hf_333
                  replace hf_335 := tr _ _ _ (Or.inl (tt_ne hk1 hk0 (by decide))) hf_335
                  replace hf_342 := tr _ _ _ (Or.inl (tt_ne hk3 hk0 (by decide))) hf_342
                  replace hf_390 := tr _ _ _ (Or.inl (tt_ne hk2 hk0 (by decide))) hf_390
                  have hf_409 := hn
                  replace hfr := hfr.put hk0 tr (by decide)
                  replace hfa := hfa.all tl
                  exact jj_vret C ⟨[], pl_407, rfl, rfl, hok_408, hfr, hfa, rfl⟩ dX1_quote_171 (jj_le rfl) (jj_le rfl)
              · refine jj_aload_n C dX1_quote_157 rfl ?_
                refine tt_getF C hok_345 jk_2 3 (by decide) jw_8322fbab96 (t := (0, (-2147483648), 2147483647)) hk1 (by decide) rfl rfl hf_2 dX1_quote_158 ?_
                refine tt_callS (rest := [.ref h0]) C (tc_X2_dueOn_1 hl D cA ak p4 y_343 y_352 x_3 hok_345) [] [] rfl rfl (by decide) (by decide) (by decide) jw_2f594c34e3 jw_06dd566a56 jw_79af3f4029 jw_eebd9e2034 jn_X2_dueOn rfl (jj_le rfl) (jj_le rfl) (jj_le rfl) (jj_le rfl) (jj_le rfl) dX1_quote_161 rfl (fun _ _ _ hX => hX.elim) (fun rx pl_410 r O_413 => ?_)
                obtain ⟨rfl, hok_411, hr_412, hfa9, hR_415⟩ := O_413
                replace hf_2 := hr_412.at hk1 (by decide) (by decide) hf_2
                replace hf_267 := hr_412.at hk2 (by decide) (by decide) hf_267
                replace hf_287 := hr_412.at hk3 (by decide) (by decide) hf_287
                replace hf_307 := hr_412.at hk2 (by decide) (by decide) hf_307
                replace hf_314 := hr_412.at hk0 (by decide) (by decide) hf_314
                replace hf_319 := hr_412.at hk0 (by decide) (by decide) hf_319
                replace hf_321 := hr_412.at hk3 (by decide) (by decide) hf_321
                replace hf_327 := hr_412.at hk0 (by decide) (by decide) hf_327
                replace hf_333 := hr_412.at hk0 (by decide) (by decide) hf_333
                replace hf_335 := hr_412.at hk1 (by decide) (by decide) hf_335
                replace hf_342 := hr_412.at hk3 (by decide) (by decide) hf_342
                replace hf_390 := hr_412.at hk2 (by decide) (by decide) hf_390
                replace hfr := hfr.trans (hr_412.sub (by decide))
                replace hfa := hfa.trans (hfa9.sub (by decide))
                rcases hR_415 with rfl | ⟨y_418, rfl⟩
                · refine jj_goto (tgt := 168) C dX1_quote_164 (by decide) ?_
                  refine rl_put C hok_411 jk_3 5 (by decide) jw_e41f55c9ce (t := (1, (-9223372036854775808), 9223372036854775807)) hk0 (by decide) rfl rfl rfl (tt_ja (0 : Int64)) rfl rfl dX1_quote_168 (fun pl_419 hok_420 tr hn tl => ?_)
                  replace hf_2 := tr _ _ _ (Or.inl (tt_ne hk1 hk0 (by decide))) hf_2
                  replace hf_267 := tr _ _ _ (Or.inl (tt_ne hk2 hk0 (by decide))) hf_267
                  replace hf_287 := tr _ _ _ (Or.inl (tt_ne hk3 hk0 (by decide))) hf_287
                  replace hf_307 := tr _ _ _ (Or.inl (tt_ne hk2 hk0 (by decide))) hf_307
                  replace hf_314 := tr _ _ _ (Or.inr (by decide)) hf_314
                  replace hf_319 := tr _ _ _ (Or.inr (by decide)) hf_319
                  replace hf_321 := tr _ _ _ (Or.inl (tt_ne hk3 hk0 (by decide))) hf_321
                  replace hf_327 := tr _ _ _ (Or.inr (by decide)) hf_327
                  replace hf_333 := tr _ _ _ (Or.inr (by decide)) hf_333
                  replace hf_335 := tr _ _ _ (Or.inl (tt_ne hk1 hk0 (by decide))) hf_335
                  replace hf_342 := tr _ _ _ (Or.inl (tt_ne hk3 hk0 (by decide))) hf_342
                  replace hf_390 := tr _ _ _ (Or.inl (tt_ne hk2 hk0 (by decide))) hf_390
                  have hf_421 := hn
                  replace hfr := hfr.put hk0 tr (by decide)
                  replace hfa := hfa.all tl
                  exact jj_vret C ⟨[], pl_419, rfl, rfl, hok_420, hfr, hfa, rfl⟩ dX1_quote_171 (jj_le rfl) (jj_le rfl)
                · refine jj_goto (tgt := 168) C dX1_quote_164 (by decide) ?_
                  refine rl_put C hok_411 jk_3 5 (by decide) jw_e41f55c9ce (t := (1, (-9223372036854775808), 9223372036854775807)) hk0 (by decide) rfl rfl rfl (tt_ja y_418) rfl rfl dX1_quote_168 (fun pl_422 hok_423 tr hn tl => ?_)
                  replace hf_2 := tr _ _ _ (Or.inl (tt_ne hk1 hk0 (by decide))) hf_2
                  replace hf_267 := tr _ _ _ (Or.inl (tt_ne hk2 hk0 (by decide))) hf_267
                  replace hf_287 := tr _ _ _ (Or.inl (tt_ne hk3 hk0 (by decide))) hf_287
                  replace hf_307 := tr _ _ _ (Or.inl (tt_ne hk2 hk0 (by decide))) hf_307
                  replace hf_314 := tr _ _ _ (Or.inr (by decide)) hf_314
                  replace hf_319 := tr _ _ _ (Or.inr (by decide)) hf_319
                  replace hf_321 := tr _ _ _ (Or.inl (tt_ne hk3 hk0 (by decide))) hf_321
                  replace hf_327 := tr _ _ _ (Or.inr (by decide)) hf_327
                  replace hf_333 := tr _ _ _ (Or.inr (by decide)) hf_333
                  replace hf_335 := tr _ _ _ (Or.inl (tt_ne hk1 hk0 (by decide))) hf_335
                  replace hf_342 := tr _ _ _ (Or.inl (tt_ne hk3 hk0 (by decide))) hf_342
                  replace hf_390 := tr _ _ _ (Or.inl (tt_ne hk2 hk0 (by decide))) hf_390
                  have hf_424 := hn
                  replace hfr := hfr.put hk0 tr (by decide)
                  replace hfa := hfa.all tl
                  exact jj_vret C ⟨[], pl_422, rfl, rfl, hok_423, hfr, hfa, rfl⟩ dX1_quote_171 (jj_le rfl) (jj_le rfl)
        · refine rl_put C hok_326 jk_3 4 (by decide) jw_21f29d6c44 (t := (1, (-9223372036854775808), 9223372036854775807)) hk0 (by decide) rfl rfl rfl (tt_ja y_316) rfl rfl dX1_quote_123 (fun pl_425 hok_426 tr hn tl => ?_)
          replace hf_2 := tr _ _ _ (Or.inl (tt_ne hk1 hk0 (by decide))) hf_2
          replace hf_267 := tr _ _ _ (Or.inl (tt_ne hk2 hk0 (by decide))) hf_267
          replace hf_287 := tr _ _ _ (Or.inl (tt_ne hk3 hk0 (by decide))) hf_287
          replace hf_307 := tr _ _ _ (Or.inl (tt_ne hk2 hk0 (by decide))) hf_307
          replace hf_314 := tr _ _ _ (Or.inr (by decide)) hf_314
          replace hf_319 := tr _ _ _ (Or.inr (by decide)) hf_319
          replace hf_321 := tr _ _ _ (Or.inl (tt_ne hk3 hk0 (by decide))) hf_321
          replace hf_327 := tr _ _ _ (Or.inr (by decide)) hf_327
          have hf_427 := hn
          replace hfr := hfr.put hk0 tr (by decide)
          replace hfa := hfa.all tl
          refine jj_aload_n C dX1_quote_126 rfl ?_
          refine jj_iload C dX1_quote_127 rfl ?_
          refine jj_if_eqF (tgt := 167) C dX1_quote_129 (by decide) (by decide) ?_
          refine jj_aload_n C dX1_quote_132 rfl ?_
          refine tt_get C hok_426 jk_2 1 (by decide) jw_23f70347f5 (t := (0, (-2147483648), 2147483647)) hk1 (by decide) rfl rfl dX1_quote_133 (fun v_428 hv_428 hf_429 => ?_)
          obtain ⟨x_430, rfl, lx_430, ux_430⟩ := tt_vi hv_428
          refine jj_iconst (v := 1) C dX1_quote_136 (by decide) ?_
          refine jj_icmp_ne (tgt := 167) C dX1_quote_137 (by decide) (fun c_431 => ?_) (fun c_431 => ?_)
          · have z_c_431 := jc_neq (a := (x_430).toInt) (b := (1)) c_431 rfl (by decide)
            refine jj_lconst (v := 0) C dX1_quote_167 (by decide) ?_
            refine rl_put C hok_426 jk_3 5 (by decide) jw_e41f55c9ce (t := (1, (-9223372036854775808), 9223372036854775807)) hk0 (by decide) rfl rfl rfl (tt_ja (0 : Int64)) rfl rfl dX1_quote_168 (fun pl_432 hok_433 tr hn tl => ?_)
            replace hf_2 := tr _ _ _ (Or.inl (tt_ne hk1 hk0 (by decide))) hf_2
            replace hf_267 := tr _ _ _ (Or.inl (tt_ne hk2 hk0 (by decide))) hf_267
            replace hf_287 := tr _ _ _ (Or.inl (tt_ne hk3 hk0 (by decide))) hf_287
            replace hf_307 := tr _ _ _ (Or.inl (tt_ne hk2 hk0 (by decide))) hf_307
            replace hf_314 := tr _ _ _ (Or.inr (by decide)) hf_314
            replace hf_319 := tr _ _ _ (Or.inr (by decide)) hf_319
            replace hf_321 := tr _ _ _ (Or.inl (tt_ne hk3 hk0 (by decide))) hf_321
            replace hf_327 := tr _ _ _ (Or.inr (by decide)) hf_327
            replace hf_427 := tr _ _ _ (Or.inr (by decide)) hf_427
            replace hf_429 := tr _ _ _ (Or.inl (tt_ne hk1 hk0 (by decide))) hf_429
            have hf_434 := hn
            replace hfr := hfr.put hk0 tr (by decide)
            replace hfa := hfa.all tl
            exact jj_vret C ⟨[], pl_432, rfl, rfl, hok_433, hfr, hfa, rfl⟩ dX1_quote_171 (jj_le rfl) (jj_le rfl)
          · have z_c_431 := jc_eq (a := (x_430).toInt) (b := (1)) c_431 rfl (by decide)
            refine jj_lload C dX1_quote_140 rfl ?_
            refine jj_aload_n C dX1_quote_142 rfl ?_
            refine tt_get C hok_426 jk_5 4 (by decide) jw_3ffc3c6a36 (t := (1, (-9223372036854775808), 9223372036854775807)) hk3 (by decide) rfl rfl dX1_quote_143 (fun v_435 hv_435 hf_436 => ?_)
            obtain ⟨y_437, rfl, -, -⟩ := tt_vj hv_435
            refine jj_aload_n C dX1_quote_146 rfl ?_
            obtain ⟨qc, gs, hqc⟩ := tt_recv (cx := []) hok_426 hk2 (by decide) rfl
            refine tt_callV (rest := [.long y_437, .long p4, .ref h0]) C (tc_X8_grossPrice_1 hl D cA ak h2 hk2 hok_426) [] [] rfl rfl (by decide) (by decide) (by decide) qc hqc rfl rfl jw_7a88110815 jw_8d67ffd46e jw_4ae9f31643 jw_364e75910d jw_11bb953c63 jn_X8_grossPrice rfl (jj_le rfl) (jj_le rfl) (jj_le rfl) (jj_le rfl) (jj_le rfl) dX1_quote_147 rfl (fun _ _ _ hX => hX.elim) (fun rx pl_438 r O_441 => ?_)
            obtain ⟨rfl, hok_439, hr_440, hfa9, hR_443⟩ := O_441
            replace hf_2 := hr_440.at hk1 (by decide) (by decide) hf_2
            replace hf_267 := hr_440.at hk2 (by decide) (by decide) hf_267
            replace hf_287 := hr_440.at hk3 (by decide) (by decide) hf_287
            replace hf_307 := hr_440.at hk2 (by decide) (by decide) hf_307
            replace hf_314 := hr_440.at hk0 (by decide) (by decide) hf_314
            replace hf_319 := hr_440.at hk0 (by decide) (by decide) hf_319
            replace hf_321 := hr_440.at hk3 (by decide) (by decide) hf_321
            replace hf_327 := hr_440.at hk0 (by decide) (by decide) hf_327
            replace hf_427 := hr_440.at hk0 (by decide) (by decide) hf_427
            replace hf_429 := hr_440.at hk1 (by decide) (by decide) hf_429
            replace hf_436 := hr_440.at hk3 (by decide) (by decide) hf_436
            replace hfr := hfr.trans (hr_440.sub (by decide))
            replace hfa := hfa.trans (hfa9.sub (by decide))
            rcases hR_443 with rfl | ⟨y_446, rfl⟩
            · refine jj_aload_n C dX1_quote_150 rfl ?_
              refine tt_get C hok_439 jk_9 4 (by decide) jw_0a98b03de8 (t := (1, (-9223372036854775808), 9223372036854775807)) hk2 (by decide) rfl rfl dX1_quote_151 (fun v_447 hv_447 hf_448 => ?_)
              obtain ⟨y_449, rfl, -, -⟩ := tt_vj hv_447
              refine tt_call0S (rest := [.long y_437, .long p4, .ref h0]) C (ct_J9_min_f86c9_3 hl D cA ak y_449) jw_fa02caeb63 jw_a0cddbe894 jw_a731c8553d jw_e0e7ffaaeb jn_J9_min_f86c9 rfl (jj_le rfl) (jj_le rfl) (jj_le rfl) (jj_le rfl) (jj_le rfl) dX1_quote_154 rfl (fun w1 r O_450 => ?_)
              rcases O_450 with ⟨c_451, -, rfl⟩ | ⟨c_452, -, rfl⟩
              · refine jj_aload_n C dX1_quote_157 rfl ?_
                refine tt_getF C hok_439 jk_2 3 (by decide) jw_8322fbab96 (t := (0, (-2147483648), 2147483647)) hk1 (by decide) rfl rfl hf_2 dX1_quote_158 ?_
                refine tt_callS (rest := [.ref h0]) C (tc_X2_dueOn_1 hl D cA ak p4 y_437 y_449 x_3 hok_439) [] [] rfl rfl (by decide) (by decide) (by decide) jw_2f594c34e3 jw_06dd566a56 jw_79af3f4029 jw_eebd9e2034 jn_X2_dueOn rfl (jj_le rfl) (jj_le rfl) (jj_le rfl) (jj_le rfl) (jj_le rfl) dX1_quote_161 rfl (fun _ _ _ hX => hX.elim) (fun rx pl_453 r O_456 => ?_)
                obtain ⟨rfl, hok_454, hr_455, hfa9, hR_458⟩ := O_456
                replace hf_2 := hr_455.at hk1 (by decide) (by decide) hf_2
                replace hf_267 := hr_455.at hk2 (by decide) (by decide) hf_267
                replace hf_287 := hr_455.at hk3 (by decide) (by decide) hf_287
                replace hf_307 := hr_455.at hk2 (by decide) (by decide) hf_307
                replace hf_314 := hr_455.at hk0 (by decide) (by decide) hf_314
                replace hf_319 := hr_455.at hk0 (by decide) (by decide) hf_319
                replace hf_321 := hr_455.at hk3 (by decide) (by decide) hf_321
                replace hf_327 := hr_455.at hk0 (by decide) (by decide) hf_327
                replace hf_427 := hr_455.at hk0 (by decide) (by decide) hf_427
                replace hf_429 := hr_455.at hk1 (by decide) (by decide) hf_429
                replace hf_436 := hr_455.at hk3 (by decide) (by decide) hf_436
                replace hf_448 := hr_455.at hk2 (by decide) (by decide) hf_448
                replace hfr := hfr.trans (hr_455.sub (by decide))
                replace hfa := hfa.trans (hfa9.sub (by decide))
                rcases hR_458 with rfl | ⟨y_461, rfl⟩
                · refine jj_goto (tgt := 168) C dX1_quote_164 (by decide) ?_
                  refine rl_put C hok_454 jk_3 5 (by decide) jw_e41f55c9ce (t := (1, (-9223372036854775808), 9223372036854775807)) hk0 (by decide) rfl rfl rfl (tt_ja (0 : Int64)) rfl rfl dX1_quote_168 (fun pl_462 hok_463 tr hn tl => ?_)
                  replace hf_2 := tr _ _ _ (Or.inl (tt_ne hk1 hk0 (by decide))) hf_2
                  replace hf_267 := tr _ _ _ (Or.inl (tt_ne hk2 hk0 (by decide))) hf_267
                  replace hf_287 := tr _ _ _ (Or.inl (tt_ne hk3 hk0 (by decide))) hf_287
                  replace hf_307 := tr _ _ _ (Or.inl (tt_ne hk2 hk0 (by decide))) hf_307
                  replace hf_314 := tr _ _ _ (Or.inr (by decide)) hf_314
                  replace hf_319 := tr _ _ _ (Or.inr (by decide)) hf_319
                  replace hf_321 := tr _ _ _ (Or.inl (tt_ne hk3 hk0 (by decide))) hf_321
                  replace hf_327 := tr _ _ _ (Or.inr (by decide)) hf_327
                  replace hf_427 := tr _ _ _ (Or.inr (by decide)) hf_427
                  replace hf_429 := tr _ _ _ (Or.inl (tt_ne hk1 hk0 (by decide))) hf_429
                  replace hf_436 := tr _ _ _ (Or.inl (tt_ne hk3 hk0 (by decide))) hf_436
                  replace hf_448 := tr _ _ _ (Or.inl (tt_ne hk2 hk0 (by decide))) hf_448
                  have hf_464 := hn
                  replace hfr := hfr.put hk0 tr (by decide)
                  replace hfa := hfa.all tl
                  exact jj_vret C ⟨[], pl_462, rfl, rfl, hok_463, hfr, hfa, rfl⟩ dX1_quote_171 (jj_le rfl) (jj_le rfl)
                · refine jj_goto (tgt := 168) C dX1_quote_164 (by decide) ?_
                  refine rl_put C hok_454 jk_3 5 (by decide) jw_e41f55c9ce (t := (1, (-9223372036854775808), 9223372036854775807)) hk0 (by decide) rfl rfl rfl (tt_ja y_461) rfl rfl dX1_quote_168 (fun pl_465 hok_466 tr hn tl => ?_)
                  replace hf_2 := tr _ _ _ (Or.inl (tt_ne hk1 hk0 (by decide))) hf_2
                  replace hf_267 := tr _ _ _ (Or.inl (tt_ne hk2 hk0 (by decide))) hf_267
                  replace hf_287 := tr _ _ _ (Or.inl (tt_ne hk3 hk0 (by decide))) hf_287
                  replace hf_307 := tr _ _ _ (Or.inl (tt_ne hk2 hk0 (by decide))) hf_307
                  replace hf_314 := tr _ _ _ (Or.inr (by decide)) hf_314
                  replace hf_319 := tr _ _ _ (Or.inr (by decide)) hf_319
                  replace hf_321 := tr _ _ _ (Or.inl (tt_ne hk3 hk0 (by decide))) hf_321
                  replace hf_327 := tr _ _ _ (Or.inr (by decide)) hf_327
                  replace hf_427 := tr _ _ _ (Or.inr (by decide)) hf_427
                  replace hf_429 := tr _ _ _ (Or.inl (tt_ne hk1 hk0 (by decide))) hf_429
                  replace hf_436 := tr _ _ _ (Or.inl (tt_ne hk3 hk0 (by decide))) hf_436
                  replace hf_448 := tr _ _ _ (Or.inl (tt_ne hk2 hk0 (by decide))) hf_448
                  have hf_467 := hn
                  replace hfr := hfr.put hk0 tr (by decide)
                  replace hfa := hfa.all tl
                  exact jj_vret C ⟨[], pl_465, rfl, rfl, hok_466, hfr, hfa, rfl⟩ dX1_quote_171 (jj_le rfl) (jj_le rfl)
              · refine jj_aload_n C dX1_quote_157 rfl ?_
                refine tt_getF C hok_439 jk_2 3 (by decide) jw_8322fbab96 (t := (0, (-2147483648), 2147483647)) hk1 (by decide) rfl rfl hf_2 dX1_quote_158 ?_
                refine tt_callS (rest := [.ref h0]) C (tc_X2_dueOn_2 hl D cA ak p4 y_437 x_3 hok_439) [] [] rfl rfl (by decide) (by decide) (by decide) jw_2f594c34e3 jw_06dd566a56 jw_79af3f4029 jw_eebd9e2034 jn_X2_dueOn rfl (jj_le rfl) (jj_le rfl) (jj_le rfl) (jj_le rfl) (jj_le rfl) dX1_quote_161 rfl (fun _ _ _ hX => hX.elim) (fun rx pl_468 r O_471 => ?_)
                obtain ⟨rfl, hok_469, hr_470, hfa9, hR_473⟩ := O_471
                replace hf_2 := hr_470.at hk1 (by decide) (by decide) hf_2
                replace hf_267 := hr_470.at hk2 (by decide) (by decide) hf_267
                replace hf_287 := hr_470.at hk3 (by decide) (by decide) hf_287
                replace hf_307 := hr_470.at hk2 (by decide) (by decide) hf_307
                replace hf_314 := hr_470.at hk0 (by decide) (by decide) hf_314
                replace hf_319 := hr_470.at hk0 (by decide) (by decide) hf_319
                replace hf_321 := hr_470.at hk3 (by decide) (by decide) hf_321
                replace hf_327 := hr_470.at hk0 (by decide) (by decide) hf_327
                replace hf_427 := hr_470.at hk0 (by decide) (by decide) hf_427
                replace hf_429 := hr_470.at hk1 (by decide) (by decide) hf_429
                replace hf_436 := hr_470.at hk3 (by decide) (by decide) hf_436
                replace hf_448 := hr_470.at hk2 (by decide) (by decide) hf_448
                replace hfr := hfr.trans (hr_470.sub (by decide))
                replace hfa := hfa.trans (hfa9.sub (by decide))
                rcases hR_473 with rfl | ⟨y_476, rfl⟩
                · refine jj_goto (tgt := 168) C dX1_quote_164 (by decide) ?_
                  refine rl_put C hok_469 jk_3 5 (by decide) jw_e41f55c9ce (t := (1, (-9223372036854775808), 9223372036854775807)) hk0 (by decide) rfl rfl rfl (tt_ja (0 : Int64)) rfl rfl dX1_quote_168 (fun pl_477 hok_478 tr hn tl => ?_)
                  replace hf_2 := tr _ _ _ (Or.inl (tt_ne hk1 hk0 (by decide))) hf_2
                  replace hf_267 := tr _ _ _ (Or.inl (tt_ne hk2 hk0 (by decide))) hf_267
                  replace hf_287 := tr _ _ _ (Or.inl (tt_ne hk3 hk0 (by decide))) hf_287
                  replace hf_307 := tr _ _ _ (Or.inl (tt_ne hk2 hk0 (by decide))) hf_307
                  replace hf_314 := tr _ _ _ (Or.inr (by decide)) hf_314
                  replace hf_319 := tr _ _ _ (Or.inr (by decide)) hf_319
                  replace hf_321 := tr _ _ _ (Or.inl (tt_ne hk3 hk0 (by decide))) hf_321
                  replace hf_327 := tr _ _ _ (Or.inr (by decide)) hf_327
                  replace hf_427 := tr _ _ _ (Or.inr (by decide)) hf_427
                  replace hf_429 := tr _ _ _ (Or.inl (tt_ne hk1 hk0 (by decide))) hf_429
                  replace hf_436 := tr _ _ _ (Or.inl (tt_ne hk3 hk0 (by decide))) hf_436
                  replace hf_448 := tr _ _ _ (Or.inl (tt_ne hk2 hk0 (by decide))) hf_448
                  have hf_479 := hn
                  replace hfr := hfr.put hk0 tr (by decide)
                  replace hfa := hfa.all tl
                  exact jj_vret C ⟨[], pl_477, rfl, rfl, hok_478, hfr, hfa, rfl⟩ dX1_quote_171 (jj_le rfl) (jj_le rfl)
                · refine jj_goto (tgt := 168) C dX1_quote_164 (by decide) ?_
                  refine rl_put C hok_469 jk_3 5 (by decide) jw_e41f55c9ce (t := (1, (-9223372036854775808), 9223372036854775807)) hk0 (by decide) rfl rfl rfl (tt_ja y_476) rfl rfl dX1_quote_168 (fun pl_480 hok_481 tr hn tl => ?_)
                  replace hf_2 := tr _ _ _ (Or.inl (tt_ne hk1 hk0 (by decide))) hf_2
                  replace hf_267 := tr _ _ _ (Or.inl (tt_ne hk2 hk0 (by decide))) hf_267
                  replace hf_287 := tr _ _ _ (Or.inl (tt_ne hk3 hk0 (by decide))) hf_287
                  replace hf_307 := tr _ _ _ (Or.inl (tt_ne hk2 hk0 (by decide))) hf_307
                  replace hf_314 := tr _ _ _ (Or.inr (by decide)) hf_314
                  replace hf_319 := tr _ _ _ (Or.inr (by decide)) hf_319
                  replace hf_321 := tr _ _ _ (Or.inl (tt_ne hk3 hk0 (by decide))) hf_321
                  replace hf_327 := tr _ _ _ (Or.inr (by decide)) hf_327
                  replace hf_427 := tr _ _ _ (Or.inr (by decide)) hf_427
                  replace hf_429 := tr _ _ _ (Or.inl (tt_ne hk1 hk0 (by decide))) hf_429
                  replace hf_436 := tr _ _ _ (Or.inl (tt_ne hk3 hk0 (by decide))) hf_436
                  replace hf_448 := tr _ _ _ (Or.inl (tt_ne hk2 hk0 (by decide))) hf_448
                  have hf_482 := hn
                  replace hfr := hfr.put hk0 tr (by decide)
                  replace hfa := hfa.all tl
                  exact jj_vret C ⟨[], pl_480, rfl, rfl, hok_481, hfr, hfa, rfl⟩ dX1_quote_171 (jj_le rfl) (jj_le rfl)
            · refine jj_aload_n C dX1_quote_150 rfl ?_
              refine tt_get C hok_439 jk_9 4 (by decide) jw_0a98b03de8 (t := (1, (-9223372036854775808), 9223372036854775807)) hk2 (by decide) rfl rfl dX1_quote_151 (fun v_483 hv_483 hf_484 => ?_)
              obtain ⟨y_485, rfl, -, -⟩ := tt_vj hv_483
              refine tt_call0S (rest := [.long y_437, .long p4, .ref h0]) C (ct_J9_min_f86c9_1 hl D cA ak y_446 y_485) jw_fa02caeb63 jw_a0cddbe894 jw_a731c8553d jw_e0e7ffaaeb jn_J9_min_f86c9 rfl (jj_le rfl) (jj_le rfl) (jj_le rfl) (jj_le rfl) (jj_le rfl) dX1_quote_154 rfl (fun w1 r O_486 => ?_)
              rcases O_486 with ⟨c_487, -, rfl⟩ | ⟨c_488, -, rfl⟩
              · refine jj_aload_n C dX1_quote_157 rfl ?_
                refine tt_getF C hok_439 jk_2 3 (by decide) jw_8322fbab96 (t := (0, (-2147483648), 2147483647)) hk1 (by decide) rfl rfl hf_2 dX1_quote_158 ?_
                refine tt_callS (rest := [.ref h0]) C (tc_X2_dueOn_1 hl D cA ak p4 y_437 y_485 x_3 hok_439) [] [] rfl rfl (by decide) (by decide) (by decide) jw_2f594c34e3 jw_06dd566a56 jw_79af3f4029 jw_eebd9e2034 jn_X2_dueOn rfl (jj_le rfl) (jj_le rfl) (jj_le rfl) (jj_le rfl) (jj_le rfl) dX1_quote_161 rfl (fun _ _ _ hX => hX.elim) (fun rx pl_489 r O_492 => ?_)
                obtain ⟨rfl, hok_490, hr_491, hfa9, hR_494⟩ := O_492
                replace hf_2 := hr_491.at hk1 (by decide) (by decide) hf_2
                replace hf_267 := hr_491.at hk2 (by decide) (by decide) hf_267
                replace hf_287 := hr_491.at hk3 (by decide) (by decide) hf_287
                replace hf_307 := hr_491.at hk2 (by decide) (by decide) hf_307
                replace hf_314 := hr_491.at hk0 (by decide) (by decide) hf_314
                replace hf_319 := hr_491.at hk0 (by decide) (by decide) hf_319
                replace hf_321 := hr_491.at hk3 (by decide) (by decide) hf_321
                replace hf_327 := hr_491.at hk0 (by decide) (by decide) hf_327
                replace hf_427 := hr_491.at hk0 (by decide) (by decide) hf_427
                replace hf_429 := hr_491.at hk1 (by decide) (by decide) hf_429
                replace hf_436 := hr_491.at hk3 (by decide) (by decide) hf_436
                replace hf_484 := hr_491.at hk2 (by decide) (by decide) hf_484
                replace hfr := hfr.trans (hr_491.sub (by decide))
                replace hfa := hfa.trans (hfa9.sub (by decide))
                rcases hR_494 with rfl | ⟨y_497, rfl⟩
                · refine jj_goto (tgt := 168) C dX1_quote_164 (by decide) ?_
                  refine rl_put C hok_490 jk_3 5 (by decide) jw_e41f55c9ce (t := (1, (-9223372036854775808), 9223372036854775807)) hk0 (by decide) rfl rfl rfl (tt_ja (0 : Int64)) rfl rfl dX1_quote_168 (fun pl_498 hok_499 tr hn tl => ?_)
                  replace hf_2 := tr _ _ _ (Or.inl (tt_ne hk1 hk0 (by decide))) hf_2
                  replace hf_267 := tr _ _ _ (Or.inl (tt_ne hk2 hk0 (by decide))) hf_267
                  replace hf_287 := tr _ _ _ (Or.inl (tt_ne hk3 hk0 (by decide))) hf_287
                  replace hf_307 := tr _ _ _ (Or.inl (tt_ne hk2 hk0 (by decide))) hf_307
                  replace hf_314 := tr _ _ _ (Or.inr (by decide)) hf_314
                  replace hf_319 := tr _ _ _ (Or.inr (by decide)) hf_319
                  replace hf_321 := tr _ _ _ (Or.inl (tt_ne hk3 hk0 (by decide))) hf_321
                  replace hf_327 := tr _ _ _ (Or.inr (by decide)) hf_327
                  replace hf_427 := tr _ _ _ (Or.inr (by decide)) hf_427
                  replace hf_429 := tr _ _ _ (Or.inl (tt_ne hk1 hk0 (by decide))) hf_429
                  replace hf_436 := tr _ _ _ (Or.inl (tt_ne hk3 hk0 (by decide))) hf_436
                  replace hf_484 := tr _ _ _ (Or.inl (tt_ne hk2 hk0 (by decide))) hf_484
                  have hf_500 := hn
                  replace hfr := hfr.put hk0 tr (by decide)
                  replace hfa := hfa.all tl
                  exact jj_vret C ⟨[], pl_498, rfl, rfl, hok_499, hfr, hfa, rfl⟩ dX1_quote_171 (jj_le rfl) (jj_le rfl)
                · refine jj_goto (tgt := 168) C dX1_quote_164 (by decide) ?_
                  refine rl_put C hok_490 jk_3 5 (by decide) jw_e41f55c9ce (t := (1, (-9223372036854775808), 9223372036854775807)) hk0 (by decide) rfl rfl rfl (tt_ja y_497) rfl rfl dX1_quote_168 (fun pl_501 hok_502 tr hn tl => ?_)
                  replace hf_2 := tr _ _ _ (Or.inl (tt_ne hk1 hk0 (by decide))) hf_2
                  replace hf_267 := tr _ _ _ (Or.inl (tt_ne hk2 hk0 (by decide))) hf_267
                  replace hf_287 := tr _ _ _ (Or.inl (tt_ne hk3 hk0 (by decide))) hf_287
                  replace hf_307 := tr _ _ _ (Or.inl (tt_ne hk2 hk0 (by decide))) hf_307
                  replace hf_314 := tr _ _ _ (Or.inr (by decide)) hf_314
                  replace hf_319 := tr _ _ _ (Or.inr (by decide)) hf_319
                  replace hf_321 := tr _ _ _ (Or.inl (tt_ne hk3 hk0 (by decide))) hf_321
                  replace hf_327 := tr _ _ _ (Or.inr (by decide)) hf_327
                  replace hf_427 := tr _ _ _ (Or.inr (by decide)) hf_427
                  replace hf_429 := tr _ _ _ (Or.inl (tt_ne hk1 hk0 (by decide))) hf_429
                  replace hf_436 := tr _ _ _ (Or.inl (tt_ne hk3 hk0 (by decide))) hf_436
                  replace hf_484 := tr _ _ _ (Or.inl (tt_ne hk2 hk0 (by decide))) hf_484
                  have hf_503 := hn
                  replace hfr := hfr.put hk0 tr (by decide)
                  replace hfa := hfa.all tl
                  exact jj_vret C ⟨[], pl_501, rfl, rfl, hok_502, hfr, hfa, rfl⟩ dX1_quote_171 (jj_le rfl) (jj_le rfl)
              · refine jj_aload_n C dX1_quote_157 rfl ?_
                refine tt_getF C hok_439 jk_2 3 (by decide) jw_8322fbab96 (t := (0, (-2147483648), 2147483647)) hk1 (by decide) rfl rfl hf_2 dX1_quote_158 ?_
                refine tt_callS (rest := [.ref h0]) C (tc_X2_dueOn_1 hl D cA ak p4 y_437 y_446 x_3 hok_439) [] [] rfl rfl (by decide) (by decide) (by decide) jw_2f594c34e3 jw_06dd566a56 jw_79af3f4029 jw_eebd9e2034 jn_X2_dueOn rfl (jj_le rfl) (jj_le rfl) (jj_le rfl) (jj_le rfl) (jj_le rfl) dX1_quote_161 rfl (fun _ _ _ hX => hX.elim) (fun rx pl_504 r O_507 => ?_)
                obtain ⟨rfl, hok_505, hr_506, hfa9, hR_509⟩ := O_507
                replace hf_2 := hr_506.at hk1 (by decide) (by decide) hf_2
                replace hf_267 := hr_506.at hk2 (by decide) (by decide) hf_267
                replace hf_287 := hr_506.at hk3 (by decide) (by decide) hf_287
                replace hf_307 := hr_506.at hk2 (by decide) (by decide) hf_307
                replace hf_314 := hr_506.at hk0 (by decide) (by decide) hf_314
                replace hf_319 := hr_506.at hk0 (by decide) (by decide) hf_319
                replace hf_321 := hr_506.at hk3 (by decide) (by decide) hf_321
                replace hf_327 := hr_506.at hk0 (by decide) (by decide) hf_327
                replace hf_427 := hr_506.at hk0 (by decide) (by decide) hf_427
                replace hf_429 := hr_506.at hk1 (by decide) (by decide) hf_429
                replace hf_436 := hr_506.at hk3 (by decide) (by decide) hf_436
                replace hf_484 := hr_506.at hk2 (by decide) (by decide) hf_484
                replace hfr := hfr.trans (hr_506.sub (by decide))
                replace hfa := hfa.trans (hfa9.sub (by decide))
                rcases hR_509 with rfl | ⟨y_512, rfl⟩
                · refine jj_goto (tgt := 168) C dX1_quote_164 (by decide) ?_
                  refine rl_put C hok_505 jk_3 5 (by decide) jw_e41f55c9ce (t := (1, (-9223372036854775808), 9223372036854775807)) hk0 (by decide) rfl rfl rfl (tt_ja (0 : Int64)) rfl rfl dX1_quote_168 (fun pl_513 hok_514 tr hn tl => ?_)
                  replace hf_2 := tr _ _ _ (Or.inl (tt_ne hk1 hk0 (by decide))) hf_2
                  replace hf_267 := tr _ _ _ (Or.inl (tt_ne hk2 hk0 (by decide))) hf_267
                  replace hf_287 := tr _ _ _ (Or.inl (tt_ne hk3 hk0 (by decide))) hf_287
                  replace hf_307 := tr _ _ _ (Or.inl (tt_ne hk2 hk0 (by decide))) hf_307
                  replace hf_314 := tr _ _ _ (Or.inr (by decide)) hf_314
                  replace hf_319 := tr _ _ _ (Or.inr (by decide)) hf_319
                  replace hf_321 := tr _ _ _ (Or.inl (tt_ne hk3 hk0 (by decide))) hf_321
                  replace hf_327 := tr _ _ _ (Or.inr (by decide)) hf_327
                  replace hf_427 := tr _ _ _ (Or.inr (by decide)) hf_427
                  replace hf_429 := tr _ _ _ (Or.inl (tt_ne hk1 hk0 (by decide))) hf_429
                  replace hf_436 := tr _ _ _ (Or.inl (tt_ne hk3 hk0 (by decide))) hf_436
                  replace hf_484 := tr _ _ _ (Or.inl (tt_ne hk2 hk0 (by decide))) hf_484
                  have hf_515 := hn
                  replace hfr := hfr.put hk0 tr (by decide)
                  replace hfa := hfa.all tl
                  exact jj_vret C ⟨[], pl_513, rfl, rfl, hok_514, hfr, hfa, rfl⟩ dX1_quote_171 (jj_le rfl) (jj_le rfl)
                · refine jj_goto (tgt := 168) C dX1_quote_164 (by decide) ?_
                  refine rl_put C hok_505 jk_3 5 (by decide) jw_e41f55c9ce (t := (1, (-9223372036854775808), 9223372036854775807)) hk0 (by decide) rfl rfl rfl (tt_ja y_512) rfl rfl dX1_quote_168 (fun pl_516 hok_517 tr hn tl => ?_)
                  replace hf_2 := tr _ _ _ (Or.inl (tt_ne hk1 hk0 (by decide))) hf_2
                  replace hf_267 := tr _ _ _ (Or.inl (tt_ne hk2 hk0 (by decide))) hf_267
                  replace hf_287 := tr _ _ _ (Or.inl (tt_ne hk3 hk0 (by decide))) hf_287
                  replace hf_307 := tr _ _ _ (Or.inl (tt_ne hk2 hk0 (by decide))) hf_307
                  replace hf_314 := tr _ _ _ (Or.inr (by decide)) hf_314
                  replace hf_319 := tr _ _ _ (Or.inr (by decide)) hf_319
                  replace hf_321 := tr _ _ _ (Or.inl (tt_ne hk3 hk0 (by decide))) hf_321
                  replace hf_327 := tr _ _ _ (Or.inr (by decide)) hf_327
                  replace hf_427 := tr _ _ _ (Or.inr (by decide)) hf_427
                  replace hf_429 := tr _ _ _ (Or.inl (tt_ne hk1 hk0 (by decide))) hf_429
                  replace hf_436 := tr _ _ _ (Or.inl (tt_ne hk3 hk0 (by decide))) hf_436
                  replace hf_484 := tr _ _ _ (Or.inl (tt_ne hk2 hk0 (by decide))) hf_484
                  have hf_518 := hn
                  replace hfr := hfr.put hk0 tr (by decide)
                  replace hfa := hfa.all tl
                  exact jj_vret C ⟨[], pl_516, rfl, rfl, hok_517, hfr, hfa, rfl⟩ dX1_quote_171 (jj_le rfl) (jj_le rfl)

