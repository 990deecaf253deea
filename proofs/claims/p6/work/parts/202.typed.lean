set_option maxHeartbeats 4000000 in
set_option maxRecDepth 100000 in
theorem tc_X0_dropEmptyLots_1 {l : Launch} (hl : l.stackTraces = false) (D : va_G) (cA : Nat → ClassId) (ak : (Nat → Nat) × (Nat → Nat)) {Kd : Nat → Nat} (h0 : Nat) (hk0 : Kd h0 = 1) {pl0 : va_W} (hok : tt_ok tt_tk cA Kd pl0) : jj_M l D cA ak yX0_dropEmptyLots (.code yX0_dropEmptyLots cX0_dropEmptyLots 4 none) 0 0 0 0 ([] ++ pl0) [.ref h0] (tt_O (fun rx pl1 r => rx = [] ∧ tt_ok tt_tk cA Kd pl1 ∧ tt_fr Kd [(1, 8)] pl0 pl1 ∧ tt_fa Kd [] pl0 pl1 ∧ ((r = none)))) (tt_OX (fun _ _ _ => False)) := by
  refine jj_start hl (by decide) jw_a434f13787 (jj_le rfl) ?_
  intro p e s m args below meth c A hargs hA C hex hmn
  have hfr := tt_fr.refl (K := Kd) (WS := [(1, 8)]) pl0
  have hfa := tt_fa.refl (K := Kd) (WA := []) pl0
  refine jj_iconst (v := 0) C dX0_dropEmptyLots_0 (by decide) ?_
  refine jj_istore_n C dX0_dropEmptyLots_1 (by decide) rfl ?_
  refine jj_iconst (v := 0) C dX0_dropEmptyLots_2 (by decide) ?_
  refine jj_istore_n C dX0_dropEmptyLots_3 (by decide) rfl ?_
  have hL_1 : ∀ (N : Nat) (pl : va_W) (x_2 : Int32) (x_3 : Int32), True → tt_ok tt_tk cA Kd pl → tt_fr Kd [(1, 8)] pl0 pl → tt_fa Kd [] pl0 pl → (0 : Int) ≤ x_2.toInt → x_2.toInt ≤ 40 → (0 : Int) ≤ x_3.toInt → x_3.toInt ≤ 40 → x_3.toInt ≤ x_2.toInt → (2147483648 - x_2.toInt ≤ (N : Int)) → jj_J p l e (jj_rm 0 0 0 0) s m args below meth c 4 A (vx_MQ below (jj_q D A (tt_O (fun rx pl1 r => rx = [] ∧ tt_ok tt_tk cA Kd pl1 ∧ tt_fr Kd [(1, 8)] pl0 pl1 ∧ tt_fa Kd [] pl0 pl1 ∧ ((r = none))))) (jj_x D A (tt_OX (fun _ _ _ => False))) args s 0 0 A) (jj_X D A ([] ++ pl)) 0 0 4 [(2, .int x_2), (1, .int x_3), (0, .ref h0)] [] := by
    intro NL_1
    induction NL_1 with
    | zero => intro pl x_2 x_3 _ hok hfr hfa lx_2 ux_2 lx_3 ux_3 r1_2 hNL_1; exfalso; omega
    | succ NL_1 ihL_1 =>
      intro pl x_2 x_3 _ hok hfr hfa lx_2 ux_2 lx_3 ux_3 r1_2 hNL_1
      replace ihL_1 := fun pl x_2 x_3 h1 => ihL_1 pl x_2 x_3 trivial h1
      refine jj_iload_n C dX0_dropEmptyLots_4 rfl ?_
      refine jj_aload_n C dX0_dropEmptyLots_5 rfl ?_
      refine tt_get C hok jk_2 8 (by decide) jw_9d0ccd4490 (t := (0, 0, 40)) hk0 (by decide) rfl rfl dX0_dropEmptyLots_6 (fun v_4 hv_4 hf_5 => ?_)
      obtain ⟨x_6, rfl, lx_6, ux_6⟩ := tt_vi hv_4
      refine jj_icmp_ge (tgt := 56) C dX0_dropEmptyLots_9 (by decide) (fun c_7 => ?_) (fun c_7 => ?_)
      · have z_c_7 := jc_le (a := (x_6).toInt) (b := (x_2).toInt) c_7 rfl rfl
        refine jj_aload_n C dX0_dropEmptyLots_56 rfl ?_
        refine jj_iload_n C dX0_dropEmptyLots_57 rfl ?_
        refine rl_put C hok jk_2 8 (by decide) jw_9d0ccd4490 (t := (0, 0, 40)) hk0 (by decide) rfl rfl rfl (tt_iv (by omega) (by omega)) rfl rfl dX0_dropEmptyLots_58 (fun pl_8 hok_9 tr hn tl => ?_)
        have hf_10 := hn
        replace hfr := hfr.put hk0 tr (by decide)
        replace hfa := hfa.all tl
        exact jj_vret C ⟨[], pl_8, rfl, rfl, hok_9, hfr, hfa, rfl⟩ dX0_dropEmptyLots_61 (jj_le rfl) (jj_le rfl)
      · have z_c_7 := jc_nle (a := (x_6).toInt) (b := (x_2).toInt) c_7 rfl rfl
        refine jj_aload_n C dX0_dropEmptyLots_12 rfl ?_
        refine tt_get C hok jk_2 12 (by decide) jw_5f730213e9 (t := (2, 7, 0)) hk0 (by decide) rfl rfl dX0_dropEmptyLots_13 (fun v_11 hv_11 hf_12 => ?_)
        obtain ⟨a_13, rfl, ka_13⟩ := tt_vr hv_11
        refine jj_iload_n C dX0_dropEmptyLots_16 rfl ?_
        refine tt_aald C hok (t := (2, 3, 0)) ka_13 (by decide) rfl rfl rfl (vp_in_iff.mpr ⟨by omega, by omega⟩) dX0_dropEmptyLots_17 (fun v_14 hv_14 => ?_)
        obtain ⟨a_15, rfl, ka_15⟩ := tt_vr hv_14
        refine jj_astore_n C dX0_dropEmptyLots_18 (by decide) rfl ?_
        refine jj_aload_n C dX0_dropEmptyLots_19 rfl ?_
        refine tt_get C hok jk_5 3 (by decide) jw_1f6afd9b6f (t := (1, (-9223372036854775808), 9223372036854775807)) ka_15 (by decide) rfl rfl dX0_dropEmptyLots_20 (fun v_16 hv_16 hf_17 => ?_)
        obtain ⟨y_18, rfl, -, -⟩ := tt_vj hv_16
        refine jj_lconst (v := 0) C dX0_dropEmptyLots_23 (by decide) ?_
        refine jj_lcmp_le (tgt := 50) C dX0_dropEmptyLots_24 dX0_dropEmptyLots_25 (by decide) (fun c_19 => ?_) (fun c_19 => ?_)
        · obtain ⟨x_20, ex_20, vx_20⟩ := tt_inc (x := x_2) (n := 1) (by omega) (by omega)
          refine jj_iinc (v := x_20) C dX0_dropEmptyLots_50 rfl ex_20 (by decide) rfl ?_
          refine jj_goto (tgt := 4) C dX0_dropEmptyLots_53 (by decide) ?_
          refine jj_loc [0, 2, 3] rfl ?_
          exact ihL_1 pl x_20 x_3 hok hfr hfa (by first | omega | decide | exact tt_lo _ | exact tt_hi _) (by first | omega | decide | exact tt_lo _ | exact tt_hi _) (by first | omega | decide | exact tt_lo _ | exact tt_hi _) (by first | omega | decide | exact tt_lo _ | exact tt_hi _) (by first | omega | decide | exact tt_lo _ | exact tt_hi _) (by first | omega | decide | exact tt_lo _ | exact tt_hi _)
        · refine jj_aload_n C dX0_dropEmptyLots_28 rfl ?_
          refine tt_getF C hok jk_2 12 (by decide) jw_5f730213e9 (t := (2, 7, 0)) hk0 (by decide) rfl rfl hf_12 dX0_dropEmptyLots_29 ?_
          refine jj_iload_n C dX0_dropEmptyLots_32 rfl ?_
          refine jj_aload_n C dX0_dropEmptyLots_33 rfl ?_
          refine tt_getF C hok jk_2 12 (by decide) jw_5f730213e9 (t := (2, 7, 0)) hk0 (by decide) rfl rfl hf_12 dX0_dropEmptyLots_34 ?_
          refine jj_iload_n C dX0_dropEmptyLots_37 rfl ?_
          refine tt_aald C hok (t := (2, 3, 0)) ka_13 (by decide) rfl rfl rfl (vp_in_iff.mpr ⟨by omega, by omega⟩) dX0_dropEmptyLots_38 (fun v_21 hv_21 => ?_)
          obtain ⟨a_22, rfl, ka_22⟩ := tt_vr hv_21
          refine tl_aast C hok (t := (2, 3, 0)) ka_13 (by decide) rfl rfl rfl ka_22 (by decide) rfl rfl (vp_in_iff.mpr ⟨by omega, by omega⟩) (tt_rv ka_22) dX0_dropEmptyLots_39 (fun pl_23 hok_24 tr hne tl => ?_)
          replace hf_5 := tr _ _ _ hf_5
          replace hf_12 := tr _ _ _ hf_12
          replace hf_17 := tr _ _ _ hf_17
          replace hfr := hfr.arr tr
          replace hfa := hfa.all tl
          refine jj_aload_n C dX0_dropEmptyLots_40 rfl ?_
          refine tt_getF C hok_24 jk_2 12 (by decide) jw_5f730213e9 (t := (2, 7, 0)) hk0 (by decide) rfl rfl hf_12 dX0_dropEmptyLots_41 ?_
          refine jj_iload_n C dX0_dropEmptyLots_44 rfl ?_
          refine jj_aload_n C dX0_dropEmptyLots_45 rfl ?_
          refine tl_aast C hok_24 (t := (2, 3, 0)) ka_13 (by decide) rfl rfl rfl ka_15 (by decide) rfl rfl (vp_in_iff.mpr ⟨by omega, by omega⟩) (tt_rv ka_15) dX0_dropEmptyLots_46 (fun pl_25 hok_26 tr hne tl => ?_)
          replace hf_5 := tr _ _ _ hf_5
          replace hf_12 := tr _ _ _ hf_12
          replace hf_17 := tr _ _ _ hf_17
          replace hfr := hfr.arr tr
          replace hfa := hfa.all tl
          obtain ⟨x_27, ex_27, vx_27⟩ := tt_inc (x := x_3) (n := 1) (by omega) (by omega)
          refine jj_iinc (v := x_27) C dX0_dropEmptyLots_47 rfl ex_27 (by decide) rfl ?_
          obtain ⟨x_28, ex_28, vx_28⟩ := tt_inc (x := x_2) (n := 1) (by omega) (by omega)
          refine jj_iinc (v := x_28) C dX0_dropEmptyLots_50 rfl ex_28 (by decide) rfl ?_
          refine jj_goto (tgt := 4) C dX0_dropEmptyLots_53 (by decide) ?_
          refine jj_loc [0, 1, 3] rfl ?_
          exact ihL_1 pl_25 x_28 x_27 hok_26 hfr hfa (by first | omega | decide | exact tt_lo _ | exact tt_hi _) (by first | omega | decide | exact tt_lo _ | exact tt_hi _) (by first | omega | decide | exact tt_lo _ | exact tt_hi _) (by first | omega | decide | exact tt_lo _ | exact tt_hi _) (by first | omega | decide | exact tt_lo _ | exact tt_hi _) (by first | omega | decide | exact tt_lo _ | exact tt_hi _)
  exact hL_1 _ pl0 (0 : Int32) (0 : Int32) trivial hok hfr hfa (by first | omega | decide | exact tt_lo _ | exact tt_hi _) (by first | omega | decide | exact tt_lo _ | exact tt_hi _) (by first | omega | decide | exact tt_lo _ | exact tt_hi _) (by first | omega | decide | exact tt_lo _ | exact tt_hi _) (by first | omega | decide | exact tt_lo _ | exact tt_hi _) (Int.self_le_toNat _)

set_option maxHeartbeats 4000000 in
set_option maxRecDepth 100000 in
theorem tc_X0_closeEmptySeries_1 {l : Launch} (hl : l.stackTraces = false) (D : va_G) (cA : Nat → ClassId) (ak : (Nat → Nat) × (Nat → Nat)) {Kd : Nat → Nat} (h0 : Nat) (hk0 : Kd h0 = 1) {pl0 : va_W} (hok : tt_ok tt_tk cA Kd pl0) : jj_M l D cA ak yX0_closeEmptySeries (.code yX0_closeEmptySeries cX0_closeEmptySeries 4 none) 0 0 0 0 ([] ++ pl0) [.ref h0] (tt_O (fun rx pl1 r => rx = [] ∧ tt_ok tt_tk cA Kd pl1 ∧ tt_fr Kd [(1, 7)] pl0 pl1 ∧ tt_fa Kd [5] pl0 pl1 ∧ ((r = none)))) (tt_OX (fun _ _ _ => False)) := by
  refine jj_start hl (by decide) jw_a8b63f05be (jj_le rfl) ?_
  intro p e s m args below meth c A hargs hA C hex hmn
  have hfr := tt_fr.refl (K := Kd) (WS := [(1, 7)]) pl0
  have hfa := tt_fa.refl (K := Kd) (WA := [5]) pl0
  refine jj_iconst (v := 0) C dX0_closeEmptySeries_0 (by decide) ?_
  refine jj_istore_n C dX0_closeEmptySeries_1 (by decide) rfl ?_
  refine jj_iconst (v := 0) C dX0_closeEmptySeries_2 (by decide) ?_
  refine jj_istore_n C dX0_closeEmptySeries_3 (by decide) rfl ?_
  have hL_1 : ∀ (N : Nat) (pl : va_W) (x_2 : Int32) (x_3 : Int32), True → tt_ok tt_tk cA Kd pl → tt_fr Kd [(1, 7)] pl0 pl → tt_fa Kd [5] pl0 pl → (0 : Int) ≤ x_2.toInt → x_2.toInt ≤ 6 → (0 : Int) ≤ x_3.toInt → x_3.toInt ≤ 6 → x_3.toInt ≤ x_2.toInt → (2147483648 - x_2.toInt ≤ (N : Int)) → jj_J p l e (jj_rm 0 0 0 0) s m args below meth c 4 A (vx_MQ below (jj_q D A (tt_O (fun rx pl1 r => rx = [] ∧ tt_ok tt_tk cA Kd pl1 ∧ tt_fr Kd [(1, 7)] pl0 pl1 ∧ tt_fa Kd [5] pl0 pl1 ∧ ((r = none))))) (jj_x D A (tt_OX (fun _ _ _ => False))) args s 0 0 A) (jj_X D A ([] ++ pl)) 0 0 4 [(2, .int x_2), (1, .int x_3), (0, .ref h0)] [] := by
    intro NL_1
    induction NL_1 with
    | zero => intro pl x_2 x_3 _ hok hfr hfa lx_2 ux_2 lx_3 ux_3 r1_2 hNL_1; exfalso; omega
    | succ NL_1 ihL_1 =>
      intro pl x_2 x_3 _ hok hfr hfa lx_2 ux_2 lx_3 ux_3 r1_2 hNL_1
      replace ihL_1 := fun pl x_2 x_3 h1 => ihL_1 pl x_2 x_3 trivial h1
      refine jj_iload_n C dX0_closeEmptySeries_4 rfl ?_
      refine jj_aload_n C dX0_closeEmptySeries_5 rfl ?_
      refine tt_get C hok jk_2 7 (by decide) jw_4839b30b4b (t := (0, 0, 6)) hk0 (by decide) rfl rfl dX0_closeEmptySeries_6 (fun v_4 hv_4 hf_5 => ?_)
      obtain ⟨x_6, rfl, lx_6, ux_6⟩ := tt_vi hv_4
      refine jj_icmp_ge (tgt := 72) C dX0_closeEmptySeries_9 (by decide) (fun c_7 => ?_) (fun c_7 => ?_)
      · have z_c_7 := jc_le (a := (x_6).toInt) (b := (x_2).toInt) c_7 rfl rfl
        refine jj_aload_n C dX0_closeEmptySeries_72 rfl ?_
        refine jj_iload_n C dX0_closeEmptySeries_73 rfl ?_
        refine rl_put C hok jk_2 7 (by decide) jw_4839b30b4b (t := (0, 0, 6)) hk0 (by decide) rfl rfl rfl (tt_iv (by omega) (by omega)) rfl rfl dX0_closeEmptySeries_74 (fun pl_8 hok_9 tr hn tl => ?_)
        have hf_10 := hn
        replace hfr := hfr.put hk0 tr (by decide)
        replace hfa := hfa.all tl
        exact jj_vret C ⟨[], pl_8, rfl, rfl, hok_9, hfr, hfa, rfl⟩ dX0_closeEmptySeries_77 (jj_le rfl) (jj_le rfl)
      · have z_c_7 := jc_nle (a := (x_6).toInt) (b := (x_2).toInt) c_7 rfl rfl
        refine jj_aload_n C dX0_closeEmptySeries_12 rfl ?_
        refine tt_get C hok jk_2 11 (by decide) jw_b81d81495e (t := (2, 6, 0)) hk0 (by decide) rfl rfl dX0_closeEmptySeries_13 (fun v_11 hv_11 hf_12 => ?_)
        obtain ⟨a_13, rfl, ka_13⟩ := tt_vr hv_11
        refine jj_iload_n C dX0_closeEmptySeries_16 rfl ?_
        refine tt_aald C hok (t := (2, 2, 0)) ka_13 (by decide) rfl rfl rfl (vp_in_iff.mpr ⟨by omega, by omega⟩) dX0_closeEmptySeries_17 (fun v_14 hv_14 => ?_)
        obtain ⟨a_15, rfl, ka_15⟩ := tt_vr hv_14
        refine jj_astore_n C dX0_closeEmptySeries_18 (by decide) rfl ?_
        refine jj_aload_n C dX0_closeEmptySeries_19 rfl ?_
        refine tt_get C hok jk_9 3 (by decide) jw_aea96b82d1 (t := (1, (-9223372036854775808), 9223372036854775807)) ka_15 (by decide) rfl rfl dX0_closeEmptySeries_20 (fun v_16 hv_16 hf_17 => ?_)
        obtain ⟨y_18, rfl, -, -⟩ := tt_vj hv_16
        refine jj_lconst (v := 0) C dX0_closeEmptySeries_23 (by decide) ?_
        refine jj_lcmp_le (tgt := 53) C dX0_closeEmptySeries_24 dX0_closeEmptySeries_25 (by decide) (fun c_19 => ?_) (fun c_19 => ?_)
        · refine jj_aload_n C dX0_closeEmptySeries_53 rfl ?_
          refine tt_get C hok jk_2 10 (by decide) jw_10b3e82d95 (t := (2, 5, 0)) hk0 (by decide) rfl rfl dX0_closeEmptySeries_54 (fun v_20 hv_20 hf_21 => ?_)
          obtain ⟨a_22, rfl, ka_22⟩ := tt_vr hv_20
          refine jj_iconst (v := 1) C dX0_closeEmptySeries_57 (by decide) ?_
          refine jj_dup2 C dX0_closeEmptySeries_58 rfl rfl ?_
          refine tt_lald C hok (t := (1, (-9223372036854775808), 9223372036854775807)) ka_22 (by decide) rfl (vp_in_iff.mpr (by decide)) dX0_closeEmptySeries_59 (fun v_23 hv_23 => ?_)
          refine jj_aload_n C dX0_closeEmptySeries_60 rfl ?_
          refine tt_get C hok jk_9 2 (by decide) jw_63df8fd9f3 (t := (1, (-9223372036854775808), 9223372036854775807)) ka_15 (by decide) rfl rfl dX0_closeEmptySeries_61 (fun v_24 hv_24 hf_25 => ?_)
          obtain ⟨y_26, rfl, -, -⟩ := tt_vj hv_24
          obtain ⟨y_27, ey_27⟩ : ∃ z : Int64, v_23 + y_26 = z := ⟨_, rfl⟩
          refine jj_ladd (v := y_27) C dX0_closeEmptySeries_64 ey_27 ?_
          refine tl_last C hok (t := (1, (-9223372036854775808), 9223372036854775807)) ka_22 (by decide) rfl (vp_in_iff.mpr (by decide)) (tt_ja _) dX0_closeEmptySeries_65 (fun pl_28 hok_29 tr tl => ?_)
          replace hf_5 := tr _ _ _ hf_5
          replace hf_12 := tr _ _ _ hf_12
          replace hf_17 := tr _ _ _ hf_17
          replace hf_21 := tr _ _ _ hf_21
          replace hf_25 := tr _ _ _ hf_25
          replace hfr := hfr.arr tr
          replace hfa := hfa.wr ka_22 tl (by decide)
          obtain ⟨x_30, ex_30, vx_30⟩ := tt_inc (x := x_2) (n := 1) (by omega) (by omega)
          refine jj_iinc (v := x_30) C dX0_closeEmptySeries_66 rfl ex_30 (by decide) rfl ?_
          refine jj_goto (tgt := 4) C dX0_closeEmptySeries_69 (by decide) ?_
          refine jj_loc [0, 2, 3] rfl ?_
          exact ihL_1 pl_28 x_30 x_3 hok_29 hfr hfa (by first | omega | decide | exact tt_lo _ | exact tt_hi _) (by first | omega | decide | exact tt_lo _ | exact tt_hi _) (by first | omega | decide | exact tt_lo _ | exact tt_hi _) (by first | omega | decide | exact tt_lo _ | exact tt_hi _) (by first | omega | decide | exact tt_lo _ | exact tt_hi _) (by first | omega | decide | exact tt_lo _ | exact tt_hi _)
        · refine jj_aload_n C dX0_closeEmptySeries_28 rfl ?_
          refine tt_getF C hok jk_2 11 (by decide) jw_b81d81495e (t := (2, 6, 0)) hk0 (by decide) rfl rfl hf_12 dX0_closeEmptySeries_29 ?_
          refine jj_iload_n C dX0_closeEmptySeries_32 rfl ?_
          refine jj_aload_n C dX0_closeEmptySeries_33 rfl ?_
          refine tt_getF C hok jk_2 11 (by decide) jw_b81d81495e (t := (2, 6, 0)) hk0 (by decide) rfl rfl hf_12 dX0_closeEmptySeries_34 ?_
          refine jj_iload_n C dX0_closeEmptySeries_37 rfl ?_
          refine tt_aald C hok (t := (2, 2, 0)) ka_13 (by decide) rfl rfl rfl (vp_in_iff.mpr ⟨by omega, by omega⟩) dX0_closeEmptySeries_38 (fun v_31 hv_31 => ?_)
          obtain ⟨a_32, rfl, ka_32⟩ := tt_vr hv_31
          refine tl_aast C hok (t := (2, 2, 0)) ka_13 (by decide) rfl rfl rfl ka_32 (by decide) rfl rfl (vp_in_iff.mpr ⟨by omega, by omega⟩) (tt_rv ka_32) dX0_closeEmptySeries_39 (fun pl_33 hok_34 tr hne tl => ?_)
          replace hf_5 := tr _ _ _ hf_5
          replace hf_12 := tr _ _ _ hf_12
          replace hf_17 := tr _ _ _ hf_17
          replace hfr := hfr.arr tr
          replace hfa := hfa.all tl
          refine jj_aload_n C dX0_closeEmptySeries_40 rfl ?_
          refine tt_getF C hok_34 jk_2 11 (by decide) jw_b81d81495e (t := (2, 6, 0)) hk0 (by decide) rfl rfl hf_12 dX0_closeEmptySeries_41 ?_
          refine jj_iload_n C dX0_closeEmptySeries_44 rfl ?_
          refine jj_aload_n C dX0_closeEmptySeries_45 rfl ?_
          refine tl_aast C hok_34 (t := (2, 2, 0)) ka_13 (by decide) rfl rfl rfl ka_15 (by decide) rfl rfl (vp_in_iff.mpr ⟨by omega, by omega⟩) (tt_rv ka_15) dX0_closeEmptySeries_46 (fun pl_35 hok_36 tr hne tl => ?_)
          replace hf_5 := tr _ _ _ hf_5
          replace hf_12 := tr _ _ _ hf_12
          replace hf_17 := tr _ _ _ hf_17
          replace hfr := hfr.arr tr
          replace hfa := hfa.all tl
          obtain ⟨x_37, ex_37, vx_37⟩ := tt_inc (x := x_3) (n := 1) (by omega) (by omega)
          refine jj_iinc (v := x_37) C dX0_closeEmptySeries_47 rfl ex_37 (by decide) rfl ?_
          refine jj_goto (tgt := 66) C dX0_closeEmptySeries_50 (by decide) ?_
          obtain ⟨x_38, ex_38, vx_38⟩ := tt_inc (x := x_2) (n := 1) (by omega) (by omega)
          refine jj_iinc (v := x_38) C dX0_closeEmptySeries_66 rfl ex_38 (by decide) rfl ?_
          refine jj_goto (tgt := 4) C dX0_closeEmptySeries_69 (by decide) ?_
          refine jj_loc [0, 1, 3] rfl ?_
          exact ihL_1 pl_35 x_38 x_37 hok_36 hfr hfa (by first | omega | decide | exact tt_lo _ | exact tt_hi _) (by first | omega | decide | exact tt_lo _ | exact tt_hi _) (by first | omega | decide | exact tt_lo _ | exact tt_hi _) (by first | omega | decide | exact tt_lo _ | exact tt_hi _) (by first | omega | decide | exact tt_lo _ | exact tt_hi _) (by first | omega | decide | exact tt_lo _ | exact tt_hi _)
  exact hL_1 _ pl0 (0 : Int32) (0 : Int32) trivial hok hfr hfa (by first | omega | decide | exact tt_lo _ | exact tt_hi _) (by first | omega | decide | exact tt_lo _ | exact tt_hi _) (by first | omega | decide | exact tt_lo _ | exact tt_hi _) (by first | omega | decide | exact tt_lo _ | exact tt_hi _) (by first | omega | decide | exact tt_lo _ | exact tt_hi _) (Int.self_le_toNat _)

set_option maxHeartbeats 4000000 in
set_option maxRecDepth 100000 in
theorem tc_X1_takeOut_1 {l : Launch} (hl : l.stackTraces = false) (D : va_G) (cA : Nat → ClassId) (ak : (Nat → Nat) × (Nat → Nat)) {Kd : Nat → Nat} (h0 : Nat) (h1 : Nat) (h2 : Nat) (h3 : Nat) (p4 : Int64) (hk0 : Kd h0 = 9) (hk1 : Kd h1 = 1) (hk2 : Kd h2 = 2) (hk3 : Kd h3 = 3) {pl0 : va_W} (hok : tt_ok tt_tk cA Kd pl0) : jj_M l D cA ak yX1_takeOut (.code yX1_takeOut cX1_takeOut 6 none) 0 0 0 0 ([] ++ pl0) [.ref h0, .ref h1, .ref h2, .ref h3, .long p4] (tt_O (fun rx pl1 r => rx = [] ∧ tt_ok tt_tk cA Kd pl1 ∧ tt_fr Kd [(2, 2), (2, 3), (3, 3), (3, 5)] pl0 pl1 ∧ tt_fa Kd [5] pl0 pl1 ∧ ((r = none)))) (tt_OX (fun _ _ _ => False)) := by
  refine jj_start hl (by decide) jw_c6c6c8654b (jj_le rfl) ?_
  intro p e s m args below meth c A hargs hA C hex hmn
  have hfr := tt_fr.refl (K := Kd) (WS := [(2, 2), (2, 3), (3, 3), (3, 5)]) pl0
  have hfa := tt_fa.refl (K := Kd) (WA := [5]) pl0
  refine jj_aload_n C dX1_takeOut_0 rfl ?_
  refine jj_dup C dX1_takeOut_1 rfl ?_
  refine tt_get C hok jk_9 2 (by decide) jw_a25c79ea7a (t := (1, (-9223372036854775808), 9223372036854775807)) hk2 (by decide) rfl rfl dX1_takeOut_2 (fun v_1 hv_1 hf_2 => ?_)
  obtain ⟨y_3, rfl, -, -⟩ := tt_vj hv_1
  refine jj_aload_n C dX1_takeOut_5 rfl ?_
  refine tt_get C hok jk_3 1 (by decide) jw_d747bb1560 (t := (1, (-9223372036854775808), 9223372036854775807)) hk0 (by decide) rfl rfl dX1_takeOut_6 (fun v_4 hv_4 hf_5 => ?_)
  obtain ⟨y_6, rfl, -, -⟩ := tt_vj hv_4
  refine jj_aload_n C dX1_takeOut_9 rfl ?_
  refine tt_get C hok jk_3 2 (by decide) jw_771ad03ca8 (t := (1, (-9223372036854775808), 9223372036854775807)) hk0 (by decide) rfl rfl dX1_takeOut_10 (fun v_7 hv_7 hf_8 => ?_)
  obtain ⟨y_9, rfl, -, -⟩ := tt_vj hv_7
  obtain ⟨y_10, ey_10⟩ : ∃ z : Int64, y_6 + y_9 = z := ⟨_, rfl⟩
  refine jj_ladd (v := y_10) C dX1_takeOut_13 ey_10 ?_
  obtain ⟨y_11, ey_11⟩ : ∃ z : Int64, y_3 - y_10 = z := ⟨_, rfl⟩
  refine jj_lsub (v := y_11) C dX1_takeOut_14 ey_11 ?_
  refine rl_put C hok jk_9 2 (by decide) jw_a25c79ea7a (t := (1, (-9223372036854775808), 9223372036854775807)) hk2 (by decide) rfl rfl rfl (tt_ja y_11) rfl rfl dX1_takeOut_15 (fun pl_12 hok_13 tr hn tl => ?_)
  replace hf_5 := tr _ _ _ (Or.inl (tt_ne hk0 hk2 (by decide))) hf_5
  replace hf_8 := tr _ _ _ (Or.inl (tt_ne hk0 hk2 (by decide))) hf_8
  have hf_14 := hn
  replace hfr := hfr.put hk2 tr (by decide)
  replace hfa := hfa.all tl
  refine jj_aload_n C dX1_takeOut_18 rfl ?_
  refine jj_dup C dX1_takeOut_19 rfl ?_
  refine tt_get C hok_13 jk_9 3 (by decide) jw_df3b225d28 (t := (1, (-9223372036854775808), 9223372036854775807)) hk2 (by decide) rfl rfl dX1_takeOut_20 (fun v_15 hv_15 hf_16 => ?_)
  obtain ⟨y_17, rfl, -, -⟩ := tt_vj hv_15
  refine jj_lload C dX1_takeOut_23 rfl ?_
  obtain ⟨y_18, ey_18⟩ : ∃ z : Int64, y_17 - p4 = z := ⟨_, rfl⟩
  refine jj_lsub (v := y_18) C dX1_takeOut_25 ey_18 ?_
  refine rl_put C hok_13 jk_9 3 (by decide) jw_df3b225d28 (t := (1, (-9223372036854775808), 9223372036854775807)) hk2 (by decide) rfl rfl rfl (tt_ja y_18) rfl rfl dX1_takeOut_26 (fun pl_19 hok_20 tr hn tl => ?_)
  replace hf_5 := tr _ _ _ (Or.inl (tt_ne hk0 hk2 (by decide))) hf_5
  replace hf_8 := tr _ _ _ (Or.inl (tt_ne hk0 hk2 (by decide))) hf_8
  replace hf_14 := tr _ _ _ (Or.inr (by decide)) hf_14
  have hf_21 := hn
  replace hfr := hfr.put hk2 tr (by decide)
  replace hfa := hfa.all tl
  refine jj_aload_n C dX1_takeOut_29 rfl ?_
  refine jj_dup C dX1_takeOut_30 rfl ?_
  refine tt_get C hok_20 jk_5 3 (by decide) jw_fcb072e0d9 (t := (1, (-9223372036854775808), 9223372036854775807)) hk3 (by decide) rfl rfl dX1_takeOut_31 (fun v_22 hv_22 hf_23 => ?_)
  obtain ⟨y_24, rfl, -, -⟩ := tt_vj hv_22
  refine jj_lload C dX1_takeOut_34 rfl ?_
  obtain ⟨y_25, ey_25⟩ : ∃ z : Int64, y_24 - p4 = z := ⟨_, rfl⟩
  refine jj_lsub (v := y_25) C dX1_takeOut_36 ey_25 ?_
  refine rl_put C hok_20 jk_5 3 (by decide) jw_fcb072e0d9 (t := (1, (-9223372036854775808), 9223372036854775807)) hk3 (by decide) rfl rfl rfl (tt_ja y_25) rfl rfl dX1_takeOut_37 (fun pl_26 hok_27 tr hn tl => ?_)
  replace hf_5 := tr _ _ _ (Or.inl (tt_ne hk0 hk3 (by decide))) hf_5
  replace hf_8 := tr _ _ _ (Or.inl (tt_ne hk0 hk3 (by decide))) hf_8
  replace hf_14 := tr _ _ _ (Or.inl (tt_ne hk2 hk3 (by decide))) hf_14
  replace hf_21 := tr _ _ _ (Or.inl (tt_ne hk2 hk3 (by decide))) hf_21
  have hf_28 := hn
  replace hfr := hfr.put hk3 tr (by decide)
  replace hfa := hfa.all tl
  refine jj_aload_n C dX1_takeOut_40 rfl ?_
  refine jj_dup C dX1_takeOut_41 rfl ?_
  refine tt_get C hok_27 jk_5 5 (by decide) jw_5ff29d8ec5 (t := (1, (-9223372036854775808), 9223372036854775807)) hk3 (by decide) rfl rfl dX1_takeOut_42 (fun v_29 hv_29 hf_30 => ?_)
  obtain ⟨y_31, rfl, -, -⟩ := tt_vj hv_29
  refine jj_aload_n C dX1_takeOut_45 rfl ?_
  refine tt_get C hok_27 jk_3 3 (by decide) jw_71edc34996 (t := (1, (-9223372036854775808), 9223372036854775807)) hk0 (by decide) rfl rfl dX1_takeOut_46 (fun v_32 hv_32 hf_33 => ?_)
  obtain ⟨y_34, rfl, -, -⟩ := tt_vj hv_32
  obtain ⟨y_35, ey_35⟩ : ∃ z : Int64, y_31 - y_34 = z := ⟨_, rfl⟩
  refine jj_lsub (v := y_35) C dX1_takeOut_49 ey_35 ?_
  refine rl_put C hok_27 jk_5 5 (by decide) jw_5ff29d8ec5 (t := (1, (-9223372036854775808), 9223372036854775807)) hk3 (by decide) rfl rfl rfl (tt_ja y_35) rfl rfl dX1_takeOut_50 (fun pl_36 hok_37 tr hn tl => ?_)
  replace hf_5 := tr _ _ _ (Or.inl (tt_ne hk0 hk3 (by decide))) hf_5
  replace hf_8 := tr _ _ _ (Or.inl (tt_ne hk0 hk3 (by decide))) hf_8
  replace hf_14 := tr _ _ _ (Or.inl (tt_ne hk2 hk3 (by decide))) hf_14
  replace hf_21 := tr _ _ _ (Or.inl (tt_ne hk2 hk3 (by decide))) hf_21
  replace hf_28 := tr _ _ _ (Or.inr (by decide)) hf_28
  replace hf_33 := tr _ _ _ (Or.inl (tt_ne hk0 hk3 (by decide))) hf_33
  have hf_38 := hn
  replace hfr := hfr.put hk3 tr (by decide)
  replace hfa := hfa.all tl
  refine jj_aload_n C dX1_takeOut_53 rfl ?_
  refine tt_get C hok_37 jk_2 10 (by decide) jw_489e37c5a2 (t := (2, 5, 0)) hk1 (by decide) rfl rfl dX1_takeOut_54 (fun v_39 hv_39 hf_40 => ?_)
  obtain ⟨a_41, rfl, ka_41⟩ := tt_vr hv_39
  refine jj_iconst (v := 0) C dX1_takeOut_57 (by decide) ?_
  refine jj_dup2 C dX1_takeOut_58 rfl rfl ?_
  refine tt_lald C hok_37 (t := (1, (-9223372036854775808), 9223372036854775807)) ka_41 (by decide) rfl (vp_in_iff.mpr (by decide)) dX1_takeOut_59 (fun v_42 hv_42 => ?_)
  refine jj_aload_n C dX1_takeOut_60 rfl ?_
  refine tt_getF C hok_37 jk_3 2 (by decide) jw_771ad03ca8 (t := (1, (-9223372036854775808), 9223372036854775807)) hk0 (by decide) rfl rfl hf_8 dX1_takeOut_61 ?_
  refine jj_aload_n C dX1_takeOut_64 rfl ?_
  refine tt_get C hok_37 jk_3 4 (by decide) jw_21f29d6c44 (t := (1, (-9223372036854775808), 9223372036854775807)) hk0 (by decide) rfl rfl dX1_takeOut_65 (fun v_43 hv_43 hf_44 => ?_)
  obtain ⟨y_45, rfl, -, -⟩ := tt_vj hv_43
  obtain ⟨y_46, ey_46⟩ : ∃ z : Int64, y_9 - y_45 = z := ⟨_, rfl⟩
  refine jj_lsub (v := y_46) C dX1_takeOut_68 ey_46 ?_
  refine jj_aload_n C dX1_takeOut_69 rfl ?_
  refine tt_get C hok_37 jk_3 5 (by decide) jw_e41f55c9ce (t := (1, (-9223372036854775808), 9223372036854775807)) hk0 (by decide) rfl rfl dX1_takeOut_70 (fun v_47 hv_47 hf_48 => ?_)
  obtain ⟨y_49, rfl, -, -⟩ := tt_vj hv_47
  obtain ⟨y_50, ey_50⟩ : ∃ z : Int64, y_46 + y_49 = z := ⟨_, rfl⟩
  refine jj_ladd (v := y_50) C dX1_takeOut_73 ey_50 ?_
  obtain ⟨y_51, ey_51⟩ : ∃ z : Int64, v_42 + y_50 = z := ⟨_, rfl⟩
  refine jj_ladd (v := y_51) C dX1_takeOut_74 ey_51 ?_
  refine tl_last C hok_37 (t := (1, (-9223372036854775808), 9223372036854775807)) ka_41 (by decide) rfl (vp_in_iff.mpr (by decide)) (tt_ja _) dX1_takeOut_75 (fun pl_52 hok_53 tr tl => ?_)
  replace hf_5 := tr _ _ _ hf_5
  replace hf_8 := tr _ _ _ hf_8
  replace hf_14 := tr _ _ _ hf_14
  replace hf_21 := tr _ _ _ hf_21
  replace hf_28 := tr _ _ _ hf_28
  replace hf_33 := tr _ _ _ hf_33
  replace hf_38 := tr _ _ _ hf_38
  replace hf_40 := tr _ _ _ hf_40
  replace hf_44 := tr _ _ _ hf_44
  replace hf_48 := tr _ _ _ hf_48
  replace hfr := hfr.arr tr
  replace hfa := hfa.wr ka_41 tl (by decide)
  refine jj_aload_n C dX1_takeOut_76 rfl ?_
  refine tt_getF C hok_53 jk_2 10 (by decide) jw_489e37c5a2 (t := (2, 5, 0)) hk1 (by decide) rfl rfl hf_40 dX1_takeOut_77 ?_
  refine jj_iconst (v := 3) C dX1_takeOut_80 (by decide) ?_
  refine jj_dup2 C dX1_takeOut_81 rfl rfl ?_
  refine tt_lald C hok_53 (t := (1, (-9223372036854775808), 9223372036854775807)) ka_41 (by decide) rfl (vp_in_iff.mpr (by decide)) dX1_takeOut_82 (fun v_54 hv_54 => ?_)
  refine jj_aload_n C dX1_takeOut_83 rfl ?_
  refine tt_getF C hok_53 jk_3 1 (by decide) jw_d747bb1560 (t := (1, (-9223372036854775808), 9223372036854775807)) hk0 (by decide) rfl rfl hf_5 dX1_takeOut_84 ?_
  refine jj_aload_n C dX1_takeOut_87 rfl ?_
  refine tt_getF C hok_53 jk_3 4 (by decide) jw_21f29d6c44 (t := (1, (-9223372036854775808), 9223372036854775807)) hk0 (by decide) rfl rfl hf_44 dX1_takeOut_88 ?_
  obtain ⟨y_55, ey_55⟩ : ∃ z : Int64, y_6 + y_45 = z := ⟨_, rfl⟩
  refine jj_ladd (v := y_55) C dX1_takeOut_91 ey_55 ?_
  refine jj_aload_n C dX1_takeOut_92 rfl ?_
  refine tt_getF C hok_53 jk_3 5 (by decide) jw_e41f55c9ce (t := (1, (-9223372036854775808), 9223372036854775807)) hk0 (by decide) rfl rfl hf_48 dX1_takeOut_93 ?_
  obtain ⟨y_56, ey_56⟩ : ∃ z : Int64, y_55 - y_49 = z := ⟨_, rfl⟩
  refine jj_lsub (v := y_56) C dX1_takeOut_96 ey_56 ?_
  obtain ⟨y_57, ey_57⟩ : ∃ z : Int64, v_54 + y_56 = z := ⟨_, rfl⟩
  refine jj_ladd (v := y_57) C dX1_takeOut_97 ey_57 ?_
  refine tl_last C hok_53 (t := (1, (-9223372036854775808), 9223372036854775807)) ka_41 (by decide) rfl (vp_in_iff.mpr (by decide)) (tt_ja _) dX1_takeOut_98 (fun pl_58 hok_59 tr tl => ?_)
  replace hf_5 := tr _ _ _ hf_5
  replace hf_8 := tr _ _ _ hf_8
  replace hf_14 := tr _ _ _ hf_14
  replace hf_21 := tr _ _ _ hf_21
  replace hf_28 := tr _ _ _ hf_28
  replace hf_33 := tr _ _ _ hf_33
  replace hf_38 := tr _ _ _ hf_38
  replace hf_40 := tr _ _ _ hf_40
  replace hf_44 := tr _ _ _ hf_44
  replace hf_48 := tr _ _ _ hf_48
  replace hfr := hfr.arr tr
  replace hfa := hfa.wr ka_41 tl (by decide)
  exact jj_vret C ⟨[], pl_58, rfl, rfl, hok_59, hfr, hfa, rfl⟩ dX1_takeOut_99 (jj_le rfl) (jj_le rfl)

set_option maxHeartbeats 4000000 in
set_option maxRecDepth 100000 in
theorem tc_X1_redeemUnits_1 {l : Launch} (hl : l.stackTraces = false) (D : va_G) (cA : Nat → ClassId) (ak : (Nat → Nat) × (Nat → Nat)) {Kd : Nat → Nat} (h0 : Nat) (h1 : Nat) (p2 : Int32) (p3 : Int64) (hk0 : Kd h0 = 9) (hk1 : Kd h1 = 1) {pl0 : va_W} (hok : tt_ok tt_tk cA Kd pl0) : jj_M l D cA ak yX1_redeemUnits (.code yX1_redeemUnits cX1_redeemUnits 12 (some .long)) 2 54 0 0 ([] ++ pl0) [.ref h0, .ref h1, .int p2, .long p3] (tt_O (fun rx pl1 r => rx = [] ∧ tt_ok tt_tk cA Kd pl1 ∧ tt_fr Kd [(1, 7), (1, 8), (2, 2), (2, 3), (3, 3), (3, 5), (9, 1), (9, 2), (9, 3), (9, 4), (9, 5)] pl0 pl1 ∧ tt_fa Kd [5] pl0 pl1 ∧ ((∃ v : Int64, r = some (.long v))))) (tt_OX (fun _ _ _ => False)) := by
  refine jj_start hl (by decide) jw_3e3b96358f (jj_le rfl) ?_
  intro p e s m args below meth c A hargs hA C hex hmn
  have hfr := tt_fr.refl (K := Kd) (WS := [(1, 7), (1, 8), (2, 2), (2, 3), (3, 3), (3, 5), (9, 1), (9, 2), (9, 3), (9, 4), (9, 5)]) pl0
  have hfa := tt_fa.refl (K := Kd) (WA := [5]) pl0
  have lp2 := tt_lo p2
  have up2 := tt_hi p2
  refine jj_lload_n C dX1_redeemUnits_0 rfl ?_
  refine jj_lstore C dX1_redeemUnits_1 (by decide) rfl ?_
  refine jj_iconst (v := 0) C dX1_redeemUnits_3 (by decide) ?_
  refine jj_istore C dX1_redeemUnits_4 (by decide) rfl ?_
  have hL_1 : ∀ (N : Nat) (pl : va_W) (x_2 : Int32) (y_3 : Int64), True → tt_ok tt_tk cA Kd pl → tt_fr Kd [(1, 7), (1, 8), (2, 2), (2, 3), (3, 3), (3, 5), (9, 1), (9, 2), (9, 3), (9, 4), (9, 5)] pl0 pl → tt_fa Kd [5] pl0 pl → (0 : Int) ≤ x_2.toInt → x_2.toInt ≤ 40 → (2147483648 - x_2.toInt ≤ (N : Int)) → jj_J p l e (jj_rm 2 54 0 0) s m args below meth c 12 A (vx_MQ below (jj_q D A (tt_O (fun rx pl1 r => rx = [] ∧ tt_ok tt_tk cA Kd pl1 ∧ tt_fr Kd [(1, 7), (1, 8), (2, 2), (2, 3), (3, 3), (3, 5), (9, 1), (9, 2), (9, 3), (9, 4), (9, 5)] pl0 pl1 ∧ tt_fa Kd [5] pl0 pl1 ∧ ((∃ v : Int64, r = some (.long v)))))) (jj_x D A (tt_OX (fun _ _ _ => False))) args s 0 0 A) (jj_X D A ([] ++ pl)) 0 0 6 [(7, .int x_2), (5, .long y_3), (0, .ref h0), (1, .ref h1), (2, .int p2), (3, .long p3)] [] := by
    intro NL_1
    induction NL_1 with
    | zero => intro pl x_2 y_3 _ hok hfr hfa lx_2 ux_2 hNL_1; exfalso; omega
    | succ NL_1 ihL_1 =>
      intro pl x_2 y_3 _ hok hfr hfa lx_2 ux_2 hNL_1
      replace ihL_1 := fun pl x_2 y_3 h1 => ihL_1 pl x_2 y_3 trivial h1
      refine jj_iload C dX1_redeemUnits_6 rfl ?_
      refine jj_aload_n C dX1_redeemUnits_8 rfl ?_
      refine tt_get C hok jk_2 8 (by decide) jw_eaf43346a8 (t := (0, 0, 40)) hk1 (by decide) rfl rfl dX1_redeemUnits_9 (fun v_4 hv_4 hf_5 => ?_)
      obtain ⟨x_6, rfl, lx_6, ux_6⟩ := tt_vi hv_4
      refine jj_icmp_ge (tgt := 114) C dX1_redeemUnits_12 (by decide) (fun c_7 => ?_) (fun c_7 => ?_)
      · have z_c_7 := jc_le (a := (x_6).toInt) (b := (x_2).toInt) c_7 rfl rfl
        refine jj_aload_n C dX1_redeemUnits_114 rfl ?_
        obtain ⟨qc, gs, hqc⟩ := tt_recv (cx := []) hok hk1 (by decide) rfl
        refine tt_callV (rest := []) C (tc_X0_dropEmptyLots_1 hl D cA ak h1 hk1 hok) [] [] rfl rfl (by decide) (by decide) (by decide) qc hqc rfl rfl jw_df73fbb9d2 jw_4c160b89cc jw_530d6cba9c jw_7d25d4fd32 jw_a434f13787 jn_X0_dropEmptyLots rfl (jj_le rfl) (jj_le rfl) (jj_le rfl) (jj_le rfl) (jj_le rfl) dX1_redeemUnits_115 rfl (fun _ _ _ hX => hX.elim) (fun rx pl_8 r O_11 => ?_)
        obtain ⟨rfl, hok_9, hr_10, hfa9, hR_13⟩ := O_11
        replace hfr := hfr.trans (hr_10.sub (by decide))
        replace hfa := hfa.trans (hfa9.sub (by decide))
        obtain rfl := hR_13
        refine jj_aload_n C dX1_redeemUnits_118 rfl ?_
        obtain ⟨qc, gs, hqc⟩ := tt_recv (cx := []) hok_9 hk1 (by decide) rfl
        refine tt_callV (rest := []) C (tc_X0_closeEmptySeries_1 hl D cA ak h1 hk1 hok_9) [] [] rfl rfl (by decide) (by decide) (by decide) qc hqc rfl rfl jw_20fbae2be8 jw_dc112f793f jw_3493203194 jw_7d25d4fd32 jw_a8b63f05be jn_X0_closeEmptySeries rfl (jj_le rfl) (jj_le rfl) (jj_le rfl) (jj_le rfl) (jj_le rfl) dX1_redeemUnits_119 rfl (fun _ _ _ hX => hX.elim) (fun rx pl_16 r O_19 => ?_)
        obtain ⟨rfl, hok_17, hr_18, hfa9, hR_21⟩ := O_19
        replace hfr := hfr.trans (hr_18.sub (by decide))
        replace hfa := hfa.trans (hfa9.sub (by decide))
        obtain rfl := hR_21
        refine jj_lload_n C dX1_redeemUnits_122 rfl ?_
        refine jj_lload C dX1_redeemUnits_123 rfl ?_
        obtain ⟨y_24, ey_24⟩ : ∃ z : Int64, p3 - y_3 = z := ⟨_, rfl⟩
        refine jj_lsub (v := y_24) C dX1_redeemUnits_125 ey_24 ?_
        exact jj_lret C ⟨[], pl_16, rfl, rfl, hok_17, hfr, hfa, ⟨y_24, rfl⟩⟩ dX1_redeemUnits_126 (jj_le rfl) (jj_le rfl)
      · have z_c_7 := jc_nle (a := (x_6).toInt) (b := (x_2).toInt) c_7 rfl rfl
        refine jj_lload C dX1_redeemUnits_15 rfl ?_
        refine jj_lconst (v := 0) C dX1_redeemUnits_17 (by decide) ?_
        refine jj_lcmp_le (tgt := 114) C dX1_redeemUnits_18 dX1_redeemUnits_19 (by decide) (fun c_25 => ?_) (fun c_25 => ?_)
        · refine jj_aload_n C dX1_redeemUnits_114 rfl ?_
          obtain ⟨qc, gs, hqc⟩ := tt_recv (cx := []) hok hk1 (by decide) rfl
          refine tt_callV (rest := []) C (tc_X0_dropEmptyLots_1 hl D cA ak h1 hk1 hok) [] [] rfl rfl (by decide) (by decide) (by decide) qc hqc rfl rfl jw_df73fbb9d2 jw_4c160b89cc jw_530d6cba9c jw_7d25d4fd32 jw_a434f13787 jn_X0_dropEmptyLots rfl (jj_le rfl) (jj_le rfl) (jj_le rfl) (jj_le rfl) (jj_le rfl) dX1_redeemUnits_115 rfl (fun _ _ _ hX => hX.elim) (fun rx pl_26 r O_29 => ?_)
          obtain ⟨rfl, hok_27, hr_28, hfa9, hR_31⟩ := O_29
          replace hfr := hfr.trans (hr_28.sub (by decide))
          replace hfa := hfa.trans (hfa9.sub (by decide))
          obtain rfl := hR_31
          refine jj_aload_n C dX1_redeemUnits_118 rfl ?_
          obtain ⟨qc, gs, hqc⟩ := tt_recv (cx := []) hok_27 hk1 (by decide) rfl
          refine tt_callV (rest := []) C (tc_X0_closeEmptySeries_1 hl D cA ak h1 hk1 hok_27) [] [] rfl rfl (by decide) (by decide) (by decide) qc hqc rfl rfl jw_20fbae2be8 jw_dc112f793f jw_3493203194 jw_7d25d4fd32 jw_a8b63f05be jn_X0_closeEmptySeries rfl (jj_le rfl) (jj_le rfl) (jj_le rfl) (jj_le rfl) (jj_le rfl) dX1_redeemUnits_119 rfl (fun _ _ _ hX => hX.elim) (fun rx pl_34 r O_37 => ?_)
          obtain ⟨rfl, hok_35, hr_36, hfa9, hR_39⟩ := O_37
          replace hfr := hfr.trans (hr_36.sub (by decide))
          replace hfa := hfa.trans (hfa9.sub (by decide))
          obtain rfl := hR_39
          refine jj_lload_n C dX1_redeemUnits_122 rfl ?_
          refine jj_lload C dX1_redeemUnits_123 rfl ?_
          obtain ⟨y_42, ey_42⟩ : ∃ z : Int64, p3 - y_3 = z := ⟨_, rfl⟩
          refine jj_lsub (v := y_42) C dX1_redeemUnits_125 ey_42 ?_
          exact jj_lret C ⟨[], pl_34, rfl, rfl, hok_35, hfr, hfa, ⟨y_42, rfl⟩⟩ dX1_redeemUnits_126 (jj_le rfl) (jj_le rfl)
        · refine jj_aload_n C dX1_redeemUnits_22 rfl ?_
          refine tt_get C hok jk_2 12 (by decide) jw_41d1bd2a61 (t := (2, 7, 0)) hk1 (by decide) rfl rfl dX1_redeemUnits_23 (fun v_43 hv_43 hf_44 => ?_)
          obtain ⟨a_45, rfl, ka_45⟩ := tt_vr hv_43
          refine jj_iload C dX1_redeemUnits_26 rfl ?_
          refine tt_aald C hok (t := (2, 3, 0)) ka_45 (by decide) rfl rfl rfl (vp_in_iff.mpr ⟨by omega, by omega⟩) dX1_redeemUnits_28 (fun v_46 hv_46 => ?_)
          obtain ⟨a_47, rfl, ka_47⟩ := tt_vr hv_46
          refine jj_astore C dX1_redeemUnits_29 (by decide) rfl ?_
          refine jj_aload_n C dX1_redeemUnits_31 rfl ?_
          refine jj_aload C dX1_redeemUnits_32 rfl ?_
          refine tt_get C hok jk_5 1 (by decide) jw_85587ec127 (t := (0, (-2147483648), 2147483647)) ka_47 (by decide) rfl rfl dX1_redeemUnits_34 (fun v_48 hv_48 hf_49 => ?_)
          obtain ⟨x_50, rfl, lx_50, ux_50⟩ := tt_vi hv_48
          obtain ⟨qc, gs, hqc⟩ := tt_recv (cx := []) hok hk1 (by decide) rfl
          refine tt_callV (rest := []) C (tc_X0_placeOfSeries_1 hl D cA ak h1 x_50 hk1 hok) [] [] rfl rfl (by decide) (by decide) (by decide) qc hqc rfl rfl jw_bb838ff949 jw_0061c834c4 jw_a3c4f03cad jw_7d25d4fd32 jw_3fe68be2d3 jn_X0_placeOfSeries rfl (jj_le rfl) (jj_le rfl) (jj_le rfl) (jj_le rfl) (jj_le rfl) dX1_redeemUnits_37 rfl (fun _ _ _ hX => hX.elim) (fun rx pl_51 r O_54 => ?_)
          obtain ⟨rfl, hok_52, hr_53, hfa9, hR_56⟩ := O_54
          replace hf_5 := hr_53.at hk1 (by decide) (by decide) hf_5
          replace hf_44 := hr_53.at hk1 (by decide) (by decide) hf_44
          replace hf_49 := hr_53.at ka_47 (by decide) (by decide) hf_49
          replace hfr := hfr.trans (hr_53.sub (by decide))
          replace hfa := hfa.trans (hfa9.sub (by decide))
          rcases hR_56 with rfl | ⟨x_59, lx_59, ux_59, rfl⟩
          · refine jj_istore C dX1_redeemUnits_40 (by decide) rfl ?_
            refine jj_aload C dX1_redeemUnits_42 rfl ?_
            refine tt_get C hok_52 jk_5 0 (by decide) jw_a8c98ef318 (t := (0, (-2147483648), 2147483647)) ka_47 (by decide) rfl rfl dX1_redeemUnits_44 (fun v_60 hv_60 hf_61 => ?_)
            obtain ⟨x_62, rfl, lx_62, ux_62⟩ := tt_vi hv_60
            refine jj_iload_n C dX1_redeemUnits_47 rfl ?_
            refine jj_icmp_ne (tgt := 108) C dX1_redeemUnits_48 (by decide) (fun c_63 => ?_) (fun c_63 => ?_)
            · have z_c_63 := jc_neq (a := (x_62).toInt) (b := (p2).toInt) c_63 rfl rfl
              obtain ⟨x_64, ex_64, vx_64⟩ := tt_inc (x := x_2) (n := 1) (by omega) (by omega)
              refine jj_iinc (v := x_64) C dX1_redeemUnits_108 rfl ex_64 (by decide) rfl ?_
              refine jj_goto (tgt := 6) C dX1_redeemUnits_111 (by decide) ?_
              refine jj_loc [0, 3, 4, 5, 6, 7] rfl ?_
              exact ihL_1 pl_51 x_64 y_3 hok_52 hfr hfa (by first | omega | decide | exact tt_lo _ | exact tt_hi _) (by first | omega | decide | exact tt_lo _ | exact tt_hi _) (by first | omega | decide | exact tt_lo _ | exact tt_hi _)
            · have z_c_63 := jc_eq (a := (x_62).toInt) (b := (p2).toInt) c_63 rfl rfl
              refine jj_iload C dX1_redeemUnits_51 rfl ?_
              refine jj_iconst (v := (-1)) C dX1_redeemUnits_53 (by decide) ?_
              refine jj_icmp_eqT (tgt := 108) C dX1_redeemUnits_54 (by decide) (by decide) ?_
              obtain ⟨x_65, ex_65, vx_65⟩ := tt_inc (x := x_2) (n := 1) (by omega) (by omega)
              refine jj_iinc (v := x_65) C dX1_redeemUnits_108 rfl ex_65 (by decide) rfl ?_
              refine jj_goto (tgt := 6) C dX1_redeemUnits_111 (by decide) ?_
              refine jj_loc [0, 3, 4, 5, 6, 7] rfl ?_
              exact ihL_1 pl_51 x_65 y_3 hok_52 hfr hfa (by first | omega | decide | exact tt_lo _ | exact tt_hi _) (by first | omega | decide | exact tt_lo _ | exact tt_hi _) (by first | omega | decide | exact tt_lo _ | exact tt_hi _)
          · refine jj_istore C dX1_redeemUnits_40 (by decide) rfl ?_
            refine jj_aload C dX1_redeemUnits_42 rfl ?_
            refine tt_get C hok_52 jk_5 0 (by decide) jw_a8c98ef318 (t := (0, (-2147483648), 2147483647)) ka_47 (by decide) rfl rfl dX1_redeemUnits_44 (fun v_66 hv_66 hf_67 => ?_)
            obtain ⟨x_68, rfl, lx_68, ux_68⟩ := tt_vi hv_66
            refine jj_iload_n C dX1_redeemUnits_47 rfl ?_
            refine jj_icmp_ne (tgt := 108) C dX1_redeemUnits_48 (by decide) (fun c_69 => ?_) (fun c_69 => ?_)
            · have z_c_69 := jc_neq (a := (x_68).toInt) (b := (p2).toInt) c_69 rfl rfl
              obtain ⟨x_70, ex_70, vx_70⟩ := tt_inc (x := x_2) (n := 1) (by omega) (by omega)
              refine jj_iinc (v := x_70) C dX1_redeemUnits_108 rfl ex_70 (by decide) rfl ?_
              refine jj_goto (tgt := 6) C dX1_redeemUnits_111 (by decide) ?_
              refine jj_loc [0, 3, 4, 5, 6, 7] rfl ?_
              exact ihL_1 pl_51 x_70 y_3 hok_52 hfr hfa (by first | omega | decide | exact tt_lo _ | exact tt_hi _) (by first | omega | decide | exact tt_lo _ | exact tt_hi _) (by first | omega | decide | exact tt_lo _ | exact tt_hi _)
            · have z_c_69 := jc_eq (a := (x_68).toInt) (b := (p2).toInt) c_69 rfl rfl
              refine jj_iload C dX1_redeemUnits_51 rfl ?_
              refine jj_iconst (v := (-1)) C dX1_redeemUnits_53 (by decide) ?_
              refine jj_icmp_eq (tgt := 108) C dX1_redeemUnits_54 (by decide) (fun c_71 => ?_) (fun c_71 => ?_)
              · have z_c_71 := jc_eq (a := (x_59).toInt) (b := (-1)) c_71 rfl (by decide)
                exfalso; omega
              · have z_c_71 := jc_neq (a := (x_59).toInt) (b := (-1)) c_71 rfl (by decide)
                refine jj_lload C dX1_redeemUnits_57 rfl ?_
                refine jj_aload C dX1_redeemUnits_59 rfl ?_
                refine tt_get C hok_52 jk_5 3 (by decide) jw_fcb072e0d9 (t := (1, (-9223372036854775808), 9223372036854775807)) ka_47 (by decide) rfl rfl dX1_redeemUnits_61 (fun v_72 hv_72 hf_73 => ?_)
                obtain ⟨y_74, rfl, -, -⟩ := tt_vj hv_72
                refine tt_call0S (rest := []) C (ct_J9_min_f86c9_1 hl D cA ak y_3 y_74) jw_fa02caeb63 jw_a0cddbe894 jw_a731c8553d jw_e0e7ffaaeb jn_J9_min_f86c9 rfl (jj_le rfl) (jj_le rfl) (jj_le rfl) (jj_le rfl) (jj_le rfl) dX1_redeemUnits_64 rfl (fun w1 r O_75 => ?_)
                rcases O_75 with ⟨c_76, -, rfl⟩ | ⟨c_77, -, rfl⟩
                · refine jj_lstore C dX1_redeemUnits_67 (by decide) rfl ?_
                  refine jj_aload_n C dX1_redeemUnits_69 rfl ?_
                  refine jj_aload_n C dX1_redeemUnits_70 rfl ?_
                  refine jj_aload_n C dX1_redeemUnits_71 rfl ?_
                  refine tt_get C hok_52 jk_2 11 (by decide) jw_56984fd307 (t := (2, 6, 0)) hk1 (by decide) rfl rfl dX1_redeemUnits_72 (fun v_78 hv_78 hf_79 => ?_)
                  obtain ⟨a_80, rfl, ka_80⟩ := tt_vr hv_78
                  refine jj_iload C dX1_redeemUnits_75 rfl ?_
                  refine tt_aald C hok_52 (t := (2, 2, 0)) ka_80 (by decide) rfl rfl rfl (vp_in_iff.mpr ⟨by omega, by omega⟩) dX1_redeemUnits_77 (fun v_81 hv_81 => ?_)
                  obtain ⟨a_82, rfl, ka_82⟩ := tt_vr hv_81
                  refine jj_aload C dX1_redeemUnits_78 rfl ?_
                  refine jj_lload C dX1_redeemUnits_80 rfl ?_
                  obtain ⟨qc, gs, hqc⟩ := tt_recv (cx := []) hok_52 hk0 (by decide) rfl
                  refine tt_callV (rest := []) C (tc_X1_quote_1 hl D cA ak h0 h1 a_82 a_47 y_74 hk0 hk1 ka_82 ka_47 hok_52) [] [] rfl rfl (by decide) (by decide) (by decide) qc hqc rfl rfl jw_1832e55719 jw_b1f9248fb6 jw_6c091437de jw_944cf9c3ab jw_9a9d59d9b6 jn_X1_quote rfl (jj_le rfl) (jj_le rfl) (jj_le rfl) (jj_le rfl) (jj_le rfl) dX1_redeemUnits_82 rfl (fun _ _ _ hX => hX.elim) (fun rx pl_83 r O_86 => ?_)
                  obtain ⟨rfl, hok_84, hr_85, hfa9, hR_88⟩ := O_86
                  replace hf_5 := hr_85.at hk1 (by decide) (by decide) hf_5
                  replace hf_44 := hr_85.at hk1 (by decide) (by decide) hf_44
                  replace hf_49 := hr_85.at ka_47 (by decide) (by decide) hf_49
                  replace hf_67 := hr_85.at ka_47 (by decide) (by decide) hf_67
                  replace hf_73 := hr_85.at ka_47 (by decide) (by decide) hf_73
                  replace hf_79 := hr_85.at hk1 (by decide) (by decide) hf_79
                  replace hfr := hfr.trans (hr_85.sub (by decide))
                  replace hfa := hfa.trans (hfa9.sub (by decide))
                  obtain rfl := hR_88
                  refine jj_aload_n C dX1_redeemUnits_85 rfl ?_
                  refine jj_aload_n C dX1_redeemUnits_86 rfl ?_
                  refine jj_aload_n C dX1_redeemUnits_87 rfl ?_
                  refine tt_getF C hok_84 jk_2 11 (by decide) jw_56984fd307 (t := (2, 6, 0)) hk1 (by decide) rfl rfl hf_79 dX1_redeemUnits_88 ?_
                  refine jj_iload C dX1_redeemUnits_91 rfl ?_
                  refine tt_aald C hok_84 (t := (2, 2, 0)) ka_80 (by decide) rfl rfl rfl (vp_in_iff.mpr ⟨by omega, by omega⟩) dX1_redeemUnits_93 (fun v_91 hv_91 => ?_)
                  obtain ⟨a_92, rfl, ka_92⟩ := tt_vr hv_91
                  refine jj_aload C dX1_redeemUnits_94 rfl ?_
                  refine jj_lload C dX1_redeemUnits_96 rfl ?_
                  obtain ⟨qc, gs, hqc⟩ := tt_recv (cx := []) hok_84 hk0 (by decide) rfl
                  refine tt_callV (rest := []) C (tc_X1_takeOut_1 hl D cA ak h0 h1 a_92 a_47 y_74 hk0 hk1 ka_92 ka_47 hok_84) [] [] rfl rfl (by decide) (by decide) (by decide) qc hqc rfl rfl jw_76246e00a3 jw_81cb4c6f28 jw_4b742d2228 jw_944cf9c3ab jw_c6c6c8654b jn_X1_takeOut rfl (jj_le rfl) (jj_le rfl) (jj_le rfl) (jj_le rfl) (jj_le rfl) dX1_redeemUnits_98 rfl (fun _ _ _ hX => hX.elim) (fun rx pl_93 r O_96 => ?_)
                  obtain ⟨rfl, hok_94, hr_95, hfa9, hR_98⟩ := O_96
                  replace hf_5 := hr_95.at hk1 (by decide) (by decide) hf_5
                  replace hf_44 := hr_95.at hk1 (by decide) (by decide) hf_44
                  replace hf_49 := hr_95.at ka_47 (by decide) (by decide) hf_49
                  replace hf_67 := hr_95.at ka_47 (by decide) (by decide) hf_67
                  replace hf_79 := hr_95.at hk1 (by decide) (by decide) hf_79
                  replace hfr := hfr.trans (hr_95.sub (by decide))
                  replace hfa := hfa.trans (hfa9.sub (by decide))
                  obtain rfl := hR_98
                  refine jj_lload C dX1_redeemUnits_101 rfl ?_
                  refine jj_lload C dX1_redeemUnits_103 rfl ?_
                  obtain ⟨y_101, ey_101⟩ : ∃ z : Int64, y_3 - y_74 = z := ⟨_, rfl⟩
                  refine jj_lsub (v := y_101) C dX1_redeemUnits_105 ey_101 ?_
                  refine jj_lstore C dX1_redeemUnits_106 (by decide) rfl ?_
                  obtain ⟨x_102, ex_102, vx_102⟩ := tt_inc (x := x_2) (n := 1) (by omega) (by omega)
                  refine jj_iinc (v := x_102) C dX1_redeemUnits_108 rfl ex_102 (by decide) rfl ?_
                  refine jj_goto (tgt := 6) C dX1_redeemUnits_111 (by decide) ?_
                  refine jj_loc [0, 1, 5, 6, 7, 8] rfl ?_
                  exact ihL_1 pl_93 x_102 y_101 hok_94 hfr hfa (by first | omega | decide | exact tt_lo _ | exact tt_hi _) (by first | omega | decide | exact tt_lo _ | exact tt_hi _) (by first | omega | decide | exact tt_lo _ | exact tt_hi _)
                · refine jj_lstore C dX1_redeemUnits_67 (by decide) rfl ?_
                  refine jj_aload_n C dX1_redeemUnits_69 rfl ?_
                  refine jj_aload_n C dX1_redeemUnits_70 rfl ?_
                  refine jj_aload_n C dX1_redeemUnits_71 rfl ?_
                  refine tt_get C hok_52 jk_2 11 (by decide) jw_56984fd307 (t := (2, 6, 0)) hk1 (by decide) rfl rfl dX1_redeemUnits_72 (fun v_103 hv_103 hf_104 => ?_)
                  obtain ⟨a_105, rfl, ka_105⟩ := tt_vr hv_103
                  refine jj_iload C dX1_redeemUnits_75 rfl ?_
                  refine tt_aald C hok_52 (t := (2, 2, 0)) ka_105 (by decide) rfl rfl rfl (vp_in_iff.mpr ⟨by omega, by omega⟩) dX1_redeemUnits_77 (fun v_106 hv_106 => ?_)
                  obtain ⟨a_107, rfl, ka_107⟩ := tt_vr hv_106
                  refine jj_aload C dX1_redeemUnits_78 rfl ?_
                  refine jj_lload C dX1_redeemUnits_80 rfl ?_
                  obtain ⟨qc, gs, hqc⟩ := tt_recv (cx := []) hok_52 hk0 (by decide) rfl
                  refine tt_callV (rest := []) C (tc_X1_quote_1 hl D cA ak h0 h1 a_107 a_47 y_3 hk0 hk1 ka_107 ka_47 hok_52) [] [] rfl rfl (by decide) (by decide) (by decide) qc hqc rfl rfl jw_1832e55719 jw_b1f9248fb6 jw_6c091437de jw_944cf9c3ab jw_9a9d59d9b6 jn_X1_quote rfl (jj_le rfl) (jj_le rfl) (jj_le rfl) (jj_le rfl) (jj_le rfl) dX1_redeemUnits_82 rfl (fun _ _ _ hX => hX.elim) (fun rx pl_108 r O_111 => ?_)
                  obtain ⟨rfl, hok_109, hr_110, hfa9, hR_113⟩ := O_111
                  replace hf_5 := hr_110.at hk1 (by decide) (by decide) hf_5
                  replace hf_44 := hr_110.at hk1 (by decide) (by decide) hf_44
                  replace hf_49 := hr_110.at ka_47 (by decide) (by decide) hf_49
                  replace hf_67 := hr_110.at ka_47 (by decide) (by decide) hf_67
                  replace hf_73 := hr_110.at ka_47 (by decide) (by decide) hf_73
                  replace hf_104 := hr_110.at hk1 (by decide) (by decide) hf_104
                  replace hfr := hfr.trans (hr_110.sub (by decide))
                  replace hfa := hfa.trans (hfa9.sub (by decide))
                  obtain rfl := hR_113
                  refine jj_aload_n C dX1_redeemUnits_85 rfl ?_
                  refine jj_aload_n C dX1_redeemUnits_86 rfl ?_
                  refine jj_aload_n C dX1_redeemUnits_87 rfl ?_
                  refine tt_getF C hok_109 jk_2 11 (by decide) jw_56984fd307 (t := (2, 6, 0)) hk1 (by decide) rfl rfl hf_104 dX1_redeemUnits_88 ?_
                  refine jj_iload C dX1_redeemUnits_91 rfl ?_
                  refine tt_aald C hok_109 (t := (2, 2, 0)) ka_105 (by decide) rfl rfl rfl (vp_in_iff.mpr ⟨by omega, by omega⟩) dX1_redeemUnits_93 (fun v_116 hv_116 => ?_)
                  obtain ⟨a_117, rfl, ka_117⟩ := tt_vr hv_116
                  refine jj_aload C dX1_redeemUnits_94 rfl ?_
                  refine jj_lload C dX1_redeemUnits_96 rfl ?_
                  obtain ⟨qc, gs, hqc⟩ := tt_recv (cx := []) hok_109 hk0 (by decide) rfl
                  refine tt_callV (rest := []) C (tc_X1_takeOut_1 hl D cA ak h0 h1 a_117 a_47 y_3 hk0 hk1 ka_117 ka_47 hok_109) [] [] rfl rfl (by decide) (by decide) (by decide) qc hqc rfl rfl jw_76246e00a3 jw_81cb4c6f28 jw_4b742d2228 jw_944cf9c3ab jw_c6c6c8654b jn_X1_takeOut rfl (jj_le rfl) (jj_le rfl) (jj_le rfl) (jj_le rfl) (jj_le rfl) dX1_redeemUnits_98 rfl (fun _ _ _ hX => hX.elim) (fun rx pl_118 r O_121 => ?_)
                  obtain ⟨rfl, hok_119, hr_120, hfa9, hR_123⟩ := O_121
                  replace hf_5 := hr_120.at hk1 (by decide) (by decide) hf_5
                  replace hf_44 := hr_120.at hk1 (by decide) (by decide) hf_44
                  replace hf_49 := hr_120.at ka_47 (by decide) (by decide) hf_49
                  replace hf_67 := hr_120.at ka_47 (by decide) (by decide) hf_67
                  replace hf_104 := hr_120.at hk1 (by decide) (by decide) hf_104
                  replace hfr := hfr.trans (hr_120.sub (by decide))
                  replace hfa := hfa.trans (hfa9.sub (by decide))
                  obtain rfl := hR_123
                  refine jj_lload C dX1_redeemUnits_101 rfl ?_
                  refine jj_lload C dX1_redeemUnits_103 rfl ?_
                  obtain ⟨y_126, ey_126⟩ : ∃ z : Int64, y_3 - y_3 = z := ⟨_, rfl⟩
                  refine jj_lsub (v := y_126) C dX1_redeemUnits_105 ey_126 ?_
                  refine jj_lstore C dX1_redeemUnits_106 (by decide) rfl ?_
                  obtain ⟨x_127, ex_127, vx_127⟩ := tt_inc (x := x_2) (n := 1) (by omega) (by omega)
                  refine jj_iinc (v := x_127) C dX1_redeemUnits_108 rfl ex_127 (by decide) rfl ?_
                  refine jj_goto (tgt := 6) C dX1_redeemUnits_111 (by decide) ?_
                  refine jj_loc [0, 1, 5, 6, 7, 8] rfl ?_
                  exact ihL_1 pl_118 x_127 y_126 hok_119 hfr hfa (by first | omega | decide | exact tt_lo _ | exact tt_hi _) (by first | omega | decide | exact tt_lo _ | exact tt_hi _) (by first | omega | decide | exact tt_lo _ | exact tt_hi _)
  exact hL_1 _ pl0 (0 : Int32) p3 trivial hok hfr hfa (by first | omega | decide | exact tt_lo _ | exact tt_hi _) (by first | omega | decide | exact tt_lo _ | exact tt_hi _) (Int.self_le_toNat _)

set_option maxHeartbeats 4000000 in
set_option maxRecDepth 100000 in
theorem tc_X1_redeemWaiting_1 {l : Launch} (hl : l.stackTraces = false) (D : va_G) (cA : Nat → ClassId) (ak : (Nat → Nat) × (Nat → Nat)) {Kd : Nat → Nat} (h0 : Nat) (h1 : Nat) (p2 : Int64) (hk0 : Kd h0 = 9) (hk1 : Kd h1 = 1) {pl0 : va_W} (hok : tt_ok tt_tk cA Kd pl0) : jj_M l D cA ak yX1_redeemWaiting (.code yX1_redeemWaiting cX1_redeemWaiting 10 none) 3 85 0 0 ([] ++ pl0) [.ref h0, .ref h1, .long p2] (tt_O (fun rx pl1 r => rx = [] ∧ tt_ok tt_tk cA Kd pl1 ∧ tt_fr Kd [(1, 7), (1, 8), (2, 2), (2, 3), (3, 3), (3, 5), (4, 3), (4, 4), (9, 1), (9, 2), (9, 3), (9, 4), (9, 5)] pl0 pl1 ∧ tt_fa Kd [5] pl0 pl1 ∧ ((r = none)))) (tt_OX (fun _ _ _ => False)) := by
  refine jj_start hl (by decide) jw_4b6b3c5714 (jj_le rfl) ?_
  intro p e s m args below meth c A hargs hA C hex hmn
  have hfr := tt_fr.refl (K := Kd) (WS := [(1, 7), (1, 8), (2, 2), (2, 3), (3, 3), (3, 5), (4, 3), (4, 4), (9, 1), (9, 2), (9, 3), (9, 4), (9, 5)]) pl0
  have hfa := tt_fa.refl (K := Kd) (WA := [5]) pl0
  refine jj_aload_n C dX1_redeemWaiting_0 rfl ?_
  obtain ⟨qc, gs, hqc⟩ := tt_recv (cx := []) hok hk1 (by decide) rfl
  refine tt_callV (rest := []) C (tc_X0_limitOfGate_1 hl D cA ak h1 hk1 hok) [] [] rfl rfl (by decide) (by decide) (by decide) qc hqc rfl rfl jw_15296f1f2f jw_8472f5b5d1 jw_62703c61d4 jw_7d25d4fd32 jw_2cb5ab9c9b jn_X0_limitOfGate rfl (jj_le rfl) (jj_le rfl) (jj_le rfl) (jj_le rfl) (jj_le rfl) dX1_redeemWaiting_1 rfl (fun _ _ _ hX => hX.elim) (fun rx pl_1 r O_4 => ?_)
  obtain ⟨rfl, hok_2, hr_3, hfa9, hR_6⟩ := O_4
  replace hfr := hfr.trans (hr_3.sub (by decide))
  replace hfa := hfa.trans (hfa9.sub (by decide))
  obtain ⟨y_9, rfl⟩ := hR_6
  refine jj_lstore C dX1_redeemWaiting_4 (by decide) rfl ?_
  refine jj_iconst (v := 0) C dX1_redeemWaiting_6 (by decide) ?_
  refine jj_istore C dX1_redeemWaiting_7 (by decide) rfl ?_
  have hL_10 : ∀ (N : Nat) (pl : va_W) (x_11 : Int32), True → tt_ok tt_tk cA Kd pl → tt_fr Kd [(1, 7), (1, 8), (2, 2), (2, 3), (3, 3), (3, 5), (4, 3), (4, 4), (9, 1), (9, 2), (9, 3), (9, 4), (9, 5)] pl0 pl → tt_fa Kd [5] pl0 pl → (0 : Int) ≤ x_11.toInt → x_11.toInt ≤ 12 → (2147483648 - x_11.toInt ≤ (N : Int)) → jj_J p l e (jj_rm 3 85 0 0) s m args below meth c 10 A (vx_MQ below (jj_q D A (tt_O (fun rx pl1 r => rx = [] ∧ tt_ok tt_tk cA Kd pl1 ∧ tt_fr Kd [(1, 7), (1, 8), (2, 2), (2, 3), (3, 3), (3, 5), (4, 3), (4, 4), (9, 1), (9, 2), (9, 3), (9, 4), (9, 5)] pl0 pl1 ∧ tt_fa Kd [5] pl0 pl1 ∧ ((r = none))))) (jj_x D A (tt_OX (fun _ _ _ => False))) args s 0 0 A) (jj_X D A ([] ++ pl)) 0 0 9 [(6, .int x_11), (4, .long y_9), (0, .ref h0), (1, .ref h1), (2, .long p2)] [] := by
    intro NL_10
    induction NL_10 with
    | zero => intro pl x_11 _ hok hfr hfa lx_11 ux_11 hNL_10; exfalso; omega
    | succ NL_10 ihL_10 =>
      intro pl x_11 _ hok hfr hfa lx_11 ux_11 hNL_10
      replace ihL_10 := fun pl x_11 h1 => ihL_10 pl x_11 trivial h1
      refine jj_iload C dX1_redeemWaiting_9 rfl ?_
      refine jj_aload_n C dX1_redeemWaiting_11 rfl ?_
      refine tt_get C hok jk_2 9 (by decide) jw_106092f028 (t := (0, 0, 12)) hk1 (by decide) rfl rfl dX1_redeemWaiting_12 (fun v_12 hv_12 hf_13 => ?_)
      obtain ⟨x_14, rfl, lx_14, ux_14⟩ := tt_vi hv_12
      refine jj_icmp_ge (tgt := 99) C dX1_redeemWaiting_15 (by decide) (fun c_15 => ?_) (fun c_15 => ?_)
      · have z_c_15 := jc_le (a := (x_14).toInt) (b := (x_11).toInt) c_15 rfl rfl
        refine jj_iconst (v := 0) C dX1_redeemWaiting_99 (by decide) ?_
        refine jj_istore C dX1_redeemWaiting_100 (by decide) rfl ?_
        have hL_16 : ∀ (N : Nat) (pl : va_W) (x_17 : Int32), True → tt_ok tt_tk cA Kd pl → tt_fr Kd [(1, 7), (1, 8), (2, 2), (2, 3), (3, 3), (3, 5), (4, 3), (4, 4), (9, 1), (9, 2), (9, 3), (9, 4), (9, 5)] pl0 pl → tt_fa Kd [5] pl0 pl → tt_at pl h1 9 (.int x_14) → (0 : Int) ≤ x_17.toInt → x_17.toInt ≤ 12 → (2147483648 - x_17.toInt ≤ (N : Int)) → jj_J p l e (jj_rm 3 85 0 0) s m args below meth c 10 A (vx_MQ below (jj_q D A (tt_O (fun rx pl1 r => rx = [] ∧ tt_ok tt_tk cA Kd pl1 ∧ tt_fr Kd [(1, 7), (1, 8), (2, 2), (2, 3), (3, 3), (3, 5), (4, 3), (4, 4), (9, 1), (9, 2), (9, 3), (9, 4), (9, 5)] pl0 pl1 ∧ tt_fa Kd [5] pl0 pl1 ∧ ((r = none))))) (jj_x D A (tt_OX (fun _ _ _ => False))) args s 0 0 A) (jj_X D A ([] ++ pl)) 0 0 102 [(6, .int x_17), (4, .long y_9), (0, .ref h0), (1, .ref h1), (2, .long p2)] [] := by
          intro NL_16
          induction NL_16 with
          | zero => intro pl x_17 _ hok hfr hfa hf_18 lx_17 ux_17 hNL_16; exfalso; omega
          | succ NL_16 ihL_16 =>
            intro pl x_17 _ hok hfr hfa hf_18 lx_17 ux_17 hNL_16
            replace ihL_16 := fun pl x_17 h1 => ihL_16 pl x_17 trivial h1
            refine jj_iload C dX1_redeemWaiting_102 rfl ?_
            refine jj_aload_n C dX1_redeemWaiting_104 rfl ?_
            refine tt_getF C hok jk_2 9 (by decide) jw_106092f028 (t := (0, 0, 12)) hk1 (by decide) rfl rfl hf_18 dX1_redeemWaiting_105 ?_
            refine jj_icmp_ge (tgt := 154) C dX1_redeemWaiting_108 (by decide) (fun c_19 => ?_) (fun c_19 => ?_)
            · have z_c_19 := jc_le (a := (x_14).toInt) (b := (x_17).toInt) c_19 rfl rfl
              exact jj_vret C ⟨[], pl, rfl, rfl, hok, hfr, hfa, rfl⟩ dX1_redeemWaiting_154 (jj_le rfl) (jj_le rfl)
            · have z_c_19 := jc_nle (a := (x_14).toInt) (b := (x_17).toInt) c_19 rfl rfl
              refine jj_aload_n C dX1_redeemWaiting_111 rfl ?_
              refine tt_get C hok jk_2 13 (by decide) jw_cb3eb05d91 (t := (2, 8, 0)) hk1 (by decide) rfl rfl dX1_redeemWaiting_112 (fun v_20 hv_20 hf_21 => ?_)
              obtain ⟨a_22, rfl, ka_22⟩ := tt_vr hv_20
              refine jj_iload C dX1_redeemWaiting_115 rfl ?_
              refine tt_aald C hok (t := (2, 4, 0)) ka_22 (by decide) rfl rfl rfl (vp_in_iff.mpr ⟨by omega, by omega⟩) dX1_redeemWaiting_117 (fun v_23 hv_23 => ?_)
              obtain ⟨a_24, rfl, ka_24⟩ := tt_vr hv_23
              refine jj_astore C dX1_redeemWaiting_118 (by decide) rfl ?_
              refine jj_aload C dX1_redeemWaiting_120 rfl ?_
              refine tt_get C hok jk_7 2 (by decide) jw_500886c681 (t := (0, 0, 1)) ka_24 (by decide) rfl rfl dX1_redeemWaiting_122 (fun v_25 hv_25 hf_26 => ?_)
              obtain ⟨x_27, rfl, lx_27, ux_27⟩ := tt_vi hv_25
              refine jj_if_eq (tgt := 148) C dX1_redeemWaiting_125 (by decide) (fun c_28 => ?_) (fun c_28 => ?_)
              · have z_c_28 := jc_eq (a := (x_27).toInt) (b := (0)) c_28 rfl (by decide)
                obtain ⟨x_29, ex_29, vx_29⟩ := tt_inc (x := x_17) (n := 1) (by omega) (by omega)
                refine jj_iinc (v := x_29) C dX1_redeemWaiting_148 rfl ex_29 (by decide) rfl ?_
                refine jj_goto (tgt := 102) C dX1_redeemWaiting_151 (by decide) ?_
                refine jj_loc [0, 2, 3, 4, 5] rfl ?_
                exact ihL_16 pl x_29 hok hfr hfa hf_18 (by first | omega | decide | exact tt_lo _ | exact tt_hi _) (by first | omega | decide | exact tt_lo _ | exact tt_hi _) (by first | omega | decide | exact tt_lo _ | exact tt_hi _)
              · have z_c_28 := jc_neq (a := (x_27).toInt) (b := (0)) c_28 rfl (by decide)
                refine jj_aload_n C dX1_redeemWaiting_128 rfl ?_
                refine jj_aload C dX1_redeemWaiting_129 rfl ?_
                refine tt_get C hok jk_7 0 (by decide) jw_ca00009e69 (t := (0, (-2147483648), 2147483647)) ka_24 (by decide) rfl rfl dX1_redeemWaiting_131 (fun v_30 hv_30 hf_31 => ?_)
                obtain ⟨x_32, rfl, lx_32, ux_32⟩ := tt_vi hv_30
                obtain ⟨qc, gs, hqc⟩ := tt_recv (cx := []) hok hk1 (by decide) rfl
                refine tt_callV (rest := []) C (tc_X0_unitsHeldBy_1 hl D cA ak h1 x_32 hk1 hok) [] [] rfl rfl (by decide) (by decide) (by decide) qc hqc rfl rfl jw_1492bd14bf jw_473d3625aa jw_4058f4329f jw_7d25d4fd32 jw_325e36afd1 jn_X0_unitsHeldBy rfl (jj_le rfl) (jj_le rfl) (jj_le rfl) (jj_le rfl) (jj_le rfl) dX1_redeemWaiting_134 rfl (fun _ _ _ hX => hX.elim) (fun rx pl_33 r O_36 => ?_)
                obtain ⟨rfl, hok_34, hr_35, hfa9, hR_38⟩ := O_36
                replace hf_18 := hr_35.at hk1 (by decide) (by decide) hf_18
                replace hf_21 := hr_35.at hk1 (by decide) (by decide) hf_21
                replace hf_26 := hr_35.at ka_24 (by decide) (by decide) hf_26
                replace hf_31 := hr_35.at ka_24 (by decide) (by decide) hf_31
                replace hfr := hfr.trans (hr_35.sub (by decide))
                replace hfa := hfa.trans (hfa9.sub (by decide))
                obtain ⟨y_41, rfl⟩ := hR_38
                refine jj_lconst (v := 0) C dX1_redeemWaiting_137 (by decide) ?_
                refine jj_lcmp_ne (tgt := 148) C dX1_redeemWaiting_138 dX1_redeemWaiting_139 (by decide) (fun c_42 => ?_) (fun c_42 => ?_)
                · obtain ⟨x_43, ex_43, vx_43⟩ := tt_inc (x := x_17) (n := 1) (by omega) (by omega)
                  refine jj_iinc (v := x_43) C dX1_redeemWaiting_148 rfl ex_43 (by decide) rfl ?_
                  refine jj_goto (tgt := 102) C dX1_redeemWaiting_151 (by decide) ?_
                  refine jj_loc [0, 2, 3, 4, 5] rfl ?_
                  exact ihL_16 pl_33 x_43 hok_34 hfr hfa hf_18 (by first | omega | decide | exact tt_lo _ | exact tt_hi _) (by first | omega | decide | exact tt_lo _ | exact tt_hi _) (by first | omega | decide | exact tt_lo _ | exact tt_hi _)
                · refine jj_aload C dX1_redeemWaiting_142 rfl ?_
                  refine jj_lconst (v := 0) C dX1_redeemWaiting_144 (by decide) ?_
                  refine rl_put C hok_34 jk_7 3 (by decide) jw_1a2f98b2b0 (t := (1, (-9223372036854775808), 9223372036854775807)) ka_24 (by decide) rfl rfl rfl (tt_ja (0 : Int64)) rfl rfl dX1_redeemWaiting_145 (fun pl_44 hok_45 tr hn tl => ?_)
                  replace hf_18 := tr _ _ _ (Or.inl (tt_ne hk1 ka_24 (by decide))) hf_18
                  replace hf_21 := tr _ _ _ (Or.inl (tt_ne hk1 ka_24 (by decide))) hf_21
                  replace hf_26 := tr _ _ _ (Or.inr (by decide)) hf_26
                  replace hf_31 := tr _ _ _ (Or.inr (by decide)) hf_31
                  have hf_46 := hn
                  replace hfr := hfr.put ka_24 tr (by decide)
                  replace hfa := hfa.all tl
                  obtain ⟨x_47, ex_47, vx_47⟩ := tt_inc (x := x_17) (n := 1) (by omega) (by omega)
                  refine jj_iinc (v := x_47) C dX1_redeemWaiting_148 rfl ex_47 (by decide) rfl ?_
                  refine jj_goto (tgt := 102) C dX1_redeemWaiting_151 (by decide) ?_
                  refine jj_loc [0, 2, 3, 4, 5] rfl ?_
                  exact ihL_16 pl_44 x_47 hok_45 hfr hfa hf_18 (by first | omega | decide | exact tt_lo _ | exact tt_hi _) (by first | omega | decide | exact tt_lo _ | exact tt_hi _) (by first | omega | decide | exact tt_lo _ | exact tt_hi _)
        exact hL_16 _ pl (0 : Int32) trivial hok hfr hfa hf_13 (by first | omega | decide | exact tt_lo _ | exact tt_hi _) (by first | omega | decide | exact tt_lo _ | exact tt_hi _) (Int.self_le_toNat _)
      · have z_c_15 := jc_nle (a := (x_14).toInt) (b := (x_11).toInt) c_15 rfl rfl
        refine jj_aload_n C dX1_redeemWaiting_18 rfl ?_
        refine tt_get C hok jk_2 13 (by decide) jw_cb3eb05d91 (t := (2, 8, 0)) hk1 (by decide) rfl rfl dX1_redeemWaiting_19 (fun v_48 hv_48 hf_49 => ?_)
        obtain ⟨a_50, rfl, ka_50⟩ := tt_vr hv_48
        refine jj_iload C dX1_redeemWaiting_22 rfl ?_
        refine tt_aald C hok (t := (2, 4, 0)) ka_50 (by decide) rfl rfl rfl (vp_in_iff.mpr ⟨by omega, by omega⟩) dX1_redeemWaiting_24 (fun v_51 hv_51 => ?_)
        obtain ⟨a_52, rfl, ka_52⟩ := tt_vr hv_51
        refine jj_astore C dX1_redeemWaiting_25 (by decide) rfl ?_
        refine jj_aload C dX1_redeemWaiting_27 rfl ?_
        refine tt_get C hok jk_7 2 (by decide) jw_500886c681 (t := (0, 0, 1)) ka_52 (by decide) rfl rfl dX1_redeemWaiting_29 (fun v_53 hv_53 hf_54 => ?_)
        obtain ⟨x_55, rfl, lx_55, ux_55⟩ := tt_vi hv_53
        refine jj_if_eq (tgt := 93) C dX1_redeemWaiting_32 (by decide) (fun c_56 => ?_) (fun c_56 => ?_)
        · have z_c_56 := jc_eq (a := (x_55).toInt) (b := (0)) c_56 rfl (by decide)
          obtain ⟨x_57, ex_57, vx_57⟩ := tt_inc (x := x_11) (n := 1) (by omega) (by omega)
          refine jj_iinc (v := x_57) C dX1_redeemWaiting_93 rfl ex_57 (by decide) rfl ?_
          refine jj_goto (tgt := 9) C dX1_redeemWaiting_96 (by decide) ?_
          refine jj_loc [0, 2, 3, 4, 5] rfl ?_
          exact ihL_10 pl x_57 hok hfr hfa (by first | omega | decide | exact tt_lo _ | exact tt_hi _) (by first | omega | decide | exact tt_lo _ | exact tt_hi _) (by first | omega | decide | exact tt_lo _ | exact tt_hi _)
        · have z_c_56 := jc_neq (a := (x_55).toInt) (b := (0)) c_56 rfl (by decide)
          refine jj_aload C dX1_redeemWaiting_35 rfl ?_
          refine tt_get C hok jk_7 3 (by decide) jw_1a2f98b2b0 (t := (1, (-9223372036854775808), 9223372036854775807)) ka_52 (by decide) rfl rfl dX1_redeemWaiting_37 (fun v_58 hv_58 hf_59 => ?_)
          obtain ⟨y_60, rfl, -, -⟩ := tt_vj hv_58
          refine jj_lstore C dX1_redeemWaiting_40 (by decide) rfl ?_
          refine jj_lload_n C dX1_redeemWaiting_42 rfl ?_
          refine jj_lload C dX1_redeemWaiting_43 rfl ?_
          refine jj_lcmp_le (tgt := 64) C dX1_redeemWaiting_45 dX1_redeemWaiting_46 (by decide) (fun c_61 => ?_) (fun c_61 => ?_)
          · refine jj_aload C dX1_redeemWaiting_64 rfl ?_
            refine jj_aload_n C dX1_redeemWaiting_66 rfl ?_
            refine jj_aload_n C dX1_redeemWaiting_67 rfl ?_
            refine jj_aload C dX1_redeemWaiting_68 rfl ?_
            refine tt_get C hok jk_7 0 (by decide) jw_ca00009e69 (t := (0, (-2147483648), 2147483647)) ka_52 (by decide) rfl rfl dX1_redeemWaiting_70 (fun v_62 hv_62 hf_63 => ?_)
            obtain ⟨x_64, rfl, lx_64, ux_64⟩ := tt_vi hv_62
            refine jj_lload C dX1_redeemWaiting_73 rfl ?_
            obtain ⟨qc, gs, hqc⟩ := tt_recv (cx := []) hok hk0 (by decide) rfl
            refine tt_callV (rest := [.ref a_52]) C (tc_X1_redeemUnits_1 hl D cA ak h0 h1 x_64 y_60 hk0 hk1 hok) [] [] rfl rfl (by decide) (by decide) (by decide) qc hqc rfl rfl jw_b3a0db9039 jw_e6d8fe438f jw_4f8648c5ef jw_944cf9c3ab jw_3e3b96358f jn_X1_redeemUnits rfl (jj_le rfl) (jj_le rfl) (jj_le rfl) (jj_le rfl) (jj_le rfl) dX1_redeemWaiting_75 rfl (fun _ _ _ hX => hX.elim) (fun rx pl_65 r O_68 => ?_)
            obtain ⟨rfl, hok_66, hr_67, hfa9, hR_70⟩ := O_68
            replace hf_13 := hr_67.at hk1 (by decide) (by decide) hf_13
            replace hf_49 := hr_67.at hk1 (by decide) (by decide) hf_49
            replace hf_54 := hr_67.at ka_52 (by decide) (by decide) hf_54
            replace hf_59 := hr_67.at ka_52 (by decide) (by decide) hf_59
            replace hf_63 := hr_67.at ka_52 (by decide) (by decide) hf_63
            replace hfr := hfr.trans (hr_67.sub (by decide))
            replace hfa := hfa.trans (hfa9.sub (by decide))
            obtain ⟨y_73, rfl⟩ := hR_70
            refine rl_put C hok_66 jk_7 4 (by decide) jw_b3181e6a54 (t := (1, (-9223372036854775808), 9223372036854775807)) ka_52 (by decide) rfl rfl rfl (tt_ja y_73) rfl rfl dX1_redeemWaiting_78 (fun pl_74 hok_75 tr hn tl => ?_)
            replace hf_13 := tr _ _ _ (Or.inl (tt_ne hk1 ka_52 (by decide))) hf_13
            replace hf_49 := tr _ _ _ (Or.inl (tt_ne hk1 ka_52 (by decide))) hf_49
            replace hf_54 := tr _ _ _ (Or.inr (by decide)) hf_54
            replace hf_59 := tr _ _ _ (Or.inr (by decide)) hf_59
            replace hf_63 := tr _ _ _ (Or.inr (by decide)) hf_63
            have hf_76 := hn
            replace hfr := hfr.put ka_52 tr (by decide)
            replace hfa := hfa.all tl
            refine jj_aload C dX1_redeemWaiting_81 rfl ?_
            refine jj_dup C dX1_redeemWaiting_83 rfl ?_
            refine tt_getF C hok_75 jk_7 3 (by decide) jw_1a2f98b2b0 (t := (1, (-9223372036854775808), 9223372036854775807)) ka_52 (by decide) rfl rfl hf_59 dX1_redeemWaiting_84 ?_
            refine jj_lload C dX1_redeemWaiting_87 rfl ?_
            obtain ⟨y_77, ey_77⟩ : ∃ z : Int64, y_60 - y_60 = z := ⟨_, rfl⟩
            refine jj_lsub (v := y_77) C dX1_redeemWaiting_89 ey_77 ?_
            refine rl_put C hok_75 jk_7 3 (by decide) jw_1a2f98b2b0 (t := (1, (-9223372036854775808), 9223372036854775807)) ka_52 (by decide) rfl rfl rfl (tt_ja y_77) rfl rfl dX1_redeemWaiting_90 (fun pl_78 hok_79 tr hn tl => ?_)
            replace hf_13 := tr _ _ _ (Or.inl (tt_ne hk1 ka_52 (by decide))) hf_13
            replace hf_49 := tr _ _ _ (Or.inl (tt_ne hk1 ka_52 (by decide))) hf_49
            replace hf_54 := tr _ _ _ (Or.inr (by decide)) hf_54
            replace hf_63 := tr _ _ _ (Or.inr (by decide)) hf_63
            replace hf_76 := tr _ _ _ (Or.inr (by decide)) hf_76
            have hf_80 := hn
            replace hfr := hfr.put ka_52 tr (by decide)
            replace hfa := hfa.all tl
            obtain ⟨x_81, ex_81, vx_81⟩ := tt_inc (x := x_11) (n := 1) (by omega) (by omega)
            refine jj_iinc (v := x_81) C dX1_redeemWaiting_93 rfl ex_81 (by decide) rfl ?_
            refine jj_goto (tgt := 9) C dX1_redeemWaiting_96 (by decide) ?_
            refine jj_loc [0, 3, 4, 5, 6] rfl ?_
            exact ihL_10 pl_78 x_81 hok_79 hfr hfa (by first | omega | decide | exact tt_lo _ | exact tt_hi _) (by first | omega | decide | exact tt_lo _ | exact tt_hi _) (by first | omega | decide | exact tt_lo _ | exact tt_hi _)
          · refine jj_lload_n C dX1_redeemWaiting_49 rfl ?_
            refine jj_lconst (v := 0) C dX1_redeemWaiting_50 (by decide) ?_
            refine jj_lcmp_le (tgt := 64) C dX1_redeemWaiting_51 dX1_redeemWaiting_52 (by decide) (fun c_82 => ?_) (fun c_82 => ?_)
            · refine jj_aload C dX1_redeemWaiting_64 rfl ?_
              refine jj_aload_n C dX1_redeemWaiting_66 rfl ?_
              refine jj_aload_n C dX1_redeemWaiting_67 rfl ?_
              refine jj_aload C dX1_redeemWaiting_68 rfl ?_
              refine tt_get C hok jk_7 0 (by decide) jw_ca00009e69 (t := (0, (-2147483648), 2147483647)) ka_52 (by decide) rfl rfl dX1_redeemWaiting_70 (fun v_83 hv_83 hf_84 => ?_)
              obtain ⟨x_85, rfl, lx_85, ux_85⟩ := tt_vi hv_83
              refine jj_lload C dX1_redeemWaiting_73 rfl ?_
              obtain ⟨qc, gs, hqc⟩ := tt_recv (cx := []) hok hk0 (by decide) rfl
              refine tt_callV (rest := [.ref a_52]) C (tc_X1_redeemUnits_1 hl D cA ak h0 h1 x_85 y_60 hk0 hk1 hok) [] [] rfl rfl (by decide) (by decide) (by decide) qc hqc rfl rfl jw_b3a0db9039 jw_e6d8fe438f jw_4f8648c5ef jw_944cf9c3ab jw_3e3b96358f jn_X1_redeemUnits rfl (jj_le rfl) (jj_le rfl) (jj_le rfl) (jj_le rfl) (jj_le rfl) dX1_redeemWaiting_75 rfl (fun _ _ _ hX => hX.elim) (fun rx pl_86 r O_89 => ?_)
              obtain ⟨rfl, hok_87, hr_88, hfa9, hR_91⟩ := O_89
              replace hf_13 := hr_88.at hk1 (by decide) (by decide) hf_13
              replace hf_49 := hr_88.at hk1 (by decide) (by decide) hf_49
              replace hf_54 := hr_88.at ka_52 (by decide) (by decide) hf_54
              replace hf_59 := hr_88.at ka_52 (by decide) (by decide) hf_59
              replace hf_84 := hr_88.at ka_52 (by decide) (by decide) hf_84
              replace hfr := hfr.trans (hr_88.sub (by decide))
              replace hfa := hfa.trans (hfa9.sub (by decide))
              obtain ⟨y_94, rfl⟩ := hR_91
              refine rl_put C hok_87 jk_7 4 (by decide) jw_b3181e6a54 (t := (1, (-9223372036854775808), 9223372036854775807)) ka_52 (by decide) rfl rfl rfl (tt_ja y_94) rfl rfl dX1_redeemWaiting_78 (fun pl_95 hok_96 tr hn tl => ?_)
              replace hf_13 := tr _ _ _ (Or.inl (tt_ne hk1 ka_52 (by decide))) hf_13
              replace hf_49 := tr _ _ _ (Or.inl (tt_ne hk1 ka_52 (by decide))) hf_49
              replace hf_54 := tr _ _ _ (Or.inr (by decide)) hf_54
              replace hf_59 := tr _ _ _ (Or.inr (by decide)) hf_59
              replace hf_84 := tr _ _ _ (Or.inr (by decide)) hf_84
              have hf_97 := hn
              replace hfr := hfr.put ka_52 tr (by decide)
              replace hfa := hfa.all tl
              refine jj_aload C dX1_redeemWaiting_81 rfl ?_
              refine jj_dup C dX1_redeemWaiting_83 rfl ?_
              refine tt_getF C hok_96 jk_7 3 (by decide) jw_1a2f98b2b0 (t := (1, (-9223372036854775808), 9223372036854775807)) ka_52 (by decide) rfl rfl hf_59 dX1_redeemWaiting_84 ?_
              refine jj_lload C dX1_redeemWaiting_87 rfl ?_
              obtain ⟨y_98, ey_98⟩ : ∃ z : Int64, y_60 - y_60 = z := ⟨_, rfl⟩
              refine jj_lsub (v := y_98) C dX1_redeemWaiting_89 ey_98 ?_
              refine rl_put C hok_96 jk_7 3 (by decide) jw_1a2f98b2b0 (t := (1, (-9223372036854775808), 9223372036854775807)) ka_52 (by decide) rfl rfl rfl (tt_ja y_98) rfl rfl dX1_redeemWaiting_90 (fun pl_99 hok_100 tr hn tl => ?_)
              replace hf_13 := tr _ _ _ (Or.inl (tt_ne hk1 ka_52 (by decide))) hf_13
              replace hf_49 := tr _ _ _ (Or.inl (tt_ne hk1 ka_52 (by decide))) hf_49
              replace hf_54 := tr _ _ _ (Or.inr (by decide)) hf_54
              replace hf_84 := tr _ _ _ (Or.inr (by decide)) hf_84
              replace hf_97 := tr _ _ _ (Or.inr (by decide)) hf_97
              have hf_101 := hn
              replace hfr := hfr.put ka_52 tr (by decide)
              replace hfa := hfa.all tl
              obtain ⟨x_102, ex_102, vx_102⟩ := tt_inc (x := x_11) (n := 1) (by omega) (by omega)
              refine jj_iinc (v := x_102) C dX1_redeemWaiting_93 rfl ex_102 (by decide) rfl ?_
              refine jj_goto (tgt := 9) C dX1_redeemWaiting_96 (by decide) ?_
              refine jj_loc [0, 3, 4, 5, 6] rfl ?_
              exact ihL_10 pl_99 x_102 hok_100 hfr hfa (by first | omega | decide | exact tt_lo _ | exact tt_hi _) (by first | omega | decide | exact tt_lo _ | exact tt_hi _) (by first | omega | decide | exact tt_lo _ | exact tt_hi _)
            · refine jj_lload C dX1_redeemWaiting_55 rfl ?_
              refine jj_lload C dX1_redeemWaiting_57 rfl ?_
              obtain ⟨y_103, ey_103⟩ : ∃ z : Int64, y_60 * y_9 = z := ⟨_, rfl⟩
              refine jj_lmul (v := y_103) C dX1_redeemWaiting_59 ey_103 ?_
              refine jj_lload_n C dX1_redeemWaiting_60 rfl ?_
              obtain ⟨y_104, ey_104⟩ : ∃ z : Int64, y_103 / p2 = z := ⟨_, rfl⟩
              refine jj_ldiv (v := y_104) C dX1_redeemWaiting_61 (jt_nzpL (by first | exact Int64.not_le.mp c_82 | exact Int32.not_le.mp c_82)) ey_104 ?_
              refine jj_lstore C dX1_redeemWaiting_62 (by decide) rfl ?_
              refine jj_aload C dX1_redeemWaiting_64 rfl ?_
              refine jj_aload_n C dX1_redeemWaiting_66 rfl ?_
              refine jj_aload_n C dX1_redeemWaiting_67 rfl ?_
              refine jj_aload C dX1_redeemWaiting_68 rfl ?_
              refine tt_get C hok jk_7 0 (by decide) jw_ca00009e69 (t := (0, (-2147483648), 2147483647)) ka_52 (by decide) rfl rfl dX1_redeemWaiting_70 (fun v_105 hv_105 hf_106 => ?_)
              obtain ⟨x_107, rfl, lx_107, ux_107⟩ := tt_vi hv_105
              refine jj_lload C dX1_redeemWaiting_73 rfl ?_
              obtain ⟨qc, gs, hqc⟩ := tt_recv (cx := []) hok hk0 (by decide) rfl
              refine tt_callV (rest := [.ref a_52]) C (tc_X1_redeemUnits_1 hl D cA ak h0 h1 x_107 y_104 hk0 hk1 hok) [] [] rfl rfl (by decide) (by decide) (by decide) qc hqc rfl rfl jw_b3a0db9039 jw_e6d8fe438f jw_4f8648c5ef jw_944cf9c3ab jw_3e3b96358f jn_X1_redeemUnits rfl (jj_le rfl) (jj_le rfl) (jj_le rfl) (jj_le rfl) (jj_le rfl) dX1_redeemWaiting_75 rfl (fun _ _ _ hX => hX.elim) (fun rx pl_108 r O_111 => ?_)
              obtain ⟨rfl, hok_109, hr_110, hfa9, hR_113⟩ := O_111
              replace hf_13 := hr_110.at hk1 (by decide) (by decide) hf_13
              replace hf_49 := hr_110.at hk1 (by decide) (by decide) hf_49
              replace hf_54 := hr_110.at ka_52 (by decide) (by decide) hf_54
              replace hf_59 := hr_110.at ka_52 (by decide) (by decide) hf_59
              replace hf_106 := hr_110.at ka_52 (by decide) (by decide) hf_106
              replace hfr := hfr.trans (hr_110.sub (by decide))
              replace hfa := hfa.trans (hfa9.sub (by decide))
              obtain ⟨y_116, rfl⟩ := hR_113
              refine rl_put C hok_109 jk_7 4 (by decide) jw_b3181e6a54 (t := (1, (-9223372036854775808), 9223372036854775807)) ka_52 (by decide) rfl rfl rfl (tt_ja y_116) rfl rfl dX1_redeemWaiting_78 (fun pl_117 hok_118 tr hn tl => ?_)
              replace hf_13 := tr _ _ _ (Or.inl (tt_ne hk1 ka_52 (by decide))) hf_13
              replace hf_49 := tr _ _ _ (Or.inl (tt_ne hk1 ka_52 (by decide))) hf_49
              replace hf_54 := tr _ _ _ (Or.inr (by decide)) hf_54
              replace hf_59 := tr _ _ _ (Or.inr (by decide)) hf_59
              replace hf_106 := tr _ _ _ (Or.inr (by decide)) hf_106
              have hf_119 := hn
              replace hfr := hfr.put ka_52 tr (by decide)
              replace hfa := hfa.all tl
              refine jj_aload C dX1_redeemWaiting_81 rfl ?_
              refine jj_dup C dX1_redeemWaiting_83 rfl ?_
              refine tt_getF C hok_118 jk_7 3 (by decide) jw_1a2f98b2b0 (t := (1, (-9223372036854775808), 9223372036854775807)) ka_52 (by decide) rfl rfl hf_59 dX1_redeemWaiting_84 ?_
              refine jj_lload C dX1_redeemWaiting_87 rfl ?_
              obtain ⟨y_120, ey_120⟩ : ∃ z : Int64, y_60 - y_104 = z := ⟨_, rfl⟩
              refine jj_lsub (v := y_120) C dX1_redeemWaiting_89 ey_120 ?_
              refine rl_put C hok_118 jk_7 3 (by decide) jw_1a2f98b2b0 (t := (1, (-9223372036854775808), 9223372036854775807)) ka_52 (by decide) rfl rfl rfl (tt_ja y_120) rfl rfl dX1_redeemWaiting_90 (fun pl_121 hok_122 tr hn tl => ?_)
              replace hf_13 := tr _ _ _ (Or.inl (tt_ne hk1 ka_52 (by decide))) hf_13
              replace hf_49 := tr _ _ _ (Or.inl (tt_ne hk1 ka_52 (by decide))) hf_49
              replace hf_54 := tr _ _ _ (Or.inr (by decide)) hf_54
              replace hf_106 := tr _ _ _ (Or.inr (by decide)) hf_106
              replace hf_119 := tr _ _ _ (Or.inr (by decide)) hf_119
              have hf_123 := hn
              replace hfr := hfr.put ka_52 tr (by decide)
              replace hfa := hfa.all tl
              obtain ⟨x_124, ex_124, vx_124⟩ := tt_inc (x := x_11) (n := 1) (by omega) (by omega)
              refine jj_iinc (v := x_124) C dX1_redeemWaiting_93 rfl ex_124 (by decide) rfl ?_
              refine jj_goto (tgt := 9) C dX1_redeemWaiting_96 (by decide) ?_
              refine jj_loc [0, 3, 4, 5, 6] rfl ?_
              exact ihL_10 pl_121 x_124 hok_122 hfr hfa (by first | omega | decide | exact tt_lo _ | exact tt_hi _) (by first | omega | decide | exact tt_lo _ | exact tt_hi _) (by first | omega | decide | exact tt_lo _ | exact tt_hi _)
  exact hL_10 _ pl_1 (0 : Int32) trivial hok_2 hfr hfa (by first | omega | decide | exact tt_lo _ | exact tt_hi _) (by first | omega | decide | exact tt_lo _ | exact tt_hi _) (Int.self_le_toNat _)

set_option maxHeartbeats 4000000 in
set_option maxRecDepth 100000 in
theorem tc_X0_isDone_1 {l : Launch} (hl : l.stackTraces = false) (D : va_G) (cA : Nat → ClassId) (ak : (Nat → Nat) × (Nat → Nat)) {Kd : Nat → Nat} (h0 : Nat) (p1 : Int32) (hk0 : Kd h0 = 1) (lp1 : (0 : Int) ≤ p1.toInt) (up1 : p1.toInt ≤ 11) {pl0 : va_W} (hok : tt_ok tt_tk cA Kd pl0) : jj_M l D cA ak yX0_isDone (.code yX0_isDone cX0_isDone 2 (some .boolean)) 0 0 0 0 ([] ++ pl0) [.ref h0, .int p1] (tt_O (fun rx pl1 r => rx = [] ∧ tt_ok tt_tk cA Kd pl1 ∧ tt_fr Kd [] pl0 pl1 ∧ tt_fa Kd [] pl0 pl1 ∧ ((r = some (.int 0)) ∨ (r = some (.int 1))))) (tt_OX (fun _ _ _ => False)) := by
  refine jj_start hl (by decide) jw_6fd96817b4 (jj_le rfl) ?_
  intro p e s m args below meth c A hargs hA C hex hmn
  have hfr := tt_fr.refl (K := Kd) (WS := []) pl0
  have hfa := tt_fa.refl (K := Kd) (WA := []) pl0
  refine jj_iload_n C dX0_isDone_0 rfl ?_
  refine jj_if_lt (tgt := 30) C dX0_isDone_1 (by decide) (fun c_1 => ?_) (fun c_1 => ?_)
  · have z_c_1 := jc_lt (a := (p1).toInt) (b := (0)) c_1 rfl (by decide)
    exfalso; omega
  · have z_c_1 := jc_nlt (a := (p1).toInt) (b := (0)) c_1 rfl (by decide)
    refine jj_iload_n C dX0_isDone_4 rfl ?_
    refine jj_aload_n C dX0_isDone_5 rfl ?_
    refine tt_get C hok jk_2 9 (by decide) jw_a6a6052378 (t := (0, 0, 12)) hk0 (by decide) rfl rfl dX0_isDone_6 (fun v_2 hv_2 hf_3 => ?_)
    obtain ⟨x_4, rfl, lx_4, ux_4⟩ := tt_vi hv_2
    refine jj_icmp_ge (tgt := 30) C dX0_isDone_9 (by decide) (fun c_5 => ?_) (fun c_5 => ?_)
    · have z_c_5 := jc_le (a := (x_4).toInt) (b := (p1).toInt) c_5 rfl rfl
      refine jj_iconst (v := 0) C dX0_isDone_30 (by decide) ?_
      exact jj_zret C rfl ⟨[], pl0, rfl, rfl, hok, hfr, hfa, (Or.inl rfl)⟩ dX0_isDone_31 (jj_le rfl) (jj_le rfl)
    · have z_c_5 := jc_nle (a := (x_4).toInt) (b := (p1).toInt) c_5 rfl rfl
      refine jj_aload_n C dX0_isDone_12 rfl ?_
      refine tt_get C hok jk_2 13 (by decide) jw_241b9bc751 (t := (2, 8, 0)) hk0 (by decide) rfl rfl dX0_isDone_13 (fun v_6 hv_6 hf_7 => ?_)
      obtain ⟨a_8, rfl, ka_8⟩ := tt_vr hv_6
      refine jj_iload_n C dX0_isDone_16 rfl ?_
      refine tt_aald C hok (t := (2, 4, 0)) ka_8 (by decide) rfl rfl rfl (vp_in_iff.mpr ⟨by omega, by omega⟩) dX0_isDone_17 (fun v_9 hv_9 => ?_)
      obtain ⟨a_10, rfl, ka_10⟩ := tt_vr hv_9
      refine tt_get C hok jk_7 3 (by decide) jw_bfa82f796d (t := (1, (-9223372036854775808), 9223372036854775807)) ka_10 (by decide) rfl rfl dX0_isDone_18 (fun v_11 hv_11 hf_12 => ?_)
      obtain ⟨y_13, rfl, -, -⟩ := tt_vj hv_11
      refine jj_lconst (v := 0) C dX0_isDone_21 (by decide) ?_
      refine jj_lcmp_ne (tgt := 30) C dX0_isDone_22 dX0_isDone_23 (by decide) (fun c_14 => ?_) (fun c_14 => ?_)
      · refine jj_iconst (v := 0) C dX0_isDone_30 (by decide) ?_
        exact jj_zret C rfl ⟨[], pl0, rfl, rfl, hok, hfr, hfa, (Or.inl rfl)⟩ dX0_isDone_31 (jj_le rfl) (jj_le rfl)
      · refine jj_iconst (v := 1) C dX0_isDone_26 (by decide) ?_
        refine jj_goto (tgt := 31) C dX0_isDone_27 (by decide) ?_
        exact jj_zret C rfl ⟨[], pl0, rfl, rfl, hok, hfr, hfa, (Or.inr rfl)⟩ dX0_isDone_31 (jj_le rfl) (jj_le rfl)

set_option maxHeartbeats 4000000 in
set_option maxRecDepth 100000 in
theorem tc_X10_bestGate_1 {l : Launch} (hl : l.stackTraces = false) (D : va_G) (cA : Nat → ClassId) (ak : (Nat → Nat) × (Nat → Nat)) {Kd : Nat → Nat} (h0 : Nat) (p1 : Int32) (hk0 : Kd h0 = 15) {pl0 : va_W} (hok : tt_ok tt_tk cA Kd pl0) : jj_M l D cA ak yX10_bestGate (.code yX10_bestGate cX10_bestGate 5 (some .int)) 8 123 1 6 ([] ++ pl0) [.ref h0, .int p1] (tt_O (fun rx pl1 r => rx = [] ∧ tt_ok tt_tk cA Kd pl1 ∧ tt_fr Kd [(1, 0), (1, 1), (1, 2), (1, 3), (1, 4), (1, 5), (1, 6), (1, 7), (1, 8), (1, 9), (2, 0), (2, 1), (2, 2), (2, 3), (2, 4), (3, 0), (3, 1), (3, 2), (3, 3), (3, 4), (3, 5), (4, 0), (4, 1), (4, 2), (4, 3), (4, 4), (9, 1), (9, 2), (9, 3), (9, 4), (9, 5)] pl0 pl1 ∧ tt_fa Kd [5] pl0 pl1 ∧ (((0 : Int) ≤ p1.toInt ∧ p1.toInt ≤ 11 ∧ r = some (.int (-1))) ∨ (∃ v : Int32, (1 : Int) ≤ v.toInt ∧ v.toInt ≤ 100 ∧ (0 : Int) ≤ p1.toInt ∧ p1.toInt ≤ 11 ∧ r = some (.int v))))) (tt_OX (fun E rx pl1 => rx = [] ∧ tt_ok tt_tk cA Kd pl1 ∧ tt_fr Kd [(1, 0), (1, 1), (1, 2), (1, 3), (1, 4), (1, 5), (1, 6), (1, 7), (1, 8), (1, 9), (2, 0), (2, 1), (2, 2), (2, 3), (2, 4), (3, 0), (3, 1), (3, 2), (3, 3), (3, 4), (3, 5), (4, 0), (4, 1), (4, 2), (4, 3), (4, 4), (9, 1), (9, 2), (9, 3), (9, 4), (9, 5)] pl0 pl1 ∧ tt_fa Kd [5] pl0 pl1 ∧ (E = "java/lang/IndexOutOfBoundsException"))) := by
  refine jj_start hl (by decide) jw_ed17b4a6ad (jj_le rfl) ?_
  intro p e s m args below meth c A hargs hA C hex hmn
  have hfr := tt_fr.refl (K := Kd) (WS := [(1, 0), (1, 1), (1, 2), (1, 3), (1, 4), (1, 5), (1, 6), (1, 7), (1, 8), (1, 9), (2, 0), (2, 1), (2, 2), (2, 3), (2, 4), (3, 0), (3, 1), (3, 2), (3, 3), (3, 4), (3, 5), (4, 0), (4, 1), (4, 2), (4, 3), (4, 4), (9, 1), (9, 2), (9, 3), (9, 4), (9, 5)]) pl0
  have hfa := tt_fa.refl (K := Kd) (WA := [5]) pl0
  have lp1 := tt_lo p1
  have up1 := tt_hi p1
  refine jj_aload_n C dX10_bestGate_0 rfl ?_
  refine jj_iload_n C dX10_bestGate_1 rfl ?_
  obtain ⟨qc, gs, hqc⟩ := tt_recv (cx := []) hok hk0 (by decide) rfl
  refine tt_callV (rest := []) C (tc_X10_checkRequest_1 hl D cA ak h0 p1 hk0 hok) [] [] rfl rfl (by decide) (by decide) (by decide) qc hqc rfl rfl jw_8393dc7999 jw_19ebf3d629 jw_0700398a86 jw_6f6d707074 jw_31f2a3897e jn_X10_checkRequest rfl (jj_le rfl) (jj_le rfl) (jj_le rfl) (jj_le rfl) (jj_le rfl) dX10_bestGate_2 rfl (fun E rx pl_1 X_5 => ?_) (fun rx pl_1 r O_4 => ?_)
  · obtain ⟨rfl, hok_2, hr_3, hfa9, hE_6⟩ := X_5
    replace hfr := hfr.trans (hr_3.sub (by decide))
    replace hfa := hfa.trans (hfa9.sub (by decide))
    obtain rfl := hE_6
    exact jj_out C hex ⟨[], pl_1, rfl, rfl, hok_2, hfr, hfa, rfl⟩ (jj_le rfl) (jj_le rfl)
  · obtain ⟨rfl, hok_2, hr_3, hfa9, hR_9⟩ := O_4
    replace hfr := hfr.trans (hr_3.sub (by decide))
    replace hfa := hfa.trans (hfa9.sub (by decide))
    obtain ⟨l_12, u_13, rfl⟩ := hR_9
    refine jj_aload_n C dX10_bestGate_5 rfl ?_
    refine tt_get C hok_2 jk_11 3 (by decide) jw_f82a97e333 (t := (2, 1, 0)) hk0 (by decide) rfl rfl dX10_bestGate_6 (fun v_14 hv_14 hf_15 => ?_)
    obtain ⟨a_16, rfl, ka_16⟩ := tt_vr hv_14
    refine tt_get C hok_2 jk_2 13 (by decide) jw_68e650e198 (t := (2, 8, 0)) ka_16 (by decide) rfl rfl dX10_bestGate_9 (fun v_17 hv_17 hf_18 => ?_)
    obtain ⟨a_19, rfl, ka_19⟩ := tt_vr hv_17
    refine jj_iload_n C dX10_bestGate_12 rfl ?_
    refine tt_aald C hok_2 (t := (2, 4, 0)) ka_19 (by decide) rfl rfl rfl (vp_in_iff.mpr ⟨by omega, by omega⟩) dX10_bestGate_13 (fun v_20 hv_20 => ?_)
    obtain ⟨a_21, rfl, ka_21⟩ := tt_vr hv_20
    refine tt_get C hok_2 jk_7 2 (by decide) jw_1fa8e983d6 (t := (0, 0, 1)) ka_21 (by decide) rfl rfl dX10_bestGate_14 (fun v_22 hv_22 hf_23 => ?_)
    obtain ⟨x_24, rfl, lx_24, ux_24⟩ := tt_vi hv_22
    refine jj_if_ne (tgt := 22) C dX10_bestGate_17 (by decide) (fun c_25 => ?_) (fun c_25 => ?_)
    · have z_c_25 := jc_neq (a := (x_24).toInt) (b := (0)) c_25 rfl (by decide)
      refine jj_aload_n C dX10_bestGate_22 rfl ?_
      refine tt_get C hok_2 jk_11 5 (by decide) jw_34b8702fe2 (t := (2, 9, 0)) hk0 (by decide) rfl rfl dX10_bestGate_23 (fun v_26 hv_26 hf_27 => ?_)
      obtain ⟨a_28, rfl, ka_28⟩ := tt_vr hv_26
      refine jj_aload_n C dX10_bestGate_26 rfl ?_
      refine tt_getF C hok_2 jk_11 3 (by decide) jw_f82a97e333 (t := (2, 1, 0)) hk0 (by decide) rfl rfl hf_15 dX10_bestGate_27 ?_
      obtain ⟨qc, gs, hqc⟩ := tt_recv (cx := []) hok_2 ka_28 (by decide) rfl
      refine tt_callV (rest := []) C (tc_X1_baseOfRedemptions_1 hl D cA ak a_28 a_16 ka_28 ka_16 hok_2) [] [] rfl rfl (by decide) (by decide) (by decide) qc hqc rfl rfl jw_0c87748527 jw_36bb45001b jw_b21f9198d3 jw_944cf9c3ab jw_77ee4174d9 jn_X1_baseOfRedemptions rfl (jj_le rfl) (jj_le rfl) (jj_le rfl) (jj_le rfl) (jj_le rfl) dX10_bestGate_30 rfl (fun _ _ _ hX => hX.elim) (fun rx pl_29 r O_32 => ?_)
      obtain ⟨rfl, hok_30, hr_31, hfa9, hR_34⟩ := O_32
      replace hf_15 := hr_31.at hk0 (by decide) (by decide) hf_15
      replace hf_18 := hr_31.at ka_16 (by decide) (by decide) hf_18
      replace hf_23 := hr_31.at ka_21 (by decide) (by decide) hf_23
      replace hf_27 := hr_31.at hk0 (by decide) (by decide) hf_27
      replace hfr := hfr.trans (hr_31.sub (by decide))
      replace hfa := hfa.trans (hfa9.sub (by decide))
      obtain ⟨y_37, rfl⟩ := hR_34
      refine jj_lstore_n C dX10_bestGate_33 (by decide) rfl ?_
      refine jj_iconst (v := 1) C dX10_bestGate_34 (by decide) ?_
      refine jj_istore C dX10_bestGate_35 (by decide) rfl ?_
      have hL_38 : ∀ (N : Nat) (pl : va_W) (x_39 : Int32), True → tt_ok tt_tk cA Kd pl → tt_fr Kd [(1, 0), (1, 1), (1, 2), (1, 3), (1, 4), (1, 5), (1, 6), (1, 7), (1, 8), (1, 9), (2, 0), (2, 1), (2, 2), (2, 3), (2, 4), (3, 0), (3, 1), (3, 2), (3, 3), (3, 4), (3, 5), (4, 0), (4, 1), (4, 2), (4, 3), (4, 4), (9, 1), (9, 2), (9, 3), (9, 4), (9, 5)] pl0 pl → tt_fa Kd [5] pl0 pl → tt_at pl h0 3 (.ref a_16) → tt_at pl a_16 13 (.ref a_19) → tt_at pl h0 5 (.ref a_28) → (1 : Int) ≤ x_39.toInt → x_39.toInt ≤ 399 → (2147483648 - x_39.toInt ≤ (N : Int)) → jj_J p l e (jj_rm 8 123 1 6) s m args below meth c 5 A (vx_MQ below (jj_q D A (tt_O (fun rx pl1 r => rx = [] ∧ tt_ok tt_tk cA Kd pl1 ∧ tt_fr Kd [(1, 0), (1, 1), (1, 2), (1, 3), (1, 4), (1, 5), (1, 6), (1, 7), (1, 8), (1, 9), (2, 0), (2, 1), (2, 2), (2, 3), (2, 4), (3, 0), (3, 1), (3, 2), (3, 3), (3, 4), (3, 5), (4, 0), (4, 1), (4, 2), (4, 3), (4, 4), (9, 1), (9, 2), (9, 3), (9, 4), (9, 5)] pl0 pl1 ∧ tt_fa Kd [5] pl0 pl1 ∧ (((0 : Int) ≤ p1.toInt ∧ p1.toInt ≤ 11 ∧ r = some (.int (-1))) ∨ (∃ v : Int32, (1 : Int) ≤ v.toInt ∧ v.toInt ≤ 100 ∧ (0 : Int) ≤ p1.toInt ∧ p1.toInt ≤ 11 ∧ r = some (.int v)))))) (jj_x D A (tt_OX (fun E rx pl1 => rx = [] ∧ tt_ok tt_tk cA Kd pl1 ∧ tt_fr Kd [(1, 0), (1, 1), (1, 2), (1, 3), (1, 4), (1, 5), (1, 6), (1, 7), (1, 8), (1, 9), (2, 0), (2, 1), (2, 2), (2, 3), (2, 4), (3, 0), (3, 1), (3, 2), (3, 3), (3, 4), (3, 5), (4, 0), (4, 1), (4, 2), (4, 3), (4, 4), (9, 1), (9, 2), (9, 3), (9, 4), (9, 5)] pl0 pl1 ∧ tt_fa Kd [5] pl0 pl1 ∧ (E = "java/lang/IndexOutOfBoundsException")))) args s 1 6 A) (jj_X D A ([] ++ pl)) 1 6 37 [(4, .int x_39), (2, .long y_37), (0, .ref h0), (1, .int p1)] [] := by
        intro NL_38
        induction NL_38 with
        | zero => intro pl x_39 _ hok hfr hfa hf_40 hf_41 hf_42 lx_39 ux_39 hNL_38; exfalso; omega
        | succ NL_38 ihL_38 =>
          intro pl x_39 _ hok hfr hfa hf_40 hf_41 hf_42 lx_39 ux_39 hNL_38
          replace ihL_38 := fun pl x_39 h1 => ihL_38 pl x_39 trivial h1
          refine jj_iload C dX10_bestGate_37 rfl ?_
          refine jj_bipush (v := 100) C dX10_bestGate_39 (by decide) ?_
          refine jj_icmp_gt (tgt := 96) C dX10_bestGate_41 (by decide) (fun c_43 => ?_) (fun c_43 => ?_)
          · have z_c_43 := jc_lt (a := (100)) (b := (x_39).toInt) c_43 (by decide) rfl
            refine jj_iconst (v := (-1)) C dX10_bestGate_96 (by decide) ?_
            exact jj_iret C ⟨[], pl, rfl, rfl, hok, hfr, hfa, (Or.inl ⟨(by first | omega | exact tt_lo _ | exact tt_hi _), (by first | omega | exact tt_lo _ | exact tt_hi _), rfl⟩)⟩ dX10_bestGate_97 (jj_le rfl) (jj_le rfl)
          · have z_c_43 := jc_nlt (a := (100)) (b := (x_39).toInt) c_43 (by decide) rfl
            refine jj_aload_n C dX10_bestGate_44 rfl ?_
            refine tt_get C hok jk_11 4 (by decide) jw_a0e4d790fa (t := (2, 1, 0)) hk0 (by decide) rfl rfl dX10_bestGate_45 (fun v_44 hv_44 hf_45 => ?_)
            obtain ⟨a_46, rfl, ka_46⟩ := tt_vr hv_44
            refine jj_aload_n C dX10_bestGate_48 rfl ?_
            refine tt_getF C hok jk_11 3 (by decide) jw_f82a97e333 (t := (2, 1, 0)) hk0 (by decide) rfl rfl hf_40 dX10_bestGate_49 ?_
            obtain ⟨qc, gs, hqc⟩ := tt_recv (cx := []) hok ka_46 (by decide) rfl
            refine tt_callV (rest := []) C (tc_X0_copyFrom_1 hl D cA ak a_46 a_16 ka_46 ka_16 hok) [] [] rfl rfl (by decide) (by decide) (by decide) qc hqc rfl rfl jw_4d0cb05860 jw_8aa1bdb2cc jw_ac98d74d03 jw_7d25d4fd32 jw_58241735d3 jn_X0_copyFrom rfl (jj_le rfl) (jj_le rfl) (jj_le rfl) (jj_le rfl) (jj_le rfl) dX10_bestGate_52 rfl (fun _ _ _ hX => hX.elim) (fun rx pl_47 r O_50 => ?_)
            obtain ⟨rfl, hok_48, hr_49, hfa9, hR_52⟩ := O_50
            replace hf_40 := hr_49.at hk0 (by decide) (by decide) hf_40
            replace hf_41 := hr_49.at ka_16 (by decide) (by decide) hf_41
            replace hf_42 := hr_49.at hk0 (by decide) (by decide) hf_42
            replace hf_45 := hr_49.at hk0 (by decide) (by decide) hf_45
            replace hfr := hfr.trans (hr_49.sub (by decide))
            replace hfa := hfa.trans (hfa9.sub (by decide))
            obtain rfl := hR_52
            refine jj_aload_n C dX10_bestGate_55 rfl ?_
            refine tt_getF C hok_48 jk_11 4 (by decide) jw_a0e4d790fa (t := (2, 1, 0)) hk0 (by decide) rfl rfl hf_45 dX10_bestGate_56 ?_
            refine jj_iload C dX10_bestGate_59 rfl ?_
            refine rl_put C hok_48 jk_2 4 (by decide) jw_d8242cd3dc (t := (0, (-2147483648), 2147483647)) ka_46 (by decide) rfl rfl rfl (tt_ia x_39) rfl rfl dX10_bestGate_61 (fun pl_55 hok_56 tr hn tl => ?_)
            replace hf_40 := tr _ _ _ (Or.inl (tt_ne hk0 ka_46 (by decide))) hf_40
            replace hf_41 := tr _ _ _ (Or.inr (by decide)) hf_41
            replace hf_42 := tr _ _ _ (Or.inl (tt_ne hk0 ka_46 (by decide))) hf_42
            replace hf_45 := tr _ _ _ (Or.inl (tt_ne hk0 ka_46 (by decide))) hf_45
            have hf_57 := hn
            replace hfr := hfr.put ka_46 tr (by decide)
            replace hfa := hfa.all tl
            refine jj_aload_n C dX10_bestGate_64 rfl ?_
            refine tt_getF C hok_56 jk_11 5 (by decide) jw_34b8702fe2 (t := (2, 9, 0)) hk0 (by decide) rfl rfl hf_42 dX10_bestGate_65 ?_
            refine jj_aload_n C dX10_bestGate_68 rfl ?_
            refine tt_getF C hok_56 jk_11 4 (by decide) jw_a0e4d790fa (t := (2, 1, 0)) hk0 (by decide) rfl rfl hf_45 dX10_bestGate_69 ?_
            refine jj_lload_n C dX10_bestGate_72 rfl ?_
            obtain ⟨qc, gs, hqc⟩ := tt_recv (cx := []) hok_56 ka_28 (by decide) rfl
            refine tt_callV (rest := []) C (tc_X1_redeemWaiting_1 hl D cA ak a_28 a_46 y_37 ka_28 ka_46 hok_56) [] [] rfl rfl (by decide) (by decide) (by decide) qc hqc rfl rfl jw_4ebc084d1c jw_1a80919bc4 jw_88c712b448 jw_944cf9c3ab jw_4b6b3c5714 jn_X1_redeemWaiting rfl (jj_le rfl) (jj_le rfl) (jj_le rfl) (jj_le rfl) (jj_le rfl) dX10_bestGate_73 rfl (fun _ _ _ hX => hX.elim) (fun rx pl_58 r O_61 => ?_)
            obtain ⟨rfl, hok_59, hr_60, hfa9, hR_63⟩ := O_61
            replace hf_40 := hr_60.at hk0 (by decide) (by decide) hf_40
            replace hf_41 := hr_60.at ka_16 (by decide) (by decide) hf_41
            replace hf_42 := hr_60.at hk0 (by decide) (by decide) hf_42
            replace hf_45 := hr_60.at hk0 (by decide) (by decide) hf_45
            replace hf_57 := hr_60.at ka_46 (by decide) (by decide) hf_57
            replace hfr := hfr.trans (hr_60.sub (by decide))
            replace hfa := hfa.trans (hfa9.sub (by decide))
            obtain rfl := hR_63
            refine jj_aload_n C dX10_bestGate_76 rfl ?_
            refine tt_getF C hok_59 jk_11 4 (by decide) jw_a0e4d790fa (t := (2, 1, 0)) hk0 (by decide) rfl rfl hf_45 dX10_bestGate_77 ?_
            refine jj_iload_n C dX10_bestGate_80 rfl ?_
            obtain ⟨qc, gs, hqc⟩ := tt_recv (cx := []) hok_59 ka_46 (by decide) rfl
            refine tt_callV (rest := []) C (tc_X0_isDone_1 hl D cA ak a_46 p1 ka_46 (by omega) (by omega) hok_59) [] [] rfl rfl (by decide) (by decide) (by decide) qc hqc rfl rfl jw_f02a789dc3 jw_e1b2fb4f9f jw_abc4721ff3 jw_7d25d4fd32 jw_6fd96817b4 jn_X0_isDone rfl (jj_le rfl) (jj_le rfl) (jj_le rfl) (jj_le rfl) (jj_le rfl) dX10_bestGate_81 rfl (fun _ _ _ hX => hX.elim) (fun rx pl_66 r O_69 => ?_)
            obtain ⟨rfl, hok_67, hr_68, hfa9, hR_71⟩ := O_69
            replace hf_40 := hr_68.at hk0 (by decide) (by decide) hf_40
            replace hf_41 := hr_68.at ka_16 (by decide) (by decide) hf_41
            replace hf_42 := hr_68.at hk0 (by decide) (by decide) hf_42
            replace hf_45 := hr_68.at hk0 (by decide) (by decide) hf_45
            replace hf_57 := hr_68.at ka_46 (by decide) (by decide) hf_57
            replace hfr := hfr.trans (hr_68.sub (by decide))
            replace hfa := hfa.trans (hfa9.sub (by decide))
            rcases hR_71 with rfl | rfl
            · refine jj_if_eqT (tgt := 90) C dX10_bestGate_84 (by decide) (by decide) ?_
              obtain ⟨x_74, ex_74, vx_74⟩ := tt_inc (x := x_39) (n := 1) (by omega) (by omega)
              refine jj_iinc (v := x_74) C dX10_bestGate_90 rfl ex_74 (by decide) rfl ?_
              refine jj_goto (tgt := 37) C dX10_bestGate_93 (by decide) ?_
              exact ihL_38 pl_66 x_74 hok_67 hfr hfa hf_40 hf_41 hf_42 (by first | omega | decide | exact tt_lo _ | exact tt_hi _) (by first | omega | decide | exact tt_lo _ | exact tt_hi _) (by first | omega | decide | exact tt_lo _ | exact tt_hi _)
            · refine jj_if_eqF (tgt := 90) C dX10_bestGate_84 (by decide) (by decide) ?_
              refine jj_iload C dX10_bestGate_87 rfl ?_
              exact jj_iret C ⟨[], pl_66, rfl, rfl, hok_67, hfr, hfa, (Or.inr ⟨x_39, (by first | omega | exact tt_lo _ | exact tt_hi _), (by first | omega | exact tt_lo _ | exact tt_hi _), (by first | omega | exact tt_lo _ | exact tt_hi _), (by first | omega | exact tt_lo _ | exact tt_hi _), rfl⟩)⟩ dX10_bestGate_89 (jj_le rfl) (jj_le rfl)
      exact hL_38 _ pl_29 (1 : Int32) trivial hok_30 hfr hfa hf_15 hf_18 hf_27 (by first | omega | decide | exact tt_lo _ | exact tt_hi _) (by first | omega | decide | exact tt_lo _ | exact tt_hi _) (Int.self_le_toNat _)
    · have z_c_25 := jc_eq (a := (x_24).toInt) (b := (0)) c_25 rfl (by decide)
      refine jj_iconst (v := (-1)) C dX10_bestGate_20 (by decide) ?_
      exact jj_iret C ⟨[], pl_1, rfl, rfl, hok_2, hfr, hfa, (Or.inl ⟨(by first | omega | exact tt_lo _ | exact tt_hi _), (by first | omega | exact tt_lo _ | exact tt_hi _), rfl⟩)⟩ dX10_bestGate_21 (jj_le rfl) (jj_le rfl)

