set_option maxHeartbeats 4000000 in
set_option maxRecDepth 100000 in
theorem tc_X0_closeEmptySeries_1 {l : Launch} (hl : l.stackTraces = false) (D : va_G) (cA : Nat → ClassId) (ak : (Nat → Nat) × (Nat → Nat)) {Kd : Nat → Nat} (h0 : Nat) (hk0 : Kd h0 = 1) {pl0 : va_W} (hok : tt_ok tt_tk cA Kd pl0) : jj_M l D cA ak yX0_closeEmptySeries (.code yX0_closeEmptySeries cX0_closeEmptySeries 4 none) 0 0 0 0 ([] ++ pl0) [.ref h0] (tt_O (fun rx pl1 r => rx = [] ∧ tt_ok tt_tk cA Kd pl1 ∧ tt_fr Kd [(1, 7)] pl0 pl1 ∧ ((r = none)))) (tt_OX (fun _ _ _ => False)) := by
  refine jj_start hl (by decide) jw_262 (jj_le rfl) ?_
  intro p e s m args below meth c A hargs hA C hex hmn
  have hfr := tt_fr.refl (K := Kd) (WS := [(1, 7)]) pl0
  refine jj_iconst (v := 0) C dX0_closeEmptySeries_0 (by decide) ?_
  refine jj_istore_n C dX0_closeEmptySeries_1 (by decide) rfl ?_
  refine jj_iconst (v := 0) C dX0_closeEmptySeries_2 (by decide) ?_
  refine jj_istore_n C dX0_closeEmptySeries_3 (by decide) rfl ?_
  have hL_1 : ∀ (N : Nat) (pl : va_W) (x_2 : Int32) (x_3 : Int32), True → tt_ok tt_tk cA Kd pl → tt_fr Kd [(1, 7)] pl0 pl → (0 : Int) ≤ x_2.toInt → x_2.toInt ≤ 6 → (0 : Int) ≤ x_3.toInt → x_3.toInt ≤ 6 → x_3.toInt ≤ x_2.toInt → (2147483648 - x_2.toInt ≤ (N : Int)) → jj_J p l e (jj_rm 0 0 0 0) s m args below meth c 4 A (vx_MQ below (jj_q D A (tt_O (fun rx pl1 r => rx = [] ∧ tt_ok tt_tk cA Kd pl1 ∧ tt_fr Kd [(1, 7)] pl0 pl1 ∧ ((r = none))))) (jj_x D A (tt_OX (fun _ _ _ => False))) args s 0 0 A) (jj_X D A ([] ++ pl)) 0 0 4 [(2, .int x_2), (1, .int x_3), (0, .ref h0)] [] := by
    intro NL_1
    induction NL_1 with
    | zero => intro pl x_2 x_3 _ hok hfr lx_2 ux_2 lx_3 ux_3 r1_2 hNL_1; exfalso; omega
    | succ NL_1 ihL_1 =>
      intro pl x_2 x_3 _ hok hfr lx_2 ux_2 lx_3 ux_3 r1_2 hNL_1
      replace ihL_1 := fun pl x_2 x_3 h1 => ihL_1 pl x_2 x_3 trivial h1
      refine jj_iload_n C dX0_closeEmptySeries_4 rfl ?_
      refine jj_aload_n C dX0_closeEmptySeries_5 rfl ?_
      refine tt_get C hok jk_2 7 (by decide) jw_134 (t := (0, 0, 6)) hk0 (by decide) rfl rfl dX0_closeEmptySeries_6 (fun v_4 hv_4 hf_5 => ?_)
      obtain ⟨x_6, rfl, lx_6, ux_6⟩ := tt_vi hv_4
      refine jj_icmp_ge (tgt := 72) C dX0_closeEmptySeries_9 (by decide) (fun c_7 => ?_) (fun c_7 => ?_)
      · have z_c_7 := jc_le (a := (x_6).toInt) (b := (x_2).toInt) c_7 rfl rfl
        refine jj_aload_n C dX0_closeEmptySeries_72 rfl ?_
        refine jj_iload_n C dX0_closeEmptySeries_73 rfl ?_
        refine tt_put C hok jk_2 7 (by decide) jw_134 (t := (0, 0, 6)) hk0 (by decide) rfl rfl rfl (tt_iv (by omega) (by omega)) rfl rfl dX0_closeEmptySeries_74 (fun pl_8 hok_9 tr hn => ?_)
        have hf_10 := hn
        replace hfr := hfr.put hk0 tr (by decide)
        exact jj_vret C ⟨[], pl_8, rfl, rfl, hok_9, hfr, rfl⟩ dX0_closeEmptySeries_77 (jj_le rfl) (jj_le rfl)
      · have z_c_7 := jc_nle (a := (x_6).toInt) (b := (x_2).toInt) c_7 rfl rfl
        refine jj_aload_n C dX0_closeEmptySeries_12 rfl ?_
        refine tt_get C hok jk_2 11 (by decide) jw_135 (t := (2, 6, 0)) hk0 (by decide) rfl rfl dX0_closeEmptySeries_13 (fun v_11 hv_11 hf_12 => ?_)
        obtain ⟨a_13, rfl, ka_13⟩ := tt_vr hv_11
        refine jj_iload_n C dX0_closeEmptySeries_16 rfl ?_
        refine tt_aald C hok (t := (2, 2, 0)) ka_13 (by decide) rfl rfl rfl (vp_in_iff.mpr ⟨by omega, by omega⟩) dX0_closeEmptySeries_17 (fun v_14 hv_14 => ?_)
        obtain ⟨a_15, rfl, ka_15⟩ := tt_vr hv_14
        refine jj_astore_n C dX0_closeEmptySeries_18 (by decide) rfl ?_
        refine jj_aload_n C dX0_closeEmptySeries_19 rfl ?_
        refine tt_get C hok jk_9 3 (by decide) jw_263 (t := (1, (-9223372036854775808), 9223372036854775807)) ka_15 (by decide) rfl rfl dX0_closeEmptySeries_20 (fun v_16 hv_16 hf_17 => ?_)
        obtain ⟨y_18, rfl, -, -⟩ := tt_vj hv_16
        refine jj_lconst (v := 0) C dX0_closeEmptySeries_23 (by decide) ?_
        refine jj_lcmp_le (tgt := 53) C dX0_closeEmptySeries_24 dX0_closeEmptySeries_25 (by decide) (fun c_19 => ?_) (fun c_19 => ?_)
        · refine jj_aload_n C dX0_closeEmptySeries_53 rfl ?_
          refine tt_get C hok jk_2 10 (by decide) jw_201 (t := (2, 5, 0)) hk0 (by decide) rfl rfl dX0_closeEmptySeries_54 (fun v_20 hv_20 hf_21 => ?_)
          obtain ⟨a_22, rfl, ka_22⟩ := tt_vr hv_20
          refine jj_iconst (v := 1) C dX0_closeEmptySeries_57 (by decide) ?_
          refine jj_dup2 C dX0_closeEmptySeries_58 rfl rfl ?_
          refine tt_lald C hok (t := (1, (-9223372036854775808), 9223372036854775807)) ka_22 (by decide) rfl (vp_in_iff.mpr (by decide)) dX0_closeEmptySeries_59 (fun v_23 hv_23 => ?_)
          refine jj_aload_n C dX0_closeEmptySeries_60 rfl ?_
          refine tt_get C hok jk_9 2 (by decide) jw_238 (t := (1, (-9223372036854775808), 9223372036854775807)) ka_15 (by decide) rfl rfl dX0_closeEmptySeries_61 (fun v_24 hv_24 hf_25 => ?_)
          obtain ⟨y_26, rfl, -, -⟩ := tt_vj hv_24
          obtain ⟨y_27, ey_27⟩ : ∃ z : Int64, v_23 + y_26 = z := ⟨_, rfl⟩
          refine jj_ladd (v := y_27) C dX0_closeEmptySeries_64 ey_27 ?_
          refine tt_last C hok (t := (1, (-9223372036854775808), 9223372036854775807)) ka_22 (by decide) rfl (vp_in_iff.mpr (by decide)) (tt_ja _) dX0_closeEmptySeries_65 (fun pl_28 hok_29 tr => ?_)
          replace hf_5 := tr _ _ _ hf_5
          replace hf_12 := tr _ _ _ hf_12
          replace hf_17 := tr _ _ _ hf_17
          replace hf_21 := tr _ _ _ hf_21
          replace hf_25 := tr _ _ _ hf_25
          replace hfr := hfr.arr tr
          obtain ⟨x_30, ex_30, vx_30⟩ := tt_inc (x := x_2) (n := 1) (by omega) (by omega)
          refine jj_iinc (v := x_30) C dX0_closeEmptySeries_66 rfl ex_30 (by decide) rfl ?_
          refine jj_goto (tgt := 4) C dX0_closeEmptySeries_69 (by decide) ?_
          refine jj_loc [0, 2, 3] rfl ?_
          exact ihL_1 pl_28 x_30 x_3 hok_29 hfr (by first | omega | decide | exact tt_lo _ | exact tt_hi _) (by first | omega | decide | exact tt_lo _ | exact tt_hi _) (by first | omega | decide | exact tt_lo _ | exact tt_hi _) (by first | omega | decide | exact tt_lo _ | exact tt_hi _) (by first | omega | decide | exact tt_lo _ | exact tt_hi _) (by first | omega | decide | exact tt_lo _ | exact tt_hi _)
        · refine jj_aload_n C dX0_closeEmptySeries_28 rfl ?_
          refine tt_getF C hok jk_2 11 (by decide) jw_135 (t := (2, 6, 0)) hk0 (by decide) rfl rfl hf_12 dX0_closeEmptySeries_29 ?_
          refine jj_iload_n C dX0_closeEmptySeries_32 rfl ?_
          refine jj_aload_n C dX0_closeEmptySeries_33 rfl ?_
          refine tt_getF C hok jk_2 11 (by decide) jw_135 (t := (2, 6, 0)) hk0 (by decide) rfl rfl hf_12 dX0_closeEmptySeries_34 ?_
          refine jj_iload_n C dX0_closeEmptySeries_37 rfl ?_
          refine tt_aald C hok (t := (2, 2, 0)) ka_13 (by decide) rfl rfl rfl (vp_in_iff.mpr ⟨by omega, by omega⟩) dX0_closeEmptySeries_38 (fun v_31 hv_31 => ?_)
          obtain ⟨a_32, rfl, ka_32⟩ := tt_vr hv_31
          refine tt_aast C hok (t := (2, 2, 0)) ka_13 (by decide) rfl rfl rfl ka_32 (by decide) rfl rfl (vp_in_iff.mpr ⟨by omega, by omega⟩) (tt_rv ka_32) dX0_closeEmptySeries_39 (fun pl_33 hok_34 tr hne => ?_)
          replace hf_5 := tr _ _ _ hf_5
          replace hf_12 := tr _ _ _ hf_12
          replace hf_17 := tr _ _ _ hf_17
          replace hfr := hfr.arr tr
          refine jj_aload_n C dX0_closeEmptySeries_40 rfl ?_
          refine tt_getF C hok_34 jk_2 11 (by decide) jw_135 (t := (2, 6, 0)) hk0 (by decide) rfl rfl hf_12 dX0_closeEmptySeries_41 ?_
          refine jj_iload_n C dX0_closeEmptySeries_44 rfl ?_
          refine jj_aload_n C dX0_closeEmptySeries_45 rfl ?_
          refine tt_aast C hok_34 (t := (2, 2, 0)) ka_13 (by decide) rfl rfl rfl ka_15 (by decide) rfl rfl (vp_in_iff.mpr ⟨by omega, by omega⟩) (tt_rv ka_15) dX0_closeEmptySeries_46 (fun pl_35 hok_36 tr hne => ?_)
          replace hf_5 := tr _ _ _ hf_5
          replace hf_12 := tr _ _ _ hf_12
          replace hf_17 := tr _ _ _ hf_17
          replace hfr := hfr.arr tr
          obtain ⟨x_37, ex_37, vx_37⟩ := tt_inc (x := x_3) (n := 1) (by omega) (by omega)
          refine jj_iinc (v := x_37) C dX0_closeEmptySeries_47 rfl ex_37 (by decide) rfl ?_
          refine jj_goto (tgt := 66) C dX0_closeEmptySeries_50 (by decide) ?_
          obtain ⟨x_38, ex_38, vx_38⟩ := tt_inc (x := x_2) (n := 1) (by omega) (by omega)
          refine jj_iinc (v := x_38) C dX0_closeEmptySeries_66 rfl ex_38 (by decide) rfl ?_
          refine jj_goto (tgt := 4) C dX0_closeEmptySeries_69 (by decide) ?_
          refine jj_loc [0, 1, 3] rfl ?_
          exact ihL_1 pl_35 x_38 x_37 hok_36 hfr (by first | omega | decide | exact tt_lo _ | exact tt_hi _) (by first | omega | decide | exact tt_lo _ | exact tt_hi _) (by first | omega | decide | exact tt_lo _ | exact tt_hi _) (by first | omega | decide | exact tt_lo _ | exact tt_hi _) (by first | omega | decide | exact tt_lo _ | exact tt_hi _) (by first | omega | decide | exact tt_lo _ | exact tt_hi _)
  exact hL_1 _ pl0 (0 : Int32) (0 : Int32) trivial hok hfr (by first | omega | decide | exact tt_lo _ | exact tt_hi _) (by first | omega | decide | exact tt_lo _ | exact tt_hi _) (by first | omega | decide | exact tt_lo _ | exact tt_hi _) (by first | omega | decide | exact tt_lo _ | exact tt_hi _) (by first | omega | decide | exact tt_lo _ | exact tt_hi _) (Int.self_le_toNat _)

set_option maxHeartbeats 4000000 in
set_option maxRecDepth 100000 in
theorem tc_X1_takeOut_1 {l : Launch} (hl : l.stackTraces = false) (D : va_G) (cA : Nat → ClassId) (ak : (Nat → Nat) × (Nat → Nat)) {Kd : Nat → Nat} (h0 : Nat) (h1 : Nat) (h2 : Nat) (h3 : Nat) (p4 : Int64) (hk0 : Kd h0 = 9) (hk1 : Kd h1 = 1) (hk2 : Kd h2 = 2) (hk3 : Kd h3 = 3) {pl0 : va_W} (hok : tt_ok tt_tk cA Kd pl0) : jj_M l D cA ak yX1_takeOut (.code yX1_takeOut cX1_takeOut 6 none) 0 0 0 0 ([] ++ pl0) [.ref h0, .ref h1, .ref h2, .ref h3, .long p4] (tt_O (fun rx pl1 r => rx = [] ∧ tt_ok tt_tk cA Kd pl1 ∧ tt_fr Kd [(2, 2), (2, 3), (3, 3), (3, 5)] pl0 pl1 ∧ ((r = none)))) (tt_OX (fun _ _ _ => False)) := by
  refine jj_start hl (by decide) jw_268 (jj_le rfl) ?_
  intro p e s m args below meth c A hargs hA C hex hmn
  have hfr := tt_fr.refl (K := Kd) (WS := [(2, 2), (2, 3), (3, 3), (3, 5)]) pl0
  refine jj_aload_n C dX1_takeOut_0 rfl ?_
  refine jj_dup C dX1_takeOut_1 rfl ?_
  refine tt_get C hok jk_9 2 (by decide) jw_113 (t := (1, (-9223372036854775808), 9223372036854775807)) hk2 (by decide) rfl rfl dX1_takeOut_2 (fun v_1 hv_1 hf_2 => ?_)
  obtain ⟨y_3, rfl, -, -⟩ := tt_vj hv_1
  refine jj_aload_n C dX1_takeOut_5 rfl ?_
  refine tt_get C hok jk_3 1 (by decide) jw_158 (t := (1, (-9223372036854775808), 9223372036854775807)) hk0 (by decide) rfl rfl dX1_takeOut_6 (fun v_4 hv_4 hf_5 => ?_)
  obtain ⟨y_6, rfl, -, -⟩ := tt_vj hv_4
  refine jj_aload_n C dX1_takeOut_9 rfl ?_
  refine tt_get C hok jk_3 2 (by decide) jw_159 (t := (1, (-9223372036854775808), 9223372036854775807)) hk0 (by decide) rfl rfl dX1_takeOut_10 (fun v_7 hv_7 hf_8 => ?_)
  obtain ⟨y_9, rfl, -, -⟩ := tt_vj hv_7
  obtain ⟨y_10, ey_10⟩ : ∃ z : Int64, y_6 + y_9 = z := ⟨_, rfl⟩
  refine jj_ladd (v := y_10) C dX1_takeOut_13 ey_10 ?_
  obtain ⟨y_11, ey_11⟩ : ∃ z : Int64, y_3 - y_10 = z := ⟨_, rfl⟩
  refine jj_lsub (v := y_11) C dX1_takeOut_14 ey_11 ?_
  refine tt_put C hok jk_9 2 (by decide) jw_113 (t := (1, (-9223372036854775808), 9223372036854775807)) hk2 (by decide) rfl rfl rfl (tt_ja y_11) rfl rfl dX1_takeOut_15 (fun pl_12 hok_13 tr hn => ?_)
  replace hf_5 := tr _ _ _ (Or.inl (tt_ne hk0 hk2 (by decide))) hf_5
  replace hf_8 := tr _ _ _ (Or.inl (tt_ne hk0 hk2 (by decide))) hf_8
  have hf_14 := hn
  replace hfr := hfr.put hk2 tr (by decide)
  refine jj_aload_n C dX1_takeOut_18 rfl ?_
  refine jj_dup C dX1_takeOut_19 rfl ?_
  refine tt_get C hok_13 jk_9 3 (by decide) jw_157 (t := (1, (-9223372036854775808), 9223372036854775807)) hk2 (by decide) rfl rfl dX1_takeOut_20 (fun v_15 hv_15 hf_16 => ?_)
  obtain ⟨y_17, rfl, -, -⟩ := tt_vj hv_15
  refine jj_lload C dX1_takeOut_23 rfl ?_
  obtain ⟨y_18, ey_18⟩ : ∃ z : Int64, y_17 - p4 = z := ⟨_, rfl⟩
  refine jj_lsub (v := y_18) C dX1_takeOut_25 ey_18 ?_
  refine tt_put C hok_13 jk_9 3 (by decide) jw_157 (t := (1, (-9223372036854775808), 9223372036854775807)) hk2 (by decide) rfl rfl rfl (tt_ja y_18) rfl rfl dX1_takeOut_26 (fun pl_19 hok_20 tr hn => ?_)
  replace hf_5 := tr _ _ _ (Or.inl (tt_ne hk0 hk2 (by decide))) hf_5
  replace hf_8 := tr _ _ _ (Or.inl (tt_ne hk0 hk2 (by decide))) hf_8
  replace hf_14 := tr _ _ _ (Or.inr (by decide)) hf_14
  have hf_21 := hn
  replace hfr := hfr.put hk2 tr (by decide)
  refine jj_aload_n C dX1_takeOut_29 rfl ?_
  refine jj_dup C dX1_takeOut_30 rfl ?_
  refine tt_get C hok_20 jk_5 3 (by decide) jw_141 (t := (1, (-9223372036854775808), 9223372036854775807)) hk3 (by decide) rfl rfl dX1_takeOut_31 (fun v_22 hv_22 hf_23 => ?_)
  obtain ⟨y_24, rfl, -, -⟩ := tt_vj hv_22
  refine jj_lload C dX1_takeOut_34 rfl ?_
  obtain ⟨y_25, ey_25⟩ : ∃ z : Int64, y_24 - p4 = z := ⟨_, rfl⟩
  refine jj_lsub (v := y_25) C dX1_takeOut_36 ey_25 ?_
  refine tt_put C hok_20 jk_5 3 (by decide) jw_141 (t := (1, (-9223372036854775808), 9223372036854775807)) hk3 (by decide) rfl rfl rfl (tt_ja y_25) rfl rfl dX1_takeOut_37 (fun pl_26 hok_27 tr hn => ?_)
  replace hf_5 := tr _ _ _ (Or.inl (tt_ne hk0 hk3 (by decide))) hf_5
  replace hf_8 := tr _ _ _ (Or.inl (tt_ne hk0 hk3 (by decide))) hf_8
  replace hf_14 := tr _ _ _ (Or.inl (tt_ne hk2 hk3 (by decide))) hf_14
  replace hf_21 := tr _ _ _ (Or.inl (tt_ne hk2 hk3 (by decide))) hf_21
  have hf_28 := hn
  replace hfr := hfr.put hk3 tr (by decide)
  refine jj_aload_n C dX1_takeOut_40 rfl ?_
  refine jj_dup C dX1_takeOut_41 rfl ?_
  refine tt_get C hok_27 jk_5 5 (by decide) jw_163 (t := (1, (-9223372036854775808), 9223372036854775807)) hk3 (by decide) rfl rfl dX1_takeOut_42 (fun v_29 hv_29 hf_30 => ?_)
  obtain ⟨y_31, rfl, -, -⟩ := tt_vj hv_29
  refine jj_aload_n C dX1_takeOut_45 rfl ?_
  refine tt_get C hok_27 jk_3 3 (by decide) jw_160 (t := (1, (-9223372036854775808), 9223372036854775807)) hk0 (by decide) rfl rfl dX1_takeOut_46 (fun v_32 hv_32 hf_33 => ?_)
  obtain ⟨y_34, rfl, -, -⟩ := tt_vj hv_32
  obtain ⟨y_35, ey_35⟩ : ∃ z : Int64, y_31 - y_34 = z := ⟨_, rfl⟩
  refine jj_lsub (v := y_35) C dX1_takeOut_49 ey_35 ?_
  refine tt_put C hok_27 jk_5 5 (by decide) jw_163 (t := (1, (-9223372036854775808), 9223372036854775807)) hk3 (by decide) rfl rfl rfl (tt_ja y_35) rfl rfl dX1_takeOut_50 (fun pl_36 hok_37 tr hn => ?_)
  replace hf_5 := tr _ _ _ (Or.inl (tt_ne hk0 hk3 (by decide))) hf_5
  replace hf_8 := tr _ _ _ (Or.inl (tt_ne hk0 hk3 (by decide))) hf_8
  replace hf_14 := tr _ _ _ (Or.inl (tt_ne hk2 hk3 (by decide))) hf_14
  replace hf_21 := tr _ _ _ (Or.inl (tt_ne hk2 hk3 (by decide))) hf_21
  replace hf_28 := tr _ _ _ (Or.inr (by decide)) hf_28
  replace hf_33 := tr _ _ _ (Or.inl (tt_ne hk0 hk3 (by decide))) hf_33
  have hf_38 := hn
  replace hfr := hfr.put hk3 tr (by decide)
  refine jj_aload_n C dX1_takeOut_53 rfl ?_
  refine tt_get C hok_37 jk_2 10 (by decide) jw_269 (t := (2, 5, 0)) hk1 (by decide) rfl rfl dX1_takeOut_54 (fun v_39 hv_39 hf_40 => ?_)
  obtain ⟨a_41, rfl, ka_41⟩ := tt_vr hv_39
  refine jj_iconst (v := 0) C dX1_takeOut_57 (by decide) ?_
  refine jj_dup2 C dX1_takeOut_58 rfl rfl ?_
  refine tt_lald C hok_37 (t := (1, (-9223372036854775808), 9223372036854775807)) ka_41 (by decide) rfl (vp_in_iff.mpr (by decide)) dX1_takeOut_59 (fun v_42 hv_42 => ?_)
  refine jj_aload_n C dX1_takeOut_60 rfl ?_
  refine tt_getF C hok_37 jk_3 2 (by decide) jw_159 (t := (1, (-9223372036854775808), 9223372036854775807)) hk0 (by decide) rfl rfl hf_8 dX1_takeOut_61 ?_
  refine jj_aload_n C dX1_takeOut_64 rfl ?_
  refine tt_get C hok_37 jk_3 4 (by decide) jw_161 (t := (1, (-9223372036854775808), 9223372036854775807)) hk0 (by decide) rfl rfl dX1_takeOut_65 (fun v_43 hv_43 hf_44 => ?_)
  obtain ⟨y_45, rfl, -, -⟩ := tt_vj hv_43
  obtain ⟨y_46, ey_46⟩ : ∃ z : Int64, y_9 - y_45 = z := ⟨_, rfl⟩
  refine jj_lsub (v := y_46) C dX1_takeOut_68 ey_46 ?_
  refine jj_aload_n C dX1_takeOut_69 rfl ?_
  refine tt_get C hok_37 jk_3 5 (by decide) jw_162 (t := (1, (-9223372036854775808), 9223372036854775807)) hk0 (by decide) rfl rfl dX1_takeOut_70 (fun v_47 hv_47 hf_48 => ?_)
  obtain ⟨y_49, rfl, -, -⟩ := tt_vj hv_47
  obtain ⟨y_50, ey_50⟩ : ∃ z : Int64, y_46 + y_49 = z := ⟨_, rfl⟩
  refine jj_ladd (v := y_50) C dX1_takeOut_73 ey_50 ?_
  obtain ⟨y_51, ey_51⟩ : ∃ z : Int64, v_42 + y_50 = z := ⟨_, rfl⟩
  refine jj_ladd (v := y_51) C dX1_takeOut_74 ey_51 ?_
  refine tt_last C hok_37 (t := (1, (-9223372036854775808), 9223372036854775807)) ka_41 (by decide) rfl (vp_in_iff.mpr (by decide)) (tt_ja _) dX1_takeOut_75 (fun pl_52 hok_53 tr => ?_)
  replace hf_5 := tr _ _ _ hf_5
  replace hf_8 := tr _ _ _ hf_8
  replace hf_14 := tr _ _ _ hf_14
  replace hf_21 := tr _ _ _ hf_21
  replace hf_28 := tr _ _ _ hf_28
  replace hf_33 := tr _ _ _ hf_33
  replace hf_38 := tr _ _ _ hf_38
  replace hf_40 := tr _ _ _ hf_40
  replace hf_44 := tr _ _ _ hf_44
  replace hf_48 := tr _ _ _ hf_48
  replace hfr := hfr.arr tr
  refine jj_aload_n C dX1_takeOut_76 rfl ?_
  refine tt_getF C hok_53 jk_2 10 (by decide) jw_269 (t := (2, 5, 0)) hk1 (by decide) rfl rfl hf_40 dX1_takeOut_77 ?_
  refine jj_iconst (v := 3) C dX1_takeOut_80 (by decide) ?_
  refine jj_dup2 C dX1_takeOut_81 rfl rfl ?_
  refine tt_lald C hok_53 (t := (1, (-9223372036854775808), 9223372036854775807)) ka_41 (by decide) rfl (vp_in_iff.mpr (by decide)) dX1_takeOut_82 (fun v_54 hv_54 => ?_)
  refine jj_aload_n C dX1_takeOut_83 rfl ?_
  refine tt_getF C hok_53 jk_3 1 (by decide) jw_158 (t := (1, (-9223372036854775808), 9223372036854775807)) hk0 (by decide) rfl rfl hf_5 dX1_takeOut_84 ?_
  refine jj_aload_n C dX1_takeOut_87 rfl ?_
  refine tt_getF C hok_53 jk_3 4 (by decide) jw_161 (t := (1, (-9223372036854775808), 9223372036854775807)) hk0 (by decide) rfl rfl hf_44 dX1_takeOut_88 ?_
  obtain ⟨y_55, ey_55⟩ : ∃ z : Int64, y_6 + y_45 = z := ⟨_, rfl⟩
  refine jj_ladd (v := y_55) C dX1_takeOut_91 ey_55 ?_
  refine jj_aload_n C dX1_takeOut_92 rfl ?_
  refine tt_getF C hok_53 jk_3 5 (by decide) jw_162 (t := (1, (-9223372036854775808), 9223372036854775807)) hk0 (by decide) rfl rfl hf_48 dX1_takeOut_93 ?_
  obtain ⟨y_56, ey_56⟩ : ∃ z : Int64, y_55 - y_49 = z := ⟨_, rfl⟩
  refine jj_lsub (v := y_56) C dX1_takeOut_96 ey_56 ?_
  obtain ⟨y_57, ey_57⟩ : ∃ z : Int64, v_54 + y_56 = z := ⟨_, rfl⟩
  refine jj_ladd (v := y_57) C dX1_takeOut_97 ey_57 ?_
  refine tt_last C hok_53 (t := (1, (-9223372036854775808), 9223372036854775807)) ka_41 (by decide) rfl (vp_in_iff.mpr (by decide)) (tt_ja _) dX1_takeOut_98 (fun pl_58 hok_59 tr => ?_)
  replace hf_5 := tr _ _ _ hf_5
  replace hf_8 := tr _ _ _ hf_8
  replace hf_14 := tr _ _ _ hf_14
  replace hf_21 := tr _ _ _ hf_21
  replace hf_28 := tr _ _ _ hf_28
  replace hf_33 := tr _ _ _ hf_33
  replace hf_38 := tr _ _ _ hf_38
  replace hf_40 := tr _ _ _ hf_40
  replace hf_44 := tr _ _ _ hf_44
  replace hf_48 := tr _ _ _ hf_48
  replace hfr := hfr.arr tr
  exact jj_vret C ⟨[], pl_58, rfl, rfl, hok_59, hfr, rfl⟩ dX1_takeOut_99 (jj_le rfl) (jj_le rfl)

set_option maxHeartbeats 4000000 in
set_option maxRecDepth 100000 in
theorem tc_X1_redeemUnits_1 {l : Launch} (hl : l.stackTraces = false) (D : va_G) (cA : Nat → ClassId) (ak : (Nat → Nat) × (Nat → Nat)) {Kd : Nat → Nat} (h0 : Nat) (h1 : Nat) (p2 : Int32) (p3 : Int64) (hk0 : Kd h0 = 9) (hk1 : Kd h1 = 1) {pl0 : va_W} (hok : tt_ok tt_tk cA Kd pl0) : jj_M l D cA ak yX1_redeemUnits (.code yX1_redeemUnits cX1_redeemUnits 12 (some .long)) 2 54 0 0 ([] ++ pl0) [.ref h0, .ref h1, .int p2, .long p3] (tt_O (fun rx pl1 r => rx = [] ∧ tt_ok tt_tk cA Kd pl1 ∧ tt_fr Kd [(1, 7), (1, 8), (2, 2), (2, 3), (3, 3), (3, 5), (9, 1), (9, 2), (9, 3), (9, 4), (9, 5)] pl0 pl1 ∧ ((∃ v : Int64, r = some (.long v))))) (tt_OX (fun _ _ _ => False)) := by
  refine jj_start hl (by decide) jw_255 (jj_le rfl) ?_
  intro p e s m args below meth c A hargs hA C hex hmn
  have hfr := tt_fr.refl (K := Kd) (WS := [(1, 7), (1, 8), (2, 2), (2, 3), (3, 3), (3, 5), (9, 1), (9, 2), (9, 3), (9, 4), (9, 5)]) pl0
  have lp2 := tt_lo p2
  have up2 := tt_hi p2
  refine jj_lload_n C dX1_redeemUnits_0 rfl ?_
  refine jj_lstore C dX1_redeemUnits_1 (by decide) rfl ?_
  refine jj_iconst (v := 0) C dX1_redeemUnits_3 (by decide) ?_
  refine jj_istore C dX1_redeemUnits_4 (by decide) rfl ?_
  have hL_1 : ∀ (N : Nat) (pl : va_W) (x_2 : Int32) (y_3 : Int64), True → tt_ok tt_tk cA Kd pl → tt_fr Kd [(1, 7), (1, 8), (2, 2), (2, 3), (3, 3), (3, 5), (9, 1), (9, 2), (9, 3), (9, 4), (9, 5)] pl0 pl → (0 : Int) ≤ x_2.toInt → x_2.toInt ≤ 40 → (2147483648 - x_2.toInt ≤ (N : Int)) → jj_J p l e (jj_rm 2 54 0 0) s m args below meth c 12 A (vx_MQ below (jj_q D A (tt_O (fun rx pl1 r => rx = [] ∧ tt_ok tt_tk cA Kd pl1 ∧ tt_fr Kd [(1, 7), (1, 8), (2, 2), (2, 3), (3, 3), (3, 5), (9, 1), (9, 2), (9, 3), (9, 4), (9, 5)] pl0 pl1 ∧ ((∃ v : Int64, r = some (.long v)))))) (jj_x D A (tt_OX (fun _ _ _ => False))) args s 0 0 A) (jj_X D A ([] ++ pl)) 0 0 6 [(7, .int x_2), (5, .long y_3), (0, .ref h0), (1, .ref h1), (2, .int p2), (3, .long p3)] [] := by
    intro NL_1
    induction NL_1 with
    | zero => intro pl x_2 y_3 _ hok hfr lx_2 ux_2 hNL_1; exfalso; omega
    | succ NL_1 ihL_1 =>
      intro pl x_2 y_3 _ hok hfr lx_2 ux_2 hNL_1
      replace ihL_1 := fun pl x_2 y_3 h1 => ihL_1 pl x_2 y_3 trivial h1
      refine jj_iload C dX1_redeemUnits_6 rfl ?_
      refine jj_aload_n C dX1_redeemUnits_8 rfl ?_
      refine tt_get C hok jk_2 8 (by decide) jw_121 (t := (0, 0, 40)) hk1 (by decide) rfl rfl dX1_redeemUnits_9 (fun v_4 hv_4 hf_5 => ?_)
      obtain ⟨x_6, rfl, lx_6, ux_6⟩ := tt_vi hv_4
      refine jj_icmp_ge (tgt := 114) C dX1_redeemUnits_12 (by decide) (fun c_7 => ?_) (fun c_7 => ?_)
      · have z_c_7 := jc_le (a := (x_6).toInt) (b := (x_2).toInt) c_7 rfl rfl
        refine jj_aload_n C dX1_redeemUnits_114 rfl ?_
        obtain ⟨qc, gs, hqc⟩ := tt_recv (cx := []) hok hk1 (by decide) rfl
        refine tt_callV (rest := []) C (tc_X0_dropEmptyLots_1 hl D cA ak h1 hk1 hok) [] [] rfl rfl (by decide) (by decide) (by decide) qc hqc rfl rfl jw_256 jw_258 jw_259 jw_133 jw_257 jn_X0_dropEmptyLots rfl (jj_le rfl) (jj_le rfl) (jj_le rfl) (jj_le rfl) (jj_le rfl) dX1_redeemUnits_115 rfl (fun _ _ _ hX => hX.elim) (fun rx pl_8 r O_11 => ?_)
        obtain ⟨rfl, hok_9, hr_10, hR_13⟩ := O_11
        replace hfr := hfr.trans (hr_10.sub (by decide))
        obtain rfl := hR_13
        refine jj_aload_n C dX1_redeemUnits_118 rfl ?_
        obtain ⟨qc, gs, hqc⟩ := tt_recv (cx := []) hok_9 hk1 (by decide) rfl
        refine tt_callV (rest := []) C (tc_X0_closeEmptySeries_1 hl D cA ak h1 hk1 hok_9) [] [] rfl rfl (by decide) (by decide) (by decide) qc hqc rfl rfl jw_261 jw_264 jw_265 jw_133 jw_262 jn_X0_closeEmptySeries rfl (jj_le rfl) (jj_le rfl) (jj_le rfl) (jj_le rfl) (jj_le rfl) dX1_redeemUnits_119 rfl (fun _ _ _ hX => hX.elim) (fun rx pl_14 r O_17 => ?_)
        obtain ⟨rfl, hok_15, hr_16, hR_19⟩ := O_17
        replace hfr := hfr.trans (hr_16.sub (by decide))
        obtain rfl := hR_19
        refine jj_lload_n C dX1_redeemUnits_122 rfl ?_
        refine jj_lload C dX1_redeemUnits_123 rfl ?_
        obtain ⟨y_20, ey_20⟩ : ∃ z : Int64, p3 - y_3 = z := ⟨_, rfl⟩
        refine jj_lsub (v := y_20) C dX1_redeemUnits_125 ey_20 ?_
        exact jj_lret C ⟨[], pl_14, rfl, rfl, hok_15, hfr, ⟨y_20, rfl⟩⟩ dX1_redeemUnits_126 (jj_le rfl) (jj_le rfl)
      · have z_c_7 := jc_nle (a := (x_6).toInt) (b := (x_2).toInt) c_7 rfl rfl
        refine jj_lload C dX1_redeemUnits_15 rfl ?_
        refine jj_lconst (v := 0) C dX1_redeemUnits_17 (by decide) ?_
        refine jj_lcmp_le (tgt := 114) C dX1_redeemUnits_18 dX1_redeemUnits_19 (by decide) (fun c_21 => ?_) (fun c_21 => ?_)
        · refine jj_aload_n C dX1_redeemUnits_114 rfl ?_
          obtain ⟨qc, gs, hqc⟩ := tt_recv (cx := []) hok hk1 (by decide) rfl
          refine tt_callV (rest := []) C (tc_X0_dropEmptyLots_1 hl D cA ak h1 hk1 hok) [] [] rfl rfl (by decide) (by decide) (by decide) qc hqc rfl rfl jw_256 jw_258 jw_259 jw_133 jw_257 jn_X0_dropEmptyLots rfl (jj_le rfl) (jj_le rfl) (jj_le rfl) (jj_le rfl) (jj_le rfl) dX1_redeemUnits_115 rfl (fun _ _ _ hX => hX.elim) (fun rx pl_22 r O_25 => ?_)
          obtain ⟨rfl, hok_23, hr_24, hR_27⟩ := O_25
          replace hfr := hfr.trans (hr_24.sub (by decide))
          obtain rfl := hR_27
          refine jj_aload_n C dX1_redeemUnits_118 rfl ?_
          obtain ⟨qc, gs, hqc⟩ := tt_recv (cx := []) hok_23 hk1 (by decide) rfl
          refine tt_callV (rest := []) C (tc_X0_closeEmptySeries_1 hl D cA ak h1 hk1 hok_23) [] [] rfl rfl (by decide) (by decide) (by decide) qc hqc rfl rfl jw_261 jw_264 jw_265 jw_133 jw_262 jn_X0_closeEmptySeries rfl (jj_le rfl) (jj_le rfl) (jj_le rfl) (jj_le rfl) (jj_le rfl) dX1_redeemUnits_119 rfl (fun _ _ _ hX => hX.elim) (fun rx pl_28 r O_31 => ?_)
          obtain ⟨rfl, hok_29, hr_30, hR_33⟩ := O_31
          replace hfr := hfr.trans (hr_30.sub (by decide))
          obtain rfl := hR_33
          refine jj_lload_n C dX1_redeemUnits_122 rfl ?_
          refine jj_lload C dX1_redeemUnits_123 rfl ?_
          obtain ⟨y_34, ey_34⟩ : ∃ z : Int64, p3 - y_3 = z := ⟨_, rfl⟩
          refine jj_lsub (v := y_34) C dX1_redeemUnits_125 ey_34 ?_
          exact jj_lret C ⟨[], pl_28, rfl, rfl, hok_29, hfr, ⟨y_34, rfl⟩⟩ dX1_redeemUnits_126 (jj_le rfl) (jj_le rfl)
        · refine jj_aload_n C dX1_redeemUnits_22 rfl ?_
          refine tt_get C hok jk_2 12 (by decide) jw_122 (t := (2, 7, 0)) hk1 (by decide) rfl rfl dX1_redeemUnits_23 (fun v_35 hv_35 hf_36 => ?_)
          obtain ⟨a_37, rfl, ka_37⟩ := tt_vr hv_35
          refine jj_iload C dX1_redeemUnits_26 rfl ?_
          refine tt_aald C hok (t := (2, 3, 0)) ka_37 (by decide) rfl rfl rfl (vp_in_iff.mpr ⟨by omega, by omega⟩) dX1_redeemUnits_28 (fun v_38 hv_38 => ?_)
          obtain ⟨a_39, rfl, ka_39⟩ := tt_vr hv_38
          refine jj_astore C dX1_redeemUnits_29 (by decide) rfl ?_
          refine jj_aload_n C dX1_redeemUnits_31 rfl ?_
          refine jj_aload C dX1_redeemUnits_32 rfl ?_
          refine tt_get C hok jk_5 1 (by decide) jw_123 (t := (0, (-2147483648), 2147483647)) ka_39 (by decide) rfl rfl dX1_redeemUnits_34 (fun v_40 hv_40 hf_41 => ?_)
          obtain ⟨x_42, rfl, lx_42, ux_42⟩ := tt_vi hv_40
          obtain ⟨qc, gs, hqc⟩ := tt_recv (cx := []) hok hk1 (by decide) rfl
          refine tt_callV (rest := []) C (tc_X0_placeOfSeries_1 hl D cA ak h1 x_42 hk1 hok) [] [] rfl rfl (by decide) (by decide) (by decide) qc hqc rfl rfl jw_131 jw_137 jw_138 jw_133 jw_132 jn_X0_placeOfSeries rfl (jj_le rfl) (jj_le rfl) (jj_le rfl) (jj_le rfl) (jj_le rfl) dX1_redeemUnits_37 rfl (fun _ _ _ hX => hX.elim) (fun rx pl_43 r O_46 => ?_)
          obtain ⟨rfl, hok_44, hr_45, hR_48⟩ := O_46
          replace hf_5 := hr_45.at hk1 (by decide) (by decide) hf_5
          replace hf_36 := hr_45.at hk1 (by decide) (by decide) hf_36
          replace hf_41 := hr_45.at ka_39 (by decide) (by decide) hf_41
          replace hfr := hfr.trans (hr_45.sub (by decide))
          rcases hR_48 with rfl | ⟨x_49, lx_49, ux_49, rfl⟩
          · refine jj_istore C dX1_redeemUnits_40 (by decide) rfl ?_
            refine jj_aload C dX1_redeemUnits_42 rfl ?_
            refine tt_get C hok_44 jk_5 0 (by decide) jw_140 (t := (0, (-2147483648), 2147483647)) ka_39 (by decide) rfl rfl dX1_redeemUnits_44 (fun v_50 hv_50 hf_51 => ?_)
            obtain ⟨x_52, rfl, lx_52, ux_52⟩ := tt_vi hv_50
            refine jj_iload_n C dX1_redeemUnits_47 rfl ?_
            refine jj_icmp_ne (tgt := 108) C dX1_redeemUnits_48 (by decide) (fun c_53 => ?_) (fun c_53 => ?_)
            · have z_c_53 := jc_neq (a := (x_52).toInt) (b := (p2).toInt) c_53 rfl rfl
              obtain ⟨x_54, ex_54, vx_54⟩ := tt_inc (x := x_2) (n := 1) (by omega) (by omega)
              refine jj_iinc (v := x_54) C dX1_redeemUnits_108 rfl ex_54 (by decide) rfl ?_
              refine jj_goto (tgt := 6) C dX1_redeemUnits_111 (by decide) ?_
              refine jj_loc [0, 3, 4, 5, 6, 7] rfl ?_
              exact ihL_1 pl_43 x_54 y_3 hok_44 hfr (by first | omega | decide | exact tt_lo _ | exact tt_hi _) (by first | omega | decide | exact tt_lo _ | exact tt_hi _) (by first | omega | decide | exact tt_lo _ | exact tt_hi _)
            · have z_c_53 := jc_eq (a := (x_52).toInt) (b := (p2).toInt) c_53 rfl rfl
              refine jj_iload C dX1_redeemUnits_51 rfl ?_
              refine jj_iconst (v := (-1)) C dX1_redeemUnits_53 (by decide) ?_
              refine jj_icmp_eqT (tgt := 108) C dX1_redeemUnits_54 (by decide) (by decide) ?_
              obtain ⟨x_55, ex_55, vx_55⟩ := tt_inc (x := x_2) (n := 1) (by omega) (by omega)
              refine jj_iinc (v := x_55) C dX1_redeemUnits_108 rfl ex_55 (by decide) rfl ?_
              refine jj_goto (tgt := 6) C dX1_redeemUnits_111 (by decide) ?_
              refine jj_loc [0, 3, 4, 5, 6, 7] rfl ?_
              exact ihL_1 pl_43 x_55 y_3 hok_44 hfr (by first | omega | decide | exact tt_lo _ | exact tt_hi _) (by first | omega | decide | exact tt_lo _ | exact tt_hi _) (by first | omega | decide | exact tt_lo _ | exact tt_hi _)
          · refine jj_istore C dX1_redeemUnits_40 (by decide) rfl ?_
            refine jj_aload C dX1_redeemUnits_42 rfl ?_
            refine tt_get C hok_44 jk_5 0 (by decide) jw_140 (t := (0, (-2147483648), 2147483647)) ka_39 (by decide) rfl rfl dX1_redeemUnits_44 (fun v_56 hv_56 hf_57 => ?_)
            obtain ⟨x_58, rfl, lx_58, ux_58⟩ := tt_vi hv_56
            refine jj_iload_n C dX1_redeemUnits_47 rfl ?_
            refine jj_icmp_ne (tgt := 108) C dX1_redeemUnits_48 (by decide) (fun c_59 => ?_) (fun c_59 => ?_)
            · have z_c_59 := jc_neq (a := (x_58).toInt) (b := (p2).toInt) c_59 rfl rfl
              obtain ⟨x_60, ex_60, vx_60⟩ := tt_inc (x := x_2) (n := 1) (by omega) (by omega)
              refine jj_iinc (v := x_60) C dX1_redeemUnits_108 rfl ex_60 (by decide) rfl ?_
              refine jj_goto (tgt := 6) C dX1_redeemUnits_111 (by decide) ?_
              refine jj_loc [0, 3, 4, 5, 6, 7] rfl ?_
              exact ihL_1 pl_43 x_60 y_3 hok_44 hfr (by first | omega | decide | exact tt_lo _ | exact tt_hi _) (by first | omega | decide | exact tt_lo _ | exact tt_hi _) (by first | omega | decide | exact tt_lo _ | exact tt_hi _)
            · have z_c_59 := jc_eq (a := (x_58).toInt) (b := (p2).toInt) c_59 rfl rfl
              refine jj_iload C dX1_redeemUnits_51 rfl ?_
              refine jj_iconst (v := (-1)) C dX1_redeemUnits_53 (by decide) ?_
              refine jj_icmp_eq (tgt := 108) C dX1_redeemUnits_54 (by decide) (fun c_61 => ?_) (fun c_61 => ?_)
              · have z_c_61 := jc_eq (a := (x_49).toInt) (b := (-1)) c_61 rfl (by decide)
                exfalso; omega
              · have z_c_61 := jc_neq (a := (x_49).toInt) (b := (-1)) c_61 rfl (by decide)
                refine jj_lload C dX1_redeemUnits_57 rfl ?_
                refine jj_aload C dX1_redeemUnits_59 rfl ?_
                refine tt_get C hok_44 jk_5 3 (by decide) jw_141 (t := (1, (-9223372036854775808), 9223372036854775807)) ka_39 (by decide) rfl rfl dX1_redeemUnits_61 (fun v_62 hv_62 hf_63 => ?_)
                obtain ⟨y_64, rfl, -, -⟩ := tt_vj hv_62
                refine tt_call0S (rest := []) C (ct_J9_min_f86c9_1 hl D cA ak y_3 y_64) jw_142 jw_145 jw_144 jw_143 jn_J9_min_f86c9 rfl (jj_le rfl) (jj_le rfl) (jj_le rfl) (jj_le rfl) (jj_le rfl) dX1_redeemUnits_64 rfl (fun w1 r O_65 => ?_)
                rcases O_65 with ⟨c_66, -, rfl⟩ | ⟨c_67, -, rfl⟩
                · refine jj_lstore C dX1_redeemUnits_67 (by decide) rfl ?_
                  refine jj_aload_n C dX1_redeemUnits_69 rfl ?_
                  refine jj_aload_n C dX1_redeemUnits_70 rfl ?_
                  refine jj_aload_n C dX1_redeemUnits_71 rfl ?_
                  refine tt_get C hok_44 jk_2 11 (by decide) jw_89 (t := (2, 6, 0)) hk1 (by decide) rfl rfl dX1_redeemUnits_72 (fun v_68 hv_68 hf_69 => ?_)
                  obtain ⟨a_70, rfl, ka_70⟩ := tt_vr hv_68
                  refine jj_iload C dX1_redeemUnits_75 rfl ?_
                  refine tt_aald C hok_44 (t := (2, 2, 0)) ka_70 (by decide) rfl rfl rfl (vp_in_iff.mpr ⟨by omega, by omega⟩) dX1_redeemUnits_77 (fun v_71 hv_71 => ?_)
                  obtain ⟨a_72, rfl, ka_72⟩ := tt_vr hv_71
                  refine jj_aload C dX1_redeemUnits_78 rfl ?_
                  refine jj_lload C dX1_redeemUnits_80 rfl ?_
                  obtain ⟨qc, gs, hqc⟩ := tt_recv (cx := []) hok_44 hk0 (by decide) rfl
                  refine tt_callV (rest := []) C (tc_X1_quote_1 hl D cA ak h0 h1 a_72 a_39 y_64 hk0 hk1 ka_72 ka_39 hok_44) [] [] rfl rfl (by decide) (by decide) (by decide) qc hqc rfl rfl jw_147 jw_180 jw_181 jw_74 jw_148 jn_X1_quote rfl (jj_le rfl) (jj_le rfl) (jj_le rfl) (jj_le rfl) (jj_le rfl) dX1_redeemUnits_82 rfl (fun _ _ _ hX => hX.elim) (fun rx pl_73 r O_76 => ?_)
                  obtain ⟨rfl, hok_74, hr_75, hR_78⟩ := O_76
                  replace hf_5 := hr_75.at hk1 (by decide) (by decide) hf_5
                  replace hf_36 := hr_75.at hk1 (by decide) (by decide) hf_36
                  replace hf_41 := hr_75.at ka_39 (by decide) (by decide) hf_41
                  replace hf_57 := hr_75.at ka_39 (by decide) (by decide) hf_57
                  replace hf_63 := hr_75.at ka_39 (by decide) (by decide) hf_63
                  replace hf_69 := hr_75.at hk1 (by decide) (by decide) hf_69
                  replace hfr := hfr.trans (hr_75.sub (by decide))
                  obtain rfl := hR_78
                  refine jj_aload_n C dX1_redeemUnits_85 rfl ?_
                  refine jj_aload_n C dX1_redeemUnits_86 rfl ?_
                  refine jj_aload_n C dX1_redeemUnits_87 rfl ?_
                  refine tt_getF C hok_74 jk_2 11 (by decide) jw_89 (t := (2, 6, 0)) hk1 (by decide) rfl rfl hf_69 dX1_redeemUnits_88 ?_
                  refine jj_iload C dX1_redeemUnits_91 rfl ?_
                  refine tt_aald C hok_74 (t := (2, 2, 0)) ka_70 (by decide) rfl rfl rfl (vp_in_iff.mpr ⟨by omega, by omega⟩) dX1_redeemUnits_93 (fun v_79 hv_79 => ?_)
                  obtain ⟨a_80, rfl, ka_80⟩ := tt_vr hv_79
                  refine jj_aload C dX1_redeemUnits_94 rfl ?_
                  refine jj_lload C dX1_redeemUnits_96 rfl ?_
                  obtain ⟨qc, gs, hqc⟩ := tt_recv (cx := []) hok_74 hk0 (by decide) rfl
                  refine tt_callV (rest := []) C (tc_X1_takeOut_1 hl D cA ak h0 h1 a_80 a_39 y_64 hk0 hk1 ka_80 ka_39 hok_74) [] [] rfl rfl (by decide) (by decide) (by decide) qc hqc rfl rfl jw_267 jw_270 jw_271 jw_74 jw_268 jn_X1_takeOut rfl (jj_le rfl) (jj_le rfl) (jj_le rfl) (jj_le rfl) (jj_le rfl) dX1_redeemUnits_98 rfl (fun _ _ _ hX => hX.elim) (fun rx pl_81 r O_84 => ?_)
                  obtain ⟨rfl, hok_82, hr_83, hR_86⟩ := O_84
                  replace hf_5 := hr_83.at hk1 (by decide) (by decide) hf_5
                  replace hf_36 := hr_83.at hk1 (by decide) (by decide) hf_36
                  replace hf_41 := hr_83.at ka_39 (by decide) (by decide) hf_41
                  replace hf_57 := hr_83.at ka_39 (by decide) (by decide) hf_57
                  replace hf_69 := hr_83.at hk1 (by decide) (by decide) hf_69
                  replace hfr := hfr.trans (hr_83.sub (by decide))
                  obtain rfl := hR_86
                  refine jj_lload C dX1_redeemUnits_101 rfl ?_
                  refine jj_lload C dX1_redeemUnits_103 rfl ?_
                  obtain ⟨y_87, ey_87⟩ : ∃ z : Int64, y_3 - y_64 = z := ⟨_, rfl⟩
                  refine jj_lsub (v := y_87) C dX1_redeemUnits_105 ey_87 ?_
                  refine jj_lstore C dX1_redeemUnits_106 (by decide) rfl ?_
                  obtain ⟨x_88, ex_88, vx_88⟩ := tt_inc (x := x_2) (n := 1) (by omega) (by omega)
                  refine jj_iinc (v := x_88) C dX1_redeemUnits_108 rfl ex_88 (by decide) rfl ?_
                  refine jj_goto (tgt := 6) C dX1_redeemUnits_111 (by decide) ?_
                  refine jj_loc [0, 1, 5, 6, 7, 8] rfl ?_
                  exact ihL_1 pl_81 x_88 y_87 hok_82 hfr (by first | omega | decide | exact tt_lo _ | exact tt_hi _) (by first | omega | decide | exact tt_lo _ | exact tt_hi _) (by first | omega | decide | exact tt_lo _ | exact tt_hi _)
                · refine jj_lstore C dX1_redeemUnits_67 (by decide) rfl ?_
                  refine jj_aload_n C dX1_redeemUnits_69 rfl ?_
                  refine jj_aload_n C dX1_redeemUnits_70 rfl ?_
                  refine jj_aload_n C dX1_redeemUnits_71 rfl ?_
                  refine tt_get C hok_44 jk_2 11 (by decide) jw_89 (t := (2, 6, 0)) hk1 (by decide) rfl rfl dX1_redeemUnits_72 (fun v_89 hv_89 hf_90 => ?_)
                  obtain ⟨a_91, rfl, ka_91⟩ := tt_vr hv_89
                  refine jj_iload C dX1_redeemUnits_75 rfl ?_
                  refine tt_aald C hok_44 (t := (2, 2, 0)) ka_91 (by decide) rfl rfl rfl (vp_in_iff.mpr ⟨by omega, by omega⟩) dX1_redeemUnits_77 (fun v_92 hv_92 => ?_)
                  obtain ⟨a_93, rfl, ka_93⟩ := tt_vr hv_92
                  refine jj_aload C dX1_redeemUnits_78 rfl ?_
                  refine jj_lload C dX1_redeemUnits_80 rfl ?_
                  obtain ⟨qc, gs, hqc⟩ := tt_recv (cx := []) hok_44 hk0 (by decide) rfl
                  refine tt_callV (rest := []) C (tc_X1_quote_1 hl D cA ak h0 h1 a_93 a_39 y_3 hk0 hk1 ka_93 ka_39 hok_44) [] [] rfl rfl (by decide) (by decide) (by decide) qc hqc rfl rfl jw_147 jw_180 jw_181 jw_74 jw_148 jn_X1_quote rfl (jj_le rfl) (jj_le rfl) (jj_le rfl) (jj_le rfl) (jj_le rfl) dX1_redeemUnits_82 rfl (fun _ _ _ hX => hX.elim) (fun rx pl_94 r O_97 => ?_)
                  obtain ⟨rfl, hok_95, hr_96, hR_99⟩ := O_97
                  replace hf_5 := hr_96.at hk1 (by decide) (by decide) hf_5
                  replace hf_36 := hr_96.at hk1 (by decide) (by decide) hf_36
                  replace hf_41 := hr_96.at ka_39 (by decide) (by decide) hf_41
                  replace hf_57 := hr_96.at ka_39 (by decide) (by decide) hf_57
                  replace hf_63 := hr_96.at ka_39 (by decide) (by decide) hf_63
                  replace hf_90 := hr_96.at hk1 (by decide) (by decide) hf_90
                  replace hfr := hfr.trans (hr_96.sub (by decide))
                  obtain rfl := hR_99
                  refine jj_aload_n C dX1_redeemUnits_85 rfl ?_
                  refine jj_aload_n C dX1_redeemUnits_86 rfl ?_
                  refine jj_aload_n C dX1_redeemUnits_87 rfl ?_
                  refine tt_getF C hok_95 jk_2 11 (by decide) jw_89 (t := (2, 6, 0)) hk1 (by decide) rfl rfl hf_90 dX1_redeemUnits_88 ?_
                  refine jj_iload C dX1_redeemUnits_91 rfl ?_
                  refine tt_aald C hok_95 (t := (2, 2, 0)) ka_91 (by decide) rfl rfl rfl (vp_in_iff.mpr ⟨by omega, by omega⟩) dX1_redeemUnits_93 (fun v_100 hv_100 => ?_)
                  obtain ⟨a_101, rfl, ka_101⟩ := tt_vr hv_100
                  refine jj_aload C dX1_redeemUnits_94 rfl ?_
                  refine jj_lload C dX1_redeemUnits_96 rfl ?_
                  obtain ⟨qc, gs, hqc⟩ := tt_recv (cx := []) hok_95 hk0 (by decide) rfl
                  refine tt_callV (rest := []) C (tc_X1_takeOut_1 hl D cA ak h0 h1 a_101 a_39 y_3 hk0 hk1 ka_101 ka_39 hok_95) [] [] rfl rfl (by decide) (by decide) (by decide) qc hqc rfl rfl jw_267 jw_270 jw_271 jw_74 jw_268 jn_X1_takeOut rfl (jj_le rfl) (jj_le rfl) (jj_le rfl) (jj_le rfl) (jj_le rfl) dX1_redeemUnits_98 rfl (fun _ _ _ hX => hX.elim) (fun rx pl_102 r O_105 => ?_)
                  obtain ⟨rfl, hok_103, hr_104, hR_107⟩ := O_105
                  replace hf_5 := hr_104.at hk1 (by decide) (by decide) hf_5
                  replace hf_36 := hr_104.at hk1 (by decide) (by decide) hf_36
                  replace hf_41 := hr_104.at ka_39 (by decide) (by decide) hf_41
                  replace hf_57 := hr_104.at ka_39 (by decide) (by decide) hf_57
                  replace hf_90 := hr_104.at hk1 (by decide) (by decide) hf_90
                  replace hfr := hfr.trans (hr_104.sub (by decide))
                  obtain rfl := hR_107
                  refine jj_lload C dX1_redeemUnits_101 rfl ?_
                  refine jj_lload C dX1_redeemUnits_103 rfl ?_
                  obtain ⟨y_108, ey_108⟩ : ∃ z : Int64, y_3 - y_3 = z := ⟨_, rfl⟩
                  refine jj_lsub (v := y_108) C dX1_redeemUnits_105 ey_108 ?_
                  refine jj_lstore C dX1_redeemUnits_106 (by decide) rfl ?_
                  obtain ⟨x_109, ex_109, vx_109⟩ := tt_inc (x := x_2) (n := 1) (by omega) (by omega)
                  refine jj_iinc (v := x_109) C dX1_redeemUnits_108 rfl ex_109 (by decide) rfl ?_
                  refine jj_goto (tgt := 6) C dX1_redeemUnits_111 (by decide) ?_
                  refine jj_loc [0, 1, 5, 6, 7, 8] rfl ?_
                  exact ihL_1 pl_102 x_109 y_108 hok_103 hfr (by first | omega | decide | exact tt_lo _ | exact tt_hi _) (by first | omega | decide | exact tt_lo _ | exact tt_hi _) (by first | omega | decide | exact tt_lo _ | exact tt_hi _)
  exact hL_1 _ pl0 (0 : Int32) p3 trivial hok hfr (by first | omega | decide | exact tt_lo _ | exact tt_hi _) (by first | omega | decide | exact tt_lo _ | exact tt_hi _) (Int.self_le_toNat _)

set_option maxHeartbeats 4000000 in
set_option maxRecDepth 100000 in
theorem tc_X1_redeemWaiting_1 {l : Launch} (hl : l.stackTraces = false) (D : va_G) (cA : Nat → ClassId) (ak : (Nat → Nat) × (Nat → Nat)) {Kd : Nat → Nat} (h0 : Nat) (h1 : Nat) (p2 : Int64) (hk0 : Kd h0 = 9) (hk1 : Kd h1 = 1) {pl0 : va_W} (hok : tt_ok tt_tk cA Kd pl0) : jj_M l D cA ak yX1_redeemWaiting (.code yX1_redeemWaiting cX1_redeemWaiting 10 none) 3 85 0 0 ([] ++ pl0) [.ref h0, .ref h1, .long p2] (tt_O (fun rx pl1 r => rx = [] ∧ tt_ok tt_tk cA Kd pl1 ∧ tt_fr Kd [(1, 7), (1, 8), (2, 2), (2, 3), (3, 3), (3, 5), (4, 3), (4, 4), (9, 1), (9, 2), (9, 3), (9, 4), (9, 5)] pl0 pl1 ∧ ((r = none)))) (tt_OX (fun _ _ _ => False)) := by
  refine jj_start hl (by decide) jw_233 (jj_le rfl) ?_
  intro p e s m args below meth c A hargs hA C hex hmn
  have hfr := tt_fr.refl (K := Kd) (WS := [(1, 7), (1, 8), (2, 2), (2, 3), (3, 3), (3, 5), (4, 3), (4, 4), (9, 1), (9, 2), (9, 3), (9, 4), (9, 5)]) pl0
  refine jj_aload_n C dX1_redeemWaiting_0 rfl ?_
  obtain ⟨qc, gs, hqc⟩ := tt_recv (cx := []) hok hk1 (by decide) rfl
  refine tt_callV (rest := []) C (tc_X0_limitOfGate_1 hl D cA ak h1 hk1 hok) [] [] rfl rfl (by decide) (by decide) (by decide) qc hqc rfl rfl jw_234 jw_244 jw_245 jw_133 jw_235 jn_X0_limitOfGate rfl (jj_le rfl) (jj_le rfl) (jj_le rfl) (jj_le rfl) (jj_le rfl) dX1_redeemWaiting_1 rfl (fun _ _ _ hX => hX.elim) (fun rx pl_1 r O_4 => ?_)
  obtain ⟨rfl, hok_2, hr_3, hR_6⟩ := O_4
  replace hfr := hfr.trans (hr_3.sub (by decide))
  obtain ⟨y_7, rfl⟩ := hR_6
  refine jj_lstore C dX1_redeemWaiting_4 (by decide) rfl ?_
  refine jj_iconst (v := 0) C dX1_redeemWaiting_6 (by decide) ?_
  refine jj_istore C dX1_redeemWaiting_7 (by decide) rfl ?_
  have hL_8 : ∀ (N : Nat) (pl : va_W) (x_9 : Int32), True → tt_ok tt_tk cA Kd pl → tt_fr Kd [(1, 7), (1, 8), (2, 2), (2, 3), (3, 3), (3, 5), (4, 3), (4, 4), (9, 1), (9, 2), (9, 3), (9, 4), (9, 5)] pl0 pl → (0 : Int) ≤ x_9.toInt → x_9.toInt ≤ 12 → (2147483648 - x_9.toInt ≤ (N : Int)) → jj_J p l e (jj_rm 3 85 0 0) s m args below meth c 10 A (vx_MQ below (jj_q D A (tt_O (fun rx pl1 r => rx = [] ∧ tt_ok tt_tk cA Kd pl1 ∧ tt_fr Kd [(1, 7), (1, 8), (2, 2), (2, 3), (3, 3), (3, 5), (4, 3), (4, 4), (9, 1), (9, 2), (9, 3), (9, 4), (9, 5)] pl0 pl1 ∧ ((r = none))))) (jj_x D A (tt_OX (fun _ _ _ => False))) args s 0 0 A) (jj_X D A ([] ++ pl)) 0 0 9 [(6, .int x_9), (4, .long y_7), (0, .ref h0), (1, .ref h1), (2, .long p2)] [] := by
    intro NL_8
    induction NL_8 with
    | zero => intro pl x_9 _ hok hfr lx_9 ux_9 hNL_8; exfalso; omega
    | succ NL_8 ihL_8 =>
      intro pl x_9 _ hok hfr lx_9 ux_9 hNL_8
      replace ihL_8 := fun pl x_9 h1 => ihL_8 pl x_9 trivial h1
      refine jj_iload C dX1_redeemWaiting_9 rfl ?_
      refine jj_aload_n C dX1_redeemWaiting_11 rfl ?_
      refine tt_get C hok jk_2 9 (by decide) jw_75 (t := (0, 0, 12)) hk1 (by decide) rfl rfl dX1_redeemWaiting_12 (fun v_10 hv_10 hf_11 => ?_)
      obtain ⟨x_12, rfl, lx_12, ux_12⟩ := tt_vi hv_10
      refine jj_icmp_ge (tgt := 99) C dX1_redeemWaiting_15 (by decide) (fun c_13 => ?_) (fun c_13 => ?_)
      · have z_c_13 := jc_le (a := (x_12).toInt) (b := (x_9).toInt) c_13 rfl rfl
        refine jj_iconst (v := 0) C dX1_redeemWaiting_99 (by decide) ?_
        refine jj_istore C dX1_redeemWaiting_100 (by decide) rfl ?_
        have hL_14 : ∀ (N : Nat) (pl : va_W) (x_15 : Int32), True → tt_ok tt_tk cA Kd pl → tt_fr Kd [(1, 7), (1, 8), (2, 2), (2, 3), (3, 3), (3, 5), (4, 3), (4, 4), (9, 1), (9, 2), (9, 3), (9, 4), (9, 5)] pl0 pl → tt_at pl h1 9 (.int x_12) → (0 : Int) ≤ x_15.toInt → x_15.toInt ≤ 12 → (2147483648 - x_15.toInt ≤ (N : Int)) → jj_J p l e (jj_rm 3 85 0 0) s m args below meth c 10 A (vx_MQ below (jj_q D A (tt_O (fun rx pl1 r => rx = [] ∧ tt_ok tt_tk cA Kd pl1 ∧ tt_fr Kd [(1, 7), (1, 8), (2, 2), (2, 3), (3, 3), (3, 5), (4, 3), (4, 4), (9, 1), (9, 2), (9, 3), (9, 4), (9, 5)] pl0 pl1 ∧ ((r = none))))) (jj_x D A (tt_OX (fun _ _ _ => False))) args s 0 0 A) (jj_X D A ([] ++ pl)) 0 0 102 [(6, .int x_15), (4, .long y_7), (0, .ref h0), (1, .ref h1), (2, .long p2)] [] := by
          intro NL_14
          induction NL_14 with
          | zero => intro pl x_15 _ hok hfr hf_16 lx_15 ux_15 hNL_14; exfalso; omega
          | succ NL_14 ihL_14 =>
            intro pl x_15 _ hok hfr hf_16 lx_15 ux_15 hNL_14
            replace ihL_14 := fun pl x_15 h1 => ihL_14 pl x_15 trivial h1
            refine jj_iload C dX1_redeemWaiting_102 rfl ?_
            refine jj_aload_n C dX1_redeemWaiting_104 rfl ?_
            refine tt_getF C hok jk_2 9 (by decide) jw_75 (t := (0, 0, 12)) hk1 (by decide) rfl rfl hf_16 dX1_redeemWaiting_105 ?_
            refine jj_icmp_ge (tgt := 154) C dX1_redeemWaiting_108 (by decide) (fun c_17 => ?_) (fun c_17 => ?_)
            · have z_c_17 := jc_le (a := (x_12).toInt) (b := (x_15).toInt) c_17 rfl rfl
              exact jj_vret C ⟨[], pl, rfl, rfl, hok, hfr, rfl⟩ dX1_redeemWaiting_154 (jj_le rfl) (jj_le rfl)
            · have z_c_17 := jc_nle (a := (x_12).toInt) (b := (x_15).toInt) c_17 rfl rfl
              refine jj_aload_n C dX1_redeemWaiting_111 rfl ?_
              refine tt_get C hok jk_2 13 (by decide) jw_76 (t := (2, 8, 0)) hk1 (by decide) rfl rfl dX1_redeemWaiting_112 (fun v_18 hv_18 hf_19 => ?_)
              obtain ⟨a_20, rfl, ka_20⟩ := tt_vr hv_18
              refine jj_iload C dX1_redeemWaiting_115 rfl ?_
              refine tt_aald C hok (t := (2, 4, 0)) ka_20 (by decide) rfl rfl rfl (vp_in_iff.mpr ⟨by omega, by omega⟩) dX1_redeemWaiting_117 (fun v_21 hv_21 => ?_)
              obtain ⟨a_22, rfl, ka_22⟩ := tt_vr hv_21
              refine jj_astore C dX1_redeemWaiting_118 (by decide) rfl ?_
              refine jj_aload C dX1_redeemWaiting_120 rfl ?_
              refine tt_get C hok jk_7 2 (by decide) jw_77 (t := (0, 0, 1)) ka_22 (by decide) rfl rfl dX1_redeemWaiting_122 (fun v_23 hv_23 hf_24 => ?_)
              obtain ⟨x_25, rfl, lx_25, ux_25⟩ := tt_vi hv_23
              refine jj_if_eq (tgt := 148) C dX1_redeemWaiting_125 (by decide) (fun c_26 => ?_) (fun c_26 => ?_)
              · have z_c_26 := jc_eq (a := (x_25).toInt) (b := (0)) c_26 rfl (by decide)
                obtain ⟨x_27, ex_27, vx_27⟩ := tt_inc (x := x_15) (n := 1) (by omega) (by omega)
                refine jj_iinc (v := x_27) C dX1_redeemWaiting_148 rfl ex_27 (by decide) rfl ?_
                refine jj_goto (tgt := 102) C dX1_redeemWaiting_151 (by decide) ?_
                refine jj_loc [0, 2, 3, 4, 5] rfl ?_
                exact ihL_14 pl x_27 hok hfr hf_16 (by first | omega | decide | exact tt_lo _ | exact tt_hi _) (by first | omega | decide | exact tt_lo _ | exact tt_hi _) (by first | omega | decide | exact tt_lo _ | exact tt_hi _)
              · have z_c_26 := jc_neq (a := (x_25).toInt) (b := (0)) c_26 rfl (by decide)
                refine jj_aload_n C dX1_redeemWaiting_128 rfl ?_
                refine jj_aload C dX1_redeemWaiting_129 rfl ?_
                refine tt_get C hok jk_7 0 (by decide) jw_117 (t := (0, (-2147483648), 2147483647)) ka_22 (by decide) rfl rfl dX1_redeemWaiting_131 (fun v_28 hv_28 hf_29 => ?_)
                obtain ⟨x_30, rfl, lx_30, ux_30⟩ := tt_vi hv_28
                obtain ⟨qc, gs, hqc⟩ := tt_recv (cx := []) hok hk1 (by decide) rfl
                refine tt_callV (rest := []) C (tc_X0_unitsHeldBy_1 hl D cA ak h1 x_30 hk1 hok) [] [] rfl rfl (by decide) (by decide) (by decide) qc hqc rfl rfl jw_247 jw_251 jw_252 jw_133 jw_248 jn_X0_unitsHeldBy rfl (jj_le rfl) (jj_le rfl) (jj_le rfl) (jj_le rfl) (jj_le rfl) dX1_redeemWaiting_134 rfl (fun _ _ _ hX => hX.elim) (fun rx pl_31 r O_34 => ?_)
                obtain ⟨rfl, hok_32, hr_33, hR_36⟩ := O_34
                replace hf_16 := hr_33.at hk1 (by decide) (by decide) hf_16
                replace hf_19 := hr_33.at hk1 (by decide) (by decide) hf_19
                replace hf_24 := hr_33.at ka_22 (by decide) (by decide) hf_24
                replace hf_29 := hr_33.at ka_22 (by decide) (by decide) hf_29
                replace hfr := hfr.trans (hr_33.sub (by decide))
                obtain ⟨y_37, rfl⟩ := hR_36
                refine jj_lconst (v := 0) C dX1_redeemWaiting_137 (by decide) ?_
                refine jj_lcmp_ne (tgt := 148) C dX1_redeemWaiting_138 dX1_redeemWaiting_139 (by decide) (fun c_38 => ?_) (fun c_38 => ?_)
                · obtain ⟨x_39, ex_39, vx_39⟩ := tt_inc (x := x_15) (n := 1) (by omega) (by omega)
                  refine jj_iinc (v := x_39) C dX1_redeemWaiting_148 rfl ex_39 (by decide) rfl ?_
                  refine jj_goto (tgt := 102) C dX1_redeemWaiting_151 (by decide) ?_
                  refine jj_loc [0, 2, 3, 4, 5] rfl ?_
                  exact ihL_14 pl_31 x_39 hok_32 hfr hf_16 (by first | omega | decide | exact tt_lo _ | exact tt_hi _) (by first | omega | decide | exact tt_lo _ | exact tt_hi _) (by first | omega | decide | exact tt_lo _ | exact tt_hi _)
                · refine jj_aload C dX1_redeemWaiting_142 rfl ?_
                  refine jj_lconst (v := 0) C dX1_redeemWaiting_144 (by decide) ?_
                  refine tt_put C hok_32 jk_7 3 (by decide) jw_118 (t := (1, (-9223372036854775808), 9223372036854775807)) ka_22 (by decide) rfl rfl rfl (tt_ja (0 : Int64)) rfl rfl dX1_redeemWaiting_145 (fun pl_40 hok_41 tr hn => ?_)
                  replace hf_16 := tr _ _ _ (Or.inl (tt_ne hk1 ka_22 (by decide))) hf_16
                  replace hf_19 := tr _ _ _ (Or.inl (tt_ne hk1 ka_22 (by decide))) hf_19
                  replace hf_24 := tr _ _ _ (Or.inr (by decide)) hf_24
                  replace hf_29 := tr _ _ _ (Or.inr (by decide)) hf_29
                  have hf_42 := hn
                  replace hfr := hfr.put ka_22 tr (by decide)
                  obtain ⟨x_43, ex_43, vx_43⟩ := tt_inc (x := x_15) (n := 1) (by omega) (by omega)
                  refine jj_iinc (v := x_43) C dX1_redeemWaiting_148 rfl ex_43 (by decide) rfl ?_
                  refine jj_goto (tgt := 102) C dX1_redeemWaiting_151 (by decide) ?_
                  refine jj_loc [0, 2, 3, 4, 5] rfl ?_
                  exact ihL_14 pl_40 x_43 hok_41 hfr hf_16 (by first | omega | decide | exact tt_lo _ | exact tt_hi _) (by first | omega | decide | exact tt_lo _ | exact tt_hi _) (by first | omega | decide | exact tt_lo _ | exact tt_hi _)
        exact hL_14 _ pl (0 : Int32) trivial hok hfr hf_11 (by first | omega | decide | exact tt_lo _ | exact tt_hi _) (by first | omega | decide | exact tt_lo _ | exact tt_hi _) (Int.self_le_toNat _)
      · have z_c_13 := jc_nle (a := (x_12).toInt) (b := (x_9).toInt) c_13 rfl rfl
        refine jj_aload_n C dX1_redeemWaiting_18 rfl ?_
        refine tt_get C hok jk_2 13 (by decide) jw_76 (t := (2, 8, 0)) hk1 (by decide) rfl rfl dX1_redeemWaiting_19 (fun v_44 hv_44 hf_45 => ?_)
        obtain ⟨a_46, rfl, ka_46⟩ := tt_vr hv_44
        refine jj_iload C dX1_redeemWaiting_22 rfl ?_
        refine tt_aald C hok (t := (2, 4, 0)) ka_46 (by decide) rfl rfl rfl (vp_in_iff.mpr ⟨by omega, by omega⟩) dX1_redeemWaiting_24 (fun v_47 hv_47 => ?_)
        obtain ⟨a_48, rfl, ka_48⟩ := tt_vr hv_47
        refine jj_astore C dX1_redeemWaiting_25 (by decide) rfl ?_
        refine jj_aload C dX1_redeemWaiting_27 rfl ?_
        refine tt_get C hok jk_7 2 (by decide) jw_77 (t := (0, 0, 1)) ka_48 (by decide) rfl rfl dX1_redeemWaiting_29 (fun v_49 hv_49 hf_50 => ?_)
        obtain ⟨x_51, rfl, lx_51, ux_51⟩ := tt_vi hv_49
        refine jj_if_eq (tgt := 93) C dX1_redeemWaiting_32 (by decide) (fun c_52 => ?_) (fun c_52 => ?_)
        · have z_c_52 := jc_eq (a := (x_51).toInt) (b := (0)) c_52 rfl (by decide)
          obtain ⟨x_53, ex_53, vx_53⟩ := tt_inc (x := x_9) (n := 1) (by omega) (by omega)
          refine jj_iinc (v := x_53) C dX1_redeemWaiting_93 rfl ex_53 (by decide) rfl ?_
          refine jj_goto (tgt := 9) C dX1_redeemWaiting_96 (by decide) ?_
          refine jj_loc [0, 2, 3, 4, 5] rfl ?_
          exact ihL_8 pl x_53 hok hfr (by first | omega | decide | exact tt_lo _ | exact tt_hi _) (by first | omega | decide | exact tt_lo _ | exact tt_hi _) (by first | omega | decide | exact tt_lo _ | exact tt_hi _)
        · have z_c_52 := jc_neq (a := (x_51).toInt) (b := (0)) c_52 rfl (by decide)
          refine jj_aload C dX1_redeemWaiting_35 rfl ?_
          refine tt_get C hok jk_7 3 (by decide) jw_118 (t := (1, (-9223372036854775808), 9223372036854775807)) ka_48 (by decide) rfl rfl dX1_redeemWaiting_37 (fun v_54 hv_54 hf_55 => ?_)
          obtain ⟨y_56, rfl, -, -⟩ := tt_vj hv_54
          refine jj_lstore C dX1_redeemWaiting_40 (by decide) rfl ?_
          refine jj_lload_n C dX1_redeemWaiting_42 rfl ?_
          refine jj_lload C dX1_redeemWaiting_43 rfl ?_
          refine jj_lcmp_le (tgt := 64) C dX1_redeemWaiting_45 dX1_redeemWaiting_46 (by decide) (fun c_57 => ?_) (fun c_57 => ?_)
          · refine jj_aload C dX1_redeemWaiting_64 rfl ?_
            refine jj_aload_n C dX1_redeemWaiting_66 rfl ?_
            refine jj_aload_n C dX1_redeemWaiting_67 rfl ?_
            refine jj_aload C dX1_redeemWaiting_68 rfl ?_
            refine tt_get C hok jk_7 0 (by decide) jw_117 (t := (0, (-2147483648), 2147483647)) ka_48 (by decide) rfl rfl dX1_redeemWaiting_70 (fun v_58 hv_58 hf_59 => ?_)
            obtain ⟨x_60, rfl, lx_60, ux_60⟩ := tt_vi hv_58
            refine jj_lload C dX1_redeemWaiting_73 rfl ?_
            obtain ⟨qc, gs, hqc⟩ := tt_recv (cx := []) hok hk0 (by decide) rfl
            refine tt_callV (rest := [.ref a_48]) C (tc_X1_redeemUnits_1 hl D cA ak h0 h1 x_60 y_56 hk0 hk1 hok) [] [] rfl rfl (by decide) (by decide) (by decide) qc hqc rfl rfl jw_254 jw_273 jw_274 jw_74 jw_255 jn_X1_redeemUnits rfl (jj_le rfl) (jj_le rfl) (jj_le rfl) (jj_le rfl) (jj_le rfl) dX1_redeemWaiting_75 rfl (fun _ _ _ hX => hX.elim) (fun rx pl_61 r O_64 => ?_)
            obtain ⟨rfl, hok_62, hr_63, hR_66⟩ := O_64
            replace hf_11 := hr_63.at hk1 (by decide) (by decide) hf_11
            replace hf_45 := hr_63.at hk1 (by decide) (by decide) hf_45
            replace hf_50 := hr_63.at ka_48 (by decide) (by decide) hf_50
            replace hf_55 := hr_63.at ka_48 (by decide) (by decide) hf_55
            replace hf_59 := hr_63.at ka_48 (by decide) (by decide) hf_59
            replace hfr := hfr.trans (hr_63.sub (by decide))
            obtain ⟨y_67, rfl⟩ := hR_66
            refine tt_put C hok_62 jk_7 4 (by decide) jw_276 (t := (1, (-9223372036854775808), 9223372036854775807)) ka_48 (by decide) rfl rfl rfl (tt_ja y_67) rfl rfl dX1_redeemWaiting_78 (fun pl_68 hok_69 tr hn => ?_)
            replace hf_11 := tr _ _ _ (Or.inl (tt_ne hk1 ka_48 (by decide))) hf_11
            replace hf_45 := tr _ _ _ (Or.inl (tt_ne hk1 ka_48 (by decide))) hf_45
            replace hf_50 := tr _ _ _ (Or.inr (by decide)) hf_50
            replace hf_55 := tr _ _ _ (Or.inr (by decide)) hf_55
            replace hf_59 := tr _ _ _ (Or.inr (by decide)) hf_59
            have hf_70 := hn
            replace hfr := hfr.put ka_48 tr (by decide)
            refine jj_aload C dX1_redeemWaiting_81 rfl ?_
            refine jj_dup C dX1_redeemWaiting_83 rfl ?_
            refine tt_getF C hok_69 jk_7 3 (by decide) jw_118 (t := (1, (-9223372036854775808), 9223372036854775807)) ka_48 (by decide) rfl rfl hf_55 dX1_redeemWaiting_84 ?_
            refine jj_lload C dX1_redeemWaiting_87 rfl ?_
            obtain ⟨y_71, ey_71⟩ : ∃ z : Int64, y_56 - y_56 = z := ⟨_, rfl⟩
            refine jj_lsub (v := y_71) C dX1_redeemWaiting_89 ey_71 ?_
            refine tt_put C hok_69 jk_7 3 (by decide) jw_118 (t := (1, (-9223372036854775808), 9223372036854775807)) ka_48 (by decide) rfl rfl rfl (tt_ja y_71) rfl rfl dX1_redeemWaiting_90 (fun pl_72 hok_73 tr hn => ?_)
            replace hf_11 := tr _ _ _ (Or.inl (tt_ne hk1 ka_48 (by decide))) hf_11
            replace hf_45 := tr _ _ _ (Or.inl (tt_ne hk1 ka_48 (by decide))) hf_45
            replace hf_50 := tr _ _ _ (Or.inr (by decide)) hf_50
            replace hf_59 := tr _ _ _ (Or.inr (by decide)) hf_59
            replace hf_70 := tr _ _ _ (Or.inr (by decide)) hf_70
            have hf_74 := hn
            replace hfr := hfr.put ka_48 tr (by decide)
            obtain ⟨x_75, ex_75, vx_75⟩ := tt_inc (x := x_9) (n := 1) (by omega) (by omega)
            refine jj_iinc (v := x_75) C dX1_redeemWaiting_93 rfl ex_75 (by decide) rfl ?_
            refine jj_goto (tgt := 9) C dX1_redeemWaiting_96 (by decide) ?_
            refine jj_loc [0, 3, 4, 5, 6] rfl ?_
            exact ihL_8 pl_72 x_75 hok_73 hfr (by first | omega | decide | exact tt_lo _ | exact tt_hi _) (by first | omega | decide | exact tt_lo _ | exact tt_hi _) (by first | omega | decide | exact tt_lo _ | exact tt_hi _)
          · refine jj_lload_n C dX1_redeemWaiting_49 rfl ?_
            refine jj_lconst (v := 0) C dX1_redeemWaiting_50 (by decide) ?_
            refine jj_lcmp_le (tgt := 64) C dX1_redeemWaiting_51 dX1_redeemWaiting_52 (by decide) (fun c_76 => ?_) (fun c_76 => ?_)
            · refine jj_aload C dX1_redeemWaiting_64 rfl ?_
              refine jj_aload_n C dX1_redeemWaiting_66 rfl ?_
              refine jj_aload_n C dX1_redeemWaiting_67 rfl ?_
              refine jj_aload C dX1_redeemWaiting_68 rfl ?_
              refine tt_get C hok jk_7 0 (by decide) jw_117 (t := (0, (-2147483648), 2147483647)) ka_48 (by decide) rfl rfl dX1_redeemWaiting_70 (fun v_77 hv_77 hf_78 => ?_)
              obtain ⟨x_79, rfl, lx_79, ux_79⟩ := tt_vi hv_77
              refine jj_lload C dX1_redeemWaiting_73 rfl ?_
              obtain ⟨qc, gs, hqc⟩ := tt_recv (cx := []) hok hk0 (by decide) rfl
              refine tt_callV (rest := [.ref a_48]) C (tc_X1_redeemUnits_1 hl D cA ak h0 h1 x_79 y_56 hk0 hk1 hok) [] [] rfl rfl (by decide) (by decide) (by decide) qc hqc rfl rfl jw_254 jw_273 jw_274 jw_74 jw_255 jn_X1_redeemUnits rfl (jj_le rfl) (jj_le rfl) (jj_le rfl) (jj_le rfl) (jj_le rfl) dX1_redeemWaiting_75 rfl (fun _ _ _ hX => hX.elim) (fun rx pl_80 r O_83 => ?_)
              obtain ⟨rfl, hok_81, hr_82, hR_85⟩ := O_83
              replace hf_11 := hr_82.at hk1 (by decide) (by decide) hf_11
              replace hf_45 := hr_82.at hk1 (by decide) (by decide) hf_45
              replace hf_50 := hr_82.at ka_48 (by decide) (by decide) hf_50
              replace hf_55 := hr_82.at ka_48 (by decide) (by decide) hf_55
              replace hf_78 := hr_82.at ka_48 (by decide) (by decide) hf_78
              replace hfr := hfr.trans (hr_82.sub (by decide))
              obtain ⟨y_86, rfl⟩ := hR_85
              refine tt_put C hok_81 jk_7 4 (by decide) jw_276 (t := (1, (-9223372036854775808), 9223372036854775807)) ka_48 (by decide) rfl rfl rfl (tt_ja y_86) rfl rfl dX1_redeemWaiting_78 (fun pl_87 hok_88 tr hn => ?_)
              replace hf_11 := tr _ _ _ (Or.inl (tt_ne hk1 ka_48 (by decide))) hf_11
              replace hf_45 := tr _ _ _ (Or.inl (tt_ne hk1 ka_48 (by decide))) hf_45
              replace hf_50 := tr _ _ _ (Or.inr (by decide)) hf_50
              replace hf_55 := tr _ _ _ (Or.inr (by decide)) hf_55
              replace hf_78 := tr _ _ _ (Or.inr (by decide)) hf_78
              have hf_89 := hn
              replace hfr := hfr.put ka_48 tr (by decide)
              refine jj_aload C dX1_redeemWaiting_81 rfl ?_
              refine jj_dup C dX1_redeemWaiting_83 rfl ?_
              refine tt_getF C hok_88 jk_7 3 (by decide) jw_118 (t := (1, (-9223372036854775808), 9223372036854775807)) ka_48 (by decide) rfl rfl hf_55 dX1_redeemWaiting_84 ?_
              refine jj_lload C dX1_redeemWaiting_87 rfl ?_
              obtain ⟨y_90, ey_90⟩ : ∃ z : Int64, y_56 - y_56 = z := ⟨_, rfl⟩
              refine jj_lsub (v := y_90) C dX1_redeemWaiting_89 ey_90 ?_
              refine tt_put C hok_88 jk_7 3 (by decide) jw_118 (t := (1, (-9223372036854775808), 9223372036854775807)) ka_48 (by decide) rfl rfl rfl (tt_ja y_90) rfl rfl dX1_redeemWaiting_90 (fun pl_91 hok_92 tr hn => ?_)
              replace hf_11 := tr _ _ _ (Or.inl (tt_ne hk1 ka_48 (by decide))) hf_11
              replace hf_45 := tr _ _ _ (Or.inl (tt_ne hk1 ka_48 (by decide))) hf_45
              replace hf_50 := tr _ _ _ (Or.inr (by decide)) hf_50
              replace hf_78 := tr _ _ _ (Or.inr (by decide)) hf_78
              replace hf_89 := tr _ _ _ (Or.inr (by decide)) hf_89
              have hf_93 := hn
              replace hfr := hfr.put ka_48 tr (by decide)
              obtain ⟨x_94, ex_94, vx_94⟩ := tt_inc (x := x_9) (n := 1) (by omega) (by omega)
              refine jj_iinc (v := x_94) C dX1_redeemWaiting_93 rfl ex_94 (by decide) rfl ?_
              refine jj_goto (tgt := 9) C dX1_redeemWaiting_96 (by decide) ?_
              refine jj_loc [0, 3, 4, 5, 6] rfl ?_
              exact ihL_8 pl_91 x_94 hok_92 hfr (by first | omega | decide | exact tt_lo _ | exact tt_hi _) (by first | omega | decide | exact tt_lo _ | exact tt_hi _) (by first | omega | decide | exact tt_lo _ | exact tt_hi _)
            · refine jj_lload C dX1_redeemWaiting_55 rfl ?_
              refine jj_lload C dX1_redeemWaiting_57 rfl ?_
              obtain ⟨y_95, ey_95⟩ : ∃ z : Int64, y_56 * y_7 = z := ⟨_, rfl⟩
              refine jj_lmul (v := y_95) C dX1_redeemWaiting_59 ey_95 ?_
              refine jj_lload_n C dX1_redeemWaiting_60 rfl ?_
              obtain ⟨y_96, ey_96⟩ : ∃ z : Int64, y_95 / p2 = z := ⟨_, rfl⟩
              refine jj_ldiv (v := y_96) C dX1_redeemWaiting_61 (jt_nzpL (by first | exact Int64.not_le.mp c_76 | exact Int32.not_le.mp c_76)) ey_96 ?_
              refine jj_lstore C dX1_redeemWaiting_62 (by decide) rfl ?_
              refine jj_aload C dX1_redeemWaiting_64 rfl ?_
              refine jj_aload_n C dX1_redeemWaiting_66 rfl ?_
              refine jj_aload_n C dX1_redeemWaiting_67 rfl ?_
              refine jj_aload C dX1_redeemWaiting_68 rfl ?_
              refine tt_get C hok jk_7 0 (by decide) jw_117 (t := (0, (-2147483648), 2147483647)) ka_48 (by decide) rfl rfl dX1_redeemWaiting_70 (fun v_97 hv_97 hf_98 => ?_)
              obtain ⟨x_99, rfl, lx_99, ux_99⟩ := tt_vi hv_97
              refine jj_lload C dX1_redeemWaiting_73 rfl ?_
              obtain ⟨qc, gs, hqc⟩ := tt_recv (cx := []) hok hk0 (by decide) rfl
              refine tt_callV (rest := [.ref a_48]) C (tc_X1_redeemUnits_1 hl D cA ak h0 h1 x_99 y_96 hk0 hk1 hok) [] [] rfl rfl (by decide) (by decide) (by decide) qc hqc rfl rfl jw_254 jw_273 jw_274 jw_74 jw_255 jn_X1_redeemUnits rfl (jj_le rfl) (jj_le rfl) (jj_le rfl) (jj_le rfl) (jj_le rfl) dX1_redeemWaiting_75 rfl (fun _ _ _ hX => hX.elim) (fun rx pl_100 r O_103 => ?_)
              obtain ⟨rfl, hok_101, hr_102, hR_105⟩ := O_103
              replace hf_11 := hr_102.at hk1 (by decide) (by decide) hf_11
              replace hf_45 := hr_102.at hk1 (by decide) (by decide) hf_45
              replace hf_50 := hr_102.at ka_48 (by decide) (by decide) hf_50
              replace hf_55 := hr_102.at ka_48 (by decide) (by decide) hf_55
              replace hf_98 := hr_102.at ka_48 (by decide) (by decide) hf_98
              replace hfr := hfr.trans (hr_102.sub (by decide))
              obtain ⟨y_106, rfl⟩ := hR_105
              refine tt_put C hok_101 jk_7 4 (by decide) jw_276 (t := (1, (-9223372036854775808), 9223372036854775807)) ka_48 (by decide) rfl rfl rfl (tt_ja y_106) rfl rfl dX1_redeemWaiting_78 (fun pl_107 hok_108 tr hn => ?_)
              replace hf_11 := tr _ _ _ (Or.inl (tt_ne hk1 ka_48 (by decide))) hf_11
              replace hf_45 := tr _ _ _ (Or.inl (tt_ne hk1 ka_48 (by decide))) hf_45
              replace hf_50 := tr _ _ _ (Or.inr (by decide)) hf_50
              replace hf_55 := tr _ _ _ (Or.inr (by decide)) hf_55
              replace hf_98 := tr _ _ _ (Or.inr (by decide)) hf_98
              have hf_109 := hn
              replace hfr := hfr.put ka_48 tr (by decide)
              refine jj_aload C dX1_redeemWaiting_81 rfl ?_
              refine jj_dup C dX1_redeemWaiting_83 rfl ?_
              refine tt_getF C hok_108 jk_7 3 (by decide) jw_118 (t := (1, (-9223372036854775808), 9223372036854775807)) ka_48 (by decide) rfl rfl hf_55 dX1_redeemWaiting_84 ?_
              refine jj_lload C dX1_redeemWaiting_87 rfl ?_
              obtain ⟨y_110, ey_110⟩ : ∃ z : Int64, y_56 - y_96 = z := ⟨_, rfl⟩
              refine jj_lsub (v := y_110) C dX1_redeemWaiting_89 ey_110 ?_
              refine tt_put C hok_108 jk_7 3 (by decide) jw_118 (t := (1, (-9223372036854775808), 9223372036854775807)) ka_48 (by decide) rfl rfl rfl (tt_ja y_110) rfl rfl dX1_redeemWaiting_90 (fun pl_111 hok_112 tr hn => ?_)
              replace hf_11 := tr _ _ _ (Or.inl (tt_ne hk1 ka_48 (by decide))) hf_11
              replace hf_45 := tr _ _ _ (Or.inl (tt_ne hk1 ka_48 (by decide))) hf_45
              replace hf_50 := tr _ _ _ (Or.inr (by decide)) hf_50
              replace hf_98 := tr _ _ _ (Or.inr (by decide)) hf_98
              replace hf_109 := tr _ _ _ (Or.inr (by decide)) hf_109
              have hf_113 := hn
              replace hfr := hfr.put ka_48 tr (by decide)
              obtain ⟨x_114, ex_114, vx_114⟩ := tt_inc (x := x_9) (n := 1) (by omega) (by omega)
              refine jj_iinc (v := x_114) C dX1_redeemWaiting_93 rfl ex_114 (by decide) rfl ?_
              refine jj_goto (tgt := 9) C dX1_redeemWaiting_96 (by decide) ?_
              refine jj_loc [0, 3, 4, 5, 6] rfl ?_
              exact ihL_8 pl_111 x_114 hok_112 hfr (by first | omega | decide | exact tt_lo _ | exact tt_hi _) (by first | omega | decide | exact tt_lo _ | exact tt_hi _) (by first | omega | decide | exact tt_lo _ | exact tt_hi _)
  exact hL_8 _ pl_1 (0 : Int32) trivial hok_2 hfr (by first | omega | decide | exact tt_lo _ | exact tt_hi _) (by first | omega | decide | exact tt_lo _ | exact tt_hi _) (Int.self_le_toNat _)

set_option maxHeartbeats 4000000 in
set_option maxRecDepth 100000 in
theorem tc_X0_isDone_1 {l : Launch} (hl : l.stackTraces = false) (D : va_G) (cA : Nat → ClassId) (ak : (Nat → Nat) × (Nat → Nat)) {Kd : Nat → Nat} (h0 : Nat) (p1 : Int32) (hk0 : Kd h0 = 1) (lp1 : (0 : Int) ≤ p1.toInt) (up1 : p1.toInt ≤ 11) {pl0 : va_W} (hok : tt_ok tt_tk cA Kd pl0) : jj_M l D cA ak yX0_isDone (.code yX0_isDone cX0_isDone 2 (some .boolean)) 0 0 0 0 ([] ++ pl0) [.ref h0, .int p1] (tt_O (fun rx pl1 r => rx = [] ∧ tt_ok tt_tk cA Kd pl1 ∧ tt_fr Kd [] pl0 pl1 ∧ ((r = some (.int 0)) ∨ (r = some (.int 1))))) (tt_OX (fun _ _ _ => False)) := by
  refine jj_start hl (by decide) jw_281 (jj_le rfl) ?_
  intro p e s m args below meth c A hargs hA C hex hmn
  have hfr := tt_fr.refl (K := Kd) (WS := []) pl0
  refine jj_iload_n C dX0_isDone_0 rfl ?_
  refine jj_if_lt (tgt := 30) C dX0_isDone_1 (by decide) (fun c_1 => ?_) (fun c_1 => ?_)
  · have z_c_1 := jc_lt (a := (p1).toInt) (b := (0)) c_1 rfl (by decide)
    exfalso; omega
  · have z_c_1 := jc_nlt (a := (p1).toInt) (b := (0)) c_1 rfl (by decide)
    refine jj_iload_n C dX0_isDone_4 rfl ?_
    refine jj_aload_n C dX0_isDone_5 rfl ?_
    refine tt_get C hok jk_2 9 (by decide) jw_200 (t := (0, 0, 12)) hk0 (by decide) rfl rfl dX0_isDone_6 (fun v_2 hv_2 hf_3 => ?_)
    obtain ⟨x_4, rfl, lx_4, ux_4⟩ := tt_vi hv_2
    refine jj_icmp_ge (tgt := 30) C dX0_isDone_9 (by decide) (fun c_5 => ?_) (fun c_5 => ?_)
    · have z_c_5 := jc_le (a := (x_4).toInt) (b := (p1).toInt) c_5 rfl rfl
      refine jj_iconst (v := 0) C dX0_isDone_30 (by decide) ?_
      exact jj_zret C rfl ⟨[], pl0, rfl, rfl, hok, hfr, (Or.inl rfl)⟩ dX0_isDone_31 (jj_le rfl) (jj_le rfl)
    · have z_c_5 := jc_nle (a := (x_4).toInt) (b := (p1).toInt) c_5 rfl rfl
      refine jj_aload_n C dX0_isDone_12 rfl ?_
      refine tt_get C hok jk_2 13 (by decide) jw_202 (t := (2, 8, 0)) hk0 (by decide) rfl rfl dX0_isDone_13 (fun v_6 hv_6 hf_7 => ?_)
      obtain ⟨a_8, rfl, ka_8⟩ := tt_vr hv_6
      refine jj_iload_n C dX0_isDone_16 rfl ?_
      refine tt_aald C hok (t := (2, 4, 0)) ka_8 (by decide) rfl rfl rfl (vp_in_iff.mpr ⟨by omega, by omega⟩) dX0_isDone_17 (fun v_9 hv_9 => ?_)
      obtain ⟨a_10, rfl, ka_10⟩ := tt_vr hv_9
      refine tt_get C hok jk_7 3 (by decide) jw_282 (t := (1, (-9223372036854775808), 9223372036854775807)) ka_10 (by decide) rfl rfl dX0_isDone_18 (fun v_11 hv_11 hf_12 => ?_)
      obtain ⟨y_13, rfl, -, -⟩ := tt_vj hv_11
      refine jj_lconst (v := 0) C dX0_isDone_21 (by decide) ?_
      refine jj_lcmp_ne (tgt := 30) C dX0_isDone_22 dX0_isDone_23 (by decide) (fun c_14 => ?_) (fun c_14 => ?_)
      · refine jj_iconst (v := 0) C dX0_isDone_30 (by decide) ?_
        exact jj_zret C rfl ⟨[], pl0, rfl, rfl, hok, hfr, (Or.inl rfl)⟩ dX0_isDone_31 (jj_le rfl) (jj_le rfl)
      · refine jj_iconst (v := 1) C dX0_isDone_26 (by decide) ?_
        refine jj_goto (tgt := 31) C dX0_isDone_27 (by decide) ?_
        exact jj_zret C rfl ⟨[], pl0, rfl, rfl, hok, hfr, (Or.inr rfl)⟩ dX0_isDone_31 (jj_le rfl) (jj_le rfl)

set_option maxHeartbeats 4000000 in
set_option maxRecDepth 100000 in
theorem tc_X10_bestGate_1 {l : Launch} (hl : l.stackTraces = false) (D : va_G) (cA : Nat → ClassId) (ak : (Nat → Nat) × (Nat → Nat)) {Kd : Nat → Nat} (h0 : Nat) (p1 : Int32) (hk0 : Kd h0 = 15) {pl0 : va_W} (hok : tt_ok tt_tk cA Kd pl0) : jj_M l D cA ak yX10_bestGate (.code yX10_bestGate cX10_bestGate 5 (some .int)) 8 123 1 6 ([] ++ pl0) [.ref h0, .int p1] (tt_O (fun rx pl1 r => rx = [] ∧ tt_ok tt_tk cA Kd pl1 ∧ tt_fr Kd [(1, 0), (1, 1), (1, 2), (1, 3), (1, 4), (1, 5), (1, 6), (1, 7), (1, 8), (1, 9), (2, 0), (2, 1), (2, 2), (2, 3), (2, 4), (3, 0), (3, 1), (3, 2), (3, 3), (3, 4), (3, 5), (4, 0), (4, 1), (4, 2), (4, 3), (4, 4), (9, 1), (9, 2), (9, 3), (9, 4), (9, 5)] pl0 pl1 ∧ (((0 : Int) ≤ p1.toInt ∧ p1.toInt ≤ 11 ∧ r = some (.int (-1))) ∨ (∃ v : Int32, (1 : Int) ≤ v.toInt ∧ v.toInt ≤ 100 ∧ (0 : Int) ≤ p1.toInt ∧ p1.toInt ≤ 11 ∧ r = some (.int v))))) (tt_OX (fun E rx pl1 => rx = [] ∧ tt_ok tt_tk cA Kd pl1 ∧ tt_fr Kd [(1, 0), (1, 1), (1, 2), (1, 3), (1, 4), (1, 5), (1, 6), (1, 7), (1, 8), (1, 9), (2, 0), (2, 1), (2, 2), (2, 3), (2, 4), (3, 0), (3, 1), (3, 2), (3, 3), (3, 4), (3, 5), (4, 0), (4, 1), (4, 2), (4, 3), (4, 4), (9, 1), (9, 2), (9, 3), (9, 4), (9, 5)] pl0 pl1 ∧ (E = "java/lang/IndexOutOfBoundsException"))) := by
  refine jj_start hl (by decide) jw_841 (jj_le rfl) ?_
  intro p e s m args below meth c A hargs hA C hex hmn
  have hfr := tt_fr.refl (K := Kd) (WS := [(1, 0), (1, 1), (1, 2), (1, 3), (1, 4), (1, 5), (1, 6), (1, 7), (1, 8), (1, 9), (2, 0), (2, 1), (2, 2), (2, 3), (2, 4), (3, 0), (3, 1), (3, 2), (3, 3), (3, 4), (3, 5), (4, 0), (4, 1), (4, 2), (4, 3), (4, 4), (9, 1), (9, 2), (9, 3), (9, 4), (9, 5)]) pl0
  have lp1 := tt_lo p1
  have up1 := tt_hi p1
  refine jj_aload_n C dX10_bestGate_0 rfl ?_
  refine jj_iload_n C dX10_bestGate_1 rfl ?_
  obtain ⟨qc, gs, hqc⟩ := tt_recv (cx := []) hok hk0 (by decide) rfl
  refine tt_callV (rest := []) C (tc_X10_checkRequest_1 hl D cA ak h0 p1 hk0 hok) [] [] rfl rfl (by decide) (by decide) (by decide) qc hqc rfl rfl jw_50 jw_60 jw_61 jw_52 jw_51 jn_X10_checkRequest rfl (jj_le rfl) (jj_le rfl) (jj_le rfl) (jj_le rfl) (jj_le rfl) dX10_bestGate_2 rfl (fun E rx pl_1 X_5 => ?_) (fun rx pl_1 r O_4 => ?_)
  · obtain ⟨rfl, hok_2, hr_3, hE_6⟩ := X_5
    replace hfr := hfr.trans (hr_3.sub (by decide))
    obtain rfl := hE_6
    exact jj_out C hex ⟨[], pl_1, rfl, rfl, hok_2, hfr, rfl⟩ (jj_le rfl) (jj_le rfl)
  · obtain ⟨rfl, hok_2, hr_3, hR_7⟩ := O_4
    replace hfr := hfr.trans (hr_3.sub (by decide))
    obtain ⟨l_8, u_9, rfl⟩ := hR_7
    refine jj_aload_n C dX10_bestGate_5 rfl ?_
    refine tt_get C hok_2 jk_11 3 (by decide) jw_2 (t := (2, 1, 0)) hk0 (by decide) rfl rfl dX10_bestGate_6 (fun v_10 hv_10 hf_11 => ?_)
    obtain ⟨a_12, rfl, ka_12⟩ := tt_vr hv_10
    refine tt_get C hok_2 jk_2 13 (by decide) jw_63 (t := (2, 8, 0)) ka_12 (by decide) rfl rfl dX10_bestGate_9 (fun v_13 hv_13 hf_14 => ?_)
    obtain ⟨a_15, rfl, ka_15⟩ := tt_vr hv_13
    refine jj_iload_n C dX10_bestGate_12 rfl ?_
    refine tt_aald C hok_2 (t := (2, 4, 0)) ka_15 (by decide) rfl rfl rfl (vp_in_iff.mpr ⟨by omega, by omega⟩) dX10_bestGate_13 (fun v_16 hv_16 => ?_)
    obtain ⟨a_17, rfl, ka_17⟩ := tt_vr hv_16
    refine tt_get C hok_2 jk_7 2 (by decide) jw_64 (t := (0, 0, 1)) ka_17 (by decide) rfl rfl dX10_bestGate_14 (fun v_18 hv_18 hf_19 => ?_)
    obtain ⟨x_20, rfl, lx_20, ux_20⟩ := tt_vi hv_18
    refine jj_if_ne (tgt := 22) C dX10_bestGate_17 (by decide) (fun c_21 => ?_) (fun c_21 => ?_)
    · have z_c_21 := jc_neq (a := (x_20).toInt) (b := (0)) c_21 rfl (by decide)
      refine jj_aload_n C dX10_bestGate_22 rfl ?_
      refine tt_get C hok_2 jk_11 5 (by decide) jw_71 (t := (2, 9, 0)) hk0 (by decide) rfl rfl dX10_bestGate_23 (fun v_22 hv_22 hf_23 => ?_)
      obtain ⟨a_24, rfl, ka_24⟩ := tt_vr hv_22
      refine jj_aload_n C dX10_bestGate_26 rfl ?_
      refine tt_getF C hok_2 jk_11 3 (by decide) jw_2 (t := (2, 1, 0)) hk0 (by decide) rfl rfl hf_11 dX10_bestGate_27 ?_
      obtain ⟨qc, gs, hqc⟩ := tt_recv (cx := []) hok_2 ka_24 (by decide) rfl
      refine tt_callV (rest := []) C (tc_X1_baseOfRedemptions_1 hl D cA ak a_24 a_12 ka_24 ka_12 hok_2) [] [] rfl rfl (by decide) (by decide) (by decide) qc hqc rfl rfl jw_72 jw_186 jw_187 jw_74 jw_73 jn_X1_baseOfRedemptions rfl (jj_le rfl) (jj_le rfl) (jj_le rfl) (jj_le rfl) (jj_le rfl) dX10_bestGate_30 rfl (fun _ _ _ hX => hX.elim) (fun rx pl_25 r O_28 => ?_)
      obtain ⟨rfl, hok_26, hr_27, hR_30⟩ := O_28
      replace hf_11 := hr_27.at hk0 (by decide) (by decide) hf_11
      replace hf_14 := hr_27.at ka_12 (by decide) (by decide) hf_14
      replace hf_19 := hr_27.at ka_17 (by decide) (by decide) hf_19
      replace hf_23 := hr_27.at hk0 (by decide) (by decide) hf_23
      replace hfr := hfr.trans (hr_27.sub (by decide))
      obtain ⟨y_31, rfl⟩ := hR_30
      refine jj_lstore_n C dX10_bestGate_33 (by decide) rfl ?_
      refine jj_iconst (v := 1) C dX10_bestGate_34 (by decide) ?_
      refine jj_istore C dX10_bestGate_35 (by decide) rfl ?_
      have hL_32 : ∀ (N : Nat) (pl : va_W) (x_33 : Int32), True → tt_ok tt_tk cA Kd pl → tt_fr Kd [(1, 0), (1, 1), (1, 2), (1, 3), (1, 4), (1, 5), (1, 6), (1, 7), (1, 8), (1, 9), (2, 0), (2, 1), (2, 2), (2, 3), (2, 4), (3, 0), (3, 1), (3, 2), (3, 3), (3, 4), (3, 5), (4, 0), (4, 1), (4, 2), (4, 3), (4, 4), (9, 1), (9, 2), (9, 3), (9, 4), (9, 5)] pl0 pl → tt_at pl h0 3 (.ref a_12) → tt_at pl a_12 13 (.ref a_15) → tt_at pl h0 5 (.ref a_24) → (1 : Int) ≤ x_33.toInt → x_33.toInt ≤ 399 → (2147483648 - x_33.toInt ≤ (N : Int)) → jj_J p l e (jj_rm 8 123 1 6) s m args below meth c 5 A (vx_MQ below (jj_q D A (tt_O (fun rx pl1 r => rx = [] ∧ tt_ok tt_tk cA Kd pl1 ∧ tt_fr Kd [(1, 0), (1, 1), (1, 2), (1, 3), (1, 4), (1, 5), (1, 6), (1, 7), (1, 8), (1, 9), (2, 0), (2, 1), (2, 2), (2, 3), (2, 4), (3, 0), (3, 1), (3, 2), (3, 3), (3, 4), (3, 5), (4, 0), (4, 1), (4, 2), (4, 3), (4, 4), (9, 1), (9, 2), (9, 3), (9, 4), (9, 5)] pl0 pl1 ∧ (((0 : Int) ≤ p1.toInt ∧ p1.toInt ≤ 11 ∧ r = some (.int (-1))) ∨ (∃ v : Int32, (1 : Int) ≤ v.toInt ∧ v.toInt ≤ 100 ∧ (0 : Int) ≤ p1.toInt ∧ p1.toInt ≤ 11 ∧ r = some (.int v)))))) (jj_x D A (tt_OX (fun E rx pl1 => rx = [] ∧ tt_ok tt_tk cA Kd pl1 ∧ tt_fr Kd [(1, 0), (1, 1), (1, 2), (1, 3), (1, 4), (1, 5), (1, 6), (1, 7), (1, 8), (1, 9), (2, 0), (2, 1), (2, 2), (2, 3), (2, 4), (3, 0), (3, 1), (3, 2), (3, 3), (3, 4), (3, 5), (4, 0), (4, 1), (4, 2), (4, 3), (4, 4), (9, 1), (9, 2), (9, 3), (9, 4), (9, 5)] pl0 pl1 ∧ (E = "java/lang/IndexOutOfBoundsException")))) args s 1 6 A) (jj_X D A ([] ++ pl)) 1 6 37 [(4, .int x_33), (2, .long y_31), (0, .ref h0), (1, .int p1)] [] := by
        intro NL_32
        induction NL_32 with
        | zero => intro pl x_33 _ hok hfr hf_34 hf_35 hf_36 lx_33 ux_33 hNL_32; exfalso; omega
        | succ NL_32 ihL_32 =>
          intro pl x_33 _ hok hfr hf_34 hf_35 hf_36 lx_33 ux_33 hNL_32
          replace ihL_32 := fun pl x_33 h1 => ihL_32 pl x_33 trivial h1
          refine jj_iload C dX10_bestGate_37 rfl ?_
          refine jj_bipush (v := 100) C dX10_bestGate_39 (by decide) ?_
          refine jj_icmp_gt (tgt := 96) C dX10_bestGate_41 (by decide) (fun c_37 => ?_) (fun c_37 => ?_)
          · have z_c_37 := jc_lt (a := (100)) (b := (x_33).toInt) c_37 (by decide) rfl
            refine jj_iconst (v := (-1)) C dX10_bestGate_96 (by decide) ?_
            exact jj_iret C ⟨[], pl, rfl, rfl, hok, hfr, (Or.inl ⟨(by first | omega | exact tt_lo _ | exact tt_hi _), (by first | omega | exact tt_lo _ | exact tt_hi _), rfl⟩)⟩ dX10_bestGate_97 (jj_le rfl) (jj_le rfl)
          · have z_c_37 := jc_nlt (a := (100)) (b := (x_33).toInt) c_37 (by decide) rfl
            refine jj_aload_n C dX10_bestGate_44 rfl ?_
            refine tt_get C hok jk_11 4 (by decide) jw_189 (t := (2, 1, 0)) hk0 (by decide) rfl rfl dX10_bestGate_45 (fun v_38 hv_38 hf_39 => ?_)
            obtain ⟨a_40, rfl, ka_40⟩ := tt_vr hv_38
            refine jj_aload_n C dX10_bestGate_48 rfl ?_
            refine tt_getF C hok jk_11 3 (by decide) jw_2 (t := (2, 1, 0)) hk0 (by decide) rfl rfl hf_34 dX10_bestGate_49 ?_
            obtain ⟨qc, gs, hqc⟩ := tt_recv (cx := []) hok ka_40 (by decide) rfl
            refine tt_callV (rest := []) C (tc_X0_copyFrom_1 hl D cA ak a_40 a_12 ka_40 ka_12 hok) [] [] rfl rfl (by decide) (by decide) (by decide) qc hqc rfl rfl jw_190 jw_228 jw_229 jw_133 jw_191 jn_X0_copyFrom rfl (jj_le rfl) (jj_le rfl) (jj_le rfl) (jj_le rfl) (jj_le rfl) dX10_bestGate_52 rfl (fun _ _ _ hX => hX.elim) (fun rx pl_41 r O_44 => ?_)
            obtain ⟨rfl, hok_42, hr_43, hR_46⟩ := O_44
            replace hf_34 := hr_43.at hk0 (by decide) (by decide) hf_34
            replace hf_35 := hr_43.at ka_12 (by decide) (by decide) hf_35
            replace hf_36 := hr_43.at hk0 (by decide) (by decide) hf_36
            replace hf_39 := hr_43.at hk0 (by decide) (by decide) hf_39
            replace hfr := hfr.trans (hr_43.sub (by decide))
            obtain rfl := hR_46
            refine jj_aload_n C dX10_bestGate_55 rfl ?_
            refine tt_getF C hok_42 jk_11 4 (by decide) jw_189 (t := (2, 1, 0)) hk0 (by decide) rfl rfl hf_39 dX10_bestGate_56 ?_
            refine jj_iload C dX10_bestGate_59 rfl ?_
            refine tt_put C hok_42 jk_2 4 (by decide) jw_231 (t := (0, (-2147483648), 2147483647)) ka_40 (by decide) rfl rfl rfl (tt_ia x_33) rfl rfl dX10_bestGate_61 (fun pl_47 hok_48 tr hn => ?_)
            replace hf_34 := tr _ _ _ (Or.inl (tt_ne hk0 ka_40 (by decide))) hf_34
            replace hf_35 := tr _ _ _ (Or.inr (by decide)) hf_35
            replace hf_36 := tr _ _ _ (Or.inl (tt_ne hk0 ka_40 (by decide))) hf_36
            replace hf_39 := tr _ _ _ (Or.inl (tt_ne hk0 ka_40 (by decide))) hf_39
            have hf_49 := hn
            replace hfr := hfr.put ka_40 tr (by decide)
            refine jj_aload_n C dX10_bestGate_64 rfl ?_
            refine tt_getF C hok_48 jk_11 5 (by decide) jw_71 (t := (2, 9, 0)) hk0 (by decide) rfl rfl hf_36 dX10_bestGate_65 ?_
            refine jj_aload_n C dX10_bestGate_68 rfl ?_
            refine tt_getF C hok_48 jk_11 4 (by decide) jw_189 (t := (2, 1, 0)) hk0 (by decide) rfl rfl hf_39 dX10_bestGate_69 ?_
            refine jj_lload_n C dX10_bestGate_72 rfl ?_
            obtain ⟨qc, gs, hqc⟩ := tt_recv (cx := []) hok_48 ka_24 (by decide) rfl
            refine tt_callV (rest := []) C (tc_X1_redeemWaiting_1 hl D cA ak a_24 a_40 y_31 ka_24 ka_40 hok_48) [] [] rfl rfl (by decide) (by decide) (by decide) qc hqc rfl rfl jw_232 jw_277 jw_278 jw_74 jw_233 jn_X1_redeemWaiting rfl (jj_le rfl) (jj_le rfl) (jj_le rfl) (jj_le rfl) (jj_le rfl) dX10_bestGate_73 rfl (fun _ _ _ hX => hX.elim) (fun rx pl_50 r O_53 => ?_)
            obtain ⟨rfl, hok_51, hr_52, hR_55⟩ := O_53
            replace hf_34 := hr_52.at hk0 (by decide) (by decide) hf_34
            replace hf_35 := hr_52.at ka_12 (by decide) (by decide) hf_35
            replace hf_36 := hr_52.at hk0 (by decide) (by decide) hf_36
            replace hf_39 := hr_52.at hk0 (by decide) (by decide) hf_39
            replace hf_49 := hr_52.at ka_40 (by decide) (by decide) hf_49
            replace hfr := hfr.trans (hr_52.sub (by decide))
            obtain rfl := hR_55
            refine jj_aload_n C dX10_bestGate_76 rfl ?_
            refine tt_getF C hok_51 jk_11 4 (by decide) jw_189 (t := (2, 1, 0)) hk0 (by decide) rfl rfl hf_39 dX10_bestGate_77 ?_
            refine jj_iload_n C dX10_bestGate_80 rfl ?_
            obtain ⟨qc, gs, hqc⟩ := tt_recv (cx := []) hok_51 ka_40 (by decide) rfl
            refine tt_callV (rest := []) C (tc_X0_isDone_1 hl D cA ak a_40 p1 ka_40 (by omega) (by omega) hok_51) [] [] rfl rfl (by decide) (by decide) (by decide) qc hqc rfl rfl jw_280 jw_283 jw_284 jw_133 jw_281 jn_X0_isDone rfl (jj_le rfl) (jj_le rfl) (jj_le rfl) (jj_le rfl) (jj_le rfl) dX10_bestGate_81 rfl (fun _ _ _ hX => hX.elim) (fun rx pl_56 r O_59 => ?_)
            obtain ⟨rfl, hok_57, hr_58, hR_61⟩ := O_59
            replace hf_34 := hr_58.at hk0 (by decide) (by decide) hf_34
            replace hf_35 := hr_58.at ka_12 (by decide) (by decide) hf_35
            replace hf_36 := hr_58.at hk0 (by decide) (by decide) hf_36
            replace hf_39 := hr_58.at hk0 (by decide) (by decide) hf_39
            replace hf_49 := hr_58.at ka_40 (by decide) (by decide) hf_49
            replace hfr := hfr.trans (hr_58.sub (by decide))
            rcases hR_61 with rfl | rfl
            · refine jj_if_eqT (tgt := 90) C dX10_bestGate_84 (by decide) (by decide) ?_
              obtain ⟨x_62, ex_62, vx_62⟩ := tt_inc (x := x_33) (n := 1) (by omega) (by omega)
              refine jj_iinc (v := x_62) C dX10_bestGate_90 rfl ex_62 (by decide) rfl ?_
              refine jj_goto (tgt := 37) C dX10_bestGate_93 (by decide) ?_
              exact ihL_32 pl_56 x_62 hok_57 hfr hf_34 hf_35 hf_36 (by first | omega | decide | exact tt_lo _ | exact tt_hi _) (by first | omega | decide | exact tt_lo _ | exact tt_hi _) (by first | omega | decide | exact tt_lo _ | exact tt_hi _)
            · refine jj_if_eqF (tgt := 90) C dX10_bestGate_84 (by decide) (by decide) ?_
              refine jj_iload C dX10_bestGate_87 rfl ?_
              exact jj_iret C ⟨[], pl_56, rfl, rfl, hok_57, hfr, (Or.inr ⟨x_33, (by first | omega | exact tt_lo _ | exact tt_hi _), (by first | omega | exact tt_lo _ | exact tt_hi _), (by first | omega | exact tt_lo _ | exact tt_hi _), (by first | omega | exact tt_lo _ | exact tt_hi _), rfl⟩)⟩ dX10_bestGate_89 (jj_le rfl) (jj_le rfl)
      exact hL_32 _ pl_25 (1 : Int32) trivial hok_26 hfr hf_11 hf_14 hf_23 (by first | omega | decide | exact tt_lo _ | exact tt_hi _) (by first | omega | decide | exact tt_lo _ | exact tt_hi _) (Int.self_le_toNat _)
    · have z_c_21 := jc_eq (a := (x_20).toInt) (b := (0)) c_21 rfl (by decide)
      refine jj_iconst (v := (-1)) C dX10_bestGate_20 (by decide) ?_
      exact jj_iret C ⟨[], pl_1, rfl, rfl, hok_2, hfr, (Or.inl ⟨(by first | omega | exact tt_lo _ | exact tt_hi _), (by first | omega | exact tt_lo _ | exact tt_hi _), rfl⟩)⟩ dX10_bestGate_21 (jj_le rfl) (jj_le rfl)

set_option maxHeartbeats 4000000 in
set_option maxRecDepth 100000 in
theorem tc_X10_placeOf_1 {l : Launch} (hl : l.stackTraces = false) (D : va_G) (cA : Nat → ClassId) (ak : (Nat → Nat) × (Nat → Nat)) {Kd : Nat → Nat} (h0 : Nat) (p1 : Int32) (hk0 : Kd h0 = 15) {pl0 : va_W} (hok : tt_ok tt_tk cA Kd pl0) : jj_M l D cA ak yX10_placeOf (.code yX10_placeOf cX10_placeOf 3 (some .int)) 7 102 1 6 ([] ++ pl0) [.ref h0, .int p1] (tt_O (fun rx pl1 r => rx = [] ∧ tt_ok tt_tk cA Kd pl1 ∧ tt_fr Kd [] pl0 pl1 ∧ ((∃ v : Int32, (0 : Int) ≤ v.toInt ∧ v.toInt ≤ 5 ∧ r = some (.int v))))) (tt_OX (fun E rx pl1 => rx = [] ∧ tt_ok tt_tk cA Kd pl1 ∧ tt_fr Kd [] pl0 pl1 ∧ (E = "java/lang/IndexOutOfBoundsException"))) := by
  refine jj_start hl (by decide) jw_288 (jj_le rfl) ?_
  intro p e s m args below meth c A hargs hA C hex hmn
  have hfr := tt_fr.refl (K := Kd) (WS := []) pl0
  have lp1 := tt_lo p1
  have up1 := tt_hi p1
  refine jj_aload_n C dX10_placeOf_0 rfl ?_
  refine tt_get C hok jk_11 3 (by decide) jw_2 (t := (2, 1, 0)) hk0 (by decide) rfl rfl dX10_placeOf_1 (fun v_1 hv_1 hf_2 => ?_)
  obtain ⟨a_3, rfl, ka_3⟩ := tt_vr hv_1
  refine jj_iload_n C dX10_placeOf_4 rfl ?_
  obtain ⟨qc, gs, hqc⟩ := tt_recv (cx := []) hok ka_3 (by decide) rfl
  refine tt_callV (rest := []) C (tc_X0_placeOfSeries_1 hl D cA ak a_3 p1 ka_3 hok) [] [] rfl rfl (by decide) (by decide) (by decide) qc hqc rfl rfl jw_289 jw_137 jw_138 jw_133 jw_132 jn_X0_placeOfSeries rfl (jj_le rfl) (jj_le rfl) (jj_le rfl) (jj_le rfl) (jj_le rfl) dX10_placeOf_5 rfl (fun _ _ _ hX => hX.elim) (fun rx pl_4 r O_7 => ?_)
  obtain ⟨rfl, hok_5, hr_6, hR_9⟩ := O_7
  replace hf_2 := hr_6.at hk0 (by decide) (by decide) hf_2
  replace hfr := hfr.trans (hr_6.sub (by decide))
  rcases hR_9 with rfl | ⟨x_10, lx_10, ux_10, rfl⟩
  · refine jj_istore_n C dX10_placeOf_8 (by decide) rfl ?_
    refine jj_iload_n C dX10_placeOf_9 rfl ?_
    refine jj_iconst (v := (-1)) C dX10_placeOf_10 (by decide) ?_
    refine jj_icmp_neF (tgt := 18) C dX10_placeOf_11 (by decide) (by decide) ?_
    refine jj_iconst (v := 1) C dX10_placeOf_14 (by decide) ?_
    refine jj_goto (tgt := 19) C dX10_placeOf_15 (by decide) ?_
    refine tt_callS (rest := []) C (tc_X10_refuse_1 hl D cA ak  hok_5) [] [] rfl rfl (by decide) (by decide) (by decide) jw_53 jw_57 jw_52 jw_54 jn_X10_refuse rfl (jj_le rfl) (jj_le rfl) (jj_le rfl) (jj_le rfl) (jj_le rfl) dX10_placeOf_19 rfl (fun E rx pl_11 X_15 => ?_) (fun rx pl_11 r O_14 => ?_)
    · obtain ⟨rfl, hok_12, hr_13, hE_16⟩ := X_15
      replace hf_2 := hr_13.at hk0 (by decide) (by decide) hf_2
      replace hfr := hfr.trans (hr_13.sub (by decide))
      obtain rfl := hE_16
      exact jj_out C hex ⟨[], pl_11, rfl, rfl, hok_12, hfr, rfl⟩ (jj_le rfl) (jj_le rfl)
    · exact O_14.elim
  · refine jj_istore_n C dX10_placeOf_8 (by decide) rfl ?_
    refine jj_iload_n C dX10_placeOf_9 rfl ?_
    refine jj_iconst (v := (-1)) C dX10_placeOf_10 (by decide) ?_
    refine jj_icmp_ne (tgt := 18) C dX10_placeOf_11 (by decide) (fun c_18 => ?_) (fun c_18 => ?_)
    · have z_c_18 := jc_neq (a := (x_10).toInt) (b := (-1)) c_18 rfl (by decide)
      refine jj_iconst (v := 0) C dX10_placeOf_18 (by decide) ?_
      refine tt_callS (rest := []) C (tc_X10_refuse_2 hl D cA ak  hok_5) [] [] rfl rfl (by decide) (by decide) (by decide) jw_53 jw_57 jw_52 jw_54 jn_X10_refuse rfl (jj_le rfl) (jj_le rfl) (jj_le rfl) (jj_le rfl) (jj_le rfl) dX10_placeOf_19 rfl (fun _ _ _ hX => hX.elim) (fun rx pl_19 r O_22 => ?_)
      obtain ⟨rfl, hok_20, hr_21, hR_24⟩ := O_22
      replace hf_2 := hr_21.at hk0 (by decide) (by decide) hf_2
      replace hfr := hfr.trans (hr_21.sub (by decide))
      obtain rfl := hR_24
      refine jj_iload_n C dX10_placeOf_22 rfl ?_
      exact jj_iret C ⟨[], pl_19, rfl, rfl, hok_20, hfr, ⟨x_10, (by first | omega | exact tt_lo _ | exact tt_hi _), (by first | omega | exact tt_lo _ | exact tt_hi _), rfl⟩⟩ dX10_placeOf_23 (jj_le rfl) (jj_le rfl)
    · have z_c_18 := jc_eq (a := (x_10).toInt) (b := (-1)) c_18 rfl (by decide)
      exfalso; omega

set_option maxHeartbeats 4000000 in
set_option maxRecDepth 100000 in
theorem tc_X8_assetsAfter_2 {l : Launch} (hl : l.stackTraces = false) (D : va_G) (cA : Nat → ClassId) (ak : (Nat → Nat) × (Nat → Nat)) {Kd : Nat → Nat} (h0 : Nat) (hk0 : Kd h0 = 2) {pl0 : va_W} (hok : tt_ok tt_tk cA Kd pl0) : jj_M l D cA ak yX8_assetsAfter (.code yX8_assetsAfter cX8_assetsAfter 2 (some .long)) 0 0 0 0 ([] ++ pl0) [.ref h0, .int 9999] (tt_O (fun rx pl1 r => rx = [] ∧ tt_ok tt_tk cA Kd pl1 ∧ tt_fr Kd [] pl0 pl1 ∧ ((∃ v : Int64, r = some (.long v))))) (tt_OX (fun _ _ _ => False)) := by
  refine jj_start hl (by decide) jw_108 (jj_le rfl) ?_
  intro p e s m args below meth c A hargs hA C hex hmn
  have hfr := tt_fr.refl (K := Kd) (WS := []) pl0
  refine jj_aload_n C dX8_assetsAfter_0 rfl ?_
  refine tt_get C hok jk_9 2 (by decide) jw_101 (t := (1, (-9223372036854775808), 9223372036854775807)) hk0 (by decide) rfl rfl dX8_assetsAfter_1 (fun v_1 hv_1 hf_2 => ?_)
  obtain ⟨y_3, rfl, -, -⟩ := tt_vj hv_1
  refine jj_aload_n C dX8_assetsAfter_4 rfl ?_
  refine tt_getF C hok jk_9 2 (by decide) jw_101 (t := (1, (-9223372036854775808), 9223372036854775807)) hk0 (by decide) rfl rfl hf_2 dX8_assetsAfter_5 ?_
  refine jj_iload_n C dX8_assetsAfter_8 rfl ?_
  refine jj_i2l (v := 9999) C dX8_assetsAfter_9 (by decide) ?_
  obtain ⟨y_4, ey_4⟩ : ∃ z : Int64, y_3 * (9999 : Int64) = z := ⟨_, rfl⟩
  refine jj_lmul (v := y_4) C dX8_assetsAfter_10 ey_4 ?_
  refine jj_ldc2 (v := 10000) C dX8_assetsAfter_11 jw_109 ?_
  obtain ⟨y_5, ey_5⟩ : ∃ z : Int64, y_4 / (10000 : Int64) = z := ⟨_, rfl⟩
  refine jj_ldiv (v := y_5) C dX8_assetsAfter_14 (by decide) ey_5 ?_
  obtain ⟨y_6, ey_6⟩ : ∃ z : Int64, y_3 + y_5 = z := ⟨_, rfl⟩
  refine jj_ladd (v := y_6) C dX8_assetsAfter_15 ey_6 ?_
  exact jj_lret C ⟨[], pl0, rfl, rfl, hok, hfr, ⟨y_6, rfl⟩⟩ dX8_assetsAfter_16 (jj_le rfl) (jj_le rfl)

