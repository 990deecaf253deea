set_option maxHeartbeats 4000000 in
set_option maxRecDepth 100000 in
theorem tc_X0_splitLot_1 {l : Launch} (hl : l.stackTraces = false) (D : va_G) (cA : Nat → ClassId) (ak : (Nat → Nat) × (Nat → Nat)) {Kd : Nat → Nat} (h0 : Nat) (h1 : Nat) (p2 : Int32) (p3 : Int64) (hk0 : Kd h0 = 1) (hk1 : Kd h1 = 3) {pl0 : va_W} (hok : tt_ok tt_tk cA Kd pl0) : jj_M l D cA ak yX0_splitLot (.code yX0_splitLot cX0_splitLot 8 none) 2 51 0 0 ([] ++ pl0) [.ref h0, .ref h1, .int p2, .long p3] (tt_O (fun rx pl1 r => rx = [] ∧ tt_ok tt_tk cA Kd pl1 ∧ tt_fr Kd [(1, 8), (3, 0), (3, 1), (3, 2), (3, 3), (3, 4), (3, 5)] pl0 pl1 ∧ tt_fa Kd [] pl0 pl1 ∧ ((r = none)))) (tt_OX (fun _ _ _ => False)) := by
  refine jj_start hl (by decide) jw_dd97004619 (jj_le rfl) ?_
  intro p e s m args below meth c A hargs hA C hex hmn
  have hfr := tt_fr.refl (K := Kd) (WS := [(1, 8), (3, 0), (3, 1), (3, 2), (3, 3), (3, 4), (3, 5)]) pl0
  have hfa := tt_fa.refl (K := Kd) (WA := []) pl0
  have lp2 := tt_lo p2
  have up2 := tt_hi p2
  refine jj_aload_n C dX0_splitLot_0 rfl ?_
  refine tt_get C hok jk_5 3 (by decide) jw_1f6afd9b6f (t := (1, (-9223372036854775808), 9223372036854775807)) hk1 (by decide) rfl rfl dX0_splitLot_1 (fun v_1 hv_1 hf_2 => ?_)
  obtain ⟨y_3, rfl, -, -⟩ := tt_vj hv_1
  refine jj_lconst (v := 0) C dX0_splitLot_4 (by decide) ?_
  refine jj_lcmp_gt (tgt := 10) C dX0_splitLot_5 dX0_splitLot_6 (by decide) (fun c_4 => ?_) (fun c_4 => ?_)
  · refine jj_aload_n C dX0_splitLot_10 rfl ?_
    refine tt_get C hok jk_5 5 (by decide) jw_b0cee064c2 (t := (1, (-9223372036854775808), 9223372036854775807)) hk1 (by decide) rfl rfl dX0_splitLot_11 (fun v_5 hv_5 hf_6 => ?_)
    obtain ⟨y_7, rfl, -, -⟩ := tt_vj hv_5
    refine jj_lload_n C dX0_splitLot_14 rfl ?_
    obtain ⟨y_8, ey_8⟩ : ∃ z : Int64, y_7 * p3 = z := ⟨_, rfl⟩
    refine jj_lmul (v := y_8) C dX0_splitLot_15 ey_8 ?_
    refine jj_aload_n C dX0_splitLot_16 rfl ?_
    refine tt_getF C hok jk_5 3 (by decide) jw_1f6afd9b6f (t := (1, (-9223372036854775808), 9223372036854775807)) hk1 (by decide) rfl rfl hf_2 dX0_splitLot_17 ?_
    obtain ⟨y_9, ey_9⟩ : ∃ z : Int64, y_8 / y_3 = z := ⟨_, rfl⟩
    refine jj_ldiv (v := y_9) C dX0_splitLot_20 (jt_nzpL c_4) ey_9 ?_
    refine jj_lstore C dX0_splitLot_21 (by decide) rfl ?_
    refine jj_aload_n C dX0_splitLot_23 rfl ?_
    refine jj_iload_n C dX0_splitLot_24 rfl ?_
    refine jj_aload_n C dX0_splitLot_25 rfl ?_
    refine tt_get C hok jk_5 1 (by decide) jw_53dba63b8f (t := (0, (-2147483648), 2147483647)) hk1 (by decide) rfl rfl dX0_splitLot_26 (fun v_10 hv_10 hf_11 => ?_)
    obtain ⟨x_12, rfl, lx_12, ux_12⟩ := tt_vi hv_10
    refine jj_lload_n C dX0_splitLot_29 rfl ?_
    refine jj_aload_n C dX0_splitLot_30 rfl ?_
    refine tt_get C hok jk_5 4 (by decide) jw_8e377b7e50 (t := (1, (-9223372036854775808), 9223372036854775807)) hk1 (by decide) rfl rfl dX0_splitLot_31 (fun v_13 hv_13 hf_14 => ?_)
    obtain ⟨y_15, rfl, -, -⟩ := tt_vj hv_13
    refine jj_lload C dX0_splitLot_34 rfl ?_
    obtain ⟨qc, gs, hqc⟩ := tt_recv (cx := []) hok hk0 (by decide) rfl
    refine tt_callV (rest := []) C (tc_X0_addLot_4 hl D cA ak h0 p2 x_12 p3 y_15 y_9 hk0 hok) [] [] rfl rfl (by decide) (by decide) (by decide) qc hqc rfl rfl jw_5f3a460d17 jw_c1ec506c02 jw_0fb782f899 jw_7d25d4fd32 jw_a7bf4567f9 jn_X0_addLot rfl (jj_le rfl) (jj_le rfl) (jj_le rfl) (jj_le rfl) (jj_le rfl) dX0_splitLot_36 rfl (fun _ _ _ hX => hX.elim) (fun rx pl_16 r O_19 => ?_)
    obtain ⟨rfl, hok_17, hr_18, hfa9, hR_21⟩ := O_19
    replace hfr := hfr.trans (hr_18.sub (by decide))
    replace hfa := hfa.trans (hfa9.sub (by decide))
    obtain ⟨a_24, ka_24, rfl⟩ := hR_21
    refine jj_astore C dX0_splitLot_39 (by decide) rfl ?_
    refine jj_aload C dX0_splitLot_41 rfl ?_
    refine jj_aload_n C dX0_splitLot_43 rfl ?_
    refine tt_get C hok_17 jk_5 2 (by decide) jw_f798be12c7 (t := (0, (-2147483648), 2147483647)) hk1 (by decide) rfl rfl dX0_splitLot_44 (fun v_25 hv_25 hf_26 => ?_)
    obtain ⟨x_27, rfl, lx_27, ux_27⟩ := tt_vi hv_25
    refine rl_put C hok_17 jk_5 2 (by decide) jw_f798be12c7 (t := (0, (-2147483648), 2147483647)) ka_24 (by decide) rfl rfl rfl (tt_ia x_27) rfl rfl dX0_splitLot_47 (fun pl_28 hok_29 tr hn tl => ?_)
    have hf_30 := hn
    replace hfr := hfr.put ka_24 tr (by decide)
    replace hfa := hfa.all tl
    refine jj_aload_n C dX0_splitLot_50 rfl ?_
    refine jj_dup C dX0_splitLot_51 rfl ?_
    refine tt_get C hok_29 jk_5 3 (by decide) jw_1f6afd9b6f (t := (1, (-9223372036854775808), 9223372036854775807)) hk1 (by decide) rfl rfl dX0_splitLot_52 (fun v_31 hv_31 hf_32 => ?_)
    obtain ⟨y_33, rfl, -, -⟩ := tt_vj hv_31
    refine jj_lload_n C dX0_splitLot_55 rfl ?_
    obtain ⟨y_34, ey_34⟩ : ∃ z : Int64, y_33 - p3 = z := ⟨_, rfl⟩
    refine jj_lsub (v := y_34) C dX0_splitLot_56 ey_34 ?_
    refine rl_put C hok_29 jk_5 3 (by decide) jw_1f6afd9b6f (t := (1, (-9223372036854775808), 9223372036854775807)) hk1 (by decide) rfl rfl rfl (tt_ja y_34) rfl rfl dX0_splitLot_57 (fun pl_35 hok_36 tr hn tl => ?_)
    replace hf_30 := tr _ _ _ (Or.inr (by decide)) hf_30
    have hf_37 := hn
    replace hfr := hfr.put hk1 tr (by decide)
    replace hfa := hfa.all tl
    refine jj_aload_n C dX0_splitLot_60 rfl ?_
    refine jj_dup C dX0_splitLot_61 rfl ?_
    refine tt_get C hok_36 jk_5 5 (by decide) jw_b0cee064c2 (t := (1, (-9223372036854775808), 9223372036854775807)) hk1 (by decide) rfl rfl dX0_splitLot_62 (fun v_38 hv_38 hf_39 => ?_)
    obtain ⟨y_40, rfl, -, -⟩ := tt_vj hv_38
    refine jj_lload C dX0_splitLot_65 rfl ?_
    obtain ⟨y_41, ey_41⟩ : ∃ z : Int64, y_40 - y_9 = z := ⟨_, rfl⟩
    refine jj_lsub (v := y_41) C dX0_splitLot_67 ey_41 ?_
    refine rl_put C hok_36 jk_5 5 (by decide) jw_b0cee064c2 (t := (1, (-9223372036854775808), 9223372036854775807)) hk1 (by decide) rfl rfl rfl (tt_ja y_41) rfl rfl dX0_splitLot_68 (fun pl_42 hok_43 tr hn tl => ?_)
    replace hf_30 := tr _ _ _ (Or.inr (by decide)) hf_30
    replace hf_37 := tr _ _ _ (Or.inr (by decide)) hf_37
    have hf_44 := hn
    replace hfr := hfr.put hk1 tr (by decide)
    replace hfa := hfa.all tl
    exact jj_vret C ⟨[], pl_42, rfl, rfl, hok_43, hfr, hfa, rfl⟩ dX0_splitLot_71 (jj_le rfl) (jj_le rfl)
  · exact jj_vret C ⟨[], pl0, rfl, rfl, hok, hfr, hfa, rfl⟩ dX0_splitLot_9 (jj_le rfl) (jj_le rfl)

set_option maxHeartbeats 4000000 in
set_option maxRecDepth 100000 in
theorem tc_X0_moveUnits_1 {l : Launch} (hl : l.stackTraces = false) (D : va_G) (cA : Nat → ClassId) (ak : (Nat → Nat) × (Nat → Nat)) {Kd : Nat → Nat} (h0 : Nat) (p1 : Int32) (p2 : Int32) (p3 : Int64) (hk0 : Kd h0 = 1) {pl0 : va_W} (hok : tt_ok tt_tk cA Kd pl0) : jj_M l D cA ak yX0_moveUnits (.code yX0_moveUnits cX0_moveUnits 12 none) 3 78 0 0 ([] ++ pl0) [.ref h0, .int p1, .int p2, .long p3] (tt_O (fun rx pl1 r => rx = [] ∧ tt_ok tt_tk cA Kd pl1 ∧ tt_fr Kd [(1, 8), (3, 0), (3, 1), (3, 2), (3, 3), (3, 4), (3, 5)] pl0 pl1 ∧ tt_fa Kd [] pl0 pl1 ∧ ((r = none)))) (tt_OX (fun _ _ _ => False)) := by
  refine jj_start hl (by decide) jw_7d091de86e (jj_le rfl) ?_
  intro p e s m args below meth c A hargs hA C hex hmn
  have hfr := tt_fr.refl (K := Kd) (WS := [(1, 8), (3, 0), (3, 1), (3, 2), (3, 3), (3, 4), (3, 5)]) pl0
  have hfa := tt_fa.refl (K := Kd) (WA := []) pl0
  have lp1 := tt_lo p1
  have up1 := tt_hi p1
  have lp2 := tt_lo p2
  have up2 := tt_hi p2
  refine jj_lload_n C dX0_moveUnits_0 rfl ?_
  refine jj_lstore C dX0_moveUnits_1 (by decide) rfl ?_
  refine jj_aload_n C dX0_moveUnits_3 rfl ?_
  refine tt_get C hok jk_2 8 (by decide) jw_9d0ccd4490 (t := (0, 0, 40)) hk0 (by decide) rfl rfl dX0_moveUnits_4 (fun v_1 hv_1 hf_2 => ?_)
  obtain ⟨x_3, rfl, lx_3, ux_3⟩ := tt_vi hv_1
  refine jj_istore C dX0_moveUnits_7 (by decide) rfl ?_
  refine jj_iconst (v := 0) C dX0_moveUnits_9 (by decide) ?_
  refine jj_istore C dX0_moveUnits_10 (by decide) rfl ?_
  have hL_4 : ∀ (N : Nat) (pl : va_W) (x_5 : Int32) (y_6 : Int64), True → tt_ok tt_tk cA Kd pl → tt_fr Kd [(1, 8), (3, 0), (3, 1), (3, 2), (3, 3), (3, 4), (3, 5)] pl0 pl → tt_fa Kd [] pl0 pl → (0 : Int) ≤ x_5.toInt → x_5.toInt ≤ 40 → (2147483648 - x_5.toInt ≤ (N : Int)) → jj_J p l e (jj_rm 3 78 0 0) s m args below meth c 12 A (vx_MQ below (jj_q D A (tt_O (fun rx pl1 r => rx = [] ∧ tt_ok tt_tk cA Kd pl1 ∧ tt_fr Kd [(1, 8), (3, 0), (3, 1), (3, 2), (3, 3), (3, 4), (3, 5)] pl0 pl1 ∧ tt_fa Kd [] pl0 pl1 ∧ ((r = none))))) (jj_x D A (tt_OX (fun _ _ _ => False))) args s 0 0 A) (jj_X D A ([] ++ pl)) 0 0 12 [(8, .int x_5), (7, .int x_3), (5, .long y_6), (0, .ref h0), (1, .int p1), (2, .int p2), (3, .long p3)] [] := by
    intro NL_4
    induction NL_4 with
    | zero => intro pl x_5 y_6 _ hok hfr hfa lx_5 ux_5 hNL_4; exfalso; omega
    | succ NL_4 ihL_4 =>
      intro pl x_5 y_6 _ hok hfr hfa lx_5 ux_5 hNL_4
      replace ihL_4 := fun pl x_5 y_6 h1 => ihL_4 pl x_5 y_6 trivial h1
      refine jj_iload C dX0_moveUnits_12 rfl ?_
      refine jj_iload C dX0_moveUnits_14 rfl ?_
      refine jj_icmp_ge (tgt := 98) C dX0_moveUnits_16 (by decide) (fun c_7 => ?_) (fun c_7 => ?_)
      · have z_c_7 := jc_le (a := (x_3).toInt) (b := (x_5).toInt) c_7 rfl rfl
        exact jj_vret C ⟨[], pl, rfl, rfl, hok, hfr, hfa, rfl⟩ dX0_moveUnits_98 (jj_le rfl) (jj_le rfl)
      · have z_c_7 := jc_nle (a := (x_3).toInt) (b := (x_5).toInt) c_7 rfl rfl
        refine jj_lload C dX0_moveUnits_19 rfl ?_
        refine jj_lconst (v := 0) C dX0_moveUnits_21 (by decide) ?_
        refine jj_lcmp_le (tgt := 98) C dX0_moveUnits_22 dX0_moveUnits_23 (by decide) (fun c_8 => ?_) (fun c_8 => ?_)
        · exact jj_vret C ⟨[], pl, rfl, rfl, hok, hfr, hfa, rfl⟩ dX0_moveUnits_98 (jj_le rfl) (jj_le rfl)
        · refine jj_aload_n C dX0_moveUnits_26 rfl ?_
          refine tt_get C hok jk_2 12 (by decide) jw_5f730213e9 (t := (2, 7, 0)) hk0 (by decide) rfl rfl dX0_moveUnits_27 (fun v_9 hv_9 hf_10 => ?_)
          obtain ⟨a_11, rfl, ka_11⟩ := tt_vr hv_9
          refine jj_iload C dX0_moveUnits_30 rfl ?_
          refine tt_aald C hok (t := (2, 3, 0)) ka_11 (by decide) rfl rfl rfl (vp_in_iff.mpr ⟨by omega, by omega⟩) dX0_moveUnits_32 (fun v_12 hv_12 => ?_)
          obtain ⟨a_13, rfl, ka_13⟩ := tt_vr hv_12
          refine jj_astore C dX0_moveUnits_33 (by decide) rfl ?_
          refine jj_aload C dX0_moveUnits_35 rfl ?_
          refine tt_get C hok jk_5 0 (by decide) jw_89374484be (t := (0, (-2147483648), 2147483647)) ka_13 (by decide) rfl rfl dX0_moveUnits_37 (fun v_14 hv_14 hf_15 => ?_)
          obtain ⟨x_16, rfl, lx_16, ux_16⟩ := tt_vi hv_14
          refine jj_iload_n C dX0_moveUnits_40 rfl ?_
          refine jj_icmp_ne (tgt := 92) C dX0_moveUnits_41 (by decide) (fun c_17 => ?_) (fun c_17 => ?_)
          · have z_c_17 := jc_neq (a := (x_16).toInt) (b := (p1).toInt) c_17 rfl rfl
            obtain ⟨x_18, ex_18, vx_18⟩ := tt_inc (x := x_5) (n := 1) (by omega) (by omega)
            refine jj_iinc (v := x_18) C dX0_moveUnits_92 rfl ex_18 (by decide) rfl ?_
            refine jj_goto (tgt := 12) C dX0_moveUnits_95 (by decide) ?_
            refine jj_loc [0, 2, 3, 4, 5, 6, 7] rfl ?_
            exact ihL_4 pl x_18 y_6 hok hfr hfa (by first | omega | decide | exact tt_lo _ | exact tt_hi _) (by first | omega | decide | exact tt_lo _ | exact tt_hi _) (by first | omega | decide | exact tt_lo _ | exact tt_hi _)
          · have z_c_17 := jc_eq (a := (x_16).toInt) (b := (p1).toInt) c_17 rfl rfl
            refine jj_lload C dX0_moveUnits_44 rfl ?_
            refine jj_aload C dX0_moveUnits_46 rfl ?_
            refine tt_get C hok jk_5 3 (by decide) jw_1f6afd9b6f (t := (1, (-9223372036854775808), 9223372036854775807)) ka_13 (by decide) rfl rfl dX0_moveUnits_48 (fun v_19 hv_19 hf_20 => ?_)
            obtain ⟨y_21, rfl, -, -⟩ := tt_vj hv_19
            refine tt_call0S (rest := []) C (ct_J9_min_f86c9_1 hl D cA ak y_6 y_21) jw_3aa8fe2f70 jw_a0cddbe894 jw_a731c8553d jw_e0e7ffaaeb jn_J9_min_f86c9 rfl (jj_le rfl) (jj_le rfl) (jj_le rfl) (jj_le rfl) (jj_le rfl) dX0_moveUnits_51 rfl (fun w1 r O_22 => ?_)
            rcases O_22 with ⟨c_23, -, rfl⟩ | ⟨c_24, -, rfl⟩
            · refine jj_lstore C dX0_moveUnits_54 (by decide) rfl ?_
              refine jj_lload C dX0_moveUnits_56 rfl ?_
              refine jj_lload C dX0_moveUnits_58 rfl ?_
              obtain ⟨y_25, ey_25⟩ : ∃ z : Int64, y_6 - y_21 = z := ⟨_, rfl⟩
              refine jj_lsub (v := y_25) C dX0_moveUnits_60 ey_25 ?_
              refine jj_lstore C dX0_moveUnits_61 (by decide) rfl ?_
              refine jj_lload C dX0_moveUnits_63 rfl ?_
              refine jj_aload C dX0_moveUnits_65 rfl ?_
              refine tt_getF C hok jk_5 3 (by decide) jw_1f6afd9b6f (t := (1, (-9223372036854775808), 9223372036854775807)) ka_13 (by decide) rfl rfl hf_20 dX0_moveUnits_67 ?_
              refine jj_lcmp_neF (tgt := 83) C dX0_moveUnits_70 dX0_moveUnits_71 (by decide) rfl ?_
              refine jj_aload C dX0_moveUnits_74 rfl ?_
              refine jj_iload_n C dX0_moveUnits_76 rfl ?_
              refine rl_put C hok jk_5 0 (by decide) jw_89374484be (t := (0, (-2147483648), 2147483647)) ka_13 (by decide) rfl rfl rfl (tt_ia p2) rfl rfl dX0_moveUnits_77 (fun pl_26 hok_27 tr hn tl => ?_)
              replace hf_10 := tr _ _ _ (Or.inl (tt_ne hk0 ka_13 (by decide))) hf_10
              replace hf_20 := tr _ _ _ (Or.inr (by decide)) hf_20
              have hf_28 := hn
              replace hfr := hfr.put ka_13 tr (by decide)
              replace hfa := hfa.all tl
              refine jj_goto (tgt := 92) C dX0_moveUnits_80 (by decide) ?_
              obtain ⟨x_29, ex_29, vx_29⟩ := tt_inc (x := x_5) (n := 1) (by omega) (by omega)
              refine jj_iinc (v := x_29) C dX0_moveUnits_92 rfl ex_29 (by decide) rfl ?_
              refine jj_goto (tgt := 12) C dX0_moveUnits_95 (by decide) ?_
              refine jj_loc [0, 4, 1, 5, 6, 7, 8] rfl ?_
              exact ihL_4 pl_26 x_29 y_25 hok_27 hfr hfa (by first | omega | decide | exact tt_lo _ | exact tt_hi _) (by first | omega | decide | exact tt_lo _ | exact tt_hi _) (by first | omega | decide | exact tt_lo _ | exact tt_hi _)
            · refine jj_lstore C dX0_moveUnits_54 (by decide) rfl ?_
              refine jj_lload C dX0_moveUnits_56 rfl ?_
              refine jj_lload C dX0_moveUnits_58 rfl ?_
              obtain ⟨y_30, ey_30⟩ : ∃ z : Int64, y_6 - y_6 = z := ⟨_, rfl⟩
              refine jj_lsub (v := y_30) C dX0_moveUnits_60 ey_30 ?_
              refine jj_lstore C dX0_moveUnits_61 (by decide) rfl ?_
              refine jj_lload C dX0_moveUnits_63 rfl ?_
              refine jj_aload C dX0_moveUnits_65 rfl ?_
              refine tt_getF C hok jk_5 3 (by decide) jw_1f6afd9b6f (t := (1, (-9223372036854775808), 9223372036854775807)) ka_13 (by decide) rfl rfl hf_20 dX0_moveUnits_67 ?_
              refine jj_lcmp_ne (tgt := 83) C dX0_moveUnits_70 dX0_moveUnits_71 (by decide) (fun c_31 => ?_) (fun c_31 => ?_)
              · refine jj_aload_n C dX0_moveUnits_83 rfl ?_
                refine jj_aload C dX0_moveUnits_84 rfl ?_
                refine jj_iload_n C dX0_moveUnits_86 rfl ?_
                refine jj_lload C dX0_moveUnits_87 rfl ?_
                obtain ⟨qc, gs, hqc⟩ := tt_recv (cx := []) hok hk0 (by decide) rfl
                refine tt_callV (rest := []) C (tc_X0_splitLot_1 hl D cA ak h0 a_13 p2 y_6 hk0 ka_13 hok) [] [] rfl rfl (by decide) (by decide) (by decide) qc hqc rfl rfl jw_96d0fce99e jw_9a3deeca5f jw_ba2a371f49 jw_7d25d4fd32 jw_dd97004619 jn_X0_splitLot rfl (jj_le rfl) (jj_le rfl) (jj_le rfl) (jj_le rfl) (jj_le rfl) dX0_moveUnits_89 rfl (fun _ _ _ hX => hX.elim) (fun rx pl_32 r O_35 => ?_)
                obtain ⟨rfl, hok_33, hr_34, hfa9, hR_37⟩ := O_35
                replace hf_10 := hr_34.at hk0 (by decide) (by decide) hf_10
                replace hfr := hfr.trans (hr_34.sub (by decide))
                replace hfa := hfa.trans (hfa9.sub (by decide))
                obtain rfl := hR_37
                obtain ⟨x_40, ex_40, vx_40⟩ := tt_inc (x := x_5) (n := 1) (by omega) (by omega)
                refine jj_iinc (v := x_40) C dX0_moveUnits_92 rfl ex_40 (by decide) rfl ?_
                refine jj_goto (tgt := 12) C dX0_moveUnits_95 (by decide) ?_
                refine jj_loc [0, 4, 1, 5, 6, 7, 8] rfl ?_
                exact ihL_4 pl_32 x_40 y_30 hok_33 hfr hfa (by first | omega | decide | exact tt_lo _ | exact tt_hi _) (by first | omega | decide | exact tt_lo _ | exact tt_hi _) (by first | omega | decide | exact tt_lo _ | exact tt_hi _)
              · refine jj_aload C dX0_moveUnits_74 rfl ?_
                refine jj_iload_n C dX0_moveUnits_76 rfl ?_
                refine rl_put C hok jk_5 0 (by decide) jw_89374484be (t := (0, (-2147483648), 2147483647)) ka_13 (by decide) rfl rfl rfl (tt_ia p2) rfl rfl dX0_moveUnits_77 (fun pl_41 hok_42 tr hn tl => ?_)
                replace hf_10 := tr _ _ _ (Or.inl (tt_ne hk0 ka_13 (by decide))) hf_10
                replace hf_20 := tr _ _ _ (Or.inr (by decide)) hf_20
                have hf_43 := hn
                replace hfr := hfr.put ka_13 tr (by decide)
                replace hfa := hfa.all tl
                refine jj_goto (tgt := 92) C dX0_moveUnits_80 (by decide) ?_
                obtain ⟨x_44, ex_44, vx_44⟩ := tt_inc (x := x_5) (n := 1) (by omega) (by omega)
                refine jj_iinc (v := x_44) C dX0_moveUnits_92 rfl ex_44 (by decide) rfl ?_
                refine jj_goto (tgt := 12) C dX0_moveUnits_95 (by decide) ?_
                refine jj_loc [0, 4, 1, 5, 6, 7, 8] rfl ?_
                exact ihL_4 pl_41 x_44 y_30 hok_42 hfr hfa (by first | omega | decide | exact tt_lo _ | exact tt_hi _) (by first | omega | decide | exact tt_lo _ | exact tt_hi _) (by first | omega | decide | exact tt_lo _ | exact tt_hi _)
  exact hL_4 _ pl0 (0 : Int32) p3 trivial hok hfr hfa (by first | omega | decide | exact tt_lo _ | exact tt_hi _) (by first | omega | decide | exact tt_lo _ | exact tt_hi _) (Int.self_le_toNat _)

set_option maxHeartbeats 4000000 in
set_option maxRecDepth 100000 in
theorem tc_X10_truncateText_1 {l : Launch} (hl : l.stackTraces = false) (D : va_G) (cA : Nat → ClassId) (ak : (Nat → Nat) × (Nat → Nat)) {Kd : Nat → Nat} (h0 : Nat) (p1 : Int32) (hk0 : Kd h0 = 15) {pl0 : va_W} (hok : tt_ok tt_tk cA Kd pl0) : jj_M l D cA ak yX10_truncateText (.code yX10_truncateText cX10_truncateText 2 (some .int)) 6 82 1 6 ([] ++ pl0) [.ref h0, .int p1] (tt_O (fun rx pl1 r => rx = [] ∧ tt_ok tt_tk cA Kd pl1 ∧ tt_fr Kd [(10, 1)] pl0 pl1 ∧ tt_fa Kd [] pl0 pl1 ∧ ((∃ v : Int32, (0 : Int) ≤ v.toInt ∧ v.toInt ≤ 400 ∧ (0 : Int) ≤ p1.toInt ∧ p1.toInt ≤ 400 ∧ r = some (.int v))))) (tt_OX (fun E rx pl1 => rx = [] ∧ tt_ok tt_tk cA Kd pl1 ∧ tt_fr Kd [(10, 1)] pl0 pl1 ∧ tt_fa Kd [] pl0 pl1 ∧ (E = "java/lang/IllegalArgumentException"))) := by
  refine jj_start hl (by decide) jw_be9ea47be0 (jj_le rfl) ?_
  intro p e s m args below meth c A hargs hA C hex hmn
  have hfr := tt_fr.refl (K := Kd) (WS := [(10, 1)]) pl0
  have hfa := tt_fa.refl (K := Kd) (WA := []) pl0
  have lp1 := tt_lo p1
  have up1 := tt_hi p1
  refine jj_iload_n C dX10_truncateText_0 rfl ?_
  refine jj_if_lt (tgt := 15) C dX10_truncateText_1 (by decide) (fun c_1 => ?_) (fun c_1 => ?_)
  · have z_c_1 := jc_lt (a := (p1).toInt) (b := (0)) c_1 rfl (by decide)
    exact jj_throw (k := 37) (text := "no such length") C jt_RX10_75 jw_0e6c957e85 (by decide +kernel) dX10_truncateText_15 dX10_truncateText_18 dX10_truncateText_19 dX10_truncateText_21 dX10_truncateText_24 hex (jj_le rfl) (jj_le rfl) (jj_le rfl) (jj_le rfl) ⟨[], pl0, rfl, rfl, hok, hfr, hfa, rfl⟩ (jj_le rfl) (jj_le rfl)
  · have z_c_1 := jc_nlt (a := (p1).toInt) (b := (0)) c_1 rfl (by decide)
    refine jj_iload_n C dX10_truncateText_4 rfl ?_
    refine jj_aload_n C dX10_truncateText_5 rfl ?_
    refine tt_get C hok jk_11 0 (by decide) jw_4836d4133c (t := (2, 10, 0)) hk0 (by decide) rfl rfl dX10_truncateText_6 (fun v_2 hv_2 hf_3 => ?_)
    obtain ⟨a_4, rfl, ka_4⟩ := tt_vr hv_2
    refine tt_get C hok jk_10 1 (by decide) jw_73b0a985ca (t := (0, 0, 400)) ka_4 (by decide) rfl rfl dX10_truncateText_9 (fun v_5 hv_5 hf_6 => ?_)
    obtain ⟨x_7, rfl, lx_7, ux_7⟩ := tt_vi hv_5
    refine jj_icmp_le (tgt := 25) C dX10_truncateText_12 (by decide) (fun c_8 => ?_) (fun c_8 => ?_)
    · have z_c_8 := jc_le (a := (p1).toInt) (b := (x_7).toInt) c_8 rfl rfl
      refine jj_aload_n C dX10_truncateText_25 rfl ?_
      refine tt_getF C hok jk_11 0 (by decide) jw_4836d4133c (t := (2, 10, 0)) hk0 (by decide) rfl rfl hf_3 dX10_truncateText_26 ?_
      refine jj_iload_n C dX10_truncateText_29 rfl ?_
      refine rl_put C hok jk_10 1 (by decide) jw_73b0a985ca (t := (0, 0, 400)) ka_4 (by decide) rfl rfl rfl (tt_iv (by omega) (by omega)) rfl rfl dX10_truncateText_30 (fun pl_9 hok_10 tr hn tl => ?_)
      replace hf_3 := tr _ _ _ (Or.inl (tt_ne hk0 ka_4 (by decide))) hf_3
      have hf_11 := hn
      replace hfr := hfr.put ka_4 tr (by decide)
      replace hfa := hfa.all tl
      refine jj_iload_n C dX10_truncateText_33 rfl ?_
      exact jj_iret C ⟨[], pl_9, rfl, rfl, hok_10, hfr, hfa, ⟨p1, (by first | omega | exact tt_lo _ | exact tt_hi _), (by first | omega | exact tt_lo _ | exact tt_hi _), (by first | omega | exact tt_lo _ | exact tt_hi _), (by first | omega | exact tt_lo _ | exact tt_hi _), rfl⟩⟩ dX10_truncateText_34 (jj_le rfl) (jj_le rfl)
    · have z_c_8 := jc_nle (a := (p1).toInt) (b := (x_7).toInt) c_8 rfl rfl
      exact jj_throw (k := 37) (text := "no such length") C jt_RX10_75 jw_0e6c957e85 (by decide +kernel) dX10_truncateText_15 dX10_truncateText_18 dX10_truncateText_19 dX10_truncateText_21 dX10_truncateText_24 hex (jj_le rfl) (jj_le rfl) (jj_le rfl) (jj_le rfl) ⟨[], pl0, rfl, rfl, hok, hfr, hfa, rfl⟩ (jj_le rfl) (jj_le rfl)

set_option maxHeartbeats 4000000 in
set_option maxRecDepth 100000 in
theorem tc_X10_undo_1 {l : Launch} (hl : l.stackTraces = false) (D : va_G) (cA : Nat → ClassId) (ak : (Nat → Nat) × (Nat → Nat)) {Kd : Nat → Nat} (h0 : Nat) (hk0 : Kd h0 = 15) {pl0 : va_W} (hok : tt_ok tt_tk cA Kd pl0) : jj_M l D cA ak yX10_undo (.code yX10_undo cX10_undo 1 (some .int)) 6 82 1 6 ([] ++ pl0) [.ref h0] (tt_O (fun rx pl1 r => rx = [] ∧ tt_ok tt_tk cA Kd pl1 ∧ tt_fr Kd [(1, 0), (1, 1), (1, 2), (1, 3), (1, 4), (1, 5), (1, 6), (1, 7), (1, 8), (1, 9), (2, 0), (2, 1), (2, 2), (2, 3), (2, 4), (3, 0), (3, 1), (3, 2), (3, 3), (3, 4), (3, 5), (4, 0), (4, 1), (4, 2), (4, 3), (4, 4), (15, 7), (15, 8)] pl0 pl1 ∧ tt_fa Kd [5] pl0 pl1 ∧ ((∃ v : Int32, (0 : Int) ≤ v.toInt ∧ v.toInt ≤ 9 ∧ r = some (.int v))))) (tt_OX (fun E rx pl1 => rx = [] ∧ tt_ok tt_tk cA Kd pl1 ∧ tt_fr Kd [(1, 0), (1, 1), (1, 2), (1, 3), (1, 4), (1, 5), (1, 6), (1, 7), (1, 8), (1, 9), (2, 0), (2, 1), (2, 2), (2, 3), (2, 4), (3, 0), (3, 1), (3, 2), (3, 3), (3, 4), (3, 5), (4, 0), (4, 1), (4, 2), (4, 3), (4, 4), (15, 7), (15, 8)] pl0 pl1 ∧ tt_fa Kd [5] pl0 pl1 ∧ (E = "java/lang/IllegalStateException"))) := by
  refine jj_start hl (by decide) jw_a04efaf693 (jj_le rfl) ?_
  intro p e s m args below meth c A hargs hA C hex hmn
  have hfr := tt_fr.refl (K := Kd) (WS := [(1, 0), (1, 1), (1, 2), (1, 3), (1, 4), (1, 5), (1, 6), (1, 7), (1, 8), (1, 9), (2, 0), (2, 1), (2, 2), (2, 3), (2, 4), (3, 0), (3, 1), (3, 2), (3, 3), (3, 4), (3, 5), (4, 0), (4, 1), (4, 2), (4, 3), (4, 4), (15, 7), (15, 8)]) pl0
  have hfa := tt_fa.refl (K := Kd) (WA := [5]) pl0
  refine jj_aload_n C dX10_undo_0 rfl ?_
  refine tt_get C hok jk_11 8 (by decide) jw_427985f7c9 (t := (0, 0, 10)) hk0 (by decide) rfl rfl dX10_undo_1 (fun v_1 hv_1 hf_2 => ?_)
  obtain ⟨x_3, rfl, lx_3, ux_3⟩ := tt_vi hv_1
  refine jj_if_eq (tgt := 19) C dX10_undo_4 (by decide) (fun c_4 => ?_) (fun c_4 => ?_)
  · have z_c_4 := jc_eq (a := (x_3).toInt) (b := (0)) c_4 rfl (by decide)
    exact jj_throwW (k := 53) (text := "there is nothing to undo") C jt_RX10_64 jw_2e653062aa (by decide +kernel) dX10_undo_19 dX10_undo_22 dX10_undo_23 dX10_undo_26 dX10_undo_29 hex (jj_le rfl) (jj_le rfl) (jj_le rfl) (jj_le rfl) ⟨[], pl0, rfl, rfl, hok, hfr, hfa, rfl⟩ (jj_le rfl) (jj_le rfl)
  · have z_c_4 := jc_neq (a := (x_3).toInt) (b := (0)) c_4 rfl (by decide)
    refine jj_aload_n C dX10_undo_7 rfl ?_
    refine tt_get C hok jk_11 6 (by decide) jw_c7bfd4c89b (t := (2, 16, 0)) hk0 (by decide) rfl rfl dX10_undo_8 (fun v_5 hv_5 hf_6 => ?_)
    obtain ⟨a_7, rfl, ka_7⟩ := tt_vr hv_5
    refine jj_aload_n C dX10_undo_11 rfl ?_
    refine tt_get C hok jk_11 7 (by decide) jw_f074b96d56 (t := (0, 0, 9)) hk0 (by decide) rfl rfl dX10_undo_12 (fun v_8 hv_8 hf_9 => ?_)
    obtain ⟨x_10, rfl, lx_10, ux_10⟩ := tt_vi hv_8
    refine tt_aaldN C hok (t := (3, 1, 0)) ka_7 (by decide) rfl rfl rfl (vp_in_iff.mpr ⟨by omega, by omega⟩) dX10_undo_15 (fun v_11 hv_11 he_13 => ?_)
    rcases tt_vn hv_11 with rfl | ⟨a_12, rfl, ka_12⟩
    · refine jj_ifnonnullN C dX10_undo_16 ?_
      exact jj_throwW (k := 53) (text := "there is nothing to undo") C jt_RX10_64 jw_2e653062aa (by decide +kernel) dX10_undo_19 dX10_undo_22 dX10_undo_23 dX10_undo_26 dX10_undo_29 hex (jj_le rfl) (jj_le rfl) (jj_le rfl) (jj_le rfl) ⟨[], pl0, rfl, rfl, hok, hfr, hfa, rfl⟩ (jj_le rfl) (jj_le rfl)
    · refine jj_ifnonnull (tgt := 30) C dX10_undo_16 (by decide) ?_
      refine jj_aload_n C dX10_undo_30 rfl ?_
      refine tt_get C hok jk_11 3 (by decide) jw_f82a97e333 (t := (2, 1, 0)) hk0 (by decide) rfl rfl dX10_undo_31 (fun v_14 hv_14 hf_15 => ?_)
      obtain ⟨a_16, rfl, ka_16⟩ := tt_vr hv_14
      refine jj_aload_n C dX10_undo_34 rfl ?_
      refine tt_getF C hok jk_11 6 (by decide) jw_c7bfd4c89b (t := (2, 16, 0)) hk0 (by decide) rfl rfl hf_6 dX10_undo_35 ?_
      refine jj_aload_n C dX10_undo_38 rfl ?_
      refine tt_getF C hok jk_11 7 (by decide) jw_f074b96d56 (t := (0, 0, 9)) hk0 (by decide) rfl rfl hf_9 dX10_undo_39 ?_
      refine tt_aaldF C hok (t := (3, 1, 0)) ka_7 (by decide) rfl rfl rfl (vp_in_iff.mpr ⟨by omega, by omega⟩) he_13 dX10_undo_42 ?_
      obtain ⟨qc, gs, hqc⟩ := tt_recv (cx := []) hok ka_16 (by decide) rfl
      refine tt_callV (rest := []) C (tc_X0_copyFrom_1 hl D cA ak a_16 a_12 ka_16 ka_12 hok) [] [] rfl rfl (by decide) (by decide) (by decide) qc hqc rfl rfl jw_4d0cb05860 jw_8aa1bdb2cc jw_ac98d74d03 jw_7d25d4fd32 jw_58241735d3 jn_X0_copyFrom rfl (jj_le rfl) (jj_le rfl) (jj_le rfl) (jj_le rfl) (jj_le rfl) dX10_undo_43 rfl (fun _ _ _ hX => hX.elim) (fun rx pl_19 r O_22 => ?_)
      obtain ⟨rfl, hok_20, hr_21, hfa9, hR_24⟩ := O_22
      replace hf_2 := hr_21.at hk0 (by decide) (by decide) hf_2
      replace hf_6 := hr_21.at hk0 (by decide) (by decide) hf_6
      replace hf_9 := hr_21.at hk0 (by decide) (by decide) hf_9
      replace hf_15 := hr_21.at hk0 (by decide) (by decide) hf_15
      replace hfr := hfr.trans (hr_21.sub (by decide))
      replace hfa := hfa.trans (hfa9.sub (by decide))
      obtain rfl := hR_24
      refine jj_aload_n C dX10_undo_46 rfl ?_
      refine jj_aload_n C dX10_undo_47 rfl ?_
      refine tt_getF C hok_20 jk_11 7 (by decide) jw_f074b96d56 (t := (0, 0, 9)) hk0 (by decide) rfl rfl hf_9 dX10_undo_48 ?_
      refine jj_if_le (tgt := 63) C dX10_undo_51 (by decide) (fun c_27 => ?_) (fun c_27 => ?_)
      · have z_c_27 := jc_le (a := (x_10).toInt) (b := (0)) c_27 rfl (by decide)
        refine jj_bipush (v := 9) C dX10_undo_63 (by decide) ?_
        refine rl_put C hok_20 jk_11 7 (by decide) jw_f074b96d56 (t := (0, 0, 9)) hk0 (by decide) rfl rfl rfl (tt_iv (by decide) (by decide)) rfl rfl dX10_undo_65 (fun pl_28 hok_29 tr hn tl => ?_)
        replace hf_2 := tr _ _ _ (Or.inr (by decide)) hf_2
        replace hf_6 := tr _ _ _ (Or.inr (by decide)) hf_6
        replace hf_15 := tr _ _ _ (Or.inr (by decide)) hf_15
        have hf_30 := hn
        replace hfr := hfr.put hk0 tr (by decide)
        replace hfa := hfa.all tl
        refine jj_aload_n C dX10_undo_68 rfl ?_
        refine jj_dup C dX10_undo_69 rfl ?_
        refine tt_getF C hok_29 jk_11 8 (by decide) jw_427985f7c9 (t := (0, 0, 10)) hk0 (by decide) rfl rfl hf_2 dX10_undo_70 ?_
        refine jj_iconst (v := 1) C dX10_undo_73 (by decide) ?_
        obtain ⟨x_31, ex_31, vx_31⟩ := tt_isub (x := x_3) (y := (1 : Int32)) (a := x_3.toInt) rfl (b := 1) (by decide) (by omega) (by omega)
        refine jj_isub (v := x_31) C dX10_undo_74 ex_31 ?_
        refine rl_put C hok_29 jk_11 8 (by decide) jw_427985f7c9 (t := (0, 0, 10)) hk0 (by decide) rfl rfl rfl (tt_iv (by omega) (by omega)) rfl rfl dX10_undo_75 (fun pl_32 hok_33 tr hn tl => ?_)
        replace hf_6 := tr _ _ _ (Or.inr (by decide)) hf_6
        replace hf_15 := tr _ _ _ (Or.inr (by decide)) hf_15
        replace hf_30 := tr _ _ _ (Or.inr (by decide)) hf_30
        have hf_34 := hn
        replace hfr := hfr.put hk0 tr (by decide)
        replace hfa := hfa.all tl
        refine jj_aload_n C dX10_undo_78 rfl ?_
        refine tt_getF C hok_33 jk_11 8 (by decide) jw_427985f7c9 (t := (0, 0, 10)) hk0 (by decide) rfl rfl hf_34 dX10_undo_79 ?_
        exact jj_iret C ⟨[], pl_32, rfl, rfl, hok_33, hfr, hfa, ⟨x_31, (by first | omega | exact tt_lo _ | exact tt_hi _), (by first | omega | exact tt_lo _ | exact tt_hi _), rfl⟩⟩ dX10_undo_82 (jj_le rfl) (jj_le rfl)
      · have z_c_27 := jc_nle (a := (x_10).toInt) (b := (0)) c_27 rfl (by decide)
        refine jj_aload_n C dX10_undo_54 rfl ?_
        refine tt_getF C hok_20 jk_11 7 (by decide) jw_f074b96d56 (t := (0, 0, 9)) hk0 (by decide) rfl rfl hf_9 dX10_undo_55 ?_
        refine jj_iconst (v := 1) C dX10_undo_58 (by decide) ?_
        obtain ⟨x_35, ex_35, vx_35⟩ := tt_isub (x := x_10) (y := (1 : Int32)) (a := x_10.toInt) rfl (b := 1) (by decide) (by omega) (by omega)
        refine jj_isub (v := x_35) C dX10_undo_59 ex_35 ?_
        refine jj_goto (tgt := 65) C dX10_undo_60 (by decide) ?_
        refine rl_put C hok_20 jk_11 7 (by decide) jw_f074b96d56 (t := (0, 0, 9)) hk0 (by decide) rfl rfl rfl (tt_iv (by omega) (by omega)) rfl rfl dX10_undo_65 (fun pl_36 hok_37 tr hn tl => ?_)
        replace hf_2 := tr _ _ _ (Or.inr (by decide)) hf_2
        replace hf_6 := tr _ _ _ (Or.inr (by decide)) hf_6
        replace hf_15 := tr _ _ _ (Or.inr (by decide)) hf_15
        have hf_38 := hn
        replace hfr := hfr.put hk0 tr (by decide)
        replace hfa := hfa.all tl
        refine jj_aload_n C dX10_undo_68 rfl ?_
        refine jj_dup C dX10_undo_69 rfl ?_
        refine tt_getF C hok_37 jk_11 8 (by decide) jw_427985f7c9 (t := (0, 0, 10)) hk0 (by decide) rfl rfl hf_2 dX10_undo_70 ?_
        refine jj_iconst (v := 1) C dX10_undo_73 (by decide) ?_
        obtain ⟨x_39, ex_39, vx_39⟩ := tt_isub (x := x_3) (y := (1 : Int32)) (a := x_3.toInt) rfl (b := 1) (by decide) (by omega) (by omega)
        refine jj_isub (v := x_39) C dX10_undo_74 ex_39 ?_
        refine rl_put C hok_37 jk_11 8 (by decide) jw_427985f7c9 (t := (0, 0, 10)) hk0 (by decide) rfl rfl rfl (tt_iv (by omega) (by omega)) rfl rfl dX10_undo_75 (fun pl_40 hok_41 tr hn tl => ?_)
        replace hf_6 := tr _ _ _ (Or.inr (by decide)) hf_6
        replace hf_15 := tr _ _ _ (Or.inr (by decide)) hf_15
        replace hf_38 := tr _ _ _ (Or.inr (by decide)) hf_38
        have hf_42 := hn
        replace hfr := hfr.put hk0 tr (by decide)
        replace hfa := hfa.all tl
        refine jj_aload_n C dX10_undo_78 rfl ?_
        refine tt_getF C hok_41 jk_11 8 (by decide) jw_427985f7c9 (t := (0, 0, 10)) hk0 (by decide) rfl rfl hf_42 dX10_undo_79 ?_
        exact jj_iret C ⟨[], pl_40, rfl, rfl, hok_41, hfr, hfa, ⟨x_39, (by first | omega | exact tt_lo _ | exact tt_hi _), (by first | omega | exact tt_lo _ | exact tt_hi _), rfl⟩⟩ dX10_undo_82 (jj_le rfl) (jj_le rfl)

set_option maxHeartbeats 4000000 in
set_option maxRecDepth 100000 in
theorem tc_X10_unitsOf_1 {l : Launch} (hl : l.stackTraces = false) (D : va_G) (cA : Nat → ClassId) (ak : (Nat → Nat) × (Nat → Nat)) {Kd : Nat → Nat} (h0 : Nat) (p1 : Int32) (hk0 : Kd h0 = 15) {pl0 : va_W} (hok : tt_ok tt_tk cA Kd pl0) : jj_M l D cA ak yX10_unitsOf (.code yX10_unitsOf cX10_unitsOf 2 (some .long)) 8 123 1 6 ([] ++ pl0) [.ref h0, .int p1] (tt_O (fun rx pl1 r => rx = [] ∧ tt_ok tt_tk cA Kd pl1 ∧ tt_fr Kd [] pl0 pl1 ∧ tt_fa Kd [] pl0 pl1 ∧ ((∃ v : Int64, (0 : Int) ≤ p1.toInt ∧ p1.toInt ≤ 2147483646 ∧ r = some (.long v))))) (tt_OX (fun E rx pl1 => rx = [] ∧ tt_ok tt_tk cA Kd pl1 ∧ tt_fr Kd [] pl0 pl1 ∧ tt_fa Kd [] pl0 pl1 ∧ (E = "java/lang/IndexOutOfBoundsException"))) := by
  refine jj_start hl (by decide) jw_45a18b951a (jj_le rfl) ?_
  intro p e s m args below meth c A hargs hA C hex hmn
  have hfr := tt_fr.refl (K := Kd) (WS := []) pl0
  have hfa := tt_fa.refl (K := Kd) (WA := []) pl0
  have lp1 := tt_lo p1
  have up1 := tt_hi p1
  refine jj_aload_n C dX10_unitsOf_0 rfl ?_
  refine jj_iload_n C dX10_unitsOf_1 rfl ?_
  obtain ⟨qc, gs, hqc⟩ := tt_recv (cx := []) hok hk0 (by decide) rfl
  refine tt_callV (rest := []) C (tc_X10_checkInvestor_1 hl D cA ak h0 p1 hk0 hok) [] [] rfl rfl (by decide) (by decide) (by decide) qc hqc rfl rfl jw_c489a67580 jw_a350a61418 jw_0e27b6f20c jw_6f6d707074 jw_a8b8d648f8 jn_X10_checkInvestor rfl (jj_le rfl) (jj_le rfl) (jj_le rfl) (jj_le rfl) (jj_le rfl) dX10_unitsOf_2 rfl (fun E rx pl_1 X_5 => ?_) (fun rx pl_1 r O_4 => ?_)
  · obtain ⟨rfl, hok_2, hr_3, hfa9, hE_6⟩ := X_5
    replace hfr := hfr.trans (hr_3.sub (by decide))
    replace hfa := hfa.trans (hfa9.sub (by decide))
    obtain rfl := hE_6
    exact jj_out C hex ⟨[], pl_1, rfl, rfl, hok_2, hfr, hfa, rfl⟩ (jj_le rfl) (jj_le rfl)
  · obtain ⟨rfl, hok_2, hr_3, hfa9, hR_9⟩ := O_4
    replace hfr := hfr.trans (hr_3.sub (by decide))
    replace hfa := hfa.trans (hfa9.sub (by decide))
    obtain ⟨l_12, u_13, rfl⟩ := hR_9
    refine jj_aload_n C dX10_unitsOf_5 rfl ?_
    refine tt_get C hok_2 jk_11 3 (by decide) jw_f82a97e333 (t := (2, 1, 0)) hk0 (by decide) rfl rfl dX10_unitsOf_6 (fun v_14 hv_14 hf_15 => ?_)
    obtain ⟨a_16, rfl, ka_16⟩ := tt_vr hv_14
    refine jj_iload_n C dX10_unitsOf_9 rfl ?_
    obtain ⟨qc, gs, hqc⟩ := tt_recv (cx := []) hok_2 ka_16 (by decide) rfl
    refine tt_callV (rest := []) C (tc_X0_unitsHeldBy_1 hl D cA ak a_16 p1 ka_16 hok_2) [] [] rfl rfl (by decide) (by decide) (by decide) qc hqc rfl rfl jw_696d1435d3 jw_473d3625aa jw_4058f4329f jw_7d25d4fd32 jw_325e36afd1 jn_X0_unitsHeldBy rfl (jj_le rfl) (jj_le rfl) (jj_le rfl) (jj_le rfl) (jj_le rfl) dX10_unitsOf_10 rfl (fun _ _ _ hX => hX.elim) (fun rx pl_17 r O_20 => ?_)
    obtain ⟨rfl, hok_18, hr_19, hfa9, hR_22⟩ := O_20
    replace hf_15 := hr_19.at hk0 (by decide) (by decide) hf_15
    replace hfr := hfr.trans (hr_19.sub (by decide))
    replace hfa := hfa.trans (hfa9.sub (by decide))
    obtain ⟨y_25, rfl⟩ := hR_22
    exact jj_lret C ⟨[], pl_17, rfl, rfl, hok_18, hfr, hfa, ⟨y_25, (by first | omega | exact tt_lo _ | exact tt_hi _), (by first | omega | exact tt_lo _ | exact tt_hi _), rfl⟩⟩ dX10_unitsOf_13 (jj_le rfl) (jj_le rfl)

set_option maxHeartbeats 4000000 in
set_option maxRecDepth 100000 in
theorem tc_X10_valueOf_1 {l : Launch} (hl : l.stackTraces = false) (D : va_G) (cA : Nat → ClassId) (ak : (Nat → Nat) × (Nat → Nat)) {Kd : Nat → Nat} (h0 : Nat) (p1 : Int32) (hk0 : Kd h0 = 15) {pl0 : va_W} (hok : tt_ok tt_tk cA Kd pl0) : jj_M l D cA ak yX10_valueOf (.code yX10_valueOf cX10_valueOf 2 (some .long)) 8 123 1 6 ([] ++ pl0) [.ref h0, .int p1] (tt_O (fun rx pl1 r => rx = [] ∧ tt_ok tt_tk cA Kd pl1 ∧ tt_fr Kd [(2, 0), (2, 1), (2, 2), (2, 3), (2, 4), (9, 1), (9, 2), (9, 3), (9, 4), (9, 5)] pl0 pl1 ∧ tt_fa Kd [] pl0 pl1 ∧ ((∃ v : Int64, (0 : Int) ≤ p1.toInt ∧ p1.toInt ≤ 2147483646 ∧ r = some (.long v))))) (tt_OX (fun E rx pl1 => rx = [] ∧ tt_ok tt_tk cA Kd pl1 ∧ tt_fr Kd [(2, 0), (2, 1), (2, 2), (2, 3), (2, 4), (9, 1), (9, 2), (9, 3), (9, 4), (9, 5)] pl0 pl1 ∧ tt_fa Kd [] pl0 pl1 ∧ (E = "java/lang/IndexOutOfBoundsException"))) := by
  refine jj_start hl (by decide) jw_0fd6256d51 (jj_le rfl) ?_
  intro p e s m args below meth c A hargs hA C hex hmn
  have hfr := tt_fr.refl (K := Kd) (WS := [(2, 0), (2, 1), (2, 2), (2, 3), (2, 4), (9, 1), (9, 2), (9, 3), (9, 4), (9, 5)]) pl0
  have hfa := tt_fa.refl (K := Kd) (WA := []) pl0
  have lp1 := tt_lo p1
  have up1 := tt_hi p1
  refine jj_aload_n C dX10_valueOf_0 rfl ?_
  refine jj_iload_n C dX10_valueOf_1 rfl ?_
  obtain ⟨qc, gs, hqc⟩ := tt_recv (cx := []) hok hk0 (by decide) rfl
  refine tt_callV (rest := []) C (tc_X10_checkInvestor_1 hl D cA ak h0 p1 hk0 hok) [] [] rfl rfl (by decide) (by decide) (by decide) qc hqc rfl rfl jw_c489a67580 jw_a350a61418 jw_0e27b6f20c jw_6f6d707074 jw_a8b8d648f8 jn_X10_checkInvestor rfl (jj_le rfl) (jj_le rfl) (jj_le rfl) (jj_le rfl) (jj_le rfl) dX10_valueOf_2 rfl (fun E rx pl_1 X_5 => ?_) (fun rx pl_1 r O_4 => ?_)
  · obtain ⟨rfl, hok_2, hr_3, hfa9, hE_6⟩ := X_5
    replace hfr := hfr.trans (hr_3.sub (by decide))
    replace hfa := hfa.trans (hfa9.sub (by decide))
    obtain rfl := hE_6
    exact jj_out C hex ⟨[], pl_1, rfl, rfl, hok_2, hfr, hfa, rfl⟩ (jj_le rfl) (jj_le rfl)
  · obtain ⟨rfl, hok_2, hr_3, hfa9, hR_9⟩ := O_4
    replace hfr := hfr.trans (hr_3.sub (by decide))
    replace hfa := hfa.trans (hfa9.sub (by decide))
    obtain ⟨l_12, u_13, rfl⟩ := hR_9
    refine jj_aload_n C dX10_valueOf_5 rfl ?_
    refine tt_get C hok_2 jk_11 5 (by decide) jw_34b8702fe2 (t := (2, 9, 0)) hk0 (by decide) rfl rfl dX10_valueOf_6 (fun v_14 hv_14 hf_15 => ?_)
    obtain ⟨a_16, rfl, ka_16⟩ := tt_vr hv_14
    refine jj_aload_n C dX10_valueOf_9 rfl ?_
    refine tt_get C hok_2 jk_11 3 (by decide) jw_f82a97e333 (t := (2, 1, 0)) hk0 (by decide) rfl rfl dX10_valueOf_10 (fun v_17 hv_17 hf_18 => ?_)
    obtain ⟨a_19, rfl, ka_19⟩ := tt_vr hv_17
    refine jj_iload_n C dX10_valueOf_13 rfl ?_
    refine jj_iconst (v := 0) C dX10_valueOf_14 (by decide) ?_
    obtain ⟨qc, gs, hqc⟩ := tt_recv (cx := []) hok_2 ka_16 (by decide) rfl
    refine tt_callV (rest := []) C (tc_X1_payAfterRate_15 hl D cA ak a_16 a_19 p1 ka_16 ka_19 hok_2) [] [] rfl rfl (by decide) (by decide) (by decide) qc hqc rfl rfl jw_40c49444b1 jw_86c6c6dedf jw_610440679d jw_944cf9c3ab jw_8658218399 jn_X1_payAfterRate rfl (jj_le rfl) (jj_le rfl) (jj_le rfl) (jj_le rfl) (jj_le rfl) dX10_valueOf_15 rfl (fun _ _ _ hX => hX.elim) (fun rx pl_20 r O_23 => ?_)
    obtain ⟨rfl, hok_21, hr_22, hfa9, hR_25⟩ := O_23
    replace hf_15 := hr_22.at hk0 (by decide) (by decide) hf_15
    replace hf_18 := hr_22.at hk0 (by decide) (by decide) hf_18
    replace hfr := hfr.trans (hr_22.sub (by decide))
    replace hfa := hfa.trans (hfa9.sub (by decide))
    obtain ⟨y_28, rfl⟩ := hR_25
    exact jj_lret C ⟨[], pl_20, rfl, rfl, hok_21, hfr, hfa, ⟨y_28, (by first | omega | exact tt_lo _ | exact tt_hi _), (by first | omega | exact tt_lo _ | exact tt_hi _), rfl⟩⟩ dX10_valueOf_18 (jj_le rfl) (jj_le rfl)

set_option maxHeartbeats 4000000 in
set_option maxRecDepth 100000 in
theorem tc_X0_removeRequest_1 {l : Launch} (hl : l.stackTraces = false) (D : va_G) (cA : Nat → ClassId) (ak : (Nat → Nat) × (Nat → Nat)) {Kd : Nat → Nat} (h0 : Nat) (p1 : Int32) (hk0 : Kd h0 = 1) (lp1 : (0 : Int) ≤ p1.toInt) (up1 : p1.toInt ≤ 11) {pl0 : va_W} (hok : tt_ok tt_tk cA Kd pl0) : jj_M l D cA ak yX0_removeRequest (.code yX0_removeRequest cX0_removeRequest 2 none) 1 23 0 0 ([] ++ pl0) [.ref h0, .int p1] (tt_O (fun rx pl1 r => rx = [] ∧ tt_ok tt_tk cA Kd pl1 ∧ tt_fr Kd [(1, 9), (4, 3)] pl0 pl1 ∧ tt_fa Kd [] pl0 pl1 ∧ ((r = none)))) (tt_OX (fun _ _ _ => False)) := by
  refine jj_start hl (by decide) jw_c84efe0986 (jj_le rfl) ?_
  intro p e s m args below meth c A hargs hA C hex hmn
  have hfr := tt_fr.refl (K := Kd) (WS := [(1, 9), (4, 3)]) pl0
  have hfa := tt_fa.refl (K := Kd) (WA := []) pl0
  refine jj_iload_n C dX0_removeRequest_0 rfl ?_
  refine jj_if_lt (tgt := 27) C dX0_removeRequest_1 (by decide) (fun c_1 => ?_) (fun c_1 => ?_)
  · have z_c_1 := jc_lt (a := (p1).toInt) (b := (0)) c_1 rfl (by decide)
    exfalso; omega
  · have z_c_1 := jc_nlt (a := (p1).toInt) (b := (0)) c_1 rfl (by decide)
    refine jj_iload_n C dX0_removeRequest_4 rfl ?_
    refine jj_aload_n C dX0_removeRequest_5 rfl ?_
    refine tt_get C hok jk_2 9 (by decide) jw_a6a6052378 (t := (0, 0, 12)) hk0 (by decide) rfl rfl dX0_removeRequest_6 (fun v_2 hv_2 hf_3 => ?_)
    obtain ⟨x_4, rfl, lx_4, ux_4⟩ := tt_vi hv_2
    refine jj_icmp_ge (tgt := 27) C dX0_removeRequest_9 (by decide) (fun c_5 => ?_) (fun c_5 => ?_)
    · have z_c_5 := jc_le (a := (x_4).toInt) (b := (p1).toInt) c_5 rfl rfl
      exact jj_vret C ⟨[], pl0, rfl, rfl, hok, hfr, hfa, rfl⟩ dX0_removeRequest_27 (jj_le rfl) (jj_le rfl)
    · have z_c_5 := jc_nle (a := (x_4).toInt) (b := (p1).toInt) c_5 rfl rfl
      refine jj_aload_n C dX0_removeRequest_12 rfl ?_
      refine tt_get C hok jk_2 13 (by decide) jw_241b9bc751 (t := (2, 8, 0)) hk0 (by decide) rfl rfl dX0_removeRequest_13 (fun v_6 hv_6 hf_7 => ?_)
      obtain ⟨a_8, rfl, ka_8⟩ := tt_vr hv_6
      refine jj_iload_n C dX0_removeRequest_16 rfl ?_
      refine tt_aald C hok (t := (2, 4, 0)) ka_8 (by decide) rfl rfl rfl (vp_in_iff.mpr ⟨by omega, by omega⟩) dX0_removeRequest_17 (fun v_9 hv_9 => ?_)
      obtain ⟨a_10, rfl, ka_10⟩ := tt_vr hv_9
      refine jj_lconst (v := 0) C dX0_removeRequest_18 (by decide) ?_
      refine rl_put C hok jk_7 3 (by decide) jw_bfa82f796d (t := (1, (-9223372036854775808), 9223372036854775807)) ka_10 (by decide) rfl rfl rfl (tt_ja (0 : Int64)) rfl rfl dX0_removeRequest_19 (fun pl_11 hok_12 tr hn tl => ?_)
      replace hf_3 := tr _ _ _ (Or.inl (tt_ne hk0 ka_10 (by decide))) hf_3
      replace hf_7 := tr _ _ _ (Or.inl (tt_ne hk0 ka_10 (by decide))) hf_7
      have hf_13 := hn
      replace hfr := hfr.put ka_10 tr (by decide)
      replace hfa := hfa.all tl
      refine jj_aload_n C dX0_removeRequest_22 rfl ?_
      obtain ⟨qc, gs, hqc⟩ := tt_recv (cx := []) hok_12 hk0 (by decide) rfl
      refine tt_callV (rest := []) C (tc_X0_dropDoneRequests_1 hl D cA ak h0 hk0 hok_12) [] [] rfl rfl (by decide) (by decide) (by decide) qc hqc rfl rfl jw_0b1f3c3696 jw_8c2aa441ca jw_a9b330a1c3 jw_7d25d4fd32 jw_77bdbcf71c jn_X0_dropDoneRequests rfl (jj_le rfl) (jj_le rfl) (jj_le rfl) (jj_le rfl) (jj_le rfl) dX0_removeRequest_23 rfl (fun _ _ _ hX => hX.elim) (fun rx pl_14 r O_17 => ?_)
      obtain ⟨rfl, hok_15, hr_16, hfa9, hR_19⟩ := O_17
      replace hf_7 := hr_16.at hk0 (by decide) (by decide) hf_7
      replace hf_13 := hr_16.at ka_10 (by decide) (by decide) hf_13
      replace hfr := hfr.trans (hr_16.sub (by decide))
      replace hfa := hfa.trans (hfa9.sub (by decide))
      obtain ⟨x_22, lx_22, ux_22, rfl⟩ := hR_19
      refine jj_pop C dX0_removeRequest_26 rfl ?_
      exact jj_vret C ⟨[], pl_14, rfl, rfl, hok_15, hfr, hfa, rfl⟩ dX0_removeRequest_27 (jj_le rfl) (jj_le rfl)

set_option maxHeartbeats 4000000 in
set_option maxRecDepth 100000 in
theorem tc_X10_wouldRedeem_1 {l : Launch} (hl : l.stackTraces = false) (D : va_G) (cA : Nat → ClassId) (ak : (Nat → Nat) × (Nat → Nat)) {Kd : Nat → Nat} (h0 : Nat) (p1 : Int32) (hk0 : Kd h0 = 15) {pl0 : va_W} (hok : tt_ok tt_tk cA Kd pl0) : jj_M l D cA ak yX10_wouldRedeem (.code yX10_wouldRedeem cX10_wouldRedeem 2 (some .long)) 8 123 1 6 ([] ++ pl0) [.ref h0, .int p1] (tt_O (fun rx pl1 r => rx = [] ∧ tt_ok tt_tk cA Kd pl1 ∧ tt_fr Kd [(1, 0), (1, 1), (1, 2), (1, 3), (1, 4), (1, 5), (1, 6), (1, 7), (1, 8), (1, 9), (2, 0), (2, 1), (2, 2), (2, 3), (2, 4), (3, 0), (3, 1), (3, 2), (3, 3), (3, 4), (3, 5), (4, 0), (4, 1), (4, 2), (4, 3), (4, 4), (9, 1), (9, 2), (9, 3), (9, 4), (9, 5)] pl0 pl1 ∧ tt_fa Kd [5] pl0 pl1 ∧ ((∃ v : Int64, (0 : Int) ≤ p1.toInt ∧ p1.toInt ≤ 11 ∧ r = some (.long v)) ∨ ((0 : Int) ≤ p1.toInt ∧ p1.toInt ≤ 11 ∧ r = some (.long 0))))) (tt_OX (fun E rx pl1 => rx = [] ∧ tt_ok tt_tk cA Kd pl1 ∧ tt_fr Kd [(1, 0), (1, 1), (1, 2), (1, 3), (1, 4), (1, 5), (1, 6), (1, 7), (1, 8), (1, 9), (2, 0), (2, 1), (2, 2), (2, 3), (2, 4), (3, 0), (3, 1), (3, 2), (3, 3), (3, 4), (3, 5), (4, 0), (4, 1), (4, 2), (4, 3), (4, 4), (9, 1), (9, 2), (9, 3), (9, 4), (9, 5)] pl0 pl1 ∧ tt_fa Kd [5] pl0 pl1 ∧ (E = "java/lang/IndexOutOfBoundsException"))) := by
  refine jj_start hl (by decide) jw_4fd80d1b98 (jj_le rfl) ?_
  intro p e s m args below meth c A hargs hA C hex hmn
  have hfr := tt_fr.refl (K := Kd) (WS := [(1, 0), (1, 1), (1, 2), (1, 3), (1, 4), (1, 5), (1, 6), (1, 7), (1, 8), (1, 9), (2, 0), (2, 1), (2, 2), (2, 3), (2, 4), (3, 0), (3, 1), (3, 2), (3, 3), (3, 4), (3, 5), (4, 0), (4, 1), (4, 2), (4, 3), (4, 4), (9, 1), (9, 2), (9, 3), (9, 4), (9, 5)]) pl0
  have hfa := tt_fa.refl (K := Kd) (WA := [5]) pl0
  have lp1 := tt_lo p1
  have up1 := tt_hi p1
  refine jj_aload_n C dX10_wouldRedeem_0 rfl ?_
  refine jj_iload_n C dX10_wouldRedeem_1 rfl ?_
  obtain ⟨qc, gs, hqc⟩ := tt_recv (cx := []) hok hk0 (by decide) rfl
  refine tt_callV (rest := []) C (tc_X10_checkRequest_1 hl D cA ak h0 p1 hk0 hok) [] [] rfl rfl (by decide) (by decide) (by decide) qc hqc rfl rfl jw_8393dc7999 jw_19ebf3d629 jw_0700398a86 jw_6f6d707074 jw_31f2a3897e jn_X10_checkRequest rfl (jj_le rfl) (jj_le rfl) (jj_le rfl) (jj_le rfl) (jj_le rfl) dX10_wouldRedeem_2 rfl (fun E rx pl_1 X_5 => ?_) (fun rx pl_1 r O_4 => ?_)
  · obtain ⟨rfl, hok_2, hr_3, hfa9, hE_6⟩ := X_5
    replace hfr := hfr.trans (hr_3.sub (by decide))
    replace hfa := hfa.trans (hfa9.sub (by decide))
    obtain rfl := hE_6
    exact jj_out C hex ⟨[], pl_1, rfl, rfl, hok_2, hfr, hfa, rfl⟩ (jj_le rfl) (jj_le rfl)
  · obtain ⟨rfl, hok_2, hr_3, hfa9, hR_9⟩ := O_4
    replace hfr := hfr.trans (hr_3.sub (by decide))
    replace hfa := hfa.trans (hfa9.sub (by decide))
    obtain ⟨l_12, u_13, rfl⟩ := hR_9
    refine jj_aload_n C dX10_wouldRedeem_5 rfl ?_
    refine tt_get C hok_2 jk_11 3 (by decide) jw_f82a97e333 (t := (2, 1, 0)) hk0 (by decide) rfl rfl dX10_wouldRedeem_6 (fun v_14 hv_14 hf_15 => ?_)
    obtain ⟨a_16, rfl, ka_16⟩ := tt_vr hv_14
    refine tt_get C hok_2 jk_2 13 (by decide) jw_68e650e198 (t := (2, 8, 0)) ka_16 (by decide) rfl rfl dX10_wouldRedeem_9 (fun v_17 hv_17 hf_18 => ?_)
    obtain ⟨a_19, rfl, ka_19⟩ := tt_vr hv_17
    refine jj_iload_n C dX10_wouldRedeem_12 rfl ?_
    refine tt_aald C hok_2 (t := (2, 4, 0)) ka_19 (by decide) rfl rfl rfl (vp_in_iff.mpr ⟨by omega, by omega⟩) dX10_wouldRedeem_13 (fun v_20 hv_20 => ?_)
    obtain ⟨a_21, rfl, ka_21⟩ := tt_vr hv_20
    refine tt_get C hok_2 jk_7 2 (by decide) jw_1fa8e983d6 (t := (0, 0, 1)) ka_21 (by decide) rfl rfl dX10_wouldRedeem_14 (fun v_22 hv_22 hf_23 => ?_)
    obtain ⟨x_24, rfl, lx_24, ux_24⟩ := tt_vi hv_22
    refine jj_if_ne (tgt := 22) C dX10_wouldRedeem_17 (by decide) (fun c_25 => ?_) (fun c_25 => ?_)
    · have z_c_25 := jc_neq (a := (x_24).toInt) (b := (0)) c_25 rfl (by decide)
      refine jj_aload_n C dX10_wouldRedeem_22 rfl ?_
      refine tt_get C hok_2 jk_11 4 (by decide) jw_a0e4d790fa (t := (2, 1, 0)) hk0 (by decide) rfl rfl dX10_wouldRedeem_23 (fun v_26 hv_26 hf_27 => ?_)
      obtain ⟨a_28, rfl, ka_28⟩ := tt_vr hv_26
      refine jj_aload_n C dX10_wouldRedeem_26 rfl ?_
      refine tt_getF C hok_2 jk_11 3 (by decide) jw_f82a97e333 (t := (2, 1, 0)) hk0 (by decide) rfl rfl hf_15 dX10_wouldRedeem_27 ?_
      obtain ⟨qc, gs, hqc⟩ := tt_recv (cx := []) hok_2 ka_28 (by decide) rfl
      refine tt_callV (rest := []) C (tc_X0_copyFrom_1 hl D cA ak a_28 a_16 ka_28 ka_16 hok_2) [] [] rfl rfl (by decide) (by decide) (by decide) qc hqc rfl rfl jw_4d0cb05860 jw_8aa1bdb2cc jw_ac98d74d03 jw_7d25d4fd32 jw_58241735d3 jn_X0_copyFrom rfl (jj_le rfl) (jj_le rfl) (jj_le rfl) (jj_le rfl) (jj_le rfl) dX10_wouldRedeem_30 rfl (fun _ _ _ hX => hX.elim) (fun rx pl_29 r O_32 => ?_)
      obtain ⟨rfl, hok_30, hr_31, hfa9, hR_34⟩ := O_32
      replace hf_15 := hr_31.at hk0 (by decide) (by decide) hf_15
      replace hf_18 := hr_31.at ka_16 (by decide) (by decide) hf_18
      replace hf_27 := hr_31.at hk0 (by decide) (by decide) hf_27
      replace hfr := hfr.trans (hr_31.sub (by decide))
      replace hfa := hfa.trans (hfa9.sub (by decide))
      obtain rfl := hR_34
      refine jj_aload_n C dX10_wouldRedeem_33 rfl ?_
      refine tt_get C hok_30 jk_11 5 (by decide) jw_34b8702fe2 (t := (2, 9, 0)) hk0 (by decide) rfl rfl dX10_wouldRedeem_34 (fun v_37 hv_37 hf_38 => ?_)
      obtain ⟨a_39, rfl, ka_39⟩ := tt_vr hv_37
      refine jj_aload_n C dX10_wouldRedeem_37 rfl ?_
      refine tt_getF C hok_30 jk_11 4 (by decide) jw_a0e4d790fa (t := (2, 1, 0)) hk0 (by decide) rfl rfl hf_27 dX10_wouldRedeem_38 ?_
      refine jj_aload_n C dX10_wouldRedeem_41 rfl ?_
      refine tt_getF C hok_30 jk_11 5 (by decide) jw_34b8702fe2 (t := (2, 9, 0)) hk0 (by decide) rfl rfl hf_38 dX10_wouldRedeem_42 ?_
      refine jj_aload_n C dX10_wouldRedeem_45 rfl ?_
      refine tt_getF C hok_30 jk_11 4 (by decide) jw_a0e4d790fa (t := (2, 1, 0)) hk0 (by decide) rfl rfl hf_27 dX10_wouldRedeem_46 ?_
      obtain ⟨qc, gs, hqc⟩ := tt_recv (cx := []) hok_30 ka_39 (by decide) rfl
      refine tt_callV (rest := [.ref a_28, .ref a_39]) C (tc_X1_baseOfRedemptions_1 hl D cA ak a_39 a_28 ka_39 ka_28 hok_30) [] [] rfl rfl (by decide) (by decide) (by decide) qc hqc rfl rfl jw_0c87748527 jw_36bb45001b jw_b21f9198d3 jw_944cf9c3ab jw_77ee4174d9 jn_X1_baseOfRedemptions rfl (jj_le rfl) (jj_le rfl) (jj_le rfl) (jj_le rfl) (jj_le rfl) dX10_wouldRedeem_49 rfl (fun _ _ _ hX => hX.elim) (fun rx pl_40 r O_43 => ?_)
      obtain ⟨rfl, hok_41, hr_42, hfa9, hR_45⟩ := O_43
      replace hf_15 := hr_42.at hk0 (by decide) (by decide) hf_15
      replace hf_18 := hr_42.at ka_16 (by decide) (by decide) hf_18
      replace hf_27 := hr_42.at hk0 (by decide) (by decide) hf_27
      replace hf_38 := hr_42.at hk0 (by decide) (by decide) hf_38
      replace hfr := hfr.trans (hr_42.sub (by decide))
      replace hfa := hfa.trans (hfa9.sub (by decide))
      obtain ⟨y_48, rfl⟩ := hR_45
      obtain ⟨qc, gs, hqc⟩ := tt_recv (cx := []) hok_41 ka_39 (by decide) rfl
      refine tt_callV (rest := []) C (tc_X1_redeemWaiting_1 hl D cA ak a_39 a_28 y_48 ka_39 ka_28 hok_41) [] [] rfl rfl (by decide) (by decide) (by decide) qc hqc rfl rfl jw_4ebc084d1c jw_1a80919bc4 jw_88c712b448 jw_944cf9c3ab jw_4b6b3c5714 jn_X1_redeemWaiting rfl (jj_le rfl) (jj_le rfl) (jj_le rfl) (jj_le rfl) (jj_le rfl) dX10_wouldRedeem_52 rfl (fun _ _ _ hX => hX.elim) (fun rx pl_49 r O_52 => ?_)
      obtain ⟨rfl, hok_50, hr_51, hfa9, hR_54⟩ := O_52
      replace hf_15 := hr_51.at hk0 (by decide) (by decide) hf_15
      replace hf_18 := hr_51.at ka_16 (by decide) (by decide) hf_18
      replace hf_27 := hr_51.at hk0 (by decide) (by decide) hf_27
      replace hf_38 := hr_51.at hk0 (by decide) (by decide) hf_38
      replace hfr := hfr.trans (hr_51.sub (by decide))
      replace hfa := hfa.trans (hfa9.sub (by decide))
      obtain rfl := hR_54
      refine jj_aload_n C dX10_wouldRedeem_55 rfl ?_
      refine tt_getF C hok_50 jk_11 4 (by decide) jw_a0e4d790fa (t := (2, 1, 0)) hk0 (by decide) rfl rfl hf_27 dX10_wouldRedeem_56 ?_
      refine tt_get C hok_50 jk_2 13 (by decide) jw_68e650e198 (t := (2, 8, 0)) ka_28 (by decide) rfl rfl dX10_wouldRedeem_59 (fun v_57 hv_57 hf_58 => ?_)
      obtain ⟨a_59, rfl, ka_59⟩ := tt_vr hv_57
      refine jj_iload_n C dX10_wouldRedeem_62 rfl ?_
      refine tt_aald C hok_50 (t := (2, 4, 0)) ka_59 (by decide) rfl rfl rfl (vp_in_iff.mpr ⟨by omega, by omega⟩) dX10_wouldRedeem_63 (fun v_60 hv_60 => ?_)
      obtain ⟨a_61, rfl, ka_61⟩ := tt_vr hv_60
      refine tt_get C hok_50 jk_7 4 (by decide) jw_63419c06a6 (t := (1, (-9223372036854775808), 9223372036854775807)) ka_61 (by decide) rfl rfl dX10_wouldRedeem_64 (fun v_62 hv_62 hf_63 => ?_)
      obtain ⟨y_64, rfl, -, -⟩ := tt_vj hv_62
      exact jj_lret C ⟨[], pl_49, rfl, rfl, hok_50, hfr, hfa, (Or.inl ⟨y_64, (by first | omega | exact tt_lo _ | exact tt_hi _), (by first | omega | exact tt_lo _ | exact tt_hi _), rfl⟩)⟩ dX10_wouldRedeem_67 (jj_le rfl) (jj_le rfl)
    · have z_c_25 := jc_eq (a := (x_24).toInt) (b := (0)) c_25 rfl (by decide)
      refine jj_lconst (v := 0) C dX10_wouldRedeem_20 (by decide) ?_
      exact jj_lret C ⟨[], pl_1, rfl, rfl, hok_2, hfr, hfa, (Or.inl ⟨(0 : Int64), (by first | omega | exact tt_lo _ | exact tt_hi _), (by first | omega | exact tt_lo _ | exact tt_hi _), rfl⟩)⟩ dX10_wouldRedeem_21 (jj_le rfl) (jj_le rfl)

set_option maxHeartbeats 4000000 in
set_option maxRecDepth 100000 in
theorem tc_X9_takeBuffer_1 {l : Launch} (hl : l.stackTraces = false) (D : va_G) (cA : Nat → ClassId) (ak : (Nat → Nat) × (Nat → Nat)) {Kd : Nat → Nat} (h0 : Nat) (hk0 : Kd h0 = 10) {pl0 : va_W} (hok : tt_ok tt_tk cA Kd pl0) : jj_M l D cA ak yX9_takeBuffer (.code yX9_takeBuffer cX9_takeBuffer 1 none) 0 0 0 0 ([] ++ pl0) [.ref h0] (tt_O (fun rx pl1 r => rx = [] ∧ tt_ok tt_tk cA Kd pl1 ∧ tt_fr Kd [(10, 1), (10, 2), (10, 3), (10, 4), (10, 5)] pl0 pl1 ∧ tt_fa Kd [] pl0 pl1 ∧ ((r = none)))) (tt_OX (fun _ _ _ => False)) := by
  refine jj_start hl (by decide) jw_e4fa8c07c9 (jj_le rfl) ?_
  intro p e s m args below meth c A hargs hA C hex hmn
  have hfr := tt_fr.refl (K := Kd) (WS := [(10, 1), (10, 2), (10, 3), (10, 4), (10, 5)]) pl0
  have hfa := tt_fa.refl (K := Kd) (WA := []) pl0
  refine jj_aload_n C dX9_takeBuffer_0 rfl ?_
  refine jj_aload_n C dX9_takeBuffer_1 rfl ?_
  refine tt_get C hok jk_10 1 (by decide) jw_133bcadae3 (t := (0, 0, 400)) hk0 (by decide) rfl rfl dX9_takeBuffer_2 (fun v_1 hv_1 hf_2 => ?_)
  obtain ⟨x_3, rfl, lx_3, ux_3⟩ := tt_vi hv_1
  refine rl_put C hok jk_10 2 (by decide) jw_bc3c1a7c51 (t := (0, 0, 400)) hk0 (by decide) rfl rfl rfl (tt_iv (by omega) (by omega)) rfl rfl dX9_takeBuffer_5 (fun pl_4 hok_5 tr hn tl => ?_)
  replace hf_2 := tr _ _ _ (Or.inr (by decide)) hf_2
  have hf_6 := hn
  replace hfr := hfr.put hk0 tr (by decide)
  replace hfa := hfa.all tl
  refine jj_aload_n C dX9_takeBuffer_8 rfl ?_
  refine jj_iconst (v := 0) C dX9_takeBuffer_9 (by decide) ?_
  refine rl_put C hok_5 jk_10 1 (by decide) jw_133bcadae3 (t := (0, 0, 400)) hk0 (by decide) rfl rfl rfl (tt_iv (by decide) (by decide)) rfl rfl dX9_takeBuffer_10 (fun pl_7 hok_8 tr hn tl => ?_)
  replace hf_6 := tr _ _ _ (Or.inr (by decide)) hf_6
  have hf_9 := hn
  replace hfr := hfr.put hk0 tr (by decide)
  replace hfa := hfa.all tl
  refine jj_aload_n C dX9_takeBuffer_13 rfl ?_
  refine jj_iconst (v := 0) C dX9_takeBuffer_14 (by decide) ?_
  refine rl_put C hok_8 jk_10 4 (by decide) jw_66bda6962a (t := (0, 0, 400)) hk0 (by decide) rfl rfl rfl (tt_iv (by decide) (by decide)) rfl rfl dX9_takeBuffer_15 (fun pl_10 hok_11 tr hn tl => ?_)
  replace hf_6 := tr _ _ _ (Or.inr (by decide)) hf_6
  replace hf_9 := tr _ _ _ (Or.inr (by decide)) hf_9
  have hf_12 := hn
  replace hfr := hfr.put hk0 tr (by decide)
  replace hfa := hfa.all tl
  refine jj_aload_n C dX9_takeBuffer_18 rfl ?_
  refine jj_iconst (v := 0) C dX9_takeBuffer_19 (by decide) ?_
  refine rl_put C hok_11 jk_10 3 (by decide) jw_f99bd0ca2b (t := (0, 0, 400)) hk0 (by decide) rfl rfl rfl (tt_iv (by decide) (by decide)) rfl rfl dX9_takeBuffer_20 (fun pl_13 hok_14 tr hn tl => ?_)
  replace hf_6 := tr _ _ _ (Or.inr (by decide)) hf_6
  replace hf_9 := tr _ _ _ (Or.inr (by decide)) hf_9
  replace hf_12 := tr _ _ _ (Or.inr (by decide)) hf_12
  have hf_15 := hn
  replace hfr := hfr.put hk0 tr (by decide)
  replace hfa := hfa.all tl
  refine jj_aload_n C dX9_takeBuffer_23 rfl ?_
  refine jj_iconst (v := 0) C dX9_takeBuffer_24 (by decide) ?_
  refine rl_put C hok_14 jk_10 5 (by decide) jw_bde5c0d1a5 (t := (0, (-2147483648), 2147483647)) hk0 (by decide) rfl rfl rfl (tt_ia (0 : Int32)) rfl rfl dX9_takeBuffer_25 (fun pl_16 hok_17 tr hn tl => ?_)
  replace hf_6 := tr _ _ _ (Or.inr (by decide)) hf_6
  replace hf_9 := tr _ _ _ (Or.inr (by decide)) hf_9
  replace hf_12 := tr _ _ _ (Or.inr (by decide)) hf_12
  replace hf_15 := tr _ _ _ (Or.inr (by decide)) hf_15
  have hf_18 := hn
  replace hfr := hfr.put hk0 tr (by decide)
  replace hfa := hfa.all tl
  exact jj_vret C ⟨[], pl_16, rfl, rfl, hok_17, hfr, hfa, rfl⟩ dX9_takeBuffer_28 (jj_le rfl) (jj_le rfl)

set_option maxHeartbeats 4000000 in
set_option maxRecDepth 100000 in
theorem tc_X0_empty_1 {l : Launch} (hl : l.stackTraces = false) (D : va_G) (cA : Nat → ClassId) (ak : (Nat → Nat) × (Nat → Nat)) {Kd : Nat → Nat} (h0 : Nat) (hk0 : Kd h0 = 1) {pl0 : va_W} (hok : tt_ok tt_tk cA Kd pl0) : jj_M l D cA ak yX0_empty (.code yX0_empty cX0_empty 2 none) 0 0 0 0 ([] ++ pl0) [.ref h0] (tt_O (fun rx pl1 r => rx = [] ∧ tt_ok tt_tk cA Kd pl1 ∧ tt_fr Kd [(1, 5), (1, 6), (1, 7), (1, 8), (1, 9)] pl0 pl1 ∧ tt_fa Kd [5] pl0 pl1 ∧ ((r = none)))) (tt_OX (fun _ _ _ => False)) := by
  refine jj_start hl (by decide) jw_3b60f34034 (jj_le rfl) ?_
  intro p e s m args below meth c A hargs hA C hex hmn
  have hfr := tt_fr.refl (K := Kd) (WS := [(1, 5), (1, 6), (1, 7), (1, 8), (1, 9)]) pl0
  have hfa := tt_fa.refl (K := Kd) (WA := [5]) pl0
  refine jj_aload_n C dX0_empty_0 rfl ?_
  refine jj_iconst (v := 0) C dX0_empty_1 (by decide) ?_
  refine rl_put C hok jk_2 5 (by decide) jw_cd8f4320e7 (t := (0, (-2147483648), 2147483647)) hk0 (by decide) rfl rfl rfl (tt_ia (0 : Int32)) rfl rfl dX0_empty_2 (fun pl_1 hok_2 tr hn tl => ?_)
  have hf_3 := hn
  replace hfr := hfr.put hk0 tr (by decide)
  replace hfa := hfa.all tl
  refine jj_aload_n C dX0_empty_5 rfl ?_
  refine jj_iconst (v := 0) C dX0_empty_6 (by decide) ?_
  refine rl_put C hok_2 jk_2 6 (by decide) jw_cb51088522 (t := (0, (-2147483648), 2147483647)) hk0 (by decide) rfl rfl rfl (tt_ia (0 : Int32)) rfl rfl dX0_empty_7 (fun pl_4 hok_5 tr hn tl => ?_)
  replace hf_3 := tr _ _ _ (Or.inr (by decide)) hf_3
  have hf_6 := hn
  replace hfr := hfr.put hk0 tr (by decide)
  replace hfa := hfa.all tl
  refine jj_aload_n C dX0_empty_10 rfl ?_
  refine jj_iconst (v := 0) C dX0_empty_11 (by decide) ?_
  refine rl_put C hok_5 jk_2 7 (by decide) jw_4839b30b4b (t := (0, 0, 6)) hk0 (by decide) rfl rfl rfl (tt_iv (by decide) (by decide)) rfl rfl dX0_empty_12 (fun pl_7 hok_8 tr hn tl => ?_)
  replace hf_3 := tr _ _ _ (Or.inr (by decide)) hf_3
  replace hf_6 := tr _ _ _ (Or.inr (by decide)) hf_6
  have hf_9 := hn
  replace hfr := hfr.put hk0 tr (by decide)
  replace hfa := hfa.all tl
  refine jj_aload_n C dX0_empty_15 rfl ?_
  refine jj_iconst (v := 0) C dX0_empty_16 (by decide) ?_
  refine rl_put C hok_8 jk_2 8 (by decide) jw_9d0ccd4490 (t := (0, 0, 40)) hk0 (by decide) rfl rfl rfl (tt_iv (by decide) (by decide)) rfl rfl dX0_empty_17 (fun pl_10 hok_11 tr hn tl => ?_)
  replace hf_3 := tr _ _ _ (Or.inr (by decide)) hf_3
  replace hf_6 := tr _ _ _ (Or.inr (by decide)) hf_6
  replace hf_9 := tr _ _ _ (Or.inr (by decide)) hf_9
  have hf_12 := hn
  replace hfr := hfr.put hk0 tr (by decide)
  replace hfa := hfa.all tl
  refine jj_aload_n C dX0_empty_20 rfl ?_
  refine jj_iconst (v := 0) C dX0_empty_21 (by decide) ?_
  refine rl_put C hok_11 jk_2 9 (by decide) jw_a6a6052378 (t := (0, 0, 12)) hk0 (by decide) rfl rfl rfl (tt_iv (by decide) (by decide)) rfl rfl dX0_empty_22 (fun pl_13 hok_14 tr hn tl => ?_)
  replace hf_3 := tr _ _ _ (Or.inr (by decide)) hf_3
  replace hf_6 := tr _ _ _ (Or.inr (by decide)) hf_6
  replace hf_9 := tr _ _ _ (Or.inr (by decide)) hf_9
  replace hf_12 := tr _ _ _ (Or.inr (by decide)) hf_12
  have hf_15 := hn
  replace hfr := hfr.put hk0 tr (by decide)
  replace hfa := hfa.all tl
  refine jj_iconst (v := 0) C dX0_empty_25 (by decide) ?_
  refine jj_istore_n C dX0_empty_26 (by decide) rfl ?_
  have hL_16 : ∀ (N : Nat) (pl : va_W) (x_17 : Int32), True → tt_ok tt_tk cA Kd pl → tt_fr Kd [(1, 5), (1, 6), (1, 7), (1, 8), (1, 9)] pl0 pl → tt_fa Kd [5] pl0 pl → (0 : Int) ≤ x_17.toInt → x_17.toInt ≤ 6 → (2147483648 - x_17.toInt ≤ (N : Int)) → jj_J p l e (jj_rm 0 0 0 0) s m args below meth c 2 A (vx_MQ below (jj_q D A (tt_O (fun rx pl1 r => rx = [] ∧ tt_ok tt_tk cA Kd pl1 ∧ tt_fr Kd [(1, 5), (1, 6), (1, 7), (1, 8), (1, 9)] pl0 pl1 ∧ tt_fa Kd [5] pl0 pl1 ∧ ((r = none))))) (jj_x D A (tt_OX (fun _ _ _ => False))) args s 0 0 A) (jj_X D A ([] ++ pl)) 0 0 27 [(1, .int x_17), (0, .ref h0)] [] := by
    intro NL_16
    induction NL_16 with
    | zero => intro pl x_17 _ hok hfr hfa lx_17 ux_17 hNL_16; exfalso; omega
    | succ NL_16 ihL_16 =>
      intro pl x_17 _ hok hfr hfa lx_17 ux_17 hNL_16
      replace ihL_16 := fun pl x_17 h1 => ihL_16 pl x_17 trivial h1
      refine jj_iload_n C dX0_empty_27 rfl ?_
      refine jj_bipush (v := 6) C dX0_empty_28 (by decide) ?_
      refine jj_icmp_ge (tgt := 46) C dX0_empty_30 (by decide) (fun c_18 => ?_) (fun c_18 => ?_)
      · have z_c_18 := jc_le (a := (6)) (b := (x_17).toInt) c_18 (by decide) rfl
        exact jj_vret C ⟨[], pl, rfl, rfl, hok, hfr, hfa, rfl⟩ dX0_empty_46 (jj_le rfl) (jj_le rfl)
      · have z_c_18 := jc_nle (a := (6)) (b := (x_17).toInt) c_18 (by decide) rfl
        refine jj_aload_n C dX0_empty_33 rfl ?_
        refine tt_get C hok jk_2 10 (by decide) jw_10b3e82d95 (t := (2, 5, 0)) hk0 (by decide) rfl rfl dX0_empty_34 (fun v_19 hv_19 hf_20 => ?_)
        obtain ⟨a_21, rfl, ka_21⟩ := tt_vr hv_19
        refine jj_iload_n C dX0_empty_37 rfl ?_
        refine jj_lconst (v := 0) C dX0_empty_38 (by decide) ?_
        refine tl_last C hok (t := (1, (-9223372036854775808), 9223372036854775807)) ka_21 (by decide) rfl (vp_in_iff.mpr ⟨by omega, by omega⟩) (tt_ja _) dX0_empty_39 (fun pl_22 hok_23 tr tl => ?_)
        replace hf_20 := tr _ _ _ hf_20
        replace hfr := hfr.arr tr
        replace hfa := hfa.wr ka_21 tl (by decide)
        obtain ⟨x_24, ex_24, vx_24⟩ := tt_inc (x := x_17) (n := 1) (by omega) (by omega)
        refine jj_iinc (v := x_24) C dX0_empty_40 rfl ex_24 (by decide) rfl ?_
        refine jj_goto (tgt := 27) C dX0_empty_43 (by decide) ?_
        exact ihL_16 pl_22 x_24 hok_23 hfr hfa (by first | omega | decide | exact tt_lo _ | exact tt_hi _) (by first | omega | decide | exact tt_lo _ | exact tt_hi _) (by first | omega | decide | exact tt_lo _ | exact tt_hi _)
  exact hL_16 _ pl_13 (0 : Int32) trivial hok_14 hfr hfa (by first | omega | decide | exact tt_lo _ | exact tt_hi _) (by first | omega | decide | exact tt_lo _ | exact tt_hi _) (Int.self_le_toNat _)

set_option maxHeartbeats 4000000 in
set_option maxRecDepth 100000 in
theorem tc_X9_isLetter_1 {l : Launch} (hl : l.stackTraces = false) (D : va_G) (cA : Nat → ClassId) (ak : (Nat → Nat) × (Nat → Nat)) {Kd : Nat → Nat} (h0 : Nat) (p1 : Int32) (hk0 : Kd h0 = 10) (lp1 : (0 : Int) ≤ p1.toInt) (up1 : p1.toInt ≤ 399) {pl0 : va_W} (hok : tt_ok tt_tk cA Kd pl0) : jj_M l D cA ak yX9_isLetter (.code yX9_isLetter cX9_isLetter 2 (some .boolean)) 0 0 0 0 ([] ++ pl0) [.ref h0, .int p1] (tt_O (fun rx pl1 r => rx = [] ∧ tt_ok tt_tk cA Kd pl1 ∧ tt_fr Kd [] pl0 pl1 ∧ tt_fa Kd [] pl0 pl1 ∧ ((r = some (.int 0)) ∨ (r = some (.int 1))))) (tt_OX (fun _ _ _ => False)) := by
  refine jj_start hl (by decide) jw_9e97b9dadb (jj_le rfl) ?_
  intro p e s m args below meth c A hargs hA C hex hmn
  have hfr := tt_fr.refl (K := Kd) (WS := []) pl0
  have hfa := tt_fa.refl (K := Kd) (WA := []) pl0
  refine jj_aload_n C dX9_isLetter_0 rfl ?_
  refine tt_get C hok jk_10 0 (by decide) jw_0664e1e086 (t := (2, 11, 0)) hk0 (by decide) rfl rfl dX9_isLetter_1 (fun v_1 hv_1 hf_2 => ?_)
  obtain ⟨a_3, rfl, ka_3⟩ := tt_vr hv_1
  refine jj_iload_n C dX9_isLetter_4 rfl ?_
  refine tt_cald C hok (t := (0, (-2147483648), 2147483647)) ka_3 (by decide) rfl (vp_in_iff.mpr ⟨by omega, by omega⟩) dX9_isLetter_5 (fun v_4 hv_4 => ?_)
  refine jj_bipush (v := 97) C dX9_isLetter_6 (by decide) ?_
  refine jj_icmp_lt (tgt := 26) C dX9_isLetter_8 (by decide) (fun c_5 => ?_) (fun c_5 => ?_)
  · have z_c_5 := jc_lt (a := (v_4).toInt) (b := (97)) c_5 rfl (by decide)
    refine jj_iconst (v := 0) C dX9_isLetter_26 (by decide) ?_
    exact jj_zret C rfl ⟨[], pl0, rfl, rfl, hok, hfr, hfa, (Or.inl rfl)⟩ dX9_isLetter_27 (jj_le rfl) (jj_le rfl)
  · have z_c_5 := jc_nlt (a := (v_4).toInt) (b := (97)) c_5 rfl (by decide)
    refine jj_aload_n C dX9_isLetter_11 rfl ?_
    refine tt_getF C hok jk_10 0 (by decide) jw_0664e1e086 (t := (2, 11, 0)) hk0 (by decide) rfl rfl hf_2 dX9_isLetter_12 ?_
    refine jj_iload_n C dX9_isLetter_15 rfl ?_
    refine tt_cald C hok (t := (0, (-2147483648), 2147483647)) ka_3 (by decide) rfl (vp_in_iff.mpr ⟨by omega, by omega⟩) dX9_isLetter_16 (fun v_6 hv_6 => ?_)
    refine jj_bipush (v := 122) C dX9_isLetter_17 (by decide) ?_
    refine jj_icmp_gt (tgt := 26) C dX9_isLetter_19 (by decide) (fun c_7 => ?_) (fun c_7 => ?_)
    · have z_c_7 := jc_lt (a := (122)) (b := (v_6).toInt) c_7 (by decide) rfl
      refine jj_iconst (v := 0) C dX9_isLetter_26 (by decide) ?_
      exact jj_zret C rfl ⟨[], pl0, rfl, rfl, hok, hfr, hfa, (Or.inl rfl)⟩ dX9_isLetter_27 (jj_le rfl) (jj_le rfl)
    · have z_c_7 := jc_nlt (a := (122)) (b := (v_6).toInt) c_7 (by decide) rfl
      refine jj_iconst (v := 1) C dX9_isLetter_22 (by decide) ?_
      refine jj_goto (tgt := 27) C dX9_isLetter_23 (by decide) ?_
      exact jj_zret C rfl ⟨[], pl0, rfl, rfl, hok, hfr, hfa, (Or.inr rfl)⟩ dX9_isLetter_27 (jj_le rfl) (jj_le rfl)

set_option maxHeartbeats 4000000 in
set_option maxRecDepth 100000 in
theorem tc_X9_isDigit_1 {l : Launch} (hl : l.stackTraces = false) (D : va_G) (cA : Nat → ClassId) (ak : (Nat → Nat) × (Nat → Nat)) {Kd : Nat → Nat} (h0 : Nat) (p1 : Int32) (hk0 : Kd h0 = 10) (lp1 : (0 : Int) ≤ p1.toInt) (up1 : p1.toInt ≤ 399) {pl0 : va_W} (hok : tt_ok tt_tk cA Kd pl0) : jj_M l D cA ak yX9_isDigit (.code yX9_isDigit cX9_isDigit 2 (some .boolean)) 0 0 0 0 ([] ++ pl0) [.ref h0, .int p1] (tt_O (fun rx pl1 r => rx = [] ∧ tt_ok tt_tk cA Kd pl1 ∧ tt_fr Kd [] pl0 pl1 ∧ tt_fa Kd [] pl0 pl1 ∧ ((r = some (.int 0)) ∨ (r = some (.int 1))))) (tt_OX (fun _ _ _ => False)) := by
  refine jj_start hl (by decide) jw_c365050a25 (jj_le rfl) ?_
  intro p e s m args below meth c A hargs hA C hex hmn
  have hfr := tt_fr.refl (K := Kd) (WS := []) pl0
  have hfa := tt_fa.refl (K := Kd) (WA := []) pl0
  refine jj_aload_n C dX9_isDigit_0 rfl ?_
  refine tt_get C hok jk_10 0 (by decide) jw_0664e1e086 (t := (2, 11, 0)) hk0 (by decide) rfl rfl dX9_isDigit_1 (fun v_1 hv_1 hf_2 => ?_)
  obtain ⟨a_3, rfl, ka_3⟩ := tt_vr hv_1
  refine jj_iload_n C dX9_isDigit_4 rfl ?_
  refine tt_cald C hok (t := (0, (-2147483648), 2147483647)) ka_3 (by decide) rfl (vp_in_iff.mpr ⟨by omega, by omega⟩) dX9_isDigit_5 (fun v_4 hv_4 => ?_)
  refine jj_bipush (v := 48) C dX9_isDigit_6 (by decide) ?_
  refine jj_icmp_lt (tgt := 26) C dX9_isDigit_8 (by decide) (fun c_5 => ?_) (fun c_5 => ?_)
  · have z_c_5 := jc_lt (a := (v_4).toInt) (b := (48)) c_5 rfl (by decide)
    refine jj_iconst (v := 0) C dX9_isDigit_26 (by decide) ?_
    exact jj_zret C rfl ⟨[], pl0, rfl, rfl, hok, hfr, hfa, (Or.inl rfl)⟩ dX9_isDigit_27 (jj_le rfl) (jj_le rfl)
  · have z_c_5 := jc_nlt (a := (v_4).toInt) (b := (48)) c_5 rfl (by decide)
    refine jj_aload_n C dX9_isDigit_11 rfl ?_
    refine tt_getF C hok jk_10 0 (by decide) jw_0664e1e086 (t := (2, 11, 0)) hk0 (by decide) rfl rfl hf_2 dX9_isDigit_12 ?_
    refine jj_iload_n C dX9_isDigit_15 rfl ?_
    refine tt_cald C hok (t := (0, (-2147483648), 2147483647)) ka_3 (by decide) rfl (vp_in_iff.mpr ⟨by omega, by omega⟩) dX9_isDigit_16 (fun v_6 hv_6 => ?_)
    refine jj_bipush (v := 57) C dX9_isDigit_17 (by decide) ?_
    refine jj_icmp_gt (tgt := 26) C dX9_isDigit_19 (by decide) (fun c_7 => ?_) (fun c_7 => ?_)
    · have z_c_7 := jc_lt (a := (57)) (b := (v_6).toInt) c_7 (by decide) rfl
      refine jj_iconst (v := 0) C dX9_isDigit_26 (by decide) ?_
      exact jj_zret C rfl ⟨[], pl0, rfl, rfl, hok, hfr, hfa, (Or.inl rfl)⟩ dX9_isDigit_27 (jj_le rfl) (jj_le rfl)
    · have z_c_7 := jc_nlt (a := (57)) (b := (v_6).toInt) c_7 (by decide) rfl
      refine jj_iconst (v := 1) C dX9_isDigit_22 (by decide) ?_
      refine jj_goto (tgt := 27) C dX9_isDigit_23 (by decide) ?_
      exact jj_zret C rfl ⟨[], pl0, rfl, rfl, hok, hfr, hfa, (Or.inr rfl)⟩ dX9_isDigit_27 (jj_le rfl) (jj_le rfl)

set_option maxHeartbeats 4000000 in
set_option maxRecDepth 100000 in
theorem tc_X9_advance_1 {l : Launch} (hl : l.stackTraces = false) (D : va_G) (cA : Nat → ClassId) (ak : (Nat → Nat) × (Nat → Nat)) {Kd : Nat → Nat} (h0 : Nat) (hk0 : Kd h0 = 10) {pl0 : va_W} (hok : tt_ok tt_tk cA Kd pl0) : jj_M l D cA ak yX9_advance (.code yX9_advance cX9_advance 1 none) 1 21 0 0 ([] ++ pl0) [.ref h0] (tt_O (fun rx pl1 r => rx = [] ∧ tt_ok tt_tk cA Kd pl1 ∧ tt_fr Kd [(10, 3), (10, 4), (10, 5), (10, 6)] pl0 pl1 ∧ tt_fa Kd [] pl0 pl1 ∧ ((r = none)))) (tt_OX (fun _ _ _ => False)) := by
  refine jj_start hl (by decide) jw_0d4db63612 (jj_le rfl) ?_
  intro p e s m args below meth c A hargs hA C hex hmn
  have hfr := tt_fr.refl (K := Kd) (WS := [(10, 3), (10, 4), (10, 5), (10, 6)]) pl0
  have hfa := tt_fa.refl (K := Kd) (WA := []) pl0
  refine jj_aload_n C dX9_advance_0 rfl ?_
  refine jj_aload_n C dX9_advance_1 rfl ?_
  refine tt_get C hok jk_10 3 (by decide) jw_f99bd0ca2b (t := (0, 0, 400)) hk0 (by decide) rfl rfl dX9_advance_2 (fun v_1 hv_1 hf_2 => ?_)
  obtain ⟨x_3, rfl, lx_3, ux_3⟩ := tt_vi hv_1
  refine rl_put C hok jk_10 4 (by decide) jw_66bda6962a (t := (0, 0, 400)) hk0 (by decide) rfl rfl rfl (tt_iv (by omega) (by omega)) rfl rfl dX9_advance_5 (fun pl_4 hok_5 tr hn tl => ?_)
  replace hf_2 := tr _ _ _ (Or.inr (by decide)) hf_2
  have hf_6 := hn
  replace hfr := hfr.put hk0 tr (by decide)
  replace hfa := hfa.all tl
  have hL_7 : ∀ (N : Nat) (pl : va_W) (x_8 : Int32), True → tt_ok tt_tk cA Kd pl → tt_fr Kd [(10, 3), (10, 4), (10, 5), (10, 6)] pl0 pl → tt_fa Kd [] pl0 pl → tt_at pl h0 4 (.int x_8) → (0 : Int) ≤ x_8.toInt → x_8.toInt ≤ 400 → (401 - x_8.toInt ≤ (N : Int)) → jj_J p l e (jj_rm 1 21 0 0) s m args below meth c 1 A (vx_MQ below (jj_q D A (tt_O (fun rx pl1 r => rx = [] ∧ tt_ok tt_tk cA Kd pl1 ∧ tt_fr Kd [(10, 3), (10, 4), (10, 5), (10, 6)] pl0 pl1 ∧ tt_fa Kd [] pl0 pl1 ∧ ((r = none))))) (jj_x D A (tt_OX (fun _ _ _ => False))) args s 0 0 A) (jj_X D A ([] ++ pl)) 0 0 8 [(0, .ref h0)] [] := by
    intro NL_7
    induction NL_7 with
    | zero => intro pl x_8 _ hok hfr hfa hf_9 lx_8 ux_8 hNL_7; exfalso; omega
    | succ NL_7 ihL_7 =>
      intro pl x_8 _ hok hfr hfa hf_9 lx_8 ux_8 hNL_7
      replace ihL_7 := fun pl x_8 h1 => ihL_7 pl x_8 trivial h1
      refine jj_aload_n C dX9_advance_8 rfl ?_
      refine tt_getF C hok jk_10 4 (by decide) jw_66bda6962a (t := (0, 0, 400)) hk0 (by decide) rfl rfl hf_9 dX9_advance_9 ?_
      refine jj_aload_n C dX9_advance_12 rfl ?_
      refine tt_get C hok jk_10 2 (by decide) jw_bc3c1a7c51 (t := (0, 0, 400)) hk0 (by decide) rfl rfl dX9_advance_13 (fun v_10 hv_10 hf_11 => ?_)
      obtain ⟨x_12, rfl, lx_12, ux_12⟩ := tt_vi hv_10
      refine jj_icmp_ge (tgt := 60) C dX9_advance_16 (by decide) (fun c_13 => ?_) (fun c_13 => ?_)
      · have z_c_13 := jc_le (a := (x_12).toInt) (b := (x_8).toInt) c_13 rfl rfl
        refine jj_aload_n C dX9_advance_60 rfl ?_
        refine jj_aload_n C dX9_advance_61 rfl ?_
        refine tt_getF C hok jk_10 4 (by decide) jw_66bda6962a (t := (0, 0, 400)) hk0 (by decide) rfl rfl hf_9 dX9_advance_62 ?_
        refine rl_put C hok jk_10 3 (by decide) jw_f99bd0ca2b (t := (0, 0, 400)) hk0 (by decide) rfl rfl rfl (tt_iv (by omega) (by omega)) rfl rfl dX9_advance_65 (fun pl_14 hok_15 tr hn tl => ?_)
        replace hf_9 := tr _ _ _ (Or.inr (by decide)) hf_9
        replace hf_11 := tr _ _ _ (Or.inr (by decide)) hf_11
        have hf_16 := hn
        replace hfr := hfr.put hk0 tr (by decide)
        replace hfa := hfa.all tl
        refine jj_aload_n C dX9_advance_68 rfl ?_
        refine tt_getF C hok_15 jk_10 4 (by decide) jw_66bda6962a (t := (0, 0, 400)) hk0 (by decide) rfl rfl hf_9 dX9_advance_69 ?_
        refine jj_aload_n C dX9_advance_72 rfl ?_
        refine tt_getF C hok_15 jk_10 2 (by decide) jw_bc3c1a7c51 (t := (0, 0, 400)) hk0 (by decide) rfl rfl hf_11 dX9_advance_73 ?_
        refine jj_icmp_ltF (tgt := 87) C dX9_advance_76 (by decide) (by first | exact Int64.not_lt.mpr c_13 | exact Int32.not_lt.mpr c_13) ?_
        refine jj_aload_n C dX9_advance_79 rfl ?_
        refine jj_iconst (v := 0) C dX9_advance_80 (by decide) ?_
        refine rl_put C hok_15 jk_10 5 (by decide) jw_bde5c0d1a5 (t := (0, (-2147483648), 2147483647)) hk0 (by decide) rfl rfl rfl (tt_ia (0 : Int32)) rfl rfl dX9_advance_81 (fun pl_17 hok_18 tr hn tl => ?_)
        replace hf_9 := tr _ _ _ (Or.inr (by decide)) hf_9
        replace hf_11 := tr _ _ _ (Or.inr (by decide)) hf_11
        replace hf_16 := tr _ _ _ (Or.inr (by decide)) hf_16
        have hf_19 := hn
        replace hfr := hfr.put hk0 tr (by decide)
        replace hfa := hfa.all tl
        refine jj_goto (tgt := 269) C dX9_advance_84 (by decide) ?_
        exact jj_vret C ⟨[], pl_17, rfl, rfl, hok_18, hfr, hfa, rfl⟩ dX9_advance_269 (jj_le rfl) (jj_le rfl)
      · have z_c_13 := jc_nle (a := (x_12).toInt) (b := (x_8).toInt) c_13 rfl rfl
        refine jj_aload_n C dX9_advance_19 rfl ?_
        refine tt_get C hok jk_10 0 (by decide) jw_0664e1e086 (t := (2, 11, 0)) hk0 (by decide) rfl rfl dX9_advance_20 (fun v_20 hv_20 hf_21 => ?_)
        obtain ⟨a_22, rfl, ka_22⟩ := tt_vr hv_20
        refine jj_aload_n C dX9_advance_23 rfl ?_
        refine tt_getF C hok jk_10 4 (by decide) jw_66bda6962a (t := (0, 0, 400)) hk0 (by decide) rfl rfl hf_9 dX9_advance_24 ?_
        refine tt_cald C hok (t := (0, (-2147483648), 2147483647)) ka_22 (by decide) rfl (vp_in_iff.mpr ⟨by omega, by omega⟩) dX9_advance_27 (fun v_23 hv_23 => ?_)
        refine jj_bipush (v := 32) C dX9_advance_28 (by decide) ?_
        refine jj_icmp_eq (tgt := 47) C dX9_advance_30 (by decide) (fun c_24 => ?_) (fun c_24 => ?_)
        · have z_c_24 := jc_eq (a := (v_23).toInt) (b := (32)) c_24 rfl (by decide)
          refine jj_aload_n C dX9_advance_47 rfl ?_
          refine jj_dup C dX9_advance_48 rfl ?_
          refine tt_getF C hok jk_10 4 (by decide) jw_66bda6962a (t := (0, 0, 400)) hk0 (by decide) rfl rfl hf_9 dX9_advance_49 ?_
          refine jj_iconst (v := 1) C dX9_advance_52 (by decide) ?_
          obtain ⟨x_25, ex_25, vx_25⟩ := tt_iadd (x := x_8) (y := (1 : Int32)) (a := x_8.toInt) rfl (b := 1) (by decide) (by omega) (by omega)
          refine jj_iadd (v := x_25) C dX9_advance_53 ex_25 ?_
          refine rl_put C hok jk_10 4 (by decide) jw_66bda6962a (t := (0, 0, 400)) hk0 (by decide) rfl rfl rfl (tt_iv (by omega) (by omega)) rfl rfl dX9_advance_54 (fun pl_26 hok_27 tr hn tl => ?_)
          replace hf_11 := tr _ _ _ (Or.inr (by decide)) hf_11
          replace hf_21 := tr _ _ _ (Or.inr (by decide)) hf_21
          have hf_28 := hn
          replace hfr := hfr.put hk0 tr (by decide)
          replace hfa := hfa.all tl
          refine jj_goto (tgt := 8) C dX9_advance_57 (by decide) ?_
          exact ihL_7 pl_26 x_25 hok_27 hfr hfa hf_28 (by first | omega | decide | exact tt_lo _ | exact tt_hi _) (by first | omega | decide | exact tt_lo _ | exact tt_hi _) (by first | omega | decide | exact tt_lo _ | exact tt_hi _)
        · have z_c_24 := jc_neq (a := (v_23).toInt) (b := (32)) c_24 rfl (by decide)
          refine jj_aload_n C dX9_advance_33 rfl ?_
          refine tt_getF C hok jk_10 0 (by decide) jw_0664e1e086 (t := (2, 11, 0)) hk0 (by decide) rfl rfl hf_21 dX9_advance_34 ?_
          refine jj_aload_n C dX9_advance_37 rfl ?_
          refine tt_getF C hok jk_10 4 (by decide) jw_66bda6962a (t := (0, 0, 400)) hk0 (by decide) rfl rfl hf_9 dX9_advance_38 ?_
          refine tt_cald C hok (t := (0, (-2147483648), 2147483647)) ka_22 (by decide) rfl (vp_in_iff.mpr ⟨by omega, by omega⟩) dX9_advance_41 (fun v_29 hv_29 => ?_)
          refine jj_bipush (v := 10) C dX9_advance_42 (by decide) ?_
          refine jj_icmp_ne (tgt := 60) C dX9_advance_44 (by decide) (fun c_30 => ?_) (fun c_30 => ?_)
          · have z_c_30 := jc_neq (a := (v_29).toInt) (b := (10)) c_30 rfl (by decide)
            refine jj_aload_n C dX9_advance_60 rfl ?_
            refine jj_aload_n C dX9_advance_61 rfl ?_
            refine tt_getF C hok jk_10 4 (by decide) jw_66bda6962a (t := (0, 0, 400)) hk0 (by decide) rfl rfl hf_9 dX9_advance_62 ?_
            refine rl_put C hok jk_10 3 (by decide) jw_f99bd0ca2b (t := (0, 0, 400)) hk0 (by decide) rfl rfl rfl (tt_iv (by omega) (by omega)) rfl rfl dX9_advance_65 (fun pl_31 hok_32 tr hn tl => ?_)
            replace hf_9 := tr _ _ _ (Or.inr (by decide)) hf_9
            replace hf_11 := tr _ _ _ (Or.inr (by decide)) hf_11
            replace hf_21 := tr _ _ _ (Or.inr (by decide)) hf_21
            have hf_33 := hn
            replace hfr := hfr.put hk0 tr (by decide)
            replace hfa := hfa.all tl
            refine jj_aload_n C dX9_advance_68 rfl ?_
            refine tt_getF C hok_32 jk_10 4 (by decide) jw_66bda6962a (t := (0, 0, 400)) hk0 (by decide) rfl rfl hf_9 dX9_advance_69 ?_
            refine jj_aload_n C dX9_advance_72 rfl ?_
            refine tt_getF C hok_32 jk_10 2 (by decide) jw_bc3c1a7c51 (t := (0, 0, 400)) hk0 (by decide) rfl rfl hf_11 dX9_advance_73 ?_
            refine jj_icmp_ltT (tgt := 87) C dX9_advance_76 (by decide) (by first | exact Int64.not_le.mp c_13 | exact Int32.not_le.mp c_13) ?_
            refine jj_aload_n C dX9_advance_87 rfl ?_
            refine jj_aload_n C dX9_advance_88 rfl ?_
            refine tt_getF C hok_32 jk_10 4 (by decide) jw_66bda6962a (t := (0, 0, 400)) hk0 (by decide) rfl rfl hf_9 dX9_advance_89 ?_
            obtain ⟨qc, gs, hqc⟩ := tt_recv (cx := []) hok_32 hk0 (by decide) rfl
            refine tt_callV (rest := []) C (tc_X9_isLetter_1 hl D cA ak h0 x_8 hk0 (by omega) (by omega) hok_32) [] [] rfl rfl (by decide) (by decide) (by decide) qc hqc rfl rfl jw_5d32b2c455 jw_c77b9e5a65 jw_cdb619e1fe jw_a9e7b602dc jw_9e97b9dadb jn_X9_isLetter rfl (jj_le rfl) (jj_le rfl) (jj_le rfl) (jj_le rfl) (jj_le rfl) dX9_advance_92 rfl (fun _ _ _ hX => hX.elim) (fun rx pl_34 r O_37 => ?_)
            obtain ⟨rfl, hok_35, hr_36, hfa9, hR_39⟩ := O_37
            replace hf_9 := hr_36.at hk0 (by decide) (by decide) hf_9
            replace hf_11 := hr_36.at hk0 (by decide) (by decide) hf_11
            replace hf_21 := hr_36.at hk0 (by decide) (by decide) hf_21
            replace hf_33 := hr_36.at hk0 (by decide) (by decide) hf_33
            replace hfr := hfr.trans (hr_36.sub (by decide))
            replace hfa := hfa.trans (hfa9.sub (by decide))
            rcases hR_39 with rfl | rfl
            · refine jj_if_eqT (tgt := 138) C dX9_advance_95 (by decide) (by decide) ?_
              refine jj_aload_n C dX9_advance_138 rfl ?_
              refine jj_aload_n C dX9_advance_139 rfl ?_
              refine tt_getF C hok_35 jk_10 4 (by decide) jw_66bda6962a (t := (0, 0, 400)) hk0 (by decide) rfl rfl hf_9 dX9_advance_140 ?_
              obtain ⟨qc, gs, hqc⟩ := tt_recv (cx := []) hok_35 hk0 (by decide) rfl
              refine tt_callV (rest := []) C (tc_X9_isDigit_1 hl D cA ak h0 x_8 hk0 (by omega) (by omega) hok_35) [] [] rfl rfl (by decide) (by decide) (by decide) qc hqc rfl rfl jw_9f660503f9 jw_c0c6c0e094 jw_7656ac4378 jw_a9e7b602dc jw_c365050a25 jn_X9_isDigit rfl (jj_le rfl) (jj_le rfl) (jj_le rfl) (jj_le rfl) (jj_le rfl) dX9_advance_143 rfl (fun _ _ _ hX => hX.elim) (fun rx pl_42 r O_45 => ?_)
              obtain ⟨rfl, hok_43, hr_44, hfa9, hR_47⟩ := O_45
              replace hf_9 := hr_44.at hk0 (by decide) (by decide) hf_9
              replace hf_11 := hr_44.at hk0 (by decide) (by decide) hf_11
              replace hf_21 := hr_44.at hk0 (by decide) (by decide) hf_21
              replace hf_33 := hr_44.at hk0 (by decide) (by decide) hf_33
              replace hfr := hfr.trans (hr_44.sub (by decide))
              replace hfa := hfa.trans (hfa9.sub (by decide))
              rcases hR_47 with rfl | rfl
              · refine jj_if_eqT (tgt := 236) C dX9_advance_146 (by decide) (by decide) ?_
                refine jj_aload_n C dX9_advance_236 rfl ?_
                refine jj_aload_n C dX9_advance_237 rfl ?_
                refine tt_getF C hok_43 jk_10 0 (by decide) jw_0664e1e086 (t := (2, 11, 0)) hk0 (by decide) rfl rfl hf_21 dX9_advance_238 ?_
                refine jj_aload_n C dX9_advance_241 rfl ?_
                refine tt_getF C hok_43 jk_10 4 (by decide) jw_66bda6962a (t := (0, 0, 400)) hk0 (by decide) rfl rfl hf_9 dX9_advance_242 ?_
                refine tt_cald C hok_43 (t := (0, (-2147483648), 2147483647)) ka_22 (by decide) rfl (vp_in_iff.mpr ⟨by omega, by omega⟩) dX9_advance_245 (fun v_50 hv_50 => ?_)
                refine jj_bipush (v := 59) C dX9_advance_246 (by decide) ?_
                refine jj_icmp_ne (tgt := 255) C dX9_advance_248 (by decide) (fun c_51 => ?_) (fun c_51 => ?_)
                · have z_c_51 := jc_neq (a := (v_50).toInt) (b := (59)) c_51 rfl (by decide)
                  refine jj_iconst (v := 4) C dX9_advance_255 (by decide) ?_
                  refine rl_put C hok_43 jk_10 5 (by decide) jw_bde5c0d1a5 (t := (0, (-2147483648), 2147483647)) hk0 (by decide) rfl rfl rfl (tt_ia (4 : Int32)) rfl rfl dX9_advance_256 (fun pl_52 hok_53 tr hn tl => ?_)
                  replace hf_9 := tr _ _ _ (Or.inr (by decide)) hf_9
                  replace hf_11 := tr _ _ _ (Or.inr (by decide)) hf_11
                  replace hf_21 := tr _ _ _ (Or.inr (by decide)) hf_21
                  replace hf_33 := tr _ _ _ (Or.inr (by decide)) hf_33
                  have hf_54 := hn
                  replace hfr := hfr.put hk0 tr (by decide)
                  replace hfa := hfa.all tl
                  refine jj_aload_n C dX9_advance_259 rfl ?_
                  refine jj_aload_n C dX9_advance_260 rfl ?_
                  refine tt_getF C hok_53 jk_10 4 (by decide) jw_66bda6962a (t := (0, 0, 400)) hk0 (by decide) rfl rfl hf_9 dX9_advance_261 ?_
                  refine jj_iconst (v := 1) C dX9_advance_264 (by decide) ?_
                  obtain ⟨x_55, ex_55, vx_55⟩ := tt_iadd (x := x_8) (y := (1 : Int32)) (a := x_8.toInt) rfl (b := 1) (by decide) (by omega) (by omega)
                  refine jj_iadd (v := x_55) C dX9_advance_265 ex_55 ?_
                  refine rl_put C hok_53 jk_10 3 (by decide) jw_f99bd0ca2b (t := (0, 0, 400)) hk0 (by decide) rfl rfl rfl (tt_iv (by omega) (by omega)) rfl rfl dX9_advance_266 (fun pl_56 hok_57 tr hn tl => ?_)
                  replace hf_9 := tr _ _ _ (Or.inr (by decide)) hf_9
                  replace hf_11 := tr _ _ _ (Or.inr (by decide)) hf_11
                  replace hf_21 := tr _ _ _ (Or.inr (by decide)) hf_21
                  replace hf_54 := tr _ _ _ (Or.inr (by decide)) hf_54
                  have hf_58 := hn
                  replace hfr := hfr.put hk0 tr (by decide)
                  replace hfa := hfa.all tl
                  exact jj_vret C ⟨[], pl_56, rfl, rfl, hok_57, hfr, hfa, rfl⟩ dX9_advance_269 (jj_le rfl) (jj_le rfl)
                · have z_c_51 := jc_eq (a := (v_50).toInt) (b := (59)) c_51 rfl (by decide)
                  refine jj_iconst (v := 3) C dX9_advance_251 (by decide) ?_
                  refine jj_goto (tgt := 256) C dX9_advance_252 (by decide) ?_
                  refine rl_put C hok_43 jk_10 5 (by decide) jw_bde5c0d1a5 (t := (0, (-2147483648), 2147483647)) hk0 (by decide) rfl rfl rfl (tt_ia (3 : Int32)) rfl rfl dX9_advance_256 (fun pl_59 hok_60 tr hn tl => ?_)
                  replace hf_9 := tr _ _ _ (Or.inr (by decide)) hf_9
                  replace hf_11 := tr _ _ _ (Or.inr (by decide)) hf_11
                  replace hf_21 := tr _ _ _ (Or.inr (by decide)) hf_21
                  replace hf_33 := tr _ _ _ (Or.inr (by decide)) hf_33
                  have hf_61 := hn
                  replace hfr := hfr.put hk0 tr (by decide)
                  replace hfa := hfa.all tl
                  refine jj_aload_n C dX9_advance_259 rfl ?_
                  refine jj_aload_n C dX9_advance_260 rfl ?_
                  refine tt_getF C hok_60 jk_10 4 (by decide) jw_66bda6962a (t := (0, 0, 400)) hk0 (by decide) rfl rfl hf_9 dX9_advance_261 ?_
                  refine jj_iconst (v := 1) C dX9_advance_264 (by decide) ?_
                  obtain ⟨x_62, ex_62, vx_62⟩ := tt_iadd (x := x_8) (y := (1 : Int32)) (a := x_8.toInt) rfl (b := 1) (by decide) (by omega) (by omega)
                  refine jj_iadd (v := x_62) C dX9_advance_265 ex_62 ?_
                  refine rl_put C hok_60 jk_10 3 (by decide) jw_f99bd0ca2b (t := (0, 0, 400)) hk0 (by decide) rfl rfl rfl (tt_iv (by omega) (by omega)) rfl rfl dX9_advance_266 (fun pl_63 hok_64 tr hn tl => ?_)
                  replace hf_9 := tr _ _ _ (Or.inr (by decide)) hf_9
                  replace hf_11 := tr _ _ _ (Or.inr (by decide)) hf_11
                  replace hf_21 := tr _ _ _ (Or.inr (by decide)) hf_21
                  replace hf_61 := tr _ _ _ (Or.inr (by decide)) hf_61
                  have hf_65 := hn
                  replace hfr := hfr.put hk0 tr (by decide)
                  replace hfa := hfa.all tl
                  exact jj_vret C ⟨[], pl_63, rfl, rfl, hok_64, hfr, hfa, rfl⟩ dX9_advance_269 (jj_le rfl) (jj_le rfl)
              · refine jj_if_eqF (tgt := 236) C dX9_advance_146 (by decide) (by decide) ?_
                refine jj_aload_n C dX9_advance_149 rfl ?_
                refine jj_iconst (v := 2) C dX9_advance_150 (by decide) ?_
                refine rl_put C hok_43 jk_10 5 (by decide) jw_bde5c0d1a5 (t := (0, (-2147483648), 2147483647)) hk0 (by decide) rfl rfl rfl (tt_ia (2 : Int32)) rfl rfl dX9_advance_151 (fun pl_66 hok_67 tr hn tl => ?_)
                replace hf_9 := tr _ _ _ (Or.inr (by decide)) hf_9
                replace hf_11 := tr _ _ _ (Or.inr (by decide)) hf_11
                replace hf_21 := tr _ _ _ (Or.inr (by decide)) hf_21
                replace hf_33 := tr _ _ _ (Or.inr (by decide)) hf_33
                have hf_68 := hn
                replace hfr := hfr.put hk0 tr (by decide)
                replace hfa := hfa.all tl
                refine jj_aload_n C dX9_advance_154 rfl ?_
                refine jj_iconst (v := 0) C dX9_advance_155 (by decide) ?_
                refine rl_put C hok_67 jk_10 6 (by decide) jw_f32ea1979e (t := (0, (-2147483648), 2147483647)) hk0 (by decide) rfl rfl rfl (tt_ia (0 : Int32)) rfl rfl dX9_advance_156 (fun pl_69 hok_70 tr hn tl => ?_)
                replace hf_9 := tr _ _ _ (Or.inr (by decide)) hf_9
                replace hf_11 := tr _ _ _ (Or.inr (by decide)) hf_11
                replace hf_21 := tr _ _ _ (Or.inr (by decide)) hf_21
                replace hf_33 := tr _ _ _ (Or.inr (by decide)) hf_33
                replace hf_68 := tr _ _ _ (Or.inr (by decide)) hf_68
                have hf_71 := hn
                replace hfr := hfr.put hk0 tr (by decide)
                replace hfa := hfa.all tl
                have hL_72 : ∀ (N : Nat) (pl : va_W) (x_75 : Int32), True → tt_ok tt_tk cA Kd pl → tt_fr Kd [(10, 3), (10, 4), (10, 5), (10, 6)] pl0 pl → tt_fa Kd [] pl0 pl → tt_at pl h0 2 (.int x_12) → tt_at pl h0 0 (.ref a_22) → tt_at pl h0 3 (.int x_75) → (0 : Int) ≤ x_75.toInt → x_75.toInt ≤ 400 → (401 - x_75.toInt ≤ (N : Int)) → jj_J p l e (jj_rm 1 21 0 0) s m args below meth c 1 A (vx_MQ below (jj_q D A (tt_O (fun rx pl1 r => rx = [] ∧ tt_ok tt_tk cA Kd pl1 ∧ tt_fr Kd [(10, 3), (10, 4), (10, 5), (10, 6)] pl0 pl1 ∧ tt_fa Kd [] pl0 pl1 ∧ ((r = none))))) (jj_x D A (tt_OX (fun _ _ _ => False))) args s 0 0 A) (jj_X D A ([] ++ pl)) 0 0 159 [(0, .ref h0)] [] := by
                  intro NL_72
                  induction NL_72 with
                  | zero => intro pl x_75 _ hok hfr hfa hf_73 hf_74 hf_76 lx_75 ux_75 hNL_72; exfalso; omega
                  | succ NL_72 ihL_72 =>
                    intro pl x_75 _ hok hfr hfa hf_73 hf_74 hf_76 lx_75 ux_75 hNL_72
                    replace ihL_72 := fun pl x_75 h1 => ihL_72 pl x_75 trivial h1
                    refine jj_aload_n C dX9_advance_159 rfl ?_
                    refine tt_getF C hok jk_10 3 (by decide) jw_f99bd0ca2b (t := (0, 0, 400)) hk0 (by decide) rfl rfl hf_76 dX9_advance_160 ?_
                    refine jj_aload_n C dX9_advance_163 rfl ?_
                    refine tt_getF C hok jk_10 2 (by decide) jw_bc3c1a7c51 (t := (0, 0, 400)) hk0 (by decide) rfl rfl hf_73 dX9_advance_164 ?_
                    refine jj_icmp_ge (tgt := 269) C dX9_advance_167 (by decide) (fun c_77 => ?_) (fun c_77 => ?_)
                    · have z_c_77 := jc_le (a := (x_12).toInt) (b := (x_75).toInt) c_77 rfl rfl
                      exact jj_vret C ⟨[], pl, rfl, rfl, hok, hfr, hfa, rfl⟩ dX9_advance_269 (jj_le rfl) (jj_le rfl)
                    · have z_c_77 := jc_nle (a := (x_12).toInt) (b := (x_75).toInt) c_77 rfl rfl
                      refine jj_aload_n C dX9_advance_170 rfl ?_
                      refine jj_aload_n C dX9_advance_171 rfl ?_
                      refine tt_getF C hok jk_10 3 (by decide) jw_f99bd0ca2b (t := (0, 0, 400)) hk0 (by decide) rfl rfl hf_76 dX9_advance_172 ?_
                      obtain ⟨qc, gs, hqc⟩ := tt_recv (cx := []) hok hk0 (by decide) rfl
                      refine tt_callV (rest := []) C (tc_X9_isDigit_1 hl D cA ak h0 x_75 hk0 (by omega) (by omega) hok) [] [] rfl rfl (by decide) (by decide) (by decide) qc hqc rfl rfl jw_9f660503f9 jw_c0c6c0e094 jw_7656ac4378 jw_a9e7b602dc jw_c365050a25 jn_X9_isDigit rfl (jj_le rfl) (jj_le rfl) (jj_le rfl) (jj_le rfl) (jj_le rfl) dX9_advance_175 rfl (fun _ _ _ hX => hX.elim) (fun rx pl_78 r O_81 => ?_)
                      obtain ⟨rfl, hok_79, hr_80, hfa9, hR_83⟩ := O_81
                      replace hf_73 := hr_80.at hk0 (by decide) (by decide) hf_73
                      replace hf_74 := hr_80.at hk0 (by decide) (by decide) hf_74
                      replace hf_76 := hr_80.at hk0 (by decide) (by decide) hf_76
                      replace hfr := hfr.trans (hr_80.sub (by decide))
                      replace hfa := hfa.trans (hfa9.sub (by decide))
                      rcases hR_83 with rfl | rfl
                      · refine jj_if_eqT (tgt := 269) C dX9_advance_178 (by decide) (by decide) ?_
                        exact jj_vret C ⟨[], pl_78, rfl, rfl, hok_79, hfr, hfa, rfl⟩ dX9_advance_269 (jj_le rfl) (jj_le rfl)
                      · refine jj_if_eqF (tgt := 269) C dX9_advance_178 (by decide) (by decide) ?_
                        refine jj_aload_n C dX9_advance_181 rfl ?_
                        refine jj_aload_n C dX9_advance_182 rfl ?_
                        refine tt_getF C hok_79 jk_10 3 (by decide) jw_f99bd0ca2b (t := (0, 0, 400)) hk0 (by decide) rfl rfl hf_76 dX9_advance_183 ?_
                        refine jj_aload_n C dX9_advance_186 rfl ?_
                        refine tt_get C hok_79 jk_10 4 (by decide) jw_66bda6962a (t := (0, 0, 400)) hk0 (by decide) rfl rfl dX9_advance_187 (fun v_86 hv_86 hf_87 => ?_)
                        obtain ⟨x_88, rfl, lx_88, ux_88⟩ := tt_vi hv_86
                        obtain ⟨x_89, ex_89, vx_89⟩ := tt_isub (x := x_75) (y := x_88) (a := x_75.toInt) rfl (b := x_88.toInt) rfl (by omega) (by omega)
                        refine jj_isub (v := x_89) C dX9_advance_190 ex_89 ?_
                        refine jj_bipush (v := 7) C dX9_advance_191 (by decide) ?_
                        refine jj_icmp_ge (tgt := 219) C dX9_advance_193 (by decide) (fun c_90 => ?_) (fun c_90 => ?_)
                        · have z_c_90 := jc_le (a := (7)) (b := (x_89).toInt) c_90 (by decide) rfl
                          refine jj_iconst (v := (-1)) C dX9_advance_219 (by decide) ?_
                          refine rl_put C hok_79 jk_10 6 (by decide) jw_f32ea1979e (t := (0, (-2147483648), 2147483647)) hk0 (by decide) rfl rfl rfl (tt_ia ((-1) : Int32)) rfl rfl dX9_advance_220 (fun pl_91 hok_92 tr hn tl => ?_)
                          replace hf_73 := tr _ _ _ (Or.inr (by decide)) hf_73
                          replace hf_74 := tr _ _ _ (Or.inr (by decide)) hf_74
                          replace hf_76 := tr _ _ _ (Or.inr (by decide)) hf_76
                          replace hf_87 := tr _ _ _ (Or.inr (by decide)) hf_87
                          have hf_93 := hn
                          replace hfr := hfr.put hk0 tr (by decide)
                          replace hfa := hfa.all tl
                          refine jj_aload_n C dX9_advance_223 rfl ?_
                          refine jj_dup C dX9_advance_224 rfl ?_
                          refine tt_getF C hok_92 jk_10 3 (by decide) jw_f99bd0ca2b (t := (0, 0, 400)) hk0 (by decide) rfl rfl hf_76 dX9_advance_225 ?_
                          refine jj_iconst (v := 1) C dX9_advance_228 (by decide) ?_
                          obtain ⟨x_94, ex_94, vx_94⟩ := tt_iadd (x := x_75) (y := (1 : Int32)) (a := x_75.toInt) rfl (b := 1) (by decide) (by omega) (by omega)
                          refine jj_iadd (v := x_94) C dX9_advance_229 ex_94 ?_
                          refine rl_put C hok_92 jk_10 3 (by decide) jw_f99bd0ca2b (t := (0, 0, 400)) hk0 (by decide) rfl rfl rfl (tt_iv (by omega) (by omega)) rfl rfl dX9_advance_230 (fun pl_95 hok_96 tr hn tl => ?_)
                          replace hf_73 := tr _ _ _ (Or.inr (by decide)) hf_73
                          replace hf_74 := tr _ _ _ (Or.inr (by decide)) hf_74
                          replace hf_87 := tr _ _ _ (Or.inr (by decide)) hf_87
                          replace hf_93 := tr _ _ _ (Or.inr (by decide)) hf_93
                          have hf_97 := hn
                          replace hfr := hfr.put hk0 tr (by decide)
                          replace hfa := hfa.all tl
                          refine jj_goto (tgt := 159) C dX9_advance_233 (by decide) ?_
                          exact ihL_72 pl_95 x_94 hok_96 hfr hfa hf_73 hf_74 hf_97 (by first | omega | decide | exact tt_lo _ | exact tt_hi _) (by first | omega | decide | exact tt_lo _ | exact tt_hi _) (by first | omega | decide | exact tt_lo _ | exact tt_hi _)
                        · have z_c_90 := jc_nle (a := (7)) (b := (x_89).toInt) c_90 (by decide) rfl
                          refine jj_aload_n C dX9_advance_196 rfl ?_
                          refine tt_get C hok_79 jk_10 6 (by decide) jw_f32ea1979e (t := (0, (-2147483648), 2147483647)) hk0 (by decide) rfl rfl dX9_advance_197 (fun v_98 hv_98 hf_99 => ?_)
                          obtain ⟨x_100, rfl, lx_100, ux_100⟩ := tt_vi hv_98
                          refine jj_bipush (v := 10) C dX9_advance_200 (by decide) ?_
                          obtain ⟨x_101, ex_101⟩ : ∃ z : Int32, x_100 * (10 : Int32) = z := ⟨_, rfl⟩
                          refine jj_imul (v := x_101) C dX9_advance_202 ex_101 ?_
                          refine jj_aload_n C dX9_advance_203 rfl ?_
                          refine tt_getF C hok_79 jk_10 0 (by decide) jw_0664e1e086 (t := (2, 11, 0)) hk0 (by decide) rfl rfl hf_74 dX9_advance_204 ?_
                          refine jj_aload_n C dX9_advance_207 rfl ?_
                          refine tt_getF C hok_79 jk_10 3 (by decide) jw_f99bd0ca2b (t := (0, 0, 400)) hk0 (by decide) rfl rfl hf_76 dX9_advance_208 ?_
                          refine tt_cald C hok_79 (t := (0, (-2147483648), 2147483647)) ka_22 (by decide) rfl (vp_in_iff.mpr ⟨by omega, by omega⟩) dX9_advance_211 (fun v_102 hv_102 => ?_)
                          refine jj_bipush (v := 48) C dX9_advance_212 (by decide) ?_
                          obtain ⟨x_103, ex_103⟩ : ∃ z : Int32, v_102 - (48 : Int32) = z := ⟨_, rfl⟩
                          refine jj_isub (v := x_103) C dX9_advance_214 ex_103 ?_
                          obtain ⟨x_104, ex_104⟩ : ∃ z : Int32, x_101 + x_103 = z := ⟨_, rfl⟩
                          refine jj_iadd (v := x_104) C dX9_advance_215 ex_104 ?_
                          refine jj_goto (tgt := 220) C dX9_advance_216 (by decide) ?_
                          refine rl_put C hok_79 jk_10 6 (by decide) jw_f32ea1979e (t := (0, (-2147483648), 2147483647)) hk0 (by decide) rfl rfl rfl (tt_ia x_104) rfl rfl dX9_advance_220 (fun pl_105 hok_106 tr hn tl => ?_)
                          replace hf_73 := tr _ _ _ (Or.inr (by decide)) hf_73
                          replace hf_74 := tr _ _ _ (Or.inr (by decide)) hf_74
                          replace hf_76 := tr _ _ _ (Or.inr (by decide)) hf_76
                          replace hf_87 := tr _ _ _ (Or.inr (by decide)) hf_87
                          have hf_107 := hn
                          replace hfr := hfr.put hk0 tr (by decide)
                          replace hfa := hfa.all tl
                          refine jj_aload_n C dX9_advance_223 rfl ?_
                          refine jj_dup C dX9_advance_224 rfl ?_
                          refine tt_getF C hok_106 jk_10 3 (by decide) jw_f99bd0ca2b (t := (0, 0, 400)) hk0 (by decide) rfl rfl hf_76 dX9_advance_225 ?_
                          refine jj_iconst (v := 1) C dX9_advance_228 (by decide) ?_
                          obtain ⟨x_108, ex_108, vx_108⟩ := tt_iadd (x := x_75) (y := (1 : Int32)) (a := x_75.toInt) rfl (b := 1) (by decide) (by omega) (by omega)
                          refine jj_iadd (v := x_108) C dX9_advance_229 ex_108 ?_
                          refine rl_put C hok_106 jk_10 3 (by decide) jw_f99bd0ca2b (t := (0, 0, 400)) hk0 (by decide) rfl rfl rfl (tt_iv (by omega) (by omega)) rfl rfl dX9_advance_230 (fun pl_109 hok_110 tr hn tl => ?_)
                          replace hf_73 := tr _ _ _ (Or.inr (by decide)) hf_73
                          replace hf_74 := tr _ _ _ (Or.inr (by decide)) hf_74
                          replace hf_87 := tr _ _ _ (Or.inr (by decide)) hf_87
                          replace hf_107 := tr _ _ _ (Or.inr (by decide)) hf_107
                          have hf_111 := hn
                          replace hfr := hfr.put hk0 tr (by decide)
                          replace hfa := hfa.all tl
                          refine jj_goto (tgt := 159) C dX9_advance_233 (by decide) ?_
                          exact ihL_72 pl_109 x_108 hok_110 hfr hfa hf_73 hf_74 hf_111 (by first | omega | decide | exact tt_lo _ | exact tt_hi _) (by first | omega | decide | exact tt_lo _ | exact tt_hi _) (by first | omega | decide | exact tt_lo _ | exact tt_hi _)
                exact hL_72 _ pl_69 x_8 trivial hok_70 hfr hfa hf_11 hf_21 hf_33 (by first | omega | decide | exact tt_lo _ | exact tt_hi _) (by first | omega | decide | exact tt_lo _ | exact tt_hi _) (Int.self_le_toNat _)
            · refine jj_if_eqF (tgt := 138) C dX9_advance_95 (by decide) (by decide) ?_
              refine jj_aload_n C dX9_advance_98 rfl ?_
              refine jj_iconst (v := 1) C dX9_advance_99 (by decide) ?_
              refine rl_put C hok_35 jk_10 5 (by decide) jw_bde5c0d1a5 (t := (0, (-2147483648), 2147483647)) hk0 (by decide) rfl rfl rfl (tt_ia (1 : Int32)) rfl rfl dX9_advance_100 (fun pl_112 hok_113 tr hn tl => ?_)
              replace hf_9 := tr _ _ _ (Or.inr (by decide)) hf_9
              replace hf_11 := tr _ _ _ (Or.inr (by decide)) hf_11
              replace hf_21 := tr _ _ _ (Or.inr (by decide)) hf_21
              replace hf_33 := tr _ _ _ (Or.inr (by decide)) hf_33
              have hf_114 := hn
              replace hfr := hfr.put hk0 tr (by decide)
              replace hfa := hfa.all tl
              have hL_115 : ∀ (N : Nat) (pl : va_W) (x_118 : Int32), True → tt_ok tt_tk cA Kd pl → tt_fr Kd [(10, 3), (10, 4), (10, 5), (10, 6)] pl0 pl → tt_fa Kd [] pl0 pl → tt_at pl h0 2 (.int x_12) → tt_at pl h0 0 (.ref a_22) → tt_at pl h0 3 (.int x_118) → (0 : Int) ≤ x_118.toInt → x_118.toInt ≤ 400 → (401 - x_118.toInt ≤ (N : Int)) → jj_J p l e (jj_rm 1 21 0 0) s m args below meth c 1 A (vx_MQ below (jj_q D A (tt_O (fun rx pl1 r => rx = [] ∧ tt_ok tt_tk cA Kd pl1 ∧ tt_fr Kd [(10, 3), (10, 4), (10, 5), (10, 6)] pl0 pl1 ∧ tt_fa Kd [] pl0 pl1 ∧ ((r = none))))) (jj_x D A (tt_OX (fun _ _ _ => False))) args s 0 0 A) (jj_X D A ([] ++ pl)) 0 0 103 [(0, .ref h0)] [] := by
                intro NL_115
                induction NL_115 with
                | zero => intro pl x_118 _ hok hfr hfa hf_116 hf_117 hf_119 lx_118 ux_118 hNL_115; exfalso; omega
                | succ NL_115 ihL_115 =>
                  intro pl x_118 _ hok hfr hfa hf_116 hf_117 hf_119 lx_118 ux_118 hNL_115
                  replace ihL_115 := fun pl x_118 h1 => ihL_115 pl x_118 trivial h1
                  refine jj_aload_n C dX9_advance_103 rfl ?_
                  refine tt_getF C hok jk_10 3 (by decide) jw_f99bd0ca2b (t := (0, 0, 400)) hk0 (by decide) rfl rfl hf_119 dX9_advance_104 ?_
                  refine jj_aload_n C dX9_advance_107 rfl ?_
                  refine tt_getF C hok jk_10 2 (by decide) jw_bc3c1a7c51 (t := (0, 0, 400)) hk0 (by decide) rfl rfl hf_116 dX9_advance_108 ?_
                  refine jj_icmp_ge (tgt := 269) C dX9_advance_111 (by decide) (fun c_120 => ?_) (fun c_120 => ?_)
                  · have z_c_120 := jc_le (a := (x_12).toInt) (b := (x_118).toInt) c_120 rfl rfl
                    exact jj_vret C ⟨[], pl, rfl, rfl, hok, hfr, hfa, rfl⟩ dX9_advance_269 (jj_le rfl) (jj_le rfl)
                  · have z_c_120 := jc_nle (a := (x_12).toInt) (b := (x_118).toInt) c_120 rfl rfl
                    refine jj_aload_n C dX9_advance_114 rfl ?_
                    refine jj_aload_n C dX9_advance_115 rfl ?_
                    refine tt_getF C hok jk_10 3 (by decide) jw_f99bd0ca2b (t := (0, 0, 400)) hk0 (by decide) rfl rfl hf_119 dX9_advance_116 ?_
                    obtain ⟨qc, gs, hqc⟩ := tt_recv (cx := []) hok hk0 (by decide) rfl
                    refine tt_callV (rest := []) C (tc_X9_isLetter_1 hl D cA ak h0 x_118 hk0 (by omega) (by omega) hok) [] [] rfl rfl (by decide) (by decide) (by decide) qc hqc rfl rfl jw_5d32b2c455 jw_c77b9e5a65 jw_cdb619e1fe jw_a9e7b602dc jw_9e97b9dadb jn_X9_isLetter rfl (jj_le rfl) (jj_le rfl) (jj_le rfl) (jj_le rfl) (jj_le rfl) dX9_advance_119 rfl (fun _ _ _ hX => hX.elim) (fun rx pl_121 r O_124 => ?_)
                    obtain ⟨rfl, hok_122, hr_123, hfa9, hR_126⟩ := O_124
                    replace hf_116 := hr_123.at hk0 (by decide) (by decide) hf_116
                    replace hf_117 := hr_123.at hk0 (by decide) (by decide) hf_117
                    replace hf_119 := hr_123.at hk0 (by decide) (by decide) hf_119
                    replace hfr := hfr.trans (hr_123.sub (by decide))
                    replace hfa := hfa.trans (hfa9.sub (by decide))
                    rcases hR_126 with rfl | rfl
                    · refine jj_if_eqT (tgt := 269) C dX9_advance_122 (by decide) (by decide) ?_
                      exact jj_vret C ⟨[], pl_121, rfl, rfl, hok_122, hfr, hfa, rfl⟩ dX9_advance_269 (jj_le rfl) (jj_le rfl)
                    · refine jj_if_eqF (tgt := 269) C dX9_advance_122 (by decide) (by decide) ?_
                      refine jj_aload_n C dX9_advance_125 rfl ?_
                      refine jj_dup C dX9_advance_126 rfl ?_
                      refine tt_getF C hok_122 jk_10 3 (by decide) jw_f99bd0ca2b (t := (0, 0, 400)) hk0 (by decide) rfl rfl hf_119 dX9_advance_127 ?_
                      refine jj_iconst (v := 1) C dX9_advance_130 (by decide) ?_
                      obtain ⟨x_129, ex_129, vx_129⟩ := tt_iadd (x := x_118) (y := (1 : Int32)) (a := x_118.toInt) rfl (b := 1) (by decide) (by omega) (by omega)
                      refine jj_iadd (v := x_129) C dX9_advance_131 ex_129 ?_
                      refine rl_put C hok_122 jk_10 3 (by decide) jw_f99bd0ca2b (t := (0, 0, 400)) hk0 (by decide) rfl rfl rfl (tt_iv (by omega) (by omega)) rfl rfl dX9_advance_132 (fun pl_130 hok_131 tr hn tl => ?_)
                      replace hf_116 := tr _ _ _ (Or.inr (by decide)) hf_116
                      replace hf_117 := tr _ _ _ (Or.inr (by decide)) hf_117
                      have hf_132 := hn
                      replace hfr := hfr.put hk0 tr (by decide)
                      replace hfa := hfa.all tl
                      refine jj_goto (tgt := 103) C dX9_advance_135 (by decide) ?_
                      exact ihL_115 pl_130 x_129 hok_131 hfr hfa hf_116 hf_117 hf_132 (by first | omega | decide | exact tt_lo _ | exact tt_hi _) (by first | omega | decide | exact tt_lo _ | exact tt_hi _) (by first | omega | decide | exact tt_lo _ | exact tt_hi _)
              exact hL_115 _ pl_112 x_8 trivial hok_113 hfr hfa hf_11 hf_21 hf_33 (by first | omega | decide | exact tt_lo _ | exact tt_hi _) (by first | omega | decide | exact tt_lo _ | exact tt_hi _) (Int.self_le_toNat _)
          · have z_c_30 := jc_eq (a := (v_29).toInt) (b := (10)) c_30 rfl (by decide)
            refine jj_aload_n C dX9_advance_47 rfl ?_
            refine jj_dup C dX9_advance_48 rfl ?_
            refine tt_getF C hok jk_10 4 (by decide) jw_66bda6962a (t := (0, 0, 400)) hk0 (by decide) rfl rfl hf_9 dX9_advance_49 ?_
            refine jj_iconst (v := 1) C dX9_advance_52 (by decide) ?_
            obtain ⟨x_133, ex_133, vx_133⟩ := tt_iadd (x := x_8) (y := (1 : Int32)) (a := x_8.toInt) rfl (b := 1) (by decide) (by omega) (by omega)
            refine jj_iadd (v := x_133) C dX9_advance_53 ex_133 ?_
            refine rl_put C hok jk_10 4 (by decide) jw_66bda6962a (t := (0, 0, 400)) hk0 (by decide) rfl rfl rfl (tt_iv (by omega) (by omega)) rfl rfl dX9_advance_54 (fun pl_134 hok_135 tr hn tl => ?_)
            replace hf_11 := tr _ _ _ (Or.inr (by decide)) hf_11
            replace hf_21 := tr _ _ _ (Or.inr (by decide)) hf_21
            have hf_136 := hn
            replace hfr := hfr.put hk0 tr (by decide)
            replace hfa := hfa.all tl
            refine jj_goto (tgt := 8) C dX9_advance_57 (by decide) ?_
            exact ihL_7 pl_134 x_133 hok_135 hfr hfa hf_136 (by first | omega | decide | exact tt_lo _ | exact tt_hi _) (by first | omega | decide | exact tt_lo _ | exact tt_hi _) (by first | omega | decide | exact tt_lo _ | exact tt_hi _)
  exact hL_7 _ pl_4 x_3 trivial hok_5 hfr hfa hf_6 (by first | omega | decide | exact tt_lo _ | exact tt_hi _) (by first | omega | decide | exact tt_lo _ | exact tt_hi _) (Int.self_le_toNat _)

