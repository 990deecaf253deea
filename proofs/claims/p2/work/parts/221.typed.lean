set_option maxHeartbeats 4000000 in
set_option maxRecDepth 100000 in
theorem tc_X2_settleAll_1 {l : Launch} (hl : l.stackTraces = false) (D : va_G) (cA : Nat → ClassId) (ak : (Nat → Nat) × (Nat → Nat)) {Kd : Nat → Nat} (h0 : Nat) (hk0 : Kd h0 = 1) {pl0 : va_W} (hok : tt_ok tt_tk cA Kd pl0) : jj_M l D cA ak yX2_settleAll (.code yX2_settleAll cX2_settleAll 4 (some .long)) 3 87 0 0 ([] ++ pl0) [.ref h0] (tt_O (fun rx pl1 r => rx = [] ∧ tt_ok tt_tk cA Kd pl1 ∧ tt_fr Kd [(1, 7), (1, 8), (2, 2), (2, 3), (2, 4), (3, 3), (3, 4), (3, 5)] pl0 pl1 ∧ ((∃ v : Int64, r = some (.long v))))) (tt_OX (fun _ _ _ => False)) := by
  refine jj_start hl (by decide) jw_692 (jj_le rfl) ?_
  intro p e s m args below meth c A hargs hA C hex hmn
  have hfr := tt_fr.refl (K := Kd) (WS := [(1, 7), (1, 8), (2, 2), (2, 3), (2, 4), (3, 3), (3, 4), (3, 5)]) pl0
  refine jj_aload_n C dX2_settleAll_0 rfl ?_
  refine tt_get C hok jk_2 10 (by decide) jw_319 (t := (2, 5, 0)) hk0 (by decide) rfl rfl dX2_settleAll_1 (fun v_1 hv_1 hf_2 => ?_)
  obtain ⟨a_3, rfl, ka_3⟩ := tt_vr hv_1
  refine jj_iconst (v := 0) C dX2_settleAll_4 (by decide) ?_
  refine tt_lald C hok (t := (1, (-9223372036854775808), 9223372036854775807)) ka_3 (by decide) rfl (vp_in_iff.mpr (by decide)) dX2_settleAll_5 (fun v_4 hv_4 => ?_)
  refine jj_lstore_n C dX2_settleAll_6 (by decide) rfl ?_
  refine jj_iconst (v := 0) C dX2_settleAll_7 (by decide) ?_
  refine jj_istore_n C dX2_settleAll_8 (by decide) rfl ?_
  have hL_5 : ∀ (N : Nat) (pl : va_W) (x_6 : Int32), True → tt_ok tt_tk cA Kd pl → tt_fr Kd [(1, 7), (1, 8), (2, 2), (2, 3), (2, 4), (3, 3), (3, 4), (3, 5)] pl0 pl → tt_at pl h0 10 (.ref a_3) → (0 : Int) ≤ x_6.toInt → x_6.toInt ≤ 6 → (2147483648 - x_6.toInt ≤ (N : Int)) → jj_J p l e (jj_rm 3 87 0 0) s m args below meth c 4 A (vx_MQ below (jj_q D A (tt_O (fun rx pl1 r => rx = [] ∧ tt_ok tt_tk cA Kd pl1 ∧ tt_fr Kd [(1, 7), (1, 8), (2, 2), (2, 3), (2, 4), (3, 3), (3, 4), (3, 5)] pl0 pl1 ∧ ((∃ v : Int64, r = some (.long v)))))) (jj_x D A (tt_OX (fun _ _ _ => False))) args s 0 0 A) (jj_X D A ([] ++ pl)) 0 0 9 [(3, .int x_6), (1, .long v_4), (0, .ref h0)] [] := by
    intro NL_5
    induction NL_5 with
    | zero => intro pl x_6 _ hok hfr hf_7 lx_6 ux_6 hNL_5; exfalso; omega
    | succ NL_5 ihL_5 =>
      intro pl x_6 _ hok hfr hf_7 lx_6 ux_6 hNL_5
      replace ihL_5 := fun pl x_6 h1 => ihL_5 pl x_6 trivial h1
      refine jj_iload_n C dX2_settleAll_9 rfl ?_
      refine jj_aload_n C dX2_settleAll_10 rfl ?_
      refine tt_get C hok jk_2 7 (by decide) jw_317 (t := (0, 0, 6)) hk0 (by decide) rfl rfl dX2_settleAll_11 (fun v_8 hv_8 hf_9 => ?_)
      obtain ⟨x_10, rfl, lx_10, ux_10⟩ := tt_vi hv_8
      refine jj_icmp_ge (tgt := 33) C dX2_settleAll_14 (by decide) (fun c_11 => ?_) (fun c_11 => ?_)
      · have z_c_11 := jc_le (a := (x_10).toInt) (b := (x_6).toInt) c_11 rfl rfl
        refine jj_aload_n C dX2_settleAll_33 rfl ?_
        obtain ⟨qc, gs, hqc⟩ := tt_recv (cx := []) hok hk0 (by decide) rfl
        refine tt_callV (rest := []) C (tc_X0_dropEmptyLots_1 hl D cA ak h0 hk0 hok) [] [] rfl rfl (by decide) (by decide) (by decide) qc hqc rfl rfl jw_693 jw_258 jw_259 jw_133 jw_257 jn_X0_dropEmptyLots rfl (jj_le rfl) (jj_le rfl) (jj_le rfl) (jj_le rfl) (jj_le rfl) dX2_settleAll_34 rfl (fun _ _ _ hX => hX.elim) (fun rx pl_12 r O_15 => ?_)
        obtain ⟨rfl, hok_13, hr_14, hR_17⟩ := O_15
        replace hf_7 := hr_14.at hk0 (by decide) (by decide) hf_7
        replace hf_9 := hr_14.at hk0 (by decide) (by decide) hf_9
        replace hfr := hfr.trans (hr_14.sub (by decide))
        obtain rfl := hR_17
        refine jj_aload_n C dX2_settleAll_37 rfl ?_
        obtain ⟨qc, gs, hqc⟩ := tt_recv (cx := []) hok_13 hk0 (by decide) rfl
        refine tt_callV (rest := []) C (tc_X0_closeEmptySeries_1 hl D cA ak h0 hk0 hok_13) [] [] rfl rfl (by decide) (by decide) (by decide) qc hqc rfl rfl jw_694 jw_264 jw_265 jw_133 jw_262 jn_X0_closeEmptySeries rfl (jj_le rfl) (jj_le rfl) (jj_le rfl) (jj_le rfl) (jj_le rfl) dX2_settleAll_38 rfl (fun _ _ _ hX => hX.elim) (fun rx pl_18 r O_21 => ?_)
        obtain ⟨rfl, hok_19, hr_20, hR_23⟩ := O_21
        replace hf_7 := hr_20.at hk0 (by decide) (by decide) hf_7
        replace hfr := hfr.trans (hr_20.sub (by decide))
        obtain rfl := hR_23
        refine jj_aload_n C dX2_settleAll_41 rfl ?_
        refine tt_getF C hok_19 jk_2 10 (by decide) jw_319 (t := (2, 5, 0)) hk0 (by decide) rfl rfl hf_7 dX2_settleAll_42 ?_
        refine jj_iconst (v := 0) C dX2_settleAll_45 (by decide) ?_
        refine tt_lald C hok_19 (t := (1, (-9223372036854775808), 9223372036854775807)) ka_3 (by decide) rfl (vp_in_iff.mpr (by decide)) dX2_settleAll_46 (fun v_24 hv_24 => ?_)
        refine jj_lload_n C dX2_settleAll_47 rfl ?_
        obtain ⟨y_25, ey_25⟩ : ∃ z : Int64, v_24 - v_4 = z := ⟨_, rfl⟩
        refine jj_lsub (v := y_25) C dX2_settleAll_48 ey_25 ?_
        exact jj_lret C ⟨[], pl_18, rfl, rfl, hok_19, hfr, ⟨y_25, rfl⟩⟩ dX2_settleAll_49 (jj_le rfl) (jj_le rfl)
      · have z_c_11 := jc_nle (a := (x_10).toInt) (b := (x_6).toInt) c_11 rfl rfl
        refine jj_aload_n C dX2_settleAll_17 rfl ?_
        refine jj_aload_n C dX2_settleAll_18 rfl ?_
        refine tt_get C hok jk_2 11 (by decide) jw_320 (t := (2, 6, 0)) hk0 (by decide) rfl rfl dX2_settleAll_19 (fun v_26 hv_26 hf_27 => ?_)
        obtain ⟨a_28, rfl, ka_28⟩ := tt_vr hv_26
        refine jj_iload_n C dX2_settleAll_22 rfl ?_
        refine tt_aald C hok (t := (2, 2, 0)) ka_28 (by decide) rfl rfl rfl (vp_in_iff.mpr ⟨by omega, by omega⟩) dX2_settleAll_23 (fun v_29 hv_29 => ?_)
        obtain ⟨a_30, rfl, ka_30⟩ := tt_vr hv_29
        refine tt_callS (rest := []) C (tc_X2_settleSeries_1 hl D cA ak h0 a_30 hk0 ka_30 hok) [] [] rfl rfl (by decide) (by decide) (by decide) jw_695 jw_720 jw_175 jw_696 jn_X2_settleSeries rfl (jj_le rfl) (jj_le rfl) (jj_le rfl) (jj_le rfl) (jj_le rfl) dX2_settleAll_24 rfl (fun _ _ _ hX => hX.elim) (fun rx pl_31 r O_34 => ?_)
        obtain ⟨rfl, hok_32, hr_33, hR_36⟩ := O_34
        replace hf_7 := hr_33.at hk0 (by decide) (by decide) hf_7
        replace hf_9 := hr_33.at hk0 (by decide) (by decide) hf_9
        replace hf_27 := hr_33.at hk0 (by decide) (by decide) hf_27
        replace hfr := hfr.trans (hr_33.sub (by decide))
        obtain rfl := hR_36
        obtain ⟨x_37, ex_37, vx_37⟩ := tt_inc (x := x_6) (n := 1) (by omega) (by omega)
        refine jj_iinc (v := x_37) C dX2_settleAll_27 rfl ex_37 (by decide) rfl ?_
        refine jj_goto (tgt := 9) C dX2_settleAll_30 (by decide) ?_
        exact ihL_5 pl_31 x_37 hok_32 hfr hf_7 (by first | omega | decide | exact tt_lo _ | exact tt_hi _) (by first | omega | decide | exact tt_lo _ | exact tt_hi _) (by first | omega | decide | exact tt_lo _ | exact tt_hi _)
  exact hL_5 _ pl0 (0 : Int32) trivial hok hfr hf_2 (by first | omega | decide | exact tt_lo _ | exact tt_hi _) (by first | omega | decide | exact tt_lo _ | exact tt_hi _) (Int.self_le_toNat _)

set_option maxHeartbeats 4000000 in
set_option maxRecDepth 100000 in
theorem tc_X2_absorb_1 {l : Launch} (hl : l.stackTraces = false) (D : va_G) (cA : Nat → ClassId) (ak : (Nat → Nat) × (Nat → Nat)) {Kd : Nat → Nat} (h0 : Nat) (h1 : Nat) (h3 : Nat) (hk0 : Kd h0 = 1) (hk1 : Kd h1 = 2) (hk3 : Kd h3 = 2) {pl0 : va_W} (hok : tt_ok tt_tk cA Kd pl0) : jj_M l D cA ak yX2_absorb (.code yX2_absorb cX2_absorb 9 none) 1 20 0 0 ([] ++ pl0) [.ref h0, .ref h1, .long 1000000, .ref h3] (tt_O (fun rx pl1 r => rx = [] ∧ tt_ok tt_tk cA Kd pl1 ∧ tt_fr Kd [(2, 2), (2, 3), (3, 1), (3, 3), (3, 4)] pl0 pl1 ∧ ((r = none)))) (tt_OX (fun _ _ _ => False)) := by
  refine jj_start hl (by decide) jw_727 (jj_le rfl) ?_
  intro p e s m args below meth c A hargs hA C hex hmn
  have hfr := tt_fr.refl (K := Kd) (WS := [(2, 2), (2, 3), (3, 1), (3, 3), (3, 4)]) pl0
  refine jj_aload C dX2_absorb_0 rfl ?_
  obtain ⟨qc, gs, hqc⟩ := tt_recv (cx := []) hok hk3 (by decide) rfl
  refine tt_callV (rest := []) C (tc_X8_grossPrice_1 hl D cA ak h3 hk3 hok) [] [] rfl rfl (by decide) (by decide) (by decide) qc hqc rfl rfl jw_697 jw_169 jw_170 jw_92 jw_167 jn_X8_grossPrice rfl (jj_le rfl) (jj_le rfl) (jj_le rfl) (jj_le rfl) (jj_le rfl) dX2_absorb_2 rfl (fun _ _ _ hX => hX.elim) (fun rx pl_1 r O_4 => ?_)
  obtain ⟨rfl, hok_2, hr_3, hR_6⟩ := O_4
  replace hfr := hfr.trans (hr_3.sub (by decide))
  rcases hR_6 with rfl | ⟨y_7, rfl⟩
  · refine jj_lstore C dX2_absorb_5 (by decide) rfl ?_
    refine jj_iconst (v := 0) C dX2_absorb_7 (by decide) ?_
    refine jj_istore C dX2_absorb_8 (by decide) rfl ?_
    have hL_8 : ∀ (N : Nat) (pl : va_W) (x_9 : Int32), True → tt_ok tt_tk cA Kd pl → tt_fr Kd [(2, 2), (2, 3), (3, 1), (3, 3), (3, 4)] pl0 pl → (0 : Int) ≤ x_9.toInt → x_9.toInt ≤ 40 → (2147483648 - x_9.toInt ≤ (N : Int)) → jj_J p l e (jj_rm 1 20 0 0) s m args below meth c 9 A (vx_MQ below (jj_q D A (tt_O (fun rx pl1 r => rx = [] ∧ tt_ok tt_tk cA Kd pl1 ∧ tt_fr Kd [(2, 2), (2, 3), (3, 1), (3, 3), (3, 4)] pl0 pl1 ∧ ((r = none))))) (jj_x D A (tt_OX (fun _ _ _ => False))) args s 0 0 A) (jj_X D A ([] ++ pl)) 0 0 10 [(7, .int x_9), (5, .long 1000000), (0, .ref h0), (1, .ref h1), (2, .long 1000000), (4, .ref h3)] [] := by
      intro NL_8
      induction NL_8 with
      | zero => intro pl x_9 _ hok hfr lx_9 ux_9 hNL_8; exfalso; omega
      | succ NL_8 ihL_8 =>
        intro pl x_9 _ hok hfr lx_9 ux_9 hNL_8
        replace ihL_8 := fun pl x_9 h1 => ihL_8 pl x_9 trivial h1
        refine jj_iload C dX2_absorb_10 rfl ?_
        refine jj_aload_n C dX2_absorb_12 rfl ?_
        refine tt_get C hok jk_2 8 (by decide) jw_700 (t := (0, 0, 40)) hk0 (by decide) rfl rfl dX2_absorb_13 (fun v_10 hv_10 hf_11 => ?_)
        obtain ⟨x_12, rfl, lx_12, ux_12⟩ := tt_vi hv_10
        refine jj_icmp_ge (tgt := 101) C dX2_absorb_16 (by decide) (fun c_13 => ?_) (fun c_13 => ?_)
        · have z_c_13 := jc_le (a := (x_12).toInt) (b := (x_9).toInt) c_13 rfl rfl
          refine jj_aload_n C dX2_absorb_101 rfl ?_
          refine jj_dup C dX2_absorb_102 rfl ?_
          refine tt_get C hok jk_9 2 (by decide) jw_321 (t := (1, (-9223372036854775808), 9223372036854775807)) hk1 (by decide) rfl rfl dX2_absorb_103 (fun v_14 hv_14 hf_15 => ?_)
          obtain ⟨y_16, rfl, -, -⟩ := tt_vj hv_14
          refine jj_aload C dX2_absorb_106 rfl ?_
          refine tt_get C hok jk_9 2 (by decide) jw_321 (t := (1, (-9223372036854775808), 9223372036854775807)) hk3 (by decide) rfl rfl dX2_absorb_108 (fun v_17 hv_17 hf_18 => ?_)
          obtain ⟨y_19, rfl, -, -⟩ := tt_vj hv_17
          obtain ⟨y_20, ey_20⟩ : ∃ z : Int64, y_16 + y_19 = z := ⟨_, rfl⟩
          refine jj_ladd (v := y_20) C dX2_absorb_111 ey_20 ?_
          refine tt_put C hok jk_9 2 (by decide) jw_321 (t := (1, (-9223372036854775808), 9223372036854775807)) hk1 (by decide) rfl rfl rfl (tt_ja y_20) rfl rfl dX2_absorb_112 (fun pl_21 hok_22 tr hn => ?_)
          replace hf_11 := tr _ _ _ (Or.inl (tt_ne hk0 hk1 (by decide))) hf_11
          have hf_23 := hn
          replace hfr := hfr.put hk1 tr (by decide)
          refine jj_aload C dX2_absorb_115 rfl ?_
          refine jj_lconst (v := 0) C dX2_absorb_117 (by decide) ?_
          refine tt_put C hok_22 jk_9 2 (by decide) jw_321 (t := (1, (-9223372036854775808), 9223372036854775807)) hk3 (by decide) rfl rfl rfl (tt_ja (0 : Int64)) rfl rfl dX2_absorb_118 (fun pl_24 hok_25 tr hn => ?_)
          replace hf_11 := tr _ _ _ (Or.inl (tt_ne hk0 hk3 (by decide))) hf_11
          have hf_26 := hn
          replace hfr := hfr.put hk3 tr (by decide)
          refine jj_aload C dX2_absorb_121 rfl ?_
          refine jj_lconst (v := 0) C dX2_absorb_123 (by decide) ?_
          refine tt_put C hok_25 jk_9 3 (by decide) jw_712 (t := (1, (-9223372036854775808), 9223372036854775807)) hk3 (by decide) rfl rfl rfl (tt_ja (0 : Int64)) rfl rfl dX2_absorb_124 (fun pl_27 hok_28 tr hn => ?_)
          replace hf_11 := tr _ _ _ (Or.inl (tt_ne hk0 hk3 (by decide))) hf_11
          replace hf_26 := tr _ _ _ (Or.inr (by decide)) hf_26
          have hf_29 := hn
          replace hfr := hfr.put hk3 tr (by decide)
          exact jj_vret C ⟨[], pl_27, rfl, rfl, hok_28, hfr, rfl⟩ dX2_absorb_127 (jj_le rfl) (jj_le rfl)
        · have z_c_13 := jc_nle (a := (x_12).toInt) (b := (x_9).toInt) c_13 rfl rfl
          refine jj_aload_n C dX2_absorb_19 rfl ?_
          refine tt_get C hok jk_2 12 (by decide) jw_701 (t := (2, 7, 0)) hk0 (by decide) rfl rfl dX2_absorb_20 (fun v_30 hv_30 hf_31 => ?_)
          obtain ⟨a_32, rfl, ka_32⟩ := tt_vr hv_30
          refine jj_iload C dX2_absorb_23 rfl ?_
          refine tt_aald C hok (t := (2, 3, 0)) ka_32 (by decide) rfl rfl rfl (vp_in_iff.mpr ⟨by omega, by omega⟩) dX2_absorb_25 (fun v_33 hv_33 => ?_)
          obtain ⟨a_34, rfl, ka_34⟩ := tt_vr hv_33
          refine jj_astore C dX2_absorb_26 (by decide) rfl ?_
          refine jj_aload C dX2_absorb_28 rfl ?_
          refine tt_get C hok jk_5 1 (by decide) jw_702 (t := (0, (-2147483648), 2147483647)) ka_34 (by decide) rfl rfl dX2_absorb_30 (fun v_35 hv_35 hf_36 => ?_)
          obtain ⟨x_37, rfl, lx_37, ux_37⟩ := tt_vi hv_35
          refine jj_aload C dX2_absorb_33 rfl ?_
          refine tt_get C hok jk_9 0 (by decide) jw_703 (t := (0, (-2147483648), 2147483647)) hk3 (by decide) rfl rfl dX2_absorb_35 (fun v_38 hv_38 hf_39 => ?_)
          obtain ⟨x_40, rfl, lx_40, ux_40⟩ := tt_vi hv_38
          refine jj_icmp_ne (tgt := 95) C dX2_absorb_38 (by decide) (fun c_41 => ?_) (fun c_41 => ?_)
          · have z_c_41 := jc_neq (a := (x_37).toInt) (b := (x_40).toInt) c_41 rfl rfl
            obtain ⟨x_42, ex_42, vx_42⟩ := tt_inc (x := x_9) (n := 1) (by omega) (by omega)
            refine jj_iinc (v := x_42) C dX2_absorb_95 rfl ex_42 (by decide) rfl ?_
            refine jj_goto (tgt := 10) C dX2_absorb_98 (by decide) ?_
            refine jj_loc [0, 2, 3, 4, 5, 6] rfl ?_
            exact ihL_8 pl x_42 hok hfr (by first | omega | decide | exact tt_lo _ | exact tt_hi _) (by first | omega | decide | exact tt_lo _ | exact tt_hi _) (by first | omega | decide | exact tt_lo _ | exact tt_hi _)
          · have z_c_41 := jc_eq (a := (x_37).toInt) (b := (x_40).toInt) c_41 rfl rfl
            refine jj_aload C dX2_absorb_41 rfl ?_
            refine jj_lload_n C dX2_absorb_43 rfl ?_
            refine jj_lconst (v := 0) C dX2_absorb_44 (by decide) ?_
            refine jj_lcmp_leF (tgt := 62) C dX2_absorb_45 dX2_absorb_46 (by decide) (by decide) ?_
            refine jj_aload C dX2_absorb_49 rfl ?_
            refine tt_get C hok jk_5 3 (by decide) jw_711 (t := (1, (-9223372036854775808), 9223372036854775807)) ka_34 (by decide) rfl rfl dX2_absorb_51 (fun v_43 hv_43 hf_44 => ?_)
            obtain ⟨y_45, rfl, -, -⟩ := tt_vj hv_43
            refine jj_lload C dX2_absorb_54 rfl ?_
            obtain ⟨y_46, ey_46⟩ : ∃ z : Int64, y_45 * (1000000 : Int64) = z := ⟨_, rfl⟩
            refine jj_lmul (v := y_46) C dX2_absorb_56 ey_46 ?_
            refine jj_lload_n C dX2_absorb_57 rfl ?_
            obtain ⟨y_47, ey_47⟩ : ∃ z : Int64, y_46 / (1000000 : Int64) = z := ⟨_, rfl⟩
            refine jj_ldiv (v := y_47) C dX2_absorb_58 (by decide) ey_47 ?_
            refine jj_goto (tgt := 63) C dX2_absorb_59 (by decide) ?_
            refine tt_put C hok jk_5 3 (by decide) jw_711 (t := (1, (-9223372036854775808), 9223372036854775807)) ka_34 (by decide) rfl rfl rfl (tt_ja y_47) rfl rfl dX2_absorb_63 (fun pl_48 hok_49 tr hn => ?_)
            replace hf_11 := tr _ _ _ (Or.inl (tt_ne hk0 ka_34 (by decide))) hf_11
            replace hf_31 := tr _ _ _ (Or.inl (tt_ne hk0 ka_34 (by decide))) hf_31
            replace hf_36 := tr _ _ _ (Or.inr (by decide)) hf_36
            replace hf_39 := tr _ _ _ (Or.inl (tt_ne hk3 ka_34 (by decide))) hf_39
            have hf_50 := hn
            replace hfr := hfr.put ka_34 tr (by decide)
            refine jj_aload C dX2_absorb_66 rfl ?_
            refine jj_aload_n C dX2_absorb_68 rfl ?_
            refine tt_get C hok_49 jk_9 0 (by decide) jw_703 (t := (0, (-2147483648), 2147483647)) hk1 (by decide) rfl rfl dX2_absorb_69 (fun v_51 hv_51 hf_52 => ?_)
            obtain ⟨x_53, rfl, lx_53, ux_53⟩ := tt_vi hv_51
            refine tt_put C hok_49 jk_5 1 (by decide) jw_702 (t := (0, (-2147483648), 2147483647)) ka_34 (by decide) rfl rfl rfl (tt_ia x_53) rfl rfl dX2_absorb_72 (fun pl_54 hok_55 tr hn => ?_)
            replace hf_11 := tr _ _ _ (Or.inl (tt_ne hk0 ka_34 (by decide))) hf_11
            replace hf_31 := tr _ _ _ (Or.inl (tt_ne hk0 ka_34 (by decide))) hf_31
            replace hf_39 := tr _ _ _ (Or.inl (tt_ne hk3 ka_34 (by decide))) hf_39
            replace hf_50 := tr _ _ _ (Or.inr (by decide)) hf_50
            replace hf_52 := tr _ _ _ (Or.inl (tt_ne hk1 ka_34 (by decide))) hf_52
            have hf_56 := hn
            replace hfr := hfr.put ka_34 tr (by decide)
            refine jj_aload C dX2_absorb_75 rfl ?_
            refine jj_lload_n C dX2_absorb_77 rfl ?_
            refine tt_put C hok_55 jk_5 4 (by decide) jw_705 (t := (1, (-9223372036854775808), 9223372036854775807)) ka_34 (by decide) rfl rfl rfl (tt_ja (1000000 : Int64)) rfl rfl dX2_absorb_78 (fun pl_57 hok_58 tr hn => ?_)
            replace hf_11 := tr _ _ _ (Or.inl (tt_ne hk0 ka_34 (by decide))) hf_11
            replace hf_31 := tr _ _ _ (Or.inl (tt_ne hk0 ka_34 (by decide))) hf_31
            replace hf_39 := tr _ _ _ (Or.inl (tt_ne hk3 ka_34 (by decide))) hf_39
            replace hf_50 := tr _ _ _ (Or.inr (by decide)) hf_50
            replace hf_52 := tr _ _ _ (Or.inl (tt_ne hk1 ka_34 (by decide))) hf_52
            replace hf_56 := tr _ _ _ (Or.inr (by decide)) hf_56
            have hf_59 := hn
            replace hfr := hfr.put ka_34 tr (by decide)
            refine jj_aload_n C dX2_absorb_81 rfl ?_
            refine jj_dup C dX2_absorb_82 rfl ?_
            refine tt_get C hok_58 jk_9 3 (by decide) jw_712 (t := (1, (-9223372036854775808), 9223372036854775807)) hk1 (by decide) rfl rfl dX2_absorb_83 (fun v_60 hv_60 hf_61 => ?_)
            obtain ⟨y_62, rfl, -, -⟩ := tt_vj hv_60
            refine jj_aload C dX2_absorb_86 rfl ?_
            refine tt_getF C hok_58 jk_5 3 (by decide) jw_711 (t := (1, (-9223372036854775808), 9223372036854775807)) ka_34 (by decide) rfl rfl hf_50 dX2_absorb_88 ?_
            obtain ⟨y_63, ey_63⟩ : ∃ z : Int64, y_62 + y_47 = z := ⟨_, rfl⟩
            refine jj_ladd (v := y_63) C dX2_absorb_91 ey_63 ?_
            refine tt_put C hok_58 jk_9 3 (by decide) jw_712 (t := (1, (-9223372036854775808), 9223372036854775807)) hk1 (by decide) rfl rfl rfl (tt_ja y_63) rfl rfl dX2_absorb_92 (fun pl_64 hok_65 tr hn => ?_)
            replace hf_11 := tr _ _ _ (Or.inl (tt_ne hk0 hk1 (by decide))) hf_11
            replace hf_31 := tr _ _ _ (Or.inl (tt_ne hk0 hk1 (by decide))) hf_31
            replace hf_39 := tr _ _ _ (Or.inr (by decide)) hf_39
            replace hf_50 := tr _ _ _ (Or.inl (tt_ne ka_34 hk1 (by decide))) hf_50
            replace hf_52 := tr _ _ _ (Or.inr (by decide)) hf_52
            replace hf_56 := tr _ _ _ (Or.inl (tt_ne ka_34 hk1 (by decide))) hf_56
            replace hf_59 := tr _ _ _ (Or.inl (tt_ne ka_34 hk1 (by decide))) hf_59
            have hf_66 := hn
            replace hfr := hfr.put hk1 tr (by decide)
            obtain ⟨x_67, ex_67, vx_67⟩ := tt_inc (x := x_9) (n := 1) (by omega) (by omega)
            refine jj_iinc (v := x_67) C dX2_absorb_95 rfl ex_67 (by decide) rfl ?_
            refine jj_goto (tgt := 10) C dX2_absorb_98 (by decide) ?_
            refine jj_loc [0, 2, 3, 4, 5, 6] rfl ?_
            exact ihL_8 pl_64 x_67 hok_65 hfr (by first | omega | decide | exact tt_lo _ | exact tt_hi _) (by first | omega | decide | exact tt_lo _ | exact tt_hi _) (by first | omega | decide | exact tt_lo _ | exact tt_hi _)
    exact hL_8 _ pl_1 (0 : Int32) trivial hok_2 hfr (by first | omega | decide | exact tt_lo _ | exact tt_hi _) (by first | omega | decide | exact tt_lo _ | exact tt_hi _) (Int.self_le_toNat _)
  · refine jj_lstore C dX2_absorb_5 (by decide) rfl ?_
    refine jj_iconst (v := 0) C dX2_absorb_7 (by decide) ?_
    refine jj_istore C dX2_absorb_8 (by decide) rfl ?_
    have hL_68 : ∀ (N : Nat) (pl : va_W) (x_69 : Int32), True → tt_ok tt_tk cA Kd pl → tt_fr Kd [(2, 2), (2, 3), (3, 1), (3, 3), (3, 4)] pl0 pl → (0 : Int) ≤ x_69.toInt → x_69.toInt ≤ 40 → (2147483648 - x_69.toInt ≤ (N : Int)) → jj_J p l e (jj_rm 1 20 0 0) s m args below meth c 9 A (vx_MQ below (jj_q D A (tt_O (fun rx pl1 r => rx = [] ∧ tt_ok tt_tk cA Kd pl1 ∧ tt_fr Kd [(2, 2), (2, 3), (3, 1), (3, 3), (3, 4)] pl0 pl1 ∧ ((r = none))))) (jj_x D A (tt_OX (fun _ _ _ => False))) args s 0 0 A) (jj_X D A ([] ++ pl)) 0 0 10 [(7, .int x_69), (5, .long y_7), (0, .ref h0), (1, .ref h1), (2, .long 1000000), (4, .ref h3)] [] := by
      intro NL_68
      induction NL_68 with
      | zero => intro pl x_69 _ hok hfr lx_69 ux_69 hNL_68; exfalso; omega
      | succ NL_68 ihL_68 =>
        intro pl x_69 _ hok hfr lx_69 ux_69 hNL_68
        replace ihL_68 := fun pl x_69 h1 => ihL_68 pl x_69 trivial h1
        refine jj_iload C dX2_absorb_10 rfl ?_
        refine jj_aload_n C dX2_absorb_12 rfl ?_
        refine tt_get C hok jk_2 8 (by decide) jw_700 (t := (0, 0, 40)) hk0 (by decide) rfl rfl dX2_absorb_13 (fun v_70 hv_70 hf_71 => ?_)
        obtain ⟨x_72, rfl, lx_72, ux_72⟩ := tt_vi hv_70
        refine jj_icmp_ge (tgt := 101) C dX2_absorb_16 (by decide) (fun c_73 => ?_) (fun c_73 => ?_)
        · have z_c_73 := jc_le (a := (x_72).toInt) (b := (x_69).toInt) c_73 rfl rfl
          refine jj_aload_n C dX2_absorb_101 rfl ?_
          refine jj_dup C dX2_absorb_102 rfl ?_
          refine tt_get C hok jk_9 2 (by decide) jw_321 (t := (1, (-9223372036854775808), 9223372036854775807)) hk1 (by decide) rfl rfl dX2_absorb_103 (fun v_74 hv_74 hf_75 => ?_)
          obtain ⟨y_76, rfl, -, -⟩ := tt_vj hv_74
          refine jj_aload C dX2_absorb_106 rfl ?_
          refine tt_get C hok jk_9 2 (by decide) jw_321 (t := (1, (-9223372036854775808), 9223372036854775807)) hk3 (by decide) rfl rfl dX2_absorb_108 (fun v_77 hv_77 hf_78 => ?_)
          obtain ⟨y_79, rfl, -, -⟩ := tt_vj hv_77
          obtain ⟨y_80, ey_80⟩ : ∃ z : Int64, y_76 + y_79 = z := ⟨_, rfl⟩
          refine jj_ladd (v := y_80) C dX2_absorb_111 ey_80 ?_
          refine tt_put C hok jk_9 2 (by decide) jw_321 (t := (1, (-9223372036854775808), 9223372036854775807)) hk1 (by decide) rfl rfl rfl (tt_ja y_80) rfl rfl dX2_absorb_112 (fun pl_81 hok_82 tr hn => ?_)
          replace hf_71 := tr _ _ _ (Or.inl (tt_ne hk0 hk1 (by decide))) hf_71
          have hf_83 := hn
          replace hfr := hfr.put hk1 tr (by decide)
          refine jj_aload C dX2_absorb_115 rfl ?_
          refine jj_lconst (v := 0) C dX2_absorb_117 (by decide) ?_
          refine tt_put C hok_82 jk_9 2 (by decide) jw_321 (t := (1, (-9223372036854775808), 9223372036854775807)) hk3 (by decide) rfl rfl rfl (tt_ja (0 : Int64)) rfl rfl dX2_absorb_118 (fun pl_84 hok_85 tr hn => ?_)
          replace hf_71 := tr _ _ _ (Or.inl (tt_ne hk0 hk3 (by decide))) hf_71
          have hf_86 := hn
          replace hfr := hfr.put hk3 tr (by decide)
          refine jj_aload C dX2_absorb_121 rfl ?_
          refine jj_lconst (v := 0) C dX2_absorb_123 (by decide) ?_
          refine tt_put C hok_85 jk_9 3 (by decide) jw_712 (t := (1, (-9223372036854775808), 9223372036854775807)) hk3 (by decide) rfl rfl rfl (tt_ja (0 : Int64)) rfl rfl dX2_absorb_124 (fun pl_87 hok_88 tr hn => ?_)
          replace hf_71 := tr _ _ _ (Or.inl (tt_ne hk0 hk3 (by decide))) hf_71
          replace hf_86 := tr _ _ _ (Or.inr (by decide)) hf_86
          have hf_89 := hn
          replace hfr := hfr.put hk3 tr (by decide)
          exact jj_vret C ⟨[], pl_87, rfl, rfl, hok_88, hfr, rfl⟩ dX2_absorb_127 (jj_le rfl) (jj_le rfl)
        · have z_c_73 := jc_nle (a := (x_72).toInt) (b := (x_69).toInt) c_73 rfl rfl
          refine jj_aload_n C dX2_absorb_19 rfl ?_
          refine tt_get C hok jk_2 12 (by decide) jw_701 (t := (2, 7, 0)) hk0 (by decide) rfl rfl dX2_absorb_20 (fun v_90 hv_90 hf_91 => ?_)
          obtain ⟨a_92, rfl, ka_92⟩ := tt_vr hv_90
          refine jj_iload C dX2_absorb_23 rfl ?_
          refine tt_aald C hok (t := (2, 3, 0)) ka_92 (by decide) rfl rfl rfl (vp_in_iff.mpr ⟨by omega, by omega⟩) dX2_absorb_25 (fun v_93 hv_93 => ?_)
          obtain ⟨a_94, rfl, ka_94⟩ := tt_vr hv_93
          refine jj_astore C dX2_absorb_26 (by decide) rfl ?_
          refine jj_aload C dX2_absorb_28 rfl ?_
          refine tt_get C hok jk_5 1 (by decide) jw_702 (t := (0, (-2147483648), 2147483647)) ka_94 (by decide) rfl rfl dX2_absorb_30 (fun v_95 hv_95 hf_96 => ?_)
          obtain ⟨x_97, rfl, lx_97, ux_97⟩ := tt_vi hv_95
          refine jj_aload C dX2_absorb_33 rfl ?_
          refine tt_get C hok jk_9 0 (by decide) jw_703 (t := (0, (-2147483648), 2147483647)) hk3 (by decide) rfl rfl dX2_absorb_35 (fun v_98 hv_98 hf_99 => ?_)
          obtain ⟨x_100, rfl, lx_100, ux_100⟩ := tt_vi hv_98
          refine jj_icmp_ne (tgt := 95) C dX2_absorb_38 (by decide) (fun c_101 => ?_) (fun c_101 => ?_)
          · have z_c_101 := jc_neq (a := (x_97).toInt) (b := (x_100).toInt) c_101 rfl rfl
            obtain ⟨x_102, ex_102, vx_102⟩ := tt_inc (x := x_69) (n := 1) (by omega) (by omega)
            refine jj_iinc (v := x_102) C dX2_absorb_95 rfl ex_102 (by decide) rfl ?_
            refine jj_goto (tgt := 10) C dX2_absorb_98 (by decide) ?_
            refine jj_loc [0, 2, 3, 4, 5, 6] rfl ?_
            exact ihL_68 pl x_102 hok hfr (by first | omega | decide | exact tt_lo _ | exact tt_hi _) (by first | omega | decide | exact tt_lo _ | exact tt_hi _) (by first | omega | decide | exact tt_lo _ | exact tt_hi _)
          · have z_c_101 := jc_eq (a := (x_97).toInt) (b := (x_100).toInt) c_101 rfl rfl
            refine jj_aload C dX2_absorb_41 rfl ?_
            refine jj_lload_n C dX2_absorb_43 rfl ?_
            refine jj_lconst (v := 0) C dX2_absorb_44 (by decide) ?_
            refine jj_lcmp_leF (tgt := 62) C dX2_absorb_45 dX2_absorb_46 (by decide) (by decide) ?_
            refine jj_aload C dX2_absorb_49 rfl ?_
            refine tt_get C hok jk_5 3 (by decide) jw_711 (t := (1, (-9223372036854775808), 9223372036854775807)) ka_94 (by decide) rfl rfl dX2_absorb_51 (fun v_103 hv_103 hf_104 => ?_)
            obtain ⟨y_105, rfl, -, -⟩ := tt_vj hv_103
            refine jj_lload C dX2_absorb_54 rfl ?_
            obtain ⟨y_106, ey_106⟩ : ∃ z : Int64, y_105 * y_7 = z := ⟨_, rfl⟩
            refine jj_lmul (v := y_106) C dX2_absorb_56 ey_106 ?_
            refine jj_lload_n C dX2_absorb_57 rfl ?_
            obtain ⟨y_107, ey_107⟩ : ∃ z : Int64, y_106 / (1000000 : Int64) = z := ⟨_, rfl⟩
            refine jj_ldiv (v := y_107) C dX2_absorb_58 (by decide) ey_107 ?_
            refine jj_goto (tgt := 63) C dX2_absorb_59 (by decide) ?_
            refine tt_put C hok jk_5 3 (by decide) jw_711 (t := (1, (-9223372036854775808), 9223372036854775807)) ka_94 (by decide) rfl rfl rfl (tt_ja y_107) rfl rfl dX2_absorb_63 (fun pl_108 hok_109 tr hn => ?_)
            replace hf_71 := tr _ _ _ (Or.inl (tt_ne hk0 ka_94 (by decide))) hf_71
            replace hf_91 := tr _ _ _ (Or.inl (tt_ne hk0 ka_94 (by decide))) hf_91
            replace hf_96 := tr _ _ _ (Or.inr (by decide)) hf_96
            replace hf_99 := tr _ _ _ (Or.inl (tt_ne hk3 ka_94 (by decide))) hf_99
            have hf_110 := hn
            replace hfr := hfr.put ka_94 tr (by decide)
            refine jj_aload C dX2_absorb_66 rfl ?_
            refine jj_aload_n C dX2_absorb_68 rfl ?_
            refine tt_get C hok_109 jk_9 0 (by decide) jw_703 (t := (0, (-2147483648), 2147483647)) hk1 (by decide) rfl rfl dX2_absorb_69 (fun v_111 hv_111 hf_112 => ?_)
            obtain ⟨x_113, rfl, lx_113, ux_113⟩ := tt_vi hv_111
            refine tt_put C hok_109 jk_5 1 (by decide) jw_702 (t := (0, (-2147483648), 2147483647)) ka_94 (by decide) rfl rfl rfl (tt_ia x_113) rfl rfl dX2_absorb_72 (fun pl_114 hok_115 tr hn => ?_)
            replace hf_71 := tr _ _ _ (Or.inl (tt_ne hk0 ka_94 (by decide))) hf_71
            replace hf_91 := tr _ _ _ (Or.inl (tt_ne hk0 ka_94 (by decide))) hf_91
            replace hf_99 := tr _ _ _ (Or.inl (tt_ne hk3 ka_94 (by decide))) hf_99
            replace hf_110 := tr _ _ _ (Or.inr (by decide)) hf_110
            replace hf_112 := tr _ _ _ (Or.inl (tt_ne hk1 ka_94 (by decide))) hf_112
            have hf_116 := hn
            replace hfr := hfr.put ka_94 tr (by decide)
            refine jj_aload C dX2_absorb_75 rfl ?_
            refine jj_lload_n C dX2_absorb_77 rfl ?_
            refine tt_put C hok_115 jk_5 4 (by decide) jw_705 (t := (1, (-9223372036854775808), 9223372036854775807)) ka_94 (by decide) rfl rfl rfl (tt_ja (1000000 : Int64)) rfl rfl dX2_absorb_78 (fun pl_117 hok_118 tr hn => ?_)
            replace hf_71 := tr _ _ _ (Or.inl (tt_ne hk0 ka_94 (by decide))) hf_71
            replace hf_91 := tr _ _ _ (Or.inl (tt_ne hk0 ka_94 (by decide))) hf_91
            replace hf_99 := tr _ _ _ (Or.inl (tt_ne hk3 ka_94 (by decide))) hf_99
            replace hf_110 := tr _ _ _ (Or.inr (by decide)) hf_110
            replace hf_112 := tr _ _ _ (Or.inl (tt_ne hk1 ka_94 (by decide))) hf_112
            replace hf_116 := tr _ _ _ (Or.inr (by decide)) hf_116
            have hf_119 := hn
            replace hfr := hfr.put ka_94 tr (by decide)
            refine jj_aload_n C dX2_absorb_81 rfl ?_
            refine jj_dup C dX2_absorb_82 rfl ?_
            refine tt_get C hok_118 jk_9 3 (by decide) jw_712 (t := (1, (-9223372036854775808), 9223372036854775807)) hk1 (by decide) rfl rfl dX2_absorb_83 (fun v_120 hv_120 hf_121 => ?_)
            obtain ⟨y_122, rfl, -, -⟩ := tt_vj hv_120
            refine jj_aload C dX2_absorb_86 rfl ?_
            refine tt_getF C hok_118 jk_5 3 (by decide) jw_711 (t := (1, (-9223372036854775808), 9223372036854775807)) ka_94 (by decide) rfl rfl hf_110 dX2_absorb_88 ?_
            obtain ⟨y_123, ey_123⟩ : ∃ z : Int64, y_122 + y_107 = z := ⟨_, rfl⟩
            refine jj_ladd (v := y_123) C dX2_absorb_91 ey_123 ?_
            refine tt_put C hok_118 jk_9 3 (by decide) jw_712 (t := (1, (-9223372036854775808), 9223372036854775807)) hk1 (by decide) rfl rfl rfl (tt_ja y_123) rfl rfl dX2_absorb_92 (fun pl_124 hok_125 tr hn => ?_)
            replace hf_71 := tr _ _ _ (Or.inl (tt_ne hk0 hk1 (by decide))) hf_71
            replace hf_91 := tr _ _ _ (Or.inl (tt_ne hk0 hk1 (by decide))) hf_91
            replace hf_99 := tr _ _ _ (Or.inr (by decide)) hf_99
            replace hf_110 := tr _ _ _ (Or.inl (tt_ne ka_94 hk1 (by decide))) hf_110
            replace hf_112 := tr _ _ _ (Or.inr (by decide)) hf_112
            replace hf_116 := tr _ _ _ (Or.inl (tt_ne ka_94 hk1 (by decide))) hf_116
            replace hf_119 := tr _ _ _ (Or.inl (tt_ne ka_94 hk1 (by decide))) hf_119
            have hf_126 := hn
            replace hfr := hfr.put hk1 tr (by decide)
            obtain ⟨x_127, ex_127, vx_127⟩ := tt_inc (x := x_69) (n := 1) (by omega) (by omega)
            refine jj_iinc (v := x_127) C dX2_absorb_95 rfl ex_127 (by decide) rfl ?_
            refine jj_goto (tgt := 10) C dX2_absorb_98 (by decide) ?_
            refine jj_loc [0, 2, 3, 4, 5, 6] rfl ?_
            exact ihL_68 pl_124 x_127 hok_125 hfr (by first | omega | decide | exact tt_lo _ | exact tt_hi _) (by first | omega | decide | exact tt_lo _ | exact tt_hi _) (by first | omega | decide | exact tt_lo _ | exact tt_hi _)
    exact hL_68 _ pl_1 (0 : Int32) trivial hok_2 hfr (by first | omega | decide | exact tt_lo _ | exact tt_hi _) (by first | omega | decide | exact tt_lo _ | exact tt_hi _) (Int.self_le_toNat _)

set_option maxHeartbeats 4000000 in
set_option maxRecDepth 100000 in
theorem tc_X2_absorb_2 {l : Launch} (hl : l.stackTraces = false) (D : va_G) (cA : Nat → ClassId) (ak : (Nat → Nat) × (Nat → Nat)) {Kd : Nat → Nat} (h0 : Nat) (h1 : Nat) (p2 : Int64) (h3 : Nat) (hk0 : Kd h0 = 1) (hk1 : Kd h1 = 2) (hk3 : Kd h3 = 2) {pl0 : va_W} (hok : tt_ok tt_tk cA Kd pl0) : jj_M l D cA ak yX2_absorb (.code yX2_absorb cX2_absorb 9 none) 1 20 0 0 ([] ++ pl0) [.ref h0, .ref h1, .long p2, .ref h3] (tt_O (fun rx pl1 r => rx = [] ∧ tt_ok tt_tk cA Kd pl1 ∧ tt_fr Kd [(2, 2), (2, 3), (3, 1), (3, 3), (3, 4)] pl0 pl1 ∧ ((r = none)))) (tt_OX (fun _ _ _ => False)) := by
  refine jj_start hl (by decide) jw_727 (jj_le rfl) ?_
  intro p e s m args below meth c A hargs hA C hex hmn
  have hfr := tt_fr.refl (K := Kd) (WS := [(2, 2), (2, 3), (3, 1), (3, 3), (3, 4)]) pl0
  refine jj_aload C dX2_absorb_0 rfl ?_
  obtain ⟨qc, gs, hqc⟩ := tt_recv (cx := []) hok hk3 (by decide) rfl
  refine tt_callV (rest := []) C (tc_X8_grossPrice_1 hl D cA ak h3 hk3 hok) [] [] rfl rfl (by decide) (by decide) (by decide) qc hqc rfl rfl jw_697 jw_169 jw_170 jw_92 jw_167 jn_X8_grossPrice rfl (jj_le rfl) (jj_le rfl) (jj_le rfl) (jj_le rfl) (jj_le rfl) dX2_absorb_2 rfl (fun _ _ _ hX => hX.elim) (fun rx pl_1 r O_4 => ?_)
  obtain ⟨rfl, hok_2, hr_3, hR_6⟩ := O_4
  replace hfr := hfr.trans (hr_3.sub (by decide))
  rcases hR_6 with rfl | ⟨y_7, rfl⟩
  · refine jj_lstore C dX2_absorb_5 (by decide) rfl ?_
    refine jj_iconst (v := 0) C dX2_absorb_7 (by decide) ?_
    refine jj_istore C dX2_absorb_8 (by decide) rfl ?_
    have hL_8 : ∀ (N : Nat) (pl : va_W) (x_9 : Int32), True → tt_ok tt_tk cA Kd pl → tt_fr Kd [(2, 2), (2, 3), (3, 1), (3, 3), (3, 4)] pl0 pl → (0 : Int) ≤ x_9.toInt → x_9.toInt ≤ 40 → (2147483648 - x_9.toInt ≤ (N : Int)) → jj_J p l e (jj_rm 1 20 0 0) s m args below meth c 9 A (vx_MQ below (jj_q D A (tt_O (fun rx pl1 r => rx = [] ∧ tt_ok tt_tk cA Kd pl1 ∧ tt_fr Kd [(2, 2), (2, 3), (3, 1), (3, 3), (3, 4)] pl0 pl1 ∧ ((r = none))))) (jj_x D A (tt_OX (fun _ _ _ => False))) args s 0 0 A) (jj_X D A ([] ++ pl)) 0 0 10 [(7, .int x_9), (5, .long 1000000), (0, .ref h0), (1, .ref h1), (2, .long p2), (4, .ref h3)] [] := by
      intro NL_8
      induction NL_8 with
      | zero => intro pl x_9 _ hok hfr lx_9 ux_9 hNL_8; exfalso; omega
      | succ NL_8 ihL_8 =>
        intro pl x_9 _ hok hfr lx_9 ux_9 hNL_8
        replace ihL_8 := fun pl x_9 h1 => ihL_8 pl x_9 trivial h1
        refine jj_iload C dX2_absorb_10 rfl ?_
        refine jj_aload_n C dX2_absorb_12 rfl ?_
        refine tt_get C hok jk_2 8 (by decide) jw_700 (t := (0, 0, 40)) hk0 (by decide) rfl rfl dX2_absorb_13 (fun v_10 hv_10 hf_11 => ?_)
        obtain ⟨x_12, rfl, lx_12, ux_12⟩ := tt_vi hv_10
        refine jj_icmp_ge (tgt := 101) C dX2_absorb_16 (by decide) (fun c_13 => ?_) (fun c_13 => ?_)
        · have z_c_13 := jc_le (a := (x_12).toInt) (b := (x_9).toInt) c_13 rfl rfl
          refine jj_aload_n C dX2_absorb_101 rfl ?_
          refine jj_dup C dX2_absorb_102 rfl ?_
          refine tt_get C hok jk_9 2 (by decide) jw_321 (t := (1, (-9223372036854775808), 9223372036854775807)) hk1 (by decide) rfl rfl dX2_absorb_103 (fun v_14 hv_14 hf_15 => ?_)
          obtain ⟨y_16, rfl, -, -⟩ := tt_vj hv_14
          refine jj_aload C dX2_absorb_106 rfl ?_
          refine tt_get C hok jk_9 2 (by decide) jw_321 (t := (1, (-9223372036854775808), 9223372036854775807)) hk3 (by decide) rfl rfl dX2_absorb_108 (fun v_17 hv_17 hf_18 => ?_)
          obtain ⟨y_19, rfl, -, -⟩ := tt_vj hv_17
          obtain ⟨y_20, ey_20⟩ : ∃ z : Int64, y_16 + y_19 = z := ⟨_, rfl⟩
          refine jj_ladd (v := y_20) C dX2_absorb_111 ey_20 ?_
          refine tt_put C hok jk_9 2 (by decide) jw_321 (t := (1, (-9223372036854775808), 9223372036854775807)) hk1 (by decide) rfl rfl rfl (tt_ja y_20) rfl rfl dX2_absorb_112 (fun pl_21 hok_22 tr hn => ?_)
          replace hf_11 := tr _ _ _ (Or.inl (tt_ne hk0 hk1 (by decide))) hf_11
          have hf_23 := hn
          replace hfr := hfr.put hk1 tr (by decide)
          refine jj_aload C dX2_absorb_115 rfl ?_
          refine jj_lconst (v := 0) C dX2_absorb_117 (by decide) ?_
          refine tt_put C hok_22 jk_9 2 (by decide) jw_321 (t := (1, (-9223372036854775808), 9223372036854775807)) hk3 (by decide) rfl rfl rfl (tt_ja (0 : Int64)) rfl rfl dX2_absorb_118 (fun pl_24 hok_25 tr hn => ?_)
          replace hf_11 := tr _ _ _ (Or.inl (tt_ne hk0 hk3 (by decide))) hf_11
          have hf_26 := hn
          replace hfr := hfr.put hk3 tr (by decide)
          refine jj_aload C dX2_absorb_121 rfl ?_
          refine jj_lconst (v := 0) C dX2_absorb_123 (by decide) ?_
          refine tt_put C hok_25 jk_9 3 (by decide) jw_712 (t := (1, (-9223372036854775808), 9223372036854775807)) hk3 (by decide) rfl rfl rfl (tt_ja (0 : Int64)) rfl rfl dX2_absorb_124 (fun pl_27 hok_28 tr hn => ?_)
          replace hf_11 := tr _ _ _ (Or.inl (tt_ne hk0 hk3 (by decide))) hf_11
          replace hf_26 := tr _ _ _ (Or.inr (by decide)) hf_26
          have hf_29 := hn
          replace hfr := hfr.put hk3 tr (by decide)
          exact jj_vret C ⟨[], pl_27, rfl, rfl, hok_28, hfr, rfl⟩ dX2_absorb_127 (jj_le rfl) (jj_le rfl)
        · have z_c_13 := jc_nle (a := (x_12).toInt) (b := (x_9).toInt) c_13 rfl rfl
          refine jj_aload_n C dX2_absorb_19 rfl ?_
          refine tt_get C hok jk_2 12 (by decide) jw_701 (t := (2, 7, 0)) hk0 (by decide) rfl rfl dX2_absorb_20 (fun v_30 hv_30 hf_31 => ?_)
          obtain ⟨a_32, rfl, ka_32⟩ := tt_vr hv_30
          refine jj_iload C dX2_absorb_23 rfl ?_
          refine tt_aald C hok (t := (2, 3, 0)) ka_32 (by decide) rfl rfl rfl (vp_in_iff.mpr ⟨by omega, by omega⟩) dX2_absorb_25 (fun v_33 hv_33 => ?_)
          obtain ⟨a_34, rfl, ka_34⟩ := tt_vr hv_33
          refine jj_astore C dX2_absorb_26 (by decide) rfl ?_
          refine jj_aload C dX2_absorb_28 rfl ?_
          refine tt_get C hok jk_5 1 (by decide) jw_702 (t := (0, (-2147483648), 2147483647)) ka_34 (by decide) rfl rfl dX2_absorb_30 (fun v_35 hv_35 hf_36 => ?_)
          obtain ⟨x_37, rfl, lx_37, ux_37⟩ := tt_vi hv_35
          refine jj_aload C dX2_absorb_33 rfl ?_
          refine tt_get C hok jk_9 0 (by decide) jw_703 (t := (0, (-2147483648), 2147483647)) hk3 (by decide) rfl rfl dX2_absorb_35 (fun v_38 hv_38 hf_39 => ?_)
          obtain ⟨x_40, rfl, lx_40, ux_40⟩ := tt_vi hv_38
          refine jj_icmp_ne (tgt := 95) C dX2_absorb_38 (by decide) (fun c_41 => ?_) (fun c_41 => ?_)
          · have z_c_41 := jc_neq (a := (x_37).toInt) (b := (x_40).toInt) c_41 rfl rfl
            obtain ⟨x_42, ex_42, vx_42⟩ := tt_inc (x := x_9) (n := 1) (by omega) (by omega)
            refine jj_iinc (v := x_42) C dX2_absorb_95 rfl ex_42 (by decide) rfl ?_
            refine jj_goto (tgt := 10) C dX2_absorb_98 (by decide) ?_
            refine jj_loc [0, 2, 3, 4, 5, 6] rfl ?_
            exact ihL_8 pl x_42 hok hfr (by first | omega | decide | exact tt_lo _ | exact tt_hi _) (by first | omega | decide | exact tt_lo _ | exact tt_hi _) (by first | omega | decide | exact tt_lo _ | exact tt_hi _)
          · have z_c_41 := jc_eq (a := (x_37).toInt) (b := (x_40).toInt) c_41 rfl rfl
            refine jj_aload C dX2_absorb_41 rfl ?_
            refine jj_lload_n C dX2_absorb_43 rfl ?_
            refine jj_lconst (v := 0) C dX2_absorb_44 (by decide) ?_
            refine jj_lcmp_le (tgt := 62) C dX2_absorb_45 dX2_absorb_46 (by decide) (fun c_43 => ?_) (fun c_43 => ?_)
            · refine jj_lconst (v := 0) C dX2_absorb_62 (by decide) ?_
              refine tt_put C hok jk_5 3 (by decide) jw_711 (t := (1, (-9223372036854775808), 9223372036854775807)) ka_34 (by decide) rfl rfl rfl (tt_ja (0 : Int64)) rfl rfl dX2_absorb_63 (fun pl_44 hok_45 tr hn => ?_)
              replace hf_11 := tr _ _ _ (Or.inl (tt_ne hk0 ka_34 (by decide))) hf_11
              replace hf_31 := tr _ _ _ (Or.inl (tt_ne hk0 ka_34 (by decide))) hf_31
              replace hf_36 := tr _ _ _ (Or.inr (by decide)) hf_36
              replace hf_39 := tr _ _ _ (Or.inl (tt_ne hk3 ka_34 (by decide))) hf_39
              have hf_46 := hn
              replace hfr := hfr.put ka_34 tr (by decide)
              refine jj_aload C dX2_absorb_66 rfl ?_
              refine jj_aload_n C dX2_absorb_68 rfl ?_
              refine tt_get C hok_45 jk_9 0 (by decide) jw_703 (t := (0, (-2147483648), 2147483647)) hk1 (by decide) rfl rfl dX2_absorb_69 (fun v_47 hv_47 hf_48 => ?_)
              obtain ⟨x_49, rfl, lx_49, ux_49⟩ := tt_vi hv_47
              refine tt_put C hok_45 jk_5 1 (by decide) jw_702 (t := (0, (-2147483648), 2147483647)) ka_34 (by decide) rfl rfl rfl (tt_ia x_49) rfl rfl dX2_absorb_72 (fun pl_50 hok_51 tr hn => ?_)
              replace hf_11 := tr _ _ _ (Or.inl (tt_ne hk0 ka_34 (by decide))) hf_11
              replace hf_31 := tr _ _ _ (Or.inl (tt_ne hk0 ka_34 (by decide))) hf_31
              replace hf_39 := tr _ _ _ (Or.inl (tt_ne hk3 ka_34 (by decide))) hf_39
              replace hf_46 := tr _ _ _ (Or.inr (by decide)) hf_46
              replace hf_48 := tr _ _ _ (Or.inl (tt_ne hk1 ka_34 (by decide))) hf_48
              have hf_52 := hn
              replace hfr := hfr.put ka_34 tr (by decide)
              refine jj_aload C dX2_absorb_75 rfl ?_
              refine jj_lload_n C dX2_absorb_77 rfl ?_
              refine tt_put C hok_51 jk_5 4 (by decide) jw_705 (t := (1, (-9223372036854775808), 9223372036854775807)) ka_34 (by decide) rfl rfl rfl (tt_ja p2) rfl rfl dX2_absorb_78 (fun pl_53 hok_54 tr hn => ?_)
              replace hf_11 := tr _ _ _ (Or.inl (tt_ne hk0 ka_34 (by decide))) hf_11
              replace hf_31 := tr _ _ _ (Or.inl (tt_ne hk0 ka_34 (by decide))) hf_31
              replace hf_39 := tr _ _ _ (Or.inl (tt_ne hk3 ka_34 (by decide))) hf_39
              replace hf_46 := tr _ _ _ (Or.inr (by decide)) hf_46
              replace hf_48 := tr _ _ _ (Or.inl (tt_ne hk1 ka_34 (by decide))) hf_48
              replace hf_52 := tr _ _ _ (Or.inr (by decide)) hf_52
              have hf_55 := hn
              replace hfr := hfr.put ka_34 tr (by decide)
              refine jj_aload_n C dX2_absorb_81 rfl ?_
              refine jj_dup C dX2_absorb_82 rfl ?_
              refine tt_get C hok_54 jk_9 3 (by decide) jw_712 (t := (1, (-9223372036854775808), 9223372036854775807)) hk1 (by decide) rfl rfl dX2_absorb_83 (fun v_56 hv_56 hf_57 => ?_)
              obtain ⟨y_58, rfl, -, -⟩ := tt_vj hv_56
              refine jj_aload C dX2_absorb_86 rfl ?_
              refine tt_getF C hok_54 jk_5 3 (by decide) jw_711 (t := (1, (-9223372036854775808), 9223372036854775807)) ka_34 (by decide) rfl rfl hf_46 dX2_absorb_88 ?_
              obtain ⟨y_59, ey_59⟩ : ∃ z : Int64, y_58 + (0 : Int64) = z := ⟨_, rfl⟩
              refine jj_ladd (v := y_59) C dX2_absorb_91 ey_59 ?_
              refine tt_put C hok_54 jk_9 3 (by decide) jw_712 (t := (1, (-9223372036854775808), 9223372036854775807)) hk1 (by decide) rfl rfl rfl (tt_ja y_59) rfl rfl dX2_absorb_92 (fun pl_60 hok_61 tr hn => ?_)
              replace hf_11 := tr _ _ _ (Or.inl (tt_ne hk0 hk1 (by decide))) hf_11
              replace hf_31 := tr _ _ _ (Or.inl (tt_ne hk0 hk1 (by decide))) hf_31
              replace hf_39 := tr _ _ _ (Or.inr (by decide)) hf_39
              replace hf_46 := tr _ _ _ (Or.inl (tt_ne ka_34 hk1 (by decide))) hf_46
              replace hf_48 := tr _ _ _ (Or.inr (by decide)) hf_48
              replace hf_52 := tr _ _ _ (Or.inl (tt_ne ka_34 hk1 (by decide))) hf_52
              replace hf_55 := tr _ _ _ (Or.inl (tt_ne ka_34 hk1 (by decide))) hf_55
              have hf_62 := hn
              replace hfr := hfr.put hk1 tr (by decide)
              obtain ⟨x_63, ex_63, vx_63⟩ := tt_inc (x := x_9) (n := 1) (by omega) (by omega)
              refine jj_iinc (v := x_63) C dX2_absorb_95 rfl ex_63 (by decide) rfl ?_
              refine jj_goto (tgt := 10) C dX2_absorb_98 (by decide) ?_
              refine jj_loc [0, 2, 3, 4, 5, 6] rfl ?_
              exact ihL_8 pl_60 x_63 hok_61 hfr (by first | omega | decide | exact tt_lo _ | exact tt_hi _) (by first | omega | decide | exact tt_lo _ | exact tt_hi _) (by first | omega | decide | exact tt_lo _ | exact tt_hi _)
            · refine jj_aload C dX2_absorb_49 rfl ?_
              refine tt_get C hok jk_5 3 (by decide) jw_711 (t := (1, (-9223372036854775808), 9223372036854775807)) ka_34 (by decide) rfl rfl dX2_absorb_51 (fun v_64 hv_64 hf_65 => ?_)
              obtain ⟨y_66, rfl, -, -⟩ := tt_vj hv_64
              refine jj_lload C dX2_absorb_54 rfl ?_
              obtain ⟨y_67, ey_67⟩ : ∃ z : Int64, y_66 * (1000000 : Int64) = z := ⟨_, rfl⟩
              refine jj_lmul (v := y_67) C dX2_absorb_56 ey_67 ?_
              refine jj_lload_n C dX2_absorb_57 rfl ?_
              obtain ⟨y_68, ey_68⟩ : ∃ z : Int64, y_67 / p2 = z := ⟨_, rfl⟩
              refine jj_ldiv (v := y_68) C dX2_absorb_58 (jt_nzpL (by first | exact Int64.not_le.mp c_43 | exact Int32.not_le.mp c_43)) ey_68 ?_
              refine jj_goto (tgt := 63) C dX2_absorb_59 (by decide) ?_
              refine tt_put C hok jk_5 3 (by decide) jw_711 (t := (1, (-9223372036854775808), 9223372036854775807)) ka_34 (by decide) rfl rfl rfl (tt_ja y_68) rfl rfl dX2_absorb_63 (fun pl_69 hok_70 tr hn => ?_)
              replace hf_11 := tr _ _ _ (Or.inl (tt_ne hk0 ka_34 (by decide))) hf_11
              replace hf_31 := tr _ _ _ (Or.inl (tt_ne hk0 ka_34 (by decide))) hf_31
              replace hf_36 := tr _ _ _ (Or.inr (by decide)) hf_36
              replace hf_39 := tr _ _ _ (Or.inl (tt_ne hk3 ka_34 (by decide))) hf_39
              have hf_71 := hn
              replace hfr := hfr.put ka_34 tr (by decide)
              refine jj_aload C dX2_absorb_66 rfl ?_
              refine jj_aload_n C dX2_absorb_68 rfl ?_
              refine tt_get C hok_70 jk_9 0 (by decide) jw_703 (t := (0, (-2147483648), 2147483647)) hk1 (by decide) rfl rfl dX2_absorb_69 (fun v_72 hv_72 hf_73 => ?_)
              obtain ⟨x_74, rfl, lx_74, ux_74⟩ := tt_vi hv_72
              refine tt_put C hok_70 jk_5 1 (by decide) jw_702 (t := (0, (-2147483648), 2147483647)) ka_34 (by decide) rfl rfl rfl (tt_ia x_74) rfl rfl dX2_absorb_72 (fun pl_75 hok_76 tr hn => ?_)
              replace hf_11 := tr _ _ _ (Or.inl (tt_ne hk0 ka_34 (by decide))) hf_11
              replace hf_31 := tr _ _ _ (Or.inl (tt_ne hk0 ka_34 (by decide))) hf_31
              replace hf_39 := tr _ _ _ (Or.inl (tt_ne hk3 ka_34 (by decide))) hf_39
              replace hf_71 := tr _ _ _ (Or.inr (by decide)) hf_71
              replace hf_73 := tr _ _ _ (Or.inl (tt_ne hk1 ka_34 (by decide))) hf_73
              have hf_77 := hn
              replace hfr := hfr.put ka_34 tr (by decide)
              refine jj_aload C dX2_absorb_75 rfl ?_
              refine jj_lload_n C dX2_absorb_77 rfl ?_
              refine tt_put C hok_76 jk_5 4 (by decide) jw_705 (t := (1, (-9223372036854775808), 9223372036854775807)) ka_34 (by decide) rfl rfl rfl (tt_ja p2) rfl rfl dX2_absorb_78 (fun pl_78 hok_79 tr hn => ?_)
              replace hf_11 := tr _ _ _ (Or.inl (tt_ne hk0 ka_34 (by decide))) hf_11
              replace hf_31 := tr _ _ _ (Or.inl (tt_ne hk0 ka_34 (by decide))) hf_31
              replace hf_39 := tr _ _ _ (Or.inl (tt_ne hk3 ka_34 (by decide))) hf_39
              replace hf_71 := tr _ _ _ (Or.inr (by decide)) hf_71
              replace hf_73 := tr _ _ _ (Or.inl (tt_ne hk1 ka_34 (by decide))) hf_73
              replace hf_77 := tr _ _ _ (Or.inr (by decide)) hf_77
              have hf_80 := hn
              replace hfr := hfr.put ka_34 tr (by decide)
              refine jj_aload_n C dX2_absorb_81 rfl ?_
              refine jj_dup C dX2_absorb_82 rfl ?_
              refine tt_get C hok_79 jk_9 3 (by decide) jw_712 (t := (1, (-9223372036854775808), 9223372036854775807)) hk1 (by decide) rfl rfl dX2_absorb_83 (fun v_81 hv_81 hf_82 => ?_)
              obtain ⟨y_83, rfl, -, -⟩ := tt_vj hv_81
              refine jj_aload C dX2_absorb_86 rfl ?_
              refine tt_getF C hok_79 jk_5 3 (by decide) jw_711 (t := (1, (-9223372036854775808), 9223372036854775807)) ka_34 (by decide) rfl rfl hf_71 dX2_absorb_88 ?_
              obtain ⟨y_84, ey_84⟩ : ∃ z : Int64, y_83 + y_68 = z := ⟨_, rfl⟩
              refine jj_ladd (v := y_84) C dX2_absorb_91 ey_84 ?_
              refine tt_put C hok_79 jk_9 3 (by decide) jw_712 (t := (1, (-9223372036854775808), 9223372036854775807)) hk1 (by decide) rfl rfl rfl (tt_ja y_84) rfl rfl dX2_absorb_92 (fun pl_85 hok_86 tr hn => ?_)
              replace hf_11 := tr _ _ _ (Or.inl (tt_ne hk0 hk1 (by decide))) hf_11
              replace hf_31 := tr _ _ _ (Or.inl (tt_ne hk0 hk1 (by decide))) hf_31
              replace hf_39 := tr _ _ _ (Or.inr (by decide)) hf_39
              replace hf_71 := tr _ _ _ (Or.inl (tt_ne ka_34 hk1 (by decide))) hf_71
              replace hf_73 := tr _ _ _ (Or.inr (by decide)) hf_73
              replace hf_77 := tr _ _ _ (Or.inl (tt_ne ka_34 hk1 (by decide))) hf_77
              replace hf_80 := tr _ _ _ (Or.inl (tt_ne ka_34 hk1 (by decide))) hf_80
              have hf_87 := hn
              replace hfr := hfr.put hk1 tr (by decide)
              obtain ⟨x_88, ex_88, vx_88⟩ := tt_inc (x := x_9) (n := 1) (by omega) (by omega)
              refine jj_iinc (v := x_88) C dX2_absorb_95 rfl ex_88 (by decide) rfl ?_
              refine jj_goto (tgt := 10) C dX2_absorb_98 (by decide) ?_
              refine jj_loc [0, 2, 3, 4, 5, 6] rfl ?_
              exact ihL_8 pl_85 x_88 hok_86 hfr (by first | omega | decide | exact tt_lo _ | exact tt_hi _) (by first | omega | decide | exact tt_lo _ | exact tt_hi _) (by first | omega | decide | exact tt_lo _ | exact tt_hi _)
    exact hL_8 _ pl_1 (0 : Int32) trivial hok_2 hfr (by first | omega | decide | exact tt_lo _ | exact tt_hi _) (by first | omega | decide | exact tt_lo _ | exact tt_hi _) (Int.self_le_toNat _)
  · refine jj_lstore C dX2_absorb_5 (by decide) rfl ?_
    refine jj_iconst (v := 0) C dX2_absorb_7 (by decide) ?_
    refine jj_istore C dX2_absorb_8 (by decide) rfl ?_
    have hL_89 : ∀ (N : Nat) (pl : va_W) (x_90 : Int32), True → tt_ok tt_tk cA Kd pl → tt_fr Kd [(2, 2), (2, 3), (3, 1), (3, 3), (3, 4)] pl0 pl → (0 : Int) ≤ x_90.toInt → x_90.toInt ≤ 40 → (2147483648 - x_90.toInt ≤ (N : Int)) → jj_J p l e (jj_rm 1 20 0 0) s m args below meth c 9 A (vx_MQ below (jj_q D A (tt_O (fun rx pl1 r => rx = [] ∧ tt_ok tt_tk cA Kd pl1 ∧ tt_fr Kd [(2, 2), (2, 3), (3, 1), (3, 3), (3, 4)] pl0 pl1 ∧ ((r = none))))) (jj_x D A (tt_OX (fun _ _ _ => False))) args s 0 0 A) (jj_X D A ([] ++ pl)) 0 0 10 [(7, .int x_90), (5, .long y_7), (0, .ref h0), (1, .ref h1), (2, .long p2), (4, .ref h3)] [] := by
      intro NL_89
      induction NL_89 with
      | zero => intro pl x_90 _ hok hfr lx_90 ux_90 hNL_89; exfalso; omega
      | succ NL_89 ihL_89 =>
        intro pl x_90 _ hok hfr lx_90 ux_90 hNL_89
        replace ihL_89 := fun pl x_90 h1 => ihL_89 pl x_90 trivial h1
        refine jj_iload C dX2_absorb_10 rfl ?_
        refine jj_aload_n C dX2_absorb_12 rfl ?_
        refine tt_get C hok jk_2 8 (by decide) jw_700 (t := (0, 0, 40)) hk0 (by decide) rfl rfl dX2_absorb_13 (fun v_91 hv_91 hf_92 => ?_)
        obtain ⟨x_93, rfl, lx_93, ux_93⟩ := tt_vi hv_91
        refine jj_icmp_ge (tgt := 101) C dX2_absorb_16 (by decide) (fun c_94 => ?_) (fun c_94 => ?_)
        · have z_c_94 := jc_le (a := (x_93).toInt) (b := (x_90).toInt) c_94 rfl rfl
          refine jj_aload_n C dX2_absorb_101 rfl ?_
          refine jj_dup C dX2_absorb_102 rfl ?_
          refine tt_get C hok jk_9 2 (by decide) jw_321 (t := (1, (-9223372036854775808), 9223372036854775807)) hk1 (by decide) rfl rfl dX2_absorb_103 (fun v_95 hv_95 hf_96 => ?_)
          obtain ⟨y_97, rfl, -, -⟩ := tt_vj hv_95
          refine jj_aload C dX2_absorb_106 rfl ?_
          refine tt_get C hok jk_9 2 (by decide) jw_321 (t := (1, (-9223372036854775808), 9223372036854775807)) hk3 (by decide) rfl rfl dX2_absorb_108 (fun v_98 hv_98 hf_99 => ?_)
          obtain ⟨y_100, rfl, -, -⟩ := tt_vj hv_98
          obtain ⟨y_101, ey_101⟩ : ∃ z : Int64, y_97 + y_100 = z := ⟨_, rfl⟩
          refine jj_ladd (v := y_101) C dX2_absorb_111 ey_101 ?_
          refine tt_put C hok jk_9 2 (by decide) jw_321 (t := (1, (-9223372036854775808), 9223372036854775807)) hk1 (by decide) rfl rfl rfl (tt_ja y_101) rfl rfl dX2_absorb_112 (fun pl_102 hok_103 tr hn => ?_)
          replace hf_92 := tr _ _ _ (Or.inl (tt_ne hk0 hk1 (by decide))) hf_92
          have hf_104 := hn
          replace hfr := hfr.put hk1 tr (by decide)
          refine jj_aload C dX2_absorb_115 rfl ?_
          refine jj_lconst (v := 0) C dX2_absorb_117 (by decide) ?_
          refine tt_put C hok_103 jk_9 2 (by decide) jw_321 (t := (1, (-9223372036854775808), 9223372036854775807)) hk3 (by decide) rfl rfl rfl (tt_ja (0 : Int64)) rfl rfl dX2_absorb_118 (fun pl_105 hok_106 tr hn => ?_)
          replace hf_92 := tr _ _ _ (Or.inl (tt_ne hk0 hk3 (by decide))) hf_92
          have hf_107 := hn
          replace hfr := hfr.put hk3 tr (by decide)
          refine jj_aload C dX2_absorb_121 rfl ?_
          refine jj_lconst (v := 0) C dX2_absorb_123 (by decide) ?_
          refine tt_put C hok_106 jk_9 3 (by decide) jw_712 (t := (1, (-9223372036854775808), 9223372036854775807)) hk3 (by decide) rfl rfl rfl (tt_ja (0 : Int64)) rfl rfl dX2_absorb_124 (fun pl_108 hok_109 tr hn => ?_)
          replace hf_92 := tr _ _ _ (Or.inl (tt_ne hk0 hk3 (by decide))) hf_92
          replace hf_107 := tr _ _ _ (Or.inr (by decide)) hf_107
          have hf_110 := hn
          replace hfr := hfr.put hk3 tr (by decide)
          exact jj_vret C ⟨[], pl_108, rfl, rfl, hok_109, hfr, rfl⟩ dX2_absorb_127 (jj_le rfl) (jj_le rfl)
        · have z_c_94 := jc_nle (a := (x_93).toInt) (b := (x_90).toInt) c_94 rfl rfl
          refine jj_aload_n C dX2_absorb_19 rfl ?_
          refine tt_get C hok jk_2 12 (by decide) jw_701 (t := (2, 7, 0)) hk0 (by decide) rfl rfl dX2_absorb_20 (fun v_111 hv_111 hf_112 => ?_)
          obtain ⟨a_113, rfl, ka_113⟩ := tt_vr hv_111
          refine jj_iload C dX2_absorb_23 rfl ?_
          refine tt_aald C hok (t := (2, 3, 0)) ka_113 (by decide) rfl rfl rfl (vp_in_iff.mpr ⟨by omega, by omega⟩) dX2_absorb_25 (fun v_114 hv_114 => ?_)
          obtain ⟨a_115, rfl, ka_115⟩ := tt_vr hv_114
          refine jj_astore C dX2_absorb_26 (by decide) rfl ?_
          refine jj_aload C dX2_absorb_28 rfl ?_
          refine tt_get C hok jk_5 1 (by decide) jw_702 (t := (0, (-2147483648), 2147483647)) ka_115 (by decide) rfl rfl dX2_absorb_30 (fun v_116 hv_116 hf_117 => ?_)
          obtain ⟨x_118, rfl, lx_118, ux_118⟩ := tt_vi hv_116
          refine jj_aload C dX2_absorb_33 rfl ?_
          refine tt_get C hok jk_9 0 (by decide) jw_703 (t := (0, (-2147483648), 2147483647)) hk3 (by decide) rfl rfl dX2_absorb_35 (fun v_119 hv_119 hf_120 => ?_)
          obtain ⟨x_121, rfl, lx_121, ux_121⟩ := tt_vi hv_119
          refine jj_icmp_ne (tgt := 95) C dX2_absorb_38 (by decide) (fun c_122 => ?_) (fun c_122 => ?_)
          · have z_c_122 := jc_neq (a := (x_118).toInt) (b := (x_121).toInt) c_122 rfl rfl
            obtain ⟨x_123, ex_123, vx_123⟩ := tt_inc (x := x_90) (n := 1) (by omega) (by omega)
            refine jj_iinc (v := x_123) C dX2_absorb_95 rfl ex_123 (by decide) rfl ?_
            refine jj_goto (tgt := 10) C dX2_absorb_98 (by decide) ?_
            refine jj_loc [0, 2, 3, 4, 5, 6] rfl ?_
            exact ihL_89 pl x_123 hok hfr (by first | omega | decide | exact tt_lo _ | exact tt_hi _) (by first | omega | decide | exact tt_lo _ | exact tt_hi _) (by first | omega | decide | exact tt_lo _ | exact tt_hi _)
          · have z_c_122 := jc_eq (a := (x_118).toInt) (b := (x_121).toInt) c_122 rfl rfl
            refine jj_aload C dX2_absorb_41 rfl ?_
            refine jj_lload_n C dX2_absorb_43 rfl ?_
            refine jj_lconst (v := 0) C dX2_absorb_44 (by decide) ?_
            refine jj_lcmp_le (tgt := 62) C dX2_absorb_45 dX2_absorb_46 (by decide) (fun c_124 => ?_) (fun c_124 => ?_)
            · refine jj_lconst (v := 0) C dX2_absorb_62 (by decide) ?_
              refine tt_put C hok jk_5 3 (by decide) jw_711 (t := (1, (-9223372036854775808), 9223372036854775807)) ka_115 (by decide) rfl rfl rfl (tt_ja (0 : Int64)) rfl rfl dX2_absorb_63 (fun pl_125 hok_126 tr hn => ?_)
              replace hf_92 := tr _ _ _ (Or.inl (tt_ne hk0 ka_115 (by decide))) hf_92
              replace hf_112 := tr _ _ _ (Or.inl (tt_ne hk0 ka_115 (by decide))) hf_112
              replace hf_117 := tr _ _ _ (Or.inr (by decide)) hf_117
              replace hf_120 := tr _ _ _ (Or.inl (tt_ne hk3 ka_115 (by decide))) hf_120
              have hf_127 := hn
              replace hfr := hfr.put ka_115 tr (by decide)
              refine jj_aload C dX2_absorb_66 rfl ?_
              refine jj_aload_n C dX2_absorb_68 rfl ?_
              refine tt_get C hok_126 jk_9 0 (by decide) jw_703 (t := (0, (-2147483648), 2147483647)) hk1 (by decide) rfl rfl dX2_absorb_69 (fun v_128 hv_128 hf_129 => ?_)
              obtain ⟨x_130, rfl, lx_130, ux_130⟩ := tt_vi hv_128
              refine tt_put C hok_126 jk_5 1 (by decide) jw_702 (t := (0, (-2147483648), 2147483647)) ka_115 (by decide) rfl rfl rfl (tt_ia x_130) rfl rfl dX2_absorb_72 (fun pl_131 hok_132 tr hn => ?_)
              replace hf_92 := tr _ _ _ (Or.inl (tt_ne hk0 ka_115 (by decide))) hf_92
              replace hf_112 := tr _ _ _ (Or.inl (tt_ne hk0 ka_115 (by decide))) hf_112
              replace hf_120 := tr _ _ _ (Or.inl (tt_ne hk3 ka_115 (by decide))) hf_120
              replace hf_127 := tr _ _ _ (Or.inr (by decide)) hf_127
              replace hf_129 := tr _ _ _ (Or.inl (tt_ne hk1 ka_115 (by decide))) hf_129
              have hf_133 := hn
              replace hfr := hfr.put ka_115 tr (by decide)
              refine jj_aload C dX2_absorb_75 rfl ?_
              refine jj_lload_n C dX2_absorb_77 rfl ?_
              refine tt_put C hok_132 jk_5 4 (by decide) jw_705 (t := (1, (-9223372036854775808), 9223372036854775807)) ka_115 (by decide) rfl rfl rfl (tt_ja p2) rfl rfl dX2_absorb_78 (fun pl_134 hok_135 tr hn => ?_)
              replace hf_92 := tr _ _ _ (Or.inl (tt_ne hk0 ka_115 (by decide))) hf_92
              replace hf_112 := tr _ _ _ (Or.inl (tt_ne hk0 ka_115 (by decide))) hf_112
              replace hf_120 := tr _ _ _ (Or.inl (tt_ne hk3 ka_115 (by decide))) hf_120
              replace hf_127 := tr _ _ _ (Or.inr (by decide)) hf_127
              replace hf_129 := tr _ _ _ (Or.inl (tt_ne hk1 ka_115 (by decide))) hf_129
              replace hf_133 := tr _ _ _ (Or.inr (by decide)) hf_133
              have hf_136 := hn
              replace hfr := hfr.put ka_115 tr (by decide)
              refine jj_aload_n C dX2_absorb_81 rfl ?_
              refine jj_dup C dX2_absorb_82 rfl ?_
              refine tt_get C hok_135 jk_9 3 (by decide) jw_712 (t := (1, (-9223372036854775808), 9223372036854775807)) hk1 (by decide) rfl rfl dX2_absorb_83 (fun v_137 hv_137 hf_138 => ?_)
              obtain ⟨y_139, rfl, -, -⟩ := tt_vj hv_137
              refine jj_aload C dX2_absorb_86 rfl ?_
              refine tt_getF C hok_135 jk_5 3 (by decide) jw_711 (t := (1, (-9223372036854775808), 9223372036854775807)) ka_115 (by decide) rfl rfl hf_127 dX2_absorb_88 ?_
              obtain ⟨y_140, ey_140⟩ : ∃ z : Int64, y_139 + (0 : Int64) = z := ⟨_, rfl⟩
              refine jj_ladd (v := y_140) C dX2_absorb_91 ey_140 ?_
              refine tt_put C hok_135 jk_9 3 (by decide) jw_712 (t := (1, (-9223372036854775808), 9223372036854775807)) hk1 (by decide) rfl rfl rfl (tt_ja y_140) rfl rfl dX2_absorb_92 (fun pl_141 hok_142 tr hn => ?_)
              replace hf_92 := tr _ _ _ (Or.inl (tt_ne hk0 hk1 (by decide))) hf_92
              replace hf_112 := tr _ _ _ (Or.inl (tt_ne hk0 hk1 (by decide))) hf_112
              replace hf_120 := tr _ _ _ (Or.inr (by decide)) hf_120
              replace hf_127 := tr _ _ _ (Or.inl (tt_ne ka_115 hk1 (by decide))) hf_127
              replace hf_129 := tr _ _ _ (Or.inr (by decide)) hf_129
              replace hf_133 := tr _ _ _ (Or.inl (tt_ne ka_115 hk1 (by decide))) hf_133
              replace hf_136 := tr _ _ _ (Or.inl (tt_ne ka_115 hk1 (by decide))) hf_136
              have hf_143 := hn
              replace hfr := hfr.put hk1 tr (by decide)
              obtain ⟨x_144, ex_144, vx_144⟩ := tt_inc (x := x_90) (n := 1) (by omega) (by omega)
              refine jj_iinc (v := x_144) C dX2_absorb_95 rfl ex_144 (by decide) rfl ?_
              refine jj_goto (tgt := 10) C dX2_absorb_98 (by decide) ?_
              refine jj_loc [0, 2, 3, 4, 5, 6] rfl ?_
              exact ihL_89 pl_141 x_144 hok_142 hfr (by first | omega | decide | exact tt_lo _ | exact tt_hi _) (by first | omega | decide | exact tt_lo _ | exact tt_hi _) (by first | omega | decide | exact tt_lo _ | exact tt_hi _)
            · refine jj_aload C dX2_absorb_49 rfl ?_
              refine tt_get C hok jk_5 3 (by decide) jw_711 (t := (1, (-9223372036854775808), 9223372036854775807)) ka_115 (by decide) rfl rfl dX2_absorb_51 (fun v_145 hv_145 hf_146 => ?_)
              obtain ⟨y_147, rfl, -, -⟩ := tt_vj hv_145
              refine jj_lload C dX2_absorb_54 rfl ?_
              obtain ⟨y_148, ey_148⟩ : ∃ z : Int64, y_147 * y_7 = z := ⟨_, rfl⟩
              refine jj_lmul (v := y_148) C dX2_absorb_56 ey_148 ?_
              refine jj_lload_n C dX2_absorb_57 rfl ?_
              obtain ⟨y_149, ey_149⟩ : ∃ z : Int64, y_148 / p2 = z := ⟨_, rfl⟩
              refine jj_ldiv (v := y_149) C dX2_absorb_58 (jt_nzpL (by first | exact Int64.not_le.mp c_124 | exact Int32.not_le.mp c_124)) ey_149 ?_
              refine jj_goto (tgt := 63) C dX2_absorb_59 (by decide) ?_
              refine tt_put C hok jk_5 3 (by decide) jw_711 (t := (1, (-9223372036854775808), 9223372036854775807)) ka_115 (by decide) rfl rfl rfl (tt_ja y_149) rfl rfl dX2_absorb_63 (fun pl_150 hok_151 tr hn => ?_)
              replace hf_92 := tr _ _ _ (Or.inl (tt_ne hk0 ka_115 (by decide))) hf_92
              replace hf_112 := tr _ _ _ (Or.inl (tt_ne hk0 ka_115 (by decide))) hf_112
              replace hf_117 := tr _ _ _ (Or.inr (by decide)) hf_117
              replace hf_120 := tr _ _ _ (Or.inl (tt_ne hk3 ka_115 (by decide))) hf_120
              have hf_152 := hn
              replace hfr := hfr.put ka_115 tr (by decide)
              refine jj_aload C dX2_absorb_66 rfl ?_
              refine jj_aload_n C dX2_absorb_68 rfl ?_
              refine tt_get C hok_151 jk_9 0 (by decide) jw_703 (t := (0, (-2147483648), 2147483647)) hk1 (by decide) rfl rfl dX2_absorb_69 (fun v_153 hv_153 hf_154 => ?_)
              obtain ⟨x_155, rfl, lx_155, ux_155⟩ := tt_vi hv_153
              refine tt_put C hok_151 jk_5 1 (by decide) jw_702 (t := (0, (-2147483648), 2147483647)) ka_115 (by decide) rfl rfl rfl (tt_ia x_155) rfl rfl dX2_absorb_72 (fun pl_156 hok_157 tr hn => ?_)
              replace hf_92 := tr _ _ _ (Or.inl (tt_ne hk0 ka_115 (by decide))) hf_92
              replace hf_112 := tr _ _ _ (Or.inl (tt_ne hk0 ka_115 (by decide))) hf_112
              replace hf_120 := tr _ _ _ (Or.inl (tt_ne hk3 ka_115 (by decide))) hf_120
              replace hf_152 := tr _ _ _ (Or.inr (by decide)) hf_152
              replace hf_154 := tr _ _ _ (Or.inl (tt_ne hk1 ka_115 (by decide))) hf_154
              have hf_158 := hn
              replace hfr := hfr.put ka_115 tr (by decide)
              refine jj_aload C dX2_absorb_75 rfl ?_
              refine jj_lload_n C dX2_absorb_77 rfl ?_
              refine tt_put C hok_157 jk_5 4 (by decide) jw_705 (t := (1, (-9223372036854775808), 9223372036854775807)) ka_115 (by decide) rfl rfl rfl (tt_ja p2) rfl rfl dX2_absorb_78 (fun pl_159 hok_160 tr hn => ?_)
              replace hf_92 := tr _ _ _ (Or.inl (tt_ne hk0 ka_115 (by decide))) hf_92
              replace hf_112 := tr _ _ _ (Or.inl (tt_ne hk0 ka_115 (by decide))) hf_112
              replace hf_120 := tr _ _ _ (Or.inl (tt_ne hk3 ka_115 (by decide))) hf_120
              replace hf_152 := tr _ _ _ (Or.inr (by decide)) hf_152
              replace hf_154 := tr _ _ _ (Or.inl (tt_ne hk1 ka_115 (by decide))) hf_154
              replace hf_158 := tr _ _ _ (Or.inr (by decide)) hf_158
              have hf_161 := hn
              replace hfr := hfr.put ka_115 tr (by decide)
              refine jj_aload_n C dX2_absorb_81 rfl ?_
              refine jj_dup C dX2_absorb_82 rfl ?_
              refine tt_get C hok_160 jk_9 3 (by decide) jw_712 (t := (1, (-9223372036854775808), 9223372036854775807)) hk1 (by decide) rfl rfl dX2_absorb_83 (fun v_162 hv_162 hf_163 => ?_)
              obtain ⟨y_164, rfl, -, -⟩ := tt_vj hv_162
              refine jj_aload C dX2_absorb_86 rfl ?_
              refine tt_getF C hok_160 jk_5 3 (by decide) jw_711 (t := (1, (-9223372036854775808), 9223372036854775807)) ka_115 (by decide) rfl rfl hf_152 dX2_absorb_88 ?_
              obtain ⟨y_165, ey_165⟩ : ∃ z : Int64, y_164 + y_149 = z := ⟨_, rfl⟩
              refine jj_ladd (v := y_165) C dX2_absorb_91 ey_165 ?_
              refine tt_put C hok_160 jk_9 3 (by decide) jw_712 (t := (1, (-9223372036854775808), 9223372036854775807)) hk1 (by decide) rfl rfl rfl (tt_ja y_165) rfl rfl dX2_absorb_92 (fun pl_166 hok_167 tr hn => ?_)
              replace hf_92 := tr _ _ _ (Or.inl (tt_ne hk0 hk1 (by decide))) hf_92
              replace hf_112 := tr _ _ _ (Or.inl (tt_ne hk0 hk1 (by decide))) hf_112
              replace hf_120 := tr _ _ _ (Or.inr (by decide)) hf_120
              replace hf_152 := tr _ _ _ (Or.inl (tt_ne ka_115 hk1 (by decide))) hf_152
              replace hf_154 := tr _ _ _ (Or.inr (by decide)) hf_154
              replace hf_158 := tr _ _ _ (Or.inl (tt_ne ka_115 hk1 (by decide))) hf_158
              replace hf_161 := tr _ _ _ (Or.inl (tt_ne ka_115 hk1 (by decide))) hf_161
              have hf_168 := hn
              replace hfr := hfr.put hk1 tr (by decide)
              obtain ⟨x_169, ex_169, vx_169⟩ := tt_inc (x := x_90) (n := 1) (by omega) (by omega)
              refine jj_iinc (v := x_169) C dX2_absorb_95 rfl ex_169 (by decide) rfl ?_
              refine jj_goto (tgt := 10) C dX2_absorb_98 (by decide) ?_
              refine jj_loc [0, 2, 3, 4, 5, 6] rfl ?_
              exact ihL_89 pl_166 x_169 hok_167 hfr (by first | omega | decide | exact tt_lo _ | exact tt_hi _) (by first | omega | decide | exact tt_lo _ | exact tt_hi _) (by first | omega | decide | exact tt_lo _ | exact tt_hi _)
    exact hL_89 _ pl_1 (0 : Int32) trivial hok_2 hfr (by first | omega | decide | exact tt_lo _ | exact tt_hi _) (by first | omega | decide | exact tt_lo _ | exact tt_hi _) (Int.self_le_toNat _)

set_option maxHeartbeats 4000000 in
set_option maxRecDepth 100000 in
theorem tc_X2_mergeAll_1 {l : Launch} (hl : l.stackTraces = false) (D : va_G) (cA : Nat → ClassId) (ak : (Nat → Nat) × (Nat → Nat)) {Kd : Nat → Nat} (h0 : Nat) (hk0 : Kd h0 = 1) {pl0 : va_W} (hok : tt_ok tt_tk cA Kd pl0) : jj_M l D cA ak yX2_mergeAll (.code yX2_mergeAll cX2_mergeAll 6 (some .int)) 2 48 0 0 ([] ++ pl0) [.ref h0] (tt_O (fun rx pl1 r => rx = [] ∧ tt_ok tt_tk cA Kd pl1 ∧ tt_fr Kd [(1, 7), (1, 8), (2, 2), (2, 3), (3, 1), (3, 3), (3, 4)] pl0 pl1 ∧ ((r = some (.int 0)) ∨ (∃ v : Int32, (-2147483648 : Int) ≤ v.toInt ∧ v.toInt ≤ 2147483647 ∧ r = some (.int v))))) (tt_OX (fun _ _ _ => False)) := by
  refine jj_start hl (by decide) jw_725 (jj_le rfl) ?_
  intro p e s m args below meth c A hargs hA C hex hmn
  have hfr := tt_fr.refl (K := Kd) (WS := [(1, 7), (1, 8), (2, 2), (2, 3), (3, 1), (3, 3), (3, 4)]) pl0
  refine jj_aload_n C dX2_mergeAll_0 rfl ?_
  refine tt_get C hok jk_2 1 (by decide) jw_704 (t := (0, (-2147483648), 2147483647)) hk0 (by decide) rfl rfl dX2_mergeAll_1 (fun v_1 hv_1 hf_2 => ?_)
  obtain ⟨x_3, rfl, lx_3, ux_3⟩ := tt_vi hv_1
  refine jj_iconst (v := 1) C dX2_mergeAll_4 (by decide) ?_
  refine jj_icmp_eq (tgt := 15) C dX2_mergeAll_5 (by decide) (fun c_4 => ?_) (fun c_4 => ?_)
  · have z_c_4 := jc_eq (a := (x_3).toInt) (b := (1)) c_4 rfl (by decide)
    refine jj_iconst (v := 0) C dX2_mergeAll_15 (by decide) ?_
    exact jj_iret C ⟨[], pl0, rfl, rfl, hok, hfr, (Or.inl rfl)⟩ dX2_mergeAll_16 (jj_le rfl) (jj_le rfl)
  · have z_c_4 := jc_neq (a := (x_3).toInt) (b := (1)) c_4 rfl (by decide)
    refine jj_aload_n C dX2_mergeAll_8 rfl ?_
    refine tt_get C hok jk_2 7 (by decide) jw_317 (t := (0, 0, 6)) hk0 (by decide) rfl rfl dX2_mergeAll_9 (fun v_5 hv_5 hf_6 => ?_)
    obtain ⟨x_7, rfl, lx_7, ux_7⟩ := tt_vi hv_5
    refine jj_if_ne (tgt := 17) C dX2_mergeAll_12 (by decide) (fun c_8 => ?_) (fun c_8 => ?_)
    · have z_c_8 := jc_neq (a := (x_7).toInt) (b := (0)) c_8 rfl (by decide)
      refine jj_aload_n C dX2_mergeAll_17 rfl ?_
      refine tt_get C hok jk_2 11 (by decide) jw_320 (t := (2, 6, 0)) hk0 (by decide) rfl rfl dX2_mergeAll_18 (fun v_9 hv_9 hf_10 => ?_)
      obtain ⟨a_11, rfl, ka_11⟩ := tt_vr hv_9
      refine jj_iconst (v := 0) C dX2_mergeAll_21 (by decide) ?_
      refine tt_aald C hok (t := (2, 2, 0)) ka_11 (by decide) rfl rfl rfl (vp_in_iff.mpr (by decide)) dX2_mergeAll_22 (fun v_12 hv_12 => ?_)
      obtain ⟨a_13, rfl, ka_13⟩ := tt_vr hv_12
      refine jj_astore_n C dX2_mergeAll_23 (by decide) rfl ?_
      refine jj_aload_n C dX2_mergeAll_24 rfl ?_
      obtain ⟨qc, gs, hqc⟩ := tt_recv (cx := []) hok ka_13 (by decide) rfl
      refine tt_callV (rest := []) C (tc_X8_grossPrice_1 hl D cA ak a_13 ka_13 hok) [] [] rfl rfl (by decide) (by decide) (by decide) qc hqc rfl rfl jw_697 jw_169 jw_170 jw_92 jw_167 jn_X8_grossPrice rfl (jj_le rfl) (jj_le rfl) (jj_le rfl) (jj_le rfl) (jj_le rfl) dX2_mergeAll_25 rfl (fun _ _ _ hX => hX.elim) (fun rx pl_14 r O_17 => ?_)
      obtain ⟨rfl, hok_15, hr_16, hR_19⟩ := O_17
      replace hf_2 := hr_16.at hk0 (by decide) (by decide) hf_2
      replace hf_6 := hr_16.at hk0 (by decide) (by decide) hf_6
      replace hf_10 := hr_16.at hk0 (by decide) (by decide) hf_10
      replace hfr := hfr.trans (hr_16.sub (by decide))
      rcases hR_19 with rfl | ⟨y_20, rfl⟩
      · refine jj_lstore_n C dX2_mergeAll_28 (by decide) rfl ?_
        refine jj_lload_n C dX2_mergeAll_29 rfl ?_
        refine jj_aload_n C dX2_mergeAll_30 rfl ?_
        refine tt_get C hok_15 jk_9 4 (by decide) jw_709 (t := (1, (-9223372036854775808), 9223372036854775807)) ka_13 (by decide) rfl rfl dX2_mergeAll_31 (fun v_21 hv_21 hf_22 => ?_)
        obtain ⟨y_23, rfl, -, -⟩ := tt_vj hv_21
        refine jj_lcmp_eq (tgt := 40) C dX2_mergeAll_34 dX2_mergeAll_35 (by decide) (fun c_24 => ?_) (fun c_24 => ?_)
        · refine jj_iconst (v := 0) C dX2_mergeAll_40 (by decide) ?_
          refine jj_istore C dX2_mergeAll_41 (by decide) rfl ?_
          refine jj_iconst (v := 1) C dX2_mergeAll_43 (by decide) ?_
          refine jj_istore C dX2_mergeAll_44 (by decide) rfl ?_
          have hL_25 : ∀ (N : Nat) (pl : va_W) (x_26 : Int32) (x_27 : Int32), True → tt_ok tt_tk cA Kd pl → tt_fr Kd [(1, 7), (1, 8), (2, 2), (2, 3), (3, 1), (3, 3), (3, 4)] pl0 pl → tt_at pl h0 1 (.int x_3) → tt_at pl h0 11 (.ref a_11) → tt_at pl a_13 4 (.long y_23) → (1 : Int) ≤ x_26.toInt → x_26.toInt ≤ 6 → (-2147483648 : Int) ≤ x_27.toInt → x_27.toInt ≤ 2147483647 → (2147483648 - x_26.toInt ≤ (N : Int)) → jj_J p l e (jj_rm 2 48 0 0) s m args below meth c 6 A (vx_MQ below (jj_q D A (tt_O (fun rx pl1 r => rx = [] ∧ tt_ok tt_tk cA Kd pl1 ∧ tt_fr Kd [(1, 7), (1, 8), (2, 2), (2, 3), (3, 1), (3, 3), (3, 4)] pl0 pl1 ∧ ((r = some (.int 0)) ∨ (∃ v : Int32, (-2147483648 : Int) ≤ v.toInt ∧ v.toInt ≤ 2147483647 ∧ r = some (.int v)))))) (jj_x D A (tt_OX (fun _ _ _ => False))) args s 0 0 A) (jj_X D A ([] ++ pl)) 0 0 46 [(5, .int x_26), (4, .int x_27), (2, .long 1000000), (1, .ref a_13), (0, .ref h0)] [] := by
            intro NL_25
            induction NL_25 with
            | zero => intro pl x_26 x_27 _ hok hfr hf_28 hf_29 hf_30 lx_26 ux_26 lx_27 ux_27 hNL_25; exfalso; omega
            | succ NL_25 ihL_25 =>
              intro pl x_26 x_27 _ hok hfr hf_28 hf_29 hf_30 lx_26 ux_26 lx_27 ux_27 hNL_25
              replace ihL_25 := fun pl x_26 x_27 h1 => ihL_25 pl x_26 x_27 trivial h1
              refine jj_iload C dX2_mergeAll_46 rfl ?_
              refine jj_aload_n C dX2_mergeAll_48 rfl ?_
              refine tt_get C hok jk_2 7 (by decide) jw_317 (t := (0, 0, 6)) hk0 (by decide) rfl rfl dX2_mergeAll_49 (fun v_31 hv_31 hf_32 => ?_)
              obtain ⟨x_33, rfl, lx_33, ux_33⟩ := tt_vi hv_31
              refine jj_icmp_ge (tgt := 101) C dX2_mergeAll_52 (by decide) (fun c_34 => ?_) (fun c_34 => ?_)
              · have z_c_34 := jc_le (a := (x_33).toInt) (b := (x_26).toInt) c_34 rfl rfl
                refine jj_aload_n C dX2_mergeAll_101 rfl ?_
                obtain ⟨qc, gs, hqc⟩ := tt_recv (cx := []) hok hk0 (by decide) rfl
                refine tt_callV (rest := []) C (tc_X0_dropEmptyLots_1 hl D cA ak h0 hk0 hok) [] [] rfl rfl (by decide) (by decide) (by decide) qc hqc rfl rfl jw_693 jw_258 jw_259 jw_133 jw_257 jn_X0_dropEmptyLots rfl (jj_le rfl) (jj_le rfl) (jj_le rfl) (jj_le rfl) (jj_le rfl) dX2_mergeAll_102 rfl (fun _ _ _ hX => hX.elim) (fun rx pl_35 r O_38 => ?_)
                obtain ⟨rfl, hok_36, hr_37, hR_40⟩ := O_38
                replace hf_28 := hr_37.at hk0 (by decide) (by decide) hf_28
                replace hf_29 := hr_37.at hk0 (by decide) (by decide) hf_29
                replace hf_30 := hr_37.at ka_13 (by decide) (by decide) hf_30
                replace hf_32 := hr_37.at hk0 (by decide) (by decide) hf_32
                replace hfr := hfr.trans (hr_37.sub (by decide))
                obtain rfl := hR_40
                refine jj_aload_n C dX2_mergeAll_105 rfl ?_
                obtain ⟨qc, gs, hqc⟩ := tt_recv (cx := []) hok_36 hk0 (by decide) rfl
                refine tt_callV (rest := []) C (tc_X0_closeEmptySeries_1 hl D cA ak h0 hk0 hok_36) [] [] rfl rfl (by decide) (by decide) (by decide) qc hqc rfl rfl jw_694 jw_264 jw_265 jw_133 jw_262 jn_X0_closeEmptySeries rfl (jj_le rfl) (jj_le rfl) (jj_le rfl) (jj_le rfl) (jj_le rfl) dX2_mergeAll_106 rfl (fun _ _ _ hX => hX.elim) (fun rx pl_41 r O_44 => ?_)
                obtain ⟨rfl, hok_42, hr_43, hR_46⟩ := O_44
                replace hf_28 := hr_43.at hk0 (by decide) (by decide) hf_28
                replace hf_29 := hr_43.at hk0 (by decide) (by decide) hf_29
                replace hf_30 := hr_43.at ka_13 (by decide) (by decide) hf_30
                replace hfr := hfr.trans (hr_43.sub (by decide))
                obtain rfl := hR_46
                refine jj_iload C dX2_mergeAll_109 rfl ?_
                exact jj_iret C ⟨[], pl_41, rfl, rfl, hok_42, hfr, (Or.inr ⟨x_27, (by first | omega | exact tt_lo _ | exact tt_hi _), (by first | omega | exact tt_lo _ | exact tt_hi _), rfl⟩)⟩ dX2_mergeAll_111 (jj_le rfl) (jj_le rfl)
              · have z_c_34 := jc_nle (a := (x_33).toInt) (b := (x_26).toInt) c_34 rfl rfl
                refine jj_aload_n C dX2_mergeAll_55 rfl ?_
                refine tt_getF C hok jk_2 11 (by decide) jw_320 (t := (2, 6, 0)) hk0 (by decide) rfl rfl hf_29 dX2_mergeAll_56 ?_
                refine jj_iload C dX2_mergeAll_59 rfl ?_
                refine tt_aald C hok (t := (2, 2, 0)) ka_11 (by decide) rfl rfl rfl (vp_in_iff.mpr ⟨by omega, by omega⟩) dX2_mergeAll_61 (fun v_47 hv_47 => ?_)
                obtain ⟨a_48, rfl, ka_48⟩ := tt_vr hv_47
                obtain ⟨qc, gs, hqc⟩ := tt_recv (cx := []) hok ka_48 (by decide) rfl
                refine tt_callV (rest := []) C (tc_X8_grossPrice_1 hl D cA ak a_48 ka_48 hok) [] [] rfl rfl (by decide) (by decide) (by decide) qc hqc rfl rfl jw_697 jw_169 jw_170 jw_92 jw_167 jn_X8_grossPrice rfl (jj_le rfl) (jj_le rfl) (jj_le rfl) (jj_le rfl) (jj_le rfl) dX2_mergeAll_62 rfl (fun _ _ _ hX => hX.elim) (fun rx pl_49 r O_52 => ?_)
                obtain ⟨rfl, hok_50, hr_51, hR_54⟩ := O_52
                replace hf_28 := hr_51.at hk0 (by decide) (by decide) hf_28
                replace hf_29 := hr_51.at hk0 (by decide) (by decide) hf_29
                replace hf_30 := hr_51.at ka_13 (by decide) (by decide) hf_30
                replace hf_32 := hr_51.at hk0 (by decide) (by decide) hf_32
                replace hfr := hfr.trans (hr_51.sub (by decide))
                rcases hR_54 with rfl | ⟨y_55, rfl⟩
                · refine jj_aload_n C dX2_mergeAll_65 rfl ?_
                  refine tt_getF C hok_50 jk_2 11 (by decide) jw_320 (t := (2, 6, 0)) hk0 (by decide) rfl rfl hf_29 dX2_mergeAll_66 ?_
                  refine jj_iload C dX2_mergeAll_69 rfl ?_
                  refine tt_aald C hok_50 (t := (2, 2, 0)) ka_11 (by decide) rfl rfl rfl (vp_in_iff.mpr ⟨by omega, by omega⟩) dX2_mergeAll_71 (fun v_56 hv_56 => ?_)
                  obtain ⟨a_57, rfl, ka_57⟩ := tt_vr hv_56
                  refine tt_get C hok_50 jk_9 4 (by decide) jw_709 (t := (1, (-9223372036854775808), 9223372036854775807)) ka_57 (by decide) rfl rfl dX2_mergeAll_72 (fun v_58 hv_58 hf_59 => ?_)
                  obtain ⟨y_60, rfl, -, -⟩ := tt_vj hv_58
                  refine jj_lcmp_ne (tgt := 95) C dX2_mergeAll_75 dX2_mergeAll_76 (by decide) (fun c_61 => ?_) (fun c_61 => ?_)
                  · obtain ⟨x_62, ex_62, vx_62⟩ := tt_inc (x := x_26) (n := 1) (by omega) (by omega)
                    refine jj_iinc (v := x_62) C dX2_mergeAll_95 rfl ex_62 (by decide) rfl ?_
                    refine jj_goto (tgt := 46) C dX2_mergeAll_98 (by decide) ?_
                    exact ihL_25 pl_49 x_62 x_27 hok_50 hfr hf_28 hf_29 hf_30 (by first | omega | decide | exact tt_lo _ | exact tt_hi _) (by first | omega | decide | exact tt_lo _ | exact tt_hi _) (by first | omega | decide | exact tt_lo _ | exact tt_hi _) (by first | omega | decide | exact tt_lo _ | exact tt_hi _) (by first | omega | decide | exact tt_lo _ | exact tt_hi _)
                  · refine jj_aload_n C dX2_mergeAll_79 rfl ?_
                    refine jj_aload_n C dX2_mergeAll_80 rfl ?_
                    refine jj_lload_n C dX2_mergeAll_81 rfl ?_
                    refine jj_aload_n C dX2_mergeAll_82 rfl ?_
                    refine tt_getF C hok_50 jk_2 11 (by decide) jw_320 (t := (2, 6, 0)) hk0 (by decide) rfl rfl hf_29 dX2_mergeAll_83 ?_
                    refine jj_iload C dX2_mergeAll_86 rfl ?_
                    refine tt_aald C hok_50 (t := (2, 2, 0)) ka_11 (by decide) rfl rfl rfl (vp_in_iff.mpr ⟨by omega, by omega⟩) dX2_mergeAll_88 (fun v_63 hv_63 => ?_)
                    obtain ⟨a_64, rfl, ka_64⟩ := tt_vr hv_63
                    refine tt_callS (rest := []) C (tc_X2_absorb_1 hl D cA ak h0 a_13 a_64 hk0 ka_13 ka_64 hok_50) [] [] rfl rfl (by decide) (by decide) (by decide) jw_726 jw_728 jw_175 jw_727 jn_X2_absorb rfl (jj_le rfl) (jj_le rfl) (jj_le rfl) (jj_le rfl) (jj_le rfl) dX2_mergeAll_89 rfl (fun _ _ _ hX => hX.elim) (fun rx pl_65 r O_68 => ?_)
                    obtain ⟨rfl, hok_66, hr_67, hR_70⟩ := O_68
                    replace hf_28 := hr_67.at hk0 (by decide) (by decide) hf_28
                    replace hf_29 := hr_67.at hk0 (by decide) (by decide) hf_29
                    replace hf_30 := hr_67.at ka_13 (by decide) (by decide) hf_30
                    replace hf_32 := hr_67.at hk0 (by decide) (by decide) hf_32
                    replace hf_59 := hr_67.at ka_57 (by decide) (by decide) hf_59
                    replace hfr := hfr.trans (hr_67.sub (by decide))
                    obtain rfl := hR_70
                    obtain ⟨x_71, ex_71⟩ : ∃ z : Int32, x_27 + Int32.ofInt 1 = z := ⟨_, rfl⟩
                    refine jj_iinc (v := x_71) C dX2_mergeAll_92 rfl ex_71 (by decide) rfl ?_
                    obtain ⟨x_72, ex_72, vx_72⟩ := tt_inc (x := x_26) (n := 1) (by omega) (by omega)
                    refine jj_iinc (v := x_72) C dX2_mergeAll_95 rfl ex_72 (by decide) rfl ?_
                    refine jj_goto (tgt := 46) C dX2_mergeAll_98 (by decide) ?_
                    exact ihL_25 pl_65 x_72 x_71 hok_66 hfr hf_28 hf_29 hf_30 (by first | omega | decide | exact tt_lo _ | exact tt_hi _) (by first | omega | decide | exact tt_lo _ | exact tt_hi _) (by first | omega | decide | exact tt_lo _ | exact tt_hi _) (by first | omega | decide | exact tt_lo _ | exact tt_hi _) (by first | omega | decide | exact tt_lo _ | exact tt_hi _)
                · refine jj_aload_n C dX2_mergeAll_65 rfl ?_
                  refine tt_getF C hok_50 jk_2 11 (by decide) jw_320 (t := (2, 6, 0)) hk0 (by decide) rfl rfl hf_29 dX2_mergeAll_66 ?_
                  refine jj_iload C dX2_mergeAll_69 rfl ?_
                  refine tt_aald C hok_50 (t := (2, 2, 0)) ka_11 (by decide) rfl rfl rfl (vp_in_iff.mpr ⟨by omega, by omega⟩) dX2_mergeAll_71 (fun v_73 hv_73 => ?_)
                  obtain ⟨a_74, rfl, ka_74⟩ := tt_vr hv_73
                  refine tt_get C hok_50 jk_9 4 (by decide) jw_709 (t := (1, (-9223372036854775808), 9223372036854775807)) ka_74 (by decide) rfl rfl dX2_mergeAll_72 (fun v_75 hv_75 hf_76 => ?_)
                  obtain ⟨y_77, rfl, -, -⟩ := tt_vj hv_75
                  refine jj_lcmp_ne (tgt := 95) C dX2_mergeAll_75 dX2_mergeAll_76 (by decide) (fun c_78 => ?_) (fun c_78 => ?_)
                  · obtain ⟨x_79, ex_79, vx_79⟩ := tt_inc (x := x_26) (n := 1) (by omega) (by omega)
                    refine jj_iinc (v := x_79) C dX2_mergeAll_95 rfl ex_79 (by decide) rfl ?_
                    refine jj_goto (tgt := 46) C dX2_mergeAll_98 (by decide) ?_
                    exact ihL_25 pl_49 x_79 x_27 hok_50 hfr hf_28 hf_29 hf_30 (by first | omega | decide | exact tt_lo _ | exact tt_hi _) (by first | omega | decide | exact tt_lo _ | exact tt_hi _) (by first | omega | decide | exact tt_lo _ | exact tt_hi _) (by first | omega | decide | exact tt_lo _ | exact tt_hi _) (by first | omega | decide | exact tt_lo _ | exact tt_hi _)
                  · refine jj_aload_n C dX2_mergeAll_79 rfl ?_
                    refine jj_aload_n C dX2_mergeAll_80 rfl ?_
                    refine jj_lload_n C dX2_mergeAll_81 rfl ?_
                    refine jj_aload_n C dX2_mergeAll_82 rfl ?_
                    refine tt_getF C hok_50 jk_2 11 (by decide) jw_320 (t := (2, 6, 0)) hk0 (by decide) rfl rfl hf_29 dX2_mergeAll_83 ?_
                    refine jj_iload C dX2_mergeAll_86 rfl ?_
                    refine tt_aald C hok_50 (t := (2, 2, 0)) ka_11 (by decide) rfl rfl rfl (vp_in_iff.mpr ⟨by omega, by omega⟩) dX2_mergeAll_88 (fun v_80 hv_80 => ?_)
                    obtain ⟨a_81, rfl, ka_81⟩ := tt_vr hv_80
                    refine tt_callS (rest := []) C (tc_X2_absorb_1 hl D cA ak h0 a_13 a_81 hk0 ka_13 ka_81 hok_50) [] [] rfl rfl (by decide) (by decide) (by decide) jw_726 jw_728 jw_175 jw_727 jn_X2_absorb rfl (jj_le rfl) (jj_le rfl) (jj_le rfl) (jj_le rfl) (jj_le rfl) dX2_mergeAll_89 rfl (fun _ _ _ hX => hX.elim) (fun rx pl_82 r O_85 => ?_)
                    obtain ⟨rfl, hok_83, hr_84, hR_87⟩ := O_85
                    replace hf_28 := hr_84.at hk0 (by decide) (by decide) hf_28
                    replace hf_29 := hr_84.at hk0 (by decide) (by decide) hf_29
                    replace hf_30 := hr_84.at ka_13 (by decide) (by decide) hf_30
                    replace hf_32 := hr_84.at hk0 (by decide) (by decide) hf_32
                    replace hf_76 := hr_84.at ka_74 (by decide) (by decide) hf_76
                    replace hfr := hfr.trans (hr_84.sub (by decide))
                    obtain rfl := hR_87
                    obtain ⟨x_88, ex_88⟩ : ∃ z : Int32, x_27 + Int32.ofInt 1 = z := ⟨_, rfl⟩
                    refine jj_iinc (v := x_88) C dX2_mergeAll_92 rfl ex_88 (by decide) rfl ?_
                    obtain ⟨x_89, ex_89, vx_89⟩ := tt_inc (x := x_26) (n := 1) (by omega) (by omega)
                    refine jj_iinc (v := x_89) C dX2_mergeAll_95 rfl ex_89 (by decide) rfl ?_
                    refine jj_goto (tgt := 46) C dX2_mergeAll_98 (by decide) ?_
                    exact ihL_25 pl_82 x_89 x_88 hok_83 hfr hf_28 hf_29 hf_30 (by first | omega | decide | exact tt_lo _ | exact tt_hi _) (by first | omega | decide | exact tt_lo _ | exact tt_hi _) (by first | omega | decide | exact tt_lo _ | exact tt_hi _) (by first | omega | decide | exact tt_lo _ | exact tt_hi _) (by first | omega | decide | exact tt_lo _ | exact tt_hi _)
          exact hL_25 _ pl_14 (1 : Int32) (0 : Int32) trivial hok_15 hfr hf_2 hf_10 hf_22 (by first | omega | decide | exact tt_lo _ | exact tt_hi _) (by first | omega | decide | exact tt_lo _ | exact tt_hi _) (by first | omega | decide | exact tt_lo _ | exact tt_hi _) (by first | omega | decide | exact tt_lo _ | exact tt_hi _) (Int.self_le_toNat _)
        · refine jj_iconst (v := 0) C dX2_mergeAll_38 (by decide) ?_
          exact jj_iret C ⟨[], pl_14, rfl, rfl, hok_15, hfr, (Or.inl rfl)⟩ dX2_mergeAll_39 (jj_le rfl) (jj_le rfl)
      · refine jj_lstore_n C dX2_mergeAll_28 (by decide) rfl ?_
        refine jj_lload_n C dX2_mergeAll_29 rfl ?_
        refine jj_aload_n C dX2_mergeAll_30 rfl ?_
        refine tt_get C hok_15 jk_9 4 (by decide) jw_709 (t := (1, (-9223372036854775808), 9223372036854775807)) ka_13 (by decide) rfl rfl dX2_mergeAll_31 (fun v_90 hv_90 hf_91 => ?_)
        obtain ⟨y_92, rfl, -, -⟩ := tt_vj hv_90
        refine jj_lcmp_eq (tgt := 40) C dX2_mergeAll_34 dX2_mergeAll_35 (by decide) (fun c_93 => ?_) (fun c_93 => ?_)
        · refine jj_iconst (v := 0) C dX2_mergeAll_40 (by decide) ?_
          refine jj_istore C dX2_mergeAll_41 (by decide) rfl ?_
          refine jj_iconst (v := 1) C dX2_mergeAll_43 (by decide) ?_
          refine jj_istore C dX2_mergeAll_44 (by decide) rfl ?_
          have hL_94 : ∀ (N : Nat) (pl : va_W) (x_95 : Int32) (x_96 : Int32), True → tt_ok tt_tk cA Kd pl → tt_fr Kd [(1, 7), (1, 8), (2, 2), (2, 3), (3, 1), (3, 3), (3, 4)] pl0 pl → tt_at pl h0 1 (.int x_3) → tt_at pl h0 11 (.ref a_11) → tt_at pl a_13 4 (.long y_92) → (1 : Int) ≤ x_95.toInt → x_95.toInt ≤ 6 → (-2147483648 : Int) ≤ x_96.toInt → x_96.toInt ≤ 2147483647 → (2147483648 - x_95.toInt ≤ (N : Int)) → jj_J p l e (jj_rm 2 48 0 0) s m args below meth c 6 A (vx_MQ below (jj_q D A (tt_O (fun rx pl1 r => rx = [] ∧ tt_ok tt_tk cA Kd pl1 ∧ tt_fr Kd [(1, 7), (1, 8), (2, 2), (2, 3), (3, 1), (3, 3), (3, 4)] pl0 pl1 ∧ ((r = some (.int 0)) ∨ (∃ v : Int32, (-2147483648 : Int) ≤ v.toInt ∧ v.toInt ≤ 2147483647 ∧ r = some (.int v)))))) (jj_x D A (tt_OX (fun _ _ _ => False))) args s 0 0 A) (jj_X D A ([] ++ pl)) 0 0 46 [(5, .int x_95), (4, .int x_96), (2, .long y_20), (1, .ref a_13), (0, .ref h0)] [] := by
            intro NL_94
            induction NL_94 with
            | zero => intro pl x_95 x_96 _ hok hfr hf_97 hf_98 hf_99 lx_95 ux_95 lx_96 ux_96 hNL_94; exfalso; omega
            | succ NL_94 ihL_94 =>
              intro pl x_95 x_96 _ hok hfr hf_97 hf_98 hf_99 lx_95 ux_95 lx_96 ux_96 hNL_94
              replace ihL_94 := fun pl x_95 x_96 h1 => ihL_94 pl x_95 x_96 trivial h1
              refine jj_iload C dX2_mergeAll_46 rfl ?_
              refine jj_aload_n C dX2_mergeAll_48 rfl ?_
              refine tt_get C hok jk_2 7 (by decide) jw_317 (t := (0, 0, 6)) hk0 (by decide) rfl rfl dX2_mergeAll_49 (fun v_100 hv_100 hf_101 => ?_)
              obtain ⟨x_102, rfl, lx_102, ux_102⟩ := tt_vi hv_100
              refine jj_icmp_ge (tgt := 101) C dX2_mergeAll_52 (by decide) (fun c_103 => ?_) (fun c_103 => ?_)
              · have z_c_103 := jc_le (a := (x_102).toInt) (b := (x_95).toInt) c_103 rfl rfl
                refine jj_aload_n C dX2_mergeAll_101 rfl ?_
                obtain ⟨qc, gs, hqc⟩ := tt_recv (cx := []) hok hk0 (by decide) rfl
                refine tt_callV (rest := []) C (tc_X0_dropEmptyLots_1 hl D cA ak h0 hk0 hok) [] [] rfl rfl (by decide) (by decide) (by decide) qc hqc rfl rfl jw_693 jw_258 jw_259 jw_133 jw_257 jn_X0_dropEmptyLots rfl (jj_le rfl) (jj_le rfl) (jj_le rfl) (jj_le rfl) (jj_le rfl) dX2_mergeAll_102 rfl (fun _ _ _ hX => hX.elim) (fun rx pl_104 r O_107 => ?_)
                obtain ⟨rfl, hok_105, hr_106, hR_109⟩ := O_107
                replace hf_97 := hr_106.at hk0 (by decide) (by decide) hf_97
                replace hf_98 := hr_106.at hk0 (by decide) (by decide) hf_98
                replace hf_99 := hr_106.at ka_13 (by decide) (by decide) hf_99
                replace hf_101 := hr_106.at hk0 (by decide) (by decide) hf_101
                replace hfr := hfr.trans (hr_106.sub (by decide))
                obtain rfl := hR_109
                refine jj_aload_n C dX2_mergeAll_105 rfl ?_
                obtain ⟨qc, gs, hqc⟩ := tt_recv (cx := []) hok_105 hk0 (by decide) rfl
                refine tt_callV (rest := []) C (tc_X0_closeEmptySeries_1 hl D cA ak h0 hk0 hok_105) [] [] rfl rfl (by decide) (by decide) (by decide) qc hqc rfl rfl jw_694 jw_264 jw_265 jw_133 jw_262 jn_X0_closeEmptySeries rfl (jj_le rfl) (jj_le rfl) (jj_le rfl) (jj_le rfl) (jj_le rfl) dX2_mergeAll_106 rfl (fun _ _ _ hX => hX.elim) (fun rx pl_110 r O_113 => ?_)
                obtain ⟨rfl, hok_111, hr_112, hR_115⟩ := O_113
                replace hf_97 := hr_112.at hk0 (by decide) (by decide) hf_97
                replace hf_98 := hr_112.at hk0 (by decide) (by decide) hf_98
                replace hf_99 := hr_112.at ka_13 (by decide) (by decide) hf_99
                replace hfr := hfr.trans (hr_112.sub (by decide))
                obtain rfl := hR_115
                refine jj_iload C dX2_mergeAll_109 rfl ?_
                exact jj_iret C ⟨[], pl_110, rfl, rfl, hok_111, hfr, (Or.inr ⟨x_96, (by first | omega | exact tt_lo _ | exact tt_hi _), (by first | omega | exact tt_lo _ | exact tt_hi _), rfl⟩)⟩ dX2_mergeAll_111 (jj_le rfl) (jj_le rfl)
              · have z_c_103 := jc_nle (a := (x_102).toInt) (b := (x_95).toInt) c_103 rfl rfl
                refine jj_aload_n C dX2_mergeAll_55 rfl ?_
                refine tt_getF C hok jk_2 11 (by decide) jw_320 (t := (2, 6, 0)) hk0 (by decide) rfl rfl hf_98 dX2_mergeAll_56 ?_
                refine jj_iload C dX2_mergeAll_59 rfl ?_
                refine tt_aald C hok (t := (2, 2, 0)) ka_11 (by decide) rfl rfl rfl (vp_in_iff.mpr ⟨by omega, by omega⟩) dX2_mergeAll_61 (fun v_116 hv_116 => ?_)
                obtain ⟨a_117, rfl, ka_117⟩ := tt_vr hv_116
                obtain ⟨qc, gs, hqc⟩ := tt_recv (cx := []) hok ka_117 (by decide) rfl
                refine tt_callV (rest := []) C (tc_X8_grossPrice_1 hl D cA ak a_117 ka_117 hok) [] [] rfl rfl (by decide) (by decide) (by decide) qc hqc rfl rfl jw_697 jw_169 jw_170 jw_92 jw_167 jn_X8_grossPrice rfl (jj_le rfl) (jj_le rfl) (jj_le rfl) (jj_le rfl) (jj_le rfl) dX2_mergeAll_62 rfl (fun _ _ _ hX => hX.elim) (fun rx pl_118 r O_121 => ?_)
                obtain ⟨rfl, hok_119, hr_120, hR_123⟩ := O_121
                replace hf_97 := hr_120.at hk0 (by decide) (by decide) hf_97
                replace hf_98 := hr_120.at hk0 (by decide) (by decide) hf_98
                replace hf_99 := hr_120.at ka_13 (by decide) (by decide) hf_99
                replace hf_101 := hr_120.at hk0 (by decide) (by decide) hf_101
                replace hfr := hfr.trans (hr_120.sub (by decide))
                rcases hR_123 with rfl | ⟨y_124, rfl⟩
                · refine jj_aload_n C dX2_mergeAll_65 rfl ?_
                  refine tt_getF C hok_119 jk_2 11 (by decide) jw_320 (t := (2, 6, 0)) hk0 (by decide) rfl rfl hf_98 dX2_mergeAll_66 ?_
                  refine jj_iload C dX2_mergeAll_69 rfl ?_
                  refine tt_aald C hok_119 (t := (2, 2, 0)) ka_11 (by decide) rfl rfl rfl (vp_in_iff.mpr ⟨by omega, by omega⟩) dX2_mergeAll_71 (fun v_125 hv_125 => ?_)
                  obtain ⟨a_126, rfl, ka_126⟩ := tt_vr hv_125
                  refine tt_get C hok_119 jk_9 4 (by decide) jw_709 (t := (1, (-9223372036854775808), 9223372036854775807)) ka_126 (by decide) rfl rfl dX2_mergeAll_72 (fun v_127 hv_127 hf_128 => ?_)
                  obtain ⟨y_129, rfl, -, -⟩ := tt_vj hv_127
                  refine jj_lcmp_ne (tgt := 95) C dX2_mergeAll_75 dX2_mergeAll_76 (by decide) (fun c_130 => ?_) (fun c_130 => ?_)
                  · obtain ⟨x_131, ex_131, vx_131⟩ := tt_inc (x := x_95) (n := 1) (by omega) (by omega)
                    refine jj_iinc (v := x_131) C dX2_mergeAll_95 rfl ex_131 (by decide) rfl ?_
                    refine jj_goto (tgt := 46) C dX2_mergeAll_98 (by decide) ?_
                    exact ihL_94 pl_118 x_131 x_96 hok_119 hfr hf_97 hf_98 hf_99 (by first | omega | decide | exact tt_lo _ | exact tt_hi _) (by first | omega | decide | exact tt_lo _ | exact tt_hi _) (by first | omega | decide | exact tt_lo _ | exact tt_hi _) (by first | omega | decide | exact tt_lo _ | exact tt_hi _) (by first | omega | decide | exact tt_lo _ | exact tt_hi _)
                  · refine jj_aload_n C dX2_mergeAll_79 rfl ?_
                    refine jj_aload_n C dX2_mergeAll_80 rfl ?_
                    refine jj_lload_n C dX2_mergeAll_81 rfl ?_
                    refine jj_aload_n C dX2_mergeAll_82 rfl ?_
                    refine tt_getF C hok_119 jk_2 11 (by decide) jw_320 (t := (2, 6, 0)) hk0 (by decide) rfl rfl hf_98 dX2_mergeAll_83 ?_
                    refine jj_iload C dX2_mergeAll_86 rfl ?_
                    refine tt_aald C hok_119 (t := (2, 2, 0)) ka_11 (by decide) rfl rfl rfl (vp_in_iff.mpr ⟨by omega, by omega⟩) dX2_mergeAll_88 (fun v_132 hv_132 => ?_)
                    obtain ⟨a_133, rfl, ka_133⟩ := tt_vr hv_132
                    refine tt_callS (rest := []) C (tc_X2_absorb_2 hl D cA ak h0 a_13 y_20 a_133 hk0 ka_13 ka_133 hok_119) [] [] rfl rfl (by decide) (by decide) (by decide) jw_726 jw_728 jw_175 jw_727 jn_X2_absorb rfl (jj_le rfl) (jj_le rfl) (jj_le rfl) (jj_le rfl) (jj_le rfl) dX2_mergeAll_89 rfl (fun _ _ _ hX => hX.elim) (fun rx pl_134 r O_137 => ?_)
                    obtain ⟨rfl, hok_135, hr_136, hR_139⟩ := O_137
                    replace hf_97 := hr_136.at hk0 (by decide) (by decide) hf_97
                    replace hf_98 := hr_136.at hk0 (by decide) (by decide) hf_98
                    replace hf_99 := hr_136.at ka_13 (by decide) (by decide) hf_99
                    replace hf_101 := hr_136.at hk0 (by decide) (by decide) hf_101
                    replace hf_128 := hr_136.at ka_126 (by decide) (by decide) hf_128
                    replace hfr := hfr.trans (hr_136.sub (by decide))
                    obtain rfl := hR_139
                    obtain ⟨x_140, ex_140⟩ : ∃ z : Int32, x_96 + Int32.ofInt 1 = z := ⟨_, rfl⟩
                    refine jj_iinc (v := x_140) C dX2_mergeAll_92 rfl ex_140 (by decide) rfl ?_
                    obtain ⟨x_141, ex_141, vx_141⟩ := tt_inc (x := x_95) (n := 1) (by omega) (by omega)
                    refine jj_iinc (v := x_141) C dX2_mergeAll_95 rfl ex_141 (by decide) rfl ?_
                    refine jj_goto (tgt := 46) C dX2_mergeAll_98 (by decide) ?_
                    exact ihL_94 pl_134 x_141 x_140 hok_135 hfr hf_97 hf_98 hf_99 (by first | omega | decide | exact tt_lo _ | exact tt_hi _) (by first | omega | decide | exact tt_lo _ | exact tt_hi _) (by first | omega | decide | exact tt_lo _ | exact tt_hi _) (by first | omega | decide | exact tt_lo _ | exact tt_hi _) (by first | omega | decide | exact tt_lo _ | exact tt_hi _)
                · refine jj_aload_n C dX2_mergeAll_65 rfl ?_
                  refine tt_getF C hok_119 jk_2 11 (by decide) jw_320 (t := (2, 6, 0)) hk0 (by decide) rfl rfl hf_98 dX2_mergeAll_66 ?_
                  refine jj_iload C dX2_mergeAll_69 rfl ?_
                  refine tt_aald C hok_119 (t := (2, 2, 0)) ka_11 (by decide) rfl rfl rfl (vp_in_iff.mpr ⟨by omega, by omega⟩) dX2_mergeAll_71 (fun v_142 hv_142 => ?_)
                  obtain ⟨a_143, rfl, ka_143⟩ := tt_vr hv_142
                  refine tt_get C hok_119 jk_9 4 (by decide) jw_709 (t := (1, (-9223372036854775808), 9223372036854775807)) ka_143 (by decide) rfl rfl dX2_mergeAll_72 (fun v_144 hv_144 hf_145 => ?_)
                  obtain ⟨y_146, rfl, -, -⟩ := tt_vj hv_144
                  refine jj_lcmp_ne (tgt := 95) C dX2_mergeAll_75 dX2_mergeAll_76 (by decide) (fun c_147 => ?_) (fun c_147 => ?_)
                  · obtain ⟨x_148, ex_148, vx_148⟩ := tt_inc (x := x_95) (n := 1) (by omega) (by omega)
                    refine jj_iinc (v := x_148) C dX2_mergeAll_95 rfl ex_148 (by decide) rfl ?_
                    refine jj_goto (tgt := 46) C dX2_mergeAll_98 (by decide) ?_
                    exact ihL_94 pl_118 x_148 x_96 hok_119 hfr hf_97 hf_98 hf_99 (by first | omega | decide | exact tt_lo _ | exact tt_hi _) (by first | omega | decide | exact tt_lo _ | exact tt_hi _) (by first | omega | decide | exact tt_lo _ | exact tt_hi _) (by first | omega | decide | exact tt_lo _ | exact tt_hi _) (by first | omega | decide | exact tt_lo _ | exact tt_hi _)
                  · refine jj_aload_n C dX2_mergeAll_79 rfl ?_
                    refine jj_aload_n C dX2_mergeAll_80 rfl ?_
                    refine jj_lload_n C dX2_mergeAll_81 rfl ?_
                    refine jj_aload_n C dX2_mergeAll_82 rfl ?_
                    refine tt_getF C hok_119 jk_2 11 (by decide) jw_320 (t := (2, 6, 0)) hk0 (by decide) rfl rfl hf_98 dX2_mergeAll_83 ?_
                    refine jj_iload C dX2_mergeAll_86 rfl ?_
                    refine tt_aald C hok_119 (t := (2, 2, 0)) ka_11 (by decide) rfl rfl rfl (vp_in_iff.mpr ⟨by omega, by omega⟩) dX2_mergeAll_88 (fun v_149 hv_149 => ?_)
                    obtain ⟨a_150, rfl, ka_150⟩ := tt_vr hv_149
                    refine tt_callS (rest := []) C (tc_X2_absorb_2 hl D cA ak h0 a_13 y_20 a_150 hk0 ka_13 ka_150 hok_119) [] [] rfl rfl (by decide) (by decide) (by decide) jw_726 jw_728 jw_175 jw_727 jn_X2_absorb rfl (jj_le rfl) (jj_le rfl) (jj_le rfl) (jj_le rfl) (jj_le rfl) dX2_mergeAll_89 rfl (fun _ _ _ hX => hX.elim) (fun rx pl_151 r O_154 => ?_)
                    obtain ⟨rfl, hok_152, hr_153, hR_156⟩ := O_154
                    replace hf_97 := hr_153.at hk0 (by decide) (by decide) hf_97
                    replace hf_98 := hr_153.at hk0 (by decide) (by decide) hf_98
                    replace hf_99 := hr_153.at ka_13 (by decide) (by decide) hf_99
                    replace hf_101 := hr_153.at hk0 (by decide) (by decide) hf_101
                    replace hf_145 := hr_153.at ka_143 (by decide) (by decide) hf_145
                    replace hfr := hfr.trans (hr_153.sub (by decide))
                    obtain rfl := hR_156
                    obtain ⟨x_157, ex_157⟩ : ∃ z : Int32, x_96 + Int32.ofInt 1 = z := ⟨_, rfl⟩
                    refine jj_iinc (v := x_157) C dX2_mergeAll_92 rfl ex_157 (by decide) rfl ?_
                    obtain ⟨x_158, ex_158, vx_158⟩ := tt_inc (x := x_95) (n := 1) (by omega) (by omega)
                    refine jj_iinc (v := x_158) C dX2_mergeAll_95 rfl ex_158 (by decide) rfl ?_
                    refine jj_goto (tgt := 46) C dX2_mergeAll_98 (by decide) ?_
                    exact ihL_94 pl_151 x_158 x_157 hok_152 hfr hf_97 hf_98 hf_99 (by first | omega | decide | exact tt_lo _ | exact tt_hi _) (by first | omega | decide | exact tt_lo _ | exact tt_hi _) (by first | omega | decide | exact tt_lo _ | exact tt_hi _) (by first | omega | decide | exact tt_lo _ | exact tt_hi _) (by first | omega | decide | exact tt_lo _ | exact tt_hi _)
          exact hL_94 _ pl_14 (1 : Int32) (0 : Int32) trivial hok_15 hfr hf_2 hf_10 hf_91 (by first | omega | decide | exact tt_lo _ | exact tt_hi _) (by first | omega | decide | exact tt_lo _ | exact tt_hi _) (by first | omega | decide | exact tt_lo _ | exact tt_hi _) (by first | omega | decide | exact tt_lo _ | exact tt_hi _) (Int.self_le_toNat _)
        · refine jj_iconst (v := 0) C dX2_mergeAll_38 (by decide) ?_
          exact jj_iret C ⟨[], pl_14, rfl, rfl, hok_15, hfr, (Or.inl rfl)⟩ dX2_mergeAll_39 (jj_le rfl) (jj_le rfl)
    · have z_c_8 := jc_eq (a := (x_7).toInt) (b := (0)) c_8 rfl (by decide)
      refine jj_iconst (v := 0) C dX2_mergeAll_15 (by decide) ?_
      exact jj_iret C ⟨[], pl0, rfl, rfl, hok, hfr, (Or.inl rfl)⟩ dX2_mergeAll_16 (jj_le rfl) (jj_le rfl)

