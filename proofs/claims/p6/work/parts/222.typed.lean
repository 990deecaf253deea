set_option maxHeartbeats 4000000 in
set_option maxRecDepth 100000 in
theorem tc_X2_settleAll_1 {l : Launch} (hl : l.stackTraces = false) (D : va_G) (cA : Nat → ClassId) (ak : (Nat → Nat) × (Nat → Nat)) {Kd : Nat → Nat} (h0 : Nat) (hk0 : Kd h0 = 1) {pl0 : va_W} (hok : tt_ok tt_tk cA Kd pl0) : jj_M l D cA ak yX2_settleAll (.code yX2_settleAll cX2_settleAll 4 (some .long)) 3 87 0 0 ([] ++ pl0) [.ref h0] (tt_O (fun rx pl1 r => rx = [] ∧ tt_ok tt_tk cA Kd pl1 ∧ tt_fr Kd [(1, 7), (1, 8), (2, 2), (2, 3), (2, 4), (3, 3), (3, 4), (3, 5)] pl0 pl1 ∧ tt_fa Kd [5] pl0 pl1 ∧ ((∃ v : Int64, r = some (.long v))))) (tt_OX (fun _ _ _ => False)) := by
  refine jj_start hl (by decide) jw_b11dd9fe50 (jj_le rfl) ?_
  intro p e s m args below meth c A hargs hA C hex hmn
  have hfr := tt_fr.refl (K := Kd) (WS := [(1, 7), (1, 8), (2, 2), (2, 3), (2, 4), (3, 3), (3, 4), (3, 5)]) pl0
  have hfa := tt_fa.refl (K := Kd) (WA := [5]) pl0
  refine jj_aload_n C dX2_settleAll_0 rfl ?_
  refine tt_get C hok jk_2 10 (by decide) jw_d4020bdca8 (t := (2, 5, 0)) hk0 (by decide) rfl rfl dX2_settleAll_1 (fun v_1 hv_1 hf_2 => ?_)
  obtain ⟨a_3, rfl, ka_3⟩ := tt_vr hv_1
  refine jj_iconst (v := 0) C dX2_settleAll_4 (by decide) ?_
  refine tt_lald C hok (t := (1, (-9223372036854775808), 9223372036854775807)) ka_3 (by decide) rfl (vp_in_iff.mpr (by decide)) dX2_settleAll_5 (fun v_4 hv_4 => ?_)
  refine jj_lstore_n C dX2_settleAll_6 (by decide) rfl ?_
  refine jj_iconst (v := 0) C dX2_settleAll_7 (by decide) ?_
  refine jj_istore_n C dX2_settleAll_8 (by decide) rfl ?_
  have hL_5 : ∀ (N : Nat) (pl : va_W) (x_6 : Int32), True → tt_ok tt_tk cA Kd pl → tt_fr Kd [(1, 7), (1, 8), (2, 2), (2, 3), (2, 4), (3, 3), (3, 4), (3, 5)] pl0 pl → tt_fa Kd [5] pl0 pl → tt_at pl h0 10 (.ref a_3) → (0 : Int) ≤ x_6.toInt → x_6.toInt ≤ 6 → (2147483648 - x_6.toInt ≤ (N : Int)) → jj_J p l e (jj_rm 3 87 0 0) s m args below meth c 4 A (vx_MQ below (jj_q D A (tt_O (fun rx pl1 r => rx = [] ∧ tt_ok tt_tk cA Kd pl1 ∧ tt_fr Kd [(1, 7), (1, 8), (2, 2), (2, 3), (2, 4), (3, 3), (3, 4), (3, 5)] pl0 pl1 ∧ tt_fa Kd [5] pl0 pl1 ∧ ((∃ v : Int64, r = some (.long v)))))) (jj_x D A (tt_OX (fun _ _ _ => False))) args s 0 0 A) (jj_X D A ([] ++ pl)) 0 0 9 [(3, .int x_6), (1, .long v_4), (0, .ref h0)] [] := by
    intro NL_5
    induction NL_5 with
    | zero => intro pl x_6 _ hok hfr hfa hf_7 lx_6 ux_6 hNL_5; exfalso; omega
    | succ NL_5 ihL_5 =>
      intro pl x_6 _ hok hfr hfa hf_7 lx_6 ux_6 hNL_5
      replace ihL_5 := fun pl x_6 h1 => ihL_5 pl x_6 trivial h1
      refine jj_iload_n C dX2_settleAll_9 rfl ?_
      refine jj_aload_n C dX2_settleAll_10 rfl ?_
      refine tt_get C hok jk_2 7 (by decide) jw_fcf7ccfd1e (t := (0, 0, 6)) hk0 (by decide) rfl rfl dX2_settleAll_11 (fun v_8 hv_8 hf_9 => ?_)
      obtain ⟨x_10, rfl, lx_10, ux_10⟩ := tt_vi hv_8
      refine jj_icmp_ge (tgt := 33) C dX2_settleAll_14 (by decide) (fun c_11 => ?_) (fun c_11 => ?_)
      · have z_c_11 := jc_le (a := (x_10).toInt) (b := (x_6).toInt) c_11 rfl rfl
        refine jj_aload_n C dX2_settleAll_33 rfl ?_
        obtain ⟨qc, gs, hqc⟩ := tt_recv (cx := []) hok hk0 (by decide) rfl
        refine tt_callV (rest := []) C (tc_X0_dropEmptyLots_1 hl D cA ak h0 hk0 hok) [] [] rfl rfl (by decide) (by decide) (by decide) qc hqc rfl rfl jw_86cc566f9c jw_4c160b89cc jw_530d6cba9c jw_7d25d4fd32 jw_a434f13787 jn_X0_dropEmptyLots rfl (jj_le rfl) (jj_le rfl) (jj_le rfl) (jj_le rfl) (jj_le rfl) dX2_settleAll_34 rfl (fun _ _ _ hX => hX.elim) (fun rx pl_12 r O_15 => ?_)
        obtain ⟨rfl, hok_13, hr_14, hfa9, hR_17⟩ := O_15
        replace hf_7 := hr_14.at hk0 (by decide) (by decide) hf_7
        replace hf_9 := hr_14.at hk0 (by decide) (by decide) hf_9
        replace hfr := hfr.trans (hr_14.sub (by decide))
        replace hfa := hfa.trans (hfa9.sub (by decide))
        obtain rfl := hR_17
        refine jj_aload_n C dX2_settleAll_37 rfl ?_
        obtain ⟨qc, gs, hqc⟩ := tt_recv (cx := []) hok_13 hk0 (by decide) rfl
        refine tt_callV (rest := []) C (tc_X0_closeEmptySeries_1 hl D cA ak h0 hk0 hok_13) [] [] rfl rfl (by decide) (by decide) (by decide) qc hqc rfl rfl jw_eb35652dce jw_dc112f793f jw_3493203194 jw_7d25d4fd32 jw_a8b63f05be jn_X0_closeEmptySeries rfl (jj_le rfl) (jj_le rfl) (jj_le rfl) (jj_le rfl) (jj_le rfl) dX2_settleAll_38 rfl (fun _ _ _ hX => hX.elim) (fun rx pl_20 r O_23 => ?_)
        obtain ⟨rfl, hok_21, hr_22, hfa9, hR_25⟩ := O_23
        replace hf_7 := hr_22.at hk0 (by decide) (by decide) hf_7
        replace hfr := hfr.trans (hr_22.sub (by decide))
        replace hfa := hfa.trans (hfa9.sub (by decide))
        obtain rfl := hR_25
        refine jj_aload_n C dX2_settleAll_41 rfl ?_
        refine tt_getF C hok_21 jk_2 10 (by decide) jw_d4020bdca8 (t := (2, 5, 0)) hk0 (by decide) rfl rfl hf_7 dX2_settleAll_42 ?_
        refine jj_iconst (v := 0) C dX2_settleAll_45 (by decide) ?_
        refine tt_lald C hok_21 (t := (1, (-9223372036854775808), 9223372036854775807)) ka_3 (by decide) rfl (vp_in_iff.mpr (by decide)) dX2_settleAll_46 (fun v_28 hv_28 => ?_)
        refine jj_lload_n C dX2_settleAll_47 rfl ?_
        obtain ⟨y_29, ey_29⟩ : ∃ z : Int64, v_28 - v_4 = z := ⟨_, rfl⟩
        refine jj_lsub (v := y_29) C dX2_settleAll_48 ey_29 ?_
        exact jj_lret C ⟨[], pl_20, rfl, rfl, hok_21, hfr, hfa, ⟨y_29, rfl⟩⟩ dX2_settleAll_49 (jj_le rfl) (jj_le rfl)
      · have z_c_11 := jc_nle (a := (x_10).toInt) (b := (x_6).toInt) c_11 rfl rfl
        refine jj_aload_n C dX2_settleAll_17 rfl ?_
        refine jj_aload_n C dX2_settleAll_18 rfl ?_
        refine tt_get C hok jk_2 11 (by decide) jw_2bd072191f (t := (2, 6, 0)) hk0 (by decide) rfl rfl dX2_settleAll_19 (fun v_30 hv_30 hf_31 => ?_)
        obtain ⟨a_32, rfl, ka_32⟩ := tt_vr hv_30
        refine jj_iload_n C dX2_settleAll_22 rfl ?_
        refine tt_aald C hok (t := (2, 2, 0)) ka_32 (by decide) rfl rfl rfl (vp_in_iff.mpr ⟨by omega, by omega⟩) dX2_settleAll_23 (fun v_33 hv_33 => ?_)
        obtain ⟨a_34, rfl, ka_34⟩ := tt_vr hv_33
        refine tt_callS (rest := []) C (tc_X2_settleSeries_1 hl D cA ak h0 a_34 hk0 ka_34 hok) [] [] rfl rfl (by decide) (by decide) (by decide) jw_7a962d04ef jw_3b48fa180e jw_79af3f4029 jw_6694ff0abd jn_X2_settleSeries rfl (jj_le rfl) (jj_le rfl) (jj_le rfl) (jj_le rfl) (jj_le rfl) dX2_settleAll_24 rfl (fun _ _ _ hX => hX.elim) (fun rx pl_35 r O_38 => ?_)
        obtain ⟨rfl, hok_36, hr_37, hfa9, hR_40⟩ := O_38
        replace hf_7 := hr_37.at hk0 (by decide) (by decide) hf_7
        replace hf_9 := hr_37.at hk0 (by decide) (by decide) hf_9
        replace hf_31 := hr_37.at hk0 (by decide) (by decide) hf_31
        replace hfr := hfr.trans (hr_37.sub (by decide))
        replace hfa := hfa.trans (hfa9.sub (by decide))
        obtain rfl := hR_40
        obtain ⟨x_43, ex_43, vx_43⟩ := tt_inc (x := x_6) (n := 1) (by omega) (by omega)
        refine jj_iinc (v := x_43) C dX2_settleAll_27 rfl ex_43 (by decide) rfl ?_
        refine jj_goto (tgt := 9) C dX2_settleAll_30 (by decide) ?_
        exact ihL_5 pl_35 x_43 hok_36 hfr hfa hf_7 (by first | omega | decide | exact tt_lo _ | exact tt_hi _) (by first | omega | decide | exact tt_lo _ | exact tt_hi _) (by first | omega | decide | exact tt_lo _ | exact tt_hi _)
  exact hL_5 _ pl0 (0 : Int32) trivial hok hfr hfa hf_2 (by first | omega | decide | exact tt_lo _ | exact tt_hi _) (by first | omega | decide | exact tt_lo _ | exact tt_hi _) (Int.self_le_toNat _)

set_option maxHeartbeats 4000000 in
set_option maxRecDepth 100000 in
theorem tc_X2_absorb_1 {l : Launch} (hl : l.stackTraces = false) (D : va_G) (cA : Nat → ClassId) (ak : (Nat → Nat) × (Nat → Nat)) {Kd : Nat → Nat} (h0 : Nat) (h1 : Nat) (h3 : Nat) (hk0 : Kd h0 = 1) (hk1 : Kd h1 = 2) (hk3 : Kd h3 = 2) {pl0 : va_W} (hok : tt_ok tt_tk cA Kd pl0) : jj_M l D cA ak yX2_absorb (.code yX2_absorb cX2_absorb 9 none) 1 20 0 0 ([] ++ pl0) [.ref h0, .ref h1, .long 1000000, .ref h3] (tt_O (fun rx pl1 r => rx = [] ∧ tt_ok tt_tk cA Kd pl1 ∧ tt_fr Kd [(2, 2), (2, 3), (3, 1), (3, 3), (3, 4)] pl0 pl1 ∧ tt_fa Kd [] pl0 pl1 ∧ ((r = none)))) (tt_OX (fun _ _ _ => False)) := by
  refine jj_start hl (by decide) jw_e715389d49 (jj_le rfl) ?_
  intro p e s m args below meth c A hargs hA C hex hmn
  have hfr := tt_fr.refl (K := Kd) (WS := [(2, 2), (2, 3), (3, 1), (3, 3), (3, 4)]) pl0
  have hfa := tt_fa.refl (K := Kd) (WA := []) pl0
  refine jj_aload C dX2_absorb_0 rfl ?_
  obtain ⟨qc, gs, hqc⟩ := tt_recv (cx := []) hok hk3 (by decide) rfl
  refine tt_callV (rest := []) C (tc_X8_grossPrice_1 hl D cA ak h3 hk3 hok) [] [] rfl rfl (by decide) (by decide) (by decide) qc hqc rfl rfl jw_6230caeffd jw_8d67ffd46e jw_4ae9f31643 jw_364e75910d jw_11bb953c63 jn_X8_grossPrice rfl (jj_le rfl) (jj_le rfl) (jj_le rfl) (jj_le rfl) (jj_le rfl) dX2_absorb_2 rfl (fun _ _ _ hX => hX.elim) (fun rx pl_1 r O_4 => ?_)
  obtain ⟨rfl, hok_2, hr_3, hfa9, hR_6⟩ := O_4
  replace hfr := hfr.trans (hr_3.sub (by decide))
  replace hfa := hfa.trans (hfa9.sub (by decide))
  rcases hR_6 with rfl | ⟨y_9, rfl⟩
  · refine jj_lstore C dX2_absorb_5 (by decide) rfl ?_
    refine jj_iconst (v := 0) C dX2_absorb_7 (by decide) ?_
    refine jj_istore C dX2_absorb_8 (by decide) rfl ?_
    have hL_10 : ∀ (N : Nat) (pl : va_W) (x_11 : Int32), True → tt_ok tt_tk cA Kd pl → tt_fr Kd [(2, 2), (2, 3), (3, 1), (3, 3), (3, 4)] pl0 pl → tt_fa Kd [] pl0 pl → (0 : Int) ≤ x_11.toInt → x_11.toInt ≤ 40 → (2147483648 - x_11.toInt ≤ (N : Int)) → jj_J p l e (jj_rm 1 20 0 0) s m args below meth c 9 A (vx_MQ below (jj_q D A (tt_O (fun rx pl1 r => rx = [] ∧ tt_ok tt_tk cA Kd pl1 ∧ tt_fr Kd [(2, 2), (2, 3), (3, 1), (3, 3), (3, 4)] pl0 pl1 ∧ tt_fa Kd [] pl0 pl1 ∧ ((r = none))))) (jj_x D A (tt_OX (fun _ _ _ => False))) args s 0 0 A) (jj_X D A ([] ++ pl)) 0 0 10 [(7, .int x_11), (5, .long 1000000), (0, .ref h0), (1, .ref h1), (2, .long 1000000), (4, .ref h3)] [] := by
      intro NL_10
      induction NL_10 with
      | zero => intro pl x_11 _ hok hfr hfa lx_11 ux_11 hNL_10; exfalso; omega
      | succ NL_10 ihL_10 =>
        intro pl x_11 _ hok hfr hfa lx_11 ux_11 hNL_10
        replace ihL_10 := fun pl x_11 h1 => ihL_10 pl x_11 trivial h1
        refine jj_iload C dX2_absorb_10 rfl ?_
        refine jj_aload_n C dX2_absorb_12 rfl ?_
        refine tt_get C hok jk_2 8 (by decide) jw_0a65dafd43 (t := (0, 0, 40)) hk0 (by decide) rfl rfl dX2_absorb_13 (fun v_12 hv_12 hf_13 => ?_)
        obtain ⟨x_14, rfl, lx_14, ux_14⟩ := tt_vi hv_12
        refine jj_icmp_ge (tgt := 101) C dX2_absorb_16 (by decide) (fun c_15 => ?_) (fun c_15 => ?_)
        · have z_c_15 := jc_le (a := (x_14).toInt) (b := (x_11).toInt) c_15 rfl rfl
          refine jj_aload_n C dX2_absorb_101 rfl ?_
          refine jj_dup C dX2_absorb_102 rfl ?_
          refine tt_get C hok jk_9 2 (by decide) jw_5719898240 (t := (1, (-9223372036854775808), 9223372036854775807)) hk1 (by decide) rfl rfl dX2_absorb_103 (fun v_16 hv_16 hf_17 => ?_)
          obtain ⟨y_18, rfl, -, -⟩ := tt_vj hv_16
          refine jj_aload C dX2_absorb_106 rfl ?_
          refine tt_get C hok jk_9 2 (by decide) jw_5719898240 (t := (1, (-9223372036854775808), 9223372036854775807)) hk3 (by decide) rfl rfl dX2_absorb_108 (fun v_19 hv_19 hf_20 => ?_)
          obtain ⟨y_21, rfl, -, -⟩ := tt_vj hv_19
          obtain ⟨y_22, ey_22⟩ : ∃ z : Int64, y_18 + y_21 = z := ⟨_, rfl⟩
          refine jj_ladd (v := y_22) C dX2_absorb_111 ey_22 ?_
          refine rl_put C hok jk_9 2 (by decide) jw_5719898240 (t := (1, (-9223372036854775808), 9223372036854775807)) hk1 (by decide) rfl rfl rfl (tt_ja y_22) rfl rfl dX2_absorb_112 (fun pl_23 hok_24 tr hn tl => ?_)
          replace hf_13 := tr _ _ _ (Or.inl (tt_ne hk0 hk1 (by decide))) hf_13
          have hf_25 := hn
          replace hfr := hfr.put hk1 tr (by decide)
          replace hfa := hfa.all tl
          refine jj_aload C dX2_absorb_115 rfl ?_
          refine jj_lconst (v := 0) C dX2_absorb_117 (by decide) ?_
          refine rl_put C hok_24 jk_9 2 (by decide) jw_5719898240 (t := (1, (-9223372036854775808), 9223372036854775807)) hk3 (by decide) rfl rfl rfl (tt_ja (0 : Int64)) rfl rfl dX2_absorb_118 (fun pl_26 hok_27 tr hn tl => ?_)
          replace hf_13 := tr _ _ _ (Or.inl (tt_ne hk0 hk3 (by decide))) hf_13
          have hf_28 := hn
          replace hfr := hfr.put hk3 tr (by decide)
          replace hfa := hfa.all tl
          refine jj_aload C dX2_absorb_121 rfl ?_
          refine jj_lconst (v := 0) C dX2_absorb_123 (by decide) ?_
          refine rl_put C hok_27 jk_9 3 (by decide) jw_abb7017335 (t := (1, (-9223372036854775808), 9223372036854775807)) hk3 (by decide) rfl rfl rfl (tt_ja (0 : Int64)) rfl rfl dX2_absorb_124 (fun pl_29 hok_30 tr hn tl => ?_)
          replace hf_13 := tr _ _ _ (Or.inl (tt_ne hk0 hk3 (by decide))) hf_13
          replace hf_28 := tr _ _ _ (Or.inr (by decide)) hf_28
          have hf_31 := hn
          replace hfr := hfr.put hk3 tr (by decide)
          replace hfa := hfa.all tl
          exact jj_vret C ⟨[], pl_29, rfl, rfl, hok_30, hfr, hfa, rfl⟩ dX2_absorb_127 (jj_le rfl) (jj_le rfl)
        · have z_c_15 := jc_nle (a := (x_14).toInt) (b := (x_11).toInt) c_15 rfl rfl
          refine jj_aload_n C dX2_absorb_19 rfl ?_
          refine tt_get C hok jk_2 12 (by decide) jw_841c5f25b9 (t := (2, 7, 0)) hk0 (by decide) rfl rfl dX2_absorb_20 (fun v_32 hv_32 hf_33 => ?_)
          obtain ⟨a_34, rfl, ka_34⟩ := tt_vr hv_32
          refine jj_iload C dX2_absorb_23 rfl ?_
          refine tt_aald C hok (t := (2, 3, 0)) ka_34 (by decide) rfl rfl rfl (vp_in_iff.mpr ⟨by omega, by omega⟩) dX2_absorb_25 (fun v_35 hv_35 => ?_)
          obtain ⟨a_36, rfl, ka_36⟩ := tt_vr hv_35
          refine jj_astore C dX2_absorb_26 (by decide) rfl ?_
          refine jj_aload C dX2_absorb_28 rfl ?_
          refine tt_get C hok jk_5 1 (by decide) jw_65e19a7e21 (t := (0, (-2147483648), 2147483647)) ka_36 (by decide) rfl rfl dX2_absorb_30 (fun v_37 hv_37 hf_38 => ?_)
          obtain ⟨x_39, rfl, lx_39, ux_39⟩ := tt_vi hv_37
          refine jj_aload C dX2_absorb_33 rfl ?_
          refine tt_get C hok jk_9 0 (by decide) jw_2d4d10d910 (t := (0, (-2147483648), 2147483647)) hk3 (by decide) rfl rfl dX2_absorb_35 (fun v_40 hv_40 hf_41 => ?_)
          obtain ⟨x_42, rfl, lx_42, ux_42⟩ := tt_vi hv_40
          refine jj_icmp_ne (tgt := 95) C dX2_absorb_38 (by decide) (fun c_43 => ?_) (fun c_43 => ?_)
          · have z_c_43 := jc_neq (a := (x_39).toInt) (b := (x_42).toInt) c_43 rfl rfl
            obtain ⟨x_44, ex_44, vx_44⟩ := tt_inc (x := x_11) (n := 1) (by omega) (by omega)
            refine jj_iinc (v := x_44) C dX2_absorb_95 rfl ex_44 (by decide) rfl ?_
            refine jj_goto (tgt := 10) C dX2_absorb_98 (by decide) ?_
            refine jj_loc [0, 2, 3, 4, 5, 6] rfl ?_
            exact ihL_10 pl x_44 hok hfr hfa (by first | omega | decide | exact tt_lo _ | exact tt_hi _) (by first | omega | decide | exact tt_lo _ | exact tt_hi _) (by first | omega | decide | exact tt_lo _ | exact tt_hi _)
          · have z_c_43 := jc_eq (a := (x_39).toInt) (b := (x_42).toInt) c_43 rfl rfl
            refine jj_aload C dX2_absorb_41 rfl ?_
            refine jj_lload_n C dX2_absorb_43 rfl ?_
            refine jj_lconst (v := 0) C dX2_absorb_44 (by decide) ?_
            refine jj_lcmp_leF (tgt := 62) C dX2_absorb_45 dX2_absorb_46 (by decide) (by decide) ?_
            refine jj_aload C dX2_absorb_49 rfl ?_
            refine tt_get C hok jk_5 3 (by decide) jw_a038b4bca1 (t := (1, (-9223372036854775808), 9223372036854775807)) ka_36 (by decide) rfl rfl dX2_absorb_51 (fun v_45 hv_45 hf_46 => ?_)
            obtain ⟨y_47, rfl, -, -⟩ := tt_vj hv_45
            refine jj_lload C dX2_absorb_54 rfl ?_
            obtain ⟨y_48, ey_48⟩ : ∃ z : Int64, y_47 * (1000000 : Int64) = z := ⟨_, rfl⟩
            refine jj_lmul (v := y_48) C dX2_absorb_56 ey_48 ?_
            refine jj_lload_n C dX2_absorb_57 rfl ?_
            obtain ⟨y_49, ey_49⟩ : ∃ z : Int64, y_48 / (1000000 : Int64) = z := ⟨_, rfl⟩
            refine jj_ldiv (v := y_49) C dX2_absorb_58 (by decide) ey_49 ?_
            refine jj_goto (tgt := 63) C dX2_absorb_59 (by decide) ?_
            refine rl_put C hok jk_5 3 (by decide) jw_a038b4bca1 (t := (1, (-9223372036854775808), 9223372036854775807)) ka_36 (by decide) rfl rfl rfl (tt_ja y_49) rfl rfl dX2_absorb_63 (fun pl_50 hok_51 tr hn tl => ?_)
            replace hf_13 := tr _ _ _ (Or.inl (tt_ne hk0 ka_36 (by decide))) hf_13
            replace hf_33 := tr _ _ _ (Or.inl (tt_ne hk0 ka_36 (by decide))) hf_33
            replace hf_38 := tr _ _ _ (Or.inr (by decide)) hf_38
            replace hf_41 := tr _ _ _ (Or.inl (tt_ne hk3 ka_36 (by decide))) hf_41
            have hf_52 := hn
            replace hfr := hfr.put ka_36 tr (by decide)
            replace hfa := hfa.all tl
            refine jj_aload C dX2_absorb_66 rfl ?_
            refine jj_aload_n C dX2_absorb_68 rfl ?_
            refine tt_get C hok_51 jk_9 0 (by decide) jw_2d4d10d910 (t := (0, (-2147483648), 2147483647)) hk1 (by decide) rfl rfl dX2_absorb_69 (fun v_53 hv_53 hf_54 => ?_)
            obtain ⟨x_55, rfl, lx_55, ux_55⟩ := tt_vi hv_53
            refine rl_put C hok_51 jk_5 1 (by decide) jw_65e19a7e21 (t := (0, (-2147483648), 2147483647)) ka_36 (by decide) rfl rfl rfl (tt_ia x_55) rfl rfl dX2_absorb_72 (fun pl_56 hok_57 tr hn tl => ?_)
            replace hf_13 := tr _ _ _ (Or.inl (tt_ne hk0 ka_36 (by decide))) hf_13
            replace hf_33 := tr _ _ _ (Or.inl (tt_ne hk0 ka_36 (by decide))) hf_33
            replace hf_41 := tr _ _ _ (Or.inl (tt_ne hk3 ka_36 (by decide))) hf_41
            replace hf_52 := tr _ _ _ (Or.inr (by decide)) hf_52
            replace hf_54 := tr _ _ _ (Or.inl (tt_ne hk1 ka_36 (by decide))) hf_54
            have hf_58 := hn
            replace hfr := hfr.put ka_36 tr (by decide)
            replace hfa := hfa.all tl
            refine jj_aload C dX2_absorb_75 rfl ?_
            refine jj_lload_n C dX2_absorb_77 rfl ?_
            refine rl_put C hok_57 jk_5 4 (by decide) jw_8ebffe18a9 (t := (1, (-9223372036854775808), 9223372036854775807)) ka_36 (by decide) rfl rfl rfl (tt_ja (1000000 : Int64)) rfl rfl dX2_absorb_78 (fun pl_59 hok_60 tr hn tl => ?_)
            replace hf_13 := tr _ _ _ (Or.inl (tt_ne hk0 ka_36 (by decide))) hf_13
            replace hf_33 := tr _ _ _ (Or.inl (tt_ne hk0 ka_36 (by decide))) hf_33
            replace hf_41 := tr _ _ _ (Or.inl (tt_ne hk3 ka_36 (by decide))) hf_41
            replace hf_52 := tr _ _ _ (Or.inr (by decide)) hf_52
            replace hf_54 := tr _ _ _ (Or.inl (tt_ne hk1 ka_36 (by decide))) hf_54
            replace hf_58 := tr _ _ _ (Or.inr (by decide)) hf_58
            have hf_61 := hn
            replace hfr := hfr.put ka_36 tr (by decide)
            replace hfa := hfa.all tl
            refine jj_aload_n C dX2_absorb_81 rfl ?_
            refine jj_dup C dX2_absorb_82 rfl ?_
            refine tt_get C hok_60 jk_9 3 (by decide) jw_abb7017335 (t := (1, (-9223372036854775808), 9223372036854775807)) hk1 (by decide) rfl rfl dX2_absorb_83 (fun v_62 hv_62 hf_63 => ?_)
            obtain ⟨y_64, rfl, -, -⟩ := tt_vj hv_62
            refine jj_aload C dX2_absorb_86 rfl ?_
            refine tt_getF C hok_60 jk_5 3 (by decide) jw_a038b4bca1 (t := (1, (-9223372036854775808), 9223372036854775807)) ka_36 (by decide) rfl rfl hf_52 dX2_absorb_88 ?_
            obtain ⟨y_65, ey_65⟩ : ∃ z : Int64, y_64 + y_49 = z := ⟨_, rfl⟩
            refine jj_ladd (v := y_65) C dX2_absorb_91 ey_65 ?_
            refine rl_put C hok_60 jk_9 3 (by decide) jw_abb7017335 (t := (1, (-9223372036854775808), 9223372036854775807)) hk1 (by decide) rfl rfl rfl (tt_ja y_65) rfl rfl dX2_absorb_92 (fun pl_66 hok_67 tr hn tl => ?_)
            replace hf_13 := tr _ _ _ (Or.inl (tt_ne hk0 hk1 (by decide))) hf_13
            replace hf_33 := tr _ _ _ (Or.inl (tt_ne hk0 hk1 (by decide))) hf_33
            replace hf_41 := tr _ _ _ (Or.inr (by decide)) hf_41
            replace hf_52 := tr _ _ _ (Or.inl (tt_ne ka_36 hk1 (by decide))) hf_52
            replace hf_54 := tr _ _ _ (Or.inr (by decide)) hf_54
            replace hf_58 := tr _ _ _ (Or.inl (tt_ne ka_36 hk1 (by decide))) hf_58
            replace hf_61 := tr _ _ _ (Or.inl (tt_ne ka_36 hk1 (by decide))) hf_61
            have hf_68 := hn
            replace hfr := hfr.put hk1 tr (by decide)
            replace hfa := hfa.all tl
            obtain ⟨x_69, ex_69, vx_69⟩ := tt_inc (x := x_11) (n := 1) (by omega) (by omega)
            refine jj_iinc (v := x_69) C dX2_absorb_95 rfl ex_69 (by decide) rfl ?_
            refine jj_goto (tgt := 10) C dX2_absorb_98 (by decide) ?_
            refine jj_loc [0, 2, 3, 4, 5, 6] rfl ?_
            exact ihL_10 pl_66 x_69 hok_67 hfr hfa (by first | omega | decide | exact tt_lo _ | exact tt_hi _) (by first | omega | decide | exact tt_lo _ | exact tt_hi _) (by first | omega | decide | exact tt_lo _ | exact tt_hi _)
    exact hL_10 _ pl_1 (0 : Int32) trivial hok_2 hfr hfa (by first | omega | decide | exact tt_lo _ | exact tt_hi _) (by first | omega | decide | exact tt_lo _ | exact tt_hi _) (Int.self_le_toNat _)
  · refine jj_lstore C dX2_absorb_5 (by decide) rfl ?_
    refine jj_iconst (v := 0) C dX2_absorb_7 (by decide) ?_
    refine jj_istore C dX2_absorb_8 (by decide) rfl ?_
    have hL_70 : ∀ (N : Nat) (pl : va_W) (x_71 : Int32), True → tt_ok tt_tk cA Kd pl → tt_fr Kd [(2, 2), (2, 3), (3, 1), (3, 3), (3, 4)] pl0 pl → tt_fa Kd [] pl0 pl → (0 : Int) ≤ x_71.toInt → x_71.toInt ≤ 40 → (2147483648 - x_71.toInt ≤ (N : Int)) → jj_J p l e (jj_rm 1 20 0 0) s m args below meth c 9 A (vx_MQ below (jj_q D A (tt_O (fun rx pl1 r => rx = [] ∧ tt_ok tt_tk cA Kd pl1 ∧ tt_fr Kd [(2, 2), (2, 3), (3, 1), (3, 3), (3, 4)] pl0 pl1 ∧ tt_fa Kd [] pl0 pl1 ∧ ((r = none))))) (jj_x D A (tt_OX (fun _ _ _ => False))) args s 0 0 A) (jj_X D A ([] ++ pl)) 0 0 10 [(7, .int x_71), (5, .long y_9), (0, .ref h0), (1, .ref h1), (2, .long 1000000), (4, .ref h3)] [] := by
      intro NL_70
      induction NL_70 with
      | zero => intro pl x_71 _ hok hfr hfa lx_71 ux_71 hNL_70; exfalso; omega
      | succ NL_70 ihL_70 =>
        intro pl x_71 _ hok hfr hfa lx_71 ux_71 hNL_70
        replace ihL_70 := fun pl x_71 h1 => ihL_70 pl x_71 trivial h1
        refine jj_iload C dX2_absorb_10 rfl ?_
        refine jj_aload_n C dX2_absorb_12 rfl ?_
        refine tt_get C hok jk_2 8 (by decide) jw_0a65dafd43 (t := (0, 0, 40)) hk0 (by decide) rfl rfl dX2_absorb_13 (fun v_72 hv_72 hf_73 => ?_)
        obtain ⟨x_74, rfl, lx_74, ux_74⟩ := tt_vi hv_72
        refine jj_icmp_ge (tgt := 101) C dX2_absorb_16 (by decide) (fun c_75 => ?_) (fun c_75 => ?_)
        · have z_c_75 := jc_le (a := (x_74).toInt) (b := (x_71).toInt) c_75 rfl rfl
          refine jj_aload_n C dX2_absorb_101 rfl ?_
          refine jj_dup C dX2_absorb_102 rfl ?_
          refine tt_get C hok jk_9 2 (by decide) jw_5719898240 (t := (1, (-9223372036854775808), 9223372036854775807)) hk1 (by decide) rfl rfl dX2_absorb_103 (fun v_76 hv_76 hf_77 => ?_)
          obtain ⟨y_78, rfl, -, -⟩ := tt_vj hv_76
          refine jj_aload C dX2_absorb_106 rfl ?_
          refine tt_get C hok jk_9 2 (by decide) jw_5719898240 (t := (1, (-9223372036854775808), 9223372036854775807)) hk3 (by decide) rfl rfl dX2_absorb_108 (fun v_79 hv_79 hf_80 => ?_)
          obtain ⟨y_81, rfl, -, -⟩ := tt_vj hv_79
          obtain ⟨y_82, ey_82⟩ : ∃ z : Int64, y_78 + y_81 = z := ⟨_, rfl⟩
          refine jj_ladd (v := y_82) C dX2_absorb_111 ey_82 ?_
          refine rl_put C hok jk_9 2 (by decide) jw_5719898240 (t := (1, (-9223372036854775808), 9223372036854775807)) hk1 (by decide) rfl rfl rfl (tt_ja y_82) rfl rfl dX2_absorb_112 (fun pl_83 hok_84 tr hn tl => ?_)
          replace hf_73 := tr _ _ _ (Or.inl (tt_ne hk0 hk1 (by decide))) hf_73
          have hf_85 := hn
          replace hfr := hfr.put hk1 tr (by decide)
          replace hfa := hfa.all tl
          refine jj_aload C dX2_absorb_115 rfl ?_
          refine jj_lconst (v := 0) C dX2_absorb_117 (by decide) ?_
          refine rl_put C hok_84 jk_9 2 (by decide) jw_5719898240 (t := (1, (-9223372036854775808), 9223372036854775807)) hk3 (by decide) rfl rfl rfl (tt_ja (0 : Int64)) rfl rfl dX2_absorb_118 (fun pl_86 hok_87 tr hn tl => ?_)
          replace hf_73 := tr _ _ _ (Or.inl (tt_ne hk0 hk3 (by decide))) hf_73
          have hf_88 := hn
          replace hfr := hfr.put hk3 tr (by decide)
          replace hfa := hfa.all tl
          refine jj_aload C dX2_absorb_121 rfl ?_
          refine jj_lconst (v := 0) C dX2_absorb_123 (by decide) ?_
          refine rl_put C hok_87 jk_9 3 (by decide) jw_abb7017335 (t := (1, (-9223372036854775808), 9223372036854775807)) hk3 (by decide) rfl rfl rfl (tt_ja (0 : Int64)) rfl rfl dX2_absorb_124 (fun pl_89 hok_90 tr hn tl => ?_)
          replace hf_73 := tr _ _ _ (Or.inl (tt_ne hk0 hk3 (by decide))) hf_73
          replace hf_88 := tr _ _ _ (Or.inr (by decide)) hf_88
          have hf_91 := hn
          replace hfr := hfr.put hk3 tr (by decide)
          replace hfa := hfa.all tl
          exact jj_vret C ⟨[], pl_89, rfl, rfl, hok_90, hfr, hfa, rfl⟩ dX2_absorb_127 (jj_le rfl) (jj_le rfl)
        · have z_c_75 := jc_nle (a := (x_74).toInt) (b := (x_71).toInt) c_75 rfl rfl
          refine jj_aload_n C dX2_absorb_19 rfl ?_
          refine tt_get C hok jk_2 12 (by decide) jw_841c5f25b9 (t := (2, 7, 0)) hk0 (by decide) rfl rfl dX2_absorb_20 (fun v_92 hv_92 hf_93 => ?_)
          obtain ⟨a_94, rfl, ka_94⟩ := tt_vr hv_92
          refine jj_iload C dX2_absorb_23 rfl ?_
          refine tt_aald C hok (t := (2, 3, 0)) ka_94 (by decide) rfl rfl rfl (vp_in_iff.mpr ⟨by omega, by omega⟩) dX2_absorb_25 (fun v_95 hv_95 => ?_)
          obtain ⟨a_96, rfl, ka_96⟩ := tt_vr hv_95
          refine jj_astore C dX2_absorb_26 (by decide) rfl ?_
          refine jj_aload C dX2_absorb_28 rfl ?_
          refine tt_get C hok jk_5 1 (by decide) jw_65e19a7e21 (t := (0, (-2147483648), 2147483647)) ka_96 (by decide) rfl rfl dX2_absorb_30 (fun v_97 hv_97 hf_98 => ?_)
          obtain ⟨x_99, rfl, lx_99, ux_99⟩ := tt_vi hv_97
          refine jj_aload C dX2_absorb_33 rfl ?_
          refine tt_get C hok jk_9 0 (by decide) jw_2d4d10d910 (t := (0, (-2147483648), 2147483647)) hk3 (by decide) rfl rfl dX2_absorb_35 (fun v_100 hv_100 hf_101 => ?_)
          obtain ⟨x_102, rfl, lx_102, ux_102⟩ := tt_vi hv_100
          refine jj_icmp_ne (tgt := 95) C dX2_absorb_38 (by decide) (fun c_103 => ?_) (fun c_103 => ?_)
          · have z_c_103 := jc_neq (a := (x_99).toInt) (b := (x_102).toInt) c_103 rfl rfl
            obtain ⟨x_104, ex_104, vx_104⟩ := tt_inc (x := x_71) (n := 1) (by omega) (by omega)
            refine jj_iinc (v := x_104) C dX2_absorb_95 rfl ex_104 (by decide) rfl ?_
            refine jj_goto (tgt := 10) C dX2_absorb_98 (by decide) ?_
            refine jj_loc [0, 2, 3, 4, 5, 6] rfl ?_
            exact ihL_70 pl x_104 hok hfr hfa (by first | omega | decide | exact tt_lo _ | exact tt_hi _) (by first | omega | decide | exact tt_lo _ | exact tt_hi _) (by first | omega | decide | exact tt_lo _ | exact tt_hi _)
          · have z_c_103 := jc_eq (a := (x_99).toInt) (b := (x_102).toInt) c_103 rfl rfl
            refine jj_aload C dX2_absorb_41 rfl ?_
            refine jj_lload_n C dX2_absorb_43 rfl ?_
            refine jj_lconst (v := 0) C dX2_absorb_44 (by decide) ?_
            refine jj_lcmp_leF (tgt := 62) C dX2_absorb_45 dX2_absorb_46 (by decide) (by decide) ?_
            refine jj_aload C dX2_absorb_49 rfl ?_
            refine tt_get C hok jk_5 3 (by decide) jw_a038b4bca1 (t := (1, (-9223372036854775808), 9223372036854775807)) ka_96 (by decide) rfl rfl dX2_absorb_51 (fun v_105 hv_105 hf_106 => ?_)
            obtain ⟨y_107, rfl, -, -⟩ := tt_vj hv_105
            refine jj_lload C dX2_absorb_54 rfl ?_
            obtain ⟨y_108, ey_108⟩ : ∃ z : Int64, y_107 * y_9 = z := ⟨_, rfl⟩
            refine jj_lmul (v := y_108) C dX2_absorb_56 ey_108 ?_
            refine jj_lload_n C dX2_absorb_57 rfl ?_
            obtain ⟨y_109, ey_109⟩ : ∃ z : Int64, y_108 / (1000000 : Int64) = z := ⟨_, rfl⟩
            refine jj_ldiv (v := y_109) C dX2_absorb_58 (by decide) ey_109 ?_
            refine jj_goto (tgt := 63) C dX2_absorb_59 (by decide) ?_
            refine rl_put C hok jk_5 3 (by decide) jw_a038b4bca1 (t := (1, (-9223372036854775808), 9223372036854775807)) ka_96 (by decide) rfl rfl rfl (tt_ja y_109) rfl rfl dX2_absorb_63 (fun pl_110 hok_111 tr hn tl => ?_)
            replace hf_73 := tr _ _ _ (Or.inl (tt_ne hk0 ka_96 (by decide))) hf_73
            replace hf_93 := tr _ _ _ (Or.inl (tt_ne hk0 ka_96 (by decide))) hf_93
            replace hf_98 := tr _ _ _ (Or.inr (by decide)) hf_98
            replace hf_101 := tr _ _ _ (Or.inl (tt_ne hk3 ka_96 (by decide))) hf_101
            have hf_112 := hn
            replace hfr := hfr.put ka_96 tr (by decide)
            replace hfa := hfa.all tl
            refine jj_aload C dX2_absorb_66 rfl ?_
            refine jj_aload_n C dX2_absorb_68 rfl ?_
            refine tt_get C hok_111 jk_9 0 (by decide) jw_2d4d10d910 (t := (0, (-2147483648), 2147483647)) hk1 (by decide) rfl rfl dX2_absorb_69 (fun v_113 hv_113 hf_114 => ?_)
            obtain ⟨x_115, rfl, lx_115, ux_115⟩ := tt_vi hv_113
            refine rl_put C hok_111 jk_5 1 (by decide) jw_65e19a7e21 (t := (0, (-2147483648), 2147483647)) ka_96 (by decide) rfl rfl rfl (tt_ia x_115) rfl rfl dX2_absorb_72 (fun pl_116 hok_117 tr hn tl => ?_)
            replace hf_73 := tr _ _ _ (Or.inl (tt_ne hk0 ka_96 (by decide))) hf_73
            replace hf_93 := tr _ _ _ (Or.inl (tt_ne hk0 ka_96 (by decide))) hf_93
            replace hf_101 := tr _ _ _ (Or.inl (tt_ne hk3 ka_96 (by decide))) hf_101
            replace hf_112 := tr _ _ _ (Or.inr (by decide)) hf_112
            replace hf_114 := tr _ _ _ (Or.inl (tt_ne hk1 ka_96 (by decide))) hf_114
            have hf_118 := hn
            replace hfr := hfr.put ka_96 tr (by decide)
            replace hfa := hfa.all tl
            refine jj_aload C dX2_absorb_75 rfl ?_
            refine jj_lload_n C dX2_absorb_77 rfl ?_
            refine rl_put C hok_117 jk_5 4 (by decide) jw_8ebffe18a9 (t := (1, (-9223372036854775808), 9223372036854775807)) ka_96 (by decide) rfl rfl rfl (tt_ja (1000000 : Int64)) rfl rfl dX2_absorb_78 (fun pl_119 hok_120 tr hn tl => ?_)
            replace hf_73 := tr _ _ _ (Or.inl (tt_ne hk0 ka_96 (by decide))) hf_73
            replace hf_93 := tr _ _ _ (Or.inl (tt_ne hk0 ka_96 (by decide))) hf_93
            replace hf_101 := tr _ _ _ (Or.inl (tt_ne hk3 ka_96 (by decide))) hf_101
            replace hf_112 := tr _ _ _ (Or.inr (by decide)) hf_112
            replace hf_114 := tr _ _ _ (Or.inl (tt_ne hk1 ka_96 (by decide))) hf_114
            replace hf_118 := tr _ _ _ (Or.inr (by decide)) hf_118
            have hf_121 := hn
            replace hfr := hfr.put ka_96 tr (by decide)
            replace hfa := hfa.all tl
            refine jj_aload_n C dX2_absorb_81 rfl ?_
            refine jj_dup C dX2_absorb_82 rfl ?_
            refine tt_get C hok_120 jk_9 3 (by decide) jw_abb7017335 (t := (1, (-9223372036854775808), 9223372036854775807)) hk1 (by decide) rfl rfl dX2_absorb_83 (fun v_122 hv_122 hf_123 => ?_)
            obtain ⟨y_124, rfl, -, -⟩ := tt_vj hv_122
            refine jj_aload C dX2_absorb_86 rfl ?_
            refine tt_getF C hok_120 jk_5 3 (by decide) jw_a038b4bca1 (t := (1, (-9223372036854775808), 9223372036854775807)) ka_96 (by decide) rfl rfl hf_112 dX2_absorb_88 ?_
            obtain ⟨y_125, ey_125⟩ : ∃ z : Int64, y_124 + y_109 = z := ⟨_, rfl⟩
            refine jj_ladd (v := y_125) C dX2_absorb_91 ey_125 ?_
            refine rl_put C hok_120 jk_9 3 (by decide) jw_abb7017335 (t := (1, (-9223372036854775808), 9223372036854775807)) hk1 (by decide) rfl rfl rfl (tt_ja y_125) rfl rfl dX2_absorb_92 (fun pl_126 hok_127 tr hn tl => ?_)
            replace hf_73 := tr _ _ _ (Or.inl (tt_ne hk0 hk1 (by decide))) hf_73
            replace hf_93 := tr _ _ _ (Or.inl (tt_ne hk0 hk1 (by decide))) hf_93
            replace hf_101 := tr _ _ _ (Or.inr (by decide)) hf_101
            replace hf_112 := tr _ _ _ (Or.inl (tt_ne ka_96 hk1 (by decide))) hf_112
            replace hf_114 := tr _ _ _ (Or.inr (by decide)) hf_114
            replace hf_118 := tr _ _ _ (Or.inl (tt_ne ka_96 hk1 (by decide))) hf_118
            replace hf_121 := tr _ _ _ (Or.inl (tt_ne ka_96 hk1 (by decide))) hf_121
            have hf_128 := hn
            replace hfr := hfr.put hk1 tr (by decide)
            replace hfa := hfa.all tl
            obtain ⟨x_129, ex_129, vx_129⟩ := tt_inc (x := x_71) (n := 1) (by omega) (by omega)
            refine jj_iinc (v := x_129) C dX2_absorb_95 rfl ex_129 (by decide) rfl ?_
            refine jj_goto (tgt := 10) C dX2_absorb_98 (by decide) ?_
            refine jj_loc [0, 2, 3, 4, 5, 6] rfl ?_
            exact ihL_70 pl_126 x_129 hok_127 hfr hfa (by first | omega | decide | exact tt_lo _ | exact tt_hi _) (by first | omega | decide | exact tt_lo _ | exact tt_hi _) (by first | omega | decide | exact tt_lo _ | exact tt_hi _)
    exact hL_70 _ pl_1 (0 : Int32) trivial hok_2 hfr hfa (by first | omega | decide | exact tt_lo _ | exact tt_hi _) (by first | omega | decide | exact tt_lo _ | exact tt_hi _) (Int.self_le_toNat _)

set_option maxHeartbeats 4000000 in
set_option maxRecDepth 100000 in
theorem tc_X2_absorb_2 {l : Launch} (hl : l.stackTraces = false) (D : va_G) (cA : Nat → ClassId) (ak : (Nat → Nat) × (Nat → Nat)) {Kd : Nat → Nat} (h0 : Nat) (h1 : Nat) (p2 : Int64) (h3 : Nat) (hk0 : Kd h0 = 1) (hk1 : Kd h1 = 2) (hk3 : Kd h3 = 2) {pl0 : va_W} (hok : tt_ok tt_tk cA Kd pl0) : jj_M l D cA ak yX2_absorb (.code yX2_absorb cX2_absorb 9 none) 1 20 0 0 ([] ++ pl0) [.ref h0, .ref h1, .long p2, .ref h3] (tt_O (fun rx pl1 r => rx = [] ∧ tt_ok tt_tk cA Kd pl1 ∧ tt_fr Kd [(2, 2), (2, 3), (3, 1), (3, 3), (3, 4)] pl0 pl1 ∧ tt_fa Kd [] pl0 pl1 ∧ ((r = none)))) (tt_OX (fun _ _ _ => False)) := by
  refine jj_start hl (by decide) jw_e715389d49 (jj_le rfl) ?_
  intro p e s m args below meth c A hargs hA C hex hmn
  have hfr := tt_fr.refl (K := Kd) (WS := [(2, 2), (2, 3), (3, 1), (3, 3), (3, 4)]) pl0
  have hfa := tt_fa.refl (K := Kd) (WA := []) pl0
  refine jj_aload C dX2_absorb_0 rfl ?_
  obtain ⟨qc, gs, hqc⟩ := tt_recv (cx := []) hok hk3 (by decide) rfl
  refine tt_callV (rest := []) C (tc_X8_grossPrice_1 hl D cA ak h3 hk3 hok) [] [] rfl rfl (by decide) (by decide) (by decide) qc hqc rfl rfl jw_6230caeffd jw_8d67ffd46e jw_4ae9f31643 jw_364e75910d jw_11bb953c63 jn_X8_grossPrice rfl (jj_le rfl) (jj_le rfl) (jj_le rfl) (jj_le rfl) (jj_le rfl) dX2_absorb_2 rfl (fun _ _ _ hX => hX.elim) (fun rx pl_1 r O_4 => ?_)
  obtain ⟨rfl, hok_2, hr_3, hfa9, hR_6⟩ := O_4
  replace hfr := hfr.trans (hr_3.sub (by decide))
  replace hfa := hfa.trans (hfa9.sub (by decide))
  rcases hR_6 with rfl | ⟨y_9, rfl⟩
  · refine jj_lstore C dX2_absorb_5 (by decide) rfl ?_
    refine jj_iconst (v := 0) C dX2_absorb_7 (by decide) ?_
    refine jj_istore C dX2_absorb_8 (by decide) rfl ?_
    have hL_10 : ∀ (N : Nat) (pl : va_W) (x_11 : Int32), True → tt_ok tt_tk cA Kd pl → tt_fr Kd [(2, 2), (2, 3), (3, 1), (3, 3), (3, 4)] pl0 pl → tt_fa Kd [] pl0 pl → (0 : Int) ≤ x_11.toInt → x_11.toInt ≤ 40 → (2147483648 - x_11.toInt ≤ (N : Int)) → jj_J p l e (jj_rm 1 20 0 0) s m args below meth c 9 A (vx_MQ below (jj_q D A (tt_O (fun rx pl1 r => rx = [] ∧ tt_ok tt_tk cA Kd pl1 ∧ tt_fr Kd [(2, 2), (2, 3), (3, 1), (3, 3), (3, 4)] pl0 pl1 ∧ tt_fa Kd [] pl0 pl1 ∧ ((r = none))))) (jj_x D A (tt_OX (fun _ _ _ => False))) args s 0 0 A) (jj_X D A ([] ++ pl)) 0 0 10 [(7, .int x_11), (5, .long 1000000), (0, .ref h0), (1, .ref h1), (2, .long p2), (4, .ref h3)] [] := by
      intro NL_10
      induction NL_10 with
      | zero => intro pl x_11 _ hok hfr hfa lx_11 ux_11 hNL_10; exfalso; omega
      | succ NL_10 ihL_10 =>
        intro pl x_11 _ hok hfr hfa lx_11 ux_11 hNL_10
        replace ihL_10 := fun pl x_11 h1 => ihL_10 pl x_11 trivial h1
        refine jj_iload C dX2_absorb_10 rfl ?_
        refine jj_aload_n C dX2_absorb_12 rfl ?_
        refine tt_get C hok jk_2 8 (by decide) jw_0a65dafd43 (t := (0, 0, 40)) hk0 (by decide) rfl rfl dX2_absorb_13 (fun v_12 hv_12 hf_13 => ?_)
        obtain ⟨x_14, rfl, lx_14, ux_14⟩ := tt_vi hv_12
        refine jj_icmp_ge (tgt := 101) C dX2_absorb_16 (by decide) (fun c_15 => ?_) (fun c_15 => ?_)
        · have z_c_15 := jc_le (a := (x_14).toInt) (b := (x_11).toInt) c_15 rfl rfl
          refine jj_aload_n C dX2_absorb_101 rfl ?_
          refine jj_dup C dX2_absorb_102 rfl ?_
          refine tt_get C hok jk_9 2 (by decide) jw_5719898240 (t := (1, (-9223372036854775808), 9223372036854775807)) hk1 (by decide) rfl rfl dX2_absorb_103 (fun v_16 hv_16 hf_17 => ?_)
          obtain ⟨y_18, rfl, -, -⟩ := tt_vj hv_16
          refine jj_aload C dX2_absorb_106 rfl ?_
          refine tt_get C hok jk_9 2 (by decide) jw_5719898240 (t := (1, (-9223372036854775808), 9223372036854775807)) hk3 (by decide) rfl rfl dX2_absorb_108 (fun v_19 hv_19 hf_20 => ?_)
          obtain ⟨y_21, rfl, -, -⟩ := tt_vj hv_19
          obtain ⟨y_22, ey_22⟩ : ∃ z : Int64, y_18 + y_21 = z := ⟨_, rfl⟩
          refine jj_ladd (v := y_22) C dX2_absorb_111 ey_22 ?_
          refine rl_put C hok jk_9 2 (by decide) jw_5719898240 (t := (1, (-9223372036854775808), 9223372036854775807)) hk1 (by decide) rfl rfl rfl (tt_ja y_22) rfl rfl dX2_absorb_112 (fun pl_23 hok_24 tr hn tl => ?_)
          replace hf_13 := tr _ _ _ (Or.inl (tt_ne hk0 hk1 (by decide))) hf_13
          have hf_25 := hn
          replace hfr := hfr.put hk1 tr (by decide)
          replace hfa := hfa.all tl
          refine jj_aload C dX2_absorb_115 rfl ?_
          refine jj_lconst (v := 0) C dX2_absorb_117 (by decide) ?_
          refine rl_put C hok_24 jk_9 2 (by decide) jw_5719898240 (t := (1, (-9223372036854775808), 9223372036854775807)) hk3 (by decide) rfl rfl rfl (tt_ja (0 : Int64)) rfl rfl dX2_absorb_118 (fun pl_26 hok_27 tr hn tl => ?_)
          replace hf_13 := tr _ _ _ (Or.inl (tt_ne hk0 hk3 (by decide))) hf_13
          have hf_28 := hn
          replace hfr := hfr.put hk3 tr (by decide)
          replace hfa := hfa.all tl
          refine jj_aload C dX2_absorb_121 rfl ?_
          refine jj_lconst (v := 0) C dX2_absorb_123 (by decide) ?_
          refine rl_put C hok_27 jk_9 3 (by decide) jw_abb7017335 (t := (1, (-9223372036854775808), 9223372036854775807)) hk3 (by decide) rfl rfl rfl (tt_ja (0 : Int64)) rfl rfl dX2_absorb_124 (fun pl_29 hok_30 tr hn tl => ?_)
          replace hf_13 := tr _ _ _ (Or.inl (tt_ne hk0 hk3 (by decide))) hf_13
          replace hf_28 := tr _ _ _ (Or.inr (by decide)) hf_28
          have hf_31 := hn
          replace hfr := hfr.put hk3 tr (by decide)
          replace hfa := hfa.all tl
          exact jj_vret C ⟨[], pl_29, rfl, rfl, hok_30, hfr, hfa, rfl⟩ dX2_absorb_127 (jj_le rfl) (jj_le rfl)
        · have z_c_15 := jc_nle (a := (x_14).toInt) (b := (x_11).toInt) c_15 rfl rfl
          refine jj_aload_n C dX2_absorb_19 rfl ?_
          refine tt_get C hok jk_2 12 (by decide) jw_841c5f25b9 (t := (2, 7, 0)) hk0 (by decide) rfl rfl dX2_absorb_20 (fun v_32 hv_32 hf_33 => ?_)
          obtain ⟨a_34, rfl, ka_34⟩ := tt_vr hv_32
          refine jj_iload C dX2_absorb_23 rfl ?_
          refine tt_aald C hok (t := (2, 3, 0)) ka_34 (by decide) rfl rfl rfl (vp_in_iff.mpr ⟨by omega, by omega⟩) dX2_absorb_25 (fun v_35 hv_35 => ?_)
          obtain ⟨a_36, rfl, ka_36⟩ := tt_vr hv_35
          refine jj_astore C dX2_absorb_26 (by decide) rfl ?_
          refine jj_aload C dX2_absorb_28 rfl ?_
          refine tt_get C hok jk_5 1 (by decide) jw_65e19a7e21 (t := (0, (-2147483648), 2147483647)) ka_36 (by decide) rfl rfl dX2_absorb_30 (fun v_37 hv_37 hf_38 => ?_)
          obtain ⟨x_39, rfl, lx_39, ux_39⟩ := tt_vi hv_37
          refine jj_aload C dX2_absorb_33 rfl ?_
          refine tt_get C hok jk_9 0 (by decide) jw_2d4d10d910 (t := (0, (-2147483648), 2147483647)) hk3 (by decide) rfl rfl dX2_absorb_35 (fun v_40 hv_40 hf_41 => ?_)
          obtain ⟨x_42, rfl, lx_42, ux_42⟩ := tt_vi hv_40
          refine jj_icmp_ne (tgt := 95) C dX2_absorb_38 (by decide) (fun c_43 => ?_) (fun c_43 => ?_)
          · have z_c_43 := jc_neq (a := (x_39).toInt) (b := (x_42).toInt) c_43 rfl rfl
            obtain ⟨x_44, ex_44, vx_44⟩ := tt_inc (x := x_11) (n := 1) (by omega) (by omega)
            refine jj_iinc (v := x_44) C dX2_absorb_95 rfl ex_44 (by decide) rfl ?_
            refine jj_goto (tgt := 10) C dX2_absorb_98 (by decide) ?_
            refine jj_loc [0, 2, 3, 4, 5, 6] rfl ?_
            exact ihL_10 pl x_44 hok hfr hfa (by first | omega | decide | exact tt_lo _ | exact tt_hi _) (by first | omega | decide | exact tt_lo _ | exact tt_hi _) (by first | omega | decide | exact tt_lo _ | exact tt_hi _)
          · have z_c_43 := jc_eq (a := (x_39).toInt) (b := (x_42).toInt) c_43 rfl rfl
            refine jj_aload C dX2_absorb_41 rfl ?_
            refine jj_lload_n C dX2_absorb_43 rfl ?_
            refine jj_lconst (v := 0) C dX2_absorb_44 (by decide) ?_
            refine jj_lcmp_le (tgt := 62) C dX2_absorb_45 dX2_absorb_46 (by decide) (fun c_45 => ?_) (fun c_45 => ?_)
            · refine jj_lconst (v := 0) C dX2_absorb_62 (by decide) ?_
              refine rl_put C hok jk_5 3 (by decide) jw_a038b4bca1 (t := (1, (-9223372036854775808), 9223372036854775807)) ka_36 (by decide) rfl rfl rfl (tt_ja (0 : Int64)) rfl rfl dX2_absorb_63 (fun pl_46 hok_47 tr hn tl => ?_)
              replace hf_13 := tr _ _ _ (Or.inl (tt_ne hk0 ka_36 (by decide))) hf_13
              replace hf_33 := tr _ _ _ (Or.inl (tt_ne hk0 ka_36 (by decide))) hf_33
              replace hf_38 := tr _ _ _ (Or.inr (by decide)) hf_38
              replace hf_41 := tr _ _ _ (Or.inl (tt_ne hk3 ka_36 (by decide))) hf_41
              have hf_48 := hn
              replace hfr := hfr.put ka_36 tr (by decide)
              replace hfa := hfa.all tl
              refine jj_aload C dX2_absorb_66 rfl ?_
              refine jj_aload_n C dX2_absorb_68 rfl ?_
              refine tt_get C hok_47 jk_9 0 (by decide) jw_2d4d10d910 (t := (0, (-2147483648), 2147483647)) hk1 (by decide) rfl rfl dX2_absorb_69 (fun v_49 hv_49 hf_50 => ?_)
              obtain ⟨x_51, rfl, lx_51, ux_51⟩ := tt_vi hv_49
              refine rl_put C hok_47 jk_5 1 (by decide) jw_65e19a7e21 (t := (0, (-2147483648), 2147483647)) ka_36 (by decide) rfl rfl rfl (tt_ia x_51) rfl rfl dX2_absorb_72 (fun pl_52 hok_53 tr hn tl => ?_)
              replace hf_13 := tr _ _ _ (Or.inl (tt_ne hk0 ka_36 (by decide))) hf_13
              replace hf_33 := tr _ _ _ (Or.inl (tt_ne hk0 ka_36 (by decide))) hf_33
              replace hf_41 := tr _ _ _ (Or.inl (tt_ne hk3 ka_36 (by decide))) hf_41
              replace hf_48 := tr _ _ _ (Or.inr (by decide)) hf_48
              replace hf_50 := tr _ _ _ (Or.inl (tt_ne hk1 ka_36 (by decide))) hf_50
              have hf_54 := hn
              replace hfr := hfr.put ka_36 tr (by decide)
              replace hfa := hfa.all tl
              refine jj_aload C dX2_absorb_75 rfl ?_
              refine jj_lload_n C dX2_absorb_77 rfl ?_
              refine rl_put C hok_53 jk_5 4 (by decide) jw_8ebffe18a9 (t := (1, (-9223372036854775808), 9223372036854775807)) ka_36 (by decide) rfl rfl rfl (tt_ja p2) rfl rfl dX2_absorb_78 (fun pl_55 hok_56 tr hn tl => ?_)
              replace hf_13 := tr _ _ _ (Or.inl (tt_ne hk0 ka_36 (by decide))) hf_13
              replace hf_33 := tr _ _ _ (Or.inl (tt_ne hk0 ka_36 (by decide))) hf_33
              replace hf_41 := tr _ _ _ (Or.inl (tt_ne hk3 ka_36 (by decide))) hf_41
              replace hf_48 := tr _ _ _ (Or.inr (by decide)) hf_48
              replace hf_50 := tr _ _ _ (Or.inl (tt_ne hk1 ka_36 (by decide))) hf_50
              replace hf_54 := tr _ _ _ (Or.inr (by decide)) hf_54
              have hf_57 := hn
              replace hfr := hfr.put ka_36 tr (by decide)
              replace hfa := hfa.all tl
              refine jj_aload_n C dX2_absorb_81 rfl ?_
              refine jj_dup C dX2_absorb_82 rfl ?_
              refine tt_get C hok_56 jk_9 3 (by decide) jw_abb7017335 (t := (1, (-9223372036854775808), 9223372036854775807)) hk1 (by decide) rfl rfl dX2_absorb_83 (fun v_58 hv_58 hf_59 => ?_)
              obtain ⟨y_60, rfl, -, -⟩ := tt_vj hv_58
              refine jj_aload C dX2_absorb_86 rfl ?_
              refine tt_getF C hok_56 jk_5 3 (by decide) jw_a038b4bca1 (t := (1, (-9223372036854775808), 9223372036854775807)) ka_36 (by decide) rfl rfl hf_48 dX2_absorb_88 ?_
              obtain ⟨y_61, ey_61⟩ : ∃ z : Int64, y_60 + (0 : Int64) = z := ⟨_, rfl⟩
              refine jj_ladd (v := y_61) C dX2_absorb_91 ey_61 ?_
              refine rl_put C hok_56 jk_9 3 (by decide) jw_abb7017335 (t := (1, (-9223372036854775808), 9223372036854775807)) hk1 (by decide) rfl rfl rfl (tt_ja y_61) rfl rfl dX2_absorb_92 (fun pl_62 hok_63 tr hn tl => ?_)
              replace hf_13 := tr _ _ _ (Or.inl (tt_ne hk0 hk1 (by decide))) hf_13
              replace hf_33 := tr _ _ _ (Or.inl (tt_ne hk0 hk1 (by decide))) hf_33
              replace hf_41 := tr _ _ _ (Or.inr (by decide)) hf_41
              replace hf_48 := tr _ _ _ (Or.inl (tt_ne ka_36 hk1 (by decide))) hf_48
              replace hf_50 := tr _ _ _ (Or.inr (by decide)) hf_50
              replace hf_54 := tr _ _ _ (Or.inl (tt_ne ka_36 hk1 (by decide))) hf_54
              replace hf_57 := tr _ _ _ (Or.inl (tt_ne ka_36 hk1 (by decide))) hf_57
              have hf_64 := hn
              replace hfr := hfr.put hk1 tr (by decide)
              replace hfa := hfa.all tl
              obtain ⟨x_65, ex_65, vx_65⟩ := tt_inc (x := x_11) (n := 1) (by omega) (by omega)
              refine jj_iinc (v := x_65) C dX2_absorb_95 rfl ex_65 (by decide) rfl ?_
              refine jj_goto (tgt := 10) C dX2_absorb_98 (by decide) ?_
              refine jj_loc [0, 2, 3, 4, 5, 6] rfl ?_
              exact ihL_10 pl_62 x_65 hok_63 hfr hfa (by first | omega | decide | exact tt_lo _ | exact tt_hi _) (by first | omega | decide | exact tt_lo _ | exact tt_hi _) (by first | omega | decide | exact tt_lo _ | exact tt_hi _)
            · refine jj_aload C dX2_absorb_49 rfl ?_
              refine tt_get C hok jk_5 3 (by decide) jw_a038b4bca1 (t := (1, (-9223372036854775808), 9223372036854775807)) ka_36 (by decide) rfl rfl dX2_absorb_51 (fun v_66 hv_66 hf_67 => ?_)
              obtain ⟨y_68, rfl, -, -⟩ := tt_vj hv_66
              refine jj_lload C dX2_absorb_54 rfl ?_
              obtain ⟨y_69, ey_69⟩ : ∃ z : Int64, y_68 * (1000000 : Int64) = z := ⟨_, rfl⟩
              refine jj_lmul (v := y_69) C dX2_absorb_56 ey_69 ?_
              refine jj_lload_n C dX2_absorb_57 rfl ?_
              obtain ⟨y_70, ey_70⟩ : ∃ z : Int64, y_69 / p2 = z := ⟨_, rfl⟩
              refine jj_ldiv (v := y_70) C dX2_absorb_58 (jt_nzpL (by first | exact Int64.not_le.mp c_45 | exact Int32.not_le.mp c_45)) ey_70 ?_
              refine jj_goto (tgt := 63) C dX2_absorb_59 (by decide) ?_
              refine rl_put C hok jk_5 3 (by decide) jw_a038b4bca1 (t := (1, (-9223372036854775808), 9223372036854775807)) ka_36 (by decide) rfl rfl rfl (tt_ja y_70) rfl rfl dX2_absorb_63 (fun pl_71 hok_72 tr hn tl => ?_)
              replace hf_13 := tr _ _ _ (Or.inl (tt_ne hk0 ka_36 (by decide))) hf_13
              replace hf_33 := tr _ _ _ (Or.inl (tt_ne hk0 ka_36 (by decide))) hf_33
              replace hf_38 := tr _ _ _ (Or.inr (by decide)) hf_38
              replace hf_41 := tr _ _ _ (Or.inl (tt_ne hk3 ka_36 (by decide))) hf_41
              have hf_73 := hn
              replace hfr := hfr.put ka_36 tr (by decide)
              replace hfa := hfa.all tl
              refine jj_aload C dX2_absorb_66 rfl ?_
              refine jj_aload_n C dX2_absorb_68 rfl ?_
              refine tt_get C hok_72 jk_9 0 (by decide) jw_2d4d10d910 (t := (0, (-2147483648), 2147483647)) hk1 (by decide) rfl rfl dX2_absorb_69 (fun v_74 hv_74 hf_75 => ?_)
              obtain ⟨x_76, rfl, lx_76, ux_76⟩ := tt_vi hv_74
              refine rl_put C hok_72 jk_5 1 (by decide) jw_65e19a7e21 (t := (0, (-2147483648), 2147483647)) ka_36 (by decide) rfl rfl rfl (tt_ia x_76) rfl rfl dX2_absorb_72 (fun pl_77 hok_78 tr hn tl => ?_)
              replace hf_13 := tr _ _ _ (Or.inl (tt_ne hk0 ka_36 (by decide))) hf_13
              replace hf_33 := tr _ _ _ (Or.inl (tt_ne hk0 ka_36 (by decide))) hf_33
              replace hf_41 := tr _ _ _ (Or.inl (tt_ne hk3 ka_36 (by decide))) hf_41
              replace hf_73 := tr _ _ _ (Or.inr (by decide)) hf_73
              replace hf_75 := tr _ _ _ (Or.inl (tt_ne hk1 ka_36 (by decide))) hf_75
              have hf_79 := hn
              replace hfr := hfr.put ka_36 tr (by decide)
              replace hfa := hfa.all tl
              refine jj_aload C dX2_absorb_75 rfl ?_
              refine jj_lload_n C dX2_absorb_77 rfl ?_
              refine rl_put C hok_78 jk_5 4 (by decide) jw_8ebffe18a9 (t := (1, (-9223372036854775808), 9223372036854775807)) ka_36 (by decide) rfl rfl rfl (tt_ja p2) rfl rfl dX2_absorb_78 (fun pl_80 hok_81 tr hn tl => ?_)
              replace hf_13 := tr _ _ _ (Or.inl (tt_ne hk0 ka_36 (by decide))) hf_13
              replace hf_33 := tr _ _ _ (Or.inl (tt_ne hk0 ka_36 (by decide))) hf_33
              replace hf_41 := tr _ _ _ (Or.inl (tt_ne hk3 ka_36 (by decide))) hf_41
              replace hf_73 := tr _ _ _ (Or.inr (by decide)) hf_73
              replace hf_75 := tr _ _ _ (Or.inl (tt_ne hk1 ka_36 (by decide))) hf_75
              replace hf_79 := tr _ _ _ (Or.inr (by decide)) hf_79
              have hf_82 := hn
              replace hfr := hfr.put ka_36 tr (by decide)
              replace hfa := hfa.all tl
              refine jj_aload_n C dX2_absorb_81 rfl ?_
              refine jj_dup C dX2_absorb_82 rfl ?_
              refine tt_get C hok_81 jk_9 3 (by decide) jw_abb7017335 (t := (1, (-9223372036854775808), 9223372036854775807)) hk1 (by decide) rfl rfl dX2_absorb_83 (fun v_83 hv_83 hf_84 => ?_)
              obtain ⟨y_85, rfl, -, -⟩ := tt_vj hv_83
              refine jj_aload C dX2_absorb_86 rfl ?_
              refine tt_getF C hok_81 jk_5 3 (by decide) jw_a038b4bca1 (t := (1, (-9223372036854775808), 9223372036854775807)) ka_36 (by decide) rfl rfl hf_73 dX2_absorb_88 ?_
              obtain ⟨y_86, ey_86⟩ : ∃ z : Int64, y_85 + y_70 = z := ⟨_, rfl⟩
              refine jj_ladd (v := y_86) C dX2_absorb_91 ey_86 ?_
              refine rl_put C hok_81 jk_9 3 (by decide) jw_abb7017335 (t := (1, (-9223372036854775808), 9223372036854775807)) hk1 (by decide) rfl rfl rfl (tt_ja y_86) rfl rfl dX2_absorb_92 (fun pl_87 hok_88 tr hn tl => ?_)
              replace hf_13 := tr _ _ _ (Or.inl (tt_ne hk0 hk1 (by decide))) hf_13
              replace hf_33 := tr _ _ _ (Or.inl (tt_ne hk0 hk1 (by decide))) hf_33
              replace hf_41 := tr _ _ _ (Or.inr (by decide)) hf_41
              replace hf_73 := tr _ _ _ (Or.inl (tt_ne ka_36 hk1 (by decide))) hf_73
              replace hf_75 := tr _ _ _ (Or.inr (by decide)) hf_75
              replace hf_79 := tr _ _ _ (Or.inl (tt_ne ka_36 hk1 (by decide))) hf_79
              replace hf_82 := tr _ _ _ (Or.inl (tt_ne ka_36 hk1 (by decide))) hf_82
              have hf_89 := hn
              replace hfr := hfr.put hk1 tr (by decide)
              replace hfa := hfa.all tl
              obtain ⟨x_90, ex_90, vx_90⟩ := tt_inc (x := x_11) (n := 1) (by omega) (by omega)
              refine jj_iinc (v := x_90) C dX2_absorb_95 rfl ex_90 (by decide) rfl ?_
              refine jj_goto (tgt := 10) C dX2_absorb_98 (by decide) ?_
              refine jj_loc [0, 2, 3, 4, 5, 6] rfl ?_
              exact ihL_10 pl_87 x_90 hok_88 hfr hfa (by first | omega | decide | exact tt_lo _ | exact tt_hi _) (by first | omega | decide | exact tt_lo _ | exact tt_hi _) (by first | omega | decide | exact tt_lo _ | exact tt_hi _)
    exact hL_10 _ pl_1 (0 : Int32) trivial hok_2 hfr hfa (by first | omega | decide | exact tt_lo _ | exact tt_hi _) (by first | omega | decide | exact tt_lo _ | exact tt_hi _) (Int.self_le_toNat _)
  · refine jj_lstore C dX2_absorb_5 (by decide) rfl ?_
    refine jj_iconst (v := 0) C dX2_absorb_7 (by decide) ?_
    refine jj_istore C dX2_absorb_8 (by decide) rfl ?_
    have hL_91 : ∀ (N : Nat) (pl : va_W) (x_92 : Int32), True → tt_ok tt_tk cA Kd pl → tt_fr Kd [(2, 2), (2, 3), (3, 1), (3, 3), (3, 4)] pl0 pl → tt_fa Kd [] pl0 pl → (0 : Int) ≤ x_92.toInt → x_92.toInt ≤ 40 → (2147483648 - x_92.toInt ≤ (N : Int)) → jj_J p l e (jj_rm 1 20 0 0) s m args below meth c 9 A (vx_MQ below (jj_q D A (tt_O (fun rx pl1 r => rx = [] ∧ tt_ok tt_tk cA Kd pl1 ∧ tt_fr Kd [(2, 2), (2, 3), (3, 1), (3, 3), (3, 4)] pl0 pl1 ∧ tt_fa Kd [] pl0 pl1 ∧ ((r = none))))) (jj_x D A (tt_OX (fun _ _ _ => False))) args s 0 0 A) (jj_X D A ([] ++ pl)) 0 0 10 [(7, .int x_92), (5, .long y_9), (0, .ref h0), (1, .ref h1), (2, .long p2), (4, .ref h3)] [] := by
      intro NL_91
      induction NL_91 with
      | zero => intro pl x_92 _ hok hfr hfa lx_92 ux_92 hNL_91; exfalso; omega
      | succ NL_91 ihL_91 =>
        intro pl x_92 _ hok hfr hfa lx_92 ux_92 hNL_91
        replace ihL_91 := fun pl x_92 h1 => ihL_91 pl x_92 trivial h1
        refine jj_iload C dX2_absorb_10 rfl ?_
        refine jj_aload_n C dX2_absorb_12 rfl ?_
        refine tt_get C hok jk_2 8 (by decide) jw_0a65dafd43 (t := (0, 0, 40)) hk0 (by decide) rfl rfl dX2_absorb_13 (fun v_93 hv_93 hf_94 => ?_)
        obtain ⟨x_95, rfl, lx_95, ux_95⟩ := tt_vi hv_93
        refine jj_icmp_ge (tgt := 101) C dX2_absorb_16 (by decide) (fun c_96 => ?_) (fun c_96 => ?_)
        · have z_c_96 := jc_le (a := (x_95).toInt) (b := (x_92).toInt) c_96 rfl rfl
          refine jj_aload_n C dX2_absorb_101 rfl ?_
          refine jj_dup C dX2_absorb_102 rfl ?_
          refine tt_get C hok jk_9 2 (by decide) jw_5719898240 (t := (1, (-9223372036854775808), 9223372036854775807)) hk1 (by decide) rfl rfl dX2_absorb_103 (fun v_97 hv_97 hf_98 => ?_)
          obtain ⟨y_99, rfl, -, -⟩ := tt_vj hv_97
          refine jj_aload C dX2_absorb_106 rfl ?_
          refine tt_get C hok jk_9 2 (by decide) jw_5719898240 (t := (1, (-9223372036854775808), 9223372036854775807)) hk3 (by decide) rfl rfl dX2_absorb_108 (fun v_100 hv_100 hf_101 => ?_)
          obtain ⟨y_102, rfl, -, -⟩ := tt_vj hv_100
          obtain ⟨y_103, ey_103⟩ : ∃ z : Int64, y_99 + y_102 = z := ⟨_, rfl⟩
          refine jj_ladd (v := y_103) C dX2_absorb_111 ey_103 ?_
          refine rl_put C hok jk_9 2 (by decide) jw_5719898240 (t := (1, (-9223372036854775808), 9223372036854775807)) hk1 (by decide) rfl rfl rfl (tt_ja y_103) rfl rfl dX2_absorb_112 (fun pl_104 hok_105 tr hn tl => ?_)
          replace hf_94 := tr _ _ _ (Or.inl (tt_ne hk0 hk1 (by decide))) hf_94
          have hf_106 := hn
          replace hfr := hfr.put hk1 tr (by decide)
          replace hfa := hfa.all tl
          refine jj_aload C dX2_absorb_115 rfl ?_
          refine jj_lconst (v := 0) C dX2_absorb_117 (by decide) ?_
          refine rl_put C hok_105 jk_9 2 (by decide) jw_5719898240 (t := (1, (-9223372036854775808), 9223372036854775807)) hk3 (by decide) rfl rfl rfl (tt_ja (0 : Int64)) rfl rfl dX2_absorb_118 (fun pl_107 hok_108 tr hn tl => ?_)
          replace hf_94 := tr _ _ _ (Or.inl (tt_ne hk0 hk3 (by decide))) hf_94
          have hf_109 := hn
          replace hfr := hfr.put hk3 tr (by decide)
          replace hfa := hfa.all tl
          refine jj_aload C dX2_absorb_121 rfl ?_
          refine jj_lconst (v := 0) C dX2_absorb_123 (by decide) ?_
          refine rl_put C hok_108 jk_9 3 (by decide) jw_abb7017335 (t := (1, (-9223372036854775808), 9223372036854775807)) hk3 (by decide) rfl rfl rfl (tt_ja (0 : Int64)) rfl rfl dX2_absorb_124 (fun pl_110 hok_111 tr hn tl => ?_)
          replace hf_94 := tr _ _ _ (Or.inl (tt_ne hk0 hk3 (by decide))) hf_94
          replace hf_109 := tr _ _ _ (Or.inr (by decide)) hf_109
          have hf_112 := hn
          replace hfr := hfr.put hk3 tr (by decide)
          replace hfa := hfa.all tl
          exact jj_vret C ⟨[], pl_110, rfl, rfl, hok_111, hfr, hfa, rfl⟩ dX2_absorb_127 (jj_le rfl) (jj_le rfl)
        · have z_c_96 := jc_nle (a := (x_95).toInt) (b := (x_92).toInt) c_96 rfl rfl
          refine jj_aload_n C dX2_absorb_19 rfl ?_
          refine tt_get C hok jk_2 12 (by decide) jw_841c5f25b9 (t := (2, 7, 0)) hk0 (by decide) rfl rfl dX2_absorb_20 (fun v_113 hv_113 hf_114 => ?_)
          obtain ⟨a_115, rfl, ka_115⟩ := tt_vr hv_113
          refine jj_iload C dX2_absorb_23 rfl ?_
          refine tt_aald C hok (t := (2, 3, 0)) ka_115 (by decide) rfl rfl rfl (vp_in_iff.mpr ⟨by omega, by omega⟩) dX2_absorb_25 (fun v_116 hv_116 => ?_)
          obtain ⟨a_117, rfl, ka_117⟩ := tt_vr hv_116
          refine jj_astore C dX2_absorb_26 (by decide) rfl ?_
          refine jj_aload C dX2_absorb_28 rfl ?_
          refine tt_get C hok jk_5 1 (by decide) jw_65e19a7e21 (t := (0, (-2147483648), 2147483647)) ka_117 (by decide) rfl rfl dX2_absorb_30 (fun v_118 hv_118 hf_119 => ?_)
          obtain ⟨x_120, rfl, lx_120, ux_120⟩ := tt_vi hv_118
          refine jj_aload C dX2_absorb_33 rfl ?_
          refine tt_get C hok jk_9 0 (by decide) jw_2d4d10d910 (t := (0, (-2147483648), 2147483647)) hk3 (by decide) rfl rfl dX2_absorb_35 (fun v_121 hv_121 hf_122 => ?_)
          obtain ⟨x_123, rfl, lx_123, ux_123⟩ := tt_vi hv_121
          refine jj_icmp_ne (tgt := 95) C dX2_absorb_38 (by decide) (fun c_124 => ?_) (fun c_124 => ?_)
          · have z_c_124 := jc_neq (a := (x_120).toInt) (b := (x_123).toInt) c_124 rfl rfl
            obtain ⟨x_125, ex_125, vx_125⟩ := tt_inc (x := x_92) (n := 1) (by omega) (by omega)
            refine jj_iinc (v := x_125) C dX2_absorb_95 rfl ex_125 (by decide) rfl ?_
            refine jj_goto (tgt := 10) C dX2_absorb_98 (by decide) ?_
            refine jj_loc [0, 2, 3, 4, 5, 6] rfl ?_
            exact ihL_91 pl x_125 hok hfr hfa (by first | omega | decide | exact tt_lo _ | exact tt_hi _) (by first | omega | decide | exact tt_lo _ | exact tt_hi _) (by first | omega | decide | exact tt_lo _ | exact tt_hi _)
          · have z_c_124 := jc_eq (a := (x_120).toInt) (b := (x_123).toInt) c_124 rfl rfl
            refine jj_aload C dX2_absorb_41 rfl ?_
            refine jj_lload_n C dX2_absorb_43 rfl ?_
            refine jj_lconst (v := 0) C dX2_absorb_44 (by decide) ?_
            refine jj_lcmp_le (tgt := 62) C dX2_absorb_45 dX2_absorb_46 (by decide) (fun c_126 => ?_) (fun c_126 => ?_)
            · refine jj_lconst (v := 0) C dX2_absorb_62 (by decide) ?_
              refine rl_put C hok jk_5 3 (by decide) jw_a038b4bca1 (t := (1, (-9223372036854775808), 9223372036854775807)) ka_117 (by decide) rfl rfl rfl (tt_ja (0 : Int64)) rfl rfl dX2_absorb_63 (fun pl_127 hok_128 tr hn tl => ?_)
              replace hf_94 := tr _ _ _ (Or.inl (tt_ne hk0 ka_117 (by decide))) hf_94
              replace hf_114 := tr _ _ _ (Or.inl (tt_ne hk0 ka_117 (by decide))) hf_114
              replace hf_119 := tr _ _ _ (Or.inr (by decide)) hf_119
              replace hf_122 := tr _ _ _ (Or.inl (tt_ne hk3 ka_117 (by decide))) hf_122
              have hf_129 := hn
              replace hfr := hfr.put ka_117 tr (by decide)
              replace hfa := hfa.all tl
              refine jj_aload C dX2_absorb_66 rfl ?_
              refine jj_aload_n C dX2_absorb_68 rfl ?_
              refine tt_get C hok_128 jk_9 0 (by decide) jw_2d4d10d910 (t := (0, (-2147483648), 2147483647)) hk1 (by decide) rfl rfl dX2_absorb_69 (fun v_130 hv_130 hf_131 => ?_)
              obtain ⟨x_132, rfl, lx_132, ux_132⟩ := tt_vi hv_130
              refine rl_put C hok_128 jk_5 1 (by decide) jw_65e19a7e21 (t := (0, (-2147483648), 2147483647)) ka_117 (by decide) rfl rfl rfl (tt_ia x_132) rfl rfl dX2_absorb_72 (fun pl_133 hok_134 tr hn tl => ?_)
              replace hf_94 := tr _ _ _ (Or.inl (tt_ne hk0 ka_117 (by decide))) hf_94
              replace hf_114 := tr _ _ _ (Or.inl (tt_ne hk0 ka_117 (by decide))) hf_114
              replace hf_122 := tr _ _ _ (Or.inl (tt_ne hk3 ka_117 (by decide))) hf_122
              replace hf_129 := tr _ _ _ (Or.inr (by decide)) hf_129
              replace hf_131 := tr _ _ _ (Or.inl (tt_ne hk1 ka_117 (by decide))) hf_131
              have hf_135 := hn
              replace hfr := hfr.put ka_117 tr (by decide)
              replace hfa := hfa.all tl
              refine jj_aload C dX2_absorb_75 rfl ?_
              refine jj_lload_n C dX2_absorb_77 rfl ?_
              refine rl_put C hok_134 jk_5 4 (by decide) jw_8ebffe18a9 (t := (1, (-9223372036854775808), 9223372036854775807)) ka_117 (by decide) rfl rfl rfl (tt_ja p2) rfl rfl dX2_absorb_78 (fun pl_136 hok_137 tr hn tl => ?_)
              replace hf_94 := tr _ _ _ (Or.inl (tt_ne hk0 ka_117 (by decide))) hf_94
              replace hf_114 := tr _ _ _ (Or.inl (tt_ne hk0 ka_117 (by decide))) hf_114
              replace hf_122 := tr _ _ _ (Or.inl (tt_ne hk3 ka_117 (by decide))) hf_122
              replace hf_129 := tr _ _ _ (Or.inr (by decide)) hf_129
              replace hf_131 := tr _ _ _ (Or.inl (tt_ne hk1 ka_117 (by decide))) hf_131
              replace hf_135 := tr _ _ _ (Or.inr (by decide)) hf_135
              have hf_138 := hn
              replace hfr := hfr.put ka_117 tr (by decide)
              replace hfa := hfa.all tl
              refine jj_aload_n C dX2_absorb_81 rfl ?_
              refine jj_dup C dX2_absorb_82 rfl ?_
              refine tt_get C hok_137 jk_9 3 (by decide) jw_abb7017335 (t := (1, (-9223372036854775808), 9223372036854775807)) hk1 (by decide) rfl rfl dX2_absorb_83 (fun v_139 hv_139 hf_140 => ?_)
              obtain ⟨y_141, rfl, -, -⟩ := tt_vj hv_139
              refine jj_aload C dX2_absorb_86 rfl ?_
              refine tt_getF C hok_137 jk_5 3 (by decide) jw_a038b4bca1 (t := (1, (-9223372036854775808), 9223372036854775807)) ka_117 (by decide) rfl rfl hf_129 dX2_absorb_88 ?_
              obtain ⟨y_142, ey_142⟩ : ∃ z : Int64, y_141 + (0 : Int64) = z := ⟨_, rfl⟩
              refine jj_ladd (v := y_142) C dX2_absorb_91 ey_142 ?_
              refine rl_put C hok_137 jk_9 3 (by decide) jw_abb7017335 (t := (1, (-9223372036854775808), 9223372036854775807)) hk1 (by decide) rfl rfl rfl (tt_ja y_142) rfl rfl dX2_absorb_92 (fun pl_143 hok_144 tr hn tl => ?_)
              replace hf_94 := tr _ _ _ (Or.inl (tt_ne hk0 hk1 (by decide))) hf_94
              replace hf_114 := tr _ _ _ (Or.inl (tt_ne hk0 hk1 (by decide))) hf_114
              replace hf_122 := tr _ _ _ (Or.inr (by decide)) hf_122
              replace hf_129 := tr _ _ _ (Or.inl (tt_ne ka_117 hk1 (by decide))) hf_129
              replace hf_131 := tr _ _ _ (Or.inr (by decide)) hf_131
              replace hf_135 := tr _ _ _ (Or.inl (tt_ne ka_117 hk1 (by decide))) hf_135
              replace hf_138 := tr _ _ _ (Or.inl (tt_ne ka_117 hk1 (by decide))) hf_138
              have hf_145 := hn
              replace hfr := hfr.put hk1 tr (by decide)
              replace hfa := hfa.all tl
              obtain ⟨x_146, ex_146, vx_146⟩ := tt_inc (x := x_92) (n := 1) (by omega) (by omega)
              refine jj_iinc (v := x_146) C dX2_absorb_95 rfl ex_146 (by decide) rfl ?_
              refine jj_goto (tgt := 10) C dX2_absorb_98 (by decide) ?_
              refine jj_loc [0, 2, 3, 4, 5, 6] rfl ?_
              exact ihL_91 pl_143 x_146 hok_144 hfr hfa (by first | omega | decide | exact tt_lo _ | exact tt_hi _) (by first | omega | decide | exact tt_lo _ | exact tt_hi _) (by first | omega | decide | exact tt_lo _ | exact tt_hi _)
            · refine jj_aload C dX2_absorb_49 rfl ?_
              refine tt_get C hok jk_5 3 (by decide) jw_a038b4bca1 (t := (1, (-9223372036854775808), 9223372036854775807)) ka_117 (by decide) rfl rfl dX2_absorb_51 (fun v_147 hv_147 hf_148 => ?_)
              obtain ⟨y_149, rfl, -, -⟩ := tt_vj hv_147
              refine jj_lload C dX2_absorb_54 rfl ?_
              obtain ⟨y_150, ey_150⟩ : ∃ z : Int64, y_149 * y_9 = z := ⟨_, rfl⟩
              refine jj_lmul (v := y_150) C dX2_absorb_56 ey_150 ?_
              refine jj_lload_n C dX2_absorb_57 rfl ?_
              obtain ⟨y_151, ey_151⟩ : ∃ z : Int64, y_150 / p2 = z := ⟨_, rfl⟩
              refine jj_ldiv (v := y_151) C dX2_absorb_58 (jt_nzpL (by first | exact Int64.not_le.mp c_126 | exact Int32.not_le.mp c_126)) ey_151 ?_
              refine jj_goto (tgt := 63) C dX2_absorb_59 (by decide) ?_
              refine rl_put C hok jk_5 3 (by decide) jw_a038b4bca1 (t := (1, (-9223372036854775808), 9223372036854775807)) ka_117 (by decide) rfl rfl rfl (tt_ja y_151) rfl rfl dX2_absorb_63 (fun pl_152 hok_153 tr hn tl => ?_)
              replace hf_94 := tr _ _ _ (Or.inl (tt_ne hk0 ka_117 (by decide))) hf_94
              replace hf_114 := tr _ _ _ (Or.inl (tt_ne hk0 ka_117 (by decide))) hf_114
              replace hf_119 := tr _ _ _ (Or.inr (by decide)) hf_119
              replace hf_122 := tr _ _ _ (Or.inl (tt_ne hk3 ka_117 (by decide))) hf_122
              have hf_154 := hn
              replace hfr := hfr.put ka_117 tr (by decide)
              replace hfa := hfa.all tl
              refine jj_aload C dX2_absorb_66 rfl ?_
              refine jj_aload_n C dX2_absorb_68 rfl ?_
              refine tt_get C hok_153 jk_9 0 (by decide) jw_2d4d10d910 (t := (0, (-2147483648), 2147483647)) hk1 (by decide) rfl rfl dX2_absorb_69 (fun v_155 hv_155 hf_156 => ?_)
              obtain ⟨x_157, rfl, lx_157, ux_157⟩ := tt_vi hv_155
              refine rl_put C hok_153 jk_5 1 (by decide) jw_65e19a7e21 (t := (0, (-2147483648), 2147483647)) ka_117 (by decide) rfl rfl rfl (tt_ia x_157) rfl rfl dX2_absorb_72 (fun pl_158 hok_159 tr hn tl => ?_)
              replace hf_94 := tr _ _ _ (Or.inl (tt_ne hk0 ka_117 (by decide))) hf_94
              replace hf_114 := tr _ _ _ (Or.inl (tt_ne hk0 ka_117 (by decide))) hf_114
              replace hf_122 := tr _ _ _ (Or.inl (tt_ne hk3 ka_117 (by decide))) hf_122
              replace hf_154 := tr _ _ _ (Or.inr (by decide)) hf_154
              replace hf_156 := tr _ _ _ (Or.inl (tt_ne hk1 ka_117 (by decide))) hf_156
              have hf_160 := hn
              replace hfr := hfr.put ka_117 tr (by decide)
              replace hfa := hfa.all tl
              refine jj_aload C dX2_absorb_75 rfl ?_
              refine jj_lload_n C dX2_absorb_77 rfl ?_
              refine rl_put C hok_159 jk_5 4 (by decide) jw_8ebffe18a9 (t := (1, (-9223372036854775808), 9223372036854775807)) ka_117 (by decide) rfl rfl rfl (tt_ja p2) rfl rfl dX2_absorb_78 (fun pl_161 hok_162 tr hn tl => ?_)
              replace hf_94 := tr _ _ _ (Or.inl (tt_ne hk0 ka_117 (by decide))) hf_94
              replace hf_114 := tr _ _ _ (Or.inl (tt_ne hk0 ka_117 (by decide))) hf_114
              replace hf_122 := tr _ _ _ (Or.inl (tt_ne hk3 ka_117 (by decide))) hf_122
              replace hf_154 := tr _ _ _ (Or.inr (by decide)) hf_154
              replace hf_156 := tr _ _ _ (Or.inl (tt_ne hk1 ka_117 (by decide))) hf_156
              replace hf_160 := tr _ _ _ (Or.inr (by decide)) hf_160
              have hf_163 := hn
              replace hfr := hfr.put ka_117 tr (by decide)
              replace hfa := hfa.all tl
              refine jj_aload_n C dX2_absorb_81 rfl ?_
              refine jj_dup C dX2_absorb_82 rfl ?_
              refine tt_get C hok_162 jk_9 3 (by decide) jw_abb7017335 (t := (1, (-9223372036854775808), 9223372036854775807)) hk1 (by decide) rfl rfl dX2_absorb_83 (fun v_164 hv_164 hf_165 => ?_)
              obtain ⟨y_166, rfl, -, -⟩ := tt_vj hv_164
              refine jj_aload C dX2_absorb_86 rfl ?_
              refine tt_getF C hok_162 jk_5 3 (by decide) jw_a038b4bca1 (t := (1, (-9223372036854775808), 9223372036854775807)) ka_117 (by decide) rfl rfl hf_154 dX2_absorb_88 ?_
              obtain ⟨y_167, ey_167⟩ : ∃ z : Int64, y_166 + y_151 = z := ⟨_, rfl⟩
              refine jj_ladd (v := y_167) C dX2_absorb_91 ey_167 ?_
              refine rl_put C hok_162 jk_9 3 (by decide) jw_abb7017335 (t := (1, (-9223372036854775808), 9223372036854775807)) hk1 (by decide) rfl rfl rfl (tt_ja y_167) rfl rfl dX2_absorb_92 (fun pl_168 hok_169 tr hn tl => ?_)
              replace hf_94 := tr _ _ _ (Or.inl (tt_ne hk0 hk1 (by decide))) hf_94
              replace hf_114 := tr _ _ _ (Or.inl (tt_ne hk0 hk1 (by decide))) hf_114
              replace hf_122 := tr _ _ _ (Or.inr (by decide)) hf_122
              replace hf_154 := tr _ _ _ (Or.inl (tt_ne ka_117 hk1 (by decide))) hf_154
              replace hf_156 := tr _ _ _ (Or.inr (by decide)) hf_156
              replace hf_160 := tr _ _ _ (Or.inl (tt_ne ka_117 hk1 (by decide))) hf_160
              replace hf_163 := tr _ _ _ (Or.inl (tt_ne ka_117 hk1 (by decide))) hf_163
              have hf_170 := hn
              replace hfr := hfr.put hk1 tr (by decide)
              replace hfa := hfa.all tl
              obtain ⟨x_171, ex_171, vx_171⟩ := tt_inc (x := x_92) (n := 1) (by omega) (by omega)
              refine jj_iinc (v := x_171) C dX2_absorb_95 rfl ex_171 (by decide) rfl ?_
              refine jj_goto (tgt := 10) C dX2_absorb_98 (by decide) ?_
              refine jj_loc [0, 2, 3, 4, 5, 6] rfl ?_
              exact ihL_91 pl_168 x_171 hok_169 hfr hfa (by first | omega | decide | exact tt_lo _ | exact tt_hi _) (by first | omega | decide | exact tt_lo _ | exact tt_hi _) (by first | omega | decide | exact tt_lo _ | exact tt_hi _)
    exact hL_91 _ pl_1 (0 : Int32) trivial hok_2 hfr hfa (by first | omega | decide | exact tt_lo _ | exact tt_hi _) (by first | omega | decide | exact tt_lo _ | exact tt_hi _) (Int.self_le_toNat _)

set_option maxHeartbeats 4000000 in
set_option maxRecDepth 100000 in
theorem tc_X2_mergeAll_1 {l : Launch} (hl : l.stackTraces = false) (D : va_G) (cA : Nat → ClassId) (ak : (Nat → Nat) × (Nat → Nat)) {Kd : Nat → Nat} (h0 : Nat) (hk0 : Kd h0 = 1) {pl0 : va_W} (hok : tt_ok tt_tk cA Kd pl0) : jj_M l D cA ak yX2_mergeAll (.code yX2_mergeAll cX2_mergeAll 6 (some .int)) 2 48 0 0 ([] ++ pl0) [.ref h0] (tt_O (fun rx pl1 r => rx = [] ∧ tt_ok tt_tk cA Kd pl1 ∧ tt_fr Kd [(1, 7), (1, 8), (2, 2), (2, 3), (3, 1), (3, 3), (3, 4)] pl0 pl1 ∧ tt_fa Kd [5] pl0 pl1 ∧ ((r = some (.int 0)) ∨ (∃ v : Int32, (-2147483648 : Int) ≤ v.toInt ∧ v.toInt ≤ 2147483647 ∧ r = some (.int v))))) (tt_OX (fun _ _ _ => False)) := by
  refine jj_start hl (by decide) jw_c94a21e571 (jj_le rfl) ?_
  intro p e s m args below meth c A hargs hA C hex hmn
  have hfr := tt_fr.refl (K := Kd) (WS := [(1, 7), (1, 8), (2, 2), (2, 3), (3, 1), (3, 3), (3, 4)]) pl0
  have hfa := tt_fa.refl (K := Kd) (WA := [5]) pl0
  refine jj_aload_n C dX2_mergeAll_0 rfl ?_
  refine tt_get C hok jk_2 1 (by decide) jw_d1d9a7ddd0 (t := (0, (-2147483648), 2147483647)) hk0 (by decide) rfl rfl dX2_mergeAll_1 (fun v_1 hv_1 hf_2 => ?_)
  obtain ⟨x_3, rfl, lx_3, ux_3⟩ := tt_vi hv_1
  refine jj_iconst (v := 1) C dX2_mergeAll_4 (by decide) ?_
  refine jj_icmp_eq (tgt := 15) C dX2_mergeAll_5 (by decide) (fun c_4 => ?_) (fun c_4 => ?_)
  · have z_c_4 := jc_eq (a := (x_3).toInt) (b := (1)) c_4 rfl (by decide)
    refine jj_iconst (v := 0) C dX2_mergeAll_15 (by decide) ?_
    exact jj_iret C ⟨[], pl0, rfl, rfl, hok, hfr, hfa, (Or.inl rfl)⟩ dX2_mergeAll_16 (jj_le rfl) (jj_le rfl)
  · have z_c_4 := jc_neq (a := (x_3).toInt) (b := (1)) c_4 rfl (by decide)
    refine jj_aload_n C dX2_mergeAll_8 rfl ?_
    refine tt_get C hok jk_2 7 (by decide) jw_fcf7ccfd1e (t := (0, 0, 6)) hk0 (by decide) rfl rfl dX2_mergeAll_9 (fun v_5 hv_5 hf_6 => ?_)
    obtain ⟨x_7, rfl, lx_7, ux_7⟩ := tt_vi hv_5
    refine jj_if_ne (tgt := 17) C dX2_mergeAll_12 (by decide) (fun c_8 => ?_) (fun c_8 => ?_)
    · have z_c_8 := jc_neq (a := (x_7).toInt) (b := (0)) c_8 rfl (by decide)
      refine jj_aload_n C dX2_mergeAll_17 rfl ?_
      refine tt_get C hok jk_2 11 (by decide) jw_2bd072191f (t := (2, 6, 0)) hk0 (by decide) rfl rfl dX2_mergeAll_18 (fun v_9 hv_9 hf_10 => ?_)
      obtain ⟨a_11, rfl, ka_11⟩ := tt_vr hv_9
      refine jj_iconst (v := 0) C dX2_mergeAll_21 (by decide) ?_
      refine tt_aald C hok (t := (2, 2, 0)) ka_11 (by decide) rfl rfl rfl (vp_in_iff.mpr (by decide)) dX2_mergeAll_22 (fun v_12 hv_12 => ?_)
      obtain ⟨a_13, rfl, ka_13⟩ := tt_vr hv_12
      refine jj_astore_n C dX2_mergeAll_23 (by decide) rfl ?_
      refine jj_aload_n C dX2_mergeAll_24 rfl ?_
      obtain ⟨qc, gs, hqc⟩ := tt_recv (cx := []) hok ka_13 (by decide) rfl
      refine tt_callV (rest := []) C (tc_X8_grossPrice_1 hl D cA ak a_13 ka_13 hok) [] [] rfl rfl (by decide) (by decide) (by decide) qc hqc rfl rfl jw_6230caeffd jw_8d67ffd46e jw_4ae9f31643 jw_364e75910d jw_11bb953c63 jn_X8_grossPrice rfl (jj_le rfl) (jj_le rfl) (jj_le rfl) (jj_le rfl) (jj_le rfl) dX2_mergeAll_25 rfl (fun _ _ _ hX => hX.elim) (fun rx pl_14 r O_17 => ?_)
      obtain ⟨rfl, hok_15, hr_16, hfa9, hR_19⟩ := O_17
      replace hf_2 := hr_16.at hk0 (by decide) (by decide) hf_2
      replace hf_6 := hr_16.at hk0 (by decide) (by decide) hf_6
      replace hf_10 := hr_16.at hk0 (by decide) (by decide) hf_10
      replace hfr := hfr.trans (hr_16.sub (by decide))
      replace hfa := hfa.trans (hfa9.sub (by decide))
      rcases hR_19 with rfl | ⟨y_22, rfl⟩
      · refine jj_lstore_n C dX2_mergeAll_28 (by decide) rfl ?_
        refine jj_lload_n C dX2_mergeAll_29 rfl ?_
        refine jj_aload_n C dX2_mergeAll_30 rfl ?_
        refine tt_get C hok_15 jk_9 4 (by decide) jw_bb7ee2f491 (t := (1, (-9223372036854775808), 9223372036854775807)) ka_13 (by decide) rfl rfl dX2_mergeAll_31 (fun v_23 hv_23 hf_24 => ?_)
        obtain ⟨y_25, rfl, -, -⟩ := tt_vj hv_23
        refine jj_lcmp_eq (tgt := 40) C dX2_mergeAll_34 dX2_mergeAll_35 (by decide) (fun c_26 => ?_) (fun c_26 => ?_)
        · refine jj_iconst (v := 0) C dX2_mergeAll_40 (by decide) ?_
          refine jj_istore C dX2_mergeAll_41 (by decide) rfl ?_
          refine jj_iconst (v := 1) C dX2_mergeAll_43 (by decide) ?_
          refine jj_istore C dX2_mergeAll_44 (by decide) rfl ?_
          have hL_27 : ∀ (N : Nat) (pl : va_W) (x_28 : Int32) (x_29 : Int32), True → tt_ok tt_tk cA Kd pl → tt_fr Kd [(1, 7), (1, 8), (2, 2), (2, 3), (3, 1), (3, 3), (3, 4)] pl0 pl → tt_fa Kd [5] pl0 pl → tt_at pl h0 1 (.int x_3) → tt_at pl h0 11 (.ref a_11) → tt_at pl a_13 4 (.long y_25) → (1 : Int) ≤ x_28.toInt → x_28.toInt ≤ 6 → (-2147483648 : Int) ≤ x_29.toInt → x_29.toInt ≤ 2147483647 → (2147483648 - x_28.toInt ≤ (N : Int)) → jj_J p l e (jj_rm 2 48 0 0) s m args below meth c 6 A (vx_MQ below (jj_q D A (tt_O (fun rx pl1 r => rx = [] ∧ tt_ok tt_tk cA Kd pl1 ∧ tt_fr Kd [(1, 7), (1, 8), (2, 2), (2, 3), (3, 1), (3, 3), (3, 4)] pl0 pl1 ∧ tt_fa Kd [5] pl0 pl1 ∧ ((r = some (.int 0)) ∨ (∃ v : Int32, (-2147483648 : Int) ≤ v.toInt ∧ v.toInt ≤ 2147483647 ∧ r = some (.int v)))))) (jj_x D A (tt_OX (fun _ _ _ => False))) args s 0 0 A) (jj_X D A ([] ++ pl)) 0 0 46 [(5, .int x_28), (4, .int x_29), (2, .long 1000000), (1, .ref a_13), (0, .ref h0)] [] := by
            intro NL_27
            induction NL_27 with
            | zero => intro pl x_28 x_29 _ hok hfr hfa hf_30 hf_31 hf_32 lx_28 ux_28 lx_29 ux_29 hNL_27; exfalso; omega
            | succ NL_27 ihL_27 =>
              intro pl x_28 x_29 _ hok hfr hfa hf_30 hf_31 hf_32 lx_28 ux_28 lx_29 ux_29 hNL_27
              replace ihL_27 := fun pl x_28 x_29 h1 => ihL_27 pl x_28 x_29 trivial h1
              refine jj_iload C dX2_mergeAll_46 rfl ?_
              refine jj_aload_n C dX2_mergeAll_48 rfl ?_
              refine tt_get C hok jk_2 7 (by decide) jw_fcf7ccfd1e (t := (0, 0, 6)) hk0 (by decide) rfl rfl dX2_mergeAll_49 (fun v_33 hv_33 hf_34 => ?_)
              obtain ⟨x_35, rfl, lx_35, ux_35⟩ := tt_vi hv_33
              refine jj_icmp_ge (tgt := 101) C dX2_mergeAll_52 (by decide) (fun c_36 => ?_) (fun c_36 => ?_)
              · have z_c_36 := jc_le (a := (x_35).toInt) (b := (x_28).toInt) c_36 rfl rfl
                refine jj_aload_n C dX2_mergeAll_101 rfl ?_
                obtain ⟨qc, gs, hqc⟩ := tt_recv (cx := []) hok hk0 (by decide) rfl
                refine tt_callV (rest := []) C (tc_X0_dropEmptyLots_1 hl D cA ak h0 hk0 hok) [] [] rfl rfl (by decide) (by decide) (by decide) qc hqc rfl rfl jw_86cc566f9c jw_4c160b89cc jw_530d6cba9c jw_7d25d4fd32 jw_a434f13787 jn_X0_dropEmptyLots rfl (jj_le rfl) (jj_le rfl) (jj_le rfl) (jj_le rfl) (jj_le rfl) dX2_mergeAll_102 rfl (fun _ _ _ hX => hX.elim) (fun rx pl_37 r O_40 => ?_)
                obtain ⟨rfl, hok_38, hr_39, hfa9, hR_42⟩ := O_40
                replace hf_30 := hr_39.at hk0 (by decide) (by decide) hf_30
                replace hf_31 := hr_39.at hk0 (by decide) (by decide) hf_31
                replace hf_32 := hr_39.at ka_13 (by decide) (by decide) hf_32
                replace hf_34 := hr_39.at hk0 (by decide) (by decide) hf_34
                replace hfr := hfr.trans (hr_39.sub (by decide))
                replace hfa := hfa.trans (hfa9.sub (by decide))
                obtain rfl := hR_42
                refine jj_aload_n C dX2_mergeAll_105 rfl ?_
                obtain ⟨qc, gs, hqc⟩ := tt_recv (cx := []) hok_38 hk0 (by decide) rfl
                refine tt_callV (rest := []) C (tc_X0_closeEmptySeries_1 hl D cA ak h0 hk0 hok_38) [] [] rfl rfl (by decide) (by decide) (by decide) qc hqc rfl rfl jw_eb35652dce jw_dc112f793f jw_3493203194 jw_7d25d4fd32 jw_a8b63f05be jn_X0_closeEmptySeries rfl (jj_le rfl) (jj_le rfl) (jj_le rfl) (jj_le rfl) (jj_le rfl) dX2_mergeAll_106 rfl (fun _ _ _ hX => hX.elim) (fun rx pl_45 r O_48 => ?_)
                obtain ⟨rfl, hok_46, hr_47, hfa9, hR_50⟩ := O_48
                replace hf_30 := hr_47.at hk0 (by decide) (by decide) hf_30
                replace hf_31 := hr_47.at hk0 (by decide) (by decide) hf_31
                replace hf_32 := hr_47.at ka_13 (by decide) (by decide) hf_32
                replace hfr := hfr.trans (hr_47.sub (by decide))
                replace hfa := hfa.trans (hfa9.sub (by decide))
                obtain rfl := hR_50
                refine jj_iload C dX2_mergeAll_109 rfl ?_
                exact jj_iret C ⟨[], pl_45, rfl, rfl, hok_46, hfr, hfa, (Or.inr ⟨x_29, (by first | omega | exact tt_lo _ | exact tt_hi _), (by first | omega | exact tt_lo _ | exact tt_hi _), rfl⟩)⟩ dX2_mergeAll_111 (jj_le rfl) (jj_le rfl)
              · have z_c_36 := jc_nle (a := (x_35).toInt) (b := (x_28).toInt) c_36 rfl rfl
                refine jj_aload_n C dX2_mergeAll_55 rfl ?_
                refine tt_getF C hok jk_2 11 (by decide) jw_2bd072191f (t := (2, 6, 0)) hk0 (by decide) rfl rfl hf_31 dX2_mergeAll_56 ?_
                refine jj_iload C dX2_mergeAll_59 rfl ?_
                refine tt_aald C hok (t := (2, 2, 0)) ka_11 (by decide) rfl rfl rfl (vp_in_iff.mpr ⟨by omega, by omega⟩) dX2_mergeAll_61 (fun v_53 hv_53 => ?_)
                obtain ⟨a_54, rfl, ka_54⟩ := tt_vr hv_53
                obtain ⟨qc, gs, hqc⟩ := tt_recv (cx := []) hok ka_54 (by decide) rfl
                refine tt_callV (rest := []) C (tc_X8_grossPrice_1 hl D cA ak a_54 ka_54 hok) [] [] rfl rfl (by decide) (by decide) (by decide) qc hqc rfl rfl jw_6230caeffd jw_8d67ffd46e jw_4ae9f31643 jw_364e75910d jw_11bb953c63 jn_X8_grossPrice rfl (jj_le rfl) (jj_le rfl) (jj_le rfl) (jj_le rfl) (jj_le rfl) dX2_mergeAll_62 rfl (fun _ _ _ hX => hX.elim) (fun rx pl_55 r O_58 => ?_)
                obtain ⟨rfl, hok_56, hr_57, hfa9, hR_60⟩ := O_58
                replace hf_30 := hr_57.at hk0 (by decide) (by decide) hf_30
                replace hf_31 := hr_57.at hk0 (by decide) (by decide) hf_31
                replace hf_32 := hr_57.at ka_13 (by decide) (by decide) hf_32
                replace hf_34 := hr_57.at hk0 (by decide) (by decide) hf_34
                replace hfr := hfr.trans (hr_57.sub (by decide))
                replace hfa := hfa.trans (hfa9.sub (by decide))
                rcases hR_60 with rfl | ⟨y_63, rfl⟩
                · refine jj_aload_n C dX2_mergeAll_65 rfl ?_
                  refine tt_getF C hok_56 jk_2 11 (by decide) jw_2bd072191f (t := (2, 6, 0)) hk0 (by decide) rfl rfl hf_31 dX2_mergeAll_66 ?_
                  refine jj_iload C dX2_mergeAll_69 rfl ?_
                  refine tt_aald C hok_56 (t := (2, 2, 0)) ka_11 (by decide) rfl rfl rfl (vp_in_iff.mpr ⟨by omega, by omega⟩) dX2_mergeAll_71 (fun v_64 hv_64 => ?_)
                  obtain ⟨a_65, rfl, ka_65⟩ := tt_vr hv_64
                  refine tt_get C hok_56 jk_9 4 (by decide) jw_bb7ee2f491 (t := (1, (-9223372036854775808), 9223372036854775807)) ka_65 (by decide) rfl rfl dX2_mergeAll_72 (fun v_66 hv_66 hf_67 => ?_)
                  obtain ⟨y_68, rfl, -, -⟩ := tt_vj hv_66
                  refine jj_lcmp_ne (tgt := 95) C dX2_mergeAll_75 dX2_mergeAll_76 (by decide) (fun c_69 => ?_) (fun c_69 => ?_)
                  · obtain ⟨x_70, ex_70, vx_70⟩ := tt_inc (x := x_28) (n := 1) (by omega) (by omega)
                    refine jj_iinc (v := x_70) C dX2_mergeAll_95 rfl ex_70 (by decide) rfl ?_
                    refine jj_goto (tgt := 46) C dX2_mergeAll_98 (by decide) ?_
                    exact ihL_27 pl_55 x_70 x_29 hok_56 hfr hfa hf_30 hf_31 hf_32 (by first | omega | decide | exact tt_lo _ | exact tt_hi _) (by first | omega | decide | exact tt_lo _ | exact tt_hi _) (by first | omega | decide | exact tt_lo _ | exact tt_hi _) (by first | omega | decide | exact tt_lo _ | exact tt_hi _) (by first | omega | decide | exact tt_lo _ | exact tt_hi _)
                  · refine jj_aload_n C dX2_mergeAll_79 rfl ?_
                    refine jj_aload_n C dX2_mergeAll_80 rfl ?_
                    refine jj_lload_n C dX2_mergeAll_81 rfl ?_
                    refine jj_aload_n C dX2_mergeAll_82 rfl ?_
                    refine tt_getF C hok_56 jk_2 11 (by decide) jw_2bd072191f (t := (2, 6, 0)) hk0 (by decide) rfl rfl hf_31 dX2_mergeAll_83 ?_
                    refine jj_iload C dX2_mergeAll_86 rfl ?_
                    refine tt_aald C hok_56 (t := (2, 2, 0)) ka_11 (by decide) rfl rfl rfl (vp_in_iff.mpr ⟨by omega, by omega⟩) dX2_mergeAll_88 (fun v_71 hv_71 => ?_)
                    obtain ⟨a_72, rfl, ka_72⟩ := tt_vr hv_71
                    refine tt_callS (rest := []) C (tc_X2_absorb_1 hl D cA ak h0 a_13 a_72 hk0 ka_13 ka_72 hok_56) [] [] rfl rfl (by decide) (by decide) (by decide) jw_a3cbc7a17d jw_b47590c47f jw_79af3f4029 jw_e715389d49 jn_X2_absorb rfl (jj_le rfl) (jj_le rfl) (jj_le rfl) (jj_le rfl) (jj_le rfl) dX2_mergeAll_89 rfl (fun _ _ _ hX => hX.elim) (fun rx pl_73 r O_76 => ?_)
                    obtain ⟨rfl, hok_74, hr_75, hfa9, hR_78⟩ := O_76
                    replace hf_30 := hr_75.at hk0 (by decide) (by decide) hf_30
                    replace hf_31 := hr_75.at hk0 (by decide) (by decide) hf_31
                    replace hf_32 := hr_75.at ka_13 (by decide) (by decide) hf_32
                    replace hf_34 := hr_75.at hk0 (by decide) (by decide) hf_34
                    replace hf_67 := hr_75.at ka_65 (by decide) (by decide) hf_67
                    replace hfr := hfr.trans (hr_75.sub (by decide))
                    replace hfa := hfa.trans (hfa9.sub (by decide))
                    obtain rfl := hR_78
                    obtain ⟨x_81, ex_81⟩ : ∃ z : Int32, x_29 + Int32.ofInt 1 = z := ⟨_, rfl⟩
                    refine jj_iinc (v := x_81) C dX2_mergeAll_92 rfl ex_81 (by decide) rfl ?_
                    obtain ⟨x_82, ex_82, vx_82⟩ := tt_inc (x := x_28) (n := 1) (by omega) (by omega)
                    refine jj_iinc (v := x_82) C dX2_mergeAll_95 rfl ex_82 (by decide) rfl ?_
                    refine jj_goto (tgt := 46) C dX2_mergeAll_98 (by decide) ?_
                    exact ihL_27 pl_73 x_82 x_81 hok_74 hfr hfa hf_30 hf_31 hf_32 (by first | omega | decide | exact tt_lo _ | exact tt_hi _) (by first | omega | decide | exact tt_lo _ | exact tt_hi _) (by first | omega | decide | exact tt_lo _ | exact tt_hi _) (by first | omega | decide | exact tt_lo _ | exact tt_hi _) (by first | omega | decide | exact tt_lo _ | exact tt_hi _)
                · refine jj_aload_n C dX2_mergeAll_65 rfl ?_
                  refine tt_getF C hok_56 jk_2 11 (by decide) jw_2bd072191f (t := (2, 6, 0)) hk0 (by decide) rfl rfl hf_31 dX2_mergeAll_66 ?_
                  refine jj_iload C dX2_mergeAll_69 rfl ?_
                  refine tt_aald C hok_56 (t := (2, 2, 0)) ka_11 (by decide) rfl rfl rfl (vp_in_iff.mpr ⟨by omega, by omega⟩) dX2_mergeAll_71 (fun v_83 hv_83 => ?_)
                  obtain ⟨a_84, rfl, ka_84⟩ := tt_vr hv_83
                  refine tt_get C hok_56 jk_9 4 (by decide) jw_bb7ee2f491 (t := (1, (-9223372036854775808), 9223372036854775807)) ka_84 (by decide) rfl rfl dX2_mergeAll_72 (fun v_85 hv_85 hf_86 => ?_)
                  obtain ⟨y_87, rfl, -, -⟩ := tt_vj hv_85
                  refine jj_lcmp_ne (tgt := 95) C dX2_mergeAll_75 dX2_mergeAll_76 (by decide) (fun c_88 => ?_) (fun c_88 => ?_)
                  · obtain ⟨x_89, ex_89, vx_89⟩ := tt_inc (x := x_28) (n := 1) (by omega) (by omega)
                    refine jj_iinc (v := x_89) C dX2_mergeAll_95 rfl ex_89 (by decide) rfl ?_
                    refine jj_goto (tgt := 46) C dX2_mergeAll_98 (by decide) ?_
                    exact ihL_27 pl_55 x_89 x_29 hok_56 hfr hfa hf_30 hf_31 hf_32 (by first | omega | decide | exact tt_lo _ | exact tt_hi _) (by first | omega | decide | exact tt_lo _ | exact tt_hi _) (by first | omega | decide | exact tt_lo _ | exact tt_hi _) (by first | omega | decide | exact tt_lo _ | exact tt_hi _) (by first | omega | decide | exact tt_lo _ | exact tt_hi _)
                  · refine jj_aload_n C dX2_mergeAll_79 rfl ?_
                    refine jj_aload_n C dX2_mergeAll_80 rfl ?_
                    refine jj_lload_n C dX2_mergeAll_81 rfl ?_
                    refine jj_aload_n C dX2_mergeAll_82 rfl ?_
                    refine tt_getF C hok_56 jk_2 11 (by decide) jw_2bd072191f (t := (2, 6, 0)) hk0 (by decide) rfl rfl hf_31 dX2_mergeAll_83 ?_
                    refine jj_iload C dX2_mergeAll_86 rfl ?_
                    refine tt_aald C hok_56 (t := (2, 2, 0)) ka_11 (by decide) rfl rfl rfl (vp_in_iff.mpr ⟨by omega, by omega⟩) dX2_mergeAll_88 (fun v_90 hv_90 => ?_)
                    obtain ⟨a_91, rfl, ka_91⟩ := tt_vr hv_90
                    refine tt_callS (rest := []) C (tc_X2_absorb_1 hl D cA ak h0 a_13 a_91 hk0 ka_13 ka_91 hok_56) [] [] rfl rfl (by decide) (by decide) (by decide) jw_a3cbc7a17d jw_b47590c47f jw_79af3f4029 jw_e715389d49 jn_X2_absorb rfl (jj_le rfl) (jj_le rfl) (jj_le rfl) (jj_le rfl) (jj_le rfl) dX2_mergeAll_89 rfl (fun _ _ _ hX => hX.elim) (fun rx pl_92 r O_95 => ?_)
                    obtain ⟨rfl, hok_93, hr_94, hfa9, hR_97⟩ := O_95
                    replace hf_30 := hr_94.at hk0 (by decide) (by decide) hf_30
                    replace hf_31 := hr_94.at hk0 (by decide) (by decide) hf_31
                    replace hf_32 := hr_94.at ka_13 (by decide) (by decide) hf_32
                    replace hf_34 := hr_94.at hk0 (by decide) (by decide) hf_34
                    replace hf_86 := hr_94.at ka_84 (by decide) (by decide) hf_86
                    replace hfr := hfr.trans (hr_94.sub (by decide))
                    replace hfa := hfa.trans (hfa9.sub (by decide))
                    obtain rfl := hR_97
                    obtain ⟨x_100, ex_100⟩ : ∃ z : Int32, x_29 + Int32.ofInt 1 = z := ⟨_, rfl⟩
                    refine jj_iinc (v := x_100) C dX2_mergeAll_92 rfl ex_100 (by decide) rfl ?_
                    obtain ⟨x_101, ex_101, vx_101⟩ := tt_inc (x := x_28) (n := 1) (by omega) (by omega)
                    refine jj_iinc (v := x_101) C dX2_mergeAll_95 rfl ex_101 (by decide) rfl ?_
                    refine jj_goto (tgt := 46) C dX2_mergeAll_98 (by decide) ?_
                    exact ihL_27 pl_92 x_101 x_100 hok_93 hfr hfa hf_30 hf_31 hf_32 (by first | omega | decide | exact tt_lo _ | exact tt_hi _) (by first | omega | decide | exact tt_lo _ | exact tt_hi _) (by first | omega | decide | exact tt_lo _ | exact tt_hi _) (by first | omega | decide | exact tt_lo _ | exact tt_hi _) (by first | omega | decide | exact tt_lo _ | exact tt_hi _)
          exact hL_27 _ pl_14 (1 : Int32) (0 : Int32) trivial hok_15 hfr hfa hf_2 hf_10 hf_24 (by first | omega | decide | exact tt_lo _ | exact tt_hi _) (by first | omega | decide | exact tt_lo _ | exact tt_hi _) (by first | omega | decide | exact tt_lo _ | exact tt_hi _) (by first | omega | decide | exact tt_lo _ | exact tt_hi _) (Int.self_le_toNat _)
        · refine jj_iconst (v := 0) C dX2_mergeAll_38 (by decide) ?_
          exact jj_iret C ⟨[], pl_14, rfl, rfl, hok_15, hfr, hfa, (Or.inl rfl)⟩ dX2_mergeAll_39 (jj_le rfl) (jj_le rfl)
      · refine jj_lstore_n C dX2_mergeAll_28 (by decide) rfl ?_
        refine jj_lload_n C dX2_mergeAll_29 rfl ?_
        refine jj_aload_n C dX2_mergeAll_30 rfl ?_
        refine tt_get C hok_15 jk_9 4 (by decide) jw_bb7ee2f491 (t := (1, (-9223372036854775808), 9223372036854775807)) ka_13 (by decide) rfl rfl dX2_mergeAll_31 (fun v_102 hv_102 hf_103 => ?_)
        obtain ⟨y_104, rfl, -, -⟩ := tt_vj hv_102
        refine jj_lcmp_eq (tgt := 40) C dX2_mergeAll_34 dX2_mergeAll_35 (by decide) (fun c_105 => ?_) (fun c_105 => ?_)
        · refine jj_iconst (v := 0) C dX2_mergeAll_40 (by decide) ?_
          refine jj_istore C dX2_mergeAll_41 (by decide) rfl ?_
          refine jj_iconst (v := 1) C dX2_mergeAll_43 (by decide) ?_
          refine jj_istore C dX2_mergeAll_44 (by decide) rfl ?_
          have hL_106 : ∀ (N : Nat) (pl : va_W) (x_107 : Int32) (x_108 : Int32), True → tt_ok tt_tk cA Kd pl → tt_fr Kd [(1, 7), (1, 8), (2, 2), (2, 3), (3, 1), (3, 3), (3, 4)] pl0 pl → tt_fa Kd [5] pl0 pl → tt_at pl h0 1 (.int x_3) → tt_at pl h0 11 (.ref a_11) → tt_at pl a_13 4 (.long y_104) → (1 : Int) ≤ x_107.toInt → x_107.toInt ≤ 6 → (-2147483648 : Int) ≤ x_108.toInt → x_108.toInt ≤ 2147483647 → (2147483648 - x_107.toInt ≤ (N : Int)) → jj_J p l e (jj_rm 2 48 0 0) s m args below meth c 6 A (vx_MQ below (jj_q D A (tt_O (fun rx pl1 r => rx = [] ∧ tt_ok tt_tk cA Kd pl1 ∧ tt_fr Kd [(1, 7), (1, 8), (2, 2), (2, 3), (3, 1), (3, 3), (3, 4)] pl0 pl1 ∧ tt_fa Kd [5] pl0 pl1 ∧ ((r = some (.int 0)) ∨ (∃ v : Int32, (-2147483648 : Int) ≤ v.toInt ∧ v.toInt ≤ 2147483647 ∧ r = some (.int v)))))) (jj_x D A (tt_OX (fun _ _ _ => False))) args s 0 0 A) (jj_X D A ([] ++ pl)) 0 0 46 [(5, .int x_107), (4, .int x_108), (2, .long y_22), (1, .ref a_13), (0, .ref h0)] [] := by
            intro NL_106
            induction NL_106 with
            | zero => intro pl x_107 x_108 _ hok hfr hfa hf_109 hf_110 hf_111 lx_107 ux_107 lx_108 ux_108 hNL_106; exfalso; omega
            | succ NL_106 ihL_106 =>
              intro pl x_107 x_108 _ hok hfr hfa hf_109 hf_110 hf_111 lx_107 ux_107 lx_108 ux_108 hNL_106
              replace ihL_106 := fun pl x_107 x_108 h1 => ihL_106 pl x_107 x_108 trivial h1
              refine jj_iload C dX2_mergeAll_46 rfl ?_
              refine jj_aload_n C dX2_mergeAll_48 rfl ?_
              refine tt_get C hok jk_2 7 (by decide) jw_fcf7ccfd1e (t := (0, 0, 6)) hk0 (by decide) rfl rfl dX2_mergeAll_49 (fun v_112 hv_112 hf_113 => ?_)
              obtain ⟨x_114, rfl, lx_114, ux_114⟩ := tt_vi hv_112
              refine jj_icmp_ge (tgt := 101) C dX2_mergeAll_52 (by decide) (fun c_115 => ?_) (fun c_115 => ?_)
              · have z_c_115 := jc_le (a := (x_114).toInt) (b := (x_107).toInt) c_115 rfl rfl
                refine jj_aload_n C dX2_mergeAll_101 rfl ?_
                obtain ⟨qc, gs, hqc⟩ := tt_recv (cx := []) hok hk0 (by decide) rfl
                refine tt_callV (rest := []) C (tc_X0_dropEmptyLots_1 hl D cA ak h0 hk0 hok) [] [] rfl rfl (by decide) (by decide) (by decide) qc hqc rfl rfl jw_86cc566f9c jw_4c160b89cc jw_530d6cba9c jw_7d25d4fd32 jw_a434f13787 jn_X0_dropEmptyLots rfl (jj_le rfl) (jj_le rfl) (jj_le rfl) (jj_le rfl) (jj_le rfl) dX2_mergeAll_102 rfl (fun _ _ _ hX => hX.elim) (fun rx pl_116 r O_119 => ?_)
                obtain ⟨rfl, hok_117, hr_118, hfa9, hR_121⟩ := O_119
                replace hf_109 := hr_118.at hk0 (by decide) (by decide) hf_109
                replace hf_110 := hr_118.at hk0 (by decide) (by decide) hf_110
                replace hf_111 := hr_118.at ka_13 (by decide) (by decide) hf_111
                replace hf_113 := hr_118.at hk0 (by decide) (by decide) hf_113
                replace hfr := hfr.trans (hr_118.sub (by decide))
                replace hfa := hfa.trans (hfa9.sub (by decide))
                obtain rfl := hR_121
                refine jj_aload_n C dX2_mergeAll_105 rfl ?_
                obtain ⟨qc, gs, hqc⟩ := tt_recv (cx := []) hok_117 hk0 (by decide) rfl
                refine tt_callV (rest := []) C (tc_X0_closeEmptySeries_1 hl D cA ak h0 hk0 hok_117) [] [] rfl rfl (by decide) (by decide) (by decide) qc hqc rfl rfl jw_eb35652dce jw_dc112f793f jw_3493203194 jw_7d25d4fd32 jw_a8b63f05be jn_X0_closeEmptySeries rfl (jj_le rfl) (jj_le rfl) (jj_le rfl) (jj_le rfl) (jj_le rfl) dX2_mergeAll_106 rfl (fun _ _ _ hX => hX.elim) (fun rx pl_124 r O_127 => ?_)
                obtain ⟨rfl, hok_125, hr_126, hfa9, hR_129⟩ := O_127
                replace hf_109 := hr_126.at hk0 (by decide) (by decide) hf_109
                replace hf_110 := hr_126.at hk0 (by decide) (by decide) hf_110
                replace hf_111 := hr_126.at ka_13 (by decide) (by decide) hf_111
                replace hfr := hfr.trans (hr_126.sub (by decide))
                replace hfa := hfa.trans (hfa9.sub (by decide))
                obtain rfl := hR_129
                refine jj_iload C dX2_mergeAll_109 rfl ?_
                exact jj_iret C ⟨[], pl_124, rfl, rfl, hok_125, hfr, hfa, (Or.inr ⟨x_108, (by first | omega | exact tt_lo _ | exact tt_hi _), (by first | omega | exact tt_lo _ | exact tt_hi _), rfl⟩)⟩ dX2_mergeAll_111 (jj_le rfl) (jj_le rfl)
              · have z_c_115 := jc_nle (a := (x_114).toInt) (b := (x_107).toInt) c_115 rfl rfl
                refine jj_aload_n C dX2_mergeAll_55 rfl ?_
                refine tt_getF C hok jk_2 11 (by decide) jw_2bd072191f (t := (2, 6, 0)) hk0 (by decide) rfl rfl hf_110 dX2_mergeAll_56 ?_
                refine jj_iload C dX2_mergeAll_59 rfl ?_
                refine tt_aald C hok (t := (2, 2, 0)) ka_11 (by decide) rfl rfl rfl (vp_in_iff.mpr ⟨by omega, by omega⟩) dX2_mergeAll_61 (fun v_132 hv_132 => ?_)
                obtain ⟨a_133, rfl, ka_133⟩ := tt_vr hv_132
                obtain ⟨qc, gs, hqc⟩ := tt_recv (cx := []) hok ka_133 (by decide) rfl
                refine tt_callV (rest := []) C (tc_X8_grossPrice_1 hl D cA ak a_133 ka_133 hok) [] [] rfl rfl (by decide) (by decide) (by decide) qc hqc rfl rfl jw_6230caeffd jw_8d67ffd46e jw_4ae9f31643 jw_364e75910d jw_11bb953c63 jn_X8_grossPrice rfl (jj_le rfl) (jj_le rfl) (jj_le rfl) (jj_le rfl) (jj_le rfl) dX2_mergeAll_62 rfl (fun _ _ _ hX => hX.elim) (fun rx pl_134 r O_137 => ?_)
                obtain ⟨rfl, hok_135, hr_136, hfa9, hR_139⟩ := O_137
                replace hf_109 := hr_136.at hk0 (by decide) (by decide) hf_109
                replace hf_110 := hr_136.at hk0 (by decide) (by decide) hf_110
                replace hf_111 := hr_136.at ka_13 (by decide) (by decide) hf_111
                replace hf_113 := hr_136.at hk0 (by decide) (by decide) hf_113
                replace hfr := hfr.trans (hr_136.sub (by decide))
                replace hfa := hfa.trans (hfa9.sub (by decide))
                rcases hR_139 with rfl | ⟨y_142, rfl⟩
                · refine jj_aload_n C dX2_mergeAll_65 rfl ?_
                  refine tt_getF C hok_135 jk_2 11 (by decide) jw_2bd072191f (t := (2, 6, 0)) hk0 (by decide) rfl rfl hf_110 dX2_mergeAll_66 ?_
                  refine jj_iload C dX2_mergeAll_69 rfl ?_
                  refine tt_aald C hok_135 (t := (2, 2, 0)) ka_11 (by decide) rfl rfl rfl (vp_in_iff.mpr ⟨by omega, by omega⟩) dX2_mergeAll_71 (fun v_143 hv_143 => ?_)
                  obtain ⟨a_144, rfl, ka_144⟩ := tt_vr hv_143
                  refine tt_get C hok_135 jk_9 4 (by decide) jw_bb7ee2f491 (t := (1, (-9223372036854775808), 9223372036854775807)) ka_144 (by decide) rfl rfl dX2_mergeAll_72 (fun v_145 hv_145 hf_146 => ?_)
                  obtain ⟨y_147, rfl, -, -⟩ := tt_vj hv_145
                  refine jj_lcmp_ne (tgt := 95) C dX2_mergeAll_75 dX2_mergeAll_76 (by decide) (fun c_148 => ?_) (fun c_148 => ?_)
                  · obtain ⟨x_149, ex_149, vx_149⟩ := tt_inc (x := x_107) (n := 1) (by omega) (by omega)
                    refine jj_iinc (v := x_149) C dX2_mergeAll_95 rfl ex_149 (by decide) rfl ?_
                    refine jj_goto (tgt := 46) C dX2_mergeAll_98 (by decide) ?_
                    exact ihL_106 pl_134 x_149 x_108 hok_135 hfr hfa hf_109 hf_110 hf_111 (by first | omega | decide | exact tt_lo _ | exact tt_hi _) (by first | omega | decide | exact tt_lo _ | exact tt_hi _) (by first | omega | decide | exact tt_lo _ | exact tt_hi _) (by first | omega | decide | exact tt_lo _ | exact tt_hi _) (by first | omega | decide | exact tt_lo _ | exact tt_hi _)
                  · refine jj_aload_n C dX2_mergeAll_79 rfl ?_
                    refine jj_aload_n C dX2_mergeAll_80 rfl ?_
                    refine jj_lload_n C dX2_mergeAll_81 rfl ?_
                    refine jj_aload_n C dX2_mergeAll_82 rfl ?_
                    refine tt_getF C hok_135 jk_2 11 (by decide) jw_2bd072191f (t := (2, 6, 0)) hk0 (by decide) rfl rfl hf_110 dX2_mergeAll_83 ?_
                    refine jj_iload C dX2_mergeAll_86 rfl ?_
                    refine tt_aald C hok_135 (t := (2, 2, 0)) ka_11 (by decide) rfl rfl rfl (vp_in_iff.mpr ⟨by omega, by omega⟩) dX2_mergeAll_88 (fun v_150 hv_150 => ?_)
                    obtain ⟨a_151, rfl, ka_151⟩ := tt_vr hv_150
                    refine tt_callS (rest := []) C (tc_X2_absorb_2 hl D cA ak h0 a_13 y_22 a_151 hk0 ka_13 ka_151 hok_135) [] [] rfl rfl (by decide) (by decide) (by decide) jw_a3cbc7a17d jw_b47590c47f jw_79af3f4029 jw_e715389d49 jn_X2_absorb rfl (jj_le rfl) (jj_le rfl) (jj_le rfl) (jj_le rfl) (jj_le rfl) dX2_mergeAll_89 rfl (fun _ _ _ hX => hX.elim) (fun rx pl_152 r O_155 => ?_)
                    obtain ⟨rfl, hok_153, hr_154, hfa9, hR_157⟩ := O_155
                    replace hf_109 := hr_154.at hk0 (by decide) (by decide) hf_109
                    replace hf_110 := hr_154.at hk0 (by decide) (by decide) hf_110
                    replace hf_111 := hr_154.at ka_13 (by decide) (by decide) hf_111
                    replace hf_113 := hr_154.at hk0 (by decide) (by decide) hf_113
                    replace hf_146 := hr_154.at ka_144 (by decide) (by decide) hf_146
                    replace hfr := hfr.trans (hr_154.sub (by decide))
                    replace hfa := hfa.trans (hfa9.sub (by decide))
                    obtain rfl := hR_157
                    obtain ⟨x_160, ex_160⟩ : ∃ z : Int32, x_108 + Int32.ofInt 1 = z := ⟨_, rfl⟩
                    refine jj_iinc (v := x_160) C dX2_mergeAll_92 rfl ex_160 (by decide) rfl ?_
                    obtain ⟨x_161, ex_161, vx_161⟩ := tt_inc (x := x_107) (n := 1) (by omega) (by omega)
                    refine jj_iinc (v := x_161) C dX2_mergeAll_95 rfl ex_161 (by decide) rfl ?_
                    refine jj_goto (tgt := 46) C dX2_mergeAll_98 (by decide) ?_
                    exact ihL_106 pl_152 x_161 x_160 hok_153 hfr hfa hf_109 hf_110 hf_111 (by first | omega | decide | exact tt_lo _ | exact tt_hi _) (by first | omega | decide | exact tt_lo _ | exact tt_hi _) (by first | omega | decide | exact tt_lo _ | exact tt_hi _) (by first | omega | decide | exact tt_lo _ | exact tt_hi _) (by first | omega | decide | exact tt_lo _ | exact tt_hi _)
                · refine jj_aload_n C dX2_mergeAll_65 rfl ?_
                  refine tt_getF C hok_135 jk_2 11 (by decide) jw_2bd072191f (t := (2, 6, 0)) hk0 (by decide) rfl rfl hf_110 dX2_mergeAll_66 ?_
                  refine jj_iload C dX2_mergeAll_69 rfl ?_
                  refine tt_aald C hok_135 (t := (2, 2, 0)) ka_11 (by decide) rfl rfl rfl (vp_in_iff.mpr ⟨by omega, by omega⟩) dX2_mergeAll_71 (fun v_162 hv_162 => ?_)
                  obtain ⟨a_163, rfl, ka_163⟩ := tt_vr hv_162
                  refine tt_get C hok_135 jk_9 4 (by decide) jw_bb7ee2f491 (t := (1, (-9223372036854775808), 9223372036854775807)) ka_163 (by decide) rfl rfl dX2_mergeAll_72 (fun v_164 hv_164 hf_165 => ?_)
                  obtain ⟨y_166, rfl, -, -⟩ := tt_vj hv_164
                  refine jj_lcmp_ne (tgt := 95) C dX2_mergeAll_75 dX2_mergeAll_76 (by decide) (fun c_167 => ?_) (fun c_167 => ?_)
                  · obtain ⟨x_168, ex_168, vx_168⟩ := tt_inc (x := x_107) (n := 1) (by omega) (by omega)
                    refine jj_iinc (v := x_168) C dX2_mergeAll_95 rfl ex_168 (by decide) rfl ?_
                    refine jj_goto (tgt := 46) C dX2_mergeAll_98 (by decide) ?_
                    exact ihL_106 pl_134 x_168 x_108 hok_135 hfr hfa hf_109 hf_110 hf_111 (by first | omega | decide | exact tt_lo _ | exact tt_hi _) (by first | omega | decide | exact tt_lo _ | exact tt_hi _) (by first | omega | decide | exact tt_lo _ | exact tt_hi _) (by first | omega | decide | exact tt_lo _ | exact tt_hi _) (by first | omega | decide | exact tt_lo _ | exact tt_hi _)
                  · refine jj_aload_n C dX2_mergeAll_79 rfl ?_
                    refine jj_aload_n C dX2_mergeAll_80 rfl ?_
                    refine jj_lload_n C dX2_mergeAll_81 rfl ?_
                    refine jj_aload_n C dX2_mergeAll_82 rfl ?_
                    refine tt_getF C hok_135 jk_2 11 (by decide) jw_2bd072191f (t := (2, 6, 0)) hk0 (by decide) rfl rfl hf_110 dX2_mergeAll_83 ?_
                    refine jj_iload C dX2_mergeAll_86 rfl ?_
                    refine tt_aald C hok_135 (t := (2, 2, 0)) ka_11 (by decide) rfl rfl rfl (vp_in_iff.mpr ⟨by omega, by omega⟩) dX2_mergeAll_88 (fun v_169 hv_169 => ?_)
                    obtain ⟨a_170, rfl, ka_170⟩ := tt_vr hv_169
                    refine tt_callS (rest := []) C (tc_X2_absorb_2 hl D cA ak h0 a_13 y_22 a_170 hk0 ka_13 ka_170 hok_135) [] [] rfl rfl (by decide) (by decide) (by decide) jw_a3cbc7a17d jw_b47590c47f jw_79af3f4029 jw_e715389d49 jn_X2_absorb rfl (jj_le rfl) (jj_le rfl) (jj_le rfl) (jj_le rfl) (jj_le rfl) dX2_mergeAll_89 rfl (fun _ _ _ hX => hX.elim) (fun rx pl_171 r O_174 => ?_)
                    obtain ⟨rfl, hok_172, hr_173, hfa9, hR_176⟩ := O_174
                    replace hf_109 := hr_173.at hk0 (by decide) (by decide) hf_109
                    replace hf_110 := hr_173.at hk0 (by decide) (by decide) hf_110
                    replace hf_111 := hr_173.at ka_13 (by decide) (by decide) hf_111
                    replace hf_113 := hr_173.at hk0 (by decide) (by decide) hf_113
                    replace hf_165 := hr_173.at ka_163 (by decide) (by decide) hf_165
                    replace hfr := hfr.trans (hr_173.sub (by decide))
                    replace hfa := hfa.trans (hfa9.sub (by decide))
                    obtain rfl := hR_176
                    obtain ⟨x_179, ex_179⟩ : ∃ z : Int32, x_108 + Int32.ofInt 1 = z := ⟨_, rfl⟩
                    refine jj_iinc (v := x_179) C dX2_mergeAll_92 rfl ex_179 (by decide) rfl ?_
                    obtain ⟨x_180, ex_180, vx_180⟩ := tt_inc (x := x_107) (n := 1) (by omega) (by omega)
                    refine jj_iinc (v := x_180) C dX2_mergeAll_95 rfl ex_180 (by decide) rfl ?_
                    refine jj_goto (tgt := 46) C dX2_mergeAll_98 (by decide) ?_
                    exact ihL_106 pl_171 x_180 x_179 hok_172 hfr hfa hf_109 hf_110 hf_111 (by first | omega | decide | exact tt_lo _ | exact tt_hi _) (by first | omega | decide | exact tt_lo _ | exact tt_hi _) (by first | omega | decide | exact tt_lo _ | exact tt_hi _) (by first | omega | decide | exact tt_lo _ | exact tt_hi _) (by first | omega | decide | exact tt_lo _ | exact tt_hi _)
          exact hL_106 _ pl_14 (1 : Int32) (0 : Int32) trivial hok_15 hfr hfa hf_2 hf_10 hf_103 (by first | omega | decide | exact tt_lo _ | exact tt_hi _) (by first | omega | decide | exact tt_lo _ | exact tt_hi _) (by first | omega | decide | exact tt_lo _ | exact tt_hi _) (by first | omega | decide | exact tt_lo _ | exact tt_hi _) (Int.self_le_toNat _)
        · refine jj_iconst (v := 0) C dX2_mergeAll_38 (by decide) ?_
          exact jj_iret C ⟨[], pl_14, rfl, rfl, hok_15, hfr, hfa, (Or.inl rfl)⟩ dX2_mergeAll_39 (jj_le rfl) (jj_le rfl)
    · have z_c_8 := jc_eq (a := (x_7).toInt) (b := (0)) c_8 rfl (by decide)
      refine jj_iconst (v := 0) C dX2_mergeAll_15 (by decide) ?_
      exact jj_iret C ⟨[], pl0, rfl, rfl, hok, hfr, hfa, (Or.inl rfl)⟩ dX2_mergeAll_16 (jj_le rfl) (jj_le rfl)

