set_option maxHeartbeats 4000000 in
set_option maxRecDepth 100000 in
theorem tc_X10_placeInRanking_4 {l : Launch} (hl : l.stackTraces = false) (D : va_G) (cA : Nat → ClassId) (ak : (Nat → Nat) × (Nat → Nat)) {Kd : Nat → Nat} (h0 : Nat) (p1 : Int32) (hk0 : Kd h0 = 15) (lp1 : (0 : Int) ≤ p1.toInt) (up1 : p1.toInt ≤ 6) {pl0 : va_W} (hok : tt_ok tt_tk cA Kd pl0) : jj_M l D cA ak yX10_placeInRanking (.code yX10_placeInRanking cX10_placeInRanking 8 (some .int)) 4 111 0 0 ([] ++ pl0) [.ref h0, .int p1] (tt_O (fun rx pl1 r => rx = [] ∧ tt_ok tt_tk cA Kd pl1 ∧ tt_fr Kd [(2, 0), (2, 1), (2, 2), (2, 3), (2, 4), (9, 1), (9, 2), (9, 3), (9, 4), (9, 5)] pl0 pl1 ∧ ((∃ v : Int32, (-2147483648 : Int) ≤ v.toInt ∧ v.toInt ≤ 2147483647 ∧ r = some (.int v))))) (tt_OX (fun _ _ _ => False)) := by
  refine jj_start hl (by decide) jw_479 (jj_le rfl) ?_
  intro p e s m args below meth c A hargs hA C hex hmn
  have hfr := tt_fr.refl (K := Kd) (WS := [(2, 0), (2, 1), (2, 2), (2, 3), (2, 4), (9, 1), (9, 2), (9, 3), (9, 4), (9, 5)]) pl0
  refine jj_aload_n C dX10_placeInRanking_0 rfl ?_
  refine tt_get C hok jk_11 5 (by decide) jw_71 (t := (2, 9, 0)) hk0 (by decide) rfl rfl dX10_placeInRanking_1 (fun v_1 hv_1 hf_2 => ?_)
  obtain ⟨a_3, rfl, ka_3⟩ := tt_vr hv_1
  refine jj_aload_n C dX10_placeInRanking_4 rfl ?_
  refine tt_get C hok jk_11 3 (by decide) jw_2 (t := (2, 1, 0)) hk0 (by decide) rfl rfl dX10_placeInRanking_5 (fun v_4 hv_4 hf_5 => ?_)
  obtain ⟨a_6, rfl, ka_6⟩ := tt_vr hv_4
  refine jj_iload_n C dX10_placeInRanking_8 rfl ?_
  refine jj_iconst (v := 0) C dX10_placeInRanking_9 (by decide) ?_
  obtain ⟨qc, gs, hqc⟩ := tt_recv (cx := []) hok ka_3 (by decide) rfl
  refine tt_callV (rest := []) C (tc_X1_payAfterRate_5 hl D cA ak a_3 a_6 p1 ka_3 ka_6 (by omega) (by omega) hok) [] [] rfl rfl (by decide) (by decide) (by decide) qc hqc rfl rfl jw_437 jw_440 jw_441 jw_74 jw_438 jn_X1_payAfterRate rfl (jj_le rfl) (jj_le rfl) (jj_le rfl) (jj_le rfl) (jj_le rfl) dX10_placeInRanking_10 rfl (fun _ _ _ hX => hX.elim) (fun rx pl_7 r O_10 => ?_)
  obtain ⟨rfl, hok_8, hr_9, hR_12⟩ := O_10
  replace hf_2 := hr_9.at hk0 (by decide) (by decide) hf_2
  replace hf_5 := hr_9.at hk0 (by decide) (by decide) hf_5
  replace hfr := hfr.trans (hr_9.sub (by decide))
  obtain ⟨y_13, rfl⟩ := hR_12
  refine jj_lstore_n C dX10_placeInRanking_13 (by decide) rfl ?_
  refine jj_iconst (v := 0) C dX10_placeInRanking_14 (by decide) ?_
  refine jj_istore C dX10_placeInRanking_15 (by decide) rfl ?_
  refine jj_iconst (v := 0) C dX10_placeInRanking_17 (by decide) ?_
  refine jj_istore C dX10_placeInRanking_18 (by decide) rfl ?_
  have hL_14 : ∀ (N : Nat) (pl : va_W) (x_15 : Int32) (x_16 : Int32), True → tt_ok tt_tk cA Kd pl → tt_fr Kd [(2, 0), (2, 1), (2, 2), (2, 3), (2, 4), (9, 1), (9, 2), (9, 3), (9, 4), (9, 5)] pl0 pl → tt_at pl h0 5 (.ref a_3) → tt_at pl h0 3 (.ref a_6) → (0 : Int) ≤ x_15.toInt → x_15.toInt ≤ 2147483647 → (-2147483648 : Int) ≤ x_16.toInt → x_16.toInt ≤ 2147483647 → (2147483648 - x_15.toInt ≤ (N : Int)) → jj_J p l e (jj_rm 4 111 0 0) s m args below meth c 8 A (vx_MQ below (jj_q D A (tt_O (fun rx pl1 r => rx = [] ∧ tt_ok tt_tk cA Kd pl1 ∧ tt_fr Kd [(2, 0), (2, 1), (2, 2), (2, 3), (2, 4), (9, 1), (9, 2), (9, 3), (9, 4), (9, 5)] pl0 pl1 ∧ ((∃ v : Int32, (-2147483648 : Int) ≤ v.toInt ∧ v.toInt ≤ 2147483647 ∧ r = some (.int v)))))) (jj_x D A (tt_OX (fun _ _ _ => False))) args s 0 0 A) (jj_X D A ([] ++ pl)) 0 0 20 [(5, .int x_15), (4, .int x_16), (2, .long y_13), (0, .ref h0), (1, .int p1)] [] := by
    intro NL_14
    induction NL_14 with
    | zero => intro pl x_15 x_16 _ hok hfr hf_17 hf_18 lx_15 ux_15 lx_16 ux_16 hNL_14; exfalso; omega
    | succ NL_14 ihL_14 =>
      intro pl x_15 x_16 _ hok hfr hf_17 hf_18 lx_15 ux_15 lx_16 ux_16 hNL_14
      replace ihL_14 := fun pl x_15 x_16 h1 => ihL_14 pl x_15 x_16 trivial h1
      refine jj_iload C dX10_placeInRanking_20 rfl ?_
      refine jj_aload_n C dX10_placeInRanking_22 rfl ?_
      refine tt_getF C hok jk_11 3 (by decide) jw_2 (t := (2, 1, 0)) hk0 (by decide) rfl rfl hf_18 dX10_placeInRanking_23 ?_
      refine tt_get C hok jk_2 0 (by decide) jw_306 (t := (0, (-2147483648), 2147483647)) ka_6 (by decide) rfl rfl dX10_placeInRanking_26 (fun v_19 hv_19 hf_20 => ?_)
      obtain ⟨x_21, rfl, lx_21, ux_21⟩ := tt_vi hv_19
      refine jj_icmp_ge (tgt := 77) C dX10_placeInRanking_29 (by decide) (fun c_22 => ?_) (fun c_22 => ?_)
      · have z_c_22 := jc_le (a := (x_21).toInt) (b := (x_15).toInt) c_22 rfl rfl
        refine jj_iload C dX10_placeInRanking_77 rfl ?_
        exact jj_iret C ⟨[], pl, rfl, rfl, hok, hfr, ⟨x_16, (by first | omega | exact tt_lo _ | exact tt_hi _), (by first | omega | exact tt_lo _ | exact tt_hi _), rfl⟩⟩ dX10_placeInRanking_79 (jj_le rfl) (jj_le rfl)
      · have z_c_22 := jc_nle (a := (x_21).toInt) (b := (x_15).toInt) c_22 rfl rfl
        refine jj_aload_n C dX10_placeInRanking_32 rfl ?_
        refine tt_getF C hok jk_11 5 (by decide) jw_71 (t := (2, 9, 0)) hk0 (by decide) rfl rfl hf_17 dX10_placeInRanking_33 ?_
        refine jj_aload_n C dX10_placeInRanking_36 rfl ?_
        refine tt_getF C hok jk_11 3 (by decide) jw_2 (t := (2, 1, 0)) hk0 (by decide) rfl rfl hf_18 dX10_placeInRanking_37 ?_
        refine jj_iload C dX10_placeInRanking_40 rfl ?_
        refine jj_iconst (v := 0) C dX10_placeInRanking_42 (by decide) ?_
        obtain ⟨qc, gs, hqc⟩ := tt_recv (cx := []) hok ka_3 (by decide) rfl
        refine tt_callV (rest := []) C (tc_X1_payAfterRate_15 hl D cA ak a_3 a_6 x_15 ka_3 ka_6 hok) [] [] rfl rfl (by decide) (by decide) (by decide) qc hqc rfl rfl jw_437 jw_440 jw_441 jw_74 jw_438 jn_X1_payAfterRate rfl (jj_le rfl) (jj_le rfl) (jj_le rfl) (jj_le rfl) (jj_le rfl) dX10_placeInRanking_43 rfl (fun _ _ _ hX => hX.elim) (fun rx pl_23 r O_26 => ?_)
        obtain ⟨rfl, hok_24, hr_25, hR_28⟩ := O_26
        replace hf_17 := hr_25.at hk0 (by decide) (by decide) hf_17
        replace hf_18 := hr_25.at hk0 (by decide) (by decide) hf_18
        replace hf_20 := hr_25.at ka_6 (by decide) (by decide) hf_20
        replace hfr := hfr.trans (hr_25.sub (by decide))
        obtain ⟨y_29, rfl⟩ := hR_28
        refine jj_lstore C dX10_placeInRanking_46 (by decide) rfl ?_
        refine jj_lload C dX10_placeInRanking_48 rfl ?_
        refine jj_lload_n C dX10_placeInRanking_50 rfl ?_
        refine jj_lcmp_gt (tgt := 68) C dX10_placeInRanking_51 dX10_placeInRanking_52 (by decide) (fun c_30 => ?_) (fun c_30 => ?_)
        · obtain ⟨x_31, ex_31⟩ : ∃ z : Int32, x_16 + Int32.ofInt 1 = z := ⟨_, rfl⟩
          refine jj_iinc (v := x_31) C dX10_placeInRanking_68 rfl ex_31 (by decide) rfl ?_
          obtain ⟨x_32, ex_32, vx_32⟩ := tt_inc (x := x_15) (n := 1) (by omega) (by omega)
          refine jj_iinc (v := x_32) C dX10_placeInRanking_71 rfl ex_32 (by decide) rfl ?_
          refine jj_goto (tgt := 20) C dX10_placeInRanking_74 (by decide) ?_
          refine jj_loc [0, 1, 3, 4, 5] rfl ?_
          exact ihL_14 pl_23 x_32 x_31 hok_24 hfr hf_17 hf_18 (by first | omega | decide | exact tt_lo _ | exact tt_hi _) (by first | omega | decide | exact tt_lo _ | exact tt_hi _) (by first | omega | decide | exact tt_lo _ | exact tt_hi _) (by first | omega | decide | exact tt_lo _ | exact tt_hi _) (by first | omega | decide | exact tt_lo _ | exact tt_hi _)
        · refine jj_lload C dX10_placeInRanking_55 rfl ?_
          refine jj_lload_n C dX10_placeInRanking_57 rfl ?_
          refine jj_lcmp_ne (tgt := 71) C dX10_placeInRanking_58 dX10_placeInRanking_59 (by decide) (fun c_33 => ?_) (fun c_33 => ?_)
          · obtain ⟨x_34, ex_34, vx_34⟩ := tt_inc (x := x_15) (n := 1) (by omega) (by omega)
            refine jj_iinc (v := x_34) C dX10_placeInRanking_71 rfl ex_34 (by decide) rfl ?_
            refine jj_goto (tgt := 20) C dX10_placeInRanking_74 (by decide) ?_
            refine jj_loc [0, 2, 3, 4, 5] rfl ?_
            exact ihL_14 pl_23 x_34 x_16 hok_24 hfr hf_17 hf_18 (by first | omega | decide | exact tt_lo _ | exact tt_hi _) (by first | omega | decide | exact tt_lo _ | exact tt_hi _) (by first | omega | decide | exact tt_lo _ | exact tt_hi _) (by first | omega | decide | exact tt_lo _ | exact tt_hi _) (by first | omega | decide | exact tt_lo _ | exact tt_hi _)
          · refine jj_iload C dX10_placeInRanking_62 rfl ?_
            refine jj_iload_n C dX10_placeInRanking_64 rfl ?_
            refine jj_icmp_ge (tgt := 71) C dX10_placeInRanking_65 (by decide) (fun c_35 => ?_) (fun c_35 => ?_)
            · have z_c_35 := jc_le (a := (p1).toInt) (b := (x_15).toInt) c_35 rfl rfl
              obtain ⟨x_36, ex_36, vx_36⟩ := tt_inc (x := x_15) (n := 1) (by omega) (by omega)
              refine jj_iinc (v := x_36) C dX10_placeInRanking_71 rfl ex_36 (by decide) rfl ?_
              refine jj_goto (tgt := 20) C dX10_placeInRanking_74 (by decide) ?_
              refine jj_loc [0, 2, 3, 4, 5] rfl ?_
              exact ihL_14 pl_23 x_36 x_16 hok_24 hfr hf_17 hf_18 (by first | omega | decide | exact tt_lo _ | exact tt_hi _) (by first | omega | decide | exact tt_lo _ | exact tt_hi _) (by first | omega | decide | exact tt_lo _ | exact tt_hi _) (by first | omega | decide | exact tt_lo _ | exact tt_hi _) (by first | omega | decide | exact tt_lo _ | exact tt_hi _)
            · have z_c_35 := jc_nle (a := (p1).toInt) (b := (x_15).toInt) c_35 rfl rfl
              obtain ⟨x_37, ex_37⟩ : ∃ z : Int32, x_16 + Int32.ofInt 1 = z := ⟨_, rfl⟩
              refine jj_iinc (v := x_37) C dX10_placeInRanking_68 rfl ex_37 (by decide) rfl ?_
              obtain ⟨x_38, ex_38, vx_38⟩ := tt_inc (x := x_15) (n := 1) (by omega) (by omega)
              refine jj_iinc (v := x_38) C dX10_placeInRanking_71 rfl ex_38 (by decide) rfl ?_
              refine jj_goto (tgt := 20) C dX10_placeInRanking_74 (by decide) ?_
              refine jj_loc [0, 1, 3, 4, 5] rfl ?_
              exact ihL_14 pl_23 x_38 x_37 hok_24 hfr hf_17 hf_18 (by first | omega | decide | exact tt_lo _ | exact tt_hi _) (by first | omega | decide | exact tt_lo _ | exact tt_hi _) (by first | omega | decide | exact tt_lo _ | exact tt_hi _) (by first | omega | decide | exact tt_lo _ | exact tt_hi _) (by first | omega | decide | exact tt_lo _ | exact tt_hi _)
  exact hL_14 _ pl_7 (0 : Int32) (0 : Int32) trivial hok_8 hfr hf_2 hf_5 (by first | omega | decide | exact tt_lo _ | exact tt_hi _) (by first | omega | decide | exact tt_lo _ | exact tt_hi _) (by first | omega | decide | exact tt_lo _ | exact tt_hi _) (by first | omega | decide | exact tt_lo _ | exact tt_hi _) (Int.self_le_toNat _)

set_option maxHeartbeats 4000000 in
set_option maxRecDepth 100000 in
theorem tc_X10_placeInRanking_5 {l : Launch} (hl : l.stackTraces = false) (D : va_G) (cA : Nat → ClassId) (ak : (Nat → Nat) × (Nat → Nat)) {Kd : Nat → Nat} (h0 : Nat) (p1 : Int32) (hk0 : Kd h0 = 15) (lp1 : (0 : Int) ≤ p1.toInt) (up1 : p1.toInt ≤ 9) {pl0 : va_W} (hok : tt_ok tt_tk cA Kd pl0) : jj_M l D cA ak yX10_placeInRanking (.code yX10_placeInRanking cX10_placeInRanking 8 (some .int)) 4 111 0 0 ([] ++ pl0) [.ref h0, .int p1] (tt_O (fun rx pl1 r => rx = [] ∧ tt_ok tt_tk cA Kd pl1 ∧ tt_fr Kd [(2, 0), (2, 1), (2, 2), (2, 3), (2, 4), (9, 1), (9, 2), (9, 3), (9, 4), (9, 5)] pl0 pl1 ∧ ((∃ v : Int32, (-2147483648 : Int) ≤ v.toInt ∧ v.toInt ≤ 2147483647 ∧ r = some (.int v))))) (tt_OX (fun _ _ _ => False)) := by
  refine jj_start hl (by decide) jw_479 (jj_le rfl) ?_
  intro p e s m args below meth c A hargs hA C hex hmn
  have hfr := tt_fr.refl (K := Kd) (WS := [(2, 0), (2, 1), (2, 2), (2, 3), (2, 4), (9, 1), (9, 2), (9, 3), (9, 4), (9, 5)]) pl0
  refine jj_aload_n C dX10_placeInRanking_0 rfl ?_
  refine tt_get C hok jk_11 5 (by decide) jw_71 (t := (2, 9, 0)) hk0 (by decide) rfl rfl dX10_placeInRanking_1 (fun v_1 hv_1 hf_2 => ?_)
  obtain ⟨a_3, rfl, ka_3⟩ := tt_vr hv_1
  refine jj_aload_n C dX10_placeInRanking_4 rfl ?_
  refine tt_get C hok jk_11 3 (by decide) jw_2 (t := (2, 1, 0)) hk0 (by decide) rfl rfl dX10_placeInRanking_5 (fun v_4 hv_4 hf_5 => ?_)
  obtain ⟨a_6, rfl, ka_6⟩ := tt_vr hv_4
  refine jj_iload_n C dX10_placeInRanking_8 rfl ?_
  refine jj_iconst (v := 0) C dX10_placeInRanking_9 (by decide) ?_
  obtain ⟨qc, gs, hqc⟩ := tt_recv (cx := []) hok ka_3 (by decide) rfl
  refine tt_callV (rest := []) C (tc_X1_payAfterRate_6 hl D cA ak a_3 a_6 p1 ka_3 ka_6 (by omega) (by omega) hok) [] [] rfl rfl (by decide) (by decide) (by decide) qc hqc rfl rfl jw_437 jw_440 jw_441 jw_74 jw_438 jn_X1_payAfterRate rfl (jj_le rfl) (jj_le rfl) (jj_le rfl) (jj_le rfl) (jj_le rfl) dX10_placeInRanking_10 rfl (fun _ _ _ hX => hX.elim) (fun rx pl_7 r O_10 => ?_)
  obtain ⟨rfl, hok_8, hr_9, hR_12⟩ := O_10
  replace hf_2 := hr_9.at hk0 (by decide) (by decide) hf_2
  replace hf_5 := hr_9.at hk0 (by decide) (by decide) hf_5
  replace hfr := hfr.trans (hr_9.sub (by decide))
  obtain ⟨y_13, rfl⟩ := hR_12
  refine jj_lstore_n C dX10_placeInRanking_13 (by decide) rfl ?_
  refine jj_iconst (v := 0) C dX10_placeInRanking_14 (by decide) ?_
  refine jj_istore C dX10_placeInRanking_15 (by decide) rfl ?_
  refine jj_iconst (v := 0) C dX10_placeInRanking_17 (by decide) ?_
  refine jj_istore C dX10_placeInRanking_18 (by decide) rfl ?_
  have hL_14 : ∀ (N : Nat) (pl : va_W) (x_15 : Int32) (x_16 : Int32), True → tt_ok tt_tk cA Kd pl → tt_fr Kd [(2, 0), (2, 1), (2, 2), (2, 3), (2, 4), (9, 1), (9, 2), (9, 3), (9, 4), (9, 5)] pl0 pl → tt_at pl h0 5 (.ref a_3) → tt_at pl h0 3 (.ref a_6) → (0 : Int) ≤ x_15.toInt → x_15.toInt ≤ 2147483647 → (-2147483648 : Int) ≤ x_16.toInt → x_16.toInt ≤ 2147483647 → (2147483648 - x_15.toInt ≤ (N : Int)) → jj_J p l e (jj_rm 4 111 0 0) s m args below meth c 8 A (vx_MQ below (jj_q D A (tt_O (fun rx pl1 r => rx = [] ∧ tt_ok tt_tk cA Kd pl1 ∧ tt_fr Kd [(2, 0), (2, 1), (2, 2), (2, 3), (2, 4), (9, 1), (9, 2), (9, 3), (9, 4), (9, 5)] pl0 pl1 ∧ ((∃ v : Int32, (-2147483648 : Int) ≤ v.toInt ∧ v.toInt ≤ 2147483647 ∧ r = some (.int v)))))) (jj_x D A (tt_OX (fun _ _ _ => False))) args s 0 0 A) (jj_X D A ([] ++ pl)) 0 0 20 [(5, .int x_15), (4, .int x_16), (2, .long y_13), (0, .ref h0), (1, .int p1)] [] := by
    intro NL_14
    induction NL_14 with
    | zero => intro pl x_15 x_16 _ hok hfr hf_17 hf_18 lx_15 ux_15 lx_16 ux_16 hNL_14; exfalso; omega
    | succ NL_14 ihL_14 =>
      intro pl x_15 x_16 _ hok hfr hf_17 hf_18 lx_15 ux_15 lx_16 ux_16 hNL_14
      replace ihL_14 := fun pl x_15 x_16 h1 => ihL_14 pl x_15 x_16 trivial h1
      refine jj_iload C dX10_placeInRanking_20 rfl ?_
      refine jj_aload_n C dX10_placeInRanking_22 rfl ?_
      refine tt_getF C hok jk_11 3 (by decide) jw_2 (t := (2, 1, 0)) hk0 (by decide) rfl rfl hf_18 dX10_placeInRanking_23 ?_
      refine tt_get C hok jk_2 0 (by decide) jw_306 (t := (0, (-2147483648), 2147483647)) ka_6 (by decide) rfl rfl dX10_placeInRanking_26 (fun v_19 hv_19 hf_20 => ?_)
      obtain ⟨x_21, rfl, lx_21, ux_21⟩ := tt_vi hv_19
      refine jj_icmp_ge (tgt := 77) C dX10_placeInRanking_29 (by decide) (fun c_22 => ?_) (fun c_22 => ?_)
      · have z_c_22 := jc_le (a := (x_21).toInt) (b := (x_15).toInt) c_22 rfl rfl
        refine jj_iload C dX10_placeInRanking_77 rfl ?_
        exact jj_iret C ⟨[], pl, rfl, rfl, hok, hfr, ⟨x_16, (by first | omega | exact tt_lo _ | exact tt_hi _), (by first | omega | exact tt_lo _ | exact tt_hi _), rfl⟩⟩ dX10_placeInRanking_79 (jj_le rfl) (jj_le rfl)
      · have z_c_22 := jc_nle (a := (x_21).toInt) (b := (x_15).toInt) c_22 rfl rfl
        refine jj_aload_n C dX10_placeInRanking_32 rfl ?_
        refine tt_getF C hok jk_11 5 (by decide) jw_71 (t := (2, 9, 0)) hk0 (by decide) rfl rfl hf_17 dX10_placeInRanking_33 ?_
        refine jj_aload_n C dX10_placeInRanking_36 rfl ?_
        refine tt_getF C hok jk_11 3 (by decide) jw_2 (t := (2, 1, 0)) hk0 (by decide) rfl rfl hf_18 dX10_placeInRanking_37 ?_
        refine jj_iload C dX10_placeInRanking_40 rfl ?_
        refine jj_iconst (v := 0) C dX10_placeInRanking_42 (by decide) ?_
        obtain ⟨qc, gs, hqc⟩ := tt_recv (cx := []) hok ka_3 (by decide) rfl
        refine tt_callV (rest := []) C (tc_X1_payAfterRate_15 hl D cA ak a_3 a_6 x_15 ka_3 ka_6 hok) [] [] rfl rfl (by decide) (by decide) (by decide) qc hqc rfl rfl jw_437 jw_440 jw_441 jw_74 jw_438 jn_X1_payAfterRate rfl (jj_le rfl) (jj_le rfl) (jj_le rfl) (jj_le rfl) (jj_le rfl) dX10_placeInRanking_43 rfl (fun _ _ _ hX => hX.elim) (fun rx pl_23 r O_26 => ?_)
        obtain ⟨rfl, hok_24, hr_25, hR_28⟩ := O_26
        replace hf_17 := hr_25.at hk0 (by decide) (by decide) hf_17
        replace hf_18 := hr_25.at hk0 (by decide) (by decide) hf_18
        replace hf_20 := hr_25.at ka_6 (by decide) (by decide) hf_20
        replace hfr := hfr.trans (hr_25.sub (by decide))
        obtain ⟨y_29, rfl⟩ := hR_28
        refine jj_lstore C dX10_placeInRanking_46 (by decide) rfl ?_
        refine jj_lload C dX10_placeInRanking_48 rfl ?_
        refine jj_lload_n C dX10_placeInRanking_50 rfl ?_
        refine jj_lcmp_gt (tgt := 68) C dX10_placeInRanking_51 dX10_placeInRanking_52 (by decide) (fun c_30 => ?_) (fun c_30 => ?_)
        · obtain ⟨x_31, ex_31⟩ : ∃ z : Int32, x_16 + Int32.ofInt 1 = z := ⟨_, rfl⟩
          refine jj_iinc (v := x_31) C dX10_placeInRanking_68 rfl ex_31 (by decide) rfl ?_
          obtain ⟨x_32, ex_32, vx_32⟩ := tt_inc (x := x_15) (n := 1) (by omega) (by omega)
          refine jj_iinc (v := x_32) C dX10_placeInRanking_71 rfl ex_32 (by decide) rfl ?_
          refine jj_goto (tgt := 20) C dX10_placeInRanking_74 (by decide) ?_
          refine jj_loc [0, 1, 3, 4, 5] rfl ?_
          exact ihL_14 pl_23 x_32 x_31 hok_24 hfr hf_17 hf_18 (by first | omega | decide | exact tt_lo _ | exact tt_hi _) (by first | omega | decide | exact tt_lo _ | exact tt_hi _) (by first | omega | decide | exact tt_lo _ | exact tt_hi _) (by first | omega | decide | exact tt_lo _ | exact tt_hi _) (by first | omega | decide | exact tt_lo _ | exact tt_hi _)
        · refine jj_lload C dX10_placeInRanking_55 rfl ?_
          refine jj_lload_n C dX10_placeInRanking_57 rfl ?_
          refine jj_lcmp_ne (tgt := 71) C dX10_placeInRanking_58 dX10_placeInRanking_59 (by decide) (fun c_33 => ?_) (fun c_33 => ?_)
          · obtain ⟨x_34, ex_34, vx_34⟩ := tt_inc (x := x_15) (n := 1) (by omega) (by omega)
            refine jj_iinc (v := x_34) C dX10_placeInRanking_71 rfl ex_34 (by decide) rfl ?_
            refine jj_goto (tgt := 20) C dX10_placeInRanking_74 (by decide) ?_
            refine jj_loc [0, 2, 3, 4, 5] rfl ?_
            exact ihL_14 pl_23 x_34 x_16 hok_24 hfr hf_17 hf_18 (by first | omega | decide | exact tt_lo _ | exact tt_hi _) (by first | omega | decide | exact tt_lo _ | exact tt_hi _) (by first | omega | decide | exact tt_lo _ | exact tt_hi _) (by first | omega | decide | exact tt_lo _ | exact tt_hi _) (by first | omega | decide | exact tt_lo _ | exact tt_hi _)
          · refine jj_iload C dX10_placeInRanking_62 rfl ?_
            refine jj_iload_n C dX10_placeInRanking_64 rfl ?_
            refine jj_icmp_ge (tgt := 71) C dX10_placeInRanking_65 (by decide) (fun c_35 => ?_) (fun c_35 => ?_)
            · have z_c_35 := jc_le (a := (p1).toInt) (b := (x_15).toInt) c_35 rfl rfl
              obtain ⟨x_36, ex_36, vx_36⟩ := tt_inc (x := x_15) (n := 1) (by omega) (by omega)
              refine jj_iinc (v := x_36) C dX10_placeInRanking_71 rfl ex_36 (by decide) rfl ?_
              refine jj_goto (tgt := 20) C dX10_placeInRanking_74 (by decide) ?_
              refine jj_loc [0, 2, 3, 4, 5] rfl ?_
              exact ihL_14 pl_23 x_36 x_16 hok_24 hfr hf_17 hf_18 (by first | omega | decide | exact tt_lo _ | exact tt_hi _) (by first | omega | decide | exact tt_lo _ | exact tt_hi _) (by first | omega | decide | exact tt_lo _ | exact tt_hi _) (by first | omega | decide | exact tt_lo _ | exact tt_hi _) (by first | omega | decide | exact tt_lo _ | exact tt_hi _)
            · have z_c_35 := jc_nle (a := (p1).toInt) (b := (x_15).toInt) c_35 rfl rfl
              obtain ⟨x_37, ex_37⟩ : ∃ z : Int32, x_16 + Int32.ofInt 1 = z := ⟨_, rfl⟩
              refine jj_iinc (v := x_37) C dX10_placeInRanking_68 rfl ex_37 (by decide) rfl ?_
              obtain ⟨x_38, ex_38, vx_38⟩ := tt_inc (x := x_15) (n := 1) (by omega) (by omega)
              refine jj_iinc (v := x_38) C dX10_placeInRanking_71 rfl ex_38 (by decide) rfl ?_
              refine jj_goto (tgt := 20) C dX10_placeInRanking_74 (by decide) ?_
              refine jj_loc [0, 1, 3, 4, 5] rfl ?_
              exact ihL_14 pl_23 x_38 x_37 hok_24 hfr hf_17 hf_18 (by first | omega | decide | exact tt_lo _ | exact tt_hi _) (by first | omega | decide | exact tt_lo _ | exact tt_hi _) (by first | omega | decide | exact tt_lo _ | exact tt_hi _) (by first | omega | decide | exact tt_lo _ | exact tt_hi _) (by first | omega | decide | exact tt_lo _ | exact tt_hi _)
  exact hL_14 _ pl_7 (0 : Int32) (0 : Int32) trivial hok_8 hfr hf_2 hf_5 (by first | omega | decide | exact tt_lo _ | exact tt_hi _) (by first | omega | decide | exact tt_lo _ | exact tt_hi _) (by first | omega | decide | exact tt_lo _ | exact tt_hi _) (by first | omega | decide | exact tt_lo _ | exact tt_hi _) (Int.self_le_toNat _)

set_option maxHeartbeats 4000000 in
set_option maxRecDepth 100000 in
theorem tc_X10_placeInRanking_6 {l : Launch} (hl : l.stackTraces = false) (D : va_G) (cA : Nat → ClassId) (ak : (Nat → Nat) × (Nat → Nat)) {Kd : Nat → Nat} (h0 : Nat) (p1 : Int32) (hk0 : Kd h0 = 15) (lp1 : (0 : Int) ≤ p1.toInt) (up1 : p1.toInt ≤ 10) {pl0 : va_W} (hok : tt_ok tt_tk cA Kd pl0) : jj_M l D cA ak yX10_placeInRanking (.code yX10_placeInRanking cX10_placeInRanking 8 (some .int)) 4 111 0 0 ([] ++ pl0) [.ref h0, .int p1] (tt_O (fun rx pl1 r => rx = [] ∧ tt_ok tt_tk cA Kd pl1 ∧ tt_fr Kd [(2, 0), (2, 1), (2, 2), (2, 3), (2, 4), (9, 1), (9, 2), (9, 3), (9, 4), (9, 5)] pl0 pl1 ∧ ((∃ v : Int32, (-2147483648 : Int) ≤ v.toInt ∧ v.toInt ≤ 2147483647 ∧ r = some (.int v))))) (tt_OX (fun _ _ _ => False)) := by
  refine jj_start hl (by decide) jw_479 (jj_le rfl) ?_
  intro p e s m args below meth c A hargs hA C hex hmn
  have hfr := tt_fr.refl (K := Kd) (WS := [(2, 0), (2, 1), (2, 2), (2, 3), (2, 4), (9, 1), (9, 2), (9, 3), (9, 4), (9, 5)]) pl0
  refine jj_aload_n C dX10_placeInRanking_0 rfl ?_
  refine tt_get C hok jk_11 5 (by decide) jw_71 (t := (2, 9, 0)) hk0 (by decide) rfl rfl dX10_placeInRanking_1 (fun v_1 hv_1 hf_2 => ?_)
  obtain ⟨a_3, rfl, ka_3⟩ := tt_vr hv_1
  refine jj_aload_n C dX10_placeInRanking_4 rfl ?_
  refine tt_get C hok jk_11 3 (by decide) jw_2 (t := (2, 1, 0)) hk0 (by decide) rfl rfl dX10_placeInRanking_5 (fun v_4 hv_4 hf_5 => ?_)
  obtain ⟨a_6, rfl, ka_6⟩ := tt_vr hv_4
  refine jj_iload_n C dX10_placeInRanking_8 rfl ?_
  refine jj_iconst (v := 0) C dX10_placeInRanking_9 (by decide) ?_
  obtain ⟨qc, gs, hqc⟩ := tt_recv (cx := []) hok ka_3 (by decide) rfl
  refine tt_callV (rest := []) C (tc_X1_payAfterRate_7 hl D cA ak a_3 a_6 p1 ka_3 ka_6 (by omega) (by omega) hok) [] [] rfl rfl (by decide) (by decide) (by decide) qc hqc rfl rfl jw_437 jw_440 jw_441 jw_74 jw_438 jn_X1_payAfterRate rfl (jj_le rfl) (jj_le rfl) (jj_le rfl) (jj_le rfl) (jj_le rfl) dX10_placeInRanking_10 rfl (fun _ _ _ hX => hX.elim) (fun rx pl_7 r O_10 => ?_)
  obtain ⟨rfl, hok_8, hr_9, hR_12⟩ := O_10
  replace hf_2 := hr_9.at hk0 (by decide) (by decide) hf_2
  replace hf_5 := hr_9.at hk0 (by decide) (by decide) hf_5
  replace hfr := hfr.trans (hr_9.sub (by decide))
  obtain ⟨y_13, rfl⟩ := hR_12
  refine jj_lstore_n C dX10_placeInRanking_13 (by decide) rfl ?_
  refine jj_iconst (v := 0) C dX10_placeInRanking_14 (by decide) ?_
  refine jj_istore C dX10_placeInRanking_15 (by decide) rfl ?_
  refine jj_iconst (v := 0) C dX10_placeInRanking_17 (by decide) ?_
  refine jj_istore C dX10_placeInRanking_18 (by decide) rfl ?_
  have hL_14 : ∀ (N : Nat) (pl : va_W) (x_15 : Int32) (x_16 : Int32), True → tt_ok tt_tk cA Kd pl → tt_fr Kd [(2, 0), (2, 1), (2, 2), (2, 3), (2, 4), (9, 1), (9, 2), (9, 3), (9, 4), (9, 5)] pl0 pl → tt_at pl h0 5 (.ref a_3) → tt_at pl h0 3 (.ref a_6) → (0 : Int) ≤ x_15.toInt → x_15.toInt ≤ 2147483647 → (-2147483648 : Int) ≤ x_16.toInt → x_16.toInt ≤ 2147483647 → (2147483648 - x_15.toInt ≤ (N : Int)) → jj_J p l e (jj_rm 4 111 0 0) s m args below meth c 8 A (vx_MQ below (jj_q D A (tt_O (fun rx pl1 r => rx = [] ∧ tt_ok tt_tk cA Kd pl1 ∧ tt_fr Kd [(2, 0), (2, 1), (2, 2), (2, 3), (2, 4), (9, 1), (9, 2), (9, 3), (9, 4), (9, 5)] pl0 pl1 ∧ ((∃ v : Int32, (-2147483648 : Int) ≤ v.toInt ∧ v.toInt ≤ 2147483647 ∧ r = some (.int v)))))) (jj_x D A (tt_OX (fun _ _ _ => False))) args s 0 0 A) (jj_X D A ([] ++ pl)) 0 0 20 [(5, .int x_15), (4, .int x_16), (2, .long y_13), (0, .ref h0), (1, .int p1)] [] := by
    intro NL_14
    induction NL_14 with
    | zero => intro pl x_15 x_16 _ hok hfr hf_17 hf_18 lx_15 ux_15 lx_16 ux_16 hNL_14; exfalso; omega
    | succ NL_14 ihL_14 =>
      intro pl x_15 x_16 _ hok hfr hf_17 hf_18 lx_15 ux_15 lx_16 ux_16 hNL_14
      replace ihL_14 := fun pl x_15 x_16 h1 => ihL_14 pl x_15 x_16 trivial h1
      refine jj_iload C dX10_placeInRanking_20 rfl ?_
      refine jj_aload_n C dX10_placeInRanking_22 rfl ?_
      refine tt_getF C hok jk_11 3 (by decide) jw_2 (t := (2, 1, 0)) hk0 (by decide) rfl rfl hf_18 dX10_placeInRanking_23 ?_
      refine tt_get C hok jk_2 0 (by decide) jw_306 (t := (0, (-2147483648), 2147483647)) ka_6 (by decide) rfl rfl dX10_placeInRanking_26 (fun v_19 hv_19 hf_20 => ?_)
      obtain ⟨x_21, rfl, lx_21, ux_21⟩ := tt_vi hv_19
      refine jj_icmp_ge (tgt := 77) C dX10_placeInRanking_29 (by decide) (fun c_22 => ?_) (fun c_22 => ?_)
      · have z_c_22 := jc_le (a := (x_21).toInt) (b := (x_15).toInt) c_22 rfl rfl
        refine jj_iload C dX10_placeInRanking_77 rfl ?_
        exact jj_iret C ⟨[], pl, rfl, rfl, hok, hfr, ⟨x_16, (by first | omega | exact tt_lo _ | exact tt_hi _), (by first | omega | exact tt_lo _ | exact tt_hi _), rfl⟩⟩ dX10_placeInRanking_79 (jj_le rfl) (jj_le rfl)
      · have z_c_22 := jc_nle (a := (x_21).toInt) (b := (x_15).toInt) c_22 rfl rfl
        refine jj_aload_n C dX10_placeInRanking_32 rfl ?_
        refine tt_getF C hok jk_11 5 (by decide) jw_71 (t := (2, 9, 0)) hk0 (by decide) rfl rfl hf_17 dX10_placeInRanking_33 ?_
        refine jj_aload_n C dX10_placeInRanking_36 rfl ?_
        refine tt_getF C hok jk_11 3 (by decide) jw_2 (t := (2, 1, 0)) hk0 (by decide) rfl rfl hf_18 dX10_placeInRanking_37 ?_
        refine jj_iload C dX10_placeInRanking_40 rfl ?_
        refine jj_iconst (v := 0) C dX10_placeInRanking_42 (by decide) ?_
        obtain ⟨qc, gs, hqc⟩ := tt_recv (cx := []) hok ka_3 (by decide) rfl
        refine tt_callV (rest := []) C (tc_X1_payAfterRate_15 hl D cA ak a_3 a_6 x_15 ka_3 ka_6 hok) [] [] rfl rfl (by decide) (by decide) (by decide) qc hqc rfl rfl jw_437 jw_440 jw_441 jw_74 jw_438 jn_X1_payAfterRate rfl (jj_le rfl) (jj_le rfl) (jj_le rfl) (jj_le rfl) (jj_le rfl) dX10_placeInRanking_43 rfl (fun _ _ _ hX => hX.elim) (fun rx pl_23 r O_26 => ?_)
        obtain ⟨rfl, hok_24, hr_25, hR_28⟩ := O_26
        replace hf_17 := hr_25.at hk0 (by decide) (by decide) hf_17
        replace hf_18 := hr_25.at hk0 (by decide) (by decide) hf_18
        replace hf_20 := hr_25.at ka_6 (by decide) (by decide) hf_20
        replace hfr := hfr.trans (hr_25.sub (by decide))
        obtain ⟨y_29, rfl⟩ := hR_28
        refine jj_lstore C dX10_placeInRanking_46 (by decide) rfl ?_
        refine jj_lload C dX10_placeInRanking_48 rfl ?_
        refine jj_lload_n C dX10_placeInRanking_50 rfl ?_
        refine jj_lcmp_gt (tgt := 68) C dX10_placeInRanking_51 dX10_placeInRanking_52 (by decide) (fun c_30 => ?_) (fun c_30 => ?_)
        · obtain ⟨x_31, ex_31⟩ : ∃ z : Int32, x_16 + Int32.ofInt 1 = z := ⟨_, rfl⟩
          refine jj_iinc (v := x_31) C dX10_placeInRanking_68 rfl ex_31 (by decide) rfl ?_
          obtain ⟨x_32, ex_32, vx_32⟩ := tt_inc (x := x_15) (n := 1) (by omega) (by omega)
          refine jj_iinc (v := x_32) C dX10_placeInRanking_71 rfl ex_32 (by decide) rfl ?_
          refine jj_goto (tgt := 20) C dX10_placeInRanking_74 (by decide) ?_
          refine jj_loc [0, 1, 3, 4, 5] rfl ?_
          exact ihL_14 pl_23 x_32 x_31 hok_24 hfr hf_17 hf_18 (by first | omega | decide | exact tt_lo _ | exact tt_hi _) (by first | omega | decide | exact tt_lo _ | exact tt_hi _) (by first | omega | decide | exact tt_lo _ | exact tt_hi _) (by first | omega | decide | exact tt_lo _ | exact tt_hi _) (by first | omega | decide | exact tt_lo _ | exact tt_hi _)
        · refine jj_lload C dX10_placeInRanking_55 rfl ?_
          refine jj_lload_n C dX10_placeInRanking_57 rfl ?_
          refine jj_lcmp_ne (tgt := 71) C dX10_placeInRanking_58 dX10_placeInRanking_59 (by decide) (fun c_33 => ?_) (fun c_33 => ?_)
          · obtain ⟨x_34, ex_34, vx_34⟩ := tt_inc (x := x_15) (n := 1) (by omega) (by omega)
            refine jj_iinc (v := x_34) C dX10_placeInRanking_71 rfl ex_34 (by decide) rfl ?_
            refine jj_goto (tgt := 20) C dX10_placeInRanking_74 (by decide) ?_
            refine jj_loc [0, 2, 3, 4, 5] rfl ?_
            exact ihL_14 pl_23 x_34 x_16 hok_24 hfr hf_17 hf_18 (by first | omega | decide | exact tt_lo _ | exact tt_hi _) (by first | omega | decide | exact tt_lo _ | exact tt_hi _) (by first | omega | decide | exact tt_lo _ | exact tt_hi _) (by first | omega | decide | exact tt_lo _ | exact tt_hi _) (by first | omega | decide | exact tt_lo _ | exact tt_hi _)
          · refine jj_iload C dX10_placeInRanking_62 rfl ?_
            refine jj_iload_n C dX10_placeInRanking_64 rfl ?_
            refine jj_icmp_ge (tgt := 71) C dX10_placeInRanking_65 (by decide) (fun c_35 => ?_) (fun c_35 => ?_)
            · have z_c_35 := jc_le (a := (p1).toInt) (b := (x_15).toInt) c_35 rfl rfl
              obtain ⟨x_36, ex_36, vx_36⟩ := tt_inc (x := x_15) (n := 1) (by omega) (by omega)
              refine jj_iinc (v := x_36) C dX10_placeInRanking_71 rfl ex_36 (by decide) rfl ?_
              refine jj_goto (tgt := 20) C dX10_placeInRanking_74 (by decide) ?_
              refine jj_loc [0, 2, 3, 4, 5] rfl ?_
              exact ihL_14 pl_23 x_36 x_16 hok_24 hfr hf_17 hf_18 (by first | omega | decide | exact tt_lo _ | exact tt_hi _) (by first | omega | decide | exact tt_lo _ | exact tt_hi _) (by first | omega | decide | exact tt_lo _ | exact tt_hi _) (by first | omega | decide | exact tt_lo _ | exact tt_hi _) (by first | omega | decide | exact tt_lo _ | exact tt_hi _)
            · have z_c_35 := jc_nle (a := (p1).toInt) (b := (x_15).toInt) c_35 rfl rfl
              obtain ⟨x_37, ex_37⟩ : ∃ z : Int32, x_16 + Int32.ofInt 1 = z := ⟨_, rfl⟩
              refine jj_iinc (v := x_37) C dX10_placeInRanking_68 rfl ex_37 (by decide) rfl ?_
              obtain ⟨x_38, ex_38, vx_38⟩ := tt_inc (x := x_15) (n := 1) (by omega) (by omega)
              refine jj_iinc (v := x_38) C dX10_placeInRanking_71 rfl ex_38 (by decide) rfl ?_
              refine jj_goto (tgt := 20) C dX10_placeInRanking_74 (by decide) ?_
              refine jj_loc [0, 1, 3, 4, 5] rfl ?_
              exact ihL_14 pl_23 x_38 x_37 hok_24 hfr hf_17 hf_18 (by first | omega | decide | exact tt_lo _ | exact tt_hi _) (by first | omega | decide | exact tt_lo _ | exact tt_hi _) (by first | omega | decide | exact tt_lo _ | exact tt_hi _) (by first | omega | decide | exact tt_lo _ | exact tt_hi _) (by first | omega | decide | exact tt_lo _ | exact tt_hi _)
  exact hL_14 _ pl_7 (0 : Int32) (0 : Int32) trivial hok_8 hfr hf_2 hf_5 (by first | omega | decide | exact tt_lo _ | exact tt_hi _) (by first | omega | decide | exact tt_lo _ | exact tt_hi _) (by first | omega | decide | exact tt_lo _ | exact tt_hi _) (by first | omega | decide | exact tt_lo _ | exact tt_hi _) (Int.self_le_toNat _)

set_option maxHeartbeats 4000000 in
set_option maxRecDepth 100000 in
theorem tc_X10_placeInRanking_7 {l : Launch} (hl : l.stackTraces = false) (D : va_G) (cA : Nat → ClassId) (ak : (Nat → Nat) × (Nat → Nat)) {Kd : Nat → Nat} (h0 : Nat) (p1 : Int32) (hk0 : Kd h0 = 15) (lp1 : (0 : Int) ≤ p1.toInt) (up1 : p1.toInt ≤ 11) {pl0 : va_W} (hok : tt_ok tt_tk cA Kd pl0) : jj_M l D cA ak yX10_placeInRanking (.code yX10_placeInRanking cX10_placeInRanking 8 (some .int)) 4 111 0 0 ([] ++ pl0) [.ref h0, .int p1] (tt_O (fun rx pl1 r => rx = [] ∧ tt_ok tt_tk cA Kd pl1 ∧ tt_fr Kd [(2, 0), (2, 1), (2, 2), (2, 3), (2, 4), (9, 1), (9, 2), (9, 3), (9, 4), (9, 5)] pl0 pl1 ∧ ((∃ v : Int32, (-2147483648 : Int) ≤ v.toInt ∧ v.toInt ≤ 2147483647 ∧ r = some (.int v))))) (tt_OX (fun _ _ _ => False)) := by
  refine jj_start hl (by decide) jw_479 (jj_le rfl) ?_
  intro p e s m args below meth c A hargs hA C hex hmn
  have hfr := tt_fr.refl (K := Kd) (WS := [(2, 0), (2, 1), (2, 2), (2, 3), (2, 4), (9, 1), (9, 2), (9, 3), (9, 4), (9, 5)]) pl0
  refine jj_aload_n C dX10_placeInRanking_0 rfl ?_
  refine tt_get C hok jk_11 5 (by decide) jw_71 (t := (2, 9, 0)) hk0 (by decide) rfl rfl dX10_placeInRanking_1 (fun v_1 hv_1 hf_2 => ?_)
  obtain ⟨a_3, rfl, ka_3⟩ := tt_vr hv_1
  refine jj_aload_n C dX10_placeInRanking_4 rfl ?_
  refine tt_get C hok jk_11 3 (by decide) jw_2 (t := (2, 1, 0)) hk0 (by decide) rfl rfl dX10_placeInRanking_5 (fun v_4 hv_4 hf_5 => ?_)
  obtain ⟨a_6, rfl, ka_6⟩ := tt_vr hv_4
  refine jj_iload_n C dX10_placeInRanking_8 rfl ?_
  refine jj_iconst (v := 0) C dX10_placeInRanking_9 (by decide) ?_
  obtain ⟨qc, gs, hqc⟩ := tt_recv (cx := []) hok ka_3 (by decide) rfl
  refine tt_callV (rest := []) C (tc_X1_payAfterRate_8 hl D cA ak a_3 a_6 p1 ka_3 ka_6 (by omega) (by omega) hok) [] [] rfl rfl (by decide) (by decide) (by decide) qc hqc rfl rfl jw_437 jw_440 jw_441 jw_74 jw_438 jn_X1_payAfterRate rfl (jj_le rfl) (jj_le rfl) (jj_le rfl) (jj_le rfl) (jj_le rfl) dX10_placeInRanking_10 rfl (fun _ _ _ hX => hX.elim) (fun rx pl_7 r O_10 => ?_)
  obtain ⟨rfl, hok_8, hr_9, hR_12⟩ := O_10
  replace hf_2 := hr_9.at hk0 (by decide) (by decide) hf_2
  replace hf_5 := hr_9.at hk0 (by decide) (by decide) hf_5
  replace hfr := hfr.trans (hr_9.sub (by decide))
  obtain ⟨y_13, rfl⟩ := hR_12
  refine jj_lstore_n C dX10_placeInRanking_13 (by decide) rfl ?_
  refine jj_iconst (v := 0) C dX10_placeInRanking_14 (by decide) ?_
  refine jj_istore C dX10_placeInRanking_15 (by decide) rfl ?_
  refine jj_iconst (v := 0) C dX10_placeInRanking_17 (by decide) ?_
  refine jj_istore C dX10_placeInRanking_18 (by decide) rfl ?_
  have hL_14 : ∀ (N : Nat) (pl : va_W) (x_15 : Int32) (x_16 : Int32), True → tt_ok tt_tk cA Kd pl → tt_fr Kd [(2, 0), (2, 1), (2, 2), (2, 3), (2, 4), (9, 1), (9, 2), (9, 3), (9, 4), (9, 5)] pl0 pl → tt_at pl h0 5 (.ref a_3) → tt_at pl h0 3 (.ref a_6) → (0 : Int) ≤ x_15.toInt → x_15.toInt ≤ 2147483647 → (-2147483648 : Int) ≤ x_16.toInt → x_16.toInt ≤ 2147483647 → (2147483648 - x_15.toInt ≤ (N : Int)) → jj_J p l e (jj_rm 4 111 0 0) s m args below meth c 8 A (vx_MQ below (jj_q D A (tt_O (fun rx pl1 r => rx = [] ∧ tt_ok tt_tk cA Kd pl1 ∧ tt_fr Kd [(2, 0), (2, 1), (2, 2), (2, 3), (2, 4), (9, 1), (9, 2), (9, 3), (9, 4), (9, 5)] pl0 pl1 ∧ ((∃ v : Int32, (-2147483648 : Int) ≤ v.toInt ∧ v.toInt ≤ 2147483647 ∧ r = some (.int v)))))) (jj_x D A (tt_OX (fun _ _ _ => False))) args s 0 0 A) (jj_X D A ([] ++ pl)) 0 0 20 [(5, .int x_15), (4, .int x_16), (2, .long y_13), (0, .ref h0), (1, .int p1)] [] := by
    intro NL_14
    induction NL_14 with
    | zero => intro pl x_15 x_16 _ hok hfr hf_17 hf_18 lx_15 ux_15 lx_16 ux_16 hNL_14; exfalso; omega
    | succ NL_14 ihL_14 =>
      intro pl x_15 x_16 _ hok hfr hf_17 hf_18 lx_15 ux_15 lx_16 ux_16 hNL_14
      replace ihL_14 := fun pl x_15 x_16 h1 => ihL_14 pl x_15 x_16 trivial h1
      refine jj_iload C dX10_placeInRanking_20 rfl ?_
      refine jj_aload_n C dX10_placeInRanking_22 rfl ?_
      refine tt_getF C hok jk_11 3 (by decide) jw_2 (t := (2, 1, 0)) hk0 (by decide) rfl rfl hf_18 dX10_placeInRanking_23 ?_
      refine tt_get C hok jk_2 0 (by decide) jw_306 (t := (0, (-2147483648), 2147483647)) ka_6 (by decide) rfl rfl dX10_placeInRanking_26 (fun v_19 hv_19 hf_20 => ?_)
      obtain ⟨x_21, rfl, lx_21, ux_21⟩ := tt_vi hv_19
      refine jj_icmp_ge (tgt := 77) C dX10_placeInRanking_29 (by decide) (fun c_22 => ?_) (fun c_22 => ?_)
      · have z_c_22 := jc_le (a := (x_21).toInt) (b := (x_15).toInt) c_22 rfl rfl
        refine jj_iload C dX10_placeInRanking_77 rfl ?_
        exact jj_iret C ⟨[], pl, rfl, rfl, hok, hfr, ⟨x_16, (by first | omega | exact tt_lo _ | exact tt_hi _), (by first | omega | exact tt_lo _ | exact tt_hi _), rfl⟩⟩ dX10_placeInRanking_79 (jj_le rfl) (jj_le rfl)
      · have z_c_22 := jc_nle (a := (x_21).toInt) (b := (x_15).toInt) c_22 rfl rfl
        refine jj_aload_n C dX10_placeInRanking_32 rfl ?_
        refine tt_getF C hok jk_11 5 (by decide) jw_71 (t := (2, 9, 0)) hk0 (by decide) rfl rfl hf_17 dX10_placeInRanking_33 ?_
        refine jj_aload_n C dX10_placeInRanking_36 rfl ?_
        refine tt_getF C hok jk_11 3 (by decide) jw_2 (t := (2, 1, 0)) hk0 (by decide) rfl rfl hf_18 dX10_placeInRanking_37 ?_
        refine jj_iload C dX10_placeInRanking_40 rfl ?_
        refine jj_iconst (v := 0) C dX10_placeInRanking_42 (by decide) ?_
        obtain ⟨qc, gs, hqc⟩ := tt_recv (cx := []) hok ka_3 (by decide) rfl
        refine tt_callV (rest := []) C (tc_X1_payAfterRate_15 hl D cA ak a_3 a_6 x_15 ka_3 ka_6 hok) [] [] rfl rfl (by decide) (by decide) (by decide) qc hqc rfl rfl jw_437 jw_440 jw_441 jw_74 jw_438 jn_X1_payAfterRate rfl (jj_le rfl) (jj_le rfl) (jj_le rfl) (jj_le rfl) (jj_le rfl) dX10_placeInRanking_43 rfl (fun _ _ _ hX => hX.elim) (fun rx pl_23 r O_26 => ?_)
        obtain ⟨rfl, hok_24, hr_25, hR_28⟩ := O_26
        replace hf_17 := hr_25.at hk0 (by decide) (by decide) hf_17
        replace hf_18 := hr_25.at hk0 (by decide) (by decide) hf_18
        replace hf_20 := hr_25.at ka_6 (by decide) (by decide) hf_20
        replace hfr := hfr.trans (hr_25.sub (by decide))
        obtain ⟨y_29, rfl⟩ := hR_28
        refine jj_lstore C dX10_placeInRanking_46 (by decide) rfl ?_
        refine jj_lload C dX10_placeInRanking_48 rfl ?_
        refine jj_lload_n C dX10_placeInRanking_50 rfl ?_
        refine jj_lcmp_gt (tgt := 68) C dX10_placeInRanking_51 dX10_placeInRanking_52 (by decide) (fun c_30 => ?_) (fun c_30 => ?_)
        · obtain ⟨x_31, ex_31⟩ : ∃ z : Int32, x_16 + Int32.ofInt 1 = z := ⟨_, rfl⟩
          refine jj_iinc (v := x_31) C dX10_placeInRanking_68 rfl ex_31 (by decide) rfl ?_
          obtain ⟨x_32, ex_32, vx_32⟩ := tt_inc (x := x_15) (n := 1) (by omega) (by omega)
          refine jj_iinc (v := x_32) C dX10_placeInRanking_71 rfl ex_32 (by decide) rfl ?_
          refine jj_goto (tgt := 20) C dX10_placeInRanking_74 (by decide) ?_
          refine jj_loc [0, 1, 3, 4, 5] rfl ?_
          exact ihL_14 pl_23 x_32 x_31 hok_24 hfr hf_17 hf_18 (by first | omega | decide | exact tt_lo _ | exact tt_hi _) (by first | omega | decide | exact tt_lo _ | exact tt_hi _) (by first | omega | decide | exact tt_lo _ | exact tt_hi _) (by first | omega | decide | exact tt_lo _ | exact tt_hi _) (by first | omega | decide | exact tt_lo _ | exact tt_hi _)
        · refine jj_lload C dX10_placeInRanking_55 rfl ?_
          refine jj_lload_n C dX10_placeInRanking_57 rfl ?_
          refine jj_lcmp_ne (tgt := 71) C dX10_placeInRanking_58 dX10_placeInRanking_59 (by decide) (fun c_33 => ?_) (fun c_33 => ?_)
          · obtain ⟨x_34, ex_34, vx_34⟩ := tt_inc (x := x_15) (n := 1) (by omega) (by omega)
            refine jj_iinc (v := x_34) C dX10_placeInRanking_71 rfl ex_34 (by decide) rfl ?_
            refine jj_goto (tgt := 20) C dX10_placeInRanking_74 (by decide) ?_
            refine jj_loc [0, 2, 3, 4, 5] rfl ?_
            exact ihL_14 pl_23 x_34 x_16 hok_24 hfr hf_17 hf_18 (by first | omega | decide | exact tt_lo _ | exact tt_hi _) (by first | omega | decide | exact tt_lo _ | exact tt_hi _) (by first | omega | decide | exact tt_lo _ | exact tt_hi _) (by first | omega | decide | exact tt_lo _ | exact tt_hi _) (by first | omega | decide | exact tt_lo _ | exact tt_hi _)
          · refine jj_iload C dX10_placeInRanking_62 rfl ?_
            refine jj_iload_n C dX10_placeInRanking_64 rfl ?_
            refine jj_icmp_ge (tgt := 71) C dX10_placeInRanking_65 (by decide) (fun c_35 => ?_) (fun c_35 => ?_)
            · have z_c_35 := jc_le (a := (p1).toInt) (b := (x_15).toInt) c_35 rfl rfl
              obtain ⟨x_36, ex_36, vx_36⟩ := tt_inc (x := x_15) (n := 1) (by omega) (by omega)
              refine jj_iinc (v := x_36) C dX10_placeInRanking_71 rfl ex_36 (by decide) rfl ?_
              refine jj_goto (tgt := 20) C dX10_placeInRanking_74 (by decide) ?_
              refine jj_loc [0, 2, 3, 4, 5] rfl ?_
              exact ihL_14 pl_23 x_36 x_16 hok_24 hfr hf_17 hf_18 (by first | omega | decide | exact tt_lo _ | exact tt_hi _) (by first | omega | decide | exact tt_lo _ | exact tt_hi _) (by first | omega | decide | exact tt_lo _ | exact tt_hi _) (by first | omega | decide | exact tt_lo _ | exact tt_hi _) (by first | omega | decide | exact tt_lo _ | exact tt_hi _)
            · have z_c_35 := jc_nle (a := (p1).toInt) (b := (x_15).toInt) c_35 rfl rfl
              obtain ⟨x_37, ex_37⟩ : ∃ z : Int32, x_16 + Int32.ofInt 1 = z := ⟨_, rfl⟩
              refine jj_iinc (v := x_37) C dX10_placeInRanking_68 rfl ex_37 (by decide) rfl ?_
              obtain ⟨x_38, ex_38, vx_38⟩ := tt_inc (x := x_15) (n := 1) (by omega) (by omega)
              refine jj_iinc (v := x_38) C dX10_placeInRanking_71 rfl ex_38 (by decide) rfl ?_
              refine jj_goto (tgt := 20) C dX10_placeInRanking_74 (by decide) ?_
              refine jj_loc [0, 1, 3, 4, 5] rfl ?_
              exact ihL_14 pl_23 x_38 x_37 hok_24 hfr hf_17 hf_18 (by first | omega | decide | exact tt_lo _ | exact tt_hi _) (by first | omega | decide | exact tt_lo _ | exact tt_hi _) (by first | omega | decide | exact tt_lo _ | exact tt_hi _) (by first | omega | decide | exact tt_lo _ | exact tt_hi _) (by first | omega | decide | exact tt_lo _ | exact tt_hi _)
  exact hL_14 _ pl_7 (0 : Int32) (0 : Int32) trivial hok_8 hfr hf_2 hf_5 (by first | omega | decide | exact tt_lo _ | exact tt_hi _) (by first | omega | decide | exact tt_lo _ | exact tt_hi _) (by first | omega | decide | exact tt_lo _ | exact tt_hi _) (by first | omega | decide | exact tt_lo _ | exact tt_hi _) (Int.self_le_toNat _)

set_option maxHeartbeats 4000000 in
set_option maxRecDepth 100000 in
theorem tc_X10_placeInRanking_8 {l : Launch} (hl : l.stackTraces = false) (D : va_G) (cA : Nat → ClassId) (ak : (Nat → Nat) × (Nat → Nat)) {Kd : Nat → Nat} (h0 : Nat) (p1 : Int32) (hk0 : Kd h0 = 15) (lp1 : (0 : Int) ≤ p1.toInt) (up1 : p1.toInt ≤ 12) {pl0 : va_W} (hok : tt_ok tt_tk cA Kd pl0) : jj_M l D cA ak yX10_placeInRanking (.code yX10_placeInRanking cX10_placeInRanking 8 (some .int)) 4 111 0 0 ([] ++ pl0) [.ref h0, .int p1] (tt_O (fun rx pl1 r => rx = [] ∧ tt_ok tt_tk cA Kd pl1 ∧ tt_fr Kd [(2, 0), (2, 1), (2, 2), (2, 3), (2, 4), (9, 1), (9, 2), (9, 3), (9, 4), (9, 5)] pl0 pl1 ∧ ((∃ v : Int32, (-2147483648 : Int) ≤ v.toInt ∧ v.toInt ≤ 2147483647 ∧ r = some (.int v))))) (tt_OX (fun _ _ _ => False)) := by
  refine jj_start hl (by decide) jw_479 (jj_le rfl) ?_
  intro p e s m args below meth c A hargs hA C hex hmn
  have hfr := tt_fr.refl (K := Kd) (WS := [(2, 0), (2, 1), (2, 2), (2, 3), (2, 4), (9, 1), (9, 2), (9, 3), (9, 4), (9, 5)]) pl0
  refine jj_aload_n C dX10_placeInRanking_0 rfl ?_
  refine tt_get C hok jk_11 5 (by decide) jw_71 (t := (2, 9, 0)) hk0 (by decide) rfl rfl dX10_placeInRanking_1 (fun v_1 hv_1 hf_2 => ?_)
  obtain ⟨a_3, rfl, ka_3⟩ := tt_vr hv_1
  refine jj_aload_n C dX10_placeInRanking_4 rfl ?_
  refine tt_get C hok jk_11 3 (by decide) jw_2 (t := (2, 1, 0)) hk0 (by decide) rfl rfl dX10_placeInRanking_5 (fun v_4 hv_4 hf_5 => ?_)
  obtain ⟨a_6, rfl, ka_6⟩ := tt_vr hv_4
  refine jj_iload_n C dX10_placeInRanking_8 rfl ?_
  refine jj_iconst (v := 0) C dX10_placeInRanking_9 (by decide) ?_
  obtain ⟨qc, gs, hqc⟩ := tt_recv (cx := []) hok ka_3 (by decide) rfl
  refine tt_callV (rest := []) C (tc_X1_payAfterRate_9 hl D cA ak a_3 a_6 p1 ka_3 ka_6 (by omega) (by omega) hok) [] [] rfl rfl (by decide) (by decide) (by decide) qc hqc rfl rfl jw_437 jw_440 jw_441 jw_74 jw_438 jn_X1_payAfterRate rfl (jj_le rfl) (jj_le rfl) (jj_le rfl) (jj_le rfl) (jj_le rfl) dX10_placeInRanking_10 rfl (fun _ _ _ hX => hX.elim) (fun rx pl_7 r O_10 => ?_)
  obtain ⟨rfl, hok_8, hr_9, hR_12⟩ := O_10
  replace hf_2 := hr_9.at hk0 (by decide) (by decide) hf_2
  replace hf_5 := hr_9.at hk0 (by decide) (by decide) hf_5
  replace hfr := hfr.trans (hr_9.sub (by decide))
  obtain ⟨y_13, rfl⟩ := hR_12
  refine jj_lstore_n C dX10_placeInRanking_13 (by decide) rfl ?_
  refine jj_iconst (v := 0) C dX10_placeInRanking_14 (by decide) ?_
  refine jj_istore C dX10_placeInRanking_15 (by decide) rfl ?_
  refine jj_iconst (v := 0) C dX10_placeInRanking_17 (by decide) ?_
  refine jj_istore C dX10_placeInRanking_18 (by decide) rfl ?_
  have hL_14 : ∀ (N : Nat) (pl : va_W) (x_15 : Int32) (x_16 : Int32), True → tt_ok tt_tk cA Kd pl → tt_fr Kd [(2, 0), (2, 1), (2, 2), (2, 3), (2, 4), (9, 1), (9, 2), (9, 3), (9, 4), (9, 5)] pl0 pl → tt_at pl h0 5 (.ref a_3) → tt_at pl h0 3 (.ref a_6) → (0 : Int) ≤ x_15.toInt → x_15.toInt ≤ 2147483647 → (-2147483648 : Int) ≤ x_16.toInt → x_16.toInt ≤ 2147483647 → (2147483648 - x_15.toInt ≤ (N : Int)) → jj_J p l e (jj_rm 4 111 0 0) s m args below meth c 8 A (vx_MQ below (jj_q D A (tt_O (fun rx pl1 r => rx = [] ∧ tt_ok tt_tk cA Kd pl1 ∧ tt_fr Kd [(2, 0), (2, 1), (2, 2), (2, 3), (2, 4), (9, 1), (9, 2), (9, 3), (9, 4), (9, 5)] pl0 pl1 ∧ ((∃ v : Int32, (-2147483648 : Int) ≤ v.toInt ∧ v.toInt ≤ 2147483647 ∧ r = some (.int v)))))) (jj_x D A (tt_OX (fun _ _ _ => False))) args s 0 0 A) (jj_X D A ([] ++ pl)) 0 0 20 [(5, .int x_15), (4, .int x_16), (2, .long y_13), (0, .ref h0), (1, .int p1)] [] := by
    intro NL_14
    induction NL_14 with
    | zero => intro pl x_15 x_16 _ hok hfr hf_17 hf_18 lx_15 ux_15 lx_16 ux_16 hNL_14; exfalso; omega
    | succ NL_14 ihL_14 =>
      intro pl x_15 x_16 _ hok hfr hf_17 hf_18 lx_15 ux_15 lx_16 ux_16 hNL_14
      replace ihL_14 := fun pl x_15 x_16 h1 => ihL_14 pl x_15 x_16 trivial h1
      refine jj_iload C dX10_placeInRanking_20 rfl ?_
      refine jj_aload_n C dX10_placeInRanking_22 rfl ?_
      refine tt_getF C hok jk_11 3 (by decide) jw_2 (t := (2, 1, 0)) hk0 (by decide) rfl rfl hf_18 dX10_placeInRanking_23 ?_
      refine tt_get C hok jk_2 0 (by decide) jw_306 (t := (0, (-2147483648), 2147483647)) ka_6 (by decide) rfl rfl dX10_placeInRanking_26 (fun v_19 hv_19 hf_20 => ?_)
      obtain ⟨x_21, rfl, lx_21, ux_21⟩ := tt_vi hv_19
      refine jj_icmp_ge (tgt := 77) C dX10_placeInRanking_29 (by decide) (fun c_22 => ?_) (fun c_22 => ?_)
      · have z_c_22 := jc_le (a := (x_21).toInt) (b := (x_15).toInt) c_22 rfl rfl
        refine jj_iload C dX10_placeInRanking_77 rfl ?_
        exact jj_iret C ⟨[], pl, rfl, rfl, hok, hfr, ⟨x_16, (by first | omega | exact tt_lo _ | exact tt_hi _), (by first | omega | exact tt_lo _ | exact tt_hi _), rfl⟩⟩ dX10_placeInRanking_79 (jj_le rfl) (jj_le rfl)
      · have z_c_22 := jc_nle (a := (x_21).toInt) (b := (x_15).toInt) c_22 rfl rfl
        refine jj_aload_n C dX10_placeInRanking_32 rfl ?_
        refine tt_getF C hok jk_11 5 (by decide) jw_71 (t := (2, 9, 0)) hk0 (by decide) rfl rfl hf_17 dX10_placeInRanking_33 ?_
        refine jj_aload_n C dX10_placeInRanking_36 rfl ?_
        refine tt_getF C hok jk_11 3 (by decide) jw_2 (t := (2, 1, 0)) hk0 (by decide) rfl rfl hf_18 dX10_placeInRanking_37 ?_
        refine jj_iload C dX10_placeInRanking_40 rfl ?_
        refine jj_iconst (v := 0) C dX10_placeInRanking_42 (by decide) ?_
        obtain ⟨qc, gs, hqc⟩ := tt_recv (cx := []) hok ka_3 (by decide) rfl
        refine tt_callV (rest := []) C (tc_X1_payAfterRate_15 hl D cA ak a_3 a_6 x_15 ka_3 ka_6 hok) [] [] rfl rfl (by decide) (by decide) (by decide) qc hqc rfl rfl jw_437 jw_440 jw_441 jw_74 jw_438 jn_X1_payAfterRate rfl (jj_le rfl) (jj_le rfl) (jj_le rfl) (jj_le rfl) (jj_le rfl) dX10_placeInRanking_43 rfl (fun _ _ _ hX => hX.elim) (fun rx pl_23 r O_26 => ?_)
        obtain ⟨rfl, hok_24, hr_25, hR_28⟩ := O_26
        replace hf_17 := hr_25.at hk0 (by decide) (by decide) hf_17
        replace hf_18 := hr_25.at hk0 (by decide) (by decide) hf_18
        replace hf_20 := hr_25.at ka_6 (by decide) (by decide) hf_20
        replace hfr := hfr.trans (hr_25.sub (by decide))
        obtain ⟨y_29, rfl⟩ := hR_28
        refine jj_lstore C dX10_placeInRanking_46 (by decide) rfl ?_
        refine jj_lload C dX10_placeInRanking_48 rfl ?_
        refine jj_lload_n C dX10_placeInRanking_50 rfl ?_
        refine jj_lcmp_gt (tgt := 68) C dX10_placeInRanking_51 dX10_placeInRanking_52 (by decide) (fun c_30 => ?_) (fun c_30 => ?_)
        · obtain ⟨x_31, ex_31⟩ : ∃ z : Int32, x_16 + Int32.ofInt 1 = z := ⟨_, rfl⟩
          refine jj_iinc (v := x_31) C dX10_placeInRanking_68 rfl ex_31 (by decide) rfl ?_
          obtain ⟨x_32, ex_32, vx_32⟩ := tt_inc (x := x_15) (n := 1) (by omega) (by omega)
          refine jj_iinc (v := x_32) C dX10_placeInRanking_71 rfl ex_32 (by decide) rfl ?_
          refine jj_goto (tgt := 20) C dX10_placeInRanking_74 (by decide) ?_
          refine jj_loc [0, 1, 3, 4, 5] rfl ?_
          exact ihL_14 pl_23 x_32 x_31 hok_24 hfr hf_17 hf_18 (by first | omega | decide | exact tt_lo _ | exact tt_hi _) (by first | omega | decide | exact tt_lo _ | exact tt_hi _) (by first | omega | decide | exact tt_lo _ | exact tt_hi _) (by first | omega | decide | exact tt_lo _ | exact tt_hi _) (by first | omega | decide | exact tt_lo _ | exact tt_hi _)
        · refine jj_lload C dX10_placeInRanking_55 rfl ?_
          refine jj_lload_n C dX10_placeInRanking_57 rfl ?_
          refine jj_lcmp_ne (tgt := 71) C dX10_placeInRanking_58 dX10_placeInRanking_59 (by decide) (fun c_33 => ?_) (fun c_33 => ?_)
          · obtain ⟨x_34, ex_34, vx_34⟩ := tt_inc (x := x_15) (n := 1) (by omega) (by omega)
            refine jj_iinc (v := x_34) C dX10_placeInRanking_71 rfl ex_34 (by decide) rfl ?_
            refine jj_goto (tgt := 20) C dX10_placeInRanking_74 (by decide) ?_
            refine jj_loc [0, 2, 3, 4, 5] rfl ?_
            exact ihL_14 pl_23 x_34 x_16 hok_24 hfr hf_17 hf_18 (by first | omega | decide | exact tt_lo _ | exact tt_hi _) (by first | omega | decide | exact tt_lo _ | exact tt_hi _) (by first | omega | decide | exact tt_lo _ | exact tt_hi _) (by first | omega | decide | exact tt_lo _ | exact tt_hi _) (by first | omega | decide | exact tt_lo _ | exact tt_hi _)
          · refine jj_iload C dX10_placeInRanking_62 rfl ?_
            refine jj_iload_n C dX10_placeInRanking_64 rfl ?_
            refine jj_icmp_ge (tgt := 71) C dX10_placeInRanking_65 (by decide) (fun c_35 => ?_) (fun c_35 => ?_)
            · have z_c_35 := jc_le (a := (p1).toInt) (b := (x_15).toInt) c_35 rfl rfl
              obtain ⟨x_36, ex_36, vx_36⟩ := tt_inc (x := x_15) (n := 1) (by omega) (by omega)
              refine jj_iinc (v := x_36) C dX10_placeInRanking_71 rfl ex_36 (by decide) rfl ?_
              refine jj_goto (tgt := 20) C dX10_placeInRanking_74 (by decide) ?_
              refine jj_loc [0, 2, 3, 4, 5] rfl ?_
              exact ihL_14 pl_23 x_36 x_16 hok_24 hfr hf_17 hf_18 (by first | omega | decide | exact tt_lo _ | exact tt_hi _) (by first | omega | decide | exact tt_lo _ | exact tt_hi _) (by first | omega | decide | exact tt_lo _ | exact tt_hi _) (by first | omega | decide | exact tt_lo _ | exact tt_hi _) (by first | omega | decide | exact tt_lo _ | exact tt_hi _)
            · have z_c_35 := jc_nle (a := (p1).toInt) (b := (x_15).toInt) c_35 rfl rfl
              obtain ⟨x_37, ex_37⟩ : ∃ z : Int32, x_16 + Int32.ofInt 1 = z := ⟨_, rfl⟩
              refine jj_iinc (v := x_37) C dX10_placeInRanking_68 rfl ex_37 (by decide) rfl ?_
              obtain ⟨x_38, ex_38, vx_38⟩ := tt_inc (x := x_15) (n := 1) (by omega) (by omega)
              refine jj_iinc (v := x_38) C dX10_placeInRanking_71 rfl ex_38 (by decide) rfl ?_
              refine jj_goto (tgt := 20) C dX10_placeInRanking_74 (by decide) ?_
              refine jj_loc [0, 1, 3, 4, 5] rfl ?_
              exact ihL_14 pl_23 x_38 x_37 hok_24 hfr hf_17 hf_18 (by first | omega | decide | exact tt_lo _ | exact tt_hi _) (by first | omega | decide | exact tt_lo _ | exact tt_hi _) (by first | omega | decide | exact tt_lo _ | exact tt_hi _) (by first | omega | decide | exact tt_lo _ | exact tt_hi _) (by first | omega | decide | exact tt_lo _ | exact tt_hi _)
  exact hL_14 _ pl_7 (0 : Int32) (0 : Int32) trivial hok_8 hfr hf_2 hf_5 (by first | omega | decide | exact tt_lo _ | exact tt_hi _) (by first | omega | decide | exact tt_lo _ | exact tt_hi _) (by first | omega | decide | exact tt_lo _ | exact tt_hi _) (by first | omega | decide | exact tt_lo _ | exact tt_hi _) (Int.self_le_toNat _)

set_option maxHeartbeats 4000000 in
set_option maxRecDepth 100000 in
theorem tc_X10_placeInRanking_9 {l : Launch} (hl : l.stackTraces = false) (D : va_G) (cA : Nat → ClassId) (ak : (Nat → Nat) × (Nat → Nat)) {Kd : Nat → Nat} (h0 : Nat) (p1 : Int32) (hk0 : Kd h0 = 15) (lp1 : (0 : Int) ≤ p1.toInt) (up1 : p1.toInt ≤ 20) {pl0 : va_W} (hok : tt_ok tt_tk cA Kd pl0) : jj_M l D cA ak yX10_placeInRanking (.code yX10_placeInRanking cX10_placeInRanking 8 (some .int)) 4 111 0 0 ([] ++ pl0) [.ref h0, .int p1] (tt_O (fun rx pl1 r => rx = [] ∧ tt_ok tt_tk cA Kd pl1 ∧ tt_fr Kd [(2, 0), (2, 1), (2, 2), (2, 3), (2, 4), (9, 1), (9, 2), (9, 3), (9, 4), (9, 5)] pl0 pl1 ∧ ((∃ v : Int32, (-2147483648 : Int) ≤ v.toInt ∧ v.toInt ≤ 2147483647 ∧ r = some (.int v))))) (tt_OX (fun _ _ _ => False)) := by
  refine jj_start hl (by decide) jw_479 (jj_le rfl) ?_
  intro p e s m args below meth c A hargs hA C hex hmn
  have hfr := tt_fr.refl (K := Kd) (WS := [(2, 0), (2, 1), (2, 2), (2, 3), (2, 4), (9, 1), (9, 2), (9, 3), (9, 4), (9, 5)]) pl0
  refine jj_aload_n C dX10_placeInRanking_0 rfl ?_
  refine tt_get C hok jk_11 5 (by decide) jw_71 (t := (2, 9, 0)) hk0 (by decide) rfl rfl dX10_placeInRanking_1 (fun v_1 hv_1 hf_2 => ?_)
  obtain ⟨a_3, rfl, ka_3⟩ := tt_vr hv_1
  refine jj_aload_n C dX10_placeInRanking_4 rfl ?_
  refine tt_get C hok jk_11 3 (by decide) jw_2 (t := (2, 1, 0)) hk0 (by decide) rfl rfl dX10_placeInRanking_5 (fun v_4 hv_4 hf_5 => ?_)
  obtain ⟨a_6, rfl, ka_6⟩ := tt_vr hv_4
  refine jj_iload_n C dX10_placeInRanking_8 rfl ?_
  refine jj_iconst (v := 0) C dX10_placeInRanking_9 (by decide) ?_
  obtain ⟨qc, gs, hqc⟩ := tt_recv (cx := []) hok ka_3 (by decide) rfl
  refine tt_callV (rest := []) C (tc_X1_payAfterRate_10 hl D cA ak a_3 a_6 p1 ka_3 ka_6 (by omega) (by omega) hok) [] [] rfl rfl (by decide) (by decide) (by decide) qc hqc rfl rfl jw_437 jw_440 jw_441 jw_74 jw_438 jn_X1_payAfterRate rfl (jj_le rfl) (jj_le rfl) (jj_le rfl) (jj_le rfl) (jj_le rfl) dX10_placeInRanking_10 rfl (fun _ _ _ hX => hX.elim) (fun rx pl_7 r O_10 => ?_)
  obtain ⟨rfl, hok_8, hr_9, hR_12⟩ := O_10
  replace hf_2 := hr_9.at hk0 (by decide) (by decide) hf_2
  replace hf_5 := hr_9.at hk0 (by decide) (by decide) hf_5
  replace hfr := hfr.trans (hr_9.sub (by decide))
  obtain ⟨y_13, rfl⟩ := hR_12
  refine jj_lstore_n C dX10_placeInRanking_13 (by decide) rfl ?_
  refine jj_iconst (v := 0) C dX10_placeInRanking_14 (by decide) ?_
  refine jj_istore C dX10_placeInRanking_15 (by decide) rfl ?_
  refine jj_iconst (v := 0) C dX10_placeInRanking_17 (by decide) ?_
  refine jj_istore C dX10_placeInRanking_18 (by decide) rfl ?_
  have hL_14 : ∀ (N : Nat) (pl : va_W) (x_15 : Int32) (x_16 : Int32), True → tt_ok tt_tk cA Kd pl → tt_fr Kd [(2, 0), (2, 1), (2, 2), (2, 3), (2, 4), (9, 1), (9, 2), (9, 3), (9, 4), (9, 5)] pl0 pl → tt_at pl h0 5 (.ref a_3) → tt_at pl h0 3 (.ref a_6) → (0 : Int) ≤ x_15.toInt → x_15.toInt ≤ 2147483647 → (-2147483648 : Int) ≤ x_16.toInt → x_16.toInt ≤ 2147483647 → (2147483648 - x_15.toInt ≤ (N : Int)) → jj_J p l e (jj_rm 4 111 0 0) s m args below meth c 8 A (vx_MQ below (jj_q D A (tt_O (fun rx pl1 r => rx = [] ∧ tt_ok tt_tk cA Kd pl1 ∧ tt_fr Kd [(2, 0), (2, 1), (2, 2), (2, 3), (2, 4), (9, 1), (9, 2), (9, 3), (9, 4), (9, 5)] pl0 pl1 ∧ ((∃ v : Int32, (-2147483648 : Int) ≤ v.toInt ∧ v.toInt ≤ 2147483647 ∧ r = some (.int v)))))) (jj_x D A (tt_OX (fun _ _ _ => False))) args s 0 0 A) (jj_X D A ([] ++ pl)) 0 0 20 [(5, .int x_15), (4, .int x_16), (2, .long y_13), (0, .ref h0), (1, .int p1)] [] := by
    intro NL_14
    induction NL_14 with
    | zero => intro pl x_15 x_16 _ hok hfr hf_17 hf_18 lx_15 ux_15 lx_16 ux_16 hNL_14; exfalso; omega
    | succ NL_14 ihL_14 =>
      intro pl x_15 x_16 _ hok hfr hf_17 hf_18 lx_15 ux_15 lx_16 ux_16 hNL_14
      replace ihL_14 := fun pl x_15 x_16 h1 => ihL_14 pl x_15 x_16 trivial h1
      refine jj_iload C dX10_placeInRanking_20 rfl ?_
      refine jj_aload_n C dX10_placeInRanking_22 rfl ?_
      refine tt_getF C hok jk_11 3 (by decide) jw_2 (t := (2, 1, 0)) hk0 (by decide) rfl rfl hf_18 dX10_placeInRanking_23 ?_
      refine tt_get C hok jk_2 0 (by decide) jw_306 (t := (0, (-2147483648), 2147483647)) ka_6 (by decide) rfl rfl dX10_placeInRanking_26 (fun v_19 hv_19 hf_20 => ?_)
      obtain ⟨x_21, rfl, lx_21, ux_21⟩ := tt_vi hv_19
      refine jj_icmp_ge (tgt := 77) C dX10_placeInRanking_29 (by decide) (fun c_22 => ?_) (fun c_22 => ?_)
      · have z_c_22 := jc_le (a := (x_21).toInt) (b := (x_15).toInt) c_22 rfl rfl
        refine jj_iload C dX10_placeInRanking_77 rfl ?_
        exact jj_iret C ⟨[], pl, rfl, rfl, hok, hfr, ⟨x_16, (by first | omega | exact tt_lo _ | exact tt_hi _), (by first | omega | exact tt_lo _ | exact tt_hi _), rfl⟩⟩ dX10_placeInRanking_79 (jj_le rfl) (jj_le rfl)
      · have z_c_22 := jc_nle (a := (x_21).toInt) (b := (x_15).toInt) c_22 rfl rfl
        refine jj_aload_n C dX10_placeInRanking_32 rfl ?_
        refine tt_getF C hok jk_11 5 (by decide) jw_71 (t := (2, 9, 0)) hk0 (by decide) rfl rfl hf_17 dX10_placeInRanking_33 ?_
        refine jj_aload_n C dX10_placeInRanking_36 rfl ?_
        refine tt_getF C hok jk_11 3 (by decide) jw_2 (t := (2, 1, 0)) hk0 (by decide) rfl rfl hf_18 dX10_placeInRanking_37 ?_
        refine jj_iload C dX10_placeInRanking_40 rfl ?_
        refine jj_iconst (v := 0) C dX10_placeInRanking_42 (by decide) ?_
        obtain ⟨qc, gs, hqc⟩ := tt_recv (cx := []) hok ka_3 (by decide) rfl
        refine tt_callV (rest := []) C (tc_X1_payAfterRate_15 hl D cA ak a_3 a_6 x_15 ka_3 ka_6 hok) [] [] rfl rfl (by decide) (by decide) (by decide) qc hqc rfl rfl jw_437 jw_440 jw_441 jw_74 jw_438 jn_X1_payAfterRate rfl (jj_le rfl) (jj_le rfl) (jj_le rfl) (jj_le rfl) (jj_le rfl) dX10_placeInRanking_43 rfl (fun _ _ _ hX => hX.elim) (fun rx pl_23 r O_26 => ?_)
        obtain ⟨rfl, hok_24, hr_25, hR_28⟩ := O_26
        replace hf_17 := hr_25.at hk0 (by decide) (by decide) hf_17
        replace hf_18 := hr_25.at hk0 (by decide) (by decide) hf_18
        replace hf_20 := hr_25.at ka_6 (by decide) (by decide) hf_20
        replace hfr := hfr.trans (hr_25.sub (by decide))
        obtain ⟨y_29, rfl⟩ := hR_28
        refine jj_lstore C dX10_placeInRanking_46 (by decide) rfl ?_
        refine jj_lload C dX10_placeInRanking_48 rfl ?_
        refine jj_lload_n C dX10_placeInRanking_50 rfl ?_
        refine jj_lcmp_gt (tgt := 68) C dX10_placeInRanking_51 dX10_placeInRanking_52 (by decide) (fun c_30 => ?_) (fun c_30 => ?_)
        · obtain ⟨x_31, ex_31⟩ : ∃ z : Int32, x_16 + Int32.ofInt 1 = z := ⟨_, rfl⟩
          refine jj_iinc (v := x_31) C dX10_placeInRanking_68 rfl ex_31 (by decide) rfl ?_
          obtain ⟨x_32, ex_32, vx_32⟩ := tt_inc (x := x_15) (n := 1) (by omega) (by omega)
          refine jj_iinc (v := x_32) C dX10_placeInRanking_71 rfl ex_32 (by decide) rfl ?_
          refine jj_goto (tgt := 20) C dX10_placeInRanking_74 (by decide) ?_
          refine jj_loc [0, 1, 3, 4, 5] rfl ?_
          exact ihL_14 pl_23 x_32 x_31 hok_24 hfr hf_17 hf_18 (by first | omega | decide | exact tt_lo _ | exact tt_hi _) (by first | omega | decide | exact tt_lo _ | exact tt_hi _) (by first | omega | decide | exact tt_lo _ | exact tt_hi _) (by first | omega | decide | exact tt_lo _ | exact tt_hi _) (by first | omega | decide | exact tt_lo _ | exact tt_hi _)
        · refine jj_lload C dX10_placeInRanking_55 rfl ?_
          refine jj_lload_n C dX10_placeInRanking_57 rfl ?_
          refine jj_lcmp_ne (tgt := 71) C dX10_placeInRanking_58 dX10_placeInRanking_59 (by decide) (fun c_33 => ?_) (fun c_33 => ?_)
          · obtain ⟨x_34, ex_34, vx_34⟩ := tt_inc (x := x_15) (n := 1) (by omega) (by omega)
            refine jj_iinc (v := x_34) C dX10_placeInRanking_71 rfl ex_34 (by decide) rfl ?_
            refine jj_goto (tgt := 20) C dX10_placeInRanking_74 (by decide) ?_
            refine jj_loc [0, 2, 3, 4, 5] rfl ?_
            exact ihL_14 pl_23 x_34 x_16 hok_24 hfr hf_17 hf_18 (by first | omega | decide | exact tt_lo _ | exact tt_hi _) (by first | omega | decide | exact tt_lo _ | exact tt_hi _) (by first | omega | decide | exact tt_lo _ | exact tt_hi _) (by first | omega | decide | exact tt_lo _ | exact tt_hi _) (by first | omega | decide | exact tt_lo _ | exact tt_hi _)
          · refine jj_iload C dX10_placeInRanking_62 rfl ?_
            refine jj_iload_n C dX10_placeInRanking_64 rfl ?_
            refine jj_icmp_ge (tgt := 71) C dX10_placeInRanking_65 (by decide) (fun c_35 => ?_) (fun c_35 => ?_)
            · have z_c_35 := jc_le (a := (p1).toInt) (b := (x_15).toInt) c_35 rfl rfl
              obtain ⟨x_36, ex_36, vx_36⟩ := tt_inc (x := x_15) (n := 1) (by omega) (by omega)
              refine jj_iinc (v := x_36) C dX10_placeInRanking_71 rfl ex_36 (by decide) rfl ?_
              refine jj_goto (tgt := 20) C dX10_placeInRanking_74 (by decide) ?_
              refine jj_loc [0, 2, 3, 4, 5] rfl ?_
              exact ihL_14 pl_23 x_36 x_16 hok_24 hfr hf_17 hf_18 (by first | omega | decide | exact tt_lo _ | exact tt_hi _) (by first | omega | decide | exact tt_lo _ | exact tt_hi _) (by first | omega | decide | exact tt_lo _ | exact tt_hi _) (by first | omega | decide | exact tt_lo _ | exact tt_hi _) (by first | omega | decide | exact tt_lo _ | exact tt_hi _)
            · have z_c_35 := jc_nle (a := (p1).toInt) (b := (x_15).toInt) c_35 rfl rfl
              obtain ⟨x_37, ex_37⟩ : ∃ z : Int32, x_16 + Int32.ofInt 1 = z := ⟨_, rfl⟩
              refine jj_iinc (v := x_37) C dX10_placeInRanking_68 rfl ex_37 (by decide) rfl ?_
              obtain ⟨x_38, ex_38, vx_38⟩ := tt_inc (x := x_15) (n := 1) (by omega) (by omega)
              refine jj_iinc (v := x_38) C dX10_placeInRanking_71 rfl ex_38 (by decide) rfl ?_
              refine jj_goto (tgt := 20) C dX10_placeInRanking_74 (by decide) ?_
              refine jj_loc [0, 1, 3, 4, 5] rfl ?_
              exact ihL_14 pl_23 x_38 x_37 hok_24 hfr hf_17 hf_18 (by first | omega | decide | exact tt_lo _ | exact tt_hi _) (by first | omega | decide | exact tt_lo _ | exact tt_hi _) (by first | omega | decide | exact tt_lo _ | exact tt_hi _) (by first | omega | decide | exact tt_lo _ | exact tt_hi _) (by first | omega | decide | exact tt_lo _ | exact tt_hi _)
  exact hL_14 _ pl_7 (0 : Int32) (0 : Int32) trivial hok_8 hfr hf_2 hf_5 (by first | omega | decide | exact tt_lo _ | exact tt_hi _) (by first | omega | decide | exact tt_lo _ | exact tt_hi _) (by first | omega | decide | exact tt_lo _ | exact tt_hi _) (by first | omega | decide | exact tt_lo _ | exact tt_hi _) (Int.self_le_toNat _)

set_option maxHeartbeats 4000000 in
set_option maxRecDepth 100000 in
theorem tc_X10_placeInRanking_10 {l : Launch} (hl : l.stackTraces = false) (D : va_G) (cA : Nat → ClassId) (ak : (Nat → Nat) × (Nat → Nat)) {Kd : Nat → Nat} (h0 : Nat) (p1 : Int32) (hk0 : Kd h0 = 15) (lp1 : (0 : Int) ≤ p1.toInt) (up1 : p1.toInt ≤ 40) {pl0 : va_W} (hok : tt_ok tt_tk cA Kd pl0) : jj_M l D cA ak yX10_placeInRanking (.code yX10_placeInRanking cX10_placeInRanking 8 (some .int)) 4 111 0 0 ([] ++ pl0) [.ref h0, .int p1] (tt_O (fun rx pl1 r => rx = [] ∧ tt_ok tt_tk cA Kd pl1 ∧ tt_fr Kd [(2, 0), (2, 1), (2, 2), (2, 3), (2, 4), (9, 1), (9, 2), (9, 3), (9, 4), (9, 5)] pl0 pl1 ∧ ((∃ v : Int32, (-2147483648 : Int) ≤ v.toInt ∧ v.toInt ≤ 2147483647 ∧ r = some (.int v))))) (tt_OX (fun _ _ _ => False)) := by
  refine jj_start hl (by decide) jw_479 (jj_le rfl) ?_
  intro p e s m args below meth c A hargs hA C hex hmn
  have hfr := tt_fr.refl (K := Kd) (WS := [(2, 0), (2, 1), (2, 2), (2, 3), (2, 4), (9, 1), (9, 2), (9, 3), (9, 4), (9, 5)]) pl0
  refine jj_aload_n C dX10_placeInRanking_0 rfl ?_
  refine tt_get C hok jk_11 5 (by decide) jw_71 (t := (2, 9, 0)) hk0 (by decide) rfl rfl dX10_placeInRanking_1 (fun v_1 hv_1 hf_2 => ?_)
  obtain ⟨a_3, rfl, ka_3⟩ := tt_vr hv_1
  refine jj_aload_n C dX10_placeInRanking_4 rfl ?_
  refine tt_get C hok jk_11 3 (by decide) jw_2 (t := (2, 1, 0)) hk0 (by decide) rfl rfl dX10_placeInRanking_5 (fun v_4 hv_4 hf_5 => ?_)
  obtain ⟨a_6, rfl, ka_6⟩ := tt_vr hv_4
  refine jj_iload_n C dX10_placeInRanking_8 rfl ?_
  refine jj_iconst (v := 0) C dX10_placeInRanking_9 (by decide) ?_
  obtain ⟨qc, gs, hqc⟩ := tt_recv (cx := []) hok ka_3 (by decide) rfl
  refine tt_callV (rest := []) C (tc_X1_payAfterRate_11 hl D cA ak a_3 a_6 p1 ka_3 ka_6 (by omega) (by omega) hok) [] [] rfl rfl (by decide) (by decide) (by decide) qc hqc rfl rfl jw_437 jw_440 jw_441 jw_74 jw_438 jn_X1_payAfterRate rfl (jj_le rfl) (jj_le rfl) (jj_le rfl) (jj_le rfl) (jj_le rfl) dX10_placeInRanking_10 rfl (fun _ _ _ hX => hX.elim) (fun rx pl_7 r O_10 => ?_)
  obtain ⟨rfl, hok_8, hr_9, hR_12⟩ := O_10
  replace hf_2 := hr_9.at hk0 (by decide) (by decide) hf_2
  replace hf_5 := hr_9.at hk0 (by decide) (by decide) hf_5
  replace hfr := hfr.trans (hr_9.sub (by decide))
  obtain ⟨y_13, rfl⟩ := hR_12
  refine jj_lstore_n C dX10_placeInRanking_13 (by decide) rfl ?_
  refine jj_iconst (v := 0) C dX10_placeInRanking_14 (by decide) ?_
  refine jj_istore C dX10_placeInRanking_15 (by decide) rfl ?_
  refine jj_iconst (v := 0) C dX10_placeInRanking_17 (by decide) ?_
  refine jj_istore C dX10_placeInRanking_18 (by decide) rfl ?_
  have hL_14 : ∀ (N : Nat) (pl : va_W) (x_15 : Int32) (x_16 : Int32), True → tt_ok tt_tk cA Kd pl → tt_fr Kd [(2, 0), (2, 1), (2, 2), (2, 3), (2, 4), (9, 1), (9, 2), (9, 3), (9, 4), (9, 5)] pl0 pl → tt_at pl h0 5 (.ref a_3) → tt_at pl h0 3 (.ref a_6) → (0 : Int) ≤ x_15.toInt → x_15.toInt ≤ 2147483647 → (-2147483648 : Int) ≤ x_16.toInt → x_16.toInt ≤ 2147483647 → (2147483648 - x_15.toInt ≤ (N : Int)) → jj_J p l e (jj_rm 4 111 0 0) s m args below meth c 8 A (vx_MQ below (jj_q D A (tt_O (fun rx pl1 r => rx = [] ∧ tt_ok tt_tk cA Kd pl1 ∧ tt_fr Kd [(2, 0), (2, 1), (2, 2), (2, 3), (2, 4), (9, 1), (9, 2), (9, 3), (9, 4), (9, 5)] pl0 pl1 ∧ ((∃ v : Int32, (-2147483648 : Int) ≤ v.toInt ∧ v.toInt ≤ 2147483647 ∧ r = some (.int v)))))) (jj_x D A (tt_OX (fun _ _ _ => False))) args s 0 0 A) (jj_X D A ([] ++ pl)) 0 0 20 [(5, .int x_15), (4, .int x_16), (2, .long y_13), (0, .ref h0), (1, .int p1)] [] := by
    intro NL_14
    induction NL_14 with
    | zero => intro pl x_15 x_16 _ hok hfr hf_17 hf_18 lx_15 ux_15 lx_16 ux_16 hNL_14; exfalso; omega
    | succ NL_14 ihL_14 =>
      intro pl x_15 x_16 _ hok hfr hf_17 hf_18 lx_15 ux_15 lx_16 ux_16 hNL_14
      replace ihL_14 := fun pl x_15 x_16 h1 => ihL_14 pl x_15 x_16 trivial h1
      refine jj_iload C dX10_placeInRanking_20 rfl ?_
      refine jj_aload_n C dX10_placeInRanking_22 rfl ?_
      refine tt_getF C hok jk_11 3 (by decide) jw_2 (t := (2, 1, 0)) hk0 (by decide) rfl rfl hf_18 dX10_placeInRanking_23 ?_
      refine tt_get C hok jk_2 0 (by decide) jw_306 (t := (0, (-2147483648), 2147483647)) ka_6 (by decide) rfl rfl dX10_placeInRanking_26 (fun v_19 hv_19 hf_20 => ?_)
      obtain ⟨x_21, rfl, lx_21, ux_21⟩ := tt_vi hv_19
      refine jj_icmp_ge (tgt := 77) C dX10_placeInRanking_29 (by decide) (fun c_22 => ?_) (fun c_22 => ?_)
      · have z_c_22 := jc_le (a := (x_21).toInt) (b := (x_15).toInt) c_22 rfl rfl
        refine jj_iload C dX10_placeInRanking_77 rfl ?_
        exact jj_iret C ⟨[], pl, rfl, rfl, hok, hfr, ⟨x_16, (by first | omega | exact tt_lo _ | exact tt_hi _), (by first | omega | exact tt_lo _ | exact tt_hi _), rfl⟩⟩ dX10_placeInRanking_79 (jj_le rfl) (jj_le rfl)
      · have z_c_22 := jc_nle (a := (x_21).toInt) (b := (x_15).toInt) c_22 rfl rfl
        refine jj_aload_n C dX10_placeInRanking_32 rfl ?_
        refine tt_getF C hok jk_11 5 (by decide) jw_71 (t := (2, 9, 0)) hk0 (by decide) rfl rfl hf_17 dX10_placeInRanking_33 ?_
        refine jj_aload_n C dX10_placeInRanking_36 rfl ?_
        refine tt_getF C hok jk_11 3 (by decide) jw_2 (t := (2, 1, 0)) hk0 (by decide) rfl rfl hf_18 dX10_placeInRanking_37 ?_
        refine jj_iload C dX10_placeInRanking_40 rfl ?_
        refine jj_iconst (v := 0) C dX10_placeInRanking_42 (by decide) ?_
        obtain ⟨qc, gs, hqc⟩ := tt_recv (cx := []) hok ka_3 (by decide) rfl
        refine tt_callV (rest := []) C (tc_X1_payAfterRate_15 hl D cA ak a_3 a_6 x_15 ka_3 ka_6 hok) [] [] rfl rfl (by decide) (by decide) (by decide) qc hqc rfl rfl jw_437 jw_440 jw_441 jw_74 jw_438 jn_X1_payAfterRate rfl (jj_le rfl) (jj_le rfl) (jj_le rfl) (jj_le rfl) (jj_le rfl) dX10_placeInRanking_43 rfl (fun _ _ _ hX => hX.elim) (fun rx pl_23 r O_26 => ?_)
        obtain ⟨rfl, hok_24, hr_25, hR_28⟩ := O_26
        replace hf_17 := hr_25.at hk0 (by decide) (by decide) hf_17
        replace hf_18 := hr_25.at hk0 (by decide) (by decide) hf_18
        replace hf_20 := hr_25.at ka_6 (by decide) (by decide) hf_20
        replace hfr := hfr.trans (hr_25.sub (by decide))
        obtain ⟨y_29, rfl⟩ := hR_28
        refine jj_lstore C dX10_placeInRanking_46 (by decide) rfl ?_
        refine jj_lload C dX10_placeInRanking_48 rfl ?_
        refine jj_lload_n C dX10_placeInRanking_50 rfl ?_
        refine jj_lcmp_gt (tgt := 68) C dX10_placeInRanking_51 dX10_placeInRanking_52 (by decide) (fun c_30 => ?_) (fun c_30 => ?_)
        · obtain ⟨x_31, ex_31⟩ : ∃ z : Int32, x_16 + Int32.ofInt 1 = z := ⟨_, rfl⟩
          refine jj_iinc (v := x_31) C dX10_placeInRanking_68 rfl ex_31 (by decide) rfl ?_
          obtain ⟨x_32, ex_32, vx_32⟩ := tt_inc (x := x_15) (n := 1) (by omega) (by omega)
          refine jj_iinc (v := x_32) C dX10_placeInRanking_71 rfl ex_32 (by decide) rfl ?_
          refine jj_goto (tgt := 20) C dX10_placeInRanking_74 (by decide) ?_
          refine jj_loc [0, 1, 3, 4, 5] rfl ?_
          exact ihL_14 pl_23 x_32 x_31 hok_24 hfr hf_17 hf_18 (by first | omega | decide | exact tt_lo _ | exact tt_hi _) (by first | omega | decide | exact tt_lo _ | exact tt_hi _) (by first | omega | decide | exact tt_lo _ | exact tt_hi _) (by first | omega | decide | exact tt_lo _ | exact tt_hi _) (by first | omega | decide | exact tt_lo _ | exact tt_hi _)
        · refine jj_lload C dX10_placeInRanking_55 rfl ?_
          refine jj_lload_n C dX10_placeInRanking_57 rfl ?_
          refine jj_lcmp_ne (tgt := 71) C dX10_placeInRanking_58 dX10_placeInRanking_59 (by decide) (fun c_33 => ?_) (fun c_33 => ?_)
          · obtain ⟨x_34, ex_34, vx_34⟩ := tt_inc (x := x_15) (n := 1) (by omega) (by omega)
            refine jj_iinc (v := x_34) C dX10_placeInRanking_71 rfl ex_34 (by decide) rfl ?_
            refine jj_goto (tgt := 20) C dX10_placeInRanking_74 (by decide) ?_
            refine jj_loc [0, 2, 3, 4, 5] rfl ?_
            exact ihL_14 pl_23 x_34 x_16 hok_24 hfr hf_17 hf_18 (by first | omega | decide | exact tt_lo _ | exact tt_hi _) (by first | omega | decide | exact tt_lo _ | exact tt_hi _) (by first | omega | decide | exact tt_lo _ | exact tt_hi _) (by first | omega | decide | exact tt_lo _ | exact tt_hi _) (by first | omega | decide | exact tt_lo _ | exact tt_hi _)
          · refine jj_iload C dX10_placeInRanking_62 rfl ?_
            refine jj_iload_n C dX10_placeInRanking_64 rfl ?_
            refine jj_icmp_ge (tgt := 71) C dX10_placeInRanking_65 (by decide) (fun c_35 => ?_) (fun c_35 => ?_)
            · have z_c_35 := jc_le (a := (p1).toInt) (b := (x_15).toInt) c_35 rfl rfl
              obtain ⟨x_36, ex_36, vx_36⟩ := tt_inc (x := x_15) (n := 1) (by omega) (by omega)
              refine jj_iinc (v := x_36) C dX10_placeInRanking_71 rfl ex_36 (by decide) rfl ?_
              refine jj_goto (tgt := 20) C dX10_placeInRanking_74 (by decide) ?_
              refine jj_loc [0, 2, 3, 4, 5] rfl ?_
              exact ihL_14 pl_23 x_36 x_16 hok_24 hfr hf_17 hf_18 (by first | omega | decide | exact tt_lo _ | exact tt_hi _) (by first | omega | decide | exact tt_lo _ | exact tt_hi _) (by first | omega | decide | exact tt_lo _ | exact tt_hi _) (by first | omega | decide | exact tt_lo _ | exact tt_hi _) (by first | omega | decide | exact tt_lo _ | exact tt_hi _)
            · have z_c_35 := jc_nle (a := (p1).toInt) (b := (x_15).toInt) c_35 rfl rfl
              obtain ⟨x_37, ex_37⟩ : ∃ z : Int32, x_16 + Int32.ofInt 1 = z := ⟨_, rfl⟩
              refine jj_iinc (v := x_37) C dX10_placeInRanking_68 rfl ex_37 (by decide) rfl ?_
              obtain ⟨x_38, ex_38, vx_38⟩ := tt_inc (x := x_15) (n := 1) (by omega) (by omega)
              refine jj_iinc (v := x_38) C dX10_placeInRanking_71 rfl ex_38 (by decide) rfl ?_
              refine jj_goto (tgt := 20) C dX10_placeInRanking_74 (by decide) ?_
              refine jj_loc [0, 1, 3, 4, 5] rfl ?_
              exact ihL_14 pl_23 x_38 x_37 hok_24 hfr hf_17 hf_18 (by first | omega | decide | exact tt_lo _ | exact tt_hi _) (by first | omega | decide | exact tt_lo _ | exact tt_hi _) (by first | omega | decide | exact tt_lo _ | exact tt_hi _) (by first | omega | decide | exact tt_lo _ | exact tt_hi _) (by first | omega | decide | exact tt_lo _ | exact tt_hi _)
  exact hL_14 _ pl_7 (0 : Int32) (0 : Int32) trivial hok_8 hfr hf_2 hf_5 (by first | omega | decide | exact tt_lo _ | exact tt_hi _) (by first | omega | decide | exact tt_lo _ | exact tt_hi _) (by first | omega | decide | exact tt_lo _ | exact tt_hi _) (by first | omega | decide | exact tt_lo _ | exact tt_hi _) (Int.self_le_toNat _)

set_option maxHeartbeats 4000000 in
set_option maxRecDepth 100000 in
theorem tc_X10_placeInRanking_11 {l : Launch} (hl : l.stackTraces = false) (D : va_G) (cA : Nat → ClassId) (ak : (Nat → Nat) × (Nat → Nat)) {Kd : Nat → Nat} (h0 : Nat) (p1 : Int32) (hk0 : Kd h0 = 15) (lp1 : (0 : Int) ≤ p1.toInt) (up1 : p1.toInt ≤ 399) {pl0 : va_W} (hok : tt_ok tt_tk cA Kd pl0) : jj_M l D cA ak yX10_placeInRanking (.code yX10_placeInRanking cX10_placeInRanking 8 (some .int)) 4 111 0 0 ([] ++ pl0) [.ref h0, .int p1] (tt_O (fun rx pl1 r => rx = [] ∧ tt_ok tt_tk cA Kd pl1 ∧ tt_fr Kd [(2, 0), (2, 1), (2, 2), (2, 3), (2, 4), (9, 1), (9, 2), (9, 3), (9, 4), (9, 5)] pl0 pl1 ∧ ((∃ v : Int32, (-2147483648 : Int) ≤ v.toInt ∧ v.toInt ≤ 2147483647 ∧ r = some (.int v))))) (tt_OX (fun _ _ _ => False)) := by
  refine jj_start hl (by decide) jw_479 (jj_le rfl) ?_
  intro p e s m args below meth c A hargs hA C hex hmn
  have hfr := tt_fr.refl (K := Kd) (WS := [(2, 0), (2, 1), (2, 2), (2, 3), (2, 4), (9, 1), (9, 2), (9, 3), (9, 4), (9, 5)]) pl0
  refine jj_aload_n C dX10_placeInRanking_0 rfl ?_
  refine tt_get C hok jk_11 5 (by decide) jw_71 (t := (2, 9, 0)) hk0 (by decide) rfl rfl dX10_placeInRanking_1 (fun v_1 hv_1 hf_2 => ?_)
  obtain ⟨a_3, rfl, ka_3⟩ := tt_vr hv_1
  refine jj_aload_n C dX10_placeInRanking_4 rfl ?_
  refine tt_get C hok jk_11 3 (by decide) jw_2 (t := (2, 1, 0)) hk0 (by decide) rfl rfl dX10_placeInRanking_5 (fun v_4 hv_4 hf_5 => ?_)
  obtain ⟨a_6, rfl, ka_6⟩ := tt_vr hv_4
  refine jj_iload_n C dX10_placeInRanking_8 rfl ?_
  refine jj_iconst (v := 0) C dX10_placeInRanking_9 (by decide) ?_
  obtain ⟨qc, gs, hqc⟩ := tt_recv (cx := []) hok ka_3 (by decide) rfl
  refine tt_callV (rest := []) C (tc_X1_payAfterRate_12 hl D cA ak a_3 a_6 p1 ka_3 ka_6 (by omega) (by omega) hok) [] [] rfl rfl (by decide) (by decide) (by decide) qc hqc rfl rfl jw_437 jw_440 jw_441 jw_74 jw_438 jn_X1_payAfterRate rfl (jj_le rfl) (jj_le rfl) (jj_le rfl) (jj_le rfl) (jj_le rfl) dX10_placeInRanking_10 rfl (fun _ _ _ hX => hX.elim) (fun rx pl_7 r O_10 => ?_)
  obtain ⟨rfl, hok_8, hr_9, hR_12⟩ := O_10
  replace hf_2 := hr_9.at hk0 (by decide) (by decide) hf_2
  replace hf_5 := hr_9.at hk0 (by decide) (by decide) hf_5
  replace hfr := hfr.trans (hr_9.sub (by decide))
  obtain ⟨y_13, rfl⟩ := hR_12
  refine jj_lstore_n C dX10_placeInRanking_13 (by decide) rfl ?_
  refine jj_iconst (v := 0) C dX10_placeInRanking_14 (by decide) ?_
  refine jj_istore C dX10_placeInRanking_15 (by decide) rfl ?_
  refine jj_iconst (v := 0) C dX10_placeInRanking_17 (by decide) ?_
  refine jj_istore C dX10_placeInRanking_18 (by decide) rfl ?_
  have hL_14 : ∀ (N : Nat) (pl : va_W) (x_15 : Int32) (x_16 : Int32), True → tt_ok tt_tk cA Kd pl → tt_fr Kd [(2, 0), (2, 1), (2, 2), (2, 3), (2, 4), (9, 1), (9, 2), (9, 3), (9, 4), (9, 5)] pl0 pl → tt_at pl h0 5 (.ref a_3) → tt_at pl h0 3 (.ref a_6) → (0 : Int) ≤ x_15.toInt → x_15.toInt ≤ 2147483647 → (-2147483648 : Int) ≤ x_16.toInt → x_16.toInt ≤ 2147483647 → (2147483648 - x_15.toInt ≤ (N : Int)) → jj_J p l e (jj_rm 4 111 0 0) s m args below meth c 8 A (vx_MQ below (jj_q D A (tt_O (fun rx pl1 r => rx = [] ∧ tt_ok tt_tk cA Kd pl1 ∧ tt_fr Kd [(2, 0), (2, 1), (2, 2), (2, 3), (2, 4), (9, 1), (9, 2), (9, 3), (9, 4), (9, 5)] pl0 pl1 ∧ ((∃ v : Int32, (-2147483648 : Int) ≤ v.toInt ∧ v.toInt ≤ 2147483647 ∧ r = some (.int v)))))) (jj_x D A (tt_OX (fun _ _ _ => False))) args s 0 0 A) (jj_X D A ([] ++ pl)) 0 0 20 [(5, .int x_15), (4, .int x_16), (2, .long y_13), (0, .ref h0), (1, .int p1)] [] := by
    intro NL_14
    induction NL_14 with
    | zero => intro pl x_15 x_16 _ hok hfr hf_17 hf_18 lx_15 ux_15 lx_16 ux_16 hNL_14; exfalso; omega
    | succ NL_14 ihL_14 =>
      intro pl x_15 x_16 _ hok hfr hf_17 hf_18 lx_15 ux_15 lx_16 ux_16 hNL_14
      replace ihL_14 := fun pl x_15 x_16 h1 => ihL_14 pl x_15 x_16 trivial h1
      refine jj_iload C dX10_placeInRanking_20 rfl ?_
      refine jj_aload_n C dX10_placeInRanking_22 rfl ?_
      refine tt_getF C hok jk_11 3 (by decide) jw_2 (t := (2, 1, 0)) hk0 (by decide) rfl rfl hf_18 dX10_placeInRanking_23 ?_
      refine tt_get C hok jk_2 0 (by decide) jw_306 (t := (0, (-2147483648), 2147483647)) ka_6 (by decide) rfl rfl dX10_placeInRanking_26 (fun v_19 hv_19 hf_20 => ?_)
      obtain ⟨x_21, rfl, lx_21, ux_21⟩ := tt_vi hv_19
      refine jj_icmp_ge (tgt := 77) C dX10_placeInRanking_29 (by decide) (fun c_22 => ?_) (fun c_22 => ?_)
      · have z_c_22 := jc_le (a := (x_21).toInt) (b := (x_15).toInt) c_22 rfl rfl
        refine jj_iload C dX10_placeInRanking_77 rfl ?_
        exact jj_iret C ⟨[], pl, rfl, rfl, hok, hfr, ⟨x_16, (by first | omega | exact tt_lo _ | exact tt_hi _), (by first | omega | exact tt_lo _ | exact tt_hi _), rfl⟩⟩ dX10_placeInRanking_79 (jj_le rfl) (jj_le rfl)
      · have z_c_22 := jc_nle (a := (x_21).toInt) (b := (x_15).toInt) c_22 rfl rfl
        refine jj_aload_n C dX10_placeInRanking_32 rfl ?_
        refine tt_getF C hok jk_11 5 (by decide) jw_71 (t := (2, 9, 0)) hk0 (by decide) rfl rfl hf_17 dX10_placeInRanking_33 ?_
        refine jj_aload_n C dX10_placeInRanking_36 rfl ?_
        refine tt_getF C hok jk_11 3 (by decide) jw_2 (t := (2, 1, 0)) hk0 (by decide) rfl rfl hf_18 dX10_placeInRanking_37 ?_
        refine jj_iload C dX10_placeInRanking_40 rfl ?_
        refine jj_iconst (v := 0) C dX10_placeInRanking_42 (by decide) ?_
        obtain ⟨qc, gs, hqc⟩ := tt_recv (cx := []) hok ka_3 (by decide) rfl
        refine tt_callV (rest := []) C (tc_X1_payAfterRate_15 hl D cA ak a_3 a_6 x_15 ka_3 ka_6 hok) [] [] rfl rfl (by decide) (by decide) (by decide) qc hqc rfl rfl jw_437 jw_440 jw_441 jw_74 jw_438 jn_X1_payAfterRate rfl (jj_le rfl) (jj_le rfl) (jj_le rfl) (jj_le rfl) (jj_le rfl) dX10_placeInRanking_43 rfl (fun _ _ _ hX => hX.elim) (fun rx pl_23 r O_26 => ?_)
        obtain ⟨rfl, hok_24, hr_25, hR_28⟩ := O_26
        replace hf_17 := hr_25.at hk0 (by decide) (by decide) hf_17
        replace hf_18 := hr_25.at hk0 (by decide) (by decide) hf_18
        replace hf_20 := hr_25.at ka_6 (by decide) (by decide) hf_20
        replace hfr := hfr.trans (hr_25.sub (by decide))
        obtain ⟨y_29, rfl⟩ := hR_28
        refine jj_lstore C dX10_placeInRanking_46 (by decide) rfl ?_
        refine jj_lload C dX10_placeInRanking_48 rfl ?_
        refine jj_lload_n C dX10_placeInRanking_50 rfl ?_
        refine jj_lcmp_gt (tgt := 68) C dX10_placeInRanking_51 dX10_placeInRanking_52 (by decide) (fun c_30 => ?_) (fun c_30 => ?_)
        · obtain ⟨x_31, ex_31⟩ : ∃ z : Int32, x_16 + Int32.ofInt 1 = z := ⟨_, rfl⟩
          refine jj_iinc (v := x_31) C dX10_placeInRanking_68 rfl ex_31 (by decide) rfl ?_
          obtain ⟨x_32, ex_32, vx_32⟩ := tt_inc (x := x_15) (n := 1) (by omega) (by omega)
          refine jj_iinc (v := x_32) C dX10_placeInRanking_71 rfl ex_32 (by decide) rfl ?_
          refine jj_goto (tgt := 20) C dX10_placeInRanking_74 (by decide) ?_
          refine jj_loc [0, 1, 3, 4, 5] rfl ?_
          exact ihL_14 pl_23 x_32 x_31 hok_24 hfr hf_17 hf_18 (by first | omega | decide | exact tt_lo _ | exact tt_hi _) (by first | omega | decide | exact tt_lo _ | exact tt_hi _) (by first | omega | decide | exact tt_lo _ | exact tt_hi _) (by first | omega | decide | exact tt_lo _ | exact tt_hi _) (by first | omega | decide | exact tt_lo _ | exact tt_hi _)
        · refine jj_lload C dX10_placeInRanking_55 rfl ?_
          refine jj_lload_n C dX10_placeInRanking_57 rfl ?_
          refine jj_lcmp_ne (tgt := 71) C dX10_placeInRanking_58 dX10_placeInRanking_59 (by decide) (fun c_33 => ?_) (fun c_33 => ?_)
          · obtain ⟨x_34, ex_34, vx_34⟩ := tt_inc (x := x_15) (n := 1) (by omega) (by omega)
            refine jj_iinc (v := x_34) C dX10_placeInRanking_71 rfl ex_34 (by decide) rfl ?_
            refine jj_goto (tgt := 20) C dX10_placeInRanking_74 (by decide) ?_
            refine jj_loc [0, 2, 3, 4, 5] rfl ?_
            exact ihL_14 pl_23 x_34 x_16 hok_24 hfr hf_17 hf_18 (by first | omega | decide | exact tt_lo _ | exact tt_hi _) (by first | omega | decide | exact tt_lo _ | exact tt_hi _) (by first | omega | decide | exact tt_lo _ | exact tt_hi _) (by first | omega | decide | exact tt_lo _ | exact tt_hi _) (by first | omega | decide | exact tt_lo _ | exact tt_hi _)
          · refine jj_iload C dX10_placeInRanking_62 rfl ?_
            refine jj_iload_n C dX10_placeInRanking_64 rfl ?_
            refine jj_icmp_ge (tgt := 71) C dX10_placeInRanking_65 (by decide) (fun c_35 => ?_) (fun c_35 => ?_)
            · have z_c_35 := jc_le (a := (p1).toInt) (b := (x_15).toInt) c_35 rfl rfl
              obtain ⟨x_36, ex_36, vx_36⟩ := tt_inc (x := x_15) (n := 1) (by omega) (by omega)
              refine jj_iinc (v := x_36) C dX10_placeInRanking_71 rfl ex_36 (by decide) rfl ?_
              refine jj_goto (tgt := 20) C dX10_placeInRanking_74 (by decide) ?_
              refine jj_loc [0, 2, 3, 4, 5] rfl ?_
              exact ihL_14 pl_23 x_36 x_16 hok_24 hfr hf_17 hf_18 (by first | omega | decide | exact tt_lo _ | exact tt_hi _) (by first | omega | decide | exact tt_lo _ | exact tt_hi _) (by first | omega | decide | exact tt_lo _ | exact tt_hi _) (by first | omega | decide | exact tt_lo _ | exact tt_hi _) (by first | omega | decide | exact tt_lo _ | exact tt_hi _)
            · have z_c_35 := jc_nle (a := (p1).toInt) (b := (x_15).toInt) c_35 rfl rfl
              obtain ⟨x_37, ex_37⟩ : ∃ z : Int32, x_16 + Int32.ofInt 1 = z := ⟨_, rfl⟩
              refine jj_iinc (v := x_37) C dX10_placeInRanking_68 rfl ex_37 (by decide) rfl ?_
              obtain ⟨x_38, ex_38, vx_38⟩ := tt_inc (x := x_15) (n := 1) (by omega) (by omega)
              refine jj_iinc (v := x_38) C dX10_placeInRanking_71 rfl ex_38 (by decide) rfl ?_
              refine jj_goto (tgt := 20) C dX10_placeInRanking_74 (by decide) ?_
              refine jj_loc [0, 1, 3, 4, 5] rfl ?_
              exact ihL_14 pl_23 x_38 x_37 hok_24 hfr hf_17 hf_18 (by first | omega | decide | exact tt_lo _ | exact tt_hi _) (by first | omega | decide | exact tt_lo _ | exact tt_hi _) (by first | omega | decide | exact tt_lo _ | exact tt_hi _) (by first | omega | decide | exact tt_lo _ | exact tt_hi _) (by first | omega | decide | exact tt_lo _ | exact tt_hi _)
  exact hL_14 _ pl_7 (0 : Int32) (0 : Int32) trivial hok_8 hfr hf_2 hf_5 (by first | omega | decide | exact tt_lo _ | exact tt_hi _) (by first | omega | decide | exact tt_lo _ | exact tt_hi _) (by first | omega | decide | exact tt_lo _ | exact tt_hi _) (by first | omega | decide | exact tt_lo _ | exact tt_hi _) (Int.self_le_toNat _)

set_option maxHeartbeats 4000000 in
set_option maxRecDepth 100000 in
theorem tc_X10_placeInRanking_12 {l : Launch} (hl : l.stackTraces = false) (D : va_G) (cA : Nat → ClassId) (ak : (Nat → Nat) × (Nat → Nat)) {Kd : Nat → Nat} (h0 : Nat) (p1 : Int32) (hk0 : Kd h0 = 15) (lp1 : (0 : Int) ≤ p1.toInt) (up1 : p1.toInt ≤ 400) {pl0 : va_W} (hok : tt_ok tt_tk cA Kd pl0) : jj_M l D cA ak yX10_placeInRanking (.code yX10_placeInRanking cX10_placeInRanking 8 (some .int)) 4 111 0 0 ([] ++ pl0) [.ref h0, .int p1] (tt_O (fun rx pl1 r => rx = [] ∧ tt_ok tt_tk cA Kd pl1 ∧ tt_fr Kd [(2, 0), (2, 1), (2, 2), (2, 3), (2, 4), (9, 1), (9, 2), (9, 3), (9, 4), (9, 5)] pl0 pl1 ∧ ((∃ v : Int32, (-2147483648 : Int) ≤ v.toInt ∧ v.toInt ≤ 2147483647 ∧ r = some (.int v))))) (tt_OX (fun _ _ _ => False)) := by
  refine jj_start hl (by decide) jw_479 (jj_le rfl) ?_
  intro p e s m args below meth c A hargs hA C hex hmn
  have hfr := tt_fr.refl (K := Kd) (WS := [(2, 0), (2, 1), (2, 2), (2, 3), (2, 4), (9, 1), (9, 2), (9, 3), (9, 4), (9, 5)]) pl0
  refine jj_aload_n C dX10_placeInRanking_0 rfl ?_
  refine tt_get C hok jk_11 5 (by decide) jw_71 (t := (2, 9, 0)) hk0 (by decide) rfl rfl dX10_placeInRanking_1 (fun v_1 hv_1 hf_2 => ?_)
  obtain ⟨a_3, rfl, ka_3⟩ := tt_vr hv_1
  refine jj_aload_n C dX10_placeInRanking_4 rfl ?_
  refine tt_get C hok jk_11 3 (by decide) jw_2 (t := (2, 1, 0)) hk0 (by decide) rfl rfl dX10_placeInRanking_5 (fun v_4 hv_4 hf_5 => ?_)
  obtain ⟨a_6, rfl, ka_6⟩ := tt_vr hv_4
  refine jj_iload_n C dX10_placeInRanking_8 rfl ?_
  refine jj_iconst (v := 0) C dX10_placeInRanking_9 (by decide) ?_
  obtain ⟨qc, gs, hqc⟩ := tt_recv (cx := []) hok ka_3 (by decide) rfl
  refine tt_callV (rest := []) C (tc_X1_payAfterRate_13 hl D cA ak a_3 a_6 p1 ka_3 ka_6 (by omega) (by omega) hok) [] [] rfl rfl (by decide) (by decide) (by decide) qc hqc rfl rfl jw_437 jw_440 jw_441 jw_74 jw_438 jn_X1_payAfterRate rfl (jj_le rfl) (jj_le rfl) (jj_le rfl) (jj_le rfl) (jj_le rfl) dX10_placeInRanking_10 rfl (fun _ _ _ hX => hX.elim) (fun rx pl_7 r O_10 => ?_)
  obtain ⟨rfl, hok_8, hr_9, hR_12⟩ := O_10
  replace hf_2 := hr_9.at hk0 (by decide) (by decide) hf_2
  replace hf_5 := hr_9.at hk0 (by decide) (by decide) hf_5
  replace hfr := hfr.trans (hr_9.sub (by decide))
  obtain ⟨y_13, rfl⟩ := hR_12
  refine jj_lstore_n C dX10_placeInRanking_13 (by decide) rfl ?_
  refine jj_iconst (v := 0) C dX10_placeInRanking_14 (by decide) ?_
  refine jj_istore C dX10_placeInRanking_15 (by decide) rfl ?_
  refine jj_iconst (v := 0) C dX10_placeInRanking_17 (by decide) ?_
  refine jj_istore C dX10_placeInRanking_18 (by decide) rfl ?_
  have hL_14 : ∀ (N : Nat) (pl : va_W) (x_15 : Int32) (x_16 : Int32), True → tt_ok tt_tk cA Kd pl → tt_fr Kd [(2, 0), (2, 1), (2, 2), (2, 3), (2, 4), (9, 1), (9, 2), (9, 3), (9, 4), (9, 5)] pl0 pl → tt_at pl h0 5 (.ref a_3) → tt_at pl h0 3 (.ref a_6) → (0 : Int) ≤ x_15.toInt → x_15.toInt ≤ 2147483647 → (-2147483648 : Int) ≤ x_16.toInt → x_16.toInt ≤ 2147483647 → (2147483648 - x_15.toInt ≤ (N : Int)) → jj_J p l e (jj_rm 4 111 0 0) s m args below meth c 8 A (vx_MQ below (jj_q D A (tt_O (fun rx pl1 r => rx = [] ∧ tt_ok tt_tk cA Kd pl1 ∧ tt_fr Kd [(2, 0), (2, 1), (2, 2), (2, 3), (2, 4), (9, 1), (9, 2), (9, 3), (9, 4), (9, 5)] pl0 pl1 ∧ ((∃ v : Int32, (-2147483648 : Int) ≤ v.toInt ∧ v.toInt ≤ 2147483647 ∧ r = some (.int v)))))) (jj_x D A (tt_OX (fun _ _ _ => False))) args s 0 0 A) (jj_X D A ([] ++ pl)) 0 0 20 [(5, .int x_15), (4, .int x_16), (2, .long y_13), (0, .ref h0), (1, .int p1)] [] := by
    intro NL_14
    induction NL_14 with
    | zero => intro pl x_15 x_16 _ hok hfr hf_17 hf_18 lx_15 ux_15 lx_16 ux_16 hNL_14; exfalso; omega
    | succ NL_14 ihL_14 =>
      intro pl x_15 x_16 _ hok hfr hf_17 hf_18 lx_15 ux_15 lx_16 ux_16 hNL_14
      replace ihL_14 := fun pl x_15 x_16 h1 => ihL_14 pl x_15 x_16 trivial h1
      refine jj_iload C dX10_placeInRanking_20 rfl ?_
      refine jj_aload_n C dX10_placeInRanking_22 rfl ?_
      refine tt_getF C hok jk_11 3 (by decide) jw_2 (t := (2, 1, 0)) hk0 (by decide) rfl rfl hf_18 dX10_placeInRanking_23 ?_
      refine tt_get C hok jk_2 0 (by decide) jw_306 (t := (0, (-2147483648), 2147483647)) ka_6 (by decide) rfl rfl dX10_placeInRanking_26 (fun v_19 hv_19 hf_20 => ?_)
      obtain ⟨x_21, rfl, lx_21, ux_21⟩ := tt_vi hv_19
      refine jj_icmp_ge (tgt := 77) C dX10_placeInRanking_29 (by decide) (fun c_22 => ?_) (fun c_22 => ?_)
      · have z_c_22 := jc_le (a := (x_21).toInt) (b := (x_15).toInt) c_22 rfl rfl
        refine jj_iload C dX10_placeInRanking_77 rfl ?_
        exact jj_iret C ⟨[], pl, rfl, rfl, hok, hfr, ⟨x_16, (by first | omega | exact tt_lo _ | exact tt_hi _), (by first | omega | exact tt_lo _ | exact tt_hi _), rfl⟩⟩ dX10_placeInRanking_79 (jj_le rfl) (jj_le rfl)
      · have z_c_22 := jc_nle (a := (x_21).toInt) (b := (x_15).toInt) c_22 rfl rfl
        refine jj_aload_n C dX10_placeInRanking_32 rfl ?_
        refine tt_getF C hok jk_11 5 (by decide) jw_71 (t := (2, 9, 0)) hk0 (by decide) rfl rfl hf_17 dX10_placeInRanking_33 ?_
        refine jj_aload_n C dX10_placeInRanking_36 rfl ?_
        refine tt_getF C hok jk_11 3 (by decide) jw_2 (t := (2, 1, 0)) hk0 (by decide) rfl rfl hf_18 dX10_placeInRanking_37 ?_
        refine jj_iload C dX10_placeInRanking_40 rfl ?_
        refine jj_iconst (v := 0) C dX10_placeInRanking_42 (by decide) ?_
        obtain ⟨qc, gs, hqc⟩ := tt_recv (cx := []) hok ka_3 (by decide) rfl
        refine tt_callV (rest := []) C (tc_X1_payAfterRate_15 hl D cA ak a_3 a_6 x_15 ka_3 ka_6 hok) [] [] rfl rfl (by decide) (by decide) (by decide) qc hqc rfl rfl jw_437 jw_440 jw_441 jw_74 jw_438 jn_X1_payAfterRate rfl (jj_le rfl) (jj_le rfl) (jj_le rfl) (jj_le rfl) (jj_le rfl) dX10_placeInRanking_43 rfl (fun _ _ _ hX => hX.elim) (fun rx pl_23 r O_26 => ?_)
        obtain ⟨rfl, hok_24, hr_25, hR_28⟩ := O_26
        replace hf_17 := hr_25.at hk0 (by decide) (by decide) hf_17
        replace hf_18 := hr_25.at hk0 (by decide) (by decide) hf_18
        replace hf_20 := hr_25.at ka_6 (by decide) (by decide) hf_20
        replace hfr := hfr.trans (hr_25.sub (by decide))
        obtain ⟨y_29, rfl⟩ := hR_28
        refine jj_lstore C dX10_placeInRanking_46 (by decide) rfl ?_
        refine jj_lload C dX10_placeInRanking_48 rfl ?_
        refine jj_lload_n C dX10_placeInRanking_50 rfl ?_
        refine jj_lcmp_gt (tgt := 68) C dX10_placeInRanking_51 dX10_placeInRanking_52 (by decide) (fun c_30 => ?_) (fun c_30 => ?_)
        · obtain ⟨x_31, ex_31⟩ : ∃ z : Int32, x_16 + Int32.ofInt 1 = z := ⟨_, rfl⟩
          refine jj_iinc (v := x_31) C dX10_placeInRanking_68 rfl ex_31 (by decide) rfl ?_
          obtain ⟨x_32, ex_32, vx_32⟩ := tt_inc (x := x_15) (n := 1) (by omega) (by omega)
          refine jj_iinc (v := x_32) C dX10_placeInRanking_71 rfl ex_32 (by decide) rfl ?_
          refine jj_goto (tgt := 20) C dX10_placeInRanking_74 (by decide) ?_
          refine jj_loc [0, 1, 3, 4, 5] rfl ?_
          exact ihL_14 pl_23 x_32 x_31 hok_24 hfr hf_17 hf_18 (by first | omega | decide | exact tt_lo _ | exact tt_hi _) (by first | omega | decide | exact tt_lo _ | exact tt_hi _) (by first | omega | decide | exact tt_lo _ | exact tt_hi _) (by first | omega | decide | exact tt_lo _ | exact tt_hi _) (by first | omega | decide | exact tt_lo _ | exact tt_hi _)
        · refine jj_lload C dX10_placeInRanking_55 rfl ?_
          refine jj_lload_n C dX10_placeInRanking_57 rfl ?_
          refine jj_lcmp_ne (tgt := 71) C dX10_placeInRanking_58 dX10_placeInRanking_59 (by decide) (fun c_33 => ?_) (fun c_33 => ?_)
          · obtain ⟨x_34, ex_34, vx_34⟩ := tt_inc (x := x_15) (n := 1) (by omega) (by omega)
            refine jj_iinc (v := x_34) C dX10_placeInRanking_71 rfl ex_34 (by decide) rfl ?_
            refine jj_goto (tgt := 20) C dX10_placeInRanking_74 (by decide) ?_
            refine jj_loc [0, 2, 3, 4, 5] rfl ?_
            exact ihL_14 pl_23 x_34 x_16 hok_24 hfr hf_17 hf_18 (by first | omega | decide | exact tt_lo _ | exact tt_hi _) (by first | omega | decide | exact tt_lo _ | exact tt_hi _) (by first | omega | decide | exact tt_lo _ | exact tt_hi _) (by first | omega | decide | exact tt_lo _ | exact tt_hi _) (by first | omega | decide | exact tt_lo _ | exact tt_hi _)
          · refine jj_iload C dX10_placeInRanking_62 rfl ?_
            refine jj_iload_n C dX10_placeInRanking_64 rfl ?_
            refine jj_icmp_ge (tgt := 71) C dX10_placeInRanking_65 (by decide) (fun c_35 => ?_) (fun c_35 => ?_)
            · have z_c_35 := jc_le (a := (p1).toInt) (b := (x_15).toInt) c_35 rfl rfl
              obtain ⟨x_36, ex_36, vx_36⟩ := tt_inc (x := x_15) (n := 1) (by omega) (by omega)
              refine jj_iinc (v := x_36) C dX10_placeInRanking_71 rfl ex_36 (by decide) rfl ?_
              refine jj_goto (tgt := 20) C dX10_placeInRanking_74 (by decide) ?_
              refine jj_loc [0, 2, 3, 4, 5] rfl ?_
              exact ihL_14 pl_23 x_36 x_16 hok_24 hfr hf_17 hf_18 (by first | omega | decide | exact tt_lo _ | exact tt_hi _) (by first | omega | decide | exact tt_lo _ | exact tt_hi _) (by first | omega | decide | exact tt_lo _ | exact tt_hi _) (by first | omega | decide | exact tt_lo _ | exact tt_hi _) (by first | omega | decide | exact tt_lo _ | exact tt_hi _)
            · have z_c_35 := jc_nle (a := (p1).toInt) (b := (x_15).toInt) c_35 rfl rfl
              obtain ⟨x_37, ex_37⟩ : ∃ z : Int32, x_16 + Int32.ofInt 1 = z := ⟨_, rfl⟩
              refine jj_iinc (v := x_37) C dX10_placeInRanking_68 rfl ex_37 (by decide) rfl ?_
              obtain ⟨x_38, ex_38, vx_38⟩ := tt_inc (x := x_15) (n := 1) (by omega) (by omega)
              refine jj_iinc (v := x_38) C dX10_placeInRanking_71 rfl ex_38 (by decide) rfl ?_
              refine jj_goto (tgt := 20) C dX10_placeInRanking_74 (by decide) ?_
              refine jj_loc [0, 1, 3, 4, 5] rfl ?_
              exact ihL_14 pl_23 x_38 x_37 hok_24 hfr hf_17 hf_18 (by first | omega | decide | exact tt_lo _ | exact tt_hi _) (by first | omega | decide | exact tt_lo _ | exact tt_hi _) (by first | omega | decide | exact tt_lo _ | exact tt_hi _) (by first | omega | decide | exact tt_lo _ | exact tt_hi _) (by first | omega | decide | exact tt_lo _ | exact tt_hi _)
  exact hL_14 _ pl_7 (0 : Int32) (0 : Int32) trivial hok_8 hfr hf_2 hf_5 (by first | omega | decide | exact tt_lo _ | exact tt_hi _) (by first | omega | decide | exact tt_lo _ | exact tt_hi _) (by first | omega | decide | exact tt_lo _ | exact tt_hi _) (by first | omega | decide | exact tt_lo _ | exact tt_hi _) (Int.self_le_toNat _)

set_option maxHeartbeats 4000000 in
set_option maxRecDepth 100000 in
theorem tc_X10_placeInRanking_13 {l : Launch} (hl : l.stackTraces = false) (D : va_G) (cA : Nat → ClassId) (ak : (Nat → Nat) × (Nat → Nat)) {Kd : Nat → Nat} (h0 : Nat) (p1 : Int32) (hk0 : Kd h0 = 15) (lp1 : (0 : Int) ≤ p1.toInt) (up1 : p1.toInt ≤ 1300) {pl0 : va_W} (hok : tt_ok tt_tk cA Kd pl0) : jj_M l D cA ak yX10_placeInRanking (.code yX10_placeInRanking cX10_placeInRanking 8 (some .int)) 4 111 0 0 ([] ++ pl0) [.ref h0, .int p1] (tt_O (fun rx pl1 r => rx = [] ∧ tt_ok tt_tk cA Kd pl1 ∧ tt_fr Kd [(2, 0), (2, 1), (2, 2), (2, 3), (2, 4), (9, 1), (9, 2), (9, 3), (9, 4), (9, 5)] pl0 pl1 ∧ ((∃ v : Int32, (-2147483648 : Int) ≤ v.toInt ∧ v.toInt ≤ 2147483647 ∧ r = some (.int v))))) (tt_OX (fun _ _ _ => False)) := by
  refine jj_start hl (by decide) jw_479 (jj_le rfl) ?_
  intro p e s m args below meth c A hargs hA C hex hmn
  have hfr := tt_fr.refl (K := Kd) (WS := [(2, 0), (2, 1), (2, 2), (2, 3), (2, 4), (9, 1), (9, 2), (9, 3), (9, 4), (9, 5)]) pl0
  refine jj_aload_n C dX10_placeInRanking_0 rfl ?_
  refine tt_get C hok jk_11 5 (by decide) jw_71 (t := (2, 9, 0)) hk0 (by decide) rfl rfl dX10_placeInRanking_1 (fun v_1 hv_1 hf_2 => ?_)
  obtain ⟨a_3, rfl, ka_3⟩ := tt_vr hv_1
  refine jj_aload_n C dX10_placeInRanking_4 rfl ?_
  refine tt_get C hok jk_11 3 (by decide) jw_2 (t := (2, 1, 0)) hk0 (by decide) rfl rfl dX10_placeInRanking_5 (fun v_4 hv_4 hf_5 => ?_)
  obtain ⟨a_6, rfl, ka_6⟩ := tt_vr hv_4
  refine jj_iload_n C dX10_placeInRanking_8 rfl ?_
  refine jj_iconst (v := 0) C dX10_placeInRanking_9 (by decide) ?_
  obtain ⟨qc, gs, hqc⟩ := tt_recv (cx := []) hok ka_3 (by decide) rfl
  refine tt_callV (rest := []) C (tc_X1_payAfterRate_14 hl D cA ak a_3 a_6 p1 ka_3 ka_6 (by omega) (by omega) hok) [] [] rfl rfl (by decide) (by decide) (by decide) qc hqc rfl rfl jw_437 jw_440 jw_441 jw_74 jw_438 jn_X1_payAfterRate rfl (jj_le rfl) (jj_le rfl) (jj_le rfl) (jj_le rfl) (jj_le rfl) dX10_placeInRanking_10 rfl (fun _ _ _ hX => hX.elim) (fun rx pl_7 r O_10 => ?_)
  obtain ⟨rfl, hok_8, hr_9, hR_12⟩ := O_10
  replace hf_2 := hr_9.at hk0 (by decide) (by decide) hf_2
  replace hf_5 := hr_9.at hk0 (by decide) (by decide) hf_5
  replace hfr := hfr.trans (hr_9.sub (by decide))
  obtain ⟨y_13, rfl⟩ := hR_12
  refine jj_lstore_n C dX10_placeInRanking_13 (by decide) rfl ?_
  refine jj_iconst (v := 0) C dX10_placeInRanking_14 (by decide) ?_
  refine jj_istore C dX10_placeInRanking_15 (by decide) rfl ?_
  refine jj_iconst (v := 0) C dX10_placeInRanking_17 (by decide) ?_
  refine jj_istore C dX10_placeInRanking_18 (by decide) rfl ?_
  have hL_14 : ∀ (N : Nat) (pl : va_W) (x_15 : Int32) (x_16 : Int32), True → tt_ok tt_tk cA Kd pl → tt_fr Kd [(2, 0), (2, 1), (2, 2), (2, 3), (2, 4), (9, 1), (9, 2), (9, 3), (9, 4), (9, 5)] pl0 pl → tt_at pl h0 5 (.ref a_3) → tt_at pl h0 3 (.ref a_6) → (0 : Int) ≤ x_15.toInt → x_15.toInt ≤ 2147483647 → (-2147483648 : Int) ≤ x_16.toInt → x_16.toInt ≤ 2147483647 → (2147483648 - x_15.toInt ≤ (N : Int)) → jj_J p l e (jj_rm 4 111 0 0) s m args below meth c 8 A (vx_MQ below (jj_q D A (tt_O (fun rx pl1 r => rx = [] ∧ tt_ok tt_tk cA Kd pl1 ∧ tt_fr Kd [(2, 0), (2, 1), (2, 2), (2, 3), (2, 4), (9, 1), (9, 2), (9, 3), (9, 4), (9, 5)] pl0 pl1 ∧ ((∃ v : Int32, (-2147483648 : Int) ≤ v.toInt ∧ v.toInt ≤ 2147483647 ∧ r = some (.int v)))))) (jj_x D A (tt_OX (fun _ _ _ => False))) args s 0 0 A) (jj_X D A ([] ++ pl)) 0 0 20 [(5, .int x_15), (4, .int x_16), (2, .long y_13), (0, .ref h0), (1, .int p1)] [] := by
    intro NL_14
    induction NL_14 with
    | zero => intro pl x_15 x_16 _ hok hfr hf_17 hf_18 lx_15 ux_15 lx_16 ux_16 hNL_14; exfalso; omega
    | succ NL_14 ihL_14 =>
      intro pl x_15 x_16 _ hok hfr hf_17 hf_18 lx_15 ux_15 lx_16 ux_16 hNL_14
      replace ihL_14 := fun pl x_15 x_16 h1 => ihL_14 pl x_15 x_16 trivial h1
      refine jj_iload C dX10_placeInRanking_20 rfl ?_
      refine jj_aload_n C dX10_placeInRanking_22 rfl ?_
      refine tt_getF C hok jk_11 3 (by decide) jw_2 (t := (2, 1, 0)) hk0 (by decide) rfl rfl hf_18 dX10_placeInRanking_23 ?_
      refine tt_get C hok jk_2 0 (by decide) jw_306 (t := (0, (-2147483648), 2147483647)) ka_6 (by decide) rfl rfl dX10_placeInRanking_26 (fun v_19 hv_19 hf_20 => ?_)
      obtain ⟨x_21, rfl, lx_21, ux_21⟩ := tt_vi hv_19
      refine jj_icmp_ge (tgt := 77) C dX10_placeInRanking_29 (by decide) (fun c_22 => ?_) (fun c_22 => ?_)
      · have z_c_22 := jc_le (a := (x_21).toInt) (b := (x_15).toInt) c_22 rfl rfl
        refine jj_iload C dX10_placeInRanking_77 rfl ?_
        exact jj_iret C ⟨[], pl, rfl, rfl, hok, hfr, ⟨x_16, (by first | omega | exact tt_lo _ | exact tt_hi _), (by first | omega | exact tt_lo _ | exact tt_hi _), rfl⟩⟩ dX10_placeInRanking_79 (jj_le rfl) (jj_le rfl)
      · have z_c_22 := jc_nle (a := (x_21).toInt) (b := (x_15).toInt) c_22 rfl rfl
        refine jj_aload_n C dX10_placeInRanking_32 rfl ?_
        refine tt_getF C hok jk_11 5 (by decide) jw_71 (t := (2, 9, 0)) hk0 (by decide) rfl rfl hf_17 dX10_placeInRanking_33 ?_
        refine jj_aload_n C dX10_placeInRanking_36 rfl ?_
        refine tt_getF C hok jk_11 3 (by decide) jw_2 (t := (2, 1, 0)) hk0 (by decide) rfl rfl hf_18 dX10_placeInRanking_37 ?_
        refine jj_iload C dX10_placeInRanking_40 rfl ?_
        refine jj_iconst (v := 0) C dX10_placeInRanking_42 (by decide) ?_
        obtain ⟨qc, gs, hqc⟩ := tt_recv (cx := []) hok ka_3 (by decide) rfl
        refine tt_callV (rest := []) C (tc_X1_payAfterRate_15 hl D cA ak a_3 a_6 x_15 ka_3 ka_6 hok) [] [] rfl rfl (by decide) (by decide) (by decide) qc hqc rfl rfl jw_437 jw_440 jw_441 jw_74 jw_438 jn_X1_payAfterRate rfl (jj_le rfl) (jj_le rfl) (jj_le rfl) (jj_le rfl) (jj_le rfl) dX10_placeInRanking_43 rfl (fun _ _ _ hX => hX.elim) (fun rx pl_23 r O_26 => ?_)
        obtain ⟨rfl, hok_24, hr_25, hR_28⟩ := O_26
        replace hf_17 := hr_25.at hk0 (by decide) (by decide) hf_17
        replace hf_18 := hr_25.at hk0 (by decide) (by decide) hf_18
        replace hf_20 := hr_25.at ka_6 (by decide) (by decide) hf_20
        replace hfr := hfr.trans (hr_25.sub (by decide))
        obtain ⟨y_29, rfl⟩ := hR_28
        refine jj_lstore C dX10_placeInRanking_46 (by decide) rfl ?_
        refine jj_lload C dX10_placeInRanking_48 rfl ?_
        refine jj_lload_n C dX10_placeInRanking_50 rfl ?_
        refine jj_lcmp_gt (tgt := 68) C dX10_placeInRanking_51 dX10_placeInRanking_52 (by decide) (fun c_30 => ?_) (fun c_30 => ?_)
        · obtain ⟨x_31, ex_31⟩ : ∃ z : Int32, x_16 + Int32.ofInt 1 = z := ⟨_, rfl⟩
          refine jj_iinc (v := x_31) C dX10_placeInRanking_68 rfl ex_31 (by decide) rfl ?_
          obtain ⟨x_32, ex_32, vx_32⟩ := tt_inc (x := x_15) (n := 1) (by omega) (by omega)
          refine jj_iinc (v := x_32) C dX10_placeInRanking_71 rfl ex_32 (by decide) rfl ?_
          refine jj_goto (tgt := 20) C dX10_placeInRanking_74 (by decide) ?_
          refine jj_loc [0, 1, 3, 4, 5] rfl ?_
          exact ihL_14 pl_23 x_32 x_31 hok_24 hfr hf_17 hf_18 (by first | omega | decide | exact tt_lo _ | exact tt_hi _) (by first | omega | decide | exact tt_lo _ | exact tt_hi _) (by first | omega | decide | exact tt_lo _ | exact tt_hi _) (by first | omega | decide | exact tt_lo _ | exact tt_hi _) (by first | omega | decide | exact tt_lo _ | exact tt_hi _)
        · refine jj_lload C dX10_placeInRanking_55 rfl ?_
          refine jj_lload_n C dX10_placeInRanking_57 rfl ?_
          refine jj_lcmp_ne (tgt := 71) C dX10_placeInRanking_58 dX10_placeInRanking_59 (by decide) (fun c_33 => ?_) (fun c_33 => ?_)
          · obtain ⟨x_34, ex_34, vx_34⟩ := tt_inc (x := x_15) (n := 1) (by omega) (by omega)
            refine jj_iinc (v := x_34) C dX10_placeInRanking_71 rfl ex_34 (by decide) rfl ?_
            refine jj_goto (tgt := 20) C dX10_placeInRanking_74 (by decide) ?_
            refine jj_loc [0, 2, 3, 4, 5] rfl ?_
            exact ihL_14 pl_23 x_34 x_16 hok_24 hfr hf_17 hf_18 (by first | omega | decide | exact tt_lo _ | exact tt_hi _) (by first | omega | decide | exact tt_lo _ | exact tt_hi _) (by first | omega | decide | exact tt_lo _ | exact tt_hi _) (by first | omega | decide | exact tt_lo _ | exact tt_hi _) (by first | omega | decide | exact tt_lo _ | exact tt_hi _)
          · refine jj_iload C dX10_placeInRanking_62 rfl ?_
            refine jj_iload_n C dX10_placeInRanking_64 rfl ?_
            refine jj_icmp_ge (tgt := 71) C dX10_placeInRanking_65 (by decide) (fun c_35 => ?_) (fun c_35 => ?_)
            · have z_c_35 := jc_le (a := (p1).toInt) (b := (x_15).toInt) c_35 rfl rfl
              obtain ⟨x_36, ex_36, vx_36⟩ := tt_inc (x := x_15) (n := 1) (by omega) (by omega)
              refine jj_iinc (v := x_36) C dX10_placeInRanking_71 rfl ex_36 (by decide) rfl ?_
              refine jj_goto (tgt := 20) C dX10_placeInRanking_74 (by decide) ?_
              refine jj_loc [0, 2, 3, 4, 5] rfl ?_
              exact ihL_14 pl_23 x_36 x_16 hok_24 hfr hf_17 hf_18 (by first | omega | decide | exact tt_lo _ | exact tt_hi _) (by first | omega | decide | exact tt_lo _ | exact tt_hi _) (by first | omega | decide | exact tt_lo _ | exact tt_hi _) (by first | omega | decide | exact tt_lo _ | exact tt_hi _) (by first | omega | decide | exact tt_lo _ | exact tt_hi _)
            · have z_c_35 := jc_nle (a := (p1).toInt) (b := (x_15).toInt) c_35 rfl rfl
              obtain ⟨x_37, ex_37⟩ : ∃ z : Int32, x_16 + Int32.ofInt 1 = z := ⟨_, rfl⟩
              refine jj_iinc (v := x_37) C dX10_placeInRanking_68 rfl ex_37 (by decide) rfl ?_
              obtain ⟨x_38, ex_38, vx_38⟩ := tt_inc (x := x_15) (n := 1) (by omega) (by omega)
              refine jj_iinc (v := x_38) C dX10_placeInRanking_71 rfl ex_38 (by decide) rfl ?_
              refine jj_goto (tgt := 20) C dX10_placeInRanking_74 (by decide) ?_
              refine jj_loc [0, 1, 3, 4, 5] rfl ?_
              exact ihL_14 pl_23 x_38 x_37 hok_24 hfr hf_17 hf_18 (by first | omega | decide | exact tt_lo _ | exact tt_hi _) (by first | omega | decide | exact tt_lo _ | exact tt_hi _) (by first | omega | decide | exact tt_lo _ | exact tt_hi _) (by first | omega | decide | exact tt_lo _ | exact tt_hi _) (by first | omega | decide | exact tt_lo _ | exact tt_hi _)
  exact hL_14 _ pl_7 (0 : Int32) (0 : Int32) trivial hok_8 hfr hf_2 hf_5 (by first | omega | decide | exact tt_lo _ | exact tt_hi _) (by first | omega | decide | exact tt_lo _ | exact tt_hi _) (by first | omega | decide | exact tt_lo _ | exact tt_hi _) (by first | omega | decide | exact tt_lo _ | exact tt_hi _) (Int.self_le_toNat _)

set_option maxHeartbeats 4000000 in
set_option maxRecDepth 100000 in
theorem tc_X10_placeInRanking_14 {l : Launch} (hl : l.stackTraces = false) (D : va_G) (cA : Nat → ClassId) (ak : (Nat → Nat) × (Nat → Nat)) {Kd : Nat → Nat} (h0 : Nat) (p1 : Int32) (hk0 : Kd h0 = 15) {pl0 : va_W} (hok : tt_ok tt_tk cA Kd pl0) : jj_M l D cA ak yX10_placeInRanking (.code yX10_placeInRanking cX10_placeInRanking 8 (some .int)) 4 111 0 0 ([] ++ pl0) [.ref h0, .int p1] (tt_O (fun rx pl1 r => rx = [] ∧ tt_ok tt_tk cA Kd pl1 ∧ tt_fr Kd [(2, 0), (2, 1), (2, 2), (2, 3), (2, 4), (9, 1), (9, 2), (9, 3), (9, 4), (9, 5)] pl0 pl1 ∧ ((∃ v : Int32, (-2147483648 : Int) ≤ v.toInt ∧ v.toInt ≤ 2147483647 ∧ r = some (.int v))))) (tt_OX (fun _ _ _ => False)) := by
  refine jj_start hl (by decide) jw_479 (jj_le rfl) ?_
  intro p e s m args below meth c A hargs hA C hex hmn
  have hfr := tt_fr.refl (K := Kd) (WS := [(2, 0), (2, 1), (2, 2), (2, 3), (2, 4), (9, 1), (9, 2), (9, 3), (9, 4), (9, 5)]) pl0
  have lp1 := tt_lo p1
  have up1 := tt_hi p1
  refine jj_aload_n C dX10_placeInRanking_0 rfl ?_
  refine tt_get C hok jk_11 5 (by decide) jw_71 (t := (2, 9, 0)) hk0 (by decide) rfl rfl dX10_placeInRanking_1 (fun v_1 hv_1 hf_2 => ?_)
  obtain ⟨a_3, rfl, ka_3⟩ := tt_vr hv_1
  refine jj_aload_n C dX10_placeInRanking_4 rfl ?_
  refine tt_get C hok jk_11 3 (by decide) jw_2 (t := (2, 1, 0)) hk0 (by decide) rfl rfl dX10_placeInRanking_5 (fun v_4 hv_4 hf_5 => ?_)
  obtain ⟨a_6, rfl, ka_6⟩ := tt_vr hv_4
  refine jj_iload_n C dX10_placeInRanking_8 rfl ?_
  refine jj_iconst (v := 0) C dX10_placeInRanking_9 (by decide) ?_
  obtain ⟨qc, gs, hqc⟩ := tt_recv (cx := []) hok ka_3 (by decide) rfl
  refine tt_callV (rest := []) C (tc_X1_payAfterRate_15 hl D cA ak a_3 a_6 p1 ka_3 ka_6 hok) [] [] rfl rfl (by decide) (by decide) (by decide) qc hqc rfl rfl jw_437 jw_440 jw_441 jw_74 jw_438 jn_X1_payAfterRate rfl (jj_le rfl) (jj_le rfl) (jj_le rfl) (jj_le rfl) (jj_le rfl) dX10_placeInRanking_10 rfl (fun _ _ _ hX => hX.elim) (fun rx pl_7 r O_10 => ?_)
  obtain ⟨rfl, hok_8, hr_9, hR_12⟩ := O_10
  replace hf_2 := hr_9.at hk0 (by decide) (by decide) hf_2
  replace hf_5 := hr_9.at hk0 (by decide) (by decide) hf_5
  replace hfr := hfr.trans (hr_9.sub (by decide))
  obtain ⟨y_13, rfl⟩ := hR_12
  refine jj_lstore_n C dX10_placeInRanking_13 (by decide) rfl ?_
  refine jj_iconst (v := 0) C dX10_placeInRanking_14 (by decide) ?_
  refine jj_istore C dX10_placeInRanking_15 (by decide) rfl ?_
  refine jj_iconst (v := 0) C dX10_placeInRanking_17 (by decide) ?_
  refine jj_istore C dX10_placeInRanking_18 (by decide) rfl ?_
  have hL_14 : ∀ (N : Nat) (pl : va_W) (x_15 : Int32) (x_16 : Int32), True → tt_ok tt_tk cA Kd pl → tt_fr Kd [(2, 0), (2, 1), (2, 2), (2, 3), (2, 4), (9, 1), (9, 2), (9, 3), (9, 4), (9, 5)] pl0 pl → tt_at pl h0 5 (.ref a_3) → tt_at pl h0 3 (.ref a_6) → (0 : Int) ≤ x_15.toInt → x_15.toInt ≤ 2147483647 → (-2147483648 : Int) ≤ x_16.toInt → x_16.toInt ≤ 2147483647 → (2147483648 - x_15.toInt ≤ (N : Int)) → jj_J p l e (jj_rm 4 111 0 0) s m args below meth c 8 A (vx_MQ below (jj_q D A (tt_O (fun rx pl1 r => rx = [] ∧ tt_ok tt_tk cA Kd pl1 ∧ tt_fr Kd [(2, 0), (2, 1), (2, 2), (2, 3), (2, 4), (9, 1), (9, 2), (9, 3), (9, 4), (9, 5)] pl0 pl1 ∧ ((∃ v : Int32, (-2147483648 : Int) ≤ v.toInt ∧ v.toInt ≤ 2147483647 ∧ r = some (.int v)))))) (jj_x D A (tt_OX (fun _ _ _ => False))) args s 0 0 A) (jj_X D A ([] ++ pl)) 0 0 20 [(5, .int x_15), (4, .int x_16), (2, .long y_13), (0, .ref h0), (1, .int p1)] [] := by
    intro NL_14
    induction NL_14 with
    | zero => intro pl x_15 x_16 _ hok hfr hf_17 hf_18 lx_15 ux_15 lx_16 ux_16 hNL_14; exfalso; omega
    | succ NL_14 ihL_14 =>
      intro pl x_15 x_16 _ hok hfr hf_17 hf_18 lx_15 ux_15 lx_16 ux_16 hNL_14
      replace ihL_14 := fun pl x_15 x_16 h1 => ihL_14 pl x_15 x_16 trivial h1
      refine jj_iload C dX10_placeInRanking_20 rfl ?_
      refine jj_aload_n C dX10_placeInRanking_22 rfl ?_
      refine tt_getF C hok jk_11 3 (by decide) jw_2 (t := (2, 1, 0)) hk0 (by decide) rfl rfl hf_18 dX10_placeInRanking_23 ?_
      refine tt_get C hok jk_2 0 (by decide) jw_306 (t := (0, (-2147483648), 2147483647)) ka_6 (by decide) rfl rfl dX10_placeInRanking_26 (fun v_19 hv_19 hf_20 => ?_)
      obtain ⟨x_21, rfl, lx_21, ux_21⟩ := tt_vi hv_19
      refine jj_icmp_ge (tgt := 77) C dX10_placeInRanking_29 (by decide) (fun c_22 => ?_) (fun c_22 => ?_)
      · have z_c_22 := jc_le (a := (x_21).toInt) (b := (x_15).toInt) c_22 rfl rfl
        refine jj_iload C dX10_placeInRanking_77 rfl ?_
        exact jj_iret C ⟨[], pl, rfl, rfl, hok, hfr, ⟨x_16, (by first | omega | exact tt_lo _ | exact tt_hi _), (by first | omega | exact tt_lo _ | exact tt_hi _), rfl⟩⟩ dX10_placeInRanking_79 (jj_le rfl) (jj_le rfl)
      · have z_c_22 := jc_nle (a := (x_21).toInt) (b := (x_15).toInt) c_22 rfl rfl
        refine jj_aload_n C dX10_placeInRanking_32 rfl ?_
        refine tt_getF C hok jk_11 5 (by decide) jw_71 (t := (2, 9, 0)) hk0 (by decide) rfl rfl hf_17 dX10_placeInRanking_33 ?_
        refine jj_aload_n C dX10_placeInRanking_36 rfl ?_
        refine tt_getF C hok jk_11 3 (by decide) jw_2 (t := (2, 1, 0)) hk0 (by decide) rfl rfl hf_18 dX10_placeInRanking_37 ?_
        refine jj_iload C dX10_placeInRanking_40 rfl ?_
        refine jj_iconst (v := 0) C dX10_placeInRanking_42 (by decide) ?_
        obtain ⟨qc, gs, hqc⟩ := tt_recv (cx := []) hok ka_3 (by decide) rfl
        refine tt_callV (rest := []) C (tc_X1_payAfterRate_15 hl D cA ak a_3 a_6 x_15 ka_3 ka_6 hok) [] [] rfl rfl (by decide) (by decide) (by decide) qc hqc rfl rfl jw_437 jw_440 jw_441 jw_74 jw_438 jn_X1_payAfterRate rfl (jj_le rfl) (jj_le rfl) (jj_le rfl) (jj_le rfl) (jj_le rfl) dX10_placeInRanking_43 rfl (fun _ _ _ hX => hX.elim) (fun rx pl_23 r O_26 => ?_)
        obtain ⟨rfl, hok_24, hr_25, hR_28⟩ := O_26
        replace hf_17 := hr_25.at hk0 (by decide) (by decide) hf_17
        replace hf_18 := hr_25.at hk0 (by decide) (by decide) hf_18
        replace hf_20 := hr_25.at ka_6 (by decide) (by decide) hf_20
        replace hfr := hfr.trans (hr_25.sub (by decide))
        obtain ⟨y_29, rfl⟩ := hR_28
        refine jj_lstore C dX10_placeInRanking_46 (by decide) rfl ?_
        refine jj_lload C dX10_placeInRanking_48 rfl ?_
        refine jj_lload_n C dX10_placeInRanking_50 rfl ?_
        refine jj_lcmp_gt (tgt := 68) C dX10_placeInRanking_51 dX10_placeInRanking_52 (by decide) (fun c_30 => ?_) (fun c_30 => ?_)
        · obtain ⟨x_31, ex_31⟩ : ∃ z : Int32, x_16 + Int32.ofInt 1 = z := ⟨_, rfl⟩
          refine jj_iinc (v := x_31) C dX10_placeInRanking_68 rfl ex_31 (by decide) rfl ?_
          obtain ⟨x_32, ex_32, vx_32⟩ := tt_inc (x := x_15) (n := 1) (by omega) (by omega)
          refine jj_iinc (v := x_32) C dX10_placeInRanking_71 rfl ex_32 (by decide) rfl ?_
          refine jj_goto (tgt := 20) C dX10_placeInRanking_74 (by decide) ?_
          refine jj_loc [0, 1, 3, 4, 5] rfl ?_
          exact ihL_14 pl_23 x_32 x_31 hok_24 hfr hf_17 hf_18 (by first | omega | decide | exact tt_lo _ | exact tt_hi _) (by first | omega | decide | exact tt_lo _ | exact tt_hi _) (by first | omega | decide | exact tt_lo _ | exact tt_hi _) (by first | omega | decide | exact tt_lo _ | exact tt_hi _) (by first | omega | decide | exact tt_lo _ | exact tt_hi _)
        · refine jj_lload C dX10_placeInRanking_55 rfl ?_
          refine jj_lload_n C dX10_placeInRanking_57 rfl ?_
          refine jj_lcmp_ne (tgt := 71) C dX10_placeInRanking_58 dX10_placeInRanking_59 (by decide) (fun c_33 => ?_) (fun c_33 => ?_)
          · obtain ⟨x_34, ex_34, vx_34⟩ := tt_inc (x := x_15) (n := 1) (by omega) (by omega)
            refine jj_iinc (v := x_34) C dX10_placeInRanking_71 rfl ex_34 (by decide) rfl ?_
            refine jj_goto (tgt := 20) C dX10_placeInRanking_74 (by decide) ?_
            refine jj_loc [0, 2, 3, 4, 5] rfl ?_
            exact ihL_14 pl_23 x_34 x_16 hok_24 hfr hf_17 hf_18 (by first | omega | decide | exact tt_lo _ | exact tt_hi _) (by first | omega | decide | exact tt_lo _ | exact tt_hi _) (by first | omega | decide | exact tt_lo _ | exact tt_hi _) (by first | omega | decide | exact tt_lo _ | exact tt_hi _) (by first | omega | decide | exact tt_lo _ | exact tt_hi _)
          · refine jj_iload C dX10_placeInRanking_62 rfl ?_
            refine jj_iload_n C dX10_placeInRanking_64 rfl ?_
            refine jj_icmp_ge (tgt := 71) C dX10_placeInRanking_65 (by decide) (fun c_35 => ?_) (fun c_35 => ?_)
            · have z_c_35 := jc_le (a := (p1).toInt) (b := (x_15).toInt) c_35 rfl rfl
              obtain ⟨x_36, ex_36, vx_36⟩ := tt_inc (x := x_15) (n := 1) (by omega) (by omega)
              refine jj_iinc (v := x_36) C dX10_placeInRanking_71 rfl ex_36 (by decide) rfl ?_
              refine jj_goto (tgt := 20) C dX10_placeInRanking_74 (by decide) ?_
              refine jj_loc [0, 2, 3, 4, 5] rfl ?_
              exact ihL_14 pl_23 x_36 x_16 hok_24 hfr hf_17 hf_18 (by first | omega | decide | exact tt_lo _ | exact tt_hi _) (by first | omega | decide | exact tt_lo _ | exact tt_hi _) (by first | omega | decide | exact tt_lo _ | exact tt_hi _) (by first | omega | decide | exact tt_lo _ | exact tt_hi _) (by first | omega | decide | exact tt_lo _ | exact tt_hi _)
            · have z_c_35 := jc_nle (a := (p1).toInt) (b := (x_15).toInt) c_35 rfl rfl
              obtain ⟨x_37, ex_37⟩ : ∃ z : Int32, x_16 + Int32.ofInt 1 = z := ⟨_, rfl⟩
              refine jj_iinc (v := x_37) C dX10_placeInRanking_68 rfl ex_37 (by decide) rfl ?_
              obtain ⟨x_38, ex_38, vx_38⟩ := tt_inc (x := x_15) (n := 1) (by omega) (by omega)
              refine jj_iinc (v := x_38) C dX10_placeInRanking_71 rfl ex_38 (by decide) rfl ?_
              refine jj_goto (tgt := 20) C dX10_placeInRanking_74 (by decide) ?_
              refine jj_loc [0, 1, 3, 4, 5] rfl ?_
              exact ihL_14 pl_23 x_38 x_37 hok_24 hfr hf_17 hf_18 (by first | omega | decide | exact tt_lo _ | exact tt_hi _) (by first | omega | decide | exact tt_lo _ | exact tt_hi _) (by first | omega | decide | exact tt_lo _ | exact tt_hi _) (by first | omega | decide | exact tt_lo _ | exact tt_hi _) (by first | omega | decide | exact tt_lo _ | exact tt_hi _)
  exact hL_14 _ pl_7 (0 : Int32) (0 : Int32) trivial hok_8 hfr hf_2 hf_5 (by first | omega | decide | exact tt_lo _ | exact tt_hi _) (by first | omega | decide | exact tt_lo _ | exact tt_hi _) (by first | omega | decide | exact tt_lo _ | exact tt_hi _) (by first | omega | decide | exact tt_lo _ | exact tt_hi _) (Int.self_le_toNat _)

