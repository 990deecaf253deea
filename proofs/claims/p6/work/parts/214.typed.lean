set_option maxHeartbeats 4000000 in
set_option maxRecDepth 100000 in
theorem tc_X10_placeInRanking_11 {l : Launch} (hl : l.stackTraces = false) (D : va_G) (cA : Nat → ClassId) (ak : (Nat → Nat) × (Nat → Nat)) {Kd : Nat → Nat} (h0 : Nat) (p1 : Int32) (hk0 : Kd h0 = 15) (lp1 : (0 : Int) ≤ p1.toInt) (up1 : p1.toInt ≤ 399) {pl0 : va_W} (hok : tt_ok tt_tk cA Kd pl0) : jj_M l D cA ak yX10_placeInRanking (.code yX10_placeInRanking cX10_placeInRanking 8 (some .int)) 4 111 0 0 ([] ++ pl0) [.ref h0, .int p1] (tt_O (fun rx pl1 r => rx = [] ∧ tt_ok tt_tk cA Kd pl1 ∧ tt_fr Kd [(2, 0), (2, 1), (2, 2), (2, 3), (2, 4), (9, 1), (9, 2), (9, 3), (9, 4), (9, 5)] pl0 pl1 ∧ tt_fa Kd [] pl0 pl1 ∧ ((∃ v : Int32, (-2147483648 : Int) ≤ v.toInt ∧ v.toInt ≤ 2147483647 ∧ r = some (.int v))))) (tt_OX (fun _ _ _ => False)) := by
  refine jj_start hl (by decide) jw_1d9aa5a1ce (jj_le rfl) ?_
  intro p e s m args below meth c A hargs hA C hex hmn
  have hfr := tt_fr.refl (K := Kd) (WS := [(2, 0), (2, 1), (2, 2), (2, 3), (2, 4), (9, 1), (9, 2), (9, 3), (9, 4), (9, 5)]) pl0
  have hfa := tt_fa.refl (K := Kd) (WA := []) pl0
  refine jj_aload_n C dX10_placeInRanking_0 rfl ?_
  refine tt_get C hok jk_11 5 (by decide) jw_34b8702fe2 (t := (2, 9, 0)) hk0 (by decide) rfl rfl dX10_placeInRanking_1 (fun v_1 hv_1 hf_2 => ?_)
  obtain ⟨a_3, rfl, ka_3⟩ := tt_vr hv_1
  refine jj_aload_n C dX10_placeInRanking_4 rfl ?_
  refine tt_get C hok jk_11 3 (by decide) jw_f82a97e333 (t := (2, 1, 0)) hk0 (by decide) rfl rfl dX10_placeInRanking_5 (fun v_4 hv_4 hf_5 => ?_)
  obtain ⟨a_6, rfl, ka_6⟩ := tt_vr hv_4
  refine jj_iload_n C dX10_placeInRanking_8 rfl ?_
  refine jj_iconst (v := 0) C dX10_placeInRanking_9 (by decide) ?_
  obtain ⟨qc, gs, hqc⟩ := tt_recv (cx := []) hok ka_3 (by decide) rfl
  refine tt_callV (rest := []) C (tc_X1_payAfterRate_12 hl D cA ak a_3 a_6 p1 ka_3 ka_6 (by omega) (by omega) hok) [] [] rfl rfl (by decide) (by decide) (by decide) qc hqc rfl rfl jw_40c49444b1 jw_86c6c6dedf jw_610440679d jw_944cf9c3ab jw_8658218399 jn_X1_payAfterRate rfl (jj_le rfl) (jj_le rfl) (jj_le rfl) (jj_le rfl) (jj_le rfl) dX10_placeInRanking_10 rfl (fun _ _ _ hX => hX.elim) (fun rx pl_7 r O_10 => ?_)
  obtain ⟨rfl, hok_8, hr_9, hfa9, hR_12⟩ := O_10
  replace hf_2 := hr_9.at hk0 (by decide) (by decide) hf_2
  replace hf_5 := hr_9.at hk0 (by decide) (by decide) hf_5
  replace hfr := hfr.trans (hr_9.sub (by decide))
  replace hfa := hfa.trans (hfa9.sub (by decide))
  obtain ⟨y_15, rfl⟩ := hR_12
  refine jj_lstore_n C dX10_placeInRanking_13 (by decide) rfl ?_
  refine jj_iconst (v := 0) C dX10_placeInRanking_14 (by decide) ?_
  refine jj_istore C dX10_placeInRanking_15 (by decide) rfl ?_
  refine jj_iconst (v := 0) C dX10_placeInRanking_17 (by decide) ?_
  refine jj_istore C dX10_placeInRanking_18 (by decide) rfl ?_
  have hL_16 : ∀ (N : Nat) (pl : va_W) (x_17 : Int32) (x_18 : Int32), True → tt_ok tt_tk cA Kd pl → tt_fr Kd [(2, 0), (2, 1), (2, 2), (2, 3), (2, 4), (9, 1), (9, 2), (9, 3), (9, 4), (9, 5)] pl0 pl → tt_fa Kd [] pl0 pl → tt_at pl h0 5 (.ref a_3) → tt_at pl h0 3 (.ref a_6) → (0 : Int) ≤ x_17.toInt → x_17.toInt ≤ 2147483647 → (-2147483648 : Int) ≤ x_18.toInt → x_18.toInt ≤ 2147483647 → (2147483648 - x_17.toInt ≤ (N : Int)) → jj_J p l e (jj_rm 4 111 0 0) s m args below meth c 8 A (vx_MQ below (jj_q D A (tt_O (fun rx pl1 r => rx = [] ∧ tt_ok tt_tk cA Kd pl1 ∧ tt_fr Kd [(2, 0), (2, 1), (2, 2), (2, 3), (2, 4), (9, 1), (9, 2), (9, 3), (9, 4), (9, 5)] pl0 pl1 ∧ tt_fa Kd [] pl0 pl1 ∧ ((∃ v : Int32, (-2147483648 : Int) ≤ v.toInt ∧ v.toInt ≤ 2147483647 ∧ r = some (.int v)))))) (jj_x D A (tt_OX (fun _ _ _ => False))) args s 0 0 A) (jj_X D A ([] ++ pl)) 0 0 20 [(5, .int x_17), (4, .int x_18), (2, .long y_15), (0, .ref h0), (1, .int p1)] [] := by
    intro NL_16
    induction NL_16 with
    | zero => intro pl x_17 x_18 _ hok hfr hfa hf_19 hf_20 lx_17 ux_17 lx_18 ux_18 hNL_16; exfalso; omega
    | succ NL_16 ihL_16 =>
      intro pl x_17 x_18 _ hok hfr hfa hf_19 hf_20 lx_17 ux_17 lx_18 ux_18 hNL_16
      replace ihL_16 := fun pl x_17 x_18 h1 => ihL_16 pl x_17 x_18 trivial h1
      refine jj_iload C dX10_placeInRanking_20 rfl ?_
      refine jj_aload_n C dX10_placeInRanking_22 rfl ?_
      refine tt_getF C hok jk_11 3 (by decide) jw_f82a97e333 (t := (2, 1, 0)) hk0 (by decide) rfl rfl hf_20 dX10_placeInRanking_23 ?_
      refine tt_get C hok jk_2 0 (by decide) jw_ea0f6256bc (t := (0, (-2147483648), 2147483647)) ka_6 (by decide) rfl rfl dX10_placeInRanking_26 (fun v_21 hv_21 hf_22 => ?_)
      obtain ⟨x_23, rfl, lx_23, ux_23⟩ := tt_vi hv_21
      refine jj_icmp_ge (tgt := 77) C dX10_placeInRanking_29 (by decide) (fun c_24 => ?_) (fun c_24 => ?_)
      · have z_c_24 := jc_le (a := (x_23).toInt) (b := (x_17).toInt) c_24 rfl rfl
        refine jj_iload C dX10_placeInRanking_77 rfl ?_
        exact jj_iret C ⟨[], pl, rfl, rfl, hok, hfr, hfa, ⟨x_18, (by first | omega | exact tt_lo _ | exact tt_hi _), (by first | omega | exact tt_lo _ | exact tt_hi _), rfl⟩⟩ dX10_placeInRanking_79 (jj_le rfl) (jj_le rfl)
      · have z_c_24 := jc_nle (a := (x_23).toInt) (b := (x_17).toInt) c_24 rfl rfl
        refine jj_aload_n C dX10_placeInRanking_32 rfl ?_
        refine tt_getF C hok jk_11 5 (by decide) jw_34b8702fe2 (t := (2, 9, 0)) hk0 (by decide) rfl rfl hf_19 dX10_placeInRanking_33 ?_
        refine jj_aload_n C dX10_placeInRanking_36 rfl ?_
        refine tt_getF C hok jk_11 3 (by decide) jw_f82a97e333 (t := (2, 1, 0)) hk0 (by decide) rfl rfl hf_20 dX10_placeInRanking_37 ?_
        refine jj_iload C dX10_placeInRanking_40 rfl ?_
        refine jj_iconst (v := 0) C dX10_placeInRanking_42 (by decide) ?_
        obtain ⟨qc, gs, hqc⟩ := tt_recv (cx := []) hok ka_3 (by decide) rfl
        refine tt_callV (rest := []) C (tc_X1_payAfterRate_15 hl D cA ak a_3 a_6 x_17 ka_3 ka_6 hok) [] [] rfl rfl (by decide) (by decide) (by decide) qc hqc rfl rfl jw_40c49444b1 jw_86c6c6dedf jw_610440679d jw_944cf9c3ab jw_8658218399 jn_X1_payAfterRate rfl (jj_le rfl) (jj_le rfl) (jj_le rfl) (jj_le rfl) (jj_le rfl) dX10_placeInRanking_43 rfl (fun _ _ _ hX => hX.elim) (fun rx pl_25 r O_28 => ?_)
        obtain ⟨rfl, hok_26, hr_27, hfa9, hR_30⟩ := O_28
        replace hf_19 := hr_27.at hk0 (by decide) (by decide) hf_19
        replace hf_20 := hr_27.at hk0 (by decide) (by decide) hf_20
        replace hf_22 := hr_27.at ka_6 (by decide) (by decide) hf_22
        replace hfr := hfr.trans (hr_27.sub (by decide))
        replace hfa := hfa.trans (hfa9.sub (by decide))
        obtain ⟨y_33, rfl⟩ := hR_30
        refine jj_lstore C dX10_placeInRanking_46 (by decide) rfl ?_
        refine jj_lload C dX10_placeInRanking_48 rfl ?_
        refine jj_lload_n C dX10_placeInRanking_50 rfl ?_
        refine jj_lcmp_gt (tgt := 68) C dX10_placeInRanking_51 dX10_placeInRanking_52 (by decide) (fun c_34 => ?_) (fun c_34 => ?_)
        · obtain ⟨x_35, ex_35⟩ : ∃ z : Int32, x_18 + Int32.ofInt 1 = z := ⟨_, rfl⟩
          refine jj_iinc (v := x_35) C dX10_placeInRanking_68 rfl ex_35 (by decide) rfl ?_
          obtain ⟨x_36, ex_36, vx_36⟩ := tt_inc (x := x_17) (n := 1) (by omega) (by omega)
          refine jj_iinc (v := x_36) C dX10_placeInRanking_71 rfl ex_36 (by decide) rfl ?_
          refine jj_goto (tgt := 20) C dX10_placeInRanking_74 (by decide) ?_
          refine jj_loc [0, 1, 3, 4, 5] rfl ?_
          exact ihL_16 pl_25 x_36 x_35 hok_26 hfr hfa hf_19 hf_20 (by first | omega | decide | exact tt_lo _ | exact tt_hi _) (by first | omega | decide | exact tt_lo _ | exact tt_hi _) (by first | omega | decide | exact tt_lo _ | exact tt_hi _) (by first | omega | decide | exact tt_lo _ | exact tt_hi _) (by first | omega | decide | exact tt_lo _ | exact tt_hi _)
        · refine jj_lload C dX10_placeInRanking_55 rfl ?_
          refine jj_lload_n C dX10_placeInRanking_57 rfl ?_
          refine jj_lcmp_ne (tgt := 71) C dX10_placeInRanking_58 dX10_placeInRanking_59 (by decide) (fun c_37 => ?_) (fun c_37 => ?_)
          · obtain ⟨x_38, ex_38, vx_38⟩ := tt_inc (x := x_17) (n := 1) (by omega) (by omega)
            refine jj_iinc (v := x_38) C dX10_placeInRanking_71 rfl ex_38 (by decide) rfl ?_
            refine jj_goto (tgt := 20) C dX10_placeInRanking_74 (by decide) ?_
            refine jj_loc [0, 2, 3, 4, 5] rfl ?_
            exact ihL_16 pl_25 x_38 x_18 hok_26 hfr hfa hf_19 hf_20 (by first | omega | decide | exact tt_lo _ | exact tt_hi _) (by first | omega | decide | exact tt_lo _ | exact tt_hi _) (by first | omega | decide | exact tt_lo _ | exact tt_hi _) (by first | omega | decide | exact tt_lo _ | exact tt_hi _) (by first | omega | decide | exact tt_lo _ | exact tt_hi _)
          · refine jj_iload C dX10_placeInRanking_62 rfl ?_
            refine jj_iload_n C dX10_placeInRanking_64 rfl ?_
            refine jj_icmp_ge (tgt := 71) C dX10_placeInRanking_65 (by decide) (fun c_39 => ?_) (fun c_39 => ?_)
            · have z_c_39 := jc_le (a := (p1).toInt) (b := (x_17).toInt) c_39 rfl rfl
              obtain ⟨x_40, ex_40, vx_40⟩ := tt_inc (x := x_17) (n := 1) (by omega) (by omega)
              refine jj_iinc (v := x_40) C dX10_placeInRanking_71 rfl ex_40 (by decide) rfl ?_
              refine jj_goto (tgt := 20) C dX10_placeInRanking_74 (by decide) ?_
              refine jj_loc [0, 2, 3, 4, 5] rfl ?_
              exact ihL_16 pl_25 x_40 x_18 hok_26 hfr hfa hf_19 hf_20 (by first | omega | decide | exact tt_lo _ | exact tt_hi _) (by first | omega | decide | exact tt_lo _ | exact tt_hi _) (by first | omega | decide | exact tt_lo _ | exact tt_hi _) (by first | omega | decide | exact tt_lo _ | exact tt_hi _) (by first | omega | decide | exact tt_lo _ | exact tt_hi _)
            · have z_c_39 := jc_nle (a := (p1).toInt) (b := (x_17).toInt) c_39 rfl rfl
              obtain ⟨x_41, ex_41⟩ : ∃ z : Int32, x_18 + Int32.ofInt 1 = z := ⟨_, rfl⟩
              refine jj_iinc (v := x_41) C dX10_placeInRanking_68 rfl ex_41 (by decide) rfl ?_
              obtain ⟨x_42, ex_42, vx_42⟩ := tt_inc (x := x_17) (n := 1) (by omega) (by omega)
              refine jj_iinc (v := x_42) C dX10_placeInRanking_71 rfl ex_42 (by decide) rfl ?_
              refine jj_goto (tgt := 20) C dX10_placeInRanking_74 (by decide) ?_
              refine jj_loc [0, 1, 3, 4, 5] rfl ?_
              exact ihL_16 pl_25 x_42 x_41 hok_26 hfr hfa hf_19 hf_20 (by first | omega | decide | exact tt_lo _ | exact tt_hi _) (by first | omega | decide | exact tt_lo _ | exact tt_hi _) (by first | omega | decide | exact tt_lo _ | exact tt_hi _) (by first | omega | decide | exact tt_lo _ | exact tt_hi _) (by first | omega | decide | exact tt_lo _ | exact tt_hi _)
  exact hL_16 _ pl_7 (0 : Int32) (0 : Int32) trivial hok_8 hfr hfa hf_2 hf_5 (by first | omega | decide | exact tt_lo _ | exact tt_hi _) (by first | omega | decide | exact tt_lo _ | exact tt_hi _) (by first | omega | decide | exact tt_lo _ | exact tt_hi _) (by first | omega | decide | exact tt_lo _ | exact tt_hi _) (Int.self_le_toNat _)

set_option maxHeartbeats 4000000 in
set_option maxRecDepth 100000 in
theorem tc_X10_placeInRanking_12 {l : Launch} (hl : l.stackTraces = false) (D : va_G) (cA : Nat → ClassId) (ak : (Nat → Nat) × (Nat → Nat)) {Kd : Nat → Nat} (h0 : Nat) (p1 : Int32) (hk0 : Kd h0 = 15) (lp1 : (0 : Int) ≤ p1.toInt) (up1 : p1.toInt ≤ 400) {pl0 : va_W} (hok : tt_ok tt_tk cA Kd pl0) : jj_M l D cA ak yX10_placeInRanking (.code yX10_placeInRanking cX10_placeInRanking 8 (some .int)) 4 111 0 0 ([] ++ pl0) [.ref h0, .int p1] (tt_O (fun rx pl1 r => rx = [] ∧ tt_ok tt_tk cA Kd pl1 ∧ tt_fr Kd [(2, 0), (2, 1), (2, 2), (2, 3), (2, 4), (9, 1), (9, 2), (9, 3), (9, 4), (9, 5)] pl0 pl1 ∧ tt_fa Kd [] pl0 pl1 ∧ ((∃ v : Int32, (-2147483648 : Int) ≤ v.toInt ∧ v.toInt ≤ 2147483647 ∧ r = some (.int v))))) (tt_OX (fun _ _ _ => False)) := by
  refine jj_start hl (by decide) jw_1d9aa5a1ce (jj_le rfl) ?_
  intro p e s m args below meth c A hargs hA C hex hmn
  have hfr := tt_fr.refl (K := Kd) (WS := [(2, 0), (2, 1), (2, 2), (2, 3), (2, 4), (9, 1), (9, 2), (9, 3), (9, 4), (9, 5)]) pl0
  have hfa := tt_fa.refl (K := Kd) (WA := []) pl0
  refine jj_aload_n C dX10_placeInRanking_0 rfl ?_
  refine tt_get C hok jk_11 5 (by decide) jw_34b8702fe2 (t := (2, 9, 0)) hk0 (by decide) rfl rfl dX10_placeInRanking_1 (fun v_1 hv_1 hf_2 => ?_)
  obtain ⟨a_3, rfl, ka_3⟩ := tt_vr hv_1
  refine jj_aload_n C dX10_placeInRanking_4 rfl ?_
  refine tt_get C hok jk_11 3 (by decide) jw_f82a97e333 (t := (2, 1, 0)) hk0 (by decide) rfl rfl dX10_placeInRanking_5 (fun v_4 hv_4 hf_5 => ?_)
  obtain ⟨a_6, rfl, ka_6⟩ := tt_vr hv_4
  refine jj_iload_n C dX10_placeInRanking_8 rfl ?_
  refine jj_iconst (v := 0) C dX10_placeInRanking_9 (by decide) ?_
  obtain ⟨qc, gs, hqc⟩ := tt_recv (cx := []) hok ka_3 (by decide) rfl
  refine tt_callV (rest := []) C (tc_X1_payAfterRate_13 hl D cA ak a_3 a_6 p1 ka_3 ka_6 (by omega) (by omega) hok) [] [] rfl rfl (by decide) (by decide) (by decide) qc hqc rfl rfl jw_40c49444b1 jw_86c6c6dedf jw_610440679d jw_944cf9c3ab jw_8658218399 jn_X1_payAfterRate rfl (jj_le rfl) (jj_le rfl) (jj_le rfl) (jj_le rfl) (jj_le rfl) dX10_placeInRanking_10 rfl (fun _ _ _ hX => hX.elim) (fun rx pl_7 r O_10 => ?_)
  obtain ⟨rfl, hok_8, hr_9, hfa9, hR_12⟩ := O_10
  replace hf_2 := hr_9.at hk0 (by decide) (by decide) hf_2
  replace hf_5 := hr_9.at hk0 (by decide) (by decide) hf_5
  replace hfr := hfr.trans (hr_9.sub (by decide))
  replace hfa := hfa.trans (hfa9.sub (by decide))
  obtain ⟨y_15, rfl⟩ := hR_12
  refine jj_lstore_n C dX10_placeInRanking_13 (by decide) rfl ?_
  refine jj_iconst (v := 0) C dX10_placeInRanking_14 (by decide) ?_
  refine jj_istore C dX10_placeInRanking_15 (by decide) rfl ?_
  refine jj_iconst (v := 0) C dX10_placeInRanking_17 (by decide) ?_
  refine jj_istore C dX10_placeInRanking_18 (by decide) rfl ?_
  have hL_16 : ∀ (N : Nat) (pl : va_W) (x_17 : Int32) (x_18 : Int32), True → tt_ok tt_tk cA Kd pl → tt_fr Kd [(2, 0), (2, 1), (2, 2), (2, 3), (2, 4), (9, 1), (9, 2), (9, 3), (9, 4), (9, 5)] pl0 pl → tt_fa Kd [] pl0 pl → tt_at pl h0 5 (.ref a_3) → tt_at pl h0 3 (.ref a_6) → (0 : Int) ≤ x_17.toInt → x_17.toInt ≤ 2147483647 → (-2147483648 : Int) ≤ x_18.toInt → x_18.toInt ≤ 2147483647 → (2147483648 - x_17.toInt ≤ (N : Int)) → jj_J p l e (jj_rm 4 111 0 0) s m args below meth c 8 A (vx_MQ below (jj_q D A (tt_O (fun rx pl1 r => rx = [] ∧ tt_ok tt_tk cA Kd pl1 ∧ tt_fr Kd [(2, 0), (2, 1), (2, 2), (2, 3), (2, 4), (9, 1), (9, 2), (9, 3), (9, 4), (9, 5)] pl0 pl1 ∧ tt_fa Kd [] pl0 pl1 ∧ ((∃ v : Int32, (-2147483648 : Int) ≤ v.toInt ∧ v.toInt ≤ 2147483647 ∧ r = some (.int v)))))) (jj_x D A (tt_OX (fun _ _ _ => False))) args s 0 0 A) (jj_X D A ([] ++ pl)) 0 0 20 [(5, .int x_17), (4, .int x_18), (2, .long y_15), (0, .ref h0), (1, .int p1)] [] := by
    intro NL_16
    induction NL_16 with
    | zero => intro pl x_17 x_18 _ hok hfr hfa hf_19 hf_20 lx_17 ux_17 lx_18 ux_18 hNL_16; exfalso; omega
    | succ NL_16 ihL_16 =>
      intro pl x_17 x_18 _ hok hfr hfa hf_19 hf_20 lx_17 ux_17 lx_18 ux_18 hNL_16
      replace ihL_16 := fun pl x_17 x_18 h1 => ihL_16 pl x_17 x_18 trivial h1
      refine jj_iload C dX10_placeInRanking_20 rfl ?_
      refine jj_aload_n C dX10_placeInRanking_22 rfl ?_
      refine tt_getF C hok jk_11 3 (by decide) jw_f82a97e333 (t := (2, 1, 0)) hk0 (by decide) rfl rfl hf_20 dX10_placeInRanking_23 ?_
      refine tt_get C hok jk_2 0 (by decide) jw_ea0f6256bc (t := (0, (-2147483648), 2147483647)) ka_6 (by decide) rfl rfl dX10_placeInRanking_26 (fun v_21 hv_21 hf_22 => ?_)
      obtain ⟨x_23, rfl, lx_23, ux_23⟩ := tt_vi hv_21
      refine jj_icmp_ge (tgt := 77) C dX10_placeInRanking_29 (by decide) (fun c_24 => ?_) (fun c_24 => ?_)
      · have z_c_24 := jc_le (a := (x_23).toInt) (b := (x_17).toInt) c_24 rfl rfl
        refine jj_iload C dX10_placeInRanking_77 rfl ?_
        exact jj_iret C ⟨[], pl, rfl, rfl, hok, hfr, hfa, ⟨x_18, (by first | omega | exact tt_lo _ | exact tt_hi _), (by first | omega | exact tt_lo _ | exact tt_hi _), rfl⟩⟩ dX10_placeInRanking_79 (jj_le rfl) (jj_le rfl)
      · have z_c_24 := jc_nle (a := (x_23).toInt) (b := (x_17).toInt) c_24 rfl rfl
        refine jj_aload_n C dX10_placeInRanking_32 rfl ?_
        refine tt_getF C hok jk_11 5 (by decide) jw_34b8702fe2 (t := (2, 9, 0)) hk0 (by decide) rfl rfl hf_19 dX10_placeInRanking_33 ?_
        refine jj_aload_n C dX10_placeInRanking_36 rfl ?_
        refine tt_getF C hok jk_11 3 (by decide) jw_f82a97e333 (t := (2, 1, 0)) hk0 (by decide) rfl rfl hf_20 dX10_placeInRanking_37 ?_
        refine jj_iload C dX10_placeInRanking_40 rfl ?_
        refine jj_iconst (v := 0) C dX10_placeInRanking_42 (by decide) ?_
        obtain ⟨qc, gs, hqc⟩ := tt_recv (cx := []) hok ka_3 (by decide) rfl
        refine tt_callV (rest := []) C (tc_X1_payAfterRate_15 hl D cA ak a_3 a_6 x_17 ka_3 ka_6 hok) [] [] rfl rfl (by decide) (by decide) (by decide) qc hqc rfl rfl jw_40c49444b1 jw_86c6c6dedf jw_610440679d jw_944cf9c3ab jw_8658218399 jn_X1_payAfterRate rfl (jj_le rfl) (jj_le rfl) (jj_le rfl) (jj_le rfl) (jj_le rfl) dX10_placeInRanking_43 rfl (fun _ _ _ hX => hX.elim) (fun rx pl_25 r O_28 => ?_)
        obtain ⟨rfl, hok_26, hr_27, hfa9, hR_30⟩ := O_28
        replace hf_19 := hr_27.at hk0 (by decide) (by decide) hf_19
        replace hf_20 := hr_27.at hk0 (by decide) (by decide) hf_20
        replace hf_22 := hr_27.at ka_6 (by decide) (by decide) hf_22
        replace hfr := hfr.trans (hr_27.sub (by decide))
        replace hfa := hfa.trans (hfa9.sub (by decide))
        obtain ⟨y_33, rfl⟩ := hR_30
        refine jj_lstore C dX10_placeInRanking_46 (by decide) rfl ?_
        refine jj_lload C dX10_placeInRanking_48 rfl ?_
        refine jj_lload_n C dX10_placeInRanking_50 rfl ?_
        refine jj_lcmp_gt (tgt := 68) C dX10_placeInRanking_51 dX10_placeInRanking_52 (by decide) (fun c_34 => ?_) (fun c_34 => ?_)
        · obtain ⟨x_35, ex_35⟩ : ∃ z : Int32, x_18 + Int32.ofInt 1 = z := ⟨_, rfl⟩
          refine jj_iinc (v := x_35) C dX10_placeInRanking_68 rfl ex_35 (by decide) rfl ?_
          obtain ⟨x_36, ex_36, vx_36⟩ := tt_inc (x := x_17) (n := 1) (by omega) (by omega)
          refine jj_iinc (v := x_36) C dX10_placeInRanking_71 rfl ex_36 (by decide) rfl ?_
          refine jj_goto (tgt := 20) C dX10_placeInRanking_74 (by decide) ?_
          refine jj_loc [0, 1, 3, 4, 5] rfl ?_
          exact ihL_16 pl_25 x_36 x_35 hok_26 hfr hfa hf_19 hf_20 (by first | omega | decide | exact tt_lo _ | exact tt_hi _) (by first | omega | decide | exact tt_lo _ | exact tt_hi _) (by first | omega | decide | exact tt_lo _ | exact tt_hi _) (by first | omega | decide | exact tt_lo _ | exact tt_hi _) (by first | omega | decide | exact tt_lo _ | exact tt_hi _)
        · refine jj_lload C dX10_placeInRanking_55 rfl ?_
          refine jj_lload_n C dX10_placeInRanking_57 rfl ?_
          refine jj_lcmp_ne (tgt := 71) C dX10_placeInRanking_58 dX10_placeInRanking_59 (by decide) (fun c_37 => ?_) (fun c_37 => ?_)
          · obtain ⟨x_38, ex_38, vx_38⟩ := tt_inc (x := x_17) (n := 1) (by omega) (by omega)
            refine jj_iinc (v := x_38) C dX10_placeInRanking_71 rfl ex_38 (by decide) rfl ?_
            refine jj_goto (tgt := 20) C dX10_placeInRanking_74 (by decide) ?_
            refine jj_loc [0, 2, 3, 4, 5] rfl ?_
            exact ihL_16 pl_25 x_38 x_18 hok_26 hfr hfa hf_19 hf_20 (by first | omega | decide | exact tt_lo _ | exact tt_hi _) (by first | omega | decide | exact tt_lo _ | exact tt_hi _) (by first | omega | decide | exact tt_lo _ | exact tt_hi _) (by first | omega | decide | exact tt_lo _ | exact tt_hi _) (by first | omega | decide | exact tt_lo _ | exact tt_hi _)
          · refine jj_iload C dX10_placeInRanking_62 rfl ?_
            refine jj_iload_n C dX10_placeInRanking_64 rfl ?_
            refine jj_icmp_ge (tgt := 71) C dX10_placeInRanking_65 (by decide) (fun c_39 => ?_) (fun c_39 => ?_)
            · have z_c_39 := jc_le (a := (p1).toInt) (b := (x_17).toInt) c_39 rfl rfl
              obtain ⟨x_40, ex_40, vx_40⟩ := tt_inc (x := x_17) (n := 1) (by omega) (by omega)
              refine jj_iinc (v := x_40) C dX10_placeInRanking_71 rfl ex_40 (by decide) rfl ?_
              refine jj_goto (tgt := 20) C dX10_placeInRanking_74 (by decide) ?_
              refine jj_loc [0, 2, 3, 4, 5] rfl ?_
              exact ihL_16 pl_25 x_40 x_18 hok_26 hfr hfa hf_19 hf_20 (by first | omega | decide | exact tt_lo _ | exact tt_hi _) (by first | omega | decide | exact tt_lo _ | exact tt_hi _) (by first | omega | decide | exact tt_lo _ | exact tt_hi _) (by first | omega | decide | exact tt_lo _ | exact tt_hi _) (by first | omega | decide | exact tt_lo _ | exact tt_hi _)
            · have z_c_39 := jc_nle (a := (p1).toInt) (b := (x_17).toInt) c_39 rfl rfl
              obtain ⟨x_41, ex_41⟩ : ∃ z : Int32, x_18 + Int32.ofInt 1 = z := ⟨_, rfl⟩
              refine jj_iinc (v := x_41) C dX10_placeInRanking_68 rfl ex_41 (by decide) rfl ?_
              obtain ⟨x_42, ex_42, vx_42⟩ := tt_inc (x := x_17) (n := 1) (by omega) (by omega)
              refine jj_iinc (v := x_42) C dX10_placeInRanking_71 rfl ex_42 (by decide) rfl ?_
              refine jj_goto (tgt := 20) C dX10_placeInRanking_74 (by decide) ?_
              refine jj_loc [0, 1, 3, 4, 5] rfl ?_
              exact ihL_16 pl_25 x_42 x_41 hok_26 hfr hfa hf_19 hf_20 (by first | omega | decide | exact tt_lo _ | exact tt_hi _) (by first | omega | decide | exact tt_lo _ | exact tt_hi _) (by first | omega | decide | exact tt_lo _ | exact tt_hi _) (by first | omega | decide | exact tt_lo _ | exact tt_hi _) (by first | omega | decide | exact tt_lo _ | exact tt_hi _)
  exact hL_16 _ pl_7 (0 : Int32) (0 : Int32) trivial hok_8 hfr hfa hf_2 hf_5 (by first | omega | decide | exact tt_lo _ | exact tt_hi _) (by first | omega | decide | exact tt_lo _ | exact tt_hi _) (by first | omega | decide | exact tt_lo _ | exact tt_hi _) (by first | omega | decide | exact tt_lo _ | exact tt_hi _) (Int.self_le_toNat _)

set_option maxHeartbeats 4000000 in
set_option maxRecDepth 100000 in
theorem tc_X10_placeInRanking_13 {l : Launch} (hl : l.stackTraces = false) (D : va_G) (cA : Nat → ClassId) (ak : (Nat → Nat) × (Nat → Nat)) {Kd : Nat → Nat} (h0 : Nat) (p1 : Int32) (hk0 : Kd h0 = 15) (lp1 : (0 : Int) ≤ p1.toInt) (up1 : p1.toInt ≤ 1300) {pl0 : va_W} (hok : tt_ok tt_tk cA Kd pl0) : jj_M l D cA ak yX10_placeInRanking (.code yX10_placeInRanking cX10_placeInRanking 8 (some .int)) 4 111 0 0 ([] ++ pl0) [.ref h0, .int p1] (tt_O (fun rx pl1 r => rx = [] ∧ tt_ok tt_tk cA Kd pl1 ∧ tt_fr Kd [(2, 0), (2, 1), (2, 2), (2, 3), (2, 4), (9, 1), (9, 2), (9, 3), (9, 4), (9, 5)] pl0 pl1 ∧ tt_fa Kd [] pl0 pl1 ∧ ((∃ v : Int32, (-2147483648 : Int) ≤ v.toInt ∧ v.toInt ≤ 2147483647 ∧ r = some (.int v))))) (tt_OX (fun _ _ _ => False)) := by
  refine jj_start hl (by decide) jw_1d9aa5a1ce (jj_le rfl) ?_
  intro p e s m args below meth c A hargs hA C hex hmn
  have hfr := tt_fr.refl (K := Kd) (WS := [(2, 0), (2, 1), (2, 2), (2, 3), (2, 4), (9, 1), (9, 2), (9, 3), (9, 4), (9, 5)]) pl0
  have hfa := tt_fa.refl (K := Kd) (WA := []) pl0
  refine jj_aload_n C dX10_placeInRanking_0 rfl ?_
  refine tt_get C hok jk_11 5 (by decide) jw_34b8702fe2 (t := (2, 9, 0)) hk0 (by decide) rfl rfl dX10_placeInRanking_1 (fun v_1 hv_1 hf_2 => ?_)
  obtain ⟨a_3, rfl, ka_3⟩ := tt_vr hv_1
  refine jj_aload_n C dX10_placeInRanking_4 rfl ?_
  refine tt_get C hok jk_11 3 (by decide) jw_f82a97e333 (t := (2, 1, 0)) hk0 (by decide) rfl rfl dX10_placeInRanking_5 (fun v_4 hv_4 hf_5 => ?_)
  obtain ⟨a_6, rfl, ka_6⟩ := tt_vr hv_4
  refine jj_iload_n C dX10_placeInRanking_8 rfl ?_
  refine jj_iconst (v := 0) C dX10_placeInRanking_9 (by decide) ?_
  obtain ⟨qc, gs, hqc⟩ := tt_recv (cx := []) hok ka_3 (by decide) rfl
  refine tt_callV (rest := []) C (tc_X1_payAfterRate_14 hl D cA ak a_3 a_6 p1 ka_3 ka_6 (by omega) (by omega) hok) [] [] rfl rfl (by decide) (by decide) (by decide) qc hqc rfl rfl jw_40c49444b1 jw_86c6c6dedf jw_610440679d jw_944cf9c3ab jw_8658218399 jn_X1_payAfterRate rfl (jj_le rfl) (jj_le rfl) (jj_le rfl) (jj_le rfl) (jj_le rfl) dX10_placeInRanking_10 rfl (fun _ _ _ hX => hX.elim) (fun rx pl_7 r O_10 => ?_)
  obtain ⟨rfl, hok_8, hr_9, hfa9, hR_12⟩ := O_10
  replace hf_2 := hr_9.at hk0 (by decide) (by decide) hf_2
  replace hf_5 := hr_9.at hk0 (by decide) (by decide) hf_5
  replace hfr := hfr.trans (hr_9.sub (by decide))
  replace hfa := hfa.trans (hfa9.sub (by decide))
  obtain ⟨y_15, rfl⟩ := hR_12
  refine jj_lstore_n C dX10_placeInRanking_13 (by decide) rfl ?_
  refine jj_iconst (v := 0) C dX10_placeInRanking_14 (by decide) ?_
  refine jj_istore C dX10_placeInRanking_15 (by decide) rfl ?_
  refine jj_iconst (v := 0) C dX10_placeInRanking_17 (by decide) ?_
  refine jj_istore C dX10_placeInRanking_18 (by decide) rfl ?_
  have hL_16 : ∀ (N : Nat) (pl : va_W) (x_17 : Int32) (x_18 : Int32), True → tt_ok tt_tk cA Kd pl → tt_fr Kd [(2, 0), (2, 1), (2, 2), (2, 3), (2, 4), (9, 1), (9, 2), (9, 3), (9, 4), (9, 5)] pl0 pl → tt_fa Kd [] pl0 pl → tt_at pl h0 5 (.ref a_3) → tt_at pl h0 3 (.ref a_6) → (0 : Int) ≤ x_17.toInt → x_17.toInt ≤ 2147483647 → (-2147483648 : Int) ≤ x_18.toInt → x_18.toInt ≤ 2147483647 → (2147483648 - x_17.toInt ≤ (N : Int)) → jj_J p l e (jj_rm 4 111 0 0) s m args below meth c 8 A (vx_MQ below (jj_q D A (tt_O (fun rx pl1 r => rx = [] ∧ tt_ok tt_tk cA Kd pl1 ∧ tt_fr Kd [(2, 0), (2, 1), (2, 2), (2, 3), (2, 4), (9, 1), (9, 2), (9, 3), (9, 4), (9, 5)] pl0 pl1 ∧ tt_fa Kd [] pl0 pl1 ∧ ((∃ v : Int32, (-2147483648 : Int) ≤ v.toInt ∧ v.toInt ≤ 2147483647 ∧ r = some (.int v)))))) (jj_x D A (tt_OX (fun _ _ _ => False))) args s 0 0 A) (jj_X D A ([] ++ pl)) 0 0 20 [(5, .int x_17), (4, .int x_18), (2, .long y_15), (0, .ref h0), (1, .int p1)] [] := by
    intro NL_16
    induction NL_16 with
    | zero => intro pl x_17 x_18 _ hok hfr hfa hf_19 hf_20 lx_17 ux_17 lx_18 ux_18 hNL_16; exfalso; omega
    | succ NL_16 ihL_16 =>
      intro pl x_17 x_18 _ hok hfr hfa hf_19 hf_20 lx_17 ux_17 lx_18 ux_18 hNL_16
      replace ihL_16 := fun pl x_17 x_18 h1 => ihL_16 pl x_17 x_18 trivial h1
      refine jj_iload C dX10_placeInRanking_20 rfl ?_
      refine jj_aload_n C dX10_placeInRanking_22 rfl ?_
      refine tt_getF C hok jk_11 3 (by decide) jw_f82a97e333 (t := (2, 1, 0)) hk0 (by decide) rfl rfl hf_20 dX10_placeInRanking_23 ?_
      refine tt_get C hok jk_2 0 (by decide) jw_ea0f6256bc (t := (0, (-2147483648), 2147483647)) ka_6 (by decide) rfl rfl dX10_placeInRanking_26 (fun v_21 hv_21 hf_22 => ?_)
      obtain ⟨x_23, rfl, lx_23, ux_23⟩ := tt_vi hv_21
      refine jj_icmp_ge (tgt := 77) C dX10_placeInRanking_29 (by decide) (fun c_24 => ?_) (fun c_24 => ?_)
      · have z_c_24 := jc_le (a := (x_23).toInt) (b := (x_17).toInt) c_24 rfl rfl
        refine jj_iload C dX10_placeInRanking_77 rfl ?_
        exact jj_iret C ⟨[], pl, rfl, rfl, hok, hfr, hfa, ⟨x_18, (by first | omega | exact tt_lo _ | exact tt_hi _), (by first | omega | exact tt_lo _ | exact tt_hi _), rfl⟩⟩ dX10_placeInRanking_79 (jj_le rfl) (jj_le rfl)
      · have z_c_24 := jc_nle (a := (x_23).toInt) (b := (x_17).toInt) c_24 rfl rfl
        refine jj_aload_n C dX10_placeInRanking_32 rfl ?_
        refine tt_getF C hok jk_11 5 (by decide) jw_34b8702fe2 (t := (2, 9, 0)) hk0 (by decide) rfl rfl hf_19 dX10_placeInRanking_33 ?_
        refine jj_aload_n C dX10_placeInRanking_36 rfl ?_
        refine tt_getF C hok jk_11 3 (by decide) jw_f82a97e333 (t := (2, 1, 0)) hk0 (by decide) rfl rfl hf_20 dX10_placeInRanking_37 ?_
        refine jj_iload C dX10_placeInRanking_40 rfl ?_
        refine jj_iconst (v := 0) C dX10_placeInRanking_42 (by decide) ?_
        obtain ⟨qc, gs, hqc⟩ := tt_recv (cx := []) hok ka_3 (by decide) rfl
        refine tt_callV (rest := []) C (tc_X1_payAfterRate_15 hl D cA ak a_3 a_6 x_17 ka_3 ka_6 hok) [] [] rfl rfl (by decide) (by decide) (by decide) qc hqc rfl rfl jw_40c49444b1 jw_86c6c6dedf jw_610440679d jw_944cf9c3ab jw_8658218399 jn_X1_payAfterRate rfl (jj_le rfl) (jj_le rfl) (jj_le rfl) (jj_le rfl) (jj_le rfl) dX10_placeInRanking_43 rfl (fun _ _ _ hX => hX.elim) (fun rx pl_25 r O_28 => ?_)
        obtain ⟨rfl, hok_26, hr_27, hfa9, hR_30⟩ := O_28
        replace hf_19 := hr_27.at hk0 (by decide) (by decide) hf_19
        replace hf_20 := hr_27.at hk0 (by decide) (by decide) hf_20
        replace hf_22 := hr_27.at ka_6 (by decide) (by decide) hf_22
        replace hfr := hfr.trans (hr_27.sub (by decide))
        replace hfa := hfa.trans (hfa9.sub (by decide))
        obtain ⟨y_33, rfl⟩ := hR_30
        refine jj_lstore C dX10_placeInRanking_46 (by decide) rfl ?_
        refine jj_lload C dX10_placeInRanking_48 rfl ?_
        refine jj_lload_n C dX10_placeInRanking_50 rfl ?_
        refine jj_lcmp_gt (tgt := 68) C dX10_placeInRanking_51 dX10_placeInRanking_52 (by decide) (fun c_34 => ?_) (fun c_34 => ?_)
        · obtain ⟨x_35, ex_35⟩ : ∃ z : Int32, x_18 + Int32.ofInt 1 = z := ⟨_, rfl⟩
          refine jj_iinc (v := x_35) C dX10_placeInRanking_68 rfl ex_35 (by decide) rfl ?_
          obtain ⟨x_36, ex_36, vx_36⟩ := tt_inc (x := x_17) (n := 1) (by omega) (by omega)
          refine jj_iinc (v := x_36) C dX10_placeInRanking_71 rfl ex_36 (by decide) rfl ?_
          refine jj_goto (tgt := 20) C dX10_placeInRanking_74 (by decide) ?_
          refine jj_loc [0, 1, 3, 4, 5] rfl ?_
          exact ihL_16 pl_25 x_36 x_35 hok_26 hfr hfa hf_19 hf_20 (by first | omega | decide | exact tt_lo _ | exact tt_hi _) (by first | omega | decide | exact tt_lo _ | exact tt_hi _) (by first | omega | decide | exact tt_lo _ | exact tt_hi _) (by first | omega | decide | exact tt_lo _ | exact tt_hi _) (by first | omega | decide | exact tt_lo _ | exact tt_hi _)
        · refine jj_lload C dX10_placeInRanking_55 rfl ?_
          refine jj_lload_n C dX10_placeInRanking_57 rfl ?_
          refine jj_lcmp_ne (tgt := 71) C dX10_placeInRanking_58 dX10_placeInRanking_59 (by decide) (fun c_37 => ?_) (fun c_37 => ?_)
          · obtain ⟨x_38, ex_38, vx_38⟩ := tt_inc (x := x_17) (n := 1) (by omega) (by omega)
            refine jj_iinc (v := x_38) C dX10_placeInRanking_71 rfl ex_38 (by decide) rfl ?_
            refine jj_goto (tgt := 20) C dX10_placeInRanking_74 (by decide) ?_
            refine jj_loc [0, 2, 3, 4, 5] rfl ?_
            exact ihL_16 pl_25 x_38 x_18 hok_26 hfr hfa hf_19 hf_20 (by first | omega | decide | exact tt_lo _ | exact tt_hi _) (by first | omega | decide | exact tt_lo _ | exact tt_hi _) (by first | omega | decide | exact tt_lo _ | exact tt_hi _) (by first | omega | decide | exact tt_lo _ | exact tt_hi _) (by first | omega | decide | exact tt_lo _ | exact tt_hi _)
          · refine jj_iload C dX10_placeInRanking_62 rfl ?_
            refine jj_iload_n C dX10_placeInRanking_64 rfl ?_
            refine jj_icmp_ge (tgt := 71) C dX10_placeInRanking_65 (by decide) (fun c_39 => ?_) (fun c_39 => ?_)
            · have z_c_39 := jc_le (a := (p1).toInt) (b := (x_17).toInt) c_39 rfl rfl
              obtain ⟨x_40, ex_40, vx_40⟩ := tt_inc (x := x_17) (n := 1) (by omega) (by omega)
              refine jj_iinc (v := x_40) C dX10_placeInRanking_71 rfl ex_40 (by decide) rfl ?_
              refine jj_goto (tgt := 20) C dX10_placeInRanking_74 (by decide) ?_
              refine jj_loc [0, 2, 3, 4, 5] rfl ?_
              exact ihL_16 pl_25 x_40 x_18 hok_26 hfr hfa hf_19 hf_20 (by first | omega | decide | exact tt_lo _ | exact tt_hi _) (by first | omega | decide | exact tt_lo _ | exact tt_hi _) (by first | omega | decide | exact tt_lo _ | exact tt_hi _) (by first | omega | decide | exact tt_lo _ | exact tt_hi _) (by first | omega | decide | exact tt_lo _ | exact tt_hi _)
            · have z_c_39 := jc_nle (a := (p1).toInt) (b := (x_17).toInt) c_39 rfl rfl
              obtain ⟨x_41, ex_41⟩ : ∃ z : Int32, x_18 + Int32.ofInt 1 = z := ⟨_, rfl⟩
              refine jj_iinc (v := x_41) C dX10_placeInRanking_68 rfl ex_41 (by decide) rfl ?_
              obtain ⟨x_42, ex_42, vx_42⟩ := tt_inc (x := x_17) (n := 1) (by omega) (by omega)
              refine jj_iinc (v := x_42) C dX10_placeInRanking_71 rfl ex_42 (by decide) rfl ?_
              refine jj_goto (tgt := 20) C dX10_placeInRanking_74 (by decide) ?_
              refine jj_loc [0, 1, 3, 4, 5] rfl ?_
              exact ihL_16 pl_25 x_42 x_41 hok_26 hfr hfa hf_19 hf_20 (by first | omega | decide | exact tt_lo _ | exact tt_hi _) (by first | omega | decide | exact tt_lo _ | exact tt_hi _) (by first | omega | decide | exact tt_lo _ | exact tt_hi _) (by first | omega | decide | exact tt_lo _ | exact tt_hi _) (by first | omega | decide | exact tt_lo _ | exact tt_hi _)
  exact hL_16 _ pl_7 (0 : Int32) (0 : Int32) trivial hok_8 hfr hfa hf_2 hf_5 (by first | omega | decide | exact tt_lo _ | exact tt_hi _) (by first | omega | decide | exact tt_lo _ | exact tt_hi _) (by first | omega | decide | exact tt_lo _ | exact tt_hi _) (by first | omega | decide | exact tt_lo _ | exact tt_hi _) (Int.self_le_toNat _)

set_option maxHeartbeats 4000000 in
set_option maxRecDepth 100000 in
theorem tc_X10_placeInRanking_14 {l : Launch} (hl : l.stackTraces = false) (D : va_G) (cA : Nat → ClassId) (ak : (Nat → Nat) × (Nat → Nat)) {Kd : Nat → Nat} (h0 : Nat) (p1 : Int32) (hk0 : Kd h0 = 15) {pl0 : va_W} (hok : tt_ok tt_tk cA Kd pl0) : jj_M l D cA ak yX10_placeInRanking (.code yX10_placeInRanking cX10_placeInRanking 8 (some .int)) 4 111 0 0 ([] ++ pl0) [.ref h0, .int p1] (tt_O (fun rx pl1 r => rx = [] ∧ tt_ok tt_tk cA Kd pl1 ∧ tt_fr Kd [(2, 0), (2, 1), (2, 2), (2, 3), (2, 4), (9, 1), (9, 2), (9, 3), (9, 4), (9, 5)] pl0 pl1 ∧ tt_fa Kd [] pl0 pl1 ∧ ((∃ v : Int32, (-2147483648 : Int) ≤ v.toInt ∧ v.toInt ≤ 2147483647 ∧ r = some (.int v))))) (tt_OX (fun _ _ _ => False)) := by
  refine jj_start hl (by decide) jw_1d9aa5a1ce (jj_le rfl) ?_
  intro p e s m args below meth c A hargs hA C hex hmn
  have hfr := tt_fr.refl (K := Kd) (WS := [(2, 0), (2, 1), (2, 2), (2, 3), (2, 4), (9, 1), (9, 2), (9, 3), (9, 4), (9, 5)]) pl0
  have hfa := tt_fa.refl (K := Kd) (WA := []) pl0
  have lp1 := tt_lo p1
  have up1 := tt_hi p1
  refine jj_aload_n C dX10_placeInRanking_0 rfl ?_
  refine tt_get C hok jk_11 5 (by decide) jw_34b8702fe2 (t := (2, 9, 0)) hk0 (by decide) rfl rfl dX10_placeInRanking_1 (fun v_1 hv_1 hf_2 => ?_)
  obtain ⟨a_3, rfl, ka_3⟩ := tt_vr hv_1
  refine jj_aload_n C dX10_placeInRanking_4 rfl ?_
  refine tt_get C hok jk_11 3 (by decide) jw_f82a97e333 (t := (2, 1, 0)) hk0 (by decide) rfl rfl dX10_placeInRanking_5 (fun v_4 hv_4 hf_5 => ?_)
  obtain ⟨a_6, rfl, ka_6⟩ := tt_vr hv_4
  refine jj_iload_n C dX10_placeInRanking_8 rfl ?_
  refine jj_iconst (v := 0) C dX10_placeInRanking_9 (by decide) ?_
  obtain ⟨qc, gs, hqc⟩ := tt_recv (cx := []) hok ka_3 (by decide) rfl
  refine tt_callV (rest := []) C (tc_X1_payAfterRate_15 hl D cA ak a_3 a_6 p1 ka_3 ka_6 hok) [] [] rfl rfl (by decide) (by decide) (by decide) qc hqc rfl rfl jw_40c49444b1 jw_86c6c6dedf jw_610440679d jw_944cf9c3ab jw_8658218399 jn_X1_payAfterRate rfl (jj_le rfl) (jj_le rfl) (jj_le rfl) (jj_le rfl) (jj_le rfl) dX10_placeInRanking_10 rfl (fun _ _ _ hX => hX.elim) (fun rx pl_7 r O_10 => ?_)
  obtain ⟨rfl, hok_8, hr_9, hfa9, hR_12⟩ := O_10
  replace hf_2 := hr_9.at hk0 (by decide) (by decide) hf_2
  replace hf_5 := hr_9.at hk0 (by decide) (by decide) hf_5
  replace hfr := hfr.trans (hr_9.sub (by decide))
  replace hfa := hfa.trans (hfa9.sub (by decide))
  obtain ⟨y_15, rfl⟩ := hR_12
  refine jj_lstore_n C dX10_placeInRanking_13 (by decide) rfl ?_
  refine jj_iconst (v := 0) C dX10_placeInRanking_14 (by decide) ?_
  refine jj_istore C dX10_placeInRanking_15 (by decide) rfl ?_
  refine jj_iconst (v := 0) C dX10_placeInRanking_17 (by decide) ?_
  refine jj_istore C dX10_placeInRanking_18 (by decide) rfl ?_
  have hL_16 : ∀ (N : Nat) (pl : va_W) (x_17 : Int32) (x_18 : Int32), True → tt_ok tt_tk cA Kd pl → tt_fr Kd [(2, 0), (2, 1), (2, 2), (2, 3), (2, 4), (9, 1), (9, 2), (9, 3), (9, 4), (9, 5)] pl0 pl → tt_fa Kd [] pl0 pl → tt_at pl h0 5 (.ref a_3) → tt_at pl h0 3 (.ref a_6) → (0 : Int) ≤ x_17.toInt → x_17.toInt ≤ 2147483647 → (-2147483648 : Int) ≤ x_18.toInt → x_18.toInt ≤ 2147483647 → (2147483648 - x_17.toInt ≤ (N : Int)) → jj_J p l e (jj_rm 4 111 0 0) s m args below meth c 8 A (vx_MQ below (jj_q D A (tt_O (fun rx pl1 r => rx = [] ∧ tt_ok tt_tk cA Kd pl1 ∧ tt_fr Kd [(2, 0), (2, 1), (2, 2), (2, 3), (2, 4), (9, 1), (9, 2), (9, 3), (9, 4), (9, 5)] pl0 pl1 ∧ tt_fa Kd [] pl0 pl1 ∧ ((∃ v : Int32, (-2147483648 : Int) ≤ v.toInt ∧ v.toInt ≤ 2147483647 ∧ r = some (.int v)))))) (jj_x D A (tt_OX (fun _ _ _ => False))) args s 0 0 A) (jj_X D A ([] ++ pl)) 0 0 20 [(5, .int x_17), (4, .int x_18), (2, .long y_15), (0, .ref h0), (1, .int p1)] [] := by
    intro NL_16
    induction NL_16 with
    | zero => intro pl x_17 x_18 _ hok hfr hfa hf_19 hf_20 lx_17 ux_17 lx_18 ux_18 hNL_16; exfalso; omega
    | succ NL_16 ihL_16 =>
      intro pl x_17 x_18 _ hok hfr hfa hf_19 hf_20 lx_17 ux_17 lx_18 ux_18 hNL_16
      replace ihL_16 := fun pl x_17 x_18 h1 => ihL_16 pl x_17 x_18 trivial h1
      refine jj_iload C dX10_placeInRanking_20 rfl ?_
      refine jj_aload_n C dX10_placeInRanking_22 rfl ?_
      refine tt_getF C hok jk_11 3 (by decide) jw_f82a97e333 (t := (2, 1, 0)) hk0 (by decide) rfl rfl hf_20 dX10_placeInRanking_23 ?_
      refine tt_get C hok jk_2 0 (by decide) jw_ea0f6256bc (t := (0, (-2147483648), 2147483647)) ka_6 (by decide) rfl rfl dX10_placeInRanking_26 (fun v_21 hv_21 hf_22 => ?_)
      obtain ⟨x_23, rfl, lx_23, ux_23⟩ := tt_vi hv_21
      refine jj_icmp_ge (tgt := 77) C dX10_placeInRanking_29 (by decide) (fun c_24 => ?_) (fun c_24 => ?_)
      · have z_c_24 := jc_le (a := (x_23).toInt) (b := (x_17).toInt) c_24 rfl rfl
        refine jj_iload C dX10_placeInRanking_77 rfl ?_
        exact jj_iret C ⟨[], pl, rfl, rfl, hok, hfr, hfa, ⟨x_18, (by first | omega | exact tt_lo _ | exact tt_hi _), (by first | omega | exact tt_lo _ | exact tt_hi _), rfl⟩⟩ dX10_placeInRanking_79 (jj_le rfl) (jj_le rfl)
      · have z_c_24 := jc_nle (a := (x_23).toInt) (b := (x_17).toInt) c_24 rfl rfl
        refine jj_aload_n C dX10_placeInRanking_32 rfl ?_
        refine tt_getF C hok jk_11 5 (by decide) jw_34b8702fe2 (t := (2, 9, 0)) hk0 (by decide) rfl rfl hf_19 dX10_placeInRanking_33 ?_
        refine jj_aload_n C dX10_placeInRanking_36 rfl ?_
        refine tt_getF C hok jk_11 3 (by decide) jw_f82a97e333 (t := (2, 1, 0)) hk0 (by decide) rfl rfl hf_20 dX10_placeInRanking_37 ?_
        refine jj_iload C dX10_placeInRanking_40 rfl ?_
        refine jj_iconst (v := 0) C dX10_placeInRanking_42 (by decide) ?_
        obtain ⟨qc, gs, hqc⟩ := tt_recv (cx := []) hok ka_3 (by decide) rfl
        refine tt_callV (rest := []) C (tc_X1_payAfterRate_15 hl D cA ak a_3 a_6 x_17 ka_3 ka_6 hok) [] [] rfl rfl (by decide) (by decide) (by decide) qc hqc rfl rfl jw_40c49444b1 jw_86c6c6dedf jw_610440679d jw_944cf9c3ab jw_8658218399 jn_X1_payAfterRate rfl (jj_le rfl) (jj_le rfl) (jj_le rfl) (jj_le rfl) (jj_le rfl) dX10_placeInRanking_43 rfl (fun _ _ _ hX => hX.elim) (fun rx pl_25 r O_28 => ?_)
        obtain ⟨rfl, hok_26, hr_27, hfa9, hR_30⟩ := O_28
        replace hf_19 := hr_27.at hk0 (by decide) (by decide) hf_19
        replace hf_20 := hr_27.at hk0 (by decide) (by decide) hf_20
        replace hf_22 := hr_27.at ka_6 (by decide) (by decide) hf_22
        replace hfr := hfr.trans (hr_27.sub (by decide))
        replace hfa := hfa.trans (hfa9.sub (by decide))
        obtain ⟨y_33, rfl⟩ := hR_30
        refine jj_lstore C dX10_placeInRanking_46 (by decide) rfl ?_
        refine jj_lload C dX10_placeInRanking_48 rfl ?_
        refine jj_lload_n C dX10_placeInRanking_50 rfl ?_
        refine jj_lcmp_gt (tgt := 68) C dX10_placeInRanking_51 dX10_placeInRanking_52 (by decide) (fun c_34 => ?_) (fun c_34 => ?_)
        · obtain ⟨x_35, ex_35⟩ : ∃ z : Int32, x_18 + Int32.ofInt 1 = z := ⟨_, rfl⟩
          refine jj_iinc (v := x_35) C dX10_placeInRanking_68 rfl ex_35 (by decide) rfl ?_
          obtain ⟨x_36, ex_36, vx_36⟩ := tt_inc (x := x_17) (n := 1) (by omega) (by omega)
          refine jj_iinc (v := x_36) C dX10_placeInRanking_71 rfl ex_36 (by decide) rfl ?_
          refine jj_goto (tgt := 20) C dX10_placeInRanking_74 (by decide) ?_
          refine jj_loc [0, 1, 3, 4, 5] rfl ?_
          exact ihL_16 pl_25 x_36 x_35 hok_26 hfr hfa hf_19 hf_20 (by first | omega | decide | exact tt_lo _ | exact tt_hi _) (by first | omega | decide | exact tt_lo _ | exact tt_hi _) (by first | omega | decide | exact tt_lo _ | exact tt_hi _) (by first | omega | decide | exact tt_lo _ | exact tt_hi _) (by first | omega | decide | exact tt_lo _ | exact tt_hi _)
        · refine jj_lload C dX10_placeInRanking_55 rfl ?_
          refine jj_lload_n C dX10_placeInRanking_57 rfl ?_
          refine jj_lcmp_ne (tgt := 71) C dX10_placeInRanking_58 dX10_placeInRanking_59 (by decide) (fun c_37 => ?_) (fun c_37 => ?_)
          · obtain ⟨x_38, ex_38, vx_38⟩ := tt_inc (x := x_17) (n := 1) (by omega) (by omega)
            refine jj_iinc (v := x_38) C dX10_placeInRanking_71 rfl ex_38 (by decide) rfl ?_
            refine jj_goto (tgt := 20) C dX10_placeInRanking_74 (by decide) ?_
            refine jj_loc [0, 2, 3, 4, 5] rfl ?_
            exact ihL_16 pl_25 x_38 x_18 hok_26 hfr hfa hf_19 hf_20 (by first | omega | decide | exact tt_lo _ | exact tt_hi _) (by first | omega | decide | exact tt_lo _ | exact tt_hi _) (by first | omega | decide | exact tt_lo _ | exact tt_hi _) (by first | omega | decide | exact tt_lo _ | exact tt_hi _) (by first | omega | decide | exact tt_lo _ | exact tt_hi _)
          · refine jj_iload C dX10_placeInRanking_62 rfl ?_
            refine jj_iload_n C dX10_placeInRanking_64 rfl ?_
            refine jj_icmp_ge (tgt := 71) C dX10_placeInRanking_65 (by decide) (fun c_39 => ?_) (fun c_39 => ?_)
            · have z_c_39 := jc_le (a := (p1).toInt) (b := (x_17).toInt) c_39 rfl rfl
              obtain ⟨x_40, ex_40, vx_40⟩ := tt_inc (x := x_17) (n := 1) (by omega) (by omega)
              refine jj_iinc (v := x_40) C dX10_placeInRanking_71 rfl ex_40 (by decide) rfl ?_
              refine jj_goto (tgt := 20) C dX10_placeInRanking_74 (by decide) ?_
              refine jj_loc [0, 2, 3, 4, 5] rfl ?_
              exact ihL_16 pl_25 x_40 x_18 hok_26 hfr hfa hf_19 hf_20 (by first | omega | decide | exact tt_lo _ | exact tt_hi _) (by first | omega | decide | exact tt_lo _ | exact tt_hi _) (by first | omega | decide | exact tt_lo _ | exact tt_hi _) (by first | omega | decide | exact tt_lo _ | exact tt_hi _) (by first | omega | decide | exact tt_lo _ | exact tt_hi _)
            · have z_c_39 := jc_nle (a := (p1).toInt) (b := (x_17).toInt) c_39 rfl rfl
              obtain ⟨x_41, ex_41⟩ : ∃ z : Int32, x_18 + Int32.ofInt 1 = z := ⟨_, rfl⟩
              refine jj_iinc (v := x_41) C dX10_placeInRanking_68 rfl ex_41 (by decide) rfl ?_
              obtain ⟨x_42, ex_42, vx_42⟩ := tt_inc (x := x_17) (n := 1) (by omega) (by omega)
              refine jj_iinc (v := x_42) C dX10_placeInRanking_71 rfl ex_42 (by decide) rfl ?_
              refine jj_goto (tgt := 20) C dX10_placeInRanking_74 (by decide) ?_
              refine jj_loc [0, 1, 3, 4, 5] rfl ?_
              exact ihL_16 pl_25 x_42 x_41 hok_26 hfr hfa hf_19 hf_20 (by first | omega | decide | exact tt_lo _ | exact tt_hi _) (by first | omega | decide | exact tt_lo _ | exact tt_hi _) (by first | omega | decide | exact tt_lo _ | exact tt_hi _) (by first | omega | decide | exact tt_lo _ | exact tt_hi _) (by first | omega | decide | exact tt_lo _ | exact tt_hi _)
  exact hL_16 _ pl_7 (0 : Int32) (0 : Int32) trivial hok_8 hfr hfa hf_2 hf_5 (by first | omega | decide | exact tt_lo _ | exact tt_hi _) (by first | omega | decide | exact tt_lo _ | exact tt_hi _) (by first | omega | decide | exact tt_lo _ | exact tt_hi _) (by first | omega | decide | exact tt_lo _ | exact tt_hi _) (Int.self_le_toNat _)

set_option maxHeartbeats 4000000 in
set_option maxRecDepth 100000 in
theorem tc_X10_richest_1 {l : Launch} (hl : l.stackTraces = false) (D : va_G) (cA : Nat → ClassId) (ak : (Nat → Nat) × (Nat → Nat)) {Kd : Nat → Nat} (h0 : Nat) (p1 : Int32) (hk0 : Kd h0 = 15) {pl0 : va_W} (hok : tt_ok tt_tk cA Kd pl0) : jj_M l D cA ak yX10_richest (.code yX10_richest cX10_richest 3 (some .int)) 8 138 1 6 ([] ++ pl0) [.ref h0, .int p1] (tt_O (fun rx pl1 r => rx = [] ∧ tt_ok tt_tk cA Kd pl1 ∧ tt_fr Kd [(2, 0), (2, 1), (2, 2), (2, 3), (2, 4), (9, 1), (9, 2), (9, 3), (9, 4), (9, 5)] pl0 pl1 ∧ tt_fa Kd [] pl0 pl1 ∧ (((0 : Int) ≤ p1.toInt ∧ p1.toInt ≤ 2147483646 ∧ r = some (.int (-1))) ∨ (∃ v : Int32, (0 : Int) ≤ v.toInt ∧ v.toInt ≤ 2147483646 ∧ (0 : Int) ≤ p1.toInt ∧ p1.toInt ≤ 2147483646 ∧ r = some (.int v))))) (tt_OX (fun E rx pl1 => rx = [] ∧ tt_ok tt_tk cA Kd pl1 ∧ tt_fr Kd [(2, 0), (2, 1), (2, 2), (2, 3), (2, 4), (9, 1), (9, 2), (9, 3), (9, 4), (9, 5)] pl0 pl1 ∧ tt_fa Kd [] pl0 pl1 ∧ (E = "java/lang/IndexOutOfBoundsException"))) := by
  refine jj_start hl (by decide) jw_bbba4fb508 (jj_le rfl) ?_
  intro p e s m args below meth c A hargs hA C hex hmn
  have hfr := tt_fr.refl (K := Kd) (WS := [(2, 0), (2, 1), (2, 2), (2, 3), (2, 4), (9, 1), (9, 2), (9, 3), (9, 4), (9, 5)]) pl0
  have hfa := tt_fa.refl (K := Kd) (WA := []) pl0
  have lp1 := tt_lo p1
  have up1 := tt_hi p1
  refine jj_aload_n C dX10_richest_0 rfl ?_
  refine jj_iload_n C dX10_richest_1 rfl ?_
  obtain ⟨qc, gs, hqc⟩ := tt_recv (cx := []) hok hk0 (by decide) rfl
  refine tt_callV (rest := []) C (tc_X10_checkInvestor_1 hl D cA ak h0 p1 hk0 hok) [] [] rfl rfl (by decide) (by decide) (by decide) qc hqc rfl rfl jw_c489a67580 jw_a350a61418 jw_0e27b6f20c jw_6f6d707074 jw_a8b8d648f8 jn_X10_checkInvestor rfl (jj_le rfl) (jj_le rfl) (jj_le rfl) (jj_le rfl) (jj_le rfl) dX10_richest_2 rfl (fun E rx pl_1 X_5 => ?_) (fun rx pl_1 r O_4 => ?_)
  · obtain ⟨rfl, hok_2, hr_3, hfa9, hE_6⟩ := X_5
    replace hfr := hfr.trans (hr_3.sub (by decide))
    replace hfa := hfa.trans (hfa9.sub (by decide))
    obtain rfl := hE_6
    exact jj_out C hex ⟨[], pl_1, rfl, rfl, hok_2, hfr, hfa, rfl⟩ (jj_le rfl) (jj_le rfl)
  · obtain ⟨rfl, hok_2, hr_3, hfa9, hR_9⟩ := O_4
    replace hfr := hfr.trans (hr_3.sub (by decide))
    replace hfa := hfa.trans (hfa9.sub (by decide))
    obtain ⟨l_12, u_13, rfl⟩ := hR_9
    refine jj_iconst (v := 0) C dX10_richest_5 (by decide) ?_
    refine jj_istore_n C dX10_richest_6 (by decide) rfl ?_
    have hL_14 : ∀ (N : Nat) (pl : va_W) (x_15 : Int32), True → tt_ok tt_tk cA Kd pl → tt_fr Kd [(2, 0), (2, 1), (2, 2), (2, 3), (2, 4), (9, 1), (9, 2), (9, 3), (9, 4), (9, 5)] pl0 pl → tt_fa Kd [] pl0 pl → (0 : Int) ≤ x_15.toInt → x_15.toInt ≤ 2147483647 → (2147483648 - x_15.toInt ≤ (N : Int)) → jj_J p l e (jj_rm 8 138 1 6) s m args below meth c 3 A (vx_MQ below (jj_q D A (tt_O (fun rx pl1 r => rx = [] ∧ tt_ok tt_tk cA Kd pl1 ∧ tt_fr Kd [(2, 0), (2, 1), (2, 2), (2, 3), (2, 4), (9, 1), (9, 2), (9, 3), (9, 4), (9, 5)] pl0 pl1 ∧ tt_fa Kd [] pl0 pl1 ∧ (((0 : Int) ≤ p1.toInt ∧ p1.toInt ≤ 2147483646 ∧ r = some (.int (-1))) ∨ (∃ v : Int32, (0 : Int) ≤ v.toInt ∧ v.toInt ≤ 2147483646 ∧ (0 : Int) ≤ p1.toInt ∧ p1.toInt ≤ 2147483646 ∧ r = some (.int v)))))) (jj_x D A (tt_OX (fun E rx pl1 => rx = [] ∧ tt_ok tt_tk cA Kd pl1 ∧ tt_fr Kd [(2, 0), (2, 1), (2, 2), (2, 3), (2, 4), (9, 1), (9, 2), (9, 3), (9, 4), (9, 5)] pl0 pl1 ∧ tt_fa Kd [] pl0 pl1 ∧ (E = "java/lang/IndexOutOfBoundsException")))) args s 1 6 A) (jj_X D A ([] ++ pl)) 1 6 7 [(2, .int x_15), (0, .ref h0), (1, .int p1)] [] := by
      intro NL_14
      induction NL_14 with
      | zero => intro pl x_15 _ hok hfr hfa lx_15 ux_15 hNL_14; exfalso; omega
      | succ NL_14 ihL_14 =>
        intro pl x_15 _ hok hfr hfa lx_15 ux_15 hNL_14
        replace ihL_14 := fun pl x_15 h1 => ihL_14 pl x_15 trivial h1
        refine jj_iload_n C dX10_richest_7 rfl ?_
        refine jj_aload_n C dX10_richest_8 rfl ?_
        refine tt_get C hok jk_11 3 (by decide) jw_f82a97e333 (t := (2, 1, 0)) hk0 (by decide) rfl rfl dX10_richest_9 (fun v_16 hv_16 hf_17 => ?_)
        obtain ⟨a_18, rfl, ka_18⟩ := tt_vr hv_16
        refine tt_get C hok jk_2 0 (by decide) jw_ea0f6256bc (t := (0, (-2147483648), 2147483647)) ka_18 (by decide) rfl rfl dX10_richest_12 (fun v_19 hv_19 hf_20 => ?_)
        obtain ⟨x_21, rfl, lx_21, ux_21⟩ := tt_vi hv_19
        refine jj_icmp_ge (tgt := 35) C dX10_richest_15 (by decide) (fun c_22 => ?_) (fun c_22 => ?_)
        · have z_c_22 := jc_le (a := (x_21).toInt) (b := (x_15).toInt) c_22 rfl rfl
          refine jj_iconst (v := (-1)) C dX10_richest_35 (by decide) ?_
          exact jj_iret C ⟨[], pl, rfl, rfl, hok, hfr, hfa, (Or.inl ⟨(by first | omega | exact tt_lo _ | exact tt_hi _), (by first | omega | exact tt_lo _ | exact tt_hi _), rfl⟩)⟩ dX10_richest_36 (jj_le rfl) (jj_le rfl)
        · have z_c_22 := jc_nle (a := (x_21).toInt) (b := (x_15).toInt) c_22 rfl rfl
          refine jj_aload_n C dX10_richest_18 rfl ?_
          refine jj_iload_n C dX10_richest_19 rfl ?_
          obtain ⟨qc, gs, hqc⟩ := tt_recv (cx := []) hok hk0 (by decide) rfl
          refine tt_callV (rest := []) C (tc_X10_placeInRanking_14 hl D cA ak h0 x_15 hk0 hok) [] [] rfl rfl (by decide) (by decide) (by decide) qc hqc rfl rfl jw_3312ecfce8 jw_d5d710a83a jw_ac6b30ff33 jw_6f6d707074 jw_1d9aa5a1ce jn_X10_placeInRanking rfl (jj_le rfl) (jj_le rfl) (jj_le rfl) (jj_le rfl) (jj_le rfl) dX10_richest_20 rfl (fun _ _ _ hX => hX.elim) (fun rx pl_23 r O_26 => ?_)
          obtain ⟨rfl, hok_24, hr_25, hfa9, hR_28⟩ := O_26
          replace hf_17 := hr_25.at hk0 (by decide) (by decide) hf_17
          replace hf_20 := hr_25.at ka_18 (by decide) (by decide) hf_20
          replace hfr := hfr.trans (hr_25.sub (by decide))
          replace hfa := hfa.trans (hfa9.sub (by decide))
          obtain ⟨x_31, lx_31, ux_31, rfl⟩ := hR_28
          refine jj_iload_n C dX10_richest_23 rfl ?_
          refine jj_icmp_ne (tgt := 29) C dX10_richest_24 (by decide) (fun c_32 => ?_) (fun c_32 => ?_)
          · have z_c_32 := jc_neq (a := (x_31).toInt) (b := (p1).toInt) c_32 rfl rfl
            obtain ⟨x_33, ex_33, vx_33⟩ := tt_inc (x := x_15) (n := 1) (by omega) (by omega)
            refine jj_iinc (v := x_33) C dX10_richest_29 rfl ex_33 (by decide) rfl ?_
            refine jj_goto (tgt := 7) C dX10_richest_32 (by decide) ?_
            exact ihL_14 pl_23 x_33 hok_24 hfr hfa (by first | omega | decide | exact tt_lo _ | exact tt_hi _) (by first | omega | decide | exact tt_lo _ | exact tt_hi _) (by first | omega | decide | exact tt_lo _ | exact tt_hi _)
          · have z_c_32 := jc_eq (a := (x_31).toInt) (b := (p1).toInt) c_32 rfl rfl
            refine jj_iload_n C dX10_richest_27 rfl ?_
            exact jj_iret C ⟨[], pl_23, rfl, rfl, hok_24, hfr, hfa, (Or.inr ⟨x_15, (by first | omega | exact tt_lo _ | exact tt_hi _), (by first | omega | exact tt_lo _ | exact tt_hi _), (by first | omega | exact tt_lo _ | exact tt_hi _), (by first | omega | exact tt_lo _ | exact tt_hi _), rfl⟩)⟩ dX10_richest_28 (jj_le rfl) (jj_le rfl)
    exact hL_14 _ pl_1 (0 : Int32) trivial hok_2 hfr hfa (by first | omega | decide | exact tt_lo _ | exact tt_hi _) (by first | omega | decide | exact tt_lo _ | exact tt_hi _) (Int.self_le_toNat _)

set_option maxHeartbeats 4000000 in
set_option maxRecDepth 100000 in
theorem tc_X8_netPrice_1 {l : Launch} (hl : l.stackTraces = false) (D : va_G) (cA : Nat → ClassId) (ak : (Nat → Nat) × (Nat → Nat)) {Kd : Nat → Nat} (h0 : Nat) (p1 : Int32) (hk0 : Kd h0 = 2) {pl0 : va_W} (hok : tt_ok tt_tk cA Kd pl0) : jj_M l D cA ak yX8_netPrice (.code yX8_netPrice cX8_netPrice 2 (some .long)) 1 25 0 0 ([] ++ pl0) [.ref h0, .int p1] (tt_O (fun rx pl1 r => rx = [] ∧ tt_ok tt_tk cA Kd pl1 ∧ tt_fr Kd [] pl0 pl1 ∧ tt_fa Kd [] pl0 pl1 ∧ ((r = some (.long 1000000)) ∨ (∃ v : Int64, r = some (.long v))))) (tt_OX (fun _ _ _ => False)) := by
  refine jj_start hl (by decide) jw_9476451334 (jj_le rfl) ?_
  intro p e s m args below meth c A hargs hA C hex hmn
  have hfr := tt_fr.refl (K := Kd) (WS := []) pl0
  have hfa := tt_fa.refl (K := Kd) (WA := []) pl0
  have lp1 := tt_lo p1
  have up1 := tt_hi p1
  refine jj_aload_n C dX8_netPrice_0 rfl ?_
  refine jj_aload_n C dX8_netPrice_1 rfl ?_
  refine tt_get C hok jk_9 2 (by decide) jw_589ef22e6e (t := (1, (-9223372036854775808), 9223372036854775807)) hk0 (by decide) rfl rfl dX8_netPrice_2 (fun v_1 hv_1 hf_2 => ?_)
  obtain ⟨y_3, rfl, -, -⟩ := tt_vj hv_1
  refine jj_aload_n C dX8_netPrice_5 rfl ?_
  refine jj_iload_n C dX8_netPrice_6 rfl ?_
  obtain ⟨qc, gs, hqc⟩ := tt_recv (cx := []) hok hk0 (by decide) rfl
  refine tt_callV (rest := [.long y_3, .ref h0]) C (tc_X8_accruedFee_1 hl D cA ak h0 p1 hk0 hok) [] [] rfl rfl (by decide) (by decide) (by decide) qc hqc rfl rfl jw_51cf15601b jw_16e73d269e jw_e0ac78627f jw_364e75910d jw_449e8f4cf4 jn_X8_accruedFee rfl (jj_le rfl) (jj_le rfl) (jj_le rfl) (jj_le rfl) (jj_le rfl) dX8_netPrice_7 rfl (fun _ _ _ hX => hX.elim) (fun rx pl_4 r O_7 => ?_)
  obtain ⟨rfl, hok_5, hr_6, hfa9, hR_9⟩ := O_7
  replace hf_2 := hr_6.at hk0 (by decide) (by decide) hf_2
  replace hfr := hfr.trans (hr_6.sub (by decide))
  replace hfa := hfa.trans (hfa9.sub (by decide))
  rcases hR_9 with rfl | ⟨y_12, rfl⟩
  · obtain ⟨y_13, ey_13⟩ : ∃ z : Int64, y_3 - (0 : Int64) = z := ⟨_, rfl⟩
    refine jj_lsub (v := y_13) C dX8_netPrice_10 ey_13 ?_
    obtain ⟨qc, gs, hqc⟩ := tt_recv (cx := []) hok_5 hk0 (by decide) rfl
    refine tt_callV (rest := []) C (tc_X8_priceWith_1 hl D cA ak h0 y_13 hk0 hok_5) [] [] rfl rfl (by decide) (by decide) (by decide) qc hqc rfl rfl jw_3333aa6e09 jw_2e72231b40 jw_b9c09a9015 jw_364e75910d jw_62a4e9d3ce jn_X8_priceWith rfl (jj_le rfl) (jj_le rfl) (jj_le rfl) (jj_le rfl) (jj_le rfl) dX8_netPrice_11 rfl (fun _ _ _ hX => hX.elim) (fun rx pl_14 r O_17 => ?_)
    obtain ⟨rfl, hok_15, hr_16, hfa9, hR_19⟩ := O_17
    replace hf_2 := hr_16.at hk0 (by decide) (by decide) hf_2
    replace hfr := hfr.trans (hr_16.sub (by decide))
    replace hfa := hfa.trans (hfa9.sub (by decide))
    rcases hR_19 with rfl | ⟨y_22, rfl⟩
    · exact jj_lret C ⟨[], pl_14, rfl, rfl, hok_15, hfr, hfa, (Or.inl rfl)⟩ dX8_netPrice_14 (jj_le rfl) (jj_le rfl)
    · exact jj_lret C ⟨[], pl_14, rfl, rfl, hok_15, hfr, hfa, (Or.inr ⟨y_22, rfl⟩)⟩ dX8_netPrice_14 (jj_le rfl) (jj_le rfl)
  · obtain ⟨y_23, ey_23⟩ : ∃ z : Int64, y_3 - y_12 = z := ⟨_, rfl⟩
    refine jj_lsub (v := y_23) C dX8_netPrice_10 ey_23 ?_
    obtain ⟨qc, gs, hqc⟩ := tt_recv (cx := []) hok_5 hk0 (by decide) rfl
    refine tt_callV (rest := []) C (tc_X8_priceWith_1 hl D cA ak h0 y_23 hk0 hok_5) [] [] rfl rfl (by decide) (by decide) (by decide) qc hqc rfl rfl jw_3333aa6e09 jw_2e72231b40 jw_b9c09a9015 jw_364e75910d jw_62a4e9d3ce jn_X8_priceWith rfl (jj_le rfl) (jj_le rfl) (jj_le rfl) (jj_le rfl) (jj_le rfl) dX8_netPrice_11 rfl (fun _ _ _ hX => hX.elim) (fun rx pl_24 r O_27 => ?_)
    obtain ⟨rfl, hok_25, hr_26, hfa9, hR_29⟩ := O_27
    replace hf_2 := hr_26.at hk0 (by decide) (by decide) hf_2
    replace hfr := hfr.trans (hr_26.sub (by decide))
    replace hfa := hfa.trans (hfa9.sub (by decide))
    rcases hR_29 with rfl | ⟨y_32, rfl⟩
    · exact jj_lret C ⟨[], pl_24, rfl, rfl, hok_25, hfr, hfa, (Or.inl rfl)⟩ dX8_netPrice_14 (jj_le rfl) (jj_le rfl)
    · exact jj_lret C ⟨[], pl_24, rfl, rfl, hok_25, hfr, hfa, (Or.inr ⟨y_32, rfl⟩)⟩ dX8_netPrice_14 (jj_le rfl) (jj_le rfl)

set_option maxHeartbeats 4000000 in
set_option maxRecDepth 100000 in
theorem tc_X0_lotsOfSeries_1 {l : Launch} (hl : l.stackTraces = false) (D : va_G) (cA : Nat → ClassId) (ak : (Nat → Nat) × (Nat → Nat)) {Kd : Nat → Nat} (h0 : Nat) (p1 : Int32) (hk0 : Kd h0 = 1) {pl0 : va_W} (hok : tt_ok tt_tk cA Kd pl0) : jj_M l D cA ak yX0_lotsOfSeries (.code yX0_lotsOfSeries cX0_lotsOfSeries 4 (some .int)) 0 0 0 0 ([] ++ pl0) [.ref h0, .int p1] (tt_O (fun rx pl1 r => rx = [] ∧ tt_ok tt_tk cA Kd pl1 ∧ tt_fr Kd [] pl0 pl1 ∧ tt_fa Kd [] pl0 pl1 ∧ ((∃ v : Int32, (-2147483648 : Int) ≤ v.toInt ∧ v.toInt ≤ 2147483647 ∧ r = some (.int v))))) (tt_OX (fun _ _ _ => False)) := by
  refine jj_start hl (by decide) jw_ce5b65608c (jj_le rfl) ?_
  intro p e s m args below meth c A hargs hA C hex hmn
  have hfr := tt_fr.refl (K := Kd) (WS := []) pl0
  have hfa := tt_fa.refl (K := Kd) (WA := []) pl0
  have lp1 := tt_lo p1
  have up1 := tt_hi p1
  refine jj_iconst (v := 0) C dX0_lotsOfSeries_0 (by decide) ?_
  refine jj_istore_n C dX0_lotsOfSeries_1 (by decide) rfl ?_
  refine jj_iconst (v := 0) C dX0_lotsOfSeries_2 (by decide) ?_
  refine jj_istore_n C dX0_lotsOfSeries_3 (by decide) rfl ?_
  have hL_1 : ∀ (N : Nat) (pl : va_W) (x_2 : Int32) (x_3 : Int32), True → tt_ok tt_tk cA Kd pl → tt_fr Kd [] pl0 pl → tt_fa Kd [] pl0 pl → (0 : Int) ≤ x_2.toInt → x_2.toInt ≤ 40 → (-2147483648 : Int) ≤ x_3.toInt → x_3.toInt ≤ 2147483647 → (2147483648 - x_2.toInt ≤ (N : Int)) → jj_J p l e (jj_rm 0 0 0 0) s m args below meth c 4 A (vx_MQ below (jj_q D A (tt_O (fun rx pl1 r => rx = [] ∧ tt_ok tt_tk cA Kd pl1 ∧ tt_fr Kd [] pl0 pl1 ∧ tt_fa Kd [] pl0 pl1 ∧ ((∃ v : Int32, (-2147483648 : Int) ≤ v.toInt ∧ v.toInt ≤ 2147483647 ∧ r = some (.int v)))))) (jj_x D A (tt_OX (fun _ _ _ => False))) args s 0 0 A) (jj_X D A ([] ++ pl)) 0 0 4 [(3, .int x_2), (2, .int x_3), (0, .ref h0), (1, .int p1)] [] := by
    intro NL_1
    induction NL_1 with
    | zero => intro pl x_2 x_3 _ hok hfr hfa lx_2 ux_2 lx_3 ux_3 hNL_1; exfalso; omega
    | succ NL_1 ihL_1 =>
      intro pl x_2 x_3 _ hok hfr hfa lx_2 ux_2 lx_3 ux_3 hNL_1
      replace ihL_1 := fun pl x_2 x_3 h1 => ihL_1 pl x_2 x_3 trivial h1
      refine jj_iload_n C dX0_lotsOfSeries_4 rfl ?_
      refine jj_aload_n C dX0_lotsOfSeries_5 rfl ?_
      refine tt_get C hok jk_2 8 (by decide) jw_9d0ccd4490 (t := (0, 0, 40)) hk0 (by decide) rfl rfl dX0_lotsOfSeries_6 (fun v_4 hv_4 hf_5 => ?_)
      obtain ⟨x_6, rfl, lx_6, ux_6⟩ := tt_vi hv_4
      refine jj_icmp_ge (tgt := 34) C dX0_lotsOfSeries_9 (by decide) (fun c_7 => ?_) (fun c_7 => ?_)
      · have z_c_7 := jc_le (a := (x_6).toInt) (b := (x_2).toInt) c_7 rfl rfl
        refine jj_iload_n C dX0_lotsOfSeries_34 rfl ?_
        exact jj_iret C ⟨[], pl, rfl, rfl, hok, hfr, hfa, ⟨x_3, (by first | omega | exact tt_lo _ | exact tt_hi _), (by first | omega | exact tt_lo _ | exact tt_hi _), rfl⟩⟩ dX0_lotsOfSeries_35 (jj_le rfl) (jj_le rfl)
      · have z_c_7 := jc_nle (a := (x_6).toInt) (b := (x_2).toInt) c_7 rfl rfl
        refine jj_aload_n C dX0_lotsOfSeries_12 rfl ?_
        refine tt_get C hok jk_2 12 (by decide) jw_5f730213e9 (t := (2, 7, 0)) hk0 (by decide) rfl rfl dX0_lotsOfSeries_13 (fun v_8 hv_8 hf_9 => ?_)
        obtain ⟨a_10, rfl, ka_10⟩ := tt_vr hv_8
        refine jj_iload_n C dX0_lotsOfSeries_16 rfl ?_
        refine tt_aald C hok (t := (2, 3, 0)) ka_10 (by decide) rfl rfl rfl (vp_in_iff.mpr ⟨by omega, by omega⟩) dX0_lotsOfSeries_17 (fun v_11 hv_11 => ?_)
        obtain ⟨a_12, rfl, ka_12⟩ := tt_vr hv_11
        refine tt_get C hok jk_5 1 (by decide) jw_53dba63b8f (t := (0, (-2147483648), 2147483647)) ka_12 (by decide) rfl rfl dX0_lotsOfSeries_18 (fun v_13 hv_13 hf_14 => ?_)
        obtain ⟨x_15, rfl, lx_15, ux_15⟩ := tt_vi hv_13
        refine jj_iload_n C dX0_lotsOfSeries_21 rfl ?_
        refine jj_icmp_ne (tgt := 28) C dX0_lotsOfSeries_22 (by decide) (fun c_16 => ?_) (fun c_16 => ?_)
        · have z_c_16 := jc_neq (a := (x_15).toInt) (b := (p1).toInt) c_16 rfl rfl
          obtain ⟨x_17, ex_17, vx_17⟩ := tt_inc (x := x_2) (n := 1) (by omega) (by omega)
          refine jj_iinc (v := x_17) C dX0_lotsOfSeries_28 rfl ex_17 (by decide) rfl ?_
          refine jj_goto (tgt := 4) C dX0_lotsOfSeries_31 (by decide) ?_
          exact ihL_1 pl x_17 x_3 hok hfr hfa (by first | omega | decide | exact tt_lo _ | exact tt_hi _) (by first | omega | decide | exact tt_lo _ | exact tt_hi _) (by first | omega | decide | exact tt_lo _ | exact tt_hi _) (by first | omega | decide | exact tt_lo _ | exact tt_hi _) (by first | omega | decide | exact tt_lo _ | exact tt_hi _)
        · have z_c_16 := jc_eq (a := (x_15).toInt) (b := (p1).toInt) c_16 rfl rfl
          obtain ⟨x_18, ex_18⟩ : ∃ z : Int32, x_3 + Int32.ofInt 1 = z := ⟨_, rfl⟩
          refine jj_iinc (v := x_18) C dX0_lotsOfSeries_25 rfl ex_18 (by decide) rfl ?_
          obtain ⟨x_19, ex_19, vx_19⟩ := tt_inc (x := x_2) (n := 1) (by omega) (by omega)
          refine jj_iinc (v := x_19) C dX0_lotsOfSeries_28 rfl ex_19 (by decide) rfl ?_
          refine jj_goto (tgt := 4) C dX0_lotsOfSeries_31 (by decide) ?_
          exact ihL_1 pl x_19 x_18 hok hfr hfa (by first | omega | decide | exact tt_lo _ | exact tt_hi _) (by first | omega | decide | exact tt_lo _ | exact tt_hi _) (by first | omega | decide | exact tt_lo _ | exact tt_hi _) (by first | omega | decide | exact tt_lo _ | exact tt_hi _) (by first | omega | decide | exact tt_lo _ | exact tt_hi _)
  exact hL_1 _ pl0 (0 : Int32) (0 : Int32) trivial hok hfr hfa (by first | omega | decide | exact tt_lo _ | exact tt_hi _) (by first | omega | decide | exact tt_lo _ | exact tt_hi _) (by first | omega | decide | exact tt_lo _ | exact tt_hi _) (by first | omega | decide | exact tt_lo _ | exact tt_hi _) (Int.self_le_toNat _)

set_option maxHeartbeats 4000000 in
set_option maxRecDepth 100000 in
theorem tc_X10_seriesValue_1 {l : Launch} (hl : l.stackTraces = false) (D : va_G) (cA : Nat → ClassId) (ak : (Nat → Nat) × (Nat → Nat)) {Kd : Nat → Nat} (h0 : Nat) (p1 : Int32) (p2 : Int32) (hk0 : Kd h0 = 15) {pl0 : va_W} (hok : tt_ok tt_tk cA Kd pl0) : jj_M l D cA ak yX10_seriesValue (.code yX10_seriesValue cX10_seriesValue 4 (some .long)) 8 124 2 12 ([] ++ pl0) [.ref h0, .int p1, .int p2] (tt_O (fun rx pl1 r => rx = [] ∧ tt_ok tt_tk cA Kd pl1 ∧ tt_fr Kd [] pl0 pl1 ∧ tt_fa Kd [] pl0 pl1 ∧ ((∃ v : Int64, r = some (.long v)) ∨ (r = some (.long 0)) ∨ (r = some (.long 1000000))))) (tt_OX (fun E rx pl1 => rx = [] ∧ tt_ok tt_tk cA Kd pl1 ∧ tt_fr Kd [] pl0 pl1 ∧ tt_fa Kd [] pl0 pl1 ∧ (E = "java/lang/IllegalArgumentException" ∨ E = "java/lang/IndexOutOfBoundsException"))) := by
  refine jj_start hl (by decide) jw_17efc87c3d (jj_le rfl) ?_
  intro p e s m args below meth c A hargs hA C hex hmn
  have hfr := tt_fr.refl (K := Kd) (WS := []) pl0
  have hfa := tt_fa.refl (K := Kd) (WA := []) pl0
  have lp1 := tt_lo p1
  have up1 := tt_hi p1
  have lp2 := tt_lo p2
  have up2 := tt_hi p2
  refine jj_aload_n C dX10_seriesValue_0 rfl ?_
  refine tt_get C hok jk_11 3 (by decide) jw_f82a97e333 (t := (2, 1, 0)) hk0 (by decide) rfl rfl dX10_seriesValue_1 (fun v_1 hv_1 hf_2 => ?_)
  obtain ⟨a_3, rfl, ka_3⟩ := tt_vr hv_1
  refine tt_get C hok jk_2 11 (by decide) jw_5e6427264b (t := (2, 6, 0)) ka_3 (by decide) rfl rfl dX10_seriesValue_4 (fun v_4 hv_4 hf_5 => ?_)
  obtain ⟨a_6, rfl, ka_6⟩ := tt_vr hv_4
  refine jj_aload_n C dX10_seriesValue_7 rfl ?_
  refine jj_iload_n C dX10_seriesValue_8 rfl ?_
  obtain ⟨qc, gs, hqc⟩ := tt_recv (cx := []) hok hk0 (by decide) rfl
  refine tt_callV (rest := [.ref a_6]) C (tc_X10_placeOf_1 hl D cA ak h0 p1 hk0 hok) [] [] rfl rfl (by decide) (by decide) (by decide) qc hqc rfl rfl jw_58e2ad5394 jw_525f0659e7 jw_f9e77116d6 jw_6f6d707074 jw_94c9b2f9a1 jn_X10_placeOf rfl (jj_le rfl) (jj_le rfl) (jj_le rfl) (jj_le rfl) (jj_le rfl) dX10_seriesValue_9 rfl (fun E rx pl_7 X_11 => ?_) (fun rx pl_7 r O_10 => ?_)
  · obtain ⟨rfl, hok_8, hr_9, hfa9, hE_12⟩ := X_11
    replace hf_2 := hr_9.at hk0 (by decide) (by decide) hf_2
    replace hf_5 := hr_9.at ka_3 (by decide) (by decide) hf_5
    replace hfr := hfr.trans (hr_9.sub (by decide))
    replace hfa := hfa.trans (hfa9.sub (by decide))
    obtain rfl := hE_12
    exact jj_out C hex ⟨[], pl_7, rfl, rfl, hok_8, hfr, hfa, (Or.inr rfl)⟩ (jj_le rfl) (jj_le rfl)
  · obtain ⟨rfl, hok_8, hr_9, hfa9, hR_15⟩ := O_10
    replace hf_2 := hr_9.at hk0 (by decide) (by decide) hf_2
    replace hf_5 := hr_9.at ka_3 (by decide) (by decide) hf_5
    replace hfr := hfr.trans (hr_9.sub (by decide))
    replace hfa := hfa.trans (hfa9.sub (by decide))
    obtain ⟨x_18, lx_18, ux_18, rfl⟩ := hR_15
    refine tt_aald C hok_8 (t := (2, 2, 0)) ka_6 (by decide) rfl rfl rfl (vp_in_iff.mpr ⟨by omega, by omega⟩) dX10_seriesValue_12 (fun v_19 hv_19 => ?_)
    obtain ⟨a_20, rfl, ka_20⟩ := tt_vr hv_19
    refine jj_astore_n C dX10_seriesValue_13 (by decide) rfl ?_
    refine jj_iload_n C dX10_seriesValue_14 rfl ?_
    rcases jj_em (p2 = 0) with c_21 | c_21
    · refine jj_tableIn (tgt := 60) C dX10_seriesValue_15 (by rw [c_21]; decide) (by rw [c_21]; decide) (by rw [c_21]; rfl) (by decide) ?_
      refine jj_aload_n C dX10_seriesValue_60 rfl ?_
      refine tt_get C hok_8 jk_9 2 (by decide) jw_892efdc253 (t := (1, (-9223372036854775808), 9223372036854775807)) ka_20 (by decide) rfl rfl dX10_seriesValue_61 (fun v_22 hv_22 hf_23 => ?_)
      obtain ⟨y_24, rfl, -, -⟩ := tt_vj hv_22
      exact jj_lret C ⟨[], pl_7, rfl, rfl, hok_8, hfr, hfa, (Or.inl ⟨y_24, rfl⟩)⟩ dX10_seriesValue_64 (jj_le rfl) (jj_le rfl)
    rcases jj_em (p2 = 1) with c_25 | c_25
    · refine jj_tableIn (tgt := 65) C dX10_seriesValue_15 (by rw [c_25]; decide) (by rw [c_25]; decide) (by rw [c_25]; rfl) (by decide) ?_
      refine jj_aload_n C dX10_seriesValue_65 rfl ?_
      refine tt_get C hok_8 jk_9 3 (by decide) jw_617c733ec5 (t := (1, (-9223372036854775808), 9223372036854775807)) ka_20 (by decide) rfl rfl dX10_seriesValue_66 (fun v_26 hv_26 hf_27 => ?_)
      obtain ⟨y_28, rfl, -, -⟩ := tt_vj hv_26
      exact jj_lret C ⟨[], pl_7, rfl, rfl, hok_8, hfr, hfa, (Or.inl ⟨y_28, rfl⟩)⟩ dX10_seriesValue_69 (jj_le rfl) (jj_le rfl)
    rcases jj_em (p2 = 2) with c_29 | c_29
    · refine jj_tableIn (tgt := 70) C dX10_seriesValue_15 (by rw [c_29]; decide) (by rw [c_29]; decide) (by rw [c_29]; rfl) (by decide) ?_
      refine jj_aload_n C dX10_seriesValue_70 rfl ?_
      refine tt_get C hok_8 jk_9 4 (by decide) jw_c12516f493 (t := (1, (-9223372036854775808), 9223372036854775807)) ka_20 (by decide) rfl rfl dX10_seriesValue_71 (fun v_30 hv_30 hf_31 => ?_)
      obtain ⟨y_32, rfl, -, -⟩ := tt_vj hv_30
      exact jj_lret C ⟨[], pl_7, rfl, rfl, hok_8, hfr, hfa, (Or.inl ⟨y_32, rfl⟩)⟩ dX10_seriesValue_74 (jj_le rfl) (jj_le rfl)
    rcases jj_em (p2 = 3) with c_33 | c_33
    · refine jj_tableIn (tgt := 75) C dX10_seriesValue_15 (by rw [c_33]; decide) (by rw [c_33]; decide) (by rw [c_33]; rfl) (by decide) ?_
      refine jj_aload_n C dX10_seriesValue_75 rfl ?_
      refine jj_aload_n C dX10_seriesValue_76 rfl ?_
      refine tt_getF C hok_8 jk_11 3 (by decide) jw_f82a97e333 (t := (2, 1, 0)) hk0 (by decide) rfl rfl hf_2 dX10_seriesValue_77 ?_
      refine tt_get C hok_8 jk_2 3 (by decide) jw_649edee56e (t := (0, (-2147483648), 2147483647)) ka_3 (by decide) rfl rfl dX10_seriesValue_80 (fun v_34 hv_34 hf_35 => ?_)
      obtain ⟨x_36, rfl, lx_36, ux_36⟩ := tt_vi hv_34
      obtain ⟨qc, gs, hqc⟩ := tt_recv (cx := []) hok_8 ka_20 (by decide) rfl
      refine tt_callV (rest := []) C (tc_X8_accruedFee_1 hl D cA ak a_20 x_36 ka_20 hok_8) [] [] rfl rfl (by decide) (by decide) (by decide) qc hqc rfl rfl jw_8ae5fd1562 jw_16e73d269e jw_e0ac78627f jw_364e75910d jw_449e8f4cf4 jn_X8_accruedFee rfl (jj_le rfl) (jj_le rfl) (jj_le rfl) (jj_le rfl) (jj_le rfl) dX10_seriesValue_83 rfl (fun _ _ _ hX => hX.elim) (fun rx pl_37 r O_40 => ?_)
      obtain ⟨rfl, hok_38, hr_39, hfa9, hR_42⟩ := O_40
      replace hf_2 := hr_39.at hk0 (by decide) (by decide) hf_2
      replace hf_5 := hr_39.at ka_3 (by decide) (by decide) hf_5
      replace hf_35 := hr_39.at ka_3 (by decide) (by decide) hf_35
      replace hfr := hfr.trans (hr_39.sub (by decide))
      replace hfa := hfa.trans (hfa9.sub (by decide))
      rcases hR_42 with rfl | ⟨y_45, rfl⟩
      · exact jj_lret C ⟨[], pl_37, rfl, rfl, hok_38, hfr, hfa, (Or.inl ⟨(0 : Int64), rfl⟩)⟩ dX10_seriesValue_86 (jj_le rfl) (jj_le rfl)
      · exact jj_lret C ⟨[], pl_37, rfl, rfl, hok_38, hfr, hfa, (Or.inl ⟨y_45, rfl⟩)⟩ dX10_seriesValue_86 (jj_le rfl) (jj_le rfl)
    rcases jj_em (p2 = 4) with c_46 | c_46
    · refine jj_tableIn (tgt := 87) C dX10_seriesValue_15 (by rw [c_46]; decide) (by rw [c_46]; decide) (by rw [c_46]; rfl) (by decide) ?_
      refine jj_aload_n C dX10_seriesValue_87 rfl ?_
      obtain ⟨qc, gs, hqc⟩ := tt_recv (cx := []) hok_8 ka_20 (by decide) rfl
      refine tt_callV (rest := []) C (tc_X8_grossPrice_1 hl D cA ak a_20 ka_20 hok_8) [] [] rfl rfl (by decide) (by decide) (by decide) qc hqc rfl rfl jw_eab2b5c702 jw_8d67ffd46e jw_4ae9f31643 jw_364e75910d jw_11bb953c63 jn_X8_grossPrice rfl (jj_le rfl) (jj_le rfl) (jj_le rfl) (jj_le rfl) (jj_le rfl) dX10_seriesValue_88 rfl (fun _ _ _ hX => hX.elim) (fun rx pl_47 r O_50 => ?_)
      obtain ⟨rfl, hok_48, hr_49, hfa9, hR_52⟩ := O_50
      replace hf_2 := hr_49.at hk0 (by decide) (by decide) hf_2
      replace hf_5 := hr_49.at ka_3 (by decide) (by decide) hf_5
      replace hfr := hfr.trans (hr_49.sub (by decide))
      replace hfa := hfa.trans (hfa9.sub (by decide))
      rcases hR_52 with rfl | ⟨y_55, rfl⟩
      · exact jj_lret C ⟨[], pl_47, rfl, rfl, hok_48, hfr, hfa, (Or.inl ⟨(1000000 : Int64), rfl⟩)⟩ dX10_seriesValue_91 (jj_le rfl) (jj_le rfl)
      · exact jj_lret C ⟨[], pl_47, rfl, rfl, hok_48, hfr, hfa, (Or.inl ⟨y_55, rfl⟩)⟩ dX10_seriesValue_91 (jj_le rfl) (jj_le rfl)
    rcases jj_em (p2 = 5) with c_56 | c_56
    · refine jj_tableIn (tgt := 92) C dX10_seriesValue_15 (by rw [c_56]; decide) (by rw [c_56]; decide) (by rw [c_56]; rfl) (by decide) ?_
      refine jj_aload_n C dX10_seriesValue_92 rfl ?_
      refine jj_aload_n C dX10_seriesValue_93 rfl ?_
      refine tt_getF C hok_8 jk_11 3 (by decide) jw_f82a97e333 (t := (2, 1, 0)) hk0 (by decide) rfl rfl hf_2 dX10_seriesValue_94 ?_
      refine tt_get C hok_8 jk_2 3 (by decide) jw_649edee56e (t := (0, (-2147483648), 2147483647)) ka_3 (by decide) rfl rfl dX10_seriesValue_97 (fun v_57 hv_57 hf_58 => ?_)
      obtain ⟨x_59, rfl, lx_59, ux_59⟩ := tt_vi hv_57
      obtain ⟨qc, gs, hqc⟩ := tt_recv (cx := []) hok_8 ka_20 (by decide) rfl
      refine tt_callV (rest := []) C (tc_X8_netPrice_1 hl D cA ak a_20 x_59 ka_20 hok_8) [] [] rfl rfl (by decide) (by decide) (by decide) qc hqc rfl rfl jw_1bdc8ebb17 jw_1bed268582 jw_88114e5225 jw_364e75910d jw_9476451334 jn_X8_netPrice rfl (jj_le rfl) (jj_le rfl) (jj_le rfl) (jj_le rfl) (jj_le rfl) dX10_seriesValue_100 rfl (fun _ _ _ hX => hX.elim) (fun rx pl_60 r O_63 => ?_)
      obtain ⟨rfl, hok_61, hr_62, hfa9, hR_65⟩ := O_63
      replace hf_2 := hr_62.at hk0 (by decide) (by decide) hf_2
      replace hf_5 := hr_62.at ka_3 (by decide) (by decide) hf_5
      replace hf_58 := hr_62.at ka_3 (by decide) (by decide) hf_58
      replace hfr := hfr.trans (hr_62.sub (by decide))
      replace hfa := hfa.trans (hfa9.sub (by decide))
      rcases hR_65 with rfl | ⟨y_68, rfl⟩
      · exact jj_lret C ⟨[], pl_60, rfl, rfl, hok_61, hfr, hfa, (Or.inl ⟨(1000000 : Int64), rfl⟩)⟩ dX10_seriesValue_103 (jj_le rfl) (jj_le rfl)
      · exact jj_lret C ⟨[], pl_60, rfl, rfl, hok_61, hfr, hfa, (Or.inl ⟨y_68, rfl⟩)⟩ dX10_seriesValue_103 (jj_le rfl) (jj_le rfl)
    rcases jj_em (p2 = 6) with c_69 | c_69
    · refine jj_tableIn (tgt := 104) C dX10_seriesValue_15 (by rw [c_69]; decide) (by rw [c_69]; decide) (by rw [c_69]; rfl) (by decide) ?_
      refine jj_aload_n C dX10_seriesValue_104 rfl ?_
      refine tt_get C hok_8 jk_9 1 (by decide) jw_eb058fd8f4 (t := (0, (-2147483648), 2147483647)) ka_20 (by decide) rfl rfl dX10_seriesValue_105 (fun v_70 hv_70 hf_71 => ?_)
      obtain ⟨x_72, rfl, lx_72, ux_72⟩ := tt_vi hv_70
      obtain ⟨y_73, ey_73, vy_73⟩ := tt_i2l x_72
      refine jj_i2l (v := y_73) C dX10_seriesValue_108 ey_73 ?_
      exact jj_lret C ⟨[], pl_7, rfl, rfl, hok_8, hfr, hfa, (Or.inl ⟨y_73, rfl⟩)⟩ dX10_seriesValue_109 (jj_le rfl) (jj_le rfl)
    rcases jj_em (p2 = 7) with c_74 | c_74
    · refine jj_tableIn (tgt := 110) C dX10_seriesValue_15 (by rw [c_74]; decide) (by rw [c_74]; decide) (by rw [c_74]; rfl) (by decide) ?_
      refine jj_aload_n C dX10_seriesValue_110 rfl ?_
      refine tt_getF C hok_8 jk_11 3 (by decide) jw_f82a97e333 (t := (2, 1, 0)) hk0 (by decide) rfl rfl hf_2 dX10_seriesValue_111 ?_
      refine jj_iload_n C dX10_seriesValue_114 rfl ?_
      obtain ⟨qc, gs, hqc⟩ := tt_recv (cx := []) hok_8 ka_3 (by decide) rfl
      refine tt_callV (rest := []) C (tc_X0_lotsOfSeries_1 hl D cA ak a_3 p1 ka_3 hok_8) [] [] rfl rfl (by decide) (by decide) (by decide) qc hqc rfl rfl jw_ff015d1bff jw_df45b7bfd4 jw_ab5bfc66e4 jw_7d25d4fd32 jw_ce5b65608c jn_X0_lotsOfSeries rfl (jj_le rfl) (jj_le rfl) (jj_le rfl) (jj_le rfl) (jj_le rfl) dX10_seriesValue_115 rfl (fun _ _ _ hX => hX.elim) (fun rx pl_75 r O_78 => ?_)
      obtain ⟨rfl, hok_76, hr_77, hfa9, hR_80⟩ := O_78
      replace hf_2 := hr_77.at hk0 (by decide) (by decide) hf_2
      replace hf_5 := hr_77.at ka_3 (by decide) (by decide) hf_5
      replace hfr := hfr.trans (hr_77.sub (by decide))
      replace hfa := hfa.trans (hfa9.sub (by decide))
      obtain ⟨x_83, lx_83, ux_83, rfl⟩ := hR_80
      obtain ⟨y_84, ey_84, vy_84⟩ := tt_i2l x_83
      refine jj_i2l (v := y_84) C dX10_seriesValue_118 ey_84 ?_
      exact jj_lret C ⟨[], pl_75, rfl, rfl, hok_76, hfr, hfa, (Or.inl ⟨y_84, rfl⟩)⟩ dX10_seriesValue_119 (jj_le rfl) (jj_le rfl)
    refine jj_tableOut (tgt := 120) C dX10_seriesValue_15 (by have zc_21 := lv_neT (a := 0) c_21 (by decide); have zc_25 := lv_neT (a := 1) c_25 (by decide); have zc_29 := lv_neT (a := 2) c_29 (by decide); have zc_33 := lv_neT (a := 3) c_33 (by decide); have zc_46 := lv_neT (a := 4) c_46 (by decide); have zc_56 := lv_neT (a := 5) c_56 (by decide); have zc_69 := lv_neT (a := 6) c_69 (by decide); have zc_74 := lv_neT (a := 7) c_74 (by decide); omega) (by decide) ?_
    exact jj_throwW (k := 45) (text := "no such value") C jt_RX10_75 jw_0e6c957e85 (by decide +kernel) dX10_seriesValue_120 dX10_seriesValue_123 dX10_seriesValue_124 dX10_seriesValue_127 dX10_seriesValue_130 hex (jj_le rfl) (jj_le rfl) (jj_le rfl) (jj_le rfl) ⟨[], pl_7, rfl, rfl, hok_8, hfr, hfa, (Or.inl rfl)⟩ (jj_le rfl) (jj_le rfl)

set_option maxHeartbeats 4000000 in
set_option maxRecDepth 100000 in
theorem tc_X0_subscriptionFault_1 {l : Launch} (hl : l.stackTraces = false) (D : va_G) (cA : Nat → ClassId) (ak : (Nat → Nat) × (Nat → Nat)) {Kd : Nat → Nat} (h0 : Nat) (p1 : Int32) (p2 : Int32) (hk0 : Kd h0 = 1) {pl0 : va_W} (hok : tt_ok tt_tk cA Kd pl0) : jj_M l D cA ak yX0_subscriptionFault (.code yX0_subscriptionFault cX0_subscriptionFault 3 (some .int)) 1 21 0 0 ([] ++ pl0) [.ref h0, .int p1, .int p2] (tt_O (fun rx pl1 r => rx = [] ∧ tt_ok tt_tk cA Kd pl1 ∧ tt_fr Kd [] pl0 pl1 ∧ tt_fa Kd [] pl0 pl1 ∧ ((r = some (.int 1)) ∨ ((0 : Int) ≤ p1.toInt ∧ p1.toInt ≤ 2147483646 ∧ r = some (.int 2)) ∨ ((0 : Int) ≤ p1.toInt ∧ p1.toInt ≤ 2147483646 ∧ (1 : Int) ≤ p2.toInt ∧ p2.toInt ≤ 9999999 ∧ r = some (.int 0)) ∨ ((0 : Int) ≤ p1.toInt ∧ p1.toInt ≤ 2147483646 ∧ (1 : Int) ≤ p2.toInt ∧ p2.toInt ≤ 9999999 ∧ r = some (.int 3))))) (tt_OX (fun _ _ _ => False)) := by
  refine jj_start hl (by decide) jw_29c1f216db (jj_le rfl) ?_
  intro p e s m args below meth c A hargs hA C hex hmn
  have hfr := tt_fr.refl (K := Kd) (WS := []) pl0
  have hfa := tt_fa.refl (K := Kd) (WA := []) pl0
  have lp1 := tt_lo p1
  have up1 := tt_hi p1
  have lp2 := tt_lo p2
  have up2 := tt_hi p2
  refine jj_aload_n C dX0_subscriptionFault_0 rfl ?_
  refine jj_iload_n C dX0_subscriptionFault_1 rfl ?_
  obtain ⟨qc, gs, hqc⟩ := tt_recv (cx := []) hok hk0 (by decide) rfl
  refine tt_callV (rest := []) C (tc_X0_hasInvestor_1 hl D cA ak h0 p1 hk0 hok) [] [] rfl rfl (by decide) (by decide) (by decide) qc hqc rfl rfl jw_d8d4914792 jw_4b2ee875de jw_b17a3ad3c3 jw_7d25d4fd32 jw_46cdbc56f6 jn_X0_hasInvestor rfl (jj_le rfl) (jj_le rfl) (jj_le rfl) (jj_le rfl) (jj_le rfl) dX0_subscriptionFault_2 rfl (fun _ _ _ hX => hX.elim) (fun rx pl_1 r O_4 => ?_)
  obtain ⟨rfl, hok_2, hr_3, hfa9, hR_6⟩ := O_4
  replace hfr := hfr.trans (hr_3.sub (by decide))
  replace hfa := hfa.trans (hfa9.sub (by decide))
  rcases hR_6 with rfl | ⟨l_9, u_10, rfl⟩
  · refine jj_if_neF (tgt := 10) C dX0_subscriptionFault_5 (by decide) (by decide) ?_
    refine jj_iconst (v := 1) C dX0_subscriptionFault_8 (by decide) ?_
    exact jj_iret C ⟨[], pl_1, rfl, rfl, hok_2, hfr, hfa, (Or.inl rfl)⟩ dX0_subscriptionFault_9 (jj_le rfl) (jj_le rfl)
  · refine jj_if_neT (tgt := 10) C dX0_subscriptionFault_5 (by decide) (by decide) ?_
    refine jj_iload_n C dX0_subscriptionFault_10 rfl ?_
    refine jj_iconst (v := 1) C dX0_subscriptionFault_11 (by decide) ?_
    refine jj_icmp_lt (tgt := 21) C dX0_subscriptionFault_12 (by decide) (fun c_11 => ?_) (fun c_11 => ?_)
    · have z_c_11 := jc_lt (a := (p2).toInt) (b := (1)) c_11 rfl (by decide)
      refine jj_iconst (v := 2) C dX0_subscriptionFault_21 (by decide) ?_
      exact jj_iret C ⟨[], pl_1, rfl, rfl, hok_2, hfr, hfa, (Or.inr (Or.inl ⟨(by first | omega | exact tt_lo _ | exact tt_hi _), (by first | omega | exact tt_lo _ | exact tt_hi _), rfl⟩))⟩ dX0_subscriptionFault_22 (jj_le rfl) (jj_le rfl)
    · have z_c_11 := jc_nlt (a := (p2).toInt) (b := (1)) c_11 rfl (by decide)
      refine jj_iload_n C dX0_subscriptionFault_15 rfl ?_
      refine jj_ldc (v := 9999999) C dX0_subscriptionFault_16 jw_b5fe344b61 ?_
      refine jj_icmp_le (tgt := 23) C dX0_subscriptionFault_18 (by decide) (fun c_12 => ?_) (fun c_12 => ?_)
      · have z_c_12 := jc_le (a := (p2).toInt) (b := (9999999)) c_12 rfl (by decide)
        refine jj_aload_n C dX0_subscriptionFault_23 rfl ?_
        refine tt_get C hok_2 jk_2 9 (by decide) jw_a6a6052378 (t := (0, 0, 12)) hk0 (by decide) rfl rfl dX0_subscriptionFault_24 (fun v_13 hv_13 hf_14 => ?_)
        obtain ⟨x_15, rfl, lx_15, ux_15⟩ := tt_vi hv_13
        refine jj_bipush (v := 12) C dX0_subscriptionFault_27 (by decide) ?_
        refine jj_icmp_lt (tgt := 36) C dX0_subscriptionFault_29 (by decide) (fun c_16 => ?_) (fun c_16 => ?_)
        · have z_c_16 := jc_lt (a := (x_15).toInt) (b := (12)) c_16 rfl (by decide)
          refine jj_iconst (v := 0) C dX0_subscriptionFault_36 (by decide) ?_
          exact jj_iret C ⟨[], pl_1, rfl, rfl, hok_2, hfr, hfa, (Or.inr (Or.inr (Or.inl ⟨(by first | omega | exact tt_lo _ | exact tt_hi _), (by first | omega | exact tt_lo _ | exact tt_hi _), (by first | omega | exact tt_lo _ | exact tt_hi _), (by first | omega | exact tt_lo _ | exact tt_hi _), rfl⟩)))⟩ dX0_subscriptionFault_37 (jj_le rfl) (jj_le rfl)
        · have z_c_16 := jc_nlt (a := (x_15).toInt) (b := (12)) c_16 rfl (by decide)
          refine jj_iconst (v := 3) C dX0_subscriptionFault_32 (by decide) ?_
          refine jj_goto (tgt := 37) C dX0_subscriptionFault_33 (by decide) ?_
          exact jj_iret C ⟨[], pl_1, rfl, rfl, hok_2, hfr, hfa, (Or.inr (Or.inr (Or.inr ⟨(by first | omega | exact tt_lo _ | exact tt_hi _), (by first | omega | exact tt_lo _ | exact tt_hi _), (by first | omega | exact tt_lo _ | exact tt_hi _), (by first | omega | exact tt_lo _ | exact tt_hi _), rfl⟩)))⟩ dX0_subscriptionFault_37 (jj_le rfl) (jj_le rfl)
      · have z_c_12 := jc_nle (a := (p2).toInt) (b := (9999999)) c_12 rfl (by decide)
        refine jj_iconst (v := 2) C dX0_subscriptionFault_21 (by decide) ?_
        exact jj_iret C ⟨[], pl_1, rfl, rfl, hok_2, hfr, hfa, (Or.inr (Or.inl ⟨(by first | omega | exact tt_lo _ | exact tt_hi _), (by first | omega | exact tt_lo _ | exact tt_hi _), rfl⟩))⟩ dX0_subscriptionFault_22 (jj_le rfl) (jj_le rfl)

set_option maxHeartbeats 4000000 in
set_option maxRecDepth 100000 in
theorem tc_X0_addRequest_2 {l : Launch} (hl : l.stackTraces = false) (D : va_G) (cA : Nat → ClassId) (ak : (Nat → Nat) × (Nat → Nat)) {Kd : Nat → Nat} (h0 : Nat) (p1 : Int32) (p3 : Int64) (hk0 : Kd h0 = 1) {pl0 : va_W} (hok : tt_ok tt_tk cA Kd pl0) : jj_M l D cA ak yX0_addRequest (.code yX0_addRequest cX0_addRequest 7 (some .int)) 1 21 0 0 ([] ++ pl0) [.ref h0, .int p1, .int 0, .long p3] (tt_O (fun rx pl1 r => rx = [] ∧ tt_ok tt_tk cA Kd pl1 ∧ tt_fr Kd [(1, 9), (4, 0), (4, 1), (4, 2), (4, 3), (4, 4)] pl0 pl1 ∧ tt_fa Kd [] pl0 pl1 ∧ ((r = some (.int 11)) ∨ (∃ v : Int32, (0 : Int) ≤ v.toInt ∧ v.toInt ≤ 11 ∧ r = some (.int v))))) (tt_OX (fun _ _ _ => False)) := by
  refine jj_start hl (by decide) jw_1fad268463 (jj_le rfl) ?_
  intro p e s m args below meth c A hargs hA C hex hmn
  have hfr := tt_fr.refl (K := Kd) (WS := [(1, 9), (4, 0), (4, 1), (4, 2), (4, 3), (4, 4)]) pl0
  have hfa := tt_fa.refl (K := Kd) (WA := []) pl0
  have lp1 := tt_lo p1
  have up1 := tt_hi p1
  refine jj_aload_n C dX0_addRequest_0 rfl ?_
  refine tt_get C hok jk_2 9 (by decide) jw_a6a6052378 (t := (0, 0, 12)) hk0 (by decide) rfl rfl dX0_addRequest_1 (fun v_1 hv_1 hf_2 => ?_)
  obtain ⟨x_3, rfl, lx_3, ux_3⟩ := tt_vi hv_1
  refine jj_bipush (v := 11) C dX0_addRequest_4 (by decide) ?_
  refine tt_call0S (rest := []) C (ct_J9_min_7cf53_3 hl D cA ak x_3) jw_91b79dc18e jw_bd781c2022 jw_a731c8553d jw_7adaf59315 jn_J9_min_7cf53 rfl (jj_le rfl) (jj_le rfl) (jj_le rfl) (jj_le rfl) (jj_le rfl) dX0_addRequest_6 rfl (fun w1 r O_4 => ?_)
  rcases O_4 with ⟨c_5, -, rfl⟩ | ⟨c_6, -, rfl⟩
  · have z_c_5 := jc_lt (a := (11)) (b := (x_3).toInt) c_5 (by decide) rfl
    refine jj_istore C dX0_addRequest_9 (by decide) rfl ?_
    refine jj_aload_n C dX0_addRequest_11 rfl ?_
    refine tt_get C hok jk_2 13 (by decide) jw_241b9bc751 (t := (2, 8, 0)) hk0 (by decide) rfl rfl dX0_addRequest_12 (fun v_7 hv_7 hf_8 => ?_)
    obtain ⟨a_9, rfl, ka_9⟩ := tt_vr hv_7
    refine jj_iload C dX0_addRequest_15 rfl ?_
    refine tt_aald C hok (t := (2, 4, 0)) ka_9 (by decide) rfl rfl rfl (vp_in_iff.mpr (by decide)) dX0_addRequest_17 (fun v_10 hv_10 => ?_)
    obtain ⟨a_11, rfl, ka_11⟩ := tt_vr hv_10
    refine jj_astore C dX0_addRequest_18 (by decide) rfl ?_
    refine jj_aload C dX0_addRequest_20 rfl ?_
    refine jj_iload_n C dX0_addRequest_22 rfl ?_
    refine rl_put C hok jk_7 0 (by decide) jw_5338707ba1 (t := (0, (-2147483648), 2147483647)) ka_11 (by decide) rfl rfl rfl (tt_ia p1) rfl rfl dX0_addRequest_23 (fun pl_12 hok_13 tr hn tl => ?_)
    replace hf_2 := tr _ _ _ (Or.inl (tt_ne hk0 ka_11 (by decide))) hf_2
    replace hf_8 := tr _ _ _ (Or.inl (tt_ne hk0 ka_11 (by decide))) hf_8
    have hf_14 := hn
    replace hfr := hfr.put ka_11 tr (by decide)
    replace hfa := hfa.all tl
    refine jj_aload C dX0_addRequest_26 rfl ?_
    refine jj_iload_n C dX0_addRequest_28 rfl ?_
    refine rl_put C hok_13 jk_7 2 (by decide) jw_9e238e4277 (t := (0, 0, 1)) ka_11 (by decide) rfl rfl rfl (tt_iv (by decide) (by decide)) rfl rfl dX0_addRequest_29 (fun pl_15 hok_16 tr hn tl => ?_)
    replace hf_2 := tr _ _ _ (Or.inl (tt_ne hk0 ka_11 (by decide))) hf_2
    replace hf_8 := tr _ _ _ (Or.inl (tt_ne hk0 ka_11 (by decide))) hf_8
    replace hf_14 := tr _ _ _ (Or.inr (by decide)) hf_14
    have hf_17 := hn
    replace hfr := hfr.put ka_11 tr (by decide)
    replace hfa := hfa.all tl
    refine jj_aload C dX0_addRequest_32 rfl ?_
    refine jj_lload_n C dX0_addRequest_34 rfl ?_
    refine rl_put C hok_16 jk_7 3 (by decide) jw_bfa82f796d (t := (1, (-9223372036854775808), 9223372036854775807)) ka_11 (by decide) rfl rfl rfl (tt_ja p3) rfl rfl dX0_addRequest_35 (fun pl_18 hok_19 tr hn tl => ?_)
    replace hf_2 := tr _ _ _ (Or.inl (tt_ne hk0 ka_11 (by decide))) hf_2
    replace hf_8 := tr _ _ _ (Or.inl (tt_ne hk0 ka_11 (by decide))) hf_8
    replace hf_14 := tr _ _ _ (Or.inr (by decide)) hf_14
    replace hf_17 := tr _ _ _ (Or.inr (by decide)) hf_17
    have hf_20 := hn
    replace hfr := hfr.put ka_11 tr (by decide)
    replace hfa := hfa.all tl
    refine jj_aload C dX0_addRequest_38 rfl ?_
    refine jj_lconst (v := 0) C dX0_addRequest_40 (by decide) ?_
    refine rl_put C hok_19 jk_7 4 (by decide) jw_2f9658d53e (t := (1, (-9223372036854775808), 9223372036854775807)) ka_11 (by decide) rfl rfl rfl (tt_ja (0 : Int64)) rfl rfl dX0_addRequest_41 (fun pl_21 hok_22 tr hn tl => ?_)
    replace hf_2 := tr _ _ _ (Or.inl (tt_ne hk0 ka_11 (by decide))) hf_2
    replace hf_8 := tr _ _ _ (Or.inl (tt_ne hk0 ka_11 (by decide))) hf_8
    replace hf_14 := tr _ _ _ (Or.inr (by decide)) hf_14
    replace hf_17 := tr _ _ _ (Or.inr (by decide)) hf_17
    replace hf_20 := tr _ _ _ (Or.inr (by decide)) hf_20
    have hf_23 := hn
    replace hfr := hfr.put ka_11 tr (by decide)
    replace hfa := hfa.all tl
    refine jj_aload C dX0_addRequest_44 rfl ?_
    refine jj_aload_n C dX0_addRequest_46 rfl ?_
    refine tt_get C hok_22 jk_2 5 (by decide) jw_cd8f4320e7 (t := (0, (-2147483648), 2147483647)) hk0 (by decide) rfl rfl dX0_addRequest_47 (fun v_24 hv_24 hf_25 => ?_)
    obtain ⟨x_26, rfl, lx_26, ux_26⟩ := tt_vi hv_24
    refine rl_put C hok_22 jk_7 1 (by decide) jw_beab64789a (t := (0, (-2147483648), 2147483647)) ka_11 (by decide) rfl rfl rfl (tt_ia x_26) rfl rfl dX0_addRequest_50 (fun pl_27 hok_28 tr hn tl => ?_)
    replace hf_2 := tr _ _ _ (Or.inl (tt_ne hk0 ka_11 (by decide))) hf_2
    replace hf_8 := tr _ _ _ (Or.inl (tt_ne hk0 ka_11 (by decide))) hf_8
    replace hf_14 := tr _ _ _ (Or.inr (by decide)) hf_14
    replace hf_17 := tr _ _ _ (Or.inr (by decide)) hf_17
    replace hf_20 := tr _ _ _ (Or.inr (by decide)) hf_20
    replace hf_23 := tr _ _ _ (Or.inr (by decide)) hf_23
    replace hf_25 := tr _ _ _ (Or.inl (tt_ne hk0 ka_11 (by decide))) hf_25
    have hf_29 := hn
    replace hfr := hfr.put ka_11 tr (by decide)
    replace hfa := hfa.all tl
    refine jj_aload_n C dX0_addRequest_53 rfl ?_
    refine jj_iload C dX0_addRequest_54 rfl ?_
    refine jj_iconst (v := 1) C dX0_addRequest_56 (by decide) ?_
    refine jj_iadd (v := 12) C dX0_addRequest_57 (by decide) ?_
    refine rl_put C hok_28 jk_2 9 (by decide) jw_a6a6052378 (t := (0, 0, 12)) hk0 (by decide) rfl rfl rfl (tt_iv (by decide) (by decide)) rfl rfl dX0_addRequest_58 (fun pl_30 hok_31 tr hn tl => ?_)
    replace hf_8 := tr _ _ _ (Or.inr (by decide)) hf_8
    replace hf_14 := tr _ _ _ (Or.inl (tt_ne ka_11 hk0 (by decide))) hf_14
    replace hf_17 := tr _ _ _ (Or.inl (tt_ne ka_11 hk0 (by decide))) hf_17
    replace hf_20 := tr _ _ _ (Or.inl (tt_ne ka_11 hk0 (by decide))) hf_20
    replace hf_23 := tr _ _ _ (Or.inl (tt_ne ka_11 hk0 (by decide))) hf_23
    replace hf_25 := tr _ _ _ (Or.inr (by decide)) hf_25
    replace hf_29 := tr _ _ _ (Or.inl (tt_ne ka_11 hk0 (by decide))) hf_29
    have hf_32 := hn
    replace hfr := hfr.put hk0 tr (by decide)
    replace hfa := hfa.all tl
    refine jj_iload C dX0_addRequest_61 rfl ?_
    exact jj_iret C ⟨[], pl_30, rfl, rfl, hok_31, hfr, hfa, (Or.inl rfl)⟩ dX0_addRequest_63 (jj_le rfl) (jj_le rfl)
  · have z_c_6 := jc_nlt (a := (11)) (b := (x_3).toInt) c_6 (by decide) rfl
    refine jj_istore C dX0_addRequest_9 (by decide) rfl ?_
    refine jj_aload_n C dX0_addRequest_11 rfl ?_
    refine tt_get C hok jk_2 13 (by decide) jw_241b9bc751 (t := (2, 8, 0)) hk0 (by decide) rfl rfl dX0_addRequest_12 (fun v_33 hv_33 hf_34 => ?_)
    obtain ⟨a_35, rfl, ka_35⟩ := tt_vr hv_33
    refine jj_iload C dX0_addRequest_15 rfl ?_
    refine tt_aald C hok (t := (2, 4, 0)) ka_35 (by decide) rfl rfl rfl (vp_in_iff.mpr ⟨by omega, by omega⟩) dX0_addRequest_17 (fun v_36 hv_36 => ?_)
    obtain ⟨a_37, rfl, ka_37⟩ := tt_vr hv_36
    refine jj_astore C dX0_addRequest_18 (by decide) rfl ?_
    refine jj_aload C dX0_addRequest_20 rfl ?_
    refine jj_iload_n C dX0_addRequest_22 rfl ?_
    refine rl_put C hok jk_7 0 (by decide) jw_5338707ba1 (t := (0, (-2147483648), 2147483647)) ka_37 (by decide) rfl rfl rfl (tt_ia p1) rfl rfl dX0_addRequest_23 (fun pl_38 hok_39 tr hn tl => ?_)
    replace hf_2 := tr _ _ _ (Or.inl (tt_ne hk0 ka_37 (by decide))) hf_2
    replace hf_34 := tr _ _ _ (Or.inl (tt_ne hk0 ka_37 (by decide))) hf_34
    have hf_40 := hn
    replace hfr := hfr.put ka_37 tr (by decide)
    replace hfa := hfa.all tl
    refine jj_aload C dX0_addRequest_26 rfl ?_
    refine jj_iload_n C dX0_addRequest_28 rfl ?_
    refine rl_put C hok_39 jk_7 2 (by decide) jw_9e238e4277 (t := (0, 0, 1)) ka_37 (by decide) rfl rfl rfl (tt_iv (by decide) (by decide)) rfl rfl dX0_addRequest_29 (fun pl_41 hok_42 tr hn tl => ?_)
    replace hf_2 := tr _ _ _ (Or.inl (tt_ne hk0 ka_37 (by decide))) hf_2
    replace hf_34 := tr _ _ _ (Or.inl (tt_ne hk0 ka_37 (by decide))) hf_34
    replace hf_40 := tr _ _ _ (Or.inr (by decide)) hf_40
    have hf_43 := hn
    replace hfr := hfr.put ka_37 tr (by decide)
    replace hfa := hfa.all tl
    refine jj_aload C dX0_addRequest_32 rfl ?_
    refine jj_lload_n C dX0_addRequest_34 rfl ?_
    refine rl_put C hok_42 jk_7 3 (by decide) jw_bfa82f796d (t := (1, (-9223372036854775808), 9223372036854775807)) ka_37 (by decide) rfl rfl rfl (tt_ja p3) rfl rfl dX0_addRequest_35 (fun pl_44 hok_45 tr hn tl => ?_)
    replace hf_2 := tr _ _ _ (Or.inl (tt_ne hk0 ka_37 (by decide))) hf_2
    replace hf_34 := tr _ _ _ (Or.inl (tt_ne hk0 ka_37 (by decide))) hf_34
    replace hf_40 := tr _ _ _ (Or.inr (by decide)) hf_40
    replace hf_43 := tr _ _ _ (Or.inr (by decide)) hf_43
    have hf_46 := hn
    replace hfr := hfr.put ka_37 tr (by decide)
    replace hfa := hfa.all tl
    refine jj_aload C dX0_addRequest_38 rfl ?_
    refine jj_lconst (v := 0) C dX0_addRequest_40 (by decide) ?_
    refine rl_put C hok_45 jk_7 4 (by decide) jw_2f9658d53e (t := (1, (-9223372036854775808), 9223372036854775807)) ka_37 (by decide) rfl rfl rfl (tt_ja (0 : Int64)) rfl rfl dX0_addRequest_41 (fun pl_47 hok_48 tr hn tl => ?_)
    replace hf_2 := tr _ _ _ (Or.inl (tt_ne hk0 ka_37 (by decide))) hf_2
    replace hf_34 := tr _ _ _ (Or.inl (tt_ne hk0 ka_37 (by decide))) hf_34
    replace hf_40 := tr _ _ _ (Or.inr (by decide)) hf_40
    replace hf_43 := tr _ _ _ (Or.inr (by decide)) hf_43
    replace hf_46 := tr _ _ _ (Or.inr (by decide)) hf_46
    have hf_49 := hn
    replace hfr := hfr.put ka_37 tr (by decide)
    replace hfa := hfa.all tl
    refine jj_aload C dX0_addRequest_44 rfl ?_
    refine jj_aload_n C dX0_addRequest_46 rfl ?_
    refine tt_get C hok_48 jk_2 5 (by decide) jw_cd8f4320e7 (t := (0, (-2147483648), 2147483647)) hk0 (by decide) rfl rfl dX0_addRequest_47 (fun v_50 hv_50 hf_51 => ?_)
    obtain ⟨x_52, rfl, lx_52, ux_52⟩ := tt_vi hv_50
    refine rl_put C hok_48 jk_7 1 (by decide) jw_beab64789a (t := (0, (-2147483648), 2147483647)) ka_37 (by decide) rfl rfl rfl (tt_ia x_52) rfl rfl dX0_addRequest_50 (fun pl_53 hok_54 tr hn tl => ?_)
    replace hf_2 := tr _ _ _ (Or.inl (tt_ne hk0 ka_37 (by decide))) hf_2
    replace hf_34 := tr _ _ _ (Or.inl (tt_ne hk0 ka_37 (by decide))) hf_34
    replace hf_40 := tr _ _ _ (Or.inr (by decide)) hf_40
    replace hf_43 := tr _ _ _ (Or.inr (by decide)) hf_43
    replace hf_46 := tr _ _ _ (Or.inr (by decide)) hf_46
    replace hf_49 := tr _ _ _ (Or.inr (by decide)) hf_49
    replace hf_51 := tr _ _ _ (Or.inl (tt_ne hk0 ka_37 (by decide))) hf_51
    have hf_55 := hn
    replace hfr := hfr.put ka_37 tr (by decide)
    replace hfa := hfa.all tl
    refine jj_aload_n C dX0_addRequest_53 rfl ?_
    refine jj_iload C dX0_addRequest_54 rfl ?_
    refine jj_iconst (v := 1) C dX0_addRequest_56 (by decide) ?_
    obtain ⟨x_56, ex_56, vx_56⟩ := tt_iadd (x := x_3) (y := (1 : Int32)) (a := x_3.toInt) rfl (b := 1) (by decide) (by omega) (by omega)
    refine jj_iadd (v := x_56) C dX0_addRequest_57 ex_56 ?_
    refine rl_put C hok_54 jk_2 9 (by decide) jw_a6a6052378 (t := (0, 0, 12)) hk0 (by decide) rfl rfl rfl (tt_iv (by omega) (by omega)) rfl rfl dX0_addRequest_58 (fun pl_57 hok_58 tr hn tl => ?_)
    replace hf_34 := tr _ _ _ (Or.inr (by decide)) hf_34
    replace hf_40 := tr _ _ _ (Or.inl (tt_ne ka_37 hk0 (by decide))) hf_40
    replace hf_43 := tr _ _ _ (Or.inl (tt_ne ka_37 hk0 (by decide))) hf_43
    replace hf_46 := tr _ _ _ (Or.inl (tt_ne ka_37 hk0 (by decide))) hf_46
    replace hf_49 := tr _ _ _ (Or.inl (tt_ne ka_37 hk0 (by decide))) hf_49
    replace hf_51 := tr _ _ _ (Or.inr (by decide)) hf_51
    replace hf_55 := tr _ _ _ (Or.inl (tt_ne ka_37 hk0 (by decide))) hf_55
    have hf_59 := hn
    replace hfr := hfr.put hk0 tr (by decide)
    replace hfa := hfa.all tl
    refine jj_iload C dX0_addRequest_61 rfl ?_
    exact jj_iret C ⟨[], pl_57, rfl, rfl, hok_58, hfr, hfa, (Or.inr ⟨x_3, (by first | omega | exact tt_lo _ | exact tt_hi _), (by first | omega | exact tt_lo _ | exact tt_hi _), rfl⟩)⟩ dX0_addRequest_63 (jj_le rfl) (jj_le rfl)

set_option maxHeartbeats 4000000 in
set_option maxRecDepth 100000 in
theorem tc_X0_splitsLot_1 {l : Launch} (hl : l.stackTraces = false) (D : va_G) (cA : Nat → ClassId) (ak : (Nat → Nat) × (Nat → Nat)) {Kd : Nat → Nat} (h0 : Nat) (p1 : Int32) (p2 : Int64) (hk0 : Kd h0 = 1) {pl0 : va_W} (hok : tt_ok tt_tk cA Kd pl0) : jj_M l D cA ak yX0_splitsLot (.code yX0_splitsLot cX0_splitsLot 7 (some .boolean)) 0 0 0 0 ([] ++ pl0) [.ref h0, .int p1, .long p2] (tt_O (fun rx pl1 r => rx = [] ∧ tt_ok tt_tk cA Kd pl1 ∧ tt_fr Kd [] pl0 pl1 ∧ tt_fa Kd [] pl0 pl1 ∧ ((r = some (.int 0)) ∨ (r = some (.int 1))))) (tt_OX (fun _ _ _ => False)) := by
  refine jj_start hl (by decide) jw_7310f8aa9c (jj_le rfl) ?_
  intro p e s m args below meth c A hargs hA C hex hmn
  have hfr := tt_fr.refl (K := Kd) (WS := []) pl0
  have hfa := tt_fa.refl (K := Kd) (WA := []) pl0
  have lp1 := tt_lo p1
  have up1 := tt_hi p1
  refine jj_lload_n C dX0_splitsLot_0 rfl ?_
  refine jj_lstore C dX0_splitsLot_1 (by decide) rfl ?_
  refine jj_iconst (v := 0) C dX0_splitsLot_3 (by decide) ?_
  refine jj_istore C dX0_splitsLot_4 (by decide) rfl ?_
  have hL_1 : ∀ (N : Nat) (pl : va_W) (x_2 : Int32) (y_3 : Int64), True → tt_ok tt_tk cA Kd pl → tt_fr Kd [] pl0 pl → tt_fa Kd [] pl0 pl → (0 : Int) ≤ x_2.toInt → x_2.toInt ≤ 40 → (2147483648 - x_2.toInt ≤ (N : Int)) → jj_J p l e (jj_rm 0 0 0 0) s m args below meth c 7 A (vx_MQ below (jj_q D A (tt_O (fun rx pl1 r => rx = [] ∧ tt_ok tt_tk cA Kd pl1 ∧ tt_fr Kd [] pl0 pl1 ∧ tt_fa Kd [] pl0 pl1 ∧ ((r = some (.int 0)) ∨ (r = some (.int 1)))))) (jj_x D A (tt_OX (fun _ _ _ => False))) args s 0 0 A) (jj_X D A ([] ++ pl)) 0 0 6 [(6, .int x_2), (4, .long y_3), (0, .ref h0), (1, .int p1), (2, .long p2)] [] := by
    intro NL_1
    induction NL_1 with
    | zero => intro pl x_2 y_3 _ hok hfr hfa lx_2 ux_2 hNL_1; exfalso; omega
    | succ NL_1 ihL_1 =>
      intro pl x_2 y_3 _ hok hfr hfa lx_2 ux_2 hNL_1
      replace ihL_1 := fun pl x_2 y_3 h1 => ihL_1 pl x_2 y_3 trivial h1
      refine jj_iload C dX0_splitsLot_6 rfl ?_
      refine jj_aload_n C dX0_splitsLot_8 rfl ?_
      refine tt_get C hok jk_2 8 (by decide) jw_9d0ccd4490 (t := (0, 0, 40)) hk0 (by decide) rfl rfl dX0_splitsLot_9 (fun v_4 hv_4 hf_5 => ?_)
      obtain ⟨x_6, rfl, lx_6, ux_6⟩ := tt_vi hv_4
      refine jj_icmp_ge (tgt := 57) C dX0_splitsLot_12 (by decide) (fun c_7 => ?_) (fun c_7 => ?_)
      · have z_c_7 := jc_le (a := (x_6).toInt) (b := (x_2).toInt) c_7 rfl rfl
        refine jj_lload C dX0_splitsLot_57 rfl ?_
        refine jj_lconst (v := 0) C dX0_splitsLot_59 (by decide) ?_
        refine jj_lcmp_ge (tgt := 68) C dX0_splitsLot_60 dX0_splitsLot_61 (by decide) (fun c_8 => ?_) (fun c_8 => ?_)
        · refine jj_iconst (v := 0) C dX0_splitsLot_68 (by decide) ?_
          exact jj_zret C rfl ⟨[], pl, rfl, rfl, hok, hfr, hfa, (Or.inl rfl)⟩ dX0_splitsLot_69 (jj_le rfl) (jj_le rfl)
        · refine jj_iconst (v := 1) C dX0_splitsLot_64 (by decide) ?_
          refine jj_goto (tgt := 69) C dX0_splitsLot_65 (by decide) ?_
          exact jj_zret C rfl ⟨[], pl, rfl, rfl, hok, hfr, hfa, (Or.inr rfl)⟩ dX0_splitsLot_69 (jj_le rfl) (jj_le rfl)
      · have z_c_7 := jc_nle (a := (x_6).toInt) (b := (x_2).toInt) c_7 rfl rfl
        refine jj_lload C dX0_splitsLot_15 rfl ?_
        refine jj_lconst (v := 0) C dX0_splitsLot_17 (by decide) ?_
        refine jj_lcmp_le (tgt := 57) C dX0_splitsLot_18 dX0_splitsLot_19 (by decide) (fun c_9 => ?_) (fun c_9 => ?_)
        · refine jj_lload C dX0_splitsLot_57 rfl ?_
          refine jj_lconst (v := 0) C dX0_splitsLot_59 (by decide) ?_
          refine jj_lcmp_ge (tgt := 68) C dX0_splitsLot_60 dX0_splitsLot_61 (by decide) (fun c_10 => ?_) (fun c_10 => ?_)
          · refine jj_iconst (v := 0) C dX0_splitsLot_68 (by decide) ?_
            exact jj_zret C rfl ⟨[], pl, rfl, rfl, hok, hfr, hfa, (Or.inl rfl)⟩ dX0_splitsLot_69 (jj_le rfl) (jj_le rfl)
          · refine jj_iconst (v := 1) C dX0_splitsLot_64 (by decide) ?_
            refine jj_goto (tgt := 69) C dX0_splitsLot_65 (by decide) ?_
            exact jj_zret C rfl ⟨[], pl, rfl, rfl, hok, hfr, hfa, (Or.inr rfl)⟩ dX0_splitsLot_69 (jj_le rfl) (jj_le rfl)
        · refine jj_aload_n C dX0_splitsLot_22 rfl ?_
          refine tt_get C hok jk_2 12 (by decide) jw_5f730213e9 (t := (2, 7, 0)) hk0 (by decide) rfl rfl dX0_splitsLot_23 (fun v_11 hv_11 hf_12 => ?_)
          obtain ⟨a_13, rfl, ka_13⟩ := tt_vr hv_11
          refine jj_iload C dX0_splitsLot_26 rfl ?_
          refine tt_aald C hok (t := (2, 3, 0)) ka_13 (by decide) rfl rfl rfl (vp_in_iff.mpr ⟨by omega, by omega⟩) dX0_splitsLot_28 (fun v_14 hv_14 => ?_)
          obtain ⟨a_15, rfl, ka_15⟩ := tt_vr hv_14
          refine tt_get C hok jk_5 0 (by decide) jw_89374484be (t := (0, (-2147483648), 2147483647)) ka_15 (by decide) rfl rfl dX0_splitsLot_29 (fun v_16 hv_16 hf_17 => ?_)
          obtain ⟨x_18, rfl, lx_18, ux_18⟩ := tt_vi hv_16
          refine jj_iload_n C dX0_splitsLot_32 rfl ?_
          refine jj_icmp_ne (tgt := 51) C dX0_splitsLot_33 (by decide) (fun c_19 => ?_) (fun c_19 => ?_)
          · have z_c_19 := jc_neq (a := (x_18).toInt) (b := (p1).toInt) c_19 rfl rfl
            obtain ⟨x_20, ex_20, vx_20⟩ := tt_inc (x := x_2) (n := 1) (by omega) (by omega)
            refine jj_iinc (v := x_20) C dX0_splitsLot_51 rfl ex_20 (by decide) rfl ?_
            refine jj_goto (tgt := 6) C dX0_splitsLot_54 (by decide) ?_
            exact ihL_1 pl x_20 y_3 hok hfr hfa (by first | omega | decide | exact tt_lo _ | exact tt_hi _) (by first | omega | decide | exact tt_lo _ | exact tt_hi _) (by first | omega | decide | exact tt_lo _ | exact tt_hi _)
          · have z_c_19 := jc_eq (a := (x_18).toInt) (b := (p1).toInt) c_19 rfl rfl
            refine jj_lload C dX0_splitsLot_36 rfl ?_
            refine jj_aload_n C dX0_splitsLot_38 rfl ?_
            refine tt_getF C hok jk_2 12 (by decide) jw_5f730213e9 (t := (2, 7, 0)) hk0 (by decide) rfl rfl hf_12 dX0_splitsLot_39 ?_
            refine jj_iload C dX0_splitsLot_42 rfl ?_
            refine tt_aald C hok (t := (2, 3, 0)) ka_13 (by decide) rfl rfl rfl (vp_in_iff.mpr ⟨by omega, by omega⟩) dX0_splitsLot_44 (fun v_21 hv_21 => ?_)
            obtain ⟨a_22, rfl, ka_22⟩ := tt_vr hv_21
            refine tt_get C hok jk_5 3 (by decide) jw_1f6afd9b6f (t := (1, (-9223372036854775808), 9223372036854775807)) ka_22 (by decide) rfl rfl dX0_splitsLot_45 (fun v_23 hv_23 hf_24 => ?_)
            obtain ⟨y_25, rfl, -, -⟩ := tt_vj hv_23
            obtain ⟨y_26, ey_26⟩ : ∃ z : Int64, y_3 - y_25 = z := ⟨_, rfl⟩
            refine jj_lsub (v := y_26) C dX0_splitsLot_48 ey_26 ?_
            refine jj_lstore C dX0_splitsLot_49 (by decide) rfl ?_
            obtain ⟨x_27, ex_27, vx_27⟩ := tt_inc (x := x_2) (n := 1) (by omega) (by omega)
            refine jj_iinc (v := x_27) C dX0_splitsLot_51 rfl ex_27 (by decide) rfl ?_
            refine jj_goto (tgt := 6) C dX0_splitsLot_54 (by decide) ?_
            exact ihL_1 pl x_27 y_26 hok hfr hfa (by first | omega | decide | exact tt_lo _ | exact tt_hi _) (by first | omega | decide | exact tt_lo _ | exact tt_hi _) (by first | omega | decide | exact tt_lo _ | exact tt_hi _)
  exact hL_1 _ pl0 (0 : Int32) p2 trivial hok hfr hfa (by first | omega | decide | exact tt_lo _ | exact tt_hi _) (by first | omega | decide | exact tt_lo _ | exact tt_hi _) (Int.self_le_toNat _)

set_option maxHeartbeats 4000000 in
set_option maxRecDepth 100000 in
theorem tc_X0_transferFault_1 {l : Launch} (hl : l.stackTraces = false) (D : va_G) (cA : Nat → ClassId) (ak : (Nat → Nat) × (Nat → Nat)) {Kd : Nat → Nat} (h0 : Nat) (p1 : Int32) (p2 : Int32) (p3 : Int32) (hk0 : Kd h0 = 1) {pl0 : va_W} (hok : tt_ok tt_tk cA Kd pl0) : jj_M l D cA ak yX0_transferFault (.code yX0_transferFault cX0_transferFault 4 (some .int)) 1 26 0 0 ([] ++ pl0) [.ref h0, .int p1, .int p2, .int p3] (tt_O (fun rx pl1 r => rx = [] ∧ tt_ok tt_tk cA Kd pl1 ∧ tt_fr Kd [] pl0 pl1 ∧ tt_fa Kd [] pl0 pl1 ∧ ((r = some (.int 1)) ∨ ((0 : Int) ≤ p1.toInt ∧ p1.toInt ≤ 2147483646 ∧ (0 : Int) ≤ p2.toInt ∧ p2.toInt ≤ 2147483646 ∧ r = some (.int 2)) ∨ ((0 : Int) ≤ p1.toInt ∧ p1.toInt ≤ 2147483646 ∧ (0 : Int) ≤ p2.toInt ∧ p2.toInt ≤ 2147483646 ∧ (1 : Int) ≤ p3.toInt ∧ p3.toInt ≤ 99999999 ∧ r = some (.int 0)) ∨ ((0 : Int) ≤ p1.toInt ∧ p1.toInt ≤ 2147483646 ∧ (0 : Int) ≤ p2.toInt ∧ p2.toInt ≤ 2147483646 ∧ (1 : Int) ≤ p3.toInt ∧ p3.toInt ≤ 99999999 ∧ r = some (.int 3))))) (tt_OX (fun _ _ _ => False)) := by
  refine jj_start hl (by decide) jw_aaaeb43ff8 (jj_le rfl) ?_
  intro p e s m args below meth c A hargs hA C hex hmn
  have hfr := tt_fr.refl (K := Kd) (WS := []) pl0
  have hfa := tt_fa.refl (K := Kd) (WA := []) pl0
  have lp1 := tt_lo p1
  have up1 := tt_hi p1
  have lp2 := tt_lo p2
  have up2 := tt_hi p2
  have lp3 := tt_lo p3
  have up3 := tt_hi p3
  refine jj_aload_n C dX0_transferFault_0 rfl ?_
  refine jj_iload_n C dX0_transferFault_1 rfl ?_
  obtain ⟨qc, gs, hqc⟩ := tt_recv (cx := []) hok hk0 (by decide) rfl
  refine tt_callV (rest := []) C (tc_X0_hasInvestor_1 hl D cA ak h0 p1 hk0 hok) [] [] rfl rfl (by decide) (by decide) (by decide) qc hqc rfl rfl jw_d8d4914792 jw_4b2ee875de jw_b17a3ad3c3 jw_7d25d4fd32 jw_46cdbc56f6 jn_X0_hasInvestor rfl (jj_le rfl) (jj_le rfl) (jj_le rfl) (jj_le rfl) (jj_le rfl) dX0_transferFault_2 rfl (fun _ _ _ hX => hX.elim) (fun rx pl_1 r O_4 => ?_)
  obtain ⟨rfl, hok_2, hr_3, hfa9, hR_6⟩ := O_4
  replace hfr := hfr.trans (hr_3.sub (by decide))
  replace hfa := hfa.trans (hfa9.sub (by decide))
  rcases hR_6 with rfl | ⟨l_9, u_10, rfl⟩
  · refine jj_if_eqT (tgt := 16) C dX0_transferFault_5 (by decide) (by decide) ?_
    refine jj_iconst (v := 1) C dX0_transferFault_16 (by decide) ?_
    exact jj_iret C ⟨[], pl_1, rfl, rfl, hok_2, hfr, hfa, (Or.inl rfl)⟩ dX0_transferFault_17 (jj_le rfl) (jj_le rfl)
  · refine jj_if_eqF (tgt := 16) C dX0_transferFault_5 (by decide) (by decide) ?_
    refine jj_aload_n C dX0_transferFault_8 rfl ?_
    refine jj_iload_n C dX0_transferFault_9 rfl ?_
    obtain ⟨qc, gs, hqc⟩ := tt_recv (cx := []) hok_2 hk0 (by decide) rfl
    refine tt_callV (rest := []) C (tc_X0_hasInvestor_1 hl D cA ak h0 p2 hk0 hok_2) [] [] rfl rfl (by decide) (by decide) (by decide) qc hqc rfl rfl jw_d8d4914792 jw_4b2ee875de jw_b17a3ad3c3 jw_7d25d4fd32 jw_46cdbc56f6 jn_X0_hasInvestor rfl (jj_le rfl) (jj_le rfl) (jj_le rfl) (jj_le rfl) (jj_le rfl) dX0_transferFault_10 rfl (fun _ _ _ hX => hX.elim) (fun rx pl_11 r O_14 => ?_)
    obtain ⟨rfl, hok_12, hr_13, hfa9, hR_16⟩ := O_14
    replace hfr := hfr.trans (hr_13.sub (by decide))
    replace hfa := hfa.trans (hfa9.sub (by decide))
    rcases hR_16 with rfl | ⟨l_19, u_20, rfl⟩
    · refine jj_if_neF (tgt := 18) C dX0_transferFault_13 (by decide) (by decide) ?_
      refine jj_iconst (v := 1) C dX0_transferFault_16 (by decide) ?_
      exact jj_iret C ⟨[], pl_11, rfl, rfl, hok_12, hfr, hfa, (Or.inl rfl)⟩ dX0_transferFault_17 (jj_le rfl) (jj_le rfl)
    · refine jj_if_neT (tgt := 18) C dX0_transferFault_13 (by decide) (by decide) ?_
      refine jj_iload_n C dX0_transferFault_18 rfl ?_
      refine jj_iload_n C dX0_transferFault_19 rfl ?_
      refine jj_icmp_eq (tgt := 34) C dX0_transferFault_20 (by decide) (fun c_21 => ?_) (fun c_21 => ?_)
      · have z_c_21 := jc_eq (a := (p1).toInt) (b := (p2).toInt) c_21 rfl rfl
        refine jj_iconst (v := 2) C dX0_transferFault_34 (by decide) ?_
        exact jj_iret C ⟨[], pl_11, rfl, rfl, hok_12, hfr, hfa, (Or.inr (Or.inl ⟨(by first | omega | exact tt_lo _ | exact tt_hi _), (by first | omega | exact tt_lo _ | exact tt_hi _), (by first | omega | exact tt_lo _ | exact tt_hi _), (by first | omega | exact tt_lo _ | exact tt_hi _), rfl⟩))⟩ dX0_transferFault_35 (jj_le rfl) (jj_le rfl)
      · have z_c_21 := jc_neq (a := (p1).toInt) (b := (p2).toInt) c_21 rfl rfl
        refine jj_iload_n C dX0_transferFault_23 rfl ?_
        refine jj_iconst (v := 1) C dX0_transferFault_24 (by decide) ?_
        refine jj_icmp_lt (tgt := 34) C dX0_transferFault_25 (by decide) (fun c_22 => ?_) (fun c_22 => ?_)
        · have z_c_22 := jc_lt (a := (p3).toInt) (b := (1)) c_22 rfl (by decide)
          refine jj_iconst (v := 2) C dX0_transferFault_34 (by decide) ?_
          exact jj_iret C ⟨[], pl_11, rfl, rfl, hok_12, hfr, hfa, (Or.inr (Or.inl ⟨(by first | omega | exact tt_lo _ | exact tt_hi _), (by first | omega | exact tt_lo _ | exact tt_hi _), (by first | omega | exact tt_lo _ | exact tt_hi _), (by first | omega | exact tt_lo _ | exact tt_hi _), rfl⟩))⟩ dX0_transferFault_35 (jj_le rfl) (jj_le rfl)
        · have z_c_22 := jc_nlt (a := (p3).toInt) (b := (1)) c_22 rfl (by decide)
          refine jj_iload_n C dX0_transferFault_28 rfl ?_
          refine jj_ldc (v := 99999999) C dX0_transferFault_29 jw_c6a9136e44 ?_
          refine jj_icmp_le (tgt := 36) C dX0_transferFault_31 (by decide) (fun c_23 => ?_) (fun c_23 => ?_)
          · have z_c_23 := jc_le (a := (p3).toInt) (b := (99999999)) c_23 rfl (by decide)
            refine jj_aload_n C dX0_transferFault_36 rfl ?_
            refine jj_iload_n C dX0_transferFault_37 rfl ?_
            obtain ⟨qc, gs, hqc⟩ := tt_recv (cx := []) hok_12 hk0 (by decide) rfl
            refine tt_callV (rest := []) C (tc_X0_unitsHeldBy_1 hl D cA ak h0 p1 hk0 hok_12) [] [] rfl rfl (by decide) (by decide) (by decide) qc hqc rfl rfl jw_1b599813cf jw_473d3625aa jw_4058f4329f jw_7d25d4fd32 jw_325e36afd1 jn_X0_unitsHeldBy rfl (jj_le rfl) (jj_le rfl) (jj_le rfl) (jj_le rfl) (jj_le rfl) dX0_transferFault_38 rfl (fun _ _ _ hX => hX.elim) (fun rx pl_24 r O_27 => ?_)
            obtain ⟨rfl, hok_25, hr_26, hfa9, hR_29⟩ := O_27
            replace hfr := hfr.trans (hr_26.sub (by decide))
            replace hfa := hfa.trans (hfa9.sub (by decide))
            obtain ⟨y_32, rfl⟩ := hR_29
            refine jj_iload_n C dX0_transferFault_41 rfl ?_
            obtain ⟨y_33, ey_33, vy_33⟩ := tt_i2l p3
            refine jj_i2l (v := y_33) C dX0_transferFault_42 ey_33 ?_
            refine jj_aload_n C dX0_transferFault_43 rfl ?_
            refine jj_iload_n C dX0_transferFault_44 rfl ?_
            obtain ⟨qc, gs, hqc⟩ := tt_recv (cx := []) hok_25 hk0 (by decide) rfl
            refine tt_callV (rest := [.long y_33, .long y_32]) C (tc_X0_unitsWaitingOf_1 hl D cA ak h0 p1 hk0 hok_25) [] [] rfl rfl (by decide) (by decide) (by decide) qc hqc rfl rfl jw_a69bc0929e jw_cc201fd073 jw_2d4f72dead jw_7d25d4fd32 jw_fb2ca98b87 jn_X0_unitsWaitingOf rfl (jj_le rfl) (jj_le rfl) (jj_le rfl) (jj_le rfl) (jj_le rfl) dX0_transferFault_45 rfl (fun _ _ _ hX => hX.elim) (fun rx pl_34 r O_37 => ?_)
            obtain ⟨rfl, hok_35, hr_36, hfa9, hR_39⟩ := O_37
            replace hfr := hfr.trans (hr_36.sub (by decide))
            replace hfa := hfa.trans (hfa9.sub (by decide))
            obtain ⟨y_42, rfl⟩ := hR_39
            obtain ⟨y_43, ey_43⟩ : ∃ z : Int64, y_33 + y_42 = z := ⟨_, rfl⟩
            refine jj_ladd (v := y_43) C dX0_transferFault_48 ey_43 ?_
            refine jj_lcmp_ge (tgt := 55) C dX0_transferFault_49 dX0_transferFault_50 (by decide) (fun c_44 => ?_) (fun c_44 => ?_)
            · refine jj_aload_n C dX0_transferFault_55 rfl ?_
              refine tt_get C hok_35 jk_2 8 (by decide) jw_9d0ccd4490 (t := (0, 0, 40)) hk0 (by decide) rfl rfl dX0_transferFault_56 (fun v_45 hv_45 hf_46 => ?_)
              obtain ⟨x_47, rfl, lx_47, ux_47⟩ := tt_vi hv_45
              refine jj_bipush (v := 40) C dX0_transferFault_59 (by decide) ?_
              refine jj_icmp_lt (tgt := 78) C dX0_transferFault_61 (by decide) (fun c_48 => ?_) (fun c_48 => ?_)
              · have z_c_48 := jc_lt (a := (x_47).toInt) (b := (40)) c_48 rfl (by decide)
                refine jj_iconst (v := 0) C dX0_transferFault_78 (by decide) ?_
                exact jj_iret C ⟨[], pl_34, rfl, rfl, hok_35, hfr, hfa, (Or.inr (Or.inr (Or.inl ⟨(by first | omega | exact tt_lo _ | exact tt_hi _), (by first | omega | exact tt_lo _ | exact tt_hi _), (by first | omega | exact tt_lo _ | exact tt_hi _), (by first | omega | exact tt_lo _ | exact tt_hi _), (by first | omega | exact tt_lo _ | exact tt_hi _), (by first | omega | exact tt_lo _ | exact tt_hi _), rfl⟩)))⟩ dX0_transferFault_79 (jj_le rfl) (jj_le rfl)
              · have z_c_48 := jc_nlt (a := (x_47).toInt) (b := (40)) c_48 rfl (by decide)
                refine jj_aload_n C dX0_transferFault_64 rfl ?_
                refine jj_iload_n C dX0_transferFault_65 rfl ?_
                refine jj_iload_n C dX0_transferFault_66 rfl ?_
                obtain ⟨y_49, ey_49, vy_49⟩ := tt_i2l p3
                refine jj_i2l (v := y_49) C dX0_transferFault_67 ey_49 ?_
                obtain ⟨qc, gs, hqc⟩ := tt_recv (cx := []) hok_35 hk0 (by decide) rfl
                refine tt_callV (rest := []) C (tc_X0_splitsLot_1 hl D cA ak h0 p1 y_49 hk0 hok_35) [] [] rfl rfl (by decide) (by decide) (by decide) qc hqc rfl rfl jw_7dc5b0b3c8 jw_b1520a7696 jw_216b1d33ad jw_7d25d4fd32 jw_7310f8aa9c jn_X0_splitsLot rfl (jj_le rfl) (jj_le rfl) (jj_le rfl) (jj_le rfl) (jj_le rfl) dX0_transferFault_68 rfl (fun _ _ _ hX => hX.elim) (fun rx pl_50 r O_53 => ?_)
                obtain ⟨rfl, hok_51, hr_52, hfa9, hR_55⟩ := O_53
                replace hf_46 := hr_52.at hk0 (by decide) (by decide) hf_46
                replace hfr := hfr.trans (hr_52.sub (by decide))
                replace hfa := hfa.trans (hfa9.sub (by decide))
                rcases hR_55 with rfl | rfl
                · refine jj_if_eqT (tgt := 78) C dX0_transferFault_71 (by decide) (by decide) ?_
                  refine jj_iconst (v := 0) C dX0_transferFault_78 (by decide) ?_
                  exact jj_iret C ⟨[], pl_50, rfl, rfl, hok_51, hfr, hfa, (Or.inr (Or.inr (Or.inl ⟨(by first | omega | exact tt_lo _ | exact tt_hi _), (by first | omega | exact tt_lo _ | exact tt_hi _), (by first | omega | exact tt_lo _ | exact tt_hi _), (by first | omega | exact tt_lo _ | exact tt_hi _), (by first | omega | exact tt_lo _ | exact tt_hi _), (by first | omega | exact tt_lo _ | exact tt_hi _), rfl⟩)))⟩ dX0_transferFault_79 (jj_le rfl) (jj_le rfl)
                · refine jj_if_eqF (tgt := 78) C dX0_transferFault_71 (by decide) (by decide) ?_
                  refine jj_iconst (v := 3) C dX0_transferFault_74 (by decide) ?_
                  refine jj_goto (tgt := 79) C dX0_transferFault_75 (by decide) ?_
                  exact jj_iret C ⟨[], pl_50, rfl, rfl, hok_51, hfr, hfa, (Or.inr (Or.inr (Or.inr ⟨(by first | omega | exact tt_lo _ | exact tt_hi _), (by first | omega | exact tt_lo _ | exact tt_hi _), (by first | omega | exact tt_lo _ | exact tt_hi _), (by first | omega | exact tt_lo _ | exact tt_hi _), (by first | omega | exact tt_lo _ | exact tt_hi _), (by first | omega | exact tt_lo _ | exact tt_hi _), rfl⟩)))⟩ dX0_transferFault_79 (jj_le rfl) (jj_le rfl)
            · refine jj_iconst (v := 3) C dX0_transferFault_53 (by decide) ?_
              exact jj_iret C ⟨[], pl_34, rfl, rfl, hok_35, hfr, hfa, (Or.inr (Or.inr (Or.inr ⟨(by first | omega | exact tt_lo _ | exact tt_hi _), (by first | omega | exact tt_lo _ | exact tt_hi _), (by first | omega | exact tt_lo _ | exact tt_hi _), (by first | omega | exact tt_lo _ | exact tt_hi _), (by first | omega | exact tt_lo _ | exact tt_hi _), (by first | omega | exact tt_lo _ | exact tt_hi _), rfl⟩)))⟩ dX0_transferFault_54 (jj_le rfl) (jj_le rfl)
          · have z_c_23 := jc_nle (a := (p3).toInt) (b := (99999999)) c_23 rfl (by decide)
            refine jj_iconst (v := 2) C dX0_transferFault_34 (by decide) ?_
            exact jj_iret C ⟨[], pl_11, rfl, rfl, hok_12, hfr, hfa, (Or.inr (Or.inl ⟨(by first | omega | exact tt_lo _ | exact tt_hi _), (by first | omega | exact tt_lo _ | exact tt_hi _), (by first | omega | exact tt_lo _ | exact tt_hi _), (by first | omega | exact tt_lo _ | exact tt_hi _), rfl⟩))⟩ dX0_transferFault_35 (jj_le rfl) (jj_le rfl)

