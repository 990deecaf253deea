set_option maxHeartbeats 4000000 in
set_option maxRecDepth 100000 in
theorem tc_X10_richest_1 {l : Launch} (hl : l.stackTraces = false) (D : va_G) (cA : Nat → ClassId) (ak : (Nat → Nat) × (Nat → Nat)) {Kd : Nat → Nat} (h0 : Nat) (p1 : Int32) (hk0 : Kd h0 = 15) {pl0 : va_W} (hok : tt_ok tt_tk cA Kd pl0) : jj_M l D cA ak yX10_richest (.code yX10_richest cX10_richest 3 (some .int)) 8 138 1 6 ([] ++ pl0) [.ref h0, .int p1] (tt_O (fun rx pl1 r => rx = [] ∧ tt_ok tt_tk cA Kd pl1 ∧ tt_fr Kd [(2, 0), (2, 1), (2, 2), (2, 3), (2, 4), (9, 1), (9, 2), (9, 3), (9, 4), (9, 5)] pl0 pl1 ∧ (((0 : Int) ≤ p1.toInt ∧ p1.toInt ≤ 2147483646 ∧ r = some (.int (-1))) ∨ (∃ v : Int32, (0 : Int) ≤ v.toInt ∧ v.toInt ≤ 2147483646 ∧ (0 : Int) ≤ p1.toInt ∧ p1.toInt ≤ 2147483646 ∧ r = some (.int v))))) (tt_OX (fun E rx pl1 => rx = [] ∧ tt_ok tt_tk cA Kd pl1 ∧ tt_fr Kd [(2, 0), (2, 1), (2, 2), (2, 3), (2, 4), (9, 1), (9, 2), (9, 3), (9, 4), (9, 5)] pl0 pl1 ∧ (E = "java/lang/IndexOutOfBoundsException"))) := by
  refine jj_start hl (by decide) jw_bbba4fb508 (jj_le rfl) ?_
  intro p e s m args below meth c A hargs hA C hex hmn
  have hfr := tt_fr.refl (K := Kd) (WS := [(2, 0), (2, 1), (2, 2), (2, 3), (2, 4), (9, 1), (9, 2), (9, 3), (9, 4), (9, 5)]) pl0
  have lp1 := tt_lo p1
  have up1 := tt_hi p1
  refine jj_aload_n C dX10_richest_0 rfl ?_
  refine jj_iload_n C dX10_richest_1 rfl ?_
  obtain ⟨qc, gs, hqc⟩ := tt_recv (cx := []) hok hk0 (by decide) rfl
  refine tt_callV (rest := []) C (tc_X10_checkInvestor_1 hl D cA ak h0 p1 hk0 hok) [] [] rfl rfl (by decide) (by decide) (by decide) qc hqc rfl rfl jw_c489a67580 jw_a350a61418 jw_0e27b6f20c jw_6f6d707074 jw_a8b8d648f8 jn_X10_checkInvestor rfl (jj_le rfl) (jj_le rfl) (jj_le rfl) (jj_le rfl) (jj_le rfl) dX10_richest_2 rfl (fun E rx pl_1 X_5 => ?_) (fun rx pl_1 r O_4 => ?_)
  · obtain ⟨rfl, hok_2, hr_3, hE_6⟩ := X_5
    replace hfr := hfr.trans (hr_3.sub (by decide))
    obtain rfl := hE_6
    exact jj_out C hex ⟨[], pl_1, rfl, rfl, hok_2, hfr, rfl⟩ (jj_le rfl) (jj_le rfl)
  · obtain ⟨rfl, hok_2, hr_3, hR_9⟩ := O_4
    replace hfr := hfr.trans (hr_3.sub (by decide))
    obtain ⟨l_12, u_13, rfl⟩ := hR_9
    refine jj_iconst (v := 0) C dX10_richest_5 (by decide) ?_
    refine jj_istore_n C dX10_richest_6 (by decide) rfl ?_
    have hL_14 : ∀ (N : Nat) (pl : va_W) (x_15 : Int32), True → tt_ok tt_tk cA Kd pl → tt_fr Kd [(2, 0), (2, 1), (2, 2), (2, 3), (2, 4), (9, 1), (9, 2), (9, 3), (9, 4), (9, 5)] pl0 pl → (0 : Int) ≤ x_15.toInt → x_15.toInt ≤ 2147483647 → (2147483648 - x_15.toInt ≤ (N : Int)) → jj_J p l e (jj_rm 8 138 1 6) s m args below meth c 3 A (vx_MQ below (jj_q D A (tt_O (fun rx pl1 r => rx = [] ∧ tt_ok tt_tk cA Kd pl1 ∧ tt_fr Kd [(2, 0), (2, 1), (2, 2), (2, 3), (2, 4), (9, 1), (9, 2), (9, 3), (9, 4), (9, 5)] pl0 pl1 ∧ (((0 : Int) ≤ p1.toInt ∧ p1.toInt ≤ 2147483646 ∧ r = some (.int (-1))) ∨ (∃ v : Int32, (0 : Int) ≤ v.toInt ∧ v.toInt ≤ 2147483646 ∧ (0 : Int) ≤ p1.toInt ∧ p1.toInt ≤ 2147483646 ∧ r = some (.int v)))))) (jj_x D A (tt_OX (fun E rx pl1 => rx = [] ∧ tt_ok tt_tk cA Kd pl1 ∧ tt_fr Kd [(2, 0), (2, 1), (2, 2), (2, 3), (2, 4), (9, 1), (9, 2), (9, 3), (9, 4), (9, 5)] pl0 pl1 ∧ (E = "java/lang/IndexOutOfBoundsException")))) args s 1 6 A) (jj_X D A ([] ++ pl)) 1 6 7 [(2, .int x_15), (0, .ref h0), (1, .int p1)] [] := by
      intro NL_14
      induction NL_14 with
      | zero => intro pl x_15 _ hok hfr lx_15 ux_15 hNL_14; exfalso; omega
      | succ NL_14 ihL_14 =>
        intro pl x_15 _ hok hfr lx_15 ux_15 hNL_14
        replace ihL_14 := fun pl x_15 h1 => ihL_14 pl x_15 trivial h1
        refine jj_iload_n C dX10_richest_7 rfl ?_
        refine jj_aload_n C dX10_richest_8 rfl ?_
        refine tt_get C hok jk_11 3 (by decide) jw_f82a97e333 (t := (2, 1, 0)) hk0 (by decide) rfl rfl dX10_richest_9 (fun v_16 hv_16 hf_17 => ?_)
        obtain ⟨a_18, rfl, ka_18⟩ := tt_vr hv_16
        refine tt_get C hok jk_2 0 (by decide) jw_ea0f6256bc (t := (0, (-2147483648), 2147483647)) ka_18 (by decide) rfl rfl dX10_richest_12 (fun v_19 hv_19 hf_20 => ?_)
        obtain ⟨x_21, rfl, lx_21, ux_21⟩ := tt_vi hv_19
        refine jj_icmp_ge (tgt := 35) C dX10_richest_15 (by decide) (fun c_22 => ?_) (fun c_22 => ?_)
        · have z_c_22 := jc_le (a := (x_21).toInt) (b := (x_15).toInt) c_22 rfl rfl
          refine jj_iconst (v := (-1)) C dX10_richest_35 (by decide) ?_
          exact jj_iret C ⟨[], pl, rfl, rfl, hok, hfr, (Or.inl ⟨(by first | omega | exact tt_lo _ | exact tt_hi _), (by first | omega | exact tt_lo _ | exact tt_hi _), rfl⟩)⟩ dX10_richest_36 (jj_le rfl) (jj_le rfl)
        · have z_c_22 := jc_nle (a := (x_21).toInt) (b := (x_15).toInt) c_22 rfl rfl
          refine jj_aload_n C dX10_richest_18 rfl ?_
          refine jj_iload_n C dX10_richest_19 rfl ?_
          obtain ⟨qc, gs, hqc⟩ := tt_recv (cx := []) hok hk0 (by decide) rfl
          refine tt_callV (rest := []) C (tc_X10_placeInRanking_14 hl D cA ak h0 x_15 hk0 hok) [] [] rfl rfl (by decide) (by decide) (by decide) qc hqc rfl rfl jw_3312ecfce8 jw_d5d710a83a jw_ac6b30ff33 jw_6f6d707074 jw_1d9aa5a1ce jn_X10_placeInRanking rfl (jj_le rfl) (jj_le rfl) (jj_le rfl) (jj_le rfl) (jj_le rfl) dX10_richest_20 rfl (fun _ _ _ hX => hX.elim) (fun rx pl_23 r O_26 => ?_)
          obtain ⟨rfl, hok_24, hr_25, hR_28⟩ := O_26
          replace hf_17 := hr_25.at hk0 (by decide) (by decide) hf_17
          replace hf_20 := hr_25.at ka_18 (by decide) (by decide) hf_20
          replace hfr := hfr.trans (hr_25.sub (by decide))
          obtain ⟨x_31, lx_31, ux_31, rfl⟩ := hR_28
          refine jj_iload_n C dX10_richest_23 rfl ?_
          refine jj_icmp_ne (tgt := 29) C dX10_richest_24 (by decide) (fun c_32 => ?_) (fun c_32 => ?_)
          · have z_c_32 := jc_neq (a := (x_31).toInt) (b := (p1).toInt) c_32 rfl rfl
            obtain ⟨x_33, ex_33, vx_33⟩ := tt_inc (x := x_15) (n := 1) (by omega) (by omega)
            refine jj_iinc (v := x_33) C dX10_richest_29 rfl ex_33 (by decide) rfl ?_
            refine jj_goto (tgt := 7) C dX10_richest_32 (by decide) ?_
            exact ihL_14 pl_23 x_33 hok_24 hfr (by first | omega | decide | exact tt_lo _ | exact tt_hi _) (by first | omega | decide | exact tt_lo _ | exact tt_hi _) (by first | omega | decide | exact tt_lo _ | exact tt_hi _)
          · have z_c_32 := jc_eq (a := (x_31).toInt) (b := (p1).toInt) c_32 rfl rfl
            refine jj_iload_n C dX10_richest_27 rfl ?_
            exact jj_iret C ⟨[], pl_23, rfl, rfl, hok_24, hfr, (Or.inr ⟨x_15, (by first | omega | exact tt_lo _ | exact tt_hi _), (by first | omega | exact tt_lo _ | exact tt_hi _), (by first | omega | exact tt_lo _ | exact tt_hi _), (by first | omega | exact tt_lo _ | exact tt_hi _), rfl⟩)⟩ dX10_richest_28 (jj_le rfl) (jj_le rfl)
    exact hL_14 _ pl_1 (0 : Int32) trivial hok_2 hfr (by first | omega | decide | exact tt_lo _ | exact tt_hi _) (by first | omega | decide | exact tt_lo _ | exact tt_hi _) (Int.self_le_toNat _)

set_option maxHeartbeats 4000000 in
set_option maxRecDepth 100000 in
theorem tc_X8_netPrice_1 {l : Launch} (hl : l.stackTraces = false) (D : va_G) (cA : Nat → ClassId) (ak : (Nat → Nat) × (Nat → Nat)) {Kd : Nat → Nat} (h0 : Nat) (p1 : Int32) (hk0 : Kd h0 = 2) {pl0 : va_W} (hok : tt_ok tt_tk cA Kd pl0) : jj_M l D cA ak yX8_netPrice (.code yX8_netPrice cX8_netPrice 2 (some .long)) 1 25 0 0 ([] ++ pl0) [.ref h0, .int p1] (tt_O (fun rx pl1 r => rx = [] ∧ tt_ok tt_tk cA Kd pl1 ∧ tt_fr Kd [] pl0 pl1 ∧ ((r = some (.long 1000000)) ∨ (∃ v : Int64, r = some (.long v))))) (tt_OX (fun _ _ _ => False)) := by
  refine jj_start hl (by decide) jw_9476451334 (jj_le rfl) ?_
  intro p e s m args below meth c A hargs hA C hex hmn
  have hfr := tt_fr.refl (K := Kd) (WS := []) pl0
  have lp1 := tt_lo p1
  have up1 := tt_hi p1
  refine jj_aload_n C dX8_netPrice_0 rfl ?_
  refine jj_aload_n C dX8_netPrice_1 rfl ?_
  refine tt_get C hok jk_9 2 (by decide) jw_589ef22e6e (t := (1, (-9223372036854775808), 9223372036854775807)) hk0 (by decide) rfl rfl dX8_netPrice_2 (fun v_1 hv_1 hf_2 => ?_)
  obtain ⟨y_3, rfl, -, -⟩ := tt_vj hv_1
  refine jj_aload_n C dX8_netPrice_5 rfl ?_
  refine jj_iload_n C dX8_netPrice_6 rfl ?_
  obtain ⟨qc, gs, hqc⟩ := tt_recv (cx := []) hok hk0 (by decide) rfl
  refine tt_callV (rest := [.long y_3, .ref h0]) C (tc_X8_accruedFee_1 hl D cA ak h0 p1 hk0 hok) [] [] rfl rfl (by decide) (by decide) (by decide) qc hqc rfl rfl jw_51cf15601b jw_16e73d269e jw_e0ac78627f jw_364e75910d jw_449e8f4cf4 jn_X8_accruedFee rfl (jj_le rfl) (jj_le rfl) (jj_le rfl) (jj_le rfl) (jj_le rfl) dX8_netPrice_7 rfl (fun _ _ _ hX => hX.elim) (fun rx pl_4 r O_7 => ?_)
  obtain ⟨rfl, hok_5, hr_6, hR_9⟩ := O_7
  replace hf_2 := hr_6.at hk0 (by decide) (by decide) hf_2
  replace hfr := hfr.trans (hr_6.sub (by decide))
  rcases hR_9 with rfl | ⟨y_12, rfl⟩
  · obtain ⟨y_13, ey_13⟩ : ∃ z : Int64, y_3 - (0 : Int64) = z := ⟨_, rfl⟩
    refine jj_lsub (v := y_13) C dX8_netPrice_10 ey_13 ?_
    obtain ⟨qc, gs, hqc⟩ := tt_recv (cx := []) hok_5 hk0 (by decide) rfl
    refine tt_callV (rest := []) C (tc_X8_priceWith_1 hl D cA ak h0 y_13 hk0 hok_5) [] [] rfl rfl (by decide) (by decide) (by decide) qc hqc rfl rfl jw_3333aa6e09 jw_2e72231b40 jw_b9c09a9015 jw_364e75910d jw_62a4e9d3ce jn_X8_priceWith rfl (jj_le rfl) (jj_le rfl) (jj_le rfl) (jj_le rfl) (jj_le rfl) dX8_netPrice_11 rfl (fun _ _ _ hX => hX.elim) (fun rx pl_14 r O_17 => ?_)
    obtain ⟨rfl, hok_15, hr_16, hR_19⟩ := O_17
    replace hf_2 := hr_16.at hk0 (by decide) (by decide) hf_2
    replace hfr := hfr.trans (hr_16.sub (by decide))
    rcases hR_19 with rfl | ⟨y_22, rfl⟩
    · exact jj_lret C ⟨[], pl_14, rfl, rfl, hok_15, hfr, (Or.inl rfl)⟩ dX8_netPrice_14 (jj_le rfl) (jj_le rfl)
    · exact jj_lret C ⟨[], pl_14, rfl, rfl, hok_15, hfr, (Or.inr ⟨y_22, rfl⟩)⟩ dX8_netPrice_14 (jj_le rfl) (jj_le rfl)
  · obtain ⟨y_23, ey_23⟩ : ∃ z : Int64, y_3 - y_12 = z := ⟨_, rfl⟩
    refine jj_lsub (v := y_23) C dX8_netPrice_10 ey_23 ?_
    obtain ⟨qc, gs, hqc⟩ := tt_recv (cx := []) hok_5 hk0 (by decide) rfl
    refine tt_callV (rest := []) C (tc_X8_priceWith_1 hl D cA ak h0 y_23 hk0 hok_5) [] [] rfl rfl (by decide) (by decide) (by decide) qc hqc rfl rfl jw_3333aa6e09 jw_2e72231b40 jw_b9c09a9015 jw_364e75910d jw_62a4e9d3ce jn_X8_priceWith rfl (jj_le rfl) (jj_le rfl) (jj_le rfl) (jj_le rfl) (jj_le rfl) dX8_netPrice_11 rfl (fun _ _ _ hX => hX.elim) (fun rx pl_24 r O_27 => ?_)
    obtain ⟨rfl, hok_25, hr_26, hR_29⟩ := O_27
    replace hf_2 := hr_26.at hk0 (by decide) (by decide) hf_2
    replace hfr := hfr.trans (hr_26.sub (by decide))
    rcases hR_29 with rfl | ⟨y_32, rfl⟩
    · exact jj_lret C ⟨[], pl_24, rfl, rfl, hok_25, hfr, (Or.inl rfl)⟩ dX8_netPrice_14 (jj_le rfl) (jj_le rfl)
    · exact jj_lret C ⟨[], pl_24, rfl, rfl, hok_25, hfr, (Or.inr ⟨y_32, rfl⟩)⟩ dX8_netPrice_14 (jj_le rfl) (jj_le rfl)

set_option maxHeartbeats 4000000 in
set_option maxRecDepth 100000 in
theorem tc_X0_lotsOfSeries_1 {l : Launch} (hl : l.stackTraces = false) (D : va_G) (cA : Nat → ClassId) (ak : (Nat → Nat) × (Nat → Nat)) {Kd : Nat → Nat} (h0 : Nat) (p1 : Int32) (hk0 : Kd h0 = 1) {pl0 : va_W} (hok : tt_ok tt_tk cA Kd pl0) : jj_M l D cA ak yX0_lotsOfSeries (.code yX0_lotsOfSeries cX0_lotsOfSeries 4 (some .int)) 0 0 0 0 ([] ++ pl0) [.ref h0, .int p1] (tt_O (fun rx pl1 r => rx = [] ∧ tt_ok tt_tk cA Kd pl1 ∧ tt_fr Kd [] pl0 pl1 ∧ ((∃ v : Int32, (-2147483648 : Int) ≤ v.toInt ∧ v.toInt ≤ 2147483647 ∧ r = some (.int v))))) (tt_OX (fun _ _ _ => False)) := by
  refine jj_start hl (by decide) jw_ce5b65608c (jj_le rfl) ?_
  intro p e s m args below meth c A hargs hA C hex hmn
  have hfr := tt_fr.refl (K := Kd) (WS := []) pl0
  have lp1 := tt_lo p1
  have up1 := tt_hi p1
  refine jj_iconst (v := 0) C dX0_lotsOfSeries_0 (by decide) ?_
  refine jj_istore_n C dX0_lotsOfSeries_1 (by decide) rfl ?_
  refine jj_iconst (v := 0) C dX0_lotsOfSeries_2 (by decide) ?_
  refine jj_istore_n C dX0_lotsOfSeries_3 (by decide) rfl ?_
  have hL_1 : ∀ (N : Nat) (pl : va_W) (x_2 : Int32) (x_3 : Int32), True → tt_ok tt_tk cA Kd pl → tt_fr Kd [] pl0 pl → (0 : Int) ≤ x_2.toInt → x_2.toInt ≤ 40 → (-2147483648 : Int) ≤ x_3.toInt → x_3.toInt ≤ 2147483647 → (2147483648 - x_2.toInt ≤ (N : Int)) → jj_J p l e (jj_rm 0 0 0 0) s m args below meth c 4 A (vx_MQ below (jj_q D A (tt_O (fun rx pl1 r => rx = [] ∧ tt_ok tt_tk cA Kd pl1 ∧ tt_fr Kd [] pl0 pl1 ∧ ((∃ v : Int32, (-2147483648 : Int) ≤ v.toInt ∧ v.toInt ≤ 2147483647 ∧ r = some (.int v)))))) (jj_x D A (tt_OX (fun _ _ _ => False))) args s 0 0 A) (jj_X D A ([] ++ pl)) 0 0 4 [(3, .int x_2), (2, .int x_3), (0, .ref h0), (1, .int p1)] [] := by
    intro NL_1
    induction NL_1 with
    | zero => intro pl x_2 x_3 _ hok hfr lx_2 ux_2 lx_3 ux_3 hNL_1; exfalso; omega
    | succ NL_1 ihL_1 =>
      intro pl x_2 x_3 _ hok hfr lx_2 ux_2 lx_3 ux_3 hNL_1
      replace ihL_1 := fun pl x_2 x_3 h1 => ihL_1 pl x_2 x_3 trivial h1
      refine jj_iload_n C dX0_lotsOfSeries_4 rfl ?_
      refine jj_aload_n C dX0_lotsOfSeries_5 rfl ?_
      refine tt_get C hok jk_2 8 (by decide) jw_9d0ccd4490 (t := (0, 0, 40)) hk0 (by decide) rfl rfl dX0_lotsOfSeries_6 (fun v_4 hv_4 hf_5 => ?_)
      obtain ⟨x_6, rfl, lx_6, ux_6⟩ := tt_vi hv_4
      refine jj_icmp_ge (tgt := 34) C dX0_lotsOfSeries_9 (by decide) (fun c_7 => ?_) (fun c_7 => ?_)
      · have z_c_7 := jc_le (a := (x_6).toInt) (b := (x_2).toInt) c_7 rfl rfl
        refine jj_iload_n C dX0_lotsOfSeries_34 rfl ?_
        exact jj_iret C ⟨[], pl, rfl, rfl, hok, hfr, ⟨x_3, (by first | omega | exact tt_lo _ | exact tt_hi _), (by first | omega | exact tt_lo _ | exact tt_hi _), rfl⟩⟩ dX0_lotsOfSeries_35 (jj_le rfl) (jj_le rfl)
      · have z_c_7 := jc_nle (a := (x_6).toInt) (b := (x_2).toInt) c_7 rfl rfl
        refine jj_aload_n C dX0_lotsOfSeries_12 rfl ?_
        refine tt_get C hok jk_2 12 (by decide) jw_5f730213e9 (t := (2, 7, 0)) hk0 (by decide) rfl rfl dX0_lotsOfSeries_13 (fun v_8 hv_8 hf_9 => ?_)
        obtain ⟨a_10, rfl, ka_10⟩ := tt_vr hv_8
        refine jj_iload_n C dX0_lotsOfSeries_16 rfl ?_
        refine tt_aald C hok (t := (2, 3, 0)) ka_10 (by decide) rfl rfl rfl (vp_in_iff.mpr ⟨by omega, by omega⟩) dX0_lotsOfSeries_17 (fun v_11 hv_11 => ?_)
        obtain ⟨a_12, rfl, ka_12⟩ := tt_vr hv_11
        refine tt_get C hok jk_5 1 (by decide) jw_53dba63b8f (t := (0, (-2147483648), 2147483647)) ka_12 (by decide) rfl rfl dX0_lotsOfSeries_18 (fun v_13 hv_13 hf_14 => ?_)
        obtain ⟨x_15, rfl, lx_15, ux_15⟩ := tt_vi hv_13
        refine jj_iload_n C dX0_lotsOfSeries_21 rfl ?_
        refine jj_icmp_ne (tgt := 28) C dX0_lotsOfSeries_22 (by decide) (fun c_16 => ?_) (fun c_16 => ?_)
        · have z_c_16 := jc_neq (a := (x_15).toInt) (b := (p1).toInt) c_16 rfl rfl
          obtain ⟨x_17, ex_17, vx_17⟩ := tt_inc (x := x_2) (n := 1) (by omega) (by omega)
          refine jj_iinc (v := x_17) C dX0_lotsOfSeries_28 rfl ex_17 (by decide) rfl ?_
          refine jj_goto (tgt := 4) C dX0_lotsOfSeries_31 (by decide) ?_
          exact ihL_1 pl x_17 x_3 hok hfr (by first | omega | decide | exact tt_lo _ | exact tt_hi _) (by first | omega | decide | exact tt_lo _ | exact tt_hi _) (by first | omega | decide | exact tt_lo _ | exact tt_hi _) (by first | omega | decide | exact tt_lo _ | exact tt_hi _) (by first | omega | decide | exact tt_lo _ | exact tt_hi _)
        · have z_c_16 := jc_eq (a := (x_15).toInt) (b := (p1).toInt) c_16 rfl rfl
          obtain ⟨x_18, ex_18⟩ : ∃ z : Int32, x_3 + Int32.ofInt 1 = z := ⟨_, rfl⟩
          refine jj_iinc (v := x_18) C dX0_lotsOfSeries_25 rfl ex_18 (by decide) rfl ?_
          obtain ⟨x_19, ex_19, vx_19⟩ := tt_inc (x := x_2) (n := 1) (by omega) (by omega)
          refine jj_iinc (v := x_19) C dX0_lotsOfSeries_28 rfl ex_19 (by decide) rfl ?_
          refine jj_goto (tgt := 4) C dX0_lotsOfSeries_31 (by decide) ?_
          exact ihL_1 pl x_19 x_18 hok hfr (by first | omega | decide | exact tt_lo _ | exact tt_hi _) (by first | omega | decide | exact tt_lo _ | exact tt_hi _) (by first | omega | decide | exact tt_lo _ | exact tt_hi _) (by first | omega | decide | exact tt_lo _ | exact tt_hi _) (by first | omega | decide | exact tt_lo _ | exact tt_hi _)
  exact hL_1 _ pl0 (0 : Int32) (0 : Int32) trivial hok hfr (by first | omega | decide | exact tt_lo _ | exact tt_hi _) (by first | omega | decide | exact tt_lo _ | exact tt_hi _) (by first | omega | decide | exact tt_lo _ | exact tt_hi _) (by first | omega | decide | exact tt_lo _ | exact tt_hi _) (Int.self_le_toNat _)

set_option maxHeartbeats 4000000 in
set_option maxRecDepth 100000 in
theorem tc_X10_seriesValue_1 {l : Launch} (hl : l.stackTraces = false) (D : va_G) (cA : Nat → ClassId) (ak : (Nat → Nat) × (Nat → Nat)) {Kd : Nat → Nat} (h0 : Nat) (p1 : Int32) (p2 : Int32) (hk0 : Kd h0 = 15) {pl0 : va_W} (hok : tt_ok tt_tk cA Kd pl0) : jj_M l D cA ak yX10_seriesValue (.code yX10_seriesValue cX10_seriesValue 4 (some .long)) 8 124 2 12 ([] ++ pl0) [.ref h0, .int p1, .int p2] (tt_O (fun rx pl1 r => rx = [] ∧ tt_ok tt_tk cA Kd pl1 ∧ tt_fr Kd [] pl0 pl1 ∧ ((∃ v : Int64, r = some (.long v)) ∨ (r = some (.long 0)) ∨ (r = some (.long 1000000))))) (tt_OX (fun E rx pl1 => rx = [] ∧ tt_ok tt_tk cA Kd pl1 ∧ tt_fr Kd [] pl0 pl1 ∧ (E = "java/lang/IllegalArgumentException" ∨ E = "java/lang/IndexOutOfBoundsException"))) := by
  refine jj_start hl (by decide) jw_17efc87c3d (jj_le rfl) ?_
  intro p e s m args below meth c A hargs hA C hex hmn
  have hfr := tt_fr.refl (K := Kd) (WS := []) pl0
  have lp1 := tt_lo p1
  have up1 := tt_hi p1
  have lp2 := tt_lo p2
  have up2 := tt_hi p2
  refine jj_aload_n C dX10_seriesValue_0 rfl ?_
  refine tt_get C hok jk_11 3 (by decide) jw_f82a97e333 (t := (2, 1, 0)) hk0 (by decide) rfl rfl dX10_seriesValue_1 (fun v_1 hv_1 hf_2 => ?_)
  obtain ⟨a_3, rfl, ka_3⟩ := tt_vr hv_1
  refine tt_get C hok jk_2 11 (by decide) jw_5e6427264b (t := (2, 6, 0)) ka_3 (by decide) rfl rfl dX10_seriesValue_4 (fun v_4 hv_4 hf_5 => ?_)
  obtain ⟨a_6, rfl, ka_6⟩ := tt_vr hv_4
  refine jj_aload_n C dX10_seriesValue_7 rfl ?_
  refine jj_iload_n C dX10_seriesValue_8 rfl ?_
  obtain ⟨qc, gs, hqc⟩ := tt_recv (cx := []) hok hk0 (by decide) rfl
  refine tt_callV (rest := [.ref a_6]) C (tc_X10_placeOf_1 hl D cA ak h0 p1 hk0 hok) [] [] rfl rfl (by decide) (by decide) (by decide) qc hqc rfl rfl jw_58e2ad5394 jw_525f0659e7 jw_f9e77116d6 jw_6f6d707074 jw_94c9b2f9a1 jn_X10_placeOf rfl (jj_le rfl) (jj_le rfl) (jj_le rfl) (jj_le rfl) (jj_le rfl) dX10_seriesValue_9 rfl (fun E rx pl_7 X_11 => ?_) (fun rx pl_7 r O_10 => ?_)
  · obtain ⟨rfl, hok_8, hr_9, hE_12⟩ := X_11
    replace hf_2 := hr_9.at hk0 (by decide) (by decide) hf_2
    replace hf_5 := hr_9.at ka_3 (by decide) (by decide) hf_5
    replace hfr := hfr.trans (hr_9.sub (by decide))
    obtain rfl := hE_12
    exact jj_out C hex ⟨[], pl_7, rfl, rfl, hok_8, hfr, (Or.inr rfl)⟩ (jj_le rfl) (jj_le rfl)
  · obtain ⟨rfl, hok_8, hr_9, hR_15⟩ := O_10
    replace hf_2 := hr_9.at hk0 (by decide) (by decide) hf_2
    replace hf_5 := hr_9.at ka_3 (by decide) (by decide) hf_5
    replace hfr := hfr.trans (hr_9.sub (by decide))
    obtain ⟨x_18, lx_18, ux_18, rfl⟩ := hR_15
    refine tt_aald C hok_8 (t := (2, 2, 0)) ka_6 (by decide) rfl rfl rfl (vp_in_iff.mpr ⟨by omega, by omega⟩) dX10_seriesValue_12 (fun v_19 hv_19 => ?_)
    obtain ⟨a_20, rfl, ka_20⟩ := tt_vr hv_19
    refine jj_astore_n C dX10_seriesValue_13 (by decide) rfl ?_
    refine jj_iload_n C dX10_seriesValue_14 rfl ?_
    rcases jj_em (p2 = 0) with c_21 | c_21
    · refine jj_tableIn (tgt := 60) C dX10_seriesValue_15 (by rw [c_21]; decide) (by rw [c_21]; decide) (by rw [c_21]; rfl) (by decide) ?_
      refine jj_aload_n C dX10_seriesValue_60 rfl ?_
      refine tt_get C hok_8 jk_9 2 (by decide) jw_892efdc253 (t := (1, (-9223372036854775808), 9223372036854775807)) ka_20 (by decide) rfl rfl dX10_seriesValue_61 (fun v_22 hv_22 hf_23 => ?_)
      obtain ⟨y_24, rfl, -, -⟩ := tt_vj hv_22
      exact jj_lret C ⟨[], pl_7, rfl, rfl, hok_8, hfr, (Or.inl ⟨y_24, rfl⟩)⟩ dX10_seriesValue_64 (jj_le rfl) (jj_le rfl)
    rcases jj_em (p2 = 1) with c_25 | c_25
    · refine jj_tableIn (tgt := 65) C dX10_seriesValue_15 (by rw [c_25]; decide) (by rw [c_25]; decide) (by rw [c_25]; rfl) (by decide) ?_
      refine jj_aload_n C dX10_seriesValue_65 rfl ?_
      refine tt_get C hok_8 jk_9 3 (by decide) jw_617c733ec5 (t := (1, (-9223372036854775808), 9223372036854775807)) ka_20 (by decide) rfl rfl dX10_seriesValue_66 (fun v_26 hv_26 hf_27 => ?_)
      obtain ⟨y_28, rfl, -, -⟩ := tt_vj hv_26
      exact jj_lret C ⟨[], pl_7, rfl, rfl, hok_8, hfr, (Or.inl ⟨y_28, rfl⟩)⟩ dX10_seriesValue_69 (jj_le rfl) (jj_le rfl)
    rcases jj_em (p2 = 2) with c_29 | c_29
    · refine jj_tableIn (tgt := 70) C dX10_seriesValue_15 (by rw [c_29]; decide) (by rw [c_29]; decide) (by rw [c_29]; rfl) (by decide) ?_
      refine jj_aload_n C dX10_seriesValue_70 rfl ?_
      refine tt_get C hok_8 jk_9 4 (by decide) jw_c12516f493 (t := (1, (-9223372036854775808), 9223372036854775807)) ka_20 (by decide) rfl rfl dX10_seriesValue_71 (fun v_30 hv_30 hf_31 => ?_)
      obtain ⟨y_32, rfl, -, -⟩ := tt_vj hv_30
      exact jj_lret C ⟨[], pl_7, rfl, rfl, hok_8, hfr, (Or.inl ⟨y_32, rfl⟩)⟩ dX10_seriesValue_74 (jj_le rfl) (jj_le rfl)
    rcases jj_em (p2 = 3) with c_33 | c_33
    · refine jj_tableIn (tgt := 75) C dX10_seriesValue_15 (by rw [c_33]; decide) (by rw [c_33]; decide) (by rw [c_33]; rfl) (by decide) ?_
      refine jj_aload_n C dX10_seriesValue_75 rfl ?_
      refine jj_aload_n C dX10_seriesValue_76 rfl ?_
      refine tt_getF C hok_8 jk_11 3 (by decide) jw_f82a97e333 (t := (2, 1, 0)) hk0 (by decide) rfl rfl hf_2 dX10_seriesValue_77 ?_
      refine tt_get C hok_8 jk_2 3 (by decide) jw_649edee56e (t := (0, (-2147483648), 2147483647)) ka_3 (by decide) rfl rfl dX10_seriesValue_80 (fun v_34 hv_34 hf_35 => ?_)
      obtain ⟨x_36, rfl, lx_36, ux_36⟩ := tt_vi hv_34
      obtain ⟨qc, gs, hqc⟩ := tt_recv (cx := []) hok_8 ka_20 (by decide) rfl
      refine tt_callV (rest := []) C (tc_X8_accruedFee_1 hl D cA ak a_20 x_36 ka_20 hok_8) [] [] rfl rfl (by decide) (by decide) (by decide) qc hqc rfl rfl jw_8ae5fd1562 jw_16e73d269e jw_e0ac78627f jw_364e75910d jw_449e8f4cf4 jn_X8_accruedFee rfl (jj_le rfl) (jj_le rfl) (jj_le rfl) (jj_le rfl) (jj_le rfl) dX10_seriesValue_83 rfl (fun _ _ _ hX => hX.elim) (fun rx pl_37 r O_40 => ?_)
      obtain ⟨rfl, hok_38, hr_39, hR_42⟩ := O_40
      replace hf_2 := hr_39.at hk0 (by decide) (by decide) hf_2
      replace hf_5 := hr_39.at ka_3 (by decide) (by decide) hf_5
      replace hf_35 := hr_39.at ka_3 (by decide) (by decide) hf_35
      replace hfr := hfr.trans (hr_39.sub (by decide))
      rcases hR_42 with rfl | ⟨y_45, rfl⟩
      · exact jj_lret C ⟨[], pl_37, rfl, rfl, hok_38, hfr, (Or.inl ⟨(0 : Int64), rfl⟩)⟩ dX10_seriesValue_86 (jj_le rfl) (jj_le rfl)
      · exact jj_lret C ⟨[], pl_37, rfl, rfl, hok_38, hfr, (Or.inl ⟨y_45, rfl⟩)⟩ dX10_seriesValue_86 (jj_le rfl) (jj_le rfl)
    rcases jj_em (p2 = 4) with c_46 | c_46
    · refine jj_tableIn (tgt := 87) C dX10_seriesValue_15 (by rw [c_46]; decide) (by rw [c_46]; decide) (by rw [c_46]; rfl) (by decide) ?_
      refine jj_aload_n C dX10_seriesValue_87 rfl ?_
      obtain ⟨qc, gs, hqc⟩ := tt_recv (cx := []) hok_8 ka_20 (by decide) rfl
      refine tt_callV (rest := []) C (tc_X8_grossPrice_1 hl D cA ak a_20 ka_20 hok_8) [] [] rfl rfl (by decide) (by decide) (by decide) qc hqc rfl rfl jw_eab2b5c702 jw_8d67ffd46e jw_4ae9f31643 jw_364e75910d jw_11bb953c63 jn_X8_grossPrice rfl (jj_le rfl) (jj_le rfl) (jj_le rfl) (jj_le rfl) (jj_le rfl) dX10_seriesValue_88 rfl (fun _ _ _ hX => hX.elim) (fun rx pl_47 r O_50 => ?_)
      obtain ⟨rfl, hok_48, hr_49, hR_52⟩ := O_50
      replace hf_2 := hr_49.at hk0 (by decide) (by decide) hf_2
      replace hf_5 := hr_49.at ka_3 (by decide) (by decide) hf_5
      replace hfr := hfr.trans (hr_49.sub (by decide))
      rcases hR_52 with rfl | ⟨y_55, rfl⟩
      · exact jj_lret C ⟨[], pl_47, rfl, rfl, hok_48, hfr, (Or.inl ⟨(1000000 : Int64), rfl⟩)⟩ dX10_seriesValue_91 (jj_le rfl) (jj_le rfl)
      · exact jj_lret C ⟨[], pl_47, rfl, rfl, hok_48, hfr, (Or.inl ⟨y_55, rfl⟩)⟩ dX10_seriesValue_91 (jj_le rfl) (jj_le rfl)
    rcases jj_em (p2 = 5) with c_56 | c_56
    · refine jj_tableIn (tgt := 92) C dX10_seriesValue_15 (by rw [c_56]; decide) (by rw [c_56]; decide) (by rw [c_56]; rfl) (by decide) ?_
      refine jj_aload_n C dX10_seriesValue_92 rfl ?_
      refine jj_aload_n C dX10_seriesValue_93 rfl ?_
      refine tt_getF C hok_8 jk_11 3 (by decide) jw_f82a97e333 (t := (2, 1, 0)) hk0 (by decide) rfl rfl hf_2 dX10_seriesValue_94 ?_
      refine tt_get C hok_8 jk_2 3 (by decide) jw_649edee56e (t := (0, (-2147483648), 2147483647)) ka_3 (by decide) rfl rfl dX10_seriesValue_97 (fun v_57 hv_57 hf_58 => ?_)
      obtain ⟨x_59, rfl, lx_59, ux_59⟩ := tt_vi hv_57
      obtain ⟨qc, gs, hqc⟩ := tt_recv (cx := []) hok_8 ka_20 (by decide) rfl
      refine tt_callV (rest := []) C (tc_X8_netPrice_1 hl D cA ak a_20 x_59 ka_20 hok_8) [] [] rfl rfl (by decide) (by decide) (by decide) qc hqc rfl rfl jw_1bdc8ebb17 jw_1bed268582 jw_88114e5225 jw_364e75910d jw_9476451334 jn_X8_netPrice rfl (jj_le rfl) (jj_le rfl) (jj_le rfl) (jj_le rfl) (jj_le rfl) dX10_seriesValue_100 rfl (fun _ _ _ hX => hX.elim) (fun rx pl_60 r O_63 => ?_)
      obtain ⟨rfl, hok_61, hr_62, hR_65⟩ := O_63
      replace hf_2 := hr_62.at hk0 (by decide) (by decide) hf_2
      replace hf_5 := hr_62.at ka_3 (by decide) (by decide) hf_5
      replace hf_58 := hr_62.at ka_3 (by decide) (by decide) hf_58
      replace hfr := hfr.trans (hr_62.sub (by decide))
      rcases hR_65 with rfl | ⟨y_68, rfl⟩
      · exact jj_lret C ⟨[], pl_60, rfl, rfl, hok_61, hfr, (Or.inl ⟨(1000000 : Int64), rfl⟩)⟩ dX10_seriesValue_103 (jj_le rfl) (jj_le rfl)
      · exact jj_lret C ⟨[], pl_60, rfl, rfl, hok_61, hfr, (Or.inl ⟨y_68, rfl⟩)⟩ dX10_seriesValue_103 (jj_le rfl) (jj_le rfl)
    rcases jj_em (p2 = 6) with c_69 | c_69
    · refine jj_tableIn (tgt := 104) C dX10_seriesValue_15 (by rw [c_69]; decide) (by rw [c_69]; decide) (by rw [c_69]; rfl) (by decide) ?_
      refine jj_aload_n C dX10_seriesValue_104 rfl ?_
      refine tt_get C hok_8 jk_9 1 (by decide) jw_eb058fd8f4 (t := (0, (-2147483648), 2147483647)) ka_20 (by decide) rfl rfl dX10_seriesValue_105 (fun v_70 hv_70 hf_71 => ?_)
      obtain ⟨x_72, rfl, lx_72, ux_72⟩ := tt_vi hv_70
      obtain ⟨y_73, ey_73, vy_73⟩ := tt_i2l x_72
      refine jj_i2l (v := y_73) C dX10_seriesValue_108 ey_73 ?_
      exact jj_lret C ⟨[], pl_7, rfl, rfl, hok_8, hfr, (Or.inl ⟨y_73, rfl⟩)⟩ dX10_seriesValue_109 (jj_le rfl) (jj_le rfl)
    rcases jj_em (p2 = 7) with c_74 | c_74
    · refine jj_tableIn (tgt := 110) C dX10_seriesValue_15 (by rw [c_74]; decide) (by rw [c_74]; decide) (by rw [c_74]; rfl) (by decide) ?_
      refine jj_aload_n C dX10_seriesValue_110 rfl ?_
      refine tt_getF C hok_8 jk_11 3 (by decide) jw_f82a97e333 (t := (2, 1, 0)) hk0 (by decide) rfl rfl hf_2 dX10_seriesValue_111 ?_
      refine jj_iload_n C dX10_seriesValue_114 rfl ?_
      obtain ⟨qc, gs, hqc⟩ := tt_recv (cx := []) hok_8 ka_3 (by decide) rfl
      refine tt_callV (rest := []) C (tc_X0_lotsOfSeries_1 hl D cA ak a_3 p1 ka_3 hok_8) [] [] rfl rfl (by decide) (by decide) (by decide) qc hqc rfl rfl jw_ff015d1bff jw_df45b7bfd4 jw_ab5bfc66e4 jw_7d25d4fd32 jw_ce5b65608c jn_X0_lotsOfSeries rfl (jj_le rfl) (jj_le rfl) (jj_le rfl) (jj_le rfl) (jj_le rfl) dX10_seriesValue_115 rfl (fun _ _ _ hX => hX.elim) (fun rx pl_75 r O_78 => ?_)
      obtain ⟨rfl, hok_76, hr_77, hR_80⟩ := O_78
      replace hf_2 := hr_77.at hk0 (by decide) (by decide) hf_2
      replace hf_5 := hr_77.at ka_3 (by decide) (by decide) hf_5
      replace hfr := hfr.trans (hr_77.sub (by decide))
      obtain ⟨x_83, lx_83, ux_83, rfl⟩ := hR_80
      obtain ⟨y_84, ey_84, vy_84⟩ := tt_i2l x_83
      refine jj_i2l (v := y_84) C dX10_seriesValue_118 ey_84 ?_
      exact jj_lret C ⟨[], pl_75, rfl, rfl, hok_76, hfr, (Or.inl ⟨y_84, rfl⟩)⟩ dX10_seriesValue_119 (jj_le rfl) (jj_le rfl)
    refine jj_tableOut (tgt := 120) C dX10_seriesValue_15 (by have zc_21 := lv_neT (a := 0) c_21 (by decide); have zc_25 := lv_neT (a := 1) c_25 (by decide); have zc_29 := lv_neT (a := 2) c_29 (by decide); have zc_33 := lv_neT (a := 3) c_33 (by decide); have zc_46 := lv_neT (a := 4) c_46 (by decide); have zc_56 := lv_neT (a := 5) c_56 (by decide); have zc_69 := lv_neT (a := 6) c_69 (by decide); have zc_74 := lv_neT (a := 7) c_74 (by decide); omega) (by decide) ?_
    exact jj_throwW (k := 45) (text := "no such value") C jt_RX10_75 jw_0e6c957e85 (by decide +kernel) dX10_seriesValue_120 dX10_seriesValue_123 dX10_seriesValue_124 dX10_seriesValue_127 dX10_seriesValue_130 hex (jj_le rfl) (jj_le rfl) (jj_le rfl) (jj_le rfl) ⟨[], pl_7, rfl, rfl, hok_8, hfr, (Or.inl rfl)⟩ (jj_le rfl) (jj_le rfl)

set_option maxHeartbeats 4000000 in
set_option maxRecDepth 100000 in
theorem tc_X0_subscriptionFault_1 {l : Launch} (hl : l.stackTraces = false) (D : va_G) (cA : Nat → ClassId) (ak : (Nat → Nat) × (Nat → Nat)) {Kd : Nat → Nat} (h0 : Nat) (p1 : Int32) (p2 : Int32) (hk0 : Kd h0 = 1) {pl0 : va_W} (hok : tt_ok tt_tk cA Kd pl0) : jj_M l D cA ak yX0_subscriptionFault (.code yX0_subscriptionFault cX0_subscriptionFault 3 (some .int)) 1 21 0 0 ([] ++ pl0) [.ref h0, .int p1, .int p2] (tt_O (fun rx pl1 r => rx = [] ∧ tt_ok tt_tk cA Kd pl1 ∧ tt_fr Kd [] pl0 pl1 ∧ ((r = some (.int 1)) ∨ ((0 : Int) ≤ p1.toInt ∧ p1.toInt ≤ 2147483646 ∧ r = some (.int 2)) ∨ ((0 : Int) ≤ p1.toInt ∧ p1.toInt ≤ 2147483646 ∧ (1 : Int) ≤ p2.toInt ∧ p2.toInt ≤ 9999999 ∧ r = some (.int 0)) ∨ ((0 : Int) ≤ p1.toInt ∧ p1.toInt ≤ 2147483646 ∧ (1 : Int) ≤ p2.toInt ∧ p2.toInt ≤ 9999999 ∧ r = some (.int 3))))) (tt_OX (fun _ _ _ => False)) := by
  refine jj_start hl (by decide) jw_29c1f216db (jj_le rfl) ?_
  intro p e s m args below meth c A hargs hA C hex hmn
  have hfr := tt_fr.refl (K := Kd) (WS := []) pl0
  have lp1 := tt_lo p1
  have up1 := tt_hi p1
  have lp2 := tt_lo p2
  have up2 := tt_hi p2
  refine jj_aload_n C dX0_subscriptionFault_0 rfl ?_
  refine jj_iload_n C dX0_subscriptionFault_1 rfl ?_
  obtain ⟨qc, gs, hqc⟩ := tt_recv (cx := []) hok hk0 (by decide) rfl
  refine tt_callV (rest := []) C (tc_X0_hasInvestor_1 hl D cA ak h0 p1 hk0 hok) [] [] rfl rfl (by decide) (by decide) (by decide) qc hqc rfl rfl jw_d8d4914792 jw_4b2ee875de jw_b17a3ad3c3 jw_7d25d4fd32 jw_46cdbc56f6 jn_X0_hasInvestor rfl (jj_le rfl) (jj_le rfl) (jj_le rfl) (jj_le rfl) (jj_le rfl) dX0_subscriptionFault_2 rfl (fun _ _ _ hX => hX.elim) (fun rx pl_1 r O_4 => ?_)
  obtain ⟨rfl, hok_2, hr_3, hR_6⟩ := O_4
  replace hfr := hfr.trans (hr_3.sub (by decide))
  rcases hR_6 with rfl | ⟨l_9, u_10, rfl⟩
  · refine jj_if_neF (tgt := 10) C dX0_subscriptionFault_5 (by decide) (by decide) ?_
    refine jj_iconst (v := 1) C dX0_subscriptionFault_8 (by decide) ?_
    exact jj_iret C ⟨[], pl_1, rfl, rfl, hok_2, hfr, (Or.inl rfl)⟩ dX0_subscriptionFault_9 (jj_le rfl) (jj_le rfl)
  · refine jj_if_neT (tgt := 10) C dX0_subscriptionFault_5 (by decide) (by decide) ?_
    refine jj_iload_n C dX0_subscriptionFault_10 rfl ?_
    refine jj_iconst (v := 1) C dX0_subscriptionFault_11 (by decide) ?_
    refine jj_icmp_lt (tgt := 21) C dX0_subscriptionFault_12 (by decide) (fun c_11 => ?_) (fun c_11 => ?_)
    · have z_c_11 := jc_lt (a := (p2).toInt) (b := (1)) c_11 rfl (by decide)
      refine jj_iconst (v := 2) C dX0_subscriptionFault_21 (by decide) ?_
      exact jj_iret C ⟨[], pl_1, rfl, rfl, hok_2, hfr, (Or.inr (Or.inl ⟨(by first | omega | exact tt_lo _ | exact tt_hi _), (by first | omega | exact tt_lo _ | exact tt_hi _), rfl⟩))⟩ dX0_subscriptionFault_22 (jj_le rfl) (jj_le rfl)
    · have z_c_11 := jc_nlt (a := (p2).toInt) (b := (1)) c_11 rfl (by decide)
      refine jj_iload_n C dX0_subscriptionFault_15 rfl ?_
      refine jj_ldc (v := 9999999) C dX0_subscriptionFault_16 jw_b5fe344b61 ?_
      refine jj_icmp_le (tgt := 23) C dX0_subscriptionFault_18 (by decide) (fun c_12 => ?_) (fun c_12 => ?_)
      · have z_c_12 := jc_le (a := (p2).toInt) (b := (9999999)) c_12 rfl (by decide)
        refine jj_aload_n C dX0_subscriptionFault_23 rfl ?_
        refine tt_get C hok_2 jk_2 9 (by decide) jw_a6a6052378 (t := (0, 0, 12)) hk0 (by decide) rfl rfl dX0_subscriptionFault_24 (fun v_13 hv_13 hf_14 => ?_)
        obtain ⟨x_15, rfl, lx_15, ux_15⟩ := tt_vi hv_13
        refine jj_bipush (v := 12) C dX0_subscriptionFault_27 (by decide) ?_
        refine jj_icmp_lt (tgt := 36) C dX0_subscriptionFault_29 (by decide) (fun c_16 => ?_) (fun c_16 => ?_)
        · have z_c_16 := jc_lt (a := (x_15).toInt) (b := (12)) c_16 rfl (by decide)
          refine jj_iconst (v := 0) C dX0_subscriptionFault_36 (by decide) ?_
          exact jj_iret C ⟨[], pl_1, rfl, rfl, hok_2, hfr, (Or.inr (Or.inr (Or.inl ⟨(by first | omega | exact tt_lo _ | exact tt_hi _), (by first | omega | exact tt_lo _ | exact tt_hi _), (by first | omega | exact tt_lo _ | exact tt_hi _), (by first | omega | exact tt_lo _ | exact tt_hi _), rfl⟩)))⟩ dX0_subscriptionFault_37 (jj_le rfl) (jj_le rfl)
        · have z_c_16 := jc_nlt (a := (x_15).toInt) (b := (12)) c_16 rfl (by decide)
          refine jj_iconst (v := 3) C dX0_subscriptionFault_32 (by decide) ?_
          refine jj_goto (tgt := 37) C dX0_subscriptionFault_33 (by decide) ?_
          exact jj_iret C ⟨[], pl_1, rfl, rfl, hok_2, hfr, (Or.inr (Or.inr (Or.inr ⟨(by first | omega | exact tt_lo _ | exact tt_hi _), (by first | omega | exact tt_lo _ | exact tt_hi _), (by first | omega | exact tt_lo _ | exact tt_hi _), (by first | omega | exact tt_lo _ | exact tt_hi _), rfl⟩)))⟩ dX0_subscriptionFault_37 (jj_le rfl) (jj_le rfl)
      · have z_c_12 := jc_nle (a := (p2).toInt) (b := (9999999)) c_12 rfl (by decide)
        refine jj_iconst (v := 2) C dX0_subscriptionFault_21 (by decide) ?_
        exact jj_iret C ⟨[], pl_1, rfl, rfl, hok_2, hfr, (Or.inr (Or.inl ⟨(by first | omega | exact tt_lo _ | exact tt_hi _), (by first | omega | exact tt_lo _ | exact tt_hi _), rfl⟩))⟩ dX0_subscriptionFault_22 (jj_le rfl) (jj_le rfl)

set_option maxHeartbeats 4000000 in
set_option maxRecDepth 100000 in
theorem tc_X0_addRequest_2 {l : Launch} (hl : l.stackTraces = false) (D : va_G) (cA : Nat → ClassId) (ak : (Nat → Nat) × (Nat → Nat)) {Kd : Nat → Nat} (h0 : Nat) (p1 : Int32) (p3 : Int64) (hk0 : Kd h0 = 1) {pl0 : va_W} (hok : tt_ok tt_tk cA Kd pl0) : jj_M l D cA ak yX0_addRequest (.code yX0_addRequest cX0_addRequest 7 (some .int)) 1 21 0 0 ([] ++ pl0) [.ref h0, .int p1, .int 0, .long p3] (tt_O (fun rx pl1 r => rx = [] ∧ tt_ok tt_tk cA Kd pl1 ∧ tt_fr Kd [(1, 9), (4, 0), (4, 1), (4, 2), (4, 3), (4, 4)] pl0 pl1 ∧ ((r = some (.int 11)) ∨ (∃ v : Int32, (0 : Int) ≤ v.toInt ∧ v.toInt ≤ 11 ∧ r = some (.int v))))) (tt_OX (fun _ _ _ => False)) := by
  refine jj_start hl (by decide) jw_1fad268463 (jj_le rfl) ?_
  intro p e s m args below meth c A hargs hA C hex hmn
  have hfr := tt_fr.refl (K := Kd) (WS := [(1, 9), (4, 0), (4, 1), (4, 2), (4, 3), (4, 4)]) pl0
  have lp1 := tt_lo p1
  have up1 := tt_hi p1
  refine jj_aload_n C dX0_addRequest_0 rfl ?_
  refine tt_get C hok jk_2 9 (by decide) jw_a6a6052378 (t := (0, 0, 12)) hk0 (by decide) rfl rfl dX0_addRequest_1 (fun v_1 hv_1 hf_2 => ?_)
  obtain ⟨x_3, rfl, lx_3, ux_3⟩ := tt_vi hv_1
  refine jj_bipush (v := 11) C dX0_addRequest_4 (by decide) ?_
  refine tt_call0S (rest := []) C (ct_J9_min_7cf53_3 hl D cA ak x_3) jw_91b79dc18e jw_bd781c2022 jw_a731c8553d jw_7adaf59315 jn_J9_min_7cf53 rfl (jj_le rfl) (jj_le rfl) (jj_le rfl) (jj_le rfl) (jj_le rfl) dX0_addRequest_6 rfl (fun w1 r O_4 => ?_)
  rcases O_4 with ⟨c_5, -, rfl⟩ | ⟨c_6, -, rfl⟩
  · have z_c_5 := jc_lt (a := (11)) (b := (x_3).toInt) c_5 (by decide) rfl
    refine jj_istore C dX0_addRequest_9 (by decide) rfl ?_
    refine jj_aload_n C dX0_addRequest_11 rfl ?_
    refine tt_get C hok jk_2 13 (by decide) jw_241b9bc751 (t := (2, 8, 0)) hk0 (by decide) rfl rfl dX0_addRequest_12 (fun v_7 hv_7 hf_8 => ?_)
    obtain ⟨a_9, rfl, ka_9⟩ := tt_vr hv_7
    refine jj_iload C dX0_addRequest_15 rfl ?_
    refine tt_aald C hok (t := (2, 4, 0)) ka_9 (by decide) rfl rfl rfl (vp_in_iff.mpr (by decide)) dX0_addRequest_17 (fun v_10 hv_10 => ?_)
    obtain ⟨a_11, rfl, ka_11⟩ := tt_vr hv_10
    refine jj_astore C dX0_addRequest_18 (by decide) rfl ?_
    refine jj_aload C dX0_addRequest_20 rfl ?_
    refine jj_iload_n C dX0_addRequest_22 rfl ?_
    refine tt_put C hok jk_7 0 (by decide) jw_5338707ba1 (t := (0, (-2147483648), 2147483647)) ka_11 (by decide) rfl rfl rfl (tt_ia p1) rfl rfl dX0_addRequest_23 (fun pl_12 hok_13 tr hn => ?_)
    replace hf_2 := tr _ _ _ (Or.inl (tt_ne hk0 ka_11 (by decide))) hf_2
    replace hf_8 := tr _ _ _ (Or.inl (tt_ne hk0 ka_11 (by decide))) hf_8
    have hf_14 := hn
    replace hfr := hfr.put ka_11 tr (by decide)
    refine jj_aload C dX0_addRequest_26 rfl ?_
    refine jj_iload_n C dX0_addRequest_28 rfl ?_
    refine tt_put C hok_13 jk_7 2 (by decide) jw_9e238e4277 (t := (0, 0, 1)) ka_11 (by decide) rfl rfl rfl (tt_iv (by decide) (by decide)) rfl rfl dX0_addRequest_29 (fun pl_15 hok_16 tr hn => ?_)
    replace hf_2 := tr _ _ _ (Or.inl (tt_ne hk0 ka_11 (by decide))) hf_2
    replace hf_8 := tr _ _ _ (Or.inl (tt_ne hk0 ka_11 (by decide))) hf_8
    replace hf_14 := tr _ _ _ (Or.inr (by decide)) hf_14
    have hf_17 := hn
    replace hfr := hfr.put ka_11 tr (by decide)
    refine jj_aload C dX0_addRequest_32 rfl ?_
    refine jj_lload_n C dX0_addRequest_34 rfl ?_
    refine tt_put C hok_16 jk_7 3 (by decide) jw_bfa82f796d (t := (1, (-9223372036854775808), 9223372036854775807)) ka_11 (by decide) rfl rfl rfl (tt_ja p3) rfl rfl dX0_addRequest_35 (fun pl_18 hok_19 tr hn => ?_)
    replace hf_2 := tr _ _ _ (Or.inl (tt_ne hk0 ka_11 (by decide))) hf_2
    replace hf_8 := tr _ _ _ (Or.inl (tt_ne hk0 ka_11 (by decide))) hf_8
    replace hf_14 := tr _ _ _ (Or.inr (by decide)) hf_14
    replace hf_17 := tr _ _ _ (Or.inr (by decide)) hf_17
    have hf_20 := hn
    replace hfr := hfr.put ka_11 tr (by decide)
    refine jj_aload C dX0_addRequest_38 rfl ?_
    refine jj_lconst (v := 0) C dX0_addRequest_40 (by decide) ?_
    refine tt_put C hok_19 jk_7 4 (by decide) jw_2f9658d53e (t := (1, (-9223372036854775808), 9223372036854775807)) ka_11 (by decide) rfl rfl rfl (tt_ja (0 : Int64)) rfl rfl dX0_addRequest_41 (fun pl_21 hok_22 tr hn => ?_)
    replace hf_2 := tr _ _ _ (Or.inl (tt_ne hk0 ka_11 (by decide))) hf_2
    replace hf_8 := tr _ _ _ (Or.inl (tt_ne hk0 ka_11 (by decide))) hf_8
    replace hf_14 := tr _ _ _ (Or.inr (by decide)) hf_14
    replace hf_17 := tr _ _ _ (Or.inr (by decide)) hf_17
    replace hf_20 := tr _ _ _ (Or.inr (by decide)) hf_20
    have hf_23 := hn
    replace hfr := hfr.put ka_11 tr (by decide)
    refine jj_aload C dX0_addRequest_44 rfl ?_
    refine jj_aload_n C dX0_addRequest_46 rfl ?_
    refine tt_get C hok_22 jk_2 5 (by decide) jw_cd8f4320e7 (t := (0, (-2147483648), 2147483647)) hk0 (by decide) rfl rfl dX0_addRequest_47 (fun v_24 hv_24 hf_25 => ?_)
    obtain ⟨x_26, rfl, lx_26, ux_26⟩ := tt_vi hv_24
    refine tt_put C hok_22 jk_7 1 (by decide) jw_beab64789a (t := (0, (-2147483648), 2147483647)) ka_11 (by decide) rfl rfl rfl (tt_ia x_26) rfl rfl dX0_addRequest_50 (fun pl_27 hok_28 tr hn => ?_)
    replace hf_2 := tr _ _ _ (Or.inl (tt_ne hk0 ka_11 (by decide))) hf_2
    replace hf_8 := tr _ _ _ (Or.inl (tt_ne hk0 ka_11 (by decide))) hf_8
    replace hf_14 := tr _ _ _ (Or.inr (by decide)) hf_14
    replace hf_17 := tr _ _ _ (Or.inr (by decide)) hf_17
    replace hf_20 := tr _ _ _ (Or.inr (by decide)) hf_20
    replace hf_23 := tr _ _ _ (Or.inr (by decide)) hf_23
    replace hf_25 := tr _ _ _ (Or.inl (tt_ne hk0 ka_11 (by decide))) hf_25
    have hf_29 := hn
    replace hfr := hfr.put ka_11 tr (by decide)
    refine jj_aload_n C dX0_addRequest_53 rfl ?_
    refine jj_iload C dX0_addRequest_54 rfl ?_
    refine jj_iconst (v := 1) C dX0_addRequest_56 (by decide) ?_
    refine jj_iadd (v := 12) C dX0_addRequest_57 (by decide) ?_
    refine tt_put C hok_28 jk_2 9 (by decide) jw_a6a6052378 (t := (0, 0, 12)) hk0 (by decide) rfl rfl rfl (tt_iv (by decide) (by decide)) rfl rfl dX0_addRequest_58 (fun pl_30 hok_31 tr hn => ?_)
    replace hf_8 := tr _ _ _ (Or.inr (by decide)) hf_8
    replace hf_14 := tr _ _ _ (Or.inl (tt_ne ka_11 hk0 (by decide))) hf_14
    replace hf_17 := tr _ _ _ (Or.inl (tt_ne ka_11 hk0 (by decide))) hf_17
    replace hf_20 := tr _ _ _ (Or.inl (tt_ne ka_11 hk0 (by decide))) hf_20
    replace hf_23 := tr _ _ _ (Or.inl (tt_ne ka_11 hk0 (by decide))) hf_23
    replace hf_25 := tr _ _ _ (Or.inr (by decide)) hf_25
    replace hf_29 := tr _ _ _ (Or.inl (tt_ne ka_11 hk0 (by decide))) hf_29
    have hf_32 := hn
    replace hfr := hfr.put hk0 tr (by decide)
    refine jj_iload C dX0_addRequest_61 rfl ?_
    exact jj_iret C ⟨[], pl_30, rfl, rfl, hok_31, hfr, (Or.inl rfl)⟩ dX0_addRequest_63 (jj_le rfl) (jj_le rfl)
  · have z_c_6 := jc_nlt (a := (11)) (b := (x_3).toInt) c_6 (by decide) rfl
    refine jj_istore C dX0_addRequest_9 (by decide) rfl ?_
    refine jj_aload_n C dX0_addRequest_11 rfl ?_
    refine tt_get C hok jk_2 13 (by decide) jw_241b9bc751 (t := (2, 8, 0)) hk0 (by decide) rfl rfl dX0_addRequest_12 (fun v_33 hv_33 hf_34 => ?_)
    obtain ⟨a_35, rfl, ka_35⟩ := tt_vr hv_33
    refine jj_iload C dX0_addRequest_15 rfl ?_
    refine tt_aald C hok (t := (2, 4, 0)) ka_35 (by decide) rfl rfl rfl (vp_in_iff.mpr ⟨by omega, by omega⟩) dX0_addRequest_17 (fun v_36 hv_36 => ?_)
    obtain ⟨a_37, rfl, ka_37⟩ := tt_vr hv_36
    refine jj_astore C dX0_addRequest_18 (by decide) rfl ?_
    refine jj_aload C dX0_addRequest_20 rfl ?_
    refine jj_iload_n C dX0_addRequest_22 rfl ?_
    refine tt_put C hok jk_7 0 (by decide) jw_5338707ba1 (t := (0, (-2147483648), 2147483647)) ka_37 (by decide) rfl rfl rfl (tt_ia p1) rfl rfl dX0_addRequest_23 (fun pl_38 hok_39 tr hn => ?_)
    replace hf_2 := tr _ _ _ (Or.inl (tt_ne hk0 ka_37 (by decide))) hf_2
    replace hf_34 := tr _ _ _ (Or.inl (tt_ne hk0 ka_37 (by decide))) hf_34
    have hf_40 := hn
    replace hfr := hfr.put ka_37 tr (by decide)
    refine jj_aload C dX0_addRequest_26 rfl ?_
    refine jj_iload_n C dX0_addRequest_28 rfl ?_
    refine tt_put C hok_39 jk_7 2 (by decide) jw_9e238e4277 (t := (0, 0, 1)) ka_37 (by decide) rfl rfl rfl (tt_iv (by decide) (by decide)) rfl rfl dX0_addRequest_29 (fun pl_41 hok_42 tr hn => ?_)
    replace hf_2 := tr _ _ _ (Or.inl (tt_ne hk0 ka_37 (by decide))) hf_2
    replace hf_34 := tr _ _ _ (Or.inl (tt_ne hk0 ka_37 (by decide))) hf_34
    replace hf_40 := tr _ _ _ (Or.inr (by decide)) hf_40
    have hf_43 := hn
    replace hfr := hfr.put ka_37 tr (by decide)
    refine jj_aload C dX0_addRequest_32 rfl ?_
    refine jj_lload_n C dX0_addRequest_34 rfl ?_
    refine tt_put C hok_42 jk_7 3 (by decide) jw_bfa82f796d (t := (1, (-9223372036854775808), 9223372036854775807)) ka_37 (by decide) rfl rfl rfl (tt_ja p3) rfl rfl dX0_addRequest_35 (fun pl_44 hok_45 tr hn => ?_)
    replace hf_2 := tr _ _ _ (Or.inl (tt_ne hk0 ka_37 (by decide))) hf_2
    replace hf_34 := tr _ _ _ (Or.inl (tt_ne hk0 ka_37 (by decide))) hf_34
    replace hf_40 := tr _ _ _ (Or.inr (by decide)) hf_40
    replace hf_43 := tr _ _ _ (Or.inr (by decide)) hf_43
    have hf_46 := hn
    replace hfr := hfr.put ka_37 tr (by decide)
    refine jj_aload C dX0_addRequest_38 rfl ?_
    refine jj_lconst (v := 0) C dX0_addRequest_40 (by decide) ?_
    refine tt_put C hok_45 jk_7 4 (by decide) jw_2f9658d53e (t := (1, (-9223372036854775808), 9223372036854775807)) ka_37 (by decide) rfl rfl rfl (tt_ja (0 : Int64)) rfl rfl dX0_addRequest_41 (fun pl_47 hok_48 tr hn => ?_)
    replace hf_2 := tr _ _ _ (Or.inl (tt_ne hk0 ka_37 (by decide))) hf_2
    replace hf_34 := tr _ _ _ (Or.inl (tt_ne hk0 ka_37 (by decide))) hf_34
    replace hf_40 := tr _ _ _ (Or.inr (by decide)) hf_40
    replace hf_43 := tr _ _ _ (Or.inr (by decide)) hf_43
    replace hf_46 := tr _ _ _ (Or.inr (by decide)) hf_46
    have hf_49 := hn
    replace hfr := hfr.put ka_37 tr (by decide)
    refine jj_aload C dX0_addRequest_44 rfl ?_
    refine jj_aload_n C dX0_addRequest_46 rfl ?_
    refine tt_get C hok_48 jk_2 5 (by decide) jw_cd8f4320e7 (t := (0, (-2147483648), 2147483647)) hk0 (by decide) rfl rfl dX0_addRequest_47 (fun v_50 hv_50 hf_51 => ?_)
    obtain ⟨x_52, rfl, lx_52, ux_52⟩ := tt_vi hv_50
    refine tt_put C hok_48 jk_7 1 (by decide) jw_beab64789a (t := (0, (-2147483648), 2147483647)) ka_37 (by decide) rfl rfl rfl (tt_ia x_52) rfl rfl dX0_addRequest_50 (fun pl_53 hok_54 tr hn => ?_)
    replace hf_2 := tr _ _ _ (Or.inl (tt_ne hk0 ka_37 (by decide))) hf_2
    replace hf_34 := tr _ _ _ (Or.inl (tt_ne hk0 ka_37 (by decide))) hf_34
    replace hf_40 := tr _ _ _ (Or.inr (by decide)) hf_40
    replace hf_43 := tr _ _ _ (Or.inr (by decide)) hf_43
    replace hf_46 := tr _ _ _ (Or.inr (by decide)) hf_46
    replace hf_49 := tr _ _ _ (Or.inr (by decide)) hf_49
    replace hf_51 := tr _ _ _ (Or.inl (tt_ne hk0 ka_37 (by decide))) hf_51
    have hf_55 := hn
    replace hfr := hfr.put ka_37 tr (by decide)
    refine jj_aload_n C dX0_addRequest_53 rfl ?_
    refine jj_iload C dX0_addRequest_54 rfl ?_
    refine jj_iconst (v := 1) C dX0_addRequest_56 (by decide) ?_
    obtain ⟨x_56, ex_56, vx_56⟩ := tt_iadd (x := x_3) (y := (1 : Int32)) (a := x_3.toInt) rfl (b := 1) (by decide) (by omega) (by omega)
    refine jj_iadd (v := x_56) C dX0_addRequest_57 ex_56 ?_
    refine tt_put C hok_54 jk_2 9 (by decide) jw_a6a6052378 (t := (0, 0, 12)) hk0 (by decide) rfl rfl rfl (tt_iv (by omega) (by omega)) rfl rfl dX0_addRequest_58 (fun pl_57 hok_58 tr hn => ?_)
    replace hf_34 := tr _ _ _ (Or.inr (by decide)) hf_34
    replace hf_40 := tr _ _ _ (Or.inl (tt_ne ka_37 hk0 (by decide))) hf_40
    replace hf_43 := tr _ _ _ (Or.inl (tt_ne ka_37 hk0 (by decide))) hf_43
    replace hf_46 := tr _ _ _ (Or.inl (tt_ne ka_37 hk0 (by decide))) hf_46
    replace hf_49 := tr _ _ _ (Or.inl (tt_ne ka_37 hk0 (by decide))) hf_49
    replace hf_51 := tr _ _ _ (Or.inr (by decide)) hf_51
    replace hf_55 := tr _ _ _ (Or.inl (tt_ne ka_37 hk0 (by decide))) hf_55
    have hf_59 := hn
    replace hfr := hfr.put hk0 tr (by decide)
    refine jj_iload C dX0_addRequest_61 rfl ?_
    exact jj_iret C ⟨[], pl_57, rfl, rfl, hok_58, hfr, (Or.inr ⟨x_3, (by first | omega | exact tt_lo _ | exact tt_hi _), (by first | omega | exact tt_lo _ | exact tt_hi _), rfl⟩)⟩ dX0_addRequest_63 (jj_le rfl) (jj_le rfl)

set_option maxHeartbeats 4000000 in
set_option maxRecDepth 100000 in
theorem tc_X0_splitsLot_1 {l : Launch} (hl : l.stackTraces = false) (D : va_G) (cA : Nat → ClassId) (ak : (Nat → Nat) × (Nat → Nat)) {Kd : Nat → Nat} (h0 : Nat) (p1 : Int32) (p2 : Int64) (hk0 : Kd h0 = 1) {pl0 : va_W} (hok : tt_ok tt_tk cA Kd pl0) : jj_M l D cA ak yX0_splitsLot (.code yX0_splitsLot cX0_splitsLot 7 (some .boolean)) 0 0 0 0 ([] ++ pl0) [.ref h0, .int p1, .long p2] (tt_O (fun rx pl1 r => rx = [] ∧ tt_ok tt_tk cA Kd pl1 ∧ tt_fr Kd [] pl0 pl1 ∧ ((r = some (.int 0)) ∨ (r = some (.int 1))))) (tt_OX (fun _ _ _ => False)) := by
  refine jj_start hl (by decide) jw_7310f8aa9c (jj_le rfl) ?_
  intro p e s m args below meth c A hargs hA C hex hmn
  have hfr := tt_fr.refl (K := Kd) (WS := []) pl0
  have lp1 := tt_lo p1
  have up1 := tt_hi p1
  refine jj_lload_n C dX0_splitsLot_0 rfl ?_
  refine jj_lstore C dX0_splitsLot_1 (by decide) rfl ?_
  refine jj_iconst (v := 0) C dX0_splitsLot_3 (by decide) ?_
  refine jj_istore C dX0_splitsLot_4 (by decide) rfl ?_
  have hL_1 : ∀ (N : Nat) (pl : va_W) (x_2 : Int32) (y_3 : Int64), True → tt_ok tt_tk cA Kd pl → tt_fr Kd [] pl0 pl → (0 : Int) ≤ x_2.toInt → x_2.toInt ≤ 40 → (2147483648 - x_2.toInt ≤ (N : Int)) → jj_J p l e (jj_rm 0 0 0 0) s m args below meth c 7 A (vx_MQ below (jj_q D A (tt_O (fun rx pl1 r => rx = [] ∧ tt_ok tt_tk cA Kd pl1 ∧ tt_fr Kd [] pl0 pl1 ∧ ((r = some (.int 0)) ∨ (r = some (.int 1)))))) (jj_x D A (tt_OX (fun _ _ _ => False))) args s 0 0 A) (jj_X D A ([] ++ pl)) 0 0 6 [(6, .int x_2), (4, .long y_3), (0, .ref h0), (1, .int p1), (2, .long p2)] [] := by
    intro NL_1
    induction NL_1 with
    | zero => intro pl x_2 y_3 _ hok hfr lx_2 ux_2 hNL_1; exfalso; omega
    | succ NL_1 ihL_1 =>
      intro pl x_2 y_3 _ hok hfr lx_2 ux_2 hNL_1
      replace ihL_1 := fun pl x_2 y_3 h1 => ihL_1 pl x_2 y_3 trivial h1
      refine jj_iload C dX0_splitsLot_6 rfl ?_
      refine jj_aload_n C dX0_splitsLot_8 rfl ?_
      refine tt_get C hok jk_2 8 (by decide) jw_9d0ccd4490 (t := (0, 0, 40)) hk0 (by decide) rfl rfl dX0_splitsLot_9 (fun v_4 hv_4 hf_5 => ?_)
      obtain ⟨x_6, rfl, lx_6, ux_6⟩ := tt_vi hv_4
      refine jj_icmp_ge (tgt := 57) C dX0_splitsLot_12 (by decide) (fun c_7 => ?_) (fun c_7 => ?_)
      · have z_c_7 := jc_le (a := (x_6).toInt) (b := (x_2).toInt) c_7 rfl rfl
        refine jj_lload C dX0_splitsLot_57 rfl ?_
        refine jj_lconst (v := 0) C dX0_splitsLot_59 (by decide) ?_
        refine jj_lcmp_ge (tgt := 68) C dX0_splitsLot_60 dX0_splitsLot_61 (by decide) (fun c_8 => ?_) (fun c_8 => ?_)
        · refine jj_iconst (v := 0) C dX0_splitsLot_68 (by decide) ?_
          exact jj_zret C rfl ⟨[], pl, rfl, rfl, hok, hfr, (Or.inl rfl)⟩ dX0_splitsLot_69 (jj_le rfl) (jj_le rfl)
        · refine jj_iconst (v := 1) C dX0_splitsLot_64 (by decide) ?_
          refine jj_goto (tgt := 69) C dX0_splitsLot_65 (by decide) ?_
          exact jj_zret C rfl ⟨[], pl, rfl, rfl, hok, hfr, (Or.inr rfl)⟩ dX0_splitsLot_69 (jj_le rfl) (jj_le rfl)
      · have z_c_7 := jc_nle (a := (x_6).toInt) (b := (x_2).toInt) c_7 rfl rfl
        refine jj_lload C dX0_splitsLot_15 rfl ?_
        refine jj_lconst (v := 0) C dX0_splitsLot_17 (by decide) ?_
        refine jj_lcmp_le (tgt := 57) C dX0_splitsLot_18 dX0_splitsLot_19 (by decide) (fun c_9 => ?_) (fun c_9 => ?_)
        · refine jj_lload C dX0_splitsLot_57 rfl ?_
          refine jj_lconst (v := 0) C dX0_splitsLot_59 (by decide) ?_
          refine jj_lcmp_ge (tgt := 68) C dX0_splitsLot_60 dX0_splitsLot_61 (by decide) (fun c_10 => ?_) (fun c_10 => ?_)
          · refine jj_iconst (v := 0) C dX0_splitsLot_68 (by decide) ?_
            exact jj_zret C rfl ⟨[], pl, rfl, rfl, hok, hfr, (Or.inl rfl)⟩ dX0_splitsLot_69 (jj_le rfl) (jj_le rfl)
          · refine jj_iconst (v := 1) C dX0_splitsLot_64 (by decide) ?_
            refine jj_goto (tgt := 69) C dX0_splitsLot_65 (by decide) ?_
            exact jj_zret C rfl ⟨[], pl, rfl, rfl, hok, hfr, (Or.inr rfl)⟩ dX0_splitsLot_69 (jj_le rfl) (jj_le rfl)
        · refine jj_aload_n C dX0_splitsLot_22 rfl ?_
          refine tt_get C hok jk_2 12 (by decide) jw_5f730213e9 (t := (2, 7, 0)) hk0 (by decide) rfl rfl dX0_splitsLot_23 (fun v_11 hv_11 hf_12 => ?_)
          obtain ⟨a_13, rfl, ka_13⟩ := tt_vr hv_11
          refine jj_iload C dX0_splitsLot_26 rfl ?_
          refine tt_aald C hok (t := (2, 3, 0)) ka_13 (by decide) rfl rfl rfl (vp_in_iff.mpr ⟨by omega, by omega⟩) dX0_splitsLot_28 (fun v_14 hv_14 => ?_)
          obtain ⟨a_15, rfl, ka_15⟩ := tt_vr hv_14
          refine tt_get C hok jk_5 0 (by decide) jw_89374484be (t := (0, (-2147483648), 2147483647)) ka_15 (by decide) rfl rfl dX0_splitsLot_29 (fun v_16 hv_16 hf_17 => ?_)
          obtain ⟨x_18, rfl, lx_18, ux_18⟩ := tt_vi hv_16
          refine jj_iload_n C dX0_splitsLot_32 rfl ?_
          refine jj_icmp_ne (tgt := 51) C dX0_splitsLot_33 (by decide) (fun c_19 => ?_) (fun c_19 => ?_)
          · have z_c_19 := jc_neq (a := (x_18).toInt) (b := (p1).toInt) c_19 rfl rfl
            obtain ⟨x_20, ex_20, vx_20⟩ := tt_inc (x := x_2) (n := 1) (by omega) (by omega)
            refine jj_iinc (v := x_20) C dX0_splitsLot_51 rfl ex_20 (by decide) rfl ?_
            refine jj_goto (tgt := 6) C dX0_splitsLot_54 (by decide) ?_
            exact ihL_1 pl x_20 y_3 hok hfr (by first | omega | decide | exact tt_lo _ | exact tt_hi _) (by first | omega | decide | exact tt_lo _ | exact tt_hi _) (by first | omega | decide | exact tt_lo _ | exact tt_hi _)
          · have z_c_19 := jc_eq (a := (x_18).toInt) (b := (p1).toInt) c_19 rfl rfl
            refine jj_lload C dX0_splitsLot_36 rfl ?_
            refine jj_aload_n C dX0_splitsLot_38 rfl ?_
            refine tt_getF C hok jk_2 12 (by decide) jw_5f730213e9 (t := (2, 7, 0)) hk0 (by decide) rfl rfl hf_12 dX0_splitsLot_39 ?_
            refine jj_iload C dX0_splitsLot_42 rfl ?_
            refine tt_aald C hok (t := (2, 3, 0)) ka_13 (by decide) rfl rfl rfl (vp_in_iff.mpr ⟨by omega, by omega⟩) dX0_splitsLot_44 (fun v_21 hv_21 => ?_)
            obtain ⟨a_22, rfl, ka_22⟩ := tt_vr hv_21
            refine tt_get C hok jk_5 3 (by decide) jw_1f6afd9b6f (t := (1, (-9223372036854775808), 9223372036854775807)) ka_22 (by decide) rfl rfl dX0_splitsLot_45 (fun v_23 hv_23 hf_24 => ?_)
            obtain ⟨y_25, rfl, -, -⟩ := tt_vj hv_23
            obtain ⟨y_26, ey_26⟩ : ∃ z : Int64, y_3 - y_25 = z := ⟨_, rfl⟩
            refine jj_lsub (v := y_26) C dX0_splitsLot_48 ey_26 ?_
            refine jj_lstore C dX0_splitsLot_49 (by decide) rfl ?_
            obtain ⟨x_27, ex_27, vx_27⟩ := tt_inc (x := x_2) (n := 1) (by omega) (by omega)
            refine jj_iinc (v := x_27) C dX0_splitsLot_51 rfl ex_27 (by decide) rfl ?_
            refine jj_goto (tgt := 6) C dX0_splitsLot_54 (by decide) ?_
            exact ihL_1 pl x_27 y_26 hok hfr (by first | omega | decide | exact tt_lo _ | exact tt_hi _) (by first | omega | decide | exact tt_lo _ | exact tt_hi _) (by first | omega | decide | exact tt_lo _ | exact tt_hi _)
  exact hL_1 _ pl0 (0 : Int32) p2 trivial hok hfr (by first | omega | decide | exact tt_lo _ | exact tt_hi _) (by first | omega | decide | exact tt_lo _ | exact tt_hi _) (Int.self_le_toNat _)

set_option maxHeartbeats 4000000 in
set_option maxRecDepth 100000 in
theorem tc_X0_transferFault_1 {l : Launch} (hl : l.stackTraces = false) (D : va_G) (cA : Nat → ClassId) (ak : (Nat → Nat) × (Nat → Nat)) {Kd : Nat → Nat} (h0 : Nat) (p1 : Int32) (p2 : Int32) (p3 : Int32) (hk0 : Kd h0 = 1) {pl0 : va_W} (hok : tt_ok tt_tk cA Kd pl0) : jj_M l D cA ak yX0_transferFault (.code yX0_transferFault cX0_transferFault 4 (some .int)) 1 26 0 0 ([] ++ pl0) [.ref h0, .int p1, .int p2, .int p3] (tt_O (fun rx pl1 r => rx = [] ∧ tt_ok tt_tk cA Kd pl1 ∧ tt_fr Kd [] pl0 pl1 ∧ ((r = some (.int 1)) ∨ ((0 : Int) ≤ p1.toInt ∧ p1.toInt ≤ 2147483646 ∧ (0 : Int) ≤ p2.toInt ∧ p2.toInt ≤ 2147483646 ∧ r = some (.int 2)) ∨ ((0 : Int) ≤ p1.toInt ∧ p1.toInt ≤ 2147483646 ∧ (0 : Int) ≤ p2.toInt ∧ p2.toInt ≤ 2147483646 ∧ (1 : Int) ≤ p3.toInt ∧ p3.toInt ≤ 99999999 ∧ r = some (.int 0)) ∨ ((0 : Int) ≤ p1.toInt ∧ p1.toInt ≤ 2147483646 ∧ (0 : Int) ≤ p2.toInt ∧ p2.toInt ≤ 2147483646 ∧ (1 : Int) ≤ p3.toInt ∧ p3.toInt ≤ 99999999 ∧ r = some (.int 3))))) (tt_OX (fun _ _ _ => False)) := by
  refine jj_start hl (by decide) jw_aaaeb43ff8 (jj_le rfl) ?_
  intro p e s m args below meth c A hargs hA C hex hmn
  have hfr := tt_fr.refl (K := Kd) (WS := []) pl0
  have lp1 := tt_lo p1
  have up1 := tt_hi p1
  have lp2 := tt_lo p2
  have up2 := tt_hi p2
  have lp3 := tt_lo p3
  have up3 := tt_hi p3
  refine jj_aload_n C dX0_transferFault_0 rfl ?_
  refine jj_iload_n C dX0_transferFault_1 rfl ?_
  obtain ⟨qc, gs, hqc⟩ := tt_recv (cx := []) hok hk0 (by decide) rfl
  refine tt_callV (rest := []) C (tc_X0_hasInvestor_1 hl D cA ak h0 p1 hk0 hok) [] [] rfl rfl (by decide) (by decide) (by decide) qc hqc rfl rfl jw_d8d4914792 jw_4b2ee875de jw_b17a3ad3c3 jw_7d25d4fd32 jw_46cdbc56f6 jn_X0_hasInvestor rfl (jj_le rfl) (jj_le rfl) (jj_le rfl) (jj_le rfl) (jj_le rfl) dX0_transferFault_2 rfl (fun _ _ _ hX => hX.elim) (fun rx pl_1 r O_4 => ?_)
  obtain ⟨rfl, hok_2, hr_3, hR_6⟩ := O_4
  replace hfr := hfr.trans (hr_3.sub (by decide))
  rcases hR_6 with rfl | ⟨l_9, u_10, rfl⟩
  · refine jj_if_eqT (tgt := 16) C dX0_transferFault_5 (by decide) (by decide) ?_
    refine jj_iconst (v := 1) C dX0_transferFault_16 (by decide) ?_
    exact jj_iret C ⟨[], pl_1, rfl, rfl, hok_2, hfr, (Or.inl rfl)⟩ dX0_transferFault_17 (jj_le rfl) (jj_le rfl)
  · refine jj_if_eqF (tgt := 16) C dX0_transferFault_5 (by decide) (by decide) ?_
    refine jj_aload_n C dX0_transferFault_8 rfl ?_
    refine jj_iload_n C dX0_transferFault_9 rfl ?_
    obtain ⟨qc, gs, hqc⟩ := tt_recv (cx := []) hok_2 hk0 (by decide) rfl
    refine tt_callV (rest := []) C (tc_X0_hasInvestor_1 hl D cA ak h0 p2 hk0 hok_2) [] [] rfl rfl (by decide) (by decide) (by decide) qc hqc rfl rfl jw_d8d4914792 jw_4b2ee875de jw_b17a3ad3c3 jw_7d25d4fd32 jw_46cdbc56f6 jn_X0_hasInvestor rfl (jj_le rfl) (jj_le rfl) (jj_le rfl) (jj_le rfl) (jj_le rfl) dX0_transferFault_10 rfl (fun _ _ _ hX => hX.elim) (fun rx pl_11 r O_14 => ?_)
    obtain ⟨rfl, hok_12, hr_13, hR_16⟩ := O_14
    replace hfr := hfr.trans (hr_13.sub (by decide))
    rcases hR_16 with rfl | ⟨l_19, u_20, rfl⟩
    · refine jj_if_neF (tgt := 18) C dX0_transferFault_13 (by decide) (by decide) ?_
      refine jj_iconst (v := 1) C dX0_transferFault_16 (by decide) ?_
      exact jj_iret C ⟨[], pl_11, rfl, rfl, hok_12, hfr, (Or.inl rfl)⟩ dX0_transferFault_17 (jj_le rfl) (jj_le rfl)
    · refine jj_if_neT (tgt := 18) C dX0_transferFault_13 (by decide) (by decide) ?_
      refine jj_iload_n C dX0_transferFault_18 rfl ?_
      refine jj_iload_n C dX0_transferFault_19 rfl ?_
      refine jj_icmp_eq (tgt := 34) C dX0_transferFault_20 (by decide) (fun c_21 => ?_) (fun c_21 => ?_)
      · have z_c_21 := jc_eq (a := (p1).toInt) (b := (p2).toInt) c_21 rfl rfl
        refine jj_iconst (v := 2) C dX0_transferFault_34 (by decide) ?_
        exact jj_iret C ⟨[], pl_11, rfl, rfl, hok_12, hfr, (Or.inr (Or.inl ⟨(by first | omega | exact tt_lo _ | exact tt_hi _), (by first | omega | exact tt_lo _ | exact tt_hi _), (by first | omega | exact tt_lo _ | exact tt_hi _), (by first | omega | exact tt_lo _ | exact tt_hi _), rfl⟩))⟩ dX0_transferFault_35 (jj_le rfl) (jj_le rfl)
      · have z_c_21 := jc_neq (a := (p1).toInt) (b := (p2).toInt) c_21 rfl rfl
        refine jj_iload_n C dX0_transferFault_23 rfl ?_
        refine jj_iconst (v := 1) C dX0_transferFault_24 (by decide) ?_
        refine jj_icmp_lt (tgt := 34) C dX0_transferFault_25 (by decide) (fun c_22 => ?_) (fun c_22 => ?_)
        · have z_c_22 := jc_lt (a := (p3).toInt) (b := (1)) c_22 rfl (by decide)
          refine jj_iconst (v := 2) C dX0_transferFault_34 (by decide) ?_
          exact jj_iret C ⟨[], pl_11, rfl, rfl, hok_12, hfr, (Or.inr (Or.inl ⟨(by first | omega | exact tt_lo _ | exact tt_hi _), (by first | omega | exact tt_lo _ | exact tt_hi _), (by first | omega | exact tt_lo _ | exact tt_hi _), (by first | omega | exact tt_lo _ | exact tt_hi _), rfl⟩))⟩ dX0_transferFault_35 (jj_le rfl) (jj_le rfl)
        · have z_c_22 := jc_nlt (a := (p3).toInt) (b := (1)) c_22 rfl (by decide)
          refine jj_iload_n C dX0_transferFault_28 rfl ?_
          refine jj_ldc (v := 99999999) C dX0_transferFault_29 jw_c6a9136e44 ?_
          refine jj_icmp_le (tgt := 36) C dX0_transferFault_31 (by decide) (fun c_23 => ?_) (fun c_23 => ?_)
          · have z_c_23 := jc_le (a := (p3).toInt) (b := (99999999)) c_23 rfl (by decide)
            refine jj_aload_n C dX0_transferFault_36 rfl ?_
            refine jj_iload_n C dX0_transferFault_37 rfl ?_
            obtain ⟨qc, gs, hqc⟩ := tt_recv (cx := []) hok_12 hk0 (by decide) rfl
            refine tt_callV (rest := []) C (tc_X0_unitsHeldBy_1 hl D cA ak h0 p1 hk0 hok_12) [] [] rfl rfl (by decide) (by decide) (by decide) qc hqc rfl rfl jw_1b599813cf jw_473d3625aa jw_4058f4329f jw_7d25d4fd32 jw_325e36afd1 jn_X0_unitsHeldBy rfl (jj_le rfl) (jj_le rfl) (jj_le rfl) (jj_le rfl) (jj_le rfl) dX0_transferFault_38 rfl (fun _ _ _ hX => hX.elim) (fun rx pl_24 r O_27 => ?_)
            obtain ⟨rfl, hok_25, hr_26, hR_29⟩ := O_27
            replace hfr := hfr.trans (hr_26.sub (by decide))
            obtain ⟨y_32, rfl⟩ := hR_29
            refine jj_iload_n C dX0_transferFault_41 rfl ?_
            obtain ⟨y_33, ey_33, vy_33⟩ := tt_i2l p3
            refine jj_i2l (v := y_33) C dX0_transferFault_42 ey_33 ?_
            refine jj_aload_n C dX0_transferFault_43 rfl ?_
            refine jj_iload_n C dX0_transferFault_44 rfl ?_
            obtain ⟨qc, gs, hqc⟩ := tt_recv (cx := []) hok_25 hk0 (by decide) rfl
            refine tt_callV (rest := [.long y_33, .long y_32]) C (tc_X0_unitsWaitingOf_1 hl D cA ak h0 p1 hk0 hok_25) [] [] rfl rfl (by decide) (by decide) (by decide) qc hqc rfl rfl jw_a69bc0929e jw_cc201fd073 jw_2d4f72dead jw_7d25d4fd32 jw_fb2ca98b87 jn_X0_unitsWaitingOf rfl (jj_le rfl) (jj_le rfl) (jj_le rfl) (jj_le rfl) (jj_le rfl) dX0_transferFault_45 rfl (fun _ _ _ hX => hX.elim) (fun rx pl_34 r O_37 => ?_)
            obtain ⟨rfl, hok_35, hr_36, hR_39⟩ := O_37
            replace hfr := hfr.trans (hr_36.sub (by decide))
            obtain ⟨y_42, rfl⟩ := hR_39
            obtain ⟨y_43, ey_43⟩ : ∃ z : Int64, y_33 + y_42 = z := ⟨_, rfl⟩
            refine jj_ladd (v := y_43) C dX0_transferFault_48 ey_43 ?_
            refine jj_lcmp_ge (tgt := 55) C dX0_transferFault_49 dX0_transferFault_50 (by decide) (fun c_44 => ?_) (fun c_44 => ?_)
            · refine jj_aload_n C dX0_transferFault_55 rfl ?_
              refine tt_get C hok_35 jk_2 8 (by decide) jw_9d0ccd4490 (t := (0, 0, 40)) hk0 (by decide) rfl rfl dX0_transferFault_56 (fun v_45 hv_45 hf_46 => ?_)
              obtain ⟨x_47, rfl, lx_47, ux_47⟩ := tt_vi hv_45
              refine jj_bipush (v := 40) C dX0_transferFault_59 (by decide) ?_
              refine jj_icmp_lt (tgt := 78) C dX0_transferFault_61 (by decide) (fun c_48 => ?_) (fun c_48 => ?_)
              · have z_c_48 := jc_lt (a := (x_47).toInt) (b := (40)) c_48 rfl (by decide)
                refine jj_iconst (v := 0) C dX0_transferFault_78 (by decide) ?_
                exact jj_iret C ⟨[], pl_34, rfl, rfl, hok_35, hfr, (Or.inr (Or.inr (Or.inl ⟨(by first | omega | exact tt_lo _ | exact tt_hi _), (by first | omega | exact tt_lo _ | exact tt_hi _), (by first | omega | exact tt_lo _ | exact tt_hi _), (by first | omega | exact tt_lo _ | exact tt_hi _), (by first | omega | exact tt_lo _ | exact tt_hi _), (by first | omega | exact tt_lo _ | exact tt_hi _), rfl⟩)))⟩ dX0_transferFault_79 (jj_le rfl) (jj_le rfl)
              · have z_c_48 := jc_nlt (a := (x_47).toInt) (b := (40)) c_48 rfl (by decide)
                refine jj_aload_n C dX0_transferFault_64 rfl ?_
                refine jj_iload_n C dX0_transferFault_65 rfl ?_
                refine jj_iload_n C dX0_transferFault_66 rfl ?_
                obtain ⟨y_49, ey_49, vy_49⟩ := tt_i2l p3
                refine jj_i2l (v := y_49) C dX0_transferFault_67 ey_49 ?_
                obtain ⟨qc, gs, hqc⟩ := tt_recv (cx := []) hok_35 hk0 (by decide) rfl
                refine tt_callV (rest := []) C (tc_X0_splitsLot_1 hl D cA ak h0 p1 y_49 hk0 hok_35) [] [] rfl rfl (by decide) (by decide) (by decide) qc hqc rfl rfl jw_7dc5b0b3c8 jw_b1520a7696 jw_216b1d33ad jw_7d25d4fd32 jw_7310f8aa9c jn_X0_splitsLot rfl (jj_le rfl) (jj_le rfl) (jj_le rfl) (jj_le rfl) (jj_le rfl) dX0_transferFault_68 rfl (fun _ _ _ hX => hX.elim) (fun rx pl_50 r O_53 => ?_)
                obtain ⟨rfl, hok_51, hr_52, hR_55⟩ := O_53
                replace hf_46 := hr_52.at hk0 (by decide) (by decide) hf_46
                replace hfr := hfr.trans (hr_52.sub (by decide))
                rcases hR_55 with rfl | rfl
                · refine jj_if_eqT (tgt := 78) C dX0_transferFault_71 (by decide) (by decide) ?_
                  refine jj_iconst (v := 0) C dX0_transferFault_78 (by decide) ?_
                  exact jj_iret C ⟨[], pl_50, rfl, rfl, hok_51, hfr, (Or.inr (Or.inr (Or.inl ⟨(by first | omega | exact tt_lo _ | exact tt_hi _), (by first | omega | exact tt_lo _ | exact tt_hi _), (by first | omega | exact tt_lo _ | exact tt_hi _), (by first | omega | exact tt_lo _ | exact tt_hi _), (by first | omega | exact tt_lo _ | exact tt_hi _), (by first | omega | exact tt_lo _ | exact tt_hi _), rfl⟩)))⟩ dX0_transferFault_79 (jj_le rfl) (jj_le rfl)
                · refine jj_if_eqF (tgt := 78) C dX0_transferFault_71 (by decide) (by decide) ?_
                  refine jj_iconst (v := 3) C dX0_transferFault_74 (by decide) ?_
                  refine jj_goto (tgt := 79) C dX0_transferFault_75 (by decide) ?_
                  exact jj_iret C ⟨[], pl_50, rfl, rfl, hok_51, hfr, (Or.inr (Or.inr (Or.inr ⟨(by first | omega | exact tt_lo _ | exact tt_hi _), (by first | omega | exact tt_lo _ | exact tt_hi _), (by first | omega | exact tt_lo _ | exact tt_hi _), (by first | omega | exact tt_lo _ | exact tt_hi _), (by first | omega | exact tt_lo _ | exact tt_hi _), (by first | omega | exact tt_lo _ | exact tt_hi _), rfl⟩)))⟩ dX0_transferFault_79 (jj_le rfl) (jj_le rfl)
            · refine jj_iconst (v := 3) C dX0_transferFault_53 (by decide) ?_
              exact jj_iret C ⟨[], pl_34, rfl, rfl, hok_35, hfr, (Or.inr (Or.inr (Or.inr ⟨(by first | omega | exact tt_lo _ | exact tt_hi _), (by first | omega | exact tt_lo _ | exact tt_hi _), (by first | omega | exact tt_lo _ | exact tt_hi _), (by first | omega | exact tt_lo _ | exact tt_hi _), (by first | omega | exact tt_lo _ | exact tt_hi _), (by first | omega | exact tt_lo _ | exact tt_hi _), rfl⟩)))⟩ dX0_transferFault_54 (jj_le rfl) (jj_le rfl)
          · have z_c_23 := jc_nle (a := (p3).toInt) (b := (99999999)) c_23 rfl (by decide)
            refine jj_iconst (v := 2) C dX0_transferFault_34 (by decide) ?_
            exact jj_iret C ⟨[], pl_11, rfl, rfl, hok_12, hfr, (Or.inr (Or.inl ⟨(by first | omega | exact tt_lo _ | exact tt_hi _), (by first | omega | exact tt_lo _ | exact tt_hi _), (by first | omega | exact tt_lo _ | exact tt_hi _), (by first | omega | exact tt_lo _ | exact tt_hi _), rfl⟩))⟩ dX0_transferFault_35 (jj_le rfl) (jj_le rfl)

set_option maxHeartbeats 4000000 in
set_option maxRecDepth 100000 in
theorem tc_X0_splitLot_1 {l : Launch} (hl : l.stackTraces = false) (D : va_G) (cA : Nat → ClassId) (ak : (Nat → Nat) × (Nat → Nat)) {Kd : Nat → Nat} (h0 : Nat) (h1 : Nat) (p2 : Int32) (p3 : Int64) (hk0 : Kd h0 = 1) (hk1 : Kd h1 = 3) {pl0 : va_W} (hok : tt_ok tt_tk cA Kd pl0) : jj_M l D cA ak yX0_splitLot (.code yX0_splitLot cX0_splitLot 8 none) 2 51 0 0 ([] ++ pl0) [.ref h0, .ref h1, .int p2, .long p3] (tt_O (fun rx pl1 r => rx = [] ∧ tt_ok tt_tk cA Kd pl1 ∧ tt_fr Kd [(1, 8), (3, 0), (3, 1), (3, 2), (3, 3), (3, 4), (3, 5)] pl0 pl1 ∧ ((r = none)))) (tt_OX (fun _ _ _ => False)) := by
  refine jj_start hl (by decide) jw_dd97004619 (jj_le rfl) ?_
  intro p e s m args below meth c A hargs hA C hex hmn
  have hfr := tt_fr.refl (K := Kd) (WS := [(1, 8), (3, 0), (3, 1), (3, 2), (3, 3), (3, 4), (3, 5)]) pl0
  have lp2 := tt_lo p2
  have up2 := tt_hi p2
  refine jj_aload_n C dX0_splitLot_0 rfl ?_
  refine tt_get C hok jk_5 3 (by decide) jw_1f6afd9b6f (t := (1, (-9223372036854775808), 9223372036854775807)) hk1 (by decide) rfl rfl dX0_splitLot_1 (fun v_1 hv_1 hf_2 => ?_)
  obtain ⟨y_3, rfl, -, -⟩ := tt_vj hv_1
  refine jj_lconst (v := 0) C dX0_splitLot_4 (by decide) ?_
  refine jj_lcmp_gt (tgt := 10) C dX0_splitLot_5 dX0_splitLot_6 (by decide) (fun c_4 => ?_) (fun c_4 => ?_)
  · refine jj_aload_n C dX0_splitLot_10 rfl ?_
    refine tt_get C hok jk_5 5 (by decide) jw_b0cee064c2 (t := (1, (-9223372036854775808), 9223372036854775807)) hk1 (by decide) rfl rfl dX0_splitLot_11 (fun v_5 hv_5 hf_6 => ?_)
    obtain ⟨y_7, rfl, -, -⟩ := tt_vj hv_5
    refine jj_lload_n C dX0_splitLot_14 rfl ?_
    obtain ⟨y_8, ey_8⟩ : ∃ z : Int64, y_7 * p3 = z := ⟨_, rfl⟩
    refine jj_lmul (v := y_8) C dX0_splitLot_15 ey_8 ?_
    refine jj_aload_n C dX0_splitLot_16 rfl ?_
    refine tt_getF C hok jk_5 3 (by decide) jw_1f6afd9b6f (t := (1, (-9223372036854775808), 9223372036854775807)) hk1 (by decide) rfl rfl hf_2 dX0_splitLot_17 ?_
    obtain ⟨y_9, ey_9⟩ : ∃ z : Int64, y_8 / y_3 = z := ⟨_, rfl⟩
    refine jj_ldiv (v := y_9) C dX0_splitLot_20 (jt_nzpL c_4) ey_9 ?_
    refine jj_lstore C dX0_splitLot_21 (by decide) rfl ?_
    refine jj_aload_n C dX0_splitLot_23 rfl ?_
    refine jj_iload_n C dX0_splitLot_24 rfl ?_
    refine jj_aload_n C dX0_splitLot_25 rfl ?_
    refine tt_get C hok jk_5 1 (by decide) jw_53dba63b8f (t := (0, (-2147483648), 2147483647)) hk1 (by decide) rfl rfl dX0_splitLot_26 (fun v_10 hv_10 hf_11 => ?_)
    obtain ⟨x_12, rfl, lx_12, ux_12⟩ := tt_vi hv_10
    refine jj_lload_n C dX0_splitLot_29 rfl ?_
    refine jj_aload_n C dX0_splitLot_30 rfl ?_
    refine tt_get C hok jk_5 4 (by decide) jw_8e377b7e50 (t := (1, (-9223372036854775808), 9223372036854775807)) hk1 (by decide) rfl rfl dX0_splitLot_31 (fun v_13 hv_13 hf_14 => ?_)
    obtain ⟨y_15, rfl, -, -⟩ := tt_vj hv_13
    refine jj_lload C dX0_splitLot_34 rfl ?_
    obtain ⟨qc, gs, hqc⟩ := tt_recv (cx := []) hok hk0 (by decide) rfl
    refine tt_callV (rest := []) C (tc_X0_addLot_4 hl D cA ak h0 p2 x_12 p3 y_15 y_9 hk0 hok) [] [] rfl rfl (by decide) (by decide) (by decide) qc hqc rfl rfl jw_5f3a460d17 jw_c1ec506c02 jw_0fb782f899 jw_7d25d4fd32 jw_a7bf4567f9 jn_X0_addLot rfl (jj_le rfl) (jj_le rfl) (jj_le rfl) (jj_le rfl) (jj_le rfl) dX0_splitLot_36 rfl (fun _ _ _ hX => hX.elim) (fun rx pl_16 r O_19 => ?_)
    obtain ⟨rfl, hok_17, hr_18, hR_21⟩ := O_19
    replace hfr := hfr.trans (hr_18.sub (by decide))
    obtain ⟨a_24, ka_24, rfl⟩ := hR_21
    refine jj_astore C dX0_splitLot_39 (by decide) rfl ?_
    refine jj_aload C dX0_splitLot_41 rfl ?_
    refine jj_aload_n C dX0_splitLot_43 rfl ?_
    refine tt_get C hok_17 jk_5 2 (by decide) jw_f798be12c7 (t := (0, (-2147483648), 2147483647)) hk1 (by decide) rfl rfl dX0_splitLot_44 (fun v_25 hv_25 hf_26 => ?_)
    obtain ⟨x_27, rfl, lx_27, ux_27⟩ := tt_vi hv_25
    refine tt_put C hok_17 jk_5 2 (by decide) jw_f798be12c7 (t := (0, (-2147483648), 2147483647)) ka_24 (by decide) rfl rfl rfl (tt_ia x_27) rfl rfl dX0_splitLot_47 (fun pl_28 hok_29 tr hn => ?_)
    have hf_30 := hn
    replace hfr := hfr.put ka_24 tr (by decide)
    refine jj_aload_n C dX0_splitLot_50 rfl ?_
    refine jj_dup C dX0_splitLot_51 rfl ?_
    refine tt_get C hok_29 jk_5 3 (by decide) jw_1f6afd9b6f (t := (1, (-9223372036854775808), 9223372036854775807)) hk1 (by decide) rfl rfl dX0_splitLot_52 (fun v_31 hv_31 hf_32 => ?_)
    obtain ⟨y_33, rfl, -, -⟩ := tt_vj hv_31
    refine jj_lload_n C dX0_splitLot_55 rfl ?_
    obtain ⟨y_34, ey_34⟩ : ∃ z : Int64, y_33 - p3 = z := ⟨_, rfl⟩
    refine jj_lsub (v := y_34) C dX0_splitLot_56 ey_34 ?_
    refine tt_put C hok_29 jk_5 3 (by decide) jw_1f6afd9b6f (t := (1, (-9223372036854775808), 9223372036854775807)) hk1 (by decide) rfl rfl rfl (tt_ja y_34) rfl rfl dX0_splitLot_57 (fun pl_35 hok_36 tr hn => ?_)
    replace hf_30 := tr _ _ _ (Or.inr (by decide)) hf_30
    have hf_37 := hn
    replace hfr := hfr.put hk1 tr (by decide)
    refine jj_aload_n C dX0_splitLot_60 rfl ?_
    refine jj_dup C dX0_splitLot_61 rfl ?_
    refine tt_get C hok_36 jk_5 5 (by decide) jw_b0cee064c2 (t := (1, (-9223372036854775808), 9223372036854775807)) hk1 (by decide) rfl rfl dX0_splitLot_62 (fun v_38 hv_38 hf_39 => ?_)
    obtain ⟨y_40, rfl, -, -⟩ := tt_vj hv_38
    refine jj_lload C dX0_splitLot_65 rfl ?_
    obtain ⟨y_41, ey_41⟩ : ∃ z : Int64, y_40 - y_9 = z := ⟨_, rfl⟩
    refine jj_lsub (v := y_41) C dX0_splitLot_67 ey_41 ?_
    refine tt_put C hok_36 jk_5 5 (by decide) jw_b0cee064c2 (t := (1, (-9223372036854775808), 9223372036854775807)) hk1 (by decide) rfl rfl rfl (tt_ja y_41) rfl rfl dX0_splitLot_68 (fun pl_42 hok_43 tr hn => ?_)
    replace hf_30 := tr _ _ _ (Or.inr (by decide)) hf_30
    replace hf_37 := tr _ _ _ (Or.inr (by decide)) hf_37
    have hf_44 := hn
    replace hfr := hfr.put hk1 tr (by decide)
    exact jj_vret C ⟨[], pl_42, rfl, rfl, hok_43, hfr, rfl⟩ dX0_splitLot_71 (jj_le rfl) (jj_le rfl)
  · exact jj_vret C ⟨[], pl0, rfl, rfl, hok, hfr, rfl⟩ dX0_splitLot_9 (jj_le rfl) (jj_le rfl)

set_option maxHeartbeats 4000000 in
set_option maxRecDepth 100000 in
theorem tc_X0_moveUnits_1 {l : Launch} (hl : l.stackTraces = false) (D : va_G) (cA : Nat → ClassId) (ak : (Nat → Nat) × (Nat → Nat)) {Kd : Nat → Nat} (h0 : Nat) (p1 : Int32) (p2 : Int32) (p3 : Int64) (hk0 : Kd h0 = 1) {pl0 : va_W} (hok : tt_ok tt_tk cA Kd pl0) : jj_M l D cA ak yX0_moveUnits (.code yX0_moveUnits cX0_moveUnits 12 none) 3 78 0 0 ([] ++ pl0) [.ref h0, .int p1, .int p2, .long p3] (tt_O (fun rx pl1 r => rx = [] ∧ tt_ok tt_tk cA Kd pl1 ∧ tt_fr Kd [(1, 8), (3, 0), (3, 1), (3, 2), (3, 3), (3, 4), (3, 5)] pl0 pl1 ∧ ((r = none)))) (tt_OX (fun _ _ _ => False)) := by
  refine jj_start hl (by decide) jw_7d091de86e (jj_le rfl) ?_
  intro p e s m args below meth c A hargs hA C hex hmn
  have hfr := tt_fr.refl (K := Kd) (WS := [(1, 8), (3, 0), (3, 1), (3, 2), (3, 3), (3, 4), (3, 5)]) pl0
  have lp1 := tt_lo p1
  have up1 := tt_hi p1
  have lp2 := tt_lo p2
  have up2 := tt_hi p2
  refine jj_lload_n C dX0_moveUnits_0 rfl ?_
  refine jj_lstore C dX0_moveUnits_1 (by decide) rfl ?_
  refine jj_aload_n C dX0_moveUnits_3 rfl ?_
  refine tt_get C hok jk_2 8 (by decide) jw_9d0ccd4490 (t := (0, 0, 40)) hk0 (by decide) rfl rfl dX0_moveUnits_4 (fun v_1 hv_1 hf_2 => ?_)
  obtain ⟨x_3, rfl, lx_3, ux_3⟩ := tt_vi hv_1
  refine jj_istore C dX0_moveUnits_7 (by decide) rfl ?_
  refine jj_iconst (v := 0) C dX0_moveUnits_9 (by decide) ?_
  refine jj_istore C dX0_moveUnits_10 (by decide) rfl ?_
  have hL_4 : ∀ (N : Nat) (pl : va_W) (x_5 : Int32) (y_6 : Int64), True → tt_ok tt_tk cA Kd pl → tt_fr Kd [(1, 8), (3, 0), (3, 1), (3, 2), (3, 3), (3, 4), (3, 5)] pl0 pl → (0 : Int) ≤ x_5.toInt → x_5.toInt ≤ 40 → (2147483648 - x_5.toInt ≤ (N : Int)) → jj_J p l e (jj_rm 3 78 0 0) s m args below meth c 12 A (vx_MQ below (jj_q D A (tt_O (fun rx pl1 r => rx = [] ∧ tt_ok tt_tk cA Kd pl1 ∧ tt_fr Kd [(1, 8), (3, 0), (3, 1), (3, 2), (3, 3), (3, 4), (3, 5)] pl0 pl1 ∧ ((r = none))))) (jj_x D A (tt_OX (fun _ _ _ => False))) args s 0 0 A) (jj_X D A ([] ++ pl)) 0 0 12 [(8, .int x_5), (7, .int x_3), (5, .long y_6), (0, .ref h0), (1, .int p1), (2, .int p2), (3, .long p3)] [] := by
    intro NL_4
    induction NL_4 with
    | zero => intro pl x_5 y_6 _ hok hfr lx_5 ux_5 hNL_4; exfalso; omega
    | succ NL_4 ihL_4 =>
      intro pl x_5 y_6 _ hok hfr lx_5 ux_5 hNL_4
      replace ihL_4 := fun pl x_5 y_6 h1 => ihL_4 pl x_5 y_6 trivial h1
      refine jj_iload C dX0_moveUnits_12 rfl ?_
      refine jj_iload C dX0_moveUnits_14 rfl ?_
      refine jj_icmp_ge (tgt := 98) C dX0_moveUnits_16 (by decide) (fun c_7 => ?_) (fun c_7 => ?_)
      · have z_c_7 := jc_le (a := (x_3).toInt) (b := (x_5).toInt) c_7 rfl rfl
        exact jj_vret C ⟨[], pl, rfl, rfl, hok, hfr, rfl⟩ dX0_moveUnits_98 (jj_le rfl) (jj_le rfl)
      · have z_c_7 := jc_nle (a := (x_3).toInt) (b := (x_5).toInt) c_7 rfl rfl
        refine jj_lload C dX0_moveUnits_19 rfl ?_
        refine jj_lconst (v := 0) C dX0_moveUnits_21 (by decide) ?_
        refine jj_lcmp_le (tgt := 98) C dX0_moveUnits_22 dX0_moveUnits_23 (by decide) (fun c_8 => ?_) (fun c_8 => ?_)
        · exact jj_vret C ⟨[], pl, rfl, rfl, hok, hfr, rfl⟩ dX0_moveUnits_98 (jj_le rfl) (jj_le rfl)
        · refine jj_aload_n C dX0_moveUnits_26 rfl ?_
          refine tt_get C hok jk_2 12 (by decide) jw_5f730213e9 (t := (2, 7, 0)) hk0 (by decide) rfl rfl dX0_moveUnits_27 (fun v_9 hv_9 hf_10 => ?_)
          obtain ⟨a_11, rfl, ka_11⟩ := tt_vr hv_9
          refine jj_iload C dX0_moveUnits_30 rfl ?_
          refine tt_aald C hok (t := (2, 3, 0)) ka_11 (by decide) rfl rfl rfl (vp_in_iff.mpr ⟨by omega, by omega⟩) dX0_moveUnits_32 (fun v_12 hv_12 => ?_)
          obtain ⟨a_13, rfl, ka_13⟩ := tt_vr hv_12
          refine jj_astore C dX0_moveUnits_33 (by decide) rfl ?_
          refine jj_aload C dX0_moveUnits_35 rfl ?_
          refine tt_get C hok jk_5 0 (by decide) jw_89374484be (t := (0, (-2147483648), 2147483647)) ka_13 (by decide) rfl rfl dX0_moveUnits_37 (fun v_14 hv_14 hf_15 => ?_)
          obtain ⟨x_16, rfl, lx_16, ux_16⟩ := tt_vi hv_14
          refine jj_iload_n C dX0_moveUnits_40 rfl ?_
          refine jj_icmp_ne (tgt := 92) C dX0_moveUnits_41 (by decide) (fun c_17 => ?_) (fun c_17 => ?_)
          · have z_c_17 := jc_neq (a := (x_16).toInt) (b := (p1).toInt) c_17 rfl rfl
            obtain ⟨x_18, ex_18, vx_18⟩ := tt_inc (x := x_5) (n := 1) (by omega) (by omega)
            refine jj_iinc (v := x_18) C dX0_moveUnits_92 rfl ex_18 (by decide) rfl ?_
            refine jj_goto (tgt := 12) C dX0_moveUnits_95 (by decide) ?_
            refine jj_loc [0, 2, 3, 4, 5, 6, 7] rfl ?_
            exact ihL_4 pl x_18 y_6 hok hfr (by first | omega | decide | exact tt_lo _ | exact tt_hi _) (by first | omega | decide | exact tt_lo _ | exact tt_hi _) (by first | omega | decide | exact tt_lo _ | exact tt_hi _)
          · have z_c_17 := jc_eq (a := (x_16).toInt) (b := (p1).toInt) c_17 rfl rfl
            refine jj_lload C dX0_moveUnits_44 rfl ?_
            refine jj_aload C dX0_moveUnits_46 rfl ?_
            refine tt_get C hok jk_5 3 (by decide) jw_1f6afd9b6f (t := (1, (-9223372036854775808), 9223372036854775807)) ka_13 (by decide) rfl rfl dX0_moveUnits_48 (fun v_19 hv_19 hf_20 => ?_)
            obtain ⟨y_21, rfl, -, -⟩ := tt_vj hv_19
            refine tt_call0S (rest := []) C (ct_J9_min_f86c9_1 hl D cA ak y_6 y_21) jw_3aa8fe2f70 jw_a0cddbe894 jw_a731c8553d jw_e0e7ffaaeb jn_J9_min_f86c9 rfl (jj_le rfl) (jj_le rfl) (jj_le rfl) (jj_le rfl) (jj_le rfl) dX0_moveUnits_51 rfl (fun w1 r O_22 => ?_)
            rcases O_22 with ⟨c_23, -, rfl⟩ | ⟨c_24, -, rfl⟩
            · refine jj_lstore C dX0_moveUnits_54 (by decide) rfl ?_
              refine jj_lload C dX0_moveUnits_56 rfl ?_
              refine jj_lload C dX0_moveUnits_58 rfl ?_
              obtain ⟨y_25, ey_25⟩ : ∃ z : Int64, y_6 - y_21 = z := ⟨_, rfl⟩
              refine jj_lsub (v := y_25) C dX0_moveUnits_60 ey_25 ?_
              refine jj_lstore C dX0_moveUnits_61 (by decide) rfl ?_
              refine jj_lload C dX0_moveUnits_63 rfl ?_
              refine jj_aload C dX0_moveUnits_65 rfl ?_
              refine tt_getF C hok jk_5 3 (by decide) jw_1f6afd9b6f (t := (1, (-9223372036854775808), 9223372036854775807)) ka_13 (by decide) rfl rfl hf_20 dX0_moveUnits_67 ?_
              refine jj_lcmp_neF (tgt := 83) C dX0_moveUnits_70 dX0_moveUnits_71 (by decide) rfl ?_
              refine jj_aload C dX0_moveUnits_74 rfl ?_
              refine jj_iload_n C dX0_moveUnits_76 rfl ?_
              refine tt_put C hok jk_5 0 (by decide) jw_89374484be (t := (0, (-2147483648), 2147483647)) ka_13 (by decide) rfl rfl rfl (tt_ia p2) rfl rfl dX0_moveUnits_77 (fun pl_26 hok_27 tr hn => ?_)
              replace hf_10 := tr _ _ _ (Or.inl (tt_ne hk0 ka_13 (by decide))) hf_10
              replace hf_20 := tr _ _ _ (Or.inr (by decide)) hf_20
              have hf_28 := hn
              replace hfr := hfr.put ka_13 tr (by decide)
              refine jj_goto (tgt := 92) C dX0_moveUnits_80 (by decide) ?_
              obtain ⟨x_29, ex_29, vx_29⟩ := tt_inc (x := x_5) (n := 1) (by omega) (by omega)
              refine jj_iinc (v := x_29) C dX0_moveUnits_92 rfl ex_29 (by decide) rfl ?_
              refine jj_goto (tgt := 12) C dX0_moveUnits_95 (by decide) ?_
              refine jj_loc [0, 4, 1, 5, 6, 7, 8] rfl ?_
              exact ihL_4 pl_26 x_29 y_25 hok_27 hfr (by first | omega | decide | exact tt_lo _ | exact tt_hi _) (by first | omega | decide | exact tt_lo _ | exact tt_hi _) (by first | omega | decide | exact tt_lo _ | exact tt_hi _)
            · refine jj_lstore C dX0_moveUnits_54 (by decide) rfl ?_
              refine jj_lload C dX0_moveUnits_56 rfl ?_
              refine jj_lload C dX0_moveUnits_58 rfl ?_
              obtain ⟨y_30, ey_30⟩ : ∃ z : Int64, y_6 - y_6 = z := ⟨_, rfl⟩
              refine jj_lsub (v := y_30) C dX0_moveUnits_60 ey_30 ?_
              refine jj_lstore C dX0_moveUnits_61 (by decide) rfl ?_
              refine jj_lload C dX0_moveUnits_63 rfl ?_
              refine jj_aload C dX0_moveUnits_65 rfl ?_
              refine tt_getF C hok jk_5 3 (by decide) jw_1f6afd9b6f (t := (1, (-9223372036854775808), 9223372036854775807)) ka_13 (by decide) rfl rfl hf_20 dX0_moveUnits_67 ?_
              refine jj_lcmp_ne (tgt := 83) C dX0_moveUnits_70 dX0_moveUnits_71 (by decide) (fun c_31 => ?_) (fun c_31 => ?_)
              · refine jj_aload_n C dX0_moveUnits_83 rfl ?_
                refine jj_aload C dX0_moveUnits_84 rfl ?_
                refine jj_iload_n C dX0_moveUnits_86 rfl ?_
                refine jj_lload C dX0_moveUnits_87 rfl ?_
                obtain ⟨qc, gs, hqc⟩ := tt_recv (cx := []) hok hk0 (by decide) rfl
                refine tt_callV (rest := []) C (tc_X0_splitLot_1 hl D cA ak h0 a_13 p2 y_6 hk0 ka_13 hok) [] [] rfl rfl (by decide) (by decide) (by decide) qc hqc rfl rfl jw_96d0fce99e jw_9a3deeca5f jw_ba2a371f49 jw_7d25d4fd32 jw_dd97004619 jn_X0_splitLot rfl (jj_le rfl) (jj_le rfl) (jj_le rfl) (jj_le rfl) (jj_le rfl) dX0_moveUnits_89 rfl (fun _ _ _ hX => hX.elim) (fun rx pl_32 r O_35 => ?_)
                obtain ⟨rfl, hok_33, hr_34, hR_37⟩ := O_35
                replace hf_10 := hr_34.at hk0 (by decide) (by decide) hf_10
                replace hfr := hfr.trans (hr_34.sub (by decide))
                obtain rfl := hR_37
                obtain ⟨x_40, ex_40, vx_40⟩ := tt_inc (x := x_5) (n := 1) (by omega) (by omega)
                refine jj_iinc (v := x_40) C dX0_moveUnits_92 rfl ex_40 (by decide) rfl ?_
                refine jj_goto (tgt := 12) C dX0_moveUnits_95 (by decide) ?_
                refine jj_loc [0, 4, 1, 5, 6, 7, 8] rfl ?_
                exact ihL_4 pl_32 x_40 y_30 hok_33 hfr (by first | omega | decide | exact tt_lo _ | exact tt_hi _) (by first | omega | decide | exact tt_lo _ | exact tt_hi _) (by first | omega | decide | exact tt_lo _ | exact tt_hi _)
              · refine jj_aload C dX0_moveUnits_74 rfl ?_
                refine jj_iload_n C dX0_moveUnits_76 rfl ?_
                refine tt_put C hok jk_5 0 (by decide) jw_89374484be (t := (0, (-2147483648), 2147483647)) ka_13 (by decide) rfl rfl rfl (tt_ia p2) rfl rfl dX0_moveUnits_77 (fun pl_41 hok_42 tr hn => ?_)
                replace hf_10 := tr _ _ _ (Or.inl (tt_ne hk0 ka_13 (by decide))) hf_10
                replace hf_20 := tr _ _ _ (Or.inr (by decide)) hf_20
                have hf_43 := hn
                replace hfr := hfr.put ka_13 tr (by decide)
                refine jj_goto (tgt := 92) C dX0_moveUnits_80 (by decide) ?_
                obtain ⟨x_44, ex_44, vx_44⟩ := tt_inc (x := x_5) (n := 1) (by omega) (by omega)
                refine jj_iinc (v := x_44) C dX0_moveUnits_92 rfl ex_44 (by decide) rfl ?_
                refine jj_goto (tgt := 12) C dX0_moveUnits_95 (by decide) ?_
                refine jj_loc [0, 4, 1, 5, 6, 7, 8] rfl ?_
                exact ihL_4 pl_41 x_44 y_30 hok_42 hfr (by first | omega | decide | exact tt_lo _ | exact tt_hi _) (by first | omega | decide | exact tt_lo _ | exact tt_hi _) (by first | omega | decide | exact tt_lo _ | exact tt_hi _)
  exact hL_4 _ pl0 (0 : Int32) p3 trivial hok hfr (by first | omega | decide | exact tt_lo _ | exact tt_hi _) (by first | omega | decide | exact tt_lo _ | exact tt_hi _) (Int.self_le_toNat _)

set_option maxHeartbeats 4000000 in
set_option maxRecDepth 100000 in
theorem tc_X10_truncateText_1 {l : Launch} (hl : l.stackTraces = false) (D : va_G) (cA : Nat → ClassId) (ak : (Nat → Nat) × (Nat → Nat)) {Kd : Nat → Nat} (h0 : Nat) (p1 : Int32) (hk0 : Kd h0 = 15) {pl0 : va_W} (hok : tt_ok tt_tk cA Kd pl0) : jj_M l D cA ak yX10_truncateText (.code yX10_truncateText cX10_truncateText 2 (some .int)) 6 82 1 6 ([] ++ pl0) [.ref h0, .int p1] (tt_O (fun rx pl1 r => rx = [] ∧ tt_ok tt_tk cA Kd pl1 ∧ tt_fr Kd [(10, 1)] pl0 pl1 ∧ ((∃ v : Int32, (0 : Int) ≤ v.toInt ∧ v.toInt ≤ 400 ∧ (0 : Int) ≤ p1.toInt ∧ p1.toInt ≤ 400 ∧ r = some (.int v))))) (tt_OX (fun E rx pl1 => rx = [] ∧ tt_ok tt_tk cA Kd pl1 ∧ tt_fr Kd [(10, 1)] pl0 pl1 ∧ (E = "java/lang/IllegalArgumentException"))) := by
  refine jj_start hl (by decide) jw_be9ea47be0 (jj_le rfl) ?_
  intro p e s m args below meth c A hargs hA C hex hmn
  have hfr := tt_fr.refl (K := Kd) (WS := [(10, 1)]) pl0
  have lp1 := tt_lo p1
  have up1 := tt_hi p1
  refine jj_iload_n C dX10_truncateText_0 rfl ?_
  refine jj_if_lt (tgt := 15) C dX10_truncateText_1 (by decide) (fun c_1 => ?_) (fun c_1 => ?_)
  · have z_c_1 := jc_lt (a := (p1).toInt) (b := (0)) c_1 rfl (by decide)
    exact jj_throw (k := 37) (text := "no such length") C jt_RX10_75 jw_0e6c957e85 (by decide +kernel) dX10_truncateText_15 dX10_truncateText_18 dX10_truncateText_19 dX10_truncateText_21 dX10_truncateText_24 hex (jj_le rfl) (jj_le rfl) (jj_le rfl) (jj_le rfl) ⟨[], pl0, rfl, rfl, hok, hfr, rfl⟩ (jj_le rfl) (jj_le rfl)
  · have z_c_1 := jc_nlt (a := (p1).toInt) (b := (0)) c_1 rfl (by decide)
    refine jj_iload_n C dX10_truncateText_4 rfl ?_
    refine jj_aload_n C dX10_truncateText_5 rfl ?_
    refine tt_get C hok jk_11 0 (by decide) jw_4836d4133c (t := (2, 10, 0)) hk0 (by decide) rfl rfl dX10_truncateText_6 (fun v_2 hv_2 hf_3 => ?_)
    obtain ⟨a_4, rfl, ka_4⟩ := tt_vr hv_2
    refine tt_get C hok jk_10 1 (by decide) jw_73b0a985ca (t := (0, 0, 400)) ka_4 (by decide) rfl rfl dX10_truncateText_9 (fun v_5 hv_5 hf_6 => ?_)
    obtain ⟨x_7, rfl, lx_7, ux_7⟩ := tt_vi hv_5
    refine jj_icmp_le (tgt := 25) C dX10_truncateText_12 (by decide) (fun c_8 => ?_) (fun c_8 => ?_)
    · have z_c_8 := jc_le (a := (p1).toInt) (b := (x_7).toInt) c_8 rfl rfl
      refine jj_aload_n C dX10_truncateText_25 rfl ?_
      refine tt_getF C hok jk_11 0 (by decide) jw_4836d4133c (t := (2, 10, 0)) hk0 (by decide) rfl rfl hf_3 dX10_truncateText_26 ?_
      refine jj_iload_n C dX10_truncateText_29 rfl ?_
      refine tt_put C hok jk_10 1 (by decide) jw_73b0a985ca (t := (0, 0, 400)) ka_4 (by decide) rfl rfl rfl (tt_iv (by omega) (by omega)) rfl rfl dX10_truncateText_30 (fun pl_9 hok_10 tr hn => ?_)
      replace hf_3 := tr _ _ _ (Or.inl (tt_ne hk0 ka_4 (by decide))) hf_3
      have hf_11 := hn
      replace hfr := hfr.put ka_4 tr (by decide)
      refine jj_iload_n C dX10_truncateText_33 rfl ?_
      exact jj_iret C ⟨[], pl_9, rfl, rfl, hok_10, hfr, ⟨p1, (by first | omega | exact tt_lo _ | exact tt_hi _), (by first | omega | exact tt_lo _ | exact tt_hi _), (by first | omega | exact tt_lo _ | exact tt_hi _), (by first | omega | exact tt_lo _ | exact tt_hi _), rfl⟩⟩ dX10_truncateText_34 (jj_le rfl) (jj_le rfl)
    · have z_c_8 := jc_nle (a := (p1).toInt) (b := (x_7).toInt) c_8 rfl rfl
      exact jj_throw (k := 37) (text := "no such length") C jt_RX10_75 jw_0e6c957e85 (by decide +kernel) dX10_truncateText_15 dX10_truncateText_18 dX10_truncateText_19 dX10_truncateText_21 dX10_truncateText_24 hex (jj_le rfl) (jj_le rfl) (jj_le rfl) (jj_le rfl) ⟨[], pl0, rfl, rfl, hok, hfr, rfl⟩ (jj_le rfl) (jj_le rfl)

set_option maxHeartbeats 4000000 in
set_option maxRecDepth 100000 in
theorem tc_X10_undo_1 {l : Launch} (hl : l.stackTraces = false) (D : va_G) (cA : Nat → ClassId) (ak : (Nat → Nat) × (Nat → Nat)) {Kd : Nat → Nat} (h0 : Nat) (hk0 : Kd h0 = 15) {pl0 : va_W} (hok : tt_ok tt_tk cA Kd pl0) : jj_M l D cA ak yX10_undo (.code yX10_undo cX10_undo 1 (some .int)) 6 82 1 6 ([] ++ pl0) [.ref h0] (tt_O (fun rx pl1 r => rx = [] ∧ tt_ok tt_tk cA Kd pl1 ∧ tt_fr Kd [(1, 0), (1, 1), (1, 2), (1, 3), (1, 4), (1, 5), (1, 6), (1, 7), (1, 8), (1, 9), (2, 0), (2, 1), (2, 2), (2, 3), (2, 4), (3, 0), (3, 1), (3, 2), (3, 3), (3, 4), (3, 5), (4, 0), (4, 1), (4, 2), (4, 3), (4, 4), (15, 7), (15, 8)] pl0 pl1 ∧ ((∃ v : Int32, (0 : Int) ≤ v.toInt ∧ v.toInt ≤ 9 ∧ r = some (.int v))))) (tt_OX (fun E rx pl1 => rx = [] ∧ tt_ok tt_tk cA Kd pl1 ∧ tt_fr Kd [(1, 0), (1, 1), (1, 2), (1, 3), (1, 4), (1, 5), (1, 6), (1, 7), (1, 8), (1, 9), (2, 0), (2, 1), (2, 2), (2, 3), (2, 4), (3, 0), (3, 1), (3, 2), (3, 3), (3, 4), (3, 5), (4, 0), (4, 1), (4, 2), (4, 3), (4, 4), (15, 7), (15, 8)] pl0 pl1 ∧ (E = "java/lang/IllegalStateException"))) := by
  refine jj_start hl (by decide) jw_a04efaf693 (jj_le rfl) ?_
  intro p e s m args below meth c A hargs hA C hex hmn
  have hfr := tt_fr.refl (K := Kd) (WS := [(1, 0), (1, 1), (1, 2), (1, 3), (1, 4), (1, 5), (1, 6), (1, 7), (1, 8), (1, 9), (2, 0), (2, 1), (2, 2), (2, 3), (2, 4), (3, 0), (3, 1), (3, 2), (3, 3), (3, 4), (3, 5), (4, 0), (4, 1), (4, 2), (4, 3), (4, 4), (15, 7), (15, 8)]) pl0
  refine jj_aload_n C dX10_undo_0 rfl ?_
  refine tt_get C hok jk_11 8 (by decide) jw_427985f7c9 (t := (0, 0, 10)) hk0 (by decide) rfl rfl dX10_undo_1 (fun v_1 hv_1 hf_2 => ?_)
  obtain ⟨x_3, rfl, lx_3, ux_3⟩ := tt_vi hv_1
  refine jj_if_eq (tgt := 19) C dX10_undo_4 (by decide) (fun c_4 => ?_) (fun c_4 => ?_)
  · have z_c_4 := jc_eq (a := (x_3).toInt) (b := (0)) c_4 rfl (by decide)
    exact jj_throwW (k := 53) (text := "there is nothing to undo") C jt_RX10_64 jw_2e653062aa (by decide +kernel) dX10_undo_19 dX10_undo_22 dX10_undo_23 dX10_undo_26 dX10_undo_29 hex (jj_le rfl) (jj_le rfl) (jj_le rfl) (jj_le rfl) ⟨[], pl0, rfl, rfl, hok, hfr, rfl⟩ (jj_le rfl) (jj_le rfl)
  · have z_c_4 := jc_neq (a := (x_3).toInt) (b := (0)) c_4 rfl (by decide)
    refine jj_aload_n C dX10_undo_7 rfl ?_
    refine tt_get C hok jk_11 6 (by decide) jw_c7bfd4c89b (t := (2, 16, 0)) hk0 (by decide) rfl rfl dX10_undo_8 (fun v_5 hv_5 hf_6 => ?_)
    obtain ⟨a_7, rfl, ka_7⟩ := tt_vr hv_5
    refine jj_aload_n C dX10_undo_11 rfl ?_
    refine tt_get C hok jk_11 7 (by decide) jw_f074b96d56 (t := (0, 0, 9)) hk0 (by decide) rfl rfl dX10_undo_12 (fun v_8 hv_8 hf_9 => ?_)
    obtain ⟨x_10, rfl, lx_10, ux_10⟩ := tt_vi hv_8
    refine tt_aaldN C hok (t := (3, 1, 0)) ka_7 (by decide) rfl rfl rfl (vp_in_iff.mpr ⟨by omega, by omega⟩) dX10_undo_15 (fun v_11 hv_11 he_13 => ?_)
    rcases tt_vn hv_11 with rfl | ⟨a_12, rfl, ka_12⟩
    · refine jj_ifnonnullN C dX10_undo_16 ?_
      exact jj_throwW (k := 53) (text := "there is nothing to undo") C jt_RX10_64 jw_2e653062aa (by decide +kernel) dX10_undo_19 dX10_undo_22 dX10_undo_23 dX10_undo_26 dX10_undo_29 hex (jj_le rfl) (jj_le rfl) (jj_le rfl) (jj_le rfl) ⟨[], pl0, rfl, rfl, hok, hfr, rfl⟩ (jj_le rfl) (jj_le rfl)
    · refine jj_ifnonnull (tgt := 30) C dX10_undo_16 (by decide) ?_
      refine jj_aload_n C dX10_undo_30 rfl ?_
      refine tt_get C hok jk_11 3 (by decide) jw_f82a97e333 (t := (2, 1, 0)) hk0 (by decide) rfl rfl dX10_undo_31 (fun v_14 hv_14 hf_15 => ?_)
      obtain ⟨a_16, rfl, ka_16⟩ := tt_vr hv_14
      refine jj_aload_n C dX10_undo_34 rfl ?_
      refine tt_getF C hok jk_11 6 (by decide) jw_c7bfd4c89b (t := (2, 16, 0)) hk0 (by decide) rfl rfl hf_6 dX10_undo_35 ?_
      refine jj_aload_n C dX10_undo_38 rfl ?_
      refine tt_getF C hok jk_11 7 (by decide) jw_f074b96d56 (t := (0, 0, 9)) hk0 (by decide) rfl rfl hf_9 dX10_undo_39 ?_
      refine tt_aaldF C hok (t := (3, 1, 0)) ka_7 (by decide) rfl rfl rfl (vp_in_iff.mpr ⟨by omega, by omega⟩) he_13 dX10_undo_42 ?_
      obtain ⟨qc, gs, hqc⟩ := tt_recv (cx := []) hok ka_16 (by decide) rfl
      refine tt_callV (rest := []) C (tc_X0_copyFrom_1 hl D cA ak a_16 a_12 ka_16 ka_12 hok) [] [] rfl rfl (by decide) (by decide) (by decide) qc hqc rfl rfl jw_4d0cb05860 jw_8aa1bdb2cc jw_ac98d74d03 jw_7d25d4fd32 jw_58241735d3 jn_X0_copyFrom rfl (jj_le rfl) (jj_le rfl) (jj_le rfl) (jj_le rfl) (jj_le rfl) dX10_undo_43 rfl (fun _ _ _ hX => hX.elim) (fun rx pl_19 r O_22 => ?_)
      obtain ⟨rfl, hok_20, hr_21, hR_24⟩ := O_22
      replace hf_2 := hr_21.at hk0 (by decide) (by decide) hf_2
      replace hf_6 := hr_21.at hk0 (by decide) (by decide) hf_6
      replace hf_9 := hr_21.at hk0 (by decide) (by decide) hf_9
      replace hf_15 := hr_21.at hk0 (by decide) (by decide) hf_15
      replace hfr := hfr.trans (hr_21.sub (by decide))
      obtain rfl := hR_24
      refine jj_aload_n C dX10_undo_46 rfl ?_
      refine jj_aload_n C dX10_undo_47 rfl ?_
      refine tt_getF C hok_20 jk_11 7 (by decide) jw_f074b96d56 (t := (0, 0, 9)) hk0 (by decide) rfl rfl hf_9 dX10_undo_48 ?_
      refine jj_if_le (tgt := 63) C dX10_undo_51 (by decide) (fun c_27 => ?_) (fun c_27 => ?_)
      · have z_c_27 := jc_le (a := (x_10).toInt) (b := (0)) c_27 rfl (by decide)
        refine jj_bipush (v := 9) C dX10_undo_63 (by decide) ?_
        refine tt_put C hok_20 jk_11 7 (by decide) jw_f074b96d56 (t := (0, 0, 9)) hk0 (by decide) rfl rfl rfl (tt_iv (by decide) (by decide)) rfl rfl dX10_undo_65 (fun pl_28 hok_29 tr hn => ?_)
        replace hf_2 := tr _ _ _ (Or.inr (by decide)) hf_2
        replace hf_6 := tr _ _ _ (Or.inr (by decide)) hf_6
        replace hf_15 := tr _ _ _ (Or.inr (by decide)) hf_15
        have hf_30 := hn
        replace hfr := hfr.put hk0 tr (by decide)
        refine jj_aload_n C dX10_undo_68 rfl ?_
        refine jj_dup C dX10_undo_69 rfl ?_
        refine tt_getF C hok_29 jk_11 8 (by decide) jw_427985f7c9 (t := (0, 0, 10)) hk0 (by decide) rfl rfl hf_2 dX10_undo_70 ?_
        refine jj_iconst (v := 1) C dX10_undo_73 (by decide) ?_
        obtain ⟨x_31, ex_31, vx_31⟩ := tt_isub (x := x_3) (y := (1 : Int32)) (a := x_3.toInt) rfl (b := 1) (by decide) (by omega) (by omega)
        refine jj_isub (v := x_31) C dX10_undo_74 ex_31 ?_
        refine tt_put C hok_29 jk_11 8 (by decide) jw_427985f7c9 (t := (0, 0, 10)) hk0 (by decide) rfl rfl rfl (tt_iv (by omega) (by omega)) rfl rfl dX10_undo_75 (fun pl_32 hok_33 tr hn => ?_)
        replace hf_6 := tr _ _ _ (Or.inr (by decide)) hf_6
        replace hf_15 := tr _ _ _ (Or.inr (by decide)) hf_15
        replace hf_30 := tr _ _ _ (Or.inr (by decide)) hf_30
        have hf_34 := hn
        replace hfr := hfr.put hk0 tr (by decide)
        refine jj_aload_n C dX10_undo_78 rfl ?_
        refine tt_getF C hok_33 jk_11 8 (by decide) jw_427985f7c9 (t := (0, 0, 10)) hk0 (by decide) rfl rfl hf_34 dX10_undo_79 ?_
        exact jj_iret C ⟨[], pl_32, rfl, rfl, hok_33, hfr, ⟨x_31, (by first | omega | exact tt_lo _ | exact tt_hi _), (by first | omega | exact tt_lo _ | exact tt_hi _), rfl⟩⟩ dX10_undo_82 (jj_le rfl) (jj_le rfl)
      · have z_c_27 := jc_nle (a := (x_10).toInt) (b := (0)) c_27 rfl (by decide)
        refine jj_aload_n C dX10_undo_54 rfl ?_
        refine tt_getF C hok_20 jk_11 7 (by decide) jw_f074b96d56 (t := (0, 0, 9)) hk0 (by decide) rfl rfl hf_9 dX10_undo_55 ?_
        refine jj_iconst (v := 1) C dX10_undo_58 (by decide) ?_
        obtain ⟨x_35, ex_35, vx_35⟩ := tt_isub (x := x_10) (y := (1 : Int32)) (a := x_10.toInt) rfl (b := 1) (by decide) (by omega) (by omega)
        refine jj_isub (v := x_35) C dX10_undo_59 ex_35 ?_
        refine jj_goto (tgt := 65) C dX10_undo_60 (by decide) ?_
        refine tt_put C hok_20 jk_11 7 (by decide) jw_f074b96d56 (t := (0, 0, 9)) hk0 (by decide) rfl rfl rfl (tt_iv (by omega) (by omega)) rfl rfl dX10_undo_65 (fun pl_36 hok_37 tr hn => ?_)
        replace hf_2 := tr _ _ _ (Or.inr (by decide)) hf_2
        replace hf_6 := tr _ _ _ (Or.inr (by decide)) hf_6
        replace hf_15 := tr _ _ _ (Or.inr (by decide)) hf_15
        have hf_38 := hn
        replace hfr := hfr.put hk0 tr (by decide)
        refine jj_aload_n C dX10_undo_68 rfl ?_
        refine jj_dup C dX10_undo_69 rfl ?_
        refine tt_getF C hok_37 jk_11 8 (by decide) jw_427985f7c9 (t := (0, 0, 10)) hk0 (by decide) rfl rfl hf_2 dX10_undo_70 ?_
        refine jj_iconst (v := 1) C dX10_undo_73 (by decide) ?_
        obtain ⟨x_39, ex_39, vx_39⟩ := tt_isub (x := x_3) (y := (1 : Int32)) (a := x_3.toInt) rfl (b := 1) (by decide) (by omega) (by omega)
        refine jj_isub (v := x_39) C dX10_undo_74 ex_39 ?_
        refine tt_put C hok_37 jk_11 8 (by decide) jw_427985f7c9 (t := (0, 0, 10)) hk0 (by decide) rfl rfl rfl (tt_iv (by omega) (by omega)) rfl rfl dX10_undo_75 (fun pl_40 hok_41 tr hn => ?_)
        replace hf_6 := tr _ _ _ (Or.inr (by decide)) hf_6
        replace hf_15 := tr _ _ _ (Or.inr (by decide)) hf_15
        replace hf_38 := tr _ _ _ (Or.inr (by decide)) hf_38
        have hf_42 := hn
        replace hfr := hfr.put hk0 tr (by decide)
        refine jj_aload_n C dX10_undo_78 rfl ?_
        refine tt_getF C hok_41 jk_11 8 (by decide) jw_427985f7c9 (t := (0, 0, 10)) hk0 (by decide) rfl rfl hf_42 dX10_undo_79 ?_
        exact jj_iret C ⟨[], pl_40, rfl, rfl, hok_41, hfr, ⟨x_39, (by first | omega | exact tt_lo _ | exact tt_hi _), (by first | omega | exact tt_lo _ | exact tt_hi _), rfl⟩⟩ dX10_undo_82 (jj_le rfl) (jj_le rfl)

set_option maxHeartbeats 4000000 in
set_option maxRecDepth 100000 in
theorem tc_X10_unitsOf_1 {l : Launch} (hl : l.stackTraces = false) (D : va_G) (cA : Nat → ClassId) (ak : (Nat → Nat) × (Nat → Nat)) {Kd : Nat → Nat} (h0 : Nat) (p1 : Int32) (hk0 : Kd h0 = 15) {pl0 : va_W} (hok : tt_ok tt_tk cA Kd pl0) : jj_M l D cA ak yX10_unitsOf (.code yX10_unitsOf cX10_unitsOf 2 (some .long)) 8 123 1 6 ([] ++ pl0) [.ref h0, .int p1] (tt_O (fun rx pl1 r => rx = [] ∧ tt_ok tt_tk cA Kd pl1 ∧ tt_fr Kd [] pl0 pl1 ∧ ((∃ v : Int64, (0 : Int) ≤ p1.toInt ∧ p1.toInt ≤ 2147483646 ∧ r = some (.long v))))) (tt_OX (fun E rx pl1 => rx = [] ∧ tt_ok tt_tk cA Kd pl1 ∧ tt_fr Kd [] pl0 pl1 ∧ (E = "java/lang/IndexOutOfBoundsException"))) := by
  refine jj_start hl (by decide) jw_45a18b951a (jj_le rfl) ?_
  intro p e s m args below meth c A hargs hA C hex hmn
  have hfr := tt_fr.refl (K := Kd) (WS := []) pl0
  have lp1 := tt_lo p1
  have up1 := tt_hi p1
  refine jj_aload_n C dX10_unitsOf_0 rfl ?_
  refine jj_iload_n C dX10_unitsOf_1 rfl ?_
  obtain ⟨qc, gs, hqc⟩ := tt_recv (cx := []) hok hk0 (by decide) rfl
  refine tt_callV (rest := []) C (tc_X10_checkInvestor_1 hl D cA ak h0 p1 hk0 hok) [] [] rfl rfl (by decide) (by decide) (by decide) qc hqc rfl rfl jw_c489a67580 jw_a350a61418 jw_0e27b6f20c jw_6f6d707074 jw_a8b8d648f8 jn_X10_checkInvestor rfl (jj_le rfl) (jj_le rfl) (jj_le rfl) (jj_le rfl) (jj_le rfl) dX10_unitsOf_2 rfl (fun E rx pl_1 X_5 => ?_) (fun rx pl_1 r O_4 => ?_)
  · obtain ⟨rfl, hok_2, hr_3, hE_6⟩ := X_5
    replace hfr := hfr.trans (hr_3.sub (by decide))
    obtain rfl := hE_6
    exact jj_out C hex ⟨[], pl_1, rfl, rfl, hok_2, hfr, rfl⟩ (jj_le rfl) (jj_le rfl)
  · obtain ⟨rfl, hok_2, hr_3, hR_9⟩ := O_4
    replace hfr := hfr.trans (hr_3.sub (by decide))
    obtain ⟨l_12, u_13, rfl⟩ := hR_9
    refine jj_aload_n C dX10_unitsOf_5 rfl ?_
    refine tt_get C hok_2 jk_11 3 (by decide) jw_f82a97e333 (t := (2, 1, 0)) hk0 (by decide) rfl rfl dX10_unitsOf_6 (fun v_14 hv_14 hf_15 => ?_)
    obtain ⟨a_16, rfl, ka_16⟩ := tt_vr hv_14
    refine jj_iload_n C dX10_unitsOf_9 rfl ?_
    obtain ⟨qc, gs, hqc⟩ := tt_recv (cx := []) hok_2 ka_16 (by decide) rfl
    refine tt_callV (rest := []) C (tc_X0_unitsHeldBy_1 hl D cA ak a_16 p1 ka_16 hok_2) [] [] rfl rfl (by decide) (by decide) (by decide) qc hqc rfl rfl jw_696d1435d3 jw_473d3625aa jw_4058f4329f jw_7d25d4fd32 jw_325e36afd1 jn_X0_unitsHeldBy rfl (jj_le rfl) (jj_le rfl) (jj_le rfl) (jj_le rfl) (jj_le rfl) dX10_unitsOf_10 rfl (fun _ _ _ hX => hX.elim) (fun rx pl_17 r O_20 => ?_)
    obtain ⟨rfl, hok_18, hr_19, hR_22⟩ := O_20
    replace hf_15 := hr_19.at hk0 (by decide) (by decide) hf_15
    replace hfr := hfr.trans (hr_19.sub (by decide))
    obtain ⟨y_25, rfl⟩ := hR_22
    exact jj_lret C ⟨[], pl_17, rfl, rfl, hok_18, hfr, ⟨y_25, (by first | omega | exact tt_lo _ | exact tt_hi _), (by first | omega | exact tt_lo _ | exact tt_hi _), rfl⟩⟩ dX10_unitsOf_13 (jj_le rfl) (jj_le rfl)

