set_option maxHeartbeats 4000000 in
set_option maxRecDepth 100000 in
theorem tc_X10_richest_1 {l : Launch} (hl : l.stackTraces = false) (D : va_G) (cA : Nat → ClassId) (ak : (Nat → Nat) × (Nat → Nat)) {Kd : Nat → Nat} (h0 : Nat) (p1 : Int32) (hk0 : Kd h0 = 15) {pl0 : va_W} (hok : tt_ok tt_tk cA Kd pl0) : jj_M l D cA ak yX10_richest (.code yX10_richest cX10_richest 3 (some .int)) 8 138 1 6 ([] ++ pl0) [.ref h0, .int p1] (tt_O (fun rx pl1 r => rx = [] ∧ tt_ok tt_tk cA Kd pl1 ∧ tt_fr Kd [(2, 0), (2, 1), (2, 2), (2, 3), (2, 4), (9, 1), (9, 2), (9, 3), (9, 4), (9, 5)] pl0 pl1 ∧ (((0 : Int) ≤ p1.toInt ∧ p1.toInt ≤ 2147483646 ∧ r = some (.int (-1))) ∨ (∃ v : Int32, (0 : Int) ≤ v.toInt ∧ v.toInt ≤ 2147483646 ∧ (0 : Int) ≤ p1.toInt ∧ p1.toInt ≤ 2147483646 ∧ r = some (.int v))))) (tt_OX (fun E rx pl1 => rx = [] ∧ tt_ok tt_tk cA Kd pl1 ∧ tt_fr Kd [(2, 0), (2, 1), (2, 2), (2, 3), (2, 4), (9, 1), (9, 2), (9, 3), (9, 4), (9, 5)] pl0 pl1 ∧ (E = "java/lang/IndexOutOfBoundsException"))) := by
  refine jj_start hl (by decide) jw_856 (jj_le rfl) ?_
  intro p e s m args below meth c A hargs hA C hex hmn
  have hfr := tt_fr.refl (K := Kd) (WS := [(2, 0), (2, 1), (2, 2), (2, 3), (2, 4), (9, 1), (9, 2), (9, 3), (9, 4), (9, 5)]) pl0
  have lp1 := tt_lo p1
  have up1 := tt_hi p1
  refine jj_aload_n C dX10_richest_0 rfl ?_
  refine jj_iload_n C dX10_richest_1 rfl ?_
  obtain ⟨qc, gs, hqc⟩ := tt_recv (cx := []) hok hk0 (by decide) rfl
  refine tt_callV (rest := []) C (tc_X10_checkInvestor_1 hl D cA ak h0 p1 hk0 hok) [] [] rfl rfl (by decide) (by decide) (by decide) qc hqc rfl rfl jw_394 jw_401 jw_402 jw_52 jw_395 jn_X10_checkInvestor rfl (jj_le rfl) (jj_le rfl) (jj_le rfl) (jj_le rfl) (jj_le rfl) dX10_richest_2 rfl (fun E rx pl_1 X_5 => ?_) (fun rx pl_1 r O_4 => ?_)
  · obtain ⟨rfl, hok_2, hr_3, hE_6⟩ := X_5
    replace hfr := hfr.trans (hr_3.sub (by decide))
    obtain rfl := hE_6
    exact jj_out C hex ⟨[], pl_1, rfl, rfl, hok_2, hfr, rfl⟩ (jj_le rfl) (jj_le rfl)
  · obtain ⟨rfl, hok_2, hr_3, hR_7⟩ := O_4
    replace hfr := hfr.trans (hr_3.sub (by decide))
    obtain ⟨l_8, u_9, rfl⟩ := hR_7
    refine jj_iconst (v := 0) C dX10_richest_5 (by decide) ?_
    refine jj_istore_n C dX10_richest_6 (by decide) rfl ?_
    have hL_10 : ∀ (N : Nat) (pl : va_W) (x_11 : Int32), True → tt_ok tt_tk cA Kd pl → tt_fr Kd [(2, 0), (2, 1), (2, 2), (2, 3), (2, 4), (9, 1), (9, 2), (9, 3), (9, 4), (9, 5)] pl0 pl → (0 : Int) ≤ x_11.toInt → x_11.toInt ≤ 2147483647 → (2147483648 - x_11.toInt ≤ (N : Int)) → jj_J p l e (jj_rm 8 138 1 6) s m args below meth c 3 A (vx_MQ below (jj_q D A (tt_O (fun rx pl1 r => rx = [] ∧ tt_ok tt_tk cA Kd pl1 ∧ tt_fr Kd [(2, 0), (2, 1), (2, 2), (2, 3), (2, 4), (9, 1), (9, 2), (9, 3), (9, 4), (9, 5)] pl0 pl1 ∧ (((0 : Int) ≤ p1.toInt ∧ p1.toInt ≤ 2147483646 ∧ r = some (.int (-1))) ∨ (∃ v : Int32, (0 : Int) ≤ v.toInt ∧ v.toInt ≤ 2147483646 ∧ (0 : Int) ≤ p1.toInt ∧ p1.toInt ≤ 2147483646 ∧ r = some (.int v)))))) (jj_x D A (tt_OX (fun E rx pl1 => rx = [] ∧ tt_ok tt_tk cA Kd pl1 ∧ tt_fr Kd [(2, 0), (2, 1), (2, 2), (2, 3), (2, 4), (9, 1), (9, 2), (9, 3), (9, 4), (9, 5)] pl0 pl1 ∧ (E = "java/lang/IndexOutOfBoundsException")))) args s 1 6 A) (jj_X D A ([] ++ pl)) 1 6 7 [(2, .int x_11), (0, .ref h0), (1, .int p1)] [] := by
      intro NL_10
      induction NL_10 with
      | zero => intro pl x_11 _ hok hfr lx_11 ux_11 hNL_10; exfalso; omega
      | succ NL_10 ihL_10 =>
        intro pl x_11 _ hok hfr lx_11 ux_11 hNL_10
        replace ihL_10 := fun pl x_11 h1 => ihL_10 pl x_11 trivial h1
        refine jj_iload_n C dX10_richest_7 rfl ?_
        refine jj_aload_n C dX10_richest_8 rfl ?_
        refine tt_get C hok jk_11 3 (by decide) jw_2 (t := (2, 1, 0)) hk0 (by decide) rfl rfl dX10_richest_9 (fun v_12 hv_12 hf_13 => ?_)
        obtain ⟨a_14, rfl, ka_14⟩ := tt_vr hv_12
        refine tt_get C hok jk_2 0 (by decide) jw_306 (t := (0, (-2147483648), 2147483647)) ka_14 (by decide) rfl rfl dX10_richest_12 (fun v_15 hv_15 hf_16 => ?_)
        obtain ⟨x_17, rfl, lx_17, ux_17⟩ := tt_vi hv_15
        refine jj_icmp_ge (tgt := 35) C dX10_richest_15 (by decide) (fun c_18 => ?_) (fun c_18 => ?_)
        · have z_c_18 := jc_le (a := (x_17).toInt) (b := (x_11).toInt) c_18 rfl rfl
          refine jj_iconst (v := (-1)) C dX10_richest_35 (by decide) ?_
          exact jj_iret C ⟨[], pl, rfl, rfl, hok, hfr, (Or.inl ⟨(by first | omega | exact tt_lo _ | exact tt_hi _), (by first | omega | exact tt_lo _ | exact tt_hi _), rfl⟩)⟩ dX10_richest_36 (jj_le rfl) (jj_le rfl)
        · have z_c_18 := jc_nle (a := (x_17).toInt) (b := (x_11).toInt) c_18 rfl rfl
          refine jj_aload_n C dX10_richest_18 rfl ?_
          refine jj_iload_n C dX10_richest_19 rfl ?_
          obtain ⟨qc, gs, hqc⟩ := tt_recv (cx := []) hok hk0 (by decide) rfl
          refine tt_callV (rest := []) C (tc_X10_placeInRanking_14 hl D cA ak h0 x_11 hk0 hok) [] [] rfl rfl (by decide) (by decide) (by decide) qc hqc rfl rfl jw_478 jw_480 jw_481 jw_52 jw_479 jn_X10_placeInRanking rfl (jj_le rfl) (jj_le rfl) (jj_le rfl) (jj_le rfl) (jj_le rfl) dX10_richest_20 rfl (fun _ _ _ hX => hX.elim) (fun rx pl_19 r O_22 => ?_)
          obtain ⟨rfl, hok_20, hr_21, hR_24⟩ := O_22
          replace hf_13 := hr_21.at hk0 (by decide) (by decide) hf_13
          replace hf_16 := hr_21.at ka_14 (by decide) (by decide) hf_16
          replace hfr := hfr.trans (hr_21.sub (by decide))
          obtain ⟨x_25, lx_25, ux_25, rfl⟩ := hR_24
          refine jj_iload_n C dX10_richest_23 rfl ?_
          refine jj_icmp_ne (tgt := 29) C dX10_richest_24 (by decide) (fun c_26 => ?_) (fun c_26 => ?_)
          · have z_c_26 := jc_neq (a := (x_25).toInt) (b := (p1).toInt) c_26 rfl rfl
            obtain ⟨x_27, ex_27, vx_27⟩ := tt_inc (x := x_11) (n := 1) (by omega) (by omega)
            refine jj_iinc (v := x_27) C dX10_richest_29 rfl ex_27 (by decide) rfl ?_
            refine jj_goto (tgt := 7) C dX10_richest_32 (by decide) ?_
            exact ihL_10 pl_19 x_27 hok_20 hfr (by first | omega | decide | exact tt_lo _ | exact tt_hi _) (by first | omega | decide | exact tt_lo _ | exact tt_hi _) (by first | omega | decide | exact tt_lo _ | exact tt_hi _)
          · have z_c_26 := jc_eq (a := (x_25).toInt) (b := (p1).toInt) c_26 rfl rfl
            refine jj_iload_n C dX10_richest_27 rfl ?_
            exact jj_iret C ⟨[], pl_19, rfl, rfl, hok_20, hfr, (Or.inr ⟨x_11, (by first | omega | exact tt_lo _ | exact tt_hi _), (by first | omega | exact tt_lo _ | exact tt_hi _), (by first | omega | exact tt_lo _ | exact tt_hi _), (by first | omega | exact tt_lo _ | exact tt_hi _), rfl⟩)⟩ dX10_richest_28 (jj_le rfl) (jj_le rfl)
    exact hL_10 _ pl_1 (0 : Int32) trivial hok_2 hfr (by first | omega | decide | exact tt_lo _ | exact tt_hi _) (by first | omega | decide | exact tt_lo _ | exact tt_hi _) (Int.self_le_toNat _)

set_option maxHeartbeats 4000000 in
set_option maxRecDepth 100000 in
theorem tc_X8_netPrice_1 {l : Launch} (hl : l.stackTraces = false) (D : va_G) (cA : Nat → ClassId) (ak : (Nat → Nat) × (Nat → Nat)) {Kd : Nat → Nat} (h0 : Nat) (p1 : Int32) (hk0 : Kd h0 = 2) {pl0 : va_W} (hok : tt_ok tt_tk cA Kd pl0) : jj_M l D cA ak yX8_netPrice (.code yX8_netPrice cX8_netPrice 2 (some .long)) 1 25 0 0 ([] ++ pl0) [.ref h0, .int p1] (tt_O (fun rx pl1 r => rx = [] ∧ tt_ok tt_tk cA Kd pl1 ∧ tt_fr Kd [] pl0 pl1 ∧ ((r = some (.long 1000000)) ∨ (∃ v : Int64, r = some (.long v))))) (tt_OX (fun _ _ _ => False)) := by
  refine jj_start hl (by decide) jw_487 (jj_le rfl) ?_
  intro p e s m args below meth c A hargs hA C hex hmn
  have hfr := tt_fr.refl (K := Kd) (WS := []) pl0
  have lp1 := tt_lo p1
  have up1 := tt_hi p1
  refine jj_aload_n C dX8_netPrice_0 rfl ?_
  refine jj_aload_n C dX8_netPrice_1 rfl ?_
  refine tt_get C hok jk_9 2 (by decide) jw_101 (t := (1, (-9223372036854775808), 9223372036854775807)) hk0 (by decide) rfl rfl dX8_netPrice_2 (fun v_1 hv_1 hf_2 => ?_)
  obtain ⟨y_3, rfl, -, -⟩ := tt_vj hv_1
  refine jj_aload_n C dX8_netPrice_5 rfl ?_
  refine jj_iload_n C dX8_netPrice_6 rfl ?_
  obtain ⟨qc, gs, hqc⟩ := tt_recv (cx := []) hok hk0 (by decide) rfl
  refine tt_callV (rest := [.long y_3, .ref h0]) C (tc_X8_accruedFee_1 hl D cA ak h0 p1 hk0 hok) [] [] rfl rfl (by decide) (by decide) (by decide) qc hqc rfl rfl jw_488 jw_154 jw_155 jw_92 jw_151 jn_X8_accruedFee rfl (jj_le rfl) (jj_le rfl) (jj_le rfl) (jj_le rfl) (jj_le rfl) dX8_netPrice_7 rfl (fun _ _ _ hX => hX.elim) (fun rx pl_4 r O_7 => ?_)
  obtain ⟨rfl, hok_5, hr_6, hR_9⟩ := O_7
  replace hf_2 := hr_6.at hk0 (by decide) (by decide) hf_2
  replace hfr := hfr.trans (hr_6.sub (by decide))
  rcases hR_9 with rfl | ⟨y_10, rfl⟩
  · obtain ⟨y_11, ey_11⟩ : ∃ z : Int64, y_3 - (0 : Int64) = z := ⟨_, rfl⟩
    refine jj_lsub (v := y_11) C dX8_netPrice_10 ey_11 ?_
    obtain ⟨qc, gs, hqc⟩ := tt_recv (cx := []) hok_5 hk0 (by decide) rfl
    refine tt_callV (rest := []) C (tc_X8_priceWith_1 hl D cA ak h0 y_11 hk0 hok_5) [] [] rfl rfl (by decide) (by decide) (by decide) qc hqc rfl rfl jw_489 jw_296 jw_297 jw_92 jw_295 jn_X8_priceWith rfl (jj_le rfl) (jj_le rfl) (jj_le rfl) (jj_le rfl) (jj_le rfl) dX8_netPrice_11 rfl (fun _ _ _ hX => hX.elim) (fun rx pl_12 r O_15 => ?_)
    obtain ⟨rfl, hok_13, hr_14, hR_17⟩ := O_15
    replace hf_2 := hr_14.at hk0 (by decide) (by decide) hf_2
    replace hfr := hfr.trans (hr_14.sub (by decide))
    rcases hR_17 with rfl | ⟨y_18, rfl⟩
    · exact jj_lret C ⟨[], pl_12, rfl, rfl, hok_13, hfr, (Or.inl rfl)⟩ dX8_netPrice_14 (jj_le rfl) (jj_le rfl)
    · exact jj_lret C ⟨[], pl_12, rfl, rfl, hok_13, hfr, (Or.inr ⟨y_18, rfl⟩)⟩ dX8_netPrice_14 (jj_le rfl) (jj_le rfl)
  · obtain ⟨y_19, ey_19⟩ : ∃ z : Int64, y_3 - y_10 = z := ⟨_, rfl⟩
    refine jj_lsub (v := y_19) C dX8_netPrice_10 ey_19 ?_
    obtain ⟨qc, gs, hqc⟩ := tt_recv (cx := []) hok_5 hk0 (by decide) rfl
    refine tt_callV (rest := []) C (tc_X8_priceWith_1 hl D cA ak h0 y_19 hk0 hok_5) [] [] rfl rfl (by decide) (by decide) (by decide) qc hqc rfl rfl jw_489 jw_296 jw_297 jw_92 jw_295 jn_X8_priceWith rfl (jj_le rfl) (jj_le rfl) (jj_le rfl) (jj_le rfl) (jj_le rfl) dX8_netPrice_11 rfl (fun _ _ _ hX => hX.elim) (fun rx pl_20 r O_23 => ?_)
    obtain ⟨rfl, hok_21, hr_22, hR_25⟩ := O_23
    replace hf_2 := hr_22.at hk0 (by decide) (by decide) hf_2
    replace hfr := hfr.trans (hr_22.sub (by decide))
    rcases hR_25 with rfl | ⟨y_26, rfl⟩
    · exact jj_lret C ⟨[], pl_20, rfl, rfl, hok_21, hfr, (Or.inl rfl)⟩ dX8_netPrice_14 (jj_le rfl) (jj_le rfl)
    · exact jj_lret C ⟨[], pl_20, rfl, rfl, hok_21, hfr, (Or.inr ⟨y_26, rfl⟩)⟩ dX8_netPrice_14 (jj_le rfl) (jj_le rfl)

set_option maxHeartbeats 4000000 in
set_option maxRecDepth 100000 in
theorem tc_X0_lotsOfSeries_1 {l : Launch} (hl : l.stackTraces = false) (D : va_G) (cA : Nat → ClassId) (ak : (Nat → Nat) × (Nat → Nat)) {Kd : Nat → Nat} (h0 : Nat) (p1 : Int32) (hk0 : Kd h0 = 1) {pl0 : va_W} (hok : tt_ok tt_tk cA Kd pl0) : jj_M l D cA ak yX0_lotsOfSeries (.code yX0_lotsOfSeries cX0_lotsOfSeries 4 (some .int)) 0 0 0 0 ([] ++ pl0) [.ref h0, .int p1] (tt_O (fun rx pl1 r => rx = [] ∧ tt_ok tt_tk cA Kd pl1 ∧ tt_fr Kd [] pl0 pl1 ∧ ((∃ v : Int32, (-2147483648 : Int) ≤ v.toInt ∧ v.toInt ≤ 2147483647 ∧ r = some (.int v))))) (tt_OX (fun _ _ _ => False)) := by
  refine jj_start hl (by decide) jw_495 (jj_le rfl) ?_
  intro p e s m args below meth c A hargs hA C hex hmn
  have hfr := tt_fr.refl (K := Kd) (WS := []) pl0
  have lp1 := tt_lo p1
  have up1 := tt_hi p1
  refine jj_iconst (v := 0) C dX0_lotsOfSeries_0 (by decide) ?_
  refine jj_istore_n C dX0_lotsOfSeries_1 (by decide) rfl ?_
  refine jj_iconst (v := 0) C dX0_lotsOfSeries_2 (by decide) ?_
  refine jj_istore_n C dX0_lotsOfSeries_3 (by decide) rfl ?_
  have hL_1 : ∀ (N : Nat) (pl : va_W) (x_2 : Int32) (x_3 : Int32), True → tt_ok tt_tk cA Kd pl → tt_fr Kd [] pl0 pl → (0 : Int) ≤ x_2.toInt → x_2.toInt ≤ 40 → (-2147483648 : Int) ≤ x_3.toInt → x_3.toInt ≤ 2147483647 → (2147483648 - x_2.toInt ≤ (N : Int)) → jj_J p l e (jj_rm 0 0 0 0) s m args below meth c 4 A (vx_MQ below (jj_q D A (tt_O (fun rx pl1 r => rx = [] ∧ tt_ok tt_tk cA Kd pl1 ∧ tt_fr Kd [] pl0 pl1 ∧ ((∃ v : Int32, (-2147483648 : Int) ≤ v.toInt ∧ v.toInt ≤ 2147483647 ∧ r = some (.int v)))))) (jj_x D A (tt_OX (fun _ _ _ => False))) args s 0 0 A) (jj_X D A ([] ++ pl)) 0 0 4 [(3, .int x_2), (2, .int x_3), (0, .ref h0), (1, .int p1)] [] := by
    intro NL_1
    induction NL_1 with
    | zero => intro pl x_2 x_3 _ hok hfr lx_2 ux_2 lx_3 ux_3 hNL_1; exfalso; omega
    | succ NL_1 ihL_1 =>
      intro pl x_2 x_3 _ hok hfr lx_2 ux_2 lx_3 ux_3 hNL_1
      replace ihL_1 := fun pl x_2 x_3 h1 => ihL_1 pl x_2 x_3 trivial h1
      refine jj_iload_n C dX0_lotsOfSeries_4 rfl ?_
      refine jj_aload_n C dX0_lotsOfSeries_5 rfl ?_
      refine tt_get C hok jk_2 8 (by decide) jw_199 (t := (0, 0, 40)) hk0 (by decide) rfl rfl dX0_lotsOfSeries_6 (fun v_4 hv_4 hf_5 => ?_)
      obtain ⟨x_6, rfl, lx_6, ux_6⟩ := tt_vi hv_4
      refine jj_icmp_ge (tgt := 34) C dX0_lotsOfSeries_9 (by decide) (fun c_7 => ?_) (fun c_7 => ?_)
      · have z_c_7 := jc_le (a := (x_6).toInt) (b := (x_2).toInt) c_7 rfl rfl
        refine jj_iload_n C dX0_lotsOfSeries_34 rfl ?_
        exact jj_iret C ⟨[], pl, rfl, rfl, hok, hfr, ⟨x_3, (by first | omega | exact tt_lo _ | exact tt_hi _), (by first | omega | exact tt_lo _ | exact tt_hi _), rfl⟩⟩ dX0_lotsOfSeries_35 (jj_le rfl) (jj_le rfl)
      · have z_c_7 := jc_nle (a := (x_6).toInt) (b := (x_2).toInt) c_7 rfl rfl
        refine jj_aload_n C dX0_lotsOfSeries_12 rfl ?_
        refine tt_get C hok jk_2 12 (by decide) jw_214 (t := (2, 7, 0)) hk0 (by decide) rfl rfl dX0_lotsOfSeries_13 (fun v_8 hv_8 hf_9 => ?_)
        obtain ⟨a_10, rfl, ka_10⟩ := tt_vr hv_8
        refine jj_iload_n C dX0_lotsOfSeries_16 rfl ?_
        refine tt_aald C hok (t := (2, 3, 0)) ka_10 (by decide) rfl rfl rfl (vp_in_iff.mpr ⟨by omega, by omega⟩) dX0_lotsOfSeries_17 (fun v_11 hv_11 => ?_)
        obtain ⟨a_12, rfl, ka_12⟩ := tt_vr hv_11
        refine tt_get C hok jk_5 1 (by decide) jw_350 (t := (0, (-2147483648), 2147483647)) ka_12 (by decide) rfl rfl dX0_lotsOfSeries_18 (fun v_13 hv_13 hf_14 => ?_)
        obtain ⟨x_15, rfl, lx_15, ux_15⟩ := tt_vi hv_13
        refine jj_iload_n C dX0_lotsOfSeries_21 rfl ?_
        refine jj_icmp_ne (tgt := 28) C dX0_lotsOfSeries_22 (by decide) (fun c_16 => ?_) (fun c_16 => ?_)
        · have z_c_16 := jc_neq (a := (x_15).toInt) (b := (p1).toInt) c_16 rfl rfl
          obtain ⟨x_17, ex_17, vx_17⟩ := tt_inc (x := x_2) (n := 1) (by omega) (by omega)
          refine jj_iinc (v := x_17) C dX0_lotsOfSeries_28 rfl ex_17 (by decide) rfl ?_
          refine jj_goto (tgt := 4) C dX0_lotsOfSeries_31 (by decide) ?_
          exact ihL_1 pl x_17 x_3 hok hfr (by first | omega | decide | exact tt_lo _ | exact tt_hi _) (by first | omega | decide | exact tt_lo _ | exact tt_hi _) (by first | omega | decide | exact tt_lo _ | exact tt_hi _) (by first | omega | decide | exact tt_lo _ | exact tt_hi _) (by first | omega | decide | exact tt_lo _ | exact tt_hi _)
        · have z_c_16 := jc_eq (a := (x_15).toInt) (b := (p1).toInt) c_16 rfl rfl
          obtain ⟨x_18, ex_18⟩ : ∃ z : Int32, x_3 + Int32.ofInt 1 = z := ⟨_, rfl⟩
          refine jj_iinc (v := x_18) C dX0_lotsOfSeries_25 rfl ex_18 (by decide) rfl ?_
          obtain ⟨x_19, ex_19, vx_19⟩ := tt_inc (x := x_2) (n := 1) (by omega) (by omega)
          refine jj_iinc (v := x_19) C dX0_lotsOfSeries_28 rfl ex_19 (by decide) rfl ?_
          refine jj_goto (tgt := 4) C dX0_lotsOfSeries_31 (by decide) ?_
          exact ihL_1 pl x_19 x_18 hok hfr (by first | omega | decide | exact tt_lo _ | exact tt_hi _) (by first | omega | decide | exact tt_lo _ | exact tt_hi _) (by first | omega | decide | exact tt_lo _ | exact tt_hi _) (by first | omega | decide | exact tt_lo _ | exact tt_hi _) (by first | omega | decide | exact tt_lo _ | exact tt_hi _)
  exact hL_1 _ pl0 (0 : Int32) (0 : Int32) trivial hok hfr (by first | omega | decide | exact tt_lo _ | exact tt_hi _) (by first | omega | decide | exact tt_lo _ | exact tt_hi _) (by first | omega | decide | exact tt_lo _ | exact tt_hi _) (by first | omega | decide | exact tt_lo _ | exact tt_hi _) (Int.self_le_toNat _)

set_option maxHeartbeats 4000000 in
set_option maxRecDepth 100000 in
theorem tc_X10_seriesValue_1 {l : Launch} (hl : l.stackTraces = false) (D : va_G) (cA : Nat → ClassId) (ak : (Nat → Nat) × (Nat → Nat)) {Kd : Nat → Nat} (h0 : Nat) (p1 : Int32) (p2 : Int32) (hk0 : Kd h0 = 15) {pl0 : va_W} (hok : tt_ok tt_tk cA Kd pl0) : jj_M l D cA ak yX10_seriesValue (.code yX10_seriesValue cX10_seriesValue 4 (some .long)) 8 124 2 12 ([] ++ pl0) [.ref h0, .int p1, .int p2] (tt_O (fun rx pl1 r => rx = [] ∧ tt_ok tt_tk cA Kd pl1 ∧ tt_fr Kd [] pl0 pl1 ∧ ((∃ v : Int64, r = some (.long v)) ∨ (r = some (.long 0)) ∨ (r = some (.long 1000000))))) (tt_OX (fun E rx pl1 => rx = [] ∧ tt_ok tt_tk cA Kd pl1 ∧ tt_fr Kd [] pl0 pl1 ∧ (E = "java/lang/IllegalArgumentException" ∨ E = "java/lang/IndexOutOfBoundsException"))) := by
  refine jj_start hl (by decide) jw_857 (jj_le rfl) ?_
  intro p e s m args below meth c A hargs hA C hex hmn
  have hfr := tt_fr.refl (K := Kd) (WS := []) pl0
  have lp1 := tt_lo p1
  have up1 := tt_hi p1
  have lp2 := tt_lo p2
  have up2 := tt_hi p2
  refine jj_aload_n C dX10_seriesValue_0 rfl ?_
  refine tt_get C hok jk_11 3 (by decide) jw_2 (t := (2, 1, 0)) hk0 (by decide) rfl rfl dX10_seriesValue_1 (fun v_1 hv_1 hf_2 => ?_)
  obtain ⟨a_3, rfl, ka_3⟩ := tt_vr hv_1
  refine tt_get C hok jk_2 11 (by decide) jw_286 (t := (2, 6, 0)) ka_3 (by decide) rfl rfl dX10_seriesValue_4 (fun v_4 hv_4 hf_5 => ?_)
  obtain ⟨a_6, rfl, ka_6⟩ := tt_vr hv_4
  refine jj_aload_n C dX10_seriesValue_7 rfl ?_
  refine jj_iload_n C dX10_seriesValue_8 rfl ?_
  obtain ⟨qc, gs, hqc⟩ := tt_recv (cx := []) hok hk0 (by decide) rfl
  refine tt_callV (rest := [.ref a_6]) C (tc_X10_placeOf_1 hl D cA ak h0 p1 hk0 hok) [] [] rfl rfl (by decide) (by decide) (by decide) qc hqc rfl rfl jw_287 jw_290 jw_291 jw_52 jw_288 jn_X10_placeOf rfl (jj_le rfl) (jj_le rfl) (jj_le rfl) (jj_le rfl) (jj_le rfl) dX10_seriesValue_9 rfl (fun E rx pl_7 X_11 => ?_) (fun rx pl_7 r O_10 => ?_)
  · obtain ⟨rfl, hok_8, hr_9, hE_12⟩ := X_11
    replace hf_2 := hr_9.at hk0 (by decide) (by decide) hf_2
    replace hf_5 := hr_9.at ka_3 (by decide) (by decide) hf_5
    replace hfr := hfr.trans (hr_9.sub (by decide))
    obtain rfl := hE_12
    exact jj_out C hex ⟨[], pl_7, rfl, rfl, hok_8, hfr, (Or.inr rfl)⟩ (jj_le rfl) (jj_le rfl)
  · obtain ⟨rfl, hok_8, hr_9, hR_13⟩ := O_10
    replace hf_2 := hr_9.at hk0 (by decide) (by decide) hf_2
    replace hf_5 := hr_9.at ka_3 (by decide) (by decide) hf_5
    replace hfr := hfr.trans (hr_9.sub (by decide))
    obtain ⟨x_14, lx_14, ux_14, rfl⟩ := hR_13
    refine tt_aald C hok_8 (t := (2, 2, 0)) ka_6 (by decide) rfl rfl rfl (vp_in_iff.mpr ⟨by omega, by omega⟩) dX10_seriesValue_12 (fun v_15 hv_15 => ?_)
    obtain ⟨a_16, rfl, ka_16⟩ := tt_vr hv_15
    refine jj_astore_n C dX10_seriesValue_13 (by decide) rfl ?_
    refine jj_iload_n C dX10_seriesValue_14 rfl ?_
    rcases jj_em (p2 = 0) with c_17 | c_17
    · refine jj_tableIn (tgt := 60) C dX10_seriesValue_15 (by rw [c_17]; decide) (by rw [c_17]; decide) (by rw [c_17]; rfl) (by decide) ?_
      refine jj_aload_n C dX10_seriesValue_60 rfl ?_
      refine tt_get C hok_8 jk_9 2 (by decide) jw_483 (t := (1, (-9223372036854775808), 9223372036854775807)) ka_16 (by decide) rfl rfl dX10_seriesValue_61 (fun v_18 hv_18 hf_19 => ?_)
      obtain ⟨y_20, rfl, -, -⟩ := tt_vj hv_18
      exact jj_lret C ⟨[], pl_7, rfl, rfl, hok_8, hfr, (Or.inl ⟨y_20, rfl⟩)⟩ dX10_seriesValue_64 (jj_le rfl) (jj_le rfl)
    rcases jj_em (p2 = 1) with c_21 | c_21
    · refine jj_tableIn (tgt := 65) C dX10_seriesValue_15 (by rw [c_21]; decide) (by rw [c_21]; decide) (by rw [c_21]; rfl) (by decide) ?_
      refine jj_aload_n C dX10_seriesValue_65 rfl ?_
      refine tt_get C hok_8 jk_9 3 (by decide) jw_484 (t := (1, (-9223372036854775808), 9223372036854775807)) ka_16 (by decide) rfl rfl dX10_seriesValue_66 (fun v_22 hv_22 hf_23 => ?_)
      obtain ⟨y_24, rfl, -, -⟩ := tt_vj hv_22
      exact jj_lret C ⟨[], pl_7, rfl, rfl, hok_8, hfr, (Or.inl ⟨y_24, rfl⟩)⟩ dX10_seriesValue_69 (jj_le rfl) (jj_le rfl)
    rcases jj_em (p2 = 2) with c_25 | c_25
    · refine jj_tableIn (tgt := 70) C dX10_seriesValue_15 (by rw [c_25]; decide) (by rw [c_25]; decide) (by rw [c_25]; rfl) (by decide) ?_
      refine jj_aload_n C dX10_seriesValue_70 rfl ?_
      refine tt_get C hok_8 jk_9 4 (by decide) jw_299 (t := (1, (-9223372036854775808), 9223372036854775807)) ka_16 (by decide) rfl rfl dX10_seriesValue_71 (fun v_26 hv_26 hf_27 => ?_)
      obtain ⟨y_28, rfl, -, -⟩ := tt_vj hv_26
      exact jj_lret C ⟨[], pl_7, rfl, rfl, hok_8, hfr, (Or.inl ⟨y_28, rfl⟩)⟩ dX10_seriesValue_74 (jj_le rfl) (jj_le rfl)
    rcases jj_em (p2 = 3) with c_29 | c_29
    · refine jj_tableIn (tgt := 75) C dX10_seriesValue_15 (by rw [c_29]; decide) (by rw [c_29]; decide) (by rw [c_29]; rfl) (by decide) ?_
      refine jj_aload_n C dX10_seriesValue_75 rfl ?_
      refine jj_aload_n C dX10_seriesValue_76 rfl ?_
      refine tt_getF C hok_8 jk_11 3 (by decide) jw_2 (t := (2, 1, 0)) hk0 (by decide) rfl rfl hf_2 dX10_seriesValue_77 ?_
      refine tt_get C hok_8 jk_2 3 (by decide) jw_309 (t := (0, (-2147483648), 2147483647)) ka_3 (by decide) rfl rfl dX10_seriesValue_80 (fun v_30 hv_30 hf_31 => ?_)
      obtain ⟨x_32, rfl, lx_32, ux_32⟩ := tt_vi hv_30
      obtain ⟨qc, gs, hqc⟩ := tt_recv (cx := []) hok_8 ka_16 (by decide) rfl
      refine tt_callV (rest := []) C (tc_X8_accruedFee_1 hl D cA ak a_16 x_32 ka_16 hok_8) [] [] rfl rfl (by decide) (by decide) (by decide) qc hqc rfl rfl jw_393 jw_154 jw_155 jw_92 jw_151 jn_X8_accruedFee rfl (jj_le rfl) (jj_le rfl) (jj_le rfl) (jj_le rfl) (jj_le rfl) dX10_seriesValue_83 rfl (fun _ _ _ hX => hX.elim) (fun rx pl_33 r O_36 => ?_)
      obtain ⟨rfl, hok_34, hr_35, hR_38⟩ := O_36
      replace hf_2 := hr_35.at hk0 (by decide) (by decide) hf_2
      replace hf_5 := hr_35.at ka_3 (by decide) (by decide) hf_5
      replace hf_31 := hr_35.at ka_3 (by decide) (by decide) hf_31
      replace hfr := hfr.trans (hr_35.sub (by decide))
      rcases hR_38 with rfl | ⟨y_39, rfl⟩
      · exact jj_lret C ⟨[], pl_33, rfl, rfl, hok_34, hfr, (Or.inl ⟨(0 : Int64), rfl⟩)⟩ dX10_seriesValue_86 (jj_le rfl) (jj_le rfl)
      · exact jj_lret C ⟨[], pl_33, rfl, rfl, hok_34, hfr, (Or.inl ⟨y_39, rfl⟩)⟩ dX10_seriesValue_86 (jj_le rfl) (jj_le rfl)
    rcases jj_em (p2 = 4) with c_40 | c_40
    · refine jj_tableIn (tgt := 87) C dX10_seriesValue_15 (by rw [c_40]; decide) (by rw [c_40]; decide) (by rw [c_40]; rfl) (by decide) ?_
      refine jj_aload_n C dX10_seriesValue_87 rfl ?_
      obtain ⟨qc, gs, hqc⟩ := tt_recv (cx := []) hok_8 ka_16 (by decide) rfl
      refine tt_callV (rest := []) C (tc_X8_grossPrice_1 hl D cA ak a_16 ka_16 hok_8) [] [] rfl rfl (by decide) (by decide) (by decide) qc hqc rfl rfl jw_485 jw_169 jw_170 jw_92 jw_167 jn_X8_grossPrice rfl (jj_le rfl) (jj_le rfl) (jj_le rfl) (jj_le rfl) (jj_le rfl) dX10_seriesValue_88 rfl (fun _ _ _ hX => hX.elim) (fun rx pl_41 r O_44 => ?_)
      obtain ⟨rfl, hok_42, hr_43, hR_46⟩ := O_44
      replace hf_2 := hr_43.at hk0 (by decide) (by decide) hf_2
      replace hf_5 := hr_43.at ka_3 (by decide) (by decide) hf_5
      replace hfr := hfr.trans (hr_43.sub (by decide))
      rcases hR_46 with rfl | ⟨y_47, rfl⟩
      · exact jj_lret C ⟨[], pl_41, rfl, rfl, hok_42, hfr, (Or.inl ⟨(1000000 : Int64), rfl⟩)⟩ dX10_seriesValue_91 (jj_le rfl) (jj_le rfl)
      · exact jj_lret C ⟨[], pl_41, rfl, rfl, hok_42, hfr, (Or.inl ⟨y_47, rfl⟩)⟩ dX10_seriesValue_91 (jj_le rfl) (jj_le rfl)
    rcases jj_em (p2 = 5) with c_48 | c_48
    · refine jj_tableIn (tgt := 92) C dX10_seriesValue_15 (by rw [c_48]; decide) (by rw [c_48]; decide) (by rw [c_48]; rfl) (by decide) ?_
      refine jj_aload_n C dX10_seriesValue_92 rfl ?_
      refine jj_aload_n C dX10_seriesValue_93 rfl ?_
      refine tt_getF C hok_8 jk_11 3 (by decide) jw_2 (t := (2, 1, 0)) hk0 (by decide) rfl rfl hf_2 dX10_seriesValue_94 ?_
      refine tt_get C hok_8 jk_2 3 (by decide) jw_309 (t := (0, (-2147483648), 2147483647)) ka_3 (by decide) rfl rfl dX10_seriesValue_97 (fun v_49 hv_49 hf_50 => ?_)
      obtain ⟨x_51, rfl, lx_51, ux_51⟩ := tt_vi hv_49
      obtain ⟨qc, gs, hqc⟩ := tt_recv (cx := []) hok_8 ka_16 (by decide) rfl
      refine tt_callV (rest := []) C (tc_X8_netPrice_1 hl D cA ak a_16 x_51 ka_16 hok_8) [] [] rfl rfl (by decide) (by decide) (by decide) qc hqc rfl rfl jw_486 jw_490 jw_491 jw_92 jw_487 jn_X8_netPrice rfl (jj_le rfl) (jj_le rfl) (jj_le rfl) (jj_le rfl) (jj_le rfl) dX10_seriesValue_100 rfl (fun _ _ _ hX => hX.elim) (fun rx pl_52 r O_55 => ?_)
      obtain ⟨rfl, hok_53, hr_54, hR_57⟩ := O_55
      replace hf_2 := hr_54.at hk0 (by decide) (by decide) hf_2
      replace hf_5 := hr_54.at ka_3 (by decide) (by decide) hf_5
      replace hf_50 := hr_54.at ka_3 (by decide) (by decide) hf_50
      replace hfr := hfr.trans (hr_54.sub (by decide))
      rcases hR_57 with rfl | ⟨y_58, rfl⟩
      · exact jj_lret C ⟨[], pl_52, rfl, rfl, hok_53, hfr, (Or.inl ⟨(1000000 : Int64), rfl⟩)⟩ dX10_seriesValue_103 (jj_le rfl) (jj_le rfl)
      · exact jj_lret C ⟨[], pl_52, rfl, rfl, hok_53, hfr, (Or.inl ⟨y_58, rfl⟩)⟩ dX10_seriesValue_103 (jj_le rfl) (jj_le rfl)
    rcases jj_em (p2 = 6) with c_59 | c_59
    · refine jj_tableIn (tgt := 104) C dX10_seriesValue_15 (by rw [c_59]; decide) (by rw [c_59]; decide) (by rw [c_59]; rfl) (by decide) ?_
      refine jj_aload_n C dX10_seriesValue_104 rfl ?_
      refine tt_get C hok_8 jk_9 1 (by decide) jw_493 (t := (0, (-2147483648), 2147483647)) ka_16 (by decide) rfl rfl dX10_seriesValue_105 (fun v_60 hv_60 hf_61 => ?_)
      obtain ⟨x_62, rfl, lx_62, ux_62⟩ := tt_vi hv_60
      obtain ⟨y_63, ey_63, vy_63⟩ := tt_i2l x_62
      refine jj_i2l (v := y_63) C dX10_seriesValue_108 ey_63 ?_
      exact jj_lret C ⟨[], pl_7, rfl, rfl, hok_8, hfr, (Or.inl ⟨y_63, rfl⟩)⟩ dX10_seriesValue_109 (jj_le rfl) (jj_le rfl)
    rcases jj_em (p2 = 7) with c_64 | c_64
    · refine jj_tableIn (tgt := 110) C dX10_seriesValue_15 (by rw [c_64]; decide) (by rw [c_64]; decide) (by rw [c_64]; rfl) (by decide) ?_
      refine jj_aload_n C dX10_seriesValue_110 rfl ?_
      refine tt_getF C hok_8 jk_11 3 (by decide) jw_2 (t := (2, 1, 0)) hk0 (by decide) rfl rfl hf_2 dX10_seriesValue_111 ?_
      refine jj_iload_n C dX10_seriesValue_114 rfl ?_
      obtain ⟨qc, gs, hqc⟩ := tt_recv (cx := []) hok_8 ka_3 (by decide) rfl
      refine tt_callV (rest := []) C (tc_X0_lotsOfSeries_1 hl D cA ak a_3 p1 ka_3 hok_8) [] [] rfl rfl (by decide) (by decide) (by decide) qc hqc rfl rfl jw_494 jw_496 jw_497 jw_133 jw_495 jn_X0_lotsOfSeries rfl (jj_le rfl) (jj_le rfl) (jj_le rfl) (jj_le rfl) (jj_le rfl) dX10_seriesValue_115 rfl (fun _ _ _ hX => hX.elim) (fun rx pl_65 r O_68 => ?_)
      obtain ⟨rfl, hok_66, hr_67, hR_70⟩ := O_68
      replace hf_2 := hr_67.at hk0 (by decide) (by decide) hf_2
      replace hf_5 := hr_67.at ka_3 (by decide) (by decide) hf_5
      replace hfr := hfr.trans (hr_67.sub (by decide))
      obtain ⟨x_71, lx_71, ux_71, rfl⟩ := hR_70
      obtain ⟨y_72, ey_72, vy_72⟩ := tt_i2l x_71
      refine jj_i2l (v := y_72) C dX10_seriesValue_118 ey_72 ?_
      exact jj_lret C ⟨[], pl_65, rfl, rfl, hok_66, hfr, (Or.inl ⟨y_72, rfl⟩)⟩ dX10_seriesValue_119 (jj_le rfl) (jj_le rfl)
    refine jj_tableOut (tgt := 120) C dX10_seriesValue_15 (by have zc_17 := lv_neT (a := 0) c_17 (by decide); have zc_21 := lv_neT (a := 1) c_21 (by decide); have zc_25 := lv_neT (a := 2) c_25 (by decide); have zc_29 := lv_neT (a := 3) c_29 (by decide); have zc_40 := lv_neT (a := 4) c_40 (by decide); have zc_48 := lv_neT (a := 5) c_48 (by decide); have zc_59 := lv_neT (a := 6) c_59 (by decide); have zc_64 := lv_neT (a := 7) c_64 (by decide); omega) (by decide) ?_
    exact jj_throwW (k := 45) (text := "no such value") C jt_RX10_75 jw_1 (by decide +kernel) dX10_seriesValue_120 dX10_seriesValue_123 dX10_seriesValue_124 dX10_seriesValue_127 dX10_seriesValue_130 hex (jj_le rfl) (jj_le rfl) (jj_le rfl) (jj_le rfl) ⟨[], pl_7, rfl, rfl, hok_8, hfr, (Or.inl rfl)⟩ (jj_le rfl) (jj_le rfl)

set_option maxHeartbeats 4000000 in
set_option maxRecDepth 100000 in
theorem tc_X0_subscriptionFault_1 {l : Launch} (hl : l.stackTraces = false) (D : va_G) (cA : Nat → ClassId) (ak : (Nat → Nat) × (Nat → Nat)) {Kd : Nat → Nat} (h0 : Nat) (p1 : Int32) (p2 : Int32) (hk0 : Kd h0 = 1) {pl0 : va_W} (hok : tt_ok tt_tk cA Kd pl0) : jj_M l D cA ak yX0_subscriptionFault (.code yX0_subscriptionFault cX0_subscriptionFault 3 (some .int)) 1 21 0 0 ([] ++ pl0) [.ref h0, .int p1, .int p2] (tt_O (fun rx pl1 r => rx = [] ∧ tt_ok tt_tk cA Kd pl1 ∧ tt_fr Kd [] pl0 pl1 ∧ ((r = some (.int 1)) ∨ ((0 : Int) ≤ p1.toInt ∧ p1.toInt ≤ 2147483646 ∧ r = some (.int 2)) ∨ ((0 : Int) ≤ p1.toInt ∧ p1.toInt ≤ 2147483646 ∧ (1 : Int) ≤ p2.toInt ∧ p2.toInt ≤ 9999999 ∧ r = some (.int 0)) ∨ ((0 : Int) ≤ p1.toInt ∧ p1.toInt ≤ 2147483646 ∧ (1 : Int) ≤ p2.toInt ∧ p2.toInt ≤ 9999999 ∧ r = some (.int 3))))) (tt_OX (fun _ _ _ => False)) := by
  refine jj_start hl (by decide) jw_502 (jj_le rfl) ?_
  intro p e s m args below meth c A hargs hA C hex hmn
  have hfr := tt_fr.refl (K := Kd) (WS := []) pl0
  have lp1 := tt_lo p1
  have up1 := tt_hi p1
  have lp2 := tt_lo p2
  have up2 := tt_hi p2
  refine jj_aload_n C dX0_subscriptionFault_0 rfl ?_
  refine jj_iload_n C dX0_subscriptionFault_1 rfl ?_
  obtain ⟨qc, gs, hqc⟩ := tt_recv (cx := []) hok hk0 (by decide) rfl
  refine tt_callV (rest := []) C (tc_X0_hasInvestor_1 hl D cA ak h0 p1 hk0 hok) [] [] rfl rfl (by decide) (by decide) (by decide) qc hqc rfl rfl jw_448 jw_398 jw_399 jw_133 jw_397 jn_X0_hasInvestor rfl (jj_le rfl) (jj_le rfl) (jj_le rfl) (jj_le rfl) (jj_le rfl) dX0_subscriptionFault_2 rfl (fun _ _ _ hX => hX.elim) (fun rx pl_1 r O_4 => ?_)
  obtain ⟨rfl, hok_2, hr_3, hR_6⟩ := O_4
  replace hfr := hfr.trans (hr_3.sub (by decide))
  rcases hR_6 with rfl | ⟨l_7, u_8, rfl⟩
  · refine jj_if_neF (tgt := 10) C dX0_subscriptionFault_5 (by decide) (by decide) ?_
    refine jj_iconst (v := 1) C dX0_subscriptionFault_8 (by decide) ?_
    exact jj_iret C ⟨[], pl_1, rfl, rfl, hok_2, hfr, (Or.inl rfl)⟩ dX0_subscriptionFault_9 (jj_le rfl) (jj_le rfl)
  · refine jj_if_neT (tgt := 10) C dX0_subscriptionFault_5 (by decide) (by decide) ?_
    refine jj_iload_n C dX0_subscriptionFault_10 rfl ?_
    refine jj_iconst (v := 1) C dX0_subscriptionFault_11 (by decide) ?_
    refine jj_icmp_lt (tgt := 21) C dX0_subscriptionFault_12 (by decide) (fun c_9 => ?_) (fun c_9 => ?_)
    · have z_c_9 := jc_lt (a := (p2).toInt) (b := (1)) c_9 rfl (by decide)
      refine jj_iconst (v := 2) C dX0_subscriptionFault_21 (by decide) ?_
      exact jj_iret C ⟨[], pl_1, rfl, rfl, hok_2, hfr, (Or.inr (Or.inl ⟨(by first | omega | exact tt_lo _ | exact tt_hi _), (by first | omega | exact tt_lo _ | exact tt_hi _), rfl⟩))⟩ dX0_subscriptionFault_22 (jj_le rfl) (jj_le rfl)
    · have z_c_9 := jc_nlt (a := (p2).toInt) (b := (1)) c_9 rfl (by decide)
      refine jj_iload_n C dX0_subscriptionFault_15 rfl ?_
      refine jj_ldc (v := 9999999) C dX0_subscriptionFault_16 jw_503 ?_
      refine jj_icmp_le (tgt := 23) C dX0_subscriptionFault_18 (by decide) (fun c_10 => ?_) (fun c_10 => ?_)
      · have z_c_10 := jc_le (a := (p2).toInt) (b := (9999999)) c_10 rfl (by decide)
        refine jj_aload_n C dX0_subscriptionFault_23 rfl ?_
        refine tt_get C hok_2 jk_2 9 (by decide) jw_200 (t := (0, 0, 12)) hk0 (by decide) rfl rfl dX0_subscriptionFault_24 (fun v_11 hv_11 hf_12 => ?_)
        obtain ⟨x_13, rfl, lx_13, ux_13⟩ := tt_vi hv_11
        refine jj_bipush (v := 12) C dX0_subscriptionFault_27 (by decide) ?_
        refine jj_icmp_lt (tgt := 36) C dX0_subscriptionFault_29 (by decide) (fun c_14 => ?_) (fun c_14 => ?_)
        · have z_c_14 := jc_lt (a := (x_13).toInt) (b := (12)) c_14 rfl (by decide)
          refine jj_iconst (v := 0) C dX0_subscriptionFault_36 (by decide) ?_
          exact jj_iret C ⟨[], pl_1, rfl, rfl, hok_2, hfr, (Or.inr (Or.inr (Or.inl ⟨(by first | omega | exact tt_lo _ | exact tt_hi _), (by first | omega | exact tt_lo _ | exact tt_hi _), (by first | omega | exact tt_lo _ | exact tt_hi _), (by first | omega | exact tt_lo _ | exact tt_hi _), rfl⟩)))⟩ dX0_subscriptionFault_37 (jj_le rfl) (jj_le rfl)
        · have z_c_14 := jc_nlt (a := (x_13).toInt) (b := (12)) c_14 rfl (by decide)
          refine jj_iconst (v := 3) C dX0_subscriptionFault_32 (by decide) ?_
          refine jj_goto (tgt := 37) C dX0_subscriptionFault_33 (by decide) ?_
          exact jj_iret C ⟨[], pl_1, rfl, rfl, hok_2, hfr, (Or.inr (Or.inr (Or.inr ⟨(by first | omega | exact tt_lo _ | exact tt_hi _), (by first | omega | exact tt_lo _ | exact tt_hi _), (by first | omega | exact tt_lo _ | exact tt_hi _), (by first | omega | exact tt_lo _ | exact tt_hi _), rfl⟩)))⟩ dX0_subscriptionFault_37 (jj_le rfl) (jj_le rfl)
      · have z_c_10 := jc_nle (a := (p2).toInt) (b := (9999999)) c_10 rfl (by decide)
        refine jj_iconst (v := 2) C dX0_subscriptionFault_21 (by decide) ?_
        exact jj_iret C ⟨[], pl_1, rfl, rfl, hok_2, hfr, (Or.inr (Or.inl ⟨(by first | omega | exact tt_lo _ | exact tt_hi _), (by first | omega | exact tt_lo _ | exact tt_hi _), rfl⟩))⟩ dX0_subscriptionFault_22 (jj_le rfl) (jj_le rfl)

set_option maxHeartbeats 4000000 in
set_option maxRecDepth 100000 in
theorem tc_X0_addRequest_2 {l : Launch} (hl : l.stackTraces = false) (D : va_G) (cA : Nat → ClassId) (ak : (Nat → Nat) × (Nat → Nat)) {Kd : Nat → Nat} (h0 : Nat) (p1 : Int32) (p3 : Int64) (hk0 : Kd h0 = 1) {pl0 : va_W} (hok : tt_ok tt_tk cA Kd pl0) : jj_M l D cA ak yX0_addRequest (.code yX0_addRequest cX0_addRequest 7 (some .int)) 1 21 0 0 ([] ++ pl0) [.ref h0, .int p1, .int 0, .long p3] (tt_O (fun rx pl1 r => rx = [] ∧ tt_ok tt_tk cA Kd pl1 ∧ tt_fr Kd [(1, 9), (4, 0), (4, 1), (4, 2), (4, 3), (4, 4)] pl0 pl1 ∧ ((r = some (.int 11)) ∨ (∃ v : Int32, (0 : Int) ≤ v.toInt ∧ v.toInt ≤ 11 ∧ r = some (.int v))))) (tt_OX (fun _ _ _ => False)) := by
  refine jj_start hl (by decide) jw_462 (jj_le rfl) ?_
  intro p e s m args below meth c A hargs hA C hex hmn
  have hfr := tt_fr.refl (K := Kd) (WS := [(1, 9), (4, 0), (4, 1), (4, 2), (4, 3), (4, 4)]) pl0
  have lp1 := tt_lo p1
  have up1 := tt_hi p1
  refine jj_aload_n C dX0_addRequest_0 rfl ?_
  refine tt_get C hok jk_2 9 (by decide) jw_200 (t := (0, 0, 12)) hk0 (by decide) rfl rfl dX0_addRequest_1 (fun v_1 hv_1 hf_2 => ?_)
  obtain ⟨x_3, rfl, lx_3, ux_3⟩ := tt_vi hv_1
  refine jj_bipush (v := 11) C dX0_addRequest_4 (by decide) ?_
  refine tt_call0S (rest := []) C (ct_J9_min_7cf53_3 hl D cA ak x_3) jw_335 jw_337 jw_144 jw_336 jn_J9_min_7cf53 rfl (jj_le rfl) (jj_le rfl) (jj_le rfl) (jj_le rfl) (jj_le rfl) dX0_addRequest_6 rfl (fun w1 r O_4 => ?_)
  rcases O_4 with ⟨c_5, -, rfl⟩ | ⟨c_6, -, rfl⟩
  · have z_c_5 := jc_lt (a := (11)) (b := (x_3).toInt) c_5 (by decide) rfl
    refine jj_istore C dX0_addRequest_9 (by decide) rfl ?_
    refine jj_aload_n C dX0_addRequest_11 rfl ?_
    refine tt_get C hok jk_2 13 (by decide) jw_202 (t := (2, 8, 0)) hk0 (by decide) rfl rfl dX0_addRequest_12 (fun v_7 hv_7 hf_8 => ?_)
    obtain ⟨a_9, rfl, ka_9⟩ := tt_vr hv_7
    refine jj_iload C dX0_addRequest_15 rfl ?_
    refine tt_aald C hok (t := (2, 4, 0)) ka_9 (by decide) rfl rfl rfl (vp_in_iff.mpr (by decide)) dX0_addRequest_17 (fun v_10 hv_10 => ?_)
    obtain ⟨a_11, rfl, ka_11⟩ := tt_vr hv_10
    refine jj_astore C dX0_addRequest_18 (by decide) rfl ?_
    refine jj_aload C dX0_addRequest_20 rfl ?_
    refine jj_iload_n C dX0_addRequest_22 rfl ?_
    refine tt_put C hok jk_7 0 (by decide) jw_453 (t := (0, (-2147483648), 2147483647)) ka_11 (by decide) rfl rfl rfl (tt_ia p1) rfl rfl dX0_addRequest_23 (fun pl_12 hok_13 tr hn => ?_)
    replace hf_2 := tr _ _ _ (Or.inl (tt_ne hk0 ka_11 (by decide))) hf_2
    replace hf_8 := tr _ _ _ (Or.inl (tt_ne hk0 ka_11 (by decide))) hf_8
    have hf_14 := hn
    replace hfr := hfr.put ka_11 tr (by decide)
    refine jj_aload C dX0_addRequest_26 rfl ?_
    refine jj_iload_n C dX0_addRequest_28 rfl ?_
    refine tt_put C hok_13 jk_7 2 (by decide) jw_452 (t := (0, 0, 1)) ka_11 (by decide) rfl rfl rfl (tt_iv (by decide) (by decide)) rfl rfl dX0_addRequest_29 (fun pl_15 hok_16 tr hn => ?_)
    replace hf_2 := tr _ _ _ (Or.inl (tt_ne hk0 ka_11 (by decide))) hf_2
    replace hf_8 := tr _ _ _ (Or.inl (tt_ne hk0 ka_11 (by decide))) hf_8
    replace hf_14 := tr _ _ _ (Or.inr (by decide)) hf_14
    have hf_17 := hn
    replace hfr := hfr.put ka_11 tr (by decide)
    refine jj_aload C dX0_addRequest_32 rfl ?_
    refine jj_lload_n C dX0_addRequest_34 rfl ?_
    refine tt_put C hok_16 jk_7 3 (by decide) jw_282 (t := (1, (-9223372036854775808), 9223372036854775807)) ka_11 (by decide) rfl rfl rfl (tt_ja p3) rfl rfl dX0_addRequest_35 (fun pl_18 hok_19 tr hn => ?_)
    replace hf_2 := tr _ _ _ (Or.inl (tt_ne hk0 ka_11 (by decide))) hf_2
    replace hf_8 := tr _ _ _ (Or.inl (tt_ne hk0 ka_11 (by decide))) hf_8
    replace hf_14 := tr _ _ _ (Or.inr (by decide)) hf_14
    replace hf_17 := tr _ _ _ (Or.inr (by decide)) hf_17
    have hf_20 := hn
    replace hfr := hfr.put ka_11 tr (by decide)
    refine jj_aload C dX0_addRequest_38 rfl ?_
    refine jj_lconst (v := 0) C dX0_addRequest_40 (by decide) ?_
    refine tt_put C hok_19 jk_7 4 (by decide) jw_463 (t := (1, (-9223372036854775808), 9223372036854775807)) ka_11 (by decide) rfl rfl rfl (tt_ja (0 : Int64)) rfl rfl dX0_addRequest_41 (fun pl_21 hok_22 tr hn => ?_)
    replace hf_2 := tr _ _ _ (Or.inl (tt_ne hk0 ka_11 (by decide))) hf_2
    replace hf_8 := tr _ _ _ (Or.inl (tt_ne hk0 ka_11 (by decide))) hf_8
    replace hf_14 := tr _ _ _ (Or.inr (by decide)) hf_14
    replace hf_17 := tr _ _ _ (Or.inr (by decide)) hf_17
    replace hf_20 := tr _ _ _ (Or.inr (by decide)) hf_20
    have hf_23 := hn
    replace hfr := hfr.put ka_11 tr (by decide)
    refine jj_aload C dX0_addRequest_44 rfl ?_
    refine jj_aload_n C dX0_addRequest_46 rfl ?_
    refine tt_get C hok_22 jk_2 5 (by decide) jw_197 (t := (0, (-2147483648), 2147483647)) hk0 (by decide) rfl rfl dX0_addRequest_47 (fun v_24 hv_24 hf_25 => ?_)
    obtain ⟨x_26, rfl, lx_26, ux_26⟩ := tt_vi hv_24
    refine tt_put C hok_22 jk_7 1 (by decide) jw_464 (t := (0, (-2147483648), 2147483647)) ka_11 (by decide) rfl rfl rfl (tt_ia x_26) rfl rfl dX0_addRequest_50 (fun pl_27 hok_28 tr hn => ?_)
    replace hf_2 := tr _ _ _ (Or.inl (tt_ne hk0 ka_11 (by decide))) hf_2
    replace hf_8 := tr _ _ _ (Or.inl (tt_ne hk0 ka_11 (by decide))) hf_8
    replace hf_14 := tr _ _ _ (Or.inr (by decide)) hf_14
    replace hf_17 := tr _ _ _ (Or.inr (by decide)) hf_17
    replace hf_20 := tr _ _ _ (Or.inr (by decide)) hf_20
    replace hf_23 := tr _ _ _ (Or.inr (by decide)) hf_23
    replace hf_25 := tr _ _ _ (Or.inl (tt_ne hk0 ka_11 (by decide))) hf_25
    have hf_29 := hn
    replace hfr := hfr.put ka_11 tr (by decide)
    refine jj_aload_n C dX0_addRequest_53 rfl ?_
    refine jj_iload C dX0_addRequest_54 rfl ?_
    refine jj_iconst (v := 1) C dX0_addRequest_56 (by decide) ?_
    refine jj_iadd (v := 12) C dX0_addRequest_57 (by decide) ?_
    refine tt_put C hok_28 jk_2 9 (by decide) jw_200 (t := (0, 0, 12)) hk0 (by decide) rfl rfl rfl (tt_iv (by decide) (by decide)) rfl rfl dX0_addRequest_58 (fun pl_30 hok_31 tr hn => ?_)
    replace hf_8 := tr _ _ _ (Or.inr (by decide)) hf_8
    replace hf_14 := tr _ _ _ (Or.inl (tt_ne ka_11 hk0 (by decide))) hf_14
    replace hf_17 := tr _ _ _ (Or.inl (tt_ne ka_11 hk0 (by decide))) hf_17
    replace hf_20 := tr _ _ _ (Or.inl (tt_ne ka_11 hk0 (by decide))) hf_20
    replace hf_23 := tr _ _ _ (Or.inl (tt_ne ka_11 hk0 (by decide))) hf_23
    replace hf_25 := tr _ _ _ (Or.inr (by decide)) hf_25
    replace hf_29 := tr _ _ _ (Or.inl (tt_ne ka_11 hk0 (by decide))) hf_29
    have hf_32 := hn
    replace hfr := hfr.put hk0 tr (by decide)
    refine jj_iload C dX0_addRequest_61 rfl ?_
    exact jj_iret C ⟨[], pl_30, rfl, rfl, hok_31, hfr, (Or.inl rfl)⟩ dX0_addRequest_63 (jj_le rfl) (jj_le rfl)
  · have z_c_6 := jc_nlt (a := (11)) (b := (x_3).toInt) c_6 (by decide) rfl
    refine jj_istore C dX0_addRequest_9 (by decide) rfl ?_
    refine jj_aload_n C dX0_addRequest_11 rfl ?_
    refine tt_get C hok jk_2 13 (by decide) jw_202 (t := (2, 8, 0)) hk0 (by decide) rfl rfl dX0_addRequest_12 (fun v_33 hv_33 hf_34 => ?_)
    obtain ⟨a_35, rfl, ka_35⟩ := tt_vr hv_33
    refine jj_iload C dX0_addRequest_15 rfl ?_
    refine tt_aald C hok (t := (2, 4, 0)) ka_35 (by decide) rfl rfl rfl (vp_in_iff.mpr ⟨by omega, by omega⟩) dX0_addRequest_17 (fun v_36 hv_36 => ?_)
    obtain ⟨a_37, rfl, ka_37⟩ := tt_vr hv_36
    refine jj_astore C dX0_addRequest_18 (by decide) rfl ?_
    refine jj_aload C dX0_addRequest_20 rfl ?_
    refine jj_iload_n C dX0_addRequest_22 rfl ?_
    refine tt_put C hok jk_7 0 (by decide) jw_453 (t := (0, (-2147483648), 2147483647)) ka_37 (by decide) rfl rfl rfl (tt_ia p1) rfl rfl dX0_addRequest_23 (fun pl_38 hok_39 tr hn => ?_)
    replace hf_2 := tr _ _ _ (Or.inl (tt_ne hk0 ka_37 (by decide))) hf_2
    replace hf_34 := tr _ _ _ (Or.inl (tt_ne hk0 ka_37 (by decide))) hf_34
    have hf_40 := hn
    replace hfr := hfr.put ka_37 tr (by decide)
    refine jj_aload C dX0_addRequest_26 rfl ?_
    refine jj_iload_n C dX0_addRequest_28 rfl ?_
    refine tt_put C hok_39 jk_7 2 (by decide) jw_452 (t := (0, 0, 1)) ka_37 (by decide) rfl rfl rfl (tt_iv (by decide) (by decide)) rfl rfl dX0_addRequest_29 (fun pl_41 hok_42 tr hn => ?_)
    replace hf_2 := tr _ _ _ (Or.inl (tt_ne hk0 ka_37 (by decide))) hf_2
    replace hf_34 := tr _ _ _ (Or.inl (tt_ne hk0 ka_37 (by decide))) hf_34
    replace hf_40 := tr _ _ _ (Or.inr (by decide)) hf_40
    have hf_43 := hn
    replace hfr := hfr.put ka_37 tr (by decide)
    refine jj_aload C dX0_addRequest_32 rfl ?_
    refine jj_lload_n C dX0_addRequest_34 rfl ?_
    refine tt_put C hok_42 jk_7 3 (by decide) jw_282 (t := (1, (-9223372036854775808), 9223372036854775807)) ka_37 (by decide) rfl rfl rfl (tt_ja p3) rfl rfl dX0_addRequest_35 (fun pl_44 hok_45 tr hn => ?_)
    replace hf_2 := tr _ _ _ (Or.inl (tt_ne hk0 ka_37 (by decide))) hf_2
    replace hf_34 := tr _ _ _ (Or.inl (tt_ne hk0 ka_37 (by decide))) hf_34
    replace hf_40 := tr _ _ _ (Or.inr (by decide)) hf_40
    replace hf_43 := tr _ _ _ (Or.inr (by decide)) hf_43
    have hf_46 := hn
    replace hfr := hfr.put ka_37 tr (by decide)
    refine jj_aload C dX0_addRequest_38 rfl ?_
    refine jj_lconst (v := 0) C dX0_addRequest_40 (by decide) ?_
    refine tt_put C hok_45 jk_7 4 (by decide) jw_463 (t := (1, (-9223372036854775808), 9223372036854775807)) ka_37 (by decide) rfl rfl rfl (tt_ja (0 : Int64)) rfl rfl dX0_addRequest_41 (fun pl_47 hok_48 tr hn => ?_)
    replace hf_2 := tr _ _ _ (Or.inl (tt_ne hk0 ka_37 (by decide))) hf_2
    replace hf_34 := tr _ _ _ (Or.inl (tt_ne hk0 ka_37 (by decide))) hf_34
    replace hf_40 := tr _ _ _ (Or.inr (by decide)) hf_40
    replace hf_43 := tr _ _ _ (Or.inr (by decide)) hf_43
    replace hf_46 := tr _ _ _ (Or.inr (by decide)) hf_46
    have hf_49 := hn
    replace hfr := hfr.put ka_37 tr (by decide)
    refine jj_aload C dX0_addRequest_44 rfl ?_
    refine jj_aload_n C dX0_addRequest_46 rfl ?_
    refine tt_get C hok_48 jk_2 5 (by decide) jw_197 (t := (0, (-2147483648), 2147483647)) hk0 (by decide) rfl rfl dX0_addRequest_47 (fun v_50 hv_50 hf_51 => ?_)
    obtain ⟨x_52, rfl, lx_52, ux_52⟩ := tt_vi hv_50
    refine tt_put C hok_48 jk_7 1 (by decide) jw_464 (t := (0, (-2147483648), 2147483647)) ka_37 (by decide) rfl rfl rfl (tt_ia x_52) rfl rfl dX0_addRequest_50 (fun pl_53 hok_54 tr hn => ?_)
    replace hf_2 := tr _ _ _ (Or.inl (tt_ne hk0 ka_37 (by decide))) hf_2
    replace hf_34 := tr _ _ _ (Or.inl (tt_ne hk0 ka_37 (by decide))) hf_34
    replace hf_40 := tr _ _ _ (Or.inr (by decide)) hf_40
    replace hf_43 := tr _ _ _ (Or.inr (by decide)) hf_43
    replace hf_46 := tr _ _ _ (Or.inr (by decide)) hf_46
    replace hf_49 := tr _ _ _ (Or.inr (by decide)) hf_49
    replace hf_51 := tr _ _ _ (Or.inl (tt_ne hk0 ka_37 (by decide))) hf_51
    have hf_55 := hn
    replace hfr := hfr.put ka_37 tr (by decide)
    refine jj_aload_n C dX0_addRequest_53 rfl ?_
    refine jj_iload C dX0_addRequest_54 rfl ?_
    refine jj_iconst (v := 1) C dX0_addRequest_56 (by decide) ?_
    obtain ⟨x_56, ex_56, vx_56⟩ := tt_iadd (x := x_3) (y := (1 : Int32)) (a := x_3.toInt) rfl (b := 1) (by decide) (by omega) (by omega)
    refine jj_iadd (v := x_56) C dX0_addRequest_57 ex_56 ?_
    refine tt_put C hok_54 jk_2 9 (by decide) jw_200 (t := (0, 0, 12)) hk0 (by decide) rfl rfl rfl (tt_iv (by omega) (by omega)) rfl rfl dX0_addRequest_58 (fun pl_57 hok_58 tr hn => ?_)
    replace hf_34 := tr _ _ _ (Or.inr (by decide)) hf_34
    replace hf_40 := tr _ _ _ (Or.inl (tt_ne ka_37 hk0 (by decide))) hf_40
    replace hf_43 := tr _ _ _ (Or.inl (tt_ne ka_37 hk0 (by decide))) hf_43
    replace hf_46 := tr _ _ _ (Or.inl (tt_ne ka_37 hk0 (by decide))) hf_46
    replace hf_49 := tr _ _ _ (Or.inl (tt_ne ka_37 hk0 (by decide))) hf_49
    replace hf_51 := tr _ _ _ (Or.inr (by decide)) hf_51
    replace hf_55 := tr _ _ _ (Or.inl (tt_ne ka_37 hk0 (by decide))) hf_55
    have hf_59 := hn
    replace hfr := hfr.put hk0 tr (by decide)
    refine jj_iload C dX0_addRequest_61 rfl ?_
    exact jj_iret C ⟨[], pl_57, rfl, rfl, hok_58, hfr, (Or.inr ⟨x_3, (by first | omega | exact tt_lo _ | exact tt_hi _), (by first | omega | exact tt_lo _ | exact tt_hi _), rfl⟩)⟩ dX0_addRequest_63 (jj_le rfl) (jj_le rfl)

set_option maxHeartbeats 4000000 in
set_option maxRecDepth 100000 in
theorem tc_X0_splitsLot_1 {l : Launch} (hl : l.stackTraces = false) (D : va_G) (cA : Nat → ClassId) (ak : (Nat → Nat) × (Nat → Nat)) {Kd : Nat → Nat} (h0 : Nat) (p1 : Int32) (p2 : Int64) (hk0 : Kd h0 = 1) {pl0 : va_W} (hok : tt_ok tt_tk cA Kd pl0) : jj_M l D cA ak yX0_splitsLot (.code yX0_splitsLot cX0_splitsLot 7 (some .boolean)) 0 0 0 0 ([] ++ pl0) [.ref h0, .int p1, .long p2] (tt_O (fun rx pl1 r => rx = [] ∧ tt_ok tt_tk cA Kd pl1 ∧ tt_fr Kd [] pl0 pl1 ∧ ((r = some (.int 0)) ∨ (r = some (.int 1))))) (tt_OX (fun _ _ _ => False)) := by
  refine jj_start hl (by decide) jw_510 (jj_le rfl) ?_
  intro p e s m args below meth c A hargs hA C hex hmn
  have hfr := tt_fr.refl (K := Kd) (WS := []) pl0
  have lp1 := tt_lo p1
  have up1 := tt_hi p1
  refine jj_lload_n C dX0_splitsLot_0 rfl ?_
  refine jj_lstore C dX0_splitsLot_1 (by decide) rfl ?_
  refine jj_iconst (v := 0) C dX0_splitsLot_3 (by decide) ?_
  refine jj_istore C dX0_splitsLot_4 (by decide) rfl ?_
  have hL_1 : ∀ (N : Nat) (pl : va_W) (x_2 : Int32) (y_3 : Int64), True → tt_ok tt_tk cA Kd pl → tt_fr Kd [] pl0 pl → (0 : Int) ≤ x_2.toInt → x_2.toInt ≤ 40 → (2147483648 - x_2.toInt ≤ (N : Int)) → jj_J p l e (jj_rm 0 0 0 0) s m args below meth c 7 A (vx_MQ below (jj_q D A (tt_O (fun rx pl1 r => rx = [] ∧ tt_ok tt_tk cA Kd pl1 ∧ tt_fr Kd [] pl0 pl1 ∧ ((r = some (.int 0)) ∨ (r = some (.int 1)))))) (jj_x D A (tt_OX (fun _ _ _ => False))) args s 0 0 A) (jj_X D A ([] ++ pl)) 0 0 6 [(6, .int x_2), (4, .long y_3), (0, .ref h0), (1, .int p1), (2, .long p2)] [] := by
    intro NL_1
    induction NL_1 with
    | zero => intro pl x_2 y_3 _ hok hfr lx_2 ux_2 hNL_1; exfalso; omega
    | succ NL_1 ihL_1 =>
      intro pl x_2 y_3 _ hok hfr lx_2 ux_2 hNL_1
      replace ihL_1 := fun pl x_2 y_3 h1 => ihL_1 pl x_2 y_3 trivial h1
      refine jj_iload C dX0_splitsLot_6 rfl ?_
      refine jj_aload_n C dX0_splitsLot_8 rfl ?_
      refine tt_get C hok jk_2 8 (by decide) jw_199 (t := (0, 0, 40)) hk0 (by decide) rfl rfl dX0_splitsLot_9 (fun v_4 hv_4 hf_5 => ?_)
      obtain ⟨x_6, rfl, lx_6, ux_6⟩ := tt_vi hv_4
      refine jj_icmp_ge (tgt := 57) C dX0_splitsLot_12 (by decide) (fun c_7 => ?_) (fun c_7 => ?_)
      · have z_c_7 := jc_le (a := (x_6).toInt) (b := (x_2).toInt) c_7 rfl rfl
        refine jj_lload C dX0_splitsLot_57 rfl ?_
        refine jj_lconst (v := 0) C dX0_splitsLot_59 (by decide) ?_
        refine jj_lcmp_ge (tgt := 68) C dX0_splitsLot_60 dX0_splitsLot_61 (by decide) (fun c_8 => ?_) (fun c_8 => ?_)
        · refine jj_iconst (v := 0) C dX0_splitsLot_68 (by decide) ?_
          exact jj_zret C rfl ⟨[], pl, rfl, rfl, hok, hfr, (Or.inl rfl)⟩ dX0_splitsLot_69 (jj_le rfl) (jj_le rfl)
        · refine jj_iconst (v := 1) C dX0_splitsLot_64 (by decide) ?_
          refine jj_goto (tgt := 69) C dX0_splitsLot_65 (by decide) ?_
          exact jj_zret C rfl ⟨[], pl, rfl, rfl, hok, hfr, (Or.inr rfl)⟩ dX0_splitsLot_69 (jj_le rfl) (jj_le rfl)
      · have z_c_7 := jc_nle (a := (x_6).toInt) (b := (x_2).toInt) c_7 rfl rfl
        refine jj_lload C dX0_splitsLot_15 rfl ?_
        refine jj_lconst (v := 0) C dX0_splitsLot_17 (by decide) ?_
        refine jj_lcmp_le (tgt := 57) C dX0_splitsLot_18 dX0_splitsLot_19 (by decide) (fun c_9 => ?_) (fun c_9 => ?_)
        · refine jj_lload C dX0_splitsLot_57 rfl ?_
          refine jj_lconst (v := 0) C dX0_splitsLot_59 (by decide) ?_
          refine jj_lcmp_ge (tgt := 68) C dX0_splitsLot_60 dX0_splitsLot_61 (by decide) (fun c_10 => ?_) (fun c_10 => ?_)
          · refine jj_iconst (v := 0) C dX0_splitsLot_68 (by decide) ?_
            exact jj_zret C rfl ⟨[], pl, rfl, rfl, hok, hfr, (Or.inl rfl)⟩ dX0_splitsLot_69 (jj_le rfl) (jj_le rfl)
          · refine jj_iconst (v := 1) C dX0_splitsLot_64 (by decide) ?_
            refine jj_goto (tgt := 69) C dX0_splitsLot_65 (by decide) ?_
            exact jj_zret C rfl ⟨[], pl, rfl, rfl, hok, hfr, (Or.inr rfl)⟩ dX0_splitsLot_69 (jj_le rfl) (jj_le rfl)
        · refine jj_aload_n C dX0_splitsLot_22 rfl ?_
          refine tt_get C hok jk_2 12 (by decide) jw_214 (t := (2, 7, 0)) hk0 (by decide) rfl rfl dX0_splitsLot_23 (fun v_11 hv_11 hf_12 => ?_)
          obtain ⟨a_13, rfl, ka_13⟩ := tt_vr hv_11
          refine jj_iload C dX0_splitsLot_26 rfl ?_
          refine tt_aald C hok (t := (2, 3, 0)) ka_13 (by decide) rfl rfl rfl (vp_in_iff.mpr ⟨by omega, by omega⟩) dX0_splitsLot_28 (fun v_14 hv_14 => ?_)
          obtain ⟨a_15, rfl, ka_15⟩ := tt_vr hv_14
          refine tt_get C hok jk_5 0 (by decide) jw_249 (t := (0, (-2147483648), 2147483647)) ka_15 (by decide) rfl rfl dX0_splitsLot_29 (fun v_16 hv_16 hf_17 => ?_)
          obtain ⟨x_18, rfl, lx_18, ux_18⟩ := tt_vi hv_16
          refine jj_iload_n C dX0_splitsLot_32 rfl ?_
          refine jj_icmp_ne (tgt := 51) C dX0_splitsLot_33 (by decide) (fun c_19 => ?_) (fun c_19 => ?_)
          · have z_c_19 := jc_neq (a := (x_18).toInt) (b := (p1).toInt) c_19 rfl rfl
            obtain ⟨x_20, ex_20, vx_20⟩ := tt_inc (x := x_2) (n := 1) (by omega) (by omega)
            refine jj_iinc (v := x_20) C dX0_splitsLot_51 rfl ex_20 (by decide) rfl ?_
            refine jj_goto (tgt := 6) C dX0_splitsLot_54 (by decide) ?_
            exact ihL_1 pl x_20 y_3 hok hfr (by first | omega | decide | exact tt_lo _ | exact tt_hi _) (by first | omega | decide | exact tt_lo _ | exact tt_hi _) (by first | omega | decide | exact tt_lo _ | exact tt_hi _)
          · have z_c_19 := jc_eq (a := (x_18).toInt) (b := (p1).toInt) c_19 rfl rfl
            refine jj_lload C dX0_splitsLot_36 rfl ?_
            refine jj_aload_n C dX0_splitsLot_38 rfl ?_
            refine tt_getF C hok jk_2 12 (by decide) jw_214 (t := (2, 7, 0)) hk0 (by decide) rfl rfl hf_12 dX0_splitsLot_39 ?_
            refine jj_iload C dX0_splitsLot_42 rfl ?_
            refine tt_aald C hok (t := (2, 3, 0)) ka_13 (by decide) rfl rfl rfl (vp_in_iff.mpr ⟨by omega, by omega⟩) dX0_splitsLot_44 (fun v_21 hv_21 => ?_)
            obtain ⟨a_22, rfl, ka_22⟩ := tt_vr hv_21
            refine tt_get C hok jk_5 3 (by decide) jw_250 (t := (1, (-9223372036854775808), 9223372036854775807)) ka_22 (by decide) rfl rfl dX0_splitsLot_45 (fun v_23 hv_23 hf_24 => ?_)
            obtain ⟨y_25, rfl, -, -⟩ := tt_vj hv_23
            obtain ⟨y_26, ey_26⟩ : ∃ z : Int64, y_3 - y_25 = z := ⟨_, rfl⟩
            refine jj_lsub (v := y_26) C dX0_splitsLot_48 ey_26 ?_
            refine jj_lstore C dX0_splitsLot_49 (by decide) rfl ?_
            obtain ⟨x_27, ex_27, vx_27⟩ := tt_inc (x := x_2) (n := 1) (by omega) (by omega)
            refine jj_iinc (v := x_27) C dX0_splitsLot_51 rfl ex_27 (by decide) rfl ?_
            refine jj_goto (tgt := 6) C dX0_splitsLot_54 (by decide) ?_
            exact ihL_1 pl x_27 y_26 hok hfr (by first | omega | decide | exact tt_lo _ | exact tt_hi _) (by first | omega | decide | exact tt_lo _ | exact tt_hi _) (by first | omega | decide | exact tt_lo _ | exact tt_hi _)
  exact hL_1 _ pl0 (0 : Int32) p2 trivial hok hfr (by first | omega | decide | exact tt_lo _ | exact tt_hi _) (by first | omega | decide | exact tt_lo _ | exact tt_hi _) (Int.self_le_toNat _)

set_option maxHeartbeats 4000000 in
set_option maxRecDepth 100000 in
theorem tc_X0_transferFault_1 {l : Launch} (hl : l.stackTraces = false) (D : va_G) (cA : Nat → ClassId) (ak : (Nat → Nat) × (Nat → Nat)) {Kd : Nat → Nat} (h0 : Nat) (p1 : Int32) (p2 : Int32) (p3 : Int32) (hk0 : Kd h0 = 1) {pl0 : va_W} (hok : tt_ok tt_tk cA Kd pl0) : jj_M l D cA ak yX0_transferFault (.code yX0_transferFault cX0_transferFault 4 (some .int)) 1 26 0 0 ([] ++ pl0) [.ref h0, .int p1, .int p2, .int p3] (tt_O (fun rx pl1 r => rx = [] ∧ tt_ok tt_tk cA Kd pl1 ∧ tt_fr Kd [] pl0 pl1 ∧ ((r = some (.int 1)) ∨ ((0 : Int) ≤ p1.toInt ∧ p1.toInt ≤ 2147483646 ∧ (0 : Int) ≤ p2.toInt ∧ p2.toInt ≤ 2147483646 ∧ r = some (.int 2)) ∨ ((0 : Int) ≤ p1.toInt ∧ p1.toInt ≤ 2147483646 ∧ (0 : Int) ≤ p2.toInt ∧ p2.toInt ≤ 2147483646 ∧ (1 : Int) ≤ p3.toInt ∧ p3.toInt ≤ 99999999 ∧ r = some (.int 0)) ∨ ((0 : Int) ≤ p1.toInt ∧ p1.toInt ≤ 2147483646 ∧ (0 : Int) ≤ p2.toInt ∧ p2.toInt ≤ 2147483646 ∧ (1 : Int) ≤ p3.toInt ∧ p3.toInt ≤ 99999999 ∧ r = some (.int 3))))) (tt_OX (fun _ _ _ => False)) := by
  refine jj_start hl (by decide) jw_508 (jj_le rfl) ?_
  intro p e s m args below meth c A hargs hA C hex hmn
  have hfr := tt_fr.refl (K := Kd) (WS := []) pl0
  have lp1 := tt_lo p1
  have up1 := tt_hi p1
  have lp2 := tt_lo p2
  have up2 := tt_hi p2
  have lp3 := tt_lo p3
  have up3 := tt_hi p3
  refine jj_aload_n C dX0_transferFault_0 rfl ?_
  refine jj_iload_n C dX0_transferFault_1 rfl ?_
  obtain ⟨qc, gs, hqc⟩ := tt_recv (cx := []) hok hk0 (by decide) rfl
  refine tt_callV (rest := []) C (tc_X0_hasInvestor_1 hl D cA ak h0 p1 hk0 hok) [] [] rfl rfl (by decide) (by decide) (by decide) qc hqc rfl rfl jw_448 jw_398 jw_399 jw_133 jw_397 jn_X0_hasInvestor rfl (jj_le rfl) (jj_le rfl) (jj_le rfl) (jj_le rfl) (jj_le rfl) dX0_transferFault_2 rfl (fun _ _ _ hX => hX.elim) (fun rx pl_1 r O_4 => ?_)
  obtain ⟨rfl, hok_2, hr_3, hR_6⟩ := O_4
  replace hfr := hfr.trans (hr_3.sub (by decide))
  rcases hR_6 with rfl | ⟨l_7, u_8, rfl⟩
  · refine jj_if_eqT (tgt := 16) C dX0_transferFault_5 (by decide) (by decide) ?_
    refine jj_iconst (v := 1) C dX0_transferFault_16 (by decide) ?_
    exact jj_iret C ⟨[], pl_1, rfl, rfl, hok_2, hfr, (Or.inl rfl)⟩ dX0_transferFault_17 (jj_le rfl) (jj_le rfl)
  · refine jj_if_eqF (tgt := 16) C dX0_transferFault_5 (by decide) (by decide) ?_
    refine jj_aload_n C dX0_transferFault_8 rfl ?_
    refine jj_iload_n C dX0_transferFault_9 rfl ?_
    obtain ⟨qc, gs, hqc⟩ := tt_recv (cx := []) hok_2 hk0 (by decide) rfl
    refine tt_callV (rest := []) C (tc_X0_hasInvestor_1 hl D cA ak h0 p2 hk0 hok_2) [] [] rfl rfl (by decide) (by decide) (by decide) qc hqc rfl rfl jw_448 jw_398 jw_399 jw_133 jw_397 jn_X0_hasInvestor rfl (jj_le rfl) (jj_le rfl) (jj_le rfl) (jj_le rfl) (jj_le rfl) dX0_transferFault_10 rfl (fun _ _ _ hX => hX.elim) (fun rx pl_9 r O_12 => ?_)
    obtain ⟨rfl, hok_10, hr_11, hR_14⟩ := O_12
    replace hfr := hfr.trans (hr_11.sub (by decide))
    rcases hR_14 with rfl | ⟨l_15, u_16, rfl⟩
    · refine jj_if_neF (tgt := 18) C dX0_transferFault_13 (by decide) (by decide) ?_
      refine jj_iconst (v := 1) C dX0_transferFault_16 (by decide) ?_
      exact jj_iret C ⟨[], pl_9, rfl, rfl, hok_10, hfr, (Or.inl rfl)⟩ dX0_transferFault_17 (jj_le rfl) (jj_le rfl)
    · refine jj_if_neT (tgt := 18) C dX0_transferFault_13 (by decide) (by decide) ?_
      refine jj_iload_n C dX0_transferFault_18 rfl ?_
      refine jj_iload_n C dX0_transferFault_19 rfl ?_
      refine jj_icmp_eq (tgt := 34) C dX0_transferFault_20 (by decide) (fun c_17 => ?_) (fun c_17 => ?_)
      · have z_c_17 := jc_eq (a := (p1).toInt) (b := (p2).toInt) c_17 rfl rfl
        refine jj_iconst (v := 2) C dX0_transferFault_34 (by decide) ?_
        exact jj_iret C ⟨[], pl_9, rfl, rfl, hok_10, hfr, (Or.inr (Or.inl ⟨(by first | omega | exact tt_lo _ | exact tt_hi _), (by first | omega | exact tt_lo _ | exact tt_hi _), (by first | omega | exact tt_lo _ | exact tt_hi _), (by first | omega | exact tt_lo _ | exact tt_hi _), rfl⟩))⟩ dX0_transferFault_35 (jj_le rfl) (jj_le rfl)
      · have z_c_17 := jc_neq (a := (p1).toInt) (b := (p2).toInt) c_17 rfl rfl
        refine jj_iload_n C dX0_transferFault_23 rfl ?_
        refine jj_iconst (v := 1) C dX0_transferFault_24 (by decide) ?_
        refine jj_icmp_lt (tgt := 34) C dX0_transferFault_25 (by decide) (fun c_18 => ?_) (fun c_18 => ?_)
        · have z_c_18 := jc_lt (a := (p3).toInt) (b := (1)) c_18 rfl (by decide)
          refine jj_iconst (v := 2) C dX0_transferFault_34 (by decide) ?_
          exact jj_iret C ⟨[], pl_9, rfl, rfl, hok_10, hfr, (Or.inr (Or.inl ⟨(by first | omega | exact tt_lo _ | exact tt_hi _), (by first | omega | exact tt_lo _ | exact tt_hi _), (by first | omega | exact tt_lo _ | exact tt_hi _), (by first | omega | exact tt_lo _ | exact tt_hi _), rfl⟩))⟩ dX0_transferFault_35 (jj_le rfl) (jj_le rfl)
        · have z_c_18 := jc_nlt (a := (p3).toInt) (b := (1)) c_18 rfl (by decide)
          refine jj_iload_n C dX0_transferFault_28 rfl ?_
          refine jj_ldc (v := 99999999) C dX0_transferFault_29 jw_449 ?_
          refine jj_icmp_le (tgt := 36) C dX0_transferFault_31 (by decide) (fun c_19 => ?_) (fun c_19 => ?_)
          · have z_c_19 := jc_le (a := (p3).toInt) (b := (99999999)) c_19 rfl (by decide)
            refine jj_aload_n C dX0_transferFault_36 rfl ?_
            refine jj_iload_n C dX0_transferFault_37 rfl ?_
            obtain ⟨qc, gs, hqc⟩ := tt_recv (cx := []) hok_10 hk0 (by decide) rfl
            refine tt_callV (rest := []) C (tc_X0_unitsHeldBy_1 hl D cA ak h0 p1 hk0 hok_10) [] [] rfl rfl (by decide) (by decide) (by decide) qc hqc rfl rfl jw_457 jw_251 jw_252 jw_133 jw_248 jn_X0_unitsHeldBy rfl (jj_le rfl) (jj_le rfl) (jj_le rfl) (jj_le rfl) (jj_le rfl) dX0_transferFault_38 rfl (fun _ _ _ hX => hX.elim) (fun rx pl_20 r O_23 => ?_)
            obtain ⟨rfl, hok_21, hr_22, hR_25⟩ := O_23
            replace hfr := hfr.trans (hr_22.sub (by decide))
            obtain ⟨y_26, rfl⟩ := hR_25
            refine jj_iload_n C dX0_transferFault_41 rfl ?_
            obtain ⟨y_27, ey_27, vy_27⟩ := tt_i2l p3
            refine jj_i2l (v := y_27) C dX0_transferFault_42 ey_27 ?_
            refine jj_aload_n C dX0_transferFault_43 rfl ?_
            refine jj_iload_n C dX0_transferFault_44 rfl ?_
            obtain ⟨qc, gs, hqc⟩ := tt_recv (cx := []) hok_21 hk0 (by decide) rfl
            refine tt_callV (rest := [.long y_27, .long y_26]) C (tc_X0_unitsWaitingOf_1 hl D cA ak h0 p1 hk0 hok_21) [] [] rfl rfl (by decide) (by decide) (by decide) qc hqc rfl rfl jw_450 jw_454 jw_455 jw_133 jw_451 jn_X0_unitsWaitingOf rfl (jj_le rfl) (jj_le rfl) (jj_le rfl) (jj_le rfl) (jj_le rfl) dX0_transferFault_45 rfl (fun _ _ _ hX => hX.elim) (fun rx pl_28 r O_31 => ?_)
            obtain ⟨rfl, hok_29, hr_30, hR_33⟩ := O_31
            replace hfr := hfr.trans (hr_30.sub (by decide))
            obtain ⟨y_34, rfl⟩ := hR_33
            obtain ⟨y_35, ey_35⟩ : ∃ z : Int64, y_27 + y_34 = z := ⟨_, rfl⟩
            refine jj_ladd (v := y_35) C dX0_transferFault_48 ey_35 ?_
            refine jj_lcmp_ge (tgt := 55) C dX0_transferFault_49 dX0_transferFault_50 (by decide) (fun c_36 => ?_) (fun c_36 => ?_)
            · refine jj_aload_n C dX0_transferFault_55 rfl ?_
              refine tt_get C hok_29 jk_2 8 (by decide) jw_199 (t := (0, 0, 40)) hk0 (by decide) rfl rfl dX0_transferFault_56 (fun v_37 hv_37 hf_38 => ?_)
              obtain ⟨x_39, rfl, lx_39, ux_39⟩ := tt_vi hv_37
              refine jj_bipush (v := 40) C dX0_transferFault_59 (by decide) ?_
              refine jj_icmp_lt (tgt := 78) C dX0_transferFault_61 (by decide) (fun c_40 => ?_) (fun c_40 => ?_)
              · have z_c_40 := jc_lt (a := (x_39).toInt) (b := (40)) c_40 rfl (by decide)
                refine jj_iconst (v := 0) C dX0_transferFault_78 (by decide) ?_
                exact jj_iret C ⟨[], pl_28, rfl, rfl, hok_29, hfr, (Or.inr (Or.inr (Or.inl ⟨(by first | omega | exact tt_lo _ | exact tt_hi _), (by first | omega | exact tt_lo _ | exact tt_hi _), (by first | omega | exact tt_lo _ | exact tt_hi _), (by first | omega | exact tt_lo _ | exact tt_hi _), (by first | omega | exact tt_lo _ | exact tt_hi _), (by first | omega | exact tt_lo _ | exact tt_hi _), rfl⟩)))⟩ dX0_transferFault_79 (jj_le rfl) (jj_le rfl)
              · have z_c_40 := jc_nlt (a := (x_39).toInt) (b := (40)) c_40 rfl (by decide)
                refine jj_aload_n C dX0_transferFault_64 rfl ?_
                refine jj_iload_n C dX0_transferFault_65 rfl ?_
                refine jj_iload_n C dX0_transferFault_66 rfl ?_
                obtain ⟨y_41, ey_41, vy_41⟩ := tt_i2l p3
                refine jj_i2l (v := y_41) C dX0_transferFault_67 ey_41 ?_
                obtain ⟨qc, gs, hqc⟩ := tt_recv (cx := []) hok_29 hk0 (by decide) rfl
                refine tt_callV (rest := []) C (tc_X0_splitsLot_1 hl D cA ak h0 p1 y_41 hk0 hok_29) [] [] rfl rfl (by decide) (by decide) (by decide) qc hqc rfl rfl jw_509 jw_511 jw_512 jw_133 jw_510 jn_X0_splitsLot rfl (jj_le rfl) (jj_le rfl) (jj_le rfl) (jj_le rfl) (jj_le rfl) dX0_transferFault_68 rfl (fun _ _ _ hX => hX.elim) (fun rx pl_42 r O_45 => ?_)
                obtain ⟨rfl, hok_43, hr_44, hR_47⟩ := O_45
                replace hf_38 := hr_44.at hk0 (by decide) (by decide) hf_38
                replace hfr := hfr.trans (hr_44.sub (by decide))
                rcases hR_47 with rfl | rfl
                · refine jj_if_eqT (tgt := 78) C dX0_transferFault_71 (by decide) (by decide) ?_
                  refine jj_iconst (v := 0) C dX0_transferFault_78 (by decide) ?_
                  exact jj_iret C ⟨[], pl_42, rfl, rfl, hok_43, hfr, (Or.inr (Or.inr (Or.inl ⟨(by first | omega | exact tt_lo _ | exact tt_hi _), (by first | omega | exact tt_lo _ | exact tt_hi _), (by first | omega | exact tt_lo _ | exact tt_hi _), (by first | omega | exact tt_lo _ | exact tt_hi _), (by first | omega | exact tt_lo _ | exact tt_hi _), (by first | omega | exact tt_lo _ | exact tt_hi _), rfl⟩)))⟩ dX0_transferFault_79 (jj_le rfl) (jj_le rfl)
                · refine jj_if_eqF (tgt := 78) C dX0_transferFault_71 (by decide) (by decide) ?_
                  refine jj_iconst (v := 3) C dX0_transferFault_74 (by decide) ?_
                  refine jj_goto (tgt := 79) C dX0_transferFault_75 (by decide) ?_
                  exact jj_iret C ⟨[], pl_42, rfl, rfl, hok_43, hfr, (Or.inr (Or.inr (Or.inr ⟨(by first | omega | exact tt_lo _ | exact tt_hi _), (by first | omega | exact tt_lo _ | exact tt_hi _), (by first | omega | exact tt_lo _ | exact tt_hi _), (by first | omega | exact tt_lo _ | exact tt_hi _), (by first | omega | exact tt_lo _ | exact tt_hi _), (by first | omega | exact tt_lo _ | exact tt_hi _), rfl⟩)))⟩ dX0_transferFault_79 (jj_le rfl) (jj_le rfl)
            · refine jj_iconst (v := 3) C dX0_transferFault_53 (by decide) ?_
              exact jj_iret C ⟨[], pl_28, rfl, rfl, hok_29, hfr, (Or.inr (Or.inr (Or.inr ⟨(by first | omega | exact tt_lo _ | exact tt_hi _), (by first | omega | exact tt_lo _ | exact tt_hi _), (by first | omega | exact tt_lo _ | exact tt_hi _), (by first | omega | exact tt_lo _ | exact tt_hi _), (by first | omega | exact tt_lo _ | exact tt_hi _), (by first | omega | exact tt_lo _ | exact tt_hi _), rfl⟩)))⟩ dX0_transferFault_54 (jj_le rfl) (jj_le rfl)
          · have z_c_19 := jc_nle (a := (p3).toInt) (b := (99999999)) c_19 rfl (by decide)
            refine jj_iconst (v := 2) C dX0_transferFault_34 (by decide) ?_
            exact jj_iret C ⟨[], pl_9, rfl, rfl, hok_10, hfr, (Or.inr (Or.inl ⟨(by first | omega | exact tt_lo _ | exact tt_hi _), (by first | omega | exact tt_lo _ | exact tt_hi _), (by first | omega | exact tt_lo _ | exact tt_hi _), (by first | omega | exact tt_lo _ | exact tt_hi _), rfl⟩))⟩ dX0_transferFault_35 (jj_le rfl) (jj_le rfl)

set_option maxHeartbeats 4000000 in
set_option maxRecDepth 100000 in
theorem tc_X0_splitLot_1 {l : Launch} (hl : l.stackTraces = false) (D : va_G) (cA : Nat → ClassId) (ak : (Nat → Nat) × (Nat → Nat)) {Kd : Nat → Nat} (h0 : Nat) (h1 : Nat) (p2 : Int32) (p3 : Int64) (hk0 : Kd h0 = 1) (hk1 : Kd h1 = 3) {pl0 : va_W} (hok : tt_ok tt_tk cA Kd pl0) : jj_M l D cA ak yX0_splitLot (.code yX0_splitLot cX0_splitLot 8 none) 2 51 0 0 ([] ++ pl0) [.ref h0, .ref h1, .int p2, .long p3] (tt_O (fun rx pl1 r => rx = [] ∧ tt_ok tt_tk cA Kd pl1 ∧ tt_fr Kd [(1, 8), (3, 0), (3, 1), (3, 2), (3, 3), (3, 4), (3, 5)] pl0 pl1 ∧ ((r = none)))) (tt_OX (fun _ _ _ => False)) := by
  refine jj_start hl (by decide) jw_521 (jj_le rfl) ?_
  intro p e s m args below meth c A hargs hA C hex hmn
  have hfr := tt_fr.refl (K := Kd) (WS := [(1, 8), (3, 0), (3, 1), (3, 2), (3, 3), (3, 4), (3, 5)]) pl0
  have lp2 := tt_lo p2
  have up2 := tt_hi p2
  refine jj_aload_n C dX0_splitLot_0 rfl ?_
  refine tt_get C hok jk_5 3 (by decide) jw_250 (t := (1, (-9223372036854775808), 9223372036854775807)) hk1 (by decide) rfl rfl dX0_splitLot_1 (fun v_1 hv_1 hf_2 => ?_)
  obtain ⟨y_3, rfl, -, -⟩ := tt_vj hv_1
  refine jj_lconst (v := 0) C dX0_splitLot_4 (by decide) ?_
  refine jj_lcmp_gt (tgt := 10) C dX0_splitLot_5 dX0_splitLot_6 (by decide) (fun c_4 => ?_) (fun c_4 => ?_)
  · refine jj_aload_n C dX0_splitLot_10 rfl ?_
    refine tt_get C hok jk_5 5 (by decide) jw_352 (t := (1, (-9223372036854775808), 9223372036854775807)) hk1 (by decide) rfl rfl dX0_splitLot_11 (fun v_5 hv_5 hf_6 => ?_)
    obtain ⟨y_7, rfl, -, -⟩ := tt_vj hv_5
    refine jj_lload_n C dX0_splitLot_14 rfl ?_
    obtain ⟨y_8, ey_8⟩ : ∃ z : Int64, y_7 * p3 = z := ⟨_, rfl⟩
    refine jj_lmul (v := y_8) C dX0_splitLot_15 ey_8 ?_
    refine jj_aload_n C dX0_splitLot_16 rfl ?_
    refine tt_getF C hok jk_5 3 (by decide) jw_250 (t := (1, (-9223372036854775808), 9223372036854775807)) hk1 (by decide) rfl rfl hf_2 dX0_splitLot_17 ?_
    obtain ⟨y_9, ey_9⟩ : ∃ z : Int64, y_8 / y_3 = z := ⟨_, rfl⟩
    refine jj_ldiv (v := y_9) C dX0_splitLot_20 (jt_nzpL c_4) ey_9 ?_
    refine jj_lstore C dX0_splitLot_21 (by decide) rfl ?_
    refine jj_aload_n C dX0_splitLot_23 rfl ?_
    refine jj_iload_n C dX0_splitLot_24 rfl ?_
    refine jj_aload_n C dX0_splitLot_25 rfl ?_
    refine tt_get C hok jk_5 1 (by decide) jw_350 (t := (0, (-2147483648), 2147483647)) hk1 (by decide) rfl rfl dX0_splitLot_26 (fun v_10 hv_10 hf_11 => ?_)
    obtain ⟨x_12, rfl, lx_12, ux_12⟩ := tt_vi hv_10
    refine jj_lload_n C dX0_splitLot_29 rfl ?_
    refine jj_aload_n C dX0_splitLot_30 rfl ?_
    refine tt_get C hok jk_5 4 (by decide) jw_351 (t := (1, (-9223372036854775808), 9223372036854775807)) hk1 (by decide) rfl rfl dX0_splitLot_31 (fun v_13 hv_13 hf_14 => ?_)
    obtain ⟨y_15, rfl, -, -⟩ := tt_vj hv_13
    refine jj_lload C dX0_splitLot_34 rfl ?_
    obtain ⟨qc, gs, hqc⟩ := tt_recv (cx := []) hok hk0 (by decide) rfl
    refine tt_callV (rest := []) C (tc_X0_addLot_4 hl D cA ak h0 p2 x_12 p3 y_15 y_9 hk0 hok) [] [] rfl rfl (by decide) (by decide) (by decide) qc hqc rfl rfl jw_522 jw_354 jw_355 jw_133 jw_349 jn_X0_addLot rfl (jj_le rfl) (jj_le rfl) (jj_le rfl) (jj_le rfl) (jj_le rfl) dX0_splitLot_36 rfl (fun _ _ _ hX => hX.elim) (fun rx pl_16 r O_19 => ?_)
    obtain ⟨rfl, hok_17, hr_18, hR_21⟩ := O_19
    replace hfr := hfr.trans (hr_18.sub (by decide))
    obtain ⟨a_22, ka_22, rfl⟩ := hR_21
    refine jj_astore C dX0_splitLot_39 (by decide) rfl ?_
    refine jj_aload C dX0_splitLot_41 rfl ?_
    refine jj_aload_n C dX0_splitLot_43 rfl ?_
    refine tt_get C hok_17 jk_5 2 (by decide) jw_353 (t := (0, (-2147483648), 2147483647)) hk1 (by decide) rfl rfl dX0_splitLot_44 (fun v_23 hv_23 hf_24 => ?_)
    obtain ⟨x_25, rfl, lx_25, ux_25⟩ := tt_vi hv_23
    refine tt_put C hok_17 jk_5 2 (by decide) jw_353 (t := (0, (-2147483648), 2147483647)) ka_22 (by decide) rfl rfl rfl (tt_ia x_25) rfl rfl dX0_splitLot_47 (fun pl_26 hok_27 tr hn => ?_)
    have hf_28 := hn
    replace hfr := hfr.put ka_22 tr (by decide)
    refine jj_aload_n C dX0_splitLot_50 rfl ?_
    refine jj_dup C dX0_splitLot_51 rfl ?_
    refine tt_get C hok_27 jk_5 3 (by decide) jw_250 (t := (1, (-9223372036854775808), 9223372036854775807)) hk1 (by decide) rfl rfl dX0_splitLot_52 (fun v_29 hv_29 hf_30 => ?_)
    obtain ⟨y_31, rfl, -, -⟩ := tt_vj hv_29
    refine jj_lload_n C dX0_splitLot_55 rfl ?_
    obtain ⟨y_32, ey_32⟩ : ∃ z : Int64, y_31 - p3 = z := ⟨_, rfl⟩
    refine jj_lsub (v := y_32) C dX0_splitLot_56 ey_32 ?_
    refine tt_put C hok_27 jk_5 3 (by decide) jw_250 (t := (1, (-9223372036854775808), 9223372036854775807)) hk1 (by decide) rfl rfl rfl (tt_ja y_32) rfl rfl dX0_splitLot_57 (fun pl_33 hok_34 tr hn => ?_)
    replace hf_28 := tr _ _ _ (Or.inr (by decide)) hf_28
    have hf_35 := hn
    replace hfr := hfr.put hk1 tr (by decide)
    refine jj_aload_n C dX0_splitLot_60 rfl ?_
    refine jj_dup C dX0_splitLot_61 rfl ?_
    refine tt_get C hok_34 jk_5 5 (by decide) jw_352 (t := (1, (-9223372036854775808), 9223372036854775807)) hk1 (by decide) rfl rfl dX0_splitLot_62 (fun v_36 hv_36 hf_37 => ?_)
    obtain ⟨y_38, rfl, -, -⟩ := tt_vj hv_36
    refine jj_lload C dX0_splitLot_65 rfl ?_
    obtain ⟨y_39, ey_39⟩ : ∃ z : Int64, y_38 - y_9 = z := ⟨_, rfl⟩
    refine jj_lsub (v := y_39) C dX0_splitLot_67 ey_39 ?_
    refine tt_put C hok_34 jk_5 5 (by decide) jw_352 (t := (1, (-9223372036854775808), 9223372036854775807)) hk1 (by decide) rfl rfl rfl (tt_ja y_39) rfl rfl dX0_splitLot_68 (fun pl_40 hok_41 tr hn => ?_)
    replace hf_28 := tr _ _ _ (Or.inr (by decide)) hf_28
    replace hf_35 := tr _ _ _ (Or.inr (by decide)) hf_35
    have hf_42 := hn
    replace hfr := hfr.put hk1 tr (by decide)
    exact jj_vret C ⟨[], pl_40, rfl, rfl, hok_41, hfr, rfl⟩ dX0_splitLot_71 (jj_le rfl) (jj_le rfl)
  · exact jj_vret C ⟨[], pl0, rfl, rfl, hok, hfr, rfl⟩ dX0_splitLot_9 (jj_le rfl) (jj_le rfl)

set_option maxHeartbeats 4000000 in
set_option maxRecDepth 100000 in
theorem tc_X0_moveUnits_1 {l : Launch} (hl : l.stackTraces = false) (D : va_G) (cA : Nat → ClassId) (ak : (Nat → Nat) × (Nat → Nat)) {Kd : Nat → Nat} (h0 : Nat) (p1 : Int32) (p2 : Int32) (p3 : Int64) (hk0 : Kd h0 = 1) {pl0 : va_W} (hok : tt_ok tt_tk cA Kd pl0) : jj_M l D cA ak yX0_moveUnits (.code yX0_moveUnits cX0_moveUnits 12 none) 3 78 0 0 ([] ++ pl0) [.ref h0, .int p1, .int p2, .long p3] (tt_O (fun rx pl1 r => rx = [] ∧ tt_ok tt_tk cA Kd pl1 ∧ tt_fr Kd [(1, 8), (3, 0), (3, 1), (3, 2), (3, 3), (3, 4), (3, 5)] pl0 pl1 ∧ ((r = none)))) (tt_OX (fun _ _ _ => False)) := by
  refine jj_start hl (by decide) jw_518 (jj_le rfl) ?_
  intro p e s m args below meth c A hargs hA C hex hmn
  have hfr := tt_fr.refl (K := Kd) (WS := [(1, 8), (3, 0), (3, 1), (3, 2), (3, 3), (3, 4), (3, 5)]) pl0
  have lp1 := tt_lo p1
  have up1 := tt_hi p1
  have lp2 := tt_lo p2
  have up2 := tt_hi p2
  refine jj_lload_n C dX0_moveUnits_0 rfl ?_
  refine jj_lstore C dX0_moveUnits_1 (by decide) rfl ?_
  refine jj_aload_n C dX0_moveUnits_3 rfl ?_
  refine tt_get C hok jk_2 8 (by decide) jw_199 (t := (0, 0, 40)) hk0 (by decide) rfl rfl dX0_moveUnits_4 (fun v_1 hv_1 hf_2 => ?_)
  obtain ⟨x_3, rfl, lx_3, ux_3⟩ := tt_vi hv_1
  refine jj_istore C dX0_moveUnits_7 (by decide) rfl ?_
  refine jj_iconst (v := 0) C dX0_moveUnits_9 (by decide) ?_
  refine jj_istore C dX0_moveUnits_10 (by decide) rfl ?_
  have hL_4 : ∀ (N : Nat) (pl : va_W) (x_5 : Int32) (y_6 : Int64), True → tt_ok tt_tk cA Kd pl → tt_fr Kd [(1, 8), (3, 0), (3, 1), (3, 2), (3, 3), (3, 4), (3, 5)] pl0 pl → (0 : Int) ≤ x_5.toInt → x_5.toInt ≤ 40 → (2147483648 - x_5.toInt ≤ (N : Int)) → jj_J p l e (jj_rm 3 78 0 0) s m args below meth c 12 A (vx_MQ below (jj_q D A (tt_O (fun rx pl1 r => rx = [] ∧ tt_ok tt_tk cA Kd pl1 ∧ tt_fr Kd [(1, 8), (3, 0), (3, 1), (3, 2), (3, 3), (3, 4), (3, 5)] pl0 pl1 ∧ ((r = none))))) (jj_x D A (tt_OX (fun _ _ _ => False))) args s 0 0 A) (jj_X D A ([] ++ pl)) 0 0 12 [(8, .int x_5), (7, .int x_3), (5, .long y_6), (0, .ref h0), (1, .int p1), (2, .int p2), (3, .long p3)] [] := by
    intro NL_4
    induction NL_4 with
    | zero => intro pl x_5 y_6 _ hok hfr lx_5 ux_5 hNL_4; exfalso; omega
    | succ NL_4 ihL_4 =>
      intro pl x_5 y_6 _ hok hfr lx_5 ux_5 hNL_4
      replace ihL_4 := fun pl x_5 y_6 h1 => ihL_4 pl x_5 y_6 trivial h1
      refine jj_iload C dX0_moveUnits_12 rfl ?_
      refine jj_iload C dX0_moveUnits_14 rfl ?_
      refine jj_icmp_ge (tgt := 98) C dX0_moveUnits_16 (by decide) (fun c_7 => ?_) (fun c_7 => ?_)
      · have z_c_7 := jc_le (a := (x_3).toInt) (b := (x_5).toInt) c_7 rfl rfl
        exact jj_vret C ⟨[], pl, rfl, rfl, hok, hfr, rfl⟩ dX0_moveUnits_98 (jj_le rfl) (jj_le rfl)
      · have z_c_7 := jc_nle (a := (x_3).toInt) (b := (x_5).toInt) c_7 rfl rfl
        refine jj_lload C dX0_moveUnits_19 rfl ?_
        refine jj_lconst (v := 0) C dX0_moveUnits_21 (by decide) ?_
        refine jj_lcmp_le (tgt := 98) C dX0_moveUnits_22 dX0_moveUnits_23 (by decide) (fun c_8 => ?_) (fun c_8 => ?_)
        · exact jj_vret C ⟨[], pl, rfl, rfl, hok, hfr, rfl⟩ dX0_moveUnits_98 (jj_le rfl) (jj_le rfl)
        · refine jj_aload_n C dX0_moveUnits_26 rfl ?_
          refine tt_get C hok jk_2 12 (by decide) jw_214 (t := (2, 7, 0)) hk0 (by decide) rfl rfl dX0_moveUnits_27 (fun v_9 hv_9 hf_10 => ?_)
          obtain ⟨a_11, rfl, ka_11⟩ := tt_vr hv_9
          refine jj_iload C dX0_moveUnits_30 rfl ?_
          refine tt_aald C hok (t := (2, 3, 0)) ka_11 (by decide) rfl rfl rfl (vp_in_iff.mpr ⟨by omega, by omega⟩) dX0_moveUnits_32 (fun v_12 hv_12 => ?_)
          obtain ⟨a_13, rfl, ka_13⟩ := tt_vr hv_12
          refine jj_astore C dX0_moveUnits_33 (by decide) rfl ?_
          refine jj_aload C dX0_moveUnits_35 rfl ?_
          refine tt_get C hok jk_5 0 (by decide) jw_249 (t := (0, (-2147483648), 2147483647)) ka_13 (by decide) rfl rfl dX0_moveUnits_37 (fun v_14 hv_14 hf_15 => ?_)
          obtain ⟨x_16, rfl, lx_16, ux_16⟩ := tt_vi hv_14
          refine jj_iload_n C dX0_moveUnits_40 rfl ?_
          refine jj_icmp_ne (tgt := 92) C dX0_moveUnits_41 (by decide) (fun c_17 => ?_) (fun c_17 => ?_)
          · have z_c_17 := jc_neq (a := (x_16).toInt) (b := (p1).toInt) c_17 rfl rfl
            obtain ⟨x_18, ex_18, vx_18⟩ := tt_inc (x := x_5) (n := 1) (by omega) (by omega)
            refine jj_iinc (v := x_18) C dX0_moveUnits_92 rfl ex_18 (by decide) rfl ?_
            refine jj_goto (tgt := 12) C dX0_moveUnits_95 (by decide) ?_
            refine jj_loc [0, 2, 3, 4, 5, 6, 7] rfl ?_
            exact ihL_4 pl x_18 y_6 hok hfr (by first | omega | decide | exact tt_lo _ | exact tt_hi _) (by first | omega | decide | exact tt_lo _ | exact tt_hi _) (by first | omega | decide | exact tt_lo _ | exact tt_hi _)
          · have z_c_17 := jc_eq (a := (x_16).toInt) (b := (p1).toInt) c_17 rfl rfl
            refine jj_lload C dX0_moveUnits_44 rfl ?_
            refine jj_aload C dX0_moveUnits_46 rfl ?_
            refine tt_get C hok jk_5 3 (by decide) jw_250 (t := (1, (-9223372036854775808), 9223372036854775807)) ka_13 (by decide) rfl rfl dX0_moveUnits_48 (fun v_19 hv_19 hf_20 => ?_)
            obtain ⟨y_21, rfl, -, -⟩ := tt_vj hv_19
            refine tt_call0S (rest := []) C (ct_J9_min_f86c9_1 hl D cA ak y_6 y_21) jw_519 jw_145 jw_144 jw_143 jn_J9_min_f86c9 rfl (jj_le rfl) (jj_le rfl) (jj_le rfl) (jj_le rfl) (jj_le rfl) dX0_moveUnits_51 rfl (fun w1 r O_22 => ?_)
            rcases O_22 with ⟨c_23, -, rfl⟩ | ⟨c_24, -, rfl⟩
            · refine jj_lstore C dX0_moveUnits_54 (by decide) rfl ?_
              refine jj_lload C dX0_moveUnits_56 rfl ?_
              refine jj_lload C dX0_moveUnits_58 rfl ?_
              obtain ⟨y_25, ey_25⟩ : ∃ z : Int64, y_6 - y_21 = z := ⟨_, rfl⟩
              refine jj_lsub (v := y_25) C dX0_moveUnits_60 ey_25 ?_
              refine jj_lstore C dX0_moveUnits_61 (by decide) rfl ?_
              refine jj_lload C dX0_moveUnits_63 rfl ?_
              refine jj_aload C dX0_moveUnits_65 rfl ?_
              refine tt_getF C hok jk_5 3 (by decide) jw_250 (t := (1, (-9223372036854775808), 9223372036854775807)) ka_13 (by decide) rfl rfl hf_20 dX0_moveUnits_67 ?_
              refine jj_lcmp_neF (tgt := 83) C dX0_moveUnits_70 dX0_moveUnits_71 (by decide) rfl ?_
              refine jj_aload C dX0_moveUnits_74 rfl ?_
              refine jj_iload_n C dX0_moveUnits_76 rfl ?_
              refine tt_put C hok jk_5 0 (by decide) jw_249 (t := (0, (-2147483648), 2147483647)) ka_13 (by decide) rfl rfl rfl (tt_ia p2) rfl rfl dX0_moveUnits_77 (fun pl_26 hok_27 tr hn => ?_)
              replace hf_10 := tr _ _ _ (Or.inl (tt_ne hk0 ka_13 (by decide))) hf_10
              replace hf_20 := tr _ _ _ (Or.inr (by decide)) hf_20
              have hf_28 := hn
              replace hfr := hfr.put ka_13 tr (by decide)
              refine jj_goto (tgt := 92) C dX0_moveUnits_80 (by decide) ?_
              obtain ⟨x_29, ex_29, vx_29⟩ := tt_inc (x := x_5) (n := 1) (by omega) (by omega)
              refine jj_iinc (v := x_29) C dX0_moveUnits_92 rfl ex_29 (by decide) rfl ?_
              refine jj_goto (tgt := 12) C dX0_moveUnits_95 (by decide) ?_
              refine jj_loc [0, 4, 1, 5, 6, 7, 8] rfl ?_
              exact ihL_4 pl_26 x_29 y_25 hok_27 hfr (by first | omega | decide | exact tt_lo _ | exact tt_hi _) (by first | omega | decide | exact tt_lo _ | exact tt_hi _) (by first | omega | decide | exact tt_lo _ | exact tt_hi _)
            · refine jj_lstore C dX0_moveUnits_54 (by decide) rfl ?_
              refine jj_lload C dX0_moveUnits_56 rfl ?_
              refine jj_lload C dX0_moveUnits_58 rfl ?_
              obtain ⟨y_30, ey_30⟩ : ∃ z : Int64, y_6 - y_6 = z := ⟨_, rfl⟩
              refine jj_lsub (v := y_30) C dX0_moveUnits_60 ey_30 ?_
              refine jj_lstore C dX0_moveUnits_61 (by decide) rfl ?_
              refine jj_lload C dX0_moveUnits_63 rfl ?_
              refine jj_aload C dX0_moveUnits_65 rfl ?_
              refine tt_getF C hok jk_5 3 (by decide) jw_250 (t := (1, (-9223372036854775808), 9223372036854775807)) ka_13 (by decide) rfl rfl hf_20 dX0_moveUnits_67 ?_
              refine jj_lcmp_ne (tgt := 83) C dX0_moveUnits_70 dX0_moveUnits_71 (by decide) (fun c_31 => ?_) (fun c_31 => ?_)
              · refine jj_aload_n C dX0_moveUnits_83 rfl ?_
                refine jj_aload C dX0_moveUnits_84 rfl ?_
                refine jj_iload_n C dX0_moveUnits_86 rfl ?_
                refine jj_lload C dX0_moveUnits_87 rfl ?_
                obtain ⟨qc, gs, hqc⟩ := tt_recv (cx := []) hok hk0 (by decide) rfl
                refine tt_callV (rest := []) C (tc_X0_splitLot_1 hl D cA ak h0 a_13 p2 y_6 hk0 ka_13 hok) [] [] rfl rfl (by decide) (by decide) (by decide) qc hqc rfl rfl jw_520 jw_523 jw_524 jw_133 jw_521 jn_X0_splitLot rfl (jj_le rfl) (jj_le rfl) (jj_le rfl) (jj_le rfl) (jj_le rfl) dX0_moveUnits_89 rfl (fun _ _ _ hX => hX.elim) (fun rx pl_32 r O_35 => ?_)
                obtain ⟨rfl, hok_33, hr_34, hR_37⟩ := O_35
                replace hf_10 := hr_34.at hk0 (by decide) (by decide) hf_10
                replace hfr := hfr.trans (hr_34.sub (by decide))
                obtain rfl := hR_37
                obtain ⟨x_38, ex_38, vx_38⟩ := tt_inc (x := x_5) (n := 1) (by omega) (by omega)
                refine jj_iinc (v := x_38) C dX0_moveUnits_92 rfl ex_38 (by decide) rfl ?_
                refine jj_goto (tgt := 12) C dX0_moveUnits_95 (by decide) ?_
                refine jj_loc [0, 4, 1, 5, 6, 7, 8] rfl ?_
                exact ihL_4 pl_32 x_38 y_30 hok_33 hfr (by first | omega | decide | exact tt_lo _ | exact tt_hi _) (by first | omega | decide | exact tt_lo _ | exact tt_hi _) (by first | omega | decide | exact tt_lo _ | exact tt_hi _)
              · refine jj_aload C dX0_moveUnits_74 rfl ?_
                refine jj_iload_n C dX0_moveUnits_76 rfl ?_
                refine tt_put C hok jk_5 0 (by decide) jw_249 (t := (0, (-2147483648), 2147483647)) ka_13 (by decide) rfl rfl rfl (tt_ia p2) rfl rfl dX0_moveUnits_77 (fun pl_39 hok_40 tr hn => ?_)
                replace hf_10 := tr _ _ _ (Or.inl (tt_ne hk0 ka_13 (by decide))) hf_10
                replace hf_20 := tr _ _ _ (Or.inr (by decide)) hf_20
                have hf_41 := hn
                replace hfr := hfr.put ka_13 tr (by decide)
                refine jj_goto (tgt := 92) C dX0_moveUnits_80 (by decide) ?_
                obtain ⟨x_42, ex_42, vx_42⟩ := tt_inc (x := x_5) (n := 1) (by omega) (by omega)
                refine jj_iinc (v := x_42) C dX0_moveUnits_92 rfl ex_42 (by decide) rfl ?_
                refine jj_goto (tgt := 12) C dX0_moveUnits_95 (by decide) ?_
                refine jj_loc [0, 4, 1, 5, 6, 7, 8] rfl ?_
                exact ihL_4 pl_39 x_42 y_30 hok_40 hfr (by first | omega | decide | exact tt_lo _ | exact tt_hi _) (by first | omega | decide | exact tt_lo _ | exact tt_hi _) (by first | omega | decide | exact tt_lo _ | exact tt_hi _)
  exact hL_4 _ pl0 (0 : Int32) p3 trivial hok hfr (by first | omega | decide | exact tt_lo _ | exact tt_hi _) (by first | omega | decide | exact tt_lo _ | exact tt_hi _) (Int.self_le_toNat _)

set_option maxHeartbeats 4000000 in
set_option maxRecDepth 100000 in
theorem tc_X10_truncateText_1 {l : Launch} (hl : l.stackTraces = false) (D : va_G) (cA : Nat → ClassId) (ak : (Nat → Nat) × (Nat → Nat)) {Kd : Nat → Nat} (h0 : Nat) (p1 : Int32) (hk0 : Kd h0 = 15) {pl0 : va_W} (hok : tt_ok tt_tk cA Kd pl0) : jj_M l D cA ak yX10_truncateText (.code yX10_truncateText cX10_truncateText 2 (some .int)) 6 82 1 6 ([] ++ pl0) [.ref h0, .int p1] (tt_O (fun rx pl1 r => rx = [] ∧ tt_ok tt_tk cA Kd pl1 ∧ tt_fr Kd [(10, 1)] pl0 pl1 ∧ ((∃ v : Int32, (0 : Int) ≤ v.toInt ∧ v.toInt ≤ 400 ∧ (0 : Int) ≤ p1.toInt ∧ p1.toInt ≤ 400 ∧ r = some (.int v))))) (tt_OX (fun E rx pl1 => rx = [] ∧ tt_ok tt_tk cA Kd pl1 ∧ tt_fr Kd [(10, 1)] pl0 pl1 ∧ (E = "java/lang/IllegalArgumentException"))) := by
  refine jj_start hl (by decide) jw_862 (jj_le rfl) ?_
  intro p e s m args below meth c A hargs hA C hex hmn
  have hfr := tt_fr.refl (K := Kd) (WS := [(10, 1)]) pl0
  have lp1 := tt_lo p1
  have up1 := tt_hi p1
  refine jj_iload_n C dX10_truncateText_0 rfl ?_
  refine jj_if_lt (tgt := 15) C dX10_truncateText_1 (by decide) (fun c_1 => ?_) (fun c_1 => ?_)
  · have z_c_1 := jc_lt (a := (p1).toInt) (b := (0)) c_1 rfl (by decide)
    exact jj_throw (k := 37) (text := "no such length") C jt_RX10_75 jw_1 (by decide +kernel) dX10_truncateText_15 dX10_truncateText_18 dX10_truncateText_19 dX10_truncateText_21 dX10_truncateText_24 hex (jj_le rfl) (jj_le rfl) (jj_le rfl) (jj_le rfl) ⟨[], pl0, rfl, rfl, hok, hfr, rfl⟩ (jj_le rfl) (jj_le rfl)
  · have z_c_1 := jc_nlt (a := (p1).toInt) (b := (0)) c_1 rfl (by decide)
    refine jj_iload_n C dX10_truncateText_4 rfl ?_
    refine jj_aload_n C dX10_truncateText_5 rfl ?_
    refine tt_get C hok jk_11 0 (by decide) jw_30 (t := (2, 10, 0)) hk0 (by decide) rfl rfl dX10_truncateText_6 (fun v_2 hv_2 hf_3 => ?_)
    obtain ⟨a_4, rfl, ka_4⟩ := tt_vr hv_2
    refine tt_get C hok jk_10 1 (by decide) jw_31 (t := (0, 0, 400)) ka_4 (by decide) rfl rfl dX10_truncateText_9 (fun v_5 hv_5 hf_6 => ?_)
    obtain ⟨x_7, rfl, lx_7, ux_7⟩ := tt_vi hv_5
    refine jj_icmp_le (tgt := 25) C dX10_truncateText_12 (by decide) (fun c_8 => ?_) (fun c_8 => ?_)
    · have z_c_8 := jc_le (a := (p1).toInt) (b := (x_7).toInt) c_8 rfl rfl
      refine jj_aload_n C dX10_truncateText_25 rfl ?_
      refine tt_getF C hok jk_11 0 (by decide) jw_30 (t := (2, 10, 0)) hk0 (by decide) rfl rfl hf_3 dX10_truncateText_26 ?_
      refine jj_iload_n C dX10_truncateText_29 rfl ?_
      refine tt_put C hok jk_10 1 (by decide) jw_31 (t := (0, 0, 400)) ka_4 (by decide) rfl rfl rfl (tt_iv (by omega) (by omega)) rfl rfl dX10_truncateText_30 (fun pl_9 hok_10 tr hn => ?_)
      replace hf_3 := tr _ _ _ (Or.inl (tt_ne hk0 ka_4 (by decide))) hf_3
      have hf_11 := hn
      replace hfr := hfr.put ka_4 tr (by decide)
      refine jj_iload_n C dX10_truncateText_33 rfl ?_
      exact jj_iret C ⟨[], pl_9, rfl, rfl, hok_10, hfr, ⟨p1, (by first | omega | exact tt_lo _ | exact tt_hi _), (by first | omega | exact tt_lo _ | exact tt_hi _), (by first | omega | exact tt_lo _ | exact tt_hi _), (by first | omega | exact tt_lo _ | exact tt_hi _), rfl⟩⟩ dX10_truncateText_34 (jj_le rfl) (jj_le rfl)
    · have z_c_8 := jc_nle (a := (p1).toInt) (b := (x_7).toInt) c_8 rfl rfl
      exact jj_throw (k := 37) (text := "no such length") C jt_RX10_75 jw_1 (by decide +kernel) dX10_truncateText_15 dX10_truncateText_18 dX10_truncateText_19 dX10_truncateText_21 dX10_truncateText_24 hex (jj_le rfl) (jj_le rfl) (jj_le rfl) (jj_le rfl) ⟨[], pl0, rfl, rfl, hok, hfr, rfl⟩ (jj_le rfl) (jj_le rfl)

set_option maxHeartbeats 4000000 in
set_option maxRecDepth 100000 in
theorem tc_X10_undo_1 {l : Launch} (hl : l.stackTraces = false) (D : va_G) (cA : Nat → ClassId) (ak : (Nat → Nat) × (Nat → Nat)) {Kd : Nat → Nat} (h0 : Nat) (hk0 : Kd h0 = 15) {pl0 : va_W} (hok : tt_ok tt_tk cA Kd pl0) : jj_M l D cA ak yX10_undo (.code yX10_undo cX10_undo 1 (some .int)) 6 82 1 6 ([] ++ pl0) [.ref h0] (tt_O (fun rx pl1 r => rx = [] ∧ tt_ok tt_tk cA Kd pl1 ∧ tt_fr Kd [(1, 0), (1, 1), (1, 2), (1, 3), (1, 4), (1, 5), (1, 6), (1, 7), (1, 8), (1, 9), (2, 0), (2, 1), (2, 2), (2, 3), (2, 4), (3, 0), (3, 1), (3, 2), (3, 3), (3, 4), (3, 5), (4, 0), (4, 1), (4, 2), (4, 3), (4, 4), (15, 7), (15, 8)] pl0 pl1 ∧ ((∃ v : Int32, (0 : Int) ≤ v.toInt ∧ v.toInt ≤ 9 ∧ r = some (.int v))))) (tt_OX (fun E rx pl1 => rx = [] ∧ tt_ok tt_tk cA Kd pl1 ∧ tt_fr Kd [(1, 0), (1, 1), (1, 2), (1, 3), (1, 4), (1, 5), (1, 6), (1, 7), (1, 8), (1, 9), (2, 0), (2, 1), (2, 2), (2, 3), (2, 4), (3, 0), (3, 1), (3, 2), (3, 3), (3, 4), (3, 5), (4, 0), (4, 1), (4, 2), (4, 3), (4, 4), (15, 7), (15, 8)] pl0 pl1 ∧ (E = "java/lang/IllegalStateException"))) := by
  refine jj_start hl (by decide) jw_863 (jj_le rfl) ?_
  intro p e s m args below meth c A hargs hA C hex hmn
  have hfr := tt_fr.refl (K := Kd) (WS := [(1, 0), (1, 1), (1, 2), (1, 3), (1, 4), (1, 5), (1, 6), (1, 7), (1, 8), (1, 9), (2, 0), (2, 1), (2, 2), (2, 3), (2, 4), (3, 0), (3, 1), (3, 2), (3, 3), (3, 4), (3, 5), (4, 0), (4, 1), (4, 2), (4, 3), (4, 4), (15, 7), (15, 8)]) pl0
  refine jj_aload_n C dX10_undo_0 rfl ?_
  refine tt_get C hok jk_11 8 (by decide) jw_385 (t := (0, 0, 10)) hk0 (by decide) rfl rfl dX10_undo_1 (fun v_1 hv_1 hf_2 => ?_)
  obtain ⟨x_3, rfl, lx_3, ux_3⟩ := tt_vi hv_1
  refine jj_if_eq (tgt := 19) C dX10_undo_4 (by decide) (fun c_4 => ?_) (fun c_4 => ?_)
  · have z_c_4 := jc_eq (a := (x_3).toInt) (b := (0)) c_4 rfl (by decide)
    exact jj_throwW (k := 53) (text := "there is nothing to undo") C jt_RX10_64 jw_49 (by decide +kernel) dX10_undo_19 dX10_undo_22 dX10_undo_23 dX10_undo_26 dX10_undo_29 hex (jj_le rfl) (jj_le rfl) (jj_le rfl) (jj_le rfl) ⟨[], pl0, rfl, rfl, hok, hfr, rfl⟩ (jj_le rfl) (jj_le rfl)
  · have z_c_4 := jc_neq (a := (x_3).toInt) (b := (0)) c_4 rfl (by decide)
    refine jj_aload_n C dX10_undo_7 rfl ?_
    refine tt_get C hok jk_11 6 (by decide) jw_384 (t := (2, 16, 0)) hk0 (by decide) rfl rfl dX10_undo_8 (fun v_5 hv_5 hf_6 => ?_)
    obtain ⟨a_7, rfl, ka_7⟩ := tt_vr hv_5
    refine jj_aload_n C dX10_undo_11 rfl ?_
    refine tt_get C hok jk_11 7 (by decide) jw_383 (t := (0, 0, 9)) hk0 (by decide) rfl rfl dX10_undo_12 (fun v_8 hv_8 hf_9 => ?_)
    obtain ⟨x_10, rfl, lx_10, ux_10⟩ := tt_vi hv_8
    refine tt_aaldN C hok (t := (3, 1, 0)) ka_7 (by decide) rfl rfl rfl (vp_in_iff.mpr ⟨by omega, by omega⟩) dX10_undo_15 (fun v_11 hv_11 he_13 => ?_)
    rcases tt_vn hv_11 with rfl | ⟨a_12, rfl, ka_12⟩
    · refine jj_ifnonnullN C dX10_undo_16 ?_
      exact jj_throwW (k := 53) (text := "there is nothing to undo") C jt_RX10_64 jw_49 (by decide +kernel) dX10_undo_19 dX10_undo_22 dX10_undo_23 dX10_undo_26 dX10_undo_29 hex (jj_le rfl) (jj_le rfl) (jj_le rfl) (jj_le rfl) ⟨[], pl0, rfl, rfl, hok, hfr, rfl⟩ (jj_le rfl) (jj_le rfl)
    · refine jj_ifnonnull (tgt := 30) C dX10_undo_16 (by decide) ?_
      refine jj_aload_n C dX10_undo_30 rfl ?_
      refine tt_get C hok jk_11 3 (by decide) jw_2 (t := (2, 1, 0)) hk0 (by decide) rfl rfl dX10_undo_31 (fun v_14 hv_14 hf_15 => ?_)
      obtain ⟨a_16, rfl, ka_16⟩ := tt_vr hv_14
      refine jj_aload_n C dX10_undo_34 rfl ?_
      refine tt_getF C hok jk_11 6 (by decide) jw_384 (t := (2, 16, 0)) hk0 (by decide) rfl rfl hf_6 dX10_undo_35 ?_
      refine jj_aload_n C dX10_undo_38 rfl ?_
      refine tt_getF C hok jk_11 7 (by decide) jw_383 (t := (0, 0, 9)) hk0 (by decide) rfl rfl hf_9 dX10_undo_39 ?_
      refine tt_aaldF C hok (t := (3, 1, 0)) ka_7 (by decide) rfl rfl rfl (vp_in_iff.mpr ⟨by omega, by omega⟩) he_13 dX10_undo_42 ?_
      obtain ⟨qc, gs, hqc⟩ := tt_recv (cx := []) hok ka_16 (by decide) rfl
      refine tt_callV (rest := []) C (tc_X0_copyFrom_1 hl D cA ak a_16 a_12 ka_16 ka_12 hok) [] [] rfl rfl (by decide) (by decide) (by decide) qc hqc rfl rfl jw_190 jw_228 jw_229 jw_133 jw_191 jn_X0_copyFrom rfl (jj_le rfl) (jj_le rfl) (jj_le rfl) (jj_le rfl) (jj_le rfl) dX10_undo_43 rfl (fun _ _ _ hX => hX.elim) (fun rx pl_19 r O_22 => ?_)
      obtain ⟨rfl, hok_20, hr_21, hR_24⟩ := O_22
      replace hf_2 := hr_21.at hk0 (by decide) (by decide) hf_2
      replace hf_6 := hr_21.at hk0 (by decide) (by decide) hf_6
      replace hf_9 := hr_21.at hk0 (by decide) (by decide) hf_9
      replace hf_15 := hr_21.at hk0 (by decide) (by decide) hf_15
      replace hfr := hfr.trans (hr_21.sub (by decide))
      obtain rfl := hR_24
      refine jj_aload_n C dX10_undo_46 rfl ?_
      refine jj_aload_n C dX10_undo_47 rfl ?_
      refine tt_getF C hok_20 jk_11 7 (by decide) jw_383 (t := (0, 0, 9)) hk0 (by decide) rfl rfl hf_9 dX10_undo_48 ?_
      refine jj_if_le (tgt := 63) C dX10_undo_51 (by decide) (fun c_25 => ?_) (fun c_25 => ?_)
      · have z_c_25 := jc_le (a := (x_10).toInt) (b := (0)) c_25 rfl (by decide)
        refine jj_bipush (v := 9) C dX10_undo_63 (by decide) ?_
        refine tt_put C hok_20 jk_11 7 (by decide) jw_383 (t := (0, 0, 9)) hk0 (by decide) rfl rfl rfl (tt_iv (by decide) (by decide)) rfl rfl dX10_undo_65 (fun pl_26 hok_27 tr hn => ?_)
        replace hf_2 := tr _ _ _ (Or.inr (by decide)) hf_2
        replace hf_6 := tr _ _ _ (Or.inr (by decide)) hf_6
        replace hf_15 := tr _ _ _ (Or.inr (by decide)) hf_15
        have hf_28 := hn
        replace hfr := hfr.put hk0 tr (by decide)
        refine jj_aload_n C dX10_undo_68 rfl ?_
        refine jj_dup C dX10_undo_69 rfl ?_
        refine tt_getF C hok_27 jk_11 8 (by decide) jw_385 (t := (0, 0, 10)) hk0 (by decide) rfl rfl hf_2 dX10_undo_70 ?_
        refine jj_iconst (v := 1) C dX10_undo_73 (by decide) ?_
        obtain ⟨x_29, ex_29, vx_29⟩ := tt_isub (x := x_3) (y := (1 : Int32)) (a := x_3.toInt) rfl (b := 1) (by decide) (by omega) (by omega)
        refine jj_isub (v := x_29) C dX10_undo_74 ex_29 ?_
        refine tt_put C hok_27 jk_11 8 (by decide) jw_385 (t := (0, 0, 10)) hk0 (by decide) rfl rfl rfl (tt_iv (by omega) (by omega)) rfl rfl dX10_undo_75 (fun pl_30 hok_31 tr hn => ?_)
        replace hf_6 := tr _ _ _ (Or.inr (by decide)) hf_6
        replace hf_15 := tr _ _ _ (Or.inr (by decide)) hf_15
        replace hf_28 := tr _ _ _ (Or.inr (by decide)) hf_28
        have hf_32 := hn
        replace hfr := hfr.put hk0 tr (by decide)
        refine jj_aload_n C dX10_undo_78 rfl ?_
        refine tt_getF C hok_31 jk_11 8 (by decide) jw_385 (t := (0, 0, 10)) hk0 (by decide) rfl rfl hf_32 dX10_undo_79 ?_
        exact jj_iret C ⟨[], pl_30, rfl, rfl, hok_31, hfr, ⟨x_29, (by first | omega | exact tt_lo _ | exact tt_hi _), (by first | omega | exact tt_lo _ | exact tt_hi _), rfl⟩⟩ dX10_undo_82 (jj_le rfl) (jj_le rfl)
      · have z_c_25 := jc_nle (a := (x_10).toInt) (b := (0)) c_25 rfl (by decide)
        refine jj_aload_n C dX10_undo_54 rfl ?_
        refine tt_getF C hok_20 jk_11 7 (by decide) jw_383 (t := (0, 0, 9)) hk0 (by decide) rfl rfl hf_9 dX10_undo_55 ?_
        refine jj_iconst (v := 1) C dX10_undo_58 (by decide) ?_
        obtain ⟨x_33, ex_33, vx_33⟩ := tt_isub (x := x_10) (y := (1 : Int32)) (a := x_10.toInt) rfl (b := 1) (by decide) (by omega) (by omega)
        refine jj_isub (v := x_33) C dX10_undo_59 ex_33 ?_
        refine jj_goto (tgt := 65) C dX10_undo_60 (by decide) ?_
        refine tt_put C hok_20 jk_11 7 (by decide) jw_383 (t := (0, 0, 9)) hk0 (by decide) rfl rfl rfl (tt_iv (by omega) (by omega)) rfl rfl dX10_undo_65 (fun pl_34 hok_35 tr hn => ?_)
        replace hf_2 := tr _ _ _ (Or.inr (by decide)) hf_2
        replace hf_6 := tr _ _ _ (Or.inr (by decide)) hf_6
        replace hf_15 := tr _ _ _ (Or.inr (by decide)) hf_15
        have hf_36 := hn
        replace hfr := hfr.put hk0 tr (by decide)
        refine jj_aload_n C dX10_undo_68 rfl ?_
        refine jj_dup C dX10_undo_69 rfl ?_
        refine tt_getF C hok_35 jk_11 8 (by decide) jw_385 (t := (0, 0, 10)) hk0 (by decide) rfl rfl hf_2 dX10_undo_70 ?_
        refine jj_iconst (v := 1) C dX10_undo_73 (by decide) ?_
        obtain ⟨x_37, ex_37, vx_37⟩ := tt_isub (x := x_3) (y := (1 : Int32)) (a := x_3.toInt) rfl (b := 1) (by decide) (by omega) (by omega)
        refine jj_isub (v := x_37) C dX10_undo_74 ex_37 ?_
        refine tt_put C hok_35 jk_11 8 (by decide) jw_385 (t := (0, 0, 10)) hk0 (by decide) rfl rfl rfl (tt_iv (by omega) (by omega)) rfl rfl dX10_undo_75 (fun pl_38 hok_39 tr hn => ?_)
        replace hf_6 := tr _ _ _ (Or.inr (by decide)) hf_6
        replace hf_15 := tr _ _ _ (Or.inr (by decide)) hf_15
        replace hf_36 := tr _ _ _ (Or.inr (by decide)) hf_36
        have hf_40 := hn
        replace hfr := hfr.put hk0 tr (by decide)
        refine jj_aload_n C dX10_undo_78 rfl ?_
        refine tt_getF C hok_39 jk_11 8 (by decide) jw_385 (t := (0, 0, 10)) hk0 (by decide) rfl rfl hf_40 dX10_undo_79 ?_
        exact jj_iret C ⟨[], pl_38, rfl, rfl, hok_39, hfr, ⟨x_37, (by first | omega | exact tt_lo _ | exact tt_hi _), (by first | omega | exact tt_lo _ | exact tt_hi _), rfl⟩⟩ dX10_undo_82 (jj_le rfl) (jj_le rfl)

set_option maxHeartbeats 4000000 in
set_option maxRecDepth 100000 in
theorem tc_X10_unitsOf_1 {l : Launch} (hl : l.stackTraces = false) (D : va_G) (cA : Nat → ClassId) (ak : (Nat → Nat) × (Nat → Nat)) {Kd : Nat → Nat} (h0 : Nat) (p1 : Int32) (hk0 : Kd h0 = 15) {pl0 : va_W} (hok : tt_ok tt_tk cA Kd pl0) : jj_M l D cA ak yX10_unitsOf (.code yX10_unitsOf cX10_unitsOf 2 (some .long)) 8 123 1 6 ([] ++ pl0) [.ref h0, .int p1] (tt_O (fun rx pl1 r => rx = [] ∧ tt_ok tt_tk cA Kd pl1 ∧ tt_fr Kd [] pl0 pl1 ∧ ((∃ v : Int64, (0 : Int) ≤ p1.toInt ∧ p1.toInt ≤ 2147483646 ∧ r = some (.long v))))) (tt_OX (fun E rx pl1 => rx = [] ∧ tt_ok tt_tk cA Kd pl1 ∧ tt_fr Kd [] pl0 pl1 ∧ (E = "java/lang/IndexOutOfBoundsException"))) := by
  refine jj_start hl (by decide) jw_864 (jj_le rfl) ?_
  intro p e s m args below meth c A hargs hA C hex hmn
  have hfr := tt_fr.refl (K := Kd) (WS := []) pl0
  have lp1 := tt_lo p1
  have up1 := tt_hi p1
  refine jj_aload_n C dX10_unitsOf_0 rfl ?_
  refine jj_iload_n C dX10_unitsOf_1 rfl ?_
  obtain ⟨qc, gs, hqc⟩ := tt_recv (cx := []) hok hk0 (by decide) rfl
  refine tt_callV (rest := []) C (tc_X10_checkInvestor_1 hl D cA ak h0 p1 hk0 hok) [] [] rfl rfl (by decide) (by decide) (by decide) qc hqc rfl rfl jw_394 jw_401 jw_402 jw_52 jw_395 jn_X10_checkInvestor rfl (jj_le rfl) (jj_le rfl) (jj_le rfl) (jj_le rfl) (jj_le rfl) dX10_unitsOf_2 rfl (fun E rx pl_1 X_5 => ?_) (fun rx pl_1 r O_4 => ?_)
  · obtain ⟨rfl, hok_2, hr_3, hE_6⟩ := X_5
    replace hfr := hfr.trans (hr_3.sub (by decide))
    obtain rfl := hE_6
    exact jj_out C hex ⟨[], pl_1, rfl, rfl, hok_2, hfr, rfl⟩ (jj_le rfl) (jj_le rfl)
  · obtain ⟨rfl, hok_2, hr_3, hR_7⟩ := O_4
    replace hfr := hfr.trans (hr_3.sub (by decide))
    obtain ⟨l_8, u_9, rfl⟩ := hR_7
    refine jj_aload_n C dX10_unitsOf_5 rfl ?_
    refine tt_get C hok_2 jk_11 3 (by decide) jw_2 (t := (2, 1, 0)) hk0 (by decide) rfl rfl dX10_unitsOf_6 (fun v_10 hv_10 hf_11 => ?_)
    obtain ⟨a_12, rfl, ka_12⟩ := tt_vr hv_10
    refine jj_iload_n C dX10_unitsOf_9 rfl ?_
    obtain ⟨qc, gs, hqc⟩ := tt_recv (cx := []) hok_2 ka_12 (by decide) rfl
    refine tt_callV (rest := []) C (tc_X0_unitsHeldBy_1 hl D cA ak a_12 p1 ka_12 hok_2) [] [] rfl rfl (by decide) (by decide) (by decide) qc hqc rfl rfl jw_529 jw_251 jw_252 jw_133 jw_248 jn_X0_unitsHeldBy rfl (jj_le rfl) (jj_le rfl) (jj_le rfl) (jj_le rfl) (jj_le rfl) dX10_unitsOf_10 rfl (fun _ _ _ hX => hX.elim) (fun rx pl_13 r O_16 => ?_)
    obtain ⟨rfl, hok_14, hr_15, hR_18⟩ := O_16
    replace hf_11 := hr_15.at hk0 (by decide) (by decide) hf_11
    replace hfr := hfr.trans (hr_15.sub (by decide))
    obtain ⟨y_19, rfl⟩ := hR_18
    exact jj_lret C ⟨[], pl_13, rfl, rfl, hok_14, hfr, ⟨y_19, (by first | omega | exact tt_lo _ | exact tt_hi _), (by first | omega | exact tt_lo _ | exact tt_hi _), rfl⟩⟩ dX10_unitsOf_13 (jj_le rfl) (jj_le rfl)

