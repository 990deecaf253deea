set_option maxHeartbeats 4000000 in
set_option maxRecDepth 100000 in
theorem tc_X10_placeOf_1 {l : Launch} (hl : l.stackTraces = false) (D : va_G) (cA : Nat → ClassId) (ak : (Nat → Nat) × (Nat → Nat)) {Kd : Nat → Nat} (h0 : Nat) (p1 : Int32) (hk0 : Kd h0 = 15) {pl0 : va_W} (hok : tt_ok tt_tk cA Kd pl0) : jj_M l D cA ak yX10_placeOf (.code yX10_placeOf cX10_placeOf 3 (some .int)) 7 102 1 6 ([] ++ pl0) [.ref h0, .int p1] (tt_O (fun rx pl1 r => rx = [] ∧ tt_ok tt_tk cA Kd pl1 ∧ tt_fr Kd [] pl0 pl1 ∧ tt_fa Kd [] pl0 pl1 ∧ ((∃ v : Int32, (0 : Int) ≤ v.toInt ∧ v.toInt ≤ 5 ∧ r = some (.int v))))) (tt_OX (fun E rx pl1 => rx = [] ∧ tt_ok tt_tk cA Kd pl1 ∧ tt_fr Kd [] pl0 pl1 ∧ tt_fa Kd [] pl0 pl1 ∧ (E = "java/lang/IndexOutOfBoundsException"))) := by
  refine jj_start hl (by decide) jw_94c9b2f9a1 (jj_le rfl) ?_
  intro p e s m args below meth c A hargs hA C hex hmn
  have hfr := tt_fr.refl (K := Kd) (WS := []) pl0
  have hfa := tt_fa.refl (K := Kd) (WA := []) pl0
  have lp1 := tt_lo p1
  have up1 := tt_hi p1
  refine jj_aload_n C dX10_placeOf_0 rfl ?_
  refine tt_get C hok jk_11 3 (by decide) jw_f82a97e333 (t := (2, 1, 0)) hk0 (by decide) rfl rfl dX10_placeOf_1 (fun v_1 hv_1 hf_2 => ?_)
  obtain ⟨a_3, rfl, ka_3⟩ := tt_vr hv_1
  refine jj_iload_n C dX10_placeOf_4 rfl ?_
  obtain ⟨qc, gs, hqc⟩ := tt_recv (cx := []) hok ka_3 (by decide) rfl
  refine tt_callV (rest := []) C (tc_X0_placeOfSeries_1 hl D cA ak a_3 p1 ka_3 hok) [] [] rfl rfl (by decide) (by decide) (by decide) qc hqc rfl rfl jw_f69c658025 jw_0061c834c4 jw_a3c4f03cad jw_7d25d4fd32 jw_3fe68be2d3 jn_X0_placeOfSeries rfl (jj_le rfl) (jj_le rfl) (jj_le rfl) (jj_le rfl) (jj_le rfl) dX10_placeOf_5 rfl (fun _ _ _ hX => hX.elim) (fun rx pl_4 r O_7 => ?_)
  obtain ⟨rfl, hok_5, hr_6, hfa9, hR_9⟩ := O_7
  replace hf_2 := hr_6.at hk0 (by decide) (by decide) hf_2
  replace hfr := hfr.trans (hr_6.sub (by decide))
  replace hfa := hfa.trans (hfa9.sub (by decide))
  rcases hR_9 with rfl | ⟨x_12, lx_12, ux_12, rfl⟩
  · refine jj_istore_n C dX10_placeOf_8 (by decide) rfl ?_
    refine jj_iload_n C dX10_placeOf_9 rfl ?_
    refine jj_iconst (v := (-1)) C dX10_placeOf_10 (by decide) ?_
    refine jj_icmp_neF (tgt := 18) C dX10_placeOf_11 (by decide) (by decide) ?_
    refine jj_iconst (v := 1) C dX10_placeOf_14 (by decide) ?_
    refine jj_goto (tgt := 19) C dX10_placeOf_15 (by decide) ?_
    refine tt_callS (rest := []) C (tc_X10_refuse_1 hl D cA ak  hok_5) [] [] rfl rfl (by decide) (by decide) (by decide) jw_90eccdbdf8 jw_751c22758b jw_6f6d707074 jw_57df353171 jn_X10_refuse rfl (jj_le rfl) (jj_le rfl) (jj_le rfl) (jj_le rfl) (jj_le rfl) dX10_placeOf_19 rfl (fun E rx pl_13 X_17 => ?_) (fun rx pl_13 r O_16 => ?_)
    · obtain ⟨rfl, hok_14, hr_15, hfa9, hE_18⟩ := X_17
      replace hf_2 := hr_15.at hk0 (by decide) (by decide) hf_2
      replace hfr := hfr.trans (hr_15.sub (by decide))
      replace hfa := hfa.trans (hfa9.sub (by decide))
      obtain rfl := hE_18
      exact jj_out C hex ⟨[], pl_13, rfl, rfl, hok_14, hfr, hfa, rfl⟩ (jj_le rfl) (jj_le rfl)
    · exact O_16.elim
  · refine jj_istore_n C dX10_placeOf_8 (by decide) rfl ?_
    refine jj_iload_n C dX10_placeOf_9 rfl ?_
    refine jj_iconst (v := (-1)) C dX10_placeOf_10 (by decide) ?_
    refine jj_icmp_ne (tgt := 18) C dX10_placeOf_11 (by decide) (fun c_22 => ?_) (fun c_22 => ?_)
    · have z_c_22 := jc_neq (a := (x_12).toInt) (b := (-1)) c_22 rfl (by decide)
      refine jj_iconst (v := 0) C dX10_placeOf_18 (by decide) ?_
      refine tt_callS (rest := []) C (tc_X10_refuse_2 hl D cA ak  hok_5) [] [] rfl rfl (by decide) (by decide) (by decide) jw_90eccdbdf8 jw_751c22758b jw_6f6d707074 jw_57df353171 jn_X10_refuse rfl (jj_le rfl) (jj_le rfl) (jj_le rfl) (jj_le rfl) (jj_le rfl) dX10_placeOf_19 rfl (fun _ _ _ hX => hX.elim) (fun rx pl_23 r O_26 => ?_)
      obtain ⟨rfl, hok_24, hr_25, hfa9, hR_28⟩ := O_26
      replace hf_2 := hr_25.at hk0 (by decide) (by decide) hf_2
      replace hfr := hfr.trans (hr_25.sub (by decide))
      replace hfa := hfa.trans (hfa9.sub (by decide))
      obtain rfl := hR_28
      refine jj_iload_n C dX10_placeOf_22 rfl ?_
      exact jj_iret C ⟨[], pl_23, rfl, rfl, hok_24, hfr, hfa, ⟨x_12, (by first | omega | exact tt_lo _ | exact tt_hi _), (by first | omega | exact tt_lo _ | exact tt_hi _), rfl⟩⟩ dX10_placeOf_23 (jj_le rfl) (jj_le rfl)
    · have z_c_22 := jc_eq (a := (x_12).toInt) (b := (-1)) c_22 rfl (by decide)
      exfalso; omega

set_option maxHeartbeats 4000000 in
set_option maxRecDepth 100000 in
theorem tc_X8_assetsAfter_2 {l : Launch} (hl : l.stackTraces = false) (D : va_G) (cA : Nat → ClassId) (ak : (Nat → Nat) × (Nat → Nat)) {Kd : Nat → Nat} (h0 : Nat) (hk0 : Kd h0 = 2) {pl0 : va_W} (hok : tt_ok tt_tk cA Kd pl0) : jj_M l D cA ak yX8_assetsAfter (.code yX8_assetsAfter cX8_assetsAfter 2 (some .long)) 0 0 0 0 ([] ++ pl0) [.ref h0, .int 9999] (tt_O (fun rx pl1 r => rx = [] ∧ tt_ok tt_tk cA Kd pl1 ∧ tt_fr Kd [] pl0 pl1 ∧ tt_fa Kd [] pl0 pl1 ∧ ((∃ v : Int64, r = some (.long v))))) (tt_OX (fun _ _ _ => False)) := by
  refine jj_start hl (by decide) jw_37a3f39914 (jj_le rfl) ?_
  intro p e s m args below meth c A hargs hA C hex hmn
  have hfr := tt_fr.refl (K := Kd) (WS := []) pl0
  have hfa := tt_fa.refl (K := Kd) (WA := []) pl0
  refine jj_aload_n C dX8_assetsAfter_0 rfl ?_
  refine tt_get C hok jk_9 2 (by decide) jw_589ef22e6e (t := (1, (-9223372036854775808), 9223372036854775807)) hk0 (by decide) rfl rfl dX8_assetsAfter_1 (fun v_1 hv_1 hf_2 => ?_)
  obtain ⟨y_3, rfl, -, -⟩ := tt_vj hv_1
  refine jj_aload_n C dX8_assetsAfter_4 rfl ?_
  refine tt_getF C hok jk_9 2 (by decide) jw_589ef22e6e (t := (1, (-9223372036854775808), 9223372036854775807)) hk0 (by decide) rfl rfl hf_2 dX8_assetsAfter_5 ?_
  refine jj_iload_n C dX8_assetsAfter_8 rfl ?_
  refine jj_i2l (v := 9999) C dX8_assetsAfter_9 (by decide) ?_
  obtain ⟨y_4, ey_4⟩ : ∃ z : Int64, y_3 * (9999 : Int64) = z := ⟨_, rfl⟩
  refine jj_lmul (v := y_4) C dX8_assetsAfter_10 ey_4 ?_
  refine jj_ldc2 (v := 10000) C dX8_assetsAfter_11 jw_60b8791c95 ?_
  obtain ⟨y_5, ey_5⟩ : ∃ z : Int64, y_4 / (10000 : Int64) = z := ⟨_, rfl⟩
  refine jj_ldiv (v := y_5) C dX8_assetsAfter_14 (by decide) ey_5 ?_
  obtain ⟨y_6, ey_6⟩ : ∃ z : Int64, y_3 + y_5 = z := ⟨_, rfl⟩
  refine jj_ladd (v := y_6) C dX8_assetsAfter_15 ey_6 ?_
  exact jj_lret C ⟨[], pl0, rfl, rfl, hok, hfr, hfa, ⟨y_6, rfl⟩⟩ dX8_assetsAfter_16 (jj_le rfl) (jj_le rfl)

set_option maxHeartbeats 4000000 in
set_option maxRecDepth 100000 in
theorem tc_X8_priceWith_1 {l : Launch} (hl : l.stackTraces = false) (D : va_G) (cA : Nat → ClassId) (ak : (Nat → Nat) × (Nat → Nat)) {Kd : Nat → Nat} (h0 : Nat) (p1 : Int64) (hk0 : Kd h0 = 2) {pl0 : va_W} (hok : tt_ok tt_tk cA Kd pl0) : jj_M l D cA ak yX8_priceWith (.code yX8_priceWith cX8_priceWith 3 (some .long)) 0 0 0 0 ([] ++ pl0) [.ref h0, .long p1] (tt_O (fun rx pl1 r => rx = [] ∧ tt_ok tt_tk cA Kd pl1 ∧ tt_fr Kd [] pl0 pl1 ∧ tt_fa Kd [] pl0 pl1 ∧ ((r = some (.long 1000000)) ∨ (∃ v : Int64, r = some (.long v))))) (tt_OX (fun _ _ _ => False)) := by
  refine jj_start hl (by decide) jw_62a4e9d3ce (jj_le rfl) ?_
  intro p e s m args below meth c A hargs hA C hex hmn
  have hfr := tt_fr.refl (K := Kd) (WS := []) pl0
  have hfa := tt_fa.refl (K := Kd) (WA := []) pl0
  refine jj_aload_n C dX8_priceWith_0 rfl ?_
  refine tt_get C hok jk_9 3 (by decide) jw_dade208d77 (t := (1, (-9223372036854775808), 9223372036854775807)) hk0 (by decide) rfl rfl dX8_priceWith_1 (fun v_1 hv_1 hf_2 => ?_)
  obtain ⟨y_3, rfl, -, -⟩ := tt_vj hv_1
  refine jj_lconst (v := 0) C dX8_priceWith_4 (by decide) ?_
  refine jj_lcmp_le (tgt := 22) C dX8_priceWith_5 dX8_priceWith_6 (by decide) (fun c_4 => ?_) (fun c_4 => ?_)
  · refine jj_ldc2 (v := 1000000) C dX8_priceWith_22 jw_6861b3b77c ?_
    exact jj_lret C ⟨[], pl0, rfl, rfl, hok, hfr, hfa, (Or.inl rfl)⟩ dX8_priceWith_25 (jj_le rfl) (jj_le rfl)
  · refine jj_lload_n C dX8_priceWith_9 rfl ?_
    refine jj_ldc2 (v := 100000) C dX8_priceWith_10 jw_fb244e1aed ?_
    obtain ⟨y_5, ey_5⟩ : ∃ z : Int64, p1 * (100000 : Int64) = z := ⟨_, rfl⟩
    refine jj_lmul (v := y_5) C dX8_priceWith_13 ey_5 ?_
    refine jj_aload_n C dX8_priceWith_14 rfl ?_
    refine tt_getF C hok jk_9 3 (by decide) jw_dade208d77 (t := (1, (-9223372036854775808), 9223372036854775807)) hk0 (by decide) rfl rfl hf_2 dX8_priceWith_15 ?_
    obtain ⟨y_6, ey_6⟩ : ∃ z : Int64, y_5 / y_3 = z := ⟨_, rfl⟩
    refine jj_ldiv (v := y_6) C dX8_priceWith_18 (jt_nzpL (by first | exact Int64.not_le.mp c_4 | exact Int32.not_le.mp c_4)) ey_6 ?_
    refine jj_goto (tgt := 25) C dX8_priceWith_19 (by decide) ?_
    exact jj_lret C ⟨[], pl0, rfl, rfl, hok, hfr, hfa, (Or.inr ⟨y_6, rfl⟩)⟩ dX8_priceWith_25 (jj_le rfl) (jj_le rfl)

set_option maxHeartbeats 4000000 in
set_option maxRecDepth 100000 in
theorem tc_X8_assetsAfter_3 {l : Launch} (hl : l.stackTraces = false) (D : va_G) (cA : Nat → ClassId) (ak : (Nat → Nat) × (Nat → Nat)) {Kd : Nat → Nat} (h0 : Nat) (p1 : Int32) (hk0 : Kd h0 = 2) {pl0 : va_W} (hok : tt_ok tt_tk cA Kd pl0) : jj_M l D cA ak yX8_assetsAfter (.code yX8_assetsAfter cX8_assetsAfter 2 (some .long)) 0 0 0 0 ([] ++ pl0) [.ref h0, .int p1] (tt_O (fun rx pl1 r => rx = [] ∧ tt_ok tt_tk cA Kd pl1 ∧ tt_fr Kd [] pl0 pl1 ∧ tt_fa Kd [] pl0 pl1 ∧ ((∃ v : Int64, r = some (.long v))))) (tt_OX (fun _ _ _ => False)) := by
  refine jj_start hl (by decide) jw_37a3f39914 (jj_le rfl) ?_
  intro p e s m args below meth c A hargs hA C hex hmn
  have hfr := tt_fr.refl (K := Kd) (WS := []) pl0
  have hfa := tt_fa.refl (K := Kd) (WA := []) pl0
  have lp1 := tt_lo p1
  have up1 := tt_hi p1
  refine jj_aload_n C dX8_assetsAfter_0 rfl ?_
  refine tt_get C hok jk_9 2 (by decide) jw_589ef22e6e (t := (1, (-9223372036854775808), 9223372036854775807)) hk0 (by decide) rfl rfl dX8_assetsAfter_1 (fun v_1 hv_1 hf_2 => ?_)
  obtain ⟨y_3, rfl, -, -⟩ := tt_vj hv_1
  refine jj_aload_n C dX8_assetsAfter_4 rfl ?_
  refine tt_getF C hok jk_9 2 (by decide) jw_589ef22e6e (t := (1, (-9223372036854775808), 9223372036854775807)) hk0 (by decide) rfl rfl hf_2 dX8_assetsAfter_5 ?_
  refine jj_iload_n C dX8_assetsAfter_8 rfl ?_
  obtain ⟨y_4, ey_4, vy_4⟩ := tt_i2l p1
  refine jj_i2l (v := y_4) C dX8_assetsAfter_9 ey_4 ?_
  obtain ⟨y_5, ey_5⟩ : ∃ z : Int64, y_3 * y_4 = z := ⟨_, rfl⟩
  refine jj_lmul (v := y_5) C dX8_assetsAfter_10 ey_5 ?_
  refine jj_ldc2 (v := 10000) C dX8_assetsAfter_11 jw_60b8791c95 ?_
  obtain ⟨y_6, ey_6⟩ : ∃ z : Int64, y_5 / (10000 : Int64) = z := ⟨_, rfl⟩
  refine jj_ldiv (v := y_6) C dX8_assetsAfter_14 (by decide) ey_6 ?_
  obtain ⟨y_7, ey_7⟩ : ∃ z : Int64, y_3 + y_6 = z := ⟨_, rfl⟩
  refine jj_ladd (v := y_7) C dX8_assetsAfter_15 ey_7 ?_
  exact jj_lret C ⟨[], pl0, rfl, rfl, hok, hfr, hfa, ⟨y_7, rfl⟩⟩ dX8_assetsAfter_16 (jj_le rfl) (jj_le rfl)

set_option maxHeartbeats 4000000 in
set_option maxRecDepth 100000 in
theorem tc_X10_breakEven_1 {l : Launch} (hl : l.stackTraces = false) (D : va_G) (cA : Nat → ClassId) (ak : (Nat → Nat) × (Nat → Nat)) {Kd : Nat → Nat} (h0 : Nat) (p1 : Int32) (hk0 : Kd h0 = 15) {pl0 : va_W} (hok : tt_ok tt_tk cA Kd pl0) : jj_M l D cA ak yX10_breakEven (.code yX10_breakEven cX10_breakEven 7 (some .int)) 8 124 2 12 ([] ++ pl0) [.ref h0, .int p1] (tt_O (fun rx pl1 r => rx = [] ∧ tt_ok tt_tk cA Kd pl1 ∧ tt_fr Kd [] pl0 pl1 ∧ tt_fa Kd [] pl0 pl1 ∧ ((∃ v : Int32, (-2147483648 : Int) ≤ v.toInt ∧ v.toInt ≤ 2147483647 ∧ r = some (.int v))))) (tt_OX (fun E rx pl1 => rx = [] ∧ tt_ok tt_tk cA Kd pl1 ∧ tt_fr Kd [] pl0 pl1 ∧ tt_fa Kd [] pl0 pl1 ∧ (E = "java/lang/IndexOutOfBoundsException" ∨ E = "java/util/NoSuchElementException"))) := by
  refine jj_start hl (by decide) jw_0a8c1a0f57 (jj_le rfl) ?_
  intro p e s m args below meth c A hargs hA C hex hmn
  have hfr := tt_fr.refl (K := Kd) (WS := []) pl0
  have hfa := tt_fa.refl (K := Kd) (WA := []) pl0
  have lp1 := tt_lo p1
  have up1 := tt_hi p1
  refine jj_aload_n C dX10_breakEven_0 rfl ?_
  refine tt_get C hok jk_11 3 (by decide) jw_f82a97e333 (t := (2, 1, 0)) hk0 (by decide) rfl rfl dX10_breakEven_1 (fun v_1 hv_1 hf_2 => ?_)
  obtain ⟨a_3, rfl, ka_3⟩ := tt_vr hv_1
  refine tt_get C hok jk_2 11 (by decide) jw_5e6427264b (t := (2, 6, 0)) ka_3 (by decide) rfl rfl dX10_breakEven_4 (fun v_4 hv_4 hf_5 => ?_)
  obtain ⟨a_6, rfl, ka_6⟩ := tt_vr hv_4
  refine jj_aload_n C dX10_breakEven_7 rfl ?_
  refine jj_iload_n C dX10_breakEven_8 rfl ?_
  obtain ⟨qc, gs, hqc⟩ := tt_recv (cx := []) hok hk0 (by decide) rfl
  refine tt_callV (rest := [.ref a_6]) C (tc_X10_placeOf_1 hl D cA ak h0 p1 hk0 hok) [] [] rfl rfl (by decide) (by decide) (by decide) qc hqc rfl rfl jw_58e2ad5394 jw_525f0659e7 jw_f9e77116d6 jw_6f6d707074 jw_94c9b2f9a1 jn_X10_placeOf rfl (jj_le rfl) (jj_le rfl) (jj_le rfl) (jj_le rfl) (jj_le rfl) dX10_breakEven_9 rfl (fun E rx pl_7 X_11 => ?_) (fun rx pl_7 r O_10 => ?_)
  · obtain ⟨rfl, hok_8, hr_9, hfa9, hE_12⟩ := X_11
    replace hf_2 := hr_9.at hk0 (by decide) (by decide) hf_2
    replace hf_5 := hr_9.at ka_3 (by decide) (by decide) hf_5
    replace hfr := hfr.trans (hr_9.sub (by decide))
    replace hfa := hfa.trans (hfa9.sub (by decide))
    obtain rfl := hE_12
    exact jj_out C hex ⟨[], pl_7, rfl, rfl, hok_8, hfr, hfa, (Or.inl rfl)⟩ (jj_le rfl) (jj_le rfl)
  · obtain ⟨rfl, hok_8, hr_9, hfa9, hR_15⟩ := O_10
    replace hf_2 := hr_9.at hk0 (by decide) (by decide) hf_2
    replace hf_5 := hr_9.at ka_3 (by decide) (by decide) hf_5
    replace hfr := hfr.trans (hr_9.sub (by decide))
    replace hfa := hfa.trans (hfa9.sub (by decide))
    obtain ⟨x_18, lx_18, ux_18, rfl⟩ := hR_15
    refine tt_aald C hok_8 (t := (2, 2, 0)) ka_6 (by decide) rfl rfl rfl (vp_in_iff.mpr ⟨by omega, by omega⟩) dX10_breakEven_12 (fun v_19 hv_19 => ?_)
    obtain ⟨a_20, rfl, ka_20⟩ := tt_vr hv_19
    refine jj_astore_n C dX10_breakEven_13 (by decide) rfl ?_
    refine jj_aload_n C dX10_breakEven_14 rfl ?_
    refine jj_aload_n C dX10_breakEven_15 rfl ?_
    refine jj_sipush (v := 9999) C dX10_breakEven_16 (by decide) ?_
    obtain ⟨qc, gs, hqc⟩ := tt_recv (cx := []) hok_8 ka_20 (by decide) rfl
    refine tt_callV (rest := [.ref a_20]) C (tc_X8_assetsAfter_2 hl D cA ak a_20 ka_20 hok_8) [] [] rfl rfl (by decide) (by decide) (by decide) qc hqc rfl rfl jw_844ae35f40 jw_f7b9340b8f jw_ed03d6c861 jw_364e75910d jw_37a3f39914 jn_X8_assetsAfter rfl (jj_le rfl) (jj_le rfl) (jj_le rfl) (jj_le rfl) (jj_le rfl) dX10_breakEven_19 rfl (fun _ _ _ hX => hX.elim) (fun rx pl_21 r O_24 => ?_)
    obtain ⟨rfl, hok_22, hr_23, hfa9, hR_26⟩ := O_24
    replace hf_2 := hr_23.at hk0 (by decide) (by decide) hf_2
    replace hf_5 := hr_23.at ka_3 (by decide) (by decide) hf_5
    replace hfr := hfr.trans (hr_23.sub (by decide))
    replace hfa := hfa.trans (hfa9.sub (by decide))
    obtain ⟨y_29, rfl⟩ := hR_26
    obtain ⟨qc, gs, hqc⟩ := tt_recv (cx := []) hok_22 ka_20 (by decide) rfl
    refine tt_callV (rest := []) C (tc_X8_priceWith_1 hl D cA ak a_20 y_29 ka_20 hok_22) [] [] rfl rfl (by decide) (by decide) (by decide) qc hqc rfl rfl jw_510b108555 jw_2e72231b40 jw_b9c09a9015 jw_364e75910d jw_62a4e9d3ce jn_X8_priceWith rfl (jj_le rfl) (jj_le rfl) (jj_le rfl) (jj_le rfl) (jj_le rfl) dX10_breakEven_22 rfl (fun _ _ _ hX => hX.elim) (fun rx pl_30 r O_33 => ?_)
    obtain ⟨rfl, hok_31, hr_32, hfa9, hR_35⟩ := O_33
    replace hf_2 := hr_32.at hk0 (by decide) (by decide) hf_2
    replace hf_5 := hr_32.at ka_3 (by decide) (by decide) hf_5
    replace hfr := hfr.trans (hr_32.sub (by decide))
    replace hfa := hfa.trans (hfa9.sub (by decide))
    rcases hR_35 with rfl | ⟨y_38, rfl⟩
    · refine jj_aload_n C dX10_breakEven_25 rfl ?_
      refine tt_get C hok_31 jk_9 4 (by decide) jw_c12516f493 (t := (1, (-9223372036854775808), 9223372036854775807)) ka_20 (by decide) rfl rfl dX10_breakEven_26 (fun v_39 hv_39 hf_40 => ?_)
      obtain ⟨y_41, rfl, -, -⟩ := tt_vj hv_39
      refine jj_lcmp_ge (tgt := 44) C dX10_breakEven_29 dX10_breakEven_30 (by decide) (fun c_42 => ?_) (fun c_42 => ?_)
      · refine jj_sipush (v := (-9000)) C dX10_breakEven_44 (by decide) ?_
        refine jj_istore_n C dX10_breakEven_47 (by decide) rfl ?_
        refine jj_sipush (v := 9999) C dX10_breakEven_48 (by decide) ?_
        refine jj_istore C dX10_breakEven_51 (by decide) rfl ?_
        refine jj_iconst (v := 0) C dX10_breakEven_53 (by decide) ?_
        refine jj_istore C dX10_breakEven_54 (by decide) rfl ?_
        have hL_43 : ∀ (N : Nat) (pl : va_W) (x_44 : Int32) (x_45 : Int32) (x_46 : Int32), True → tt_ok tt_tk cA Kd pl → tt_fr Kd [] pl0 pl → tt_fa Kd [] pl0 pl → tt_at pl h0 3 (.ref a_3) → tt_at pl a_3 11 (.ref a_6) → tt_at pl a_20 4 (.long y_41) → (0 : Int) ≤ x_44.toInt → x_44.toInt ≤ 40 → (-2147483648 : Int) ≤ x_45.toInt → x_45.toInt ≤ 2147483647 → (-2147483648 : Int) ≤ x_46.toInt → x_46.toInt ≤ 2147483647 → (2147483648 - x_44.toInt ≤ (N : Int)) → jj_J p l e (jj_rm 8 124 2 12) s m args below meth c 7 A (vx_MQ below (jj_q D A (tt_O (fun rx pl1 r => rx = [] ∧ tt_ok tt_tk cA Kd pl1 ∧ tt_fr Kd [] pl0 pl1 ∧ tt_fa Kd [] pl0 pl1 ∧ ((∃ v : Int32, (-2147483648 : Int) ≤ v.toInt ∧ v.toInt ≤ 2147483647 ∧ r = some (.int v)))))) (jj_x D A (tt_OX (fun E rx pl1 => rx = [] ∧ tt_ok tt_tk cA Kd pl1 ∧ tt_fr Kd [] pl0 pl1 ∧ tt_fa Kd [] pl0 pl1 ∧ (E = "java/lang/IndexOutOfBoundsException" ∨ E = "java/util/NoSuchElementException")))) args s 2 12 A) (jj_X D A ([] ++ pl)) 1 6 56 [(5, .int x_44), (4, .int x_45), (3, .int x_46), (2, .ref a_20), (0, .ref h0), (1, .int p1)] [] := by
          intro NL_43
          induction NL_43 with
          | zero => intro pl x_44 x_45 x_46 _ hok hfr hfa hf_47 hf_48 hf_49 lx_44 ux_44 lx_45 ux_45 lx_46 ux_46 hNL_43; exfalso; omega
          | succ NL_43 ihL_43 =>
            intro pl x_44 x_45 x_46 _ hok hfr hfa hf_47 hf_48 hf_49 lx_44 ux_44 lx_45 ux_45 lx_46 ux_46 hNL_43
            replace ihL_43 := fun pl x_44 x_45 x_46 h1 => ihL_43 pl x_44 x_45 x_46 trivial h1
            refine jj_iload C dX10_breakEven_56 rfl ?_
            refine jj_bipush (v := 32) C dX10_breakEven_58 (by decide) ?_
            refine jj_icmp_ge (tgt := 115) C dX10_breakEven_60 (by decide) (fun c_50 => ?_) (fun c_50 => ?_)
            · have z_c_50 := jc_le (a := (32)) (b := (x_44).toInt) c_50 (by decide) rfl
              refine jj_iload_n C dX10_breakEven_115 rfl ?_
              exact jj_iret C ⟨[], pl, rfl, rfl, hok, hfr, hfa, ⟨x_46, (by first | omega | exact tt_lo _ | exact tt_hi _), (by first | omega | exact tt_lo _ | exact tt_hi _), rfl⟩⟩ dX10_breakEven_116 (jj_le rfl) (jj_le rfl)
            · have z_c_50 := jc_nle (a := (32)) (b := (x_44).toInt) c_50 (by decide) rfl
              refine jj_iload_n C dX10_breakEven_63 rfl ?_
              refine jj_iload C dX10_breakEven_64 rfl ?_
              refine jj_icmp_ge (tgt := 115) C dX10_breakEven_66 (by decide) (fun c_51 => ?_) (fun c_51 => ?_)
              · have z_c_51 := jc_le (a := (x_45).toInt) (b := (x_46).toInt) c_51 rfl rfl
                refine jj_iload_n C dX10_breakEven_115 rfl ?_
                exact jj_iret C ⟨[], pl, rfl, rfl, hok, hfr, hfa, ⟨x_46, (by first | omega | exact tt_lo _ | exact tt_hi _), (by first | omega | exact tt_lo _ | exact tt_hi _), rfl⟩⟩ dX10_breakEven_116 (jj_le rfl) (jj_le rfl)
              · have z_c_51 := jc_nle (a := (x_45).toInt) (b := (x_46).toInt) c_51 rfl rfl
                refine jj_iload_n C dX10_breakEven_69 rfl ?_
                refine jj_iload C dX10_breakEven_70 rfl ?_
                obtain ⟨x_52, ex_52⟩ : ∃ z : Int32, x_46 + x_45 = z := ⟨_, rfl⟩
                refine jj_iadd (v := x_52) C dX10_breakEven_72 ex_52 ?_
                refine jj_iconst (v := 2) C dX10_breakEven_73 (by decide) ?_
                refine tt_call0S (rest := []) C (ct_J9_floorDiv_7cf53_1 hl D cA ak x_52) jw_bdc927d6c1 jw_7ca1dfa404 jw_a731c8553d jw_44648bf58a jn_J9_floorDiv_7cf53 rfl (jj_le rfl) (jj_le rfl) (jj_le rfl) (jj_le rfl) (jj_le rfl) dX10_breakEven_74 rfl (fun w1 r O_53 => ?_)
                rcases O_53 with ⟨c_54, -, rfl⟩ | ⟨c_55, c_56, -, rfl⟩ | ⟨c_57, c_58, -, rfl⟩
                · refine jj_istore C dX10_breakEven_77 (by decide) rfl ?_
                  refine jj_aload_n C dX10_breakEven_79 rfl ?_
                  refine jj_aload_n C dX10_breakEven_80 rfl ?_
                  refine jj_iload C dX10_breakEven_81 rfl ?_
                  obtain ⟨qc, gs, hqc⟩ := tt_recv (cx := []) hok ka_20 (by decide) rfl
                  refine tt_callV (rest := [.ref a_20]) C (tc_X8_assetsAfter_3 hl D cA ak a_20 (x_52 / 2) ka_20 hok) [] [] rfl rfl (by decide) (by decide) (by decide) qc hqc rfl rfl jw_844ae35f40 jw_f7b9340b8f jw_ed03d6c861 jw_364e75910d jw_37a3f39914 jn_X8_assetsAfter rfl (jj_le rfl) (jj_le rfl) (jj_le rfl) (jj_le rfl) (jj_le rfl) dX10_breakEven_83 rfl (fun _ _ _ hX => hX.elim) (fun rx pl_59 r O_62 => ?_)
                  obtain ⟨rfl, hok_60, hr_61, hfa9, hR_64⟩ := O_62
                  replace hf_47 := hr_61.at hk0 (by decide) (by decide) hf_47
                  replace hf_48 := hr_61.at ka_3 (by decide) (by decide) hf_48
                  replace hf_49 := hr_61.at ka_20 (by decide) (by decide) hf_49
                  replace hfr := hfr.trans (hr_61.sub (by decide))
                  replace hfa := hfa.trans (hfa9.sub (by decide))
                  obtain ⟨y_67, rfl⟩ := hR_64
                  obtain ⟨qc, gs, hqc⟩ := tt_recv (cx := []) hok_60 ka_20 (by decide) rfl
                  refine tt_callV (rest := []) C (tc_X8_priceWith_1 hl D cA ak a_20 y_67 ka_20 hok_60) [] [] rfl rfl (by decide) (by decide) (by decide) qc hqc rfl rfl jw_510b108555 jw_2e72231b40 jw_b9c09a9015 jw_364e75910d jw_62a4e9d3ce jn_X8_priceWith rfl (jj_le rfl) (jj_le rfl) (jj_le rfl) (jj_le rfl) (jj_le rfl) dX10_breakEven_86 rfl (fun _ _ _ hX => hX.elim) (fun rx pl_68 r O_71 => ?_)
                  obtain ⟨rfl, hok_69, hr_70, hfa9, hR_73⟩ := O_71
                  replace hf_47 := hr_70.at hk0 (by decide) (by decide) hf_47
                  replace hf_48 := hr_70.at ka_3 (by decide) (by decide) hf_48
                  replace hf_49 := hr_70.at ka_20 (by decide) (by decide) hf_49
                  replace hfr := hfr.trans (hr_70.sub (by decide))
                  replace hfa := hfa.trans (hfa9.sub (by decide))
                  rcases hR_73 with rfl | ⟨y_76, rfl⟩
                  · refine jj_aload_n C dX10_breakEven_89 rfl ?_
                    refine tt_getF C hok_69 jk_9 4 (by decide) jw_c12516f493 (t := (1, (-9223372036854775808), 9223372036854775807)) ka_20 (by decide) rfl rfl hf_49 dX10_breakEven_90 ?_
                    refine jj_lcmp_geT (tgt := 105) C dX10_breakEven_93 dX10_breakEven_94 (by decide) c_42 ?_
                    refine jj_iload C dX10_breakEven_105 rfl ?_
                    refine jj_istore C dX10_breakEven_107 (by decide) rfl ?_
                    obtain ⟨x_77, ex_77, vx_77⟩ := tt_inc (x := x_44) (n := 1) (by omega) (by omega)
                    refine jj_iinc (v := x_77) C dX10_breakEven_109 rfl ex_77 (by decide) rfl ?_
                    refine jj_goto (tgt := 56) C dX10_breakEven_112 (by decide) ?_
                    refine jj_loc [0, 1, 3, 4, 5, 6] rfl ?_
                    exact ihL_43 pl_68 x_77 (x_52 / 2) x_46 hok_69 hfr hfa hf_47 hf_48 hf_49 (by first | omega | decide | exact tt_lo _ | exact tt_hi _) (by first | omega | decide | exact tt_lo _ | exact tt_hi _) (by first | omega | decide | exact tt_lo _ | exact tt_hi _) (by first | omega | decide | exact tt_lo _ | exact tt_hi _) (by first | omega | decide | exact tt_lo _ | exact tt_hi _) (by first | omega | decide | exact tt_lo _ | exact tt_hi _) (by first | omega | decide | exact tt_lo _ | exact tt_hi _)
                  · refine jj_aload_n C dX10_breakEven_89 rfl ?_
                    refine tt_getF C hok_69 jk_9 4 (by decide) jw_c12516f493 (t := (1, (-9223372036854775808), 9223372036854775807)) ka_20 (by decide) rfl rfl hf_49 dX10_breakEven_90 ?_
                    refine jj_lcmp_ge (tgt := 105) C dX10_breakEven_93 dX10_breakEven_94 (by decide) (fun c_78 => ?_) (fun c_78 => ?_)
                    · refine jj_iload C dX10_breakEven_105 rfl ?_
                      refine jj_istore C dX10_breakEven_107 (by decide) rfl ?_
                      obtain ⟨x_79, ex_79, vx_79⟩ := tt_inc (x := x_44) (n := 1) (by omega) (by omega)
                      refine jj_iinc (v := x_79) C dX10_breakEven_109 rfl ex_79 (by decide) rfl ?_
                      refine jj_goto (tgt := 56) C dX10_breakEven_112 (by decide) ?_
                      refine jj_loc [0, 1, 3, 4, 5, 6] rfl ?_
                      exact ihL_43 pl_68 x_79 (x_52 / 2) x_46 hok_69 hfr hfa hf_47 hf_48 hf_49 (by first | omega | decide | exact tt_lo _ | exact tt_hi _) (by first | omega | decide | exact tt_lo _ | exact tt_hi _) (by first | omega | decide | exact tt_lo _ | exact tt_hi _) (by first | omega | decide | exact tt_lo _ | exact tt_hi _) (by first | omega | decide | exact tt_lo _ | exact tt_hi _) (by first | omega | decide | exact tt_lo _ | exact tt_hi _) (by first | omega | decide | exact tt_lo _ | exact tt_hi _)
                    · refine jj_iload C dX10_breakEven_97 rfl ?_
                      refine jj_iconst (v := 1) C dX10_breakEven_99 (by decide) ?_
                      obtain ⟨x_80, ex_80⟩ : ∃ z : Int32, (x_52 / 2) + (1 : Int32) = z := ⟨_, rfl⟩
                      refine jj_iadd (v := x_80) C dX10_breakEven_100 ex_80 ?_
                      refine jj_istore_n C dX10_breakEven_101 (by decide) rfl ?_
                      refine jj_goto (tgt := 109) C dX10_breakEven_102 (by decide) ?_
                      obtain ⟨x_81, ex_81, vx_81⟩ := tt_inc (x := x_44) (n := 1) (by omega) (by omega)
                      refine jj_iinc (v := x_81) C dX10_breakEven_109 rfl ex_81 (by decide) rfl ?_
                      refine jj_goto (tgt := 56) C dX10_breakEven_112 (by decide) ?_
                      refine jj_loc [0, 3, 1, 4, 5, 6] rfl ?_
                      exact ihL_43 pl_68 x_81 x_45 x_80 hok_69 hfr hfa hf_47 hf_48 hf_49 (by first | omega | decide | exact tt_lo _ | exact tt_hi _) (by first | omega | decide | exact tt_lo _ | exact tt_hi _) (by first | omega | decide | exact tt_lo _ | exact tt_hi _) (by first | omega | decide | exact tt_lo _ | exact tt_hi _) (by first | omega | decide | exact tt_lo _ | exact tt_hi _) (by first | omega | decide | exact tt_lo _ | exact tt_hi _) (by first | omega | decide | exact tt_lo _ | exact tt_hi _)
                · refine jj_istore C dX10_breakEven_77 (by decide) rfl ?_
                  refine jj_aload_n C dX10_breakEven_79 rfl ?_
                  refine jj_aload_n C dX10_breakEven_80 rfl ?_
                  refine jj_iload C dX10_breakEven_81 rfl ?_
                  obtain ⟨qc, gs, hqc⟩ := tt_recv (cx := []) hok ka_20 (by decide) rfl
                  refine tt_callV (rest := [.ref a_20]) C (tc_X8_assetsAfter_3 hl D cA ak a_20 (x_52 / 2) ka_20 hok) [] [] rfl rfl (by decide) (by decide) (by decide) qc hqc rfl rfl jw_844ae35f40 jw_f7b9340b8f jw_ed03d6c861 jw_364e75910d jw_37a3f39914 jn_X8_assetsAfter rfl (jj_le rfl) (jj_le rfl) (jj_le rfl) (jj_le rfl) (jj_le rfl) dX10_breakEven_83 rfl (fun _ _ _ hX => hX.elim) (fun rx pl_82 r O_85 => ?_)
                  obtain ⟨rfl, hok_83, hr_84, hfa9, hR_87⟩ := O_85
                  replace hf_47 := hr_84.at hk0 (by decide) (by decide) hf_47
                  replace hf_48 := hr_84.at ka_3 (by decide) (by decide) hf_48
                  replace hf_49 := hr_84.at ka_20 (by decide) (by decide) hf_49
                  replace hfr := hfr.trans (hr_84.sub (by decide))
                  replace hfa := hfa.trans (hfa9.sub (by decide))
                  obtain ⟨y_90, rfl⟩ := hR_87
                  obtain ⟨qc, gs, hqc⟩ := tt_recv (cx := []) hok_83 ka_20 (by decide) rfl
                  refine tt_callV (rest := []) C (tc_X8_priceWith_1 hl D cA ak a_20 y_90 ka_20 hok_83) [] [] rfl rfl (by decide) (by decide) (by decide) qc hqc rfl rfl jw_510b108555 jw_2e72231b40 jw_b9c09a9015 jw_364e75910d jw_62a4e9d3ce jn_X8_priceWith rfl (jj_le rfl) (jj_le rfl) (jj_le rfl) (jj_le rfl) (jj_le rfl) dX10_breakEven_86 rfl (fun _ _ _ hX => hX.elim) (fun rx pl_91 r O_94 => ?_)
                  obtain ⟨rfl, hok_92, hr_93, hfa9, hR_96⟩ := O_94
                  replace hf_47 := hr_93.at hk0 (by decide) (by decide) hf_47
                  replace hf_48 := hr_93.at ka_3 (by decide) (by decide) hf_48
                  replace hf_49 := hr_93.at ka_20 (by decide) (by decide) hf_49
                  replace hfr := hfr.trans (hr_93.sub (by decide))
                  replace hfa := hfa.trans (hfa9.sub (by decide))
                  rcases hR_96 with rfl | ⟨y_99, rfl⟩
                  · refine jj_aload_n C dX10_breakEven_89 rfl ?_
                    refine tt_getF C hok_92 jk_9 4 (by decide) jw_c12516f493 (t := (1, (-9223372036854775808), 9223372036854775807)) ka_20 (by decide) rfl rfl hf_49 dX10_breakEven_90 ?_
                    refine jj_lcmp_geT (tgt := 105) C dX10_breakEven_93 dX10_breakEven_94 (by decide) c_42 ?_
                    refine jj_iload C dX10_breakEven_105 rfl ?_
                    refine jj_istore C dX10_breakEven_107 (by decide) rfl ?_
                    obtain ⟨x_100, ex_100, vx_100⟩ := tt_inc (x := x_44) (n := 1) (by omega) (by omega)
                    refine jj_iinc (v := x_100) C dX10_breakEven_109 rfl ex_100 (by decide) rfl ?_
                    refine jj_goto (tgt := 56) C dX10_breakEven_112 (by decide) ?_
                    refine jj_loc [0, 1, 3, 4, 5, 6] rfl ?_
                    exact ihL_43 pl_91 x_100 (x_52 / 2) x_46 hok_92 hfr hfa hf_47 hf_48 hf_49 (by first | omega | decide | exact tt_lo _ | exact tt_hi _) (by first | omega | decide | exact tt_lo _ | exact tt_hi _) (by first | omega | decide | exact tt_lo _ | exact tt_hi _) (by first | omega | decide | exact tt_lo _ | exact tt_hi _) (by first | omega | decide | exact tt_lo _ | exact tt_hi _) (by first | omega | decide | exact tt_lo _ | exact tt_hi _) (by first | omega | decide | exact tt_lo _ | exact tt_hi _)
                  · refine jj_aload_n C dX10_breakEven_89 rfl ?_
                    refine tt_getF C hok_92 jk_9 4 (by decide) jw_c12516f493 (t := (1, (-9223372036854775808), 9223372036854775807)) ka_20 (by decide) rfl rfl hf_49 dX10_breakEven_90 ?_
                    refine jj_lcmp_ge (tgt := 105) C dX10_breakEven_93 dX10_breakEven_94 (by decide) (fun c_101 => ?_) (fun c_101 => ?_)
                    · refine jj_iload C dX10_breakEven_105 rfl ?_
                      refine jj_istore C dX10_breakEven_107 (by decide) rfl ?_
                      obtain ⟨x_102, ex_102, vx_102⟩ := tt_inc (x := x_44) (n := 1) (by omega) (by omega)
                      refine jj_iinc (v := x_102) C dX10_breakEven_109 rfl ex_102 (by decide) rfl ?_
                      refine jj_goto (tgt := 56) C dX10_breakEven_112 (by decide) ?_
                      refine jj_loc [0, 1, 3, 4, 5, 6] rfl ?_
                      exact ihL_43 pl_91 x_102 (x_52 / 2) x_46 hok_92 hfr hfa hf_47 hf_48 hf_49 (by first | omega | decide | exact tt_lo _ | exact tt_hi _) (by first | omega | decide | exact tt_lo _ | exact tt_hi _) (by first | omega | decide | exact tt_lo _ | exact tt_hi _) (by first | omega | decide | exact tt_lo _ | exact tt_hi _) (by first | omega | decide | exact tt_lo _ | exact tt_hi _) (by first | omega | decide | exact tt_lo _ | exact tt_hi _) (by first | omega | decide | exact tt_lo _ | exact tt_hi _)
                    · refine jj_iload C dX10_breakEven_97 rfl ?_
                      refine jj_iconst (v := 1) C dX10_breakEven_99 (by decide) ?_
                      obtain ⟨x_103, ex_103⟩ : ∃ z : Int32, (x_52 / 2) + (1 : Int32) = z := ⟨_, rfl⟩
                      refine jj_iadd (v := x_103) C dX10_breakEven_100 ex_103 ?_
                      refine jj_istore_n C dX10_breakEven_101 (by decide) rfl ?_
                      refine jj_goto (tgt := 109) C dX10_breakEven_102 (by decide) ?_
                      obtain ⟨x_104, ex_104, vx_104⟩ := tt_inc (x := x_44) (n := 1) (by omega) (by omega)
                      refine jj_iinc (v := x_104) C dX10_breakEven_109 rfl ex_104 (by decide) rfl ?_
                      refine jj_goto (tgt := 56) C dX10_breakEven_112 (by decide) ?_
                      refine jj_loc [0, 3, 1, 4, 5, 6] rfl ?_
                      exact ihL_43 pl_91 x_104 x_45 x_103 hok_92 hfr hfa hf_47 hf_48 hf_49 (by first | omega | decide | exact tt_lo _ | exact tt_hi _) (by first | omega | decide | exact tt_lo _ | exact tt_hi _) (by first | omega | decide | exact tt_lo _ | exact tt_hi _) (by first | omega | decide | exact tt_lo _ | exact tt_hi _) (by first | omega | decide | exact tt_lo _ | exact tt_hi _) (by first | omega | decide | exact tt_lo _ | exact tt_hi _) (by first | omega | decide | exact tt_lo _ | exact tt_hi _)
                · refine jj_istore C dX10_breakEven_77 (by decide) rfl ?_
                  refine jj_aload_n C dX10_breakEven_79 rfl ?_
                  refine jj_aload_n C dX10_breakEven_80 rfl ?_
                  refine jj_iload C dX10_breakEven_81 rfl ?_
                  obtain ⟨qc, gs, hqc⟩ := tt_recv (cx := []) hok ka_20 (by decide) rfl
                  refine tt_callV (rest := [.ref a_20]) C (tc_X8_assetsAfter_3 hl D cA ak a_20 ((x_52 / 2) - 1) ka_20 hok) [] [] rfl rfl (by decide) (by decide) (by decide) qc hqc rfl rfl jw_844ae35f40 jw_f7b9340b8f jw_ed03d6c861 jw_364e75910d jw_37a3f39914 jn_X8_assetsAfter rfl (jj_le rfl) (jj_le rfl) (jj_le rfl) (jj_le rfl) (jj_le rfl) dX10_breakEven_83 rfl (fun _ _ _ hX => hX.elim) (fun rx pl_105 r O_108 => ?_)
                  obtain ⟨rfl, hok_106, hr_107, hfa9, hR_110⟩ := O_108
                  replace hf_47 := hr_107.at hk0 (by decide) (by decide) hf_47
                  replace hf_48 := hr_107.at ka_3 (by decide) (by decide) hf_48
                  replace hf_49 := hr_107.at ka_20 (by decide) (by decide) hf_49
                  replace hfr := hfr.trans (hr_107.sub (by decide))
                  replace hfa := hfa.trans (hfa9.sub (by decide))
                  obtain ⟨y_113, rfl⟩ := hR_110
                  obtain ⟨qc, gs, hqc⟩ := tt_recv (cx := []) hok_106 ka_20 (by decide) rfl
                  refine tt_callV (rest := []) C (tc_X8_priceWith_1 hl D cA ak a_20 y_113 ka_20 hok_106) [] [] rfl rfl (by decide) (by decide) (by decide) qc hqc rfl rfl jw_510b108555 jw_2e72231b40 jw_b9c09a9015 jw_364e75910d jw_62a4e9d3ce jn_X8_priceWith rfl (jj_le rfl) (jj_le rfl) (jj_le rfl) (jj_le rfl) (jj_le rfl) dX10_breakEven_86 rfl (fun _ _ _ hX => hX.elim) (fun rx pl_114 r O_117 => ?_)
                  obtain ⟨rfl, hok_115, hr_116, hfa9, hR_119⟩ := O_117
                  replace hf_47 := hr_116.at hk0 (by decide) (by decide) hf_47
                  replace hf_48 := hr_116.at ka_3 (by decide) (by decide) hf_48
                  replace hf_49 := hr_116.at ka_20 (by decide) (by decide) hf_49
                  replace hfr := hfr.trans (hr_116.sub (by decide))
                  replace hfa := hfa.trans (hfa9.sub (by decide))
                  rcases hR_119 with rfl | ⟨y_122, rfl⟩
                  · refine jj_aload_n C dX10_breakEven_89 rfl ?_
                    refine tt_getF C hok_115 jk_9 4 (by decide) jw_c12516f493 (t := (1, (-9223372036854775808), 9223372036854775807)) ka_20 (by decide) rfl rfl hf_49 dX10_breakEven_90 ?_
                    refine jj_lcmp_geT (tgt := 105) C dX10_breakEven_93 dX10_breakEven_94 (by decide) c_42 ?_
                    refine jj_iload C dX10_breakEven_105 rfl ?_
                    refine jj_istore C dX10_breakEven_107 (by decide) rfl ?_
                    obtain ⟨x_123, ex_123, vx_123⟩ := tt_inc (x := x_44) (n := 1) (by omega) (by omega)
                    refine jj_iinc (v := x_123) C dX10_breakEven_109 rfl ex_123 (by decide) rfl ?_
                    refine jj_goto (tgt := 56) C dX10_breakEven_112 (by decide) ?_
                    refine jj_loc [0, 1, 3, 4, 5, 6] rfl ?_
                    exact ihL_43 pl_114 x_123 ((x_52 / 2) - 1) x_46 hok_115 hfr hfa hf_47 hf_48 hf_49 (by first | omega | decide | exact tt_lo _ | exact tt_hi _) (by first | omega | decide | exact tt_lo _ | exact tt_hi _) (by first | omega | decide | exact tt_lo _ | exact tt_hi _) (by first | omega | decide | exact tt_lo _ | exact tt_hi _) (by first | omega | decide | exact tt_lo _ | exact tt_hi _) (by first | omega | decide | exact tt_lo _ | exact tt_hi _) (by first | omega | decide | exact tt_lo _ | exact tt_hi _)
                  · refine jj_aload_n C dX10_breakEven_89 rfl ?_
                    refine tt_getF C hok_115 jk_9 4 (by decide) jw_c12516f493 (t := (1, (-9223372036854775808), 9223372036854775807)) ka_20 (by decide) rfl rfl hf_49 dX10_breakEven_90 ?_
                    refine jj_lcmp_ge (tgt := 105) C dX10_breakEven_93 dX10_breakEven_94 (by decide) (fun c_124 => ?_) (fun c_124 => ?_)
                    · refine jj_iload C dX10_breakEven_105 rfl ?_
                      refine jj_istore C dX10_breakEven_107 (by decide) rfl ?_
                      obtain ⟨x_125, ex_125, vx_125⟩ := tt_inc (x := x_44) (n := 1) (by omega) (by omega)
                      refine jj_iinc (v := x_125) C dX10_breakEven_109 rfl ex_125 (by decide) rfl ?_
                      refine jj_goto (tgt := 56) C dX10_breakEven_112 (by decide) ?_
                      refine jj_loc [0, 1, 3, 4, 5, 6] rfl ?_
                      exact ihL_43 pl_114 x_125 ((x_52 / 2) - 1) x_46 hok_115 hfr hfa hf_47 hf_48 hf_49 (by first | omega | decide | exact tt_lo _ | exact tt_hi _) (by first | omega | decide | exact tt_lo _ | exact tt_hi _) (by first | omega | decide | exact tt_lo _ | exact tt_hi _) (by first | omega | decide | exact tt_lo _ | exact tt_hi _) (by first | omega | decide | exact tt_lo _ | exact tt_hi _) (by first | omega | decide | exact tt_lo _ | exact tt_hi _) (by first | omega | decide | exact tt_lo _ | exact tt_hi _)
                    · refine jj_iload C dX10_breakEven_97 rfl ?_
                      refine jj_iconst (v := 1) C dX10_breakEven_99 (by decide) ?_
                      obtain ⟨x_126, ex_126⟩ : ∃ z : Int32, ((x_52 / 2) - 1) + (1 : Int32) = z := ⟨_, rfl⟩
                      refine jj_iadd (v := x_126) C dX10_breakEven_100 ex_126 ?_
                      refine jj_istore_n C dX10_breakEven_101 (by decide) rfl ?_
                      refine jj_goto (tgt := 109) C dX10_breakEven_102 (by decide) ?_
                      obtain ⟨x_127, ex_127, vx_127⟩ := tt_inc (x := x_44) (n := 1) (by omega) (by omega)
                      refine jj_iinc (v := x_127) C dX10_breakEven_109 rfl ex_127 (by decide) rfl ?_
                      refine jj_goto (tgt := 56) C dX10_breakEven_112 (by decide) ?_
                      refine jj_loc [0, 3, 1, 4, 5, 6] rfl ?_
                      exact ihL_43 pl_114 x_127 x_45 x_126 hok_115 hfr hfa hf_47 hf_48 hf_49 (by first | omega | decide | exact tt_lo _ | exact tt_hi _) (by first | omega | decide | exact tt_lo _ | exact tt_hi _) (by first | omega | decide | exact tt_lo _ | exact tt_hi _) (by first | omega | decide | exact tt_lo _ | exact tt_hi _) (by first | omega | decide | exact tt_lo _ | exact tt_hi _) (by first | omega | decide | exact tt_lo _ | exact tt_hi _) (by first | omega | decide | exact tt_lo _ | exact tt_hi _)
        exact hL_43 _ pl_30 (0 : Int32) (9999 : Int32) ((-9000) : Int32) trivial hok_31 hfr hfa hf_2 hf_5 hf_40 (by first | omega | decide | exact tt_lo _ | exact tt_hi _) (by first | omega | decide | exact tt_lo _ | exact tt_hi _) (by first | omega | decide | exact tt_lo _ | exact tt_hi _) (by first | omega | decide | exact tt_lo _ | exact tt_hi _) (by first | omega | decide | exact tt_lo _ | exact tt_hi _) (by first | omega | decide | exact tt_lo _ | exact tt_hi _) (Int.self_le_toNat _)
      · exact jj_throwWX (k := 49) (text := "no rate reaches the mark") C jt_RX10_373 jw_0faceffafb (by decide +kernel) dX10_breakEven_33 dX10_breakEven_36 dX10_breakEven_37 dX10_breakEven_40 dX10_breakEven_43 hex (jj_le rfl) (jj_le rfl) (jj_le rfl) (jj_le rfl) ⟨[], pl_30, rfl, rfl, hok_31, hfr, hfa, (Or.inr rfl)⟩ (jj_le rfl) (jj_le rfl)
    · refine jj_aload_n C dX10_breakEven_25 rfl ?_
      refine tt_get C hok_31 jk_9 4 (by decide) jw_c12516f493 (t := (1, (-9223372036854775808), 9223372036854775807)) ka_20 (by decide) rfl rfl dX10_breakEven_26 (fun v_128 hv_128 hf_129 => ?_)
      obtain ⟨y_130, rfl, -, -⟩ := tt_vj hv_128
      refine jj_lcmp_ge (tgt := 44) C dX10_breakEven_29 dX10_breakEven_30 (by decide) (fun c_131 => ?_) (fun c_131 => ?_)
      · refine jj_sipush (v := (-9000)) C dX10_breakEven_44 (by decide) ?_
        refine jj_istore_n C dX10_breakEven_47 (by decide) rfl ?_
        refine jj_sipush (v := 9999) C dX10_breakEven_48 (by decide) ?_
        refine jj_istore C dX10_breakEven_51 (by decide) rfl ?_
        refine jj_iconst (v := 0) C dX10_breakEven_53 (by decide) ?_
        refine jj_istore C dX10_breakEven_54 (by decide) rfl ?_
        have hL_132 : ∀ (N : Nat) (pl : va_W) (x_133 : Int32) (x_134 : Int32) (x_135 : Int32), True → tt_ok tt_tk cA Kd pl → tt_fr Kd [] pl0 pl → tt_fa Kd [] pl0 pl → tt_at pl h0 3 (.ref a_3) → tt_at pl a_3 11 (.ref a_6) → tt_at pl a_20 4 (.long y_130) → (0 : Int) ≤ x_133.toInt → x_133.toInt ≤ 40 → (-2147483648 : Int) ≤ x_134.toInt → x_134.toInt ≤ 2147483647 → (-2147483648 : Int) ≤ x_135.toInt → x_135.toInt ≤ 2147483647 → (2147483648 - x_133.toInt ≤ (N : Int)) → jj_J p l e (jj_rm 8 124 2 12) s m args below meth c 7 A (vx_MQ below (jj_q D A (tt_O (fun rx pl1 r => rx = [] ∧ tt_ok tt_tk cA Kd pl1 ∧ tt_fr Kd [] pl0 pl1 ∧ tt_fa Kd [] pl0 pl1 ∧ ((∃ v : Int32, (-2147483648 : Int) ≤ v.toInt ∧ v.toInt ≤ 2147483647 ∧ r = some (.int v)))))) (jj_x D A (tt_OX (fun E rx pl1 => rx = [] ∧ tt_ok tt_tk cA Kd pl1 ∧ tt_fr Kd [] pl0 pl1 ∧ tt_fa Kd [] pl0 pl1 ∧ (E = "java/lang/IndexOutOfBoundsException" ∨ E = "java/util/NoSuchElementException")))) args s 2 12 A) (jj_X D A ([] ++ pl)) 1 6 56 [(5, .int x_133), (4, .int x_134), (3, .int x_135), (2, .ref a_20), (0, .ref h0), (1, .int p1)] [] := by
          intro NL_132
          induction NL_132 with
          | zero => intro pl x_133 x_134 x_135 _ hok hfr hfa hf_136 hf_137 hf_138 lx_133 ux_133 lx_134 ux_134 lx_135 ux_135 hNL_132; exfalso; omega
          | succ NL_132 ihL_132 =>
            intro pl x_133 x_134 x_135 _ hok hfr hfa hf_136 hf_137 hf_138 lx_133 ux_133 lx_134 ux_134 lx_135 ux_135 hNL_132
            replace ihL_132 := fun pl x_133 x_134 x_135 h1 => ihL_132 pl x_133 x_134 x_135 trivial h1
            refine jj_iload C dX10_breakEven_56 rfl ?_
            refine jj_bipush (v := 32) C dX10_breakEven_58 (by decide) ?_
            refine jj_icmp_ge (tgt := 115) C dX10_breakEven_60 (by decide) (fun c_139 => ?_) (fun c_139 => ?_)
            · have z_c_139 := jc_le (a := (32)) (b := (x_133).toInt) c_139 (by decide) rfl
              refine jj_iload_n C dX10_breakEven_115 rfl ?_
              exact jj_iret C ⟨[], pl, rfl, rfl, hok, hfr, hfa, ⟨x_135, (by first | omega | exact tt_lo _ | exact tt_hi _), (by first | omega | exact tt_lo _ | exact tt_hi _), rfl⟩⟩ dX10_breakEven_116 (jj_le rfl) (jj_le rfl)
            · have z_c_139 := jc_nle (a := (32)) (b := (x_133).toInt) c_139 (by decide) rfl
              refine jj_iload_n C dX10_breakEven_63 rfl ?_
              refine jj_iload C dX10_breakEven_64 rfl ?_
              refine jj_icmp_ge (tgt := 115) C dX10_breakEven_66 (by decide) (fun c_140 => ?_) (fun c_140 => ?_)
              · have z_c_140 := jc_le (a := (x_134).toInt) (b := (x_135).toInt) c_140 rfl rfl
                refine jj_iload_n C dX10_breakEven_115 rfl ?_
                exact jj_iret C ⟨[], pl, rfl, rfl, hok, hfr, hfa, ⟨x_135, (by first | omega | exact tt_lo _ | exact tt_hi _), (by first | omega | exact tt_lo _ | exact tt_hi _), rfl⟩⟩ dX10_breakEven_116 (jj_le rfl) (jj_le rfl)
              · have z_c_140 := jc_nle (a := (x_134).toInt) (b := (x_135).toInt) c_140 rfl rfl
                refine jj_iload_n C dX10_breakEven_69 rfl ?_
                refine jj_iload C dX10_breakEven_70 rfl ?_
                obtain ⟨x_141, ex_141⟩ : ∃ z : Int32, x_135 + x_134 = z := ⟨_, rfl⟩
                refine jj_iadd (v := x_141) C dX10_breakEven_72 ex_141 ?_
                refine jj_iconst (v := 2) C dX10_breakEven_73 (by decide) ?_
                refine tt_call0S (rest := []) C (ct_J9_floorDiv_7cf53_1 hl D cA ak x_141) jw_bdc927d6c1 jw_7ca1dfa404 jw_a731c8553d jw_44648bf58a jn_J9_floorDiv_7cf53 rfl (jj_le rfl) (jj_le rfl) (jj_le rfl) (jj_le rfl) (jj_le rfl) dX10_breakEven_74 rfl (fun w1 r O_142 => ?_)
                rcases O_142 with ⟨c_143, -, rfl⟩ | ⟨c_144, c_145, -, rfl⟩ | ⟨c_146, c_147, -, rfl⟩
                · refine jj_istore C dX10_breakEven_77 (by decide) rfl ?_
                  refine jj_aload_n C dX10_breakEven_79 rfl ?_
                  refine jj_aload_n C dX10_breakEven_80 rfl ?_
                  refine jj_iload C dX10_breakEven_81 rfl ?_
                  obtain ⟨qc, gs, hqc⟩ := tt_recv (cx := []) hok ka_20 (by decide) rfl
                  refine tt_callV (rest := [.ref a_20]) C (tc_X8_assetsAfter_3 hl D cA ak a_20 (x_141 / 2) ka_20 hok) [] [] rfl rfl (by decide) (by decide) (by decide) qc hqc rfl rfl jw_844ae35f40 jw_f7b9340b8f jw_ed03d6c861 jw_364e75910d jw_37a3f39914 jn_X8_assetsAfter rfl (jj_le rfl) (jj_le rfl) (jj_le rfl) (jj_le rfl) (jj_le rfl) dX10_breakEven_83 rfl (fun _ _ _ hX => hX.elim) (fun rx pl_148 r O_151 => ?_)
                  obtain ⟨rfl, hok_149, hr_150, hfa9, hR_153⟩ := O_151
                  replace hf_136 := hr_150.at hk0 (by decide) (by decide) hf_136
                  replace hf_137 := hr_150.at ka_3 (by decide) (by decide) hf_137
                  replace hf_138 := hr_150.at ka_20 (by decide) (by decide) hf_138
                  replace hfr := hfr.trans (hr_150.sub (by decide))
                  replace hfa := hfa.trans (hfa9.sub (by decide))
                  obtain ⟨y_156, rfl⟩ := hR_153
                  obtain ⟨qc, gs, hqc⟩ := tt_recv (cx := []) hok_149 ka_20 (by decide) rfl
                  refine tt_callV (rest := []) C (tc_X8_priceWith_1 hl D cA ak a_20 y_156 ka_20 hok_149) [] [] rfl rfl (by decide) (by decide) (by decide) qc hqc rfl rfl jw_510b108555 jw_2e72231b40 jw_b9c09a9015 jw_364e75910d jw_62a4e9d3ce jn_X8_priceWith rfl (jj_le rfl) (jj_le rfl) (jj_le rfl) (jj_le rfl) (jj_le rfl) dX10_breakEven_86 rfl (fun _ _ _ hX => hX.elim) (fun rx pl_157 r O_160 => ?_)
                  obtain ⟨rfl, hok_158, hr_159, hfa9, hR_162⟩ := O_160
                  replace hf_136 := hr_159.at hk0 (by decide) (by decide) hf_136
                  replace hf_137 := hr_159.at ka_3 (by decide) (by decide) hf_137
                  replace hf_138 := hr_159.at ka_20 (by decide) (by decide) hf_138
                  replace hfr := hfr.trans (hr_159.sub (by decide))
                  replace hfa := hfa.trans (hfa9.sub (by decide))
                  rcases hR_162 with rfl | ⟨y_165, rfl⟩
                  · refine jj_aload_n C dX10_breakEven_89 rfl ?_
                    refine tt_getF C hok_158 jk_9 4 (by decide) jw_c12516f493 (t := (1, (-9223372036854775808), 9223372036854775807)) ka_20 (by decide) rfl rfl hf_138 dX10_breakEven_90 ?_
                    refine jj_lcmp_ge (tgt := 105) C dX10_breakEven_93 dX10_breakEven_94 (by decide) (fun c_166 => ?_) (fun c_166 => ?_)
                    · refine jj_iload C dX10_breakEven_105 rfl ?_
                      refine jj_istore C dX10_breakEven_107 (by decide) rfl ?_
                      obtain ⟨x_167, ex_167, vx_167⟩ := tt_inc (x := x_133) (n := 1) (by omega) (by omega)
                      refine jj_iinc (v := x_167) C dX10_breakEven_109 rfl ex_167 (by decide) rfl ?_
                      refine jj_goto (tgt := 56) C dX10_breakEven_112 (by decide) ?_
                      refine jj_loc [0, 1, 3, 4, 5, 6] rfl ?_
                      exact ihL_132 pl_157 x_167 (x_141 / 2) x_135 hok_158 hfr hfa hf_136 hf_137 hf_138 (by first | omega | decide | exact tt_lo _ | exact tt_hi _) (by first | omega | decide | exact tt_lo _ | exact tt_hi _) (by first | omega | decide | exact tt_lo _ | exact tt_hi _) (by first | omega | decide | exact tt_lo _ | exact tt_hi _) (by first | omega | decide | exact tt_lo _ | exact tt_hi _) (by first | omega | decide | exact tt_lo _ | exact tt_hi _) (by first | omega | decide | exact tt_lo _ | exact tt_hi _)
                    · refine jj_iload C dX10_breakEven_97 rfl ?_
                      refine jj_iconst (v := 1) C dX10_breakEven_99 (by decide) ?_
                      obtain ⟨x_168, ex_168⟩ : ∃ z : Int32, (x_141 / 2) + (1 : Int32) = z := ⟨_, rfl⟩
                      refine jj_iadd (v := x_168) C dX10_breakEven_100 ex_168 ?_
                      refine jj_istore_n C dX10_breakEven_101 (by decide) rfl ?_
                      refine jj_goto (tgt := 109) C dX10_breakEven_102 (by decide) ?_
                      obtain ⟨x_169, ex_169, vx_169⟩ := tt_inc (x := x_133) (n := 1) (by omega) (by omega)
                      refine jj_iinc (v := x_169) C dX10_breakEven_109 rfl ex_169 (by decide) rfl ?_
                      refine jj_goto (tgt := 56) C dX10_breakEven_112 (by decide) ?_
                      refine jj_loc [0, 3, 1, 4, 5, 6] rfl ?_
                      exact ihL_132 pl_157 x_169 x_134 x_168 hok_158 hfr hfa hf_136 hf_137 hf_138 (by first | omega | decide | exact tt_lo _ | exact tt_hi _) (by first | omega | decide | exact tt_lo _ | exact tt_hi _) (by first | omega | decide | exact tt_lo _ | exact tt_hi _) (by first | omega | decide | exact tt_lo _ | exact tt_hi _) (by first | omega | decide | exact tt_lo _ | exact tt_hi _) (by first | omega | decide | exact tt_lo _ | exact tt_hi _) (by first | omega | decide | exact tt_lo _ | exact tt_hi _)
                  · refine jj_aload_n C dX10_breakEven_89 rfl ?_
                    refine tt_getF C hok_158 jk_9 4 (by decide) jw_c12516f493 (t := (1, (-9223372036854775808), 9223372036854775807)) ka_20 (by decide) rfl rfl hf_138 dX10_breakEven_90 ?_
                    refine jj_lcmp_ge (tgt := 105) C dX10_breakEven_93 dX10_breakEven_94 (by decide) (fun c_170 => ?_) (fun c_170 => ?_)
                    · refine jj_iload C dX10_breakEven_105 rfl ?_
                      refine jj_istore C dX10_breakEven_107 (by decide) rfl ?_
                      obtain ⟨x_171, ex_171, vx_171⟩ := tt_inc (x := x_133) (n := 1) (by omega) (by omega)
                      refine jj_iinc (v := x_171) C dX10_breakEven_109 rfl ex_171 (by decide) rfl ?_
                      refine jj_goto (tgt := 56) C dX10_breakEven_112 (by decide) ?_
                      refine jj_loc [0, 1, 3, 4, 5, 6] rfl ?_
                      exact ihL_132 pl_157 x_171 (x_141 / 2) x_135 hok_158 hfr hfa hf_136 hf_137 hf_138 (by first | omega | decide | exact tt_lo _ | exact tt_hi _) (by first | omega | decide | exact tt_lo _ | exact tt_hi _) (by first | omega | decide | exact tt_lo _ | exact tt_hi _) (by first | omega | decide | exact tt_lo _ | exact tt_hi _) (by first | omega | decide | exact tt_lo _ | exact tt_hi _) (by first | omega | decide | exact tt_lo _ | exact tt_hi _) (by first | omega | decide | exact tt_lo _ | exact tt_hi _)
                    · refine jj_iload C dX10_breakEven_97 rfl ?_
                      refine jj_iconst (v := 1) C dX10_breakEven_99 (by decide) ?_
                      obtain ⟨x_172, ex_172⟩ : ∃ z : Int32, (x_141 / 2) + (1 : Int32) = z := ⟨_, rfl⟩
                      refine jj_iadd (v := x_172) C dX10_breakEven_100 ex_172 ?_
                      refine jj_istore_n C dX10_breakEven_101 (by decide) rfl ?_
                      refine jj_goto (tgt := 109) C dX10_breakEven_102 (by decide) ?_
                      obtain ⟨x_173, ex_173, vx_173⟩ := tt_inc (x := x_133) (n := 1) (by omega) (by omega)
                      refine jj_iinc (v := x_173) C dX10_breakEven_109 rfl ex_173 (by decide) rfl ?_
                      refine jj_goto (tgt := 56) C dX10_breakEven_112 (by decide) ?_
                      refine jj_loc [0, 3, 1, 4, 5, 6] rfl ?_
                      exact ihL_132 pl_157 x_173 x_134 x_172 hok_158 hfr hfa hf_136 hf_137 hf_138 (by first | omega | decide | exact tt_lo _ | exact tt_hi _) (by first | omega | decide | exact tt_lo _ | exact tt_hi _) (by first | omega | decide | exact tt_lo _ | exact tt_hi _) (by first | omega | decide | exact tt_lo _ | exact tt_hi _) (by first | omega | decide | exact tt_lo _ | exact tt_hi _) (by first | omega | decide | exact tt_lo _ | exact tt_hi _) (by first | omega | decide | exact tt_lo _ | exact tt_hi _)
                · refine jj_istore C dX10_breakEven_77 (by decide) rfl ?_
                  refine jj_aload_n C dX10_breakEven_79 rfl ?_
                  refine jj_aload_n C dX10_breakEven_80 rfl ?_
                  refine jj_iload C dX10_breakEven_81 rfl ?_
                  obtain ⟨qc, gs, hqc⟩ := tt_recv (cx := []) hok ka_20 (by decide) rfl
                  refine tt_callV (rest := [.ref a_20]) C (tc_X8_assetsAfter_3 hl D cA ak a_20 (x_141 / 2) ka_20 hok) [] [] rfl rfl (by decide) (by decide) (by decide) qc hqc rfl rfl jw_844ae35f40 jw_f7b9340b8f jw_ed03d6c861 jw_364e75910d jw_37a3f39914 jn_X8_assetsAfter rfl (jj_le rfl) (jj_le rfl) (jj_le rfl) (jj_le rfl) (jj_le rfl) dX10_breakEven_83 rfl (fun _ _ _ hX => hX.elim) (fun rx pl_174 r O_177 => ?_)
                  obtain ⟨rfl, hok_175, hr_176, hfa9, hR_179⟩ := O_177
                  replace hf_136 := hr_176.at hk0 (by decide) (by decide) hf_136
                  replace hf_137 := hr_176.at ka_3 (by decide) (by decide) hf_137
                  replace hf_138 := hr_176.at ka_20 (by decide) (by decide) hf_138
                  replace hfr := hfr.trans (hr_176.sub (by decide))
                  replace hfa := hfa.trans (hfa9.sub (by decide))
                  obtain ⟨y_182, rfl⟩ := hR_179
                  obtain ⟨qc, gs, hqc⟩ := tt_recv (cx := []) hok_175 ka_20 (by decide) rfl
                  refine tt_callV (rest := []) C (tc_X8_priceWith_1 hl D cA ak a_20 y_182 ka_20 hok_175) [] [] rfl rfl (by decide) (by decide) (by decide) qc hqc rfl rfl jw_510b108555 jw_2e72231b40 jw_b9c09a9015 jw_364e75910d jw_62a4e9d3ce jn_X8_priceWith rfl (jj_le rfl) (jj_le rfl) (jj_le rfl) (jj_le rfl) (jj_le rfl) dX10_breakEven_86 rfl (fun _ _ _ hX => hX.elim) (fun rx pl_183 r O_186 => ?_)
                  obtain ⟨rfl, hok_184, hr_185, hfa9, hR_188⟩ := O_186
                  replace hf_136 := hr_185.at hk0 (by decide) (by decide) hf_136
                  replace hf_137 := hr_185.at ka_3 (by decide) (by decide) hf_137
                  replace hf_138 := hr_185.at ka_20 (by decide) (by decide) hf_138
                  replace hfr := hfr.trans (hr_185.sub (by decide))
                  replace hfa := hfa.trans (hfa9.sub (by decide))
                  rcases hR_188 with rfl | ⟨y_191, rfl⟩
                  · refine jj_aload_n C dX10_breakEven_89 rfl ?_
                    refine tt_getF C hok_184 jk_9 4 (by decide) jw_c12516f493 (t := (1, (-9223372036854775808), 9223372036854775807)) ka_20 (by decide) rfl rfl hf_138 dX10_breakEven_90 ?_
                    refine jj_lcmp_ge (tgt := 105) C dX10_breakEven_93 dX10_breakEven_94 (by decide) (fun c_192 => ?_) (fun c_192 => ?_)
                    · refine jj_iload C dX10_breakEven_105 rfl ?_
                      refine jj_istore C dX10_breakEven_107 (by decide) rfl ?_
                      obtain ⟨x_193, ex_193, vx_193⟩ := tt_inc (x := x_133) (n := 1) (by omega) (by omega)
                      refine jj_iinc (v := x_193) C dX10_breakEven_109 rfl ex_193 (by decide) rfl ?_
                      refine jj_goto (tgt := 56) C dX10_breakEven_112 (by decide) ?_
                      refine jj_loc [0, 1, 3, 4, 5, 6] rfl ?_
                      exact ihL_132 pl_183 x_193 (x_141 / 2) x_135 hok_184 hfr hfa hf_136 hf_137 hf_138 (by first | omega | decide | exact tt_lo _ | exact tt_hi _) (by first | omega | decide | exact tt_lo _ | exact tt_hi _) (by first | omega | decide | exact tt_lo _ | exact tt_hi _) (by first | omega | decide | exact tt_lo _ | exact tt_hi _) (by first | omega | decide | exact tt_lo _ | exact tt_hi _) (by first | omega | decide | exact tt_lo _ | exact tt_hi _) (by first | omega | decide | exact tt_lo _ | exact tt_hi _)
                    · refine jj_iload C dX10_breakEven_97 rfl ?_
                      refine jj_iconst (v := 1) C dX10_breakEven_99 (by decide) ?_
                      obtain ⟨x_194, ex_194⟩ : ∃ z : Int32, (x_141 / 2) + (1 : Int32) = z := ⟨_, rfl⟩
                      refine jj_iadd (v := x_194) C dX10_breakEven_100 ex_194 ?_
                      refine jj_istore_n C dX10_breakEven_101 (by decide) rfl ?_
                      refine jj_goto (tgt := 109) C dX10_breakEven_102 (by decide) ?_
                      obtain ⟨x_195, ex_195, vx_195⟩ := tt_inc (x := x_133) (n := 1) (by omega) (by omega)
                      refine jj_iinc (v := x_195) C dX10_breakEven_109 rfl ex_195 (by decide) rfl ?_
                      refine jj_goto (tgt := 56) C dX10_breakEven_112 (by decide) ?_
                      refine jj_loc [0, 3, 1, 4, 5, 6] rfl ?_
                      exact ihL_132 pl_183 x_195 x_134 x_194 hok_184 hfr hfa hf_136 hf_137 hf_138 (by first | omega | decide | exact tt_lo _ | exact tt_hi _) (by first | omega | decide | exact tt_lo _ | exact tt_hi _) (by first | omega | decide | exact tt_lo _ | exact tt_hi _) (by first | omega | decide | exact tt_lo _ | exact tt_hi _) (by first | omega | decide | exact tt_lo _ | exact tt_hi _) (by first | omega | decide | exact tt_lo _ | exact tt_hi _) (by first | omega | decide | exact tt_lo _ | exact tt_hi _)
                  · refine jj_aload_n C dX10_breakEven_89 rfl ?_
                    refine tt_getF C hok_184 jk_9 4 (by decide) jw_c12516f493 (t := (1, (-9223372036854775808), 9223372036854775807)) ka_20 (by decide) rfl rfl hf_138 dX10_breakEven_90 ?_
                    refine jj_lcmp_ge (tgt := 105) C dX10_breakEven_93 dX10_breakEven_94 (by decide) (fun c_196 => ?_) (fun c_196 => ?_)
                    · refine jj_iload C dX10_breakEven_105 rfl ?_
                      refine jj_istore C dX10_breakEven_107 (by decide) rfl ?_
                      obtain ⟨x_197, ex_197, vx_197⟩ := tt_inc (x := x_133) (n := 1) (by omega) (by omega)
                      refine jj_iinc (v := x_197) C dX10_breakEven_109 rfl ex_197 (by decide) rfl ?_
                      refine jj_goto (tgt := 56) C dX10_breakEven_112 (by decide) ?_
                      refine jj_loc [0, 1, 3, 4, 5, 6] rfl ?_
                      exact ihL_132 pl_183 x_197 (x_141 / 2) x_135 hok_184 hfr hfa hf_136 hf_137 hf_138 (by first | omega | decide | exact tt_lo _ | exact tt_hi _) (by first | omega | decide | exact tt_lo _ | exact tt_hi _) (by first | omega | decide | exact tt_lo _ | exact tt_hi _) (by first | omega | decide | exact tt_lo _ | exact tt_hi _) (by first | omega | decide | exact tt_lo _ | exact tt_hi _) (by first | omega | decide | exact tt_lo _ | exact tt_hi _) (by first | omega | decide | exact tt_lo _ | exact tt_hi _)
                    · refine jj_iload C dX10_breakEven_97 rfl ?_
                      refine jj_iconst (v := 1) C dX10_breakEven_99 (by decide) ?_
                      obtain ⟨x_198, ex_198⟩ : ∃ z : Int32, (x_141 / 2) + (1 : Int32) = z := ⟨_, rfl⟩
                      refine jj_iadd (v := x_198) C dX10_breakEven_100 ex_198 ?_
                      refine jj_istore_n C dX10_breakEven_101 (by decide) rfl ?_
                      refine jj_goto (tgt := 109) C dX10_breakEven_102 (by decide) ?_
                      obtain ⟨x_199, ex_199, vx_199⟩ := tt_inc (x := x_133) (n := 1) (by omega) (by omega)
                      refine jj_iinc (v := x_199) C dX10_breakEven_109 rfl ex_199 (by decide) rfl ?_
                      refine jj_goto (tgt := 56) C dX10_breakEven_112 (by decide) ?_
                      refine jj_loc [0, 3, 1, 4, 5, 6] rfl ?_
                      exact ihL_132 pl_183 x_199 x_134 x_198 hok_184 hfr hfa hf_136 hf_137 hf_138 (by first | omega | decide | exact tt_lo _ | exact tt_hi _) (by first | omega | decide | exact tt_lo _ | exact tt_hi _) (by first | omega | decide | exact tt_lo _ | exact tt_hi _) (by first | omega | decide | exact tt_lo _ | exact tt_hi _) (by first | omega | decide | exact tt_lo _ | exact tt_hi _) (by first | omega | decide | exact tt_lo _ | exact tt_hi _) (by first | omega | decide | exact tt_lo _ | exact tt_hi _)
                · refine jj_istore C dX10_breakEven_77 (by decide) rfl ?_
                  refine jj_aload_n C dX10_breakEven_79 rfl ?_
                  refine jj_aload_n C dX10_breakEven_80 rfl ?_
                  refine jj_iload C dX10_breakEven_81 rfl ?_
                  obtain ⟨qc, gs, hqc⟩ := tt_recv (cx := []) hok ka_20 (by decide) rfl
                  refine tt_callV (rest := [.ref a_20]) C (tc_X8_assetsAfter_3 hl D cA ak a_20 ((x_141 / 2) - 1) ka_20 hok) [] [] rfl rfl (by decide) (by decide) (by decide) qc hqc rfl rfl jw_844ae35f40 jw_f7b9340b8f jw_ed03d6c861 jw_364e75910d jw_37a3f39914 jn_X8_assetsAfter rfl (jj_le rfl) (jj_le rfl) (jj_le rfl) (jj_le rfl) (jj_le rfl) dX10_breakEven_83 rfl (fun _ _ _ hX => hX.elim) (fun rx pl_200 r O_203 => ?_)
                  obtain ⟨rfl, hok_201, hr_202, hfa9, hR_205⟩ := O_203
                  replace hf_136 := hr_202.at hk0 (by decide) (by decide) hf_136
                  replace hf_137 := hr_202.at ka_3 (by decide) (by decide) hf_137
                  replace hf_138 := hr_202.at ka_20 (by decide) (by decide) hf_138
                  replace hfr := hfr.trans (hr_202.sub (by decide))
                  replace hfa := hfa.trans (hfa9.sub (by decide))
                  obtain ⟨y_208, rfl⟩ := hR_205
                  obtain ⟨qc, gs, hqc⟩ := tt_recv (cx := []) hok_201 ka_20 (by decide) rfl
                  refine tt_callV (rest := []) C (tc_X8_priceWith_1 hl D cA ak a_20 y_208 ka_20 hok_201) [] [] rfl rfl (by decide) (by decide) (by decide) qc hqc rfl rfl jw_510b108555 jw_2e72231b40 jw_b9c09a9015 jw_364e75910d jw_62a4e9d3ce jn_X8_priceWith rfl (jj_le rfl) (jj_le rfl) (jj_le rfl) (jj_le rfl) (jj_le rfl) dX10_breakEven_86 rfl (fun _ _ _ hX => hX.elim) (fun rx pl_209 r O_212 => ?_)
                  obtain ⟨rfl, hok_210, hr_211, hfa9, hR_214⟩ := O_212
                  replace hf_136 := hr_211.at hk0 (by decide) (by decide) hf_136
                  replace hf_137 := hr_211.at ka_3 (by decide) (by decide) hf_137
                  replace hf_138 := hr_211.at ka_20 (by decide) (by decide) hf_138
                  replace hfr := hfr.trans (hr_211.sub (by decide))
                  replace hfa := hfa.trans (hfa9.sub (by decide))
                  rcases hR_214 with rfl | ⟨y_217, rfl⟩
                  · refine jj_aload_n C dX10_breakEven_89 rfl ?_
                    refine tt_getF C hok_210 jk_9 4 (by decide) jw_c12516f493 (t := (1, (-9223372036854775808), 9223372036854775807)) ka_20 (by decide) rfl rfl hf_138 dX10_breakEven_90 ?_
                    refine jj_lcmp_ge (tgt := 105) C dX10_breakEven_93 dX10_breakEven_94 (by decide) (fun c_218 => ?_) (fun c_218 => ?_)
                    · refine jj_iload C dX10_breakEven_105 rfl ?_
                      refine jj_istore C dX10_breakEven_107 (by decide) rfl ?_
                      obtain ⟨x_219, ex_219, vx_219⟩ := tt_inc (x := x_133) (n := 1) (by omega) (by omega)
                      refine jj_iinc (v := x_219) C dX10_breakEven_109 rfl ex_219 (by decide) rfl ?_
                      refine jj_goto (tgt := 56) C dX10_breakEven_112 (by decide) ?_
                      refine jj_loc [0, 1, 3, 4, 5, 6] rfl ?_
                      exact ihL_132 pl_209 x_219 ((x_141 / 2) - 1) x_135 hok_210 hfr hfa hf_136 hf_137 hf_138 (by first | omega | decide | exact tt_lo _ | exact tt_hi _) (by first | omega | decide | exact tt_lo _ | exact tt_hi _) (by first | omega | decide | exact tt_lo _ | exact tt_hi _) (by first | omega | decide | exact tt_lo _ | exact tt_hi _) (by first | omega | decide | exact tt_lo _ | exact tt_hi _) (by first | omega | decide | exact tt_lo _ | exact tt_hi _) (by first | omega | decide | exact tt_lo _ | exact tt_hi _)
                    · refine jj_iload C dX10_breakEven_97 rfl ?_
                      refine jj_iconst (v := 1) C dX10_breakEven_99 (by decide) ?_
                      obtain ⟨x_220, ex_220⟩ : ∃ z : Int32, ((x_141 / 2) - 1) + (1 : Int32) = z := ⟨_, rfl⟩
                      refine jj_iadd (v := x_220) C dX10_breakEven_100 ex_220 ?_
                      refine jj_istore_n C dX10_breakEven_101 (by decide) rfl ?_
                      refine jj_goto (tgt := 109) C dX10_breakEven_102 (by decide) ?_
                      obtain ⟨x_221, ex_221, vx_221⟩ := tt_inc (x := x_133) (n := 1) (by omega) (by omega)
                      refine jj_iinc (v := x_221) C dX10_breakEven_109 rfl ex_221 (by decide) rfl ?_
                      refine jj_goto (tgt := 56) C dX10_breakEven_112 (by decide) ?_
                      refine jj_loc [0, 3, 1, 4, 5, 6] rfl ?_
                      exact ihL_132 pl_209 x_221 x_134 x_220 hok_210 hfr hfa hf_136 hf_137 hf_138 (by first | omega | decide | exact tt_lo _ | exact tt_hi _) (by first | omega | decide | exact tt_lo _ | exact tt_hi _) (by first | omega | decide | exact tt_lo _ | exact tt_hi _) (by first | omega | decide | exact tt_lo _ | exact tt_hi _) (by first | omega | decide | exact tt_lo _ | exact tt_hi _) (by first | omega | decide | exact tt_lo _ | exact tt_hi _) (by first | omega | decide | exact tt_lo _ | exact tt_hi _)
                  · refine jj_aload_n C dX10_breakEven_89 rfl ?_
                    refine tt_getF C hok_210 jk_9 4 (by decide) jw_c12516f493 (t := (1, (-9223372036854775808), 9223372036854775807)) ka_20 (by decide) rfl rfl hf_138 dX10_breakEven_90 ?_
                    refine jj_lcmp_ge (tgt := 105) C dX10_breakEven_93 dX10_breakEven_94 (by decide) (fun c_222 => ?_) (fun c_222 => ?_)
                    · refine jj_iload C dX10_breakEven_105 rfl ?_
                      refine jj_istore C dX10_breakEven_107 (by decide) rfl ?_
                      obtain ⟨x_223, ex_223, vx_223⟩ := tt_inc (x := x_133) (n := 1) (by omega) (by omega)
                      refine jj_iinc (v := x_223) C dX10_breakEven_109 rfl ex_223 (by decide) rfl ?_
                      refine jj_goto (tgt := 56) C dX10_breakEven_112 (by decide) ?_
                      refine jj_loc [0, 1, 3, 4, 5, 6] rfl ?_
                      exact ihL_132 pl_209 x_223 ((x_141 / 2) - 1) x_135 hok_210 hfr hfa hf_136 hf_137 hf_138 (by first | omega | decide | exact tt_lo _ | exact tt_hi _) (by first | omega | decide | exact tt_lo _ | exact tt_hi _) (by first | omega | decide | exact tt_lo _ | exact tt_hi _) (by first | omega | decide | exact tt_lo _ | exact tt_hi _) (by first | omega | decide | exact tt_lo _ | exact tt_hi _) (by first | omega | decide | exact tt_lo _ | exact tt_hi _) (by first | omega | decide | exact tt_lo _ | exact tt_hi _)
                    · refine jj_iload C dX10_breakEven_97 rfl ?_
                      refine jj_iconst (v := 1) C dX10_breakEven_99 (by decide) ?_
                      obtain ⟨x_224, ex_224⟩ : ∃ z : Int32, ((x_141 / 2) - 1) + (1 : Int32) = z := ⟨_, rfl⟩
                      refine jj_iadd (v := x_224) C dX10_breakEven_100 ex_224 ?_
                      refine jj_istore_n C dX10_breakEven_101 (by decide) rfl ?_
                      refine jj_goto (tgt := 109) C dX10_breakEven_102 (by decide) ?_
                      obtain ⟨x_225, ex_225, vx_225⟩ := tt_inc (x := x_133) (n := 1) (by omega) (by omega)
                      refine jj_iinc (v := x_225) C dX10_breakEven_109 rfl ex_225 (by decide) rfl ?_
                      refine jj_goto (tgt := 56) C dX10_breakEven_112 (by decide) ?_
                      refine jj_loc [0, 3, 1, 4, 5, 6] rfl ?_
                      exact ihL_132 pl_209 x_225 x_134 x_224 hok_210 hfr hfa hf_136 hf_137 hf_138 (by first | omega | decide | exact tt_lo _ | exact tt_hi _) (by first | omega | decide | exact tt_lo _ | exact tt_hi _) (by first | omega | decide | exact tt_lo _ | exact tt_hi _) (by first | omega | decide | exact tt_lo _ | exact tt_hi _) (by first | omega | decide | exact tt_lo _ | exact tt_hi _) (by first | omega | decide | exact tt_lo _ | exact tt_hi _) (by first | omega | decide | exact tt_lo _ | exact tt_hi _)
        exact hL_132 _ pl_30 (0 : Int32) (9999 : Int32) ((-9000) : Int32) trivial hok_31 hfr hfa hf_2 hf_5 hf_129 (by first | omega | decide | exact tt_lo _ | exact tt_hi _) (by first | omega | decide | exact tt_lo _ | exact tt_hi _) (by first | omega | decide | exact tt_lo _ | exact tt_hi _) (by first | omega | decide | exact tt_lo _ | exact tt_hi _) (by first | omega | decide | exact tt_lo _ | exact tt_hi _) (by first | omega | decide | exact tt_lo _ | exact tt_hi _) (Int.self_le_toNat _)
      · exact jj_throwWX (k := 49) (text := "no rate reaches the mark") C jt_RX10_373 jw_0faceffafb (by decide +kernel) dX10_breakEven_33 dX10_breakEven_36 dX10_breakEven_37 dX10_breakEven_40 dX10_breakEven_43 hex (jj_le rfl) (jj_le rfl) (jj_le rfl) (jj_le rfl) ⟨[], pl_30, rfl, rfl, hok_31, hfr, hfa, (Or.inr rfl)⟩ (jj_le rfl) (jj_le rfl)

set_option maxHeartbeats 4000000 in
set_option maxRecDepth 100000 in
theorem tc_X10_count_1 {l : Launch} (hl : l.stackTraces = false) (D : va_G) (cA : Nat → ClassId) (ak : (Nat → Nat) × (Nat → Nat)) {Kd : Nat → Nat} (h0 : Nat) (p1 : Int32) (hk0 : Kd h0 = 15) {pl0 : va_W} (hok : tt_ok tt_tk cA Kd pl0) : jj_M l D cA ak yX10_count (.code yX10_count cX10_count 2 (some .int)) 6 82 1 6 ([] ++ pl0) [.ref h0, .int p1] (tt_O (fun rx pl1 r => rx = [] ∧ tt_ok tt_tk cA Kd pl1 ∧ tt_fr Kd [] pl0 pl1 ∧ tt_fa Kd [] pl0 pl1 ∧ ((∃ v : Int32, (-2147483648 : Int) ≤ v.toInt ∧ v.toInt ≤ 2147483647 ∧ r = some (.int v))))) (tt_OX (fun E rx pl1 => rx = [] ∧ tt_ok tt_tk cA Kd pl1 ∧ tt_fr Kd [] pl0 pl1 ∧ tt_fa Kd [] pl0 pl1 ∧ (E = "java/lang/IllegalArgumentException"))) := by
  refine jj_start hl (by decide) jw_a49c92decf (jj_le rfl) ?_
  intro p e s m args below meth c A hargs hA C hex hmn
  have hfr := tt_fr.refl (K := Kd) (WS := []) pl0
  have hfa := tt_fa.refl (K := Kd) (WA := []) pl0
  have lp1 := tt_lo p1
  have up1 := tt_hi p1
  refine jj_iload_n C dX10_count_0 rfl ?_
  rcases jj_em (p1 = 0) with c_1 | c_1
  · refine jj_tableIn (tgt := 56) C dX10_count_1 (by rw [c_1]; decide) (by rw [c_1]; decide) (by rw [c_1]; rfl) (by decide) ?_
    refine jj_aload_n C dX10_count_56 rfl ?_
    refine tt_get C hok jk_11 3 (by decide) jw_f82a97e333 (t := (2, 1, 0)) hk0 (by decide) rfl rfl dX10_count_57 (fun v_2 hv_2 hf_3 => ?_)
    obtain ⟨a_4, rfl, ka_4⟩ := tt_vr hv_2
    refine tt_get C hok jk_2 0 (by decide) jw_ea0f6256bc (t := (0, (-2147483648), 2147483647)) ka_4 (by decide) rfl rfl dX10_count_60 (fun v_5 hv_5 hf_6 => ?_)
    obtain ⟨x_7, rfl, lx_7, ux_7⟩ := tt_vi hv_5
    exact jj_iret C ⟨[], pl0, rfl, rfl, hok, hfr, hfa, ⟨x_7, (by first | omega | exact tt_lo _ | exact tt_hi _), (by first | omega | exact tt_lo _ | exact tt_hi _), rfl⟩⟩ dX10_count_63 (jj_le rfl) (jj_le rfl)
  rcases jj_em (p1 = 1) with c_8 | c_8
  · refine jj_tableIn (tgt := 64) C dX10_count_1 (by rw [c_8]; decide) (by rw [c_8]; decide) (by rw [c_8]; rfl) (by decide) ?_
    refine jj_aload_n C dX10_count_64 rfl ?_
    refine tt_get C hok jk_11 3 (by decide) jw_f82a97e333 (t := (2, 1, 0)) hk0 (by decide) rfl rfl dX10_count_65 (fun v_9 hv_9 hf_10 => ?_)
    obtain ⟨a_11, rfl, ka_11⟩ := tt_vr hv_9
    refine tt_get C hok jk_2 1 (by decide) jw_7afa966693 (t := (0, (-2147483648), 2147483647)) ka_11 (by decide) rfl rfl dX10_count_68 (fun v_12 hv_12 hf_13 => ?_)
    obtain ⟨x_14, rfl, lx_14, ux_14⟩ := tt_vi hv_12
    exact jj_iret C ⟨[], pl0, rfl, rfl, hok, hfr, hfa, ⟨x_14, (by first | omega | exact tt_lo _ | exact tt_hi _), (by first | omega | exact tt_lo _ | exact tt_hi _), rfl⟩⟩ dX10_count_71 (jj_le rfl) (jj_le rfl)
  rcases jj_em (p1 = 2) with c_15 | c_15
  · refine jj_tableIn (tgt := 72) C dX10_count_1 (by rw [c_15]; decide) (by rw [c_15]; decide) (by rw [c_15]; rfl) (by decide) ?_
    refine jj_aload_n C dX10_count_72 rfl ?_
    refine tt_get C hok jk_11 3 (by decide) jw_f82a97e333 (t := (2, 1, 0)) hk0 (by decide) rfl rfl dX10_count_73 (fun v_16 hv_16 hf_17 => ?_)
    obtain ⟨a_18, rfl, ka_18⟩ := tt_vr hv_16
    refine tt_get C hok jk_2 2 (by decide) jw_35a1d0bbc5 (t := (0, (-2147483648), 2147483647)) ka_18 (by decide) rfl rfl dX10_count_76 (fun v_19 hv_19 hf_20 => ?_)
    obtain ⟨x_21, rfl, lx_21, ux_21⟩ := tt_vi hv_19
    exact jj_iret C ⟨[], pl0, rfl, rfl, hok, hfr, hfa, ⟨x_21, (by first | omega | exact tt_lo _ | exact tt_hi _), (by first | omega | exact tt_lo _ | exact tt_hi _), rfl⟩⟩ dX10_count_79 (jj_le rfl) (jj_le rfl)
  rcases jj_em (p1 = 3) with c_22 | c_22
  · refine jj_tableIn (tgt := 80) C dX10_count_1 (by rw [c_22]; decide) (by rw [c_22]; decide) (by rw [c_22]; rfl) (by decide) ?_
    refine jj_aload_n C dX10_count_80 rfl ?_
    refine tt_get C hok jk_11 3 (by decide) jw_f82a97e333 (t := (2, 1, 0)) hk0 (by decide) rfl rfl dX10_count_81 (fun v_23 hv_23 hf_24 => ?_)
    obtain ⟨a_25, rfl, ka_25⟩ := tt_vr hv_23
    refine tt_get C hok jk_2 3 (by decide) jw_649edee56e (t := (0, (-2147483648), 2147483647)) ka_25 (by decide) rfl rfl dX10_count_84 (fun v_26 hv_26 hf_27 => ?_)
    obtain ⟨x_28, rfl, lx_28, ux_28⟩ := tt_vi hv_26
    exact jj_iret C ⟨[], pl0, rfl, rfl, hok, hfr, hfa, ⟨x_28, (by first | omega | exact tt_lo _ | exact tt_hi _), (by first | omega | exact tt_lo _ | exact tt_hi _), rfl⟩⟩ dX10_count_87 (jj_le rfl) (jj_le rfl)
  rcases jj_em (p1 = 4) with c_29 | c_29
  · refine jj_tableIn (tgt := 88) C dX10_count_1 (by rw [c_29]; decide) (by rw [c_29]; decide) (by rw [c_29]; rfl) (by decide) ?_
    refine jj_aload_n C dX10_count_88 rfl ?_
    refine tt_get C hok jk_11 3 (by decide) jw_f82a97e333 (t := (2, 1, 0)) hk0 (by decide) rfl rfl dX10_count_89 (fun v_30 hv_30 hf_31 => ?_)
    obtain ⟨a_32, rfl, ka_32⟩ := tt_vr hv_30
    refine tt_get C hok jk_2 4 (by decide) jw_d8242cd3dc (t := (0, (-2147483648), 2147483647)) ka_32 (by decide) rfl rfl dX10_count_92 (fun v_33 hv_33 hf_34 => ?_)
    obtain ⟨x_35, rfl, lx_35, ux_35⟩ := tt_vi hv_33
    exact jj_iret C ⟨[], pl0, rfl, rfl, hok, hfr, hfa, ⟨x_35, (by first | omega | exact tt_lo _ | exact tt_hi _), (by first | omega | exact tt_lo _ | exact tt_hi _), rfl⟩⟩ dX10_count_95 (jj_le rfl) (jj_le rfl)
  rcases jj_em (p1 = 5) with c_36 | c_36
  · refine jj_tableIn (tgt := 96) C dX10_count_1 (by rw [c_36]; decide) (by rw [c_36]; decide) (by rw [c_36]; rfl) (by decide) ?_
    refine jj_aload_n C dX10_count_96 rfl ?_
    refine tt_get C hok jk_11 3 (by decide) jw_f82a97e333 (t := (2, 1, 0)) hk0 (by decide) rfl rfl dX10_count_97 (fun v_37 hv_37 hf_38 => ?_)
    obtain ⟨a_39, rfl, ka_39⟩ := tt_vr hv_37
    refine tt_get C hok jk_2 5 (by decide) jw_d93e75483f (t := (0, (-2147483648), 2147483647)) ka_39 (by decide) rfl rfl dX10_count_100 (fun v_40 hv_40 hf_41 => ?_)
    obtain ⟨x_42, rfl, lx_42, ux_42⟩ := tt_vi hv_40
    exact jj_iret C ⟨[], pl0, rfl, rfl, hok, hfr, hfa, ⟨x_42, (by first | omega | exact tt_lo _ | exact tt_hi _), (by first | omega | exact tt_lo _ | exact tt_hi _), rfl⟩⟩ dX10_count_103 (jj_le rfl) (jj_le rfl)
  rcases jj_em (p1 = 6) with c_43 | c_43
  · refine jj_tableIn (tgt := 104) C dX10_count_1 (by rw [c_43]; decide) (by rw [c_43]; decide) (by rw [c_43]; rfl) (by decide) ?_
    refine jj_aload_n C dX10_count_104 rfl ?_
    refine tt_get C hok jk_11 3 (by decide) jw_f82a97e333 (t := (2, 1, 0)) hk0 (by decide) rfl rfl dX10_count_105 (fun v_44 hv_44 hf_45 => ?_)
    obtain ⟨a_46, rfl, ka_46⟩ := tt_vr hv_44
    refine tt_get C hok jk_2 7 (by decide) jw_cf775c5646 (t := (0, 0, 6)) ka_46 (by decide) rfl rfl dX10_count_108 (fun v_47 hv_47 hf_48 => ?_)
    obtain ⟨x_49, rfl, lx_49, ux_49⟩ := tt_vi hv_47
    exact jj_iret C ⟨[], pl0, rfl, rfl, hok, hfr, hfa, ⟨x_49, (by first | omega | exact tt_lo _ | exact tt_hi _), (by first | omega | exact tt_lo _ | exact tt_hi _), rfl⟩⟩ dX10_count_111 (jj_le rfl) (jj_le rfl)
  rcases jj_em (p1 = 7) with c_50 | c_50
  · refine jj_tableIn (tgt := 112) C dX10_count_1 (by rw [c_50]; decide) (by rw [c_50]; decide) (by rw [c_50]; rfl) (by decide) ?_
    refine jj_aload_n C dX10_count_112 rfl ?_
    refine tt_get C hok jk_11 3 (by decide) jw_f82a97e333 (t := (2, 1, 0)) hk0 (by decide) rfl rfl dX10_count_113 (fun v_51 hv_51 hf_52 => ?_)
    obtain ⟨a_53, rfl, ka_53⟩ := tt_vr hv_51
    refine tt_get C hok jk_2 8 (by decide) jw_e8db4e7185 (t := (0, 0, 40)) ka_53 (by decide) rfl rfl dX10_count_116 (fun v_54 hv_54 hf_55 => ?_)
    obtain ⟨x_56, rfl, lx_56, ux_56⟩ := tt_vi hv_54
    exact jj_iret C ⟨[], pl0, rfl, rfl, hok, hfr, hfa, ⟨x_56, (by first | omega | exact tt_lo _ | exact tt_hi _), (by first | omega | exact tt_lo _ | exact tt_hi _), rfl⟩⟩ dX10_count_119 (jj_le rfl) (jj_le rfl)
  rcases jj_em (p1 = 8) with c_57 | c_57
  · refine jj_tableIn (tgt := 120) C dX10_count_1 (by rw [c_57]; decide) (by rw [c_57]; decide) (by rw [c_57]; rfl) (by decide) ?_
    refine jj_aload_n C dX10_count_120 rfl ?_
    refine tt_get C hok jk_11 3 (by decide) jw_f82a97e333 (t := (2, 1, 0)) hk0 (by decide) rfl rfl dX10_count_121 (fun v_58 hv_58 hf_59 => ?_)
    obtain ⟨a_60, rfl, ka_60⟩ := tt_vr hv_58
    refine tt_get C hok jk_2 9 (by decide) jw_e1b9780688 (t := (0, 0, 12)) ka_60 (by decide) rfl rfl dX10_count_124 (fun v_61 hv_61 hf_62 => ?_)
    obtain ⟨x_63, rfl, lx_63, ux_63⟩ := tt_vi hv_61
    exact jj_iret C ⟨[], pl0, rfl, rfl, hok, hfr, hfa, ⟨x_63, (by first | omega | exact tt_lo _ | exact tt_hi _), (by first | omega | exact tt_lo _ | exact tt_hi _), rfl⟩⟩ dX10_count_127 (jj_le rfl) (jj_le rfl)
  rcases jj_em (p1 = 9) with c_64 | c_64
  · refine jj_tableIn (tgt := 128) C dX10_count_1 (by rw [c_64]; decide) (by rw [c_64]; decide) (by rw [c_64]; rfl) (by decide) ?_
    refine jj_aload_n C dX10_count_128 rfl ?_
    refine tt_get C hok jk_11 3 (by decide) jw_f82a97e333 (t := (2, 1, 0)) hk0 (by decide) rfl rfl dX10_count_129 (fun v_65 hv_65 hf_66 => ?_)
    obtain ⟨a_67, rfl, ka_67⟩ := tt_vr hv_65
    refine tt_get C hok jk_2 6 (by decide) jw_7f8dd988be (t := (0, (-2147483648), 2147483647)) ka_67 (by decide) rfl rfl dX10_count_132 (fun v_68 hv_68 hf_69 => ?_)
    obtain ⟨x_70, rfl, lx_70, ux_70⟩ := tt_vi hv_68
    exact jj_iret C ⟨[], pl0, rfl, rfl, hok, hfr, hfa, ⟨x_70, (by first | omega | exact tt_lo _ | exact tt_hi _), (by first | omega | exact tt_lo _ | exact tt_hi _), rfl⟩⟩ dX10_count_135 (jj_le rfl) (jj_le rfl)
  refine jj_tableOut (tgt := 136) C dX10_count_1 (by have zc_1 := lv_neT (a := 0) c_1 (by decide); have zc_8 := lv_neT (a := 1) c_8 (by decide); have zc_15 := lv_neT (a := 2) c_15 (by decide); have zc_22 := lv_neT (a := 3) c_22 (by decide); have zc_29 := lv_neT (a := 4) c_29 (by decide); have zc_36 := lv_neT (a := 5) c_36 (by decide); have zc_43 := lv_neT (a := 6) c_43 (by decide); have zc_50 := lv_neT (a := 7) c_50 (by decide); have zc_57 := lv_neT (a := 8) c_57 (by decide); have zc_64 := lv_neT (a := 9) c_64 (by decide); omega) (by decide) ?_
  exact jj_throw (k := 42) (text := "no such count") C jt_RX10_75 jw_0e6c957e85 (by decide +kernel) dX10_count_136 dX10_count_139 dX10_count_140 dX10_count_142 dX10_count_145 hex (jj_le rfl) (jj_le rfl) (jj_le rfl) (jj_le rfl) ⟨[], pl0, rfl, rfl, hok, hfr, hfa, rfl⟩ (jj_le rfl) (jj_le rfl)

set_option maxHeartbeats 4000000 in
set_option maxRecDepth 100000 in
theorem tc_X2_chargeDays_1 {l : Launch} (hl : l.stackTraces = false) (D : va_G) (cA : Nat → ClassId) (ak : (Nat → Nat) × (Nat → Nat)) {Kd : Nat → Nat} (h0 : Nat) (hk0 : Kd h0 = 1) {pl0 : va_W} (hok : tt_ok tt_tk cA Kd pl0) : jj_M l D cA ak yX2_chargeDays (.code yX2_chargeDays cX2_chargeDays 8 (some .long)) 0 0 0 0 ([] ++ pl0) [.ref h0, .int 1] (tt_O (fun rx pl1 r => rx = [] ∧ tt_ok tt_tk cA Kd pl1 ∧ tt_fr Kd [(1, 5), (2, 2)] pl0 pl1 ∧ tt_fa Kd [5] pl0 pl1 ∧ ((∃ v : Int64, r = some (.long v))))) (tt_OX (fun _ _ _ => False)) := by
  refine jj_start hl (by decide) jw_5ec919523f (jj_le rfl) ?_
  intro p e s m args below meth c A hargs hA C hex hmn
  have hfr := tt_fr.refl (K := Kd) (WS := [(1, 5), (2, 2)]) pl0
  have hfa := tt_fa.refl (K := Kd) (WA := [5]) pl0
  refine jj_lconst (v := 0) C dX2_chargeDays_0 (by decide) ?_
  refine jj_lstore_n C dX2_chargeDays_1 (by decide) rfl ?_
  refine jj_iconst (v := 0) C dX2_chargeDays_2 (by decide) ?_
  refine jj_istore C dX2_chargeDays_3 (by decide) rfl ?_
  have hL_1 : ∀ (N : Nat) (pl : va_W) (x_2 : Int32) (y_3 : Int64), True → tt_ok tt_tk cA Kd pl → tt_fr Kd [(1, 5), (2, 2)] pl0 pl → tt_fa Kd [5] pl0 pl → (0 : Int) ≤ x_2.toInt → x_2.toInt ≤ 1 → (2147483648 - x_2.toInt ≤ (N : Int)) → jj_J p l e (jj_rm 0 0 0 0) s m args below meth c 8 A (vx_MQ below (jj_q D A (tt_O (fun rx pl1 r => rx = [] ∧ tt_ok tt_tk cA Kd pl1 ∧ tt_fr Kd [(1, 5), (2, 2)] pl0 pl1 ∧ tt_fa Kd [5] pl0 pl1 ∧ ((∃ v : Int64, r = some (.long v)))))) (jj_x D A (tt_OX (fun _ _ _ => False))) args s 0 0 A) (jj_X D A ([] ++ pl)) 0 0 5 [(4, .int x_2), (2, .long y_3), (0, .ref h0), (1, .int 1)] [] := by
    intro NL_1
    induction NL_1 with
    | zero => intro pl x_2 y_3 _ hok hfr hfa lx_2 ux_2 hNL_1; exfalso; omega
    | succ NL_1 ihL_1 =>
      intro pl x_2 y_3 _ hok hfr hfa lx_2 ux_2 hNL_1
      replace ihL_1 := fun pl x_2 y_3 h1 => ihL_1 pl x_2 y_3 trivial h1
      refine jj_iload C dX2_chargeDays_5 rfl ?_
      refine jj_iload_n C dX2_chargeDays_7 rfl ?_
      refine jj_icmp_ge (tgt := 89) C dX2_chargeDays_8 (by decide) (fun c_4 => ?_) (fun c_4 => ?_)
      · have z_c_4 := jc_le (a := (1)) (b := (x_2).toInt) c_4 (by decide) rfl
        refine jj_aload_n C dX2_chargeDays_89 rfl ?_
        refine tt_get C hok jk_2 10 (by decide) jw_d4020bdca8 (t := (2, 5, 0)) hk0 (by decide) rfl rfl dX2_chargeDays_90 (fun v_5 hv_5 hf_6 => ?_)
        obtain ⟨a_7, rfl, ka_7⟩ := tt_vr hv_5
        refine jj_iconst (v := 0) C dX2_chargeDays_93 (by decide) ?_
        refine jj_dup2 C dX2_chargeDays_94 rfl rfl ?_
        refine tt_lald C hok (t := (1, (-9223372036854775808), 9223372036854775807)) ka_7 (by decide) rfl (vp_in_iff.mpr (by decide)) dX2_chargeDays_95 (fun v_8 hv_8 => ?_)
        refine jj_lload_n C dX2_chargeDays_96 rfl ?_
        obtain ⟨y_9, ey_9⟩ : ∃ z : Int64, v_8 + y_3 = z := ⟨_, rfl⟩
        refine jj_ladd (v := y_9) C dX2_chargeDays_97 ey_9 ?_
        refine tl_last C hok (t := (1, (-9223372036854775808), 9223372036854775807)) ka_7 (by decide) rfl (vp_in_iff.mpr (by decide)) (tt_ja _) dX2_chargeDays_98 (fun pl_10 hok_11 tr tl => ?_)
        replace hf_6 := tr _ _ _ hf_6
        replace hfr := hfr.arr tr
        replace hfa := hfa.wr ka_7 tl (by decide)
        refine jj_aload_n C dX2_chargeDays_99 rfl ?_
        refine tt_getF C hok_11 jk_2 10 (by decide) jw_d4020bdca8 (t := (2, 5, 0)) hk0 (by decide) rfl rfl hf_6 dX2_chargeDays_100 ?_
        refine jj_iconst (v := 5) C dX2_chargeDays_103 (by decide) ?_
        refine jj_dup2 C dX2_chargeDays_104 rfl rfl ?_
        refine tt_lald C hok_11 (t := (1, (-9223372036854775808), 9223372036854775807)) ka_7 (by decide) rfl (vp_in_iff.mpr (by decide)) dX2_chargeDays_105 (fun v_12 hv_12 => ?_)
        refine jj_lload_n C dX2_chargeDays_106 rfl ?_
        obtain ⟨y_13, ey_13⟩ : ∃ z : Int64, v_12 + y_3 = z := ⟨_, rfl⟩
        refine jj_ladd (v := y_13) C dX2_chargeDays_107 ey_13 ?_
        refine tl_last C hok_11 (t := (1, (-9223372036854775808), 9223372036854775807)) ka_7 (by decide) rfl (vp_in_iff.mpr (by decide)) (tt_ja _) dX2_chargeDays_108 (fun pl_14 hok_15 tr tl => ?_)
        replace hf_6 := tr _ _ _ hf_6
        replace hfr := hfr.arr tr
        replace hfa := hfa.wr ka_7 tl (by decide)
        refine jj_lload_n C dX2_chargeDays_109 rfl ?_
        exact jj_lret C ⟨[], pl_14, rfl, rfl, hok_15, hfr, hfa, ⟨y_3, rfl⟩⟩ dX2_chargeDays_110 (jj_le rfl) (jj_le rfl)
      · have z_c_4 := jc_nle (a := (1)) (b := (x_2).toInt) c_4 (by decide) rfl
        refine jj_iconst (v := 0) C dX2_chargeDays_11 (by decide) ?_
        refine jj_istore C dX2_chargeDays_12 (by decide) rfl ?_
        have hL_16 : ∀ (N : Nat) (pl : va_W) (x_17 : Int32) (y_18 : Int64), True → tt_ok tt_tk cA Kd pl → tt_fr Kd [(1, 5), (2, 2)] pl0 pl → tt_fa Kd [5] pl0 pl → (0 : Int) ≤ x_17.toInt → x_17.toInt ≤ 6 → (2147483648 - x_17.toInt ≤ (N : Int)) → jj_J p l e (jj_rm 0 0 0 0) s m args below meth c 8 A (vx_MQ below (jj_q D A (tt_O (fun rx pl1 r => rx = [] ∧ tt_ok tt_tk cA Kd pl1 ∧ tt_fr Kd [(1, 5), (2, 2)] pl0 pl1 ∧ tt_fa Kd [5] pl0 pl1 ∧ ((∃ v : Int64, r = some (.long v)))))) (jj_x D A (tt_OX (fun _ _ _ => False))) args s 0 0 A) (jj_X D A ([] ++ pl)) 0 0 14 [(5, .int x_17), (4, .int x_2), (2, .long y_18), (0, .ref h0), (1, .int 1)] [] := by
          intro NL_16
          induction NL_16 with
          | zero => intro pl x_17 y_18 _ hok hfr hfa lx_17 ux_17 hNL_16; exfalso; omega
          | succ NL_16 ihL_16 =>
            intro pl x_17 y_18 _ hok hfr hfa lx_17 ux_17 hNL_16
            replace ihL_16 := fun pl x_17 y_18 h1 => ihL_16 pl x_17 y_18 trivial h1
            refine jj_iload C dX2_chargeDays_14 rfl ?_
            refine jj_aload_n C dX2_chargeDays_16 rfl ?_
            refine tt_get C hok jk_2 7 (by decide) jw_fcf7ccfd1e (t := (0, 0, 6)) hk0 (by decide) rfl rfl dX2_chargeDays_17 (fun v_19 hv_19 hf_20 => ?_)
            obtain ⟨x_21, rfl, lx_21, ux_21⟩ := tt_vi hv_19
            refine jj_icmp_ge (tgt := 73) C dX2_chargeDays_20 (by decide) (fun c_22 => ?_) (fun c_22 => ?_)
            · have z_c_22 := jc_le (a := (x_21).toInt) (b := (x_17).toInt) c_22 rfl rfl
              refine jj_aload_n C dX2_chargeDays_73 rfl ?_
              refine jj_dup C dX2_chargeDays_74 rfl ?_
              refine tt_get C hok jk_2 5 (by decide) jw_f6870f6593 (t := (0, (-2147483648), 2147483647)) hk0 (by decide) rfl rfl dX2_chargeDays_75 (fun v_23 hv_23 hf_24 => ?_)
              obtain ⟨x_25, rfl, lx_25, ux_25⟩ := tt_vi hv_23
              refine jj_iconst (v := 1) C dX2_chargeDays_78 (by decide) ?_
              obtain ⟨x_26, ex_26⟩ : ∃ z : Int32, x_25 + (1 : Int32) = z := ⟨_, rfl⟩
              refine jj_iadd (v := x_26) C dX2_chargeDays_79 ex_26 ?_
              refine rl_put C hok jk_2 5 (by decide) jw_f6870f6593 (t := (0, (-2147483648), 2147483647)) hk0 (by decide) rfl rfl rfl (tt_ia x_26) rfl rfl dX2_chargeDays_80 (fun pl_27 hok_28 tr hn tl => ?_)
              replace hf_20 := tr _ _ _ (Or.inr (by decide)) hf_20
              have hf_29 := hn
              replace hfr := hfr.put hk0 tr (by decide)
              replace hfa := hfa.all tl
              obtain ⟨x_30, ex_30, vx_30⟩ := tt_inc (x := x_2) (n := 1) (by omega) (by omega)
              refine jj_iinc (v := x_30) C dX2_chargeDays_83 rfl ex_30 (by decide) rfl ?_
              refine jj_goto (tgt := 5) C dX2_chargeDays_86 (by decide) ?_
              refine jj_loc [0, 2, 3, 4] rfl ?_
              exact ihL_1 pl_27 x_30 y_18 hok_28 hfr hfa (by first | omega | decide | exact tt_lo _ | exact tt_hi _) (by first | omega | decide | exact tt_lo _ | exact tt_hi _) (by first | omega | decide | exact tt_lo _ | exact tt_hi _)
            · have z_c_22 := jc_nle (a := (x_21).toInt) (b := (x_17).toInt) c_22 rfl rfl
              refine jj_aload_n C dX2_chargeDays_23 rfl ?_
              refine tt_get C hok jk_2 11 (by decide) jw_2bd072191f (t := (2, 6, 0)) hk0 (by decide) rfl rfl dX2_chargeDays_24 (fun v_31 hv_31 hf_32 => ?_)
              obtain ⟨a_33, rfl, ka_33⟩ := tt_vr hv_31
              refine jj_iload C dX2_chargeDays_27 rfl ?_
              refine tt_aald C hok (t := (2, 2, 0)) ka_33 (by decide) rfl rfl rfl (vp_in_iff.mpr ⟨by omega, by omega⟩) dX2_chargeDays_29 (fun v_34 hv_34 => ?_)
              obtain ⟨a_35, rfl, ka_35⟩ := tt_vr hv_34
              refine tt_get C hok jk_9 2 (by decide) jw_5719898240 (t := (1, (-9223372036854775808), 9223372036854775807)) ka_35 (by decide) rfl rfl dX2_chargeDays_30 (fun v_36 hv_36 hf_37 => ?_)
              obtain ⟨y_38, rfl, -, -⟩ := tt_vj hv_36
              refine jj_aload_n C dX2_chargeDays_33 rfl ?_
              refine tt_get C hok jk_2 2 (by decide) jw_5b16254c28 (t := (0, (-2147483648), 2147483647)) hk0 (by decide) rfl rfl dX2_chargeDays_34 (fun v_39 hv_39 hf_40 => ?_)
              obtain ⟨x_41, rfl, lx_41, ux_41⟩ := tt_vi hv_39
              obtain ⟨y_42, ey_42, vy_42⟩ := tt_i2l x_41
              refine jj_i2l (v := y_42) C dX2_chargeDays_37 ey_42 ?_
              obtain ⟨y_43, ey_43⟩ : ∃ z : Int64, y_38 * y_42 = z := ⟨_, rfl⟩
              refine jj_lmul (v := y_43) C dX2_chargeDays_38 ey_43 ?_
              refine jj_ldc2 (v := 3650000) C dX2_chargeDays_39 jw_98ea58c985 ?_
              obtain ⟨y_44, ey_44⟩ : ∃ z : Int64, y_43 / (3650000 : Int64) = z := ⟨_, rfl⟩
              refine jj_ldiv (v := y_44) C dX2_chargeDays_42 (by decide) ey_44 ?_
              refine jj_lstore C dX2_chargeDays_43 (by decide) rfl ?_
              refine jj_aload_n C dX2_chargeDays_45 rfl ?_
              refine tt_getF C hok jk_2 11 (by decide) jw_2bd072191f (t := (2, 6, 0)) hk0 (by decide) rfl rfl hf_32 dX2_chargeDays_46 ?_
              refine jj_iload C dX2_chargeDays_49 rfl ?_
              refine tt_aald C hok (t := (2, 2, 0)) ka_33 (by decide) rfl rfl rfl (vp_in_iff.mpr ⟨by omega, by omega⟩) dX2_chargeDays_51 (fun v_45 hv_45 => ?_)
              obtain ⟨a_46, rfl, ka_46⟩ := tt_vr hv_45
              refine jj_dup C dX2_chargeDays_52 rfl ?_
              refine tt_get C hok jk_9 2 (by decide) jw_5719898240 (t := (1, (-9223372036854775808), 9223372036854775807)) ka_46 (by decide) rfl rfl dX2_chargeDays_53 (fun v_47 hv_47 hf_48 => ?_)
              obtain ⟨y_49, rfl, -, -⟩ := tt_vj hv_47
              refine jj_lload C dX2_chargeDays_56 rfl ?_
              obtain ⟨y_50, ey_50⟩ : ∃ z : Int64, y_49 - y_44 = z := ⟨_, rfl⟩
              refine jj_lsub (v := y_50) C dX2_chargeDays_58 ey_50 ?_
              refine rl_put C hok jk_9 2 (by decide) jw_5719898240 (t := (1, (-9223372036854775808), 9223372036854775807)) ka_46 (by decide) rfl rfl rfl (tt_ja y_50) rfl rfl dX2_chargeDays_59 (fun pl_51 hok_52 tr hn tl => ?_)
              replace hf_20 := tr _ _ _ (Or.inl (tt_ne hk0 ka_46 (by decide))) hf_20
              replace hf_32 := tr _ _ _ (Or.inl (tt_ne hk0 ka_46 (by decide))) hf_32
              replace hf_40 := tr _ _ _ (Or.inl (tt_ne hk0 ka_46 (by decide))) hf_40
              have hf_53 := hn
              replace hfr := hfr.put ka_46 tr (by decide)
              replace hfa := hfa.all tl
              refine jj_lload_n C dX2_chargeDays_62 rfl ?_
              refine jj_lload C dX2_chargeDays_63 rfl ?_
              obtain ⟨y_54, ey_54⟩ : ∃ z : Int64, y_18 + y_44 = z := ⟨_, rfl⟩
              refine jj_ladd (v := y_54) C dX2_chargeDays_65 ey_54 ?_
              refine jj_lstore_n C dX2_chargeDays_66 (by decide) rfl ?_
              obtain ⟨x_55, ex_55, vx_55⟩ := tt_inc (x := x_17) (n := 1) (by omega) (by omega)
              refine jj_iinc (v := x_55) C dX2_chargeDays_67 rfl ex_55 (by decide) rfl ?_
              refine jj_goto (tgt := 14) C dX2_chargeDays_70 (by decide) ?_
              refine jj_loc [0, 3, 1, 4, 5] rfl ?_
              exact ihL_16 pl_51 x_55 y_54 hok_52 hfr hfa (by first | omega | decide | exact tt_lo _ | exact tt_hi _) (by first | omega | decide | exact tt_lo _ | exact tt_hi _) (by first | omega | decide | exact tt_lo _ | exact tt_hi _)
        exact hL_16 _ pl (0 : Int32) y_3 trivial hok hfr hfa (by first | omega | decide | exact tt_lo _ | exact tt_hi _) (by first | omega | decide | exact tt_lo _ | exact tt_hi _) (Int.self_le_toNat _)
  exact hL_1 _ pl0 (0 : Int32) (0 : Int64) trivial hok hfr hfa (by first | omega | decide | exact tt_lo _ | exact tt_hi _) (by first | omega | decide | exact tt_lo _ | exact tt_hi _) (Int.self_le_toNat _)

set_option maxHeartbeats 4000000 in
set_option maxRecDepth 100000 in
theorem tc_X10_daysUntil_1 {l : Launch} (hl : l.stackTraces = false) (D : va_G) (cA : Nat → ClassId) (ak : (Nat → Nat) × (Nat → Nat)) {Kd : Nat → Nat} (h0 : Nat) (p1 : Int64) (hk0 : Kd h0 = 15) {pl0 : va_W} (hok : tt_ok tt_tk cA Kd pl0) : jj_M l D cA ak yX10_daysUntil (.code yX10_daysUntil cX10_daysUntil 4 (some .int)) 6 82 1 6 ([] ++ pl0) [.ref h0, .long p1] (tt_O (fun rx pl1 r => rx = [] ∧ tt_ok tt_tk cA Kd pl1 ∧ tt_fr Kd [(1, 0), (1, 1), (1, 2), (1, 3), (1, 4), (1, 5), (1, 6), (1, 7), (1, 8), (1, 9), (2, 0), (2, 1), (2, 2), (2, 3), (2, 4), (3, 0), (3, 1), (3, 2), (3, 3), (3, 4), (3, 5), (4, 0), (4, 1), (4, 2), (4, 3), (4, 4)] pl0 pl1 ∧ tt_fa Kd [5] pl0 pl1 ∧ ((r = some (.int (-1))) ∨ (∃ v : Int32, (0 : Int) ≤ v.toInt ∧ v.toInt ≤ 400 ∧ r = some (.int v))))) (tt_OX (fun E rx pl1 => rx = [] ∧ tt_ok tt_tk cA Kd pl1 ∧ tt_fr Kd [(1, 0), (1, 1), (1, 2), (1, 3), (1, 4), (1, 5), (1, 6), (1, 7), (1, 8), (1, 9), (2, 0), (2, 1), (2, 2), (2, 3), (2, 4), (3, 0), (3, 1), (3, 2), (3, 3), (3, 4), (3, 5), (4, 0), (4, 1), (4, 2), (4, 3), (4, 4)] pl0 pl1 ∧ tt_fa Kd [5] pl0 pl1 ∧ (E = "java/lang/IllegalArgumentException"))) := by
  refine jj_start hl (by decide) jw_1cad7a53db (jj_le rfl) ?_
  intro p e s m args below meth c A hargs hA C hex hmn
  have hfr := tt_fr.refl (K := Kd) (WS := [(1, 0), (1, 1), (1, 2), (1, 3), (1, 4), (1, 5), (1, 6), (1, 7), (1, 8), (1, 9), (2, 0), (2, 1), (2, 2), (2, 3), (2, 4), (3, 0), (3, 1), (3, 2), (3, 3), (3, 4), (3, 5), (4, 0), (4, 1), (4, 2), (4, 3), (4, 4)]) pl0
  have hfa := tt_fa.refl (K := Kd) (WA := [5]) pl0
  refine jj_lload_n C dX10_daysUntil_0 rfl ?_
  refine jj_lconst (v := 0) C dX10_daysUntil_1 (by decide) ?_
  refine jj_lcmp_ge (tgt := 17) C dX10_daysUntil_2 dX10_daysUntil_3 (by decide) (fun c_1 => ?_) (fun c_1 => ?_)
  · refine jj_aload_n C dX10_daysUntil_17 rfl ?_
    refine tt_get C hok jk_11 4 (by decide) jw_a0e4d790fa (t := (2, 1, 0)) hk0 (by decide) rfl rfl dX10_daysUntil_18 (fun v_2 hv_2 hf_3 => ?_)
    obtain ⟨a_4, rfl, ka_4⟩ := tt_vr hv_2
    refine jj_aload_n C dX10_daysUntil_21 rfl ?_
    refine tt_get C hok jk_11 3 (by decide) jw_f82a97e333 (t := (2, 1, 0)) hk0 (by decide) rfl rfl dX10_daysUntil_22 (fun v_5 hv_5 hf_6 => ?_)
    obtain ⟨a_7, rfl, ka_7⟩ := tt_vr hv_5
    obtain ⟨qc, gs, hqc⟩ := tt_recv (cx := []) hok ka_4 (by decide) rfl
    refine tt_callV (rest := []) C (tc_X0_copyFrom_1 hl D cA ak a_4 a_7 ka_4 ka_7 hok) [] [] rfl rfl (by decide) (by decide) (by decide) qc hqc rfl rfl jw_4d0cb05860 jw_8aa1bdb2cc jw_ac98d74d03 jw_7d25d4fd32 jw_58241735d3 jn_X0_copyFrom rfl (jj_le rfl) (jj_le rfl) (jj_le rfl) (jj_le rfl) (jj_le rfl) dX10_daysUntil_25 rfl (fun _ _ _ hX => hX.elim) (fun rx pl_8 r O_11 => ?_)
    obtain ⟨rfl, hok_9, hr_10, hfa9, hR_13⟩ := O_11
    replace hf_3 := hr_10.at hk0 (by decide) (by decide) hf_3
    replace hf_6 := hr_10.at hk0 (by decide) (by decide) hf_6
    replace hfr := hfr.trans (hr_10.sub (by decide))
    replace hfa := hfa.trans (hfa9.sub (by decide))
    obtain rfl := hR_13
    refine jj_iconst (v := 0) C dX10_daysUntil_28 (by decide) ?_
    refine jj_istore_n C dX10_daysUntil_29 (by decide) rfl ?_
    have hL_16 : ∀ (N : Nat) (pl : va_W) (x_17 : Int32), True → tt_ok tt_tk cA Kd pl → tt_fr Kd [(1, 0), (1, 1), (1, 2), (1, 3), (1, 4), (1, 5), (1, 6), (1, 7), (1, 8), (1, 9), (2, 0), (2, 1), (2, 2), (2, 3), (2, 4), (3, 0), (3, 1), (3, 2), (3, 3), (3, 4), (3, 5), (4, 0), (4, 1), (4, 2), (4, 3), (4, 4)] pl0 pl → tt_fa Kd [5] pl0 pl → tt_at pl h0 4 (.ref a_4) → tt_at pl h0 3 (.ref a_7) → (0 : Int) ≤ x_17.toInt → x_17.toInt ≤ 1300 → (2147483648 - x_17.toInt ≤ (N : Int)) → jj_J p l e (jj_rm 6 82 1 6) s m args below meth c 4 A (vx_MQ below (jj_q D A (tt_O (fun rx pl1 r => rx = [] ∧ tt_ok tt_tk cA Kd pl1 ∧ tt_fr Kd [(1, 0), (1, 1), (1, 2), (1, 3), (1, 4), (1, 5), (1, 6), (1, 7), (1, 8), (1, 9), (2, 0), (2, 1), (2, 2), (2, 3), (2, 4), (3, 0), (3, 1), (3, 2), (3, 3), (3, 4), (3, 5), (4, 0), (4, 1), (4, 2), (4, 3), (4, 4)] pl0 pl1 ∧ tt_fa Kd [5] pl0 pl1 ∧ ((r = some (.int (-1))) ∨ (∃ v : Int32, (0 : Int) ≤ v.toInt ∧ v.toInt ≤ 400 ∧ r = some (.int v)))))) (jj_x D A (tt_OX (fun E rx pl1 => rx = [] ∧ tt_ok tt_tk cA Kd pl1 ∧ tt_fr Kd [(1, 0), (1, 1), (1, 2), (1, 3), (1, 4), (1, 5), (1, 6), (1, 7), (1, 8), (1, 9), (2, 0), (2, 1), (2, 2), (2, 3), (2, 4), (3, 0), (3, 1), (3, 2), (3, 3), (3, 4), (3, 5), (4, 0), (4, 1), (4, 2), (4, 3), (4, 4)] pl0 pl1 ∧ tt_fa Kd [5] pl0 pl1 ∧ (E = "java/lang/IllegalArgumentException")))) args s 1 6 A) (jj_X D A ([] ++ pl)) 0 0 30 [(3, .int x_17), (0, .ref h0), (1, .long p1)] [] := by
      intro NL_16
      induction NL_16 with
      | zero => intro pl x_17 _ hok hfr hfa hf_18 hf_19 lx_17 ux_17 hNL_16; exfalso; omega
      | succ NL_16 ihL_16 =>
        intro pl x_17 _ hok hfr hfa hf_18 hf_19 lx_17 ux_17 hNL_16
        replace ihL_16 := fun pl x_17 h1 => ihL_16 pl x_17 trivial h1
        refine jj_iload_n C dX10_daysUntil_30 rfl ?_
        refine jj_sipush (v := 400) C dX10_daysUntil_31 (by decide) ?_
        refine jj_icmp_gt (tgt := 66) C dX10_daysUntil_34 (by decide) (fun c_20 => ?_) (fun c_20 => ?_)
        · have z_c_20 := jc_lt (a := (400)) (b := (x_17).toInt) c_20 (by decide) rfl
          refine jj_iconst (v := (-1)) C dX10_daysUntil_66 (by decide) ?_
          exact jj_iret C ⟨[], pl, rfl, rfl, hok, hfr, hfa, (Or.inl rfl)⟩ dX10_daysUntil_67 (jj_le rfl) (jj_le rfl)
        · have z_c_20 := jc_nlt (a := (400)) (b := (x_17).toInt) c_20 (by decide) rfl
          refine jj_aload_n C dX10_daysUntil_37 rfl ?_
          refine tt_getF C hok jk_11 4 (by decide) jw_a0e4d790fa (t := (2, 1, 0)) hk0 (by decide) rfl rfl hf_18 dX10_daysUntil_38 ?_
          obtain ⟨qc, gs, hqc⟩ := tt_recv (cx := []) hok ka_4 (by decide) rfl
          refine tt_callV (rest := []) C (tc_X0_netOfAll_1 hl D cA ak a_4 ka_4 hok) [] [] rfl rfl (by decide) (by decide) (by decide) qc hqc rfl rfl jw_29489d1cd8 jw_26ce198b3a jw_dfaafe33a2 jw_7d25d4fd32 jw_144409f761 jn_X0_netOfAll rfl (jj_le rfl) (jj_le rfl) (jj_le rfl) (jj_le rfl) (jj_le rfl) dX10_daysUntil_41 rfl (fun _ _ _ hX => hX.elim) (fun rx pl_21 r O_24 => ?_)
          obtain ⟨rfl, hok_22, hr_23, hfa9, hR_26⟩ := O_24
          replace hf_18 := hr_23.at hk0 (by decide) (by decide) hf_18
          replace hf_19 := hr_23.at hk0 (by decide) (by decide) hf_19
          replace hfr := hfr.trans (hr_23.sub (by decide))
          replace hfa := hfa.trans (hfa9.sub (by decide))
          obtain ⟨y_29, rfl⟩ := hR_26
          refine jj_lload_n C dX10_daysUntil_44 rfl ?_
          refine jj_lcmp_gt (tgt := 51) C dX10_daysUntil_45 dX10_daysUntil_46 (by decide) (fun c_30 => ?_) (fun c_30 => ?_)
          · refine jj_aload_n C dX10_daysUntil_51 rfl ?_
            refine tt_getF C hok_22 jk_11 4 (by decide) jw_a0e4d790fa (t := (2, 1, 0)) hk0 (by decide) rfl rfl hf_18 dX10_daysUntil_52 ?_
            refine jj_iconst (v := 1) C dX10_daysUntil_55 (by decide) ?_
            refine tt_callS (rest := []) C (tc_X2_chargeDays_1 hl D cA ak a_4 ka_4 hok_22) [] [] rfl rfl (by decide) (by decide) (by decide) jw_40af446357 jw_f7a6df989a jw_79af3f4029 jw_5ec919523f jn_X2_chargeDays rfl (jj_le rfl) (jj_le rfl) (jj_le rfl) (jj_le rfl) (jj_le rfl) dX10_daysUntil_56 rfl (fun _ _ _ hX => hX.elim) (fun rx pl_31 r O_34 => ?_)
            obtain ⟨rfl, hok_32, hr_33, hfa9, hR_36⟩ := O_34
            replace hf_18 := hr_33.at hk0 (by decide) (by decide) hf_18
            replace hf_19 := hr_33.at hk0 (by decide) (by decide) hf_19
            replace hfr := hfr.trans (hr_33.sub (by decide))
            replace hfa := hfa.trans (hfa9.sub (by decide))
            obtain ⟨y_39, rfl⟩ := hR_36
            refine jj_pop2 C dX10_daysUntil_59 rfl ?_
            obtain ⟨x_40, ex_40, vx_40⟩ := tt_inc (x := x_17) (n := 1) (by omega) (by omega)
            refine jj_iinc (v := x_40) C dX10_daysUntil_60 rfl ex_40 (by decide) rfl ?_
            refine jj_goto (tgt := 30) C dX10_daysUntil_63 (by decide) ?_
            exact ihL_16 pl_31 x_40 hok_32 hfr hfa hf_18 hf_19 (by first | omega | decide | exact tt_lo _ | exact tt_hi _) (by first | omega | decide | exact tt_lo _ | exact tt_hi _) (by first | omega | decide | exact tt_lo _ | exact tt_hi _)
          · refine jj_iload_n C dX10_daysUntil_49 rfl ?_
            exact jj_iret C ⟨[], pl_21, rfl, rfl, hok_22, hfr, hfa, (Or.inr ⟨x_17, (by first | omega | exact tt_lo _ | exact tt_hi _), (by first | omega | exact tt_lo _ | exact tt_hi _), rfl⟩)⟩ dX10_daysUntil_50 (jj_le rfl) (jj_le rfl)
    exact hL_16 _ pl_8 (0 : Int32) trivial hok_9 hfr hfa hf_3 hf_6 (by first | omega | decide | exact tt_lo _ | exact tt_hi _) (by first | omega | decide | exact tt_lo _ | exact tt_hi _) (Int.self_le_toNat _)
  · exact jj_throwW (k := 51) (text := "no such assets") C jt_RX10_75 jw_0e6c957e85 (by decide +kernel) dX10_daysUntil_6 dX10_daysUntil_9 dX10_daysUntil_10 dX10_daysUntil_13 dX10_daysUntil_16 hex (jj_le rfl) (jj_le rfl) (jj_le rfl) (jj_le rfl) ⟨[], pl0, rfl, rfl, hok, hfr, hfa, rfl⟩ (jj_le rfl) (jj_le rfl)

set_option maxHeartbeats 4000000 in
set_option maxRecDepth 100000 in
theorem tc_X8_begin_1 {l : Launch} (hl : l.stackTraces = false) (D : va_G) (cA : Nat → ClassId) (ak : (Nat → Nat) × (Nat → Nat)) {Kd : Nat → Nat} (h0 : Nat) (p1 : Int32) (p2 : Int32) (hk0 : Kd h0 = 2) {pl0 : va_W} (hok : tt_ok tt_tk cA Kd pl0) : jj_M l D cA ak yX8_begin (.code yX8_begin cX8_begin 3 none) 0 0 0 0 ([] ++ pl0) [.ref h0, .int p1, .int p2] (tt_O (fun rx pl1 r => rx = [] ∧ tt_ok tt_tk cA Kd pl1 ∧ tt_fr Kd [(2, 0), (2, 1), (2, 2), (2, 3), (2, 4)] pl0 pl1 ∧ tt_fa Kd [] pl0 pl1 ∧ ((r = none)))) (tt_OX (fun _ _ _ => False)) := by
  refine jj_start hl (by decide) jw_41b0aa9f03 (jj_le rfl) ?_
  intro p e s m args below meth c A hargs hA C hex hmn
  have hfr := tt_fr.refl (K := Kd) (WS := [(2, 0), (2, 1), (2, 2), (2, 3), (2, 4)]) pl0
  have hfa := tt_fa.refl (K := Kd) (WA := []) pl0
  have lp1 := tt_lo p1
  have up1 := tt_hi p1
  have lp2 := tt_lo p2
  have up2 := tt_hi p2
  refine jj_aload_n C dX8_begin_0 rfl ?_
  refine jj_iload_n C dX8_begin_1 rfl ?_
  refine rl_put C hok jk_9 0 (by decide) jw_91bc8df070 (t := (0, (-2147483648), 2147483647)) hk0 (by decide) rfl rfl rfl (tt_ia p1) rfl rfl dX8_begin_2 (fun pl_1 hok_2 tr hn tl => ?_)
  have hf_3 := hn
  replace hfr := hfr.put hk0 tr (by decide)
  replace hfa := hfa.all tl
  refine jj_aload_n C dX8_begin_5 rfl ?_
  refine jj_iload_n C dX8_begin_6 rfl ?_
  refine rl_put C hok_2 jk_9 1 (by decide) jw_9aacc2e946 (t := (0, (-2147483648), 2147483647)) hk0 (by decide) rfl rfl rfl (tt_ia p2) rfl rfl dX8_begin_7 (fun pl_4 hok_5 tr hn tl => ?_)
  replace hf_3 := tr _ _ _ (Or.inr (by decide)) hf_3
  have hf_6 := hn
  replace hfr := hfr.put hk0 tr (by decide)
  replace hfa := hfa.all tl
  refine jj_aload_n C dX8_begin_10 rfl ?_
  refine jj_lconst (v := 0) C dX8_begin_11 (by decide) ?_
  refine rl_put C hok_5 jk_9 2 (by decide) jw_589ef22e6e (t := (1, (-9223372036854775808), 9223372036854775807)) hk0 (by decide) rfl rfl rfl (tt_ja (0 : Int64)) rfl rfl dX8_begin_12 (fun pl_7 hok_8 tr hn tl => ?_)
  replace hf_3 := tr _ _ _ (Or.inr (by decide)) hf_3
  replace hf_6 := tr _ _ _ (Or.inr (by decide)) hf_6
  have hf_9 := hn
  replace hfr := hfr.put hk0 tr (by decide)
  replace hfa := hfa.all tl
  refine jj_aload_n C dX8_begin_15 rfl ?_
  refine jj_lconst (v := 0) C dX8_begin_16 (by decide) ?_
  refine rl_put C hok_8 jk_9 3 (by decide) jw_dade208d77 (t := (1, (-9223372036854775808), 9223372036854775807)) hk0 (by decide) rfl rfl rfl (tt_ja (0 : Int64)) rfl rfl dX8_begin_17 (fun pl_10 hok_11 tr hn tl => ?_)
  replace hf_3 := tr _ _ _ (Or.inr (by decide)) hf_3
  replace hf_6 := tr _ _ _ (Or.inr (by decide)) hf_6
  replace hf_9 := tr _ _ _ (Or.inr (by decide)) hf_9
  have hf_12 := hn
  replace hfr := hfr.put hk0 tr (by decide)
  replace hfa := hfa.all tl
  refine jj_aload_n C dX8_begin_20 rfl ?_
  refine jj_ldc2 (v := 1000000) C dX8_begin_21 jw_6861b3b77c ?_
  refine rl_put C hok_11 jk_9 4 (by decide) jw_e3193c06db (t := (1, (-9223372036854775808), 9223372036854775807)) hk0 (by decide) rfl rfl rfl (tt_ja (1000000 : Int64)) rfl rfl dX8_begin_24 (fun pl_13 hok_14 tr hn tl => ?_)
  replace hf_3 := tr _ _ _ (Or.inr (by decide)) hf_3
  replace hf_6 := tr _ _ _ (Or.inr (by decide)) hf_6
  replace hf_9 := tr _ _ _ (Or.inr (by decide)) hf_9
  replace hf_12 := tr _ _ _ (Or.inr (by decide)) hf_12
  have hf_15 := hn
  replace hfr := hfr.put hk0 tr (by decide)
  replace hfa := hfa.all tl
  exact jj_vret C ⟨[], pl_13, rfl, rfl, hok_14, hfr, hfa, rfl⟩ dX8_begin_27 (jj_le rfl) (jj_le rfl)

set_option maxHeartbeats 4000000 in
set_option maxRecDepth 100000 in
theorem tc_X0_beginSeries_1 {l : Launch} (hl : l.stackTraces = false) (D : va_G) (cA : Nat → ClassId) (ak : (Nat → Nat) × (Nat → Nat)) {Kd : Nat → Nat} (h0 : Nat) (hk0 : Kd h0 = 1) {pl0 : va_W} (hok : tt_ok tt_tk cA Kd pl0) : jj_M l D cA ak yX0_beginSeries (.code yX0_beginSeries cX0_beginSeries 2 (some (.object "SeriesFund$Series"))) 1 22 0 0 ([] ++ pl0) [.ref h0] (tt_O (fun rx pl1 r => rx = [] ∧ tt_ok tt_tk cA Kd pl1 ∧ tt_fr Kd [(1, 6), (1, 7), (2, 0), (2, 1), (2, 2), (2, 3), (2, 4)] pl0 pl1 ∧ tt_fa Kd [] pl0 pl1 ∧ ((∃ v : Nat, Kd v = 2 ∧ r = some (.ref v))))) (tt_OX (fun _ _ _ => False)) := by
  refine jj_start hl (by decide) jw_89a78d52f3 (jj_le rfl) ?_
  intro p e s m args below meth c A hargs hA C hex hmn
  have hfr := tt_fr.refl (K := Kd) (WS := [(1, 6), (1, 7), (2, 0), (2, 1), (2, 2), (2, 3), (2, 4)]) pl0
  have hfa := tt_fa.refl (K := Kd) (WA := []) pl0
  refine jj_aload_n C dX0_beginSeries_0 rfl ?_
  refine tt_get C hok jk_2 7 (by decide) jw_4839b30b4b (t := (0, 0, 6)) hk0 (by decide) rfl rfl dX0_beginSeries_1 (fun v_1 hv_1 hf_2 => ?_)
  obtain ⟨x_3, rfl, lx_3, ux_3⟩ := tt_vi hv_1
  refine jj_iconst (v := 5) C dX0_beginSeries_4 (by decide) ?_
  refine tt_call0S (rest := []) C (ct_J9_min_7cf53_1 hl D cA ak x_3) jw_91b79dc18e jw_bd781c2022 jw_a731c8553d jw_7adaf59315 jn_J9_min_7cf53 rfl (jj_le rfl) (jj_le rfl) (jj_le rfl) (jj_le rfl) (jj_le rfl) dX0_beginSeries_5 rfl (fun w1 r O_4 => ?_)
  rcases O_4 with ⟨c_5, -, rfl⟩ | ⟨c_6, -, rfl⟩
  · have z_c_5 := jc_lt (a := (5)) (b := (x_3).toInt) c_5 (by decide) rfl
    refine jj_istore_n C dX0_beginSeries_8 (by decide) rfl ?_
    refine jj_aload_n C dX0_beginSeries_9 rfl ?_
    refine tt_get C hok jk_2 11 (by decide) jw_b81d81495e (t := (2, 6, 0)) hk0 (by decide) rfl rfl dX0_beginSeries_10 (fun v_7 hv_7 hf_8 => ?_)
    obtain ⟨a_9, rfl, ka_9⟩ := tt_vr hv_7
    refine jj_iload_n C dX0_beginSeries_13 rfl ?_
    refine tt_aald C hok (t := (2, 2, 0)) ka_9 (by decide) rfl rfl rfl (vp_in_iff.mpr (by decide)) dX0_beginSeries_14 (fun v_10 hv_10 => ?_)
    obtain ⟨a_11, rfl, ka_11⟩ := tt_vr hv_10
    refine jj_aload_n C dX0_beginSeries_15 rfl ?_
    refine tt_get C hok jk_2 6 (by decide) jw_cb51088522 (t := (0, (-2147483648), 2147483647)) hk0 (by decide) rfl rfl dX0_beginSeries_16 (fun v_12 hv_12 hf_13 => ?_)
    obtain ⟨x_14, rfl, lx_14, ux_14⟩ := tt_vi hv_12
    refine jj_aload_n C dX0_beginSeries_19 rfl ?_
    refine tt_get C hok jk_2 5 (by decide) jw_cd8f4320e7 (t := (0, (-2147483648), 2147483647)) hk0 (by decide) rfl rfl dX0_beginSeries_20 (fun v_15 hv_15 hf_16 => ?_)
    obtain ⟨x_17, rfl, lx_17, ux_17⟩ := tt_vi hv_15
    obtain ⟨qc, gs, hqc⟩ := tt_recv (cx := []) hok ka_11 (by decide) rfl
    refine tt_callV (rest := []) C (tc_X8_begin_1 hl D cA ak a_11 x_14 x_17 ka_11 hok) [] [] rfl rfl (by decide) (by decide) (by decide) qc hqc rfl rfl jw_e15097ce9f jw_58707122d2 jw_34aa51ed7c jw_364e75910d jw_41b0aa9f03 jn_X8_begin rfl (jj_le rfl) (jj_le rfl) (jj_le rfl) (jj_le rfl) (jj_le rfl) dX0_beginSeries_23 rfl (fun _ _ _ hX => hX.elim) (fun rx pl_18 r O_21 => ?_)
    obtain ⟨rfl, hok_19, hr_20, hfa9, hR_23⟩ := O_21
    replace hf_2 := hr_20.at hk0 (by decide) (by decide) hf_2
    replace hf_8 := hr_20.at hk0 (by decide) (by decide) hf_8
    replace hf_13 := hr_20.at hk0 (by decide) (by decide) hf_13
    replace hf_16 := hr_20.at hk0 (by decide) (by decide) hf_16
    replace hfr := hfr.trans (hr_20.sub (by decide))
    replace hfa := hfa.trans (hfa9.sub (by decide))
    obtain rfl := hR_23
    refine jj_aload_n C dX0_beginSeries_26 rfl ?_
    refine jj_iload_n C dX0_beginSeries_27 rfl ?_
    refine jj_iconst (v := 1) C dX0_beginSeries_28 (by decide) ?_
    refine jj_iadd (v := 6) C dX0_beginSeries_29 (by decide) ?_
    refine rl_put C hok_19 jk_2 7 (by decide) jw_4839b30b4b (t := (0, 0, 6)) hk0 (by decide) rfl rfl rfl (tt_iv (by decide) (by decide)) rfl rfl dX0_beginSeries_30 (fun pl_26 hok_27 tr hn tl => ?_)
    replace hf_8 := tr _ _ _ (Or.inr (by decide)) hf_8
    replace hf_13 := tr _ _ _ (Or.inr (by decide)) hf_13
    replace hf_16 := tr _ _ _ (Or.inr (by decide)) hf_16
    have hf_28 := hn
    replace hfr := hfr.put hk0 tr (by decide)
    replace hfa := hfa.all tl
    refine jj_aload_n C dX0_beginSeries_33 rfl ?_
    refine jj_dup C dX0_beginSeries_34 rfl ?_
    refine tt_getF C hok_27 jk_2 6 (by decide) jw_cb51088522 (t := (0, (-2147483648), 2147483647)) hk0 (by decide) rfl rfl hf_13 dX0_beginSeries_35 ?_
    refine jj_iconst (v := 1) C dX0_beginSeries_38 (by decide) ?_
    obtain ⟨x_29, ex_29⟩ : ∃ z : Int32, x_14 + (1 : Int32) = z := ⟨_, rfl⟩
    refine jj_iadd (v := x_29) C dX0_beginSeries_39 ex_29 ?_
    refine rl_put C hok_27 jk_2 6 (by decide) jw_cb51088522 (t := (0, (-2147483648), 2147483647)) hk0 (by decide) rfl rfl rfl (tt_ia x_29) rfl rfl dX0_beginSeries_40 (fun pl_30 hok_31 tr hn tl => ?_)
    replace hf_8 := tr _ _ _ (Or.inr (by decide)) hf_8
    replace hf_16 := tr _ _ _ (Or.inr (by decide)) hf_16
    replace hf_28 := tr _ _ _ (Or.inr (by decide)) hf_28
    have hf_32 := hn
    replace hfr := hfr.put hk0 tr (by decide)
    replace hfa := hfa.all tl
    refine jj_aload_n C dX0_beginSeries_43 rfl ?_
    refine tt_getF C hok_31 jk_2 11 (by decide) jw_b81d81495e (t := (2, 6, 0)) hk0 (by decide) rfl rfl hf_8 dX0_beginSeries_44 ?_
    refine jj_iload_n C dX0_beginSeries_47 rfl ?_
    refine tt_aald C hok_31 (t := (2, 2, 0)) ka_9 (by decide) rfl rfl rfl (vp_in_iff.mpr (by decide)) dX0_beginSeries_48 (fun v_33 hv_33 => ?_)
    obtain ⟨a_34, rfl, ka_34⟩ := tt_vr hv_33
    exact jj_aret C (Or.inl ⟨_, rfl⟩) ⟨[], pl_30, rfl, rfl, hok_31, hfr, hfa, ⟨a_34, ka_34, rfl⟩⟩ dX0_beginSeries_49 (jj_le rfl) (jj_le rfl)
  · have z_c_6 := jc_nlt (a := (5)) (b := (x_3).toInt) c_6 (by decide) rfl
    refine jj_istore_n C dX0_beginSeries_8 (by decide) rfl ?_
    refine jj_aload_n C dX0_beginSeries_9 rfl ?_
    refine tt_get C hok jk_2 11 (by decide) jw_b81d81495e (t := (2, 6, 0)) hk0 (by decide) rfl rfl dX0_beginSeries_10 (fun v_35 hv_35 hf_36 => ?_)
    obtain ⟨a_37, rfl, ka_37⟩ := tt_vr hv_35
    refine jj_iload_n C dX0_beginSeries_13 rfl ?_
    refine tt_aald C hok (t := (2, 2, 0)) ka_37 (by decide) rfl rfl rfl (vp_in_iff.mpr ⟨by omega, by omega⟩) dX0_beginSeries_14 (fun v_38 hv_38 => ?_)
    obtain ⟨a_39, rfl, ka_39⟩ := tt_vr hv_38
    refine jj_aload_n C dX0_beginSeries_15 rfl ?_
    refine tt_get C hok jk_2 6 (by decide) jw_cb51088522 (t := (0, (-2147483648), 2147483647)) hk0 (by decide) rfl rfl dX0_beginSeries_16 (fun v_40 hv_40 hf_41 => ?_)
    obtain ⟨x_42, rfl, lx_42, ux_42⟩ := tt_vi hv_40
    refine jj_aload_n C dX0_beginSeries_19 rfl ?_
    refine tt_get C hok jk_2 5 (by decide) jw_cd8f4320e7 (t := (0, (-2147483648), 2147483647)) hk0 (by decide) rfl rfl dX0_beginSeries_20 (fun v_43 hv_43 hf_44 => ?_)
    obtain ⟨x_45, rfl, lx_45, ux_45⟩ := tt_vi hv_43
    obtain ⟨qc, gs, hqc⟩ := tt_recv (cx := []) hok ka_39 (by decide) rfl
    refine tt_callV (rest := []) C (tc_X8_begin_1 hl D cA ak a_39 x_42 x_45 ka_39 hok) [] [] rfl rfl (by decide) (by decide) (by decide) qc hqc rfl rfl jw_e15097ce9f jw_58707122d2 jw_34aa51ed7c jw_364e75910d jw_41b0aa9f03 jn_X8_begin rfl (jj_le rfl) (jj_le rfl) (jj_le rfl) (jj_le rfl) (jj_le rfl) dX0_beginSeries_23 rfl (fun _ _ _ hX => hX.elim) (fun rx pl_46 r O_49 => ?_)
    obtain ⟨rfl, hok_47, hr_48, hfa9, hR_51⟩ := O_49
    replace hf_2 := hr_48.at hk0 (by decide) (by decide) hf_2
    replace hf_36 := hr_48.at hk0 (by decide) (by decide) hf_36
    replace hf_41 := hr_48.at hk0 (by decide) (by decide) hf_41
    replace hf_44 := hr_48.at hk0 (by decide) (by decide) hf_44
    replace hfr := hfr.trans (hr_48.sub (by decide))
    replace hfa := hfa.trans (hfa9.sub (by decide))
    obtain rfl := hR_51
    refine jj_aload_n C dX0_beginSeries_26 rfl ?_
    refine jj_iload_n C dX0_beginSeries_27 rfl ?_
    refine jj_iconst (v := 1) C dX0_beginSeries_28 (by decide) ?_
    obtain ⟨x_54, ex_54, vx_54⟩ := tt_iadd (x := x_3) (y := (1 : Int32)) (a := x_3.toInt) rfl (b := 1) (by decide) (by omega) (by omega)
    refine jj_iadd (v := x_54) C dX0_beginSeries_29 ex_54 ?_
    refine rl_put C hok_47 jk_2 7 (by decide) jw_4839b30b4b (t := (0, 0, 6)) hk0 (by decide) rfl rfl rfl (tt_iv (by omega) (by omega)) rfl rfl dX0_beginSeries_30 (fun pl_55 hok_56 tr hn tl => ?_)
    replace hf_36 := tr _ _ _ (Or.inr (by decide)) hf_36
    replace hf_41 := tr _ _ _ (Or.inr (by decide)) hf_41
    replace hf_44 := tr _ _ _ (Or.inr (by decide)) hf_44
    have hf_57 := hn
    replace hfr := hfr.put hk0 tr (by decide)
    replace hfa := hfa.all tl
    refine jj_aload_n C dX0_beginSeries_33 rfl ?_
    refine jj_dup C dX0_beginSeries_34 rfl ?_
    refine tt_getF C hok_56 jk_2 6 (by decide) jw_cb51088522 (t := (0, (-2147483648), 2147483647)) hk0 (by decide) rfl rfl hf_41 dX0_beginSeries_35 ?_
    refine jj_iconst (v := 1) C dX0_beginSeries_38 (by decide) ?_
    obtain ⟨x_58, ex_58⟩ : ∃ z : Int32, x_42 + (1 : Int32) = z := ⟨_, rfl⟩
    refine jj_iadd (v := x_58) C dX0_beginSeries_39 ex_58 ?_
    refine rl_put C hok_56 jk_2 6 (by decide) jw_cb51088522 (t := (0, (-2147483648), 2147483647)) hk0 (by decide) rfl rfl rfl (tt_ia x_58) rfl rfl dX0_beginSeries_40 (fun pl_59 hok_60 tr hn tl => ?_)
    replace hf_36 := tr _ _ _ (Or.inr (by decide)) hf_36
    replace hf_44 := tr _ _ _ (Or.inr (by decide)) hf_44
    replace hf_57 := tr _ _ _ (Or.inr (by decide)) hf_57
    have hf_61 := hn
    replace hfr := hfr.put hk0 tr (by decide)
    replace hfa := hfa.all tl
    refine jj_aload_n C dX0_beginSeries_43 rfl ?_
    refine tt_getF C hok_60 jk_2 11 (by decide) jw_b81d81495e (t := (2, 6, 0)) hk0 (by decide) rfl rfl hf_36 dX0_beginSeries_44 ?_
    refine jj_iload_n C dX0_beginSeries_47 rfl ?_
    refine tt_aald C hok_60 (t := (2, 2, 0)) ka_37 (by decide) rfl rfl rfl (vp_in_iff.mpr ⟨by omega, by omega⟩) dX0_beginSeries_48 (fun v_62 hv_62 => ?_)
    obtain ⟨a_63, rfl, ka_63⟩ := tt_vr hv_62
    exact jj_aret C (Or.inl ⟨_, rfl⟩) ⟨[], pl_59, rfl, rfl, hok_60, hfr, hfa, ⟨a_63, ka_63, rfl⟩⟩ dX0_beginSeries_49 (jj_le rfl) (jj_le rfl)

