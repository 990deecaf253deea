set_option maxHeartbeats 4000000 in
set_option maxRecDepth 100000 in
theorem tc_X8_priceWith_1 {l : Launch} (hl : l.stackTraces = false) (D : va_G) (cA : Nat → ClassId) (ak : (Nat → Nat) × (Nat → Nat)) {Kd : Nat → Nat} (h0 : Nat) (p1 : Int64) (hk0 : Kd h0 = 2) {pl0 : va_W} (hok : tt_ok tt_tk cA Kd pl0) : jj_M l D cA ak yX8_priceWith (.code yX8_priceWith cX8_priceWith 3 (some .long)) 0 0 0 0 ([] ++ pl0) [.ref h0, .long p1] (tt_O (fun rx pl1 r => rx = [] ∧ tt_ok tt_tk cA Kd pl1 ∧ tt_fr Kd [] pl0 pl1 ∧ ((r = some (.long 1000000)) ∨ (∃ v : Int64, r = some (.long v))))) (tt_OX (fun _ _ _ => False)) := by
  refine jj_start hl (by decide) jw_295 (jj_le rfl) ?_
  intro p e s m args below meth c A hargs hA C hex hmn
  have hfr := tt_fr.refl (K := Kd) (WS := []) pl0
  refine jj_aload_n C dX8_priceWith_0 rfl ?_
  refine tt_get C hok jk_9 3 (by decide) jw_102 (t := (1, (-9223372036854775808), 9223372036854775807)) hk0 (by decide) rfl rfl dX8_priceWith_1 (fun v_1 hv_1 hf_2 => ?_)
  obtain ⟨y_3, rfl, -, -⟩ := tt_vj hv_1
  refine jj_lconst (v := 0) C dX8_priceWith_4 (by decide) ?_
  refine jj_lcmp_le (tgt := 22) C dX8_priceWith_5 dX8_priceWith_6 (by decide) (fun c_4 => ?_) (fun c_4 => ?_)
  · refine jj_ldc2 (v := 1000000) C dX8_priceWith_22 jw_168 ?_
    exact jj_lret C ⟨[], pl0, rfl, rfl, hok, hfr, (Or.inl rfl)⟩ dX8_priceWith_25 (jj_le rfl) (jj_le rfl)
  · refine jj_lload_n C dX8_priceWith_9 rfl ?_
    refine jj_ldc2 (v := 100000) C dX8_priceWith_10 jw_152 ?_
    obtain ⟨y_5, ey_5⟩ : ∃ z : Int64, p1 * (100000 : Int64) = z := ⟨_, rfl⟩
    refine jj_lmul (v := y_5) C dX8_priceWith_13 ey_5 ?_
    refine jj_aload_n C dX8_priceWith_14 rfl ?_
    refine tt_getF C hok jk_9 3 (by decide) jw_102 (t := (1, (-9223372036854775808), 9223372036854775807)) hk0 (by decide) rfl rfl hf_2 dX8_priceWith_15 ?_
    obtain ⟨y_6, ey_6⟩ : ∃ z : Int64, y_5 / y_3 = z := ⟨_, rfl⟩
    refine jj_ldiv (v := y_6) C dX8_priceWith_18 (jt_nzpL (by first | exact Int64.not_le.mp c_4 | exact Int32.not_le.mp c_4)) ey_6 ?_
    refine jj_goto (tgt := 25) C dX8_priceWith_19 (by decide) ?_
    exact jj_lret C ⟨[], pl0, rfl, rfl, hok, hfr, (Or.inr ⟨y_6, rfl⟩)⟩ dX8_priceWith_25 (jj_le rfl) (jj_le rfl)

set_option maxHeartbeats 4000000 in
set_option maxRecDepth 100000 in
theorem tc_X8_assetsAfter_3 {l : Launch} (hl : l.stackTraces = false) (D : va_G) (cA : Nat → ClassId) (ak : (Nat → Nat) × (Nat → Nat)) {Kd : Nat → Nat} (h0 : Nat) (p1 : Int32) (hk0 : Kd h0 = 2) {pl0 : va_W} (hok : tt_ok tt_tk cA Kd pl0) : jj_M l D cA ak yX8_assetsAfter (.code yX8_assetsAfter cX8_assetsAfter 2 (some .long)) 0 0 0 0 ([] ++ pl0) [.ref h0, .int p1] (tt_O (fun rx pl1 r => rx = [] ∧ tt_ok tt_tk cA Kd pl1 ∧ tt_fr Kd [] pl0 pl1 ∧ ((∃ v : Int64, r = some (.long v))))) (tt_OX (fun _ _ _ => False)) := by
  refine jj_start hl (by decide) jw_108 (jj_le rfl) ?_
  intro p e s m args below meth c A hargs hA C hex hmn
  have hfr := tt_fr.refl (K := Kd) (WS := []) pl0
  have lp1 := tt_lo p1
  have up1 := tt_hi p1
  refine jj_aload_n C dX8_assetsAfter_0 rfl ?_
  refine tt_get C hok jk_9 2 (by decide) jw_101 (t := (1, (-9223372036854775808), 9223372036854775807)) hk0 (by decide) rfl rfl dX8_assetsAfter_1 (fun v_1 hv_1 hf_2 => ?_)
  obtain ⟨y_3, rfl, -, -⟩ := tt_vj hv_1
  refine jj_aload_n C dX8_assetsAfter_4 rfl ?_
  refine tt_getF C hok jk_9 2 (by decide) jw_101 (t := (1, (-9223372036854775808), 9223372036854775807)) hk0 (by decide) rfl rfl hf_2 dX8_assetsAfter_5 ?_
  refine jj_iload_n C dX8_assetsAfter_8 rfl ?_
  obtain ⟨y_4, ey_4, vy_4⟩ := tt_i2l p1
  refine jj_i2l (v := y_4) C dX8_assetsAfter_9 ey_4 ?_
  obtain ⟨y_5, ey_5⟩ : ∃ z : Int64, y_3 * y_4 = z := ⟨_, rfl⟩
  refine jj_lmul (v := y_5) C dX8_assetsAfter_10 ey_5 ?_
  refine jj_ldc2 (v := 10000) C dX8_assetsAfter_11 jw_109 ?_
  obtain ⟨y_6, ey_6⟩ : ∃ z : Int64, y_5 / (10000 : Int64) = z := ⟨_, rfl⟩
  refine jj_ldiv (v := y_6) C dX8_assetsAfter_14 (by decide) ey_6 ?_
  obtain ⟨y_7, ey_7⟩ : ∃ z : Int64, y_3 + y_6 = z := ⟨_, rfl⟩
  refine jj_ladd (v := y_7) C dX8_assetsAfter_15 ey_7 ?_
  exact jj_lret C ⟨[], pl0, rfl, rfl, hok, hfr, ⟨y_7, rfl⟩⟩ dX8_assetsAfter_16 (jj_le rfl) (jj_le rfl)

set_option maxHeartbeats 4000000 in
set_option maxRecDepth 100000 in
theorem tc_X10_breakEven_1 {l : Launch} (hl : l.stackTraces = false) (D : va_G) (cA : Nat → ClassId) (ak : (Nat → Nat) × (Nat → Nat)) {Kd : Nat → Nat} (h0 : Nat) (p1 : Int32) (hk0 : Kd h0 = 15) {pl0 : va_W} (hok : tt_ok tt_tk cA Kd pl0) : jj_M l D cA ak yX10_breakEven (.code yX10_breakEven cX10_breakEven 7 (some .int)) 8 124 2 12 ([] ++ pl0) [.ref h0, .int p1] (tt_O (fun rx pl1 r => rx = [] ∧ tt_ok tt_tk cA Kd pl1 ∧ tt_fr Kd [] pl0 pl1 ∧ ((∃ v : Int32, (-2147483648 : Int) ≤ v.toInt ∧ v.toInt ≤ 2147483647 ∧ r = some (.int v))))) (tt_OX (fun E rx pl1 => rx = [] ∧ tt_ok tt_tk cA Kd pl1 ∧ tt_fr Kd [] pl0 pl1 ∧ (E = "java/lang/IndexOutOfBoundsException" ∨ E = "java/util/NoSuchElementException"))) := by
  refine jj_start hl (by decide) jw_842 (jj_le rfl) ?_
  intro p e s m args below meth c A hargs hA C hex hmn
  have hfr := tt_fr.refl (K := Kd) (WS := []) pl0
  have lp1 := tt_lo p1
  have up1 := tt_hi p1
  refine jj_aload_n C dX10_breakEven_0 rfl ?_
  refine tt_get C hok jk_11 3 (by decide) jw_2 (t := (2, 1, 0)) hk0 (by decide) rfl rfl dX10_breakEven_1 (fun v_1 hv_1 hf_2 => ?_)
  obtain ⟨a_3, rfl, ka_3⟩ := tt_vr hv_1
  refine tt_get C hok jk_2 11 (by decide) jw_286 (t := (2, 6, 0)) ka_3 (by decide) rfl rfl dX10_breakEven_4 (fun v_4 hv_4 hf_5 => ?_)
  obtain ⟨a_6, rfl, ka_6⟩ := tt_vr hv_4
  refine jj_aload_n C dX10_breakEven_7 rfl ?_
  refine jj_iload_n C dX10_breakEven_8 rfl ?_
  obtain ⟨qc, gs, hqc⟩ := tt_recv (cx := []) hok hk0 (by decide) rfl
  refine tt_callV (rest := [.ref a_6]) C (tc_X10_placeOf_1 hl D cA ak h0 p1 hk0 hok) [] [] rfl rfl (by decide) (by decide) (by decide) qc hqc rfl rfl jw_287 jw_290 jw_291 jw_52 jw_288 jn_X10_placeOf rfl (jj_le rfl) (jj_le rfl) (jj_le rfl) (jj_le rfl) (jj_le rfl) dX10_breakEven_9 rfl (fun E rx pl_7 X_11 => ?_) (fun rx pl_7 r O_10 => ?_)
  · obtain ⟨rfl, hok_8, hr_9, hE_12⟩ := X_11
    replace hf_2 := hr_9.at hk0 (by decide) (by decide) hf_2
    replace hf_5 := hr_9.at ka_3 (by decide) (by decide) hf_5
    replace hfr := hfr.trans (hr_9.sub (by decide))
    obtain rfl := hE_12
    exact jj_out C hex ⟨[], pl_7, rfl, rfl, hok_8, hfr, (Or.inl rfl)⟩ (jj_le rfl) (jj_le rfl)
  · obtain ⟨rfl, hok_8, hr_9, hR_13⟩ := O_10
    replace hf_2 := hr_9.at hk0 (by decide) (by decide) hf_2
    replace hf_5 := hr_9.at ka_3 (by decide) (by decide) hf_5
    replace hfr := hfr.trans (hr_9.sub (by decide))
    obtain ⟨x_14, lx_14, ux_14, rfl⟩ := hR_13
    refine tt_aald C hok_8 (t := (2, 2, 0)) ka_6 (by decide) rfl rfl rfl (vp_in_iff.mpr ⟨by omega, by omega⟩) dX10_breakEven_12 (fun v_15 hv_15 => ?_)
    obtain ⟨a_16, rfl, ka_16⟩ := tt_vr hv_15
    refine jj_astore_n C dX10_breakEven_13 (by decide) rfl ?_
    refine jj_aload_n C dX10_breakEven_14 rfl ?_
    refine jj_aload_n C dX10_breakEven_15 rfl ?_
    refine jj_sipush (v := 9999) C dX10_breakEven_16 (by decide) ?_
    obtain ⟨qc, gs, hqc⟩ := tt_recv (cx := []) hok_8 ka_16 (by decide) rfl
    refine tt_callV (rest := [.ref a_16]) C (tc_X8_assetsAfter_2 hl D cA ak a_16 ka_16 hok_8) [] [] rfl rfl (by decide) (by decide) (by decide) qc hqc rfl rfl jw_293 jw_110 jw_111 jw_92 jw_108 jn_X8_assetsAfter rfl (jj_le rfl) (jj_le rfl) (jj_le rfl) (jj_le rfl) (jj_le rfl) dX10_breakEven_19 rfl (fun _ _ _ hX => hX.elim) (fun rx pl_17 r O_20 => ?_)
    obtain ⟨rfl, hok_18, hr_19, hR_22⟩ := O_20
    replace hf_2 := hr_19.at hk0 (by decide) (by decide) hf_2
    replace hf_5 := hr_19.at ka_3 (by decide) (by decide) hf_5
    replace hfr := hfr.trans (hr_19.sub (by decide))
    obtain ⟨y_23, rfl⟩ := hR_22
    obtain ⟨qc, gs, hqc⟩ := tt_recv (cx := []) hok_18 ka_16 (by decide) rfl
    refine tt_callV (rest := []) C (tc_X8_priceWith_1 hl D cA ak a_16 y_23 ka_16 hok_18) [] [] rfl rfl (by decide) (by decide) (by decide) qc hqc rfl rfl jw_294 jw_296 jw_297 jw_92 jw_295 jn_X8_priceWith rfl (jj_le rfl) (jj_le rfl) (jj_le rfl) (jj_le rfl) (jj_le rfl) dX10_breakEven_22 rfl (fun _ _ _ hX => hX.elim) (fun rx pl_24 r O_27 => ?_)
    obtain ⟨rfl, hok_25, hr_26, hR_29⟩ := O_27
    replace hf_2 := hr_26.at hk0 (by decide) (by decide) hf_2
    replace hf_5 := hr_26.at ka_3 (by decide) (by decide) hf_5
    replace hfr := hfr.trans (hr_26.sub (by decide))
    rcases hR_29 with rfl | ⟨y_30, rfl⟩
    · refine jj_aload_n C dX10_breakEven_25 rfl ?_
      refine tt_get C hok_25 jk_9 4 (by decide) jw_299 (t := (1, (-9223372036854775808), 9223372036854775807)) ka_16 (by decide) rfl rfl dX10_breakEven_26 (fun v_31 hv_31 hf_32 => ?_)
      obtain ⟨y_33, rfl, -, -⟩ := tt_vj hv_31
      refine jj_lcmp_ge (tgt := 44) C dX10_breakEven_29 dX10_breakEven_30 (by decide) (fun c_34 => ?_) (fun c_34 => ?_)
      · refine jj_sipush (v := (-9000)) C dX10_breakEven_44 (by decide) ?_
        refine jj_istore_n C dX10_breakEven_47 (by decide) rfl ?_
        refine jj_sipush (v := 9999) C dX10_breakEven_48 (by decide) ?_
        refine jj_istore C dX10_breakEven_51 (by decide) rfl ?_
        refine jj_iconst (v := 0) C dX10_breakEven_53 (by decide) ?_
        refine jj_istore C dX10_breakEven_54 (by decide) rfl ?_
        have hL_35 : ∀ (N : Nat) (pl : va_W) (x_36 : Int32) (x_37 : Int32) (x_38 : Int32), True → tt_ok tt_tk cA Kd pl → tt_fr Kd [] pl0 pl → tt_at pl h0 3 (.ref a_3) → tt_at pl a_3 11 (.ref a_6) → tt_at pl a_16 4 (.long y_33) → (0 : Int) ≤ x_36.toInt → x_36.toInt ≤ 40 → (-2147483648 : Int) ≤ x_37.toInt → x_37.toInt ≤ 2147483647 → (-2147483648 : Int) ≤ x_38.toInt → x_38.toInt ≤ 2147483647 → (2147483648 - x_36.toInt ≤ (N : Int)) → jj_J p l e (jj_rm 8 124 2 12) s m args below meth c 7 A (vx_MQ below (jj_q D A (tt_O (fun rx pl1 r => rx = [] ∧ tt_ok tt_tk cA Kd pl1 ∧ tt_fr Kd [] pl0 pl1 ∧ ((∃ v : Int32, (-2147483648 : Int) ≤ v.toInt ∧ v.toInt ≤ 2147483647 ∧ r = some (.int v)))))) (jj_x D A (tt_OX (fun E rx pl1 => rx = [] ∧ tt_ok tt_tk cA Kd pl1 ∧ tt_fr Kd [] pl0 pl1 ∧ (E = "java/lang/IndexOutOfBoundsException" ∨ E = "java/util/NoSuchElementException")))) args s 2 12 A) (jj_X D A ([] ++ pl)) 1 6 56 [(5, .int x_36), (4, .int x_37), (3, .int x_38), (2, .ref a_16), (0, .ref h0), (1, .int p1)] [] := by
          intro NL_35
          induction NL_35 with
          | zero => intro pl x_36 x_37 x_38 _ hok hfr hf_39 hf_40 hf_41 lx_36 ux_36 lx_37 ux_37 lx_38 ux_38 hNL_35; exfalso; omega
          | succ NL_35 ihL_35 =>
            intro pl x_36 x_37 x_38 _ hok hfr hf_39 hf_40 hf_41 lx_36 ux_36 lx_37 ux_37 lx_38 ux_38 hNL_35
            replace ihL_35 := fun pl x_36 x_37 x_38 h1 => ihL_35 pl x_36 x_37 x_38 trivial h1
            refine jj_iload C dX10_breakEven_56 rfl ?_
            refine jj_bipush (v := 32) C dX10_breakEven_58 (by decide) ?_
            refine jj_icmp_ge (tgt := 115) C dX10_breakEven_60 (by decide) (fun c_42 => ?_) (fun c_42 => ?_)
            · have z_c_42 := jc_le (a := (32)) (b := (x_36).toInt) c_42 (by decide) rfl
              refine jj_iload_n C dX10_breakEven_115 rfl ?_
              exact jj_iret C ⟨[], pl, rfl, rfl, hok, hfr, ⟨x_38, (by first | omega | exact tt_lo _ | exact tt_hi _), (by first | omega | exact tt_lo _ | exact tt_hi _), rfl⟩⟩ dX10_breakEven_116 (jj_le rfl) (jj_le rfl)
            · have z_c_42 := jc_nle (a := (32)) (b := (x_36).toInt) c_42 (by decide) rfl
              refine jj_iload_n C dX10_breakEven_63 rfl ?_
              refine jj_iload C dX10_breakEven_64 rfl ?_
              refine jj_icmp_ge (tgt := 115) C dX10_breakEven_66 (by decide) (fun c_43 => ?_) (fun c_43 => ?_)
              · have z_c_43 := jc_le (a := (x_37).toInt) (b := (x_38).toInt) c_43 rfl rfl
                refine jj_iload_n C dX10_breakEven_115 rfl ?_
                exact jj_iret C ⟨[], pl, rfl, rfl, hok, hfr, ⟨x_38, (by first | omega | exact tt_lo _ | exact tt_hi _), (by first | omega | exact tt_lo _ | exact tt_hi _), rfl⟩⟩ dX10_breakEven_116 (jj_le rfl) (jj_le rfl)
              · have z_c_43 := jc_nle (a := (x_37).toInt) (b := (x_38).toInt) c_43 rfl rfl
                refine jj_iload_n C dX10_breakEven_69 rfl ?_
                refine jj_iload C dX10_breakEven_70 rfl ?_
                obtain ⟨x_44, ex_44⟩ : ∃ z : Int32, x_38 + x_37 = z := ⟨_, rfl⟩
                refine jj_iadd (v := x_44) C dX10_breakEven_72 ex_44 ?_
                refine jj_iconst (v := 2) C dX10_breakEven_73 (by decide) ?_
                refine tt_call0S (rest := []) C (ct_J9_floorDiv_7cf53_1 hl D cA ak x_44) jw_300 jw_302 jw_144 jw_301 jn_J9_floorDiv_7cf53 rfl (jj_le rfl) (jj_le rfl) (jj_le rfl) (jj_le rfl) (jj_le rfl) dX10_breakEven_74 rfl (fun w1 r O_45 => ?_)
                rcases O_45 with ⟨c_46, -, rfl⟩ | ⟨c_47, c_48, -, rfl⟩ | ⟨c_49, c_50, -, rfl⟩
                · refine jj_istore C dX10_breakEven_77 (by decide) rfl ?_
                  refine jj_aload_n C dX10_breakEven_79 rfl ?_
                  refine jj_aload_n C dX10_breakEven_80 rfl ?_
                  refine jj_iload C dX10_breakEven_81 rfl ?_
                  obtain ⟨qc, gs, hqc⟩ := tt_recv (cx := []) hok ka_16 (by decide) rfl
                  refine tt_callV (rest := [.ref a_16]) C (tc_X8_assetsAfter_3 hl D cA ak a_16 (x_44 / 2) ka_16 hok) [] [] rfl rfl (by decide) (by decide) (by decide) qc hqc rfl rfl jw_293 jw_110 jw_111 jw_92 jw_108 jn_X8_assetsAfter rfl (jj_le rfl) (jj_le rfl) (jj_le rfl) (jj_le rfl) (jj_le rfl) dX10_breakEven_83 rfl (fun _ _ _ hX => hX.elim) (fun rx pl_51 r O_54 => ?_)
                  obtain ⟨rfl, hok_52, hr_53, hR_56⟩ := O_54
                  replace hf_39 := hr_53.at hk0 (by decide) (by decide) hf_39
                  replace hf_40 := hr_53.at ka_3 (by decide) (by decide) hf_40
                  replace hf_41 := hr_53.at ka_16 (by decide) (by decide) hf_41
                  replace hfr := hfr.trans (hr_53.sub (by decide))
                  obtain ⟨y_57, rfl⟩ := hR_56
                  obtain ⟨qc, gs, hqc⟩ := tt_recv (cx := []) hok_52 ka_16 (by decide) rfl
                  refine tt_callV (rest := []) C (tc_X8_priceWith_1 hl D cA ak a_16 y_57 ka_16 hok_52) [] [] rfl rfl (by decide) (by decide) (by decide) qc hqc rfl rfl jw_294 jw_296 jw_297 jw_92 jw_295 jn_X8_priceWith rfl (jj_le rfl) (jj_le rfl) (jj_le rfl) (jj_le rfl) (jj_le rfl) dX10_breakEven_86 rfl (fun _ _ _ hX => hX.elim) (fun rx pl_58 r O_61 => ?_)
                  obtain ⟨rfl, hok_59, hr_60, hR_63⟩ := O_61
                  replace hf_39 := hr_60.at hk0 (by decide) (by decide) hf_39
                  replace hf_40 := hr_60.at ka_3 (by decide) (by decide) hf_40
                  replace hf_41 := hr_60.at ka_16 (by decide) (by decide) hf_41
                  replace hfr := hfr.trans (hr_60.sub (by decide))
                  rcases hR_63 with rfl | ⟨y_64, rfl⟩
                  · refine jj_aload_n C dX10_breakEven_89 rfl ?_
                    refine tt_getF C hok_59 jk_9 4 (by decide) jw_299 (t := (1, (-9223372036854775808), 9223372036854775807)) ka_16 (by decide) rfl rfl hf_41 dX10_breakEven_90 ?_
                    refine jj_lcmp_geT (tgt := 105) C dX10_breakEven_93 dX10_breakEven_94 (by decide) c_34 ?_
                    refine jj_iload C dX10_breakEven_105 rfl ?_
                    refine jj_istore C dX10_breakEven_107 (by decide) rfl ?_
                    obtain ⟨x_65, ex_65, vx_65⟩ := tt_inc (x := x_36) (n := 1) (by omega) (by omega)
                    refine jj_iinc (v := x_65) C dX10_breakEven_109 rfl ex_65 (by decide) rfl ?_
                    refine jj_goto (tgt := 56) C dX10_breakEven_112 (by decide) ?_
                    refine jj_loc [0, 1, 3, 4, 5, 6] rfl ?_
                    exact ihL_35 pl_58 x_65 (x_44 / 2) x_38 hok_59 hfr hf_39 hf_40 hf_41 (by first | omega | decide | exact tt_lo _ | exact tt_hi _) (by first | omega | decide | exact tt_lo _ | exact tt_hi _) (by first | omega | decide | exact tt_lo _ | exact tt_hi _) (by first | omega | decide | exact tt_lo _ | exact tt_hi _) (by first | omega | decide | exact tt_lo _ | exact tt_hi _) (by first | omega | decide | exact tt_lo _ | exact tt_hi _) (by first | omega | decide | exact tt_lo _ | exact tt_hi _)
                  · refine jj_aload_n C dX10_breakEven_89 rfl ?_
                    refine tt_getF C hok_59 jk_9 4 (by decide) jw_299 (t := (1, (-9223372036854775808), 9223372036854775807)) ka_16 (by decide) rfl rfl hf_41 dX10_breakEven_90 ?_
                    refine jj_lcmp_ge (tgt := 105) C dX10_breakEven_93 dX10_breakEven_94 (by decide) (fun c_66 => ?_) (fun c_66 => ?_)
                    · refine jj_iload C dX10_breakEven_105 rfl ?_
                      refine jj_istore C dX10_breakEven_107 (by decide) rfl ?_
                      obtain ⟨x_67, ex_67, vx_67⟩ := tt_inc (x := x_36) (n := 1) (by omega) (by omega)
                      refine jj_iinc (v := x_67) C dX10_breakEven_109 rfl ex_67 (by decide) rfl ?_
                      refine jj_goto (tgt := 56) C dX10_breakEven_112 (by decide) ?_
                      refine jj_loc [0, 1, 3, 4, 5, 6] rfl ?_
                      exact ihL_35 pl_58 x_67 (x_44 / 2) x_38 hok_59 hfr hf_39 hf_40 hf_41 (by first | omega | decide | exact tt_lo _ | exact tt_hi _) (by first | omega | decide | exact tt_lo _ | exact tt_hi _) (by first | omega | decide | exact tt_lo _ | exact tt_hi _) (by first | omega | decide | exact tt_lo _ | exact tt_hi _) (by first | omega | decide | exact tt_lo _ | exact tt_hi _) (by first | omega | decide | exact tt_lo _ | exact tt_hi _) (by first | omega | decide | exact tt_lo _ | exact tt_hi _)
                    · refine jj_iload C dX10_breakEven_97 rfl ?_
                      refine jj_iconst (v := 1) C dX10_breakEven_99 (by decide) ?_
                      obtain ⟨x_68, ex_68⟩ : ∃ z : Int32, (x_44 / 2) + (1 : Int32) = z := ⟨_, rfl⟩
                      refine jj_iadd (v := x_68) C dX10_breakEven_100 ex_68 ?_
                      refine jj_istore_n C dX10_breakEven_101 (by decide) rfl ?_
                      refine jj_goto (tgt := 109) C dX10_breakEven_102 (by decide) ?_
                      obtain ⟨x_69, ex_69, vx_69⟩ := tt_inc (x := x_36) (n := 1) (by omega) (by omega)
                      refine jj_iinc (v := x_69) C dX10_breakEven_109 rfl ex_69 (by decide) rfl ?_
                      refine jj_goto (tgt := 56) C dX10_breakEven_112 (by decide) ?_
                      refine jj_loc [0, 3, 1, 4, 5, 6] rfl ?_
                      exact ihL_35 pl_58 x_69 x_37 x_68 hok_59 hfr hf_39 hf_40 hf_41 (by first | omega | decide | exact tt_lo _ | exact tt_hi _) (by first | omega | decide | exact tt_lo _ | exact tt_hi _) (by first | omega | decide | exact tt_lo _ | exact tt_hi _) (by first | omega | decide | exact tt_lo _ | exact tt_hi _) (by first | omega | decide | exact tt_lo _ | exact tt_hi _) (by first | omega | decide | exact tt_lo _ | exact tt_hi _) (by first | omega | decide | exact tt_lo _ | exact tt_hi _)
                · refine jj_istore C dX10_breakEven_77 (by decide) rfl ?_
                  refine jj_aload_n C dX10_breakEven_79 rfl ?_
                  refine jj_aload_n C dX10_breakEven_80 rfl ?_
                  refine jj_iload C dX10_breakEven_81 rfl ?_
                  obtain ⟨qc, gs, hqc⟩ := tt_recv (cx := []) hok ka_16 (by decide) rfl
                  refine tt_callV (rest := [.ref a_16]) C (tc_X8_assetsAfter_3 hl D cA ak a_16 (x_44 / 2) ka_16 hok) [] [] rfl rfl (by decide) (by decide) (by decide) qc hqc rfl rfl jw_293 jw_110 jw_111 jw_92 jw_108 jn_X8_assetsAfter rfl (jj_le rfl) (jj_le rfl) (jj_le rfl) (jj_le rfl) (jj_le rfl) dX10_breakEven_83 rfl (fun _ _ _ hX => hX.elim) (fun rx pl_70 r O_73 => ?_)
                  obtain ⟨rfl, hok_71, hr_72, hR_75⟩ := O_73
                  replace hf_39 := hr_72.at hk0 (by decide) (by decide) hf_39
                  replace hf_40 := hr_72.at ka_3 (by decide) (by decide) hf_40
                  replace hf_41 := hr_72.at ka_16 (by decide) (by decide) hf_41
                  replace hfr := hfr.trans (hr_72.sub (by decide))
                  obtain ⟨y_76, rfl⟩ := hR_75
                  obtain ⟨qc, gs, hqc⟩ := tt_recv (cx := []) hok_71 ka_16 (by decide) rfl
                  refine tt_callV (rest := []) C (tc_X8_priceWith_1 hl D cA ak a_16 y_76 ka_16 hok_71) [] [] rfl rfl (by decide) (by decide) (by decide) qc hqc rfl rfl jw_294 jw_296 jw_297 jw_92 jw_295 jn_X8_priceWith rfl (jj_le rfl) (jj_le rfl) (jj_le rfl) (jj_le rfl) (jj_le rfl) dX10_breakEven_86 rfl (fun _ _ _ hX => hX.elim) (fun rx pl_77 r O_80 => ?_)
                  obtain ⟨rfl, hok_78, hr_79, hR_82⟩ := O_80
                  replace hf_39 := hr_79.at hk0 (by decide) (by decide) hf_39
                  replace hf_40 := hr_79.at ka_3 (by decide) (by decide) hf_40
                  replace hf_41 := hr_79.at ka_16 (by decide) (by decide) hf_41
                  replace hfr := hfr.trans (hr_79.sub (by decide))
                  rcases hR_82 with rfl | ⟨y_83, rfl⟩
                  · refine jj_aload_n C dX10_breakEven_89 rfl ?_
                    refine tt_getF C hok_78 jk_9 4 (by decide) jw_299 (t := (1, (-9223372036854775808), 9223372036854775807)) ka_16 (by decide) rfl rfl hf_41 dX10_breakEven_90 ?_
                    refine jj_lcmp_geT (tgt := 105) C dX10_breakEven_93 dX10_breakEven_94 (by decide) c_34 ?_
                    refine jj_iload C dX10_breakEven_105 rfl ?_
                    refine jj_istore C dX10_breakEven_107 (by decide) rfl ?_
                    obtain ⟨x_84, ex_84, vx_84⟩ := tt_inc (x := x_36) (n := 1) (by omega) (by omega)
                    refine jj_iinc (v := x_84) C dX10_breakEven_109 rfl ex_84 (by decide) rfl ?_
                    refine jj_goto (tgt := 56) C dX10_breakEven_112 (by decide) ?_
                    refine jj_loc [0, 1, 3, 4, 5, 6] rfl ?_
                    exact ihL_35 pl_77 x_84 (x_44 / 2) x_38 hok_78 hfr hf_39 hf_40 hf_41 (by first | omega | decide | exact tt_lo _ | exact tt_hi _) (by first | omega | decide | exact tt_lo _ | exact tt_hi _) (by first | omega | decide | exact tt_lo _ | exact tt_hi _) (by first | omega | decide | exact tt_lo _ | exact tt_hi _) (by first | omega | decide | exact tt_lo _ | exact tt_hi _) (by first | omega | decide | exact tt_lo _ | exact tt_hi _) (by first | omega | decide | exact tt_lo _ | exact tt_hi _)
                  · refine jj_aload_n C dX10_breakEven_89 rfl ?_
                    refine tt_getF C hok_78 jk_9 4 (by decide) jw_299 (t := (1, (-9223372036854775808), 9223372036854775807)) ka_16 (by decide) rfl rfl hf_41 dX10_breakEven_90 ?_
                    refine jj_lcmp_ge (tgt := 105) C dX10_breakEven_93 dX10_breakEven_94 (by decide) (fun c_85 => ?_) (fun c_85 => ?_)
                    · refine jj_iload C dX10_breakEven_105 rfl ?_
                      refine jj_istore C dX10_breakEven_107 (by decide) rfl ?_
                      obtain ⟨x_86, ex_86, vx_86⟩ := tt_inc (x := x_36) (n := 1) (by omega) (by omega)
                      refine jj_iinc (v := x_86) C dX10_breakEven_109 rfl ex_86 (by decide) rfl ?_
                      refine jj_goto (tgt := 56) C dX10_breakEven_112 (by decide) ?_
                      refine jj_loc [0, 1, 3, 4, 5, 6] rfl ?_
                      exact ihL_35 pl_77 x_86 (x_44 / 2) x_38 hok_78 hfr hf_39 hf_40 hf_41 (by first | omega | decide | exact tt_lo _ | exact tt_hi _) (by first | omega | decide | exact tt_lo _ | exact tt_hi _) (by first | omega | decide | exact tt_lo _ | exact tt_hi _) (by first | omega | decide | exact tt_lo _ | exact tt_hi _) (by first | omega | decide | exact tt_lo _ | exact tt_hi _) (by first | omega | decide | exact tt_lo _ | exact tt_hi _) (by first | omega | decide | exact tt_lo _ | exact tt_hi _)
                    · refine jj_iload C dX10_breakEven_97 rfl ?_
                      refine jj_iconst (v := 1) C dX10_breakEven_99 (by decide) ?_
                      obtain ⟨x_87, ex_87⟩ : ∃ z : Int32, (x_44 / 2) + (1 : Int32) = z := ⟨_, rfl⟩
                      refine jj_iadd (v := x_87) C dX10_breakEven_100 ex_87 ?_
                      refine jj_istore_n C dX10_breakEven_101 (by decide) rfl ?_
                      refine jj_goto (tgt := 109) C dX10_breakEven_102 (by decide) ?_
                      obtain ⟨x_88, ex_88, vx_88⟩ := tt_inc (x := x_36) (n := 1) (by omega) (by omega)
                      refine jj_iinc (v := x_88) C dX10_breakEven_109 rfl ex_88 (by decide) rfl ?_
                      refine jj_goto (tgt := 56) C dX10_breakEven_112 (by decide) ?_
                      refine jj_loc [0, 3, 1, 4, 5, 6] rfl ?_
                      exact ihL_35 pl_77 x_88 x_37 x_87 hok_78 hfr hf_39 hf_40 hf_41 (by first | omega | decide | exact tt_lo _ | exact tt_hi _) (by first | omega | decide | exact tt_lo _ | exact tt_hi _) (by first | omega | decide | exact tt_lo _ | exact tt_hi _) (by first | omega | decide | exact tt_lo _ | exact tt_hi _) (by first | omega | decide | exact tt_lo _ | exact tt_hi _) (by first | omega | decide | exact tt_lo _ | exact tt_hi _) (by first | omega | decide | exact tt_lo _ | exact tt_hi _)
                · refine jj_istore C dX10_breakEven_77 (by decide) rfl ?_
                  refine jj_aload_n C dX10_breakEven_79 rfl ?_
                  refine jj_aload_n C dX10_breakEven_80 rfl ?_
                  refine jj_iload C dX10_breakEven_81 rfl ?_
                  obtain ⟨qc, gs, hqc⟩ := tt_recv (cx := []) hok ka_16 (by decide) rfl
                  refine tt_callV (rest := [.ref a_16]) C (tc_X8_assetsAfter_3 hl D cA ak a_16 ((x_44 / 2) - 1) ka_16 hok) [] [] rfl rfl (by decide) (by decide) (by decide) qc hqc rfl rfl jw_293 jw_110 jw_111 jw_92 jw_108 jn_X8_assetsAfter rfl (jj_le rfl) (jj_le rfl) (jj_le rfl) (jj_le rfl) (jj_le rfl) dX10_breakEven_83 rfl (fun _ _ _ hX => hX.elim) (fun rx pl_89 r O_92 => ?_)
                  obtain ⟨rfl, hok_90, hr_91, hR_94⟩ := O_92
                  replace hf_39 := hr_91.at hk0 (by decide) (by decide) hf_39
                  replace hf_40 := hr_91.at ka_3 (by decide) (by decide) hf_40
                  replace hf_41 := hr_91.at ka_16 (by decide) (by decide) hf_41
                  replace hfr := hfr.trans (hr_91.sub (by decide))
                  obtain ⟨y_95, rfl⟩ := hR_94
                  obtain ⟨qc, gs, hqc⟩ := tt_recv (cx := []) hok_90 ka_16 (by decide) rfl
                  refine tt_callV (rest := []) C (tc_X8_priceWith_1 hl D cA ak a_16 y_95 ka_16 hok_90) [] [] rfl rfl (by decide) (by decide) (by decide) qc hqc rfl rfl jw_294 jw_296 jw_297 jw_92 jw_295 jn_X8_priceWith rfl (jj_le rfl) (jj_le rfl) (jj_le rfl) (jj_le rfl) (jj_le rfl) dX10_breakEven_86 rfl (fun _ _ _ hX => hX.elim) (fun rx pl_96 r O_99 => ?_)
                  obtain ⟨rfl, hok_97, hr_98, hR_101⟩ := O_99
                  replace hf_39 := hr_98.at hk0 (by decide) (by decide) hf_39
                  replace hf_40 := hr_98.at ka_3 (by decide) (by decide) hf_40
                  replace hf_41 := hr_98.at ka_16 (by decide) (by decide) hf_41
                  replace hfr := hfr.trans (hr_98.sub (by decide))
                  rcases hR_101 with rfl | ⟨y_102, rfl⟩
                  · refine jj_aload_n C dX10_breakEven_89 rfl ?_
                    refine tt_getF C hok_97 jk_9 4 (by decide) jw_299 (t := (1, (-9223372036854775808), 9223372036854775807)) ka_16 (by decide) rfl rfl hf_41 dX10_breakEven_90 ?_
                    refine jj_lcmp_geT (tgt := 105) C dX10_breakEven_93 dX10_breakEven_94 (by decide) c_34 ?_
                    refine jj_iload C dX10_breakEven_105 rfl ?_
                    refine jj_istore C dX10_breakEven_107 (by decide) rfl ?_
                    obtain ⟨x_103, ex_103, vx_103⟩ := tt_inc (x := x_36) (n := 1) (by omega) (by omega)
                    refine jj_iinc (v := x_103) C dX10_breakEven_109 rfl ex_103 (by decide) rfl ?_
                    refine jj_goto (tgt := 56) C dX10_breakEven_112 (by decide) ?_
                    refine jj_loc [0, 1, 3, 4, 5, 6] rfl ?_
                    exact ihL_35 pl_96 x_103 ((x_44 / 2) - 1) x_38 hok_97 hfr hf_39 hf_40 hf_41 (by first | omega | decide | exact tt_lo _ | exact tt_hi _) (by first | omega | decide | exact tt_lo _ | exact tt_hi _) (by first | omega | decide | exact tt_lo _ | exact tt_hi _) (by first | omega | decide | exact tt_lo _ | exact tt_hi _) (by first | omega | decide | exact tt_lo _ | exact tt_hi _) (by first | omega | decide | exact tt_lo _ | exact tt_hi _) (by first | omega | decide | exact tt_lo _ | exact tt_hi _)
                  · refine jj_aload_n C dX10_breakEven_89 rfl ?_
                    refine tt_getF C hok_97 jk_9 4 (by decide) jw_299 (t := (1, (-9223372036854775808), 9223372036854775807)) ka_16 (by decide) rfl rfl hf_41 dX10_breakEven_90 ?_
                    refine jj_lcmp_ge (tgt := 105) C dX10_breakEven_93 dX10_breakEven_94 (by decide) (fun c_104 => ?_) (fun c_104 => ?_)
                    · refine jj_iload C dX10_breakEven_105 rfl ?_
                      refine jj_istore C dX10_breakEven_107 (by decide) rfl ?_
                      obtain ⟨x_105, ex_105, vx_105⟩ := tt_inc (x := x_36) (n := 1) (by omega) (by omega)
                      refine jj_iinc (v := x_105) C dX10_breakEven_109 rfl ex_105 (by decide) rfl ?_
                      refine jj_goto (tgt := 56) C dX10_breakEven_112 (by decide) ?_
                      refine jj_loc [0, 1, 3, 4, 5, 6] rfl ?_
                      exact ihL_35 pl_96 x_105 ((x_44 / 2) - 1) x_38 hok_97 hfr hf_39 hf_40 hf_41 (by first | omega | decide | exact tt_lo _ | exact tt_hi _) (by first | omega | decide | exact tt_lo _ | exact tt_hi _) (by first | omega | decide | exact tt_lo _ | exact tt_hi _) (by first | omega | decide | exact tt_lo _ | exact tt_hi _) (by first | omega | decide | exact tt_lo _ | exact tt_hi _) (by first | omega | decide | exact tt_lo _ | exact tt_hi _) (by first | omega | decide | exact tt_lo _ | exact tt_hi _)
                    · refine jj_iload C dX10_breakEven_97 rfl ?_
                      refine jj_iconst (v := 1) C dX10_breakEven_99 (by decide) ?_
                      obtain ⟨x_106, ex_106⟩ : ∃ z : Int32, ((x_44 / 2) - 1) + (1 : Int32) = z := ⟨_, rfl⟩
                      refine jj_iadd (v := x_106) C dX10_breakEven_100 ex_106 ?_
                      refine jj_istore_n C dX10_breakEven_101 (by decide) rfl ?_
                      refine jj_goto (tgt := 109) C dX10_breakEven_102 (by decide) ?_
                      obtain ⟨x_107, ex_107, vx_107⟩ := tt_inc (x := x_36) (n := 1) (by omega) (by omega)
                      refine jj_iinc (v := x_107) C dX10_breakEven_109 rfl ex_107 (by decide) rfl ?_
                      refine jj_goto (tgt := 56) C dX10_breakEven_112 (by decide) ?_
                      refine jj_loc [0, 3, 1, 4, 5, 6] rfl ?_
                      exact ihL_35 pl_96 x_107 x_37 x_106 hok_97 hfr hf_39 hf_40 hf_41 (by first | omega | decide | exact tt_lo _ | exact tt_hi _) (by first | omega | decide | exact tt_lo _ | exact tt_hi _) (by first | omega | decide | exact tt_lo _ | exact tt_hi _) (by first | omega | decide | exact tt_lo _ | exact tt_hi _) (by first | omega | decide | exact tt_lo _ | exact tt_hi _) (by first | omega | decide | exact tt_lo _ | exact tt_hi _) (by first | omega | decide | exact tt_lo _ | exact tt_hi _)
        exact hL_35 _ pl_24 (0 : Int32) (9999 : Int32) ((-9000) : Int32) trivial hok_25 hfr hf_2 hf_5 hf_32 (by first | omega | decide | exact tt_lo _ | exact tt_hi _) (by first | omega | decide | exact tt_lo _ | exact tt_hi _) (by first | omega | decide | exact tt_lo _ | exact tt_hi _) (by first | omega | decide | exact tt_lo _ | exact tt_hi _) (by first | omega | decide | exact tt_lo _ | exact tt_hi _) (by first | omega | decide | exact tt_lo _ | exact tt_hi _) (Int.self_le_toNat _)
      · exact jj_throwWX (k := 49) (text := "no rate reaches the mark") C jt_RX10_373 jw_305 (by decide +kernel) dX10_breakEven_33 dX10_breakEven_36 dX10_breakEven_37 dX10_breakEven_40 dX10_breakEven_43 hex (jj_le rfl) (jj_le rfl) (jj_le rfl) (jj_le rfl) ⟨[], pl_24, rfl, rfl, hok_25, hfr, (Or.inr rfl)⟩ (jj_le rfl) (jj_le rfl)
    · refine jj_aload_n C dX10_breakEven_25 rfl ?_
      refine tt_get C hok_25 jk_9 4 (by decide) jw_299 (t := (1, (-9223372036854775808), 9223372036854775807)) ka_16 (by decide) rfl rfl dX10_breakEven_26 (fun v_108 hv_108 hf_109 => ?_)
      obtain ⟨y_110, rfl, -, -⟩ := tt_vj hv_108
      refine jj_lcmp_ge (tgt := 44) C dX10_breakEven_29 dX10_breakEven_30 (by decide) (fun c_111 => ?_) (fun c_111 => ?_)
      · refine jj_sipush (v := (-9000)) C dX10_breakEven_44 (by decide) ?_
        refine jj_istore_n C dX10_breakEven_47 (by decide) rfl ?_
        refine jj_sipush (v := 9999) C dX10_breakEven_48 (by decide) ?_
        refine jj_istore C dX10_breakEven_51 (by decide) rfl ?_
        refine jj_iconst (v := 0) C dX10_breakEven_53 (by decide) ?_
        refine jj_istore C dX10_breakEven_54 (by decide) rfl ?_
        have hL_112 : ∀ (N : Nat) (pl : va_W) (x_113 : Int32) (x_114 : Int32) (x_115 : Int32), True → tt_ok tt_tk cA Kd pl → tt_fr Kd [] pl0 pl → tt_at pl h0 3 (.ref a_3) → tt_at pl a_3 11 (.ref a_6) → tt_at pl a_16 4 (.long y_110) → (0 : Int) ≤ x_113.toInt → x_113.toInt ≤ 40 → (-2147483648 : Int) ≤ x_114.toInt → x_114.toInt ≤ 2147483647 → (-2147483648 : Int) ≤ x_115.toInt → x_115.toInt ≤ 2147483647 → (2147483648 - x_113.toInt ≤ (N : Int)) → jj_J p l e (jj_rm 8 124 2 12) s m args below meth c 7 A (vx_MQ below (jj_q D A (tt_O (fun rx pl1 r => rx = [] ∧ tt_ok tt_tk cA Kd pl1 ∧ tt_fr Kd [] pl0 pl1 ∧ ((∃ v : Int32, (-2147483648 : Int) ≤ v.toInt ∧ v.toInt ≤ 2147483647 ∧ r = some (.int v)))))) (jj_x D A (tt_OX (fun E rx pl1 => rx = [] ∧ tt_ok tt_tk cA Kd pl1 ∧ tt_fr Kd [] pl0 pl1 ∧ (E = "java/lang/IndexOutOfBoundsException" ∨ E = "java/util/NoSuchElementException")))) args s 2 12 A) (jj_X D A ([] ++ pl)) 1 6 56 [(5, .int x_113), (4, .int x_114), (3, .int x_115), (2, .ref a_16), (0, .ref h0), (1, .int p1)] [] := by
          intro NL_112
          induction NL_112 with
          | zero => intro pl x_113 x_114 x_115 _ hok hfr hf_116 hf_117 hf_118 lx_113 ux_113 lx_114 ux_114 lx_115 ux_115 hNL_112; exfalso; omega
          | succ NL_112 ihL_112 =>
            intro pl x_113 x_114 x_115 _ hok hfr hf_116 hf_117 hf_118 lx_113 ux_113 lx_114 ux_114 lx_115 ux_115 hNL_112
            replace ihL_112 := fun pl x_113 x_114 x_115 h1 => ihL_112 pl x_113 x_114 x_115 trivial h1
            refine jj_iload C dX10_breakEven_56 rfl ?_
            refine jj_bipush (v := 32) C dX10_breakEven_58 (by decide) ?_
            refine jj_icmp_ge (tgt := 115) C dX10_breakEven_60 (by decide) (fun c_119 => ?_) (fun c_119 => ?_)
            · have z_c_119 := jc_le (a := (32)) (b := (x_113).toInt) c_119 (by decide) rfl
              refine jj_iload_n C dX10_breakEven_115 rfl ?_
              exact jj_iret C ⟨[], pl, rfl, rfl, hok, hfr, ⟨x_115, (by first | omega | exact tt_lo _ | exact tt_hi _), (by first | omega | exact tt_lo _ | exact tt_hi _), rfl⟩⟩ dX10_breakEven_116 (jj_le rfl) (jj_le rfl)
            · have z_c_119 := jc_nle (a := (32)) (b := (x_113).toInt) c_119 (by decide) rfl
              refine jj_iload_n C dX10_breakEven_63 rfl ?_
              refine jj_iload C dX10_breakEven_64 rfl ?_
              refine jj_icmp_ge (tgt := 115) C dX10_breakEven_66 (by decide) (fun c_120 => ?_) (fun c_120 => ?_)
              · have z_c_120 := jc_le (a := (x_114).toInt) (b := (x_115).toInt) c_120 rfl rfl
                refine jj_iload_n C dX10_breakEven_115 rfl ?_
                exact jj_iret C ⟨[], pl, rfl, rfl, hok, hfr, ⟨x_115, (by first | omega | exact tt_lo _ | exact tt_hi _), (by first | omega | exact tt_lo _ | exact tt_hi _), rfl⟩⟩ dX10_breakEven_116 (jj_le rfl) (jj_le rfl)
              · have z_c_120 := jc_nle (a := (x_114).toInt) (b := (x_115).toInt) c_120 rfl rfl
                refine jj_iload_n C dX10_breakEven_69 rfl ?_
                refine jj_iload C dX10_breakEven_70 rfl ?_
                obtain ⟨x_121, ex_121⟩ : ∃ z : Int32, x_115 + x_114 = z := ⟨_, rfl⟩
                refine jj_iadd (v := x_121) C dX10_breakEven_72 ex_121 ?_
                refine jj_iconst (v := 2) C dX10_breakEven_73 (by decide) ?_
                refine tt_call0S (rest := []) C (ct_J9_floorDiv_7cf53_1 hl D cA ak x_121) jw_300 jw_302 jw_144 jw_301 jn_J9_floorDiv_7cf53 rfl (jj_le rfl) (jj_le rfl) (jj_le rfl) (jj_le rfl) (jj_le rfl) dX10_breakEven_74 rfl (fun w1 r O_122 => ?_)
                rcases O_122 with ⟨c_123, -, rfl⟩ | ⟨c_124, c_125, -, rfl⟩ | ⟨c_126, c_127, -, rfl⟩
                · refine jj_istore C dX10_breakEven_77 (by decide) rfl ?_
                  refine jj_aload_n C dX10_breakEven_79 rfl ?_
                  refine jj_aload_n C dX10_breakEven_80 rfl ?_
                  refine jj_iload C dX10_breakEven_81 rfl ?_
                  obtain ⟨qc, gs, hqc⟩ := tt_recv (cx := []) hok ka_16 (by decide) rfl
                  refine tt_callV (rest := [.ref a_16]) C (tc_X8_assetsAfter_3 hl D cA ak a_16 (x_121 / 2) ka_16 hok) [] [] rfl rfl (by decide) (by decide) (by decide) qc hqc rfl rfl jw_293 jw_110 jw_111 jw_92 jw_108 jn_X8_assetsAfter rfl (jj_le rfl) (jj_le rfl) (jj_le rfl) (jj_le rfl) (jj_le rfl) dX10_breakEven_83 rfl (fun _ _ _ hX => hX.elim) (fun rx pl_128 r O_131 => ?_)
                  obtain ⟨rfl, hok_129, hr_130, hR_133⟩ := O_131
                  replace hf_116 := hr_130.at hk0 (by decide) (by decide) hf_116
                  replace hf_117 := hr_130.at ka_3 (by decide) (by decide) hf_117
                  replace hf_118 := hr_130.at ka_16 (by decide) (by decide) hf_118
                  replace hfr := hfr.trans (hr_130.sub (by decide))
                  obtain ⟨y_134, rfl⟩ := hR_133
                  obtain ⟨qc, gs, hqc⟩ := tt_recv (cx := []) hok_129 ka_16 (by decide) rfl
                  refine tt_callV (rest := []) C (tc_X8_priceWith_1 hl D cA ak a_16 y_134 ka_16 hok_129) [] [] rfl rfl (by decide) (by decide) (by decide) qc hqc rfl rfl jw_294 jw_296 jw_297 jw_92 jw_295 jn_X8_priceWith rfl (jj_le rfl) (jj_le rfl) (jj_le rfl) (jj_le rfl) (jj_le rfl) dX10_breakEven_86 rfl (fun _ _ _ hX => hX.elim) (fun rx pl_135 r O_138 => ?_)
                  obtain ⟨rfl, hok_136, hr_137, hR_140⟩ := O_138
                  replace hf_116 := hr_137.at hk0 (by decide) (by decide) hf_116
                  replace hf_117 := hr_137.at ka_3 (by decide) (by decide) hf_117
                  replace hf_118 := hr_137.at ka_16 (by decide) (by decide) hf_118
                  replace hfr := hfr.trans (hr_137.sub (by decide))
                  rcases hR_140 with rfl | ⟨y_141, rfl⟩
                  · refine jj_aload_n C dX10_breakEven_89 rfl ?_
                    refine tt_getF C hok_136 jk_9 4 (by decide) jw_299 (t := (1, (-9223372036854775808), 9223372036854775807)) ka_16 (by decide) rfl rfl hf_118 dX10_breakEven_90 ?_
                    refine jj_lcmp_ge (tgt := 105) C dX10_breakEven_93 dX10_breakEven_94 (by decide) (fun c_142 => ?_) (fun c_142 => ?_)
                    · refine jj_iload C dX10_breakEven_105 rfl ?_
                      refine jj_istore C dX10_breakEven_107 (by decide) rfl ?_
                      obtain ⟨x_143, ex_143, vx_143⟩ := tt_inc (x := x_113) (n := 1) (by omega) (by omega)
                      refine jj_iinc (v := x_143) C dX10_breakEven_109 rfl ex_143 (by decide) rfl ?_
                      refine jj_goto (tgt := 56) C dX10_breakEven_112 (by decide) ?_
                      refine jj_loc [0, 1, 3, 4, 5, 6] rfl ?_
                      exact ihL_112 pl_135 x_143 (x_121 / 2) x_115 hok_136 hfr hf_116 hf_117 hf_118 (by first | omega | decide | exact tt_lo _ | exact tt_hi _) (by first | omega | decide | exact tt_lo _ | exact tt_hi _) (by first | omega | decide | exact tt_lo _ | exact tt_hi _) (by first | omega | decide | exact tt_lo _ | exact tt_hi _) (by first | omega | decide | exact tt_lo _ | exact tt_hi _) (by first | omega | decide | exact tt_lo _ | exact tt_hi _) (by first | omega | decide | exact tt_lo _ | exact tt_hi _)
                    · refine jj_iload C dX10_breakEven_97 rfl ?_
                      refine jj_iconst (v := 1) C dX10_breakEven_99 (by decide) ?_
                      obtain ⟨x_144, ex_144⟩ : ∃ z : Int32, (x_121 / 2) + (1 : Int32) = z := ⟨_, rfl⟩
                      refine jj_iadd (v := x_144) C dX10_breakEven_100 ex_144 ?_
                      refine jj_istore_n C dX10_breakEven_101 (by decide) rfl ?_
                      refine jj_goto (tgt := 109) C dX10_breakEven_102 (by decide) ?_
                      obtain ⟨x_145, ex_145, vx_145⟩ := tt_inc (x := x_113) (n := 1) (by omega) (by omega)
                      refine jj_iinc (v := x_145) C dX10_breakEven_109 rfl ex_145 (by decide) rfl ?_
                      refine jj_goto (tgt := 56) C dX10_breakEven_112 (by decide) ?_
                      refine jj_loc [0, 3, 1, 4, 5, 6] rfl ?_
                      exact ihL_112 pl_135 x_145 x_114 x_144 hok_136 hfr hf_116 hf_117 hf_118 (by first | omega | decide | exact tt_lo _ | exact tt_hi _) (by first | omega | decide | exact tt_lo _ | exact tt_hi _) (by first | omega | decide | exact tt_lo _ | exact tt_hi _) (by first | omega | decide | exact tt_lo _ | exact tt_hi _) (by first | omega | decide | exact tt_lo _ | exact tt_hi _) (by first | omega | decide | exact tt_lo _ | exact tt_hi _) (by first | omega | decide | exact tt_lo _ | exact tt_hi _)
                  · refine jj_aload_n C dX10_breakEven_89 rfl ?_
                    refine tt_getF C hok_136 jk_9 4 (by decide) jw_299 (t := (1, (-9223372036854775808), 9223372036854775807)) ka_16 (by decide) rfl rfl hf_118 dX10_breakEven_90 ?_
                    refine jj_lcmp_ge (tgt := 105) C dX10_breakEven_93 dX10_breakEven_94 (by decide) (fun c_146 => ?_) (fun c_146 => ?_)
                    · refine jj_iload C dX10_breakEven_105 rfl ?_
                      refine jj_istore C dX10_breakEven_107 (by decide) rfl ?_
                      obtain ⟨x_147, ex_147, vx_147⟩ := tt_inc (x := x_113) (n := 1) (by omega) (by omega)
                      refine jj_iinc (v := x_147) C dX10_breakEven_109 rfl ex_147 (by decide) rfl ?_
                      refine jj_goto (tgt := 56) C dX10_breakEven_112 (by decide) ?_
                      refine jj_loc [0, 1, 3, 4, 5, 6] rfl ?_
                      exact ihL_112 pl_135 x_147 (x_121 / 2) x_115 hok_136 hfr hf_116 hf_117 hf_118 (by first | omega | decide | exact tt_lo _ | exact tt_hi _) (by first | omega | decide | exact tt_lo _ | exact tt_hi _) (by first | omega | decide | exact tt_lo _ | exact tt_hi _) (by first | omega | decide | exact tt_lo _ | exact tt_hi _) (by first | omega | decide | exact tt_lo _ | exact tt_hi _) (by first | omega | decide | exact tt_lo _ | exact tt_hi _) (by first | omega | decide | exact tt_lo _ | exact tt_hi _)
                    · refine jj_iload C dX10_breakEven_97 rfl ?_
                      refine jj_iconst (v := 1) C dX10_breakEven_99 (by decide) ?_
                      obtain ⟨x_148, ex_148⟩ : ∃ z : Int32, (x_121 / 2) + (1 : Int32) = z := ⟨_, rfl⟩
                      refine jj_iadd (v := x_148) C dX10_breakEven_100 ex_148 ?_
                      refine jj_istore_n C dX10_breakEven_101 (by decide) rfl ?_
                      refine jj_goto (tgt := 109) C dX10_breakEven_102 (by decide) ?_
                      obtain ⟨x_149, ex_149, vx_149⟩ := tt_inc (x := x_113) (n := 1) (by omega) (by omega)
                      refine jj_iinc (v := x_149) C dX10_breakEven_109 rfl ex_149 (by decide) rfl ?_
                      refine jj_goto (tgt := 56) C dX10_breakEven_112 (by decide) ?_
                      refine jj_loc [0, 3, 1, 4, 5, 6] rfl ?_
                      exact ihL_112 pl_135 x_149 x_114 x_148 hok_136 hfr hf_116 hf_117 hf_118 (by first | omega | decide | exact tt_lo _ | exact tt_hi _) (by first | omega | decide | exact tt_lo _ | exact tt_hi _) (by first | omega | decide | exact tt_lo _ | exact tt_hi _) (by first | omega | decide | exact tt_lo _ | exact tt_hi _) (by first | omega | decide | exact tt_lo _ | exact tt_hi _) (by first | omega | decide | exact tt_lo _ | exact tt_hi _) (by first | omega | decide | exact tt_lo _ | exact tt_hi _)
                · refine jj_istore C dX10_breakEven_77 (by decide) rfl ?_
                  refine jj_aload_n C dX10_breakEven_79 rfl ?_
                  refine jj_aload_n C dX10_breakEven_80 rfl ?_
                  refine jj_iload C dX10_breakEven_81 rfl ?_
                  obtain ⟨qc, gs, hqc⟩ := tt_recv (cx := []) hok ka_16 (by decide) rfl
                  refine tt_callV (rest := [.ref a_16]) C (tc_X8_assetsAfter_3 hl D cA ak a_16 (x_121 / 2) ka_16 hok) [] [] rfl rfl (by decide) (by decide) (by decide) qc hqc rfl rfl jw_293 jw_110 jw_111 jw_92 jw_108 jn_X8_assetsAfter rfl (jj_le rfl) (jj_le rfl) (jj_le rfl) (jj_le rfl) (jj_le rfl) dX10_breakEven_83 rfl (fun _ _ _ hX => hX.elim) (fun rx pl_150 r O_153 => ?_)
                  obtain ⟨rfl, hok_151, hr_152, hR_155⟩ := O_153
                  replace hf_116 := hr_152.at hk0 (by decide) (by decide) hf_116
                  replace hf_117 := hr_152.at ka_3 (by decide) (by decide) hf_117
                  replace hf_118 := hr_152.at ka_16 (by decide) (by decide) hf_118
                  replace hfr := hfr.trans (hr_152.sub (by decide))
                  obtain ⟨y_156, rfl⟩ := hR_155
                  obtain ⟨qc, gs, hqc⟩ := tt_recv (cx := []) hok_151 ka_16 (by decide) rfl
                  refine tt_callV (rest := []) C (tc_X8_priceWith_1 hl D cA ak a_16 y_156 ka_16 hok_151) [] [] rfl rfl (by decide) (by decide) (by decide) qc hqc rfl rfl jw_294 jw_296 jw_297 jw_92 jw_295 jn_X8_priceWith rfl (jj_le rfl) (jj_le rfl) (jj_le rfl) (jj_le rfl) (jj_le rfl) dX10_breakEven_86 rfl (fun _ _ _ hX => hX.elim) (fun rx pl_157 r O_160 => ?_)
                  obtain ⟨rfl, hok_158, hr_159, hR_162⟩ := O_160
                  replace hf_116 := hr_159.at hk0 (by decide) (by decide) hf_116
                  replace hf_117 := hr_159.at ka_3 (by decide) (by decide) hf_117
                  replace hf_118 := hr_159.at ka_16 (by decide) (by decide) hf_118
                  replace hfr := hfr.trans (hr_159.sub (by decide))
                  rcases hR_162 with rfl | ⟨y_163, rfl⟩
                  · refine jj_aload_n C dX10_breakEven_89 rfl ?_
                    refine tt_getF C hok_158 jk_9 4 (by decide) jw_299 (t := (1, (-9223372036854775808), 9223372036854775807)) ka_16 (by decide) rfl rfl hf_118 dX10_breakEven_90 ?_
                    refine jj_lcmp_ge (tgt := 105) C dX10_breakEven_93 dX10_breakEven_94 (by decide) (fun c_164 => ?_) (fun c_164 => ?_)
                    · refine jj_iload C dX10_breakEven_105 rfl ?_
                      refine jj_istore C dX10_breakEven_107 (by decide) rfl ?_
                      obtain ⟨x_165, ex_165, vx_165⟩ := tt_inc (x := x_113) (n := 1) (by omega) (by omega)
                      refine jj_iinc (v := x_165) C dX10_breakEven_109 rfl ex_165 (by decide) rfl ?_
                      refine jj_goto (tgt := 56) C dX10_breakEven_112 (by decide) ?_
                      refine jj_loc [0, 1, 3, 4, 5, 6] rfl ?_
                      exact ihL_112 pl_157 x_165 (x_121 / 2) x_115 hok_158 hfr hf_116 hf_117 hf_118 (by first | omega | decide | exact tt_lo _ | exact tt_hi _) (by first | omega | decide | exact tt_lo _ | exact tt_hi _) (by first | omega | decide | exact tt_lo _ | exact tt_hi _) (by first | omega | decide | exact tt_lo _ | exact tt_hi _) (by first | omega | decide | exact tt_lo _ | exact tt_hi _) (by first | omega | decide | exact tt_lo _ | exact tt_hi _) (by first | omega | decide | exact tt_lo _ | exact tt_hi _)
                    · refine jj_iload C dX10_breakEven_97 rfl ?_
                      refine jj_iconst (v := 1) C dX10_breakEven_99 (by decide) ?_
                      obtain ⟨x_166, ex_166⟩ : ∃ z : Int32, (x_121 / 2) + (1 : Int32) = z := ⟨_, rfl⟩
                      refine jj_iadd (v := x_166) C dX10_breakEven_100 ex_166 ?_
                      refine jj_istore_n C dX10_breakEven_101 (by decide) rfl ?_
                      refine jj_goto (tgt := 109) C dX10_breakEven_102 (by decide) ?_
                      obtain ⟨x_167, ex_167, vx_167⟩ := tt_inc (x := x_113) (n := 1) (by omega) (by omega)
                      refine jj_iinc (v := x_167) C dX10_breakEven_109 rfl ex_167 (by decide) rfl ?_
                      refine jj_goto (tgt := 56) C dX10_breakEven_112 (by decide) ?_
                      refine jj_loc [0, 3, 1, 4, 5, 6] rfl ?_
                      exact ihL_112 pl_157 x_167 x_114 x_166 hok_158 hfr hf_116 hf_117 hf_118 (by first | omega | decide | exact tt_lo _ | exact tt_hi _) (by first | omega | decide | exact tt_lo _ | exact tt_hi _) (by first | omega | decide | exact tt_lo _ | exact tt_hi _) (by first | omega | decide | exact tt_lo _ | exact tt_hi _) (by first | omega | decide | exact tt_lo _ | exact tt_hi _) (by first | omega | decide | exact tt_lo _ | exact tt_hi _) (by first | omega | decide | exact tt_lo _ | exact tt_hi _)
                  · refine jj_aload_n C dX10_breakEven_89 rfl ?_
                    refine tt_getF C hok_158 jk_9 4 (by decide) jw_299 (t := (1, (-9223372036854775808), 9223372036854775807)) ka_16 (by decide) rfl rfl hf_118 dX10_breakEven_90 ?_
                    refine jj_lcmp_ge (tgt := 105) C dX10_breakEven_93 dX10_breakEven_94 (by decide) (fun c_168 => ?_) (fun c_168 => ?_)
                    · refine jj_iload C dX10_breakEven_105 rfl ?_
                      refine jj_istore C dX10_breakEven_107 (by decide) rfl ?_
                      obtain ⟨x_169, ex_169, vx_169⟩ := tt_inc (x := x_113) (n := 1) (by omega) (by omega)
                      refine jj_iinc (v := x_169) C dX10_breakEven_109 rfl ex_169 (by decide) rfl ?_
                      refine jj_goto (tgt := 56) C dX10_breakEven_112 (by decide) ?_
                      refine jj_loc [0, 1, 3, 4, 5, 6] rfl ?_
                      exact ihL_112 pl_157 x_169 (x_121 / 2) x_115 hok_158 hfr hf_116 hf_117 hf_118 (by first | omega | decide | exact tt_lo _ | exact tt_hi _) (by first | omega | decide | exact tt_lo _ | exact tt_hi _) (by first | omega | decide | exact tt_lo _ | exact tt_hi _) (by first | omega | decide | exact tt_lo _ | exact tt_hi _) (by first | omega | decide | exact tt_lo _ | exact tt_hi _) (by first | omega | decide | exact tt_lo _ | exact tt_hi _) (by first | omega | decide | exact tt_lo _ | exact tt_hi _)
                    · refine jj_iload C dX10_breakEven_97 rfl ?_
                      refine jj_iconst (v := 1) C dX10_breakEven_99 (by decide) ?_
                      obtain ⟨x_170, ex_170⟩ : ∃ z : Int32, (x_121 / 2) + (1 : Int32) = z := ⟨_, rfl⟩
                      refine jj_iadd (v := x_170) C dX10_breakEven_100 ex_170 ?_
                      refine jj_istore_n C dX10_breakEven_101 (by decide) rfl ?_
                      refine jj_goto (tgt := 109) C dX10_breakEven_102 (by decide) ?_
                      obtain ⟨x_171, ex_171, vx_171⟩ := tt_inc (x := x_113) (n := 1) (by omega) (by omega)
                      refine jj_iinc (v := x_171) C dX10_breakEven_109 rfl ex_171 (by decide) rfl ?_
                      refine jj_goto (tgt := 56) C dX10_breakEven_112 (by decide) ?_
                      refine jj_loc [0, 3, 1, 4, 5, 6] rfl ?_
                      exact ihL_112 pl_157 x_171 x_114 x_170 hok_158 hfr hf_116 hf_117 hf_118 (by first | omega | decide | exact tt_lo _ | exact tt_hi _) (by first | omega | decide | exact tt_lo _ | exact tt_hi _) (by first | omega | decide | exact tt_lo _ | exact tt_hi _) (by first | omega | decide | exact tt_lo _ | exact tt_hi _) (by first | omega | decide | exact tt_lo _ | exact tt_hi _) (by first | omega | decide | exact tt_lo _ | exact tt_hi _) (by first | omega | decide | exact tt_lo _ | exact tt_hi _)
                · refine jj_istore C dX10_breakEven_77 (by decide) rfl ?_
                  refine jj_aload_n C dX10_breakEven_79 rfl ?_
                  refine jj_aload_n C dX10_breakEven_80 rfl ?_
                  refine jj_iload C dX10_breakEven_81 rfl ?_
                  obtain ⟨qc, gs, hqc⟩ := tt_recv (cx := []) hok ka_16 (by decide) rfl
                  refine tt_callV (rest := [.ref a_16]) C (tc_X8_assetsAfter_3 hl D cA ak a_16 ((x_121 / 2) - 1) ka_16 hok) [] [] rfl rfl (by decide) (by decide) (by decide) qc hqc rfl rfl jw_293 jw_110 jw_111 jw_92 jw_108 jn_X8_assetsAfter rfl (jj_le rfl) (jj_le rfl) (jj_le rfl) (jj_le rfl) (jj_le rfl) dX10_breakEven_83 rfl (fun _ _ _ hX => hX.elim) (fun rx pl_172 r O_175 => ?_)
                  obtain ⟨rfl, hok_173, hr_174, hR_177⟩ := O_175
                  replace hf_116 := hr_174.at hk0 (by decide) (by decide) hf_116
                  replace hf_117 := hr_174.at ka_3 (by decide) (by decide) hf_117
                  replace hf_118 := hr_174.at ka_16 (by decide) (by decide) hf_118
                  replace hfr := hfr.trans (hr_174.sub (by decide))
                  obtain ⟨y_178, rfl⟩ := hR_177
                  obtain ⟨qc, gs, hqc⟩ := tt_recv (cx := []) hok_173 ka_16 (by decide) rfl
                  refine tt_callV (rest := []) C (tc_X8_priceWith_1 hl D cA ak a_16 y_178 ka_16 hok_173) [] [] rfl rfl (by decide) (by decide) (by decide) qc hqc rfl rfl jw_294 jw_296 jw_297 jw_92 jw_295 jn_X8_priceWith rfl (jj_le rfl) (jj_le rfl) (jj_le rfl) (jj_le rfl) (jj_le rfl) dX10_breakEven_86 rfl (fun _ _ _ hX => hX.elim) (fun rx pl_179 r O_182 => ?_)
                  obtain ⟨rfl, hok_180, hr_181, hR_184⟩ := O_182
                  replace hf_116 := hr_181.at hk0 (by decide) (by decide) hf_116
                  replace hf_117 := hr_181.at ka_3 (by decide) (by decide) hf_117
                  replace hf_118 := hr_181.at ka_16 (by decide) (by decide) hf_118
                  replace hfr := hfr.trans (hr_181.sub (by decide))
                  rcases hR_184 with rfl | ⟨y_185, rfl⟩
                  · refine jj_aload_n C dX10_breakEven_89 rfl ?_
                    refine tt_getF C hok_180 jk_9 4 (by decide) jw_299 (t := (1, (-9223372036854775808), 9223372036854775807)) ka_16 (by decide) rfl rfl hf_118 dX10_breakEven_90 ?_
                    refine jj_lcmp_ge (tgt := 105) C dX10_breakEven_93 dX10_breakEven_94 (by decide) (fun c_186 => ?_) (fun c_186 => ?_)
                    · refine jj_iload C dX10_breakEven_105 rfl ?_
                      refine jj_istore C dX10_breakEven_107 (by decide) rfl ?_
                      obtain ⟨x_187, ex_187, vx_187⟩ := tt_inc (x := x_113) (n := 1) (by omega) (by omega)
                      refine jj_iinc (v := x_187) C dX10_breakEven_109 rfl ex_187 (by decide) rfl ?_
                      refine jj_goto (tgt := 56) C dX10_breakEven_112 (by decide) ?_
                      refine jj_loc [0, 1, 3, 4, 5, 6] rfl ?_
                      exact ihL_112 pl_179 x_187 ((x_121 / 2) - 1) x_115 hok_180 hfr hf_116 hf_117 hf_118 (by first | omega | decide | exact tt_lo _ | exact tt_hi _) (by first | omega | decide | exact tt_lo _ | exact tt_hi _) (by first | omega | decide | exact tt_lo _ | exact tt_hi _) (by first | omega | decide | exact tt_lo _ | exact tt_hi _) (by first | omega | decide | exact tt_lo _ | exact tt_hi _) (by first | omega | decide | exact tt_lo _ | exact tt_hi _) (by first | omega | decide | exact tt_lo _ | exact tt_hi _)
                    · refine jj_iload C dX10_breakEven_97 rfl ?_
                      refine jj_iconst (v := 1) C dX10_breakEven_99 (by decide) ?_
                      obtain ⟨x_188, ex_188⟩ : ∃ z : Int32, ((x_121 / 2) - 1) + (1 : Int32) = z := ⟨_, rfl⟩
                      refine jj_iadd (v := x_188) C dX10_breakEven_100 ex_188 ?_
                      refine jj_istore_n C dX10_breakEven_101 (by decide) rfl ?_
                      refine jj_goto (tgt := 109) C dX10_breakEven_102 (by decide) ?_
                      obtain ⟨x_189, ex_189, vx_189⟩ := tt_inc (x := x_113) (n := 1) (by omega) (by omega)
                      refine jj_iinc (v := x_189) C dX10_breakEven_109 rfl ex_189 (by decide) rfl ?_
                      refine jj_goto (tgt := 56) C dX10_breakEven_112 (by decide) ?_
                      refine jj_loc [0, 3, 1, 4, 5, 6] rfl ?_
                      exact ihL_112 pl_179 x_189 x_114 x_188 hok_180 hfr hf_116 hf_117 hf_118 (by first | omega | decide | exact tt_lo _ | exact tt_hi _) (by first | omega | decide | exact tt_lo _ | exact tt_hi _) (by first | omega | decide | exact tt_lo _ | exact tt_hi _) (by first | omega | decide | exact tt_lo _ | exact tt_hi _) (by first | omega | decide | exact tt_lo _ | exact tt_hi _) (by first | omega | decide | exact tt_lo _ | exact tt_hi _) (by first | omega | decide | exact tt_lo _ | exact tt_hi _)
                  · refine jj_aload_n C dX10_breakEven_89 rfl ?_
                    refine tt_getF C hok_180 jk_9 4 (by decide) jw_299 (t := (1, (-9223372036854775808), 9223372036854775807)) ka_16 (by decide) rfl rfl hf_118 dX10_breakEven_90 ?_
                    refine jj_lcmp_ge (tgt := 105) C dX10_breakEven_93 dX10_breakEven_94 (by decide) (fun c_190 => ?_) (fun c_190 => ?_)
                    · refine jj_iload C dX10_breakEven_105 rfl ?_
                      refine jj_istore C dX10_breakEven_107 (by decide) rfl ?_
                      obtain ⟨x_191, ex_191, vx_191⟩ := tt_inc (x := x_113) (n := 1) (by omega) (by omega)
                      refine jj_iinc (v := x_191) C dX10_breakEven_109 rfl ex_191 (by decide) rfl ?_
                      refine jj_goto (tgt := 56) C dX10_breakEven_112 (by decide) ?_
                      refine jj_loc [0, 1, 3, 4, 5, 6] rfl ?_
                      exact ihL_112 pl_179 x_191 ((x_121 / 2) - 1) x_115 hok_180 hfr hf_116 hf_117 hf_118 (by first | omega | decide | exact tt_lo _ | exact tt_hi _) (by first | omega | decide | exact tt_lo _ | exact tt_hi _) (by first | omega | decide | exact tt_lo _ | exact tt_hi _) (by first | omega | decide | exact tt_lo _ | exact tt_hi _) (by first | omega | decide | exact tt_lo _ | exact tt_hi _) (by first | omega | decide | exact tt_lo _ | exact tt_hi _) (by first | omega | decide | exact tt_lo _ | exact tt_hi _)
                    · refine jj_iload C dX10_breakEven_97 rfl ?_
                      refine jj_iconst (v := 1) C dX10_breakEven_99 (by decide) ?_
                      obtain ⟨x_192, ex_192⟩ : ∃ z : Int32, ((x_121 / 2) - 1) + (1 : Int32) = z := ⟨_, rfl⟩
                      refine jj_iadd (v := x_192) C dX10_breakEven_100 ex_192 ?_
                      refine jj_istore_n C dX10_breakEven_101 (by decide) rfl ?_
                      refine jj_goto (tgt := 109) C dX10_breakEven_102 (by decide) ?_
                      obtain ⟨x_193, ex_193, vx_193⟩ := tt_inc (x := x_113) (n := 1) (by omega) (by omega)
                      refine jj_iinc (v := x_193) C dX10_breakEven_109 rfl ex_193 (by decide) rfl ?_
                      refine jj_goto (tgt := 56) C dX10_breakEven_112 (by decide) ?_
                      refine jj_loc [0, 3, 1, 4, 5, 6] rfl ?_
                      exact ihL_112 pl_179 x_193 x_114 x_192 hok_180 hfr hf_116 hf_117 hf_118 (by first | omega | decide | exact tt_lo _ | exact tt_hi _) (by first | omega | decide | exact tt_lo _ | exact tt_hi _) (by first | omega | decide | exact tt_lo _ | exact tt_hi _) (by first | omega | decide | exact tt_lo _ | exact tt_hi _) (by first | omega | decide | exact tt_lo _ | exact tt_hi _) (by first | omega | decide | exact tt_lo _ | exact tt_hi _) (by first | omega | decide | exact tt_lo _ | exact tt_hi _)
        exact hL_112 _ pl_24 (0 : Int32) (9999 : Int32) ((-9000) : Int32) trivial hok_25 hfr hf_2 hf_5 hf_109 (by first | omega | decide | exact tt_lo _ | exact tt_hi _) (by first | omega | decide | exact tt_lo _ | exact tt_hi _) (by first | omega | decide | exact tt_lo _ | exact tt_hi _) (by first | omega | decide | exact tt_lo _ | exact tt_hi _) (by first | omega | decide | exact tt_lo _ | exact tt_hi _) (by first | omega | decide | exact tt_lo _ | exact tt_hi _) (Int.self_le_toNat _)
      · exact jj_throwWX (k := 49) (text := "no rate reaches the mark") C jt_RX10_373 jw_305 (by decide +kernel) dX10_breakEven_33 dX10_breakEven_36 dX10_breakEven_37 dX10_breakEven_40 dX10_breakEven_43 hex (jj_le rfl) (jj_le rfl) (jj_le rfl) (jj_le rfl) ⟨[], pl_24, rfl, rfl, hok_25, hfr, (Or.inr rfl)⟩ (jj_le rfl) (jj_le rfl)

set_option maxHeartbeats 4000000 in
set_option maxRecDepth 100000 in
theorem tc_X10_count_1 {l : Launch} (hl : l.stackTraces = false) (D : va_G) (cA : Nat → ClassId) (ak : (Nat → Nat) × (Nat → Nat)) {Kd : Nat → Nat} (h0 : Nat) (p1 : Int32) (hk0 : Kd h0 = 15) {pl0 : va_W} (hok : tt_ok tt_tk cA Kd pl0) : jj_M l D cA ak yX10_count (.code yX10_count cX10_count 2 (some .int)) 6 82 1 6 ([] ++ pl0) [.ref h0, .int p1] (tt_O (fun rx pl1 r => rx = [] ∧ tt_ok tt_tk cA Kd pl1 ∧ tt_fr Kd [] pl0 pl1 ∧ ((∃ v : Int32, (-2147483648 : Int) ≤ v.toInt ∧ v.toInt ≤ 2147483647 ∧ r = some (.int v))))) (tt_OX (fun E rx pl1 => rx = [] ∧ tt_ok tt_tk cA Kd pl1 ∧ tt_fr Kd [] pl0 pl1 ∧ (E = "java/lang/IllegalArgumentException"))) := by
  refine jj_start hl (by decide) jw_843 (jj_le rfl) ?_
  intro p e s m args below meth c A hargs hA C hex hmn
  have hfr := tt_fr.refl (K := Kd) (WS := []) pl0
  have lp1 := tt_lo p1
  have up1 := tt_hi p1
  refine jj_iload_n C dX10_count_0 rfl ?_
  rcases jj_em (p1 = 0) with c_1 | c_1
  · refine jj_tableIn (tgt := 56) C dX10_count_1 (by rw [c_1]; decide) (by rw [c_1]; decide) (by rw [c_1]; rfl) (by decide) ?_
    refine jj_aload_n C dX10_count_56 rfl ?_
    refine tt_get C hok jk_11 3 (by decide) jw_2 (t := (2, 1, 0)) hk0 (by decide) rfl rfl dX10_count_57 (fun v_2 hv_2 hf_3 => ?_)
    obtain ⟨a_4, rfl, ka_4⟩ := tt_vr hv_2
    refine tt_get C hok jk_2 0 (by decide) jw_306 (t := (0, (-2147483648), 2147483647)) ka_4 (by decide) rfl rfl dX10_count_60 (fun v_5 hv_5 hf_6 => ?_)
    obtain ⟨x_7, rfl, lx_7, ux_7⟩ := tt_vi hv_5
    exact jj_iret C ⟨[], pl0, rfl, rfl, hok, hfr, ⟨x_7, (by first | omega | exact tt_lo _ | exact tt_hi _), (by first | omega | exact tt_lo _ | exact tt_hi _), rfl⟩⟩ dX10_count_63 (jj_le rfl) (jj_le rfl)
  rcases jj_em (p1 = 1) with c_8 | c_8
  · refine jj_tableIn (tgt := 64) C dX10_count_1 (by rw [c_8]; decide) (by rw [c_8]; decide) (by rw [c_8]; rfl) (by decide) ?_
    refine jj_aload_n C dX10_count_64 rfl ?_
    refine tt_get C hok jk_11 3 (by decide) jw_2 (t := (2, 1, 0)) hk0 (by decide) rfl rfl dX10_count_65 (fun v_9 hv_9 hf_10 => ?_)
    obtain ⟨a_11, rfl, ka_11⟩ := tt_vr hv_9
    refine tt_get C hok jk_2 1 (by decide) jw_307 (t := (0, (-2147483648), 2147483647)) ka_11 (by decide) rfl rfl dX10_count_68 (fun v_12 hv_12 hf_13 => ?_)
    obtain ⟨x_14, rfl, lx_14, ux_14⟩ := tt_vi hv_12
    exact jj_iret C ⟨[], pl0, rfl, rfl, hok, hfr, ⟨x_14, (by first | omega | exact tt_lo _ | exact tt_hi _), (by first | omega | exact tt_lo _ | exact tt_hi _), rfl⟩⟩ dX10_count_71 (jj_le rfl) (jj_le rfl)
  rcases jj_em (p1 = 2) with c_15 | c_15
  · refine jj_tableIn (tgt := 72) C dX10_count_1 (by rw [c_15]; decide) (by rw [c_15]; decide) (by rw [c_15]; rfl) (by decide) ?_
    refine jj_aload_n C dX10_count_72 rfl ?_
    refine tt_get C hok jk_11 3 (by decide) jw_2 (t := (2, 1, 0)) hk0 (by decide) rfl rfl dX10_count_73 (fun v_16 hv_16 hf_17 => ?_)
    obtain ⟨a_18, rfl, ka_18⟩ := tt_vr hv_16
    refine tt_get C hok jk_2 2 (by decide) jw_308 (t := (0, (-2147483648), 2147483647)) ka_18 (by decide) rfl rfl dX10_count_76 (fun v_19 hv_19 hf_20 => ?_)
    obtain ⟨x_21, rfl, lx_21, ux_21⟩ := tt_vi hv_19
    exact jj_iret C ⟨[], pl0, rfl, rfl, hok, hfr, ⟨x_21, (by first | omega | exact tt_lo _ | exact tt_hi _), (by first | omega | exact tt_lo _ | exact tt_hi _), rfl⟩⟩ dX10_count_79 (jj_le rfl) (jj_le rfl)
  rcases jj_em (p1 = 3) with c_22 | c_22
  · refine jj_tableIn (tgt := 80) C dX10_count_1 (by rw [c_22]; decide) (by rw [c_22]; decide) (by rw [c_22]; rfl) (by decide) ?_
    refine jj_aload_n C dX10_count_80 rfl ?_
    refine tt_get C hok jk_11 3 (by decide) jw_2 (t := (2, 1, 0)) hk0 (by decide) rfl rfl dX10_count_81 (fun v_23 hv_23 hf_24 => ?_)
    obtain ⟨a_25, rfl, ka_25⟩ := tt_vr hv_23
    refine tt_get C hok jk_2 3 (by decide) jw_309 (t := (0, (-2147483648), 2147483647)) ka_25 (by decide) rfl rfl dX10_count_84 (fun v_26 hv_26 hf_27 => ?_)
    obtain ⟨x_28, rfl, lx_28, ux_28⟩ := tt_vi hv_26
    exact jj_iret C ⟨[], pl0, rfl, rfl, hok, hfr, ⟨x_28, (by first | omega | exact tt_lo _ | exact tt_hi _), (by first | omega | exact tt_lo _ | exact tt_hi _), rfl⟩⟩ dX10_count_87 (jj_le rfl) (jj_le rfl)
  rcases jj_em (p1 = 4) with c_29 | c_29
  · refine jj_tableIn (tgt := 88) C dX10_count_1 (by rw [c_29]; decide) (by rw [c_29]; decide) (by rw [c_29]; rfl) (by decide) ?_
    refine jj_aload_n C dX10_count_88 rfl ?_
    refine tt_get C hok jk_11 3 (by decide) jw_2 (t := (2, 1, 0)) hk0 (by decide) rfl rfl dX10_count_89 (fun v_30 hv_30 hf_31 => ?_)
    obtain ⟨a_32, rfl, ka_32⟩ := tt_vr hv_30
    refine tt_get C hok jk_2 4 (by decide) jw_231 (t := (0, (-2147483648), 2147483647)) ka_32 (by decide) rfl rfl dX10_count_92 (fun v_33 hv_33 hf_34 => ?_)
    obtain ⟨x_35, rfl, lx_35, ux_35⟩ := tt_vi hv_33
    exact jj_iret C ⟨[], pl0, rfl, rfl, hok, hfr, ⟨x_35, (by first | omega | exact tt_lo _ | exact tt_hi _), (by first | omega | exact tt_lo _ | exact tt_hi _), rfl⟩⟩ dX10_count_95 (jj_le rfl) (jj_le rfl)
  rcases jj_em (p1 = 5) with c_36 | c_36
  · refine jj_tableIn (tgt := 96) C dX10_count_1 (by rw [c_36]; decide) (by rw [c_36]; decide) (by rw [c_36]; rfl) (by decide) ?_
    refine jj_aload_n C dX10_count_96 rfl ?_
    refine tt_get C hok jk_11 3 (by decide) jw_2 (t := (2, 1, 0)) hk0 (by decide) rfl rfl dX10_count_97 (fun v_37 hv_37 hf_38 => ?_)
    obtain ⟨a_39, rfl, ka_39⟩ := tt_vr hv_37
    refine tt_get C hok jk_2 5 (by decide) jw_310 (t := (0, (-2147483648), 2147483647)) ka_39 (by decide) rfl rfl dX10_count_100 (fun v_40 hv_40 hf_41 => ?_)
    obtain ⟨x_42, rfl, lx_42, ux_42⟩ := tt_vi hv_40
    exact jj_iret C ⟨[], pl0, rfl, rfl, hok, hfr, ⟨x_42, (by first | omega | exact tt_lo _ | exact tt_hi _), (by first | omega | exact tt_lo _ | exact tt_hi _), rfl⟩⟩ dX10_count_103 (jj_le rfl) (jj_le rfl)
  rcases jj_em (p1 = 6) with c_43 | c_43
  · refine jj_tableIn (tgt := 104) C dX10_count_1 (by rw [c_43]; decide) (by rw [c_43]; decide) (by rw [c_43]; rfl) (by decide) ?_
    refine jj_aload_n C dX10_count_104 rfl ?_
    refine tt_get C hok jk_11 3 (by decide) jw_2 (t := (2, 1, 0)) hk0 (by decide) rfl rfl dX10_count_105 (fun v_44 hv_44 hf_45 => ?_)
    obtain ⟨a_46, rfl, ka_46⟩ := tt_vr hv_44
    refine tt_get C hok jk_2 7 (by decide) jw_311 (t := (0, 0, 6)) ka_46 (by decide) rfl rfl dX10_count_108 (fun v_47 hv_47 hf_48 => ?_)
    obtain ⟨x_49, rfl, lx_49, ux_49⟩ := tt_vi hv_47
    exact jj_iret C ⟨[], pl0, rfl, rfl, hok, hfr, ⟨x_49, (by first | omega | exact tt_lo _ | exact tt_hi _), (by first | omega | exact tt_lo _ | exact tt_hi _), rfl⟩⟩ dX10_count_111 (jj_le rfl) (jj_le rfl)
  rcases jj_em (p1 = 7) with c_50 | c_50
  · refine jj_tableIn (tgt := 112) C dX10_count_1 (by rw [c_50]; decide) (by rw [c_50]; decide) (by rw [c_50]; rfl) (by decide) ?_
    refine jj_aload_n C dX10_count_112 rfl ?_
    refine tt_get C hok jk_11 3 (by decide) jw_2 (t := (2, 1, 0)) hk0 (by decide) rfl rfl dX10_count_113 (fun v_51 hv_51 hf_52 => ?_)
    obtain ⟨a_53, rfl, ka_53⟩ := tt_vr hv_51
    refine tt_get C hok jk_2 8 (by decide) jw_312 (t := (0, 0, 40)) ka_53 (by decide) rfl rfl dX10_count_116 (fun v_54 hv_54 hf_55 => ?_)
    obtain ⟨x_56, rfl, lx_56, ux_56⟩ := tt_vi hv_54
    exact jj_iret C ⟨[], pl0, rfl, rfl, hok, hfr, ⟨x_56, (by first | omega | exact tt_lo _ | exact tt_hi _), (by first | omega | exact tt_lo _ | exact tt_hi _), rfl⟩⟩ dX10_count_119 (jj_le rfl) (jj_le rfl)
  rcases jj_em (p1 = 8) with c_57 | c_57
  · refine jj_tableIn (tgt := 120) C dX10_count_1 (by rw [c_57]; decide) (by rw [c_57]; decide) (by rw [c_57]; rfl) (by decide) ?_
    refine jj_aload_n C dX10_count_120 rfl ?_
    refine tt_get C hok jk_11 3 (by decide) jw_2 (t := (2, 1, 0)) hk0 (by decide) rfl rfl dX10_count_121 (fun v_58 hv_58 hf_59 => ?_)
    obtain ⟨a_60, rfl, ka_60⟩ := tt_vr hv_58
    refine tt_get C hok jk_2 9 (by decide) jw_59 (t := (0, 0, 12)) ka_60 (by decide) rfl rfl dX10_count_124 (fun v_61 hv_61 hf_62 => ?_)
    obtain ⟨x_63, rfl, lx_63, ux_63⟩ := tt_vi hv_61
    exact jj_iret C ⟨[], pl0, rfl, rfl, hok, hfr, ⟨x_63, (by first | omega | exact tt_lo _ | exact tt_hi _), (by first | omega | exact tt_lo _ | exact tt_hi _), rfl⟩⟩ dX10_count_127 (jj_le rfl) (jj_le rfl)
  rcases jj_em (p1 = 9) with c_64 | c_64
  · refine jj_tableIn (tgt := 128) C dX10_count_1 (by rw [c_64]; decide) (by rw [c_64]; decide) (by rw [c_64]; rfl) (by decide) ?_
    refine jj_aload_n C dX10_count_128 rfl ?_
    refine tt_get C hok jk_11 3 (by decide) jw_2 (t := (2, 1, 0)) hk0 (by decide) rfl rfl dX10_count_129 (fun v_65 hv_65 hf_66 => ?_)
    obtain ⟨a_67, rfl, ka_67⟩ := tt_vr hv_65
    refine tt_get C hok jk_2 6 (by decide) jw_313 (t := (0, (-2147483648), 2147483647)) ka_67 (by decide) rfl rfl dX10_count_132 (fun v_68 hv_68 hf_69 => ?_)
    obtain ⟨x_70, rfl, lx_70, ux_70⟩ := tt_vi hv_68
    exact jj_iret C ⟨[], pl0, rfl, rfl, hok, hfr, ⟨x_70, (by first | omega | exact tt_lo _ | exact tt_hi _), (by first | omega | exact tt_lo _ | exact tt_hi _), rfl⟩⟩ dX10_count_135 (jj_le rfl) (jj_le rfl)
  refine jj_tableOut (tgt := 136) C dX10_count_1 (by have zc_1 := lv_neT (a := 0) c_1 (by decide); have zc_8 := lv_neT (a := 1) c_8 (by decide); have zc_15 := lv_neT (a := 2) c_15 (by decide); have zc_22 := lv_neT (a := 3) c_22 (by decide); have zc_29 := lv_neT (a := 4) c_29 (by decide); have zc_36 := lv_neT (a := 5) c_36 (by decide); have zc_43 := lv_neT (a := 6) c_43 (by decide); have zc_50 := lv_neT (a := 7) c_50 (by decide); have zc_57 := lv_neT (a := 8) c_57 (by decide); have zc_64 := lv_neT (a := 9) c_64 (by decide); omega) (by decide) ?_
  exact jj_throw (k := 42) (text := "no such count") C jt_RX10_75 jw_1 (by decide +kernel) dX10_count_136 dX10_count_139 dX10_count_140 dX10_count_142 dX10_count_145 hex (jj_le rfl) (jj_le rfl) (jj_le rfl) (jj_le rfl) ⟨[], pl0, rfl, rfl, hok, hfr, rfl⟩ (jj_le rfl) (jj_le rfl)

set_option maxHeartbeats 4000000 in
set_option maxRecDepth 100000 in
theorem tc_X2_chargeDays_1 {l : Launch} (hl : l.stackTraces = false) (D : va_G) (cA : Nat → ClassId) (ak : (Nat → Nat) × (Nat → Nat)) {Kd : Nat → Nat} (h0 : Nat) (hk0 : Kd h0 = 1) {pl0 : va_W} (hok : tt_ok tt_tk cA Kd pl0) : jj_M l D cA ak yX2_chargeDays (.code yX2_chargeDays cX2_chargeDays 8 (some .long)) 0 0 0 0 ([] ++ pl0) [.ref h0, .int 1] (tt_O (fun rx pl1 r => rx = [] ∧ tt_ok tt_tk cA Kd pl1 ∧ tt_fr Kd [(1, 5), (2, 2)] pl0 pl1 ∧ ((∃ v : Int64, r = some (.long v))))) (tt_OX (fun _ _ _ => False)) := by
  refine jj_start hl (by decide) jw_316 (jj_le rfl) ?_
  intro p e s m args below meth c A hargs hA C hex hmn
  have hfr := tt_fr.refl (K := Kd) (WS := [(1, 5), (2, 2)]) pl0
  refine jj_lconst (v := 0) C dX2_chargeDays_0 (by decide) ?_
  refine jj_lstore_n C dX2_chargeDays_1 (by decide) rfl ?_
  refine jj_iconst (v := 0) C dX2_chargeDays_2 (by decide) ?_
  refine jj_istore C dX2_chargeDays_3 (by decide) rfl ?_
  have hL_1 : ∀ (N : Nat) (pl : va_W) (x_2 : Int32) (y_3 : Int64), True → tt_ok tt_tk cA Kd pl → tt_fr Kd [(1, 5), (2, 2)] pl0 pl → (0 : Int) ≤ x_2.toInt → x_2.toInt ≤ 1 → (2147483648 - x_2.toInt ≤ (N : Int)) → jj_J p l e (jj_rm 0 0 0 0) s m args below meth c 8 A (vx_MQ below (jj_q D A (tt_O (fun rx pl1 r => rx = [] ∧ tt_ok tt_tk cA Kd pl1 ∧ tt_fr Kd [(1, 5), (2, 2)] pl0 pl1 ∧ ((∃ v : Int64, r = some (.long v)))))) (jj_x D A (tt_OX (fun _ _ _ => False))) args s 0 0 A) (jj_X D A ([] ++ pl)) 0 0 5 [(4, .int x_2), (2, .long y_3), (0, .ref h0), (1, .int 1)] [] := by
    intro NL_1
    induction NL_1 with
    | zero => intro pl x_2 y_3 _ hok hfr lx_2 ux_2 hNL_1; exfalso; omega
    | succ NL_1 ihL_1 =>
      intro pl x_2 y_3 _ hok hfr lx_2 ux_2 hNL_1
      replace ihL_1 := fun pl x_2 y_3 h1 => ihL_1 pl x_2 y_3 trivial h1
      refine jj_iload C dX2_chargeDays_5 rfl ?_
      refine jj_iload_n C dX2_chargeDays_7 rfl ?_
      refine jj_icmp_ge (tgt := 89) C dX2_chargeDays_8 (by decide) (fun c_4 => ?_) (fun c_4 => ?_)
      · have z_c_4 := jc_le (a := (1)) (b := (x_2).toInt) c_4 (by decide) rfl
        refine jj_aload_n C dX2_chargeDays_89 rfl ?_
        refine tt_get C hok jk_2 10 (by decide) jw_319 (t := (2, 5, 0)) hk0 (by decide) rfl rfl dX2_chargeDays_90 (fun v_5 hv_5 hf_6 => ?_)
        obtain ⟨a_7, rfl, ka_7⟩ := tt_vr hv_5
        refine jj_iconst (v := 0) C dX2_chargeDays_93 (by decide) ?_
        refine jj_dup2 C dX2_chargeDays_94 rfl rfl ?_
        refine tt_lald C hok (t := (1, (-9223372036854775808), 9223372036854775807)) ka_7 (by decide) rfl (vp_in_iff.mpr (by decide)) dX2_chargeDays_95 (fun v_8 hv_8 => ?_)
        refine jj_lload_n C dX2_chargeDays_96 rfl ?_
        obtain ⟨y_9, ey_9⟩ : ∃ z : Int64, v_8 + y_3 = z := ⟨_, rfl⟩
        refine jj_ladd (v := y_9) C dX2_chargeDays_97 ey_9 ?_
        refine tt_last C hok (t := (1, (-9223372036854775808), 9223372036854775807)) ka_7 (by decide) rfl (vp_in_iff.mpr (by decide)) (tt_ja _) dX2_chargeDays_98 (fun pl_10 hok_11 tr => ?_)
        replace hf_6 := tr _ _ _ hf_6
        replace hfr := hfr.arr tr
        refine jj_aload_n C dX2_chargeDays_99 rfl ?_
        refine tt_getF C hok_11 jk_2 10 (by decide) jw_319 (t := (2, 5, 0)) hk0 (by decide) rfl rfl hf_6 dX2_chargeDays_100 ?_
        refine jj_iconst (v := 5) C dX2_chargeDays_103 (by decide) ?_
        refine jj_dup2 C dX2_chargeDays_104 rfl rfl ?_
        refine tt_lald C hok_11 (t := (1, (-9223372036854775808), 9223372036854775807)) ka_7 (by decide) rfl (vp_in_iff.mpr (by decide)) dX2_chargeDays_105 (fun v_12 hv_12 => ?_)
        refine jj_lload_n C dX2_chargeDays_106 rfl ?_
        obtain ⟨y_13, ey_13⟩ : ∃ z : Int64, v_12 + y_3 = z := ⟨_, rfl⟩
        refine jj_ladd (v := y_13) C dX2_chargeDays_107 ey_13 ?_
        refine tt_last C hok_11 (t := (1, (-9223372036854775808), 9223372036854775807)) ka_7 (by decide) rfl (vp_in_iff.mpr (by decide)) (tt_ja _) dX2_chargeDays_108 (fun pl_14 hok_15 tr => ?_)
        replace hf_6 := tr _ _ _ hf_6
        replace hfr := hfr.arr tr
        refine jj_lload_n C dX2_chargeDays_109 rfl ?_
        exact jj_lret C ⟨[], pl_14, rfl, rfl, hok_15, hfr, ⟨y_3, rfl⟩⟩ dX2_chargeDays_110 (jj_le rfl) (jj_le rfl)
      · have z_c_4 := jc_nle (a := (1)) (b := (x_2).toInt) c_4 (by decide) rfl
        refine jj_iconst (v := 0) C dX2_chargeDays_11 (by decide) ?_
        refine jj_istore C dX2_chargeDays_12 (by decide) rfl ?_
        have hL_16 : ∀ (N : Nat) (pl : va_W) (x_17 : Int32) (y_18 : Int64), True → tt_ok tt_tk cA Kd pl → tt_fr Kd [(1, 5), (2, 2)] pl0 pl → (0 : Int) ≤ x_17.toInt → x_17.toInt ≤ 6 → (2147483648 - x_17.toInt ≤ (N : Int)) → jj_J p l e (jj_rm 0 0 0 0) s m args below meth c 8 A (vx_MQ below (jj_q D A (tt_O (fun rx pl1 r => rx = [] ∧ tt_ok tt_tk cA Kd pl1 ∧ tt_fr Kd [(1, 5), (2, 2)] pl0 pl1 ∧ ((∃ v : Int64, r = some (.long v)))))) (jj_x D A (tt_OX (fun _ _ _ => False))) args s 0 0 A) (jj_X D A ([] ++ pl)) 0 0 14 [(5, .int x_17), (4, .int x_2), (2, .long y_18), (0, .ref h0), (1, .int 1)] [] := by
          intro NL_16
          induction NL_16 with
          | zero => intro pl x_17 y_18 _ hok hfr lx_17 ux_17 hNL_16; exfalso; omega
          | succ NL_16 ihL_16 =>
            intro pl x_17 y_18 _ hok hfr lx_17 ux_17 hNL_16
            replace ihL_16 := fun pl x_17 y_18 h1 => ihL_16 pl x_17 y_18 trivial h1
            refine jj_iload C dX2_chargeDays_14 rfl ?_
            refine jj_aload_n C dX2_chargeDays_16 rfl ?_
            refine tt_get C hok jk_2 7 (by decide) jw_317 (t := (0, 0, 6)) hk0 (by decide) rfl rfl dX2_chargeDays_17 (fun v_19 hv_19 hf_20 => ?_)
            obtain ⟨x_21, rfl, lx_21, ux_21⟩ := tt_vi hv_19
            refine jj_icmp_ge (tgt := 73) C dX2_chargeDays_20 (by decide) (fun c_22 => ?_) (fun c_22 => ?_)
            · have z_c_22 := jc_le (a := (x_21).toInt) (b := (x_17).toInt) c_22 rfl rfl
              refine jj_aload_n C dX2_chargeDays_73 rfl ?_
              refine jj_dup C dX2_chargeDays_74 rfl ?_
              refine tt_get C hok jk_2 5 (by decide) jw_318 (t := (0, (-2147483648), 2147483647)) hk0 (by decide) rfl rfl dX2_chargeDays_75 (fun v_23 hv_23 hf_24 => ?_)
              obtain ⟨x_25, rfl, lx_25, ux_25⟩ := tt_vi hv_23
              refine jj_iconst (v := 1) C dX2_chargeDays_78 (by decide) ?_
              obtain ⟨x_26, ex_26⟩ : ∃ z : Int32, x_25 + (1 : Int32) = z := ⟨_, rfl⟩
              refine jj_iadd (v := x_26) C dX2_chargeDays_79 ex_26 ?_
              refine tt_put C hok jk_2 5 (by decide) jw_318 (t := (0, (-2147483648), 2147483647)) hk0 (by decide) rfl rfl rfl (tt_ia x_26) rfl rfl dX2_chargeDays_80 (fun pl_27 hok_28 tr hn => ?_)
              replace hf_20 := tr _ _ _ (Or.inr (by decide)) hf_20
              have hf_29 := hn
              replace hfr := hfr.put hk0 tr (by decide)
              obtain ⟨x_30, ex_30, vx_30⟩ := tt_inc (x := x_2) (n := 1) (by omega) (by omega)
              refine jj_iinc (v := x_30) C dX2_chargeDays_83 rfl ex_30 (by decide) rfl ?_
              refine jj_goto (tgt := 5) C dX2_chargeDays_86 (by decide) ?_
              refine jj_loc [0, 2, 3, 4] rfl ?_
              exact ihL_1 pl_27 x_30 y_18 hok_28 hfr (by first | omega | decide | exact tt_lo _ | exact tt_hi _) (by first | omega | decide | exact tt_lo _ | exact tt_hi _) (by first | omega | decide | exact tt_lo _ | exact tt_hi _)
            · have z_c_22 := jc_nle (a := (x_21).toInt) (b := (x_17).toInt) c_22 rfl rfl
              refine jj_aload_n C dX2_chargeDays_23 rfl ?_
              refine tt_get C hok jk_2 11 (by decide) jw_320 (t := (2, 6, 0)) hk0 (by decide) rfl rfl dX2_chargeDays_24 (fun v_31 hv_31 hf_32 => ?_)
              obtain ⟨a_33, rfl, ka_33⟩ := tt_vr hv_31
              refine jj_iload C dX2_chargeDays_27 rfl ?_
              refine tt_aald C hok (t := (2, 2, 0)) ka_33 (by decide) rfl rfl rfl (vp_in_iff.mpr ⟨by omega, by omega⟩) dX2_chargeDays_29 (fun v_34 hv_34 => ?_)
              obtain ⟨a_35, rfl, ka_35⟩ := tt_vr hv_34
              refine tt_get C hok jk_9 2 (by decide) jw_321 (t := (1, (-9223372036854775808), 9223372036854775807)) ka_35 (by decide) rfl rfl dX2_chargeDays_30 (fun v_36 hv_36 hf_37 => ?_)
              obtain ⟨y_38, rfl, -, -⟩ := tt_vj hv_36
              refine jj_aload_n C dX2_chargeDays_33 rfl ?_
              refine tt_get C hok jk_2 2 (by decide) jw_322 (t := (0, (-2147483648), 2147483647)) hk0 (by decide) rfl rfl dX2_chargeDays_34 (fun v_39 hv_39 hf_40 => ?_)
              obtain ⟨x_41, rfl, lx_41, ux_41⟩ := tt_vi hv_39
              obtain ⟨y_42, ey_42, vy_42⟩ := tt_i2l x_41
              refine jj_i2l (v := y_42) C dX2_chargeDays_37 ey_42 ?_
              obtain ⟨y_43, ey_43⟩ : ∃ z : Int64, y_38 * y_42 = z := ⟨_, rfl⟩
              refine jj_lmul (v := y_43) C dX2_chargeDays_38 ey_43 ?_
              refine jj_ldc2 (v := 3650000) C dX2_chargeDays_39 jw_323 ?_
              obtain ⟨y_44, ey_44⟩ : ∃ z : Int64, y_43 / (3650000 : Int64) = z := ⟨_, rfl⟩
              refine jj_ldiv (v := y_44) C dX2_chargeDays_42 (by decide) ey_44 ?_
              refine jj_lstore C dX2_chargeDays_43 (by decide) rfl ?_
              refine jj_aload_n C dX2_chargeDays_45 rfl ?_
              refine tt_getF C hok jk_2 11 (by decide) jw_320 (t := (2, 6, 0)) hk0 (by decide) rfl rfl hf_32 dX2_chargeDays_46 ?_
              refine jj_iload C dX2_chargeDays_49 rfl ?_
              refine tt_aald C hok (t := (2, 2, 0)) ka_33 (by decide) rfl rfl rfl (vp_in_iff.mpr ⟨by omega, by omega⟩) dX2_chargeDays_51 (fun v_45 hv_45 => ?_)
              obtain ⟨a_46, rfl, ka_46⟩ := tt_vr hv_45
              refine jj_dup C dX2_chargeDays_52 rfl ?_
              refine tt_get C hok jk_9 2 (by decide) jw_321 (t := (1, (-9223372036854775808), 9223372036854775807)) ka_46 (by decide) rfl rfl dX2_chargeDays_53 (fun v_47 hv_47 hf_48 => ?_)
              obtain ⟨y_49, rfl, -, -⟩ := tt_vj hv_47
              refine jj_lload C dX2_chargeDays_56 rfl ?_
              obtain ⟨y_50, ey_50⟩ : ∃ z : Int64, y_49 - y_44 = z := ⟨_, rfl⟩
              refine jj_lsub (v := y_50) C dX2_chargeDays_58 ey_50 ?_
              refine tt_put C hok jk_9 2 (by decide) jw_321 (t := (1, (-9223372036854775808), 9223372036854775807)) ka_46 (by decide) rfl rfl rfl (tt_ja y_50) rfl rfl dX2_chargeDays_59 (fun pl_51 hok_52 tr hn => ?_)
              replace hf_20 := tr _ _ _ (Or.inl (tt_ne hk0 ka_46 (by decide))) hf_20
              replace hf_32 := tr _ _ _ (Or.inl (tt_ne hk0 ka_46 (by decide))) hf_32
              replace hf_40 := tr _ _ _ (Or.inl (tt_ne hk0 ka_46 (by decide))) hf_40
              have hf_53 := hn
              replace hfr := hfr.put ka_46 tr (by decide)
              refine jj_lload_n C dX2_chargeDays_62 rfl ?_
              refine jj_lload C dX2_chargeDays_63 rfl ?_
              obtain ⟨y_54, ey_54⟩ : ∃ z : Int64, y_18 + y_44 = z := ⟨_, rfl⟩
              refine jj_ladd (v := y_54) C dX2_chargeDays_65 ey_54 ?_
              refine jj_lstore_n C dX2_chargeDays_66 (by decide) rfl ?_
              obtain ⟨x_55, ex_55, vx_55⟩ := tt_inc (x := x_17) (n := 1) (by omega) (by omega)
              refine jj_iinc (v := x_55) C dX2_chargeDays_67 rfl ex_55 (by decide) rfl ?_
              refine jj_goto (tgt := 14) C dX2_chargeDays_70 (by decide) ?_
              refine jj_loc [0, 3, 1, 4, 5] rfl ?_
              exact ihL_16 pl_51 x_55 y_54 hok_52 hfr (by first | omega | decide | exact tt_lo _ | exact tt_hi _) (by first | omega | decide | exact tt_lo _ | exact tt_hi _) (by first | omega | decide | exact tt_lo _ | exact tt_hi _)
        exact hL_16 _ pl (0 : Int32) y_3 trivial hok hfr (by first | omega | decide | exact tt_lo _ | exact tt_hi _) (by first | omega | decide | exact tt_lo _ | exact tt_hi _) (Int.self_le_toNat _)
  exact hL_1 _ pl0 (0 : Int32) (0 : Int64) trivial hok hfr (by first | omega | decide | exact tt_lo _ | exact tt_hi _) (by first | omega | decide | exact tt_lo _ | exact tt_hi _) (Int.self_le_toNat _)

set_option maxHeartbeats 4000000 in
set_option maxRecDepth 100000 in
theorem tc_X10_daysUntil_1 {l : Launch} (hl : l.stackTraces = false) (D : va_G) (cA : Nat → ClassId) (ak : (Nat → Nat) × (Nat → Nat)) {Kd : Nat → Nat} (h0 : Nat) (p1 : Int64) (hk0 : Kd h0 = 15) {pl0 : va_W} (hok : tt_ok tt_tk cA Kd pl0) : jj_M l D cA ak yX10_daysUntil (.code yX10_daysUntil cX10_daysUntil 4 (some .int)) 6 82 1 6 ([] ++ pl0) [.ref h0, .long p1] (tt_O (fun rx pl1 r => rx = [] ∧ tt_ok tt_tk cA Kd pl1 ∧ tt_fr Kd [(1, 0), (1, 1), (1, 2), (1, 3), (1, 4), (1, 5), (1, 6), (1, 7), (1, 8), (1, 9), (2, 0), (2, 1), (2, 2), (2, 3), (2, 4), (3, 0), (3, 1), (3, 2), (3, 3), (3, 4), (3, 5), (4, 0), (4, 1), (4, 2), (4, 3), (4, 4)] pl0 pl1 ∧ ((r = some (.int (-1))) ∨ (∃ v : Int32, (0 : Int) ≤ v.toInt ∧ v.toInt ≤ 400 ∧ r = some (.int v))))) (tt_OX (fun E rx pl1 => rx = [] ∧ tt_ok tt_tk cA Kd pl1 ∧ tt_fr Kd [(1, 0), (1, 1), (1, 2), (1, 3), (1, 4), (1, 5), (1, 6), (1, 7), (1, 8), (1, 9), (2, 0), (2, 1), (2, 2), (2, 3), (2, 4), (3, 0), (3, 1), (3, 2), (3, 3), (3, 4), (3, 5), (4, 0), (4, 1), (4, 2), (4, 3), (4, 4)] pl0 pl1 ∧ (E = "java/lang/IllegalArgumentException"))) := by
  refine jj_start hl (by decide) jw_844 (jj_le rfl) ?_
  intro p e s m args below meth c A hargs hA C hex hmn
  have hfr := tt_fr.refl (K := Kd) (WS := [(1, 0), (1, 1), (1, 2), (1, 3), (1, 4), (1, 5), (1, 6), (1, 7), (1, 8), (1, 9), (2, 0), (2, 1), (2, 2), (2, 3), (2, 4), (3, 0), (3, 1), (3, 2), (3, 3), (3, 4), (3, 5), (4, 0), (4, 1), (4, 2), (4, 3), (4, 4)]) pl0
  refine jj_lload_n C dX10_daysUntil_0 rfl ?_
  refine jj_lconst (v := 0) C dX10_daysUntil_1 (by decide) ?_
  refine jj_lcmp_ge (tgt := 17) C dX10_daysUntil_2 dX10_daysUntil_3 (by decide) (fun c_1 => ?_) (fun c_1 => ?_)
  · refine jj_aload_n C dX10_daysUntil_17 rfl ?_
    refine tt_get C hok jk_11 4 (by decide) jw_189 (t := (2, 1, 0)) hk0 (by decide) rfl rfl dX10_daysUntil_18 (fun v_2 hv_2 hf_3 => ?_)
    obtain ⟨a_4, rfl, ka_4⟩ := tt_vr hv_2
    refine jj_aload_n C dX10_daysUntil_21 rfl ?_
    refine tt_get C hok jk_11 3 (by decide) jw_2 (t := (2, 1, 0)) hk0 (by decide) rfl rfl dX10_daysUntil_22 (fun v_5 hv_5 hf_6 => ?_)
    obtain ⟨a_7, rfl, ka_7⟩ := tt_vr hv_5
    obtain ⟨qc, gs, hqc⟩ := tt_recv (cx := []) hok ka_4 (by decide) rfl
    refine tt_callV (rest := []) C (tc_X0_copyFrom_1 hl D cA ak a_4 a_7 ka_4 ka_7 hok) [] [] rfl rfl (by decide) (by decide) (by decide) qc hqc rfl rfl jw_190 jw_228 jw_229 jw_133 jw_191 jn_X0_copyFrom rfl (jj_le rfl) (jj_le rfl) (jj_le rfl) (jj_le rfl) (jj_le rfl) dX10_daysUntil_25 rfl (fun _ _ _ hX => hX.elim) (fun rx pl_8 r O_11 => ?_)
    obtain ⟨rfl, hok_9, hr_10, hR_13⟩ := O_11
    replace hf_3 := hr_10.at hk0 (by decide) (by decide) hf_3
    replace hf_6 := hr_10.at hk0 (by decide) (by decide) hf_6
    replace hfr := hfr.trans (hr_10.sub (by decide))
    obtain rfl := hR_13
    refine jj_iconst (v := 0) C dX10_daysUntil_28 (by decide) ?_
    refine jj_istore_n C dX10_daysUntil_29 (by decide) rfl ?_
    have hL_14 : ∀ (N : Nat) (pl : va_W) (x_15 : Int32), True → tt_ok tt_tk cA Kd pl → tt_fr Kd [(1, 0), (1, 1), (1, 2), (1, 3), (1, 4), (1, 5), (1, 6), (1, 7), (1, 8), (1, 9), (2, 0), (2, 1), (2, 2), (2, 3), (2, 4), (3, 0), (3, 1), (3, 2), (3, 3), (3, 4), (3, 5), (4, 0), (4, 1), (4, 2), (4, 3), (4, 4)] pl0 pl → tt_at pl h0 4 (.ref a_4) → tt_at pl h0 3 (.ref a_7) → (0 : Int) ≤ x_15.toInt → x_15.toInt ≤ 1300 → (2147483648 - x_15.toInt ≤ (N : Int)) → jj_J p l e (jj_rm 6 82 1 6) s m args below meth c 4 A (vx_MQ below (jj_q D A (tt_O (fun rx pl1 r => rx = [] ∧ tt_ok tt_tk cA Kd pl1 ∧ tt_fr Kd [(1, 0), (1, 1), (1, 2), (1, 3), (1, 4), (1, 5), (1, 6), (1, 7), (1, 8), (1, 9), (2, 0), (2, 1), (2, 2), (2, 3), (2, 4), (3, 0), (3, 1), (3, 2), (3, 3), (3, 4), (3, 5), (4, 0), (4, 1), (4, 2), (4, 3), (4, 4)] pl0 pl1 ∧ ((r = some (.int (-1))) ∨ (∃ v : Int32, (0 : Int) ≤ v.toInt ∧ v.toInt ≤ 400 ∧ r = some (.int v)))))) (jj_x D A (tt_OX (fun E rx pl1 => rx = [] ∧ tt_ok tt_tk cA Kd pl1 ∧ tt_fr Kd [(1, 0), (1, 1), (1, 2), (1, 3), (1, 4), (1, 5), (1, 6), (1, 7), (1, 8), (1, 9), (2, 0), (2, 1), (2, 2), (2, 3), (2, 4), (3, 0), (3, 1), (3, 2), (3, 3), (3, 4), (3, 5), (4, 0), (4, 1), (4, 2), (4, 3), (4, 4)] pl0 pl1 ∧ (E = "java/lang/IllegalArgumentException")))) args s 1 6 A) (jj_X D A ([] ++ pl)) 0 0 30 [(3, .int x_15), (0, .ref h0), (1, .long p1)] [] := by
      intro NL_14
      induction NL_14 with
      | zero => intro pl x_15 _ hok hfr hf_16 hf_17 lx_15 ux_15 hNL_14; exfalso; omega
      | succ NL_14 ihL_14 =>
        intro pl x_15 _ hok hfr hf_16 hf_17 lx_15 ux_15 hNL_14
        replace ihL_14 := fun pl x_15 h1 => ihL_14 pl x_15 trivial h1
        refine jj_iload_n C dX10_daysUntil_30 rfl ?_
        refine jj_sipush (v := 400) C dX10_daysUntil_31 (by decide) ?_
        refine jj_icmp_gt (tgt := 66) C dX10_daysUntil_34 (by decide) (fun c_18 => ?_) (fun c_18 => ?_)
        · have z_c_18 := jc_lt (a := (400)) (b := (x_15).toInt) c_18 (by decide) rfl
          refine jj_iconst (v := (-1)) C dX10_daysUntil_66 (by decide) ?_
          exact jj_iret C ⟨[], pl, rfl, rfl, hok, hfr, (Or.inl rfl)⟩ dX10_daysUntil_67 (jj_le rfl) (jj_le rfl)
        · have z_c_18 := jc_nlt (a := (400)) (b := (x_15).toInt) c_18 (by decide) rfl
          refine jj_aload_n C dX10_daysUntil_37 rfl ?_
          refine tt_getF C hok jk_11 4 (by decide) jw_189 (t := (2, 1, 0)) hk0 (by decide) rfl rfl hf_16 dX10_daysUntil_38 ?_
          obtain ⟨qc, gs, hqc⟩ := tt_recv (cx := []) hok ka_4 (by decide) rfl
          refine tt_callV (rest := []) C (tc_X0_netOfAll_1 hl D cA ak a_4 ka_4 hok) [] [] rfl rfl (by decide) (by decide) (by decide) qc hqc rfl rfl jw_314 jw_240 jw_241 jw_133 jw_237 jn_X0_netOfAll rfl (jj_le rfl) (jj_le rfl) (jj_le rfl) (jj_le rfl) (jj_le rfl) dX10_daysUntil_41 rfl (fun _ _ _ hX => hX.elim) (fun rx pl_19 r O_22 => ?_)
          obtain ⟨rfl, hok_20, hr_21, hR_24⟩ := O_22
          replace hf_16 := hr_21.at hk0 (by decide) (by decide) hf_16
          replace hf_17 := hr_21.at hk0 (by decide) (by decide) hf_17
          replace hfr := hfr.trans (hr_21.sub (by decide))
          obtain ⟨y_25, rfl⟩ := hR_24
          refine jj_lload_n C dX10_daysUntil_44 rfl ?_
          refine jj_lcmp_gt (tgt := 51) C dX10_daysUntil_45 dX10_daysUntil_46 (by decide) (fun c_26 => ?_) (fun c_26 => ?_)
          · refine jj_aload_n C dX10_daysUntil_51 rfl ?_
            refine tt_getF C hok_20 jk_11 4 (by decide) jw_189 (t := (2, 1, 0)) hk0 (by decide) rfl rfl hf_16 dX10_daysUntil_52 ?_
            refine jj_iconst (v := 1) C dX10_daysUntil_55 (by decide) ?_
            refine tt_callS (rest := []) C (tc_X2_chargeDays_1 hl D cA ak a_4 ka_4 hok_20) [] [] rfl rfl (by decide) (by decide) (by decide) jw_315 jw_324 jw_175 jw_316 jn_X2_chargeDays rfl (jj_le rfl) (jj_le rfl) (jj_le rfl) (jj_le rfl) (jj_le rfl) dX10_daysUntil_56 rfl (fun _ _ _ hX => hX.elim) (fun rx pl_27 r O_30 => ?_)
            obtain ⟨rfl, hok_28, hr_29, hR_32⟩ := O_30
            replace hf_16 := hr_29.at hk0 (by decide) (by decide) hf_16
            replace hf_17 := hr_29.at hk0 (by decide) (by decide) hf_17
            replace hfr := hfr.trans (hr_29.sub (by decide))
            obtain ⟨y_33, rfl⟩ := hR_32
            refine jj_pop2 C dX10_daysUntil_59 rfl ?_
            obtain ⟨x_34, ex_34, vx_34⟩ := tt_inc (x := x_15) (n := 1) (by omega) (by omega)
            refine jj_iinc (v := x_34) C dX10_daysUntil_60 rfl ex_34 (by decide) rfl ?_
            refine jj_goto (tgt := 30) C dX10_daysUntil_63 (by decide) ?_
            exact ihL_14 pl_27 x_34 hok_28 hfr hf_16 hf_17 (by first | omega | decide | exact tt_lo _ | exact tt_hi _) (by first | omega | decide | exact tt_lo _ | exact tt_hi _) (by first | omega | decide | exact tt_lo _ | exact tt_hi _)
          · refine jj_iload_n C dX10_daysUntil_49 rfl ?_
            exact jj_iret C ⟨[], pl_19, rfl, rfl, hok_20, hfr, (Or.inr ⟨x_15, (by first | omega | exact tt_lo _ | exact tt_hi _), (by first | omega | exact tt_lo _ | exact tt_hi _), rfl⟩)⟩ dX10_daysUntil_50 (jj_le rfl) (jj_le rfl)
    exact hL_14 _ pl_8 (0 : Int32) trivial hok_9 hfr hf_3 hf_6 (by first | omega | decide | exact tt_lo _ | exact tt_hi _) (by first | omega | decide | exact tt_lo _ | exact tt_hi _) (Int.self_le_toNat _)
  · exact jj_throwW (k := 51) (text := "no such assets") C jt_RX10_75 jw_1 (by decide +kernel) dX10_daysUntil_6 dX10_daysUntil_9 dX10_daysUntil_10 dX10_daysUntil_13 dX10_daysUntil_16 hex (jj_le rfl) (jj_le rfl) (jj_le rfl) (jj_le rfl) ⟨[], pl0, rfl, rfl, hok, hfr, rfl⟩ (jj_le rfl) (jj_le rfl)

set_option maxHeartbeats 4000000 in
set_option maxRecDepth 100000 in
theorem tc_X8_begin_1 {l : Launch} (hl : l.stackTraces = false) (D : va_G) (cA : Nat → ClassId) (ak : (Nat → Nat) × (Nat → Nat)) {Kd : Nat → Nat} (h0 : Nat) (p1 : Int32) (p2 : Int32) (hk0 : Kd h0 = 2) {pl0 : va_W} (hok : tt_ok tt_tk cA Kd pl0) : jj_M l D cA ak yX8_begin (.code yX8_begin cX8_begin 3 none) 0 0 0 0 ([] ++ pl0) [.ref h0, .int p1, .int p2] (tt_O (fun rx pl1 r => rx = [] ∧ tt_ok tt_tk cA Kd pl1 ∧ tt_fr Kd [(2, 0), (2, 1), (2, 2), (2, 3), (2, 4)] pl0 pl1 ∧ ((r = none)))) (tt_OX (fun _ _ _ => False)) := by
  refine jj_start hl (by decide) jw_340 (jj_le rfl) ?_
  intro p e s m args below meth c A hargs hA C hex hmn
  have hfr := tt_fr.refl (K := Kd) (WS := [(2, 0), (2, 1), (2, 2), (2, 3), (2, 4)]) pl0
  have lp1 := tt_lo p1
  have up1 := tt_hi p1
  have lp2 := tt_lo p2
  have up2 := tt_hi p2
  refine jj_aload_n C dX8_begin_0 rfl ?_
  refine jj_iload_n C dX8_begin_1 rfl ?_
  refine tt_put C hok jk_9 0 (by decide) jw_93 (t := (0, (-2147483648), 2147483647)) hk0 (by decide) rfl rfl rfl (tt_ia p1) rfl rfl dX8_begin_2 (fun pl_1 hok_2 tr hn => ?_)
  have hf_3 := hn
  replace hfr := hfr.put hk0 tr (by decide)
  refine jj_aload_n C dX8_begin_5 rfl ?_
  refine jj_iload_n C dX8_begin_6 rfl ?_
  refine tt_put C hok_2 jk_9 1 (by decide) jw_100 (t := (0, (-2147483648), 2147483647)) hk0 (by decide) rfl rfl rfl (tt_ia p2) rfl rfl dX8_begin_7 (fun pl_4 hok_5 tr hn => ?_)
  replace hf_3 := tr _ _ _ (Or.inr (by decide)) hf_3
  have hf_6 := hn
  replace hfr := hfr.put hk0 tr (by decide)
  refine jj_aload_n C dX8_begin_10 rfl ?_
  refine jj_lconst (v := 0) C dX8_begin_11 (by decide) ?_
  refine tt_put C hok_5 jk_9 2 (by decide) jw_101 (t := (1, (-9223372036854775808), 9223372036854775807)) hk0 (by decide) rfl rfl rfl (tt_ja (0 : Int64)) rfl rfl dX8_begin_12 (fun pl_7 hok_8 tr hn => ?_)
  replace hf_3 := tr _ _ _ (Or.inr (by decide)) hf_3
  replace hf_6 := tr _ _ _ (Or.inr (by decide)) hf_6
  have hf_9 := hn
  replace hfr := hfr.put hk0 tr (by decide)
  refine jj_aload_n C dX8_begin_15 rfl ?_
  refine jj_lconst (v := 0) C dX8_begin_16 (by decide) ?_
  refine tt_put C hok_8 jk_9 3 (by decide) jw_102 (t := (1, (-9223372036854775808), 9223372036854775807)) hk0 (by decide) rfl rfl rfl (tt_ja (0 : Int64)) rfl rfl dX8_begin_17 (fun pl_10 hok_11 tr hn => ?_)
  replace hf_3 := tr _ _ _ (Or.inr (by decide)) hf_3
  replace hf_6 := tr _ _ _ (Or.inr (by decide)) hf_6
  replace hf_9 := tr _ _ _ (Or.inr (by decide)) hf_9
  have hf_12 := hn
  replace hfr := hfr.put hk0 tr (by decide)
  refine jj_aload_n C dX8_begin_20 rfl ?_
  refine jj_ldc2 (v := 1000000) C dX8_begin_21 jw_168 ?_
  refine tt_put C hok_11 jk_9 4 (by decide) jw_103 (t := (1, (-9223372036854775808), 9223372036854775807)) hk0 (by decide) rfl rfl rfl (tt_ja (1000000 : Int64)) rfl rfl dX8_begin_24 (fun pl_13 hok_14 tr hn => ?_)
  replace hf_3 := tr _ _ _ (Or.inr (by decide)) hf_3
  replace hf_6 := tr _ _ _ (Or.inr (by decide)) hf_6
  replace hf_9 := tr _ _ _ (Or.inr (by decide)) hf_9
  replace hf_12 := tr _ _ _ (Or.inr (by decide)) hf_12
  have hf_15 := hn
  replace hfr := hfr.put hk0 tr (by decide)
  exact jj_vret C ⟨[], pl_13, rfl, rfl, hok_14, hfr, rfl⟩ dX8_begin_27 (jj_le rfl) (jj_le rfl)

set_option maxHeartbeats 4000000 in
set_option maxRecDepth 100000 in
theorem tc_X0_beginSeries_1 {l : Launch} (hl : l.stackTraces = false) (D : va_G) (cA : Nat → ClassId) (ak : (Nat → Nat) × (Nat → Nat)) {Kd : Nat → Nat} (h0 : Nat) (hk0 : Kd h0 = 1) {pl0 : va_W} (hok : tt_ok tt_tk cA Kd pl0) : jj_M l D cA ak yX0_beginSeries (.code yX0_beginSeries cX0_beginSeries 2 (some (.object "SeriesFund$Series"))) 1 22 0 0 ([] ++ pl0) [.ref h0] (tt_O (fun rx pl1 r => rx = [] ∧ tt_ok tt_tk cA Kd pl1 ∧ tt_fr Kd [(1, 6), (1, 7), (2, 0), (2, 1), (2, 2), (2, 3), (2, 4)] pl0 pl1 ∧ ((∃ v : Nat, Kd v = 2 ∧ r = some (.ref v))))) (tt_OX (fun _ _ _ => False)) := by
  refine jj_start hl (by decide) jw_334 (jj_le rfl) ?_
  intro p e s m args below meth c A hargs hA C hex hmn
  have hfr := tt_fr.refl (K := Kd) (WS := [(1, 6), (1, 7), (2, 0), (2, 1), (2, 2), (2, 3), (2, 4)]) pl0
  refine jj_aload_n C dX0_beginSeries_0 rfl ?_
  refine tt_get C hok jk_2 7 (by decide) jw_134 (t := (0, 0, 6)) hk0 (by decide) rfl rfl dX0_beginSeries_1 (fun v_1 hv_1 hf_2 => ?_)
  obtain ⟨x_3, rfl, lx_3, ux_3⟩ := tt_vi hv_1
  refine jj_iconst (v := 5) C dX0_beginSeries_4 (by decide) ?_
  refine tt_call0S (rest := []) C (ct_J9_min_7cf53_1 hl D cA ak x_3) jw_335 jw_337 jw_144 jw_336 jn_J9_min_7cf53 rfl (jj_le rfl) (jj_le rfl) (jj_le rfl) (jj_le rfl) (jj_le rfl) dX0_beginSeries_5 rfl (fun w1 r O_4 => ?_)
  rcases O_4 with ⟨c_5, -, rfl⟩ | ⟨c_6, -, rfl⟩
  · have z_c_5 := jc_lt (a := (5)) (b := (x_3).toInt) c_5 (by decide) rfl
    refine jj_istore_n C dX0_beginSeries_8 (by decide) rfl ?_
    refine jj_aload_n C dX0_beginSeries_9 rfl ?_
    refine tt_get C hok jk_2 11 (by decide) jw_135 (t := (2, 6, 0)) hk0 (by decide) rfl rfl dX0_beginSeries_10 (fun v_7 hv_7 hf_8 => ?_)
    obtain ⟨a_9, rfl, ka_9⟩ := tt_vr hv_7
    refine jj_iload_n C dX0_beginSeries_13 rfl ?_
    refine tt_aald C hok (t := (2, 2, 0)) ka_9 (by decide) rfl rfl rfl (vp_in_iff.mpr (by decide)) dX0_beginSeries_14 (fun v_10 hv_10 => ?_)
    obtain ⟨a_11, rfl, ka_11⟩ := tt_vr hv_10
    refine jj_aload_n C dX0_beginSeries_15 rfl ?_
    refine tt_get C hok jk_2 6 (by decide) jw_198 (t := (0, (-2147483648), 2147483647)) hk0 (by decide) rfl rfl dX0_beginSeries_16 (fun v_12 hv_12 hf_13 => ?_)
    obtain ⟨x_14, rfl, lx_14, ux_14⟩ := tt_vi hv_12
    refine jj_aload_n C dX0_beginSeries_19 rfl ?_
    refine tt_get C hok jk_2 5 (by decide) jw_197 (t := (0, (-2147483648), 2147483647)) hk0 (by decide) rfl rfl dX0_beginSeries_20 (fun v_15 hv_15 hf_16 => ?_)
    obtain ⟨x_17, rfl, lx_17, ux_17⟩ := tt_vi hv_15
    obtain ⟨qc, gs, hqc⟩ := tt_recv (cx := []) hok ka_11 (by decide) rfl
    refine tt_callV (rest := []) C (tc_X8_begin_1 hl D cA ak a_11 x_14 x_17 ka_11 hok) [] [] rfl rfl (by decide) (by decide) (by decide) qc hqc rfl rfl jw_339 jw_341 jw_342 jw_92 jw_340 jn_X8_begin rfl (jj_le rfl) (jj_le rfl) (jj_le rfl) (jj_le rfl) (jj_le rfl) dX0_beginSeries_23 rfl (fun _ _ _ hX => hX.elim) (fun rx pl_18 r O_21 => ?_)
    obtain ⟨rfl, hok_19, hr_20, hR_23⟩ := O_21
    replace hf_2 := hr_20.at hk0 (by decide) (by decide) hf_2
    replace hf_8 := hr_20.at hk0 (by decide) (by decide) hf_8
    replace hf_13 := hr_20.at hk0 (by decide) (by decide) hf_13
    replace hf_16 := hr_20.at hk0 (by decide) (by decide) hf_16
    replace hfr := hfr.trans (hr_20.sub (by decide))
    obtain rfl := hR_23
    refine jj_aload_n C dX0_beginSeries_26 rfl ?_
    refine jj_iload_n C dX0_beginSeries_27 rfl ?_
    refine jj_iconst (v := 1) C dX0_beginSeries_28 (by decide) ?_
    refine jj_iadd (v := 6) C dX0_beginSeries_29 (by decide) ?_
    refine tt_put C hok_19 jk_2 7 (by decide) jw_134 (t := (0, 0, 6)) hk0 (by decide) rfl rfl rfl (tt_iv (by decide) (by decide)) rfl rfl dX0_beginSeries_30 (fun pl_24 hok_25 tr hn => ?_)
    replace hf_8 := tr _ _ _ (Or.inr (by decide)) hf_8
    replace hf_13 := tr _ _ _ (Or.inr (by decide)) hf_13
    replace hf_16 := tr _ _ _ (Or.inr (by decide)) hf_16
    have hf_26 := hn
    replace hfr := hfr.put hk0 tr (by decide)
    refine jj_aload_n C dX0_beginSeries_33 rfl ?_
    refine jj_dup C dX0_beginSeries_34 rfl ?_
    refine tt_getF C hok_25 jk_2 6 (by decide) jw_198 (t := (0, (-2147483648), 2147483647)) hk0 (by decide) rfl rfl hf_13 dX0_beginSeries_35 ?_
    refine jj_iconst (v := 1) C dX0_beginSeries_38 (by decide) ?_
    obtain ⟨x_27, ex_27⟩ : ∃ z : Int32, x_14 + (1 : Int32) = z := ⟨_, rfl⟩
    refine jj_iadd (v := x_27) C dX0_beginSeries_39 ex_27 ?_
    refine tt_put C hok_25 jk_2 6 (by decide) jw_198 (t := (0, (-2147483648), 2147483647)) hk0 (by decide) rfl rfl rfl (tt_ia x_27) rfl rfl dX0_beginSeries_40 (fun pl_28 hok_29 tr hn => ?_)
    replace hf_8 := tr _ _ _ (Or.inr (by decide)) hf_8
    replace hf_16 := tr _ _ _ (Or.inr (by decide)) hf_16
    replace hf_26 := tr _ _ _ (Or.inr (by decide)) hf_26
    have hf_30 := hn
    replace hfr := hfr.put hk0 tr (by decide)
    refine jj_aload_n C dX0_beginSeries_43 rfl ?_
    refine tt_getF C hok_29 jk_2 11 (by decide) jw_135 (t := (2, 6, 0)) hk0 (by decide) rfl rfl hf_8 dX0_beginSeries_44 ?_
    refine jj_iload_n C dX0_beginSeries_47 rfl ?_
    refine tt_aald C hok_29 (t := (2, 2, 0)) ka_9 (by decide) rfl rfl rfl (vp_in_iff.mpr (by decide)) dX0_beginSeries_48 (fun v_31 hv_31 => ?_)
    obtain ⟨a_32, rfl, ka_32⟩ := tt_vr hv_31
    exact jj_aret C (Or.inl ⟨_, rfl⟩) ⟨[], pl_28, rfl, rfl, hok_29, hfr, ⟨a_32, ka_32, rfl⟩⟩ dX0_beginSeries_49 (jj_le rfl) (jj_le rfl)
  · have z_c_6 := jc_nlt (a := (5)) (b := (x_3).toInt) c_6 (by decide) rfl
    refine jj_istore_n C dX0_beginSeries_8 (by decide) rfl ?_
    refine jj_aload_n C dX0_beginSeries_9 rfl ?_
    refine tt_get C hok jk_2 11 (by decide) jw_135 (t := (2, 6, 0)) hk0 (by decide) rfl rfl dX0_beginSeries_10 (fun v_33 hv_33 hf_34 => ?_)
    obtain ⟨a_35, rfl, ka_35⟩ := tt_vr hv_33
    refine jj_iload_n C dX0_beginSeries_13 rfl ?_
    refine tt_aald C hok (t := (2, 2, 0)) ka_35 (by decide) rfl rfl rfl (vp_in_iff.mpr ⟨by omega, by omega⟩) dX0_beginSeries_14 (fun v_36 hv_36 => ?_)
    obtain ⟨a_37, rfl, ka_37⟩ := tt_vr hv_36
    refine jj_aload_n C dX0_beginSeries_15 rfl ?_
    refine tt_get C hok jk_2 6 (by decide) jw_198 (t := (0, (-2147483648), 2147483647)) hk0 (by decide) rfl rfl dX0_beginSeries_16 (fun v_38 hv_38 hf_39 => ?_)
    obtain ⟨x_40, rfl, lx_40, ux_40⟩ := tt_vi hv_38
    refine jj_aload_n C dX0_beginSeries_19 rfl ?_
    refine tt_get C hok jk_2 5 (by decide) jw_197 (t := (0, (-2147483648), 2147483647)) hk0 (by decide) rfl rfl dX0_beginSeries_20 (fun v_41 hv_41 hf_42 => ?_)
    obtain ⟨x_43, rfl, lx_43, ux_43⟩ := tt_vi hv_41
    obtain ⟨qc, gs, hqc⟩ := tt_recv (cx := []) hok ka_37 (by decide) rfl
    refine tt_callV (rest := []) C (tc_X8_begin_1 hl D cA ak a_37 x_40 x_43 ka_37 hok) [] [] rfl rfl (by decide) (by decide) (by decide) qc hqc rfl rfl jw_339 jw_341 jw_342 jw_92 jw_340 jn_X8_begin rfl (jj_le rfl) (jj_le rfl) (jj_le rfl) (jj_le rfl) (jj_le rfl) dX0_beginSeries_23 rfl (fun _ _ _ hX => hX.elim) (fun rx pl_44 r O_47 => ?_)
    obtain ⟨rfl, hok_45, hr_46, hR_49⟩ := O_47
    replace hf_2 := hr_46.at hk0 (by decide) (by decide) hf_2
    replace hf_34 := hr_46.at hk0 (by decide) (by decide) hf_34
    replace hf_39 := hr_46.at hk0 (by decide) (by decide) hf_39
    replace hf_42 := hr_46.at hk0 (by decide) (by decide) hf_42
    replace hfr := hfr.trans (hr_46.sub (by decide))
    obtain rfl := hR_49
    refine jj_aload_n C dX0_beginSeries_26 rfl ?_
    refine jj_iload_n C dX0_beginSeries_27 rfl ?_
    refine jj_iconst (v := 1) C dX0_beginSeries_28 (by decide) ?_
    obtain ⟨x_50, ex_50, vx_50⟩ := tt_iadd (x := x_3) (y := (1 : Int32)) (a := x_3.toInt) rfl (b := 1) (by decide) (by omega) (by omega)
    refine jj_iadd (v := x_50) C dX0_beginSeries_29 ex_50 ?_
    refine tt_put C hok_45 jk_2 7 (by decide) jw_134 (t := (0, 0, 6)) hk0 (by decide) rfl rfl rfl (tt_iv (by omega) (by omega)) rfl rfl dX0_beginSeries_30 (fun pl_51 hok_52 tr hn => ?_)
    replace hf_34 := tr _ _ _ (Or.inr (by decide)) hf_34
    replace hf_39 := tr _ _ _ (Or.inr (by decide)) hf_39
    replace hf_42 := tr _ _ _ (Or.inr (by decide)) hf_42
    have hf_53 := hn
    replace hfr := hfr.put hk0 tr (by decide)
    refine jj_aload_n C dX0_beginSeries_33 rfl ?_
    refine jj_dup C dX0_beginSeries_34 rfl ?_
    refine tt_getF C hok_52 jk_2 6 (by decide) jw_198 (t := (0, (-2147483648), 2147483647)) hk0 (by decide) rfl rfl hf_39 dX0_beginSeries_35 ?_
    refine jj_iconst (v := 1) C dX0_beginSeries_38 (by decide) ?_
    obtain ⟨x_54, ex_54⟩ : ∃ z : Int32, x_40 + (1 : Int32) = z := ⟨_, rfl⟩
    refine jj_iadd (v := x_54) C dX0_beginSeries_39 ex_54 ?_
    refine tt_put C hok_52 jk_2 6 (by decide) jw_198 (t := (0, (-2147483648), 2147483647)) hk0 (by decide) rfl rfl rfl (tt_ia x_54) rfl rfl dX0_beginSeries_40 (fun pl_55 hok_56 tr hn => ?_)
    replace hf_34 := tr _ _ _ (Or.inr (by decide)) hf_34
    replace hf_42 := tr _ _ _ (Or.inr (by decide)) hf_42
    replace hf_53 := tr _ _ _ (Or.inr (by decide)) hf_53
    have hf_57 := hn
    replace hfr := hfr.put hk0 tr (by decide)
    refine jj_aload_n C dX0_beginSeries_43 rfl ?_
    refine tt_getF C hok_56 jk_2 11 (by decide) jw_135 (t := (2, 6, 0)) hk0 (by decide) rfl rfl hf_34 dX0_beginSeries_44 ?_
    refine jj_iload_n C dX0_beginSeries_47 rfl ?_
    refine tt_aald C hok_56 (t := (2, 2, 0)) ka_35 (by decide) rfl rfl rfl (vp_in_iff.mpr ⟨by omega, by omega⟩) dX0_beginSeries_48 (fun v_58 hv_58 => ?_)
    obtain ⟨a_59, rfl, ka_59⟩ := tt_vr hv_58
    exact jj_aret C (Or.inl ⟨_, rfl⟩) ⟨[], pl_55, rfl, rfl, hok_56, hfr, ⟨a_59, ka_59, rfl⟩⟩ dX0_beginSeries_49 (jj_le rfl) (jj_le rfl)

