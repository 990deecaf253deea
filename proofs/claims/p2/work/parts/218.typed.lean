set_option maxHeartbeats 4000000 in
set_option maxRecDepth 100000 in
theorem tc_X10_errorCode_1 {l : Launch} (hl : l.stackTraces = false) (D : va_G) (cA : Nat → ClassId) (ak : (Nat → Nat) × (Nat → Nat)) {Kd : Nat → Nat} (h0 : Nat) (hk0 : Kd h0 = 15) {pl0 : va_W} (hok : tt_ok tt_tk cA Kd pl0) : jj_M l D cA ak yX10_errorCode (.code yX10_errorCode cX10_errorCode 1 (some .int)) 0 0 0 0 ([] ++ pl0) [.ref h0] (tt_O (fun rx pl1 r => rx = [] ∧ tt_ok tt_tk cA Kd pl1 ∧ tt_fr Kd [] pl0 pl1 ∧ ((∃ v : Int32, (-2147483648 : Int) ≤ v.toInt ∧ v.toInt ≤ 2147483647 ∧ r = some (.int v))))) (tt_OX (fun _ _ _ => False)) := by
  refine jj_start hl (by decide) jw_869 (jj_le rfl) ?_
  intro p e s m args below meth c A hargs hA C hex hmn
  have hfr := tt_fr.refl (K := Kd) (WS := []) pl0
  refine jj_aload_n C dX10_errorCode_0 rfl ?_
  refine tt_get C hok jk_11 1 (by decide) jw_679 (t := (0, (-2147483648), 2147483647)) hk0 (by decide) rfl rfl dX10_errorCode_1 (fun v_1 hv_1 hf_2 => ?_)
  obtain ⟨x_3, rfl, lx_3, ux_3⟩ := tt_vi hv_1
  exact jj_iret C ⟨[], pl0, rfl, rfl, hok, hfr, ⟨x_3, (by first | omega | exact tt_lo _ | exact tt_hi _), (by first | omega | exact tt_lo _ | exact tt_hi _), rfl⟩⟩ dX10_errorCode_4 (jj_le rfl) (jj_le rfl)

set_option maxHeartbeats 4000000 in
set_option maxRecDepth 100000 in
theorem tc_X10_errorPosition_1 {l : Launch} (hl : l.stackTraces = false) (D : va_G) (cA : Nat → ClassId) (ak : (Nat → Nat) × (Nat → Nat)) {Kd : Nat → Nat} (h0 : Nat) (hk0 : Kd h0 = 15) {pl0 : va_W} (hok : tt_ok tt_tk cA Kd pl0) : jj_M l D cA ak yX10_errorPosition (.code yX10_errorPosition cX10_errorPosition 1 (some .int)) 0 0 0 0 ([] ++ pl0) [.ref h0] (tt_O (fun rx pl1 r => rx = [] ∧ tt_ok tt_tk cA Kd pl1 ∧ tt_fr Kd [] pl0 pl1 ∧ ((∃ v : Int32, (-2147483648 : Int) ≤ v.toInt ∧ v.toInt ≤ 2147483647 ∧ r = some (.int v))))) (tt_OX (fun _ _ _ => False)) := by
  refine jj_start hl (by decide) jw_870 (jj_le rfl) ?_
  intro p e s m args below meth c A hargs hA C hex hmn
  have hfr := tt_fr.refl (K := Kd) (WS := []) pl0
  refine jj_aload_n C dX10_errorPosition_0 rfl ?_
  refine tt_get C hok jk_11 2 (by decide) jw_681 (t := (0, (-2147483648), 2147483647)) hk0 (by decide) rfl rfl dX10_errorPosition_1 (fun v_1 hv_1 hf_2 => ?_)
  obtain ⟨x_3, rfl, lx_3, ux_3⟩ := tt_vi hv_1
  exact jj_iret C ⟨[], pl0, rfl, rfl, hok, hfr, ⟨x_3, (by first | omega | exact tt_lo _ | exact tt_hi _), (by first | omega | exact tt_lo _ | exact tt_hi _), rfl⟩⟩ dX10_errorPosition_4 (jj_le rfl) (jj_le rfl)

set_option maxHeartbeats 4000000 in
set_option maxRecDepth 100000 in
theorem tc_X2_giveBack_1 {l : Launch} (hl : l.stackTraces = false) (D : va_G) (cA : Nat → ClassId) (ak : (Nat → Nat) × (Nat → Nat)) {Kd : Nat → Nat} (h0 : Nat) (h1 : Nat) (h2 : Nat) (hk0 : Kd h0 = 1) (hk1 : Kd h1 = 2) (hk2 : Kd h2 = 3) {pl0 : va_W} (hok : tt_ok tt_tk cA Kd pl0) : jj_M l D cA ak yX2_giveBack (.code yX2_giveBack cX2_giveBack 13 none) 1 23 0 0 ([] ++ pl0) [.ref h0, .ref h1, .ref h2, .long 1000000, .long 1000000] (tt_O (fun rx pl1 r => rx = [] ∧ tt_ok tt_tk cA Kd pl1 ∧ tt_fr Kd [(2, 2), (2, 3), (3, 3)] pl0 pl1 ∧ ((r = none)))) (tt_OX (fun _ _ _ => False)) := by
  refine jj_start hl (by decide) jw_708 (jj_le rfl) ?_
  intro p e s m args below meth c A hargs hA C hex hmn
  have hfr := tt_fr.refl (K := Kd) (WS := [(2, 2), (2, 3), (3, 3)]) pl0
  refine jj_aload_n C dX2_giveBack_0 rfl ?_
  refine tt_get C hok jk_5 4 (by decide) jw_705 (t := (1, (-9223372036854775808), 9223372036854775807)) hk2 (by decide) rfl rfl dX2_giveBack_1 (fun v_1 hv_1 hf_2 => ?_)
  obtain ⟨y_3, rfl, -, -⟩ := tt_vj hv_1
  refine jj_aload_n C dX2_giveBack_4 rfl ?_
  refine tt_get C hok jk_9 4 (by decide) jw_709 (t := (1, (-9223372036854775808), 9223372036854775807)) hk1 (by decide) rfl rfl dX2_giveBack_5 (fun v_4 hv_4 hf_5 => ?_)
  obtain ⟨y_6, rfl, -, -⟩ := tt_vj hv_4
  obtain ⟨y_7, ey_7⟩ : ∃ z : Int64, y_3 - y_6 = z := ⟨_, rfl⟩
  refine jj_lsub (v := y_7) C dX2_giveBack_8 ey_7 ?_
  refine jj_lstore C dX2_giveBack_9 (by decide) rfl ?_
  refine jj_lload C dX2_giveBack_11 rfl ?_
  refine jj_lconst (v := 0) C dX2_giveBack_13 (by decide) ?_
  refine jj_lcmp_le (tgt := 34) C dX2_giveBack_14 dX2_giveBack_15 (by decide) (fun c_8 => ?_) (fun c_8 => ?_)
  · exact jj_vret C ⟨[], pl0, rfl, rfl, hok, hfr, rfl⟩ dX2_giveBack_34 (jj_le rfl) (jj_le rfl)
  · refine jj_lload_n C dX2_giveBack_18 rfl ?_
    refine jj_aload_n C dX2_giveBack_19 rfl ?_
    refine tt_getF C hok jk_9 4 (by decide) jw_709 (t := (1, (-9223372036854775808), 9223372036854775807)) hk1 (by decide) rfl rfl hf_5 dX2_giveBack_20 ?_
    refine jj_lcmp_le (tgt := 34) C dX2_giveBack_23 dX2_giveBack_24 (by decide) (fun c_9 => ?_) (fun c_9 => ?_)
    · exact jj_vret C ⟨[], pl0, rfl, rfl, hok, hfr, rfl⟩ dX2_giveBack_34 (jj_le rfl) (jj_le rfl)
    · refine jj_lload C dX2_giveBack_27 rfl ?_
      refine jj_lconst (v := 0) C dX2_giveBack_29 (by decide) ?_
      refine jj_lcmp_gtT (tgt := 35) C dX2_giveBack_30 dX2_giveBack_31 (by decide) (by decide) ?_
      refine jj_aload_n C dX2_giveBack_35 rfl ?_
      refine tt_get C hok jk_5 5 (by decide) jw_706 (t := (1, (-9223372036854775808), 9223372036854775807)) hk2 (by decide) rfl rfl dX2_giveBack_36 (fun v_10 hv_10 hf_11 => ?_)
      obtain ⟨y_12, rfl, -, -⟩ := tt_vj hv_10
      refine jj_lload_n C dX2_giveBack_39 rfl ?_
      refine jj_aload_n C dX2_giveBack_40 rfl ?_
      refine tt_getF C hok jk_9 4 (by decide) jw_709 (t := (1, (-9223372036854775808), 9223372036854775807)) hk1 (by decide) rfl rfl hf_5 dX2_giveBack_41 ?_
      obtain ⟨y_13, ey_13⟩ : ∃ z : Int64, (1000000 : Int64) - y_6 = z := ⟨_, rfl⟩
      refine jj_lsub (v := y_13) C dX2_giveBack_44 ey_13 ?_
      refine jj_lload C dX2_giveBack_45 rfl ?_
      refine tt_call0S (rest := [.long y_12]) C (ct_J9_min_f86c9_1 hl D cA ak y_13 y_7) jw_710 jw_145 jw_144 jw_143 jn_J9_min_f86c9 rfl (jj_le rfl) (jj_le rfl) (jj_le rfl) (jj_le rfl) (jj_le rfl) dX2_giveBack_47 rfl (fun w1 r O_14 => ?_)
      rcases O_14 with ⟨c_15, -, rfl⟩ | ⟨c_16, -, rfl⟩
      · obtain ⟨y_17, ey_17⟩ : ∃ z : Int64, y_12 * y_7 = z := ⟨_, rfl⟩
        refine jj_lmul (v := y_17) C dX2_giveBack_50 ey_17 ?_
        refine jj_lload C dX2_giveBack_51 rfl ?_
        obtain ⟨y_18, ey_18⟩ : ∃ z : Int64, y_17 / y_7 = z := ⟨_, rfl⟩
        refine jj_ldiv (v := y_18) C dX2_giveBack_53 (jt_nzpL (by first | exact Int64.not_le.mp c_8 | exact Int32.not_le.mp c_8)) ey_18 ?_
        refine jj_lstore C dX2_giveBack_54 (by decide) rfl ?_
        refine jj_lload C dX2_giveBack_56 rfl ?_
        refine jj_ldc2 (v := 100000) C dX2_giveBack_58 jw_177 ?_
        obtain ⟨y_19, ey_19⟩ : ∃ z : Int64, y_18 * (100000 : Int64) = z := ⟨_, rfl⟩
        refine jj_lmul (v := y_19) C dX2_giveBack_61 ey_19 ?_
        refine jj_lload C dX2_giveBack_62 rfl ?_
        obtain ⟨y_20, ey_20⟩ : ∃ z : Int64, y_19 / (1000000 : Int64) = z := ⟨_, rfl⟩
        refine jj_ldiv (v := y_20) C dX2_giveBack_64 (by decide) ey_20 ?_
        refine jj_lstore C dX2_giveBack_65 (by decide) rfl ?_
        refine jj_aload_n C dX2_giveBack_67 rfl ?_
        refine jj_dup C dX2_giveBack_68 rfl ?_
        refine tt_get C hok jk_9 2 (by decide) jw_321 (t := (1, (-9223372036854775808), 9223372036854775807)) hk1 (by decide) rfl rfl dX2_giveBack_69 (fun v_21 hv_21 hf_22 => ?_)
        obtain ⟨y_23, rfl, -, -⟩ := tt_vj hv_21
        refine jj_lload C dX2_giveBack_72 rfl ?_
        obtain ⟨y_24, ey_24⟩ : ∃ z : Int64, y_23 + y_18 = z := ⟨_, rfl⟩
        refine jj_ladd (v := y_24) C dX2_giveBack_74 ey_24 ?_
        refine tt_put C hok jk_9 2 (by decide) jw_321 (t := (1, (-9223372036854775808), 9223372036854775807)) hk1 (by decide) rfl rfl rfl (tt_ja y_24) rfl rfl dX2_giveBack_75 (fun pl_25 hok_26 tr hn => ?_)
        replace hf_2 := tr _ _ _ (Or.inl (tt_ne hk2 hk1 (by decide))) hf_2
        replace hf_5 := tr _ _ _ (Or.inr (by decide)) hf_5
        replace hf_11 := tr _ _ _ (Or.inl (tt_ne hk2 hk1 (by decide))) hf_11
        have hf_27 := hn
        replace hfr := hfr.put hk1 tr (by decide)
        refine jj_aload_n C dX2_giveBack_78 rfl ?_
        refine tt_get C hok_26 jk_2 10 (by decide) jw_319 (t := (2, 5, 0)) hk0 (by decide) rfl rfl dX2_giveBack_79 (fun v_28 hv_28 hf_29 => ?_)
        obtain ⟨a_30, rfl, ka_30⟩ := tt_vr hv_28
        refine jj_iconst (v := 0) C dX2_giveBack_82 (by decide) ?_
        refine jj_dup2 C dX2_giveBack_83 rfl rfl ?_
        refine tt_lald C hok_26 (t := (1, (-9223372036854775808), 9223372036854775807)) ka_30 (by decide) rfl (vp_in_iff.mpr (by decide)) dX2_giveBack_84 (fun v_31 hv_31 => ?_)
        refine jj_lload C dX2_giveBack_85 rfl ?_
        obtain ⟨y_32, ey_32⟩ : ∃ z : Int64, v_31 - y_18 = z := ⟨_, rfl⟩
        refine jj_lsub (v := y_32) C dX2_giveBack_87 ey_32 ?_
        refine tt_last C hok_26 (t := (1, (-9223372036854775808), 9223372036854775807)) ka_30 (by decide) rfl (vp_in_iff.mpr (by decide)) (tt_ja _) dX2_giveBack_88 (fun pl_33 hok_34 tr => ?_)
        replace hf_2 := tr _ _ _ hf_2
        replace hf_5 := tr _ _ _ hf_5
        replace hf_11 := tr _ _ _ hf_11
        replace hf_27 := tr _ _ _ hf_27
        replace hf_29 := tr _ _ _ hf_29
        replace hfr := hfr.arr tr
        refine jj_aload_n C dX2_giveBack_89 rfl ?_
        refine jj_dup C dX2_giveBack_90 rfl ?_
        refine tt_get C hok_34 jk_5 3 (by decide) jw_711 (t := (1, (-9223372036854775808), 9223372036854775807)) hk2 (by decide) rfl rfl dX2_giveBack_91 (fun v_35 hv_35 hf_36 => ?_)
        obtain ⟨y_37, rfl, -, -⟩ := tt_vj hv_35
        refine jj_lload C dX2_giveBack_94 rfl ?_
        obtain ⟨y_38, ey_38⟩ : ∃ z : Int64, y_37 + y_20 = z := ⟨_, rfl⟩
        refine jj_ladd (v := y_38) C dX2_giveBack_96 ey_38 ?_
        refine tt_put C hok_34 jk_5 3 (by decide) jw_711 (t := (1, (-9223372036854775808), 9223372036854775807)) hk2 (by decide) rfl rfl rfl (tt_ja y_38) rfl rfl dX2_giveBack_97 (fun pl_39 hok_40 tr hn => ?_)
        replace hf_2 := tr _ _ _ (Or.inr (by decide)) hf_2
        replace hf_5 := tr _ _ _ (Or.inl (tt_ne hk1 hk2 (by decide))) hf_5
        replace hf_11 := tr _ _ _ (Or.inr (by decide)) hf_11
        replace hf_27 := tr _ _ _ (Or.inl (tt_ne hk1 hk2 (by decide))) hf_27
        replace hf_29 := tr _ _ _ (Or.inl (tt_ne hk0 hk2 (by decide))) hf_29
        have hf_41 := hn
        replace hfr := hfr.put hk2 tr (by decide)
        refine jj_aload_n C dX2_giveBack_100 rfl ?_
        refine jj_dup C dX2_giveBack_101 rfl ?_
        refine tt_get C hok_40 jk_9 3 (by decide) jw_712 (t := (1, (-9223372036854775808), 9223372036854775807)) hk1 (by decide) rfl rfl dX2_giveBack_102 (fun v_42 hv_42 hf_43 => ?_)
        obtain ⟨y_44, rfl, -, -⟩ := tt_vj hv_42
        refine jj_lload C dX2_giveBack_105 rfl ?_
        obtain ⟨y_45, ey_45⟩ : ∃ z : Int64, y_44 + y_20 = z := ⟨_, rfl⟩
        refine jj_ladd (v := y_45) C dX2_giveBack_107 ey_45 ?_
        refine tt_put C hok_40 jk_9 3 (by decide) jw_712 (t := (1, (-9223372036854775808), 9223372036854775807)) hk1 (by decide) rfl rfl rfl (tt_ja y_45) rfl rfl dX2_giveBack_108 (fun pl_46 hok_47 tr hn => ?_)
        replace hf_2 := tr _ _ _ (Or.inl (tt_ne hk2 hk1 (by decide))) hf_2
        replace hf_5 := tr _ _ _ (Or.inr (by decide)) hf_5
        replace hf_11 := tr _ _ _ (Or.inl (tt_ne hk2 hk1 (by decide))) hf_11
        replace hf_27 := tr _ _ _ (Or.inr (by decide)) hf_27
        replace hf_29 := tr _ _ _ (Or.inl (tt_ne hk0 hk1 (by decide))) hf_29
        replace hf_41 := tr _ _ _ (Or.inl (tt_ne hk2 hk1 (by decide))) hf_41
        have hf_48 := hn
        replace hfr := hfr.put hk1 tr (by decide)
        exact jj_vret C ⟨[], pl_46, rfl, rfl, hok_47, hfr, rfl⟩ dX2_giveBack_111 (jj_le rfl) (jj_le rfl)
      · obtain ⟨y_49, ey_49⟩ : ∃ z : Int64, y_12 * y_13 = z := ⟨_, rfl⟩
        refine jj_lmul (v := y_49) C dX2_giveBack_50 ey_49 ?_
        refine jj_lload C dX2_giveBack_51 rfl ?_
        obtain ⟨y_50, ey_50⟩ : ∃ z : Int64, y_49 / y_7 = z := ⟨_, rfl⟩
        refine jj_ldiv (v := y_50) C dX2_giveBack_53 (jt_nzpL (by first | exact Int64.not_le.mp c_8 | exact Int32.not_le.mp c_8)) ey_50 ?_
        refine jj_lstore C dX2_giveBack_54 (by decide) rfl ?_
        refine jj_lload C dX2_giveBack_56 rfl ?_
        refine jj_ldc2 (v := 100000) C dX2_giveBack_58 jw_177 ?_
        obtain ⟨y_51, ey_51⟩ : ∃ z : Int64, y_50 * (100000 : Int64) = z := ⟨_, rfl⟩
        refine jj_lmul (v := y_51) C dX2_giveBack_61 ey_51 ?_
        refine jj_lload C dX2_giveBack_62 rfl ?_
        obtain ⟨y_52, ey_52⟩ : ∃ z : Int64, y_51 / (1000000 : Int64) = z := ⟨_, rfl⟩
        refine jj_ldiv (v := y_52) C dX2_giveBack_64 (by decide) ey_52 ?_
        refine jj_lstore C dX2_giveBack_65 (by decide) rfl ?_
        refine jj_aload_n C dX2_giveBack_67 rfl ?_
        refine jj_dup C dX2_giveBack_68 rfl ?_
        refine tt_get C hok jk_9 2 (by decide) jw_321 (t := (1, (-9223372036854775808), 9223372036854775807)) hk1 (by decide) rfl rfl dX2_giveBack_69 (fun v_53 hv_53 hf_54 => ?_)
        obtain ⟨y_55, rfl, -, -⟩ := tt_vj hv_53
        refine jj_lload C dX2_giveBack_72 rfl ?_
        obtain ⟨y_56, ey_56⟩ : ∃ z : Int64, y_55 + y_50 = z := ⟨_, rfl⟩
        refine jj_ladd (v := y_56) C dX2_giveBack_74 ey_56 ?_
        refine tt_put C hok jk_9 2 (by decide) jw_321 (t := (1, (-9223372036854775808), 9223372036854775807)) hk1 (by decide) rfl rfl rfl (tt_ja y_56) rfl rfl dX2_giveBack_75 (fun pl_57 hok_58 tr hn => ?_)
        replace hf_2 := tr _ _ _ (Or.inl (tt_ne hk2 hk1 (by decide))) hf_2
        replace hf_5 := tr _ _ _ (Or.inr (by decide)) hf_5
        replace hf_11 := tr _ _ _ (Or.inl (tt_ne hk2 hk1 (by decide))) hf_11
        have hf_59 := hn
        replace hfr := hfr.put hk1 tr (by decide)
        refine jj_aload_n C dX2_giveBack_78 rfl ?_
        refine tt_get C hok_58 jk_2 10 (by decide) jw_319 (t := (2, 5, 0)) hk0 (by decide) rfl rfl dX2_giveBack_79 (fun v_60 hv_60 hf_61 => ?_)
        obtain ⟨a_62, rfl, ka_62⟩ := tt_vr hv_60
        refine jj_iconst (v := 0) C dX2_giveBack_82 (by decide) ?_
        refine jj_dup2 C dX2_giveBack_83 rfl rfl ?_
        refine tt_lald C hok_58 (t := (1, (-9223372036854775808), 9223372036854775807)) ka_62 (by decide) rfl (vp_in_iff.mpr (by decide)) dX2_giveBack_84 (fun v_63 hv_63 => ?_)
        refine jj_lload C dX2_giveBack_85 rfl ?_
        obtain ⟨y_64, ey_64⟩ : ∃ z : Int64, v_63 - y_50 = z := ⟨_, rfl⟩
        refine jj_lsub (v := y_64) C dX2_giveBack_87 ey_64 ?_
        refine tt_last C hok_58 (t := (1, (-9223372036854775808), 9223372036854775807)) ka_62 (by decide) rfl (vp_in_iff.mpr (by decide)) (tt_ja _) dX2_giveBack_88 (fun pl_65 hok_66 tr => ?_)
        replace hf_2 := tr _ _ _ hf_2
        replace hf_5 := tr _ _ _ hf_5
        replace hf_11 := tr _ _ _ hf_11
        replace hf_59 := tr _ _ _ hf_59
        replace hf_61 := tr _ _ _ hf_61
        replace hfr := hfr.arr tr
        refine jj_aload_n C dX2_giveBack_89 rfl ?_
        refine jj_dup C dX2_giveBack_90 rfl ?_
        refine tt_get C hok_66 jk_5 3 (by decide) jw_711 (t := (1, (-9223372036854775808), 9223372036854775807)) hk2 (by decide) rfl rfl dX2_giveBack_91 (fun v_67 hv_67 hf_68 => ?_)
        obtain ⟨y_69, rfl, -, -⟩ := tt_vj hv_67
        refine jj_lload C dX2_giveBack_94 rfl ?_
        obtain ⟨y_70, ey_70⟩ : ∃ z : Int64, y_69 + y_52 = z := ⟨_, rfl⟩
        refine jj_ladd (v := y_70) C dX2_giveBack_96 ey_70 ?_
        refine tt_put C hok_66 jk_5 3 (by decide) jw_711 (t := (1, (-9223372036854775808), 9223372036854775807)) hk2 (by decide) rfl rfl rfl (tt_ja y_70) rfl rfl dX2_giveBack_97 (fun pl_71 hok_72 tr hn => ?_)
        replace hf_2 := tr _ _ _ (Or.inr (by decide)) hf_2
        replace hf_5 := tr _ _ _ (Or.inl (tt_ne hk1 hk2 (by decide))) hf_5
        replace hf_11 := tr _ _ _ (Or.inr (by decide)) hf_11
        replace hf_59 := tr _ _ _ (Or.inl (tt_ne hk1 hk2 (by decide))) hf_59
        replace hf_61 := tr _ _ _ (Or.inl (tt_ne hk0 hk2 (by decide))) hf_61
        have hf_73 := hn
        replace hfr := hfr.put hk2 tr (by decide)
        refine jj_aload_n C dX2_giveBack_100 rfl ?_
        refine jj_dup C dX2_giveBack_101 rfl ?_
        refine tt_get C hok_72 jk_9 3 (by decide) jw_712 (t := (1, (-9223372036854775808), 9223372036854775807)) hk1 (by decide) rfl rfl dX2_giveBack_102 (fun v_74 hv_74 hf_75 => ?_)
        obtain ⟨y_76, rfl, -, -⟩ := tt_vj hv_74
        refine jj_lload C dX2_giveBack_105 rfl ?_
        obtain ⟨y_77, ey_77⟩ : ∃ z : Int64, y_76 + y_52 = z := ⟨_, rfl⟩
        refine jj_ladd (v := y_77) C dX2_giveBack_107 ey_77 ?_
        refine tt_put C hok_72 jk_9 3 (by decide) jw_712 (t := (1, (-9223372036854775808), 9223372036854775807)) hk1 (by decide) rfl rfl rfl (tt_ja y_77) rfl rfl dX2_giveBack_108 (fun pl_78 hok_79 tr hn => ?_)
        replace hf_2 := tr _ _ _ (Or.inl (tt_ne hk2 hk1 (by decide))) hf_2
        replace hf_5 := tr _ _ _ (Or.inr (by decide)) hf_5
        replace hf_11 := tr _ _ _ (Or.inl (tt_ne hk2 hk1 (by decide))) hf_11
        replace hf_59 := tr _ _ _ (Or.inr (by decide)) hf_59
        replace hf_61 := tr _ _ _ (Or.inl (tt_ne hk0 hk1 (by decide))) hf_61
        replace hf_73 := tr _ _ _ (Or.inl (tt_ne hk2 hk1 (by decide))) hf_73
        have hf_80 := hn
        replace hfr := hfr.put hk1 tr (by decide)
        exact jj_vret C ⟨[], pl_78, rfl, rfl, hok_79, hfr, rfl⟩ dX2_giveBack_111 (jj_le rfl) (jj_le rfl)

set_option maxHeartbeats 4000000 in
set_option maxRecDepth 100000 in
theorem tc_X2_takeDue_1 {l : Launch} (hl : l.stackTraces = false) (D : va_G) (cA : Nat → ClassId) (ak : (Nat → Nat) × (Nat → Nat)) {Kd : Nat → Nat} (h0 : Nat) (h1 : Nat) (h2 : Nat) (hk0 : Kd h0 = 1) (hk1 : Kd h1 = 2) (hk2 : Kd h2 = 3) {pl0 : va_W} (hok : tt_ok tt_tk cA Kd pl0) : jj_M l D cA ak yX2_takeDue (.code yX2_takeDue cX2_takeDue 13 none) 1 26 0 0 ([] ++ pl0) [.ref h0, .ref h1, .ref h2, .long 1000000, .long 1000000] (tt_O (fun rx pl1 r => rx = [] ∧ tt_ok tt_tk cA Kd pl1 ∧ tt_fr Kd [(2, 2), (2, 3), (3, 3)] pl0 pl1 ∧ ((r = none)))) (tt_OX (fun _ _ _ => False)) := by
  refine jj_start hl (by decide) jw_716 (jj_le rfl) ?_
  intro p e s m args below meth c A hargs hA C hex hmn
  have hfr := tt_fr.refl (K := Kd) (WS := [(2, 2), (2, 3), (3, 3)]) pl0
  refine jj_lload_n C dX2_takeDue_0 rfl ?_
  refine jj_aload_n C dX2_takeDue_1 rfl ?_
  refine tt_get C hok jk_9 4 (by decide) jw_709 (t := (1, (-9223372036854775808), 9223372036854775807)) hk1 (by decide) rfl rfl dX2_takeDue_2 (fun v_1 hv_1 hf_2 => ?_)
  obtain ⟨y_3, rfl, -, -⟩ := tt_vj hv_1
  refine tt_call0S (rest := []) C (ct_J9_min_f86c9_3 hl D cA ak y_3) jw_710 jw_145 jw_144 jw_143 jn_J9_min_f86c9 rfl (jj_le rfl) (jj_le rfl) (jj_le rfl) (jj_le rfl) (jj_le rfl) dX2_takeDue_5 rfl (fun w1 r O_4 => ?_)
  rcases O_4 with ⟨c_5, -, rfl⟩ | ⟨c_6, -, rfl⟩
  · refine jj_lstore C dX2_takeDue_8 (by decide) rfl ?_
    refine jj_aload_n C dX2_takeDue_10 rfl ?_
    refine tt_get C hok jk_5 4 (by decide) jw_705 (t := (1, (-9223372036854775808), 9223372036854775807)) hk2 (by decide) rfl rfl dX2_takeDue_11 (fun v_7 hv_7 hf_8 => ?_)
    obtain ⟨y_9, rfl, -, -⟩ := tt_vj hv_7
    refine jj_lload C dX2_takeDue_14 rfl ?_
    refine jj_lcmp_ge (tgt := 27) C dX2_takeDue_16 dX2_takeDue_17 (by decide) (fun c_10 => ?_) (fun c_10 => ?_)
    · exact jj_vret C ⟨[], pl0, rfl, rfl, hok, hfr, rfl⟩ dX2_takeDue_27 (jj_le rfl) (jj_le rfl)
    · refine jj_lload C dX2_takeDue_20 rfl ?_
      refine jj_lconst (v := 0) C dX2_takeDue_22 (by decide) ?_
      refine jj_lcmp_gtT (tgt := 28) C dX2_takeDue_23 dX2_takeDue_24 (by decide) (by decide) ?_
      refine jj_aload_n C dX2_takeDue_28 rfl ?_
      refine tt_get C hok jk_5 3 (by decide) jw_711 (t := (1, (-9223372036854775808), 9223372036854775807)) hk2 (by decide) rfl rfl dX2_takeDue_29 (fun v_11 hv_11 hf_12 => ?_)
      obtain ⟨y_13, rfl, -, -⟩ := tt_vj hv_11
      refine jj_aload_n C dX2_takeDue_32 rfl ?_
      refine tt_getF C hok jk_5 4 (by decide) jw_705 (t := (1, (-9223372036854775808), 9223372036854775807)) hk2 (by decide) rfl rfl hf_8 dX2_takeDue_33 ?_
      refine jj_lload C dX2_takeDue_36 rfl ?_
      refine jj_aload_n C dX2_takeDue_38 rfl ?_
      refine tt_get C hok jk_2 3 (by decide) jw_698 (t := (0, (-2147483648), 2147483647)) hk0 (by decide) rfl rfl dX2_takeDue_39 (fun v_14 hv_14 hf_15 => ?_)
      obtain ⟨x_16, rfl, lx_16, ux_16⟩ := tt_vi hv_14
      refine tt_callS (rest := []) C (tc_X2_dueOn_1 hl D cA ak y_13 y_9 y_3 x_16 hok) [] [] rfl rfl (by decide) (by decide) (by decide) jw_717 jw_178 jw_175 jw_174 jn_X2_dueOn rfl (jj_le rfl) (jj_le rfl) (jj_le rfl) (jj_le rfl) (jj_le rfl) dX2_takeDue_42 rfl (fun _ _ _ hX => hX.elim) (fun rx pl_17 r O_20 => ?_)
      obtain ⟨rfl, hok_18, hr_19, hR_22⟩ := O_20
      replace hf_2 := hr_19.at hk1 (by decide) (by decide) hf_2
      replace hf_8 := hr_19.at hk2 (by decide) (by decide) hf_8
      replace hf_12 := hr_19.at hk2 (by decide) (by decide) hf_12
      replace hf_15 := hr_19.at hk0 (by decide) (by decide) hf_15
      replace hfr := hfr.trans (hr_19.sub (by decide))
      rcases hR_22 with rfl | ⟨y_23, rfl⟩
      · refine jj_lstore C dX2_takeDue_45 (by decide) rfl ?_
        refine jj_aload_n C dX2_takeDue_47 rfl ?_
        refine tt_getF C hok_18 jk_5 3 (by decide) jw_711 (t := (1, (-9223372036854775808), 9223372036854775807)) hk2 (by decide) rfl rfl hf_12 dX2_takeDue_48 ?_
        refine jj_lload C dX2_takeDue_51 rfl ?_
        refine jj_ldc2 (v := 100000) C dX2_takeDue_53 jw_177 ?_
        refine jj_lmul (v := 0) C dX2_takeDue_56 (by decide) ?_
        refine jj_lload C dX2_takeDue_57 rfl ?_
        refine jj_ldiv (v := 0) C dX2_takeDue_59 (by decide) (by decide) ?_
        refine tt_call0S (rest := []) C (ct_J9_min_f86c9_4 hl D cA ak y_13) jw_710 jw_145 jw_144 jw_143 jn_J9_min_f86c9 rfl (jj_le rfl) (jj_le rfl) (jj_le rfl) (jj_le rfl) (jj_le rfl) dX2_takeDue_60 rfl (fun w1 r O_24 => ?_)
        rcases O_24 with ⟨c_25, -, rfl⟩ | ⟨c_26, -, rfl⟩
        · refine jj_lstore C dX2_takeDue_63 (by decide) rfl ?_
          refine jj_aload_n C dX2_takeDue_65 rfl ?_
          refine jj_dup C dX2_takeDue_66 rfl ?_
          refine tt_get C hok_18 jk_9 2 (by decide) jw_321 (t := (1, (-9223372036854775808), 9223372036854775807)) hk1 (by decide) rfl rfl dX2_takeDue_67 (fun v_27 hv_27 hf_28 => ?_)
          obtain ⟨y_29, rfl, -, -⟩ := tt_vj hv_27
          refine jj_lload C dX2_takeDue_70 rfl ?_
          obtain ⟨y_30, ey_30⟩ : ∃ z : Int64, y_29 - (0 : Int64) = z := ⟨_, rfl⟩
          refine jj_lsub (v := y_30) C dX2_takeDue_72 ey_30 ?_
          refine tt_put C hok_18 jk_9 2 (by decide) jw_321 (t := (1, (-9223372036854775808), 9223372036854775807)) hk1 (by decide) rfl rfl rfl (tt_ja y_30) rfl rfl dX2_takeDue_73 (fun pl_31 hok_32 tr hn => ?_)
          replace hf_2 := tr _ _ _ (Or.inr (by decide)) hf_2
          replace hf_8 := tr _ _ _ (Or.inl (tt_ne hk2 hk1 (by decide))) hf_8
          replace hf_12 := tr _ _ _ (Or.inl (tt_ne hk2 hk1 (by decide))) hf_12
          replace hf_15 := tr _ _ _ (Or.inl (tt_ne hk0 hk1 (by decide))) hf_15
          have hf_33 := hn
          replace hfr := hfr.put hk1 tr (by decide)
          refine jj_aload_n C dX2_takeDue_76 rfl ?_
          refine tt_get C hok_32 jk_2 10 (by decide) jw_319 (t := (2, 5, 0)) hk0 (by decide) rfl rfl dX2_takeDue_77 (fun v_34 hv_34 hf_35 => ?_)
          obtain ⟨a_36, rfl, ka_36⟩ := tt_vr hv_34
          refine jj_iconst (v := 0) C dX2_takeDue_80 (by decide) ?_
          refine jj_dup2 C dX2_takeDue_81 rfl rfl ?_
          refine tt_lald C hok_32 (t := (1, (-9223372036854775808), 9223372036854775807)) ka_36 (by decide) rfl (vp_in_iff.mpr (by decide)) dX2_takeDue_82 (fun v_37 hv_37 => ?_)
          refine jj_lload C dX2_takeDue_83 rfl ?_
          obtain ⟨y_38, ey_38⟩ : ∃ z : Int64, v_37 + (0 : Int64) = z := ⟨_, rfl⟩
          refine jj_ladd (v := y_38) C dX2_takeDue_85 ey_38 ?_
          refine tt_last C hok_32 (t := (1, (-9223372036854775808), 9223372036854775807)) ka_36 (by decide) rfl (vp_in_iff.mpr (by decide)) (tt_ja _) dX2_takeDue_86 (fun pl_39 hok_40 tr => ?_)
          replace hf_2 := tr _ _ _ hf_2
          replace hf_8 := tr _ _ _ hf_8
          replace hf_12 := tr _ _ _ hf_12
          replace hf_15 := tr _ _ _ hf_15
          replace hf_33 := tr _ _ _ hf_33
          replace hf_35 := tr _ _ _ hf_35
          replace hfr := hfr.arr tr
          refine jj_aload_n C dX2_takeDue_87 rfl ?_
          refine jj_dup C dX2_takeDue_88 rfl ?_
          refine tt_getF C hok_40 jk_5 3 (by decide) jw_711 (t := (1, (-9223372036854775808), 9223372036854775807)) hk2 (by decide) rfl rfl hf_12 dX2_takeDue_89 ?_
          refine jj_lload C dX2_takeDue_92 rfl ?_
          obtain ⟨y_41, ey_41⟩ : ∃ z : Int64, y_13 - (0 : Int64) = z := ⟨_, rfl⟩
          refine jj_lsub (v := y_41) C dX2_takeDue_94 ey_41 ?_
          refine tt_put C hok_40 jk_5 3 (by decide) jw_711 (t := (1, (-9223372036854775808), 9223372036854775807)) hk2 (by decide) rfl rfl rfl (tt_ja y_41) rfl rfl dX2_takeDue_95 (fun pl_42 hok_43 tr hn => ?_)
          replace hf_2 := tr _ _ _ (Or.inl (tt_ne hk1 hk2 (by decide))) hf_2
          replace hf_8 := tr _ _ _ (Or.inr (by decide)) hf_8
          replace hf_15 := tr _ _ _ (Or.inl (tt_ne hk0 hk2 (by decide))) hf_15
          replace hf_33 := tr _ _ _ (Or.inl (tt_ne hk1 hk2 (by decide))) hf_33
          replace hf_35 := tr _ _ _ (Or.inl (tt_ne hk0 hk2 (by decide))) hf_35
          have hf_44 := hn
          replace hfr := hfr.put hk2 tr (by decide)
          refine jj_aload_n C dX2_takeDue_98 rfl ?_
          refine jj_dup C dX2_takeDue_99 rfl ?_
          refine tt_get C hok_43 jk_9 3 (by decide) jw_712 (t := (1, (-9223372036854775808), 9223372036854775807)) hk1 (by decide) rfl rfl dX2_takeDue_100 (fun v_45 hv_45 hf_46 => ?_)
          obtain ⟨y_47, rfl, -, -⟩ := tt_vj hv_45
          refine jj_lload C dX2_takeDue_103 rfl ?_
          obtain ⟨y_48, ey_48⟩ : ∃ z : Int64, y_47 - (0 : Int64) = z := ⟨_, rfl⟩
          refine jj_lsub (v := y_48) C dX2_takeDue_105 ey_48 ?_
          refine tt_put C hok_43 jk_9 3 (by decide) jw_712 (t := (1, (-9223372036854775808), 9223372036854775807)) hk1 (by decide) rfl rfl rfl (tt_ja y_48) rfl rfl dX2_takeDue_106 (fun pl_49 hok_50 tr hn => ?_)
          replace hf_2 := tr _ _ _ (Or.inr (by decide)) hf_2
          replace hf_8 := tr _ _ _ (Or.inl (tt_ne hk2 hk1 (by decide))) hf_8
          replace hf_15 := tr _ _ _ (Or.inl (tt_ne hk0 hk1 (by decide))) hf_15
          replace hf_33 := tr _ _ _ (Or.inr (by decide)) hf_33
          replace hf_35 := tr _ _ _ (Or.inl (tt_ne hk0 hk1 (by decide))) hf_35
          replace hf_44 := tr _ _ _ (Or.inl (tt_ne hk2 hk1 (by decide))) hf_44
          have hf_51 := hn
          replace hfr := hfr.put hk1 tr (by decide)
          exact jj_vret C ⟨[], pl_49, rfl, rfl, hok_50, hfr, rfl⟩ dX2_takeDue_109 (jj_le rfl) (jj_le rfl)
        · refine jj_lstore C dX2_takeDue_63 (by decide) rfl ?_
          refine jj_aload_n C dX2_takeDue_65 rfl ?_
          refine jj_dup C dX2_takeDue_66 rfl ?_
          refine tt_get C hok_18 jk_9 2 (by decide) jw_321 (t := (1, (-9223372036854775808), 9223372036854775807)) hk1 (by decide) rfl rfl dX2_takeDue_67 (fun v_52 hv_52 hf_53 => ?_)
          obtain ⟨y_54, rfl, -, -⟩ := tt_vj hv_52
          refine jj_lload C dX2_takeDue_70 rfl ?_
          obtain ⟨y_55, ey_55⟩ : ∃ z : Int64, y_54 - (0 : Int64) = z := ⟨_, rfl⟩
          refine jj_lsub (v := y_55) C dX2_takeDue_72 ey_55 ?_
          refine tt_put C hok_18 jk_9 2 (by decide) jw_321 (t := (1, (-9223372036854775808), 9223372036854775807)) hk1 (by decide) rfl rfl rfl (tt_ja y_55) rfl rfl dX2_takeDue_73 (fun pl_56 hok_57 tr hn => ?_)
          replace hf_2 := tr _ _ _ (Or.inr (by decide)) hf_2
          replace hf_8 := tr _ _ _ (Or.inl (tt_ne hk2 hk1 (by decide))) hf_8
          replace hf_12 := tr _ _ _ (Or.inl (tt_ne hk2 hk1 (by decide))) hf_12
          replace hf_15 := tr _ _ _ (Or.inl (tt_ne hk0 hk1 (by decide))) hf_15
          have hf_58 := hn
          replace hfr := hfr.put hk1 tr (by decide)
          refine jj_aload_n C dX2_takeDue_76 rfl ?_
          refine tt_get C hok_57 jk_2 10 (by decide) jw_319 (t := (2, 5, 0)) hk0 (by decide) rfl rfl dX2_takeDue_77 (fun v_59 hv_59 hf_60 => ?_)
          obtain ⟨a_61, rfl, ka_61⟩ := tt_vr hv_59
          refine jj_iconst (v := 0) C dX2_takeDue_80 (by decide) ?_
          refine jj_dup2 C dX2_takeDue_81 rfl rfl ?_
          refine tt_lald C hok_57 (t := (1, (-9223372036854775808), 9223372036854775807)) ka_61 (by decide) rfl (vp_in_iff.mpr (by decide)) dX2_takeDue_82 (fun v_62 hv_62 => ?_)
          refine jj_lload C dX2_takeDue_83 rfl ?_
          obtain ⟨y_63, ey_63⟩ : ∃ z : Int64, v_62 + (0 : Int64) = z := ⟨_, rfl⟩
          refine jj_ladd (v := y_63) C dX2_takeDue_85 ey_63 ?_
          refine tt_last C hok_57 (t := (1, (-9223372036854775808), 9223372036854775807)) ka_61 (by decide) rfl (vp_in_iff.mpr (by decide)) (tt_ja _) dX2_takeDue_86 (fun pl_64 hok_65 tr => ?_)
          replace hf_2 := tr _ _ _ hf_2
          replace hf_8 := tr _ _ _ hf_8
          replace hf_12 := tr _ _ _ hf_12
          replace hf_15 := tr _ _ _ hf_15
          replace hf_58 := tr _ _ _ hf_58
          replace hf_60 := tr _ _ _ hf_60
          replace hfr := hfr.arr tr
          refine jj_aload_n C dX2_takeDue_87 rfl ?_
          refine jj_dup C dX2_takeDue_88 rfl ?_
          refine tt_getF C hok_65 jk_5 3 (by decide) jw_711 (t := (1, (-9223372036854775808), 9223372036854775807)) hk2 (by decide) rfl rfl hf_12 dX2_takeDue_89 ?_
          refine jj_lload C dX2_takeDue_92 rfl ?_
          obtain ⟨y_66, ey_66⟩ : ∃ z : Int64, y_13 - y_13 = z := ⟨_, rfl⟩
          refine jj_lsub (v := y_66) C dX2_takeDue_94 ey_66 ?_
          refine tt_put C hok_65 jk_5 3 (by decide) jw_711 (t := (1, (-9223372036854775808), 9223372036854775807)) hk2 (by decide) rfl rfl rfl (tt_ja y_66) rfl rfl dX2_takeDue_95 (fun pl_67 hok_68 tr hn => ?_)
          replace hf_2 := tr _ _ _ (Or.inl (tt_ne hk1 hk2 (by decide))) hf_2
          replace hf_8 := tr _ _ _ (Or.inr (by decide)) hf_8
          replace hf_15 := tr _ _ _ (Or.inl (tt_ne hk0 hk2 (by decide))) hf_15
          replace hf_58 := tr _ _ _ (Or.inl (tt_ne hk1 hk2 (by decide))) hf_58
          replace hf_60 := tr _ _ _ (Or.inl (tt_ne hk0 hk2 (by decide))) hf_60
          have hf_69 := hn
          replace hfr := hfr.put hk2 tr (by decide)
          refine jj_aload_n C dX2_takeDue_98 rfl ?_
          refine jj_dup C dX2_takeDue_99 rfl ?_
          refine tt_get C hok_68 jk_9 3 (by decide) jw_712 (t := (1, (-9223372036854775808), 9223372036854775807)) hk1 (by decide) rfl rfl dX2_takeDue_100 (fun v_70 hv_70 hf_71 => ?_)
          obtain ⟨y_72, rfl, -, -⟩ := tt_vj hv_70
          refine jj_lload C dX2_takeDue_103 rfl ?_
          obtain ⟨y_73, ey_73⟩ : ∃ z : Int64, y_72 - y_13 = z := ⟨_, rfl⟩
          refine jj_lsub (v := y_73) C dX2_takeDue_105 ey_73 ?_
          refine tt_put C hok_68 jk_9 3 (by decide) jw_712 (t := (1, (-9223372036854775808), 9223372036854775807)) hk1 (by decide) rfl rfl rfl (tt_ja y_73) rfl rfl dX2_takeDue_106 (fun pl_74 hok_75 tr hn => ?_)
          replace hf_2 := tr _ _ _ (Or.inr (by decide)) hf_2
          replace hf_8 := tr _ _ _ (Or.inl (tt_ne hk2 hk1 (by decide))) hf_8
          replace hf_15 := tr _ _ _ (Or.inl (tt_ne hk0 hk1 (by decide))) hf_15
          replace hf_58 := tr _ _ _ (Or.inr (by decide)) hf_58
          replace hf_60 := tr _ _ _ (Or.inl (tt_ne hk0 hk1 (by decide))) hf_60
          replace hf_69 := tr _ _ _ (Or.inl (tt_ne hk2 hk1 (by decide))) hf_69
          have hf_76 := hn
          replace hfr := hfr.put hk1 tr (by decide)
          exact jj_vret C ⟨[], pl_74, rfl, rfl, hok_75, hfr, rfl⟩ dX2_takeDue_109 (jj_le rfl) (jj_le rfl)
      · refine jj_lstore C dX2_takeDue_45 (by decide) rfl ?_
        refine jj_aload_n C dX2_takeDue_47 rfl ?_
        refine tt_getF C hok_18 jk_5 3 (by decide) jw_711 (t := (1, (-9223372036854775808), 9223372036854775807)) hk2 (by decide) rfl rfl hf_12 dX2_takeDue_48 ?_
        refine jj_lload C dX2_takeDue_51 rfl ?_
        refine jj_ldc2 (v := 100000) C dX2_takeDue_53 jw_177 ?_
        obtain ⟨y_77, ey_77⟩ : ∃ z : Int64, y_23 * (100000 : Int64) = z := ⟨_, rfl⟩
        refine jj_lmul (v := y_77) C dX2_takeDue_56 ey_77 ?_
        refine jj_lload C dX2_takeDue_57 rfl ?_
        obtain ⟨y_78, ey_78⟩ : ∃ z : Int64, y_77 / (1000000 : Int64) = z := ⟨_, rfl⟩
        refine jj_ldiv (v := y_78) C dX2_takeDue_59 (by decide) ey_78 ?_
        refine tt_call0S (rest := []) C (ct_J9_min_f86c9_1 hl D cA ak y_13 y_78) jw_710 jw_145 jw_144 jw_143 jn_J9_min_f86c9 rfl (jj_le rfl) (jj_le rfl) (jj_le rfl) (jj_le rfl) (jj_le rfl) dX2_takeDue_60 rfl (fun w1 r O_79 => ?_)
        rcases O_79 with ⟨c_80, -, rfl⟩ | ⟨c_81, -, rfl⟩
        · refine jj_lstore C dX2_takeDue_63 (by decide) rfl ?_
          refine jj_aload_n C dX2_takeDue_65 rfl ?_
          refine jj_dup C dX2_takeDue_66 rfl ?_
          refine tt_get C hok_18 jk_9 2 (by decide) jw_321 (t := (1, (-9223372036854775808), 9223372036854775807)) hk1 (by decide) rfl rfl dX2_takeDue_67 (fun v_82 hv_82 hf_83 => ?_)
          obtain ⟨y_84, rfl, -, -⟩ := tt_vj hv_82
          refine jj_lload C dX2_takeDue_70 rfl ?_
          obtain ⟨y_85, ey_85⟩ : ∃ z : Int64, y_84 - y_23 = z := ⟨_, rfl⟩
          refine jj_lsub (v := y_85) C dX2_takeDue_72 ey_85 ?_
          refine tt_put C hok_18 jk_9 2 (by decide) jw_321 (t := (1, (-9223372036854775808), 9223372036854775807)) hk1 (by decide) rfl rfl rfl (tt_ja y_85) rfl rfl dX2_takeDue_73 (fun pl_86 hok_87 tr hn => ?_)
          replace hf_2 := tr _ _ _ (Or.inr (by decide)) hf_2
          replace hf_8 := tr _ _ _ (Or.inl (tt_ne hk2 hk1 (by decide))) hf_8
          replace hf_12 := tr _ _ _ (Or.inl (tt_ne hk2 hk1 (by decide))) hf_12
          replace hf_15 := tr _ _ _ (Or.inl (tt_ne hk0 hk1 (by decide))) hf_15
          have hf_88 := hn
          replace hfr := hfr.put hk1 tr (by decide)
          refine jj_aload_n C dX2_takeDue_76 rfl ?_
          refine tt_get C hok_87 jk_2 10 (by decide) jw_319 (t := (2, 5, 0)) hk0 (by decide) rfl rfl dX2_takeDue_77 (fun v_89 hv_89 hf_90 => ?_)
          obtain ⟨a_91, rfl, ka_91⟩ := tt_vr hv_89
          refine jj_iconst (v := 0) C dX2_takeDue_80 (by decide) ?_
          refine jj_dup2 C dX2_takeDue_81 rfl rfl ?_
          refine tt_lald C hok_87 (t := (1, (-9223372036854775808), 9223372036854775807)) ka_91 (by decide) rfl (vp_in_iff.mpr (by decide)) dX2_takeDue_82 (fun v_92 hv_92 => ?_)
          refine jj_lload C dX2_takeDue_83 rfl ?_
          obtain ⟨y_93, ey_93⟩ : ∃ z : Int64, v_92 + y_23 = z := ⟨_, rfl⟩
          refine jj_ladd (v := y_93) C dX2_takeDue_85 ey_93 ?_
          refine tt_last C hok_87 (t := (1, (-9223372036854775808), 9223372036854775807)) ka_91 (by decide) rfl (vp_in_iff.mpr (by decide)) (tt_ja _) dX2_takeDue_86 (fun pl_94 hok_95 tr => ?_)
          replace hf_2 := tr _ _ _ hf_2
          replace hf_8 := tr _ _ _ hf_8
          replace hf_12 := tr _ _ _ hf_12
          replace hf_15 := tr _ _ _ hf_15
          replace hf_88 := tr _ _ _ hf_88
          replace hf_90 := tr _ _ _ hf_90
          replace hfr := hfr.arr tr
          refine jj_aload_n C dX2_takeDue_87 rfl ?_
          refine jj_dup C dX2_takeDue_88 rfl ?_
          refine tt_getF C hok_95 jk_5 3 (by decide) jw_711 (t := (1, (-9223372036854775808), 9223372036854775807)) hk2 (by decide) rfl rfl hf_12 dX2_takeDue_89 ?_
          refine jj_lload C dX2_takeDue_92 rfl ?_
          obtain ⟨y_96, ey_96⟩ : ∃ z : Int64, y_13 - y_78 = z := ⟨_, rfl⟩
          refine jj_lsub (v := y_96) C dX2_takeDue_94 ey_96 ?_
          refine tt_put C hok_95 jk_5 3 (by decide) jw_711 (t := (1, (-9223372036854775808), 9223372036854775807)) hk2 (by decide) rfl rfl rfl (tt_ja y_96) rfl rfl dX2_takeDue_95 (fun pl_97 hok_98 tr hn => ?_)
          replace hf_2 := tr _ _ _ (Or.inl (tt_ne hk1 hk2 (by decide))) hf_2
          replace hf_8 := tr _ _ _ (Or.inr (by decide)) hf_8
          replace hf_15 := tr _ _ _ (Or.inl (tt_ne hk0 hk2 (by decide))) hf_15
          replace hf_88 := tr _ _ _ (Or.inl (tt_ne hk1 hk2 (by decide))) hf_88
          replace hf_90 := tr _ _ _ (Or.inl (tt_ne hk0 hk2 (by decide))) hf_90
          have hf_99 := hn
          replace hfr := hfr.put hk2 tr (by decide)
          refine jj_aload_n C dX2_takeDue_98 rfl ?_
          refine jj_dup C dX2_takeDue_99 rfl ?_
          refine tt_get C hok_98 jk_9 3 (by decide) jw_712 (t := (1, (-9223372036854775808), 9223372036854775807)) hk1 (by decide) rfl rfl dX2_takeDue_100 (fun v_100 hv_100 hf_101 => ?_)
          obtain ⟨y_102, rfl, -, -⟩ := tt_vj hv_100
          refine jj_lload C dX2_takeDue_103 rfl ?_
          obtain ⟨y_103, ey_103⟩ : ∃ z : Int64, y_102 - y_78 = z := ⟨_, rfl⟩
          refine jj_lsub (v := y_103) C dX2_takeDue_105 ey_103 ?_
          refine tt_put C hok_98 jk_9 3 (by decide) jw_712 (t := (1, (-9223372036854775808), 9223372036854775807)) hk1 (by decide) rfl rfl rfl (tt_ja y_103) rfl rfl dX2_takeDue_106 (fun pl_104 hok_105 tr hn => ?_)
          replace hf_2 := tr _ _ _ (Or.inr (by decide)) hf_2
          replace hf_8 := tr _ _ _ (Or.inl (tt_ne hk2 hk1 (by decide))) hf_8
          replace hf_15 := tr _ _ _ (Or.inl (tt_ne hk0 hk1 (by decide))) hf_15
          replace hf_88 := tr _ _ _ (Or.inr (by decide)) hf_88
          replace hf_90 := tr _ _ _ (Or.inl (tt_ne hk0 hk1 (by decide))) hf_90
          replace hf_99 := tr _ _ _ (Or.inl (tt_ne hk2 hk1 (by decide))) hf_99
          have hf_106 := hn
          replace hfr := hfr.put hk1 tr (by decide)
          exact jj_vret C ⟨[], pl_104, rfl, rfl, hok_105, hfr, rfl⟩ dX2_takeDue_109 (jj_le rfl) (jj_le rfl)
        · refine jj_lstore C dX2_takeDue_63 (by decide) rfl ?_
          refine jj_aload_n C dX2_takeDue_65 rfl ?_
          refine jj_dup C dX2_takeDue_66 rfl ?_
          refine tt_get C hok_18 jk_9 2 (by decide) jw_321 (t := (1, (-9223372036854775808), 9223372036854775807)) hk1 (by decide) rfl rfl dX2_takeDue_67 (fun v_107 hv_107 hf_108 => ?_)
          obtain ⟨y_109, rfl, -, -⟩ := tt_vj hv_107
          refine jj_lload C dX2_takeDue_70 rfl ?_
          obtain ⟨y_110, ey_110⟩ : ∃ z : Int64, y_109 - y_23 = z := ⟨_, rfl⟩
          refine jj_lsub (v := y_110) C dX2_takeDue_72 ey_110 ?_
          refine tt_put C hok_18 jk_9 2 (by decide) jw_321 (t := (1, (-9223372036854775808), 9223372036854775807)) hk1 (by decide) rfl rfl rfl (tt_ja y_110) rfl rfl dX2_takeDue_73 (fun pl_111 hok_112 tr hn => ?_)
          replace hf_2 := tr _ _ _ (Or.inr (by decide)) hf_2
          replace hf_8 := tr _ _ _ (Or.inl (tt_ne hk2 hk1 (by decide))) hf_8
          replace hf_12 := tr _ _ _ (Or.inl (tt_ne hk2 hk1 (by decide))) hf_12
          replace hf_15 := tr _ _ _ (Or.inl (tt_ne hk0 hk1 (by decide))) hf_15
          have hf_113 := hn
          replace hfr := hfr.put hk1 tr (by decide)
          refine jj_aload_n C dX2_takeDue_76 rfl ?_
          refine tt_get C hok_112 jk_2 10 (by decide) jw_319 (t := (2, 5, 0)) hk0 (by decide) rfl rfl dX2_takeDue_77 (fun v_114 hv_114 hf_115 => ?_)
          obtain ⟨a_116, rfl, ka_116⟩ := tt_vr hv_114
          refine jj_iconst (v := 0) C dX2_takeDue_80 (by decide) ?_
          refine jj_dup2 C dX2_takeDue_81 rfl rfl ?_
          refine tt_lald C hok_112 (t := (1, (-9223372036854775808), 9223372036854775807)) ka_116 (by decide) rfl (vp_in_iff.mpr (by decide)) dX2_takeDue_82 (fun v_117 hv_117 => ?_)
          refine jj_lload C dX2_takeDue_83 rfl ?_
          obtain ⟨y_118, ey_118⟩ : ∃ z : Int64, v_117 + y_23 = z := ⟨_, rfl⟩
          refine jj_ladd (v := y_118) C dX2_takeDue_85 ey_118 ?_
          refine tt_last C hok_112 (t := (1, (-9223372036854775808), 9223372036854775807)) ka_116 (by decide) rfl (vp_in_iff.mpr (by decide)) (tt_ja _) dX2_takeDue_86 (fun pl_119 hok_120 tr => ?_)
          replace hf_2 := tr _ _ _ hf_2
          replace hf_8 := tr _ _ _ hf_8
          replace hf_12 := tr _ _ _ hf_12
          replace hf_15 := tr _ _ _ hf_15
          replace hf_113 := tr _ _ _ hf_113
          replace hf_115 := tr _ _ _ hf_115
          replace hfr := hfr.arr tr
          refine jj_aload_n C dX2_takeDue_87 rfl ?_
          refine jj_dup C dX2_takeDue_88 rfl ?_
          refine tt_getF C hok_120 jk_5 3 (by decide) jw_711 (t := (1, (-9223372036854775808), 9223372036854775807)) hk2 (by decide) rfl rfl hf_12 dX2_takeDue_89 ?_
          refine jj_lload C dX2_takeDue_92 rfl ?_
          obtain ⟨y_121, ey_121⟩ : ∃ z : Int64, y_13 - y_13 = z := ⟨_, rfl⟩
          refine jj_lsub (v := y_121) C dX2_takeDue_94 ey_121 ?_
          refine tt_put C hok_120 jk_5 3 (by decide) jw_711 (t := (1, (-9223372036854775808), 9223372036854775807)) hk2 (by decide) rfl rfl rfl (tt_ja y_121) rfl rfl dX2_takeDue_95 (fun pl_122 hok_123 tr hn => ?_)
          replace hf_2 := tr _ _ _ (Or.inl (tt_ne hk1 hk2 (by decide))) hf_2
          replace hf_8 := tr _ _ _ (Or.inr (by decide)) hf_8
          replace hf_15 := tr _ _ _ (Or.inl (tt_ne hk0 hk2 (by decide))) hf_15
          replace hf_113 := tr _ _ _ (Or.inl (tt_ne hk1 hk2 (by decide))) hf_113
          replace hf_115 := tr _ _ _ (Or.inl (tt_ne hk0 hk2 (by decide))) hf_115
          have hf_124 := hn
          replace hfr := hfr.put hk2 tr (by decide)
          refine jj_aload_n C dX2_takeDue_98 rfl ?_
          refine jj_dup C dX2_takeDue_99 rfl ?_
          refine tt_get C hok_123 jk_9 3 (by decide) jw_712 (t := (1, (-9223372036854775808), 9223372036854775807)) hk1 (by decide) rfl rfl dX2_takeDue_100 (fun v_125 hv_125 hf_126 => ?_)
          obtain ⟨y_127, rfl, -, -⟩ := tt_vj hv_125
          refine jj_lload C dX2_takeDue_103 rfl ?_
          obtain ⟨y_128, ey_128⟩ : ∃ z : Int64, y_127 - y_13 = z := ⟨_, rfl⟩
          refine jj_lsub (v := y_128) C dX2_takeDue_105 ey_128 ?_
          refine tt_put C hok_123 jk_9 3 (by decide) jw_712 (t := (1, (-9223372036854775808), 9223372036854775807)) hk1 (by decide) rfl rfl rfl (tt_ja y_128) rfl rfl dX2_takeDue_106 (fun pl_129 hok_130 tr hn => ?_)
          replace hf_2 := tr _ _ _ (Or.inr (by decide)) hf_2
          replace hf_8 := tr _ _ _ (Or.inl (tt_ne hk2 hk1 (by decide))) hf_8
          replace hf_15 := tr _ _ _ (Or.inl (tt_ne hk0 hk1 (by decide))) hf_15
          replace hf_113 := tr _ _ _ (Or.inr (by decide)) hf_113
          replace hf_115 := tr _ _ _ (Or.inl (tt_ne hk0 hk1 (by decide))) hf_115
          replace hf_124 := tr _ _ _ (Or.inl (tt_ne hk2 hk1 (by decide))) hf_124
          have hf_131 := hn
          replace hfr := hfr.put hk1 tr (by decide)
          exact jj_vret C ⟨[], pl_129, rfl, rfl, hok_130, hfr, rfl⟩ dX2_takeDue_109 (jj_le rfl) (jj_le rfl)
  · refine jj_lstore C dX2_takeDue_8 (by decide) rfl ?_
    refine jj_aload_n C dX2_takeDue_10 rfl ?_
    refine tt_get C hok jk_5 4 (by decide) jw_705 (t := (1, (-9223372036854775808), 9223372036854775807)) hk2 (by decide) rfl rfl dX2_takeDue_11 (fun v_132 hv_132 hf_133 => ?_)
    obtain ⟨y_134, rfl, -, -⟩ := tt_vj hv_132
    refine jj_lload C dX2_takeDue_14 rfl ?_
    refine jj_lcmp_ge (tgt := 27) C dX2_takeDue_16 dX2_takeDue_17 (by decide) (fun c_135 => ?_) (fun c_135 => ?_)
    · exact jj_vret C ⟨[], pl0, rfl, rfl, hok, hfr, rfl⟩ dX2_takeDue_27 (jj_le rfl) (jj_le rfl)
    · refine jj_lload C dX2_takeDue_20 rfl ?_
      refine jj_lconst (v := 0) C dX2_takeDue_22 (by decide) ?_
      refine jj_lcmp_gtT (tgt := 28) C dX2_takeDue_23 dX2_takeDue_24 (by decide) (by decide) ?_
      refine jj_aload_n C dX2_takeDue_28 rfl ?_
      refine tt_get C hok jk_5 3 (by decide) jw_711 (t := (1, (-9223372036854775808), 9223372036854775807)) hk2 (by decide) rfl rfl dX2_takeDue_29 (fun v_136 hv_136 hf_137 => ?_)
      obtain ⟨y_138, rfl, -, -⟩ := tt_vj hv_136
      refine jj_aload_n C dX2_takeDue_32 rfl ?_
      refine tt_getF C hok jk_5 4 (by decide) jw_705 (t := (1, (-9223372036854775808), 9223372036854775807)) hk2 (by decide) rfl rfl hf_133 dX2_takeDue_33 ?_
      refine jj_lload C dX2_takeDue_36 rfl ?_
      refine jj_aload_n C dX2_takeDue_38 rfl ?_
      refine tt_get C hok jk_2 3 (by decide) jw_698 (t := (0, (-2147483648), 2147483647)) hk0 (by decide) rfl rfl dX2_takeDue_39 (fun v_139 hv_139 hf_140 => ?_)
      obtain ⟨x_141, rfl, lx_141, ux_141⟩ := tt_vi hv_139
      refine tt_callS (rest := []) C (tc_X2_dueOn_2 hl D cA ak y_138 y_134 x_141 hok) [] [] rfl rfl (by decide) (by decide) (by decide) jw_717 jw_178 jw_175 jw_174 jn_X2_dueOn rfl (jj_le rfl) (jj_le rfl) (jj_le rfl) (jj_le rfl) (jj_le rfl) dX2_takeDue_42 rfl (fun _ _ _ hX => hX.elim) (fun rx pl_142 r O_145 => ?_)
      obtain ⟨rfl, hok_143, hr_144, hR_147⟩ := O_145
      replace hf_2 := hr_144.at hk1 (by decide) (by decide) hf_2
      replace hf_133 := hr_144.at hk2 (by decide) (by decide) hf_133
      replace hf_137 := hr_144.at hk2 (by decide) (by decide) hf_137
      replace hf_140 := hr_144.at hk0 (by decide) (by decide) hf_140
      replace hfr := hfr.trans (hr_144.sub (by decide))
      rcases hR_147 with rfl | ⟨y_148, rfl⟩
      · refine jj_lstore C dX2_takeDue_45 (by decide) rfl ?_
        refine jj_aload_n C dX2_takeDue_47 rfl ?_
        refine tt_getF C hok_143 jk_5 3 (by decide) jw_711 (t := (1, (-9223372036854775808), 9223372036854775807)) hk2 (by decide) rfl rfl hf_137 dX2_takeDue_48 ?_
        refine jj_lload C dX2_takeDue_51 rfl ?_
        refine jj_ldc2 (v := 100000) C dX2_takeDue_53 jw_177 ?_
        refine jj_lmul (v := 0) C dX2_takeDue_56 (by decide) ?_
        refine jj_lload C dX2_takeDue_57 rfl ?_
        refine jj_ldiv (v := 0) C dX2_takeDue_59 (by decide) (by decide) ?_
        refine tt_call0S (rest := []) C (ct_J9_min_f86c9_4 hl D cA ak y_138) jw_710 jw_145 jw_144 jw_143 jn_J9_min_f86c9 rfl (jj_le rfl) (jj_le rfl) (jj_le rfl) (jj_le rfl) (jj_le rfl) dX2_takeDue_60 rfl (fun w1 r O_149 => ?_)
        rcases O_149 with ⟨c_150, -, rfl⟩ | ⟨c_151, -, rfl⟩
        · refine jj_lstore C dX2_takeDue_63 (by decide) rfl ?_
          refine jj_aload_n C dX2_takeDue_65 rfl ?_
          refine jj_dup C dX2_takeDue_66 rfl ?_
          refine tt_get C hok_143 jk_9 2 (by decide) jw_321 (t := (1, (-9223372036854775808), 9223372036854775807)) hk1 (by decide) rfl rfl dX2_takeDue_67 (fun v_152 hv_152 hf_153 => ?_)
          obtain ⟨y_154, rfl, -, -⟩ := tt_vj hv_152
          refine jj_lload C dX2_takeDue_70 rfl ?_
          obtain ⟨y_155, ey_155⟩ : ∃ z : Int64, y_154 - (0 : Int64) = z := ⟨_, rfl⟩
          refine jj_lsub (v := y_155) C dX2_takeDue_72 ey_155 ?_
          refine tt_put C hok_143 jk_9 2 (by decide) jw_321 (t := (1, (-9223372036854775808), 9223372036854775807)) hk1 (by decide) rfl rfl rfl (tt_ja y_155) rfl rfl dX2_takeDue_73 (fun pl_156 hok_157 tr hn => ?_)
          replace hf_2 := tr _ _ _ (Or.inr (by decide)) hf_2
          replace hf_133 := tr _ _ _ (Or.inl (tt_ne hk2 hk1 (by decide))) hf_133
          replace hf_137 := tr _ _ _ (Or.inl (tt_ne hk2 hk1 (by decide))) hf_137
          replace hf_140 := tr _ _ _ (Or.inl (tt_ne hk0 hk1 (by decide))) hf_140
          have hf_158 := hn
          replace hfr := hfr.put hk1 tr (by decide)
          refine jj_aload_n C dX2_takeDue_76 rfl ?_
          refine tt_get C hok_157 jk_2 10 (by decide) jw_319 (t := (2, 5, 0)) hk0 (by decide) rfl rfl dX2_takeDue_77 (fun v_159 hv_159 hf_160 => ?_)
          obtain ⟨a_161, rfl, ka_161⟩ := tt_vr hv_159
          refine jj_iconst (v := 0) C dX2_takeDue_80 (by decide) ?_
          refine jj_dup2 C dX2_takeDue_81 rfl rfl ?_
          refine tt_lald C hok_157 (t := (1, (-9223372036854775808), 9223372036854775807)) ka_161 (by decide) rfl (vp_in_iff.mpr (by decide)) dX2_takeDue_82 (fun v_162 hv_162 => ?_)
          refine jj_lload C dX2_takeDue_83 rfl ?_
          obtain ⟨y_163, ey_163⟩ : ∃ z : Int64, v_162 + (0 : Int64) = z := ⟨_, rfl⟩
          refine jj_ladd (v := y_163) C dX2_takeDue_85 ey_163 ?_
          refine tt_last C hok_157 (t := (1, (-9223372036854775808), 9223372036854775807)) ka_161 (by decide) rfl (vp_in_iff.mpr (by decide)) (tt_ja _) dX2_takeDue_86 (fun pl_164 hok_165 tr => ?_)
          replace hf_2 := tr _ _ _ hf_2
          replace hf_133 := tr _ _ _ hf_133
          replace hf_137 := tr _ _ _ hf_137
          replace hf_140 := tr _ _ _ hf_140
          replace hf_158 := tr _ _ _ hf_158
          replace hf_160 := tr _ _ _ hf_160
          replace hfr := hfr.arr tr
          refine jj_aload_n C dX2_takeDue_87 rfl ?_
          refine jj_dup C dX2_takeDue_88 rfl ?_
          refine tt_getF C hok_165 jk_5 3 (by decide) jw_711 (t := (1, (-9223372036854775808), 9223372036854775807)) hk2 (by decide) rfl rfl hf_137 dX2_takeDue_89 ?_
          refine jj_lload C dX2_takeDue_92 rfl ?_
          obtain ⟨y_166, ey_166⟩ : ∃ z : Int64, y_138 - (0 : Int64) = z := ⟨_, rfl⟩
          refine jj_lsub (v := y_166) C dX2_takeDue_94 ey_166 ?_
          refine tt_put C hok_165 jk_5 3 (by decide) jw_711 (t := (1, (-9223372036854775808), 9223372036854775807)) hk2 (by decide) rfl rfl rfl (tt_ja y_166) rfl rfl dX2_takeDue_95 (fun pl_167 hok_168 tr hn => ?_)
          replace hf_2 := tr _ _ _ (Or.inl (tt_ne hk1 hk2 (by decide))) hf_2
          replace hf_133 := tr _ _ _ (Or.inr (by decide)) hf_133
          replace hf_140 := tr _ _ _ (Or.inl (tt_ne hk0 hk2 (by decide))) hf_140
          replace hf_158 := tr _ _ _ (Or.inl (tt_ne hk1 hk2 (by decide))) hf_158
          replace hf_160 := tr _ _ _ (Or.inl (tt_ne hk0 hk2 (by decide))) hf_160
          have hf_169 := hn
          replace hfr := hfr.put hk2 tr (by decide)
          refine jj_aload_n C dX2_takeDue_98 rfl ?_
          refine jj_dup C dX2_takeDue_99 rfl ?_
          refine tt_get C hok_168 jk_9 3 (by decide) jw_712 (t := (1, (-9223372036854775808), 9223372036854775807)) hk1 (by decide) rfl rfl dX2_takeDue_100 (fun v_170 hv_170 hf_171 => ?_)
          obtain ⟨y_172, rfl, -, -⟩ := tt_vj hv_170
          refine jj_lload C dX2_takeDue_103 rfl ?_
          obtain ⟨y_173, ey_173⟩ : ∃ z : Int64, y_172 - (0 : Int64) = z := ⟨_, rfl⟩
          refine jj_lsub (v := y_173) C dX2_takeDue_105 ey_173 ?_
          refine tt_put C hok_168 jk_9 3 (by decide) jw_712 (t := (1, (-9223372036854775808), 9223372036854775807)) hk1 (by decide) rfl rfl rfl (tt_ja y_173) rfl rfl dX2_takeDue_106 (fun pl_174 hok_175 tr hn => ?_)
          replace hf_2 := tr _ _ _ (Or.inr (by decide)) hf_2
          replace hf_133 := tr _ _ _ (Or.inl (tt_ne hk2 hk1 (by decide))) hf_133
          replace hf_140 := tr _ _ _ (Or.inl (tt_ne hk0 hk1 (by decide))) hf_140
          replace hf_158 := tr _ _ _ (Or.inr (by decide)) hf_158
          replace hf_160 := tr _ _ _ (Or.inl (tt_ne hk0 hk1 (by decide))) hf_160
          replace hf_169 := tr _ _ _ (Or.inl (tt_ne hk2 hk1 (by decide))) hf_169
          have hf_176 := hn
          replace hfr := hfr.put hk1 tr (by decide)
          exact jj_vret C ⟨[], pl_174, rfl, rfl, hok_175, hfr, rfl⟩ dX2_takeDue_109 (jj_le rfl) (jj_le rfl)
        · refine jj_lstore C dX2_takeDue_63 (by decide) rfl ?_
          refine jj_aload_n C dX2_takeDue_65 rfl ?_
          refine jj_dup C dX2_takeDue_66 rfl ?_
          refine tt_get C hok_143 jk_9 2 (by decide) jw_321 (t := (1, (-9223372036854775808), 9223372036854775807)) hk1 (by decide) rfl rfl dX2_takeDue_67 (fun v_177 hv_177 hf_178 => ?_)
          obtain ⟨y_179, rfl, -, -⟩ := tt_vj hv_177
          refine jj_lload C dX2_takeDue_70 rfl ?_
          obtain ⟨y_180, ey_180⟩ : ∃ z : Int64, y_179 - (0 : Int64) = z := ⟨_, rfl⟩
          refine jj_lsub (v := y_180) C dX2_takeDue_72 ey_180 ?_
          refine tt_put C hok_143 jk_9 2 (by decide) jw_321 (t := (1, (-9223372036854775808), 9223372036854775807)) hk1 (by decide) rfl rfl rfl (tt_ja y_180) rfl rfl dX2_takeDue_73 (fun pl_181 hok_182 tr hn => ?_)
          replace hf_2 := tr _ _ _ (Or.inr (by decide)) hf_2
          replace hf_133 := tr _ _ _ (Or.inl (tt_ne hk2 hk1 (by decide))) hf_133
          replace hf_137 := tr _ _ _ (Or.inl (tt_ne hk2 hk1 (by decide))) hf_137
          replace hf_140 := tr _ _ _ (Or.inl (tt_ne hk0 hk1 (by decide))) hf_140
          have hf_183 := hn
          replace hfr := hfr.put hk1 tr (by decide)
          refine jj_aload_n C dX2_takeDue_76 rfl ?_
          refine tt_get C hok_182 jk_2 10 (by decide) jw_319 (t := (2, 5, 0)) hk0 (by decide) rfl rfl dX2_takeDue_77 (fun v_184 hv_184 hf_185 => ?_)
          obtain ⟨a_186, rfl, ka_186⟩ := tt_vr hv_184
          refine jj_iconst (v := 0) C dX2_takeDue_80 (by decide) ?_
          refine jj_dup2 C dX2_takeDue_81 rfl rfl ?_
          refine tt_lald C hok_182 (t := (1, (-9223372036854775808), 9223372036854775807)) ka_186 (by decide) rfl (vp_in_iff.mpr (by decide)) dX2_takeDue_82 (fun v_187 hv_187 => ?_)
          refine jj_lload C dX2_takeDue_83 rfl ?_
          obtain ⟨y_188, ey_188⟩ : ∃ z : Int64, v_187 + (0 : Int64) = z := ⟨_, rfl⟩
          refine jj_ladd (v := y_188) C dX2_takeDue_85 ey_188 ?_
          refine tt_last C hok_182 (t := (1, (-9223372036854775808), 9223372036854775807)) ka_186 (by decide) rfl (vp_in_iff.mpr (by decide)) (tt_ja _) dX2_takeDue_86 (fun pl_189 hok_190 tr => ?_)
          replace hf_2 := tr _ _ _ hf_2
          replace hf_133 := tr _ _ _ hf_133
          replace hf_137 := tr _ _ _ hf_137
          replace hf_140 := tr _ _ _ hf_140
          replace hf_183 := tr _ _ _ hf_183
          replace hf_185 := tr _ _ _ hf_185
          replace hfr := hfr.arr tr
          refine jj_aload_n C dX2_takeDue_87 rfl ?_
          refine jj_dup C dX2_takeDue_88 rfl ?_
          refine tt_getF C hok_190 jk_5 3 (by decide) jw_711 (t := (1, (-9223372036854775808), 9223372036854775807)) hk2 (by decide) rfl rfl hf_137 dX2_takeDue_89 ?_
          refine jj_lload C dX2_takeDue_92 rfl ?_
          obtain ⟨y_191, ey_191⟩ : ∃ z : Int64, y_138 - y_138 = z := ⟨_, rfl⟩
          refine jj_lsub (v := y_191) C dX2_takeDue_94 ey_191 ?_
          refine tt_put C hok_190 jk_5 3 (by decide) jw_711 (t := (1, (-9223372036854775808), 9223372036854775807)) hk2 (by decide) rfl rfl rfl (tt_ja y_191) rfl rfl dX2_takeDue_95 (fun pl_192 hok_193 tr hn => ?_)
          replace hf_2 := tr _ _ _ (Or.inl (tt_ne hk1 hk2 (by decide))) hf_2
          replace hf_133 := tr _ _ _ (Or.inr (by decide)) hf_133
          replace hf_140 := tr _ _ _ (Or.inl (tt_ne hk0 hk2 (by decide))) hf_140
          replace hf_183 := tr _ _ _ (Or.inl (tt_ne hk1 hk2 (by decide))) hf_183
          replace hf_185 := tr _ _ _ (Or.inl (tt_ne hk0 hk2 (by decide))) hf_185
          have hf_194 := hn
          replace hfr := hfr.put hk2 tr (by decide)
          refine jj_aload_n C dX2_takeDue_98 rfl ?_
          refine jj_dup C dX2_takeDue_99 rfl ?_
          refine tt_get C hok_193 jk_9 3 (by decide) jw_712 (t := (1, (-9223372036854775808), 9223372036854775807)) hk1 (by decide) rfl rfl dX2_takeDue_100 (fun v_195 hv_195 hf_196 => ?_)
          obtain ⟨y_197, rfl, -, -⟩ := tt_vj hv_195
          refine jj_lload C dX2_takeDue_103 rfl ?_
          obtain ⟨y_198, ey_198⟩ : ∃ z : Int64, y_197 - y_138 = z := ⟨_, rfl⟩
          refine jj_lsub (v := y_198) C dX2_takeDue_105 ey_198 ?_
          refine tt_put C hok_193 jk_9 3 (by decide) jw_712 (t := (1, (-9223372036854775808), 9223372036854775807)) hk1 (by decide) rfl rfl rfl (tt_ja y_198) rfl rfl dX2_takeDue_106 (fun pl_199 hok_200 tr hn => ?_)
          replace hf_2 := tr _ _ _ (Or.inr (by decide)) hf_2
          replace hf_133 := tr _ _ _ (Or.inl (tt_ne hk2 hk1 (by decide))) hf_133
          replace hf_140 := tr _ _ _ (Or.inl (tt_ne hk0 hk1 (by decide))) hf_140
          replace hf_183 := tr _ _ _ (Or.inr (by decide)) hf_183
          replace hf_185 := tr _ _ _ (Or.inl (tt_ne hk0 hk1 (by decide))) hf_185
          replace hf_194 := tr _ _ _ (Or.inl (tt_ne hk2 hk1 (by decide))) hf_194
          have hf_201 := hn
          replace hfr := hfr.put hk1 tr (by decide)
          exact jj_vret C ⟨[], pl_199, rfl, rfl, hok_200, hfr, rfl⟩ dX2_takeDue_109 (jj_le rfl) (jj_le rfl)
      · refine jj_lstore C dX2_takeDue_45 (by decide) rfl ?_
        refine jj_aload_n C dX2_takeDue_47 rfl ?_
        refine tt_getF C hok_143 jk_5 3 (by decide) jw_711 (t := (1, (-9223372036854775808), 9223372036854775807)) hk2 (by decide) rfl rfl hf_137 dX2_takeDue_48 ?_
        refine jj_lload C dX2_takeDue_51 rfl ?_
        refine jj_ldc2 (v := 100000) C dX2_takeDue_53 jw_177 ?_
        obtain ⟨y_202, ey_202⟩ : ∃ z : Int64, y_148 * (100000 : Int64) = z := ⟨_, rfl⟩
        refine jj_lmul (v := y_202) C dX2_takeDue_56 ey_202 ?_
        refine jj_lload C dX2_takeDue_57 rfl ?_
        obtain ⟨y_203, ey_203⟩ : ∃ z : Int64, y_202 / (1000000 : Int64) = z := ⟨_, rfl⟩
        refine jj_ldiv (v := y_203) C dX2_takeDue_59 (by decide) ey_203 ?_
        refine tt_call0S (rest := []) C (ct_J9_min_f86c9_1 hl D cA ak y_138 y_203) jw_710 jw_145 jw_144 jw_143 jn_J9_min_f86c9 rfl (jj_le rfl) (jj_le rfl) (jj_le rfl) (jj_le rfl) (jj_le rfl) dX2_takeDue_60 rfl (fun w1 r O_204 => ?_)
        rcases O_204 with ⟨c_205, -, rfl⟩ | ⟨c_206, -, rfl⟩
        · refine jj_lstore C dX2_takeDue_63 (by decide) rfl ?_
          refine jj_aload_n C dX2_takeDue_65 rfl ?_
          refine jj_dup C dX2_takeDue_66 rfl ?_
          refine tt_get C hok_143 jk_9 2 (by decide) jw_321 (t := (1, (-9223372036854775808), 9223372036854775807)) hk1 (by decide) rfl rfl dX2_takeDue_67 (fun v_207 hv_207 hf_208 => ?_)
          obtain ⟨y_209, rfl, -, -⟩ := tt_vj hv_207
          refine jj_lload C dX2_takeDue_70 rfl ?_
          obtain ⟨y_210, ey_210⟩ : ∃ z : Int64, y_209 - y_148 = z := ⟨_, rfl⟩
          refine jj_lsub (v := y_210) C dX2_takeDue_72 ey_210 ?_
          refine tt_put C hok_143 jk_9 2 (by decide) jw_321 (t := (1, (-9223372036854775808), 9223372036854775807)) hk1 (by decide) rfl rfl rfl (tt_ja y_210) rfl rfl dX2_takeDue_73 (fun pl_211 hok_212 tr hn => ?_)
          replace hf_2 := tr _ _ _ (Or.inr (by decide)) hf_2
          replace hf_133 := tr _ _ _ (Or.inl (tt_ne hk2 hk1 (by decide))) hf_133
          replace hf_137 := tr _ _ _ (Or.inl (tt_ne hk2 hk1 (by decide))) hf_137
          replace hf_140 := tr _ _ _ (Or.inl (tt_ne hk0 hk1 (by decide))) hf_140
          have hf_213 := hn
          replace hfr := hfr.put hk1 tr (by decide)
          refine jj_aload_n C dX2_takeDue_76 rfl ?_
          refine tt_get C hok_212 jk_2 10 (by decide) jw_319 (t := (2, 5, 0)) hk0 (by decide) rfl rfl dX2_takeDue_77 (fun v_214 hv_214 hf_215 => ?_)
          obtain ⟨a_216, rfl, ka_216⟩ := tt_vr hv_214
          refine jj_iconst (v := 0) C dX2_takeDue_80 (by decide) ?_
          refine jj_dup2 C dX2_takeDue_81 rfl rfl ?_
          refine tt_lald C hok_212 (t := (1, (-9223372036854775808), 9223372036854775807)) ka_216 (by decide) rfl (vp_in_iff.mpr (by decide)) dX2_takeDue_82 (fun v_217 hv_217 => ?_)
          refine jj_lload C dX2_takeDue_83 rfl ?_
          obtain ⟨y_218, ey_218⟩ : ∃ z : Int64, v_217 + y_148 = z := ⟨_, rfl⟩
          refine jj_ladd (v := y_218) C dX2_takeDue_85 ey_218 ?_
          refine tt_last C hok_212 (t := (1, (-9223372036854775808), 9223372036854775807)) ka_216 (by decide) rfl (vp_in_iff.mpr (by decide)) (tt_ja _) dX2_takeDue_86 (fun pl_219 hok_220 tr => ?_)
          replace hf_2 := tr _ _ _ hf_2
          replace hf_133 := tr _ _ _ hf_133
          replace hf_137 := tr _ _ _ hf_137
          replace hf_140 := tr _ _ _ hf_140
          replace hf_213 := tr _ _ _ hf_213
          replace hf_215 := tr _ _ _ hf_215
          replace hfr := hfr.arr tr
          refine jj_aload_n C dX2_takeDue_87 rfl ?_
          refine jj_dup C dX2_takeDue_88 rfl ?_
          refine tt_getF C hok_220 jk_5 3 (by decide) jw_711 (t := (1, (-9223372036854775808), 9223372036854775807)) hk2 (by decide) rfl rfl hf_137 dX2_takeDue_89 ?_
          refine jj_lload C dX2_takeDue_92 rfl ?_
          obtain ⟨y_221, ey_221⟩ : ∃ z : Int64, y_138 - y_203 = z := ⟨_, rfl⟩
          refine jj_lsub (v := y_221) C dX2_takeDue_94 ey_221 ?_
          refine tt_put C hok_220 jk_5 3 (by decide) jw_711 (t := (1, (-9223372036854775808), 9223372036854775807)) hk2 (by decide) rfl rfl rfl (tt_ja y_221) rfl rfl dX2_takeDue_95 (fun pl_222 hok_223 tr hn => ?_)
          replace hf_2 := tr _ _ _ (Or.inl (tt_ne hk1 hk2 (by decide))) hf_2
          replace hf_133 := tr _ _ _ (Or.inr (by decide)) hf_133
          replace hf_140 := tr _ _ _ (Or.inl (tt_ne hk0 hk2 (by decide))) hf_140
          replace hf_213 := tr _ _ _ (Or.inl (tt_ne hk1 hk2 (by decide))) hf_213
          replace hf_215 := tr _ _ _ (Or.inl (tt_ne hk0 hk2 (by decide))) hf_215
          have hf_224 := hn
          replace hfr := hfr.put hk2 tr (by decide)
          refine jj_aload_n C dX2_takeDue_98 rfl ?_
          refine jj_dup C dX2_takeDue_99 rfl ?_
          refine tt_get C hok_223 jk_9 3 (by decide) jw_712 (t := (1, (-9223372036854775808), 9223372036854775807)) hk1 (by decide) rfl rfl dX2_takeDue_100 (fun v_225 hv_225 hf_226 => ?_)
          obtain ⟨y_227, rfl, -, -⟩ := tt_vj hv_225
          refine jj_lload C dX2_takeDue_103 rfl ?_
          obtain ⟨y_228, ey_228⟩ : ∃ z : Int64, y_227 - y_203 = z := ⟨_, rfl⟩
          refine jj_lsub (v := y_228) C dX2_takeDue_105 ey_228 ?_
          refine tt_put C hok_223 jk_9 3 (by decide) jw_712 (t := (1, (-9223372036854775808), 9223372036854775807)) hk1 (by decide) rfl rfl rfl (tt_ja y_228) rfl rfl dX2_takeDue_106 (fun pl_229 hok_230 tr hn => ?_)
          replace hf_2 := tr _ _ _ (Or.inr (by decide)) hf_2
          replace hf_133 := tr _ _ _ (Or.inl (tt_ne hk2 hk1 (by decide))) hf_133
          replace hf_140 := tr _ _ _ (Or.inl (tt_ne hk0 hk1 (by decide))) hf_140
          replace hf_213 := tr _ _ _ (Or.inr (by decide)) hf_213
          replace hf_215 := tr _ _ _ (Or.inl (tt_ne hk0 hk1 (by decide))) hf_215
          replace hf_224 := tr _ _ _ (Or.inl (tt_ne hk2 hk1 (by decide))) hf_224
          have hf_231 := hn
          replace hfr := hfr.put hk1 tr (by decide)
          exact jj_vret C ⟨[], pl_229, rfl, rfl, hok_230, hfr, rfl⟩ dX2_takeDue_109 (jj_le rfl) (jj_le rfl)
        · refine jj_lstore C dX2_takeDue_63 (by decide) rfl ?_
          refine jj_aload_n C dX2_takeDue_65 rfl ?_
          refine jj_dup C dX2_takeDue_66 rfl ?_
          refine tt_get C hok_143 jk_9 2 (by decide) jw_321 (t := (1, (-9223372036854775808), 9223372036854775807)) hk1 (by decide) rfl rfl dX2_takeDue_67 (fun v_232 hv_232 hf_233 => ?_)
          obtain ⟨y_234, rfl, -, -⟩ := tt_vj hv_232
          refine jj_lload C dX2_takeDue_70 rfl ?_
          obtain ⟨y_235, ey_235⟩ : ∃ z : Int64, y_234 - y_148 = z := ⟨_, rfl⟩
          refine jj_lsub (v := y_235) C dX2_takeDue_72 ey_235 ?_
          refine tt_put C hok_143 jk_9 2 (by decide) jw_321 (t := (1, (-9223372036854775808), 9223372036854775807)) hk1 (by decide) rfl rfl rfl (tt_ja y_235) rfl rfl dX2_takeDue_73 (fun pl_236 hok_237 tr hn => ?_)
          replace hf_2 := tr _ _ _ (Or.inr (by decide)) hf_2
          replace hf_133 := tr _ _ _ (Or.inl (tt_ne hk2 hk1 (by decide))) hf_133
          replace hf_137 := tr _ _ _ (Or.inl (tt_ne hk2 hk1 (by decide))) hf_137
          replace hf_140 := tr _ _ _ (Or.inl (tt_ne hk0 hk1 (by decide))) hf_140
          have hf_238 := hn
          replace hfr := hfr.put hk1 tr (by decide)
          refine jj_aload_n C dX2_takeDue_76 rfl ?_
          refine tt_get C hok_237 jk_2 10 (by decide) jw_319 (t := (2, 5, 0)) hk0 (by decide) rfl rfl dX2_takeDue_77 (fun v_239 hv_239 hf_240 => ?_)
          obtain ⟨a_241, rfl, ka_241⟩ := tt_vr hv_239
          refine jj_iconst (v := 0) C dX2_takeDue_80 (by decide) ?_
          refine jj_dup2 C dX2_takeDue_81 rfl rfl ?_
          refine tt_lald C hok_237 (t := (1, (-9223372036854775808), 9223372036854775807)) ka_241 (by decide) rfl (vp_in_iff.mpr (by decide)) dX2_takeDue_82 (fun v_242 hv_242 => ?_)
          refine jj_lload C dX2_takeDue_83 rfl ?_
          obtain ⟨y_243, ey_243⟩ : ∃ z : Int64, v_242 + y_148 = z := ⟨_, rfl⟩
          refine jj_ladd (v := y_243) C dX2_takeDue_85 ey_243 ?_
          refine tt_last C hok_237 (t := (1, (-9223372036854775808), 9223372036854775807)) ka_241 (by decide) rfl (vp_in_iff.mpr (by decide)) (tt_ja _) dX2_takeDue_86 (fun pl_244 hok_245 tr => ?_)
          replace hf_2 := tr _ _ _ hf_2
          replace hf_133 := tr _ _ _ hf_133
          replace hf_137 := tr _ _ _ hf_137
          replace hf_140 := tr _ _ _ hf_140
          replace hf_238 := tr _ _ _ hf_238
          replace hf_240 := tr _ _ _ hf_240
          replace hfr := hfr.arr tr
          refine jj_aload_n C dX2_takeDue_87 rfl ?_
          refine jj_dup C dX2_takeDue_88 rfl ?_
          refine tt_getF C hok_245 jk_5 3 (by decide) jw_711 (t := (1, (-9223372036854775808), 9223372036854775807)) hk2 (by decide) rfl rfl hf_137 dX2_takeDue_89 ?_
          refine jj_lload C dX2_takeDue_92 rfl ?_
          obtain ⟨y_246, ey_246⟩ : ∃ z : Int64, y_138 - y_138 = z := ⟨_, rfl⟩
          refine jj_lsub (v := y_246) C dX2_takeDue_94 ey_246 ?_
          refine tt_put C hok_245 jk_5 3 (by decide) jw_711 (t := (1, (-9223372036854775808), 9223372036854775807)) hk2 (by decide) rfl rfl rfl (tt_ja y_246) rfl rfl dX2_takeDue_95 (fun pl_247 hok_248 tr hn => ?_)
          replace hf_2 := tr _ _ _ (Or.inl (tt_ne hk1 hk2 (by decide))) hf_2
          replace hf_133 := tr _ _ _ (Or.inr (by decide)) hf_133
          replace hf_140 := tr _ _ _ (Or.inl (tt_ne hk0 hk2 (by decide))) hf_140
          replace hf_238 := tr _ _ _ (Or.inl (tt_ne hk1 hk2 (by decide))) hf_238
          replace hf_240 := tr _ _ _ (Or.inl (tt_ne hk0 hk2 (by decide))) hf_240
          have hf_249 := hn
          replace hfr := hfr.put hk2 tr (by decide)
          refine jj_aload_n C dX2_takeDue_98 rfl ?_
          refine jj_dup C dX2_takeDue_99 rfl ?_
          refine tt_get C hok_248 jk_9 3 (by decide) jw_712 (t := (1, (-9223372036854775808), 9223372036854775807)) hk1 (by decide) rfl rfl dX2_takeDue_100 (fun v_250 hv_250 hf_251 => ?_)
          obtain ⟨y_252, rfl, -, -⟩ := tt_vj hv_250
          refine jj_lload C dX2_takeDue_103 rfl ?_
          obtain ⟨y_253, ey_253⟩ : ∃ z : Int64, y_252 - y_138 = z := ⟨_, rfl⟩
          refine jj_lsub (v := y_253) C dX2_takeDue_105 ey_253 ?_
          refine tt_put C hok_248 jk_9 3 (by decide) jw_712 (t := (1, (-9223372036854775808), 9223372036854775807)) hk1 (by decide) rfl rfl rfl (tt_ja y_253) rfl rfl dX2_takeDue_106 (fun pl_254 hok_255 tr hn => ?_)
          replace hf_2 := tr _ _ _ (Or.inr (by decide)) hf_2
          replace hf_133 := tr _ _ _ (Or.inl (tt_ne hk2 hk1 (by decide))) hf_133
          replace hf_140 := tr _ _ _ (Or.inl (tt_ne hk0 hk1 (by decide))) hf_140
          replace hf_238 := tr _ _ _ (Or.inr (by decide)) hf_238
          replace hf_240 := tr _ _ _ (Or.inl (tt_ne hk0 hk1 (by decide))) hf_240
          replace hf_249 := tr _ _ _ (Or.inl (tt_ne hk2 hk1 (by decide))) hf_249
          have hf_256 := hn
          replace hfr := hfr.put hk1 tr (by decide)
          exact jj_vret C ⟨[], pl_254, rfl, rfl, hok_255, hfr, rfl⟩ dX2_takeDue_109 (jj_le rfl) (jj_le rfl)

set_option maxHeartbeats 4000000 in
set_option maxRecDepth 100000 in
theorem tc_X2_giveBack_2 {l : Launch} (hl : l.stackTraces = false) (D : va_G) (cA : Nat → ClassId) (ak : (Nat → Nat) × (Nat → Nat)) {Kd : Nat → Nat} (h0 : Nat) (h1 : Nat) (h2 : Nat) (p4 : Int64) (hk0 : Kd h0 = 1) (hk1 : Kd h1 = 2) (hk2 : Kd h2 = 3) {pl0 : va_W} (hok : tt_ok tt_tk cA Kd pl0) : jj_M l D cA ak yX2_giveBack (.code yX2_giveBack cX2_giveBack 13 none) 1 23 0 0 ([] ++ pl0) [.ref h0, .ref h1, .ref h2, .long 1000000, .long p4] (tt_O (fun rx pl1 r => rx = [] ∧ tt_ok tt_tk cA Kd pl1 ∧ tt_fr Kd [(2, 2), (2, 3), (3, 3)] pl0 pl1 ∧ ((r = none)))) (tt_OX (fun _ _ _ => False)) := by
  refine jj_start hl (by decide) jw_708 (jj_le rfl) ?_
  intro p e s m args below meth c A hargs hA C hex hmn
  have hfr := tt_fr.refl (K := Kd) (WS := [(2, 2), (2, 3), (3, 3)]) pl0
  refine jj_aload_n C dX2_giveBack_0 rfl ?_
  refine tt_get C hok jk_5 4 (by decide) jw_705 (t := (1, (-9223372036854775808), 9223372036854775807)) hk2 (by decide) rfl rfl dX2_giveBack_1 (fun v_1 hv_1 hf_2 => ?_)
  obtain ⟨y_3, rfl, -, -⟩ := tt_vj hv_1
  refine jj_aload_n C dX2_giveBack_4 rfl ?_
  refine tt_get C hok jk_9 4 (by decide) jw_709 (t := (1, (-9223372036854775808), 9223372036854775807)) hk1 (by decide) rfl rfl dX2_giveBack_5 (fun v_4 hv_4 hf_5 => ?_)
  obtain ⟨y_6, rfl, -, -⟩ := tt_vj hv_4
  obtain ⟨y_7, ey_7⟩ : ∃ z : Int64, y_3 - y_6 = z := ⟨_, rfl⟩
  refine jj_lsub (v := y_7) C dX2_giveBack_8 ey_7 ?_
  refine jj_lstore C dX2_giveBack_9 (by decide) rfl ?_
  refine jj_lload C dX2_giveBack_11 rfl ?_
  refine jj_lconst (v := 0) C dX2_giveBack_13 (by decide) ?_
  refine jj_lcmp_le (tgt := 34) C dX2_giveBack_14 dX2_giveBack_15 (by decide) (fun c_8 => ?_) (fun c_8 => ?_)
  · exact jj_vret C ⟨[], pl0, rfl, rfl, hok, hfr, rfl⟩ dX2_giveBack_34 (jj_le rfl) (jj_le rfl)
  · refine jj_lload_n C dX2_giveBack_18 rfl ?_
    refine jj_aload_n C dX2_giveBack_19 rfl ?_
    refine tt_getF C hok jk_9 4 (by decide) jw_709 (t := (1, (-9223372036854775808), 9223372036854775807)) hk1 (by decide) rfl rfl hf_5 dX2_giveBack_20 ?_
    refine jj_lcmp_le (tgt := 34) C dX2_giveBack_23 dX2_giveBack_24 (by decide) (fun c_9 => ?_) (fun c_9 => ?_)
    · exact jj_vret C ⟨[], pl0, rfl, rfl, hok, hfr, rfl⟩ dX2_giveBack_34 (jj_le rfl) (jj_le rfl)
    · refine jj_lload C dX2_giveBack_27 rfl ?_
      refine jj_lconst (v := 0) C dX2_giveBack_29 (by decide) ?_
      refine jj_lcmp_gt (tgt := 35) C dX2_giveBack_30 dX2_giveBack_31 (by decide) (fun c_10 => ?_) (fun c_10 => ?_)
      · refine jj_aload_n C dX2_giveBack_35 rfl ?_
        refine tt_get C hok jk_5 5 (by decide) jw_706 (t := (1, (-9223372036854775808), 9223372036854775807)) hk2 (by decide) rfl rfl dX2_giveBack_36 (fun v_11 hv_11 hf_12 => ?_)
        obtain ⟨y_13, rfl, -, -⟩ := tt_vj hv_11
        refine jj_lload_n C dX2_giveBack_39 rfl ?_
        refine jj_aload_n C dX2_giveBack_40 rfl ?_
        refine tt_getF C hok jk_9 4 (by decide) jw_709 (t := (1, (-9223372036854775808), 9223372036854775807)) hk1 (by decide) rfl rfl hf_5 dX2_giveBack_41 ?_
        obtain ⟨y_14, ey_14⟩ : ∃ z : Int64, (1000000 : Int64) - y_6 = z := ⟨_, rfl⟩
        refine jj_lsub (v := y_14) C dX2_giveBack_44 ey_14 ?_
        refine jj_lload C dX2_giveBack_45 rfl ?_
        refine tt_call0S (rest := [.long y_13]) C (ct_J9_min_f86c9_1 hl D cA ak y_14 y_7) jw_710 jw_145 jw_144 jw_143 jn_J9_min_f86c9 rfl (jj_le rfl) (jj_le rfl) (jj_le rfl) (jj_le rfl) (jj_le rfl) dX2_giveBack_47 rfl (fun w1 r O_15 => ?_)
        rcases O_15 with ⟨c_16, -, rfl⟩ | ⟨c_17, -, rfl⟩
        · obtain ⟨y_18, ey_18⟩ : ∃ z : Int64, y_13 * y_7 = z := ⟨_, rfl⟩
          refine jj_lmul (v := y_18) C dX2_giveBack_50 ey_18 ?_
          refine jj_lload C dX2_giveBack_51 rfl ?_
          obtain ⟨y_19, ey_19⟩ : ∃ z : Int64, y_18 / y_7 = z := ⟨_, rfl⟩
          refine jj_ldiv (v := y_19) C dX2_giveBack_53 (jt_nzpL (by first | exact Int64.not_le.mp c_8 | exact Int32.not_le.mp c_8)) ey_19 ?_
          refine jj_lstore C dX2_giveBack_54 (by decide) rfl ?_
          refine jj_lload C dX2_giveBack_56 rfl ?_
          refine jj_ldc2 (v := 100000) C dX2_giveBack_58 jw_177 ?_
          obtain ⟨y_20, ey_20⟩ : ∃ z : Int64, y_19 * (100000 : Int64) = z := ⟨_, rfl⟩
          refine jj_lmul (v := y_20) C dX2_giveBack_61 ey_20 ?_
          refine jj_lload C dX2_giveBack_62 rfl ?_
          obtain ⟨y_21, ey_21⟩ : ∃ z : Int64, y_20 / p4 = z := ⟨_, rfl⟩
          refine jj_ldiv (v := y_21) C dX2_giveBack_64 (jt_nzpL c_10) ey_21 ?_
          refine jj_lstore C dX2_giveBack_65 (by decide) rfl ?_
          refine jj_aload_n C dX2_giveBack_67 rfl ?_
          refine jj_dup C dX2_giveBack_68 rfl ?_
          refine tt_get C hok jk_9 2 (by decide) jw_321 (t := (1, (-9223372036854775808), 9223372036854775807)) hk1 (by decide) rfl rfl dX2_giveBack_69 (fun v_22 hv_22 hf_23 => ?_)
          obtain ⟨y_24, rfl, -, -⟩ := tt_vj hv_22
          refine jj_lload C dX2_giveBack_72 rfl ?_
          obtain ⟨y_25, ey_25⟩ : ∃ z : Int64, y_24 + y_19 = z := ⟨_, rfl⟩
          refine jj_ladd (v := y_25) C dX2_giveBack_74 ey_25 ?_
          refine tt_put C hok jk_9 2 (by decide) jw_321 (t := (1, (-9223372036854775808), 9223372036854775807)) hk1 (by decide) rfl rfl rfl (tt_ja y_25) rfl rfl dX2_giveBack_75 (fun pl_26 hok_27 tr hn => ?_)
          replace hf_2 := tr _ _ _ (Or.inl (tt_ne hk2 hk1 (by decide))) hf_2
          replace hf_5 := tr _ _ _ (Or.inr (by decide)) hf_5
          replace hf_12 := tr _ _ _ (Or.inl (tt_ne hk2 hk1 (by decide))) hf_12
          have hf_28 := hn
          replace hfr := hfr.put hk1 tr (by decide)
          refine jj_aload_n C dX2_giveBack_78 rfl ?_
          refine tt_get C hok_27 jk_2 10 (by decide) jw_319 (t := (2, 5, 0)) hk0 (by decide) rfl rfl dX2_giveBack_79 (fun v_29 hv_29 hf_30 => ?_)
          obtain ⟨a_31, rfl, ka_31⟩ := tt_vr hv_29
          refine jj_iconst (v := 0) C dX2_giveBack_82 (by decide) ?_
          refine jj_dup2 C dX2_giveBack_83 rfl rfl ?_
          refine tt_lald C hok_27 (t := (1, (-9223372036854775808), 9223372036854775807)) ka_31 (by decide) rfl (vp_in_iff.mpr (by decide)) dX2_giveBack_84 (fun v_32 hv_32 => ?_)
          refine jj_lload C dX2_giveBack_85 rfl ?_
          obtain ⟨y_33, ey_33⟩ : ∃ z : Int64, v_32 - y_19 = z := ⟨_, rfl⟩
          refine jj_lsub (v := y_33) C dX2_giveBack_87 ey_33 ?_
          refine tt_last C hok_27 (t := (1, (-9223372036854775808), 9223372036854775807)) ka_31 (by decide) rfl (vp_in_iff.mpr (by decide)) (tt_ja _) dX2_giveBack_88 (fun pl_34 hok_35 tr => ?_)
          replace hf_2 := tr _ _ _ hf_2
          replace hf_5 := tr _ _ _ hf_5
          replace hf_12 := tr _ _ _ hf_12
          replace hf_28 := tr _ _ _ hf_28
          replace hf_30 := tr _ _ _ hf_30
          replace hfr := hfr.arr tr
          refine jj_aload_n C dX2_giveBack_89 rfl ?_
          refine jj_dup C dX2_giveBack_90 rfl ?_
          refine tt_get C hok_35 jk_5 3 (by decide) jw_711 (t := (1, (-9223372036854775808), 9223372036854775807)) hk2 (by decide) rfl rfl dX2_giveBack_91 (fun v_36 hv_36 hf_37 => ?_)
          obtain ⟨y_38, rfl, -, -⟩ := tt_vj hv_36
          refine jj_lload C dX2_giveBack_94 rfl ?_
          obtain ⟨y_39, ey_39⟩ : ∃ z : Int64, y_38 + y_21 = z := ⟨_, rfl⟩
          refine jj_ladd (v := y_39) C dX2_giveBack_96 ey_39 ?_
          refine tt_put C hok_35 jk_5 3 (by decide) jw_711 (t := (1, (-9223372036854775808), 9223372036854775807)) hk2 (by decide) rfl rfl rfl (tt_ja y_39) rfl rfl dX2_giveBack_97 (fun pl_40 hok_41 tr hn => ?_)
          replace hf_2 := tr _ _ _ (Or.inr (by decide)) hf_2
          replace hf_5 := tr _ _ _ (Or.inl (tt_ne hk1 hk2 (by decide))) hf_5
          replace hf_12 := tr _ _ _ (Or.inr (by decide)) hf_12
          replace hf_28 := tr _ _ _ (Or.inl (tt_ne hk1 hk2 (by decide))) hf_28
          replace hf_30 := tr _ _ _ (Or.inl (tt_ne hk0 hk2 (by decide))) hf_30
          have hf_42 := hn
          replace hfr := hfr.put hk2 tr (by decide)
          refine jj_aload_n C dX2_giveBack_100 rfl ?_
          refine jj_dup C dX2_giveBack_101 rfl ?_
          refine tt_get C hok_41 jk_9 3 (by decide) jw_712 (t := (1, (-9223372036854775808), 9223372036854775807)) hk1 (by decide) rfl rfl dX2_giveBack_102 (fun v_43 hv_43 hf_44 => ?_)
          obtain ⟨y_45, rfl, -, -⟩ := tt_vj hv_43
          refine jj_lload C dX2_giveBack_105 rfl ?_
          obtain ⟨y_46, ey_46⟩ : ∃ z : Int64, y_45 + y_21 = z := ⟨_, rfl⟩
          refine jj_ladd (v := y_46) C dX2_giveBack_107 ey_46 ?_
          refine tt_put C hok_41 jk_9 3 (by decide) jw_712 (t := (1, (-9223372036854775808), 9223372036854775807)) hk1 (by decide) rfl rfl rfl (tt_ja y_46) rfl rfl dX2_giveBack_108 (fun pl_47 hok_48 tr hn => ?_)
          replace hf_2 := tr _ _ _ (Or.inl (tt_ne hk2 hk1 (by decide))) hf_2
          replace hf_5 := tr _ _ _ (Or.inr (by decide)) hf_5
          replace hf_12 := tr _ _ _ (Or.inl (tt_ne hk2 hk1 (by decide))) hf_12
          replace hf_28 := tr _ _ _ (Or.inr (by decide)) hf_28
          replace hf_30 := tr _ _ _ (Or.inl (tt_ne hk0 hk1 (by decide))) hf_30
          replace hf_42 := tr _ _ _ (Or.inl (tt_ne hk2 hk1 (by decide))) hf_42
          have hf_49 := hn
          replace hfr := hfr.put hk1 tr (by decide)
          exact jj_vret C ⟨[], pl_47, rfl, rfl, hok_48, hfr, rfl⟩ dX2_giveBack_111 (jj_le rfl) (jj_le rfl)
        · obtain ⟨y_50, ey_50⟩ : ∃ z : Int64, y_13 * y_14 = z := ⟨_, rfl⟩
          refine jj_lmul (v := y_50) C dX2_giveBack_50 ey_50 ?_
          refine jj_lload C dX2_giveBack_51 rfl ?_
          obtain ⟨y_51, ey_51⟩ : ∃ z : Int64, y_50 / y_7 = z := ⟨_, rfl⟩
          refine jj_ldiv (v := y_51) C dX2_giveBack_53 (jt_nzpL (by first | exact Int64.not_le.mp c_8 | exact Int32.not_le.mp c_8)) ey_51 ?_
          refine jj_lstore C dX2_giveBack_54 (by decide) rfl ?_
          refine jj_lload C dX2_giveBack_56 rfl ?_
          refine jj_ldc2 (v := 100000) C dX2_giveBack_58 jw_177 ?_
          obtain ⟨y_52, ey_52⟩ : ∃ z : Int64, y_51 * (100000 : Int64) = z := ⟨_, rfl⟩
          refine jj_lmul (v := y_52) C dX2_giveBack_61 ey_52 ?_
          refine jj_lload C dX2_giveBack_62 rfl ?_
          obtain ⟨y_53, ey_53⟩ : ∃ z : Int64, y_52 / p4 = z := ⟨_, rfl⟩
          refine jj_ldiv (v := y_53) C dX2_giveBack_64 (jt_nzpL c_10) ey_53 ?_
          refine jj_lstore C dX2_giveBack_65 (by decide) rfl ?_
          refine jj_aload_n C dX2_giveBack_67 rfl ?_
          refine jj_dup C dX2_giveBack_68 rfl ?_
          refine tt_get C hok jk_9 2 (by decide) jw_321 (t := (1, (-9223372036854775808), 9223372036854775807)) hk1 (by decide) rfl rfl dX2_giveBack_69 (fun v_54 hv_54 hf_55 => ?_)
          obtain ⟨y_56, rfl, -, -⟩ := tt_vj hv_54
          refine jj_lload C dX2_giveBack_72 rfl ?_
          obtain ⟨y_57, ey_57⟩ : ∃ z : Int64, y_56 + y_51 = z := ⟨_, rfl⟩
          refine jj_ladd (v := y_57) C dX2_giveBack_74 ey_57 ?_
          refine tt_put C hok jk_9 2 (by decide) jw_321 (t := (1, (-9223372036854775808), 9223372036854775807)) hk1 (by decide) rfl rfl rfl (tt_ja y_57) rfl rfl dX2_giveBack_75 (fun pl_58 hok_59 tr hn => ?_)
          replace hf_2 := tr _ _ _ (Or.inl (tt_ne hk2 hk1 (by decide))) hf_2
          replace hf_5 := tr _ _ _ (Or.inr (by decide)) hf_5
          replace hf_12 := tr _ _ _ (Or.inl (tt_ne hk2 hk1 (by decide))) hf_12
          have hf_60 := hn
          replace hfr := hfr.put hk1 tr (by decide)
          refine jj_aload_n C dX2_giveBack_78 rfl ?_
          refine tt_get C hok_59 jk_2 10 (by decide) jw_319 (t := (2, 5, 0)) hk0 (by decide) rfl rfl dX2_giveBack_79 (fun v_61 hv_61 hf_62 => ?_)
          obtain ⟨a_63, rfl, ka_63⟩ := tt_vr hv_61
          refine jj_iconst (v := 0) C dX2_giveBack_82 (by decide) ?_
          refine jj_dup2 C dX2_giveBack_83 rfl rfl ?_
          refine tt_lald C hok_59 (t := (1, (-9223372036854775808), 9223372036854775807)) ka_63 (by decide) rfl (vp_in_iff.mpr (by decide)) dX2_giveBack_84 (fun v_64 hv_64 => ?_)
          refine jj_lload C dX2_giveBack_85 rfl ?_
          obtain ⟨y_65, ey_65⟩ : ∃ z : Int64, v_64 - y_51 = z := ⟨_, rfl⟩
          refine jj_lsub (v := y_65) C dX2_giveBack_87 ey_65 ?_
          refine tt_last C hok_59 (t := (1, (-9223372036854775808), 9223372036854775807)) ka_63 (by decide) rfl (vp_in_iff.mpr (by decide)) (tt_ja _) dX2_giveBack_88 (fun pl_66 hok_67 tr => ?_)
          replace hf_2 := tr _ _ _ hf_2
          replace hf_5 := tr _ _ _ hf_5
          replace hf_12 := tr _ _ _ hf_12
          replace hf_60 := tr _ _ _ hf_60
          replace hf_62 := tr _ _ _ hf_62
          replace hfr := hfr.arr tr
          refine jj_aload_n C dX2_giveBack_89 rfl ?_
          refine jj_dup C dX2_giveBack_90 rfl ?_
          refine tt_get C hok_67 jk_5 3 (by decide) jw_711 (t := (1, (-9223372036854775808), 9223372036854775807)) hk2 (by decide) rfl rfl dX2_giveBack_91 (fun v_68 hv_68 hf_69 => ?_)
          obtain ⟨y_70, rfl, -, -⟩ := tt_vj hv_68
          refine jj_lload C dX2_giveBack_94 rfl ?_
          obtain ⟨y_71, ey_71⟩ : ∃ z : Int64, y_70 + y_53 = z := ⟨_, rfl⟩
          refine jj_ladd (v := y_71) C dX2_giveBack_96 ey_71 ?_
          refine tt_put C hok_67 jk_5 3 (by decide) jw_711 (t := (1, (-9223372036854775808), 9223372036854775807)) hk2 (by decide) rfl rfl rfl (tt_ja y_71) rfl rfl dX2_giveBack_97 (fun pl_72 hok_73 tr hn => ?_)
          replace hf_2 := tr _ _ _ (Or.inr (by decide)) hf_2
          replace hf_5 := tr _ _ _ (Or.inl (tt_ne hk1 hk2 (by decide))) hf_5
          replace hf_12 := tr _ _ _ (Or.inr (by decide)) hf_12
          replace hf_60 := tr _ _ _ (Or.inl (tt_ne hk1 hk2 (by decide))) hf_60
          replace hf_62 := tr _ _ _ (Or.inl (tt_ne hk0 hk2 (by decide))) hf_62
          have hf_74 := hn
          replace hfr := hfr.put hk2 tr (by decide)
          refine jj_aload_n C dX2_giveBack_100 rfl ?_
          refine jj_dup C dX2_giveBack_101 rfl ?_
          refine tt_get C hok_73 jk_9 3 (by decide) jw_712 (t := (1, (-9223372036854775808), 9223372036854775807)) hk1 (by decide) rfl rfl dX2_giveBack_102 (fun v_75 hv_75 hf_76 => ?_)
          obtain ⟨y_77, rfl, -, -⟩ := tt_vj hv_75
          refine jj_lload C dX2_giveBack_105 rfl ?_
          obtain ⟨y_78, ey_78⟩ : ∃ z : Int64, y_77 + y_53 = z := ⟨_, rfl⟩
          refine jj_ladd (v := y_78) C dX2_giveBack_107 ey_78 ?_
          refine tt_put C hok_73 jk_9 3 (by decide) jw_712 (t := (1, (-9223372036854775808), 9223372036854775807)) hk1 (by decide) rfl rfl rfl (tt_ja y_78) rfl rfl dX2_giveBack_108 (fun pl_79 hok_80 tr hn => ?_)
          replace hf_2 := tr _ _ _ (Or.inl (tt_ne hk2 hk1 (by decide))) hf_2
          replace hf_5 := tr _ _ _ (Or.inr (by decide)) hf_5
          replace hf_12 := tr _ _ _ (Or.inl (tt_ne hk2 hk1 (by decide))) hf_12
          replace hf_60 := tr _ _ _ (Or.inr (by decide)) hf_60
          replace hf_62 := tr _ _ _ (Or.inl (tt_ne hk0 hk1 (by decide))) hf_62
          replace hf_74 := tr _ _ _ (Or.inl (tt_ne hk2 hk1 (by decide))) hf_74
          have hf_81 := hn
          replace hfr := hfr.put hk1 tr (by decide)
          exact jj_vret C ⟨[], pl_79, rfl, rfl, hok_80, hfr, rfl⟩ dX2_giveBack_111 (jj_le rfl) (jj_le rfl)
      · exact jj_vret C ⟨[], pl0, rfl, rfl, hok, hfr, rfl⟩ dX2_giveBack_34 (jj_le rfl) (jj_le rfl)

