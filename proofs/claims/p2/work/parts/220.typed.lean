set_option maxHeartbeats 4000000 in
set_option maxRecDepth 100000 in
theorem tc_X2_giveBack_4 {l : Launch} (hl : l.stackTraces = false) (D : va_G) (cA : Nat → ClassId) (ak : (Nat → Nat) × (Nat → Nat)) {Kd : Nat → Nat} (h0 : Nat) (h1 : Nat) (h2 : Nat) (p3 : Int64) (p4 : Int64) (hk0 : Kd h0 = 1) (hk1 : Kd h1 = 2) (hk2 : Kd h2 = 3) {pl0 : va_W} (hok : tt_ok tt_tk cA Kd pl0) : jj_M l D cA ak yX2_giveBack (.code yX2_giveBack cX2_giveBack 13 none) 1 23 0 0 ([] ++ pl0) [.ref h0, .ref h1, .ref h2, .long p3, .long p4] (tt_O (fun rx pl1 r => rx = [] ∧ tt_ok tt_tk cA Kd pl1 ∧ tt_fr Kd [(2, 2), (2, 3), (3, 3)] pl0 pl1 ∧ ((r = none)))) (tt_OX (fun _ _ _ => False)) := by
  refine jj_start hl (by decide) jw_708 (jj_le rfl) ?_
  intro p e s m args below meth c A hargs hA C hex hmn
  have hfr := tt_fr.refl (K := Kd) (WS := [(2, 2), (2, 3), (3, 3)]) pl0
  refine jj_aload_n C dX2_giveBack_0 rfl ?_
  refine tt_get C hok jk_5 4 (by decide) jw_705 (t := (1, (-9223372036854775808), 9223372036854775807)) hk2 (by decide) rfl rfl dX2_giveBack_1 (fun v_1 hv_1 hf_2 => ?_)
  obtain ⟨y_3, rfl, -, -⟩ := tt_vj hv_1
  refine jj_aload_n C dX2_giveBack_4 rfl ?_
  refine tt_get C hok jk_9 4 (by decide) jw_709 (t := (1, (-9223372036854775808), 9223372036854775807)) hk1 (by decide) rfl rfl dX2_giveBack_5 (fun v_4 hv_4 hf_5 => ?_)
  obtain ⟨y_6, rfl, -, -⟩ := tt_vj hv_4
  obtain ⟨y_7, ey_7⟩ : ∃ z : Int64, y_3 - y_6 = z := ⟨_, rfl⟩
  refine jj_lsub (v := y_7) C dX2_giveBack_8 ey_7 ?_
  refine jj_lstore C dX2_giveBack_9 (by decide) rfl ?_
  refine jj_lload C dX2_giveBack_11 rfl ?_
  refine jj_lconst (v := 0) C dX2_giveBack_13 (by decide) ?_
  refine jj_lcmp_le (tgt := 34) C dX2_giveBack_14 dX2_giveBack_15 (by decide) (fun c_8 => ?_) (fun c_8 => ?_)
  · exact jj_vret C ⟨[], pl0, rfl, rfl, hok, hfr, rfl⟩ dX2_giveBack_34 (jj_le rfl) (jj_le rfl)
  · refine jj_lload_n C dX2_giveBack_18 rfl ?_
    refine jj_aload_n C dX2_giveBack_19 rfl ?_
    refine tt_getF C hok jk_9 4 (by decide) jw_709 (t := (1, (-9223372036854775808), 9223372036854775807)) hk1 (by decide) rfl rfl hf_5 dX2_giveBack_20 ?_
    refine jj_lcmp_le (tgt := 34) C dX2_giveBack_23 dX2_giveBack_24 (by decide) (fun c_9 => ?_) (fun c_9 => ?_)
    · exact jj_vret C ⟨[], pl0, rfl, rfl, hok, hfr, rfl⟩ dX2_giveBack_34 (jj_le rfl) (jj_le rfl)
    · refine jj_lload C dX2_giveBack_27 rfl ?_
      refine jj_lconst (v := 0) C dX2_giveBack_29 (by decide) ?_
      refine jj_lcmp_gt (tgt := 35) C dX2_giveBack_30 dX2_giveBack_31 (by decide) (fun c_10 => ?_) (fun c_10 => ?_)
      · refine jj_aload_n C dX2_giveBack_35 rfl ?_
        refine tt_get C hok jk_5 5 (by decide) jw_706 (t := (1, (-9223372036854775808), 9223372036854775807)) hk2 (by decide) rfl rfl dX2_giveBack_36 (fun v_11 hv_11 hf_12 => ?_)
        obtain ⟨y_13, rfl, -, -⟩ := tt_vj hv_11
        refine jj_lload_n C dX2_giveBack_39 rfl ?_
        refine jj_aload_n C dX2_giveBack_40 rfl ?_
        refine tt_getF C hok jk_9 4 (by decide) jw_709 (t := (1, (-9223372036854775808), 9223372036854775807)) hk1 (by decide) rfl rfl hf_5 dX2_giveBack_41 ?_
        obtain ⟨y_14, ey_14⟩ : ∃ z : Int64, p3 - y_6 = z := ⟨_, rfl⟩
        refine jj_lsub (v := y_14) C dX2_giveBack_44 ey_14 ?_
        refine jj_lload C dX2_giveBack_45 rfl ?_
        refine tt_call0S (rest := [.long y_13]) C (ct_J9_min_f86c9_1 hl D cA ak y_14 y_7) jw_710 jw_145 jw_144 jw_143 jn_J9_min_f86c9 rfl (jj_le rfl) (jj_le rfl) (jj_le rfl) (jj_le rfl) (jj_le rfl) dX2_giveBack_47 rfl (fun w1 r O_15 => ?_)
        rcases O_15 with ⟨c_16, -, rfl⟩ | ⟨c_17, -, rfl⟩
        · obtain ⟨y_18, ey_18⟩ : ∃ z : Int64, y_13 * y_7 = z := ⟨_, rfl⟩
          refine jj_lmul (v := y_18) C dX2_giveBack_50 ey_18 ?_
          refine jj_lload C dX2_giveBack_51 rfl ?_
          obtain ⟨y_19, ey_19⟩ : ∃ z : Int64, y_18 / y_7 = z := ⟨_, rfl⟩
          refine jj_ldiv (v := y_19) C dX2_giveBack_53 (jt_nzpL (by first | exact Int64.not_le.mp c_8 | exact Int32.not_le.mp c_8)) ey_19 ?_
          refine jj_lstore C dX2_giveBack_54 (by decide) rfl ?_
          refine jj_lload C dX2_giveBack_56 rfl ?_
          refine jj_ldc2 (v := 100000) C dX2_giveBack_58 jw_177 ?_
          obtain ⟨y_20, ey_20⟩ : ∃ z : Int64, y_19 * (100000 : Int64) = z := ⟨_, rfl⟩
          refine jj_lmul (v := y_20) C dX2_giveBack_61 ey_20 ?_
          refine jj_lload C dX2_giveBack_62 rfl ?_
          obtain ⟨y_21, ey_21⟩ : ∃ z : Int64, y_20 / p4 = z := ⟨_, rfl⟩
          refine jj_ldiv (v := y_21) C dX2_giveBack_64 (jt_nzpL c_10) ey_21 ?_
          refine jj_lstore C dX2_giveBack_65 (by decide) rfl ?_
          refine jj_aload_n C dX2_giveBack_67 rfl ?_
          refine jj_dup C dX2_giveBack_68 rfl ?_
          refine tt_get C hok jk_9 2 (by decide) jw_321 (t := (1, (-9223372036854775808), 9223372036854775807)) hk1 (by decide) rfl rfl dX2_giveBack_69 (fun v_22 hv_22 hf_23 => ?_)
          obtain ⟨y_24, rfl, -, -⟩ := tt_vj hv_22
          refine jj_lload C dX2_giveBack_72 rfl ?_
          obtain ⟨y_25, ey_25⟩ : ∃ z : Int64, y_24 + y_19 = z := ⟨_, rfl⟩
          refine jj_ladd (v := y_25) C dX2_giveBack_74 ey_25 ?_
          refine tt_put C hok jk_9 2 (by decide) jw_321 (t := (1, (-9223372036854775808), 9223372036854775807)) hk1 (by decide) rfl rfl rfl (tt_ja y_25) rfl rfl dX2_giveBack_75 (fun pl_26 hok_27 tr hn => ?_)
          replace hf_2 := tr _ _ _ (Or.inl (tt_ne hk2 hk1 (by decide))) hf_2
          replace hf_5 := tr _ _ _ (Or.inr (by decide)) hf_5
          replace hf_12 := tr _ _ _ (Or.inl (tt_ne hk2 hk1 (by decide))) hf_12
          have hf_28 := hn
          replace hfr := hfr.put hk1 tr (by decide)
          refine jj_aload_n C dX2_giveBack_78 rfl ?_
          refine tt_get C hok_27 jk_2 10 (by decide) jw_319 (t := (2, 5, 0)) hk0 (by decide) rfl rfl dX2_giveBack_79 (fun v_29 hv_29 hf_30 => ?_)
          obtain ⟨a_31, rfl, ka_31⟩ := tt_vr hv_29
          refine jj_iconst (v := 0) C dX2_giveBack_82 (by decide) ?_
          refine jj_dup2 C dX2_giveBack_83 rfl rfl ?_
          refine tt_lald C hok_27 (t := (1, (-9223372036854775808), 9223372036854775807)) ka_31 (by decide) rfl (vp_in_iff.mpr (by decide)) dX2_giveBack_84 (fun v_32 hv_32 => ?_)
          refine jj_lload C dX2_giveBack_85 rfl ?_
          obtain ⟨y_33, ey_33⟩ : ∃ z : Int64, v_32 - y_19 = z := ⟨_, rfl⟩
          refine jj_lsub (v := y_33) C dX2_giveBack_87 ey_33 ?_
          refine tt_last C hok_27 (t := (1, (-9223372036854775808), 9223372036854775807)) ka_31 (by decide) rfl (vp_in_iff.mpr (by decide)) (tt_ja _) dX2_giveBack_88 (fun pl_34 hok_35 tr => ?_)
          replace hf_2 := tr _ _ _ hf_2
          replace hf_5 := tr _ _ _ hf_5
          replace hf_12 := tr _ _ _ hf_12
          replace hf_28 := tr _ _ _ hf_28
          replace hf_30 := tr _ _ _ hf_30
          replace hfr := hfr.arr tr
          refine jj_aload_n C dX2_giveBack_89 rfl ?_
          refine jj_dup C dX2_giveBack_90 rfl ?_
          refine tt_get C hok_35 jk_5 3 (by decide) jw_711 (t := (1, (-9223372036854775808), 9223372036854775807)) hk2 (by decide) rfl rfl dX2_giveBack_91 (fun v_36 hv_36 hf_37 => ?_)
          obtain ⟨y_38, rfl, -, -⟩ := tt_vj hv_36
          refine jj_lload C dX2_giveBack_94 rfl ?_
          obtain ⟨y_39, ey_39⟩ : ∃ z : Int64, y_38 + y_21 = z := ⟨_, rfl⟩
          refine jj_ladd (v := y_39) C dX2_giveBack_96 ey_39 ?_
          refine tt_put C hok_35 jk_5 3 (by decide) jw_711 (t := (1, (-9223372036854775808), 9223372036854775807)) hk2 (by decide) rfl rfl rfl (tt_ja y_39) rfl rfl dX2_giveBack_97 (fun pl_40 hok_41 tr hn => ?_)
          replace hf_2 := tr _ _ _ (Or.inr (by decide)) hf_2
          replace hf_5 := tr _ _ _ (Or.inl (tt_ne hk1 hk2 (by decide))) hf_5
          replace hf_12 := tr _ _ _ (Or.inr (by decide)) hf_12
          replace hf_28 := tr _ _ _ (Or.inl (tt_ne hk1 hk2 (by decide))) hf_28
          replace hf_30 := tr _ _ _ (Or.inl (tt_ne hk0 hk2 (by decide))) hf_30
          have hf_42 := hn
          replace hfr := hfr.put hk2 tr (by decide)
          refine jj_aload_n C dX2_giveBack_100 rfl ?_
          refine jj_dup C dX2_giveBack_101 rfl ?_
          refine tt_get C hok_41 jk_9 3 (by decide) jw_712 (t := (1, (-9223372036854775808), 9223372036854775807)) hk1 (by decide) rfl rfl dX2_giveBack_102 (fun v_43 hv_43 hf_44 => ?_)
          obtain ⟨y_45, rfl, -, -⟩ := tt_vj hv_43
          refine jj_lload C dX2_giveBack_105 rfl ?_
          obtain ⟨y_46, ey_46⟩ : ∃ z : Int64, y_45 + y_21 = z := ⟨_, rfl⟩
          refine jj_ladd (v := y_46) C dX2_giveBack_107 ey_46 ?_
          refine tt_put C hok_41 jk_9 3 (by decide) jw_712 (t := (1, (-9223372036854775808), 9223372036854775807)) hk1 (by decide) rfl rfl rfl (tt_ja y_46) rfl rfl dX2_giveBack_108 (fun pl_47 hok_48 tr hn => ?_)
          replace hf_2 := tr _ _ _ (Or.inl (tt_ne hk2 hk1 (by decide))) hf_2
          replace hf_5 := tr _ _ _ (Or.inr (by decide)) hf_5
          replace hf_12 := tr _ _ _ (Or.inl (tt_ne hk2 hk1 (by decide))) hf_12
          replace hf_28 := tr _ _ _ (Or.inr (by decide)) hf_28
          replace hf_30 := tr _ _ _ (Or.inl (tt_ne hk0 hk1 (by decide))) hf_30
          replace hf_42 := tr _ _ _ (Or.inl (tt_ne hk2 hk1 (by decide))) hf_42
          have hf_49 := hn
          replace hfr := hfr.put hk1 tr (by decide)
          exact jj_vret C ⟨[], pl_47, rfl, rfl, hok_48, hfr, rfl⟩ dX2_giveBack_111 (jj_le rfl) (jj_le rfl)
        · obtain ⟨y_50, ey_50⟩ : ∃ z : Int64, y_13 * y_14 = z := ⟨_, rfl⟩
          refine jj_lmul (v := y_50) C dX2_giveBack_50 ey_50 ?_
          refine jj_lload C dX2_giveBack_51 rfl ?_
          obtain ⟨y_51, ey_51⟩ : ∃ z : Int64, y_50 / y_7 = z := ⟨_, rfl⟩
          refine jj_ldiv (v := y_51) C dX2_giveBack_53 (jt_nzpL (by first | exact Int64.not_le.mp c_8 | exact Int32.not_le.mp c_8)) ey_51 ?_
          refine jj_lstore C dX2_giveBack_54 (by decide) rfl ?_
          refine jj_lload C dX2_giveBack_56 rfl ?_
          refine jj_ldc2 (v := 100000) C dX2_giveBack_58 jw_177 ?_
          obtain ⟨y_52, ey_52⟩ : ∃ z : Int64, y_51 * (100000 : Int64) = z := ⟨_, rfl⟩
          refine jj_lmul (v := y_52) C dX2_giveBack_61 ey_52 ?_
          refine jj_lload C dX2_giveBack_62 rfl ?_
          obtain ⟨y_53, ey_53⟩ : ∃ z : Int64, y_52 / p4 = z := ⟨_, rfl⟩
          refine jj_ldiv (v := y_53) C dX2_giveBack_64 (jt_nzpL c_10) ey_53 ?_
          refine jj_lstore C dX2_giveBack_65 (by decide) rfl ?_
          refine jj_aload_n C dX2_giveBack_67 rfl ?_
          refine jj_dup C dX2_giveBack_68 rfl ?_
          refine tt_get C hok jk_9 2 (by decide) jw_321 (t := (1, (-9223372036854775808), 9223372036854775807)) hk1 (by decide) rfl rfl dX2_giveBack_69 (fun v_54 hv_54 hf_55 => ?_)
          obtain ⟨y_56, rfl, -, -⟩ := tt_vj hv_54
          refine jj_lload C dX2_giveBack_72 rfl ?_
          obtain ⟨y_57, ey_57⟩ : ∃ z : Int64, y_56 + y_51 = z := ⟨_, rfl⟩
          refine jj_ladd (v := y_57) C dX2_giveBack_74 ey_57 ?_
          refine tt_put C hok jk_9 2 (by decide) jw_321 (t := (1, (-9223372036854775808), 9223372036854775807)) hk1 (by decide) rfl rfl rfl (tt_ja y_57) rfl rfl dX2_giveBack_75 (fun pl_58 hok_59 tr hn => ?_)
          replace hf_2 := tr _ _ _ (Or.inl (tt_ne hk2 hk1 (by decide))) hf_2
          replace hf_5 := tr _ _ _ (Or.inr (by decide)) hf_5
          replace hf_12 := tr _ _ _ (Or.inl (tt_ne hk2 hk1 (by decide))) hf_12
          have hf_60 := hn
          replace hfr := hfr.put hk1 tr (by decide)
          refine jj_aload_n C dX2_giveBack_78 rfl ?_
          refine tt_get C hok_59 jk_2 10 (by decide) jw_319 (t := (2, 5, 0)) hk0 (by decide) rfl rfl dX2_giveBack_79 (fun v_61 hv_61 hf_62 => ?_)
          obtain ⟨a_63, rfl, ka_63⟩ := tt_vr hv_61
          refine jj_iconst (v := 0) C dX2_giveBack_82 (by decide) ?_
          refine jj_dup2 C dX2_giveBack_83 rfl rfl ?_
          refine tt_lald C hok_59 (t := (1, (-9223372036854775808), 9223372036854775807)) ka_63 (by decide) rfl (vp_in_iff.mpr (by decide)) dX2_giveBack_84 (fun v_64 hv_64 => ?_)
          refine jj_lload C dX2_giveBack_85 rfl ?_
          obtain ⟨y_65, ey_65⟩ : ∃ z : Int64, v_64 - y_51 = z := ⟨_, rfl⟩
          refine jj_lsub (v := y_65) C dX2_giveBack_87 ey_65 ?_
          refine tt_last C hok_59 (t := (1, (-9223372036854775808), 9223372036854775807)) ka_63 (by decide) rfl (vp_in_iff.mpr (by decide)) (tt_ja _) dX2_giveBack_88 (fun pl_66 hok_67 tr => ?_)
          replace hf_2 := tr _ _ _ hf_2
          replace hf_5 := tr _ _ _ hf_5
          replace hf_12 := tr _ _ _ hf_12
          replace hf_60 := tr _ _ _ hf_60
          replace hf_62 := tr _ _ _ hf_62
          replace hfr := hfr.arr tr
          refine jj_aload_n C dX2_giveBack_89 rfl ?_
          refine jj_dup C dX2_giveBack_90 rfl ?_
          refine tt_get C hok_67 jk_5 3 (by decide) jw_711 (t := (1, (-9223372036854775808), 9223372036854775807)) hk2 (by decide) rfl rfl dX2_giveBack_91 (fun v_68 hv_68 hf_69 => ?_)
          obtain ⟨y_70, rfl, -, -⟩ := tt_vj hv_68
          refine jj_lload C dX2_giveBack_94 rfl ?_
          obtain ⟨y_71, ey_71⟩ : ∃ z : Int64, y_70 + y_53 = z := ⟨_, rfl⟩
          refine jj_ladd (v := y_71) C dX2_giveBack_96 ey_71 ?_
          refine tt_put C hok_67 jk_5 3 (by decide) jw_711 (t := (1, (-9223372036854775808), 9223372036854775807)) hk2 (by decide) rfl rfl rfl (tt_ja y_71) rfl rfl dX2_giveBack_97 (fun pl_72 hok_73 tr hn => ?_)
          replace hf_2 := tr _ _ _ (Or.inr (by decide)) hf_2
          replace hf_5 := tr _ _ _ (Or.inl (tt_ne hk1 hk2 (by decide))) hf_5
          replace hf_12 := tr _ _ _ (Or.inr (by decide)) hf_12
          replace hf_60 := tr _ _ _ (Or.inl (tt_ne hk1 hk2 (by decide))) hf_60
          replace hf_62 := tr _ _ _ (Or.inl (tt_ne hk0 hk2 (by decide))) hf_62
          have hf_74 := hn
          replace hfr := hfr.put hk2 tr (by decide)
          refine jj_aload_n C dX2_giveBack_100 rfl ?_
          refine jj_dup C dX2_giveBack_101 rfl ?_
          refine tt_get C hok_73 jk_9 3 (by decide) jw_712 (t := (1, (-9223372036854775808), 9223372036854775807)) hk1 (by decide) rfl rfl dX2_giveBack_102 (fun v_75 hv_75 hf_76 => ?_)
          obtain ⟨y_77, rfl, -, -⟩ := tt_vj hv_75
          refine jj_lload C dX2_giveBack_105 rfl ?_
          obtain ⟨y_78, ey_78⟩ : ∃ z : Int64, y_77 + y_53 = z := ⟨_, rfl⟩
          refine jj_ladd (v := y_78) C dX2_giveBack_107 ey_78 ?_
          refine tt_put C hok_73 jk_9 3 (by decide) jw_712 (t := (1, (-9223372036854775808), 9223372036854775807)) hk1 (by decide) rfl rfl rfl (tt_ja y_78) rfl rfl dX2_giveBack_108 (fun pl_79 hok_80 tr hn => ?_)
          replace hf_2 := tr _ _ _ (Or.inl (tt_ne hk2 hk1 (by decide))) hf_2
          replace hf_5 := tr _ _ _ (Or.inr (by decide)) hf_5
          replace hf_12 := tr _ _ _ (Or.inl (tt_ne hk2 hk1 (by decide))) hf_12
          replace hf_60 := tr _ _ _ (Or.inr (by decide)) hf_60
          replace hf_62 := tr _ _ _ (Or.inl (tt_ne hk0 hk1 (by decide))) hf_62
          replace hf_74 := tr _ _ _ (Or.inl (tt_ne hk2 hk1 (by decide))) hf_74
          have hf_81 := hn
          replace hfr := hfr.put hk1 tr (by decide)
          exact jj_vret C ⟨[], pl_79, rfl, rfl, hok_80, hfr, rfl⟩ dX2_giveBack_111 (jj_le rfl) (jj_le rfl)
      · exact jj_vret C ⟨[], pl0, rfl, rfl, hok, hfr, rfl⟩ dX2_giveBack_34 (jj_le rfl) (jj_le rfl)

set_option maxHeartbeats 4000000 in
set_option maxRecDepth 100000 in
theorem tc_X2_takeDue_4 {l : Launch} (hl : l.stackTraces = false) (D : va_G) (cA : Nat → ClassId) (ak : (Nat → Nat) × (Nat → Nat)) {Kd : Nat → Nat} (h0 : Nat) (h1 : Nat) (h2 : Nat) (p3 : Int64) (p4 : Int64) (hk0 : Kd h0 = 1) (hk1 : Kd h1 = 2) (hk2 : Kd h2 = 3) {pl0 : va_W} (hok : tt_ok tt_tk cA Kd pl0) : jj_M l D cA ak yX2_takeDue (.code yX2_takeDue cX2_takeDue 13 none) 1 26 0 0 ([] ++ pl0) [.ref h0, .ref h1, .ref h2, .long p3, .long p4] (tt_O (fun rx pl1 r => rx = [] ∧ tt_ok tt_tk cA Kd pl1 ∧ tt_fr Kd [(2, 2), (2, 3), (3, 3)] pl0 pl1 ∧ ((r = none)))) (tt_OX (fun _ _ _ => False)) := by
  refine jj_start hl (by decide) jw_716 (jj_le rfl) ?_
  intro p e s m args below meth c A hargs hA C hex hmn
  have hfr := tt_fr.refl (K := Kd) (WS := [(2, 2), (2, 3), (3, 3)]) pl0
  refine jj_lload_n C dX2_takeDue_0 rfl ?_
  refine jj_aload_n C dX2_takeDue_1 rfl ?_
  refine tt_get C hok jk_9 4 (by decide) jw_709 (t := (1, (-9223372036854775808), 9223372036854775807)) hk1 (by decide) rfl rfl dX2_takeDue_2 (fun v_1 hv_1 hf_2 => ?_)
  obtain ⟨y_3, rfl, -, -⟩ := tt_vj hv_1
  refine tt_call0S (rest := []) C (ct_J9_min_f86c9_1 hl D cA ak p3 y_3) jw_710 jw_145 jw_144 jw_143 jn_J9_min_f86c9 rfl (jj_le rfl) (jj_le rfl) (jj_le rfl) (jj_le rfl) (jj_le rfl) dX2_takeDue_5 rfl (fun w1 r O_4 => ?_)
  rcases O_4 with ⟨c_5, -, rfl⟩ | ⟨c_6, -, rfl⟩
  · refine jj_lstore C dX2_takeDue_8 (by decide) rfl ?_
    refine jj_aload_n C dX2_takeDue_10 rfl ?_
    refine tt_get C hok jk_5 4 (by decide) jw_705 (t := (1, (-9223372036854775808), 9223372036854775807)) hk2 (by decide) rfl rfl dX2_takeDue_11 (fun v_7 hv_7 hf_8 => ?_)
    obtain ⟨y_9, rfl, -, -⟩ := tt_vj hv_7
    refine jj_lload C dX2_takeDue_14 rfl ?_
    refine jj_lcmp_ge (tgt := 27) C dX2_takeDue_16 dX2_takeDue_17 (by decide) (fun c_10 => ?_) (fun c_10 => ?_)
    · exact jj_vret C ⟨[], pl0, rfl, rfl, hok, hfr, rfl⟩ dX2_takeDue_27 (jj_le rfl) (jj_le rfl)
    · refine jj_lload C dX2_takeDue_20 rfl ?_
      refine jj_lconst (v := 0) C dX2_takeDue_22 (by decide) ?_
      refine jj_lcmp_gt (tgt := 28) C dX2_takeDue_23 dX2_takeDue_24 (by decide) (fun c_11 => ?_) (fun c_11 => ?_)
      · refine jj_aload_n C dX2_takeDue_28 rfl ?_
        refine tt_get C hok jk_5 3 (by decide) jw_711 (t := (1, (-9223372036854775808), 9223372036854775807)) hk2 (by decide) rfl rfl dX2_takeDue_29 (fun v_12 hv_12 hf_13 => ?_)
        obtain ⟨y_14, rfl, -, -⟩ := tt_vj hv_12
        refine jj_aload_n C dX2_takeDue_32 rfl ?_
        refine tt_getF C hok jk_5 4 (by decide) jw_705 (t := (1, (-9223372036854775808), 9223372036854775807)) hk2 (by decide) rfl rfl hf_8 dX2_takeDue_33 ?_
        refine jj_lload C dX2_takeDue_36 rfl ?_
        refine jj_aload_n C dX2_takeDue_38 rfl ?_
        refine tt_get C hok jk_2 3 (by decide) jw_698 (t := (0, (-2147483648), 2147483647)) hk0 (by decide) rfl rfl dX2_takeDue_39 (fun v_15 hv_15 hf_16 => ?_)
        obtain ⟨x_17, rfl, lx_17, ux_17⟩ := tt_vi hv_15
        refine tt_callS (rest := []) C (tc_X2_dueOn_1 hl D cA ak y_14 y_9 y_3 x_17 hok) [] [] rfl rfl (by decide) (by decide) (by decide) jw_717 jw_178 jw_175 jw_174 jn_X2_dueOn rfl (jj_le rfl) (jj_le rfl) (jj_le rfl) (jj_le rfl) (jj_le rfl) dX2_takeDue_42 rfl (fun _ _ _ hX => hX.elim) (fun rx pl_18 r O_21 => ?_)
        obtain ⟨rfl, hok_19, hr_20, hR_23⟩ := O_21
        replace hf_2 := hr_20.at hk1 (by decide) (by decide) hf_2
        replace hf_8 := hr_20.at hk2 (by decide) (by decide) hf_8
        replace hf_13 := hr_20.at hk2 (by decide) (by decide) hf_13
        replace hf_16 := hr_20.at hk0 (by decide) (by decide) hf_16
        replace hfr := hfr.trans (hr_20.sub (by decide))
        rcases hR_23 with rfl | ⟨y_24, rfl⟩
        · refine jj_lstore C dX2_takeDue_45 (by decide) rfl ?_
          refine jj_aload_n C dX2_takeDue_47 rfl ?_
          refine tt_getF C hok_19 jk_5 3 (by decide) jw_711 (t := (1, (-9223372036854775808), 9223372036854775807)) hk2 (by decide) rfl rfl hf_13 dX2_takeDue_48 ?_
          refine jj_lload C dX2_takeDue_51 rfl ?_
          refine jj_ldc2 (v := 100000) C dX2_takeDue_53 jw_177 ?_
          refine jj_lmul (v := 0) C dX2_takeDue_56 (by decide) ?_
          refine jj_lload C dX2_takeDue_57 rfl ?_
          obtain ⟨y_25, ey_25⟩ : ∃ z : Int64, (0 : Int64) / p4 = z := ⟨_, rfl⟩
          refine jj_ldiv (v := y_25) C dX2_takeDue_59 (jt_nzpL c_11) ey_25 ?_
          refine tt_call0S (rest := []) C (ct_J9_min_f86c9_1 hl D cA ak y_14 y_25) jw_710 jw_145 jw_144 jw_143 jn_J9_min_f86c9 rfl (jj_le rfl) (jj_le rfl) (jj_le rfl) (jj_le rfl) (jj_le rfl) dX2_takeDue_60 rfl (fun w1 r O_26 => ?_)
          rcases O_26 with ⟨c_27, -, rfl⟩ | ⟨c_28, -, rfl⟩
          · refine jj_lstore C dX2_takeDue_63 (by decide) rfl ?_
            refine jj_aload_n C dX2_takeDue_65 rfl ?_
            refine jj_dup C dX2_takeDue_66 rfl ?_
            refine tt_get C hok_19 jk_9 2 (by decide) jw_321 (t := (1, (-9223372036854775808), 9223372036854775807)) hk1 (by decide) rfl rfl dX2_takeDue_67 (fun v_29 hv_29 hf_30 => ?_)
            obtain ⟨y_31, rfl, -, -⟩ := tt_vj hv_29
            refine jj_lload C dX2_takeDue_70 rfl ?_
            obtain ⟨y_32, ey_32⟩ : ∃ z : Int64, y_31 - (0 : Int64) = z := ⟨_, rfl⟩
            refine jj_lsub (v := y_32) C dX2_takeDue_72 ey_32 ?_
            refine tt_put C hok_19 jk_9 2 (by decide) jw_321 (t := (1, (-9223372036854775808), 9223372036854775807)) hk1 (by decide) rfl rfl rfl (tt_ja y_32) rfl rfl dX2_takeDue_73 (fun pl_33 hok_34 tr hn => ?_)
            replace hf_2 := tr _ _ _ (Or.inr (by decide)) hf_2
            replace hf_8 := tr _ _ _ (Or.inl (tt_ne hk2 hk1 (by decide))) hf_8
            replace hf_13 := tr _ _ _ (Or.inl (tt_ne hk2 hk1 (by decide))) hf_13
            replace hf_16 := tr _ _ _ (Or.inl (tt_ne hk0 hk1 (by decide))) hf_16
            have hf_35 := hn
            replace hfr := hfr.put hk1 tr (by decide)
            refine jj_aload_n C dX2_takeDue_76 rfl ?_
            refine tt_get C hok_34 jk_2 10 (by decide) jw_319 (t := (2, 5, 0)) hk0 (by decide) rfl rfl dX2_takeDue_77 (fun v_36 hv_36 hf_37 => ?_)
            obtain ⟨a_38, rfl, ka_38⟩ := tt_vr hv_36
            refine jj_iconst (v := 0) C dX2_takeDue_80 (by decide) ?_
            refine jj_dup2 C dX2_takeDue_81 rfl rfl ?_
            refine tt_lald C hok_34 (t := (1, (-9223372036854775808), 9223372036854775807)) ka_38 (by decide) rfl (vp_in_iff.mpr (by decide)) dX2_takeDue_82 (fun v_39 hv_39 => ?_)
            refine jj_lload C dX2_takeDue_83 rfl ?_
            obtain ⟨y_40, ey_40⟩ : ∃ z : Int64, v_39 + (0 : Int64) = z := ⟨_, rfl⟩
            refine jj_ladd (v := y_40) C dX2_takeDue_85 ey_40 ?_
            refine tt_last C hok_34 (t := (1, (-9223372036854775808), 9223372036854775807)) ka_38 (by decide) rfl (vp_in_iff.mpr (by decide)) (tt_ja _) dX2_takeDue_86 (fun pl_41 hok_42 tr => ?_)
            replace hf_2 := tr _ _ _ hf_2
            replace hf_8 := tr _ _ _ hf_8
            replace hf_13 := tr _ _ _ hf_13
            replace hf_16 := tr _ _ _ hf_16
            replace hf_35 := tr _ _ _ hf_35
            replace hf_37 := tr _ _ _ hf_37
            replace hfr := hfr.arr tr
            refine jj_aload_n C dX2_takeDue_87 rfl ?_
            refine jj_dup C dX2_takeDue_88 rfl ?_
            refine tt_getF C hok_42 jk_5 3 (by decide) jw_711 (t := (1, (-9223372036854775808), 9223372036854775807)) hk2 (by decide) rfl rfl hf_13 dX2_takeDue_89 ?_
            refine jj_lload C dX2_takeDue_92 rfl ?_
            obtain ⟨y_43, ey_43⟩ : ∃ z : Int64, y_14 - y_25 = z := ⟨_, rfl⟩
            refine jj_lsub (v := y_43) C dX2_takeDue_94 ey_43 ?_
            refine tt_put C hok_42 jk_5 3 (by decide) jw_711 (t := (1, (-9223372036854775808), 9223372036854775807)) hk2 (by decide) rfl rfl rfl (tt_ja y_43) rfl rfl dX2_takeDue_95 (fun pl_44 hok_45 tr hn => ?_)
            replace hf_2 := tr _ _ _ (Or.inl (tt_ne hk1 hk2 (by decide))) hf_2
            replace hf_8 := tr _ _ _ (Or.inr (by decide)) hf_8
            replace hf_16 := tr _ _ _ (Or.inl (tt_ne hk0 hk2 (by decide))) hf_16
            replace hf_35 := tr _ _ _ (Or.inl (tt_ne hk1 hk2 (by decide))) hf_35
            replace hf_37 := tr _ _ _ (Or.inl (tt_ne hk0 hk2 (by decide))) hf_37
            have hf_46 := hn
            replace hfr := hfr.put hk2 tr (by decide)
            refine jj_aload_n C dX2_takeDue_98 rfl ?_
            refine jj_dup C dX2_takeDue_99 rfl ?_
            refine tt_get C hok_45 jk_9 3 (by decide) jw_712 (t := (1, (-9223372036854775808), 9223372036854775807)) hk1 (by decide) rfl rfl dX2_takeDue_100 (fun v_47 hv_47 hf_48 => ?_)
            obtain ⟨y_49, rfl, -, -⟩ := tt_vj hv_47
            refine jj_lload C dX2_takeDue_103 rfl ?_
            obtain ⟨y_50, ey_50⟩ : ∃ z : Int64, y_49 - y_25 = z := ⟨_, rfl⟩
            refine jj_lsub (v := y_50) C dX2_takeDue_105 ey_50 ?_
            refine tt_put C hok_45 jk_9 3 (by decide) jw_712 (t := (1, (-9223372036854775808), 9223372036854775807)) hk1 (by decide) rfl rfl rfl (tt_ja y_50) rfl rfl dX2_takeDue_106 (fun pl_51 hok_52 tr hn => ?_)
            replace hf_2 := tr _ _ _ (Or.inr (by decide)) hf_2
            replace hf_8 := tr _ _ _ (Or.inl (tt_ne hk2 hk1 (by decide))) hf_8
            replace hf_16 := tr _ _ _ (Or.inl (tt_ne hk0 hk1 (by decide))) hf_16
            replace hf_35 := tr _ _ _ (Or.inr (by decide)) hf_35
            replace hf_37 := tr _ _ _ (Or.inl (tt_ne hk0 hk1 (by decide))) hf_37
            replace hf_46 := tr _ _ _ (Or.inl (tt_ne hk2 hk1 (by decide))) hf_46
            have hf_53 := hn
            replace hfr := hfr.put hk1 tr (by decide)
            exact jj_vret C ⟨[], pl_51, rfl, rfl, hok_52, hfr, rfl⟩ dX2_takeDue_109 (jj_le rfl) (jj_le rfl)
          · refine jj_lstore C dX2_takeDue_63 (by decide) rfl ?_
            refine jj_aload_n C dX2_takeDue_65 rfl ?_
            refine jj_dup C dX2_takeDue_66 rfl ?_
            refine tt_get C hok_19 jk_9 2 (by decide) jw_321 (t := (1, (-9223372036854775808), 9223372036854775807)) hk1 (by decide) rfl rfl dX2_takeDue_67 (fun v_54 hv_54 hf_55 => ?_)
            obtain ⟨y_56, rfl, -, -⟩ := tt_vj hv_54
            refine jj_lload C dX2_takeDue_70 rfl ?_
            obtain ⟨y_57, ey_57⟩ : ∃ z : Int64, y_56 - (0 : Int64) = z := ⟨_, rfl⟩
            refine jj_lsub (v := y_57) C dX2_takeDue_72 ey_57 ?_
            refine tt_put C hok_19 jk_9 2 (by decide) jw_321 (t := (1, (-9223372036854775808), 9223372036854775807)) hk1 (by decide) rfl rfl rfl (tt_ja y_57) rfl rfl dX2_takeDue_73 (fun pl_58 hok_59 tr hn => ?_)
            replace hf_2 := tr _ _ _ (Or.inr (by decide)) hf_2
            replace hf_8 := tr _ _ _ (Or.inl (tt_ne hk2 hk1 (by decide))) hf_8
            replace hf_13 := tr _ _ _ (Or.inl (tt_ne hk2 hk1 (by decide))) hf_13
            replace hf_16 := tr _ _ _ (Or.inl (tt_ne hk0 hk1 (by decide))) hf_16
            have hf_60 := hn
            replace hfr := hfr.put hk1 tr (by decide)
            refine jj_aload_n C dX2_takeDue_76 rfl ?_
            refine tt_get C hok_59 jk_2 10 (by decide) jw_319 (t := (2, 5, 0)) hk0 (by decide) rfl rfl dX2_takeDue_77 (fun v_61 hv_61 hf_62 => ?_)
            obtain ⟨a_63, rfl, ka_63⟩ := tt_vr hv_61
            refine jj_iconst (v := 0) C dX2_takeDue_80 (by decide) ?_
            refine jj_dup2 C dX2_takeDue_81 rfl rfl ?_
            refine tt_lald C hok_59 (t := (1, (-9223372036854775808), 9223372036854775807)) ka_63 (by decide) rfl (vp_in_iff.mpr (by decide)) dX2_takeDue_82 (fun v_64 hv_64 => ?_)
            refine jj_lload C dX2_takeDue_83 rfl ?_
            obtain ⟨y_65, ey_65⟩ : ∃ z : Int64, v_64 + (0 : Int64) = z := ⟨_, rfl⟩
            refine jj_ladd (v := y_65) C dX2_takeDue_85 ey_65 ?_
            refine tt_last C hok_59 (t := (1, (-9223372036854775808), 9223372036854775807)) ka_63 (by decide) rfl (vp_in_iff.mpr (by decide)) (tt_ja _) dX2_takeDue_86 (fun pl_66 hok_67 tr => ?_)
            replace hf_2 := tr _ _ _ hf_2
            replace hf_8 := tr _ _ _ hf_8
            replace hf_13 := tr _ _ _ hf_13
            replace hf_16 := tr _ _ _ hf_16
            replace hf_60 := tr _ _ _ hf_60
            replace hf_62 := tr _ _ _ hf_62
            replace hfr := hfr.arr tr
            refine jj_aload_n C dX2_takeDue_87 rfl ?_
            refine jj_dup C dX2_takeDue_88 rfl ?_
            refine tt_getF C hok_67 jk_5 3 (by decide) jw_711 (t := (1, (-9223372036854775808), 9223372036854775807)) hk2 (by decide) rfl rfl hf_13 dX2_takeDue_89 ?_
            refine jj_lload C dX2_takeDue_92 rfl ?_
            obtain ⟨y_68, ey_68⟩ : ∃ z : Int64, y_14 - y_14 = z := ⟨_, rfl⟩
            refine jj_lsub (v := y_68) C dX2_takeDue_94 ey_68 ?_
            refine tt_put C hok_67 jk_5 3 (by decide) jw_711 (t := (1, (-9223372036854775808), 9223372036854775807)) hk2 (by decide) rfl rfl rfl (tt_ja y_68) rfl rfl dX2_takeDue_95 (fun pl_69 hok_70 tr hn => ?_)
            replace hf_2 := tr _ _ _ (Or.inl (tt_ne hk1 hk2 (by decide))) hf_2
            replace hf_8 := tr _ _ _ (Or.inr (by decide)) hf_8
            replace hf_16 := tr _ _ _ (Or.inl (tt_ne hk0 hk2 (by decide))) hf_16
            replace hf_60 := tr _ _ _ (Or.inl (tt_ne hk1 hk2 (by decide))) hf_60
            replace hf_62 := tr _ _ _ (Or.inl (tt_ne hk0 hk2 (by decide))) hf_62
            have hf_71 := hn
            replace hfr := hfr.put hk2 tr (by decide)
            refine jj_aload_n C dX2_takeDue_98 rfl ?_
            refine jj_dup C dX2_takeDue_99 rfl ?_
            refine tt_get C hok_70 jk_9 3 (by decide) jw_712 (t := (1, (-9223372036854775808), 9223372036854775807)) hk1 (by decide) rfl rfl dX2_takeDue_100 (fun v_72 hv_72 hf_73 => ?_)
            obtain ⟨y_74, rfl, -, -⟩ := tt_vj hv_72
            refine jj_lload C dX2_takeDue_103 rfl ?_
            obtain ⟨y_75, ey_75⟩ : ∃ z : Int64, y_74 - y_14 = z := ⟨_, rfl⟩
            refine jj_lsub (v := y_75) C dX2_takeDue_105 ey_75 ?_
            refine tt_put C hok_70 jk_9 3 (by decide) jw_712 (t := (1, (-9223372036854775808), 9223372036854775807)) hk1 (by decide) rfl rfl rfl (tt_ja y_75) rfl rfl dX2_takeDue_106 (fun pl_76 hok_77 tr hn => ?_)
            replace hf_2 := tr _ _ _ (Or.inr (by decide)) hf_2
            replace hf_8 := tr _ _ _ (Or.inl (tt_ne hk2 hk1 (by decide))) hf_8
            replace hf_16 := tr _ _ _ (Or.inl (tt_ne hk0 hk1 (by decide))) hf_16
            replace hf_60 := tr _ _ _ (Or.inr (by decide)) hf_60
            replace hf_62 := tr _ _ _ (Or.inl (tt_ne hk0 hk1 (by decide))) hf_62
            replace hf_71 := tr _ _ _ (Or.inl (tt_ne hk2 hk1 (by decide))) hf_71
            have hf_78 := hn
            replace hfr := hfr.put hk1 tr (by decide)
            exact jj_vret C ⟨[], pl_76, rfl, rfl, hok_77, hfr, rfl⟩ dX2_takeDue_109 (jj_le rfl) (jj_le rfl)
        · refine jj_lstore C dX2_takeDue_45 (by decide) rfl ?_
          refine jj_aload_n C dX2_takeDue_47 rfl ?_
          refine tt_getF C hok_19 jk_5 3 (by decide) jw_711 (t := (1, (-9223372036854775808), 9223372036854775807)) hk2 (by decide) rfl rfl hf_13 dX2_takeDue_48 ?_
          refine jj_lload C dX2_takeDue_51 rfl ?_
          refine jj_ldc2 (v := 100000) C dX2_takeDue_53 jw_177 ?_
          obtain ⟨y_79, ey_79⟩ : ∃ z : Int64, y_24 * (100000 : Int64) = z := ⟨_, rfl⟩
          refine jj_lmul (v := y_79) C dX2_takeDue_56 ey_79 ?_
          refine jj_lload C dX2_takeDue_57 rfl ?_
          obtain ⟨y_80, ey_80⟩ : ∃ z : Int64, y_79 / p4 = z := ⟨_, rfl⟩
          refine jj_ldiv (v := y_80) C dX2_takeDue_59 (jt_nzpL c_11) ey_80 ?_
          refine tt_call0S (rest := []) C (ct_J9_min_f86c9_1 hl D cA ak y_14 y_80) jw_710 jw_145 jw_144 jw_143 jn_J9_min_f86c9 rfl (jj_le rfl) (jj_le rfl) (jj_le rfl) (jj_le rfl) (jj_le rfl) dX2_takeDue_60 rfl (fun w1 r O_81 => ?_)
          rcases O_81 with ⟨c_82, -, rfl⟩ | ⟨c_83, -, rfl⟩
          · refine jj_lstore C dX2_takeDue_63 (by decide) rfl ?_
            refine jj_aload_n C dX2_takeDue_65 rfl ?_
            refine jj_dup C dX2_takeDue_66 rfl ?_
            refine tt_get C hok_19 jk_9 2 (by decide) jw_321 (t := (1, (-9223372036854775808), 9223372036854775807)) hk1 (by decide) rfl rfl dX2_takeDue_67 (fun v_84 hv_84 hf_85 => ?_)
            obtain ⟨y_86, rfl, -, -⟩ := tt_vj hv_84
            refine jj_lload C dX2_takeDue_70 rfl ?_
            obtain ⟨y_87, ey_87⟩ : ∃ z : Int64, y_86 - y_24 = z := ⟨_, rfl⟩
            refine jj_lsub (v := y_87) C dX2_takeDue_72 ey_87 ?_
            refine tt_put C hok_19 jk_9 2 (by decide) jw_321 (t := (1, (-9223372036854775808), 9223372036854775807)) hk1 (by decide) rfl rfl rfl (tt_ja y_87) rfl rfl dX2_takeDue_73 (fun pl_88 hok_89 tr hn => ?_)
            replace hf_2 := tr _ _ _ (Or.inr (by decide)) hf_2
            replace hf_8 := tr _ _ _ (Or.inl (tt_ne hk2 hk1 (by decide))) hf_8
            replace hf_13 := tr _ _ _ (Or.inl (tt_ne hk2 hk1 (by decide))) hf_13
            replace hf_16 := tr _ _ _ (Or.inl (tt_ne hk0 hk1 (by decide))) hf_16
            have hf_90 := hn
            replace hfr := hfr.put hk1 tr (by decide)
            refine jj_aload_n C dX2_takeDue_76 rfl ?_
            refine tt_get C hok_89 jk_2 10 (by decide) jw_319 (t := (2, 5, 0)) hk0 (by decide) rfl rfl dX2_takeDue_77 (fun v_91 hv_91 hf_92 => ?_)
            obtain ⟨a_93, rfl, ka_93⟩ := tt_vr hv_91
            refine jj_iconst (v := 0) C dX2_takeDue_80 (by decide) ?_
            refine jj_dup2 C dX2_takeDue_81 rfl rfl ?_
            refine tt_lald C hok_89 (t := (1, (-9223372036854775808), 9223372036854775807)) ka_93 (by decide) rfl (vp_in_iff.mpr (by decide)) dX2_takeDue_82 (fun v_94 hv_94 => ?_)
            refine jj_lload C dX2_takeDue_83 rfl ?_
            obtain ⟨y_95, ey_95⟩ : ∃ z : Int64, v_94 + y_24 = z := ⟨_, rfl⟩
            refine jj_ladd (v := y_95) C dX2_takeDue_85 ey_95 ?_
            refine tt_last C hok_89 (t := (1, (-9223372036854775808), 9223372036854775807)) ka_93 (by decide) rfl (vp_in_iff.mpr (by decide)) (tt_ja _) dX2_takeDue_86 (fun pl_96 hok_97 tr => ?_)
            replace hf_2 := tr _ _ _ hf_2
            replace hf_8 := tr _ _ _ hf_8
            replace hf_13 := tr _ _ _ hf_13
            replace hf_16 := tr _ _ _ hf_16
            replace hf_90 := tr _ _ _ hf_90
            replace hf_92 := tr _ _ _ hf_92
            replace hfr := hfr.arr tr
            refine jj_aload_n C dX2_takeDue_87 rfl ?_
            refine jj_dup C dX2_takeDue_88 rfl ?_
            refine tt_getF C hok_97 jk_5 3 (by decide) jw_711 (t := (1, (-9223372036854775808), 9223372036854775807)) hk2 (by decide) rfl rfl hf_13 dX2_takeDue_89 ?_
            refine jj_lload C dX2_takeDue_92 rfl ?_
            obtain ⟨y_98, ey_98⟩ : ∃ z : Int64, y_14 - y_80 = z := ⟨_, rfl⟩
            refine jj_lsub (v := y_98) C dX2_takeDue_94 ey_98 ?_
            refine tt_put C hok_97 jk_5 3 (by decide) jw_711 (t := (1, (-9223372036854775808), 9223372036854775807)) hk2 (by decide) rfl rfl rfl (tt_ja y_98) rfl rfl dX2_takeDue_95 (fun pl_99 hok_100 tr hn => ?_)
            replace hf_2 := tr _ _ _ (Or.inl (tt_ne hk1 hk2 (by decide))) hf_2
            replace hf_8 := tr _ _ _ (Or.inr (by decide)) hf_8
            replace hf_16 := tr _ _ _ (Or.inl (tt_ne hk0 hk2 (by decide))) hf_16
            replace hf_90 := tr _ _ _ (Or.inl (tt_ne hk1 hk2 (by decide))) hf_90
            replace hf_92 := tr _ _ _ (Or.inl (tt_ne hk0 hk2 (by decide))) hf_92
            have hf_101 := hn
            replace hfr := hfr.put hk2 tr (by decide)
            refine jj_aload_n C dX2_takeDue_98 rfl ?_
            refine jj_dup C dX2_takeDue_99 rfl ?_
            refine tt_get C hok_100 jk_9 3 (by decide) jw_712 (t := (1, (-9223372036854775808), 9223372036854775807)) hk1 (by decide) rfl rfl dX2_takeDue_100 (fun v_102 hv_102 hf_103 => ?_)
            obtain ⟨y_104, rfl, -, -⟩ := tt_vj hv_102
            refine jj_lload C dX2_takeDue_103 rfl ?_
            obtain ⟨y_105, ey_105⟩ : ∃ z : Int64, y_104 - y_80 = z := ⟨_, rfl⟩
            refine jj_lsub (v := y_105) C dX2_takeDue_105 ey_105 ?_
            refine tt_put C hok_100 jk_9 3 (by decide) jw_712 (t := (1, (-9223372036854775808), 9223372036854775807)) hk1 (by decide) rfl rfl rfl (tt_ja y_105) rfl rfl dX2_takeDue_106 (fun pl_106 hok_107 tr hn => ?_)
            replace hf_2 := tr _ _ _ (Or.inr (by decide)) hf_2
            replace hf_8 := tr _ _ _ (Or.inl (tt_ne hk2 hk1 (by decide))) hf_8
            replace hf_16 := tr _ _ _ (Or.inl (tt_ne hk0 hk1 (by decide))) hf_16
            replace hf_90 := tr _ _ _ (Or.inr (by decide)) hf_90
            replace hf_92 := tr _ _ _ (Or.inl (tt_ne hk0 hk1 (by decide))) hf_92
            replace hf_101 := tr _ _ _ (Or.inl (tt_ne hk2 hk1 (by decide))) hf_101
            have hf_108 := hn
            replace hfr := hfr.put hk1 tr (by decide)
            exact jj_vret C ⟨[], pl_106, rfl, rfl, hok_107, hfr, rfl⟩ dX2_takeDue_109 (jj_le rfl) (jj_le rfl)
          · refine jj_lstore C dX2_takeDue_63 (by decide) rfl ?_
            refine jj_aload_n C dX2_takeDue_65 rfl ?_
            refine jj_dup C dX2_takeDue_66 rfl ?_
            refine tt_get C hok_19 jk_9 2 (by decide) jw_321 (t := (1, (-9223372036854775808), 9223372036854775807)) hk1 (by decide) rfl rfl dX2_takeDue_67 (fun v_109 hv_109 hf_110 => ?_)
            obtain ⟨y_111, rfl, -, -⟩ := tt_vj hv_109
            refine jj_lload C dX2_takeDue_70 rfl ?_
            obtain ⟨y_112, ey_112⟩ : ∃ z : Int64, y_111 - y_24 = z := ⟨_, rfl⟩
            refine jj_lsub (v := y_112) C dX2_takeDue_72 ey_112 ?_
            refine tt_put C hok_19 jk_9 2 (by decide) jw_321 (t := (1, (-9223372036854775808), 9223372036854775807)) hk1 (by decide) rfl rfl rfl (tt_ja y_112) rfl rfl dX2_takeDue_73 (fun pl_113 hok_114 tr hn => ?_)
            replace hf_2 := tr _ _ _ (Or.inr (by decide)) hf_2
            replace hf_8 := tr _ _ _ (Or.inl (tt_ne hk2 hk1 (by decide))) hf_8
            replace hf_13 := tr _ _ _ (Or.inl (tt_ne hk2 hk1 (by decide))) hf_13
            replace hf_16 := tr _ _ _ (Or.inl (tt_ne hk0 hk1 (by decide))) hf_16
            have hf_115 := hn
            replace hfr := hfr.put hk1 tr (by decide)
            refine jj_aload_n C dX2_takeDue_76 rfl ?_
            refine tt_get C hok_114 jk_2 10 (by decide) jw_319 (t := (2, 5, 0)) hk0 (by decide) rfl rfl dX2_takeDue_77 (fun v_116 hv_116 hf_117 => ?_)
            obtain ⟨a_118, rfl, ka_118⟩ := tt_vr hv_116
            refine jj_iconst (v := 0) C dX2_takeDue_80 (by decide) ?_
            refine jj_dup2 C dX2_takeDue_81 rfl rfl ?_
            refine tt_lald C hok_114 (t := (1, (-9223372036854775808), 9223372036854775807)) ka_118 (by decide) rfl (vp_in_iff.mpr (by decide)) dX2_takeDue_82 (fun v_119 hv_119 => ?_)
            refine jj_lload C dX2_takeDue_83 rfl ?_
            obtain ⟨y_120, ey_120⟩ : ∃ z : Int64, v_119 + y_24 = z := ⟨_, rfl⟩
            refine jj_ladd (v := y_120) C dX2_takeDue_85 ey_120 ?_
            refine tt_last C hok_114 (t := (1, (-9223372036854775808), 9223372036854775807)) ka_118 (by decide) rfl (vp_in_iff.mpr (by decide)) (tt_ja _) dX2_takeDue_86 (fun pl_121 hok_122 tr => ?_)
            replace hf_2 := tr _ _ _ hf_2
            replace hf_8 := tr _ _ _ hf_8
            replace hf_13 := tr _ _ _ hf_13
            replace hf_16 := tr _ _ _ hf_16
            replace hf_115 := tr _ _ _ hf_115
            replace hf_117 := tr _ _ _ hf_117
            replace hfr := hfr.arr tr
            refine jj_aload_n C dX2_takeDue_87 rfl ?_
            refine jj_dup C dX2_takeDue_88 rfl ?_
            refine tt_getF C hok_122 jk_5 3 (by decide) jw_711 (t := (1, (-9223372036854775808), 9223372036854775807)) hk2 (by decide) rfl rfl hf_13 dX2_takeDue_89 ?_
            refine jj_lload C dX2_takeDue_92 rfl ?_
            obtain ⟨y_123, ey_123⟩ : ∃ z : Int64, y_14 - y_14 = z := ⟨_, rfl⟩
            refine jj_lsub (v := y_123) C dX2_takeDue_94 ey_123 ?_
            refine tt_put C hok_122 jk_5 3 (by decide) jw_711 (t := (1, (-9223372036854775808), 9223372036854775807)) hk2 (by decide) rfl rfl rfl (tt_ja y_123) rfl rfl dX2_takeDue_95 (fun pl_124 hok_125 tr hn => ?_)
            replace hf_2 := tr _ _ _ (Or.inl (tt_ne hk1 hk2 (by decide))) hf_2
            replace hf_8 := tr _ _ _ (Or.inr (by decide)) hf_8
            replace hf_16 := tr _ _ _ (Or.inl (tt_ne hk0 hk2 (by decide))) hf_16
            replace hf_115 := tr _ _ _ (Or.inl (tt_ne hk1 hk2 (by decide))) hf_115
            replace hf_117 := tr _ _ _ (Or.inl (tt_ne hk0 hk2 (by decide))) hf_117
            have hf_126 := hn
            replace hfr := hfr.put hk2 tr (by decide)
            refine jj_aload_n C dX2_takeDue_98 rfl ?_
            refine jj_dup C dX2_takeDue_99 rfl ?_
            refine tt_get C hok_125 jk_9 3 (by decide) jw_712 (t := (1, (-9223372036854775808), 9223372036854775807)) hk1 (by decide) rfl rfl dX2_takeDue_100 (fun v_127 hv_127 hf_128 => ?_)
            obtain ⟨y_129, rfl, -, -⟩ := tt_vj hv_127
            refine jj_lload C dX2_takeDue_103 rfl ?_
            obtain ⟨y_130, ey_130⟩ : ∃ z : Int64, y_129 - y_14 = z := ⟨_, rfl⟩
            refine jj_lsub (v := y_130) C dX2_takeDue_105 ey_130 ?_
            refine tt_put C hok_125 jk_9 3 (by decide) jw_712 (t := (1, (-9223372036854775808), 9223372036854775807)) hk1 (by decide) rfl rfl rfl (tt_ja y_130) rfl rfl dX2_takeDue_106 (fun pl_131 hok_132 tr hn => ?_)
            replace hf_2 := tr _ _ _ (Or.inr (by decide)) hf_2
            replace hf_8 := tr _ _ _ (Or.inl (tt_ne hk2 hk1 (by decide))) hf_8
            replace hf_16 := tr _ _ _ (Or.inl (tt_ne hk0 hk1 (by decide))) hf_16
            replace hf_115 := tr _ _ _ (Or.inr (by decide)) hf_115
            replace hf_117 := tr _ _ _ (Or.inl (tt_ne hk0 hk1 (by decide))) hf_117
            replace hf_126 := tr _ _ _ (Or.inl (tt_ne hk2 hk1 (by decide))) hf_126
            have hf_133 := hn
            replace hfr := hfr.put hk1 tr (by decide)
            exact jj_vret C ⟨[], pl_131, rfl, rfl, hok_132, hfr, rfl⟩ dX2_takeDue_109 (jj_le rfl) (jj_le rfl)
      · exact jj_vret C ⟨[], pl0, rfl, rfl, hok, hfr, rfl⟩ dX2_takeDue_27 (jj_le rfl) (jj_le rfl)
  · refine jj_lstore C dX2_takeDue_8 (by decide) rfl ?_
    refine jj_aload_n C dX2_takeDue_10 rfl ?_
    refine tt_get C hok jk_5 4 (by decide) jw_705 (t := (1, (-9223372036854775808), 9223372036854775807)) hk2 (by decide) rfl rfl dX2_takeDue_11 (fun v_134 hv_134 hf_135 => ?_)
    obtain ⟨y_136, rfl, -, -⟩ := tt_vj hv_134
    refine jj_lload C dX2_takeDue_14 rfl ?_
    refine jj_lcmp_ge (tgt := 27) C dX2_takeDue_16 dX2_takeDue_17 (by decide) (fun c_137 => ?_) (fun c_137 => ?_)
    · exact jj_vret C ⟨[], pl0, rfl, rfl, hok, hfr, rfl⟩ dX2_takeDue_27 (jj_le rfl) (jj_le rfl)
    · refine jj_lload C dX2_takeDue_20 rfl ?_
      refine jj_lconst (v := 0) C dX2_takeDue_22 (by decide) ?_
      refine jj_lcmp_gt (tgt := 28) C dX2_takeDue_23 dX2_takeDue_24 (by decide) (fun c_138 => ?_) (fun c_138 => ?_)
      · refine jj_aload_n C dX2_takeDue_28 rfl ?_
        refine tt_get C hok jk_5 3 (by decide) jw_711 (t := (1, (-9223372036854775808), 9223372036854775807)) hk2 (by decide) rfl rfl dX2_takeDue_29 (fun v_139 hv_139 hf_140 => ?_)
        obtain ⟨y_141, rfl, -, -⟩ := tt_vj hv_139
        refine jj_aload_n C dX2_takeDue_32 rfl ?_
        refine tt_getF C hok jk_5 4 (by decide) jw_705 (t := (1, (-9223372036854775808), 9223372036854775807)) hk2 (by decide) rfl rfl hf_135 dX2_takeDue_33 ?_
        refine jj_lload C dX2_takeDue_36 rfl ?_
        refine jj_aload_n C dX2_takeDue_38 rfl ?_
        refine tt_get C hok jk_2 3 (by decide) jw_698 (t := (0, (-2147483648), 2147483647)) hk0 (by decide) rfl rfl dX2_takeDue_39 (fun v_142 hv_142 hf_143 => ?_)
        obtain ⟨x_144, rfl, lx_144, ux_144⟩ := tt_vi hv_142
        refine tt_callS (rest := []) C (tc_X2_dueOn_1 hl D cA ak y_141 y_136 p3 x_144 hok) [] [] rfl rfl (by decide) (by decide) (by decide) jw_717 jw_178 jw_175 jw_174 jn_X2_dueOn rfl (jj_le rfl) (jj_le rfl) (jj_le rfl) (jj_le rfl) (jj_le rfl) dX2_takeDue_42 rfl (fun _ _ _ hX => hX.elim) (fun rx pl_145 r O_148 => ?_)
        obtain ⟨rfl, hok_146, hr_147, hR_150⟩ := O_148
        replace hf_2 := hr_147.at hk1 (by decide) (by decide) hf_2
        replace hf_135 := hr_147.at hk2 (by decide) (by decide) hf_135
        replace hf_140 := hr_147.at hk2 (by decide) (by decide) hf_140
        replace hf_143 := hr_147.at hk0 (by decide) (by decide) hf_143
        replace hfr := hfr.trans (hr_147.sub (by decide))
        rcases hR_150 with rfl | ⟨y_151, rfl⟩
        · refine jj_lstore C dX2_takeDue_45 (by decide) rfl ?_
          refine jj_aload_n C dX2_takeDue_47 rfl ?_
          refine tt_getF C hok_146 jk_5 3 (by decide) jw_711 (t := (1, (-9223372036854775808), 9223372036854775807)) hk2 (by decide) rfl rfl hf_140 dX2_takeDue_48 ?_
          refine jj_lload C dX2_takeDue_51 rfl ?_
          refine jj_ldc2 (v := 100000) C dX2_takeDue_53 jw_177 ?_
          refine jj_lmul (v := 0) C dX2_takeDue_56 (by decide) ?_
          refine jj_lload C dX2_takeDue_57 rfl ?_
          obtain ⟨y_152, ey_152⟩ : ∃ z : Int64, (0 : Int64) / p4 = z := ⟨_, rfl⟩
          refine jj_ldiv (v := y_152) C dX2_takeDue_59 (jt_nzpL c_138) ey_152 ?_
          refine tt_call0S (rest := []) C (ct_J9_min_f86c9_1 hl D cA ak y_141 y_152) jw_710 jw_145 jw_144 jw_143 jn_J9_min_f86c9 rfl (jj_le rfl) (jj_le rfl) (jj_le rfl) (jj_le rfl) (jj_le rfl) dX2_takeDue_60 rfl (fun w1 r O_153 => ?_)
          rcases O_153 with ⟨c_154, -, rfl⟩ | ⟨c_155, -, rfl⟩
          · refine jj_lstore C dX2_takeDue_63 (by decide) rfl ?_
            refine jj_aload_n C dX2_takeDue_65 rfl ?_
            refine jj_dup C dX2_takeDue_66 rfl ?_
            refine tt_get C hok_146 jk_9 2 (by decide) jw_321 (t := (1, (-9223372036854775808), 9223372036854775807)) hk1 (by decide) rfl rfl dX2_takeDue_67 (fun v_156 hv_156 hf_157 => ?_)
            obtain ⟨y_158, rfl, -, -⟩ := tt_vj hv_156
            refine jj_lload C dX2_takeDue_70 rfl ?_
            obtain ⟨y_159, ey_159⟩ : ∃ z : Int64, y_158 - (0 : Int64) = z := ⟨_, rfl⟩
            refine jj_lsub (v := y_159) C dX2_takeDue_72 ey_159 ?_
            refine tt_put C hok_146 jk_9 2 (by decide) jw_321 (t := (1, (-9223372036854775808), 9223372036854775807)) hk1 (by decide) rfl rfl rfl (tt_ja y_159) rfl rfl dX2_takeDue_73 (fun pl_160 hok_161 tr hn => ?_)
            replace hf_2 := tr _ _ _ (Or.inr (by decide)) hf_2
            replace hf_135 := tr _ _ _ (Or.inl (tt_ne hk2 hk1 (by decide))) hf_135
            replace hf_140 := tr _ _ _ (Or.inl (tt_ne hk2 hk1 (by decide))) hf_140
            replace hf_143 := tr _ _ _ (Or.inl (tt_ne hk0 hk1 (by decide))) hf_143
            have hf_162 := hn
            replace hfr := hfr.put hk1 tr (by decide)
            refine jj_aload_n C dX2_takeDue_76 rfl ?_
            refine tt_get C hok_161 jk_2 10 (by decide) jw_319 (t := (2, 5, 0)) hk0 (by decide) rfl rfl dX2_takeDue_77 (fun v_163 hv_163 hf_164 => ?_)
            obtain ⟨a_165, rfl, ka_165⟩ := tt_vr hv_163
            refine jj_iconst (v := 0) C dX2_takeDue_80 (by decide) ?_
            refine jj_dup2 C dX2_takeDue_81 rfl rfl ?_
            refine tt_lald C hok_161 (t := (1, (-9223372036854775808), 9223372036854775807)) ka_165 (by decide) rfl (vp_in_iff.mpr (by decide)) dX2_takeDue_82 (fun v_166 hv_166 => ?_)
            refine jj_lload C dX2_takeDue_83 rfl ?_
            obtain ⟨y_167, ey_167⟩ : ∃ z : Int64, v_166 + (0 : Int64) = z := ⟨_, rfl⟩
            refine jj_ladd (v := y_167) C dX2_takeDue_85 ey_167 ?_
            refine tt_last C hok_161 (t := (1, (-9223372036854775808), 9223372036854775807)) ka_165 (by decide) rfl (vp_in_iff.mpr (by decide)) (tt_ja _) dX2_takeDue_86 (fun pl_168 hok_169 tr => ?_)
            replace hf_2 := tr _ _ _ hf_2
            replace hf_135 := tr _ _ _ hf_135
            replace hf_140 := tr _ _ _ hf_140
            replace hf_143 := tr _ _ _ hf_143
            replace hf_162 := tr _ _ _ hf_162
            replace hf_164 := tr _ _ _ hf_164
            replace hfr := hfr.arr tr
            refine jj_aload_n C dX2_takeDue_87 rfl ?_
            refine jj_dup C dX2_takeDue_88 rfl ?_
            refine tt_getF C hok_169 jk_5 3 (by decide) jw_711 (t := (1, (-9223372036854775808), 9223372036854775807)) hk2 (by decide) rfl rfl hf_140 dX2_takeDue_89 ?_
            refine jj_lload C dX2_takeDue_92 rfl ?_
            obtain ⟨y_170, ey_170⟩ : ∃ z : Int64, y_141 - y_152 = z := ⟨_, rfl⟩
            refine jj_lsub (v := y_170) C dX2_takeDue_94 ey_170 ?_
            refine tt_put C hok_169 jk_5 3 (by decide) jw_711 (t := (1, (-9223372036854775808), 9223372036854775807)) hk2 (by decide) rfl rfl rfl (tt_ja y_170) rfl rfl dX2_takeDue_95 (fun pl_171 hok_172 tr hn => ?_)
            replace hf_2 := tr _ _ _ (Or.inl (tt_ne hk1 hk2 (by decide))) hf_2
            replace hf_135 := tr _ _ _ (Or.inr (by decide)) hf_135
            replace hf_143 := tr _ _ _ (Or.inl (tt_ne hk0 hk2 (by decide))) hf_143
            replace hf_162 := tr _ _ _ (Or.inl (tt_ne hk1 hk2 (by decide))) hf_162
            replace hf_164 := tr _ _ _ (Or.inl (tt_ne hk0 hk2 (by decide))) hf_164
            have hf_173 := hn
            replace hfr := hfr.put hk2 tr (by decide)
            refine jj_aload_n C dX2_takeDue_98 rfl ?_
            refine jj_dup C dX2_takeDue_99 rfl ?_
            refine tt_get C hok_172 jk_9 3 (by decide) jw_712 (t := (1, (-9223372036854775808), 9223372036854775807)) hk1 (by decide) rfl rfl dX2_takeDue_100 (fun v_174 hv_174 hf_175 => ?_)
            obtain ⟨y_176, rfl, -, -⟩ := tt_vj hv_174
            refine jj_lload C dX2_takeDue_103 rfl ?_
            obtain ⟨y_177, ey_177⟩ : ∃ z : Int64, y_176 - y_152 = z := ⟨_, rfl⟩
            refine jj_lsub (v := y_177) C dX2_takeDue_105 ey_177 ?_
            refine tt_put C hok_172 jk_9 3 (by decide) jw_712 (t := (1, (-9223372036854775808), 9223372036854775807)) hk1 (by decide) rfl rfl rfl (tt_ja y_177) rfl rfl dX2_takeDue_106 (fun pl_178 hok_179 tr hn => ?_)
            replace hf_2 := tr _ _ _ (Or.inr (by decide)) hf_2
            replace hf_135 := tr _ _ _ (Or.inl (tt_ne hk2 hk1 (by decide))) hf_135
            replace hf_143 := tr _ _ _ (Or.inl (tt_ne hk0 hk1 (by decide))) hf_143
            replace hf_162 := tr _ _ _ (Or.inr (by decide)) hf_162
            replace hf_164 := tr _ _ _ (Or.inl (tt_ne hk0 hk1 (by decide))) hf_164
            replace hf_173 := tr _ _ _ (Or.inl (tt_ne hk2 hk1 (by decide))) hf_173
            have hf_180 := hn
            replace hfr := hfr.put hk1 tr (by decide)
            exact jj_vret C ⟨[], pl_178, rfl, rfl, hok_179, hfr, rfl⟩ dX2_takeDue_109 (jj_le rfl) (jj_le rfl)
          · refine jj_lstore C dX2_takeDue_63 (by decide) rfl ?_
            refine jj_aload_n C dX2_takeDue_65 rfl ?_
            refine jj_dup C dX2_takeDue_66 rfl ?_
            refine tt_get C hok_146 jk_9 2 (by decide) jw_321 (t := (1, (-9223372036854775808), 9223372036854775807)) hk1 (by decide) rfl rfl dX2_takeDue_67 (fun v_181 hv_181 hf_182 => ?_)
            obtain ⟨y_183, rfl, -, -⟩ := tt_vj hv_181
            refine jj_lload C dX2_takeDue_70 rfl ?_
            obtain ⟨y_184, ey_184⟩ : ∃ z : Int64, y_183 - (0 : Int64) = z := ⟨_, rfl⟩
            refine jj_lsub (v := y_184) C dX2_takeDue_72 ey_184 ?_
            refine tt_put C hok_146 jk_9 2 (by decide) jw_321 (t := (1, (-9223372036854775808), 9223372036854775807)) hk1 (by decide) rfl rfl rfl (tt_ja y_184) rfl rfl dX2_takeDue_73 (fun pl_185 hok_186 tr hn => ?_)
            replace hf_2 := tr _ _ _ (Or.inr (by decide)) hf_2
            replace hf_135 := tr _ _ _ (Or.inl (tt_ne hk2 hk1 (by decide))) hf_135
            replace hf_140 := tr _ _ _ (Or.inl (tt_ne hk2 hk1 (by decide))) hf_140
            replace hf_143 := tr _ _ _ (Or.inl (tt_ne hk0 hk1 (by decide))) hf_143
            have hf_187 := hn
            replace hfr := hfr.put hk1 tr (by decide)
            refine jj_aload_n C dX2_takeDue_76 rfl ?_
            refine tt_get C hok_186 jk_2 10 (by decide) jw_319 (t := (2, 5, 0)) hk0 (by decide) rfl rfl dX2_takeDue_77 (fun v_188 hv_188 hf_189 => ?_)
            obtain ⟨a_190, rfl, ka_190⟩ := tt_vr hv_188
            refine jj_iconst (v := 0) C dX2_takeDue_80 (by decide) ?_
            refine jj_dup2 C dX2_takeDue_81 rfl rfl ?_
            refine tt_lald C hok_186 (t := (1, (-9223372036854775808), 9223372036854775807)) ka_190 (by decide) rfl (vp_in_iff.mpr (by decide)) dX2_takeDue_82 (fun v_191 hv_191 => ?_)
            refine jj_lload C dX2_takeDue_83 rfl ?_
            obtain ⟨y_192, ey_192⟩ : ∃ z : Int64, v_191 + (0 : Int64) = z := ⟨_, rfl⟩
            refine jj_ladd (v := y_192) C dX2_takeDue_85 ey_192 ?_
            refine tt_last C hok_186 (t := (1, (-9223372036854775808), 9223372036854775807)) ka_190 (by decide) rfl (vp_in_iff.mpr (by decide)) (tt_ja _) dX2_takeDue_86 (fun pl_193 hok_194 tr => ?_)
            replace hf_2 := tr _ _ _ hf_2
            replace hf_135 := tr _ _ _ hf_135
            replace hf_140 := tr _ _ _ hf_140
            replace hf_143 := tr _ _ _ hf_143
            replace hf_187 := tr _ _ _ hf_187
            replace hf_189 := tr _ _ _ hf_189
            replace hfr := hfr.arr tr
            refine jj_aload_n C dX2_takeDue_87 rfl ?_
            refine jj_dup C dX2_takeDue_88 rfl ?_
            refine tt_getF C hok_194 jk_5 3 (by decide) jw_711 (t := (1, (-9223372036854775808), 9223372036854775807)) hk2 (by decide) rfl rfl hf_140 dX2_takeDue_89 ?_
            refine jj_lload C dX2_takeDue_92 rfl ?_
            obtain ⟨y_195, ey_195⟩ : ∃ z : Int64, y_141 - y_141 = z := ⟨_, rfl⟩
            refine jj_lsub (v := y_195) C dX2_takeDue_94 ey_195 ?_
            refine tt_put C hok_194 jk_5 3 (by decide) jw_711 (t := (1, (-9223372036854775808), 9223372036854775807)) hk2 (by decide) rfl rfl rfl (tt_ja y_195) rfl rfl dX2_takeDue_95 (fun pl_196 hok_197 tr hn => ?_)
            replace hf_2 := tr _ _ _ (Or.inl (tt_ne hk1 hk2 (by decide))) hf_2
            replace hf_135 := tr _ _ _ (Or.inr (by decide)) hf_135
            replace hf_143 := tr _ _ _ (Or.inl (tt_ne hk0 hk2 (by decide))) hf_143
            replace hf_187 := tr _ _ _ (Or.inl (tt_ne hk1 hk2 (by decide))) hf_187
            replace hf_189 := tr _ _ _ (Or.inl (tt_ne hk0 hk2 (by decide))) hf_189
            have hf_198 := hn
            replace hfr := hfr.put hk2 tr (by decide)
            refine jj_aload_n C dX2_takeDue_98 rfl ?_
            refine jj_dup C dX2_takeDue_99 rfl ?_
            refine tt_get C hok_197 jk_9 3 (by decide) jw_712 (t := (1, (-9223372036854775808), 9223372036854775807)) hk1 (by decide) rfl rfl dX2_takeDue_100 (fun v_199 hv_199 hf_200 => ?_)
            obtain ⟨y_201, rfl, -, -⟩ := tt_vj hv_199
            refine jj_lload C dX2_takeDue_103 rfl ?_
            obtain ⟨y_202, ey_202⟩ : ∃ z : Int64, y_201 - y_141 = z := ⟨_, rfl⟩
            refine jj_lsub (v := y_202) C dX2_takeDue_105 ey_202 ?_
            refine tt_put C hok_197 jk_9 3 (by decide) jw_712 (t := (1, (-9223372036854775808), 9223372036854775807)) hk1 (by decide) rfl rfl rfl (tt_ja y_202) rfl rfl dX2_takeDue_106 (fun pl_203 hok_204 tr hn => ?_)
            replace hf_2 := tr _ _ _ (Or.inr (by decide)) hf_2
            replace hf_135 := tr _ _ _ (Or.inl (tt_ne hk2 hk1 (by decide))) hf_135
            replace hf_143 := tr _ _ _ (Or.inl (tt_ne hk0 hk1 (by decide))) hf_143
            replace hf_187 := tr _ _ _ (Or.inr (by decide)) hf_187
            replace hf_189 := tr _ _ _ (Or.inl (tt_ne hk0 hk1 (by decide))) hf_189
            replace hf_198 := tr _ _ _ (Or.inl (tt_ne hk2 hk1 (by decide))) hf_198
            have hf_205 := hn
            replace hfr := hfr.put hk1 tr (by decide)
            exact jj_vret C ⟨[], pl_203, rfl, rfl, hok_204, hfr, rfl⟩ dX2_takeDue_109 (jj_le rfl) (jj_le rfl)
        · refine jj_lstore C dX2_takeDue_45 (by decide) rfl ?_
          refine jj_aload_n C dX2_takeDue_47 rfl ?_
          refine tt_getF C hok_146 jk_5 3 (by decide) jw_711 (t := (1, (-9223372036854775808), 9223372036854775807)) hk2 (by decide) rfl rfl hf_140 dX2_takeDue_48 ?_
          refine jj_lload C dX2_takeDue_51 rfl ?_
          refine jj_ldc2 (v := 100000) C dX2_takeDue_53 jw_177 ?_
          obtain ⟨y_206, ey_206⟩ : ∃ z : Int64, y_151 * (100000 : Int64) = z := ⟨_, rfl⟩
          refine jj_lmul (v := y_206) C dX2_takeDue_56 ey_206 ?_
          refine jj_lload C dX2_takeDue_57 rfl ?_
          obtain ⟨y_207, ey_207⟩ : ∃ z : Int64, y_206 / p4 = z := ⟨_, rfl⟩
          refine jj_ldiv (v := y_207) C dX2_takeDue_59 (jt_nzpL c_138) ey_207 ?_
          refine tt_call0S (rest := []) C (ct_J9_min_f86c9_1 hl D cA ak y_141 y_207) jw_710 jw_145 jw_144 jw_143 jn_J9_min_f86c9 rfl (jj_le rfl) (jj_le rfl) (jj_le rfl) (jj_le rfl) (jj_le rfl) dX2_takeDue_60 rfl (fun w1 r O_208 => ?_)
          rcases O_208 with ⟨c_209, -, rfl⟩ | ⟨c_210, -, rfl⟩
          · refine jj_lstore C dX2_takeDue_63 (by decide) rfl ?_
            refine jj_aload_n C dX2_takeDue_65 rfl ?_
            refine jj_dup C dX2_takeDue_66 rfl ?_
            refine tt_get C hok_146 jk_9 2 (by decide) jw_321 (t := (1, (-9223372036854775808), 9223372036854775807)) hk1 (by decide) rfl rfl dX2_takeDue_67 (fun v_211 hv_211 hf_212 => ?_)
            obtain ⟨y_213, rfl, -, -⟩ := tt_vj hv_211
            refine jj_lload C dX2_takeDue_70 rfl ?_
            obtain ⟨y_214, ey_214⟩ : ∃ z : Int64, y_213 - y_151 = z := ⟨_, rfl⟩
            refine jj_lsub (v := y_214) C dX2_takeDue_72 ey_214 ?_
            refine tt_put C hok_146 jk_9 2 (by decide) jw_321 (t := (1, (-9223372036854775808), 9223372036854775807)) hk1 (by decide) rfl rfl rfl (tt_ja y_214) rfl rfl dX2_takeDue_73 (fun pl_215 hok_216 tr hn => ?_)
            replace hf_2 := tr _ _ _ (Or.inr (by decide)) hf_2
            replace hf_135 := tr _ _ _ (Or.inl (tt_ne hk2 hk1 (by decide))) hf_135
            replace hf_140 := tr _ _ _ (Or.inl (tt_ne hk2 hk1 (by decide))) hf_140
            replace hf_143 := tr _ _ _ (Or.inl (tt_ne hk0 hk1 (by decide))) hf_143
            have hf_217 := hn
            replace hfr := hfr.put hk1 tr (by decide)
            refine jj_aload_n C dX2_takeDue_76 rfl ?_
            refine tt_get C hok_216 jk_2 10 (by decide) jw_319 (t := (2, 5, 0)) hk0 (by decide) rfl rfl dX2_takeDue_77 (fun v_218 hv_218 hf_219 => ?_)
            obtain ⟨a_220, rfl, ka_220⟩ := tt_vr hv_218
            refine jj_iconst (v := 0) C dX2_takeDue_80 (by decide) ?_
            refine jj_dup2 C dX2_takeDue_81 rfl rfl ?_
            refine tt_lald C hok_216 (t := (1, (-9223372036854775808), 9223372036854775807)) ka_220 (by decide) rfl (vp_in_iff.mpr (by decide)) dX2_takeDue_82 (fun v_221 hv_221 => ?_)
            refine jj_lload C dX2_takeDue_83 rfl ?_
            obtain ⟨y_222, ey_222⟩ : ∃ z : Int64, v_221 + y_151 = z := ⟨_, rfl⟩
            refine jj_ladd (v := y_222) C dX2_takeDue_85 ey_222 ?_
            refine tt_last C hok_216 (t := (1, (-9223372036854775808), 9223372036854775807)) ka_220 (by decide) rfl (vp_in_iff.mpr (by decide)) (tt_ja _) dX2_takeDue_86 (fun pl_223 hok_224 tr => ?_)
            replace hf_2 := tr _ _ _ hf_2
            replace hf_135 := tr _ _ _ hf_135
            replace hf_140 := tr _ _ _ hf_140
            replace hf_143 := tr _ _ _ hf_143
            replace hf_217 := tr _ _ _ hf_217
            replace hf_219 := tr _ _ _ hf_219
            replace hfr := hfr.arr tr
            refine jj_aload_n C dX2_takeDue_87 rfl ?_
            refine jj_dup C dX2_takeDue_88 rfl ?_
            refine tt_getF C hok_224 jk_5 3 (by decide) jw_711 (t := (1, (-9223372036854775808), 9223372036854775807)) hk2 (by decide) rfl rfl hf_140 dX2_takeDue_89 ?_
            refine jj_lload C dX2_takeDue_92 rfl ?_
            obtain ⟨y_225, ey_225⟩ : ∃ z : Int64, y_141 - y_207 = z := ⟨_, rfl⟩
            refine jj_lsub (v := y_225) C dX2_takeDue_94 ey_225 ?_
            refine tt_put C hok_224 jk_5 3 (by decide) jw_711 (t := (1, (-9223372036854775808), 9223372036854775807)) hk2 (by decide) rfl rfl rfl (tt_ja y_225) rfl rfl dX2_takeDue_95 (fun pl_226 hok_227 tr hn => ?_)
            replace hf_2 := tr _ _ _ (Or.inl (tt_ne hk1 hk2 (by decide))) hf_2
            replace hf_135 := tr _ _ _ (Or.inr (by decide)) hf_135
            replace hf_143 := tr _ _ _ (Or.inl (tt_ne hk0 hk2 (by decide))) hf_143
            replace hf_217 := tr _ _ _ (Or.inl (tt_ne hk1 hk2 (by decide))) hf_217
            replace hf_219 := tr _ _ _ (Or.inl (tt_ne hk0 hk2 (by decide))) hf_219
            have hf_228 := hn
            replace hfr := hfr.put hk2 tr (by decide)
            refine jj_aload_n C dX2_takeDue_98 rfl ?_
            refine jj_dup C dX2_takeDue_99 rfl ?_
            refine tt_get C hok_227 jk_9 3 (by decide) jw_712 (t := (1, (-9223372036854775808), 9223372036854775807)) hk1 (by decide) rfl rfl dX2_takeDue_100 (fun v_229 hv_229 hf_230 => ?_)
            obtain ⟨y_231, rfl, -, -⟩ := tt_vj hv_229
            refine jj_lload C dX2_takeDue_103 rfl ?_
            obtain ⟨y_232, ey_232⟩ : ∃ z : Int64, y_231 - y_207 = z := ⟨_, rfl⟩
            refine jj_lsub (v := y_232) C dX2_takeDue_105 ey_232 ?_
            refine tt_put C hok_227 jk_9 3 (by decide) jw_712 (t := (1, (-9223372036854775808), 9223372036854775807)) hk1 (by decide) rfl rfl rfl (tt_ja y_232) rfl rfl dX2_takeDue_106 (fun pl_233 hok_234 tr hn => ?_)
            replace hf_2 := tr _ _ _ (Or.inr (by decide)) hf_2
            replace hf_135 := tr _ _ _ (Or.inl (tt_ne hk2 hk1 (by decide))) hf_135
            replace hf_143 := tr _ _ _ (Or.inl (tt_ne hk0 hk1 (by decide))) hf_143
            replace hf_217 := tr _ _ _ (Or.inr (by decide)) hf_217
            replace hf_219 := tr _ _ _ (Or.inl (tt_ne hk0 hk1 (by decide))) hf_219
            replace hf_228 := tr _ _ _ (Or.inl (tt_ne hk2 hk1 (by decide))) hf_228
            have hf_235 := hn
            replace hfr := hfr.put hk1 tr (by decide)
            exact jj_vret C ⟨[], pl_233, rfl, rfl, hok_234, hfr, rfl⟩ dX2_takeDue_109 (jj_le rfl) (jj_le rfl)
          · refine jj_lstore C dX2_takeDue_63 (by decide) rfl ?_
            refine jj_aload_n C dX2_takeDue_65 rfl ?_
            refine jj_dup C dX2_takeDue_66 rfl ?_
            refine tt_get C hok_146 jk_9 2 (by decide) jw_321 (t := (1, (-9223372036854775808), 9223372036854775807)) hk1 (by decide) rfl rfl dX2_takeDue_67 (fun v_236 hv_236 hf_237 => ?_)
            obtain ⟨y_238, rfl, -, -⟩ := tt_vj hv_236
            refine jj_lload C dX2_takeDue_70 rfl ?_
            obtain ⟨y_239, ey_239⟩ : ∃ z : Int64, y_238 - y_151 = z := ⟨_, rfl⟩
            refine jj_lsub (v := y_239) C dX2_takeDue_72 ey_239 ?_
            refine tt_put C hok_146 jk_9 2 (by decide) jw_321 (t := (1, (-9223372036854775808), 9223372036854775807)) hk1 (by decide) rfl rfl rfl (tt_ja y_239) rfl rfl dX2_takeDue_73 (fun pl_240 hok_241 tr hn => ?_)
            replace hf_2 := tr _ _ _ (Or.inr (by decide)) hf_2
            replace hf_135 := tr _ _ _ (Or.inl (tt_ne hk2 hk1 (by decide))) hf_135
            replace hf_140 := tr _ _ _ (Or.inl (tt_ne hk2 hk1 (by decide))) hf_140
            replace hf_143 := tr _ _ _ (Or.inl (tt_ne hk0 hk1 (by decide))) hf_143
            have hf_242 := hn
            replace hfr := hfr.put hk1 tr (by decide)
            refine jj_aload_n C dX2_takeDue_76 rfl ?_
            refine tt_get C hok_241 jk_2 10 (by decide) jw_319 (t := (2, 5, 0)) hk0 (by decide) rfl rfl dX2_takeDue_77 (fun v_243 hv_243 hf_244 => ?_)
            obtain ⟨a_245, rfl, ka_245⟩ := tt_vr hv_243
            refine jj_iconst (v := 0) C dX2_takeDue_80 (by decide) ?_
            refine jj_dup2 C dX2_takeDue_81 rfl rfl ?_
            refine tt_lald C hok_241 (t := (1, (-9223372036854775808), 9223372036854775807)) ka_245 (by decide) rfl (vp_in_iff.mpr (by decide)) dX2_takeDue_82 (fun v_246 hv_246 => ?_)
            refine jj_lload C dX2_takeDue_83 rfl ?_
            obtain ⟨y_247, ey_247⟩ : ∃ z : Int64, v_246 + y_151 = z := ⟨_, rfl⟩
            refine jj_ladd (v := y_247) C dX2_takeDue_85 ey_247 ?_
            refine tt_last C hok_241 (t := (1, (-9223372036854775808), 9223372036854775807)) ka_245 (by decide) rfl (vp_in_iff.mpr (by decide)) (tt_ja _) dX2_takeDue_86 (fun pl_248 hok_249 tr => ?_)
            replace hf_2 := tr _ _ _ hf_2
            replace hf_135 := tr _ _ _ hf_135
            replace hf_140 := tr _ _ _ hf_140
            replace hf_143 := tr _ _ _ hf_143
            replace hf_242 := tr _ _ _ hf_242
            replace hf_244 := tr _ _ _ hf_244
            replace hfr := hfr.arr tr
            refine jj_aload_n C dX2_takeDue_87 rfl ?_
            refine jj_dup C dX2_takeDue_88 rfl ?_
            refine tt_getF C hok_249 jk_5 3 (by decide) jw_711 (t := (1, (-9223372036854775808), 9223372036854775807)) hk2 (by decide) rfl rfl hf_140 dX2_takeDue_89 ?_
            refine jj_lload C dX2_takeDue_92 rfl ?_
            obtain ⟨y_250, ey_250⟩ : ∃ z : Int64, y_141 - y_141 = z := ⟨_, rfl⟩
            refine jj_lsub (v := y_250) C dX2_takeDue_94 ey_250 ?_
            refine tt_put C hok_249 jk_5 3 (by decide) jw_711 (t := (1, (-9223372036854775808), 9223372036854775807)) hk2 (by decide) rfl rfl rfl (tt_ja y_250) rfl rfl dX2_takeDue_95 (fun pl_251 hok_252 tr hn => ?_)
            replace hf_2 := tr _ _ _ (Or.inl (tt_ne hk1 hk2 (by decide))) hf_2
            replace hf_135 := tr _ _ _ (Or.inr (by decide)) hf_135
            replace hf_143 := tr _ _ _ (Or.inl (tt_ne hk0 hk2 (by decide))) hf_143
            replace hf_242 := tr _ _ _ (Or.inl (tt_ne hk1 hk2 (by decide))) hf_242
            replace hf_244 := tr _ _ _ (Or.inl (tt_ne hk0 hk2 (by decide))) hf_244
            have hf_253 := hn
            replace hfr := hfr.put hk2 tr (by decide)
            refine jj_aload_n C dX2_takeDue_98 rfl ?_
            refine jj_dup C dX2_takeDue_99 rfl ?_
            refine tt_get C hok_252 jk_9 3 (by decide) jw_712 (t := (1, (-9223372036854775808), 9223372036854775807)) hk1 (by decide) rfl rfl dX2_takeDue_100 (fun v_254 hv_254 hf_255 => ?_)
            obtain ⟨y_256, rfl, -, -⟩ := tt_vj hv_254
            refine jj_lload C dX2_takeDue_103 rfl ?_
            obtain ⟨y_257, ey_257⟩ : ∃ z : Int64, y_256 - y_141 = z := ⟨_, rfl⟩
            refine jj_lsub (v := y_257) C dX2_takeDue_105 ey_257 ?_
            refine tt_put C hok_252 jk_9 3 (by decide) jw_712 (t := (1, (-9223372036854775808), 9223372036854775807)) hk1 (by decide) rfl rfl rfl (tt_ja y_257) rfl rfl dX2_takeDue_106 (fun pl_258 hok_259 tr hn => ?_)
            replace hf_2 := tr _ _ _ (Or.inr (by decide)) hf_2
            replace hf_135 := tr _ _ _ (Or.inl (tt_ne hk2 hk1 (by decide))) hf_135
            replace hf_143 := tr _ _ _ (Or.inl (tt_ne hk0 hk1 (by decide))) hf_143
            replace hf_242 := tr _ _ _ (Or.inr (by decide)) hf_242
            replace hf_244 := tr _ _ _ (Or.inl (tt_ne hk0 hk1 (by decide))) hf_244
            replace hf_253 := tr _ _ _ (Or.inl (tt_ne hk2 hk1 (by decide))) hf_253
            have hf_260 := hn
            replace hfr := hfr.put hk1 tr (by decide)
            exact jj_vret C ⟨[], pl_258, rfl, rfl, hok_259, hfr, rfl⟩ dX2_takeDue_109 (jj_le rfl) (jj_le rfl)
      · exact jj_vret C ⟨[], pl0, rfl, rfl, hok, hfr, rfl⟩ dX2_takeDue_27 (jj_le rfl) (jj_le rfl)

set_option maxHeartbeats 4000000 in
set_option maxRecDepth 100000 in
theorem tc_X2_settleSeries_1 {l : Launch} (hl : l.stackTraces = false) (D : va_G) (cA : Nat → ClassId) (ak : (Nat → Nat) × (Nat → Nat)) {Kd : Nat → Nat} (h0 : Nat) (h1 : Nat) (hk0 : Kd h0 = 1) (hk1 : Kd h1 = 2) {pl0 : va_W} (hok : tt_ok tt_tk cA Kd pl0) : jj_M l D cA ak yX2_settleSeries (.code yX2_settleSeries cX2_settleSeries 10 none) 2 58 0 0 ([] ++ pl0) [.ref h0, .ref h1] (tt_O (fun rx pl1 r => rx = [] ∧ tt_ok tt_tk cA Kd pl1 ∧ tt_fr Kd [(2, 2), (2, 3), (2, 4), (3, 3), (3, 4), (3, 5)] pl0 pl1 ∧ ((r = none)))) (tt_OX (fun _ _ _ => False)) := by
  refine jj_start hl (by decide) jw_696 (jj_le rfl) ?_
  intro p e s m args below meth c A hargs hA C hex hmn
  have hfr := tt_fr.refl (K := Kd) (WS := [(2, 2), (2, 3), (2, 4), (3, 3), (3, 4), (3, 5)]) pl0
  refine jj_aload_n C dX2_settleSeries_0 rfl ?_
  obtain ⟨qc, gs, hqc⟩ := tt_recv (cx := []) hok hk1 (by decide) rfl
  refine tt_callV (rest := []) C (tc_X8_grossPrice_1 hl D cA ak h1 hk1 hok) [] [] rfl rfl (by decide) (by decide) (by decide) qc hqc rfl rfl jw_697 jw_169 jw_170 jw_92 jw_167 jn_X8_grossPrice rfl (jj_le rfl) (jj_le rfl) (jj_le rfl) (jj_le rfl) (jj_le rfl) dX2_settleSeries_1 rfl (fun _ _ _ hX => hX.elim) (fun rx pl_1 r O_4 => ?_)
  obtain ⟨rfl, hok_2, hr_3, hR_6⟩ := O_4
  replace hfr := hfr.trans (hr_3.sub (by decide))
  rcases hR_6 with rfl | ⟨y_7, rfl⟩
  · refine jj_lstore_n C dX2_settleSeries_4 (by decide) rfl ?_
    refine jj_aload_n C dX2_settleSeries_5 rfl ?_
    refine jj_aload_n C dX2_settleSeries_6 rfl ?_
    refine tt_get C hok_2 jk_2 3 (by decide) jw_698 (t := (0, (-2147483648), 2147483647)) hk0 (by decide) rfl rfl dX2_settleSeries_7 (fun v_8 hv_8 hf_9 => ?_)
    obtain ⟨x_10, rfl, lx_10, ux_10⟩ := tt_vi hv_8
    obtain ⟨qc, gs, hqc⟩ := tt_recv (cx := []) hok_2 hk1 (by decide) rfl
    refine tt_callV (rest := []) C (tc_X8_accruedFee_1 hl D cA ak h1 x_10 hk1 hok_2) [] [] rfl rfl (by decide) (by decide) (by decide) qc hqc rfl rfl jw_699 jw_154 jw_155 jw_92 jw_151 jn_X8_accruedFee rfl (jj_le rfl) (jj_le rfl) (jj_le rfl) (jj_le rfl) (jj_le rfl) dX2_settleSeries_10 rfl (fun _ _ _ hX => hX.elim) (fun rx pl_11 r O_14 => ?_)
    obtain ⟨rfl, hok_12, hr_13, hR_16⟩ := O_14
    replace hf_9 := hr_13.at hk0 (by decide) (by decide) hf_9
    replace hfr := hfr.trans (hr_13.sub (by decide))
    rcases hR_16 with rfl | ⟨y_17, rfl⟩
    · refine jj_lstore C dX2_settleSeries_13 (by decide) rfl ?_
      refine jj_aload_n C dX2_settleSeries_15 rfl ?_
      refine jj_dup C dX2_settleSeries_16 rfl ?_
      refine tt_get C hok_12 jk_9 2 (by decide) jw_321 (t := (1, (-9223372036854775808), 9223372036854775807)) hk1 (by decide) rfl rfl dX2_settleSeries_17 (fun v_18 hv_18 hf_19 => ?_)
      obtain ⟨y_20, rfl, -, -⟩ := tt_vj hv_18
      refine jj_lload C dX2_settleSeries_20 rfl ?_
      obtain ⟨y_21, ey_21⟩ : ∃ z : Int64, y_20 - (0 : Int64) = z := ⟨_, rfl⟩
      refine jj_lsub (v := y_21) C dX2_settleSeries_22 ey_21 ?_
      refine tt_put C hok_12 jk_9 2 (by decide) jw_321 (t := (1, (-9223372036854775808), 9223372036854775807)) hk1 (by decide) rfl rfl rfl (tt_ja y_21) rfl rfl dX2_settleSeries_23 (fun pl_22 hok_23 tr hn => ?_)
      replace hf_9 := tr _ _ _ (Or.inl (tt_ne hk0 hk1 (by decide))) hf_9
      have hf_24 := hn
      replace hfr := hfr.put hk1 tr (by decide)
      refine jj_aload_n C dX2_settleSeries_26 rfl ?_
      refine tt_get C hok_23 jk_2 10 (by decide) jw_319 (t := (2, 5, 0)) hk0 (by decide) rfl rfl dX2_settleSeries_27 (fun v_25 hv_25 hf_26 => ?_)
      obtain ⟨a_27, rfl, ka_27⟩ := tt_vr hv_25
      refine jj_iconst (v := 0) C dX2_settleSeries_30 (by decide) ?_
      refine jj_dup2 C dX2_settleSeries_31 rfl rfl ?_
      refine tt_lald C hok_23 (t := (1, (-9223372036854775808), 9223372036854775807)) ka_27 (by decide) rfl (vp_in_iff.mpr (by decide)) dX2_settleSeries_32 (fun v_28 hv_28 => ?_)
      refine jj_lload C dX2_settleSeries_33 rfl ?_
      obtain ⟨y_29, ey_29⟩ : ∃ z : Int64, v_28 + (0 : Int64) = z := ⟨_, rfl⟩
      refine jj_ladd (v := y_29) C dX2_settleSeries_35 ey_29 ?_
      refine tt_last C hok_23 (t := (1, (-9223372036854775808), 9223372036854775807)) ka_27 (by decide) rfl (vp_in_iff.mpr (by decide)) (tt_ja _) dX2_settleSeries_36 (fun pl_30 hok_31 tr => ?_)
      replace hf_9 := tr _ _ _ hf_9
      replace hf_24 := tr _ _ _ hf_24
      replace hf_26 := tr _ _ _ hf_26
      replace hfr := hfr.arr tr
      refine jj_aload_n C dX2_settleSeries_37 rfl ?_
      obtain ⟨qc, gs, hqc⟩ := tt_recv (cx := []) hok_31 hk1 (by decide) rfl
      refine tt_callV (rest := []) C (tc_X8_grossPrice_1 hl D cA ak h1 hk1 hok_31) [] [] rfl rfl (by decide) (by decide) (by decide) qc hqc rfl rfl jw_697 jw_169 jw_170 jw_92 jw_167 jn_X8_grossPrice rfl (jj_le rfl) (jj_le rfl) (jj_le rfl) (jj_le rfl) (jj_le rfl) dX2_settleSeries_38 rfl (fun _ _ _ hX => hX.elim) (fun rx pl_32 r O_35 => ?_)
      obtain ⟨rfl, hok_33, hr_34, hR_37⟩ := O_35
      replace hf_9 := hr_34.at hk0 (by decide) (by decide) hf_9
      replace hf_24 := hr_34.at hk1 (by decide) (by decide) hf_24
      replace hf_26 := hr_34.at hk0 (by decide) (by decide) hf_26
      replace hfr := hfr.trans (hr_34.sub (by decide))
      rcases hR_37 with rfl | ⟨y_38, rfl⟩
      · refine jj_lstore C dX2_settleSeries_41 (by decide) rfl ?_
        refine jj_iconst (v := 0) C dX2_settleSeries_43 (by decide) ?_
        refine jj_istore C dX2_settleSeries_44 (by decide) rfl ?_
        have hL_39 : ∀ (N : Nat) (pl : va_W) (x_40 : Int32), True → tt_ok tt_tk cA Kd pl → tt_fr Kd [(2, 2), (2, 3), (2, 4), (3, 3), (3, 4), (3, 5)] pl0 pl → tt_at pl h0 3 (.int x_10) → tt_at pl h0 10 (.ref a_27) → (0 : Int) ≤ x_40.toInt → x_40.toInt ≤ 40 → (2147483648 - x_40.toInt ≤ (N : Int)) → jj_J p l e (jj_rm 2 58 0 0) s m args below meth c 10 A (vx_MQ below (jj_q D A (tt_O (fun rx pl1 r => rx = [] ∧ tt_ok tt_tk cA Kd pl1 ∧ tt_fr Kd [(2, 2), (2, 3), (2, 4), (3, 3), (3, 4), (3, 5)] pl0 pl1 ∧ ((r = none))))) (jj_x D A (tt_OX (fun _ _ _ => False))) args s 0 0 A) (jj_X D A ([] ++ pl)) 0 0 46 [(8, .int x_40), (6, .long 1000000), (4, .long 0), (2, .long 1000000), (0, .ref h0), (1, .ref h1)] [] := by
          intro NL_39
          induction NL_39 with
          | zero => intro pl x_40 _ hok hfr hf_41 hf_42 lx_40 ux_40 hNL_39; exfalso; omega
          | succ NL_39 ihL_39 =>
            intro pl x_40 _ hok hfr hf_41 hf_42 lx_40 ux_40 hNL_39
            replace ihL_39 := fun pl x_40 h1 => ihL_39 pl x_40 trivial h1
            refine jj_iload C dX2_settleSeries_46 rfl ?_
            refine jj_aload_n C dX2_settleSeries_48 rfl ?_
            refine tt_get C hok jk_2 8 (by decide) jw_700 (t := (0, 0, 40)) hk0 (by decide) rfl rfl dX2_settleSeries_49 (fun v_43 hv_43 hf_44 => ?_)
            obtain ⟨x_45, rfl, lx_45, ux_45⟩ := tt_vi hv_43
            refine jj_icmp_ge (tgt := 123) C dX2_settleSeries_52 (by decide) (fun c_46 => ?_) (fun c_46 => ?_)
            · have z_c_46 := jc_le (a := (x_45).toInt) (b := (x_40).toInt) c_46 rfl rfl
              refine jj_lload C dX2_settleSeries_123 rfl ?_
              refine jj_lconst (v := 0) C dX2_settleSeries_125 (by decide) ?_
              refine jj_lcmp_leT (tgt := 136) C dX2_settleSeries_126 dX2_settleSeries_127 (by decide) (by decide) ?_
              exact jj_vret C ⟨[], pl, rfl, rfl, hok, hfr, rfl⟩ dX2_settleSeries_136 (jj_le rfl) (jj_le rfl)
            · have z_c_46 := jc_nle (a := (x_45).toInt) (b := (x_40).toInt) c_46 rfl rfl
              refine jj_aload_n C dX2_settleSeries_55 rfl ?_
              refine tt_get C hok jk_2 12 (by decide) jw_701 (t := (2, 7, 0)) hk0 (by decide) rfl rfl dX2_settleSeries_56 (fun v_47 hv_47 hf_48 => ?_)
              obtain ⟨a_49, rfl, ka_49⟩ := tt_vr hv_47
              refine jj_iload C dX2_settleSeries_59 rfl ?_
              refine tt_aald C hok (t := (2, 3, 0)) ka_49 (by decide) rfl rfl rfl (vp_in_iff.mpr ⟨by omega, by omega⟩) dX2_settleSeries_61 (fun v_50 hv_50 => ?_)
              obtain ⟨a_51, rfl, ka_51⟩ := tt_vr hv_50
              refine jj_astore C dX2_settleSeries_62 (by decide) rfl ?_
              refine jj_aload C dX2_settleSeries_64 rfl ?_
              refine tt_get C hok jk_5 1 (by decide) jw_702 (t := (0, (-2147483648), 2147483647)) ka_51 (by decide) rfl rfl dX2_settleSeries_66 (fun v_52 hv_52 hf_53 => ?_)
              obtain ⟨x_54, rfl, lx_54, ux_54⟩ := tt_vi hv_52
              refine jj_aload_n C dX2_settleSeries_69 rfl ?_
              refine tt_get C hok jk_9 0 (by decide) jw_703 (t := (0, (-2147483648), 2147483647)) hk1 (by decide) rfl rfl dX2_settleSeries_70 (fun v_55 hv_55 hf_56 => ?_)
              obtain ⟨x_57, rfl, lx_57, ux_57⟩ := tt_vi hv_55
              refine jj_icmp_ne (tgt := 117) C dX2_settleSeries_73 (by decide) (fun c_58 => ?_) (fun c_58 => ?_)
              · have z_c_58 := jc_neq (a := (x_54).toInt) (b := (x_57).toInt) c_58 rfl rfl
                obtain ⟨x_59, ex_59, vx_59⟩ := tt_inc (x := x_40) (n := 1) (by omega) (by omega)
                refine jj_iinc (v := x_59) C dX2_settleSeries_117 rfl ex_59 (by decide) rfl ?_
                refine jj_goto (tgt := 46) C dX2_settleSeries_120 (by decide) ?_
                refine jj_loc [0, 2, 3, 4, 5, 6] rfl ?_
                exact ihL_39 pl x_59 hok hfr hf_41 hf_42 (by first | omega | decide | exact tt_lo _ | exact tt_hi _) (by first | omega | decide | exact tt_lo _ | exact tt_hi _) (by first | omega | decide | exact tt_lo _ | exact tt_hi _)
              · have z_c_58 := jc_eq (a := (x_54).toInt) (b := (x_57).toInt) c_58 rfl rfl
                refine jj_aload_n C dX2_settleSeries_76 rfl ?_
                refine tt_get C hok jk_2 1 (by decide) jw_704 (t := (0, (-2147483648), 2147483647)) hk0 (by decide) rfl rfl dX2_settleSeries_77 (fun v_60 hv_60 hf_61 => ?_)
                obtain ⟨x_62, rfl, lx_62, ux_62⟩ := tt_vi hv_60
                refine jj_iconst (v := 1) C dX2_settleSeries_80 (by decide) ?_
                refine jj_icmp_ne (tgt := 104) C dX2_settleSeries_81 (by decide) (fun c_63 => ?_) (fun c_63 => ?_)
                · have z_c_63 := jc_neq (a := (x_62).toInt) (b := (1)) c_63 rfl (by decide)
                  refine jj_aload C dX2_settleSeries_104 rfl ?_
                  refine jj_lload C dX2_settleSeries_106 rfl ?_
                  refine tt_put C hok jk_5 4 (by decide) jw_705 (t := (1, (-9223372036854775808), 9223372036854775807)) ka_51 (by decide) rfl rfl rfl (tt_ja (1000000 : Int64)) rfl rfl dX2_settleSeries_108 (fun pl_64 hok_65 tr hn => ?_)
                  replace hf_41 := tr _ _ _ (Or.inl (tt_ne hk0 ka_51 (by decide))) hf_41
                  replace hf_42 := tr _ _ _ (Or.inl (tt_ne hk0 ka_51 (by decide))) hf_42
                  replace hf_44 := tr _ _ _ (Or.inl (tt_ne hk0 ka_51 (by decide))) hf_44
                  replace hf_48 := tr _ _ _ (Or.inl (tt_ne hk0 ka_51 (by decide))) hf_48
                  replace hf_53 := tr _ _ _ (Or.inr (by decide)) hf_53
                  replace hf_56 := tr _ _ _ (Or.inl (tt_ne hk1 ka_51 (by decide))) hf_56
                  replace hf_61 := tr _ _ _ (Or.inl (tt_ne hk0 ka_51 (by decide))) hf_61
                  have hf_66 := hn
                  replace hfr := hfr.put ka_51 tr (by decide)
                  refine jj_aload C dX2_settleSeries_111 rfl ?_
                  refine jj_lconst (v := 0) C dX2_settleSeries_113 (by decide) ?_
                  refine tt_put C hok_65 jk_5 5 (by decide) jw_706 (t := (1, (-9223372036854775808), 9223372036854775807)) ka_51 (by decide) rfl rfl rfl (tt_ja (0 : Int64)) rfl rfl dX2_settleSeries_114 (fun pl_67 hok_68 tr hn => ?_)
                  replace hf_41 := tr _ _ _ (Or.inl (tt_ne hk0 ka_51 (by decide))) hf_41
                  replace hf_42 := tr _ _ _ (Or.inl (tt_ne hk0 ka_51 (by decide))) hf_42
                  replace hf_44 := tr _ _ _ (Or.inl (tt_ne hk0 ka_51 (by decide))) hf_44
                  replace hf_48 := tr _ _ _ (Or.inl (tt_ne hk0 ka_51 (by decide))) hf_48
                  replace hf_53 := tr _ _ _ (Or.inr (by decide)) hf_53
                  replace hf_56 := tr _ _ _ (Or.inl (tt_ne hk1 ka_51 (by decide))) hf_56
                  replace hf_61 := tr _ _ _ (Or.inl (tt_ne hk0 ka_51 (by decide))) hf_61
                  replace hf_66 := tr _ _ _ (Or.inr (by decide)) hf_66
                  have hf_69 := hn
                  replace hfr := hfr.put ka_51 tr (by decide)
                  obtain ⟨x_70, ex_70, vx_70⟩ := tt_inc (x := x_40) (n := 1) (by omega) (by omega)
                  refine jj_iinc (v := x_70) C dX2_settleSeries_117 rfl ex_70 (by decide) rfl ?_
                  refine jj_goto (tgt := 46) C dX2_settleSeries_120 (by decide) ?_
                  refine jj_loc [0, 2, 3, 4, 5, 6] rfl ?_
                  exact ihL_39 pl_67 x_70 hok_68 hfr hf_41 hf_42 (by first | omega | decide | exact tt_lo _ | exact tt_hi _) (by first | omega | decide | exact tt_lo _ | exact tt_hi _) (by first | omega | decide | exact tt_lo _ | exact tt_hi _)
                · have z_c_63 := jc_eq (a := (x_62).toInt) (b := (1)) c_63 rfl (by decide)
                  refine jj_aload_n C dX2_settleSeries_84 rfl ?_
                  refine jj_aload_n C dX2_settleSeries_85 rfl ?_
                  refine jj_aload C dX2_settleSeries_86 rfl ?_
                  refine jj_lload_n C dX2_settleSeries_88 rfl ?_
                  refine jj_lload C dX2_settleSeries_89 rfl ?_
                  refine tt_callS (rest := []) C (tc_X2_giveBack_1 hl D cA ak h0 h1 a_51 hk0 hk1 ka_51 hok) [] [] rfl rfl (by decide) (by decide) (by decide) jw_707 jw_713 jw_175 jw_708 jn_X2_giveBack rfl (jj_le rfl) (jj_le rfl) (jj_le rfl) (jj_le rfl) (jj_le rfl) dX2_settleSeries_91 rfl (fun _ _ _ hX => hX.elim) (fun rx pl_71 r O_74 => ?_)
                  obtain ⟨rfl, hok_72, hr_73, hR_76⟩ := O_74
                  replace hf_41 := hr_73.at hk0 (by decide) (by decide) hf_41
                  replace hf_42 := hr_73.at hk0 (by decide) (by decide) hf_42
                  replace hf_44 := hr_73.at hk0 (by decide) (by decide) hf_44
                  replace hf_48 := hr_73.at hk0 (by decide) (by decide) hf_48
                  replace hf_53 := hr_73.at ka_51 (by decide) (by decide) hf_53
                  replace hf_56 := hr_73.at hk1 (by decide) (by decide) hf_56
                  replace hf_61 := hr_73.at hk0 (by decide) (by decide) hf_61
                  replace hfr := hfr.trans (hr_73.sub (by decide))
                  obtain rfl := hR_76
                  refine jj_aload_n C dX2_settleSeries_94 rfl ?_
                  refine jj_aload_n C dX2_settleSeries_95 rfl ?_
                  refine jj_aload C dX2_settleSeries_96 rfl ?_
                  refine jj_lload_n C dX2_settleSeries_98 rfl ?_
                  refine jj_lload C dX2_settleSeries_99 rfl ?_
                  refine tt_callS (rest := []) C (tc_X2_takeDue_1 hl D cA ak h0 h1 a_51 hk0 hk1 ka_51 hok_72) [] [] rfl rfl (by decide) (by decide) (by decide) jw_715 jw_718 jw_175 jw_716 jn_X2_takeDue rfl (jj_le rfl) (jj_le rfl) (jj_le rfl) (jj_le rfl) (jj_le rfl) dX2_settleSeries_101 rfl (fun _ _ _ hX => hX.elim) (fun rx pl_77 r O_80 => ?_)
                  obtain ⟨rfl, hok_78, hr_79, hR_82⟩ := O_80
                  replace hf_41 := hr_79.at hk0 (by decide) (by decide) hf_41
                  replace hf_42 := hr_79.at hk0 (by decide) (by decide) hf_42
                  replace hf_44 := hr_79.at hk0 (by decide) (by decide) hf_44
                  replace hf_48 := hr_79.at hk0 (by decide) (by decide) hf_48
                  replace hf_53 := hr_79.at ka_51 (by decide) (by decide) hf_53
                  replace hf_56 := hr_79.at hk1 (by decide) (by decide) hf_56
                  replace hf_61 := hr_79.at hk0 (by decide) (by decide) hf_61
                  replace hfr := hfr.trans (hr_79.sub (by decide))
                  obtain rfl := hR_82
                  refine jj_aload C dX2_settleSeries_104 rfl ?_
                  refine jj_lload C dX2_settleSeries_106 rfl ?_
                  refine tt_put C hok_78 jk_5 4 (by decide) jw_705 (t := (1, (-9223372036854775808), 9223372036854775807)) ka_51 (by decide) rfl rfl rfl (tt_ja (1000000 : Int64)) rfl rfl dX2_settleSeries_108 (fun pl_83 hok_84 tr hn => ?_)
                  replace hf_41 := tr _ _ _ (Or.inl (tt_ne hk0 ka_51 (by decide))) hf_41
                  replace hf_42 := tr _ _ _ (Or.inl (tt_ne hk0 ka_51 (by decide))) hf_42
                  replace hf_44 := tr _ _ _ (Or.inl (tt_ne hk0 ka_51 (by decide))) hf_44
                  replace hf_48 := tr _ _ _ (Or.inl (tt_ne hk0 ka_51 (by decide))) hf_48
                  replace hf_53 := tr _ _ _ (Or.inr (by decide)) hf_53
                  replace hf_56 := tr _ _ _ (Or.inl (tt_ne hk1 ka_51 (by decide))) hf_56
                  replace hf_61 := tr _ _ _ (Or.inl (tt_ne hk0 ka_51 (by decide))) hf_61
                  have hf_85 := hn
                  replace hfr := hfr.put ka_51 tr (by decide)
                  refine jj_aload C dX2_settleSeries_111 rfl ?_
                  refine jj_lconst (v := 0) C dX2_settleSeries_113 (by decide) ?_
                  refine tt_put C hok_84 jk_5 5 (by decide) jw_706 (t := (1, (-9223372036854775808), 9223372036854775807)) ka_51 (by decide) rfl rfl rfl (tt_ja (0 : Int64)) rfl rfl dX2_settleSeries_114 (fun pl_86 hok_87 tr hn => ?_)
                  replace hf_41 := tr _ _ _ (Or.inl (tt_ne hk0 ka_51 (by decide))) hf_41
                  replace hf_42 := tr _ _ _ (Or.inl (tt_ne hk0 ka_51 (by decide))) hf_42
                  replace hf_44 := tr _ _ _ (Or.inl (tt_ne hk0 ka_51 (by decide))) hf_44
                  replace hf_48 := tr _ _ _ (Or.inl (tt_ne hk0 ka_51 (by decide))) hf_48
                  replace hf_53 := tr _ _ _ (Or.inr (by decide)) hf_53
                  replace hf_56 := tr _ _ _ (Or.inl (tt_ne hk1 ka_51 (by decide))) hf_56
                  replace hf_61 := tr _ _ _ (Or.inl (tt_ne hk0 ka_51 (by decide))) hf_61
                  replace hf_85 := tr _ _ _ (Or.inr (by decide)) hf_85
                  have hf_88 := hn
                  replace hfr := hfr.put ka_51 tr (by decide)
                  obtain ⟨x_89, ex_89, vx_89⟩ := tt_inc (x := x_40) (n := 1) (by omega) (by omega)
                  refine jj_iinc (v := x_89) C dX2_settleSeries_117 rfl ex_89 (by decide) rfl ?_
                  refine jj_goto (tgt := 46) C dX2_settleSeries_120 (by decide) ?_
                  refine jj_loc [0, 2, 3, 4, 5, 6] rfl ?_
                  exact ihL_39 pl_86 x_89 hok_87 hfr hf_41 hf_42 (by first | omega | decide | exact tt_lo _ | exact tt_hi _) (by first | omega | decide | exact tt_lo _ | exact tt_hi _) (by first | omega | decide | exact tt_lo _ | exact tt_hi _)
        exact hL_39 _ pl_32 (0 : Int32) trivial hok_33 hfr hf_9 hf_26 (by first | omega | decide | exact tt_lo _ | exact tt_hi _) (by first | omega | decide | exact tt_lo _ | exact tt_hi _) (Int.self_le_toNat _)
      · refine jj_lstore C dX2_settleSeries_41 (by decide) rfl ?_
        refine jj_iconst (v := 0) C dX2_settleSeries_43 (by decide) ?_
        refine jj_istore C dX2_settleSeries_44 (by decide) rfl ?_
        have hL_90 : ∀ (N : Nat) (pl : va_W) (x_91 : Int32), True → tt_ok tt_tk cA Kd pl → tt_fr Kd [(2, 2), (2, 3), (2, 4), (3, 3), (3, 4), (3, 5)] pl0 pl → tt_at pl h0 3 (.int x_10) → tt_at pl h0 10 (.ref a_27) → (0 : Int) ≤ x_91.toInt → x_91.toInt ≤ 40 → (2147483648 - x_91.toInt ≤ (N : Int)) → jj_J p l e (jj_rm 2 58 0 0) s m args below meth c 10 A (vx_MQ below (jj_q D A (tt_O (fun rx pl1 r => rx = [] ∧ tt_ok tt_tk cA Kd pl1 ∧ tt_fr Kd [(2, 2), (2, 3), (2, 4), (3, 3), (3, 4), (3, 5)] pl0 pl1 ∧ ((r = none))))) (jj_x D A (tt_OX (fun _ _ _ => False))) args s 0 0 A) (jj_X D A ([] ++ pl)) 0 0 46 [(8, .int x_91), (6, .long y_38), (4, .long 0), (2, .long 1000000), (0, .ref h0), (1, .ref h1)] [] := by
          intro NL_90
          induction NL_90 with
          | zero => intro pl x_91 _ hok hfr hf_92 hf_93 lx_91 ux_91 hNL_90; exfalso; omega
          | succ NL_90 ihL_90 =>
            intro pl x_91 _ hok hfr hf_92 hf_93 lx_91 ux_91 hNL_90
            replace ihL_90 := fun pl x_91 h1 => ihL_90 pl x_91 trivial h1
            refine jj_iload C dX2_settleSeries_46 rfl ?_
            refine jj_aload_n C dX2_settleSeries_48 rfl ?_
            refine tt_get C hok jk_2 8 (by decide) jw_700 (t := (0, 0, 40)) hk0 (by decide) rfl rfl dX2_settleSeries_49 (fun v_94 hv_94 hf_95 => ?_)
            obtain ⟨x_96, rfl, lx_96, ux_96⟩ := tt_vi hv_94
            refine jj_icmp_ge (tgt := 123) C dX2_settleSeries_52 (by decide) (fun c_97 => ?_) (fun c_97 => ?_)
            · have z_c_97 := jc_le (a := (x_96).toInt) (b := (x_91).toInt) c_97 rfl rfl
              refine jj_lload C dX2_settleSeries_123 rfl ?_
              refine jj_lconst (v := 0) C dX2_settleSeries_125 (by decide) ?_
              refine jj_lcmp_leT (tgt := 136) C dX2_settleSeries_126 dX2_settleSeries_127 (by decide) (by decide) ?_
              exact jj_vret C ⟨[], pl, rfl, rfl, hok, hfr, rfl⟩ dX2_settleSeries_136 (jj_le rfl) (jj_le rfl)
            · have z_c_97 := jc_nle (a := (x_96).toInt) (b := (x_91).toInt) c_97 rfl rfl
              refine jj_aload_n C dX2_settleSeries_55 rfl ?_
              refine tt_get C hok jk_2 12 (by decide) jw_701 (t := (2, 7, 0)) hk0 (by decide) rfl rfl dX2_settleSeries_56 (fun v_98 hv_98 hf_99 => ?_)
              obtain ⟨a_100, rfl, ka_100⟩ := tt_vr hv_98
              refine jj_iload C dX2_settleSeries_59 rfl ?_
              refine tt_aald C hok (t := (2, 3, 0)) ka_100 (by decide) rfl rfl rfl (vp_in_iff.mpr ⟨by omega, by omega⟩) dX2_settleSeries_61 (fun v_101 hv_101 => ?_)
              obtain ⟨a_102, rfl, ka_102⟩ := tt_vr hv_101
              refine jj_astore C dX2_settleSeries_62 (by decide) rfl ?_
              refine jj_aload C dX2_settleSeries_64 rfl ?_
              refine tt_get C hok jk_5 1 (by decide) jw_702 (t := (0, (-2147483648), 2147483647)) ka_102 (by decide) rfl rfl dX2_settleSeries_66 (fun v_103 hv_103 hf_104 => ?_)
              obtain ⟨x_105, rfl, lx_105, ux_105⟩ := tt_vi hv_103
              refine jj_aload_n C dX2_settleSeries_69 rfl ?_
              refine tt_get C hok jk_9 0 (by decide) jw_703 (t := (0, (-2147483648), 2147483647)) hk1 (by decide) rfl rfl dX2_settleSeries_70 (fun v_106 hv_106 hf_107 => ?_)
              obtain ⟨x_108, rfl, lx_108, ux_108⟩ := tt_vi hv_106
              refine jj_icmp_ne (tgt := 117) C dX2_settleSeries_73 (by decide) (fun c_109 => ?_) (fun c_109 => ?_)
              · have z_c_109 := jc_neq (a := (x_105).toInt) (b := (x_108).toInt) c_109 rfl rfl
                obtain ⟨x_110, ex_110, vx_110⟩ := tt_inc (x := x_91) (n := 1) (by omega) (by omega)
                refine jj_iinc (v := x_110) C dX2_settleSeries_117 rfl ex_110 (by decide) rfl ?_
                refine jj_goto (tgt := 46) C dX2_settleSeries_120 (by decide) ?_
                refine jj_loc [0, 2, 3, 4, 5, 6] rfl ?_
                exact ihL_90 pl x_110 hok hfr hf_92 hf_93 (by first | omega | decide | exact tt_lo _ | exact tt_hi _) (by first | omega | decide | exact tt_lo _ | exact tt_hi _) (by first | omega | decide | exact tt_lo _ | exact tt_hi _)
              · have z_c_109 := jc_eq (a := (x_105).toInt) (b := (x_108).toInt) c_109 rfl rfl
                refine jj_aload_n C dX2_settleSeries_76 rfl ?_
                refine tt_get C hok jk_2 1 (by decide) jw_704 (t := (0, (-2147483648), 2147483647)) hk0 (by decide) rfl rfl dX2_settleSeries_77 (fun v_111 hv_111 hf_112 => ?_)
                obtain ⟨x_113, rfl, lx_113, ux_113⟩ := tt_vi hv_111
                refine jj_iconst (v := 1) C dX2_settleSeries_80 (by decide) ?_
                refine jj_icmp_ne (tgt := 104) C dX2_settleSeries_81 (by decide) (fun c_114 => ?_) (fun c_114 => ?_)
                · have z_c_114 := jc_neq (a := (x_113).toInt) (b := (1)) c_114 rfl (by decide)
                  refine jj_aload C dX2_settleSeries_104 rfl ?_
                  refine jj_lload C dX2_settleSeries_106 rfl ?_
                  refine tt_put C hok jk_5 4 (by decide) jw_705 (t := (1, (-9223372036854775808), 9223372036854775807)) ka_102 (by decide) rfl rfl rfl (tt_ja y_38) rfl rfl dX2_settleSeries_108 (fun pl_115 hok_116 tr hn => ?_)
                  replace hf_92 := tr _ _ _ (Or.inl (tt_ne hk0 ka_102 (by decide))) hf_92
                  replace hf_93 := tr _ _ _ (Or.inl (tt_ne hk0 ka_102 (by decide))) hf_93
                  replace hf_95 := tr _ _ _ (Or.inl (tt_ne hk0 ka_102 (by decide))) hf_95
                  replace hf_99 := tr _ _ _ (Or.inl (tt_ne hk0 ka_102 (by decide))) hf_99
                  replace hf_104 := tr _ _ _ (Or.inr (by decide)) hf_104
                  replace hf_107 := tr _ _ _ (Or.inl (tt_ne hk1 ka_102 (by decide))) hf_107
                  replace hf_112 := tr _ _ _ (Or.inl (tt_ne hk0 ka_102 (by decide))) hf_112
                  have hf_117 := hn
                  replace hfr := hfr.put ka_102 tr (by decide)
                  refine jj_aload C dX2_settleSeries_111 rfl ?_
                  refine jj_lconst (v := 0) C dX2_settleSeries_113 (by decide) ?_
                  refine tt_put C hok_116 jk_5 5 (by decide) jw_706 (t := (1, (-9223372036854775808), 9223372036854775807)) ka_102 (by decide) rfl rfl rfl (tt_ja (0 : Int64)) rfl rfl dX2_settleSeries_114 (fun pl_118 hok_119 tr hn => ?_)
                  replace hf_92 := tr _ _ _ (Or.inl (tt_ne hk0 ka_102 (by decide))) hf_92
                  replace hf_93 := tr _ _ _ (Or.inl (tt_ne hk0 ka_102 (by decide))) hf_93
                  replace hf_95 := tr _ _ _ (Or.inl (tt_ne hk0 ka_102 (by decide))) hf_95
                  replace hf_99 := tr _ _ _ (Or.inl (tt_ne hk0 ka_102 (by decide))) hf_99
                  replace hf_104 := tr _ _ _ (Or.inr (by decide)) hf_104
                  replace hf_107 := tr _ _ _ (Or.inl (tt_ne hk1 ka_102 (by decide))) hf_107
                  replace hf_112 := tr _ _ _ (Or.inl (tt_ne hk0 ka_102 (by decide))) hf_112
                  replace hf_117 := tr _ _ _ (Or.inr (by decide)) hf_117
                  have hf_120 := hn
                  replace hfr := hfr.put ka_102 tr (by decide)
                  obtain ⟨x_121, ex_121, vx_121⟩ := tt_inc (x := x_91) (n := 1) (by omega) (by omega)
                  refine jj_iinc (v := x_121) C dX2_settleSeries_117 rfl ex_121 (by decide) rfl ?_
                  refine jj_goto (tgt := 46) C dX2_settleSeries_120 (by decide) ?_
                  refine jj_loc [0, 2, 3, 4, 5, 6] rfl ?_
                  exact ihL_90 pl_118 x_121 hok_119 hfr hf_92 hf_93 (by first | omega | decide | exact tt_lo _ | exact tt_hi _) (by first | omega | decide | exact tt_lo _ | exact tt_hi _) (by first | omega | decide | exact tt_lo _ | exact tt_hi _)
                · have z_c_114 := jc_eq (a := (x_113).toInt) (b := (1)) c_114 rfl (by decide)
                  refine jj_aload_n C dX2_settleSeries_84 rfl ?_
                  refine jj_aload_n C dX2_settleSeries_85 rfl ?_
                  refine jj_aload C dX2_settleSeries_86 rfl ?_
                  refine jj_lload_n C dX2_settleSeries_88 rfl ?_
                  refine jj_lload C dX2_settleSeries_89 rfl ?_
                  refine tt_callS (rest := []) C (tc_X2_giveBack_2 hl D cA ak h0 h1 a_102 y_38 hk0 hk1 ka_102 hok) [] [] rfl rfl (by decide) (by decide) (by decide) jw_707 jw_713 jw_175 jw_708 jn_X2_giveBack rfl (jj_le rfl) (jj_le rfl) (jj_le rfl) (jj_le rfl) (jj_le rfl) dX2_settleSeries_91 rfl (fun _ _ _ hX => hX.elim) (fun rx pl_122 r O_125 => ?_)
                  obtain ⟨rfl, hok_123, hr_124, hR_127⟩ := O_125
                  replace hf_92 := hr_124.at hk0 (by decide) (by decide) hf_92
                  replace hf_93 := hr_124.at hk0 (by decide) (by decide) hf_93
                  replace hf_95 := hr_124.at hk0 (by decide) (by decide) hf_95
                  replace hf_99 := hr_124.at hk0 (by decide) (by decide) hf_99
                  replace hf_104 := hr_124.at ka_102 (by decide) (by decide) hf_104
                  replace hf_107 := hr_124.at hk1 (by decide) (by decide) hf_107
                  replace hf_112 := hr_124.at hk0 (by decide) (by decide) hf_112
                  replace hfr := hfr.trans (hr_124.sub (by decide))
                  obtain rfl := hR_127
                  refine jj_aload_n C dX2_settleSeries_94 rfl ?_
                  refine jj_aload_n C dX2_settleSeries_95 rfl ?_
                  refine jj_aload C dX2_settleSeries_96 rfl ?_
                  refine jj_lload_n C dX2_settleSeries_98 rfl ?_
                  refine jj_lload C dX2_settleSeries_99 rfl ?_
                  refine tt_callS (rest := []) C (tc_X2_takeDue_2 hl D cA ak h0 h1 a_102 y_38 hk0 hk1 ka_102 hok_123) [] [] rfl rfl (by decide) (by decide) (by decide) jw_715 jw_718 jw_175 jw_716 jn_X2_takeDue rfl (jj_le rfl) (jj_le rfl) (jj_le rfl) (jj_le rfl) (jj_le rfl) dX2_settleSeries_101 rfl (fun _ _ _ hX => hX.elim) (fun rx pl_128 r O_131 => ?_)
                  obtain ⟨rfl, hok_129, hr_130, hR_133⟩ := O_131
                  replace hf_92 := hr_130.at hk0 (by decide) (by decide) hf_92
                  replace hf_93 := hr_130.at hk0 (by decide) (by decide) hf_93
                  replace hf_95 := hr_130.at hk0 (by decide) (by decide) hf_95
                  replace hf_99 := hr_130.at hk0 (by decide) (by decide) hf_99
                  replace hf_104 := hr_130.at ka_102 (by decide) (by decide) hf_104
                  replace hf_107 := hr_130.at hk1 (by decide) (by decide) hf_107
                  replace hf_112 := hr_130.at hk0 (by decide) (by decide) hf_112
                  replace hfr := hfr.trans (hr_130.sub (by decide))
                  obtain rfl := hR_133
                  refine jj_aload C dX2_settleSeries_104 rfl ?_
                  refine jj_lload C dX2_settleSeries_106 rfl ?_
                  refine tt_put C hok_129 jk_5 4 (by decide) jw_705 (t := (1, (-9223372036854775808), 9223372036854775807)) ka_102 (by decide) rfl rfl rfl (tt_ja y_38) rfl rfl dX2_settleSeries_108 (fun pl_134 hok_135 tr hn => ?_)
                  replace hf_92 := tr _ _ _ (Or.inl (tt_ne hk0 ka_102 (by decide))) hf_92
                  replace hf_93 := tr _ _ _ (Or.inl (tt_ne hk0 ka_102 (by decide))) hf_93
                  replace hf_95 := tr _ _ _ (Or.inl (tt_ne hk0 ka_102 (by decide))) hf_95
                  replace hf_99 := tr _ _ _ (Or.inl (tt_ne hk0 ka_102 (by decide))) hf_99
                  replace hf_104 := tr _ _ _ (Or.inr (by decide)) hf_104
                  replace hf_107 := tr _ _ _ (Or.inl (tt_ne hk1 ka_102 (by decide))) hf_107
                  replace hf_112 := tr _ _ _ (Or.inl (tt_ne hk0 ka_102 (by decide))) hf_112
                  have hf_136 := hn
                  replace hfr := hfr.put ka_102 tr (by decide)
                  refine jj_aload C dX2_settleSeries_111 rfl ?_
                  refine jj_lconst (v := 0) C dX2_settleSeries_113 (by decide) ?_
                  refine tt_put C hok_135 jk_5 5 (by decide) jw_706 (t := (1, (-9223372036854775808), 9223372036854775807)) ka_102 (by decide) rfl rfl rfl (tt_ja (0 : Int64)) rfl rfl dX2_settleSeries_114 (fun pl_137 hok_138 tr hn => ?_)
                  replace hf_92 := tr _ _ _ (Or.inl (tt_ne hk0 ka_102 (by decide))) hf_92
                  replace hf_93 := tr _ _ _ (Or.inl (tt_ne hk0 ka_102 (by decide))) hf_93
                  replace hf_95 := tr _ _ _ (Or.inl (tt_ne hk0 ka_102 (by decide))) hf_95
                  replace hf_99 := tr _ _ _ (Or.inl (tt_ne hk0 ka_102 (by decide))) hf_99
                  replace hf_104 := tr _ _ _ (Or.inr (by decide)) hf_104
                  replace hf_107 := tr _ _ _ (Or.inl (tt_ne hk1 ka_102 (by decide))) hf_107
                  replace hf_112 := tr _ _ _ (Or.inl (tt_ne hk0 ka_102 (by decide))) hf_112
                  replace hf_136 := tr _ _ _ (Or.inr (by decide)) hf_136
                  have hf_139 := hn
                  replace hfr := hfr.put ka_102 tr (by decide)
                  obtain ⟨x_140, ex_140, vx_140⟩ := tt_inc (x := x_91) (n := 1) (by omega) (by omega)
                  refine jj_iinc (v := x_140) C dX2_settleSeries_117 rfl ex_140 (by decide) rfl ?_
                  refine jj_goto (tgt := 46) C dX2_settleSeries_120 (by decide) ?_
                  refine jj_loc [0, 2, 3, 4, 5, 6] rfl ?_
                  exact ihL_90 pl_137 x_140 hok_138 hfr hf_92 hf_93 (by first | omega | decide | exact tt_lo _ | exact tt_hi _) (by first | omega | decide | exact tt_lo _ | exact tt_hi _) (by first | omega | decide | exact tt_lo _ | exact tt_hi _)
        exact hL_90 _ pl_32 (0 : Int32) trivial hok_33 hfr hf_9 hf_26 (by first | omega | decide | exact tt_lo _ | exact tt_hi _) (by first | omega | decide | exact tt_lo _ | exact tt_hi _) (Int.self_le_toNat _)
    · refine jj_lstore C dX2_settleSeries_13 (by decide) rfl ?_
      refine jj_aload_n C dX2_settleSeries_15 rfl ?_
      refine jj_dup C dX2_settleSeries_16 rfl ?_
      refine tt_get C hok_12 jk_9 2 (by decide) jw_321 (t := (1, (-9223372036854775808), 9223372036854775807)) hk1 (by decide) rfl rfl dX2_settleSeries_17 (fun v_141 hv_141 hf_142 => ?_)
      obtain ⟨y_143, rfl, -, -⟩ := tt_vj hv_141
      refine jj_lload C dX2_settleSeries_20 rfl ?_
      obtain ⟨y_144, ey_144⟩ : ∃ z : Int64, y_143 - y_17 = z := ⟨_, rfl⟩
      refine jj_lsub (v := y_144) C dX2_settleSeries_22 ey_144 ?_
      refine tt_put C hok_12 jk_9 2 (by decide) jw_321 (t := (1, (-9223372036854775808), 9223372036854775807)) hk1 (by decide) rfl rfl rfl (tt_ja y_144) rfl rfl dX2_settleSeries_23 (fun pl_145 hok_146 tr hn => ?_)
      replace hf_9 := tr _ _ _ (Or.inl (tt_ne hk0 hk1 (by decide))) hf_9
      have hf_147 := hn
      replace hfr := hfr.put hk1 tr (by decide)
      refine jj_aload_n C dX2_settleSeries_26 rfl ?_
      refine tt_get C hok_146 jk_2 10 (by decide) jw_319 (t := (2, 5, 0)) hk0 (by decide) rfl rfl dX2_settleSeries_27 (fun v_148 hv_148 hf_149 => ?_)
      obtain ⟨a_150, rfl, ka_150⟩ := tt_vr hv_148
      refine jj_iconst (v := 0) C dX2_settleSeries_30 (by decide) ?_
      refine jj_dup2 C dX2_settleSeries_31 rfl rfl ?_
      refine tt_lald C hok_146 (t := (1, (-9223372036854775808), 9223372036854775807)) ka_150 (by decide) rfl (vp_in_iff.mpr (by decide)) dX2_settleSeries_32 (fun v_151 hv_151 => ?_)
      refine jj_lload C dX2_settleSeries_33 rfl ?_
      obtain ⟨y_152, ey_152⟩ : ∃ z : Int64, v_151 + y_17 = z := ⟨_, rfl⟩
      refine jj_ladd (v := y_152) C dX2_settleSeries_35 ey_152 ?_
      refine tt_last C hok_146 (t := (1, (-9223372036854775808), 9223372036854775807)) ka_150 (by decide) rfl (vp_in_iff.mpr (by decide)) (tt_ja _) dX2_settleSeries_36 (fun pl_153 hok_154 tr => ?_)
      replace hf_9 := tr _ _ _ hf_9
      replace hf_147 := tr _ _ _ hf_147
      replace hf_149 := tr _ _ _ hf_149
      replace hfr := hfr.arr tr
      refine jj_aload_n C dX2_settleSeries_37 rfl ?_
      obtain ⟨qc, gs, hqc⟩ := tt_recv (cx := []) hok_154 hk1 (by decide) rfl
      refine tt_callV (rest := []) C (tc_X8_grossPrice_1 hl D cA ak h1 hk1 hok_154) [] [] rfl rfl (by decide) (by decide) (by decide) qc hqc rfl rfl jw_697 jw_169 jw_170 jw_92 jw_167 jn_X8_grossPrice rfl (jj_le rfl) (jj_le rfl) (jj_le rfl) (jj_le rfl) (jj_le rfl) dX2_settleSeries_38 rfl (fun _ _ _ hX => hX.elim) (fun rx pl_155 r O_158 => ?_)
      obtain ⟨rfl, hok_156, hr_157, hR_160⟩ := O_158
      replace hf_9 := hr_157.at hk0 (by decide) (by decide) hf_9
      replace hf_147 := hr_157.at hk1 (by decide) (by decide) hf_147
      replace hf_149 := hr_157.at hk0 (by decide) (by decide) hf_149
      replace hfr := hfr.trans (hr_157.sub (by decide))
      rcases hR_160 with rfl | ⟨y_161, rfl⟩
      · refine jj_lstore C dX2_settleSeries_41 (by decide) rfl ?_
        refine jj_iconst (v := 0) C dX2_settleSeries_43 (by decide) ?_
        refine jj_istore C dX2_settleSeries_44 (by decide) rfl ?_
        have hL_162 : ∀ (N : Nat) (pl : va_W) (x_163 : Int32), True → tt_ok tt_tk cA Kd pl → tt_fr Kd [(2, 2), (2, 3), (2, 4), (3, 3), (3, 4), (3, 5)] pl0 pl → tt_at pl h0 3 (.int x_10) → tt_at pl h0 10 (.ref a_150) → (0 : Int) ≤ x_163.toInt → x_163.toInt ≤ 40 → (2147483648 - x_163.toInt ≤ (N : Int)) → jj_J p l e (jj_rm 2 58 0 0) s m args below meth c 10 A (vx_MQ below (jj_q D A (tt_O (fun rx pl1 r => rx = [] ∧ tt_ok tt_tk cA Kd pl1 ∧ tt_fr Kd [(2, 2), (2, 3), (2, 4), (3, 3), (3, 4), (3, 5)] pl0 pl1 ∧ ((r = none))))) (jj_x D A (tt_OX (fun _ _ _ => False))) args s 0 0 A) (jj_X D A ([] ++ pl)) 0 0 46 [(8, .int x_163), (6, .long 1000000), (4, .long y_17), (2, .long 1000000), (0, .ref h0), (1, .ref h1)] [] := by
          intro NL_162
          induction NL_162 with
          | zero => intro pl x_163 _ hok hfr hf_164 hf_165 lx_163 ux_163 hNL_162; exfalso; omega
          | succ NL_162 ihL_162 =>
            intro pl x_163 _ hok hfr hf_164 hf_165 lx_163 ux_163 hNL_162
            replace ihL_162 := fun pl x_163 h1 => ihL_162 pl x_163 trivial h1
            refine jj_iload C dX2_settleSeries_46 rfl ?_
            refine jj_aload_n C dX2_settleSeries_48 rfl ?_
            refine tt_get C hok jk_2 8 (by decide) jw_700 (t := (0, 0, 40)) hk0 (by decide) rfl rfl dX2_settleSeries_49 (fun v_166 hv_166 hf_167 => ?_)
            obtain ⟨x_168, rfl, lx_168, ux_168⟩ := tt_vi hv_166
            refine jj_icmp_ge (tgt := 123) C dX2_settleSeries_52 (by decide) (fun c_169 => ?_) (fun c_169 => ?_)
            · have z_c_169 := jc_le (a := (x_168).toInt) (b := (x_163).toInt) c_169 rfl rfl
              refine jj_lload C dX2_settleSeries_123 rfl ?_
              refine jj_lconst (v := 0) C dX2_settleSeries_125 (by decide) ?_
              refine jj_lcmp_le (tgt := 136) C dX2_settleSeries_126 dX2_settleSeries_127 (by decide) (fun c_170 => ?_) (fun c_170 => ?_)
              · exact jj_vret C ⟨[], pl, rfl, rfl, hok, hfr, rfl⟩ dX2_settleSeries_136 (jj_le rfl) (jj_le rfl)
              · refine jj_aload_n C dX2_settleSeries_130 rfl ?_
                refine jj_lload C dX2_settleSeries_131 rfl ?_
                refine tt_put C hok jk_9 4 (by decide) jw_709 (t := (1, (-9223372036854775808), 9223372036854775807)) hk1 (by decide) rfl rfl rfl (tt_ja (1000000 : Int64)) rfl rfl dX2_settleSeries_133 (fun pl_171 hok_172 tr hn => ?_)
                replace hf_164 := tr _ _ _ (Or.inl (tt_ne hk0 hk1 (by decide))) hf_164
                replace hf_165 := tr _ _ _ (Or.inl (tt_ne hk0 hk1 (by decide))) hf_165
                replace hf_167 := tr _ _ _ (Or.inl (tt_ne hk0 hk1 (by decide))) hf_167
                have hf_173 := hn
                replace hfr := hfr.put hk1 tr (by decide)
                exact jj_vret C ⟨[], pl_171, rfl, rfl, hok_172, hfr, rfl⟩ dX2_settleSeries_136 (jj_le rfl) (jj_le rfl)
            · have z_c_169 := jc_nle (a := (x_168).toInt) (b := (x_163).toInt) c_169 rfl rfl
              refine jj_aload_n C dX2_settleSeries_55 rfl ?_
              refine tt_get C hok jk_2 12 (by decide) jw_701 (t := (2, 7, 0)) hk0 (by decide) rfl rfl dX2_settleSeries_56 (fun v_174 hv_174 hf_175 => ?_)
              obtain ⟨a_176, rfl, ka_176⟩ := tt_vr hv_174
              refine jj_iload C dX2_settleSeries_59 rfl ?_
              refine tt_aald C hok (t := (2, 3, 0)) ka_176 (by decide) rfl rfl rfl (vp_in_iff.mpr ⟨by omega, by omega⟩) dX2_settleSeries_61 (fun v_177 hv_177 => ?_)
              obtain ⟨a_178, rfl, ka_178⟩ := tt_vr hv_177
              refine jj_astore C dX2_settleSeries_62 (by decide) rfl ?_
              refine jj_aload C dX2_settleSeries_64 rfl ?_
              refine tt_get C hok jk_5 1 (by decide) jw_702 (t := (0, (-2147483648), 2147483647)) ka_178 (by decide) rfl rfl dX2_settleSeries_66 (fun v_179 hv_179 hf_180 => ?_)
              obtain ⟨x_181, rfl, lx_181, ux_181⟩ := tt_vi hv_179
              refine jj_aload_n C dX2_settleSeries_69 rfl ?_
              refine tt_get C hok jk_9 0 (by decide) jw_703 (t := (0, (-2147483648), 2147483647)) hk1 (by decide) rfl rfl dX2_settleSeries_70 (fun v_182 hv_182 hf_183 => ?_)
              obtain ⟨x_184, rfl, lx_184, ux_184⟩ := tt_vi hv_182
              refine jj_icmp_ne (tgt := 117) C dX2_settleSeries_73 (by decide) (fun c_185 => ?_) (fun c_185 => ?_)
              · have z_c_185 := jc_neq (a := (x_181).toInt) (b := (x_184).toInt) c_185 rfl rfl
                obtain ⟨x_186, ex_186, vx_186⟩ := tt_inc (x := x_163) (n := 1) (by omega) (by omega)
                refine jj_iinc (v := x_186) C dX2_settleSeries_117 rfl ex_186 (by decide) rfl ?_
                refine jj_goto (tgt := 46) C dX2_settleSeries_120 (by decide) ?_
                refine jj_loc [0, 2, 3, 4, 5, 6] rfl ?_
                exact ihL_162 pl x_186 hok hfr hf_164 hf_165 (by first | omega | decide | exact tt_lo _ | exact tt_hi _) (by first | omega | decide | exact tt_lo _ | exact tt_hi _) (by first | omega | decide | exact tt_lo _ | exact tt_hi _)
              · have z_c_185 := jc_eq (a := (x_181).toInt) (b := (x_184).toInt) c_185 rfl rfl
                refine jj_aload_n C dX2_settleSeries_76 rfl ?_
                refine tt_get C hok jk_2 1 (by decide) jw_704 (t := (0, (-2147483648), 2147483647)) hk0 (by decide) rfl rfl dX2_settleSeries_77 (fun v_187 hv_187 hf_188 => ?_)
                obtain ⟨x_189, rfl, lx_189, ux_189⟩ := tt_vi hv_187
                refine jj_iconst (v := 1) C dX2_settleSeries_80 (by decide) ?_
                refine jj_icmp_ne (tgt := 104) C dX2_settleSeries_81 (by decide) (fun c_190 => ?_) (fun c_190 => ?_)
                · have z_c_190 := jc_neq (a := (x_189).toInt) (b := (1)) c_190 rfl (by decide)
                  refine jj_aload C dX2_settleSeries_104 rfl ?_
                  refine jj_lload C dX2_settleSeries_106 rfl ?_
                  refine tt_put C hok jk_5 4 (by decide) jw_705 (t := (1, (-9223372036854775808), 9223372036854775807)) ka_178 (by decide) rfl rfl rfl (tt_ja (1000000 : Int64)) rfl rfl dX2_settleSeries_108 (fun pl_191 hok_192 tr hn => ?_)
                  replace hf_164 := tr _ _ _ (Or.inl (tt_ne hk0 ka_178 (by decide))) hf_164
                  replace hf_165 := tr _ _ _ (Or.inl (tt_ne hk0 ka_178 (by decide))) hf_165
                  replace hf_167 := tr _ _ _ (Or.inl (tt_ne hk0 ka_178 (by decide))) hf_167
                  replace hf_175 := tr _ _ _ (Or.inl (tt_ne hk0 ka_178 (by decide))) hf_175
                  replace hf_180 := tr _ _ _ (Or.inr (by decide)) hf_180
                  replace hf_183 := tr _ _ _ (Or.inl (tt_ne hk1 ka_178 (by decide))) hf_183
                  replace hf_188 := tr _ _ _ (Or.inl (tt_ne hk0 ka_178 (by decide))) hf_188
                  have hf_193 := hn
                  replace hfr := hfr.put ka_178 tr (by decide)
                  refine jj_aload C dX2_settleSeries_111 rfl ?_
                  refine jj_lconst (v := 0) C dX2_settleSeries_113 (by decide) ?_
                  refine tt_put C hok_192 jk_5 5 (by decide) jw_706 (t := (1, (-9223372036854775808), 9223372036854775807)) ka_178 (by decide) rfl rfl rfl (tt_ja (0 : Int64)) rfl rfl dX2_settleSeries_114 (fun pl_194 hok_195 tr hn => ?_)
                  replace hf_164 := tr _ _ _ (Or.inl (tt_ne hk0 ka_178 (by decide))) hf_164
                  replace hf_165 := tr _ _ _ (Or.inl (tt_ne hk0 ka_178 (by decide))) hf_165
                  replace hf_167 := tr _ _ _ (Or.inl (tt_ne hk0 ka_178 (by decide))) hf_167
                  replace hf_175 := tr _ _ _ (Or.inl (tt_ne hk0 ka_178 (by decide))) hf_175
                  replace hf_180 := tr _ _ _ (Or.inr (by decide)) hf_180
                  replace hf_183 := tr _ _ _ (Or.inl (tt_ne hk1 ka_178 (by decide))) hf_183
                  replace hf_188 := tr _ _ _ (Or.inl (tt_ne hk0 ka_178 (by decide))) hf_188
                  replace hf_193 := tr _ _ _ (Or.inr (by decide)) hf_193
                  have hf_196 := hn
                  replace hfr := hfr.put ka_178 tr (by decide)
                  obtain ⟨x_197, ex_197, vx_197⟩ := tt_inc (x := x_163) (n := 1) (by omega) (by omega)
                  refine jj_iinc (v := x_197) C dX2_settleSeries_117 rfl ex_197 (by decide) rfl ?_
                  refine jj_goto (tgt := 46) C dX2_settleSeries_120 (by decide) ?_
                  refine jj_loc [0, 2, 3, 4, 5, 6] rfl ?_
                  exact ihL_162 pl_194 x_197 hok_195 hfr hf_164 hf_165 (by first | omega | decide | exact tt_lo _ | exact tt_hi _) (by first | omega | decide | exact tt_lo _ | exact tt_hi _) (by first | omega | decide | exact tt_lo _ | exact tt_hi _)
                · have z_c_190 := jc_eq (a := (x_189).toInt) (b := (1)) c_190 rfl (by decide)
                  refine jj_aload_n C dX2_settleSeries_84 rfl ?_
                  refine jj_aload_n C dX2_settleSeries_85 rfl ?_
                  refine jj_aload C dX2_settleSeries_86 rfl ?_
                  refine jj_lload_n C dX2_settleSeries_88 rfl ?_
                  refine jj_lload C dX2_settleSeries_89 rfl ?_
                  refine tt_callS (rest := []) C (tc_X2_giveBack_1 hl D cA ak h0 h1 a_178 hk0 hk1 ka_178 hok) [] [] rfl rfl (by decide) (by decide) (by decide) jw_707 jw_713 jw_175 jw_708 jn_X2_giveBack rfl (jj_le rfl) (jj_le rfl) (jj_le rfl) (jj_le rfl) (jj_le rfl) dX2_settleSeries_91 rfl (fun _ _ _ hX => hX.elim) (fun rx pl_198 r O_201 => ?_)
                  obtain ⟨rfl, hok_199, hr_200, hR_203⟩ := O_201
                  replace hf_164 := hr_200.at hk0 (by decide) (by decide) hf_164
                  replace hf_165 := hr_200.at hk0 (by decide) (by decide) hf_165
                  replace hf_167 := hr_200.at hk0 (by decide) (by decide) hf_167
                  replace hf_175 := hr_200.at hk0 (by decide) (by decide) hf_175
                  replace hf_180 := hr_200.at ka_178 (by decide) (by decide) hf_180
                  replace hf_183 := hr_200.at hk1 (by decide) (by decide) hf_183
                  replace hf_188 := hr_200.at hk0 (by decide) (by decide) hf_188
                  replace hfr := hfr.trans (hr_200.sub (by decide))
                  obtain rfl := hR_203
                  refine jj_aload_n C dX2_settleSeries_94 rfl ?_
                  refine jj_aload_n C dX2_settleSeries_95 rfl ?_
                  refine jj_aload C dX2_settleSeries_96 rfl ?_
                  refine jj_lload_n C dX2_settleSeries_98 rfl ?_
                  refine jj_lload C dX2_settleSeries_99 rfl ?_
                  refine tt_callS (rest := []) C (tc_X2_takeDue_1 hl D cA ak h0 h1 a_178 hk0 hk1 ka_178 hok_199) [] [] rfl rfl (by decide) (by decide) (by decide) jw_715 jw_718 jw_175 jw_716 jn_X2_takeDue rfl (jj_le rfl) (jj_le rfl) (jj_le rfl) (jj_le rfl) (jj_le rfl) dX2_settleSeries_101 rfl (fun _ _ _ hX => hX.elim) (fun rx pl_204 r O_207 => ?_)
                  obtain ⟨rfl, hok_205, hr_206, hR_209⟩ := O_207
                  replace hf_164 := hr_206.at hk0 (by decide) (by decide) hf_164
                  replace hf_165 := hr_206.at hk0 (by decide) (by decide) hf_165
                  replace hf_167 := hr_206.at hk0 (by decide) (by decide) hf_167
                  replace hf_175 := hr_206.at hk0 (by decide) (by decide) hf_175
                  replace hf_180 := hr_206.at ka_178 (by decide) (by decide) hf_180
                  replace hf_183 := hr_206.at hk1 (by decide) (by decide) hf_183
                  replace hf_188 := hr_206.at hk0 (by decide) (by decide) hf_188
                  replace hfr := hfr.trans (hr_206.sub (by decide))
                  obtain rfl := hR_209
                  refine jj_aload C dX2_settleSeries_104 rfl ?_
                  refine jj_lload C dX2_settleSeries_106 rfl ?_
                  refine tt_put C hok_205 jk_5 4 (by decide) jw_705 (t := (1, (-9223372036854775808), 9223372036854775807)) ka_178 (by decide) rfl rfl rfl (tt_ja (1000000 : Int64)) rfl rfl dX2_settleSeries_108 (fun pl_210 hok_211 tr hn => ?_)
                  replace hf_164 := tr _ _ _ (Or.inl (tt_ne hk0 ka_178 (by decide))) hf_164
                  replace hf_165 := tr _ _ _ (Or.inl (tt_ne hk0 ka_178 (by decide))) hf_165
                  replace hf_167 := tr _ _ _ (Or.inl (tt_ne hk0 ka_178 (by decide))) hf_167
                  replace hf_175 := tr _ _ _ (Or.inl (tt_ne hk0 ka_178 (by decide))) hf_175
                  replace hf_180 := tr _ _ _ (Or.inr (by decide)) hf_180
                  replace hf_183 := tr _ _ _ (Or.inl (tt_ne hk1 ka_178 (by decide))) hf_183
                  replace hf_188 := tr _ _ _ (Or.inl (tt_ne hk0 ka_178 (by decide))) hf_188
                  have hf_212 := hn
                  replace hfr := hfr.put ka_178 tr (by decide)
                  refine jj_aload C dX2_settleSeries_111 rfl ?_
                  refine jj_lconst (v := 0) C dX2_settleSeries_113 (by decide) ?_
                  refine tt_put C hok_211 jk_5 5 (by decide) jw_706 (t := (1, (-9223372036854775808), 9223372036854775807)) ka_178 (by decide) rfl rfl rfl (tt_ja (0 : Int64)) rfl rfl dX2_settleSeries_114 (fun pl_213 hok_214 tr hn => ?_)
                  replace hf_164 := tr _ _ _ (Or.inl (tt_ne hk0 ka_178 (by decide))) hf_164
                  replace hf_165 := tr _ _ _ (Or.inl (tt_ne hk0 ka_178 (by decide))) hf_165
                  replace hf_167 := tr _ _ _ (Or.inl (tt_ne hk0 ka_178 (by decide))) hf_167
                  replace hf_175 := tr _ _ _ (Or.inl (tt_ne hk0 ka_178 (by decide))) hf_175
                  replace hf_180 := tr _ _ _ (Or.inr (by decide)) hf_180
                  replace hf_183 := tr _ _ _ (Or.inl (tt_ne hk1 ka_178 (by decide))) hf_183
                  replace hf_188 := tr _ _ _ (Or.inl (tt_ne hk0 ka_178 (by decide))) hf_188
                  replace hf_212 := tr _ _ _ (Or.inr (by decide)) hf_212
                  have hf_215 := hn
                  replace hfr := hfr.put ka_178 tr (by decide)
                  obtain ⟨x_216, ex_216, vx_216⟩ := tt_inc (x := x_163) (n := 1) (by omega) (by omega)
                  refine jj_iinc (v := x_216) C dX2_settleSeries_117 rfl ex_216 (by decide) rfl ?_
                  refine jj_goto (tgt := 46) C dX2_settleSeries_120 (by decide) ?_
                  refine jj_loc [0, 2, 3, 4, 5, 6] rfl ?_
                  exact ihL_162 pl_213 x_216 hok_214 hfr hf_164 hf_165 (by first | omega | decide | exact tt_lo _ | exact tt_hi _) (by first | omega | decide | exact tt_lo _ | exact tt_hi _) (by first | omega | decide | exact tt_lo _ | exact tt_hi _)
        exact hL_162 _ pl_155 (0 : Int32) trivial hok_156 hfr hf_9 hf_149 (by first | omega | decide | exact tt_lo _ | exact tt_hi _) (by first | omega | decide | exact tt_lo _ | exact tt_hi _) (Int.self_le_toNat _)
      · refine jj_lstore C dX2_settleSeries_41 (by decide) rfl ?_
        refine jj_iconst (v := 0) C dX2_settleSeries_43 (by decide) ?_
        refine jj_istore C dX2_settleSeries_44 (by decide) rfl ?_
        have hL_217 : ∀ (N : Nat) (pl : va_W) (x_218 : Int32), True → tt_ok tt_tk cA Kd pl → tt_fr Kd [(2, 2), (2, 3), (2, 4), (3, 3), (3, 4), (3, 5)] pl0 pl → tt_at pl h0 3 (.int x_10) → tt_at pl h0 10 (.ref a_150) → (0 : Int) ≤ x_218.toInt → x_218.toInt ≤ 40 → (2147483648 - x_218.toInt ≤ (N : Int)) → jj_J p l e (jj_rm 2 58 0 0) s m args below meth c 10 A (vx_MQ below (jj_q D A (tt_O (fun rx pl1 r => rx = [] ∧ tt_ok tt_tk cA Kd pl1 ∧ tt_fr Kd [(2, 2), (2, 3), (2, 4), (3, 3), (3, 4), (3, 5)] pl0 pl1 ∧ ((r = none))))) (jj_x D A (tt_OX (fun _ _ _ => False))) args s 0 0 A) (jj_X D A ([] ++ pl)) 0 0 46 [(8, .int x_218), (6, .long y_161), (4, .long y_17), (2, .long 1000000), (0, .ref h0), (1, .ref h1)] [] := by
          intro NL_217
          induction NL_217 with
          | zero => intro pl x_218 _ hok hfr hf_219 hf_220 lx_218 ux_218 hNL_217; exfalso; omega
          | succ NL_217 ihL_217 =>
            intro pl x_218 _ hok hfr hf_219 hf_220 lx_218 ux_218 hNL_217
            replace ihL_217 := fun pl x_218 h1 => ihL_217 pl x_218 trivial h1
            refine jj_iload C dX2_settleSeries_46 rfl ?_
            refine jj_aload_n C dX2_settleSeries_48 rfl ?_
            refine tt_get C hok jk_2 8 (by decide) jw_700 (t := (0, 0, 40)) hk0 (by decide) rfl rfl dX2_settleSeries_49 (fun v_221 hv_221 hf_222 => ?_)
            obtain ⟨x_223, rfl, lx_223, ux_223⟩ := tt_vi hv_221
            refine jj_icmp_ge (tgt := 123) C dX2_settleSeries_52 (by decide) (fun c_224 => ?_) (fun c_224 => ?_)
            · have z_c_224 := jc_le (a := (x_223).toInt) (b := (x_218).toInt) c_224 rfl rfl
              refine jj_lload C dX2_settleSeries_123 rfl ?_
              refine jj_lconst (v := 0) C dX2_settleSeries_125 (by decide) ?_
              refine jj_lcmp_le (tgt := 136) C dX2_settleSeries_126 dX2_settleSeries_127 (by decide) (fun c_225 => ?_) (fun c_225 => ?_)
              · exact jj_vret C ⟨[], pl, rfl, rfl, hok, hfr, rfl⟩ dX2_settleSeries_136 (jj_le rfl) (jj_le rfl)
              · refine jj_aload_n C dX2_settleSeries_130 rfl ?_
                refine jj_lload C dX2_settleSeries_131 rfl ?_
                refine tt_put C hok jk_9 4 (by decide) jw_709 (t := (1, (-9223372036854775808), 9223372036854775807)) hk1 (by decide) rfl rfl rfl (tt_ja y_161) rfl rfl dX2_settleSeries_133 (fun pl_226 hok_227 tr hn => ?_)
                replace hf_219 := tr _ _ _ (Or.inl (tt_ne hk0 hk1 (by decide))) hf_219
                replace hf_220 := tr _ _ _ (Or.inl (tt_ne hk0 hk1 (by decide))) hf_220
                replace hf_222 := tr _ _ _ (Or.inl (tt_ne hk0 hk1 (by decide))) hf_222
                have hf_228 := hn
                replace hfr := hfr.put hk1 tr (by decide)
                exact jj_vret C ⟨[], pl_226, rfl, rfl, hok_227, hfr, rfl⟩ dX2_settleSeries_136 (jj_le rfl) (jj_le rfl)
            · have z_c_224 := jc_nle (a := (x_223).toInt) (b := (x_218).toInt) c_224 rfl rfl
              refine jj_aload_n C dX2_settleSeries_55 rfl ?_
              refine tt_get C hok jk_2 12 (by decide) jw_701 (t := (2, 7, 0)) hk0 (by decide) rfl rfl dX2_settleSeries_56 (fun v_229 hv_229 hf_230 => ?_)
              obtain ⟨a_231, rfl, ka_231⟩ := tt_vr hv_229
              refine jj_iload C dX2_settleSeries_59 rfl ?_
              refine tt_aald C hok (t := (2, 3, 0)) ka_231 (by decide) rfl rfl rfl (vp_in_iff.mpr ⟨by omega, by omega⟩) dX2_settleSeries_61 (fun v_232 hv_232 => ?_)
              obtain ⟨a_233, rfl, ka_233⟩ := tt_vr hv_232
              refine jj_astore C dX2_settleSeries_62 (by decide) rfl ?_
              refine jj_aload C dX2_settleSeries_64 rfl ?_
              refine tt_get C hok jk_5 1 (by decide) jw_702 (t := (0, (-2147483648), 2147483647)) ka_233 (by decide) rfl rfl dX2_settleSeries_66 (fun v_234 hv_234 hf_235 => ?_)
              obtain ⟨x_236, rfl, lx_236, ux_236⟩ := tt_vi hv_234
              refine jj_aload_n C dX2_settleSeries_69 rfl ?_
              refine tt_get C hok jk_9 0 (by decide) jw_703 (t := (0, (-2147483648), 2147483647)) hk1 (by decide) rfl rfl dX2_settleSeries_70 (fun v_237 hv_237 hf_238 => ?_)
              obtain ⟨x_239, rfl, lx_239, ux_239⟩ := tt_vi hv_237
              refine jj_icmp_ne (tgt := 117) C dX2_settleSeries_73 (by decide) (fun c_240 => ?_) (fun c_240 => ?_)
              · have z_c_240 := jc_neq (a := (x_236).toInt) (b := (x_239).toInt) c_240 rfl rfl
                obtain ⟨x_241, ex_241, vx_241⟩ := tt_inc (x := x_218) (n := 1) (by omega) (by omega)
                refine jj_iinc (v := x_241) C dX2_settleSeries_117 rfl ex_241 (by decide) rfl ?_
                refine jj_goto (tgt := 46) C dX2_settleSeries_120 (by decide) ?_
                refine jj_loc [0, 2, 3, 4, 5, 6] rfl ?_
                exact ihL_217 pl x_241 hok hfr hf_219 hf_220 (by first | omega | decide | exact tt_lo _ | exact tt_hi _) (by first | omega | decide | exact tt_lo _ | exact tt_hi _) (by first | omega | decide | exact tt_lo _ | exact tt_hi _)
              · have z_c_240 := jc_eq (a := (x_236).toInt) (b := (x_239).toInt) c_240 rfl rfl
                refine jj_aload_n C dX2_settleSeries_76 rfl ?_
                refine tt_get C hok jk_2 1 (by decide) jw_704 (t := (0, (-2147483648), 2147483647)) hk0 (by decide) rfl rfl dX2_settleSeries_77 (fun v_242 hv_242 hf_243 => ?_)
                obtain ⟨x_244, rfl, lx_244, ux_244⟩ := tt_vi hv_242
                refine jj_iconst (v := 1) C dX2_settleSeries_80 (by decide) ?_
                refine jj_icmp_ne (tgt := 104) C dX2_settleSeries_81 (by decide) (fun c_245 => ?_) (fun c_245 => ?_)
                · have z_c_245 := jc_neq (a := (x_244).toInt) (b := (1)) c_245 rfl (by decide)
                  refine jj_aload C dX2_settleSeries_104 rfl ?_
                  refine jj_lload C dX2_settleSeries_106 rfl ?_
                  refine tt_put C hok jk_5 4 (by decide) jw_705 (t := (1, (-9223372036854775808), 9223372036854775807)) ka_233 (by decide) rfl rfl rfl (tt_ja y_161) rfl rfl dX2_settleSeries_108 (fun pl_246 hok_247 tr hn => ?_)
                  replace hf_219 := tr _ _ _ (Or.inl (tt_ne hk0 ka_233 (by decide))) hf_219
                  replace hf_220 := tr _ _ _ (Or.inl (tt_ne hk0 ka_233 (by decide))) hf_220
                  replace hf_222 := tr _ _ _ (Or.inl (tt_ne hk0 ka_233 (by decide))) hf_222
                  replace hf_230 := tr _ _ _ (Or.inl (tt_ne hk0 ka_233 (by decide))) hf_230
                  replace hf_235 := tr _ _ _ (Or.inr (by decide)) hf_235
                  replace hf_238 := tr _ _ _ (Or.inl (tt_ne hk1 ka_233 (by decide))) hf_238
                  replace hf_243 := tr _ _ _ (Or.inl (tt_ne hk0 ka_233 (by decide))) hf_243
                  have hf_248 := hn
                  replace hfr := hfr.put ka_233 tr (by decide)
                  refine jj_aload C dX2_settleSeries_111 rfl ?_
                  refine jj_lconst (v := 0) C dX2_settleSeries_113 (by decide) ?_
                  refine tt_put C hok_247 jk_5 5 (by decide) jw_706 (t := (1, (-9223372036854775808), 9223372036854775807)) ka_233 (by decide) rfl rfl rfl (tt_ja (0 : Int64)) rfl rfl dX2_settleSeries_114 (fun pl_249 hok_250 tr hn => ?_)
                  replace hf_219 := tr _ _ _ (Or.inl (tt_ne hk0 ka_233 (by decide))) hf_219
                  replace hf_220 := tr _ _ _ (Or.inl (tt_ne hk0 ka_233 (by decide))) hf_220
                  replace hf_222 := tr _ _ _ (Or.inl (tt_ne hk0 ka_233 (by decide))) hf_222
                  replace hf_230 := tr _ _ _ (Or.inl (tt_ne hk0 ka_233 (by decide))) hf_230
                  replace hf_235 := tr _ _ _ (Or.inr (by decide)) hf_235
                  replace hf_238 := tr _ _ _ (Or.inl (tt_ne hk1 ka_233 (by decide))) hf_238
                  replace hf_243 := tr _ _ _ (Or.inl (tt_ne hk0 ka_233 (by decide))) hf_243
                  replace hf_248 := tr _ _ _ (Or.inr (by decide)) hf_248
                  have hf_251 := hn
                  replace hfr := hfr.put ka_233 tr (by decide)
                  obtain ⟨x_252, ex_252, vx_252⟩ := tt_inc (x := x_218) (n := 1) (by omega) (by omega)
                  refine jj_iinc (v := x_252) C dX2_settleSeries_117 rfl ex_252 (by decide) rfl ?_
                  refine jj_goto (tgt := 46) C dX2_settleSeries_120 (by decide) ?_
                  refine jj_loc [0, 2, 3, 4, 5, 6] rfl ?_
                  exact ihL_217 pl_249 x_252 hok_250 hfr hf_219 hf_220 (by first | omega | decide | exact tt_lo _ | exact tt_hi _) (by first | omega | decide | exact tt_lo _ | exact tt_hi _) (by first | omega | decide | exact tt_lo _ | exact tt_hi _)
                · have z_c_245 := jc_eq (a := (x_244).toInt) (b := (1)) c_245 rfl (by decide)
                  refine jj_aload_n C dX2_settleSeries_84 rfl ?_
                  refine jj_aload_n C dX2_settleSeries_85 rfl ?_
                  refine jj_aload C dX2_settleSeries_86 rfl ?_
                  refine jj_lload_n C dX2_settleSeries_88 rfl ?_
                  refine jj_lload C dX2_settleSeries_89 rfl ?_
                  refine tt_callS (rest := []) C (tc_X2_giveBack_2 hl D cA ak h0 h1 a_233 y_161 hk0 hk1 ka_233 hok) [] [] rfl rfl (by decide) (by decide) (by decide) jw_707 jw_713 jw_175 jw_708 jn_X2_giveBack rfl (jj_le rfl) (jj_le rfl) (jj_le rfl) (jj_le rfl) (jj_le rfl) dX2_settleSeries_91 rfl (fun _ _ _ hX => hX.elim) (fun rx pl_253 r O_256 => ?_)
                  obtain ⟨rfl, hok_254, hr_255, hR_258⟩ := O_256
                  replace hf_219 := hr_255.at hk0 (by decide) (by decide) hf_219
                  replace hf_220 := hr_255.at hk0 (by decide) (by decide) hf_220
                  replace hf_222 := hr_255.at hk0 (by decide) (by decide) hf_222
                  replace hf_230 := hr_255.at hk0 (by decide) (by decide) hf_230
                  replace hf_235 := hr_255.at ka_233 (by decide) (by decide) hf_235
                  replace hf_238 := hr_255.at hk1 (by decide) (by decide) hf_238
                  replace hf_243 := hr_255.at hk0 (by decide) (by decide) hf_243
                  replace hfr := hfr.trans (hr_255.sub (by decide))
                  obtain rfl := hR_258
                  refine jj_aload_n C dX2_settleSeries_94 rfl ?_
                  refine jj_aload_n C dX2_settleSeries_95 rfl ?_
                  refine jj_aload C dX2_settleSeries_96 rfl ?_
                  refine jj_lload_n C dX2_settleSeries_98 rfl ?_
                  refine jj_lload C dX2_settleSeries_99 rfl ?_
                  refine tt_callS (rest := []) C (tc_X2_takeDue_2 hl D cA ak h0 h1 a_233 y_161 hk0 hk1 ka_233 hok_254) [] [] rfl rfl (by decide) (by decide) (by decide) jw_715 jw_718 jw_175 jw_716 jn_X2_takeDue rfl (jj_le rfl) (jj_le rfl) (jj_le rfl) (jj_le rfl) (jj_le rfl) dX2_settleSeries_101 rfl (fun _ _ _ hX => hX.elim) (fun rx pl_259 r O_262 => ?_)
                  obtain ⟨rfl, hok_260, hr_261, hR_264⟩ := O_262
                  replace hf_219 := hr_261.at hk0 (by decide) (by decide) hf_219
                  replace hf_220 := hr_261.at hk0 (by decide) (by decide) hf_220
                  replace hf_222 := hr_261.at hk0 (by decide) (by decide) hf_222
                  replace hf_230 := hr_261.at hk0 (by decide) (by decide) hf_230
                  replace hf_235 := hr_261.at ka_233 (by decide) (by decide) hf_235
                  replace hf_238 := hr_261.at hk1 (by decide) (by decide) hf_238
                  replace hf_243 := hr_261.at hk0 (by decide) (by decide) hf_243
                  replace hfr := hfr.trans (hr_261.sub (by decide))
                  obtain rfl := hR_264
                  refine jj_aload C dX2_settleSeries_104 rfl ?_
                  refine jj_lload C dX2_settleSeries_106 rfl ?_
                  refine tt_put C hok_260 jk_5 4 (by decide) jw_705 (t := (1, (-9223372036854775808), 9223372036854775807)) ka_233 (by decide) rfl rfl rfl (tt_ja y_161) rfl rfl dX2_settleSeries_108 (fun pl_265 hok_266 tr hn => ?_)
                  replace hf_219 := tr _ _ _ (Or.inl (tt_ne hk0 ka_233 (by decide))) hf_219
                  replace hf_220 := tr _ _ _ (Or.inl (tt_ne hk0 ka_233 (by decide))) hf_220
                  replace hf_222 := tr _ _ _ (Or.inl (tt_ne hk0 ka_233 (by decide))) hf_222
                  replace hf_230 := tr _ _ _ (Or.inl (tt_ne hk0 ka_233 (by decide))) hf_230
                  replace hf_235 := tr _ _ _ (Or.inr (by decide)) hf_235
                  replace hf_238 := tr _ _ _ (Or.inl (tt_ne hk1 ka_233 (by decide))) hf_238
                  replace hf_243 := tr _ _ _ (Or.inl (tt_ne hk0 ka_233 (by decide))) hf_243
                  have hf_267 := hn
                  replace hfr := hfr.put ka_233 tr (by decide)
                  refine jj_aload C dX2_settleSeries_111 rfl ?_
                  refine jj_lconst (v := 0) C dX2_settleSeries_113 (by decide) ?_
                  refine tt_put C hok_266 jk_5 5 (by decide) jw_706 (t := (1, (-9223372036854775808), 9223372036854775807)) ka_233 (by decide) rfl rfl rfl (tt_ja (0 : Int64)) rfl rfl dX2_settleSeries_114 (fun pl_268 hok_269 tr hn => ?_)
                  replace hf_219 := tr _ _ _ (Or.inl (tt_ne hk0 ka_233 (by decide))) hf_219
                  replace hf_220 := tr _ _ _ (Or.inl (tt_ne hk0 ka_233 (by decide))) hf_220
                  replace hf_222 := tr _ _ _ (Or.inl (tt_ne hk0 ka_233 (by decide))) hf_222
                  replace hf_230 := tr _ _ _ (Or.inl (tt_ne hk0 ka_233 (by decide))) hf_230
                  replace hf_235 := tr _ _ _ (Or.inr (by decide)) hf_235
                  replace hf_238 := tr _ _ _ (Or.inl (tt_ne hk1 ka_233 (by decide))) hf_238
                  replace hf_243 := tr _ _ _ (Or.inl (tt_ne hk0 ka_233 (by decide))) hf_243
                  replace hf_267 := tr _ _ _ (Or.inr (by decide)) hf_267
                  have hf_270 := hn
                  replace hfr := hfr.put ka_233 tr (by decide)
                  obtain ⟨x_271, ex_271, vx_271⟩ := tt_inc (x := x_218) (n := 1) (by omega) (by omega)
                  refine jj_iinc (v := x_271) C dX2_settleSeries_117 rfl ex_271 (by decide) rfl ?_
                  refine jj_goto (tgt := 46) C dX2_settleSeries_120 (by decide) ?_
                  refine jj_loc [0, 2, 3, 4, 5, 6] rfl ?_
                  exact ihL_217 pl_268 x_271 hok_269 hfr hf_219 hf_220 (by first | omega | decide | exact tt_lo _ | exact tt_hi _) (by first | omega | decide | exact tt_lo _ | exact tt_hi _) (by first | omega | decide | exact tt_lo _ | exact tt_hi _)
        exact hL_217 _ pl_155 (0 : Int32) trivial hok_156 hfr hf_9 hf_149 (by first | omega | decide | exact tt_lo _ | exact tt_hi _) (by first | omega | decide | exact tt_lo _ | exact tt_hi _) (Int.self_le_toNat _)
  · refine jj_lstore_n C dX2_settleSeries_4 (by decide) rfl ?_
    refine jj_aload_n C dX2_settleSeries_5 rfl ?_
    refine jj_aload_n C dX2_settleSeries_6 rfl ?_
    refine tt_get C hok_2 jk_2 3 (by decide) jw_698 (t := (0, (-2147483648), 2147483647)) hk0 (by decide) rfl rfl dX2_settleSeries_7 (fun v_272 hv_272 hf_273 => ?_)
    obtain ⟨x_274, rfl, lx_274, ux_274⟩ := tt_vi hv_272
    obtain ⟨qc, gs, hqc⟩ := tt_recv (cx := []) hok_2 hk1 (by decide) rfl
    refine tt_callV (rest := []) C (tc_X8_accruedFee_1 hl D cA ak h1 x_274 hk1 hok_2) [] [] rfl rfl (by decide) (by decide) (by decide) qc hqc rfl rfl jw_699 jw_154 jw_155 jw_92 jw_151 jn_X8_accruedFee rfl (jj_le rfl) (jj_le rfl) (jj_le rfl) (jj_le rfl) (jj_le rfl) dX2_settleSeries_10 rfl (fun _ _ _ hX => hX.elim) (fun rx pl_275 r O_278 => ?_)
    obtain ⟨rfl, hok_276, hr_277, hR_280⟩ := O_278
    replace hf_273 := hr_277.at hk0 (by decide) (by decide) hf_273
    replace hfr := hfr.trans (hr_277.sub (by decide))
    rcases hR_280 with rfl | ⟨y_281, rfl⟩
    · refine jj_lstore C dX2_settleSeries_13 (by decide) rfl ?_
      refine jj_aload_n C dX2_settleSeries_15 rfl ?_
      refine jj_dup C dX2_settleSeries_16 rfl ?_
      refine tt_get C hok_276 jk_9 2 (by decide) jw_321 (t := (1, (-9223372036854775808), 9223372036854775807)) hk1 (by decide) rfl rfl dX2_settleSeries_17 (fun v_282 hv_282 hf_283 => ?_)
      obtain ⟨y_284, rfl, -, -⟩ := tt_vj hv_282
      refine jj_lload C dX2_settleSeries_20 rfl ?_
      obtain ⟨y_285, ey_285⟩ : ∃ z : Int64, y_284 - (0 : Int64) = z := ⟨_, rfl⟩
      refine jj_lsub (v := y_285) C dX2_settleSeries_22 ey_285 ?_
      refine tt_put C hok_276 jk_9 2 (by decide) jw_321 (t := (1, (-9223372036854775808), 9223372036854775807)) hk1 (by decide) rfl rfl rfl (tt_ja y_285) rfl rfl dX2_settleSeries_23 (fun pl_286 hok_287 tr hn => ?_)
      replace hf_273 := tr _ _ _ (Or.inl (tt_ne hk0 hk1 (by decide))) hf_273
      have hf_288 := hn
      replace hfr := hfr.put hk1 tr (by decide)
      refine jj_aload_n C dX2_settleSeries_26 rfl ?_
      refine tt_get C hok_287 jk_2 10 (by decide) jw_319 (t := (2, 5, 0)) hk0 (by decide) rfl rfl dX2_settleSeries_27 (fun v_289 hv_289 hf_290 => ?_)
      obtain ⟨a_291, rfl, ka_291⟩ := tt_vr hv_289
      refine jj_iconst (v := 0) C dX2_settleSeries_30 (by decide) ?_
      refine jj_dup2 C dX2_settleSeries_31 rfl rfl ?_
      refine tt_lald C hok_287 (t := (1, (-9223372036854775808), 9223372036854775807)) ka_291 (by decide) rfl (vp_in_iff.mpr (by decide)) dX2_settleSeries_32 (fun v_292 hv_292 => ?_)
      refine jj_lload C dX2_settleSeries_33 rfl ?_
      obtain ⟨y_293, ey_293⟩ : ∃ z : Int64, v_292 + (0 : Int64) = z := ⟨_, rfl⟩
      refine jj_ladd (v := y_293) C dX2_settleSeries_35 ey_293 ?_
      refine tt_last C hok_287 (t := (1, (-9223372036854775808), 9223372036854775807)) ka_291 (by decide) rfl (vp_in_iff.mpr (by decide)) (tt_ja _) dX2_settleSeries_36 (fun pl_294 hok_295 tr => ?_)
      replace hf_273 := tr _ _ _ hf_273
      replace hf_288 := tr _ _ _ hf_288
      replace hf_290 := tr _ _ _ hf_290
      replace hfr := hfr.arr tr
      refine jj_aload_n C dX2_settleSeries_37 rfl ?_
      obtain ⟨qc, gs, hqc⟩ := tt_recv (cx := []) hok_295 hk1 (by decide) rfl
      refine tt_callV (rest := []) C (tc_X8_grossPrice_1 hl D cA ak h1 hk1 hok_295) [] [] rfl rfl (by decide) (by decide) (by decide) qc hqc rfl rfl jw_697 jw_169 jw_170 jw_92 jw_167 jn_X8_grossPrice rfl (jj_le rfl) (jj_le rfl) (jj_le rfl) (jj_le rfl) (jj_le rfl) dX2_settleSeries_38 rfl (fun _ _ _ hX => hX.elim) (fun rx pl_296 r O_299 => ?_)
      obtain ⟨rfl, hok_297, hr_298, hR_301⟩ := O_299
      replace hf_273 := hr_298.at hk0 (by decide) (by decide) hf_273
      replace hf_288 := hr_298.at hk1 (by decide) (by decide) hf_288
      replace hf_290 := hr_298.at hk0 (by decide) (by decide) hf_290
      replace hfr := hfr.trans (hr_298.sub (by decide))
      rcases hR_301 with rfl | ⟨y_302, rfl⟩
      · refine jj_lstore C dX2_settleSeries_41 (by decide) rfl ?_
        refine jj_iconst (v := 0) C dX2_settleSeries_43 (by decide) ?_
        refine jj_istore C dX2_settleSeries_44 (by decide) rfl ?_
        have hL_303 : ∀ (N : Nat) (pl : va_W) (x_304 : Int32), True → tt_ok tt_tk cA Kd pl → tt_fr Kd [(2, 2), (2, 3), (2, 4), (3, 3), (3, 4), (3, 5)] pl0 pl → tt_at pl h0 3 (.int x_274) → tt_at pl h0 10 (.ref a_291) → (0 : Int) ≤ x_304.toInt → x_304.toInt ≤ 40 → (2147483648 - x_304.toInt ≤ (N : Int)) → jj_J p l e (jj_rm 2 58 0 0) s m args below meth c 10 A (vx_MQ below (jj_q D A (tt_O (fun rx pl1 r => rx = [] ∧ tt_ok tt_tk cA Kd pl1 ∧ tt_fr Kd [(2, 2), (2, 3), (2, 4), (3, 3), (3, 4), (3, 5)] pl0 pl1 ∧ ((r = none))))) (jj_x D A (tt_OX (fun _ _ _ => False))) args s 0 0 A) (jj_X D A ([] ++ pl)) 0 0 46 [(8, .int x_304), (6, .long 1000000), (4, .long 0), (2, .long y_7), (0, .ref h0), (1, .ref h1)] [] := by
          intro NL_303
          induction NL_303 with
          | zero => intro pl x_304 _ hok hfr hf_305 hf_306 lx_304 ux_304 hNL_303; exfalso; omega
          | succ NL_303 ihL_303 =>
            intro pl x_304 _ hok hfr hf_305 hf_306 lx_304 ux_304 hNL_303
            replace ihL_303 := fun pl x_304 h1 => ihL_303 pl x_304 trivial h1
            refine jj_iload C dX2_settleSeries_46 rfl ?_
            refine jj_aload_n C dX2_settleSeries_48 rfl ?_
            refine tt_get C hok jk_2 8 (by decide) jw_700 (t := (0, 0, 40)) hk0 (by decide) rfl rfl dX2_settleSeries_49 (fun v_307 hv_307 hf_308 => ?_)
            obtain ⟨x_309, rfl, lx_309, ux_309⟩ := tt_vi hv_307
            refine jj_icmp_ge (tgt := 123) C dX2_settleSeries_52 (by decide) (fun c_310 => ?_) (fun c_310 => ?_)
            · have z_c_310 := jc_le (a := (x_309).toInt) (b := (x_304).toInt) c_310 rfl rfl
              refine jj_lload C dX2_settleSeries_123 rfl ?_
              refine jj_lconst (v := 0) C dX2_settleSeries_125 (by decide) ?_
              refine jj_lcmp_leT (tgt := 136) C dX2_settleSeries_126 dX2_settleSeries_127 (by decide) (by decide) ?_
              exact jj_vret C ⟨[], pl, rfl, rfl, hok, hfr, rfl⟩ dX2_settleSeries_136 (jj_le rfl) (jj_le rfl)
            · have z_c_310 := jc_nle (a := (x_309).toInt) (b := (x_304).toInt) c_310 rfl rfl
              refine jj_aload_n C dX2_settleSeries_55 rfl ?_
              refine tt_get C hok jk_2 12 (by decide) jw_701 (t := (2, 7, 0)) hk0 (by decide) rfl rfl dX2_settleSeries_56 (fun v_311 hv_311 hf_312 => ?_)
              obtain ⟨a_313, rfl, ka_313⟩ := tt_vr hv_311
              refine jj_iload C dX2_settleSeries_59 rfl ?_
              refine tt_aald C hok (t := (2, 3, 0)) ka_313 (by decide) rfl rfl rfl (vp_in_iff.mpr ⟨by omega, by omega⟩) dX2_settleSeries_61 (fun v_314 hv_314 => ?_)
              obtain ⟨a_315, rfl, ka_315⟩ := tt_vr hv_314
              refine jj_astore C dX2_settleSeries_62 (by decide) rfl ?_
              refine jj_aload C dX2_settleSeries_64 rfl ?_
              refine tt_get C hok jk_5 1 (by decide) jw_702 (t := (0, (-2147483648), 2147483647)) ka_315 (by decide) rfl rfl dX2_settleSeries_66 (fun v_316 hv_316 hf_317 => ?_)
              obtain ⟨x_318, rfl, lx_318, ux_318⟩ := tt_vi hv_316
              refine jj_aload_n C dX2_settleSeries_69 rfl ?_
              refine tt_get C hok jk_9 0 (by decide) jw_703 (t := (0, (-2147483648), 2147483647)) hk1 (by decide) rfl rfl dX2_settleSeries_70 (fun v_319 hv_319 hf_320 => ?_)
              obtain ⟨x_321, rfl, lx_321, ux_321⟩ := tt_vi hv_319
              refine jj_icmp_ne (tgt := 117) C dX2_settleSeries_73 (by decide) (fun c_322 => ?_) (fun c_322 => ?_)
              · have z_c_322 := jc_neq (a := (x_318).toInt) (b := (x_321).toInt) c_322 rfl rfl
                obtain ⟨x_323, ex_323, vx_323⟩ := tt_inc (x := x_304) (n := 1) (by omega) (by omega)
                refine jj_iinc (v := x_323) C dX2_settleSeries_117 rfl ex_323 (by decide) rfl ?_
                refine jj_goto (tgt := 46) C dX2_settleSeries_120 (by decide) ?_
                refine jj_loc [0, 2, 3, 4, 5, 6] rfl ?_
                exact ihL_303 pl x_323 hok hfr hf_305 hf_306 (by first | omega | decide | exact tt_lo _ | exact tt_hi _) (by first | omega | decide | exact tt_lo _ | exact tt_hi _) (by first | omega | decide | exact tt_lo _ | exact tt_hi _)
              · have z_c_322 := jc_eq (a := (x_318).toInt) (b := (x_321).toInt) c_322 rfl rfl
                refine jj_aload_n C dX2_settleSeries_76 rfl ?_
                refine tt_get C hok jk_2 1 (by decide) jw_704 (t := (0, (-2147483648), 2147483647)) hk0 (by decide) rfl rfl dX2_settleSeries_77 (fun v_324 hv_324 hf_325 => ?_)
                obtain ⟨x_326, rfl, lx_326, ux_326⟩ := tt_vi hv_324
                refine jj_iconst (v := 1) C dX2_settleSeries_80 (by decide) ?_
                refine jj_icmp_ne (tgt := 104) C dX2_settleSeries_81 (by decide) (fun c_327 => ?_) (fun c_327 => ?_)
                · have z_c_327 := jc_neq (a := (x_326).toInt) (b := (1)) c_327 rfl (by decide)
                  refine jj_aload C dX2_settleSeries_104 rfl ?_
                  refine jj_lload C dX2_settleSeries_106 rfl ?_
                  refine tt_put C hok jk_5 4 (by decide) jw_705 (t := (1, (-9223372036854775808), 9223372036854775807)) ka_315 (by decide) rfl rfl rfl (tt_ja (1000000 : Int64)) rfl rfl dX2_settleSeries_108 (fun pl_328 hok_329 tr hn => ?_)
                  replace hf_305 := tr _ _ _ (Or.inl (tt_ne hk0 ka_315 (by decide))) hf_305
                  replace hf_306 := tr _ _ _ (Or.inl (tt_ne hk0 ka_315 (by decide))) hf_306
                  replace hf_308 := tr _ _ _ (Or.inl (tt_ne hk0 ka_315 (by decide))) hf_308
                  replace hf_312 := tr _ _ _ (Or.inl (tt_ne hk0 ka_315 (by decide))) hf_312
                  replace hf_317 := tr _ _ _ (Or.inr (by decide)) hf_317
                  replace hf_320 := tr _ _ _ (Or.inl (tt_ne hk1 ka_315 (by decide))) hf_320
                  replace hf_325 := tr _ _ _ (Or.inl (tt_ne hk0 ka_315 (by decide))) hf_325
                  have hf_330 := hn
                  replace hfr := hfr.put ka_315 tr (by decide)
                  refine jj_aload C dX2_settleSeries_111 rfl ?_
                  refine jj_lconst (v := 0) C dX2_settleSeries_113 (by decide) ?_
                  refine tt_put C hok_329 jk_5 5 (by decide) jw_706 (t := (1, (-9223372036854775808), 9223372036854775807)) ka_315 (by decide) rfl rfl rfl (tt_ja (0 : Int64)) rfl rfl dX2_settleSeries_114 (fun pl_331 hok_332 tr hn => ?_)
                  replace hf_305 := tr _ _ _ (Or.inl (tt_ne hk0 ka_315 (by decide))) hf_305
                  replace hf_306 := tr _ _ _ (Or.inl (tt_ne hk0 ka_315 (by decide))) hf_306
                  replace hf_308 := tr _ _ _ (Or.inl (tt_ne hk0 ka_315 (by decide))) hf_308
                  replace hf_312 := tr _ _ _ (Or.inl (tt_ne hk0 ka_315 (by decide))) hf_312
                  replace hf_317 := tr _ _ _ (Or.inr (by decide)) hf_317
                  replace hf_320 := tr _ _ _ (Or.inl (tt_ne hk1 ka_315 (by decide))) hf_320
                  replace hf_325 := tr _ _ _ (Or.inl (tt_ne hk0 ka_315 (by decide))) hf_325
                  replace hf_330 := tr _ _ _ (Or.inr (by decide)) hf_330
                  have hf_333 := hn
                  replace hfr := hfr.put ka_315 tr (by decide)
                  obtain ⟨x_334, ex_334, vx_334⟩ := tt_inc (x := x_304) (n := 1) (by omega) (by omega)
                  refine jj_iinc (v := x_334) C dX2_settleSeries_117 rfl ex_334 (by decide) rfl ?_
                  refine jj_goto (tgt := 46) C dX2_settleSeries_120 (by decide) ?_
                  refine jj_loc [0, 2, 3, 4, 5, 6] rfl ?_
                  exact ihL_303 pl_331 x_334 hok_332 hfr hf_305 hf_306 (by first | omega | decide | exact tt_lo _ | exact tt_hi _) (by first | omega | decide | exact tt_lo _ | exact tt_hi _) (by first | omega | decide | exact tt_lo _ | exact tt_hi _)
                · have z_c_327 := jc_eq (a := (x_326).toInt) (b := (1)) c_327 rfl (by decide)
                  refine jj_aload_n C dX2_settleSeries_84 rfl ?_
                  refine jj_aload_n C dX2_settleSeries_85 rfl ?_
                  refine jj_aload C dX2_settleSeries_86 rfl ?_
                  refine jj_lload_n C dX2_settleSeries_88 rfl ?_
                  refine jj_lload C dX2_settleSeries_89 rfl ?_
                  refine tt_callS (rest := []) C (tc_X2_giveBack_3 hl D cA ak h0 h1 a_315 y_7 hk0 hk1 ka_315 hok) [] [] rfl rfl (by decide) (by decide) (by decide) jw_707 jw_713 jw_175 jw_708 jn_X2_giveBack rfl (jj_le rfl) (jj_le rfl) (jj_le rfl) (jj_le rfl) (jj_le rfl) dX2_settleSeries_91 rfl (fun _ _ _ hX => hX.elim) (fun rx pl_335 r O_338 => ?_)
                  obtain ⟨rfl, hok_336, hr_337, hR_340⟩ := O_338
                  replace hf_305 := hr_337.at hk0 (by decide) (by decide) hf_305
                  replace hf_306 := hr_337.at hk0 (by decide) (by decide) hf_306
                  replace hf_308 := hr_337.at hk0 (by decide) (by decide) hf_308
                  replace hf_312 := hr_337.at hk0 (by decide) (by decide) hf_312
                  replace hf_317 := hr_337.at ka_315 (by decide) (by decide) hf_317
                  replace hf_320 := hr_337.at hk1 (by decide) (by decide) hf_320
                  replace hf_325 := hr_337.at hk0 (by decide) (by decide) hf_325
                  replace hfr := hfr.trans (hr_337.sub (by decide))
                  obtain rfl := hR_340
                  refine jj_aload_n C dX2_settleSeries_94 rfl ?_
                  refine jj_aload_n C dX2_settleSeries_95 rfl ?_
                  refine jj_aload C dX2_settleSeries_96 rfl ?_
                  refine jj_lload_n C dX2_settleSeries_98 rfl ?_
                  refine jj_lload C dX2_settleSeries_99 rfl ?_
                  refine tt_callS (rest := []) C (tc_X2_takeDue_3 hl D cA ak h0 h1 a_315 y_7 hk0 hk1 ka_315 hok_336) [] [] rfl rfl (by decide) (by decide) (by decide) jw_715 jw_718 jw_175 jw_716 jn_X2_takeDue rfl (jj_le rfl) (jj_le rfl) (jj_le rfl) (jj_le rfl) (jj_le rfl) dX2_settleSeries_101 rfl (fun _ _ _ hX => hX.elim) (fun rx pl_341 r O_344 => ?_)
                  obtain ⟨rfl, hok_342, hr_343, hR_346⟩ := O_344
                  replace hf_305 := hr_343.at hk0 (by decide) (by decide) hf_305
                  replace hf_306 := hr_343.at hk0 (by decide) (by decide) hf_306
                  replace hf_308 := hr_343.at hk0 (by decide) (by decide) hf_308
                  replace hf_312 := hr_343.at hk0 (by decide) (by decide) hf_312
                  replace hf_317 := hr_343.at ka_315 (by decide) (by decide) hf_317
                  replace hf_320 := hr_343.at hk1 (by decide) (by decide) hf_320
                  replace hf_325 := hr_343.at hk0 (by decide) (by decide) hf_325
                  replace hfr := hfr.trans (hr_343.sub (by decide))
                  obtain rfl := hR_346
                  refine jj_aload C dX2_settleSeries_104 rfl ?_
                  refine jj_lload C dX2_settleSeries_106 rfl ?_
                  refine tt_put C hok_342 jk_5 4 (by decide) jw_705 (t := (1, (-9223372036854775808), 9223372036854775807)) ka_315 (by decide) rfl rfl rfl (tt_ja (1000000 : Int64)) rfl rfl dX2_settleSeries_108 (fun pl_347 hok_348 tr hn => ?_)
                  replace hf_305 := tr _ _ _ (Or.inl (tt_ne hk0 ka_315 (by decide))) hf_305
                  replace hf_306 := tr _ _ _ (Or.inl (tt_ne hk0 ka_315 (by decide))) hf_306
                  replace hf_308 := tr _ _ _ (Or.inl (tt_ne hk0 ka_315 (by decide))) hf_308
                  replace hf_312 := tr _ _ _ (Or.inl (tt_ne hk0 ka_315 (by decide))) hf_312
                  replace hf_317 := tr _ _ _ (Or.inr (by decide)) hf_317
                  replace hf_320 := tr _ _ _ (Or.inl (tt_ne hk1 ka_315 (by decide))) hf_320
                  replace hf_325 := tr _ _ _ (Or.inl (tt_ne hk0 ka_315 (by decide))) hf_325
                  have hf_349 := hn
                  replace hfr := hfr.put ka_315 tr (by decide)
                  refine jj_aload C dX2_settleSeries_111 rfl ?_
                  refine jj_lconst (v := 0) C dX2_settleSeries_113 (by decide) ?_
                  refine tt_put C hok_348 jk_5 5 (by decide) jw_706 (t := (1, (-9223372036854775808), 9223372036854775807)) ka_315 (by decide) rfl rfl rfl (tt_ja (0 : Int64)) rfl rfl dX2_settleSeries_114 (fun pl_350 hok_351 tr hn => ?_)
                  replace hf_305 := tr _ _ _ (Or.inl (tt_ne hk0 ka_315 (by decide))) hf_305
                  replace hf_306 := tr _ _ _ (Or.inl (tt_ne hk0 ka_315 (by decide))) hf_306
                  replace hf_308 := tr _ _ _ (Or.inl (tt_ne hk0 ka_315 (by decide))) hf_308
                  replace hf_312 := tr _ _ _ (Or.inl (tt_ne hk0 ka_315 (by decide))) hf_312
                  replace hf_317 := tr _ _ _ (Or.inr (by decide)) hf_317
                  replace hf_320 := tr _ _ _ (Or.inl (tt_ne hk1 ka_315 (by decide))) hf_320
                  replace hf_325 := tr _ _ _ (Or.inl (tt_ne hk0 ka_315 (by decide))) hf_325
                  replace hf_349 := tr _ _ _ (Or.inr (by decide)) hf_349
                  have hf_352 := hn
                  replace hfr := hfr.put ka_315 tr (by decide)
                  obtain ⟨x_353, ex_353, vx_353⟩ := tt_inc (x := x_304) (n := 1) (by omega) (by omega)
                  refine jj_iinc (v := x_353) C dX2_settleSeries_117 rfl ex_353 (by decide) rfl ?_
                  refine jj_goto (tgt := 46) C dX2_settleSeries_120 (by decide) ?_
                  refine jj_loc [0, 2, 3, 4, 5, 6] rfl ?_
                  exact ihL_303 pl_350 x_353 hok_351 hfr hf_305 hf_306 (by first | omega | decide | exact tt_lo _ | exact tt_hi _) (by first | omega | decide | exact tt_lo _ | exact tt_hi _) (by first | omega | decide | exact tt_lo _ | exact tt_hi _)
        exact hL_303 _ pl_296 (0 : Int32) trivial hok_297 hfr hf_273 hf_290 (by first | omega | decide | exact tt_lo _ | exact tt_hi _) (by first | omega | decide | exact tt_lo _ | exact tt_hi _) (Int.self_le_toNat _)
      · refine jj_lstore C dX2_settleSeries_41 (by decide) rfl ?_
        refine jj_iconst (v := 0) C dX2_settleSeries_43 (by decide) ?_
        refine jj_istore C dX2_settleSeries_44 (by decide) rfl ?_
        have hL_354 : ∀ (N : Nat) (pl : va_W) (x_355 : Int32), True → tt_ok tt_tk cA Kd pl → tt_fr Kd [(2, 2), (2, 3), (2, 4), (3, 3), (3, 4), (3, 5)] pl0 pl → tt_at pl h0 3 (.int x_274) → tt_at pl h0 10 (.ref a_291) → (0 : Int) ≤ x_355.toInt → x_355.toInt ≤ 40 → (2147483648 - x_355.toInt ≤ (N : Int)) → jj_J p l e (jj_rm 2 58 0 0) s m args below meth c 10 A (vx_MQ below (jj_q D A (tt_O (fun rx pl1 r => rx = [] ∧ tt_ok tt_tk cA Kd pl1 ∧ tt_fr Kd [(2, 2), (2, 3), (2, 4), (3, 3), (3, 4), (3, 5)] pl0 pl1 ∧ ((r = none))))) (jj_x D A (tt_OX (fun _ _ _ => False))) args s 0 0 A) (jj_X D A ([] ++ pl)) 0 0 46 [(8, .int x_355), (6, .long y_302), (4, .long 0), (2, .long y_7), (0, .ref h0), (1, .ref h1)] [] := by
          intro NL_354
          induction NL_354 with
          | zero => intro pl x_355 _ hok hfr hf_356 hf_357 lx_355 ux_355 hNL_354; exfalso; omega
          | succ NL_354 ihL_354 =>
            intro pl x_355 _ hok hfr hf_356 hf_357 lx_355 ux_355 hNL_354
            replace ihL_354 := fun pl x_355 h1 => ihL_354 pl x_355 trivial h1
            refine jj_iload C dX2_settleSeries_46 rfl ?_
            refine jj_aload_n C dX2_settleSeries_48 rfl ?_
            refine tt_get C hok jk_2 8 (by decide) jw_700 (t := (0, 0, 40)) hk0 (by decide) rfl rfl dX2_settleSeries_49 (fun v_358 hv_358 hf_359 => ?_)
            obtain ⟨x_360, rfl, lx_360, ux_360⟩ := tt_vi hv_358
            refine jj_icmp_ge (tgt := 123) C dX2_settleSeries_52 (by decide) (fun c_361 => ?_) (fun c_361 => ?_)
            · have z_c_361 := jc_le (a := (x_360).toInt) (b := (x_355).toInt) c_361 rfl rfl
              refine jj_lload C dX2_settleSeries_123 rfl ?_
              refine jj_lconst (v := 0) C dX2_settleSeries_125 (by decide) ?_
              refine jj_lcmp_leT (tgt := 136) C dX2_settleSeries_126 dX2_settleSeries_127 (by decide) (by decide) ?_
              exact jj_vret C ⟨[], pl, rfl, rfl, hok, hfr, rfl⟩ dX2_settleSeries_136 (jj_le rfl) (jj_le rfl)
            · have z_c_361 := jc_nle (a := (x_360).toInt) (b := (x_355).toInt) c_361 rfl rfl
              refine jj_aload_n C dX2_settleSeries_55 rfl ?_
              refine tt_get C hok jk_2 12 (by decide) jw_701 (t := (2, 7, 0)) hk0 (by decide) rfl rfl dX2_settleSeries_56 (fun v_362 hv_362 hf_363 => ?_)
              obtain ⟨a_364, rfl, ka_364⟩ := tt_vr hv_362
              refine jj_iload C dX2_settleSeries_59 rfl ?_
              refine tt_aald C hok (t := (2, 3, 0)) ka_364 (by decide) rfl rfl rfl (vp_in_iff.mpr ⟨by omega, by omega⟩) dX2_settleSeries_61 (fun v_365 hv_365 => ?_)
              obtain ⟨a_366, rfl, ka_366⟩ := tt_vr hv_365
              refine jj_astore C dX2_settleSeries_62 (by decide) rfl ?_
              refine jj_aload C dX2_settleSeries_64 rfl ?_
              refine tt_get C hok jk_5 1 (by decide) jw_702 (t := (0, (-2147483648), 2147483647)) ka_366 (by decide) rfl rfl dX2_settleSeries_66 (fun v_367 hv_367 hf_368 => ?_)
              obtain ⟨x_369, rfl, lx_369, ux_369⟩ := tt_vi hv_367
              refine jj_aload_n C dX2_settleSeries_69 rfl ?_
              refine tt_get C hok jk_9 0 (by decide) jw_703 (t := (0, (-2147483648), 2147483647)) hk1 (by decide) rfl rfl dX2_settleSeries_70 (fun v_370 hv_370 hf_371 => ?_)
              obtain ⟨x_372, rfl, lx_372, ux_372⟩ := tt_vi hv_370
              refine jj_icmp_ne (tgt := 117) C dX2_settleSeries_73 (by decide) (fun c_373 => ?_) (fun c_373 => ?_)
              · have z_c_373 := jc_neq (a := (x_369).toInt) (b := (x_372).toInt) c_373 rfl rfl
                obtain ⟨x_374, ex_374, vx_374⟩ := tt_inc (x := x_355) (n := 1) (by omega) (by omega)
                refine jj_iinc (v := x_374) C dX2_settleSeries_117 rfl ex_374 (by decide) rfl ?_
                refine jj_goto (tgt := 46) C dX2_settleSeries_120 (by decide) ?_
                refine jj_loc [0, 2, 3, 4, 5, 6] rfl ?_
                exact ihL_354 pl x_374 hok hfr hf_356 hf_357 (by first | omega | decide | exact tt_lo _ | exact tt_hi _) (by first | omega | decide | exact tt_lo _ | exact tt_hi _) (by first | omega | decide | exact tt_lo _ | exact tt_hi _)
              · have z_c_373 := jc_eq (a := (x_369).toInt) (b := (x_372).toInt) c_373 rfl rfl
                refine jj_aload_n C dX2_settleSeries_76 rfl ?_
                refine tt_get C hok jk_2 1 (by decide) jw_704 (t := (0, (-2147483648), 2147483647)) hk0 (by decide) rfl rfl dX2_settleSeries_77 (fun v_375 hv_375 hf_376 => ?_)
                obtain ⟨x_377, rfl, lx_377, ux_377⟩ := tt_vi hv_375
                refine jj_iconst (v := 1) C dX2_settleSeries_80 (by decide) ?_
                refine jj_icmp_ne (tgt := 104) C dX2_settleSeries_81 (by decide) (fun c_378 => ?_) (fun c_378 => ?_)
                · have z_c_378 := jc_neq (a := (x_377).toInt) (b := (1)) c_378 rfl (by decide)
                  refine jj_aload C dX2_settleSeries_104 rfl ?_
                  refine jj_lload C dX2_settleSeries_106 rfl ?_
                  refine tt_put C hok jk_5 4 (by decide) jw_705 (t := (1, (-9223372036854775808), 9223372036854775807)) ka_366 (by decide) rfl rfl rfl (tt_ja y_302) rfl rfl dX2_settleSeries_108 (fun pl_379 hok_380 tr hn => ?_)
                  replace hf_356 := tr _ _ _ (Or.inl (tt_ne hk0 ka_366 (by decide))) hf_356
                  replace hf_357 := tr _ _ _ (Or.inl (tt_ne hk0 ka_366 (by decide))) hf_357
                  replace hf_359 := tr _ _ _ (Or.inl (tt_ne hk0 ka_366 (by decide))) hf_359
                  replace hf_363 := tr _ _ _ (Or.inl (tt_ne hk0 ka_366 (by decide))) hf_363
                  replace hf_368 := tr _ _ _ (Or.inr (by decide)) hf_368
                  replace hf_371 := tr _ _ _ (Or.inl (tt_ne hk1 ka_366 (by decide))) hf_371
                  replace hf_376 := tr _ _ _ (Or.inl (tt_ne hk0 ka_366 (by decide))) hf_376
                  have hf_381 := hn
                  replace hfr := hfr.put ka_366 tr (by decide)
                  refine jj_aload C dX2_settleSeries_111 rfl ?_
                  refine jj_lconst (v := 0) C dX2_settleSeries_113 (by decide) ?_
                  refine tt_put C hok_380 jk_5 5 (by decide) jw_706 (t := (1, (-9223372036854775808), 9223372036854775807)) ka_366 (by decide) rfl rfl rfl (tt_ja (0 : Int64)) rfl rfl dX2_settleSeries_114 (fun pl_382 hok_383 tr hn => ?_)
                  replace hf_356 := tr _ _ _ (Or.inl (tt_ne hk0 ka_366 (by decide))) hf_356
                  replace hf_357 := tr _ _ _ (Or.inl (tt_ne hk0 ka_366 (by decide))) hf_357
                  replace hf_359 := tr _ _ _ (Or.inl (tt_ne hk0 ka_366 (by decide))) hf_359
                  replace hf_363 := tr _ _ _ (Or.inl (tt_ne hk0 ka_366 (by decide))) hf_363
                  replace hf_368 := tr _ _ _ (Or.inr (by decide)) hf_368
                  replace hf_371 := tr _ _ _ (Or.inl (tt_ne hk1 ka_366 (by decide))) hf_371
                  replace hf_376 := tr _ _ _ (Or.inl (tt_ne hk0 ka_366 (by decide))) hf_376
                  replace hf_381 := tr _ _ _ (Or.inr (by decide)) hf_381
                  have hf_384 := hn
                  replace hfr := hfr.put ka_366 tr (by decide)
                  obtain ⟨x_385, ex_385, vx_385⟩ := tt_inc (x := x_355) (n := 1) (by omega) (by omega)
                  refine jj_iinc (v := x_385) C dX2_settleSeries_117 rfl ex_385 (by decide) rfl ?_
                  refine jj_goto (tgt := 46) C dX2_settleSeries_120 (by decide) ?_
                  refine jj_loc [0, 2, 3, 4, 5, 6] rfl ?_
                  exact ihL_354 pl_382 x_385 hok_383 hfr hf_356 hf_357 (by first | omega | decide | exact tt_lo _ | exact tt_hi _) (by first | omega | decide | exact tt_lo _ | exact tt_hi _) (by first | omega | decide | exact tt_lo _ | exact tt_hi _)
                · have z_c_378 := jc_eq (a := (x_377).toInt) (b := (1)) c_378 rfl (by decide)
                  refine jj_aload_n C dX2_settleSeries_84 rfl ?_
                  refine jj_aload_n C dX2_settleSeries_85 rfl ?_
                  refine jj_aload C dX2_settleSeries_86 rfl ?_
                  refine jj_lload_n C dX2_settleSeries_88 rfl ?_
                  refine jj_lload C dX2_settleSeries_89 rfl ?_
                  refine tt_callS (rest := []) C (tc_X2_giveBack_4 hl D cA ak h0 h1 a_366 y_7 y_302 hk0 hk1 ka_366 hok) [] [] rfl rfl (by decide) (by decide) (by decide) jw_707 jw_713 jw_175 jw_708 jn_X2_giveBack rfl (jj_le rfl) (jj_le rfl) (jj_le rfl) (jj_le rfl) (jj_le rfl) dX2_settleSeries_91 rfl (fun _ _ _ hX => hX.elim) (fun rx pl_386 r O_389 => ?_)
                  obtain ⟨rfl, hok_387, hr_388, hR_391⟩ := O_389
                  replace hf_356 := hr_388.at hk0 (by decide) (by decide) hf_356
                  replace hf_357 := hr_388.at hk0 (by decide) (by decide) hf_357
                  replace hf_359 := hr_388.at hk0 (by decide) (by decide) hf_359
                  replace hf_363 := hr_388.at hk0 (by decide) (by decide) hf_363
                  replace hf_368 := hr_388.at ka_366 (by decide) (by decide) hf_368
                  replace hf_371 := hr_388.at hk1 (by decide) (by decide) hf_371
                  replace hf_376 := hr_388.at hk0 (by decide) (by decide) hf_376
                  replace hfr := hfr.trans (hr_388.sub (by decide))
                  obtain rfl := hR_391
                  refine jj_aload_n C dX2_settleSeries_94 rfl ?_
                  refine jj_aload_n C dX2_settleSeries_95 rfl ?_
                  refine jj_aload C dX2_settleSeries_96 rfl ?_
                  refine jj_lload_n C dX2_settleSeries_98 rfl ?_
                  refine jj_lload C dX2_settleSeries_99 rfl ?_
                  refine tt_callS (rest := []) C (tc_X2_takeDue_4 hl D cA ak h0 h1 a_366 y_7 y_302 hk0 hk1 ka_366 hok_387) [] [] rfl rfl (by decide) (by decide) (by decide) jw_715 jw_718 jw_175 jw_716 jn_X2_takeDue rfl (jj_le rfl) (jj_le rfl) (jj_le rfl) (jj_le rfl) (jj_le rfl) dX2_settleSeries_101 rfl (fun _ _ _ hX => hX.elim) (fun rx pl_392 r O_395 => ?_)
                  obtain ⟨rfl, hok_393, hr_394, hR_397⟩ := O_395
                  replace hf_356 := hr_394.at hk0 (by decide) (by decide) hf_356
                  replace hf_357 := hr_394.at hk0 (by decide) (by decide) hf_357
                  replace hf_359 := hr_394.at hk0 (by decide) (by decide) hf_359
                  replace hf_363 := hr_394.at hk0 (by decide) (by decide) hf_363
                  replace hf_368 := hr_394.at ka_366 (by decide) (by decide) hf_368
                  replace hf_371 := hr_394.at hk1 (by decide) (by decide) hf_371
                  replace hf_376 := hr_394.at hk0 (by decide) (by decide) hf_376
                  replace hfr := hfr.trans (hr_394.sub (by decide))
                  obtain rfl := hR_397
                  refine jj_aload C dX2_settleSeries_104 rfl ?_
                  refine jj_lload C dX2_settleSeries_106 rfl ?_
                  refine tt_put C hok_393 jk_5 4 (by decide) jw_705 (t := (1, (-9223372036854775808), 9223372036854775807)) ka_366 (by decide) rfl rfl rfl (tt_ja y_302) rfl rfl dX2_settleSeries_108 (fun pl_398 hok_399 tr hn => ?_)
                  replace hf_356 := tr _ _ _ (Or.inl (tt_ne hk0 ka_366 (by decide))) hf_356
                  replace hf_357 := tr _ _ _ (Or.inl (tt_ne hk0 ka_366 (by decide))) hf_357
                  replace hf_359 := tr _ _ _ (Or.inl (tt_ne hk0 ka_366 (by decide))) hf_359
                  replace hf_363 := tr _ _ _ (Or.inl (tt_ne hk0 ka_366 (by decide))) hf_363
                  replace hf_368 := tr _ _ _ (Or.inr (by decide)) hf_368
                  replace hf_371 := tr _ _ _ (Or.inl (tt_ne hk1 ka_366 (by decide))) hf_371
                  replace hf_376 := tr _ _ _ (Or.inl (tt_ne hk0 ka_366 (by decide))) hf_376
                  have hf_400 := hn
                  replace hfr := hfr.put ka_366 tr (by decide)
                  refine jj_aload C dX2_settleSeries_111 rfl ?_
                  refine jj_lconst (v := 0) C dX2_settleSeries_113 (by decide) ?_
                  refine tt_put C hok_399 jk_5 5 (by decide) jw_706 (t := (1, (-9223372036854775808), 9223372036854775807)) ka_366 (by decide) rfl rfl rfl (tt_ja (0 : Int64)) rfl rfl dX2_settleSeries_114 (fun pl_401 hok_402 tr hn => ?_)
                  replace hf_356 := tr _ _ _ (Or.inl (tt_ne hk0 ka_366 (by decide))) hf_356
                  replace hf_357 := tr _ _ _ (Or.inl (tt_ne hk0 ka_366 (by decide))) hf_357
                  replace hf_359 := tr _ _ _ (Or.inl (tt_ne hk0 ka_366 (by decide))) hf_359
                  replace hf_363 := tr _ _ _ (Or.inl (tt_ne hk0 ka_366 (by decide))) hf_363
                  replace hf_368 := tr _ _ _ (Or.inr (by decide)) hf_368
                  replace hf_371 := tr _ _ _ (Or.inl (tt_ne hk1 ka_366 (by decide))) hf_371
                  replace hf_376 := tr _ _ _ (Or.inl (tt_ne hk0 ka_366 (by decide))) hf_376
                  replace hf_400 := tr _ _ _ (Or.inr (by decide)) hf_400
                  have hf_403 := hn
                  replace hfr := hfr.put ka_366 tr (by decide)
                  obtain ⟨x_404, ex_404, vx_404⟩ := tt_inc (x := x_355) (n := 1) (by omega) (by omega)
                  refine jj_iinc (v := x_404) C dX2_settleSeries_117 rfl ex_404 (by decide) rfl ?_
                  refine jj_goto (tgt := 46) C dX2_settleSeries_120 (by decide) ?_
                  refine jj_loc [0, 2, 3, 4, 5, 6] rfl ?_
                  exact ihL_354 pl_401 x_404 hok_402 hfr hf_356 hf_357 (by first | omega | decide | exact tt_lo _ | exact tt_hi _) (by first | omega | decide | exact tt_lo _ | exact tt_hi _) (by first | omega | decide | exact tt_lo _ | exact tt_hi _)
        exact hL_354 _ pl_296 (0 : Int32) trivial hok_297 hfr hf_273 hf_290 (by first | omega | decide | exact tt_lo _ | exact tt_hi _) (by first | omega | decide | exact tt_lo _ | exact tt_hi _) (Int.self_le_toNat _)
    · refine jj_lstore C dX2_settleSeries_13 (by decide) rfl ?_
      refine jj_aload_n C dX2_settleSeries_15 rfl ?_
      refine jj_dup C dX2_settleSeries_16 rfl ?_
      refine tt_get C hok_276 jk_9 2 (by decide) jw_321 (t := (1, (-9223372036854775808), 9223372036854775807)) hk1 (by decide) rfl rfl dX2_settleSeries_17 (fun v_405 hv_405 hf_406 => ?_)
      obtain ⟨y_407, rfl, -, -⟩ := tt_vj hv_405
      refine jj_lload C dX2_settleSeries_20 rfl ?_
      obtain ⟨y_408, ey_408⟩ : ∃ z : Int64, y_407 - y_281 = z := ⟨_, rfl⟩
      refine jj_lsub (v := y_408) C dX2_settleSeries_22 ey_408 ?_
      refine tt_put C hok_276 jk_9 2 (by decide) jw_321 (t := (1, (-9223372036854775808), 9223372036854775807)) hk1 (by decide) rfl rfl rfl (tt_ja y_408) rfl rfl dX2_settleSeries_23 (fun pl_409 hok_410 tr hn => ?_)
      replace hf_273 := tr _ _ _ (Or.inl (tt_ne hk0 hk1 (by decide))) hf_273
      have hf_411 := hn
      replace hfr := hfr.put hk1 tr (by decide)
      refine jj_aload_n C dX2_settleSeries_26 rfl ?_
      refine tt_get C hok_410 jk_2 10 (by decide) jw_319 (t := (2, 5, 0)) hk0 (by decide) rfl rfl dX2_settleSeries_27 (fun v_412 hv_412 hf_413 => ?_)
      obtain ⟨a_414, rfl, ka_414⟩ := tt_vr hv_412
      refine jj_iconst (v := 0) C dX2_settleSeries_30 (by decide) ?_
      refine jj_dup2 C dX2_settleSeries_31 rfl rfl ?_
      refine tt_lald C hok_410 (t := (1, (-9223372036854775808), 9223372036854775807)) ka_414 (by decide) rfl (vp_in_iff.mpr (by decide)) dX2_settleSeries_32 (fun v_415 hv_415 => ?_)
      refine jj_lload C dX2_settleSeries_33 rfl ?_
      obtain ⟨y_416, ey_416⟩ : ∃ z : Int64, v_415 + y_281 = z := ⟨_, rfl⟩
      refine jj_ladd (v := y_416) C dX2_settleSeries_35 ey_416 ?_
      refine tt_last C hok_410 (t := (1, (-9223372036854775808), 9223372036854775807)) ka_414 (by decide) rfl (vp_in_iff.mpr (by decide)) (tt_ja _) dX2_settleSeries_36 (fun pl_417 hok_418 tr => ?_)
      replace hf_273 := tr _ _ _ hf_273
      replace hf_411 := tr _ _ _ hf_411
      replace hf_413 := tr _ _ _ hf_413
      replace hfr := hfr.arr tr
      refine jj_aload_n C dX2_settleSeries_37 rfl ?_
      obtain ⟨qc, gs, hqc⟩ := tt_recv (cx := []) hok_418 hk1 (by decide) rfl
      refine tt_callV (rest := []) C (tc_X8_grossPrice_1 hl D cA ak h1 hk1 hok_418) [] [] rfl rfl (by decide) (by decide) (by decide) qc hqc rfl rfl jw_697 jw_169 jw_170 jw_92 jw_167 jn_X8_grossPrice rfl (jj_le rfl) (jj_le rfl) (jj_le rfl) (jj_le rfl) (jj_le rfl) dX2_settleSeries_38 rfl (fun _ _ _ hX => hX.elim) (fun rx pl_419 r O_422 => ?_)
      obtain ⟨rfl, hok_420, hr_421, hR_424⟩ := O_422
      replace hf_273 := hr_421.at hk0 (by decide) (by decide) hf_273
      replace hf_411 := hr_421.at hk1 (by decide) (by decide) hf_411
      replace hf_413 := hr_421.at hk0 (by decide) (by decide) hf_413
      replace hfr := hfr.trans (hr_421.sub (by decide))
      rcases hR_424 with rfl | ⟨y_425, rfl⟩
      · refine jj_lstore C dX2_settleSeries_41 (by decide) rfl ?_
        refine jj_iconst (v := 0) C dX2_settleSeries_43 (by decide) ?_
        refine jj_istore C dX2_settleSeries_44 (by decide) rfl ?_
        have hL_426 : ∀ (N : Nat) (pl : va_W) (x_427 : Int32), True → tt_ok tt_tk cA Kd pl → tt_fr Kd [(2, 2), (2, 3), (2, 4), (3, 3), (3, 4), (3, 5)] pl0 pl → tt_at pl h0 3 (.int x_274) → tt_at pl h0 10 (.ref a_414) → (0 : Int) ≤ x_427.toInt → x_427.toInt ≤ 40 → (2147483648 - x_427.toInt ≤ (N : Int)) → jj_J p l e (jj_rm 2 58 0 0) s m args below meth c 10 A (vx_MQ below (jj_q D A (tt_O (fun rx pl1 r => rx = [] ∧ tt_ok tt_tk cA Kd pl1 ∧ tt_fr Kd [(2, 2), (2, 3), (2, 4), (3, 3), (3, 4), (3, 5)] pl0 pl1 ∧ ((r = none))))) (jj_x D A (tt_OX (fun _ _ _ => False))) args s 0 0 A) (jj_X D A ([] ++ pl)) 0 0 46 [(8, .int x_427), (6, .long 1000000), (4, .long y_281), (2, .long y_7), (0, .ref h0), (1, .ref h1)] [] := by
          intro NL_426
          induction NL_426 with
          | zero => intro pl x_427 _ hok hfr hf_428 hf_429 lx_427 ux_427 hNL_426; exfalso; omega
          | succ NL_426 ihL_426 =>
            intro pl x_427 _ hok hfr hf_428 hf_429 lx_427 ux_427 hNL_426
            replace ihL_426 := fun pl x_427 h1 => ihL_426 pl x_427 trivial h1
            refine jj_iload C dX2_settleSeries_46 rfl ?_
            refine jj_aload_n C dX2_settleSeries_48 rfl ?_
            refine tt_get C hok jk_2 8 (by decide) jw_700 (t := (0, 0, 40)) hk0 (by decide) rfl rfl dX2_settleSeries_49 (fun v_430 hv_430 hf_431 => ?_)
            obtain ⟨x_432, rfl, lx_432, ux_432⟩ := tt_vi hv_430
            refine jj_icmp_ge (tgt := 123) C dX2_settleSeries_52 (by decide) (fun c_433 => ?_) (fun c_433 => ?_)
            · have z_c_433 := jc_le (a := (x_432).toInt) (b := (x_427).toInt) c_433 rfl rfl
              refine jj_lload C dX2_settleSeries_123 rfl ?_
              refine jj_lconst (v := 0) C dX2_settleSeries_125 (by decide) ?_
              refine jj_lcmp_le (tgt := 136) C dX2_settleSeries_126 dX2_settleSeries_127 (by decide) (fun c_434 => ?_) (fun c_434 => ?_)
              · exact jj_vret C ⟨[], pl, rfl, rfl, hok, hfr, rfl⟩ dX2_settleSeries_136 (jj_le rfl) (jj_le rfl)
              · refine jj_aload_n C dX2_settleSeries_130 rfl ?_
                refine jj_lload C dX2_settleSeries_131 rfl ?_
                refine tt_put C hok jk_9 4 (by decide) jw_709 (t := (1, (-9223372036854775808), 9223372036854775807)) hk1 (by decide) rfl rfl rfl (tt_ja (1000000 : Int64)) rfl rfl dX2_settleSeries_133 (fun pl_435 hok_436 tr hn => ?_)
                replace hf_428 := tr _ _ _ (Or.inl (tt_ne hk0 hk1 (by decide))) hf_428
                replace hf_429 := tr _ _ _ (Or.inl (tt_ne hk0 hk1 (by decide))) hf_429
                replace hf_431 := tr _ _ _ (Or.inl (tt_ne hk0 hk1 (by decide))) hf_431
                have hf_437 := hn
                replace hfr := hfr.put hk1 tr (by decide)
                exact jj_vret C ⟨[], pl_435, rfl, rfl, hok_436, hfr, rfl⟩ dX2_settleSeries_136 (jj_le rfl) (jj_le rfl)
            · have z_c_433 := jc_nle (a := (x_432).toInt) (b := (x_427).toInt) c_433 rfl rfl
              refine jj_aload_n C dX2_settleSeries_55 rfl ?_
              refine tt_get C hok jk_2 12 (by decide) jw_701 (t := (2, 7, 0)) hk0 (by decide) rfl rfl dX2_settleSeries_56 (fun v_438 hv_438 hf_439 => ?_)
              obtain ⟨a_440, rfl, ka_440⟩ := tt_vr hv_438
              refine jj_iload C dX2_settleSeries_59 rfl ?_
              refine tt_aald C hok (t := (2, 3, 0)) ka_440 (by decide) rfl rfl rfl (vp_in_iff.mpr ⟨by omega, by omega⟩) dX2_settleSeries_61 (fun v_441 hv_441 => ?_)
              obtain ⟨a_442, rfl, ka_442⟩ := tt_vr hv_441
              refine jj_astore C dX2_settleSeries_62 (by decide) rfl ?_
              refine jj_aload C dX2_settleSeries_64 rfl ?_
              refine tt_get C hok jk_5 1 (by decide) jw_702 (t := (0, (-2147483648), 2147483647)) ka_442 (by decide) rfl rfl dX2_settleSeries_66 (fun v_443 hv_443 hf_444 => ?_)
              obtain ⟨x_445, rfl, lx_445, ux_445⟩ := tt_vi hv_443
              refine jj_aload_n C dX2_settleSeries_69 rfl ?_
              refine tt_get C hok jk_9 0 (by decide) jw_703 (t := (0, (-2147483648), 2147483647)) hk1 (by decide) rfl rfl dX2_settleSeries_70 (fun v_446 hv_446 hf_447 => ?_)
              obtain ⟨x_448, rfl, lx_448, ux_448⟩ := tt_vi hv_446
              refine jj_icmp_ne (tgt := 117) C dX2_settleSeries_73 (by decide) (fun c_449 => ?_) (fun c_449 => ?_)
              · have z_c_449 := jc_neq (a := (x_445).toInt) (b := (x_448).toInt) c_449 rfl rfl
                obtain ⟨x_450, ex_450, vx_450⟩ := tt_inc (x := x_427) (n := 1) (by omega) (by omega)
                refine jj_iinc (v := x_450) C dX2_settleSeries_117 rfl ex_450 (by decide) rfl ?_
                refine jj_goto (tgt := 46) C dX2_settleSeries_120 (by decide) ?_
                refine jj_loc [0, 2, 3, 4, 5, 6] rfl ?_
                exact ihL_426 pl x_450 hok hfr hf_428 hf_429 (by first | omega | decide | exact tt_lo _ | exact tt_hi _) (by first | omega | decide | exact tt_lo _ | exact tt_hi _) (by first | omega | decide | exact tt_lo _ | exact tt_hi _)
              · have z_c_449 := jc_eq (a := (x_445).toInt) (b := (x_448).toInt) c_449 rfl rfl
                refine jj_aload_n C dX2_settleSeries_76 rfl ?_
                refine tt_get C hok jk_2 1 (by decide) jw_704 (t := (0, (-2147483648), 2147483647)) hk0 (by decide) rfl rfl dX2_settleSeries_77 (fun v_451 hv_451 hf_452 => ?_)
                obtain ⟨x_453, rfl, lx_453, ux_453⟩ := tt_vi hv_451
                refine jj_iconst (v := 1) C dX2_settleSeries_80 (by decide) ?_
                refine jj_icmp_ne (tgt := 104) C dX2_settleSeries_81 (by decide) (fun c_454 => ?_) (fun c_454 => ?_)
                · have z_c_454 := jc_neq (a := (x_453).toInt) (b := (1)) c_454 rfl (by decide)
                  refine jj_aload C dX2_settleSeries_104 rfl ?_
                  refine jj_lload C dX2_settleSeries_106 rfl ?_
                  refine tt_put C hok jk_5 4 (by decide) jw_705 (t := (1, (-9223372036854775808), 9223372036854775807)) ka_442 (by decide) rfl rfl rfl (tt_ja (1000000 : Int64)) rfl rfl dX2_settleSeries_108 (fun pl_455 hok_456 tr hn => ?_)
                  replace hf_428 := tr _ _ _ (Or.inl (tt_ne hk0 ka_442 (by decide))) hf_428
                  replace hf_429 := tr _ _ _ (Or.inl (tt_ne hk0 ka_442 (by decide))) hf_429
                  replace hf_431 := tr _ _ _ (Or.inl (tt_ne hk0 ka_442 (by decide))) hf_431
                  replace hf_439 := tr _ _ _ (Or.inl (tt_ne hk0 ka_442 (by decide))) hf_439
                  replace hf_444 := tr _ _ _ (Or.inr (by decide)) hf_444
                  replace hf_447 := tr _ _ _ (Or.inl (tt_ne hk1 ka_442 (by decide))) hf_447
                  replace hf_452 := tr _ _ _ (Or.inl (tt_ne hk0 ka_442 (by decide))) hf_452
                  have hf_457 := hn
                  replace hfr := hfr.put ka_442 tr (by decide)
                  refine jj_aload C dX2_settleSeries_111 rfl ?_
                  refine jj_lconst (v := 0) C dX2_settleSeries_113 (by decide) ?_
                  refine tt_put C hok_456 jk_5 5 (by decide) jw_706 (t := (1, (-9223372036854775808), 9223372036854775807)) ka_442 (by decide) rfl rfl rfl (tt_ja (0 : Int64)) rfl rfl dX2_settleSeries_114 (fun pl_458 hok_459 tr hn => ?_)
                  replace hf_428 := tr _ _ _ (Or.inl (tt_ne hk0 ka_442 (by decide))) hf_428
                  replace hf_429 := tr _ _ _ (Or.inl (tt_ne hk0 ka_442 (by decide))) hf_429
                  replace hf_431 := tr _ _ _ (Or.inl (tt_ne hk0 ka_442 (by decide))) hf_431
                  replace hf_439 := tr _ _ _ (Or.inl (tt_ne hk0 ka_442 (by decide))) hf_439
                  replace hf_444 := tr _ _ _ (Or.inr (by decide)) hf_444
                  replace hf_447 := tr _ _ _ (Or.inl (tt_ne hk1 ka_442 (by decide))) hf_447
                  replace hf_452 := tr _ _ _ (Or.inl (tt_ne hk0 ka_442 (by decide))) hf_452
                  replace hf_457 := tr _ _ _ (Or.inr (by decide)) hf_457
                  have hf_460 := hn
                  replace hfr := hfr.put ka_442 tr (by decide)
                  obtain ⟨x_461, ex_461, vx_461⟩ := tt_inc (x := x_427) (n := 1) (by omega) (by omega)
                  refine jj_iinc (v := x_461) C dX2_settleSeries_117 rfl ex_461 (by decide) rfl ?_
                  refine jj_goto (tgt := 46) C dX2_settleSeries_120 (by decide) ?_
                  refine jj_loc [0, 2, 3, 4, 5, 6] rfl ?_
                  exact ihL_426 pl_458 x_461 hok_459 hfr hf_428 hf_429 (by first | omega | decide | exact tt_lo _ | exact tt_hi _) (by first | omega | decide | exact tt_lo _ | exact tt_hi _) (by first | omega | decide | exact tt_lo _ | exact tt_hi _)
                · have z_c_454 := jc_eq (a := (x_453).toInt) (b := (1)) c_454 rfl (by decide)
                  refine jj_aload_n C dX2_settleSeries_84 rfl ?_
                  refine jj_aload_n C dX2_settleSeries_85 rfl ?_
                  refine jj_aload C dX2_settleSeries_86 rfl ?_
                  refine jj_lload_n C dX2_settleSeries_88 rfl ?_
                  refine jj_lload C dX2_settleSeries_89 rfl ?_
                  refine tt_callS (rest := []) C (tc_X2_giveBack_3 hl D cA ak h0 h1 a_442 y_7 hk0 hk1 ka_442 hok) [] [] rfl rfl (by decide) (by decide) (by decide) jw_707 jw_713 jw_175 jw_708 jn_X2_giveBack rfl (jj_le rfl) (jj_le rfl) (jj_le rfl) (jj_le rfl) (jj_le rfl) dX2_settleSeries_91 rfl (fun _ _ _ hX => hX.elim) (fun rx pl_462 r O_465 => ?_)
                  obtain ⟨rfl, hok_463, hr_464, hR_467⟩ := O_465
                  replace hf_428 := hr_464.at hk0 (by decide) (by decide) hf_428
                  replace hf_429 := hr_464.at hk0 (by decide) (by decide) hf_429
                  replace hf_431 := hr_464.at hk0 (by decide) (by decide) hf_431
                  replace hf_439 := hr_464.at hk0 (by decide) (by decide) hf_439
                  replace hf_444 := hr_464.at ka_442 (by decide) (by decide) hf_444
                  replace hf_447 := hr_464.at hk1 (by decide) (by decide) hf_447
                  replace hf_452 := hr_464.at hk0 (by decide) (by decide) hf_452
                  replace hfr := hfr.trans (hr_464.sub (by decide))
                  obtain rfl := hR_467
                  refine jj_aload_n C dX2_settleSeries_94 rfl ?_
                  refine jj_aload_n C dX2_settleSeries_95 rfl ?_
                  refine jj_aload C dX2_settleSeries_96 rfl ?_
                  refine jj_lload_n C dX2_settleSeries_98 rfl ?_
                  refine jj_lload C dX2_settleSeries_99 rfl ?_
                  refine tt_callS (rest := []) C (tc_X2_takeDue_3 hl D cA ak h0 h1 a_442 y_7 hk0 hk1 ka_442 hok_463) [] [] rfl rfl (by decide) (by decide) (by decide) jw_715 jw_718 jw_175 jw_716 jn_X2_takeDue rfl (jj_le rfl) (jj_le rfl) (jj_le rfl) (jj_le rfl) (jj_le rfl) dX2_settleSeries_101 rfl (fun _ _ _ hX => hX.elim) (fun rx pl_468 r O_471 => ?_)
                  obtain ⟨rfl, hok_469, hr_470, hR_473⟩ := O_471
                  replace hf_428 := hr_470.at hk0 (by decide) (by decide) hf_428
                  replace hf_429 := hr_470.at hk0 (by decide) (by decide) hf_429
                  replace hf_431 := hr_470.at hk0 (by decide) (by decide) hf_431
                  replace hf_439 := hr_470.at hk0 (by decide) (by decide) hf_439
                  replace hf_444 := hr_470.at ka_442 (by decide) (by decide) hf_444
                  replace hf_447 := hr_470.at hk1 (by decide) (by decide) hf_447
                  replace hf_452 := hr_470.at hk0 (by decide) (by decide) hf_452
                  replace hfr := hfr.trans (hr_470.sub (by decide))
                  obtain rfl := hR_473
                  refine jj_aload C dX2_settleSeries_104 rfl ?_
                  refine jj_lload C dX2_settleSeries_106 rfl ?_
                  refine tt_put C hok_469 jk_5 4 (by decide) jw_705 (t := (1, (-9223372036854775808), 9223372036854775807)) ka_442 (by decide) rfl rfl rfl (tt_ja (1000000 : Int64)) rfl rfl dX2_settleSeries_108 (fun pl_474 hok_475 tr hn => ?_)
                  replace hf_428 := tr _ _ _ (Or.inl (tt_ne hk0 ka_442 (by decide))) hf_428
                  replace hf_429 := tr _ _ _ (Or.inl (tt_ne hk0 ka_442 (by decide))) hf_429
                  replace hf_431 := tr _ _ _ (Or.inl (tt_ne hk0 ka_442 (by decide))) hf_431
                  replace hf_439 := tr _ _ _ (Or.inl (tt_ne hk0 ka_442 (by decide))) hf_439
                  replace hf_444 := tr _ _ _ (Or.inr (by decide)) hf_444
                  replace hf_447 := tr _ _ _ (Or.inl (tt_ne hk1 ka_442 (by decide))) hf_447
                  replace hf_452 := tr _ _ _ (Or.inl (tt_ne hk0 ka_442 (by decide))) hf_452
                  have hf_476 := hn
                  replace hfr := hfr.put ka_442 tr (by decide)
                  refine jj_aload C dX2_settleSeries_111 rfl ?_
                  refine jj_lconst (v := 0) C dX2_settleSeries_113 (by decide) ?_
                  refine tt_put C hok_475 jk_5 5 (by decide) jw_706 (t := (1, (-9223372036854775808), 9223372036854775807)) ka_442 (by decide) rfl rfl rfl (tt_ja (0 : Int64)) rfl rfl dX2_settleSeries_114 (fun pl_477 hok_478 tr hn => ?_)
                  replace hf_428 := tr _ _ _ (Or.inl (tt_ne hk0 ka_442 (by decide))) hf_428
                  replace hf_429 := tr _ _ _ (Or.inl (tt_ne hk0 ka_442 (by decide))) hf_429
                  replace hf_431 := tr _ _ _ (Or.inl (tt_ne hk0 ka_442 (by decide))) hf_431
                  replace hf_439 := tr _ _ _ (Or.inl (tt_ne hk0 ka_442 (by decide))) hf_439
                  replace hf_444 := tr _ _ _ (Or.inr (by decide)) hf_444
                  replace hf_447 := tr _ _ _ (Or.inl (tt_ne hk1 ka_442 (by decide))) hf_447
                  replace hf_452 := tr _ _ _ (Or.inl (tt_ne hk0 ka_442 (by decide))) hf_452
                  replace hf_476 := tr _ _ _ (Or.inr (by decide)) hf_476
                  have hf_479 := hn
                  replace hfr := hfr.put ka_442 tr (by decide)
                  obtain ⟨x_480, ex_480, vx_480⟩ := tt_inc (x := x_427) (n := 1) (by omega) (by omega)
                  refine jj_iinc (v := x_480) C dX2_settleSeries_117 rfl ex_480 (by decide) rfl ?_
                  refine jj_goto (tgt := 46) C dX2_settleSeries_120 (by decide) ?_
                  refine jj_loc [0, 2, 3, 4, 5, 6] rfl ?_
                  exact ihL_426 pl_477 x_480 hok_478 hfr hf_428 hf_429 (by first | omega | decide | exact tt_lo _ | exact tt_hi _) (by first | omega | decide | exact tt_lo _ | exact tt_hi _) (by first | omega | decide | exact tt_lo _ | exact tt_hi _)
        exact hL_426 _ pl_419 (0 : Int32) trivial hok_420 hfr hf_273 hf_413 (by first | omega | decide | exact tt_lo _ | exact tt_hi _) (by first | omega | decide | exact tt_lo _ | exact tt_hi _) (Int.self_le_toNat _)
      · refine jj_lstore C dX2_settleSeries_41 (by decide) rfl ?_
        refine jj_iconst (v := 0) C dX2_settleSeries_43 (by decide) ?_
        refine jj_istore C dX2_settleSeries_44 (by decide) rfl ?_
        have hL_481 : ∀ (N : Nat) (pl : va_W) (x_482 : Int32), True → tt_ok tt_tk cA Kd pl → tt_fr Kd [(2, 2), (2, 3), (2, 4), (3, 3), (3, 4), (3, 5)] pl0 pl → tt_at pl h0 3 (.int x_274) → tt_at pl h0 10 (.ref a_414) → (0 : Int) ≤ x_482.toInt → x_482.toInt ≤ 40 → (2147483648 - x_482.toInt ≤ (N : Int)) → jj_J p l e (jj_rm 2 58 0 0) s m args below meth c 10 A (vx_MQ below (jj_q D A (tt_O (fun rx pl1 r => rx = [] ∧ tt_ok tt_tk cA Kd pl1 ∧ tt_fr Kd [(2, 2), (2, 3), (2, 4), (3, 3), (3, 4), (3, 5)] pl0 pl1 ∧ ((r = none))))) (jj_x D A (tt_OX (fun _ _ _ => False))) args s 0 0 A) (jj_X D A ([] ++ pl)) 0 0 46 [(8, .int x_482), (6, .long y_425), (4, .long y_281), (2, .long y_7), (0, .ref h0), (1, .ref h1)] [] := by
          intro NL_481
          induction NL_481 with
          | zero => intro pl x_482 _ hok hfr hf_483 hf_484 lx_482 ux_482 hNL_481; exfalso; omega
          | succ NL_481 ihL_481 =>
            intro pl x_482 _ hok hfr hf_483 hf_484 lx_482 ux_482 hNL_481
            replace ihL_481 := fun pl x_482 h1 => ihL_481 pl x_482 trivial h1
            refine jj_iload C dX2_settleSeries_46 rfl ?_
            refine jj_aload_n C dX2_settleSeries_48 rfl ?_
            refine tt_get C hok jk_2 8 (by decide) jw_700 (t := (0, 0, 40)) hk0 (by decide) rfl rfl dX2_settleSeries_49 (fun v_485 hv_485 hf_486 => ?_)
            obtain ⟨x_487, rfl, lx_487, ux_487⟩ := tt_vi hv_485
            refine jj_icmp_ge (tgt := 123) C dX2_settleSeries_52 (by decide) (fun c_488 => ?_) (fun c_488 => ?_)
            · have z_c_488 := jc_le (a := (x_487).toInt) (b := (x_482).toInt) c_488 rfl rfl
              refine jj_lload C dX2_settleSeries_123 rfl ?_
              refine jj_lconst (v := 0) C dX2_settleSeries_125 (by decide) ?_
              refine jj_lcmp_le (tgt := 136) C dX2_settleSeries_126 dX2_settleSeries_127 (by decide) (fun c_489 => ?_) (fun c_489 => ?_)
              · exact jj_vret C ⟨[], pl, rfl, rfl, hok, hfr, rfl⟩ dX2_settleSeries_136 (jj_le rfl) (jj_le rfl)
              · refine jj_aload_n C dX2_settleSeries_130 rfl ?_
                refine jj_lload C dX2_settleSeries_131 rfl ?_
                refine tt_put C hok jk_9 4 (by decide) jw_709 (t := (1, (-9223372036854775808), 9223372036854775807)) hk1 (by decide) rfl rfl rfl (tt_ja y_425) rfl rfl dX2_settleSeries_133 (fun pl_490 hok_491 tr hn => ?_)
                replace hf_483 := tr _ _ _ (Or.inl (tt_ne hk0 hk1 (by decide))) hf_483
                replace hf_484 := tr _ _ _ (Or.inl (tt_ne hk0 hk1 (by decide))) hf_484
                replace hf_486 := tr _ _ _ (Or.inl (tt_ne hk0 hk1 (by decide))) hf_486
                have hf_492 := hn
                replace hfr := hfr.put hk1 tr (by decide)
                exact jj_vret C ⟨[], pl_490, rfl, rfl, hok_491, hfr, rfl⟩ dX2_settleSeries_136 (jj_le rfl) (jj_le rfl)
            · have z_c_488 := jc_nle (a := (x_487).toInt) (b := (x_482).toInt) c_488 rfl rfl
              refine jj_aload_n C dX2_settleSeries_55 rfl ?_
              refine tt_get C hok jk_2 12 (by decide) jw_701 (t := (2, 7, 0)) hk0 (by decide) rfl rfl dX2_settleSeries_56 (fun v_493 hv_493 hf_494 => ?_)
              obtain ⟨a_495, rfl, ka_495⟩ := tt_vr hv_493
              refine jj_iload C dX2_settleSeries_59 rfl ?_
              refine tt_aald C hok (t := (2, 3, 0)) ka_495 (by decide) rfl rfl rfl (vp_in_iff.mpr ⟨by omega, by omega⟩) dX2_settleSeries_61 (fun v_496 hv_496 => ?_)
              obtain ⟨a_497, rfl, ka_497⟩ := tt_vr hv_496
              refine jj_astore C dX2_settleSeries_62 (by decide) rfl ?_
              refine jj_aload C dX2_settleSeries_64 rfl ?_
              refine tt_get C hok jk_5 1 (by decide) jw_702 (t := (0, (-2147483648), 2147483647)) ka_497 (by decide) rfl rfl dX2_settleSeries_66 (fun v_498 hv_498 hf_499 => ?_)
              obtain ⟨x_500, rfl, lx_500, ux_500⟩ := tt_vi hv_498
              refine jj_aload_n C dX2_settleSeries_69 rfl ?_
              refine tt_get C hok jk_9 0 (by decide) jw_703 (t := (0, (-2147483648), 2147483647)) hk1 (by decide) rfl rfl dX2_settleSeries_70 (fun v_501 hv_501 hf_502 => ?_)
              obtain ⟨x_503, rfl, lx_503, ux_503⟩ := tt_vi hv_501
              refine jj_icmp_ne (tgt := 117) C dX2_settleSeries_73 (by decide) (fun c_504 => ?_) (fun c_504 => ?_)
              · have z_c_504 := jc_neq (a := (x_500).toInt) (b := (x_503).toInt) c_504 rfl rfl
                obtain ⟨x_505, ex_505, vx_505⟩ := tt_inc (x := x_482) (n := 1) (by omega) (by omega)
                refine jj_iinc (v := x_505) C dX2_settleSeries_117 rfl ex_505 (by decide) rfl ?_
                refine jj_goto (tgt := 46) C dX2_settleSeries_120 (by decide) ?_
                refine jj_loc [0, 2, 3, 4, 5, 6] rfl ?_
                exact ihL_481 pl x_505 hok hfr hf_483 hf_484 (by first | omega | decide | exact tt_lo _ | exact tt_hi _) (by first | omega | decide | exact tt_lo _ | exact tt_hi _) (by first | omega | decide | exact tt_lo _ | exact tt_hi _)
              · have z_c_504 := jc_eq (a := (x_500).toInt) (b := (x_503).toInt) c_504 rfl rfl
                refine jj_aload_n C dX2_settleSeries_76 rfl ?_
                refine tt_get C hok jk_2 1 (by decide) jw_704 (t := (0, (-2147483648), 2147483647)) hk0 (by decide) rfl rfl dX2_settleSeries_77 (fun v_506 hv_506 hf_507 => ?_)
                obtain ⟨x_508, rfl, lx_508, ux_508⟩ := tt_vi hv_506
                refine jj_iconst (v := 1) C dX2_settleSeries_80 (by decide) ?_
                refine jj_icmp_ne (tgt := 104) C dX2_settleSeries_81 (by decide) (fun c_509 => ?_) (fun c_509 => ?_)
                · have z_c_509 := jc_neq (a := (x_508).toInt) (b := (1)) c_509 rfl (by decide)
                  refine jj_aload C dX2_settleSeries_104 rfl ?_
                  refine jj_lload C dX2_settleSeries_106 rfl ?_
                  refine tt_put C hok jk_5 4 (by decide) jw_705 (t := (1, (-9223372036854775808), 9223372036854775807)) ka_497 (by decide) rfl rfl rfl (tt_ja y_425) rfl rfl dX2_settleSeries_108 (fun pl_510 hok_511 tr hn => ?_)
                  replace hf_483 := tr _ _ _ (Or.inl (tt_ne hk0 ka_497 (by decide))) hf_483
                  replace hf_484 := tr _ _ _ (Or.inl (tt_ne hk0 ka_497 (by decide))) hf_484
                  replace hf_486 := tr _ _ _ (Or.inl (tt_ne hk0 ka_497 (by decide))) hf_486
                  replace hf_494 := tr _ _ _ (Or.inl (tt_ne hk0 ka_497 (by decide))) hf_494
                  replace hf_499 := tr _ _ _ (Or.inr (by decide)) hf_499
                  replace hf_502 := tr _ _ _ (Or.inl (tt_ne hk1 ka_497 (by decide))) hf_502
                  replace hf_507 := tr _ _ _ (Or.inl (tt_ne hk0 ka_497 (by decide))) hf_507
                  have hf_512 := hn
                  replace hfr := hfr.put ka_497 tr (by decide)
                  refine jj_aload C dX2_settleSeries_111 rfl ?_
                  refine jj_lconst (v := 0) C dX2_settleSeries_113 (by decide) ?_
                  refine tt_put C hok_511 jk_5 5 (by decide) jw_706 (t := (1, (-9223372036854775808), 9223372036854775807)) ka_497 (by decide) rfl rfl rfl (tt_ja (0 : Int64)) rfl rfl dX2_settleSeries_114 (fun pl_513 hok_514 tr hn => ?_)
                  replace hf_483 := tr _ _ _ (Or.inl (tt_ne hk0 ka_497 (by decide))) hf_483
                  replace hf_484 := tr _ _ _ (Or.inl (tt_ne hk0 ka_497 (by decide))) hf_484
                  replace hf_486 := tr _ _ _ (Or.inl (tt_ne hk0 ka_497 (by decide))) hf_486
                  replace hf_494 := tr _ _ _ (Or.inl (tt_ne hk0 ka_497 (by decide))) hf_494
                  replace hf_499 := tr _ _ _ (Or.inr (by decide)) hf_499
                  replace hf_502 := tr _ _ _ (Or.inl (tt_ne hk1 ka_497 (by decide))) hf_502
                  replace hf_507 := tr _ _ _ (Or.inl (tt_ne hk0 ka_497 (by decide))) hf_507
                  replace hf_512 := tr _ _ _ (Or.inr (by decide)) hf_512
                  have hf_515 := hn
                  replace hfr := hfr.put ka_497 tr (by decide)
                  obtain ⟨x_516, ex_516, vx_516⟩ := tt_inc (x := x_482) (n := 1) (by omega) (by omega)
                  refine jj_iinc (v := x_516) C dX2_settleSeries_117 rfl ex_516 (by decide) rfl ?_
                  refine jj_goto (tgt := 46) C dX2_settleSeries_120 (by decide) ?_
                  refine jj_loc [0, 2, 3, 4, 5, 6] rfl ?_
                  exact ihL_481 pl_513 x_516 hok_514 hfr hf_483 hf_484 (by first | omega | decide | exact tt_lo _ | exact tt_hi _) (by first | omega | decide | exact tt_lo _ | exact tt_hi _) (by first | omega | decide | exact tt_lo _ | exact tt_hi _)
                · have z_c_509 := jc_eq (a := (x_508).toInt) (b := (1)) c_509 rfl (by decide)
                  refine jj_aload_n C dX2_settleSeries_84 rfl ?_
                  refine jj_aload_n C dX2_settleSeries_85 rfl ?_
                  refine jj_aload C dX2_settleSeries_86 rfl ?_
                  refine jj_lload_n C dX2_settleSeries_88 rfl ?_
                  refine jj_lload C dX2_settleSeries_89 rfl ?_
                  refine tt_callS (rest := []) C (tc_X2_giveBack_4 hl D cA ak h0 h1 a_497 y_7 y_425 hk0 hk1 ka_497 hok) [] [] rfl rfl (by decide) (by decide) (by decide) jw_707 jw_713 jw_175 jw_708 jn_X2_giveBack rfl (jj_le rfl) (jj_le rfl) (jj_le rfl) (jj_le rfl) (jj_le rfl) dX2_settleSeries_91 rfl (fun _ _ _ hX => hX.elim) (fun rx pl_517 r O_520 => ?_)
                  obtain ⟨rfl, hok_518, hr_519, hR_522⟩ := O_520
                  replace hf_483 := hr_519.at hk0 (by decide) (by decide) hf_483
                  replace hf_484 := hr_519.at hk0 (by decide) (by decide) hf_484
                  replace hf_486 := hr_519.at hk0 (by decide) (by decide) hf_486
                  replace hf_494 := hr_519.at hk0 (by decide) (by decide) hf_494
                  replace hf_499 := hr_519.at ka_497 (by decide) (by decide) hf_499
                  replace hf_502 := hr_519.at hk1 (by decide) (by decide) hf_502
                  replace hf_507 := hr_519.at hk0 (by decide) (by decide) hf_507
                  replace hfr := hfr.trans (hr_519.sub (by decide))
                  obtain rfl := hR_522
                  refine jj_aload_n C dX2_settleSeries_94 rfl ?_
                  refine jj_aload_n C dX2_settleSeries_95 rfl ?_
                  refine jj_aload C dX2_settleSeries_96 rfl ?_
                  refine jj_lload_n C dX2_settleSeries_98 rfl ?_
                  refine jj_lload C dX2_settleSeries_99 rfl ?_
                  refine tt_callS (rest := []) C (tc_X2_takeDue_4 hl D cA ak h0 h1 a_497 y_7 y_425 hk0 hk1 ka_497 hok_518) [] [] rfl rfl (by decide) (by decide) (by decide) jw_715 jw_718 jw_175 jw_716 jn_X2_takeDue rfl (jj_le rfl) (jj_le rfl) (jj_le rfl) (jj_le rfl) (jj_le rfl) dX2_settleSeries_101 rfl (fun _ _ _ hX => hX.elim) (fun rx pl_523 r O_526 => ?_)
                  obtain ⟨rfl, hok_524, hr_525, hR_528⟩ := O_526
                  replace hf_483 := hr_525.at hk0 (by decide) (by decide) hf_483
                  replace hf_484 := hr_525.at hk0 (by decide) (by decide) hf_484
                  replace hf_486 := hr_525.at hk0 (by decide) (by decide) hf_486
                  replace hf_494 := hr_525.at hk0 (by decide) (by decide) hf_494
                  replace hf_499 := hr_525.at ka_497 (by decide) (by decide) hf_499
                  replace hf_502 := hr_525.at hk1 (by decide) (by decide) hf_502
                  replace hf_507 := hr_525.at hk0 (by decide) (by decide) hf_507
                  replace hfr := hfr.trans (hr_525.sub (by decide))
                  obtain rfl := hR_528
                  refine jj_aload C dX2_settleSeries_104 rfl ?_
                  refine jj_lload C dX2_settleSeries_106 rfl ?_
                  refine tt_put C hok_524 jk_5 4 (by decide) jw_705 (t := (1, (-9223372036854775808), 9223372036854775807)) ka_497 (by decide) rfl rfl rfl (tt_ja y_425) rfl rfl dX2_settleSeries_108 (fun pl_529 hok_530 tr hn => ?_)
                  replace hf_483 := tr _ _ _ (Or.inl (tt_ne hk0 ka_497 (by decide))) hf_483
                  replace hf_484 := tr _ _ _ (Or.inl (tt_ne hk0 ka_497 (by decide))) hf_484
                  replace hf_486 := tr _ _ _ (Or.inl (tt_ne hk0 ka_497 (by decide))) hf_486
                  replace hf_494 := tr _ _ _ (Or.inl (tt_ne hk0 ka_497 (by decide))) hf_494
                  replace hf_499 := tr _ _ _ (Or.inr (by decide)) hf_499
                  replace hf_502 := tr _ _ _ (Or.inl (tt_ne hk1 ka_497 (by decide))) hf_502
                  replace hf_507 := tr _ _ _ (Or.inl (tt_ne hk0 ka_497 (by decide))) hf_507
                  have hf_531 := hn
                  replace hfr := hfr.put ka_497 tr (by decide)
                  refine jj_aload C dX2_settleSeries_111 rfl ?_
                  refine jj_lconst (v := 0) C dX2_settleSeries_113 (by decide) ?_
                  refine tt_put C hok_530 jk_5 5 (by decide) jw_706 (t := (1, (-9223372036854775808), 9223372036854775807)) ka_497 (by decide) rfl rfl rfl (tt_ja (0 : Int64)) rfl rfl dX2_settleSeries_114 (fun pl_532 hok_533 tr hn => ?_)
                  replace hf_483 := tr _ _ _ (Or.inl (tt_ne hk0 ka_497 (by decide))) hf_483
                  replace hf_484 := tr _ _ _ (Or.inl (tt_ne hk0 ka_497 (by decide))) hf_484
                  replace hf_486 := tr _ _ _ (Or.inl (tt_ne hk0 ka_497 (by decide))) hf_486
                  replace hf_494 := tr _ _ _ (Or.inl (tt_ne hk0 ka_497 (by decide))) hf_494
                  replace hf_499 := tr _ _ _ (Or.inr (by decide)) hf_499
                  replace hf_502 := tr _ _ _ (Or.inl (tt_ne hk1 ka_497 (by decide))) hf_502
                  replace hf_507 := tr _ _ _ (Or.inl (tt_ne hk0 ka_497 (by decide))) hf_507
                  replace hf_531 := tr _ _ _ (Or.inr (by decide)) hf_531
                  have hf_534 := hn
                  replace hfr := hfr.put ka_497 tr (by decide)
                  obtain ⟨x_535, ex_535, vx_535⟩ := tt_inc (x := x_482) (n := 1) (by omega) (by omega)
                  refine jj_iinc (v := x_535) C dX2_settleSeries_117 rfl ex_535 (by decide) rfl ?_
                  refine jj_goto (tgt := 46) C dX2_settleSeries_120 (by decide) ?_
                  refine jj_loc [0, 2, 3, 4, 5, 6] rfl ?_
                  exact ihL_481 pl_532 x_535 hok_533 hfr hf_483 hf_484 (by first | omega | decide | exact tt_lo _ | exact tt_hi _) (by first | omega | decide | exact tt_lo _ | exact tt_hi _) (by first | omega | decide | exact tt_lo _ | exact tt_hi _)
        exact hL_481 _ pl_419 (0 : Int32) trivial hok_420 hfr hf_273 hf_413 (by first | omega | decide | exact tt_lo _ | exact tt_hi _) (by first | omega | decide | exact tt_lo _ | exact tt_hi _) (Int.self_le_toNat _)

