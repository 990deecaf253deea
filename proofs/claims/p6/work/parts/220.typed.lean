set_option maxHeartbeats 4000000 in
set_option maxRecDepth 100000 in
theorem tc_X2_takeDue_3 {l : Launch} (hl : l.stackTraces = false) (D : va_G) (cA : Nat → ClassId) (ak : (Nat → Nat) × (Nat → Nat)) {Kd : Nat → Nat} (h0 : Nat) (h1 : Nat) (h2 : Nat) (p3 : Int64) (hk0 : Kd h0 = 1) (hk1 : Kd h1 = 2) (hk2 : Kd h2 = 3) {pl0 : va_W} (hok : tt_ok tt_tk cA Kd pl0) : jj_M l D cA ak yX2_takeDue (.code yX2_takeDue cX2_takeDue 13 none) 1 26 0 0 ([] ++ pl0) [.ref h0, .ref h1, .ref h2, .long p3, .long 1000000] (tt_O (fun rx pl1 r => rx = [] ∧ tt_ok tt_tk cA Kd pl1 ∧ tt_fr Kd [(2, 2), (2, 3), (3, 3)] pl0 pl1 ∧ tt_fa Kd [5] pl0 pl1 ∧ ((r = none)))) (tt_OX (fun _ _ _ => False)) := by
  refine jj_start hl (by decide) jw_ba54d233d6 (jj_le rfl) ?_
  intro p e s m args below meth c A hargs hA C hex hmn
  have hfr := tt_fr.refl (K := Kd) (WS := [(2, 2), (2, 3), (3, 3)]) pl0
  have hfa := tt_fa.refl (K := Kd) (WA := [5]) pl0
  refine jj_lload_n C dX2_takeDue_0 rfl ?_
  refine jj_aload_n C dX2_takeDue_1 rfl ?_
  refine tt_get C hok jk_9 4 (by decide) jw_bb7ee2f491 (t := (1, (-9223372036854775808), 9223372036854775807)) hk1 (by decide) rfl rfl dX2_takeDue_2 (fun v_1 hv_1 hf_2 => ?_)
  obtain ⟨y_3, rfl, -, -⟩ := tt_vj hv_1
  refine tt_call0S (rest := []) C (ct_J9_min_f86c9_1 hl D cA ak p3 y_3) jw_6f3bb354f8 jw_a0cddbe894 jw_a731c8553d jw_e0e7ffaaeb jn_J9_min_f86c9 rfl (jj_le rfl) (jj_le rfl) (jj_le rfl) (jj_le rfl) (jj_le rfl) dX2_takeDue_5 rfl (fun w1 r O_4 => ?_)
  rcases O_4 with ⟨c_5, -, rfl⟩ | ⟨c_6, -, rfl⟩
  · refine jj_lstore C dX2_takeDue_8 (by decide) rfl ?_
    refine jj_aload_n C dX2_takeDue_10 rfl ?_
    refine tt_get C hok jk_5 4 (by decide) jw_8ebffe18a9 (t := (1, (-9223372036854775808), 9223372036854775807)) hk2 (by decide) rfl rfl dX2_takeDue_11 (fun v_7 hv_7 hf_8 => ?_)
    obtain ⟨y_9, rfl, -, -⟩ := tt_vj hv_7
    refine jj_lload C dX2_takeDue_14 rfl ?_
    refine jj_lcmp_ge (tgt := 27) C dX2_takeDue_16 dX2_takeDue_17 (by decide) (fun c_10 => ?_) (fun c_10 => ?_)
    · exact jj_vret C ⟨[], pl0, rfl, rfl, hok, hfr, hfa, rfl⟩ dX2_takeDue_27 (jj_le rfl) (jj_le rfl)
    · refine jj_lload C dX2_takeDue_20 rfl ?_
      refine jj_lconst (v := 0) C dX2_takeDue_22 (by decide) ?_
      refine jj_lcmp_gtT (tgt := 28) C dX2_takeDue_23 dX2_takeDue_24 (by decide) (by decide) ?_
      refine jj_aload_n C dX2_takeDue_28 rfl ?_
      refine tt_get C hok jk_5 3 (by decide) jw_a038b4bca1 (t := (1, (-9223372036854775808), 9223372036854775807)) hk2 (by decide) rfl rfl dX2_takeDue_29 (fun v_11 hv_11 hf_12 => ?_)
      obtain ⟨y_13, rfl, -, -⟩ := tt_vj hv_11
      refine jj_aload_n C dX2_takeDue_32 rfl ?_
      refine tt_getF C hok jk_5 4 (by decide) jw_8ebffe18a9 (t := (1, (-9223372036854775808), 9223372036854775807)) hk2 (by decide) rfl rfl hf_8 dX2_takeDue_33 ?_
      refine jj_lload C dX2_takeDue_36 rfl ?_
      refine jj_aload_n C dX2_takeDue_38 rfl ?_
      refine tt_get C hok jk_2 3 (by decide) jw_6a66993f6c (t := (0, (-2147483648), 2147483647)) hk0 (by decide) rfl rfl dX2_takeDue_39 (fun v_14 hv_14 hf_15 => ?_)
      obtain ⟨x_16, rfl, lx_16, ux_16⟩ := tt_vi hv_14
      refine tt_callS (rest := []) C (tc_X2_dueOn_1 hl D cA ak y_13 y_9 y_3 x_16 hok) [] [] rfl rfl (by decide) (by decide) (by decide) jw_845775b81a jw_06dd566a56 jw_79af3f4029 jw_eebd9e2034 jn_X2_dueOn rfl (jj_le rfl) (jj_le rfl) (jj_le rfl) (jj_le rfl) (jj_le rfl) dX2_takeDue_42 rfl (fun _ _ _ hX => hX.elim) (fun rx pl_17 r O_20 => ?_)
      obtain ⟨rfl, hok_18, hr_19, hfa9, hR_22⟩ := O_20
      replace hf_2 := hr_19.at hk1 (by decide) (by decide) hf_2
      replace hf_8 := hr_19.at hk2 (by decide) (by decide) hf_8
      replace hf_12 := hr_19.at hk2 (by decide) (by decide) hf_12
      replace hf_15 := hr_19.at hk0 (by decide) (by decide) hf_15
      replace hfr := hfr.trans (hr_19.sub (by decide))
      replace hfa := hfa.trans (hfa9.sub (by decide))
      rcases hR_22 with rfl | ⟨y_25, rfl⟩
      · refine jj_lstore C dX2_takeDue_45 (by decide) rfl ?_
        refine jj_aload_n C dX2_takeDue_47 rfl ?_
        refine tt_getF C hok_18 jk_5 3 (by decide) jw_a038b4bca1 (t := (1, (-9223372036854775808), 9223372036854775807)) hk2 (by decide) rfl rfl hf_12 dX2_takeDue_48 ?_
        refine jj_lload C dX2_takeDue_51 rfl ?_
        refine jj_ldc2 (v := 100000) C dX2_takeDue_53 jw_acb9b226b5 ?_
        refine jj_lmul (v := 0) C dX2_takeDue_56 (by decide) ?_
        refine jj_lload C dX2_takeDue_57 rfl ?_
        refine jj_ldiv (v := 0) C dX2_takeDue_59 (by decide) (by decide) ?_
        refine tt_call0S (rest := []) C (ct_J9_min_f86c9_4 hl D cA ak y_13) jw_6f3bb354f8 jw_a0cddbe894 jw_a731c8553d jw_e0e7ffaaeb jn_J9_min_f86c9 rfl (jj_le rfl) (jj_le rfl) (jj_le rfl) (jj_le rfl) (jj_le rfl) dX2_takeDue_60 rfl (fun w1 r O_26 => ?_)
        rcases O_26 with ⟨c_27, -, rfl⟩ | ⟨c_28, -, rfl⟩
        · refine jj_lstore C dX2_takeDue_63 (by decide) rfl ?_
          refine jj_aload_n C dX2_takeDue_65 rfl ?_
          refine jj_dup C dX2_takeDue_66 rfl ?_
          refine tt_get C hok_18 jk_9 2 (by decide) jw_5719898240 (t := (1, (-9223372036854775808), 9223372036854775807)) hk1 (by decide) rfl rfl dX2_takeDue_67 (fun v_29 hv_29 hf_30 => ?_)
          obtain ⟨y_31, rfl, -, -⟩ := tt_vj hv_29
          refine jj_lload C dX2_takeDue_70 rfl ?_
          obtain ⟨y_32, ey_32⟩ : ∃ z : Int64, y_31 - (0 : Int64) = z := ⟨_, rfl⟩
          refine jj_lsub (v := y_32) C dX2_takeDue_72 ey_32 ?_
          refine rl_put C hok_18 jk_9 2 (by decide) jw_5719898240 (t := (1, (-9223372036854775808), 9223372036854775807)) hk1 (by decide) rfl rfl rfl (tt_ja y_32) rfl rfl dX2_takeDue_73 (fun pl_33 hok_34 tr hn tl => ?_)
          replace hf_2 := tr _ _ _ (Or.inr (by decide)) hf_2
          replace hf_8 := tr _ _ _ (Or.inl (tt_ne hk2 hk1 (by decide))) hf_8
          replace hf_12 := tr _ _ _ (Or.inl (tt_ne hk2 hk1 (by decide))) hf_12
          replace hf_15 := tr _ _ _ (Or.inl (tt_ne hk0 hk1 (by decide))) hf_15
          have hf_35 := hn
          replace hfr := hfr.put hk1 tr (by decide)
          replace hfa := hfa.all tl
          refine jj_aload_n C dX2_takeDue_76 rfl ?_
          refine tt_get C hok_34 jk_2 10 (by decide) jw_d4020bdca8 (t := (2, 5, 0)) hk0 (by decide) rfl rfl dX2_takeDue_77 (fun v_36 hv_36 hf_37 => ?_)
          obtain ⟨a_38, rfl, ka_38⟩ := tt_vr hv_36
          refine jj_iconst (v := 0) C dX2_takeDue_80 (by decide) ?_
          refine jj_dup2 C dX2_takeDue_81 rfl rfl ?_
          refine tt_lald C hok_34 (t := (1, (-9223372036854775808), 9223372036854775807)) ka_38 (by decide) rfl (vp_in_iff.mpr (by decide)) dX2_takeDue_82 (fun v_39 hv_39 => ?_)
          refine jj_lload C dX2_takeDue_83 rfl ?_
          obtain ⟨y_40, ey_40⟩ : ∃ z : Int64, v_39 + (0 : Int64) = z := ⟨_, rfl⟩
          refine jj_ladd (v := y_40) C dX2_takeDue_85 ey_40 ?_
          refine tl_last C hok_34 (t := (1, (-9223372036854775808), 9223372036854775807)) ka_38 (by decide) rfl (vp_in_iff.mpr (by decide)) (tt_ja _) dX2_takeDue_86 (fun pl_41 hok_42 tr tl => ?_)
          replace hf_2 := tr _ _ _ hf_2
          replace hf_8 := tr _ _ _ hf_8
          replace hf_12 := tr _ _ _ hf_12
          replace hf_15 := tr _ _ _ hf_15
          replace hf_35 := tr _ _ _ hf_35
          replace hf_37 := tr _ _ _ hf_37
          replace hfr := hfr.arr tr
          replace hfa := hfa.wr ka_38 tl (by decide)
          refine jj_aload_n C dX2_takeDue_87 rfl ?_
          refine jj_dup C dX2_takeDue_88 rfl ?_
          refine tt_getF C hok_42 jk_5 3 (by decide) jw_a038b4bca1 (t := (1, (-9223372036854775808), 9223372036854775807)) hk2 (by decide) rfl rfl hf_12 dX2_takeDue_89 ?_
          refine jj_lload C dX2_takeDue_92 rfl ?_
          obtain ⟨y_43, ey_43⟩ : ∃ z : Int64, y_13 - (0 : Int64) = z := ⟨_, rfl⟩
          refine jj_lsub (v := y_43) C dX2_takeDue_94 ey_43 ?_
          refine rl_put C hok_42 jk_5 3 (by decide) jw_a038b4bca1 (t := (1, (-9223372036854775808), 9223372036854775807)) hk2 (by decide) rfl rfl rfl (tt_ja y_43) rfl rfl dX2_takeDue_95 (fun pl_44 hok_45 tr hn tl => ?_)
          replace hf_2 := tr _ _ _ (Or.inl (tt_ne hk1 hk2 (by decide))) hf_2
          replace hf_8 := tr _ _ _ (Or.inr (by decide)) hf_8
          replace hf_15 := tr _ _ _ (Or.inl (tt_ne hk0 hk2 (by decide))) hf_15
          replace hf_35 := tr _ _ _ (Or.inl (tt_ne hk1 hk2 (by decide))) hf_35
          replace hf_37 := tr _ _ _ (Or.inl (tt_ne hk0 hk2 (by decide))) hf_37
          have hf_46 := hn
          replace hfr := hfr.put hk2 tr (by decide)
          replace hfa := hfa.all tl
          refine jj_aload_n C dX2_takeDue_98 rfl ?_
          refine jj_dup C dX2_takeDue_99 rfl ?_
          refine tt_get C hok_45 jk_9 3 (by decide) jw_abb7017335 (t := (1, (-9223372036854775808), 9223372036854775807)) hk1 (by decide) rfl rfl dX2_takeDue_100 (fun v_47 hv_47 hf_48 => ?_)
          obtain ⟨y_49, rfl, -, -⟩ := tt_vj hv_47
          refine jj_lload C dX2_takeDue_103 rfl ?_
          obtain ⟨y_50, ey_50⟩ : ∃ z : Int64, y_49 - (0 : Int64) = z := ⟨_, rfl⟩
          refine jj_lsub (v := y_50) C dX2_takeDue_105 ey_50 ?_
          refine rl_put C hok_45 jk_9 3 (by decide) jw_abb7017335 (t := (1, (-9223372036854775808), 9223372036854775807)) hk1 (by decide) rfl rfl rfl (tt_ja y_50) rfl rfl dX2_takeDue_106 (fun pl_51 hok_52 tr hn tl => ?_)
          replace hf_2 := tr _ _ _ (Or.inr (by decide)) hf_2
          replace hf_8 := tr _ _ _ (Or.inl (tt_ne hk2 hk1 (by decide))) hf_8
          replace hf_15 := tr _ _ _ (Or.inl (tt_ne hk0 hk1 (by decide))) hf_15
          replace hf_35 := tr _ _ _ (Or.inr (by decide)) hf_35
          replace hf_37 := tr _ _ _ (Or.inl (tt_ne hk0 hk1 (by decide))) hf_37
          replace hf_46 := tr _ _ _ (Or.inl (tt_ne hk2 hk1 (by decide))) hf_46
          have hf_53 := hn
          replace hfr := hfr.put hk1 tr (by decide)
          replace hfa := hfa.all tl
          exact jj_vret C ⟨[], pl_51, rfl, rfl, hok_52, hfr, hfa, rfl⟩ dX2_takeDue_109 (jj_le rfl) (jj_le rfl)
        · refine jj_lstore C dX2_takeDue_63 (by decide) rfl ?_
          refine jj_aload_n C dX2_takeDue_65 rfl ?_
          refine jj_dup C dX2_takeDue_66 rfl ?_
          refine tt_get C hok_18 jk_9 2 (by decide) jw_5719898240 (t := (1, (-9223372036854775808), 9223372036854775807)) hk1 (by decide) rfl rfl dX2_takeDue_67 (fun v_54 hv_54 hf_55 => ?_)
          obtain ⟨y_56, rfl, -, -⟩ := tt_vj hv_54
          refine jj_lload C dX2_takeDue_70 rfl ?_
          obtain ⟨y_57, ey_57⟩ : ∃ z : Int64, y_56 - (0 : Int64) = z := ⟨_, rfl⟩
          refine jj_lsub (v := y_57) C dX2_takeDue_72 ey_57 ?_
          refine rl_put C hok_18 jk_9 2 (by decide) jw_5719898240 (t := (1, (-9223372036854775808), 9223372036854775807)) hk1 (by decide) rfl rfl rfl (tt_ja y_57) rfl rfl dX2_takeDue_73 (fun pl_58 hok_59 tr hn tl => ?_)
          replace hf_2 := tr _ _ _ (Or.inr (by decide)) hf_2
          replace hf_8 := tr _ _ _ (Or.inl (tt_ne hk2 hk1 (by decide))) hf_8
          replace hf_12 := tr _ _ _ (Or.inl (tt_ne hk2 hk1 (by decide))) hf_12
          replace hf_15 := tr _ _ _ (Or.inl (tt_ne hk0 hk1 (by decide))) hf_15
          have hf_60 := hn
          replace hfr := hfr.put hk1 tr (by decide)
          replace hfa := hfa.all tl
          refine jj_aload_n C dX2_takeDue_76 rfl ?_
          refine tt_get C hok_59 jk_2 10 (by decide) jw_d4020bdca8 (t := (2, 5, 0)) hk0 (by decide) rfl rfl dX2_takeDue_77 (fun v_61 hv_61 hf_62 => ?_)
          obtain ⟨a_63, rfl, ka_63⟩ := tt_vr hv_61
          refine jj_iconst (v := 0) C dX2_takeDue_80 (by decide) ?_
          refine jj_dup2 C dX2_takeDue_81 rfl rfl ?_
          refine tt_lald C hok_59 (t := (1, (-9223372036854775808), 9223372036854775807)) ka_63 (by decide) rfl (vp_in_iff.mpr (by decide)) dX2_takeDue_82 (fun v_64 hv_64 => ?_)
          refine jj_lload C dX2_takeDue_83 rfl ?_
          obtain ⟨y_65, ey_65⟩ : ∃ z : Int64, v_64 + (0 : Int64) = z := ⟨_, rfl⟩
          refine jj_ladd (v := y_65) C dX2_takeDue_85 ey_65 ?_
          refine tl_last C hok_59 (t := (1, (-9223372036854775808), 9223372036854775807)) ka_63 (by decide) rfl (vp_in_iff.mpr (by decide)) (tt_ja _) dX2_takeDue_86 (fun pl_66 hok_67 tr tl => ?_)
          replace hf_2 := tr _ _ _ hf_2
          replace hf_8 := tr _ _ _ hf_8
          replace hf_12 := tr _ _ _ hf_12
          replace hf_15 := tr _ _ _ hf_15
          replace hf_60 := tr _ _ _ hf_60
          replace hf_62 := tr _ _ _ hf_62
          replace hfr := hfr.arr tr
          replace hfa := hfa.wr ka_63 tl (by decide)
          refine jj_aload_n C dX2_takeDue_87 rfl ?_
          refine jj_dup C dX2_takeDue_88 rfl ?_
          refine tt_getF C hok_67 jk_5 3 (by decide) jw_a038b4bca1 (t := (1, (-9223372036854775808), 9223372036854775807)) hk2 (by decide) rfl rfl hf_12 dX2_takeDue_89 ?_
          refine jj_lload C dX2_takeDue_92 rfl ?_
          obtain ⟨y_68, ey_68⟩ : ∃ z : Int64, y_13 - y_13 = z := ⟨_, rfl⟩
          refine jj_lsub (v := y_68) C dX2_takeDue_94 ey_68 ?_
          refine rl_put C hok_67 jk_5 3 (by decide) jw_a038b4bca1 (t := (1, (-9223372036854775808), 9223372036854775807)) hk2 (by decide) rfl rfl rfl (tt_ja y_68) rfl rfl dX2_takeDue_95 (fun pl_69 hok_70 tr hn tl => ?_)
          replace hf_2 := tr _ _ _ (Or.inl (tt_ne hk1 hk2 (by decide))) hf_2
          replace hf_8 := tr _ _ _ (Or.inr (by decide)) hf_8
          replace hf_15 := tr _ _ _ (Or.inl (tt_ne hk0 hk2 (by decide))) hf_15
          replace hf_60 := tr _ _ _ (Or.inl (tt_ne hk1 hk2 (by decide))) hf_60
          replace hf_62 := tr _ _ _ (Or.inl (tt_ne hk0 hk2 (by decide))) hf_62
          have hf_71 := hn
          replace hfr := hfr.put hk2 tr (by decide)
          replace hfa := hfa.all tl
          refine jj_aload_n C dX2_takeDue_98 rfl ?_
          refine jj_dup C dX2_takeDue_99 rfl ?_
          refine tt_get C hok_70 jk_9 3 (by decide) jw_abb7017335 (t := (1, (-9223372036854775808), 9223372036854775807)) hk1 (by decide) rfl rfl dX2_takeDue_100 (fun v_72 hv_72 hf_73 => ?_)
          obtain ⟨y_74, rfl, -, -⟩ := tt_vj hv_72
          refine jj_lload C dX2_takeDue_103 rfl ?_
          obtain ⟨y_75, ey_75⟩ : ∃ z : Int64, y_74 - y_13 = z := ⟨_, rfl⟩
          refine jj_lsub (v := y_75) C dX2_takeDue_105 ey_75 ?_
          refine rl_put C hok_70 jk_9 3 (by decide) jw_abb7017335 (t := (1, (-9223372036854775808), 9223372036854775807)) hk1 (by decide) rfl rfl rfl (tt_ja y_75) rfl rfl dX2_takeDue_106 (fun pl_76 hok_77 tr hn tl => ?_)
          replace hf_2 := tr _ _ _ (Or.inr (by decide)) hf_2
          replace hf_8 := tr _ _ _ (Or.inl (tt_ne hk2 hk1 (by decide))) hf_8
          replace hf_15 := tr _ _ _ (Or.inl (tt_ne hk0 hk1 (by decide))) hf_15
          replace hf_60 := tr _ _ _ (Or.inr (by decide)) hf_60
          replace hf_62 := tr _ _ _ (Or.inl (tt_ne hk0 hk1 (by decide))) hf_62
          replace hf_71 := tr _ _ _ (Or.inl (tt_ne hk2 hk1 (by decide))) hf_71
          have hf_78 := hn
          replace hfr := hfr.put hk1 tr (by decide)
          replace hfa := hfa.all tl
          exact jj_vret C ⟨[], pl_76, rfl, rfl, hok_77, hfr, hfa, rfl⟩ dX2_takeDue_109 (jj_le rfl) (jj_le rfl)
      · refine jj_lstore C dX2_takeDue_45 (by decide) rfl ?_
        refine jj_aload_n C dX2_takeDue_47 rfl ?_
        refine tt_getF C hok_18 jk_5 3 (by decide) jw_a038b4bca1 (t := (1, (-9223372036854775808), 9223372036854775807)) hk2 (by decide) rfl rfl hf_12 dX2_takeDue_48 ?_
        refine jj_lload C dX2_takeDue_51 rfl ?_
        refine jj_ldc2 (v := 100000) C dX2_takeDue_53 jw_acb9b226b5 ?_
        obtain ⟨y_79, ey_79⟩ : ∃ z : Int64, y_25 * (100000 : Int64) = z := ⟨_, rfl⟩
        refine jj_lmul (v := y_79) C dX2_takeDue_56 ey_79 ?_
        refine jj_lload C dX2_takeDue_57 rfl ?_
        obtain ⟨y_80, ey_80⟩ : ∃ z : Int64, y_79 / (1000000 : Int64) = z := ⟨_, rfl⟩
        refine jj_ldiv (v := y_80) C dX2_takeDue_59 (by decide) ey_80 ?_
        refine tt_call0S (rest := []) C (ct_J9_min_f86c9_1 hl D cA ak y_13 y_80) jw_6f3bb354f8 jw_a0cddbe894 jw_a731c8553d jw_e0e7ffaaeb jn_J9_min_f86c9 rfl (jj_le rfl) (jj_le rfl) (jj_le rfl) (jj_le rfl) (jj_le rfl) dX2_takeDue_60 rfl (fun w1 r O_81 => ?_)
        rcases O_81 with ⟨c_82, -, rfl⟩ | ⟨c_83, -, rfl⟩
        · refine jj_lstore C dX2_takeDue_63 (by decide) rfl ?_
          refine jj_aload_n C dX2_takeDue_65 rfl ?_
          refine jj_dup C dX2_takeDue_66 rfl ?_
          refine tt_get C hok_18 jk_9 2 (by decide) jw_5719898240 (t := (1, (-9223372036854775808), 9223372036854775807)) hk1 (by decide) rfl rfl dX2_takeDue_67 (fun v_84 hv_84 hf_85 => ?_)
          obtain ⟨y_86, rfl, -, -⟩ := tt_vj hv_84
          refine jj_lload C dX2_takeDue_70 rfl ?_
          obtain ⟨y_87, ey_87⟩ : ∃ z : Int64, y_86 - y_25 = z := ⟨_, rfl⟩
          refine jj_lsub (v := y_87) C dX2_takeDue_72 ey_87 ?_
          refine rl_put C hok_18 jk_9 2 (by decide) jw_5719898240 (t := (1, (-9223372036854775808), 9223372036854775807)) hk1 (by decide) rfl rfl rfl (tt_ja y_87) rfl rfl dX2_takeDue_73 (fun pl_88 hok_89 tr hn tl => ?_)
          replace hf_2 := tr _ _ _ (Or.inr (by decide)) hf_2
          replace hf_8 := tr _ _ _ (Or.inl (tt_ne hk2 hk1 (by decide))) hf_8
          replace hf_12 := tr _ _ _ (Or.inl (tt_ne hk2 hk1 (by decide))) hf_12
          replace hf_15 := tr _ _ _ (Or.inl (tt_ne hk0 hk1 (by decide))) hf_15
          have hf_90 := hn
          replace hfr := hfr.put hk1 tr (by decide)
          replace hfa := hfa.all tl
          refine jj_aload_n C dX2_takeDue_76 rfl ?_
          refine tt_get C hok_89 jk_2 10 (by decide) jw_d4020bdca8 (t := (2, 5, 0)) hk0 (by decide) rfl rfl dX2_takeDue_77 (fun v_91 hv_91 hf_92 => ?_)
          obtain ⟨a_93, rfl, ka_93⟩ := tt_vr hv_91
          refine jj_iconst (v := 0) C dX2_takeDue_80 (by decide) ?_
          refine jj_dup2 C dX2_takeDue_81 rfl rfl ?_
          refine tt_lald C hok_89 (t := (1, (-9223372036854775808), 9223372036854775807)) ka_93 (by decide) rfl (vp_in_iff.mpr (by decide)) dX2_takeDue_82 (fun v_94 hv_94 => ?_)
          refine jj_lload C dX2_takeDue_83 rfl ?_
          obtain ⟨y_95, ey_95⟩ : ∃ z : Int64, v_94 + y_25 = z := ⟨_, rfl⟩
          refine jj_ladd (v := y_95) C dX2_takeDue_85 ey_95 ?_
          refine tl_last C hok_89 (t := (1, (-9223372036854775808), 9223372036854775807)) ka_93 (by decide) rfl (vp_in_iff.mpr (by decide)) (tt_ja _) dX2_takeDue_86 (fun pl_96 hok_97 tr tl => ?_)
          replace hf_2 := tr _ _ _ hf_2
          replace hf_8 := tr _ _ _ hf_8
          replace hf_12 := tr _ _ _ hf_12
          replace hf_15 := tr _ _ _ hf_15
          replace hf_90 := tr _ _ _ hf_90
          replace hf_92 := tr _ _ _ hf_92
          replace hfr := hfr.arr tr
          replace hfa := hfa.wr ka_93 tl (by decide)
          refine jj_aload_n C dX2_takeDue_87 rfl ?_
          refine jj_dup C dX2_takeDue_88 rfl ?_
          refine tt_getF C hok_97 jk_5 3 (by decide) jw_a038b4bca1 (t := (1, (-9223372036854775808), 9223372036854775807)) hk2 (by decide) rfl rfl hf_12 dX2_takeDue_89 ?_
          refine jj_lload C dX2_takeDue_92 rfl ?_
          obtain ⟨y_98, ey_98⟩ : ∃ z : Int64, y_13 - y_80 = z := ⟨_, rfl⟩
          refine jj_lsub (v := y_98) C dX2_takeDue_94 ey_98 ?_
          refine rl_put C hok_97 jk_5 3 (by decide) jw_a038b4bca1 (t := (1, (-9223372036854775808), 9223372036854775807)) hk2 (by decide) rfl rfl rfl (tt_ja y_98) rfl rfl dX2_takeDue_95 (fun pl_99 hok_100 tr hn tl => ?_)
          replace hf_2 := tr _ _ _ (Or.inl (tt_ne hk1 hk2 (by decide))) hf_2
          replace hf_8 := tr _ _ _ (Or.inr (by decide)) hf_8
          replace hf_15 := tr _ _ _ (Or.inl (tt_ne hk0 hk2 (by decide))) hf_15
          replace hf_90 := tr _ _ _ (Or.inl (tt_ne hk1 hk2 (by decide))) hf_90
          replace hf_92 := tr _ _ _ (Or.inl (tt_ne hk0 hk2 (by decide))) hf_92
          have hf_101 := hn
          replace hfr := hfr.put hk2 tr (by decide)
          replace hfa := hfa.all tl
          refine jj_aload_n C dX2_takeDue_98 rfl ?_
          refine jj_dup C dX2_takeDue_99 rfl ?_
          refine tt_get C hok_100 jk_9 3 (by decide) jw_abb7017335 (t := (1, (-9223372036854775808), 9223372036854775807)) hk1 (by decide) rfl rfl dX2_takeDue_100 (fun v_102 hv_102 hf_103 => ?_)
          obtain ⟨y_104, rfl, -, -⟩ := tt_vj hv_102
          refine jj_lload C dX2_takeDue_103 rfl ?_
          obtain ⟨y_105, ey_105⟩ : ∃ z : Int64, y_104 - y_80 = z := ⟨_, rfl⟩
          refine jj_lsub (v := y_105) C dX2_takeDue_105 ey_105 ?_
          refine rl_put C hok_100 jk_9 3 (by decide) jw_abb7017335 (t := (1, (-9223372036854775808), 9223372036854775807)) hk1 (by decide) rfl rfl rfl (tt_ja y_105) rfl rfl dX2_takeDue_106 (fun pl_106 hok_107 tr hn tl => ?_)
          replace hf_2 := tr _ _ _ (Or.inr (by decide)) hf_2
          replace hf_8 := tr _ _ _ (Or.inl (tt_ne hk2 hk1 (by decide))) hf_8
          replace hf_15 := tr _ _ _ (Or.inl (tt_ne hk0 hk1 (by decide))) hf_15
          replace hf_90 := tr _ _ _ (Or.inr (by decide)) hf_90
          replace hf_92 := tr _ _ _ (Or.inl (tt_ne hk0 hk1 (by decide))) hf_92
          replace hf_101 := tr _ _ _ (Or.inl (tt_ne hk2 hk1 (by decide))) hf_101
          have hf_108 := hn
          replace hfr := hfr.put hk1 tr (by decide)
          replace hfa := hfa.all tl
          exact jj_vret C ⟨[], pl_106, rfl, rfl, hok_107, hfr, hfa, rfl⟩ dX2_takeDue_109 (jj_le rfl) (jj_le rfl)
        · refine jj_lstore C dX2_takeDue_63 (by decide) rfl ?_
          refine jj_aload_n C dX2_takeDue_65 rfl ?_
          refine jj_dup C dX2_takeDue_66 rfl ?_
          refine tt_get C hok_18 jk_9 2 (by decide) jw_5719898240 (t := (1, (-9223372036854775808), 9223372036854775807)) hk1 (by decide) rfl rfl dX2_takeDue_67 (fun v_109 hv_109 hf_110 => ?_)
          obtain ⟨y_111, rfl, -, -⟩ := tt_vj hv_109
          refine jj_lload C dX2_takeDue_70 rfl ?_
          obtain ⟨y_112, ey_112⟩ : ∃ z : Int64, y_111 - y_25 = z := ⟨_, rfl⟩
          refine jj_lsub (v := y_112) C dX2_takeDue_72 ey_112 ?_
          refine rl_put C hok_18 jk_9 2 (by decide) jw_5719898240 (t := (1, (-9223372036854775808), 9223372036854775807)) hk1 (by decide) rfl rfl rfl (tt_ja y_112) rfl rfl dX2_takeDue_73 (fun pl_113 hok_114 tr hn tl => ?_)
          replace hf_2 := tr _ _ _ (Or.inr (by decide)) hf_2
          replace hf_8 := tr _ _ _ (Or.inl (tt_ne hk2 hk1 (by decide))) hf_8
          replace hf_12 := tr _ _ _ (Or.inl (tt_ne hk2 hk1 (by decide))) hf_12
          replace hf_15 := tr _ _ _ (Or.inl (tt_ne hk0 hk1 (by decide))) hf_15
          have hf_115 := hn
          replace hfr := hfr.put hk1 tr (by decide)
          replace hfa := hfa.all tl
          refine jj_aload_n C dX2_takeDue_76 rfl ?_
          refine tt_get C hok_114 jk_2 10 (by decide) jw_d4020bdca8 (t := (2, 5, 0)) hk0 (by decide) rfl rfl dX2_takeDue_77 (fun v_116 hv_116 hf_117 => ?_)
          obtain ⟨a_118, rfl, ka_118⟩ := tt_vr hv_116
          refine jj_iconst (v := 0) C dX2_takeDue_80 (by decide) ?_
          refine jj_dup2 C dX2_takeDue_81 rfl rfl ?_
          refine tt_lald C hok_114 (t := (1, (-9223372036854775808), 9223372036854775807)) ka_118 (by decide) rfl (vp_in_iff.mpr (by decide)) dX2_takeDue_82 (fun v_119 hv_119 => ?_)
          refine jj_lload C dX2_takeDue_83 rfl ?_
          obtain ⟨y_120, ey_120⟩ : ∃ z : Int64, v_119 + y_25 = z := ⟨_, rfl⟩
          refine jj_ladd (v := y_120) C dX2_takeDue_85 ey_120 ?_
          refine tl_last C hok_114 (t := (1, (-9223372036854775808), 9223372036854775807)) ka_118 (by decide) rfl (vp_in_iff.mpr (by decide)) (tt_ja _) dX2_takeDue_86 (fun pl_121 hok_122 tr tl => ?_)
          replace hf_2 := tr _ _ _ hf_2
          replace hf_8 := tr _ _ _ hf_8
          replace hf_12 := tr _ _ _ hf_12
          replace hf_15 := tr _ _ _ hf_15
          replace hf_115 := tr _ _ _ hf_115
          replace hf_117 := tr _ _ _ hf_117
          replace hfr := hfr.arr tr
          replace hfa := hfa.wr ka_118 tl (by decide)
          refine jj_aload_n C dX2_takeDue_87 rfl ?_
          refine jj_dup C dX2_takeDue_88 rfl ?_
          refine tt_getF C hok_122 jk_5 3 (by decide) jw_a038b4bca1 (t := (1, (-9223372036854775808), 9223372036854775807)) hk2 (by decide) rfl rfl hf_12 dX2_takeDue_89 ?_
          refine jj_lload C dX2_takeDue_92 rfl ?_
          obtain ⟨y_123, ey_123⟩ : ∃ z : Int64, y_13 - y_13 = z := ⟨_, rfl⟩
          refine jj_lsub (v := y_123) C dX2_takeDue_94 ey_123 ?_
          refine rl_put C hok_122 jk_5 3 (by decide) jw_a038b4bca1 (t := (1, (-9223372036854775808), 9223372036854775807)) hk2 (by decide) rfl rfl rfl (tt_ja y_123) rfl rfl dX2_takeDue_95 (fun pl_124 hok_125 tr hn tl => ?_)
          replace hf_2 := tr _ _ _ (Or.inl (tt_ne hk1 hk2 (by decide))) hf_2
          replace hf_8 := tr _ _ _ (Or.inr (by decide)) hf_8
          replace hf_15 := tr _ _ _ (Or.inl (tt_ne hk0 hk2 (by decide))) hf_15
          replace hf_115 := tr _ _ _ (Or.inl (tt_ne hk1 hk2 (by decide))) hf_115
          replace hf_117 := tr _ _ _ (Or.inl (tt_ne hk0 hk2 (by decide))) hf_117
          have hf_126 := hn
          replace hfr := hfr.put hk2 tr (by decide)
          replace hfa := hfa.all tl
          refine jj_aload_n C dX2_takeDue_98 rfl ?_
          refine jj_dup C dX2_takeDue_99 rfl ?_
          refine tt_get C hok_125 jk_9 3 (by decide) jw_abb7017335 (t := (1, (-9223372036854775808), 9223372036854775807)) hk1 (by decide) rfl rfl dX2_takeDue_100 (fun v_127 hv_127 hf_128 => ?_)
          obtain ⟨y_129, rfl, -, -⟩ := tt_vj hv_127
          refine jj_lload C dX2_takeDue_103 rfl ?_
          obtain ⟨y_130, ey_130⟩ : ∃ z : Int64, y_129 - y_13 = z := ⟨_, rfl⟩
          refine jj_lsub (v := y_130) C dX2_takeDue_105 ey_130 ?_
          refine rl_put C hok_125 jk_9 3 (by decide) jw_abb7017335 (t := (1, (-9223372036854775808), 9223372036854775807)) hk1 (by decide) rfl rfl rfl (tt_ja y_130) rfl rfl dX2_takeDue_106 (fun pl_131 hok_132 tr hn tl => ?_)
          replace hf_2 := tr _ _ _ (Or.inr (by decide)) hf_2
          replace hf_8 := tr _ _ _ (Or.inl (tt_ne hk2 hk1 (by decide))) hf_8
          replace hf_15 := tr _ _ _ (Or.inl (tt_ne hk0 hk1 (by decide))) hf_15
          replace hf_115 := tr _ _ _ (Or.inr (by decide)) hf_115
          replace hf_117 := tr _ _ _ (Or.inl (tt_ne hk0 hk1 (by decide))) hf_117
          replace hf_126 := tr _ _ _ (Or.inl (tt_ne hk2 hk1 (by decide))) hf_126
          have hf_133 := hn
          replace hfr := hfr.put hk1 tr (by decide)
          replace hfa := hfa.all tl
          exact jj_vret C ⟨[], pl_131, rfl, rfl, hok_132, hfr, hfa, rfl⟩ dX2_takeDue_109 (jj_le rfl) (jj_le rfl)
  · refine jj_lstore C dX2_takeDue_8 (by decide) rfl ?_
    refine jj_aload_n C dX2_takeDue_10 rfl ?_
    refine tt_get C hok jk_5 4 (by decide) jw_8ebffe18a9 (t := (1, (-9223372036854775808), 9223372036854775807)) hk2 (by decide) rfl rfl dX2_takeDue_11 (fun v_134 hv_134 hf_135 => ?_)
    obtain ⟨y_136, rfl, -, -⟩ := tt_vj hv_134
    refine jj_lload C dX2_takeDue_14 rfl ?_
    refine jj_lcmp_ge (tgt := 27) C dX2_takeDue_16 dX2_takeDue_17 (by decide) (fun c_137 => ?_) (fun c_137 => ?_)
    · exact jj_vret C ⟨[], pl0, rfl, rfl, hok, hfr, hfa, rfl⟩ dX2_takeDue_27 (jj_le rfl) (jj_le rfl)
    · refine jj_lload C dX2_takeDue_20 rfl ?_
      refine jj_lconst (v := 0) C dX2_takeDue_22 (by decide) ?_
      refine jj_lcmp_gtT (tgt := 28) C dX2_takeDue_23 dX2_takeDue_24 (by decide) (by decide) ?_
      refine jj_aload_n C dX2_takeDue_28 rfl ?_
      refine tt_get C hok jk_5 3 (by decide) jw_a038b4bca1 (t := (1, (-9223372036854775808), 9223372036854775807)) hk2 (by decide) rfl rfl dX2_takeDue_29 (fun v_138 hv_138 hf_139 => ?_)
      obtain ⟨y_140, rfl, -, -⟩ := tt_vj hv_138
      refine jj_aload_n C dX2_takeDue_32 rfl ?_
      refine tt_getF C hok jk_5 4 (by decide) jw_8ebffe18a9 (t := (1, (-9223372036854775808), 9223372036854775807)) hk2 (by decide) rfl rfl hf_135 dX2_takeDue_33 ?_
      refine jj_lload C dX2_takeDue_36 rfl ?_
      refine jj_aload_n C dX2_takeDue_38 rfl ?_
      refine tt_get C hok jk_2 3 (by decide) jw_6a66993f6c (t := (0, (-2147483648), 2147483647)) hk0 (by decide) rfl rfl dX2_takeDue_39 (fun v_141 hv_141 hf_142 => ?_)
      obtain ⟨x_143, rfl, lx_143, ux_143⟩ := tt_vi hv_141
      refine tt_callS (rest := []) C (tc_X2_dueOn_1 hl D cA ak y_140 y_136 p3 x_143 hok) [] [] rfl rfl (by decide) (by decide) (by decide) jw_845775b81a jw_06dd566a56 jw_79af3f4029 jw_eebd9e2034 jn_X2_dueOn rfl (jj_le rfl) (jj_le rfl) (jj_le rfl) (jj_le rfl) (jj_le rfl) dX2_takeDue_42 rfl (fun _ _ _ hX => hX.elim) (fun rx pl_144 r O_147 => ?_)
      obtain ⟨rfl, hok_145, hr_146, hfa9, hR_149⟩ := O_147
      replace hf_2 := hr_146.at hk1 (by decide) (by decide) hf_2
      replace hf_135 := hr_146.at hk2 (by decide) (by decide) hf_135
      replace hf_139 := hr_146.at hk2 (by decide) (by decide) hf_139
      replace hf_142 := hr_146.at hk0 (by decide) (by decide) hf_142
      replace hfr := hfr.trans (hr_146.sub (by decide))
      replace hfa := hfa.trans (hfa9.sub (by decide))
      rcases hR_149 with rfl | ⟨y_152, rfl⟩
      · refine jj_lstore C dX2_takeDue_45 (by decide) rfl ?_
        refine jj_aload_n C dX2_takeDue_47 rfl ?_
        refine tt_getF C hok_145 jk_5 3 (by decide) jw_a038b4bca1 (t := (1, (-9223372036854775808), 9223372036854775807)) hk2 (by decide) rfl rfl hf_139 dX2_takeDue_48 ?_
        refine jj_lload C dX2_takeDue_51 rfl ?_
        refine jj_ldc2 (v := 100000) C dX2_takeDue_53 jw_acb9b226b5 ?_
        refine jj_lmul (v := 0) C dX2_takeDue_56 (by decide) ?_
        refine jj_lload C dX2_takeDue_57 rfl ?_
        refine jj_ldiv (v := 0) C dX2_takeDue_59 (by decide) (by decide) ?_
        refine tt_call0S (rest := []) C (ct_J9_min_f86c9_4 hl D cA ak y_140) jw_6f3bb354f8 jw_a0cddbe894 jw_a731c8553d jw_e0e7ffaaeb jn_J9_min_f86c9 rfl (jj_le rfl) (jj_le rfl) (jj_le rfl) (jj_le rfl) (jj_le rfl) dX2_takeDue_60 rfl (fun w1 r O_153 => ?_)
        rcases O_153 with ⟨c_154, -, rfl⟩ | ⟨c_155, -, rfl⟩
        · refine jj_lstore C dX2_takeDue_63 (by decide) rfl ?_
          refine jj_aload_n C dX2_takeDue_65 rfl ?_
          refine jj_dup C dX2_takeDue_66 rfl ?_
          refine tt_get C hok_145 jk_9 2 (by decide) jw_5719898240 (t := (1, (-9223372036854775808), 9223372036854775807)) hk1 (by decide) rfl rfl dX2_takeDue_67 (fun v_156 hv_156 hf_157 => ?_)
          obtain ⟨y_158, rfl, -, -⟩ := tt_vj hv_156
          refine jj_lload C dX2_takeDue_70 rfl ?_
          obtain ⟨y_159, ey_159⟩ : ∃ z : Int64, y_158 - (0 : Int64) = z := ⟨_, rfl⟩
          refine jj_lsub (v := y_159) C dX2_takeDue_72 ey_159 ?_
          refine rl_put C hok_145 jk_9 2 (by decide) jw_5719898240 (t := (1, (-9223372036854775808), 9223372036854775807)) hk1 (by decide) rfl rfl rfl (tt_ja y_159) rfl rfl dX2_takeDue_73 (fun pl_160 hok_161 tr hn tl => ?_)
          replace hf_2 := tr _ _ _ (Or.inr (by decide)) hf_2
          replace hf_135 := tr _ _ _ (Or.inl (tt_ne hk2 hk1 (by decide))) hf_135
          replace hf_139 := tr _ _ _ (Or.inl (tt_ne hk2 hk1 (by decide))) hf_139
          replace hf_142 := tr _ _ _ (Or.inl (tt_ne hk0 hk1 (by decide))) hf_142
          have hf_162 := hn
          replace hfr := hfr.put hk1 tr (by decide)
          replace hfa := hfa.all tl
          refine jj_aload_n C dX2_takeDue_76 rfl ?_
          refine tt_get C hok_161 jk_2 10 (by decide) jw_d4020bdca8 (t := (2, 5, 0)) hk0 (by decide) rfl rfl dX2_takeDue_77 (fun v_163 hv_163 hf_164 => ?_)
          obtain ⟨a_165, rfl, ka_165⟩ := tt_vr hv_163
          refine jj_iconst (v := 0) C dX2_takeDue_80 (by decide) ?_
          refine jj_dup2 C dX2_takeDue_81 rfl rfl ?_
          refine tt_lald C hok_161 (t := (1, (-9223372036854775808), 9223372036854775807)) ka_165 (by decide) rfl (vp_in_iff.mpr (by decide)) dX2_takeDue_82 (fun v_166 hv_166 => ?_)
          refine jj_lload C dX2_takeDue_83 rfl ?_
          obtain ⟨y_167, ey_167⟩ : ∃ z : Int64, v_166 + (0 : Int64) = z := ⟨_, rfl⟩
          refine jj_ladd (v := y_167) C dX2_takeDue_85 ey_167 ?_
          refine tl_last C hok_161 (t := (1, (-9223372036854775808), 9223372036854775807)) ka_165 (by decide) rfl (vp_in_iff.mpr (by decide)) (tt_ja _) dX2_takeDue_86 (fun pl_168 hok_169 tr tl => ?_)
          replace hf_2 := tr _ _ _ hf_2
          replace hf_135 := tr _ _ _ hf_135
          replace hf_139 := tr _ _ _ hf_139
          replace hf_142 := tr _ _ _ hf_142
          replace hf_162 := tr _ _ _ hf_162
          replace hf_164 := tr _ _ _ hf_164
          replace hfr := hfr.arr tr
          replace hfa := hfa.wr ka_165 tl (by decide)
          refine jj_aload_n C dX2_takeDue_87 rfl ?_
          refine jj_dup C dX2_takeDue_88 rfl ?_
          refine tt_getF C hok_169 jk_5 3 (by decide) jw_a038b4bca1 (t := (1, (-9223372036854775808), 9223372036854775807)) hk2 (by decide) rfl rfl hf_139 dX2_takeDue_89 ?_
          refine jj_lload C dX2_takeDue_92 rfl ?_
          obtain ⟨y_170, ey_170⟩ : ∃ z : Int64, y_140 - (0 : Int64) = z := ⟨_, rfl⟩
          refine jj_lsub (v := y_170) C dX2_takeDue_94 ey_170 ?_
          refine rl_put C hok_169 jk_5 3 (by decide) jw_a038b4bca1 (t := (1, (-9223372036854775808), 9223372036854775807)) hk2 (by decide) rfl rfl rfl (tt_ja y_170) rfl rfl dX2_takeDue_95 (fun pl_171 hok_172 tr hn tl => ?_)
          replace hf_2 := tr _ _ _ (Or.inl (tt_ne hk1 hk2 (by decide))) hf_2
          replace hf_135 := tr _ _ _ (Or.inr (by decide)) hf_135
          replace hf_142 := tr _ _ _ (Or.inl (tt_ne hk0 hk2 (by decide))) hf_142
          replace hf_162 := tr _ _ _ (Or.inl (tt_ne hk1 hk2 (by decide))) hf_162
          replace hf_164 := tr _ _ _ (Or.inl (tt_ne hk0 hk2 (by decide))) hf_164
          have hf_173 := hn
          replace hfr := hfr.put hk2 tr (by decide)
          replace hfa := hfa.all tl
          refine jj_aload_n C dX2_takeDue_98 rfl ?_
          refine jj_dup C dX2_takeDue_99 rfl ?_
          refine tt_get C hok_172 jk_9 3 (by decide) jw_abb7017335 (t := (1, (-9223372036854775808), 9223372036854775807)) hk1 (by decide) rfl rfl dX2_takeDue_100 (fun v_174 hv_174 hf_175 => ?_)
          obtain ⟨y_176, rfl, -, -⟩ := tt_vj hv_174
          refine jj_lload C dX2_takeDue_103 rfl ?_
          obtain ⟨y_177, ey_177⟩ : ∃ z : Int64, y_176 - (0 : Int64) = z := ⟨_, rfl⟩
          refine jj_lsub (v := y_177) C dX2_takeDue_105 ey_177 ?_
          refine rl_put C hok_172 jk_9 3 (by decide) jw_abb7017335 (t := (1, (-9223372036854775808), 9223372036854775807)) hk1 (by decide) rfl rfl rfl (tt_ja y_177) rfl rfl dX2_takeDue_106 (fun pl_178 hok_179 tr hn tl => ?_)
          replace hf_2 := tr _ _ _ (Or.inr (by decide)) hf_2
          replace hf_135 := tr _ _ _ (Or.inl (tt_ne hk2 hk1 (by decide))) hf_135
          replace hf_142 := tr _ _ _ (Or.inl (tt_ne hk0 hk1 (by decide))) hf_142
          replace hf_162 := tr _ _ _ (Or.inr (by decide)) hf_162
          replace hf_164 := tr _ _ _ (Or.inl (tt_ne hk0 hk1 (by decide))) hf_164
          replace hf_173 := tr _ _ _ (Or.inl (tt_ne hk2 hk1 (by decide))) hf_173
          have hf_180 := hn
          replace hfr := hfr.put hk1 tr (by decide)
          replace hfa := hfa.all tl
          exact jj_vret C ⟨[], pl_178, rfl, rfl, hok_179, hfr, hfa, rfl⟩ dX2_takeDue_109 (jj_le rfl) (jj_le rfl)
        · refine jj_lstore C dX2_takeDue_63 (by decide) rfl ?_
          refine jj_aload_n C dX2_takeDue_65 rfl ?_
          refine jj_dup C dX2_takeDue_66 rfl ?_
          refine tt_get C hok_145 jk_9 2 (by decide) jw_5719898240 (t := (1, (-9223372036854775808), 9223372036854775807)) hk1 (by decide) rfl rfl dX2_takeDue_67 (fun v_181 hv_181 hf_182 => ?_)
          obtain ⟨y_183, rfl, -, -⟩ := tt_vj hv_181
          refine jj_lload C dX2_takeDue_70 rfl ?_
          obtain ⟨y_184, ey_184⟩ : ∃ z : Int64, y_183 - (0 : Int64) = z := ⟨_, rfl⟩
          refine jj_lsub (v := y_184) C dX2_takeDue_72 ey_184 ?_
          refine rl_put C hok_145 jk_9 2 (by decide) jw_5719898240 (t := (1, (-9223372036854775808), 9223372036854775807)) hk1 (by decide) rfl rfl rfl (tt_ja y_184) rfl rfl dX2_takeDue_73 (fun pl_185 hok_186 tr hn tl => ?_)
          replace hf_2 := tr _ _ _ (Or.inr (by decide)) hf_2
          replace hf_135 := tr _ _ _ (Or.inl (tt_ne hk2 hk1 (by decide))) hf_135
          replace hf_139 := tr _ _ _ (Or.inl (tt_ne hk2 hk1 (by decide))) hf_139
          replace hf_142 := tr _ _ _ (Or.inl (tt_ne hk0 hk1 (by decide))) hf_142
          have hf_187 := hn
          replace hfr := hfr.put hk1 tr (by decide)
          replace hfa := hfa.all tl
          refine jj_aload_n C dX2_takeDue_76 rfl ?_
          refine tt_get C hok_186 jk_2 10 (by decide) jw_d4020bdca8 (t := (2, 5, 0)) hk0 (by decide) rfl rfl dX2_takeDue_77 (fun v_188 hv_188 hf_189 => ?_)
          obtain ⟨a_190, rfl, ka_190⟩ := tt_vr hv_188
          refine jj_iconst (v := 0) C dX2_takeDue_80 (by decide) ?_
          refine jj_dup2 C dX2_takeDue_81 rfl rfl ?_
          refine tt_lald C hok_186 (t := (1, (-9223372036854775808), 9223372036854775807)) ka_190 (by decide) rfl (vp_in_iff.mpr (by decide)) dX2_takeDue_82 (fun v_191 hv_191 => ?_)
          refine jj_lload C dX2_takeDue_83 rfl ?_
          obtain ⟨y_192, ey_192⟩ : ∃ z : Int64, v_191 + (0 : Int64) = z := ⟨_, rfl⟩
          refine jj_ladd (v := y_192) C dX2_takeDue_85 ey_192 ?_
          refine tl_last C hok_186 (t := (1, (-9223372036854775808), 9223372036854775807)) ka_190 (by decide) rfl (vp_in_iff.mpr (by decide)) (tt_ja _) dX2_takeDue_86 (fun pl_193 hok_194 tr tl => ?_)
          replace hf_2 := tr _ _ _ hf_2
          replace hf_135 := tr _ _ _ hf_135
          replace hf_139 := tr _ _ _ hf_139
          replace hf_142 := tr _ _ _ hf_142
          replace hf_187 := tr _ _ _ hf_187
          replace hf_189 := tr _ _ _ hf_189
          replace hfr := hfr.arr tr
          replace hfa := hfa.wr ka_190 tl (by decide)
          refine jj_aload_n C dX2_takeDue_87 rfl ?_
          refine jj_dup C dX2_takeDue_88 rfl ?_
          refine tt_getF C hok_194 jk_5 3 (by decide) jw_a038b4bca1 (t := (1, (-9223372036854775808), 9223372036854775807)) hk2 (by decide) rfl rfl hf_139 dX2_takeDue_89 ?_
          refine jj_lload C dX2_takeDue_92 rfl ?_
          obtain ⟨y_195, ey_195⟩ : ∃ z : Int64, y_140 - y_140 = z := ⟨_, rfl⟩
          refine jj_lsub (v := y_195) C dX2_takeDue_94 ey_195 ?_
          refine rl_put C hok_194 jk_5 3 (by decide) jw_a038b4bca1 (t := (1, (-9223372036854775808), 9223372036854775807)) hk2 (by decide) rfl rfl rfl (tt_ja y_195) rfl rfl dX2_takeDue_95 (fun pl_196 hok_197 tr hn tl => ?_)
          replace hf_2 := tr _ _ _ (Or.inl (tt_ne hk1 hk2 (by decide))) hf_2
          replace hf_135 := tr _ _ _ (Or.inr (by decide)) hf_135
          replace hf_142 := tr _ _ _ (Or.inl (tt_ne hk0 hk2 (by decide))) hf_142
          replace hf_187 := tr _ _ _ (Or.inl (tt_ne hk1 hk2 (by decide))) hf_187
          replace hf_189 := tr _ _ _ (Or.inl (tt_ne hk0 hk2 (by decide))) hf_189
          have hf_198 := hn
          replace hfr := hfr.put hk2 tr (by decide)
          replace hfa := hfa.all tl
          refine jj_aload_n C dX2_takeDue_98 rfl ?_
          refine jj_dup C dX2_takeDue_99 rfl ?_
          refine tt_get C hok_197 jk_9 3 (by decide) jw_abb7017335 (t := (1, (-9223372036854775808), 9223372036854775807)) hk1 (by decide) rfl rfl dX2_takeDue_100 (fun v_199 hv_199 hf_200 => ?_)
          obtain ⟨y_201, rfl, -, -⟩ := tt_vj hv_199
          refine jj_lload C dX2_takeDue_103 rfl ?_
          obtain ⟨y_202, ey_202⟩ : ∃ z : Int64, y_201 - y_140 = z := ⟨_, rfl⟩
          refine jj_lsub (v := y_202) C dX2_takeDue_105 ey_202 ?_
          refine rl_put C hok_197 jk_9 3 (by decide) jw_abb7017335 (t := (1, (-9223372036854775808), 9223372036854775807)) hk1 (by decide) rfl rfl rfl (tt_ja y_202) rfl rfl dX2_takeDue_106 (fun pl_203 hok_204 tr hn tl => ?_)
          replace hf_2 := tr _ _ _ (Or.inr (by decide)) hf_2
          replace hf_135 := tr _ _ _ (Or.inl (tt_ne hk2 hk1 (by decide))) hf_135
          replace hf_142 := tr _ _ _ (Or.inl (tt_ne hk0 hk1 (by decide))) hf_142
          replace hf_187 := tr _ _ _ (Or.inr (by decide)) hf_187
          replace hf_189 := tr _ _ _ (Or.inl (tt_ne hk0 hk1 (by decide))) hf_189
          replace hf_198 := tr _ _ _ (Or.inl (tt_ne hk2 hk1 (by decide))) hf_198
          have hf_205 := hn
          replace hfr := hfr.put hk1 tr (by decide)
          replace hfa := hfa.all tl
          exact jj_vret C ⟨[], pl_203, rfl, rfl, hok_204, hfr, hfa, rfl⟩ dX2_takeDue_109 (jj_le rfl) (jj_le rfl)
      · refine jj_lstore C dX2_takeDue_45 (by decide) rfl ?_
        refine jj_aload_n C dX2_takeDue_47 rfl ?_
        refine tt_getF C hok_145 jk_5 3 (by decide) jw_a038b4bca1 (t := (1, (-9223372036854775808), 9223372036854775807)) hk2 (by decide) rfl rfl hf_139 dX2_takeDue_48 ?_
        refine jj_lload C dX2_takeDue_51 rfl ?_
        refine jj_ldc2 (v := 100000) C dX2_takeDue_53 jw_acb9b226b5 ?_
        obtain ⟨y_206, ey_206⟩ : ∃ z : Int64, y_152 * (100000 : Int64) = z := ⟨_, rfl⟩
        refine jj_lmul (v := y_206) C dX2_takeDue_56 ey_206 ?_
        refine jj_lload C dX2_takeDue_57 rfl ?_
        obtain ⟨y_207, ey_207⟩ : ∃ z : Int64, y_206 / (1000000 : Int64) = z := ⟨_, rfl⟩
        refine jj_ldiv (v := y_207) C dX2_takeDue_59 (by decide) ey_207 ?_
        refine tt_call0S (rest := []) C (ct_J9_min_f86c9_1 hl D cA ak y_140 y_207) jw_6f3bb354f8 jw_a0cddbe894 jw_a731c8553d jw_e0e7ffaaeb jn_J9_min_f86c9 rfl (jj_le rfl) (jj_le rfl) (jj_le rfl) (jj_le rfl) (jj_le rfl) dX2_takeDue_60 rfl (fun w1 r O_208 => ?_)
        rcases O_208 with ⟨c_209, -, rfl⟩ | ⟨c_210, -, rfl⟩
        · refine jj_lstore C dX2_takeDue_63 (by decide) rfl ?_
          refine jj_aload_n C dX2_takeDue_65 rfl ?_
          refine jj_dup C dX2_takeDue_66 rfl ?_
          refine tt_get C hok_145 jk_9 2 (by decide) jw_5719898240 (t := (1, (-9223372036854775808), 9223372036854775807)) hk1 (by decide) rfl rfl dX2_takeDue_67 (fun v_211 hv_211 hf_212 => ?_)
          obtain ⟨y_213, rfl, -, -⟩ := tt_vj hv_211
          refine jj_lload C dX2_takeDue_70 rfl ?_
          obtain ⟨y_214, ey_214⟩ : ∃ z : Int64, y_213 - y_152 = z := ⟨_, rfl⟩
          refine jj_lsub (v := y_214) C dX2_takeDue_72 ey_214 ?_
          refine rl_put C hok_145 jk_9 2 (by decide) jw_5719898240 (t := (1, (-9223372036854775808), 9223372036854775807)) hk1 (by decide) rfl rfl rfl (tt_ja y_214) rfl rfl dX2_takeDue_73 (fun pl_215 hok_216 tr hn tl => ?_)
          replace hf_2 := tr _ _ _ (Or.inr (by decide)) hf_2
          replace hf_135 := tr _ _ _ (Or.inl (tt_ne hk2 hk1 (by decide))) hf_135
          replace hf_139 := tr _ _ _ (Or.inl (tt_ne hk2 hk1 (by decide))) hf_139
          replace hf_142 := tr _ _ _ (Or.inl (tt_ne hk0 hk1 (by decide))) hf_142
          have hf_217 := hn
          replace hfr := hfr.put hk1 tr (by decide)
          replace hfa := hfa.all tl
          refine jj_aload_n C dX2_takeDue_76 rfl ?_
          refine tt_get C hok_216 jk_2 10 (by decide) jw_d4020bdca8 (t := (2, 5, 0)) hk0 (by decide) rfl rfl dX2_takeDue_77 (fun v_218 hv_218 hf_219 => ?_)
          obtain ⟨a_220, rfl, ka_220⟩ := tt_vr hv_218
          refine jj_iconst (v := 0) C dX2_takeDue_80 (by decide) ?_
          refine jj_dup2 C dX2_takeDue_81 rfl rfl ?_
          refine tt_lald C hok_216 (t := (1, (-9223372036854775808), 9223372036854775807)) ka_220 (by decide) rfl (vp_in_iff.mpr (by decide)) dX2_takeDue_82 (fun v_221 hv_221 => ?_)
          refine jj_lload C dX2_takeDue_83 rfl ?_
          obtain ⟨y_222, ey_222⟩ : ∃ z : Int64, v_221 + y_152 = z := ⟨_, rfl⟩
          refine jj_ladd (v := y_222) C dX2_takeDue_85 ey_222 ?_
          refine tl_last C hok_216 (t := (1, (-9223372036854775808), 9223372036854775807)) ka_220 (by decide) rfl (vp_in_iff.mpr (by decide)) (tt_ja _) dX2_takeDue_86 (fun pl_223 hok_224 tr tl => ?_)
          replace hf_2 := tr _ _ _ hf_2
          replace hf_135 := tr _ _ _ hf_135
          replace hf_139 := tr _ _ _ hf_139
          replace hf_142 := tr _ _ _ hf_142
          replace hf_217 := tr _ _ _ hf_217
          replace hf_219 := tr _ _ _ hf_219
          replace hfr := hfr.arr tr
          replace hfa := hfa.wr ka_220 tl (by decide)
          refine jj_aload_n C dX2_takeDue_87 rfl ?_
          refine jj_dup C dX2_takeDue_88 rfl ?_
          refine tt_getF C hok_224 jk_5 3 (by decide) jw_a038b4bca1 (t := (1, (-9223372036854775808), 9223372036854775807)) hk2 (by decide) rfl rfl hf_139 dX2_takeDue_89 ?_
          refine jj_lload C dX2_takeDue_92 rfl ?_
          obtain ⟨y_225, ey_225⟩ : ∃ z : Int64, y_140 - y_207 = z := ⟨_, rfl⟩
          refine jj_lsub (v := y_225) C dX2_takeDue_94 ey_225 ?_
          refine rl_put C hok_224 jk_5 3 (by decide) jw_a038b4bca1 (t := (1, (-9223372036854775808), 9223372036854775807)) hk2 (by decide) rfl rfl rfl (tt_ja y_225) rfl rfl dX2_takeDue_95 (fun pl_226 hok_227 tr hn tl => ?_)
          replace hf_2 := tr _ _ _ (Or.inl (tt_ne hk1 hk2 (by decide))) hf_2
          replace hf_135 := tr _ _ _ (Or.inr (by decide)) hf_135
          replace hf_142 := tr _ _ _ (Or.inl (tt_ne hk0 hk2 (by decide))) hf_142
          replace hf_217 := tr _ _ _ (Or.inl (tt_ne hk1 hk2 (by decide))) hf_217
          replace hf_219 := tr _ _ _ (Or.inl (tt_ne hk0 hk2 (by decide))) hf_219
          have hf_228 := hn
          replace hfr := hfr.put hk2 tr (by decide)
          replace hfa := hfa.all tl
          refine jj_aload_n C dX2_takeDue_98 rfl ?_
          refine jj_dup C dX2_takeDue_99 rfl ?_
          refine tt_get C hok_227 jk_9 3 (by decide) jw_abb7017335 (t := (1, (-9223372036854775808), 9223372036854775807)) hk1 (by decide) rfl rfl dX2_takeDue_100 (fun v_229 hv_229 hf_230 => ?_)
          obtain ⟨y_231, rfl, -, -⟩ := tt_vj hv_229
          refine jj_lload C dX2_takeDue_103 rfl ?_
          obtain ⟨y_232, ey_232⟩ : ∃ z : Int64, y_231 - y_207 = z := ⟨_, rfl⟩
          refine jj_lsub (v := y_232) C dX2_takeDue_105 ey_232 ?_
          refine rl_put C hok_227 jk_9 3 (by decide) jw_abb7017335 (t := (1, (-9223372036854775808), 9223372036854775807)) hk1 (by decide) rfl rfl rfl (tt_ja y_232) rfl rfl dX2_takeDue_106 (fun pl_233 hok_234 tr hn tl => ?_)
          replace hf_2 := tr _ _ _ (Or.inr (by decide)) hf_2
          replace hf_135 := tr _ _ _ (Or.inl (tt_ne hk2 hk1 (by decide))) hf_135
          replace hf_142 := tr _ _ _ (Or.inl (tt_ne hk0 hk1 (by decide))) hf_142
          replace hf_217 := tr _ _ _ (Or.inr (by decide)) hf_217
          replace hf_219 := tr _ _ _ (Or.inl (tt_ne hk0 hk1 (by decide))) hf_219
          replace hf_228 := tr _ _ _ (Or.inl (tt_ne hk2 hk1 (by decide))) hf_228
          have hf_235 := hn
          replace hfr := hfr.put hk1 tr (by decide)
          replace hfa := hfa.all tl
          exact jj_vret C ⟨[], pl_233, rfl, rfl, hok_234, hfr, hfa, rfl⟩ dX2_takeDue_109 (jj_le rfl) (jj_le rfl)
        · refine jj_lstore C dX2_takeDue_63 (by decide) rfl ?_
          refine jj_aload_n C dX2_takeDue_65 rfl ?_
          refine jj_dup C dX2_takeDue_66 rfl ?_
          refine tt_get C hok_145 jk_9 2 (by decide) jw_5719898240 (t := (1, (-9223372036854775808), 9223372036854775807)) hk1 (by decide) rfl rfl dX2_takeDue_67 (fun v_236 hv_236 hf_237 => ?_)
          obtain ⟨y_238, rfl, -, -⟩ := tt_vj hv_236
          refine jj_lload C dX2_takeDue_70 rfl ?_
          obtain ⟨y_239, ey_239⟩ : ∃ z : Int64, y_238 - y_152 = z := ⟨_, rfl⟩
          refine jj_lsub (v := y_239) C dX2_takeDue_72 ey_239 ?_
          refine rl_put C hok_145 jk_9 2 (by decide) jw_5719898240 (t := (1, (-9223372036854775808), 9223372036854775807)) hk1 (by decide) rfl rfl rfl (tt_ja y_239) rfl rfl dX2_takeDue_73 (fun pl_240 hok_241 tr hn tl => ?_)
          replace hf_2 := tr _ _ _ (Or.inr (by decide)) hf_2
          replace hf_135 := tr _ _ _ (Or.inl (tt_ne hk2 hk1 (by decide))) hf_135
          replace hf_139 := tr _ _ _ (Or.inl (tt_ne hk2 hk1 (by decide))) hf_139
          replace hf_142 := tr _ _ _ (Or.inl (tt_ne hk0 hk1 (by decide))) hf_142
          have hf_242 := hn
          replace hfr := hfr.put hk1 tr (by decide)
          replace hfa := hfa.all tl
          refine jj_aload_n C dX2_takeDue_76 rfl ?_
          refine tt_get C hok_241 jk_2 10 (by decide) jw_d4020bdca8 (t := (2, 5, 0)) hk0 (by decide) rfl rfl dX2_takeDue_77 (fun v_243 hv_243 hf_244 => ?_)
          obtain ⟨a_245, rfl, ka_245⟩ := tt_vr hv_243
          refine jj_iconst (v := 0) C dX2_takeDue_80 (by decide) ?_
          refine jj_dup2 C dX2_takeDue_81 rfl rfl ?_
          refine tt_lald C hok_241 (t := (1, (-9223372036854775808), 9223372036854775807)) ka_245 (by decide) rfl (vp_in_iff.mpr (by decide)) dX2_takeDue_82 (fun v_246 hv_246 => ?_)
          refine jj_lload C dX2_takeDue_83 rfl ?_
          obtain ⟨y_247, ey_247⟩ : ∃ z : Int64, v_246 + y_152 = z := ⟨_, rfl⟩
          refine jj_ladd (v := y_247) C dX2_takeDue_85 ey_247 ?_
          refine tl_last C hok_241 (t := (1, (-9223372036854775808), 9223372036854775807)) ka_245 (by decide) rfl (vp_in_iff.mpr (by decide)) (tt_ja _) dX2_takeDue_86 (fun pl_248 hok_249 tr tl => ?_)
          replace hf_2 := tr _ _ _ hf_2
          replace hf_135 := tr _ _ _ hf_135
          replace hf_139 := tr _ _ _ hf_139
          replace hf_142 := tr _ _ _ hf_142
          replace hf_242 := tr _ _ _ hf_242
          replace hf_244 := tr _ _ _ hf_244
          replace hfr := hfr.arr tr
          replace hfa := hfa.wr ka_245 tl (by decide)
          refine jj_aload_n C dX2_takeDue_87 rfl ?_
          refine jj_dup C dX2_takeDue_88 rfl ?_
          refine tt_getF C hok_249 jk_5 3 (by decide) jw_a038b4bca1 (t := (1, (-9223372036854775808), 9223372036854775807)) hk2 (by decide) rfl rfl hf_139 dX2_takeDue_89 ?_
          refine jj_lload C dX2_takeDue_92 rfl ?_
          obtain ⟨y_250, ey_250⟩ : ∃ z : Int64, y_140 - y_140 = z := ⟨_, rfl⟩
          refine jj_lsub (v := y_250) C dX2_takeDue_94 ey_250 ?_
          refine rl_put C hok_249 jk_5 3 (by decide) jw_a038b4bca1 (t := (1, (-9223372036854775808), 9223372036854775807)) hk2 (by decide) rfl rfl rfl (tt_ja y_250) rfl rfl dX2_takeDue_95 (fun pl_251 hok_252 tr hn tl => ?_)
          replace hf_2 := tr _ _ _ (Or.inl (tt_ne hk1 hk2 (by decide))) hf_2
          replace hf_135 := tr _ _ _ (Or.inr (by decide)) hf_135
          replace hf_142 := tr _ _ _ (Or.inl (tt_ne hk0 hk2 (by decide))) hf_142
          replace hf_242 := tr _ _ _ (Or.inl (tt_ne hk1 hk2 (by decide))) hf_242
          replace hf_244 := tr _ _ _ (Or.inl (tt_ne hk0 hk2 (by decide))) hf_244
          have hf_253 := hn
          replace hfr := hfr.put hk2 tr (by decide)
          replace hfa := hfa.all tl
          refine jj_aload_n C dX2_takeDue_98 rfl ?_
          refine jj_dup C dX2_takeDue_99 rfl ?_
          refine tt_get C hok_252 jk_9 3 (by decide) jw_abb7017335 (t := (1, (-9223372036854775808), 9223372036854775807)) hk1 (by decide) rfl rfl dX2_takeDue_100 (fun v_254 hv_254 hf_255 => ?_)
          obtain ⟨y_256, rfl, -, -⟩ := tt_vj hv_254
          refine jj_lload C dX2_takeDue_103 rfl ?_
          obtain ⟨y_257, ey_257⟩ : ∃ z : Int64, y_256 - y_140 = z := ⟨_, rfl⟩
          refine jj_lsub (v := y_257) C dX2_takeDue_105 ey_257 ?_
          refine rl_put C hok_252 jk_9 3 (by decide) jw_abb7017335 (t := (1, (-9223372036854775808), 9223372036854775807)) hk1 (by decide) rfl rfl rfl (tt_ja y_257) rfl rfl dX2_takeDue_106 (fun pl_258 hok_259 tr hn tl => ?_)
          replace hf_2 := tr _ _ _ (Or.inr (by decide)) hf_2
          replace hf_135 := tr _ _ _ (Or.inl (tt_ne hk2 hk1 (by decide))) hf_135
          replace hf_142 := tr _ _ _ (Or.inl (tt_ne hk0 hk1 (by decide))) hf_142
          replace hf_242 := tr _ _ _ (Or.inr (by decide)) hf_242
          replace hf_244 := tr _ _ _ (Or.inl (tt_ne hk0 hk1 (by decide))) hf_244
          replace hf_253 := tr _ _ _ (Or.inl (tt_ne hk2 hk1 (by decide))) hf_253
          have hf_260 := hn
          replace hfr := hfr.put hk1 tr (by decide)
          replace hfa := hfa.all tl
          exact jj_vret C ⟨[], pl_258, rfl, rfl, hok_259, hfr, hfa, rfl⟩ dX2_takeDue_109 (jj_le rfl) (jj_le rfl)

set_option maxHeartbeats 4000000 in
set_option maxRecDepth 100000 in
theorem tc_X2_giveBack_4 {l : Launch} (hl : l.stackTraces = false) (D : va_G) (cA : Nat → ClassId) (ak : (Nat → Nat) × (Nat → Nat)) {Kd : Nat → Nat} (h0 : Nat) (h1 : Nat) (h2 : Nat) (p3 : Int64) (p4 : Int64) (hk0 : Kd h0 = 1) (hk1 : Kd h1 = 2) (hk2 : Kd h2 = 3) {pl0 : va_W} (hok : tt_ok tt_tk cA Kd pl0) : jj_M l D cA ak yX2_giveBack (.code yX2_giveBack cX2_giveBack 13 none) 1 23 0 0 ([] ++ pl0) [.ref h0, .ref h1, .ref h2, .long p3, .long p4] (tt_O (fun rx pl1 r => rx = [] ∧ tt_ok tt_tk cA Kd pl1 ∧ tt_fr Kd [(2, 2), (2, 3), (3, 3)] pl0 pl1 ∧ tt_fa Kd [5] pl0 pl1 ∧ ((r = none)))) (tt_OX (fun _ _ _ => False)) := by
  refine jj_start hl (by decide) jw_0fb41ea103 (jj_le rfl) ?_
  intro p e s m args below meth c A hargs hA C hex hmn
  have hfr := tt_fr.refl (K := Kd) (WS := [(2, 2), (2, 3), (3, 3)]) pl0
  have hfa := tt_fa.refl (K := Kd) (WA := [5]) pl0
  refine jj_aload_n C dX2_giveBack_0 rfl ?_
  refine tt_get C hok jk_5 4 (by decide) jw_8ebffe18a9 (t := (1, (-9223372036854775808), 9223372036854775807)) hk2 (by decide) rfl rfl dX2_giveBack_1 (fun v_1 hv_1 hf_2 => ?_)
  obtain ⟨y_3, rfl, -, -⟩ := tt_vj hv_1
  refine jj_aload_n C dX2_giveBack_4 rfl ?_
  refine tt_get C hok jk_9 4 (by decide) jw_bb7ee2f491 (t := (1, (-9223372036854775808), 9223372036854775807)) hk1 (by decide) rfl rfl dX2_giveBack_5 (fun v_4 hv_4 hf_5 => ?_)
  obtain ⟨y_6, rfl, -, -⟩ := tt_vj hv_4
  obtain ⟨y_7, ey_7⟩ : ∃ z : Int64, y_3 - y_6 = z := ⟨_, rfl⟩
  refine jj_lsub (v := y_7) C dX2_giveBack_8 ey_7 ?_
  refine jj_lstore C dX2_giveBack_9 (by decide) rfl ?_
  refine jj_lload C dX2_giveBack_11 rfl ?_
  refine jj_lconst (v := 0) C dX2_giveBack_13 (by decide) ?_
  refine jj_lcmp_le (tgt := 34) C dX2_giveBack_14 dX2_giveBack_15 (by decide) (fun c_8 => ?_) (fun c_8 => ?_)
  · exact jj_vret C ⟨[], pl0, rfl, rfl, hok, hfr, hfa, rfl⟩ dX2_giveBack_34 (jj_le rfl) (jj_le rfl)
  · refine jj_lload_n C dX2_giveBack_18 rfl ?_
    refine jj_aload_n C dX2_giveBack_19 rfl ?_
    refine tt_getF C hok jk_9 4 (by decide) jw_bb7ee2f491 (t := (1, (-9223372036854775808), 9223372036854775807)) hk1 (by decide) rfl rfl hf_5 dX2_giveBack_20 ?_
    refine jj_lcmp_le (tgt := 34) C dX2_giveBack_23 dX2_giveBack_24 (by decide) (fun c_9 => ?_) (fun c_9 => ?_)
    · exact jj_vret C ⟨[], pl0, rfl, rfl, hok, hfr, hfa, rfl⟩ dX2_giveBack_34 (jj_le rfl) (jj_le rfl)
    · refine jj_lload C dX2_giveBack_27 rfl ?_
      refine jj_lconst (v := 0) C dX2_giveBack_29 (by decide) ?_
      refine jj_lcmp_gt (tgt := 35) C dX2_giveBack_30 dX2_giveBack_31 (by decide) (fun c_10 => ?_) (fun c_10 => ?_)
      · refine jj_aload_n C dX2_giveBack_35 rfl ?_
        refine tt_get C hok jk_5 5 (by decide) jw_5d4c99f47d (t := (1, (-9223372036854775808), 9223372036854775807)) hk2 (by decide) rfl rfl dX2_giveBack_36 (fun v_11 hv_11 hf_12 => ?_)
        obtain ⟨y_13, rfl, -, -⟩ := tt_vj hv_11
        refine jj_lload_n C dX2_giveBack_39 rfl ?_
        refine jj_aload_n C dX2_giveBack_40 rfl ?_
        refine tt_getF C hok jk_9 4 (by decide) jw_bb7ee2f491 (t := (1, (-9223372036854775808), 9223372036854775807)) hk1 (by decide) rfl rfl hf_5 dX2_giveBack_41 ?_
        obtain ⟨y_14, ey_14⟩ : ∃ z : Int64, p3 - y_6 = z := ⟨_, rfl⟩
        refine jj_lsub (v := y_14) C dX2_giveBack_44 ey_14 ?_
        refine jj_lload C dX2_giveBack_45 rfl ?_
        refine tt_call0S (rest := [.long y_13]) C (ct_J9_min_f86c9_1 hl D cA ak y_14 y_7) jw_6f3bb354f8 jw_a0cddbe894 jw_a731c8553d jw_e0e7ffaaeb jn_J9_min_f86c9 rfl (jj_le rfl) (jj_le rfl) (jj_le rfl) (jj_le rfl) (jj_le rfl) dX2_giveBack_47 rfl (fun w1 r O_15 => ?_)
        rcases O_15 with ⟨c_16, -, rfl⟩ | ⟨c_17, -, rfl⟩
        · obtain ⟨y_18, ey_18⟩ : ∃ z : Int64, y_13 * y_7 = z := ⟨_, rfl⟩
          refine jj_lmul (v := y_18) C dX2_giveBack_50 ey_18 ?_
          refine jj_lload C dX2_giveBack_51 rfl ?_
          obtain ⟨y_19, ey_19⟩ : ∃ z : Int64, y_18 / y_7 = z := ⟨_, rfl⟩
          refine jj_ldiv (v := y_19) C dX2_giveBack_53 (jt_nzpL (by first | exact Int64.not_le.mp c_8 | exact Int32.not_le.mp c_8)) ey_19 ?_
          refine jj_lstore C dX2_giveBack_54 (by decide) rfl ?_
          refine jj_lload C dX2_giveBack_56 rfl ?_
          refine jj_ldc2 (v := 100000) C dX2_giveBack_58 jw_acb9b226b5 ?_
          obtain ⟨y_20, ey_20⟩ : ∃ z : Int64, y_19 * (100000 : Int64) = z := ⟨_, rfl⟩
          refine jj_lmul (v := y_20) C dX2_giveBack_61 ey_20 ?_
          refine jj_lload C dX2_giveBack_62 rfl ?_
          obtain ⟨y_21, ey_21⟩ : ∃ z : Int64, y_20 / p4 = z := ⟨_, rfl⟩
          refine jj_ldiv (v := y_21) C dX2_giveBack_64 (jt_nzpL c_10) ey_21 ?_
          refine jj_lstore C dX2_giveBack_65 (by decide) rfl ?_
          refine jj_aload_n C dX2_giveBack_67 rfl ?_
          refine jj_dup C dX2_giveBack_68 rfl ?_
          refine tt_get C hok jk_9 2 (by decide) jw_5719898240 (t := (1, (-9223372036854775808), 9223372036854775807)) hk1 (by decide) rfl rfl dX2_giveBack_69 (fun v_22 hv_22 hf_23 => ?_)
          obtain ⟨y_24, rfl, -, -⟩ := tt_vj hv_22
          refine jj_lload C dX2_giveBack_72 rfl ?_
          obtain ⟨y_25, ey_25⟩ : ∃ z : Int64, y_24 + y_19 = z := ⟨_, rfl⟩
          refine jj_ladd (v := y_25) C dX2_giveBack_74 ey_25 ?_
          refine rl_put C hok jk_9 2 (by decide) jw_5719898240 (t := (1, (-9223372036854775808), 9223372036854775807)) hk1 (by decide) rfl rfl rfl (tt_ja y_25) rfl rfl dX2_giveBack_75 (fun pl_26 hok_27 tr hn tl => ?_)
          replace hf_2 := tr _ _ _ (Or.inl (tt_ne hk2 hk1 (by decide))) hf_2
          replace hf_5 := tr _ _ _ (Or.inr (by decide)) hf_5
          replace hf_12 := tr _ _ _ (Or.inl (tt_ne hk2 hk1 (by decide))) hf_12
          have hf_28 := hn
          replace hfr := hfr.put hk1 tr (by decide)
          replace hfa := hfa.all tl
          refine jj_aload_n C dX2_giveBack_78 rfl ?_
          refine tt_get C hok_27 jk_2 10 (by decide) jw_d4020bdca8 (t := (2, 5, 0)) hk0 (by decide) rfl rfl dX2_giveBack_79 (fun v_29 hv_29 hf_30 => ?_)
          obtain ⟨a_31, rfl, ka_31⟩ := tt_vr hv_29
          refine jj_iconst (v := 0) C dX2_giveBack_82 (by decide) ?_
          refine jj_dup2 C dX2_giveBack_83 rfl rfl ?_
          refine tt_lald C hok_27 (t := (1, (-9223372036854775808), 9223372036854775807)) ka_31 (by decide) rfl (vp_in_iff.mpr (by decide)) dX2_giveBack_84 (fun v_32 hv_32 => ?_)
          refine jj_lload C dX2_giveBack_85 rfl ?_
          obtain ⟨y_33, ey_33⟩ : ∃ z : Int64, v_32 - y_19 = z := ⟨_, rfl⟩
          refine jj_lsub (v := y_33) C dX2_giveBack_87 ey_33 ?_
          refine tl_last C hok_27 (t := (1, (-9223372036854775808), 9223372036854775807)) ka_31 (by decide) rfl (vp_in_iff.mpr (by decide)) (tt_ja _) dX2_giveBack_88 (fun pl_34 hok_35 tr tl => ?_)
          replace hf_2 := tr _ _ _ hf_2
          replace hf_5 := tr _ _ _ hf_5
          replace hf_12 := tr _ _ _ hf_12
          replace hf_28 := tr _ _ _ hf_28
          replace hf_30 := tr _ _ _ hf_30
          replace hfr := hfr.arr tr
          replace hfa := hfa.wr ka_31 tl (by decide)
          refine jj_aload_n C dX2_giveBack_89 rfl ?_
          refine jj_dup C dX2_giveBack_90 rfl ?_
          refine tt_get C hok_35 jk_5 3 (by decide) jw_a038b4bca1 (t := (1, (-9223372036854775808), 9223372036854775807)) hk2 (by decide) rfl rfl dX2_giveBack_91 (fun v_36 hv_36 hf_37 => ?_)
          obtain ⟨y_38, rfl, -, -⟩ := tt_vj hv_36
          refine jj_lload C dX2_giveBack_94 rfl ?_
          obtain ⟨y_39, ey_39⟩ : ∃ z : Int64, y_38 + y_21 = z := ⟨_, rfl⟩
          refine jj_ladd (v := y_39) C dX2_giveBack_96 ey_39 ?_
          refine rl_put C hok_35 jk_5 3 (by decide) jw_a038b4bca1 (t := (1, (-9223372036854775808), 9223372036854775807)) hk2 (by decide) rfl rfl rfl (tt_ja y_39) rfl rfl dX2_giveBack_97 (fun pl_40 hok_41 tr hn tl => ?_)
          replace hf_2 := tr _ _ _ (Or.inr (by decide)) hf_2
          replace hf_5 := tr _ _ _ (Or.inl (tt_ne hk1 hk2 (by decide))) hf_5
          replace hf_12 := tr _ _ _ (Or.inr (by decide)) hf_12
          replace hf_28 := tr _ _ _ (Or.inl (tt_ne hk1 hk2 (by decide))) hf_28
          replace hf_30 := tr _ _ _ (Or.inl (tt_ne hk0 hk2 (by decide))) hf_30
          have hf_42 := hn
          replace hfr := hfr.put hk2 tr (by decide)
          replace hfa := hfa.all tl
          refine jj_aload_n C dX2_giveBack_100 rfl ?_
          refine jj_dup C dX2_giveBack_101 rfl ?_
          refine tt_get C hok_41 jk_9 3 (by decide) jw_abb7017335 (t := (1, (-9223372036854775808), 9223372036854775807)) hk1 (by decide) rfl rfl dX2_giveBack_102 (fun v_43 hv_43 hf_44 => ?_)
          obtain ⟨y_45, rfl, -, -⟩ := tt_vj hv_43
          refine jj_lload C dX2_giveBack_105 rfl ?_
          obtain ⟨y_46, ey_46⟩ : ∃ z : Int64, y_45 + y_21 = z := ⟨_, rfl⟩
          refine jj_ladd (v := y_46) C dX2_giveBack_107 ey_46 ?_
          refine rl_put C hok_41 jk_9 3 (by decide) jw_abb7017335 (t := (1, (-9223372036854775808), 9223372036854775807)) hk1 (by decide) rfl rfl rfl (tt_ja y_46) rfl rfl dX2_giveBack_108 (fun pl_47 hok_48 tr hn tl => ?_)
          replace hf_2 := tr _ _ _ (Or.inl (tt_ne hk2 hk1 (by decide))) hf_2
          replace hf_5 := tr _ _ _ (Or.inr (by decide)) hf_5
          replace hf_12 := tr _ _ _ (Or.inl (tt_ne hk2 hk1 (by decide))) hf_12
          replace hf_28 := tr _ _ _ (Or.inr (by decide)) hf_28
          replace hf_30 := tr _ _ _ (Or.inl (tt_ne hk0 hk1 (by decide))) hf_30
          replace hf_42 := tr _ _ _ (Or.inl (tt_ne hk2 hk1 (by decide))) hf_42
          have hf_49 := hn
          replace hfr := hfr.put hk1 tr (by decide)
          replace hfa := hfa.all tl
          exact jj_vret C ⟨[], pl_47, rfl, rfl, hok_48, hfr, hfa, rfl⟩ dX2_giveBack_111 (jj_le rfl) (jj_le rfl)
        · obtain ⟨y_50, ey_50⟩ : ∃ z : Int64, y_13 * y_14 = z := ⟨_, rfl⟩
          refine jj_lmul (v := y_50) C dX2_giveBack_50 ey_50 ?_
          refine jj_lload C dX2_giveBack_51 rfl ?_
          obtain ⟨y_51, ey_51⟩ : ∃ z : Int64, y_50 / y_7 = z := ⟨_, rfl⟩
          refine jj_ldiv (v := y_51) C dX2_giveBack_53 (jt_nzpL (by first | exact Int64.not_le.mp c_8 | exact Int32.not_le.mp c_8)) ey_51 ?_
          refine jj_lstore C dX2_giveBack_54 (by decide) rfl ?_
          refine jj_lload C dX2_giveBack_56 rfl ?_
          refine jj_ldc2 (v := 100000) C dX2_giveBack_58 jw_acb9b226b5 ?_
          obtain ⟨y_52, ey_52⟩ : ∃ z : Int64, y_51 * (100000 : Int64) = z := ⟨_, rfl⟩
          refine jj_lmul (v := y_52) C dX2_giveBack_61 ey_52 ?_
          refine jj_lload C dX2_giveBack_62 rfl ?_
          obtain ⟨y_53, ey_53⟩ : ∃ z : Int64, y_52 / p4 = z := ⟨_, rfl⟩
          refine jj_ldiv (v := y_53) C dX2_giveBack_64 (jt_nzpL c_10) ey_53 ?_
          refine jj_lstore C dX2_giveBack_65 (by decide) rfl ?_
          refine jj_aload_n C dX2_giveBack_67 rfl ?_
          refine jj_dup C dX2_giveBack_68 rfl ?_
          refine tt_get C hok jk_9 2 (by decide) jw_5719898240 (t := (1, (-9223372036854775808), 9223372036854775807)) hk1 (by decide) rfl rfl dX2_giveBack_69 (fun v_54 hv_54 hf_55 => ?_)
          obtain ⟨y_56, rfl, -, -⟩ := tt_vj hv_54
          refine jj_lload C dX2_giveBack_72 rfl ?_
          obtain ⟨y_57, ey_57⟩ : ∃ z : Int64, y_56 + y_51 = z := ⟨_, rfl⟩
          refine jj_ladd (v := y_57) C dX2_giveBack_74 ey_57 ?_
          refine rl_put C hok jk_9 2 (by decide) jw_5719898240 (t := (1, (-9223372036854775808), 9223372036854775807)) hk1 (by decide) rfl rfl rfl (tt_ja y_57) rfl rfl dX2_giveBack_75 (fun pl_58 hok_59 tr hn tl => ?_)
          replace hf_2 := tr _ _ _ (Or.inl (tt_ne hk2 hk1 (by decide))) hf_2
          replace hf_5 := tr _ _ _ (Or.inr (by decide)) hf_5
          replace hf_12 := tr _ _ _ (Or.inl (tt_ne hk2 hk1 (by decide))) hf_12
          have hf_60 := hn
          replace hfr := hfr.put hk1 tr (by decide)
          replace hfa := hfa.all tl
          refine jj_aload_n C dX2_giveBack_78 rfl ?_
          refine tt_get C hok_59 jk_2 10 (by decide) jw_d4020bdca8 (t := (2, 5, 0)) hk0 (by decide) rfl rfl dX2_giveBack_79 (fun v_61 hv_61 hf_62 => ?_)
          obtain ⟨a_63, rfl, ka_63⟩ := tt_vr hv_61
          refine jj_iconst (v := 0) C dX2_giveBack_82 (by decide) ?_
          refine jj_dup2 C dX2_giveBack_83 rfl rfl ?_
          refine tt_lald C hok_59 (t := (1, (-9223372036854775808), 9223372036854775807)) ka_63 (by decide) rfl (vp_in_iff.mpr (by decide)) dX2_giveBack_84 (fun v_64 hv_64 => ?_)
          refine jj_lload C dX2_giveBack_85 rfl ?_
          obtain ⟨y_65, ey_65⟩ : ∃ z : Int64, v_64 - y_51 = z := ⟨_, rfl⟩
          refine jj_lsub (v := y_65) C dX2_giveBack_87 ey_65 ?_
          refine tl_last C hok_59 (t := (1, (-9223372036854775808), 9223372036854775807)) ka_63 (by decide) rfl (vp_in_iff.mpr (by decide)) (tt_ja _) dX2_giveBack_88 (fun pl_66 hok_67 tr tl => ?_)
          replace hf_2 := tr _ _ _ hf_2
          replace hf_5 := tr _ _ _ hf_5
          replace hf_12 := tr _ _ _ hf_12
          replace hf_60 := tr _ _ _ hf_60
          replace hf_62 := tr _ _ _ hf_62
          replace hfr := hfr.arr tr
          replace hfa := hfa.wr ka_63 tl (by decide)
          refine jj_aload_n C dX2_giveBack_89 rfl ?_
          refine jj_dup C dX2_giveBack_90 rfl ?_
          refine tt_get C hok_67 jk_5 3 (by decide) jw_a038b4bca1 (t := (1, (-9223372036854775808), 9223372036854775807)) hk2 (by decide) rfl rfl dX2_giveBack_91 (fun v_68 hv_68 hf_69 => ?_)
          obtain ⟨y_70, rfl, -, -⟩ := tt_vj hv_68
          refine jj_lload C dX2_giveBack_94 rfl ?_
          obtain ⟨y_71, ey_71⟩ : ∃ z : Int64, y_70 + y_53 = z := ⟨_, rfl⟩
          refine jj_ladd (v := y_71) C dX2_giveBack_96 ey_71 ?_
          refine rl_put C hok_67 jk_5 3 (by decide) jw_a038b4bca1 (t := (1, (-9223372036854775808), 9223372036854775807)) hk2 (by decide) rfl rfl rfl (tt_ja y_71) rfl rfl dX2_giveBack_97 (fun pl_72 hok_73 tr hn tl => ?_)
          replace hf_2 := tr _ _ _ (Or.inr (by decide)) hf_2
          replace hf_5 := tr _ _ _ (Or.inl (tt_ne hk1 hk2 (by decide))) hf_5
          replace hf_12 := tr _ _ _ (Or.inr (by decide)) hf_12
          replace hf_60 := tr _ _ _ (Or.inl (tt_ne hk1 hk2 (by decide))) hf_60
          replace hf_62 := tr _ _ _ (Or.inl (tt_ne hk0 hk2 (by decide))) hf_62
          have hf_74 := hn
          replace hfr := hfr.put hk2 tr (by decide)
          replace hfa := hfa.all tl
          refine jj_aload_n C dX2_giveBack_100 rfl ?_
          refine jj_dup C dX2_giveBack_101 rfl ?_
          refine tt_get C hok_73 jk_9 3 (by decide) jw_abb7017335 (t := (1, (-9223372036854775808), 9223372036854775807)) hk1 (by decide) rfl rfl dX2_giveBack_102 (fun v_75 hv_75 hf_76 => ?_)
          obtain ⟨y_77, rfl, -, -⟩ := tt_vj hv_75
          refine jj_lload C dX2_giveBack_105 rfl ?_
          obtain ⟨y_78, ey_78⟩ : ∃ z : Int64, y_77 + y_53 = z := ⟨_, rfl⟩
          refine jj_ladd (v := y_78) C dX2_giveBack_107 ey_78 ?_
          refine rl_put C hok_73 jk_9 3 (by decide) jw_abb7017335 (t := (1, (-9223372036854775808), 9223372036854775807)) hk1 (by decide) rfl rfl rfl (tt_ja y_78) rfl rfl dX2_giveBack_108 (fun pl_79 hok_80 tr hn tl => ?_)
          replace hf_2 := tr _ _ _ (Or.inl (tt_ne hk2 hk1 (by decide))) hf_2
          replace hf_5 := tr _ _ _ (Or.inr (by decide)) hf_5
          replace hf_12 := tr _ _ _ (Or.inl (tt_ne hk2 hk1 (by decide))) hf_12
          replace hf_60 := tr _ _ _ (Or.inr (by decide)) hf_60
          replace hf_62 := tr _ _ _ (Or.inl (tt_ne hk0 hk1 (by decide))) hf_62
          replace hf_74 := tr _ _ _ (Or.inl (tt_ne hk2 hk1 (by decide))) hf_74
          have hf_81 := hn
          replace hfr := hfr.put hk1 tr (by decide)
          replace hfa := hfa.all tl
          exact jj_vret C ⟨[], pl_79, rfl, rfl, hok_80, hfr, hfa, rfl⟩ dX2_giveBack_111 (jj_le rfl) (jj_le rfl)
      · exact jj_vret C ⟨[], pl0, rfl, rfl, hok, hfr, hfa, rfl⟩ dX2_giveBack_34 (jj_le rfl) (jj_le rfl)

set_option maxHeartbeats 4000000 in
set_option maxRecDepth 100000 in
theorem tc_X2_takeDue_4 {l : Launch} (hl : l.stackTraces = false) (D : va_G) (cA : Nat → ClassId) (ak : (Nat → Nat) × (Nat → Nat)) {Kd : Nat → Nat} (h0 : Nat) (h1 : Nat) (h2 : Nat) (p3 : Int64) (p4 : Int64) (hk0 : Kd h0 = 1) (hk1 : Kd h1 = 2) (hk2 : Kd h2 = 3) {pl0 : va_W} (hok : tt_ok tt_tk cA Kd pl0) : jj_M l D cA ak yX2_takeDue (.code yX2_takeDue cX2_takeDue 13 none) 1 26 0 0 ([] ++ pl0) [.ref h0, .ref h1, .ref h2, .long p3, .long p4] (tt_O (fun rx pl1 r => rx = [] ∧ tt_ok tt_tk cA Kd pl1 ∧ tt_fr Kd [(2, 2), (2, 3), (3, 3)] pl0 pl1 ∧ tt_fa Kd [5] pl0 pl1 ∧ ((r = none)))) (tt_OX (fun _ _ _ => False)) := by
  refine jj_start hl (by decide) jw_ba54d233d6 (jj_le rfl) ?_
  intro p e s m args below meth c A hargs hA C hex hmn
  have hfr := tt_fr.refl (K := Kd) (WS := [(2, 2), (2, 3), (3, 3)]) pl0
  have hfa := tt_fa.refl (K := Kd) (WA := [5]) pl0
  refine jj_lload_n C dX2_takeDue_0 rfl ?_
  refine jj_aload_n C dX2_takeDue_1 rfl ?_
  refine tt_get C hok jk_9 4 (by decide) jw_bb7ee2f491 (t := (1, (-9223372036854775808), 9223372036854775807)) hk1 (by decide) rfl rfl dX2_takeDue_2 (fun v_1 hv_1 hf_2 => ?_)
  obtain ⟨y_3, rfl, -, -⟩ := tt_vj hv_1
  refine tt_call0S (rest := []) C (ct_J9_min_f86c9_1 hl D cA ak p3 y_3) jw_6f3bb354f8 jw_a0cddbe894 jw_a731c8553d jw_e0e7ffaaeb jn_J9_min_f86c9 rfl (jj_le rfl) (jj_le rfl) (jj_le rfl) (jj_le rfl) (jj_le rfl) dX2_takeDue_5 rfl (fun w1 r O_4 => ?_)
  rcases O_4 with ⟨c_5, -, rfl⟩ | ⟨c_6, -, rfl⟩
  · refine jj_lstore C dX2_takeDue_8 (by decide) rfl ?_
    refine jj_aload_n C dX2_takeDue_10 rfl ?_
    refine tt_get C hok jk_5 4 (by decide) jw_8ebffe18a9 (t := (1, (-9223372036854775808), 9223372036854775807)) hk2 (by decide) rfl rfl dX2_takeDue_11 (fun v_7 hv_7 hf_8 => ?_)
    obtain ⟨y_9, rfl, -, -⟩ := tt_vj hv_7
    refine jj_lload C dX2_takeDue_14 rfl ?_
    refine jj_lcmp_ge (tgt := 27) C dX2_takeDue_16 dX2_takeDue_17 (by decide) (fun c_10 => ?_) (fun c_10 => ?_)
    · exact jj_vret C ⟨[], pl0, rfl, rfl, hok, hfr, hfa, rfl⟩ dX2_takeDue_27 (jj_le rfl) (jj_le rfl)
    · refine jj_lload C dX2_takeDue_20 rfl ?_
      refine jj_lconst (v := 0) C dX2_takeDue_22 (by decide) ?_
      refine jj_lcmp_gt (tgt := 28) C dX2_takeDue_23 dX2_takeDue_24 (by decide) (fun c_11 => ?_) (fun c_11 => ?_)
      · refine jj_aload_n C dX2_takeDue_28 rfl ?_
        refine tt_get C hok jk_5 3 (by decide) jw_a038b4bca1 (t := (1, (-9223372036854775808), 9223372036854775807)) hk2 (by decide) rfl rfl dX2_takeDue_29 (fun v_12 hv_12 hf_13 => ?_)
        obtain ⟨y_14, rfl, -, -⟩ := tt_vj hv_12
        refine jj_aload_n C dX2_takeDue_32 rfl ?_
        refine tt_getF C hok jk_5 4 (by decide) jw_8ebffe18a9 (t := (1, (-9223372036854775808), 9223372036854775807)) hk2 (by decide) rfl rfl hf_8 dX2_takeDue_33 ?_
        refine jj_lload C dX2_takeDue_36 rfl ?_
        refine jj_aload_n C dX2_takeDue_38 rfl ?_
        refine tt_get C hok jk_2 3 (by decide) jw_6a66993f6c (t := (0, (-2147483648), 2147483647)) hk0 (by decide) rfl rfl dX2_takeDue_39 (fun v_15 hv_15 hf_16 => ?_)
        obtain ⟨x_17, rfl, lx_17, ux_17⟩ := tt_vi hv_15
        refine tt_callS (rest := []) C (tc_X2_dueOn_1 hl D cA ak y_14 y_9 y_3 x_17 hok) [] [] rfl rfl (by decide) (by decide) (by decide) jw_845775b81a jw_06dd566a56 jw_79af3f4029 jw_eebd9e2034 jn_X2_dueOn rfl (jj_le rfl) (jj_le rfl) (jj_le rfl) (jj_le rfl) (jj_le rfl) dX2_takeDue_42 rfl (fun _ _ _ hX => hX.elim) (fun rx pl_18 r O_21 => ?_)
        obtain ⟨rfl, hok_19, hr_20, hfa9, hR_23⟩ := O_21
        replace hf_2 := hr_20.at hk1 (by decide) (by decide) hf_2
        replace hf_8 := hr_20.at hk2 (by decide) (by decide) hf_8
        replace hf_13 := hr_20.at hk2 (by decide) (by decide) hf_13
        replace hf_16 := hr_20.at hk0 (by decide) (by decide) hf_16
        replace hfr := hfr.trans (hr_20.sub (by decide))
        replace hfa := hfa.trans (hfa9.sub (by decide))
        rcases hR_23 with rfl | ⟨y_26, rfl⟩
        · refine jj_lstore C dX2_takeDue_45 (by decide) rfl ?_
          refine jj_aload_n C dX2_takeDue_47 rfl ?_
          refine tt_getF C hok_19 jk_5 3 (by decide) jw_a038b4bca1 (t := (1, (-9223372036854775808), 9223372036854775807)) hk2 (by decide) rfl rfl hf_13 dX2_takeDue_48 ?_
          refine jj_lload C dX2_takeDue_51 rfl ?_
          refine jj_ldc2 (v := 100000) C dX2_takeDue_53 jw_acb9b226b5 ?_
          refine jj_lmul (v := 0) C dX2_takeDue_56 (by decide) ?_
          refine jj_lload C dX2_takeDue_57 rfl ?_
          obtain ⟨y_27, ey_27⟩ : ∃ z : Int64, (0 : Int64) / p4 = z := ⟨_, rfl⟩
          refine jj_ldiv (v := y_27) C dX2_takeDue_59 (jt_nzpL c_11) ey_27 ?_
          refine tt_call0S (rest := []) C (ct_J9_min_f86c9_1 hl D cA ak y_14 y_27) jw_6f3bb354f8 jw_a0cddbe894 jw_a731c8553d jw_e0e7ffaaeb jn_J9_min_f86c9 rfl (jj_le rfl) (jj_le rfl) (jj_le rfl) (jj_le rfl) (jj_le rfl) dX2_takeDue_60 rfl (fun w1 r O_28 => ?_)
          rcases O_28 with ⟨c_29, -, rfl⟩ | ⟨c_30, -, rfl⟩
          · refine jj_lstore C dX2_takeDue_63 (by decide) rfl ?_
            refine jj_aload_n C dX2_takeDue_65 rfl ?_
            refine jj_dup C dX2_takeDue_66 rfl ?_
            refine tt_get C hok_19 jk_9 2 (by decide) jw_5719898240 (t := (1, (-9223372036854775808), 9223372036854775807)) hk1 (by decide) rfl rfl dX2_takeDue_67 (fun v_31 hv_31 hf_32 => ?_)
            obtain ⟨y_33, rfl, -, -⟩ := tt_vj hv_31
            refine jj_lload C dX2_takeDue_70 rfl ?_
            obtain ⟨y_34, ey_34⟩ : ∃ z : Int64, y_33 - (0 : Int64) = z := ⟨_, rfl⟩
            refine jj_lsub (v := y_34) C dX2_takeDue_72 ey_34 ?_
            refine rl_put C hok_19 jk_9 2 (by decide) jw_5719898240 (t := (1, (-9223372036854775808), 9223372036854775807)) hk1 (by decide) rfl rfl rfl (tt_ja y_34) rfl rfl dX2_takeDue_73 (fun pl_35 hok_36 tr hn tl => ?_)
            replace hf_2 := tr _ _ _ (Or.inr (by decide)) hf_2
            replace hf_8 := tr _ _ _ (Or.inl (tt_ne hk2 hk1 (by decide))) hf_8
            replace hf_13 := tr _ _ _ (Or.inl (tt_ne hk2 hk1 (by decide))) hf_13
            replace hf_16 := tr _ _ _ (Or.inl (tt_ne hk0 hk1 (by decide))) hf_16
            have hf_37 := hn
            replace hfr := hfr.put hk1 tr (by decide)
            replace hfa := hfa.all tl
            refine jj_aload_n C dX2_takeDue_76 rfl ?_
            refine tt_get C hok_36 jk_2 10 (by decide) jw_d4020bdca8 (t := (2, 5, 0)) hk0 (by decide) rfl rfl dX2_takeDue_77 (fun v_38 hv_38 hf_39 => ?_)
            obtain ⟨a_40, rfl, ka_40⟩ := tt_vr hv_38
            refine jj_iconst (v := 0) C dX2_takeDue_80 (by decide) ?_
            refine jj_dup2 C dX2_takeDue_81 rfl rfl ?_
            refine tt_lald C hok_36 (t := (1, (-9223372036854775808), 9223372036854775807)) ka_40 (by decide) rfl (vp_in_iff.mpr (by decide)) dX2_takeDue_82 (fun v_41 hv_41 => ?_)
            refine jj_lload C dX2_takeDue_83 rfl ?_
            obtain ⟨y_42, ey_42⟩ : ∃ z : Int64, v_41 + (0 : Int64) = z := ⟨_, rfl⟩
            refine jj_ladd (v := y_42) C dX2_takeDue_85 ey_42 ?_
            refine tl_last C hok_36 (t := (1, (-9223372036854775808), 9223372036854775807)) ka_40 (by decide) rfl (vp_in_iff.mpr (by decide)) (tt_ja _) dX2_takeDue_86 (fun pl_43 hok_44 tr tl => ?_)
            replace hf_2 := tr _ _ _ hf_2
            replace hf_8 := tr _ _ _ hf_8
            replace hf_13 := tr _ _ _ hf_13
            replace hf_16 := tr _ _ _ hf_16
            replace hf_37 := tr _ _ _ hf_37
            replace hf_39 := tr _ _ _ hf_39
            replace hfr := hfr.arr tr
            replace hfa := hfa.wr ka_40 tl (by decide)
            refine jj_aload_n C dX2_takeDue_87 rfl ?_
            refine jj_dup C dX2_takeDue_88 rfl ?_
            refine tt_getF C hok_44 jk_5 3 (by decide) jw_a038b4bca1 (t := (1, (-9223372036854775808), 9223372036854775807)) hk2 (by decide) rfl rfl hf_13 dX2_takeDue_89 ?_
            refine jj_lload C dX2_takeDue_92 rfl ?_
            obtain ⟨y_45, ey_45⟩ : ∃ z : Int64, y_14 - y_27 = z := ⟨_, rfl⟩
            refine jj_lsub (v := y_45) C dX2_takeDue_94 ey_45 ?_
            refine rl_put C hok_44 jk_5 3 (by decide) jw_a038b4bca1 (t := (1, (-9223372036854775808), 9223372036854775807)) hk2 (by decide) rfl rfl rfl (tt_ja y_45) rfl rfl dX2_takeDue_95 (fun pl_46 hok_47 tr hn tl => ?_)
            replace hf_2 := tr _ _ _ (Or.inl (tt_ne hk1 hk2 (by decide))) hf_2
            replace hf_8 := tr _ _ _ (Or.inr (by decide)) hf_8
            replace hf_16 := tr _ _ _ (Or.inl (tt_ne hk0 hk2 (by decide))) hf_16
            replace hf_37 := tr _ _ _ (Or.inl (tt_ne hk1 hk2 (by decide))) hf_37
            replace hf_39 := tr _ _ _ (Or.inl (tt_ne hk0 hk2 (by decide))) hf_39
            have hf_48 := hn
            replace hfr := hfr.put hk2 tr (by decide)
            replace hfa := hfa.all tl
            refine jj_aload_n C dX2_takeDue_98 rfl ?_
            refine jj_dup C dX2_takeDue_99 rfl ?_
            refine tt_get C hok_47 jk_9 3 (by decide) jw_abb7017335 (t := (1, (-9223372036854775808), 9223372036854775807)) hk1 (by decide) rfl rfl dX2_takeDue_100 (fun v_49 hv_49 hf_50 => ?_)
            obtain ⟨y_51, rfl, -, -⟩ := tt_vj hv_49
            refine jj_lload C dX2_takeDue_103 rfl ?_
            obtain ⟨y_52, ey_52⟩ : ∃ z : Int64, y_51 - y_27 = z := ⟨_, rfl⟩
            refine jj_lsub (v := y_52) C dX2_takeDue_105 ey_52 ?_
            refine rl_put C hok_47 jk_9 3 (by decide) jw_abb7017335 (t := (1, (-9223372036854775808), 9223372036854775807)) hk1 (by decide) rfl rfl rfl (tt_ja y_52) rfl rfl dX2_takeDue_106 (fun pl_53 hok_54 tr hn tl => ?_)
            replace hf_2 := tr _ _ _ (Or.inr (by decide)) hf_2
            replace hf_8 := tr _ _ _ (Or.inl (tt_ne hk2 hk1 (by decide))) hf_8
            replace hf_16 := tr _ _ _ (Or.inl (tt_ne hk0 hk1 (by decide))) hf_16
            replace hf_37 := tr _ _ _ (Or.inr (by decide)) hf_37
            replace hf_39 := tr _ _ _ (Or.inl (tt_ne hk0 hk1 (by decide))) hf_39
            replace hf_48 := tr _ _ _ (Or.inl (tt_ne hk2 hk1 (by decide))) hf_48
            have hf_55 := hn
            replace hfr := hfr.put hk1 tr (by decide)
            replace hfa := hfa.all tl
            exact jj_vret C ⟨[], pl_53, rfl, rfl, hok_54, hfr, hfa, rfl⟩ dX2_takeDue_109 (jj_le rfl) (jj_le rfl)
          · refine jj_lstore C dX2_takeDue_63 (by decide) rfl ?_
            refine jj_aload_n C dX2_takeDue_65 rfl ?_
            refine jj_dup C dX2_takeDue_66 rfl ?_
            refine tt_get C hok_19 jk_9 2 (by decide) jw_5719898240 (t := (1, (-9223372036854775808), 9223372036854775807)) hk1 (by decide) rfl rfl dX2_takeDue_67 (fun v_56 hv_56 hf_57 => ?_)
            obtain ⟨y_58, rfl, -, -⟩ := tt_vj hv_56
            refine jj_lload C dX2_takeDue_70 rfl ?_
            obtain ⟨y_59, ey_59⟩ : ∃ z : Int64, y_58 - (0 : Int64) = z := ⟨_, rfl⟩
            refine jj_lsub (v := y_59) C dX2_takeDue_72 ey_59 ?_
            refine rl_put C hok_19 jk_9 2 (by decide) jw_5719898240 (t := (1, (-9223372036854775808), 9223372036854775807)) hk1 (by decide) rfl rfl rfl (tt_ja y_59) rfl rfl dX2_takeDue_73 (fun pl_60 hok_61 tr hn tl => ?_)
            replace hf_2 := tr _ _ _ (Or.inr (by decide)) hf_2
            replace hf_8 := tr _ _ _ (Or.inl (tt_ne hk2 hk1 (by decide))) hf_8
            replace hf_13 := tr _ _ _ (Or.inl (tt_ne hk2 hk1 (by decide))) hf_13
            replace hf_16 := tr _ _ _ (Or.inl (tt_ne hk0 hk1 (by decide))) hf_16
            have hf_62 := hn
            replace hfr := hfr.put hk1 tr (by decide)
            replace hfa := hfa.all tl
            refine jj_aload_n C dX2_takeDue_76 rfl ?_
            refine tt_get C hok_61 jk_2 10 (by decide) jw_d4020bdca8 (t := (2, 5, 0)) hk0 (by decide) rfl rfl dX2_takeDue_77 (fun v_63 hv_63 hf_64 => ?_)
            obtain ⟨a_65, rfl, ka_65⟩ := tt_vr hv_63
            refine jj_iconst (v := 0) C dX2_takeDue_80 (by decide) ?_
            refine jj_dup2 C dX2_takeDue_81 rfl rfl ?_
            refine tt_lald C hok_61 (t := (1, (-9223372036854775808), 9223372036854775807)) ka_65 (by decide) rfl (vp_in_iff.mpr (by decide)) dX2_takeDue_82 (fun v_66 hv_66 => ?_)
            refine jj_lload C dX2_takeDue_83 rfl ?_
            obtain ⟨y_67, ey_67⟩ : ∃ z : Int64, v_66 + (0 : Int64) = z := ⟨_, rfl⟩
            refine jj_ladd (v := y_67) C dX2_takeDue_85 ey_67 ?_
            refine tl_last C hok_61 (t := (1, (-9223372036854775808), 9223372036854775807)) ka_65 (by decide) rfl (vp_in_iff.mpr (by decide)) (tt_ja _) dX2_takeDue_86 (fun pl_68 hok_69 tr tl => ?_)
            replace hf_2 := tr _ _ _ hf_2
            replace hf_8 := tr _ _ _ hf_8
            replace hf_13 := tr _ _ _ hf_13
            replace hf_16 := tr _ _ _ hf_16
            replace hf_62 := tr _ _ _ hf_62
            replace hf_64 := tr _ _ _ hf_64
            replace hfr := hfr.arr tr
            replace hfa := hfa.wr ka_65 tl (by decide)
            refine jj_aload_n C dX2_takeDue_87 rfl ?_
            refine jj_dup C dX2_takeDue_88 rfl ?_
            refine tt_getF C hok_69 jk_5 3 (by decide) jw_a038b4bca1 (t := (1, (-9223372036854775808), 9223372036854775807)) hk2 (by decide) rfl rfl hf_13 dX2_takeDue_89 ?_
            refine jj_lload C dX2_takeDue_92 rfl ?_
            obtain ⟨y_70, ey_70⟩ : ∃ z : Int64, y_14 - y_14 = z := ⟨_, rfl⟩
            refine jj_lsub (v := y_70) C dX2_takeDue_94 ey_70 ?_
            refine rl_put C hok_69 jk_5 3 (by decide) jw_a038b4bca1 (t := (1, (-9223372036854775808), 9223372036854775807)) hk2 (by decide) rfl rfl rfl (tt_ja y_70) rfl rfl dX2_takeDue_95 (fun pl_71 hok_72 tr hn tl => ?_)
            replace hf_2 := tr _ _ _ (Or.inl (tt_ne hk1 hk2 (by decide))) hf_2
            replace hf_8 := tr _ _ _ (Or.inr (by decide)) hf_8
            replace hf_16 := tr _ _ _ (Or.inl (tt_ne hk0 hk2 (by decide))) hf_16
            replace hf_62 := tr _ _ _ (Or.inl (tt_ne hk1 hk2 (by decide))) hf_62
            replace hf_64 := tr _ _ _ (Or.inl (tt_ne hk0 hk2 (by decide))) hf_64
            have hf_73 := hn
            replace hfr := hfr.put hk2 tr (by decide)
            replace hfa := hfa.all tl
            refine jj_aload_n C dX2_takeDue_98 rfl ?_
            refine jj_dup C dX2_takeDue_99 rfl ?_
            refine tt_get C hok_72 jk_9 3 (by decide) jw_abb7017335 (t := (1, (-9223372036854775808), 9223372036854775807)) hk1 (by decide) rfl rfl dX2_takeDue_100 (fun v_74 hv_74 hf_75 => ?_)
            obtain ⟨y_76, rfl, -, -⟩ := tt_vj hv_74
            refine jj_lload C dX2_takeDue_103 rfl ?_
            obtain ⟨y_77, ey_77⟩ : ∃ z : Int64, y_76 - y_14 = z := ⟨_, rfl⟩
            refine jj_lsub (v := y_77) C dX2_takeDue_105 ey_77 ?_
            refine rl_put C hok_72 jk_9 3 (by decide) jw_abb7017335 (t := (1, (-9223372036854775808), 9223372036854775807)) hk1 (by decide) rfl rfl rfl (tt_ja y_77) rfl rfl dX2_takeDue_106 (fun pl_78 hok_79 tr hn tl => ?_)
            replace hf_2 := tr _ _ _ (Or.inr (by decide)) hf_2
            replace hf_8 := tr _ _ _ (Or.inl (tt_ne hk2 hk1 (by decide))) hf_8
            replace hf_16 := tr _ _ _ (Or.inl (tt_ne hk0 hk1 (by decide))) hf_16
            replace hf_62 := tr _ _ _ (Or.inr (by decide)) hf_62
            replace hf_64 := tr _ _ _ (Or.inl (tt_ne hk0 hk1 (by decide))) hf_64
            replace hf_73 := tr _ _ _ (Or.inl (tt_ne hk2 hk1 (by decide))) hf_73
            have hf_80 := hn
            replace hfr := hfr.put hk1 tr (by decide)
            replace hfa := hfa.all tl
            exact jj_vret C ⟨[], pl_78, rfl, rfl, hok_79, hfr, hfa, rfl⟩ dX2_takeDue_109 (jj_le rfl) (jj_le rfl)
        · refine jj_lstore C dX2_takeDue_45 (by decide) rfl ?_
          refine jj_aload_n C dX2_takeDue_47 rfl ?_
          refine tt_getF C hok_19 jk_5 3 (by decide) jw_a038b4bca1 (t := (1, (-9223372036854775808), 9223372036854775807)) hk2 (by decide) rfl rfl hf_13 dX2_takeDue_48 ?_
          refine jj_lload C dX2_takeDue_51 rfl ?_
          refine jj_ldc2 (v := 100000) C dX2_takeDue_53 jw_acb9b226b5 ?_
          obtain ⟨y_81, ey_81⟩ : ∃ z : Int64, y_26 * (100000 : Int64) = z := ⟨_, rfl⟩
          refine jj_lmul (v := y_81) C dX2_takeDue_56 ey_81 ?_
          refine jj_lload C dX2_takeDue_57 rfl ?_
          obtain ⟨y_82, ey_82⟩ : ∃ z : Int64, y_81 / p4 = z := ⟨_, rfl⟩
          refine jj_ldiv (v := y_82) C dX2_takeDue_59 (jt_nzpL c_11) ey_82 ?_
          refine tt_call0S (rest := []) C (ct_J9_min_f86c9_1 hl D cA ak y_14 y_82) jw_6f3bb354f8 jw_a0cddbe894 jw_a731c8553d jw_e0e7ffaaeb jn_J9_min_f86c9 rfl (jj_le rfl) (jj_le rfl) (jj_le rfl) (jj_le rfl) (jj_le rfl) dX2_takeDue_60 rfl (fun w1 r O_83 => ?_)
          rcases O_83 with ⟨c_84, -, rfl⟩ | ⟨c_85, -, rfl⟩
          · refine jj_lstore C dX2_takeDue_63 (by decide) rfl ?_
            refine jj_aload_n C dX2_takeDue_65 rfl ?_
            refine jj_dup C dX2_takeDue_66 rfl ?_
            refine tt_get C hok_19 jk_9 2 (by decide) jw_5719898240 (t := (1, (-9223372036854775808), 9223372036854775807)) hk1 (by decide) rfl rfl dX2_takeDue_67 (fun v_86 hv_86 hf_87 => ?_)
            obtain ⟨y_88, rfl, -, -⟩ := tt_vj hv_86
            refine jj_lload C dX2_takeDue_70 rfl ?_
            obtain ⟨y_89, ey_89⟩ : ∃ z : Int64, y_88 - y_26 = z := ⟨_, rfl⟩
            refine jj_lsub (v := y_89) C dX2_takeDue_72 ey_89 ?_
            refine rl_put C hok_19 jk_9 2 (by decide) jw_5719898240 (t := (1, (-9223372036854775808), 9223372036854775807)) hk1 (by decide) rfl rfl rfl (tt_ja y_89) rfl rfl dX2_takeDue_73 (fun pl_90 hok_91 tr hn tl => ?_)
            replace hf_2 := tr _ _ _ (Or.inr (by decide)) hf_2
            replace hf_8 := tr _ _ _ (Or.inl (tt_ne hk2 hk1 (by decide))) hf_8
            replace hf_13 := tr _ _ _ (Or.inl (tt_ne hk2 hk1 (by decide))) hf_13
            replace hf_16 := tr _ _ _ (Or.inl (tt_ne hk0 hk1 (by decide))) hf_16
            have hf_92 := hn
            replace hfr := hfr.put hk1 tr (by decide)
            replace hfa := hfa.all tl
            refine jj_aload_n C dX2_takeDue_76 rfl ?_
            refine tt_get C hok_91 jk_2 10 (by decide) jw_d4020bdca8 (t := (2, 5, 0)) hk0 (by decide) rfl rfl dX2_takeDue_77 (fun v_93 hv_93 hf_94 => ?_)
            obtain ⟨a_95, rfl, ka_95⟩ := tt_vr hv_93
            refine jj_iconst (v := 0) C dX2_takeDue_80 (by decide) ?_
            refine jj_dup2 C dX2_takeDue_81 rfl rfl ?_
            refine tt_lald C hok_91 (t := (1, (-9223372036854775808), 9223372036854775807)) ka_95 (by decide) rfl (vp_in_iff.mpr (by decide)) dX2_takeDue_82 (fun v_96 hv_96 => ?_)
            refine jj_lload C dX2_takeDue_83 rfl ?_
            obtain ⟨y_97, ey_97⟩ : ∃ z : Int64, v_96 + y_26 = z := ⟨_, rfl⟩
            refine jj_ladd (v := y_97) C dX2_takeDue_85 ey_97 ?_
            refine tl_last C hok_91 (t := (1, (-9223372036854775808), 9223372036854775807)) ka_95 (by decide) rfl (vp_in_iff.mpr (by decide)) (tt_ja _) dX2_takeDue_86 (fun pl_98 hok_99 tr tl => ?_)
            replace hf_2 := tr _ _ _ hf_2
            replace hf_8 := tr _ _ _ hf_8
            replace hf_13 := tr _ _ _ hf_13
            replace hf_16 := tr _ _ _ hf_16
            replace hf_92 := tr _ _ _ hf_92
            replace hf_94 := tr _ _ _ hf_94
            replace hfr := hfr.arr tr
            replace hfa := hfa.wr ka_95 tl (by decide)
            refine jj_aload_n C dX2_takeDue_87 rfl ?_
            refine jj_dup C dX2_takeDue_88 rfl ?_
            refine tt_getF C hok_99 jk_5 3 (by decide) jw_a038b4bca1 (t := (1, (-9223372036854775808), 9223372036854775807)) hk2 (by decide) rfl rfl hf_13 dX2_takeDue_89 ?_
            refine jj_lload C dX2_takeDue_92 rfl ?_
            obtain ⟨y_100, ey_100⟩ : ∃ z : Int64, y_14 - y_82 = z := ⟨_, rfl⟩
            refine jj_lsub (v := y_100) C dX2_takeDue_94 ey_100 ?_
            refine rl_put C hok_99 jk_5 3 (by decide) jw_a038b4bca1 (t := (1, (-9223372036854775808), 9223372036854775807)) hk2 (by decide) rfl rfl rfl (tt_ja y_100) rfl rfl dX2_takeDue_95 (fun pl_101 hok_102 tr hn tl => ?_)
            replace hf_2 := tr _ _ _ (Or.inl (tt_ne hk1 hk2 (by decide))) hf_2
            replace hf_8 := tr _ _ _ (Or.inr (by decide)) hf_8
            replace hf_16 := tr _ _ _ (Or.inl (tt_ne hk0 hk2 (by decide))) hf_16
            replace hf_92 := tr _ _ _ (Or.inl (tt_ne hk1 hk2 (by decide))) hf_92
            replace hf_94 := tr _ _ _ (Or.inl (tt_ne hk0 hk2 (by decide))) hf_94
            have hf_103 := hn
            replace hfr := hfr.put hk2 tr (by decide)
            replace hfa := hfa.all tl
            refine jj_aload_n C dX2_takeDue_98 rfl ?_
            refine jj_dup C dX2_takeDue_99 rfl ?_
            refine tt_get C hok_102 jk_9 3 (by decide) jw_abb7017335 (t := (1, (-9223372036854775808), 9223372036854775807)) hk1 (by decide) rfl rfl dX2_takeDue_100 (fun v_104 hv_104 hf_105 => ?_)
            obtain ⟨y_106, rfl, -, -⟩ := tt_vj hv_104
            refine jj_lload C dX2_takeDue_103 rfl ?_
            obtain ⟨y_107, ey_107⟩ : ∃ z : Int64, y_106 - y_82 = z := ⟨_, rfl⟩
            refine jj_lsub (v := y_107) C dX2_takeDue_105 ey_107 ?_
            refine rl_put C hok_102 jk_9 3 (by decide) jw_abb7017335 (t := (1, (-9223372036854775808), 9223372036854775807)) hk1 (by decide) rfl rfl rfl (tt_ja y_107) rfl rfl dX2_takeDue_106 (fun pl_108 hok_109 tr hn tl => ?_)
            replace hf_2 := tr _ _ _ (Or.inr (by decide)) hf_2
            replace hf_8 := tr _ _ _ (Or.inl (tt_ne hk2 hk1 (by decide))) hf_8
            replace hf_16 := tr _ _ _ (Or.inl (tt_ne hk0 hk1 (by decide))) hf_16
            replace hf_92 := tr _ _ _ (Or.inr (by decide)) hf_92
            replace hf_94 := tr _ _ _ (Or.inl (tt_ne hk0 hk1 (by decide))) hf_94
            replace hf_103 := tr _ _ _ (Or.inl (tt_ne hk2 hk1 (by decide))) hf_103
            have hf_110 := hn
            replace hfr := hfr.put hk1 tr (by decide)
            replace hfa := hfa.all tl
            exact jj_vret C ⟨[], pl_108, rfl, rfl, hok_109, hfr, hfa, rfl⟩ dX2_takeDue_109 (jj_le rfl) (jj_le rfl)
          · refine jj_lstore C dX2_takeDue_63 (by decide) rfl ?_
            refine jj_aload_n C dX2_takeDue_65 rfl ?_
            refine jj_dup C dX2_takeDue_66 rfl ?_
            refine tt_get C hok_19 jk_9 2 (by decide) jw_5719898240 (t := (1, (-9223372036854775808), 9223372036854775807)) hk1 (by decide) rfl rfl dX2_takeDue_67 (fun v_111 hv_111 hf_112 => ?_)
            obtain ⟨y_113, rfl, -, -⟩ := tt_vj hv_111
            refine jj_lload C dX2_takeDue_70 rfl ?_
            obtain ⟨y_114, ey_114⟩ : ∃ z : Int64, y_113 - y_26 = z := ⟨_, rfl⟩
            refine jj_lsub (v := y_114) C dX2_takeDue_72 ey_114 ?_
            refine rl_put C hok_19 jk_9 2 (by decide) jw_5719898240 (t := (1, (-9223372036854775808), 9223372036854775807)) hk1 (by decide) rfl rfl rfl (tt_ja y_114) rfl rfl dX2_takeDue_73 (fun pl_115 hok_116 tr hn tl => ?_)
            replace hf_2 := tr _ _ _ (Or.inr (by decide)) hf_2
            replace hf_8 := tr _ _ _ (Or.inl (tt_ne hk2 hk1 (by decide))) hf_8
            replace hf_13 := tr _ _ _ (Or.inl (tt_ne hk2 hk1 (by decide))) hf_13
            replace hf_16 := tr _ _ _ (Or.inl (tt_ne hk0 hk1 (by decide))) hf_16
            have hf_117 := hn
            replace hfr := hfr.put hk1 tr (by decide)
            replace hfa := hfa.all tl
            refine jj_aload_n C dX2_takeDue_76 rfl ?_
            refine tt_get C hok_116 jk_2 10 (by decide) jw_d4020bdca8 (t := (2, 5, 0)) hk0 (by decide) rfl rfl dX2_takeDue_77 (fun v_118 hv_118 hf_119 => ?_)
            obtain ⟨a_120, rfl, ka_120⟩ := tt_vr hv_118
            refine jj_iconst (v := 0) C dX2_takeDue_80 (by decide) ?_
            refine jj_dup2 C dX2_takeDue_81 rfl rfl ?_
            refine tt_lald C hok_116 (t := (1, (-9223372036854775808), 9223372036854775807)) ka_120 (by decide) rfl (vp_in_iff.mpr (by decide)) dX2_takeDue_82 (fun v_121 hv_121 => ?_)
            refine jj_lload C dX2_takeDue_83 rfl ?_
            obtain ⟨y_122, ey_122⟩ : ∃ z : Int64, v_121 + y_26 = z := ⟨_, rfl⟩
            refine jj_ladd (v := y_122) C dX2_takeDue_85 ey_122 ?_
            refine tl_last C hok_116 (t := (1, (-9223372036854775808), 9223372036854775807)) ka_120 (by decide) rfl (vp_in_iff.mpr (by decide)) (tt_ja _) dX2_takeDue_86 (fun pl_123 hok_124 tr tl => ?_)
            replace hf_2 := tr _ _ _ hf_2
            replace hf_8 := tr _ _ _ hf_8
            replace hf_13 := tr _ _ _ hf_13
            replace hf_16 := tr _ _ _ hf_16
            replace hf_117 := tr _ _ _ hf_117
            replace hf_119 := tr _ _ _ hf_119
            replace hfr := hfr.arr tr
            replace hfa := hfa.wr ka_120 tl (by decide)
            refine jj_aload_n C dX2_takeDue_87 rfl ?_
            refine jj_dup C dX2_takeDue_88 rfl ?_
            refine tt_getF C hok_124 jk_5 3 (by decide) jw_a038b4bca1 (t := (1, (-9223372036854775808), 9223372036854775807)) hk2 (by decide) rfl rfl hf_13 dX2_takeDue_89 ?_
            refine jj_lload C dX2_takeDue_92 rfl ?_
            obtain ⟨y_125, ey_125⟩ : ∃ z : Int64, y_14 - y_14 = z := ⟨_, rfl⟩
            refine jj_lsub (v := y_125) C dX2_takeDue_94 ey_125 ?_
            refine rl_put C hok_124 jk_5 3 (by decide) jw_a038b4bca1 (t := (1, (-9223372036854775808), 9223372036854775807)) hk2 (by decide) rfl rfl rfl (tt_ja y_125) rfl rfl dX2_takeDue_95 (fun pl_126 hok_127 tr hn tl => ?_)
            replace hf_2 := tr _ _ _ (Or.inl (tt_ne hk1 hk2 (by decide))) hf_2
            replace hf_8 := tr _ _ _ (Or.inr (by decide)) hf_8
            replace hf_16 := tr _ _ _ (Or.inl (tt_ne hk0 hk2 (by decide))) hf_16
            replace hf_117 := tr _ _ _ (Or.inl (tt_ne hk1 hk2 (by decide))) hf_117
            replace hf_119 := tr _ _ _ (Or.inl (tt_ne hk0 hk2 (by decide))) hf_119
            have hf_128 := hn
            replace hfr := hfr.put hk2 tr (by decide)
            replace hfa := hfa.all tl
            refine jj_aload_n C dX2_takeDue_98 rfl ?_
            refine jj_dup C dX2_takeDue_99 rfl ?_
            refine tt_get C hok_127 jk_9 3 (by decide) jw_abb7017335 (t := (1, (-9223372036854775808), 9223372036854775807)) hk1 (by decide) rfl rfl dX2_takeDue_100 (fun v_129 hv_129 hf_130 => ?_)
            obtain ⟨y_131, rfl, -, -⟩ := tt_vj hv_129
            refine jj_lload C dX2_takeDue_103 rfl ?_
            obtain ⟨y_132, ey_132⟩ : ∃ z : Int64, y_131 - y_14 = z := ⟨_, rfl⟩
            refine jj_lsub (v := y_132) C dX2_takeDue_105 ey_132 ?_
            refine rl_put C hok_127 jk_9 3 (by decide) jw_abb7017335 (t := (1, (-9223372036854775808), 9223372036854775807)) hk1 (by decide) rfl rfl rfl (tt_ja y_132) rfl rfl dX2_takeDue_106 (fun pl_133 hok_134 tr hn tl => ?_)
            replace hf_2 := tr _ _ _ (Or.inr (by decide)) hf_2
            replace hf_8 := tr _ _ _ (Or.inl (tt_ne hk2 hk1 (by decide))) hf_8
            replace hf_16 := tr _ _ _ (Or.inl (tt_ne hk0 hk1 (by decide))) hf_16
            replace hf_117 := tr _ _ _ (Or.inr (by decide)) hf_117
            replace hf_119 := tr _ _ _ (Or.inl (tt_ne hk0 hk1 (by decide))) hf_119
            replace hf_128 := tr _ _ _ (Or.inl (tt_ne hk2 hk1 (by decide))) hf_128
            have hf_135 := hn
            replace hfr := hfr.put hk1 tr (by decide)
            replace hfa := hfa.all tl
            exact jj_vret C ⟨[], pl_133, rfl, rfl, hok_134, hfr, hfa, rfl⟩ dX2_takeDue_109 (jj_le rfl) (jj_le rfl)
      · exact jj_vret C ⟨[], pl0, rfl, rfl, hok, hfr, hfa, rfl⟩ dX2_takeDue_27 (jj_le rfl) (jj_le rfl)
  · refine jj_lstore C dX2_takeDue_8 (by decide) rfl ?_
    refine jj_aload_n C dX2_takeDue_10 rfl ?_
    refine tt_get C hok jk_5 4 (by decide) jw_8ebffe18a9 (t := (1, (-9223372036854775808), 9223372036854775807)) hk2 (by decide) rfl rfl dX2_takeDue_11 (fun v_136 hv_136 hf_137 => ?_)
    obtain ⟨y_138, rfl, -, -⟩ := tt_vj hv_136
    refine jj_lload C dX2_takeDue_14 rfl ?_
    refine jj_lcmp_ge (tgt := 27) C dX2_takeDue_16 dX2_takeDue_17 (by decide) (fun c_139 => ?_) (fun c_139 => ?_)
    · exact jj_vret C ⟨[], pl0, rfl, rfl, hok, hfr, hfa, rfl⟩ dX2_takeDue_27 (jj_le rfl) (jj_le rfl)
    · refine jj_lload C dX2_takeDue_20 rfl ?_
      refine jj_lconst (v := 0) C dX2_takeDue_22 (by decide) ?_
      refine jj_lcmp_gt (tgt := 28) C dX2_takeDue_23 dX2_takeDue_24 (by decide) (fun c_140 => ?_) (fun c_140 => ?_)
      · refine jj_aload_n C dX2_takeDue_28 rfl ?_
        refine tt_get C hok jk_5 3 (by decide) jw_a038b4bca1 (t := (1, (-9223372036854775808), 9223372036854775807)) hk2 (by decide) rfl rfl dX2_takeDue_29 (fun v_141 hv_141 hf_142 => ?_)
        obtain ⟨y_143, rfl, -, -⟩ := tt_vj hv_141
        refine jj_aload_n C dX2_takeDue_32 rfl ?_
        refine tt_getF C hok jk_5 4 (by decide) jw_8ebffe18a9 (t := (1, (-9223372036854775808), 9223372036854775807)) hk2 (by decide) rfl rfl hf_137 dX2_takeDue_33 ?_
        refine jj_lload C dX2_takeDue_36 rfl ?_
        refine jj_aload_n C dX2_takeDue_38 rfl ?_
        refine tt_get C hok jk_2 3 (by decide) jw_6a66993f6c (t := (0, (-2147483648), 2147483647)) hk0 (by decide) rfl rfl dX2_takeDue_39 (fun v_144 hv_144 hf_145 => ?_)
        obtain ⟨x_146, rfl, lx_146, ux_146⟩ := tt_vi hv_144
        refine tt_callS (rest := []) C (tc_X2_dueOn_1 hl D cA ak y_143 y_138 p3 x_146 hok) [] [] rfl rfl (by decide) (by decide) (by decide) jw_845775b81a jw_06dd566a56 jw_79af3f4029 jw_eebd9e2034 jn_X2_dueOn rfl (jj_le rfl) (jj_le rfl) (jj_le rfl) (jj_le rfl) (jj_le rfl) dX2_takeDue_42 rfl (fun _ _ _ hX => hX.elim) (fun rx pl_147 r O_150 => ?_)
        obtain ⟨rfl, hok_148, hr_149, hfa9, hR_152⟩ := O_150
        replace hf_2 := hr_149.at hk1 (by decide) (by decide) hf_2
        replace hf_137 := hr_149.at hk2 (by decide) (by decide) hf_137
        replace hf_142 := hr_149.at hk2 (by decide) (by decide) hf_142
        replace hf_145 := hr_149.at hk0 (by decide) (by decide) hf_145
        replace hfr := hfr.trans (hr_149.sub (by decide))
        replace hfa := hfa.trans (hfa9.sub (by decide))
        rcases hR_152 with rfl | ⟨y_155, rfl⟩
        · refine jj_lstore C dX2_takeDue_45 (by decide) rfl ?_
          refine jj_aload_n C dX2_takeDue_47 rfl ?_
          refine tt_getF C hok_148 jk_5 3 (by decide) jw_a038b4bca1 (t := (1, (-9223372036854775808), 9223372036854775807)) hk2 (by decide) rfl rfl hf_142 dX2_takeDue_48 ?_
          refine jj_lload C dX2_takeDue_51 rfl ?_
          refine jj_ldc2 (v := 100000) C dX2_takeDue_53 jw_acb9b226b5 ?_
          refine jj_lmul (v := 0) C dX2_takeDue_56 (by decide) ?_
          refine jj_lload C dX2_takeDue_57 rfl ?_
          obtain ⟨y_156, ey_156⟩ : ∃ z : Int64, (0 : Int64) / p4 = z := ⟨_, rfl⟩
          refine jj_ldiv (v := y_156) C dX2_takeDue_59 (jt_nzpL c_140) ey_156 ?_
          refine tt_call0S (rest := []) C (ct_J9_min_f86c9_1 hl D cA ak y_143 y_156) jw_6f3bb354f8 jw_a0cddbe894 jw_a731c8553d jw_e0e7ffaaeb jn_J9_min_f86c9 rfl (jj_le rfl) (jj_le rfl) (jj_le rfl) (jj_le rfl) (jj_le rfl) dX2_takeDue_60 rfl (fun w1 r O_157 => ?_)
          rcases O_157 with ⟨c_158, -, rfl⟩ | ⟨c_159, -, rfl⟩
          · refine jj_lstore C dX2_takeDue_63 (by decide) rfl ?_
            refine jj_aload_n C dX2_takeDue_65 rfl ?_
            refine jj_dup C dX2_takeDue_66 rfl ?_
            refine tt_get C hok_148 jk_9 2 (by decide) jw_5719898240 (t := (1, (-9223372036854775808), 9223372036854775807)) hk1 (by decide) rfl rfl dX2_takeDue_67 (fun v_160 hv_160 hf_161 => ?_)
            obtain ⟨y_162, rfl, -, -⟩ := tt_vj hv_160
            refine jj_lload C dX2_takeDue_70 rfl ?_
            obtain ⟨y_163, ey_163⟩ : ∃ z : Int64, y_162 - (0 : Int64) = z := ⟨_, rfl⟩
            refine jj_lsub (v := y_163) C dX2_takeDue_72 ey_163 ?_
            refine rl_put C hok_148 jk_9 2 (by decide) jw_5719898240 (t := (1, (-9223372036854775808), 9223372036854775807)) hk1 (by decide) rfl rfl rfl (tt_ja y_163) rfl rfl dX2_takeDue_73 (fun pl_164 hok_165 tr hn tl => ?_)
            replace hf_2 := tr _ _ _ (Or.inr (by decide)) hf_2
            replace hf_137 := tr _ _ _ (Or.inl (tt_ne hk2 hk1 (by decide))) hf_137
            replace hf_142 := tr _ _ _ (Or.inl (tt_ne hk2 hk1 (by decide))) hf_142
            replace hf_145 := tr _ _ _ (Or.inl (tt_ne hk0 hk1 (by decide))) hf_145
            have hf_166 := hn
            replace hfr := hfr.put hk1 tr (by decide)
            replace hfa := hfa.all tl
            refine jj_aload_n C dX2_takeDue_76 rfl ?_
            refine tt_get C hok_165 jk_2 10 (by decide) jw_d4020bdca8 (t := (2, 5, 0)) hk0 (by decide) rfl rfl dX2_takeDue_77 (fun v_167 hv_167 hf_168 => ?_)
            obtain ⟨a_169, rfl, ka_169⟩ := tt_vr hv_167
            refine jj_iconst (v := 0) C dX2_takeDue_80 (by decide) ?_
            refine jj_dup2 C dX2_takeDue_81 rfl rfl ?_
            refine tt_lald C hok_165 (t := (1, (-9223372036854775808), 9223372036854775807)) ka_169 (by decide) rfl (vp_in_iff.mpr (by decide)) dX2_takeDue_82 (fun v_170 hv_170 => ?_)
            refine jj_lload C dX2_takeDue_83 rfl ?_
            obtain ⟨y_171, ey_171⟩ : ∃ z : Int64, v_170 + (0 : Int64) = z := ⟨_, rfl⟩
            refine jj_ladd (v := y_171) C dX2_takeDue_85 ey_171 ?_
            refine tl_last C hok_165 (t := (1, (-9223372036854775808), 9223372036854775807)) ka_169 (by decide) rfl (vp_in_iff.mpr (by decide)) (tt_ja _) dX2_takeDue_86 (fun pl_172 hok_173 tr tl => ?_)
            replace hf_2 := tr _ _ _ hf_2
            replace hf_137 := tr _ _ _ hf_137
            replace hf_142 := tr _ _ _ hf_142
            replace hf_145 := tr _ _ _ hf_145
            replace hf_166 := tr _ _ _ hf_166
            replace hf_168 := tr _ _ _ hf_168
            replace hfr := hfr.arr tr
            replace hfa := hfa.wr ka_169 tl (by decide)
            refine jj_aload_n C dX2_takeDue_87 rfl ?_
            refine jj_dup C dX2_takeDue_88 rfl ?_
            refine tt_getF C hok_173 jk_5 3 (by decide) jw_a038b4bca1 (t := (1, (-9223372036854775808), 9223372036854775807)) hk2 (by decide) rfl rfl hf_142 dX2_takeDue_89 ?_
            refine jj_lload C dX2_takeDue_92 rfl ?_
            obtain ⟨y_174, ey_174⟩ : ∃ z : Int64, y_143 - y_156 = z := ⟨_, rfl⟩
            refine jj_lsub (v := y_174) C dX2_takeDue_94 ey_174 ?_
            refine rl_put C hok_173 jk_5 3 (by decide) jw_a038b4bca1 (t := (1, (-9223372036854775808), 9223372036854775807)) hk2 (by decide) rfl rfl rfl (tt_ja y_174) rfl rfl dX2_takeDue_95 (fun pl_175 hok_176 tr hn tl => ?_)
            replace hf_2 := tr _ _ _ (Or.inl (tt_ne hk1 hk2 (by decide))) hf_2
            replace hf_137 := tr _ _ _ (Or.inr (by decide)) hf_137
            replace hf_145 := tr _ _ _ (Or.inl (tt_ne hk0 hk2 (by decide))) hf_145
            replace hf_166 := tr _ _ _ (Or.inl (tt_ne hk1 hk2 (by decide))) hf_166
            replace hf_168 := tr _ _ _ (Or.inl (tt_ne hk0 hk2 (by decide))) hf_168
            have hf_177 := hn
            replace hfr := hfr.put hk2 tr (by decide)
            replace hfa := hfa.all tl
            refine jj_aload_n C dX2_takeDue_98 rfl ?_
            refine jj_dup C dX2_takeDue_99 rfl ?_
            refine tt_get C hok_176 jk_9 3 (by decide) jw_abb7017335 (t := (1, (-9223372036854775808), 9223372036854775807)) hk1 (by decide) rfl rfl dX2_takeDue_100 (fun v_178 hv_178 hf_179 => ?_)
            obtain ⟨y_180, rfl, -, -⟩ := tt_vj hv_178
            refine jj_lload C dX2_takeDue_103 rfl ?_
            obtain ⟨y_181, ey_181⟩ : ∃ z : Int64, y_180 - y_156 = z := ⟨_, rfl⟩
            refine jj_lsub (v := y_181) C dX2_takeDue_105 ey_181 ?_
            refine rl_put C hok_176 jk_9 3 (by decide) jw_abb7017335 (t := (1, (-9223372036854775808), 9223372036854775807)) hk1 (by decide) rfl rfl rfl (tt_ja y_181) rfl rfl dX2_takeDue_106 (fun pl_182 hok_183 tr hn tl => ?_)
            replace hf_2 := tr _ _ _ (Or.inr (by decide)) hf_2
            replace hf_137 := tr _ _ _ (Or.inl (tt_ne hk2 hk1 (by decide))) hf_137
            replace hf_145 := tr _ _ _ (Or.inl (tt_ne hk0 hk1 (by decide))) hf_145
            replace hf_166 := tr _ _ _ (Or.inr (by decide)) hf_166
            replace hf_168 := tr _ _ _ (Or.inl (tt_ne hk0 hk1 (by decide))) hf_168
            replace hf_177 := tr _ _ _ (Or.inl (tt_ne hk2 hk1 (by decide))) hf_177
            have hf_184 := hn
            replace hfr := hfr.put hk1 tr (by decide)
            replace hfa := hfa.all tl
            exact jj_vret C ⟨[], pl_182, rfl, rfl, hok_183, hfr, hfa, rfl⟩ dX2_takeDue_109 (jj_le rfl) (jj_le rfl)
          · refine jj_lstore C dX2_takeDue_63 (by decide) rfl ?_
            refine jj_aload_n C dX2_takeDue_65 rfl ?_
            refine jj_dup C dX2_takeDue_66 rfl ?_
            refine tt_get C hok_148 jk_9 2 (by decide) jw_5719898240 (t := (1, (-9223372036854775808), 9223372036854775807)) hk1 (by decide) rfl rfl dX2_takeDue_67 (fun v_185 hv_185 hf_186 => ?_)
            obtain ⟨y_187, rfl, -, -⟩ := tt_vj hv_185
            refine jj_lload C dX2_takeDue_70 rfl ?_
            obtain ⟨y_188, ey_188⟩ : ∃ z : Int64, y_187 - (0 : Int64) = z := ⟨_, rfl⟩
            refine jj_lsub (v := y_188) C dX2_takeDue_72 ey_188 ?_
            refine rl_put C hok_148 jk_9 2 (by decide) jw_5719898240 (t := (1, (-9223372036854775808), 9223372036854775807)) hk1 (by decide) rfl rfl rfl (tt_ja y_188) rfl rfl dX2_takeDue_73 (fun pl_189 hok_190 tr hn tl => ?_)
            replace hf_2 := tr _ _ _ (Or.inr (by decide)) hf_2
            replace hf_137 := tr _ _ _ (Or.inl (tt_ne hk2 hk1 (by decide))) hf_137
            replace hf_142 := tr _ _ _ (Or.inl (tt_ne hk2 hk1 (by decide))) hf_142
            replace hf_145 := tr _ _ _ (Or.inl (tt_ne hk0 hk1 (by decide))) hf_145
            have hf_191 := hn
            replace hfr := hfr.put hk1 tr (by decide)
            replace hfa := hfa.all tl
            refine jj_aload_n C dX2_takeDue_76 rfl ?_
            refine tt_get C hok_190 jk_2 10 (by decide) jw_d4020bdca8 (t := (2, 5, 0)) hk0 (by decide) rfl rfl dX2_takeDue_77 (fun v_192 hv_192 hf_193 => ?_)
            obtain ⟨a_194, rfl, ka_194⟩ := tt_vr hv_192
            refine jj_iconst (v := 0) C dX2_takeDue_80 (by decide) ?_
            refine jj_dup2 C dX2_takeDue_81 rfl rfl ?_
            refine tt_lald C hok_190 (t := (1, (-9223372036854775808), 9223372036854775807)) ka_194 (by decide) rfl (vp_in_iff.mpr (by decide)) dX2_takeDue_82 (fun v_195 hv_195 => ?_)
            refine jj_lload C dX2_takeDue_83 rfl ?_
            obtain ⟨y_196, ey_196⟩ : ∃ z : Int64, v_195 + (0 : Int64) = z := ⟨_, rfl⟩
            refine jj_ladd (v := y_196) C dX2_takeDue_85 ey_196 ?_
            refine tl_last C hok_190 (t := (1, (-9223372036854775808), 9223372036854775807)) ka_194 (by decide) rfl (vp_in_iff.mpr (by decide)) (tt_ja _) dX2_takeDue_86 (fun pl_197 hok_198 tr tl => ?_)
            replace hf_2 := tr _ _ _ hf_2
            replace hf_137 := tr _ _ _ hf_137
            replace hf_142 := tr _ _ _ hf_142
            replace hf_145 := tr _ _ _ hf_145
            replace hf_191 := tr _ _ _ hf_191
            replace hf_193 := tr _ _ _ hf_193
            replace hfr := hfr.arr tr
            replace hfa := hfa.wr ka_194 tl (by decide)
            refine jj_aload_n C dX2_takeDue_87 rfl ?_
            refine jj_dup C dX2_takeDue_88 rfl ?_
            refine tt_getF C hok_198 jk_5 3 (by decide) jw_a038b4bca1 (t := (1, (-9223372036854775808), 9223372036854775807)) hk2 (by decide) rfl rfl hf_142 dX2_takeDue_89 ?_
            refine jj_lload C dX2_takeDue_92 rfl ?_
            obtain ⟨y_199, ey_199⟩ : ∃ z : Int64, y_143 - y_143 = z := ⟨_, rfl⟩
            refine jj_lsub (v := y_199) C dX2_takeDue_94 ey_199 ?_
            refine rl_put C hok_198 jk_5 3 (by decide) jw_a038b4bca1 (t := (1, (-9223372036854775808), 9223372036854775807)) hk2 (by decide) rfl rfl rfl (tt_ja y_199) rfl rfl dX2_takeDue_95 (fun pl_200 hok_201 tr hn tl => ?_)
            replace hf_2 := tr _ _ _ (Or.inl (tt_ne hk1 hk2 (by decide))) hf_2
            replace hf_137 := tr _ _ _ (Or.inr (by decide)) hf_137
            replace hf_145 := tr _ _ _ (Or.inl (tt_ne hk0 hk2 (by decide))) hf_145
            replace hf_191 := tr _ _ _ (Or.inl (tt_ne hk1 hk2 (by decide))) hf_191
            replace hf_193 := tr _ _ _ (Or.inl (tt_ne hk0 hk2 (by decide))) hf_193
            have hf_202 := hn
            replace hfr := hfr.put hk2 tr (by decide)
            replace hfa := hfa.all tl
            refine jj_aload_n C dX2_takeDue_98 rfl ?_
            refine jj_dup C dX2_takeDue_99 rfl ?_
            refine tt_get C hok_201 jk_9 3 (by decide) jw_abb7017335 (t := (1, (-9223372036854775808), 9223372036854775807)) hk1 (by decide) rfl rfl dX2_takeDue_100 (fun v_203 hv_203 hf_204 => ?_)
            obtain ⟨y_205, rfl, -, -⟩ := tt_vj hv_203
            refine jj_lload C dX2_takeDue_103 rfl ?_
            obtain ⟨y_206, ey_206⟩ : ∃ z : Int64, y_205 - y_143 = z := ⟨_, rfl⟩
            refine jj_lsub (v := y_206) C dX2_takeDue_105 ey_206 ?_
            refine rl_put C hok_201 jk_9 3 (by decide) jw_abb7017335 (t := (1, (-9223372036854775808), 9223372036854775807)) hk1 (by decide) rfl rfl rfl (tt_ja y_206) rfl rfl dX2_takeDue_106 (fun pl_207 hok_208 tr hn tl => ?_)
            replace hf_2 := tr _ _ _ (Or.inr (by decide)) hf_2
            replace hf_137 := tr _ _ _ (Or.inl (tt_ne hk2 hk1 (by decide))) hf_137
            replace hf_145 := tr _ _ _ (Or.inl (tt_ne hk0 hk1 (by decide))) hf_145
            replace hf_191 := tr _ _ _ (Or.inr (by decide)) hf_191
            replace hf_193 := tr _ _ _ (Or.inl (tt_ne hk0 hk1 (by decide))) hf_193
            replace hf_202 := tr _ _ _ (Or.inl (tt_ne hk2 hk1 (by decide))) hf_202
            have hf_209 := hn
            replace hfr := hfr.put hk1 tr (by decide)
            replace hfa := hfa.all tl
            exact jj_vret C ⟨[], pl_207, rfl, rfl, hok_208, hfr, hfa, rfl⟩ dX2_takeDue_109 (jj_le rfl) (jj_le rfl)
        · refine jj_lstore C dX2_takeDue_45 (by decide) rfl ?_
          refine jj_aload_n C dX2_takeDue_47 rfl ?_
          refine tt_getF C hok_148 jk_5 3 (by decide) jw_a038b4bca1 (t := (1, (-9223372036854775808), 9223372036854775807)) hk2 (by decide) rfl rfl hf_142 dX2_takeDue_48 ?_
          refine jj_lload C dX2_takeDue_51 rfl ?_
          refine jj_ldc2 (v := 100000) C dX2_takeDue_53 jw_acb9b226b5 ?_
          obtain ⟨y_210, ey_210⟩ : ∃ z : Int64, y_155 * (100000 : Int64) = z := ⟨_, rfl⟩
          refine jj_lmul (v := y_210) C dX2_takeDue_56 ey_210 ?_
          refine jj_lload C dX2_takeDue_57 rfl ?_
          obtain ⟨y_211, ey_211⟩ : ∃ z : Int64, y_210 / p4 = z := ⟨_, rfl⟩
          refine jj_ldiv (v := y_211) C dX2_takeDue_59 (jt_nzpL c_140) ey_211 ?_
          refine tt_call0S (rest := []) C (ct_J9_min_f86c9_1 hl D cA ak y_143 y_211) jw_6f3bb354f8 jw_a0cddbe894 jw_a731c8553d jw_e0e7ffaaeb jn_J9_min_f86c9 rfl (jj_le rfl) (jj_le rfl) (jj_le rfl) (jj_le rfl) (jj_le rfl) dX2_takeDue_60 rfl (fun w1 r O_212 => ?_)
          rcases O_212 with ⟨c_213, -, rfl⟩ | ⟨c_214, -, rfl⟩
          · refine jj_lstore C dX2_takeDue_63 (by decide) rfl ?_
            refine jj_aload_n C dX2_takeDue_65 rfl ?_
            refine jj_dup C dX2_takeDue_66 rfl ?_
            refine tt_get C hok_148 jk_9 2 (by decide) jw_5719898240 (t := (1, (-9223372036854775808), 9223372036854775807)) hk1 (by decide) rfl rfl dX2_takeDue_67 (fun v_215 hv_215 hf_216 => ?_)
            obtain ⟨y_217, rfl, -, -⟩ := tt_vj hv_215
            refine jj_lload C dX2_takeDue_70 rfl ?_
            obtain ⟨y_218, ey_218⟩ : ∃ z : Int64, y_217 - y_155 = z := ⟨_, rfl⟩
            refine jj_lsub (v := y_218) C dX2_takeDue_72 ey_218 ?_
            refine rl_put C hok_148 jk_9 2 (by decide) jw_5719898240 (t := (1, (-9223372036854775808), 9223372036854775807)) hk1 (by decide) rfl rfl rfl (tt_ja y_218) rfl rfl dX2_takeDue_73 (fun pl_219 hok_220 tr hn tl => ?_)
            replace hf_2 := tr _ _ _ (Or.inr (by decide)) hf_2
            replace hf_137 := tr _ _ _ (Or.inl (tt_ne hk2 hk1 (by decide))) hf_137
            replace hf_142 := tr _ _ _ (Or.inl (tt_ne hk2 hk1 (by decide))) hf_142
            replace hf_145 := tr _ _ _ (Or.inl (tt_ne hk0 hk1 (by decide))) hf_145
            have hf_221 := hn
            replace hfr := hfr.put hk1 tr (by decide)
            replace hfa := hfa.all tl
            refine jj_aload_n C dX2_takeDue_76 rfl ?_
            refine tt_get C hok_220 jk_2 10 (by decide) jw_d4020bdca8 (t := (2, 5, 0)) hk0 (by decide) rfl rfl dX2_takeDue_77 (fun v_222 hv_222 hf_223 => ?_)
            obtain ⟨a_224, rfl, ka_224⟩ := tt_vr hv_222
            refine jj_iconst (v := 0) C dX2_takeDue_80 (by decide) ?_
            refine jj_dup2 C dX2_takeDue_81 rfl rfl ?_
            refine tt_lald C hok_220 (t := (1, (-9223372036854775808), 9223372036854775807)) ka_224 (by decide) rfl (vp_in_iff.mpr (by decide)) dX2_takeDue_82 (fun v_225 hv_225 => ?_)
            refine jj_lload C dX2_takeDue_83 rfl ?_
            obtain ⟨y_226, ey_226⟩ : ∃ z : Int64, v_225 + y_155 = z := ⟨_, rfl⟩
            refine jj_ladd (v := y_226) C dX2_takeDue_85 ey_226 ?_
            refine tl_last C hok_220 (t := (1, (-9223372036854775808), 9223372036854775807)) ka_224 (by decide) rfl (vp_in_iff.mpr (by decide)) (tt_ja _) dX2_takeDue_86 (fun pl_227 hok_228 tr tl => ?_)
            replace hf_2 := tr _ _ _ hf_2
            replace hf_137 := tr _ _ _ hf_137
            replace hf_142 := tr _ _ _ hf_142
            replace hf_145 := tr _ _ _ hf_145
            replace hf_221 := tr _ _ _ hf_221
            replace hf_223 := tr _ _ _ hf_223
            replace hfr := hfr.arr tr
            replace hfa := hfa.wr ka_224 tl (by decide)
            refine jj_aload_n C dX2_takeDue_87 rfl ?_
            refine jj_dup C dX2_takeDue_88 rfl ?_
            refine tt_getF C hok_228 jk_5 3 (by decide) jw_a038b4bca1 (t := (1, (-9223372036854775808), 9223372036854775807)) hk2 (by decide) rfl rfl hf_142 dX2_takeDue_89 ?_
            refine jj_lload C dX2_takeDue_92 rfl ?_
            obtain ⟨y_229, ey_229⟩ : ∃ z : Int64, y_143 - y_211 = z := ⟨_, rfl⟩
            refine jj_lsub (v := y_229) C dX2_takeDue_94 ey_229 ?_
            refine rl_put C hok_228 jk_5 3 (by decide) jw_a038b4bca1 (t := (1, (-9223372036854775808), 9223372036854775807)) hk2 (by decide) rfl rfl rfl (tt_ja y_229) rfl rfl dX2_takeDue_95 (fun pl_230 hok_231 tr hn tl => ?_)
            replace hf_2 := tr _ _ _ (Or.inl (tt_ne hk1 hk2 (by decide))) hf_2
            replace hf_137 := tr _ _ _ (Or.inr (by decide)) hf_137
            replace hf_145 := tr _ _ _ (Or.inl (tt_ne hk0 hk2 (by decide))) hf_145
            replace hf_221 := tr _ _ _ (Or.inl (tt_ne hk1 hk2 (by decide))) hf_221
            replace hf_223 := tr _ _ _ (Or.inl (tt_ne hk0 hk2 (by decide))) hf_223
            have hf_232 := hn
            replace hfr := hfr.put hk2 tr (by decide)
            replace hfa := hfa.all tl
            refine jj_aload_n C dX2_takeDue_98 rfl ?_
            refine jj_dup C dX2_takeDue_99 rfl ?_
            refine tt_get C hok_231 jk_9 3 (by decide) jw_abb7017335 (t := (1, (-9223372036854775808), 9223372036854775807)) hk1 (by decide) rfl rfl dX2_takeDue_100 (fun v_233 hv_233 hf_234 => ?_)
            obtain ⟨y_235, rfl, -, -⟩ := tt_vj hv_233
            refine jj_lload C dX2_takeDue_103 rfl ?_
            obtain ⟨y_236, ey_236⟩ : ∃ z : Int64, y_235 - y_211 = z := ⟨_, rfl⟩
            refine jj_lsub (v := y_236) C dX2_takeDue_105 ey_236 ?_
            refine rl_put C hok_231 jk_9 3 (by decide) jw_abb7017335 (t := (1, (-9223372036854775808), 9223372036854775807)) hk1 (by decide) rfl rfl rfl (tt_ja y_236) rfl rfl dX2_takeDue_106 (fun pl_237 hok_238 tr hn tl => ?_)
            replace hf_2 := tr _ _ _ (Or.inr (by decide)) hf_2
            replace hf_137 := tr _ _ _ (Or.inl (tt_ne hk2 hk1 (by decide))) hf_137
            replace hf_145 := tr _ _ _ (Or.inl (tt_ne hk0 hk1 (by decide))) hf_145
            replace hf_221 := tr _ _ _ (Or.inr (by decide)) hf_221
            replace hf_223 := tr _ _ _ (Or.inl (tt_ne hk0 hk1 (by decide))) hf_223
            replace hf_232 := tr _ _ _ (Or.inl (tt_ne hk2 hk1 (by decide))) hf_232
            have hf_239 := hn
            replace hfr := hfr.put hk1 tr (by decide)
            replace hfa := hfa.all tl
            exact jj_vret C ⟨[], pl_237, rfl, rfl, hok_238, hfr, hfa, rfl⟩ dX2_takeDue_109 (jj_le rfl) (jj_le rfl)
          · refine jj_lstore C dX2_takeDue_63 (by decide) rfl ?_
            refine jj_aload_n C dX2_takeDue_65 rfl ?_
            refine jj_dup C dX2_takeDue_66 rfl ?_
            refine tt_get C hok_148 jk_9 2 (by decide) jw_5719898240 (t := (1, (-9223372036854775808), 9223372036854775807)) hk1 (by decide) rfl rfl dX2_takeDue_67 (fun v_240 hv_240 hf_241 => ?_)
            obtain ⟨y_242, rfl, -, -⟩ := tt_vj hv_240
            refine jj_lload C dX2_takeDue_70 rfl ?_
            obtain ⟨y_243, ey_243⟩ : ∃ z : Int64, y_242 - y_155 = z := ⟨_, rfl⟩
            refine jj_lsub (v := y_243) C dX2_takeDue_72 ey_243 ?_
            refine rl_put C hok_148 jk_9 2 (by decide) jw_5719898240 (t := (1, (-9223372036854775808), 9223372036854775807)) hk1 (by decide) rfl rfl rfl (tt_ja y_243) rfl rfl dX2_takeDue_73 (fun pl_244 hok_245 tr hn tl => ?_)
            replace hf_2 := tr _ _ _ (Or.inr (by decide)) hf_2
            replace hf_137 := tr _ _ _ (Or.inl (tt_ne hk2 hk1 (by decide))) hf_137
            replace hf_142 := tr _ _ _ (Or.inl (tt_ne hk2 hk1 (by decide))) hf_142
            replace hf_145 := tr _ _ _ (Or.inl (tt_ne hk0 hk1 (by decide))) hf_145
            have hf_246 := hn
            replace hfr := hfr.put hk1 tr (by decide)
            replace hfa := hfa.all tl
            refine jj_aload_n C dX2_takeDue_76 rfl ?_
            refine tt_get C hok_245 jk_2 10 (by decide) jw_d4020bdca8 (t := (2, 5, 0)) hk0 (by decide) rfl rfl dX2_takeDue_77 (fun v_247 hv_247 hf_248 => ?_)
            obtain ⟨a_249, rfl, ka_249⟩ := tt_vr hv_247
            refine jj_iconst (v := 0) C dX2_takeDue_80 (by decide) ?_
            refine jj_dup2 C dX2_takeDue_81 rfl rfl ?_
            refine tt_lald C hok_245 (t := (1, (-9223372036854775808), 9223372036854775807)) ka_249 (by decide) rfl (vp_in_iff.mpr (by decide)) dX2_takeDue_82 (fun v_250 hv_250 => ?_)
            refine jj_lload C dX2_takeDue_83 rfl ?_
            obtain ⟨y_251, ey_251⟩ : ∃ z : Int64, v_250 + y_155 = z := ⟨_, rfl⟩
            refine jj_ladd (v := y_251) C dX2_takeDue_85 ey_251 ?_
            refine tl_last C hok_245 (t := (1, (-9223372036854775808), 9223372036854775807)) ka_249 (by decide) rfl (vp_in_iff.mpr (by decide)) (tt_ja _) dX2_takeDue_86 (fun pl_252 hok_253 tr tl => ?_)
            replace hf_2 := tr _ _ _ hf_2
            replace hf_137 := tr _ _ _ hf_137
            replace hf_142 := tr _ _ _ hf_142
            replace hf_145 := tr _ _ _ hf_145
            replace hf_246 := tr _ _ _ hf_246
            replace hf_248 := tr _ _ _ hf_248
            replace hfr := hfr.arr tr
            replace hfa := hfa.wr ka_249 tl (by decide)
            refine jj_aload_n C dX2_takeDue_87 rfl ?_
            refine jj_dup C dX2_takeDue_88 rfl ?_
            refine tt_getF C hok_253 jk_5 3 (by decide) jw_a038b4bca1 (t := (1, (-9223372036854775808), 9223372036854775807)) hk2 (by decide) rfl rfl hf_142 dX2_takeDue_89 ?_
            refine jj_lload C dX2_takeDue_92 rfl ?_
            obtain ⟨y_254, ey_254⟩ : ∃ z : Int64, y_143 - y_143 = z := ⟨_, rfl⟩
            refine jj_lsub (v := y_254) C dX2_takeDue_94 ey_254 ?_
            refine rl_put C hok_253 jk_5 3 (by decide) jw_a038b4bca1 (t := (1, (-9223372036854775808), 9223372036854775807)) hk2 (by decide) rfl rfl rfl (tt_ja y_254) rfl rfl dX2_takeDue_95 (fun pl_255 hok_256 tr hn tl => ?_)
            replace hf_2 := tr _ _ _ (Or.inl (tt_ne hk1 hk2 (by decide))) hf_2
            replace hf_137 := tr _ _ _ (Or.inr (by decide)) hf_137
            replace hf_145 := tr _ _ _ (Or.inl (tt_ne hk0 hk2 (by decide))) hf_145
            replace hf_246 := tr _ _ _ (Or.inl (tt_ne hk1 hk2 (by decide))) hf_246
            replace hf_248 := tr _ _ _ (Or.inl (tt_ne hk0 hk2 (by decide))) hf_248
            have hf_257 := hn
            replace hfr := hfr.put hk2 tr (by decide)
            replace hfa := hfa.all tl
            refine jj_aload_n C dX2_takeDue_98 rfl ?_
            refine jj_dup C dX2_takeDue_99 rfl ?_
            refine tt_get C hok_256 jk_9 3 (by decide) jw_abb7017335 (t := (1, (-9223372036854775808), 9223372036854775807)) hk1 (by decide) rfl rfl dX2_takeDue_100 (fun v_258 hv_258 hf_259 => ?_)
            obtain ⟨y_260, rfl, -, -⟩ := tt_vj hv_258
            refine jj_lload C dX2_takeDue_103 rfl ?_
            obtain ⟨y_261, ey_261⟩ : ∃ z : Int64, y_260 - y_143 = z := ⟨_, rfl⟩
            refine jj_lsub (v := y_261) C dX2_takeDue_105 ey_261 ?_
            refine rl_put C hok_256 jk_9 3 (by decide) jw_abb7017335 (t := (1, (-9223372036854775808), 9223372036854775807)) hk1 (by decide) rfl rfl rfl (tt_ja y_261) rfl rfl dX2_takeDue_106 (fun pl_262 hok_263 tr hn tl => ?_)
            replace hf_2 := tr _ _ _ (Or.inr (by decide)) hf_2
            replace hf_137 := tr _ _ _ (Or.inl (tt_ne hk2 hk1 (by decide))) hf_137
            replace hf_145 := tr _ _ _ (Or.inl (tt_ne hk0 hk1 (by decide))) hf_145
            replace hf_246 := tr _ _ _ (Or.inr (by decide)) hf_246
            replace hf_248 := tr _ _ _ (Or.inl (tt_ne hk0 hk1 (by decide))) hf_248
            replace hf_257 := tr _ _ _ (Or.inl (tt_ne hk2 hk1 (by decide))) hf_257
            have hf_264 := hn
            replace hfr := hfr.put hk1 tr (by decide)
            replace hfa := hfa.all tl
            exact jj_vret C ⟨[], pl_262, rfl, rfl, hok_263, hfr, hfa, rfl⟩ dX2_takeDue_109 (jj_le rfl) (jj_le rfl)
      · exact jj_vret C ⟨[], pl0, rfl, rfl, hok, hfr, hfa, rfl⟩ dX2_takeDue_27 (jj_le rfl) (jj_le rfl)

