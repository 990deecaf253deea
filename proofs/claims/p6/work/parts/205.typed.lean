set_option maxHeartbeats 4000000 in
set_option maxRecDepth 100000 in
theorem tc_X1_takeIn_2 {l : Launch} (hl : l.stackTraces = false) (D : va_G) (cA : Nat → ClassId) (ak : (Nat → Nat) × (Nat → Nat)) {Kd : Nat → Nat} (h0 : Nat) (h1 : Nat) (h2 : Nat) (p3 : Int32) (hk0 : Kd h0 = 9) (hk1 : Kd h1 = 1) (hk2 : Kd h2 = 4) (lp3 : (-1 : Int) ≤ p3.toInt) (up3 : p3.toInt ≤ 5) {pl0 : va_W} (hok : tt_ok tt_tk cA Kd pl0) : jj_M l D cA ak yX1_takeIn (.code yX1_takeIn cX1_takeIn 12 (some .boolean)) 2 51 0 0 ([] ++ pl0) [.ref h0, .ref h1, .ref h2, .int p3] (tt_O (fun rx pl1 r => rx = [] ∧ tt_ok tt_tk cA Kd pl1 ∧ tt_fr Kd [(1, 6), (1, 7), (1, 8), (2, 0), (2, 1), (2, 2), (2, 3), (2, 4), (3, 0), (3, 1), (3, 2), (3, 3), (3, 4), (3, 5)] pl0 pl1 ∧ tt_fa Kd [5] pl0 pl1 ∧ ((r = some (.int 0)) ∨ (r = some (.int 1))))) (tt_OX (fun _ _ _ => False)) := by
  refine jj_start hl (by decide) jw_ab8304a739 (jj_le rfl) ?_
  intro p e s m args below meth c A hargs hA C hex hmn
  have hfr := tt_fr.refl (K := Kd) (WS := [(1, 6), (1, 7), (1, 8), (2, 0), (2, 1), (2, 2), (2, 3), (2, 4), (3, 0), (3, 1), (3, 2), (3, 3), (3, 4), (3, 5)]) pl0
  have hfa := tt_fa.refl (K := Kd) (WA := [5]) pl0
  refine jj_iload_n C dX1_takeIn_0 rfl ?_
  refine jj_if_lt (tgt := 12) C dX1_takeIn_1 (by decide) (fun c_1 => ?_) (fun c_1 => ?_)
  · have z_c_1 := jc_lt (a := (p3).toInt) (b := (0)) c_1 rfl (by decide)
    refine jj_iconst (v := 1) C dX1_takeIn_12 (by decide) ?_
    refine jj_goto (tgt := 17) C dX1_takeIn_13 (by decide) ?_
    refine jj_istore C dX1_takeIn_17 (by decide) rfl ?_
    refine jj_iload C dX1_takeIn_19 rfl ?_
    refine jj_if_neT (tgt := 32) C dX1_takeIn_21 (by decide) (by decide) ?_
    refine jj_ldc2 (v := 1000000) C dX1_takeIn_32 jw_39e30070ed ?_
    refine jj_goto (tgt := 47) C dX1_takeIn_35 (by decide) ?_
    refine jj_lstore C dX1_takeIn_47 (by decide) rfl ?_
    refine jj_lload C dX1_takeIn_49 rfl ?_
    refine jj_lconst (v := 0) C dX1_takeIn_51 (by decide) ?_
    refine jj_lcmp_leF (tgt := 79) C dX1_takeIn_52 dX1_takeIn_53 (by decide) (by decide) ?_
    refine jj_aload_n C dX1_takeIn_56 rfl ?_
    refine tt_get C hok jk_2 8 (by decide) jw_eaf43346a8 (t := (0, 0, 40)) hk1 (by decide) rfl rfl dX1_takeIn_57 (fun v_2 hv_2 hf_3 => ?_)
    obtain ⟨x_4, rfl, lx_4, ux_4⟩ := tt_vi hv_2
    refine jj_bipush (v := 40) C dX1_takeIn_60 (by decide) ?_
    refine jj_icmp_ge (tgt := 79) C dX1_takeIn_62 (by decide) (fun c_5 => ?_) (fun c_5 => ?_)
    · have z_c_5 := jc_le (a := (40)) (b := (x_4).toInt) c_5 (by decide) rfl
      refine jj_iconst (v := 0) C dX1_takeIn_79 (by decide) ?_
      exact jj_zret C rfl ⟨[], pl0, rfl, rfl, hok, hfr, hfa, (Or.inl rfl)⟩ dX1_takeIn_80 (jj_le rfl) (jj_le rfl)
    · have z_c_5 := jc_nle (a := (40)) (b := (x_4).toInt) c_5 (by decide) rfl
      refine jj_iload C dX1_takeIn_65 rfl ?_
      refine jj_if_eqF (tgt := 81) C dX1_takeIn_67 (by decide) (by decide) ?_
      refine jj_aload_n C dX1_takeIn_70 rfl ?_
      refine tt_get C hok jk_2 7 (by decide) jw_1a34255153 (t := (0, 0, 6)) hk1 (by decide) rfl rfl dX1_takeIn_71 (fun v_6 hv_6 hf_7 => ?_)
      obtain ⟨x_8, rfl, lx_8, ux_8⟩ := tt_vi hv_6
      refine jj_bipush (v := 6) C dX1_takeIn_74 (by decide) ?_
      refine jj_icmp_lt (tgt := 81) C dX1_takeIn_76 (by decide) (fun c_9 => ?_) (fun c_9 => ?_)
      · have z_c_9 := jc_lt (a := (x_8).toInt) (b := (6)) c_9 rfl (by decide)
        refine jj_aload_n C dX1_takeIn_81 rfl ?_
        refine tt_get C hok jk_7 3 (by decide) jw_1a2f98b2b0 (t := (1, (-9223372036854775808), 9223372036854775807)) hk2 (by decide) rfl rfl dX1_takeIn_82 (fun v_10 hv_10 hf_11 => ?_)
        obtain ⟨y_12, rfl, -, -⟩ := tt_vj hv_10
        refine jj_ldc2 (v := 100000) C dX1_takeIn_85 jw_8b2b15bcdc ?_
        obtain ⟨y_13, ey_13⟩ : ∃ z : Int64, y_12 * (100000 : Int64) = z := ⟨_, rfl⟩
        refine jj_lmul (v := y_13) C dX1_takeIn_88 ey_13 ?_
        refine jj_lload C dX1_takeIn_89 rfl ?_
        obtain ⟨y_14, ey_14⟩ : ∃ z : Int64, y_13 / (1000000 : Int64) = z := ⟨_, rfl⟩
        refine jj_ldiv (v := y_14) C dX1_takeIn_91 (by decide) ey_14 ?_
        refine jj_lstore C dX1_takeIn_92 (by decide) rfl ?_
        refine jj_lload C dX1_takeIn_94 rfl ?_
        refine jj_lconst (v := 1) C dX1_takeIn_96 (by decide) ?_
        refine jj_lcmp_lt (tgt := 110) C dX1_takeIn_97 dX1_takeIn_98 (by decide) (fun c_15 => ?_) (fun c_15 => ?_)
        · refine jj_iconst (v := 0) C dX1_takeIn_110 (by decide) ?_
          exact jj_zret C rfl ⟨[], pl0, rfl, rfl, hok, hfr, hfa, (Or.inl rfl)⟩ dX1_takeIn_111 (jj_le rfl) (jj_le rfl)
        · refine jj_lload C dX1_takeIn_101 rfl ?_
          refine jj_ldc2 (v := 10000000) C dX1_takeIn_103 jw_c1baced628 ?_
          refine jj_lcmp_le (tgt := 112) C dX1_takeIn_106 dX1_takeIn_107 (by decide) (fun c_16 => ?_) (fun c_16 => ?_)
          · refine jj_iload C dX1_takeIn_112 rfl ?_
            refine jj_if_eqF (tgt := 124) C dX1_takeIn_114 (by decide) (by decide) ?_
            refine jj_aload_n C dX1_takeIn_117 rfl ?_
            obtain ⟨qc, gs, hqc⟩ := tt_recv (cx := []) hok hk1 (by decide) rfl
            refine tt_callV (rest := []) C (tc_X0_beginSeries_1 hl D cA ak h1 hk1 hok) [] [] rfl rfl (by decide) (by decide) (by decide) qc hqc rfl rfl jw_40082dbd80 jw_d38a131825 jw_91f7b54243 jw_7d25d4fd32 jw_89a78d52f3 jn_X0_beginSeries rfl (jj_le rfl) (jj_le rfl) (jj_le rfl) (jj_le rfl) (jj_le rfl) dX1_takeIn_118 rfl (fun _ _ _ hX => hX.elim) (fun rx pl_17 r O_20 => ?_)
            obtain ⟨rfl, hok_18, hr_19, hfa9, hR_22⟩ := O_20
            replace hf_3 := hr_19.at hk1 (by decide) (by decide) hf_3
            replace hf_11 := hr_19.at hk2 (by decide) (by decide) hf_11
            replace hfr := hfr.trans (hr_19.sub (by decide))
            replace hfa := hfa.trans (hfa9.sub (by decide))
            obtain ⟨a_25, ka_25, rfl⟩ := hR_22
            refine jj_goto (tgt := 130) C dX1_takeIn_121 (by decide) ?_
            refine jj_astore C dX1_takeIn_130 (by decide) rfl ?_
            refine jj_lload C dX1_takeIn_132 rfl ?_
            refine jj_aload C dX1_takeIn_134 rfl ?_
            refine tt_get C hok_18 jk_9 4 (by decide) jw_0a98b03de8 (t := (1, (-9223372036854775808), 9223372036854775807)) ka_25 (by decide) rfl rfl dX1_takeIn_136 (fun v_26 hv_26 hf_27 => ?_)
            obtain ⟨y_28, rfl, -, -⟩ := tt_vj hv_26
            refine jj_lload C dX1_takeIn_139 rfl ?_
            refine jj_aload_n C dX1_takeIn_141 rfl ?_
            refine tt_get C hok_18 jk_2 3 (by decide) jw_8322fbab96 (t := (0, (-2147483648), 2147483647)) hk1 (by decide) rfl rfl dX1_takeIn_142 (fun v_29 hv_29 hf_30 => ?_)
            obtain ⟨x_31, rfl, lx_31, ux_31⟩ := tt_vi hv_29
            refine tt_callS (rest := []) C (tc_X2_dueOn_2 hl D cA ak y_14 y_28 x_31 hok_18) [] [] rfl rfl (by decide) (by decide) (by decide) jw_2f594c34e3 jw_06dd566a56 jw_79af3f4029 jw_eebd9e2034 jn_X2_dueOn rfl (jj_le rfl) (jj_le rfl) (jj_le rfl) (jj_le rfl) (jj_le rfl) dX1_takeIn_145 rfl (fun _ _ _ hX => hX.elim) (fun rx pl_32 r O_35 => ?_)
            obtain ⟨rfl, hok_33, hr_34, hfa9, hR_37⟩ := O_35
            replace hf_3 := hr_34.at hk1 (by decide) (by decide) hf_3
            replace hf_11 := hr_34.at hk2 (by decide) (by decide) hf_11
            replace hf_27 := hr_34.at ka_25 (by decide) (by decide) hf_27
            replace hf_30 := hr_34.at hk1 (by decide) (by decide) hf_30
            replace hfr := hfr.trans (hr_34.sub (by decide))
            replace hfa := hfa.trans (hfa9.sub (by decide))
            rcases hR_37 with rfl | ⟨y_40, rfl⟩
            · refine jj_lstore C dX1_takeIn_148 (by decide) rfl ?_
              refine jj_aload_n C dX1_takeIn_150 rfl ?_
              refine jj_aload_n C dX1_takeIn_151 rfl ?_
              refine tt_get C hok_33 jk_7 0 (by decide) jw_ca00009e69 (t := (0, (-2147483648), 2147483647)) hk2 (by decide) rfl rfl dX1_takeIn_152 (fun v_41 hv_41 hf_42 => ?_)
              obtain ⟨x_43, rfl, lx_43, ux_43⟩ := tt_vi hv_41
              refine jj_aload C dX1_takeIn_155 rfl ?_
              refine tt_get C hok_33 jk_9 0 (by decide) jw_e7cfa07cc9 (t := (0, (-2147483648), 2147483647)) ka_25 (by decide) rfl rfl dX1_takeIn_157 (fun v_44 hv_44 hf_45 => ?_)
              obtain ⟨x_46, rfl, lx_46, ux_46⟩ := tt_vi hv_44
              refine jj_lload C dX1_takeIn_160 rfl ?_
              refine jj_lload C dX1_takeIn_162 rfl ?_
              refine jj_lload C dX1_takeIn_164 rfl ?_
              obtain ⟨qc, gs, hqc⟩ := tt_recv (cx := []) hok_33 hk1 (by decide) rfl
              refine tt_callV (rest := []) C (tc_X0_addLot_1 hl D cA ak h1 x_43 x_46 y_14 hk1 hok_33) [] [] rfl rfl (by decide) (by decide) (by decide) qc hqc rfl rfl jw_336fd576a9 jw_c1ec506c02 jw_0fb782f899 jw_7d25d4fd32 jw_a7bf4567f9 jn_X0_addLot rfl (jj_le rfl) (jj_le rfl) (jj_le rfl) (jj_le rfl) (jj_le rfl) dX1_takeIn_166 rfl (fun _ _ _ hX => hX.elim) (fun rx pl_47 r O_50 => ?_)
              obtain ⟨rfl, hok_48, hr_49, hfa9, hR_52⟩ := O_50
              replace hf_11 := hr_49.at hk2 (by decide) (by decide) hf_11
              replace hf_27 := hr_49.at ka_25 (by decide) (by decide) hf_27
              replace hf_30 := hr_49.at hk1 (by decide) (by decide) hf_30
              replace hf_42 := hr_49.at hk2 (by decide) (by decide) hf_42
              replace hf_45 := hr_49.at ka_25 (by decide) (by decide) hf_45
              replace hfr := hfr.trans (hr_49.sub (by decide))
              replace hfa := hfa.trans (hfa9.sub (by decide))
              obtain ⟨a_55, ka_55, rfl⟩ := hR_52
              refine jj_pop C dX1_takeIn_169 rfl ?_
              refine jj_aload C dX1_takeIn_170 rfl ?_
              refine jj_dup C dX1_takeIn_172 rfl ?_
              refine tt_get C hok_48 jk_9 2 (by decide) jw_a25c79ea7a (t := (1, (-9223372036854775808), 9223372036854775807)) ka_25 (by decide) rfl rfl dX1_takeIn_173 (fun v_56 hv_56 hf_57 => ?_)
              obtain ⟨y_58, rfl, -, -⟩ := tt_vj hv_56
              refine jj_aload_n C dX1_takeIn_176 rfl ?_
              refine tt_getF C hok_48 jk_7 3 (by decide) jw_1a2f98b2b0 (t := (1, (-9223372036854775808), 9223372036854775807)) hk2 (by decide) rfl rfl hf_11 dX1_takeIn_177 ?_
              obtain ⟨y_59, ey_59⟩ : ∃ z : Int64, y_58 + y_12 = z := ⟨_, rfl⟩
              refine jj_ladd (v := y_59) C dX1_takeIn_180 ey_59 ?_
              refine rl_put C hok_48 jk_9 2 (by decide) jw_a25c79ea7a (t := (1, (-9223372036854775808), 9223372036854775807)) ka_25 (by decide) rfl rfl rfl (tt_ja y_59) rfl rfl dX1_takeIn_181 (fun pl_60 hok_61 tr hn tl => ?_)
              replace hf_11 := tr _ _ _ (Or.inl (tt_ne hk2 ka_25 (by decide))) hf_11
              replace hf_27 := tr _ _ _ (Or.inr (by decide)) hf_27
              replace hf_30 := tr _ _ _ (Or.inl (tt_ne hk1 ka_25 (by decide))) hf_30
              replace hf_42 := tr _ _ _ (Or.inl (tt_ne hk2 ka_25 (by decide))) hf_42
              replace hf_45 := tr _ _ _ (Or.inr (by decide)) hf_45
              have hf_62 := hn
              replace hfr := hfr.put ka_25 tr (by decide)
              replace hfa := hfa.all tl
              refine jj_aload C dX1_takeIn_184 rfl ?_
              refine jj_dup C dX1_takeIn_186 rfl ?_
              refine tt_get C hok_61 jk_9 3 (by decide) jw_df3b225d28 (t := (1, (-9223372036854775808), 9223372036854775807)) ka_25 (by decide) rfl rfl dX1_takeIn_187 (fun v_63 hv_63 hf_64 => ?_)
              obtain ⟨y_65, rfl, -, -⟩ := tt_vj hv_63
              refine jj_lload C dX1_takeIn_190 rfl ?_
              obtain ⟨y_66, ey_66⟩ : ∃ z : Int64, y_65 + y_14 = z := ⟨_, rfl⟩
              refine jj_ladd (v := y_66) C dX1_takeIn_192 ey_66 ?_
              refine rl_put C hok_61 jk_9 3 (by decide) jw_df3b225d28 (t := (1, (-9223372036854775808), 9223372036854775807)) ka_25 (by decide) rfl rfl rfl (tt_ja y_66) rfl rfl dX1_takeIn_193 (fun pl_67 hok_68 tr hn tl => ?_)
              replace hf_11 := tr _ _ _ (Or.inl (tt_ne hk2 ka_25 (by decide))) hf_11
              replace hf_27 := tr _ _ _ (Or.inr (by decide)) hf_27
              replace hf_30 := tr _ _ _ (Or.inl (tt_ne hk1 ka_25 (by decide))) hf_30
              replace hf_42 := tr _ _ _ (Or.inl (tt_ne hk2 ka_25 (by decide))) hf_42
              replace hf_45 := tr _ _ _ (Or.inr (by decide)) hf_45
              replace hf_62 := tr _ _ _ (Or.inr (by decide)) hf_62
              have hf_69 := hn
              replace hfr := hfr.put ka_25 tr (by decide)
              replace hfa := hfa.all tl
              refine jj_aload_n C dX1_takeIn_196 rfl ?_
              refine tt_get C hok_68 jk_2 10 (by decide) jw_489e37c5a2 (t := (2, 5, 0)) hk1 (by decide) rfl rfl dX1_takeIn_197 (fun v_70 hv_70 hf_71 => ?_)
              obtain ⟨a_72, rfl, ka_72⟩ := tt_vr hv_70
              refine jj_iconst (v := 2) C dX1_takeIn_200 (by decide) ?_
              refine jj_dup2 C dX1_takeIn_201 rfl rfl ?_
              refine tt_lald C hok_68 (t := (1, (-9223372036854775808), 9223372036854775807)) ka_72 (by decide) rfl (vp_in_iff.mpr (by decide)) dX1_takeIn_202 (fun v_73 hv_73 => ?_)
              refine jj_aload_n C dX1_takeIn_203 rfl ?_
              refine tt_getF C hok_68 jk_7 3 (by decide) jw_1a2f98b2b0 (t := (1, (-9223372036854775808), 9223372036854775807)) hk2 (by decide) rfl rfl hf_11 dX1_takeIn_204 ?_
              obtain ⟨y_74, ey_74⟩ : ∃ z : Int64, v_73 + y_12 = z := ⟨_, rfl⟩
              refine jj_ladd (v := y_74) C dX1_takeIn_207 ey_74 ?_
              refine tl_last C hok_68 (t := (1, (-9223372036854775808), 9223372036854775807)) ka_72 (by decide) rfl (vp_in_iff.mpr (by decide)) (tt_ja _) dX1_takeIn_208 (fun pl_75 hok_76 tr tl => ?_)
              replace hf_11 := tr _ _ _ hf_11
              replace hf_27 := tr _ _ _ hf_27
              replace hf_30 := tr _ _ _ hf_30
              replace hf_42 := tr _ _ _ hf_42
              replace hf_45 := tr _ _ _ hf_45
              replace hf_62 := tr _ _ _ hf_62
              replace hf_69 := tr _ _ _ hf_69
              replace hf_71 := tr _ _ _ hf_71
              replace hfr := hfr.arr tr
              replace hfa := hfa.wr ka_72 tl (by decide)
              refine jj_iconst (v := 1) C dX1_takeIn_209 (by decide) ?_
              exact jj_zret C rfl ⟨[], pl_75, rfl, rfl, hok_76, hfr, hfa, (Or.inr rfl)⟩ dX1_takeIn_210 (jj_le rfl) (jj_le rfl)
            · refine jj_lstore C dX1_takeIn_148 (by decide) rfl ?_
              refine jj_aload_n C dX1_takeIn_150 rfl ?_
              refine jj_aload_n C dX1_takeIn_151 rfl ?_
              refine tt_get C hok_33 jk_7 0 (by decide) jw_ca00009e69 (t := (0, (-2147483648), 2147483647)) hk2 (by decide) rfl rfl dX1_takeIn_152 (fun v_77 hv_77 hf_78 => ?_)
              obtain ⟨x_79, rfl, lx_79, ux_79⟩ := tt_vi hv_77
              refine jj_aload C dX1_takeIn_155 rfl ?_
              refine tt_get C hok_33 jk_9 0 (by decide) jw_e7cfa07cc9 (t := (0, (-2147483648), 2147483647)) ka_25 (by decide) rfl rfl dX1_takeIn_157 (fun v_80 hv_80 hf_81 => ?_)
              obtain ⟨x_82, rfl, lx_82, ux_82⟩ := tt_vi hv_80
              refine jj_lload C dX1_takeIn_160 rfl ?_
              refine jj_lload C dX1_takeIn_162 rfl ?_
              refine jj_lload C dX1_takeIn_164 rfl ?_
              obtain ⟨qc, gs, hqc⟩ := tt_recv (cx := []) hok_33 hk1 (by decide) rfl
              refine tt_callV (rest := []) C (tc_X0_addLot_2 hl D cA ak h1 x_79 x_82 y_14 y_40 hk1 hok_33) [] [] rfl rfl (by decide) (by decide) (by decide) qc hqc rfl rfl jw_336fd576a9 jw_c1ec506c02 jw_0fb782f899 jw_7d25d4fd32 jw_a7bf4567f9 jn_X0_addLot rfl (jj_le rfl) (jj_le rfl) (jj_le rfl) (jj_le rfl) (jj_le rfl) dX1_takeIn_166 rfl (fun _ _ _ hX => hX.elim) (fun rx pl_83 r O_86 => ?_)
              obtain ⟨rfl, hok_84, hr_85, hfa9, hR_88⟩ := O_86
              replace hf_11 := hr_85.at hk2 (by decide) (by decide) hf_11
              replace hf_27 := hr_85.at ka_25 (by decide) (by decide) hf_27
              replace hf_30 := hr_85.at hk1 (by decide) (by decide) hf_30
              replace hf_78 := hr_85.at hk2 (by decide) (by decide) hf_78
              replace hf_81 := hr_85.at ka_25 (by decide) (by decide) hf_81
              replace hfr := hfr.trans (hr_85.sub (by decide))
              replace hfa := hfa.trans (hfa9.sub (by decide))
              obtain ⟨a_91, ka_91, rfl⟩ := hR_88
              refine jj_pop C dX1_takeIn_169 rfl ?_
              refine jj_aload C dX1_takeIn_170 rfl ?_
              refine jj_dup C dX1_takeIn_172 rfl ?_
              refine tt_get C hok_84 jk_9 2 (by decide) jw_a25c79ea7a (t := (1, (-9223372036854775808), 9223372036854775807)) ka_25 (by decide) rfl rfl dX1_takeIn_173 (fun v_92 hv_92 hf_93 => ?_)
              obtain ⟨y_94, rfl, -, -⟩ := tt_vj hv_92
              refine jj_aload_n C dX1_takeIn_176 rfl ?_
              refine tt_getF C hok_84 jk_7 3 (by decide) jw_1a2f98b2b0 (t := (1, (-9223372036854775808), 9223372036854775807)) hk2 (by decide) rfl rfl hf_11 dX1_takeIn_177 ?_
              obtain ⟨y_95, ey_95⟩ : ∃ z : Int64, y_94 + y_12 = z := ⟨_, rfl⟩
              refine jj_ladd (v := y_95) C dX1_takeIn_180 ey_95 ?_
              refine rl_put C hok_84 jk_9 2 (by decide) jw_a25c79ea7a (t := (1, (-9223372036854775808), 9223372036854775807)) ka_25 (by decide) rfl rfl rfl (tt_ja y_95) rfl rfl dX1_takeIn_181 (fun pl_96 hok_97 tr hn tl => ?_)
              replace hf_11 := tr _ _ _ (Or.inl (tt_ne hk2 ka_25 (by decide))) hf_11
              replace hf_27 := tr _ _ _ (Or.inr (by decide)) hf_27
              replace hf_30 := tr _ _ _ (Or.inl (tt_ne hk1 ka_25 (by decide))) hf_30
              replace hf_78 := tr _ _ _ (Or.inl (tt_ne hk2 ka_25 (by decide))) hf_78
              replace hf_81 := tr _ _ _ (Or.inr (by decide)) hf_81
              have hf_98 := hn
              replace hfr := hfr.put ka_25 tr (by decide)
              replace hfa := hfa.all tl
              refine jj_aload C dX1_takeIn_184 rfl ?_
              refine jj_dup C dX1_takeIn_186 rfl ?_
              refine tt_get C hok_97 jk_9 3 (by decide) jw_df3b225d28 (t := (1, (-9223372036854775808), 9223372036854775807)) ka_25 (by decide) rfl rfl dX1_takeIn_187 (fun v_99 hv_99 hf_100 => ?_)
              obtain ⟨y_101, rfl, -, -⟩ := tt_vj hv_99
              refine jj_lload C dX1_takeIn_190 rfl ?_
              obtain ⟨y_102, ey_102⟩ : ∃ z : Int64, y_101 + y_14 = z := ⟨_, rfl⟩
              refine jj_ladd (v := y_102) C dX1_takeIn_192 ey_102 ?_
              refine rl_put C hok_97 jk_9 3 (by decide) jw_df3b225d28 (t := (1, (-9223372036854775808), 9223372036854775807)) ka_25 (by decide) rfl rfl rfl (tt_ja y_102) rfl rfl dX1_takeIn_193 (fun pl_103 hok_104 tr hn tl => ?_)
              replace hf_11 := tr _ _ _ (Or.inl (tt_ne hk2 ka_25 (by decide))) hf_11
              replace hf_27 := tr _ _ _ (Or.inr (by decide)) hf_27
              replace hf_30 := tr _ _ _ (Or.inl (tt_ne hk1 ka_25 (by decide))) hf_30
              replace hf_78 := tr _ _ _ (Or.inl (tt_ne hk2 ka_25 (by decide))) hf_78
              replace hf_81 := tr _ _ _ (Or.inr (by decide)) hf_81
              replace hf_98 := tr _ _ _ (Or.inr (by decide)) hf_98
              have hf_105 := hn
              replace hfr := hfr.put ka_25 tr (by decide)
              replace hfa := hfa.all tl
              refine jj_aload_n C dX1_takeIn_196 rfl ?_
              refine tt_get C hok_104 jk_2 10 (by decide) jw_489e37c5a2 (t := (2, 5, 0)) hk1 (by decide) rfl rfl dX1_takeIn_197 (fun v_106 hv_106 hf_107 => ?_)
              obtain ⟨a_108, rfl, ka_108⟩ := tt_vr hv_106
              refine jj_iconst (v := 2) C dX1_takeIn_200 (by decide) ?_
              refine jj_dup2 C dX1_takeIn_201 rfl rfl ?_
              refine tt_lald C hok_104 (t := (1, (-9223372036854775808), 9223372036854775807)) ka_108 (by decide) rfl (vp_in_iff.mpr (by decide)) dX1_takeIn_202 (fun v_109 hv_109 => ?_)
              refine jj_aload_n C dX1_takeIn_203 rfl ?_
              refine tt_getF C hok_104 jk_7 3 (by decide) jw_1a2f98b2b0 (t := (1, (-9223372036854775808), 9223372036854775807)) hk2 (by decide) rfl rfl hf_11 dX1_takeIn_204 ?_
              obtain ⟨y_110, ey_110⟩ : ∃ z : Int64, v_109 + y_12 = z := ⟨_, rfl⟩
              refine jj_ladd (v := y_110) C dX1_takeIn_207 ey_110 ?_
              refine tl_last C hok_104 (t := (1, (-9223372036854775808), 9223372036854775807)) ka_108 (by decide) rfl (vp_in_iff.mpr (by decide)) (tt_ja _) dX1_takeIn_208 (fun pl_111 hok_112 tr tl => ?_)
              replace hf_11 := tr _ _ _ hf_11
              replace hf_27 := tr _ _ _ hf_27
              replace hf_30 := tr _ _ _ hf_30
              replace hf_78 := tr _ _ _ hf_78
              replace hf_81 := tr _ _ _ hf_81
              replace hf_98 := tr _ _ _ hf_98
              replace hf_105 := tr _ _ _ hf_105
              replace hf_107 := tr _ _ _ hf_107
              replace hfr := hfr.arr tr
              replace hfa := hfa.wr ka_108 tl (by decide)
              refine jj_iconst (v := 1) C dX1_takeIn_209 (by decide) ?_
              exact jj_zret C rfl ⟨[], pl_111, rfl, rfl, hok_112, hfr, hfa, (Or.inr rfl)⟩ dX1_takeIn_210 (jj_le rfl) (jj_le rfl)
          · refine jj_iconst (v := 0) C dX1_takeIn_110 (by decide) ?_
            exact jj_zret C rfl ⟨[], pl0, rfl, rfl, hok, hfr, hfa, (Or.inl rfl)⟩ dX1_takeIn_111 (jj_le rfl) (jj_le rfl)
      · have z_c_9 := jc_nlt (a := (x_8).toInt) (b := (6)) c_9 rfl (by decide)
        refine jj_iconst (v := 0) C dX1_takeIn_79 (by decide) ?_
        exact jj_zret C rfl ⟨[], pl0, rfl, rfl, hok, hfr, hfa, (Or.inl rfl)⟩ dX1_takeIn_80 (jj_le rfl) (jj_le rfl)
  · have z_c_1 := jc_nlt (a := (p3).toInt) (b := (0)) c_1 rfl (by decide)
    refine jj_iload_n C dX1_takeIn_4 rfl ?_
    refine jj_aload_n C dX1_takeIn_5 rfl ?_
    refine tt_get C hok jk_2 7 (by decide) jw_1a34255153 (t := (0, 0, 6)) hk1 (by decide) rfl rfl dX1_takeIn_6 (fun v_113 hv_113 hf_114 => ?_)
    obtain ⟨x_115, rfl, lx_115, ux_115⟩ := tt_vi hv_113
    refine jj_icmp_lt (tgt := 16) C dX1_takeIn_9 (by decide) (fun c_116 => ?_) (fun c_116 => ?_)
    · have z_c_116 := jc_lt (a := (p3).toInt) (b := (x_115).toInt) c_116 rfl rfl
      refine jj_iconst (v := 0) C dX1_takeIn_16 (by decide) ?_
      refine jj_istore C dX1_takeIn_17 (by decide) rfl ?_
      refine jj_iload C dX1_takeIn_19 rfl ?_
      refine jj_if_neF (tgt := 32) C dX1_takeIn_21 (by decide) (by decide) ?_
      refine jj_aload_n C dX1_takeIn_24 rfl ?_
      refine tt_get C hok jk_2 1 (by decide) jw_23f70347f5 (t := (0, (-2147483648), 2147483647)) hk1 (by decide) rfl rfl dX1_takeIn_25 (fun v_117 hv_117 hf_118 => ?_)
      obtain ⟨x_119, rfl, lx_119, ux_119⟩ := tt_vi hv_117
      refine jj_iconst (v := 1) C dX1_takeIn_28 (by decide) ?_
      refine jj_icmp_eq (tgt := 38) C dX1_takeIn_29 (by decide) (fun c_120 => ?_) (fun c_120 => ?_)
      · have z_c_120 := jc_eq (a := (x_119).toInt) (b := (1)) c_120 rfl (by decide)
        refine jj_aload_n C dX1_takeIn_38 rfl ?_
        refine tt_get C hok jk_2 11 (by decide) jw_56984fd307 (t := (2, 6, 0)) hk1 (by decide) rfl rfl dX1_takeIn_39 (fun v_121 hv_121 hf_122 => ?_)
        obtain ⟨a_123, rfl, ka_123⟩ := tt_vr hv_121
        refine jj_iload_n C dX1_takeIn_42 rfl ?_
        refine tt_aald C hok (t := (2, 2, 0)) ka_123 (by decide) rfl rfl rfl (vp_in_iff.mpr ⟨by omega, by omega⟩) dX1_takeIn_43 (fun v_124 hv_124 => ?_)
        obtain ⟨a_125, rfl, ka_125⟩ := tt_vr hv_124
        obtain ⟨qc, gs, hqc⟩ := tt_recv (cx := []) hok ka_125 (by decide) rfl
        refine tt_callV (rest := []) C (tc_X8_grossPrice_1 hl D cA ak a_125 ka_125 hok) [] [] rfl rfl (by decide) (by decide) (by decide) qc hqc rfl rfl jw_7a88110815 jw_8d67ffd46e jw_4ae9f31643 jw_364e75910d jw_11bb953c63 jn_X8_grossPrice rfl (jj_le rfl) (jj_le rfl) (jj_le rfl) (jj_le rfl) (jj_le rfl) dX1_takeIn_44 rfl (fun _ _ _ hX => hX.elim) (fun rx pl_126 r O_129 => ?_)
        obtain ⟨rfl, hok_127, hr_128, hfa9, hR_131⟩ := O_129
        replace hf_114 := hr_128.at hk1 (by decide) (by decide) hf_114
        replace hf_118 := hr_128.at hk1 (by decide) (by decide) hf_118
        replace hf_122 := hr_128.at hk1 (by decide) (by decide) hf_122
        replace hfr := hfr.trans (hr_128.sub (by decide))
        replace hfa := hfa.trans (hfa9.sub (by decide))
        rcases hR_131 with rfl | ⟨y_134, rfl⟩
        · refine jj_lstore C dX1_takeIn_47 (by decide) rfl ?_
          refine jj_lload C dX1_takeIn_49 rfl ?_
          refine jj_lconst (v := 0) C dX1_takeIn_51 (by decide) ?_
          refine jj_lcmp_leF (tgt := 79) C dX1_takeIn_52 dX1_takeIn_53 (by decide) (by decide) ?_
          refine jj_aload_n C dX1_takeIn_56 rfl ?_
          refine tt_get C hok_127 jk_2 8 (by decide) jw_eaf43346a8 (t := (0, 0, 40)) hk1 (by decide) rfl rfl dX1_takeIn_57 (fun v_135 hv_135 hf_136 => ?_)
          obtain ⟨x_137, rfl, lx_137, ux_137⟩ := tt_vi hv_135
          refine jj_bipush (v := 40) C dX1_takeIn_60 (by decide) ?_
          refine jj_icmp_ge (tgt := 79) C dX1_takeIn_62 (by decide) (fun c_138 => ?_) (fun c_138 => ?_)
          · have z_c_138 := jc_le (a := (40)) (b := (x_137).toInt) c_138 (by decide) rfl
            refine jj_iconst (v := 0) C dX1_takeIn_79 (by decide) ?_
            exact jj_zret C rfl ⟨[], pl_126, rfl, rfl, hok_127, hfr, hfa, (Or.inl rfl)⟩ dX1_takeIn_80 (jj_le rfl) (jj_le rfl)
          · have z_c_138 := jc_nle (a := (40)) (b := (x_137).toInt) c_138 (by decide) rfl
            refine jj_iload C dX1_takeIn_65 rfl ?_
            refine jj_if_eqT (tgt := 81) C dX1_takeIn_67 (by decide) (by decide) ?_
            refine jj_aload_n C dX1_takeIn_81 rfl ?_
            refine tt_get C hok_127 jk_7 3 (by decide) jw_1a2f98b2b0 (t := (1, (-9223372036854775808), 9223372036854775807)) hk2 (by decide) rfl rfl dX1_takeIn_82 (fun v_139 hv_139 hf_140 => ?_)
            obtain ⟨y_141, rfl, -, -⟩ := tt_vj hv_139
            refine jj_ldc2 (v := 100000) C dX1_takeIn_85 jw_8b2b15bcdc ?_
            obtain ⟨y_142, ey_142⟩ : ∃ z : Int64, y_141 * (100000 : Int64) = z := ⟨_, rfl⟩
            refine jj_lmul (v := y_142) C dX1_takeIn_88 ey_142 ?_
            refine jj_lload C dX1_takeIn_89 rfl ?_
            obtain ⟨y_143, ey_143⟩ : ∃ z : Int64, y_142 / (1000000 : Int64) = z := ⟨_, rfl⟩
            refine jj_ldiv (v := y_143) C dX1_takeIn_91 (by decide) ey_143 ?_
            refine jj_lstore C dX1_takeIn_92 (by decide) rfl ?_
            refine jj_lload C dX1_takeIn_94 rfl ?_
            refine jj_lconst (v := 1) C dX1_takeIn_96 (by decide) ?_
            refine jj_lcmp_lt (tgt := 110) C dX1_takeIn_97 dX1_takeIn_98 (by decide) (fun c_144 => ?_) (fun c_144 => ?_)
            · refine jj_iconst (v := 0) C dX1_takeIn_110 (by decide) ?_
              exact jj_zret C rfl ⟨[], pl_126, rfl, rfl, hok_127, hfr, hfa, (Or.inl rfl)⟩ dX1_takeIn_111 (jj_le rfl) (jj_le rfl)
            · refine jj_lload C dX1_takeIn_101 rfl ?_
              refine jj_ldc2 (v := 10000000) C dX1_takeIn_103 jw_c1baced628 ?_
              refine jj_lcmp_le (tgt := 112) C dX1_takeIn_106 dX1_takeIn_107 (by decide) (fun c_145 => ?_) (fun c_145 => ?_)
              · refine jj_iload C dX1_takeIn_112 rfl ?_
                refine jj_if_eqT (tgt := 124) C dX1_takeIn_114 (by decide) (by decide) ?_
                refine jj_aload_n C dX1_takeIn_124 rfl ?_
                refine tt_getF C hok_127 jk_2 11 (by decide) jw_56984fd307 (t := (2, 6, 0)) hk1 (by decide) rfl rfl hf_122 dX1_takeIn_125 ?_
                refine jj_iload_n C dX1_takeIn_128 rfl ?_
                refine tt_aald C hok_127 (t := (2, 2, 0)) ka_123 (by decide) rfl rfl rfl (vp_in_iff.mpr ⟨by omega, by omega⟩) dX1_takeIn_129 (fun v_146 hv_146 => ?_)
                obtain ⟨a_147, rfl, ka_147⟩ := tt_vr hv_146
                refine jj_astore C dX1_takeIn_130 (by decide) rfl ?_
                refine jj_lload C dX1_takeIn_132 rfl ?_
                refine jj_aload C dX1_takeIn_134 rfl ?_
                refine tt_get C hok_127 jk_9 4 (by decide) jw_0a98b03de8 (t := (1, (-9223372036854775808), 9223372036854775807)) ka_147 (by decide) rfl rfl dX1_takeIn_136 (fun v_148 hv_148 hf_149 => ?_)
                obtain ⟨y_150, rfl, -, -⟩ := tt_vj hv_148
                refine jj_lload C dX1_takeIn_139 rfl ?_
                refine jj_aload_n C dX1_takeIn_141 rfl ?_
                refine tt_get C hok_127 jk_2 3 (by decide) jw_8322fbab96 (t := (0, (-2147483648), 2147483647)) hk1 (by decide) rfl rfl dX1_takeIn_142 (fun v_151 hv_151 hf_152 => ?_)
                obtain ⟨x_153, rfl, lx_153, ux_153⟩ := tt_vi hv_151
                refine tt_callS (rest := []) C (tc_X2_dueOn_2 hl D cA ak y_143 y_150 x_153 hok_127) [] [] rfl rfl (by decide) (by decide) (by decide) jw_2f594c34e3 jw_06dd566a56 jw_79af3f4029 jw_eebd9e2034 jn_X2_dueOn rfl (jj_le rfl) (jj_le rfl) (jj_le rfl) (jj_le rfl) (jj_le rfl) dX1_takeIn_145 rfl (fun _ _ _ hX => hX.elim) (fun rx pl_154 r O_157 => ?_)
                obtain ⟨rfl, hok_155, hr_156, hfa9, hR_159⟩ := O_157
                replace hf_114 := hr_156.at hk1 (by decide) (by decide) hf_114
                replace hf_118 := hr_156.at hk1 (by decide) (by decide) hf_118
                replace hf_122 := hr_156.at hk1 (by decide) (by decide) hf_122
                replace hf_136 := hr_156.at hk1 (by decide) (by decide) hf_136
                replace hf_140 := hr_156.at hk2 (by decide) (by decide) hf_140
                replace hf_149 := hr_156.at ka_147 (by decide) (by decide) hf_149
                replace hf_152 := hr_156.at hk1 (by decide) (by decide) hf_152
                replace hfr := hfr.trans (hr_156.sub (by decide))
                replace hfa := hfa.trans (hfa9.sub (by decide))
                rcases hR_159 with rfl | ⟨y_162, rfl⟩
                · refine jj_lstore C dX1_takeIn_148 (by decide) rfl ?_
                  refine jj_aload_n C dX1_takeIn_150 rfl ?_
                  refine jj_aload_n C dX1_takeIn_151 rfl ?_
                  refine tt_get C hok_155 jk_7 0 (by decide) jw_ca00009e69 (t := (0, (-2147483648), 2147483647)) hk2 (by decide) rfl rfl dX1_takeIn_152 (fun v_163 hv_163 hf_164 => ?_)
                  obtain ⟨x_165, rfl, lx_165, ux_165⟩ := tt_vi hv_163
                  refine jj_aload C dX1_takeIn_155 rfl ?_
                  refine tt_get C hok_155 jk_9 0 (by decide) jw_e7cfa07cc9 (t := (0, (-2147483648), 2147483647)) ka_147 (by decide) rfl rfl dX1_takeIn_157 (fun v_166 hv_166 hf_167 => ?_)
                  obtain ⟨x_168, rfl, lx_168, ux_168⟩ := tt_vi hv_166
                  refine jj_lload C dX1_takeIn_160 rfl ?_
                  refine jj_lload C dX1_takeIn_162 rfl ?_
                  refine jj_lload C dX1_takeIn_164 rfl ?_
                  obtain ⟨qc, gs, hqc⟩ := tt_recv (cx := []) hok_155 hk1 (by decide) rfl
                  refine tt_callV (rest := []) C (tc_X0_addLot_1 hl D cA ak h1 x_165 x_168 y_143 hk1 hok_155) [] [] rfl rfl (by decide) (by decide) (by decide) qc hqc rfl rfl jw_336fd576a9 jw_c1ec506c02 jw_0fb782f899 jw_7d25d4fd32 jw_a7bf4567f9 jn_X0_addLot rfl (jj_le rfl) (jj_le rfl) (jj_le rfl) (jj_le rfl) (jj_le rfl) dX1_takeIn_166 rfl (fun _ _ _ hX => hX.elim) (fun rx pl_169 r O_172 => ?_)
                  obtain ⟨rfl, hok_170, hr_171, hfa9, hR_174⟩ := O_172
                  replace hf_114 := hr_171.at hk1 (by decide) (by decide) hf_114
                  replace hf_118 := hr_171.at hk1 (by decide) (by decide) hf_118
                  replace hf_122 := hr_171.at hk1 (by decide) (by decide) hf_122
                  replace hf_140 := hr_171.at hk2 (by decide) (by decide) hf_140
                  replace hf_149 := hr_171.at ka_147 (by decide) (by decide) hf_149
                  replace hf_152 := hr_171.at hk1 (by decide) (by decide) hf_152
                  replace hf_164 := hr_171.at hk2 (by decide) (by decide) hf_164
                  replace hf_167 := hr_171.at ka_147 (by decide) (by decide) hf_167
                  replace hfr := hfr.trans (hr_171.sub (by decide))
                  replace hfa := hfa.trans (hfa9.sub (by decide))
                  obtain ⟨a_177, ka_177, rfl⟩ := hR_174
                  refine jj_pop C dX1_takeIn_169 rfl ?_
                  refine jj_aload C dX1_takeIn_170 rfl ?_
                  refine jj_dup C dX1_takeIn_172 rfl ?_
                  refine tt_get C hok_170 jk_9 2 (by decide) jw_a25c79ea7a (t := (1, (-9223372036854775808), 9223372036854775807)) ka_147 (by decide) rfl rfl dX1_takeIn_173 (fun v_178 hv_178 hf_179 => ?_)
                  obtain ⟨y_180, rfl, -, -⟩ := tt_vj hv_178
                  refine jj_aload_n C dX1_takeIn_176 rfl ?_
                  refine tt_getF C hok_170 jk_7 3 (by decide) jw_1a2f98b2b0 (t := (1, (-9223372036854775808), 9223372036854775807)) hk2 (by decide) rfl rfl hf_140 dX1_takeIn_177 ?_
                  obtain ⟨y_181, ey_181⟩ : ∃ z : Int64, y_180 + y_141 = z := ⟨_, rfl⟩
                  refine jj_ladd (v := y_181) C dX1_takeIn_180 ey_181 ?_
                  refine rl_put C hok_170 jk_9 2 (by decide) jw_a25c79ea7a (t := (1, (-9223372036854775808), 9223372036854775807)) ka_147 (by decide) rfl rfl rfl (tt_ja y_181) rfl rfl dX1_takeIn_181 (fun pl_182 hok_183 tr hn tl => ?_)
                  replace hf_114 := tr _ _ _ (Or.inl (tt_ne hk1 ka_147 (by decide))) hf_114
                  replace hf_118 := tr _ _ _ (Or.inl (tt_ne hk1 ka_147 (by decide))) hf_118
                  replace hf_122 := tr _ _ _ (Or.inl (tt_ne hk1 ka_147 (by decide))) hf_122
                  replace hf_140 := tr _ _ _ (Or.inl (tt_ne hk2 ka_147 (by decide))) hf_140
                  replace hf_149 := tr _ _ _ (Or.inr (by decide)) hf_149
                  replace hf_152 := tr _ _ _ (Or.inl (tt_ne hk1 ka_147 (by decide))) hf_152
                  replace hf_164 := tr _ _ _ (Or.inl (tt_ne hk2 ka_147 (by decide))) hf_164
                  replace hf_167 := tr _ _ _ (Or.inr (by decide)) hf_167
                  have hf_184 := hn
                  replace hfr := hfr.put ka_147 tr (by decide)
                  replace hfa := hfa.all tl
                  refine jj_aload C dX1_takeIn_184 rfl ?_
                  refine jj_dup C dX1_takeIn_186 rfl ?_
                  refine tt_get C hok_183 jk_9 3 (by decide) jw_df3b225d28 (t := (1, (-9223372036854775808), 9223372036854775807)) ka_147 (by decide) rfl rfl dX1_takeIn_187 (fun v_185 hv_185 hf_186 => ?_)
                  obtain ⟨y_187, rfl, -, -⟩ := tt_vj hv_185
                  refine jj_lload C dX1_takeIn_190 rfl ?_
                  obtain ⟨y_188, ey_188⟩ : ∃ z : Int64, y_187 + y_143 = z := ⟨_, rfl⟩
                  refine jj_ladd (v := y_188) C dX1_takeIn_192 ey_188 ?_
                  refine rl_put C hok_183 jk_9 3 (by decide) jw_df3b225d28 (t := (1, (-9223372036854775808), 9223372036854775807)) ka_147 (by decide) rfl rfl rfl (tt_ja y_188) rfl rfl dX1_takeIn_193 (fun pl_189 hok_190 tr hn tl => ?_)
                  replace hf_114 := tr _ _ _ (Or.inl (tt_ne hk1 ka_147 (by decide))) hf_114
                  replace hf_118 := tr _ _ _ (Or.inl (tt_ne hk1 ka_147 (by decide))) hf_118
                  replace hf_122 := tr _ _ _ (Or.inl (tt_ne hk1 ka_147 (by decide))) hf_122
                  replace hf_140 := tr _ _ _ (Or.inl (tt_ne hk2 ka_147 (by decide))) hf_140
                  replace hf_149 := tr _ _ _ (Or.inr (by decide)) hf_149
                  replace hf_152 := tr _ _ _ (Or.inl (tt_ne hk1 ka_147 (by decide))) hf_152
                  replace hf_164 := tr _ _ _ (Or.inl (tt_ne hk2 ka_147 (by decide))) hf_164
                  replace hf_167 := tr _ _ _ (Or.inr (by decide)) hf_167
                  replace hf_184 := tr _ _ _ (Or.inr (by decide)) hf_184
                  have hf_191 := hn
                  replace hfr := hfr.put ka_147 tr (by decide)
                  replace hfa := hfa.all tl
                  refine jj_aload_n C dX1_takeIn_196 rfl ?_
                  refine tt_get C hok_190 jk_2 10 (by decide) jw_489e37c5a2 (t := (2, 5, 0)) hk1 (by decide) rfl rfl dX1_takeIn_197 (fun v_192 hv_192 hf_193 => ?_)
                  obtain ⟨a_194, rfl, ka_194⟩ := tt_vr hv_192
                  refine jj_iconst (v := 2) C dX1_takeIn_200 (by decide) ?_
                  refine jj_dup2 C dX1_takeIn_201 rfl rfl ?_
                  refine tt_lald C hok_190 (t := (1, (-9223372036854775808), 9223372036854775807)) ka_194 (by decide) rfl (vp_in_iff.mpr (by decide)) dX1_takeIn_202 (fun v_195 hv_195 => ?_)
                  refine jj_aload_n C dX1_takeIn_203 rfl ?_
                  refine tt_getF C hok_190 jk_7 3 (by decide) jw_1a2f98b2b0 (t := (1, (-9223372036854775808), 9223372036854775807)) hk2 (by decide) rfl rfl hf_140 dX1_takeIn_204 ?_
                  obtain ⟨y_196, ey_196⟩ : ∃ z : Int64, v_195 + y_141 = z := ⟨_, rfl⟩
                  refine jj_ladd (v := y_196) C dX1_takeIn_207 ey_196 ?_
                  refine tl_last C hok_190 (t := (1, (-9223372036854775808), 9223372036854775807)) ka_194 (by decide) rfl (vp_in_iff.mpr (by decide)) (tt_ja _) dX1_takeIn_208 (fun pl_197 hok_198 tr tl => ?_)
                  replace hf_114 := tr _ _ _ hf_114
                  replace hf_118 := tr _ _ _ hf_118
                  replace hf_122 := tr _ _ _ hf_122
                  replace hf_140 := tr _ _ _ hf_140
                  replace hf_149 := tr _ _ _ hf_149
                  replace hf_152 := tr _ _ _ hf_152
                  replace hf_164 := tr _ _ _ hf_164
                  replace hf_167 := tr _ _ _ hf_167
                  replace hf_184 := tr _ _ _ hf_184
                  replace hf_191 := tr _ _ _ hf_191
                  replace hf_193 := tr _ _ _ hf_193
                  replace hfr := hfr.arr tr
                  replace hfa := hfa.wr ka_194 tl (by decide)
                  refine jj_iconst (v := 1) C dX1_takeIn_209 (by decide) ?_
                  exact jj_zret C rfl ⟨[], pl_197, rfl, rfl, hok_198, hfr, hfa, (Or.inr rfl)⟩ dX1_takeIn_210 (jj_le rfl) (jj_le rfl)
                · refine jj_lstore C dX1_takeIn_148 (by decide) rfl ?_
                  refine jj_aload_n C dX1_takeIn_150 rfl ?_
                  refine jj_aload_n C dX1_takeIn_151 rfl ?_
                  refine tt_get C hok_155 jk_7 0 (by decide) jw_ca00009e69 (t := (0, (-2147483648), 2147483647)) hk2 (by decide) rfl rfl dX1_takeIn_152 (fun v_199 hv_199 hf_200 => ?_)
                  obtain ⟨x_201, rfl, lx_201, ux_201⟩ := tt_vi hv_199
                  refine jj_aload C dX1_takeIn_155 rfl ?_
                  refine tt_get C hok_155 jk_9 0 (by decide) jw_e7cfa07cc9 (t := (0, (-2147483648), 2147483647)) ka_147 (by decide) rfl rfl dX1_takeIn_157 (fun v_202 hv_202 hf_203 => ?_)
                  obtain ⟨x_204, rfl, lx_204, ux_204⟩ := tt_vi hv_202
                  refine jj_lload C dX1_takeIn_160 rfl ?_
                  refine jj_lload C dX1_takeIn_162 rfl ?_
                  refine jj_lload C dX1_takeIn_164 rfl ?_
                  obtain ⟨qc, gs, hqc⟩ := tt_recv (cx := []) hok_155 hk1 (by decide) rfl
                  refine tt_callV (rest := []) C (tc_X0_addLot_2 hl D cA ak h1 x_201 x_204 y_143 y_162 hk1 hok_155) [] [] rfl rfl (by decide) (by decide) (by decide) qc hqc rfl rfl jw_336fd576a9 jw_c1ec506c02 jw_0fb782f899 jw_7d25d4fd32 jw_a7bf4567f9 jn_X0_addLot rfl (jj_le rfl) (jj_le rfl) (jj_le rfl) (jj_le rfl) (jj_le rfl) dX1_takeIn_166 rfl (fun _ _ _ hX => hX.elim) (fun rx pl_205 r O_208 => ?_)
                  obtain ⟨rfl, hok_206, hr_207, hfa9, hR_210⟩ := O_208
                  replace hf_114 := hr_207.at hk1 (by decide) (by decide) hf_114
                  replace hf_118 := hr_207.at hk1 (by decide) (by decide) hf_118
                  replace hf_122 := hr_207.at hk1 (by decide) (by decide) hf_122
                  replace hf_140 := hr_207.at hk2 (by decide) (by decide) hf_140
                  replace hf_149 := hr_207.at ka_147 (by decide) (by decide) hf_149
                  replace hf_152 := hr_207.at hk1 (by decide) (by decide) hf_152
                  replace hf_200 := hr_207.at hk2 (by decide) (by decide) hf_200
                  replace hf_203 := hr_207.at ka_147 (by decide) (by decide) hf_203
                  replace hfr := hfr.trans (hr_207.sub (by decide))
                  replace hfa := hfa.trans (hfa9.sub (by decide))
                  obtain ⟨a_213, ka_213, rfl⟩ := hR_210
                  refine jj_pop C dX1_takeIn_169 rfl ?_
                  refine jj_aload C dX1_takeIn_170 rfl ?_
                  refine jj_dup C dX1_takeIn_172 rfl ?_
                  refine tt_get C hok_206 jk_9 2 (by decide) jw_a25c79ea7a (t := (1, (-9223372036854775808), 9223372036854775807)) ka_147 (by decide) rfl rfl dX1_takeIn_173 (fun v_214 hv_214 hf_215 => ?_)
                  obtain ⟨y_216, rfl, -, -⟩ := tt_vj hv_214
                  refine jj_aload_n C dX1_takeIn_176 rfl ?_
                  refine tt_getF C hok_206 jk_7 3 (by decide) jw_1a2f98b2b0 (t := (1, (-9223372036854775808), 9223372036854775807)) hk2 (by decide) rfl rfl hf_140 dX1_takeIn_177 ?_
                  obtain ⟨y_217, ey_217⟩ : ∃ z : Int64, y_216 + y_141 = z := ⟨_, rfl⟩
                  refine jj_ladd (v := y_217) C dX1_takeIn_180 ey_217 ?_
                  refine rl_put C hok_206 jk_9 2 (by decide) jw_a25c79ea7a (t := (1, (-9223372036854775808), 9223372036854775807)) ka_147 (by decide) rfl rfl rfl (tt_ja y_217) rfl rfl dX1_takeIn_181 (fun pl_218 hok_219 tr hn tl => ?_)
                  replace hf_114 := tr _ _ _ (Or.inl (tt_ne hk1 ka_147 (by decide))) hf_114
                  replace hf_118 := tr _ _ _ (Or.inl (tt_ne hk1 ka_147 (by decide))) hf_118
                  replace hf_122 := tr _ _ _ (Or.inl (tt_ne hk1 ka_147 (by decide))) hf_122
                  replace hf_140 := tr _ _ _ (Or.inl (tt_ne hk2 ka_147 (by decide))) hf_140
                  replace hf_149 := tr _ _ _ (Or.inr (by decide)) hf_149
                  replace hf_152 := tr _ _ _ (Or.inl (tt_ne hk1 ka_147 (by decide))) hf_152
                  replace hf_200 := tr _ _ _ (Or.inl (tt_ne hk2 ka_147 (by decide))) hf_200
                  replace hf_203 := tr _ _ _ (Or.inr (by decide)) hf_203
                  have hf_220 := hn
                  replace hfr := hfr.put ka_147 tr (by decide)
                  replace hfa := hfa.all tl
                  refine jj_aload C dX1_takeIn_184 rfl ?_
                  refine jj_dup C dX1_takeIn_186 rfl ?_
                  refine tt_get C hok_219 jk_9 3 (by decide) jw_df3b225d28 (t := (1, (-9223372036854775808), 9223372036854775807)) ka_147 (by decide) rfl rfl dX1_takeIn_187 (fun v_221 hv_221 hf_222 => ?_)
                  obtain ⟨y_223, rfl, -, -⟩ := tt_vj hv_221
                  refine jj_lload C dX1_takeIn_190 rfl ?_
                  obtain ⟨y_224, ey_224⟩ : ∃ z : Int64, y_223 + y_143 = z := ⟨_, rfl⟩
                  refine jj_ladd (v := y_224) C dX1_takeIn_192 ey_224 ?_
                  refine rl_put C hok_219 jk_9 3 (by decide) jw_df3b225d28 (t := (1, (-9223372036854775808), 9223372036854775807)) ka_147 (by decide) rfl rfl rfl (tt_ja y_224) rfl rfl dX1_takeIn_193 (fun pl_225 hok_226 tr hn tl => ?_)
                  replace hf_114 := tr _ _ _ (Or.inl (tt_ne hk1 ka_147 (by decide))) hf_114
                  replace hf_118 := tr _ _ _ (Or.inl (tt_ne hk1 ka_147 (by decide))) hf_118
                  replace hf_122 := tr _ _ _ (Or.inl (tt_ne hk1 ka_147 (by decide))) hf_122
                  replace hf_140 := tr _ _ _ (Or.inl (tt_ne hk2 ka_147 (by decide))) hf_140
                  replace hf_149 := tr _ _ _ (Or.inr (by decide)) hf_149
                  replace hf_152 := tr _ _ _ (Or.inl (tt_ne hk1 ka_147 (by decide))) hf_152
                  replace hf_200 := tr _ _ _ (Or.inl (tt_ne hk2 ka_147 (by decide))) hf_200
                  replace hf_203 := tr _ _ _ (Or.inr (by decide)) hf_203
                  replace hf_220 := tr _ _ _ (Or.inr (by decide)) hf_220
                  have hf_227 := hn
                  replace hfr := hfr.put ka_147 tr (by decide)
                  replace hfa := hfa.all tl
                  refine jj_aload_n C dX1_takeIn_196 rfl ?_
                  refine tt_get C hok_226 jk_2 10 (by decide) jw_489e37c5a2 (t := (2, 5, 0)) hk1 (by decide) rfl rfl dX1_takeIn_197 (fun v_228 hv_228 hf_229 => ?_)
                  obtain ⟨a_230, rfl, ka_230⟩ := tt_vr hv_228
                  refine jj_iconst (v := 2) C dX1_takeIn_200 (by decide) ?_
                  refine jj_dup2 C dX1_takeIn_201 rfl rfl ?_
                  refine tt_lald C hok_226 (t := (1, (-9223372036854775808), 9223372036854775807)) ka_230 (by decide) rfl (vp_in_iff.mpr (by decide)) dX1_takeIn_202 (fun v_231 hv_231 => ?_)
                  refine jj_aload_n C dX1_takeIn_203 rfl ?_
                  refine tt_getF C hok_226 jk_7 3 (by decide) jw_1a2f98b2b0 (t := (1, (-9223372036854775808), 9223372036854775807)) hk2 (by decide) rfl rfl hf_140 dX1_takeIn_204 ?_
                  obtain ⟨y_232, ey_232⟩ : ∃ z : Int64, v_231 + y_141 = z := ⟨_, rfl⟩
                  refine jj_ladd (v := y_232) C dX1_takeIn_207 ey_232 ?_
                  refine tl_last C hok_226 (t := (1, (-9223372036854775808), 9223372036854775807)) ka_230 (by decide) rfl (vp_in_iff.mpr (by decide)) (tt_ja _) dX1_takeIn_208 (fun pl_233 hok_234 tr tl => ?_)
                  replace hf_114 := tr _ _ _ hf_114
                  replace hf_118 := tr _ _ _ hf_118
                  replace hf_122 := tr _ _ _ hf_122
                  replace hf_140 := tr _ _ _ hf_140
                  replace hf_149 := tr _ _ _ hf_149
                  replace hf_152 := tr _ _ _ hf_152
                  replace hf_200 := tr _ _ _ hf_200
                  replace hf_203 := tr _ _ _ hf_203
                  replace hf_220 := tr _ _ _ hf_220
                  replace hf_227 := tr _ _ _ hf_227
                  replace hf_229 := tr _ _ _ hf_229
                  replace hfr := hfr.arr tr
                  replace hfa := hfa.wr ka_230 tl (by decide)
                  refine jj_iconst (v := 1) C dX1_takeIn_209 (by decide) ?_
                  exact jj_zret C rfl ⟨[], pl_233, rfl, rfl, hok_234, hfr, hfa, (Or.inr rfl)⟩ dX1_takeIn_210 (jj_le rfl) (jj_le rfl)
              · refine jj_iconst (v := 0) C dX1_takeIn_110 (by decide) ?_
                exact jj_zret C rfl ⟨[], pl_126, rfl, rfl, hok_127, hfr, hfa, (Or.inl rfl)⟩ dX1_takeIn_111 (jj_le rfl) (jj_le rfl)
        · refine jj_lstore C dX1_takeIn_47 (by decide) rfl ?_
          refine jj_lload C dX1_takeIn_49 rfl ?_
          refine jj_lconst (v := 0) C dX1_takeIn_51 (by decide) ?_
          refine jj_lcmp_le (tgt := 79) C dX1_takeIn_52 dX1_takeIn_53 (by decide) (fun c_235 => ?_) (fun c_235 => ?_)
          · refine jj_iconst (v := 0) C dX1_takeIn_79 (by decide) ?_
            exact jj_zret C rfl ⟨[], pl_126, rfl, rfl, hok_127, hfr, hfa, (Or.inl rfl)⟩ dX1_takeIn_80 (jj_le rfl) (jj_le rfl)
          · refine jj_aload_n C dX1_takeIn_56 rfl ?_
            refine tt_get C hok_127 jk_2 8 (by decide) jw_eaf43346a8 (t := (0, 0, 40)) hk1 (by decide) rfl rfl dX1_takeIn_57 (fun v_236 hv_236 hf_237 => ?_)
            obtain ⟨x_238, rfl, lx_238, ux_238⟩ := tt_vi hv_236
            refine jj_bipush (v := 40) C dX1_takeIn_60 (by decide) ?_
            refine jj_icmp_ge (tgt := 79) C dX1_takeIn_62 (by decide) (fun c_239 => ?_) (fun c_239 => ?_)
            · have z_c_239 := jc_le (a := (40)) (b := (x_238).toInt) c_239 (by decide) rfl
              refine jj_iconst (v := 0) C dX1_takeIn_79 (by decide) ?_
              exact jj_zret C rfl ⟨[], pl_126, rfl, rfl, hok_127, hfr, hfa, (Or.inl rfl)⟩ dX1_takeIn_80 (jj_le rfl) (jj_le rfl)
            · have z_c_239 := jc_nle (a := (40)) (b := (x_238).toInt) c_239 (by decide) rfl
              refine jj_iload C dX1_takeIn_65 rfl ?_
              refine jj_if_eqT (tgt := 81) C dX1_takeIn_67 (by decide) (by decide) ?_
              refine jj_aload_n C dX1_takeIn_81 rfl ?_
              refine tt_get C hok_127 jk_7 3 (by decide) jw_1a2f98b2b0 (t := (1, (-9223372036854775808), 9223372036854775807)) hk2 (by decide) rfl rfl dX1_takeIn_82 (fun v_240 hv_240 hf_241 => ?_)
              obtain ⟨y_242, rfl, -, -⟩ := tt_vj hv_240
              refine jj_ldc2 (v := 100000) C dX1_takeIn_85 jw_8b2b15bcdc ?_
              obtain ⟨y_243, ey_243⟩ : ∃ z : Int64, y_242 * (100000 : Int64) = z := ⟨_, rfl⟩
              refine jj_lmul (v := y_243) C dX1_takeIn_88 ey_243 ?_
              refine jj_lload C dX1_takeIn_89 rfl ?_
              obtain ⟨y_244, ey_244⟩ : ∃ z : Int64, y_243 / y_134 = z := ⟨_, rfl⟩
              refine jj_ldiv (v := y_244) C dX1_takeIn_91 (jt_nzpL (by first | exact Int64.not_le.mp c_235 | exact Int32.not_le.mp c_235)) ey_244 ?_
              refine jj_lstore C dX1_takeIn_92 (by decide) rfl ?_
              refine jj_lload C dX1_takeIn_94 rfl ?_
              refine jj_lconst (v := 1) C dX1_takeIn_96 (by decide) ?_
              refine jj_lcmp_lt (tgt := 110) C dX1_takeIn_97 dX1_takeIn_98 (by decide) (fun c_245 => ?_) (fun c_245 => ?_)
              · refine jj_iconst (v := 0) C dX1_takeIn_110 (by decide) ?_
                exact jj_zret C rfl ⟨[], pl_126, rfl, rfl, hok_127, hfr, hfa, (Or.inl rfl)⟩ dX1_takeIn_111 (jj_le rfl) (jj_le rfl)
              · refine jj_lload C dX1_takeIn_101 rfl ?_
                refine jj_ldc2 (v := 10000000) C dX1_takeIn_103 jw_c1baced628 ?_
                refine jj_lcmp_le (tgt := 112) C dX1_takeIn_106 dX1_takeIn_107 (by decide) (fun c_246 => ?_) (fun c_246 => ?_)
                · refine jj_iload C dX1_takeIn_112 rfl ?_
                  refine jj_if_eqT (tgt := 124) C dX1_takeIn_114 (by decide) (by decide) ?_
                  refine jj_aload_n C dX1_takeIn_124 rfl ?_
                  refine tt_getF C hok_127 jk_2 11 (by decide) jw_56984fd307 (t := (2, 6, 0)) hk1 (by decide) rfl rfl hf_122 dX1_takeIn_125 ?_
                  refine jj_iload_n C dX1_takeIn_128 rfl ?_
                  refine tt_aald C hok_127 (t := (2, 2, 0)) ka_123 (by decide) rfl rfl rfl (vp_in_iff.mpr ⟨by omega, by omega⟩) dX1_takeIn_129 (fun v_247 hv_247 => ?_)
                  obtain ⟨a_248, rfl, ka_248⟩ := tt_vr hv_247
                  refine jj_astore C dX1_takeIn_130 (by decide) rfl ?_
                  refine jj_lload C dX1_takeIn_132 rfl ?_
                  refine jj_aload C dX1_takeIn_134 rfl ?_
                  refine tt_get C hok_127 jk_9 4 (by decide) jw_0a98b03de8 (t := (1, (-9223372036854775808), 9223372036854775807)) ka_248 (by decide) rfl rfl dX1_takeIn_136 (fun v_249 hv_249 hf_250 => ?_)
                  obtain ⟨y_251, rfl, -, -⟩ := tt_vj hv_249
                  refine jj_lload C dX1_takeIn_139 rfl ?_
                  refine jj_aload_n C dX1_takeIn_141 rfl ?_
                  refine tt_get C hok_127 jk_2 3 (by decide) jw_8322fbab96 (t := (0, (-2147483648), 2147483647)) hk1 (by decide) rfl rfl dX1_takeIn_142 (fun v_252 hv_252 hf_253 => ?_)
                  obtain ⟨x_254, rfl, lx_254, ux_254⟩ := tt_vi hv_252
                  refine tt_callS (rest := []) C (tc_X2_dueOn_1 hl D cA ak y_244 y_251 y_134 x_254 hok_127) [] [] rfl rfl (by decide) (by decide) (by decide) jw_2f594c34e3 jw_06dd566a56 jw_79af3f4029 jw_eebd9e2034 jn_X2_dueOn rfl (jj_le rfl) (jj_le rfl) (jj_le rfl) (jj_le rfl) (jj_le rfl) dX1_takeIn_145 rfl (fun _ _ _ hX => hX.elim) (fun rx pl_255 r O_258 => ?_)
                  obtain ⟨rfl, hok_256, hr_257, hfa9, hR_260⟩ := O_258
                  replace hf_114 := hr_257.at hk1 (by decide) (by decide) hf_114
                  replace hf_118 := hr_257.at hk1 (by decide) (by decide) hf_118
                  replace hf_122 := hr_257.at hk1 (by decide) (by decide) hf_122
                  replace hf_237 := hr_257.at hk1 (by decide) (by decide) hf_237
                  replace hf_241 := hr_257.at hk2 (by decide) (by decide) hf_241
                  replace hf_250 := hr_257.at ka_248 (by decide) (by decide) hf_250
                  replace hf_253 := hr_257.at hk1 (by decide) (by decide) hf_253
                  replace hfr := hfr.trans (hr_257.sub (by decide))
                  replace hfa := hfa.trans (hfa9.sub (by decide))
                  rcases hR_260 with rfl | ⟨y_263, rfl⟩
                  · refine jj_lstore C dX1_takeIn_148 (by decide) rfl ?_
                    refine jj_aload_n C dX1_takeIn_150 rfl ?_
                    refine jj_aload_n C dX1_takeIn_151 rfl ?_
                    refine tt_get C hok_256 jk_7 0 (by decide) jw_ca00009e69 (t := (0, (-2147483648), 2147483647)) hk2 (by decide) rfl rfl dX1_takeIn_152 (fun v_264 hv_264 hf_265 => ?_)
                    obtain ⟨x_266, rfl, lx_266, ux_266⟩ := tt_vi hv_264
                    refine jj_aload C dX1_takeIn_155 rfl ?_
                    refine tt_get C hok_256 jk_9 0 (by decide) jw_e7cfa07cc9 (t := (0, (-2147483648), 2147483647)) ka_248 (by decide) rfl rfl dX1_takeIn_157 (fun v_267 hv_267 hf_268 => ?_)
                    obtain ⟨x_269, rfl, lx_269, ux_269⟩ := tt_vi hv_267
                    refine jj_lload C dX1_takeIn_160 rfl ?_
                    refine jj_lload C dX1_takeIn_162 rfl ?_
                    refine jj_lload C dX1_takeIn_164 rfl ?_
                    obtain ⟨qc, gs, hqc⟩ := tt_recv (cx := []) hok_256 hk1 (by decide) rfl
                    refine tt_callV (rest := []) C (tc_X0_addLot_3 hl D cA ak h1 x_266 x_269 y_244 y_134 hk1 hok_256) [] [] rfl rfl (by decide) (by decide) (by decide) qc hqc rfl rfl jw_336fd576a9 jw_c1ec506c02 jw_0fb782f899 jw_7d25d4fd32 jw_a7bf4567f9 jn_X0_addLot rfl (jj_le rfl) (jj_le rfl) (jj_le rfl) (jj_le rfl) (jj_le rfl) dX1_takeIn_166 rfl (fun _ _ _ hX => hX.elim) (fun rx pl_270 r O_273 => ?_)
                    obtain ⟨rfl, hok_271, hr_272, hfa9, hR_275⟩ := O_273
                    replace hf_114 := hr_272.at hk1 (by decide) (by decide) hf_114
                    replace hf_118 := hr_272.at hk1 (by decide) (by decide) hf_118
                    replace hf_122 := hr_272.at hk1 (by decide) (by decide) hf_122
                    replace hf_241 := hr_272.at hk2 (by decide) (by decide) hf_241
                    replace hf_250 := hr_272.at ka_248 (by decide) (by decide) hf_250
                    replace hf_253 := hr_272.at hk1 (by decide) (by decide) hf_253
                    replace hf_265 := hr_272.at hk2 (by decide) (by decide) hf_265
                    replace hf_268 := hr_272.at ka_248 (by decide) (by decide) hf_268
                    replace hfr := hfr.trans (hr_272.sub (by decide))
                    replace hfa := hfa.trans (hfa9.sub (by decide))
                    obtain ⟨a_278, ka_278, rfl⟩ := hR_275
                    refine jj_pop C dX1_takeIn_169 rfl ?_
                    refine jj_aload C dX1_takeIn_170 rfl ?_
                    refine jj_dup C dX1_takeIn_172 rfl ?_
                    refine tt_get C hok_271 jk_9 2 (by decide) jw_a25c79ea7a (t := (1, (-9223372036854775808), 9223372036854775807)) ka_248 (by decide) rfl rfl dX1_takeIn_173 (fun v_279 hv_279 hf_280 => ?_)
                    obtain ⟨y_281, rfl, -, -⟩ := tt_vj hv_279
                    refine jj_aload_n C dX1_takeIn_176 rfl ?_
                    refine tt_getF C hok_271 jk_7 3 (by decide) jw_1a2f98b2b0 (t := (1, (-9223372036854775808), 9223372036854775807)) hk2 (by decide) rfl rfl hf_241 dX1_takeIn_177 ?_
                    obtain ⟨y_282, ey_282⟩ : ∃ z : Int64, y_281 + y_242 = z := ⟨_, rfl⟩
                    refine jj_ladd (v := y_282) C dX1_takeIn_180 ey_282 ?_
                    refine rl_put C hok_271 jk_9 2 (by decide) jw_a25c79ea7a (t := (1, (-9223372036854775808), 9223372036854775807)) ka_248 (by decide) rfl rfl rfl (tt_ja y_282) rfl rfl dX1_takeIn_181 (fun pl_283 hok_284 tr hn tl => ?_)
                    replace hf_114 := tr _ _ _ (Or.inl (tt_ne hk1 ka_248 (by decide))) hf_114
                    replace hf_118 := tr _ _ _ (Or.inl (tt_ne hk1 ka_248 (by decide))) hf_118
                    replace hf_122 := tr _ _ _ (Or.inl (tt_ne hk1 ka_248 (by decide))) hf_122
                    replace hf_241 := tr _ _ _ (Or.inl (tt_ne hk2 ka_248 (by decide))) hf_241
                    replace hf_250 := tr _ _ _ (Or.inr (by decide)) hf_250
                    replace hf_253 := tr _ _ _ (Or.inl (tt_ne hk1 ka_248 (by decide))) hf_253
                    replace hf_265 := tr _ _ _ (Or.inl (tt_ne hk2 ka_248 (by decide))) hf_265
                    replace hf_268 := tr _ _ _ (Or.inr (by decide)) hf_268
                    have hf_285 := hn
                    replace hfr := hfr.put ka_248 tr (by decide)
                    replace hfa := hfa.all tl
                    refine jj_aload C dX1_takeIn_184 rfl ?_
                    refine jj_dup C dX1_takeIn_186 rfl ?_
                    refine tt_get C hok_284 jk_9 3 (by decide) jw_df3b225d28 (t := (1, (-9223372036854775808), 9223372036854775807)) ka_248 (by decide) rfl rfl dX1_takeIn_187 (fun v_286 hv_286 hf_287 => ?_)
                    obtain ⟨y_288, rfl, -, -⟩ := tt_vj hv_286
                    refine jj_lload C dX1_takeIn_190 rfl ?_
                    obtain ⟨y_289, ey_289⟩ : ∃ z : Int64, y_288 + y_244 = z := ⟨_, rfl⟩
                    refine jj_ladd (v := y_289) C dX1_takeIn_192 ey_289 ?_
                    refine rl_put C hok_284 jk_9 3 (by decide) jw_df3b225d28 (t := (1, (-9223372036854775808), 9223372036854775807)) ka_248 (by decide) rfl rfl rfl (tt_ja y_289) rfl rfl dX1_takeIn_193 (fun pl_290 hok_291 tr hn tl => ?_)
                    replace hf_114 := tr _ _ _ (Or.inl (tt_ne hk1 ka_248 (by decide))) hf_114
                    replace hf_118 := tr _ _ _ (Or.inl (tt_ne hk1 ka_248 (by decide))) hf_118
                    replace hf_122 := tr _ _ _ (Or.inl (tt_ne hk1 ka_248 (by decide))) hf_122
                    replace hf_241 := tr _ _ _ (Or.inl (tt_ne hk2 ka_248 (by decide))) hf_241
                    replace hf_250 := tr _ _ _ (Or.inr (by decide)) hf_250
                    replace hf_253 := tr _ _ _ (Or.inl (tt_ne hk1 ka_248 (by decide))) hf_253
                    replace hf_265 := tr _ _ _ (Or.inl (tt_ne hk2 ka_248 (by decide))) hf_265
                    replace hf_268 := tr _ _ _ (Or.inr (by decide)) hf_268
                    replace hf_285 := tr _ _ _ (Or.inr (by decide)) hf_285
                    have hf_292 := hn
                    replace hfr := hfr.put ka_248 tr (by decide)
                    replace hfa := hfa.all tl
                    refine jj_aload_n C dX1_takeIn_196 rfl ?_
                    refine tt_get C hok_291 jk_2 10 (by decide) jw_489e37c5a2 (t := (2, 5, 0)) hk1 (by decide) rfl rfl dX1_takeIn_197 (fun v_293 hv_293 hf_294 => ?_)
                    obtain ⟨a_295, rfl, ka_295⟩ := tt_vr hv_293
                    refine jj_iconst (v := 2) C dX1_takeIn_200 (by decide) ?_
                    refine jj_dup2 C dX1_takeIn_201 rfl rfl ?_
                    refine tt_lald C hok_291 (t := (1, (-9223372036854775808), 9223372036854775807)) ka_295 (by decide) rfl (vp_in_iff.mpr (by decide)) dX1_takeIn_202 (fun v_296 hv_296 => ?_)
                    refine jj_aload_n C dX1_takeIn_203 rfl ?_
                    refine tt_getF C hok_291 jk_7 3 (by decide) jw_1a2f98b2b0 (t := (1, (-9223372036854775808), 9223372036854775807)) hk2 (by decide) rfl rfl hf_241 dX1_takeIn_204 ?_
                    obtain ⟨y_297, ey_297⟩ : ∃ z : Int64, v_296 + y_242 = z := ⟨_, rfl⟩
                    refine jj_ladd (v := y_297) C dX1_takeIn_207 ey_297 ?_
                    refine tl_last C hok_291 (t := (1, (-9223372036854775808), 9223372036854775807)) ka_295 (by decide) rfl (vp_in_iff.mpr (by decide)) (tt_ja _) dX1_takeIn_208 (fun pl_298 hok_299 tr tl => ?_)
                    replace hf_114 := tr _ _ _ hf_114
                    replace hf_118 := tr _ _ _ hf_118
                    replace hf_122 := tr _ _ _ hf_122
                    replace hf_241 := tr _ _ _ hf_241
                    replace hf_250 := tr _ _ _ hf_250
                    replace hf_253 := tr _ _ _ hf_253
                    replace hf_265 := tr _ _ _ hf_265
                    replace hf_268 := tr _ _ _ hf_268
                    replace hf_285 := tr _ _ _ hf_285
                    replace hf_292 := tr _ _ _ hf_292
                    replace hf_294 := tr _ _ _ hf_294
                    replace hfr := hfr.arr tr
                    replace hfa := hfa.wr ka_295 tl (by decide)
                    refine jj_iconst (v := 1) C dX1_takeIn_209 (by decide) ?_
                    exact jj_zret C rfl ⟨[], pl_298, rfl, rfl, hok_299, hfr, hfa, (Or.inr rfl)⟩ dX1_takeIn_210 (jj_le rfl) (jj_le rfl)
                  · refine jj_lstore C dX1_takeIn_148 (by decide) rfl ?_
                    refine jj_aload_n C dX1_takeIn_150 rfl ?_
                    refine jj_aload_n C dX1_takeIn_151 rfl ?_
                    refine tt_get C hok_256 jk_7 0 (by decide) jw_ca00009e69 (t := (0, (-2147483648), 2147483647)) hk2 (by decide) rfl rfl dX1_takeIn_152 (fun v_300 hv_300 hf_301 => ?_)
                    obtain ⟨x_302, rfl, lx_302, ux_302⟩ := tt_vi hv_300
                    refine jj_aload C dX1_takeIn_155 rfl ?_
                    refine tt_get C hok_256 jk_9 0 (by decide) jw_e7cfa07cc9 (t := (0, (-2147483648), 2147483647)) ka_248 (by decide) rfl rfl dX1_takeIn_157 (fun v_303 hv_303 hf_304 => ?_)
                    obtain ⟨x_305, rfl, lx_305, ux_305⟩ := tt_vi hv_303
                    refine jj_lload C dX1_takeIn_160 rfl ?_
                    refine jj_lload C dX1_takeIn_162 rfl ?_
                    refine jj_lload C dX1_takeIn_164 rfl ?_
                    obtain ⟨qc, gs, hqc⟩ := tt_recv (cx := []) hok_256 hk1 (by decide) rfl
                    refine tt_callV (rest := []) C (tc_X0_addLot_4 hl D cA ak h1 x_302 x_305 y_244 y_134 y_263 hk1 hok_256) [] [] rfl rfl (by decide) (by decide) (by decide) qc hqc rfl rfl jw_336fd576a9 jw_c1ec506c02 jw_0fb782f899 jw_7d25d4fd32 jw_a7bf4567f9 jn_X0_addLot rfl (jj_le rfl) (jj_le rfl) (jj_le rfl) (jj_le rfl) (jj_le rfl) dX1_takeIn_166 rfl (fun _ _ _ hX => hX.elim) (fun rx pl_306 r O_309 => ?_)
                    obtain ⟨rfl, hok_307, hr_308, hfa9, hR_311⟩ := O_309
                    replace hf_114 := hr_308.at hk1 (by decide) (by decide) hf_114
                    replace hf_118 := hr_308.at hk1 (by decide) (by decide) hf_118
                    replace hf_122 := hr_308.at hk1 (by decide) (by decide) hf_122
                    replace hf_241 := hr_308.at hk2 (by decide) (by decide) hf_241
                    replace hf_250 := hr_308.at ka_248 (by decide) (by decide) hf_250
                    replace hf_253 := hr_308.at hk1 (by decide) (by decide) hf_253
                    replace hf_301 := hr_308.at hk2 (by decide) (by decide) hf_301
                    replace hf_304 := hr_308.at ka_248 (by decide) (by decide) hf_304
                    replace hfr := hfr.trans (hr_308.sub (by decide))
                    replace hfa := hfa.trans (hfa9.sub (by decide))
                    obtain ⟨a_314, ka_314, rfl⟩ := hR_311
                    refine jj_pop C dX1_takeIn_169 rfl ?_
                    refine jj_aload C dX1_takeIn_170 rfl ?_
                    refine jj_dup C dX1_takeIn_172 rfl ?_
                    refine tt_get C hok_307 jk_9 2 (by decide) jw_a25c79ea7a (t := (1, (-9223372036854775808), 9223372036854775807)) ka_248 (by decide) rfl rfl dX1_takeIn_173 (fun v_315 hv_315 hf_316 => ?_)
                    obtain ⟨y_317, rfl, -, -⟩ := tt_vj hv_315
                    refine jj_aload_n C dX1_takeIn_176 rfl ?_
                    refine tt_getF C hok_307 jk_7 3 (by decide) jw_1a2f98b2b0 (t := (1, (-9223372036854775808), 9223372036854775807)) hk2 (by decide) rfl rfl hf_241 dX1_takeIn_177 ?_
                    obtain ⟨y_318, ey_318⟩ : ∃ z : Int64, y_317 + y_242 = z := ⟨_, rfl⟩
                    refine jj_ladd (v := y_318) C dX1_takeIn_180 ey_318 ?_
                    refine rl_put C hok_307 jk_9 2 (by decide) jw_a25c79ea7a (t := (1, (-9223372036854775808), 9223372036854775807)) ka_248 (by decide) rfl rfl rfl (tt_ja y_318) rfl rfl dX1_takeIn_181 (fun pl_319 hok_320 tr hn tl => ?_)
                    replace hf_114 := tr _ _ _ (Or.inl (tt_ne hk1 ka_248 (by decide))) hf_114
                    replace hf_118 := tr _ _ _ (Or.inl (tt_ne hk1 ka_248 (by decide))) hf_118
                    replace hf_122 := tr _ _ _ (Or.inl (tt_ne hk1 ka_248 (by decide))) hf_122
                    replace hf_241 := tr _ _ _ (Or.inl (tt_ne hk2 ka_248 (by decide))) hf_241
                    replace hf_250 := tr _ _ _ (Or.inr (by decide)) hf_250
                    replace hf_253 := tr _ _ _ (Or.inl (tt_ne hk1 ka_248 (by decide))) hf_253
                    replace hf_301 := tr _ _ _ (Or.inl (tt_ne hk2 ka_248 (by decide))) hf_301
                    replace hf_304 := tr _ _ _ (Or.inr (by decide)) hf_304
                    have hf_321 := hn
                    replace hfr := hfr.put ka_248 tr (by decide)
                    replace hfa := hfa.all tl
                    refine jj_aload C dX1_takeIn_184 rfl ?_
                    refine jj_dup C dX1_takeIn_186 rfl ?_
                    refine tt_get C hok_320 jk_9 3 (by decide) jw_df3b225d28 (t := (1, (-9223372036854775808), 9223372036854775807)) ka_248 (by decide) rfl rfl dX1_takeIn_187 (fun v_322 hv_322 hf_323 => ?_)
                    obtain ⟨y_324, rfl, -, -⟩ := tt_vj hv_322
                    refine jj_lload C dX1_takeIn_190 rfl ?_
                    obtain ⟨y_325, ey_325⟩ : ∃ z : Int64, y_324 + y_244 = z := ⟨_, rfl⟩
                    refine jj_ladd (v := y_325) C dX1_takeIn_192 ey_325 ?_
                    refine rl_put C hok_320 jk_9 3 (by decide) jw_df3b225d28 (t := (1, (-9223372036854775808), 9223372036854775807)) ka_248 (by decide) rfl rfl rfl (tt_ja y_325) rfl rfl dX1_takeIn_193 (fun pl_326 hok_327 tr hn tl => ?_)
                    replace hf_114 := tr _ _ _ (Or.inl (tt_ne hk1 ka_248 (by decide))) hf_114
                    replace hf_118 := tr _ _ _ (Or.inl (tt_ne hk1 ka_248 (by decide))) hf_118
                    replace hf_122 := tr _ _ _ (Or.inl (tt_ne hk1 ka_248 (by decide))) hf_122
                    replace hf_241 := tr _ _ _ (Or.inl (tt_ne hk2 ka_248 (by decide))) hf_241
                    replace hf_250 := tr _ _ _ (Or.inr (by decide)) hf_250
                    replace hf_253 := tr _ _ _ (Or.inl (tt_ne hk1 ka_248 (by decide))) hf_253
                    replace hf_301 := tr _ _ _ (Or.inl (tt_ne hk2 ka_248 (by decide))) hf_301
                    replace hf_304 := tr _ _ _ (Or.inr (by decide)) hf_304
                    replace hf_321 := tr _ _ _ (Or.inr (by decide)) hf_321
                    have hf_328 := hn
                    replace hfr := hfr.put ka_248 tr (by decide)
                    replace hfa := hfa.all tl
                    refine jj_aload_n C dX1_takeIn_196 rfl ?_
                    refine tt_get C hok_327 jk_2 10 (by decide) jw_489e37c5a2 (t := (2, 5, 0)) hk1 (by decide) rfl rfl dX1_takeIn_197 (fun v_329 hv_329 hf_330 => ?_)
                    obtain ⟨a_331, rfl, ka_331⟩ := tt_vr hv_329
                    refine jj_iconst (v := 2) C dX1_takeIn_200 (by decide) ?_
                    refine jj_dup2 C dX1_takeIn_201 rfl rfl ?_
                    refine tt_lald C hok_327 (t := (1, (-9223372036854775808), 9223372036854775807)) ka_331 (by decide) rfl (vp_in_iff.mpr (by decide)) dX1_takeIn_202 (fun v_332 hv_332 => ?_)
                    refine jj_aload_n C dX1_takeIn_203 rfl ?_
                    refine tt_getF C hok_327 jk_7 3 (by decide) jw_1a2f98b2b0 (t := (1, (-9223372036854775808), 9223372036854775807)) hk2 (by decide) rfl rfl hf_241 dX1_takeIn_204 ?_
                    obtain ⟨y_333, ey_333⟩ : ∃ z : Int64, v_332 + y_242 = z := ⟨_, rfl⟩
                    refine jj_ladd (v := y_333) C dX1_takeIn_207 ey_333 ?_
                    refine tl_last C hok_327 (t := (1, (-9223372036854775808), 9223372036854775807)) ka_331 (by decide) rfl (vp_in_iff.mpr (by decide)) (tt_ja _) dX1_takeIn_208 (fun pl_334 hok_335 tr tl => ?_)
                    replace hf_114 := tr _ _ _ hf_114
                    replace hf_118 := tr _ _ _ hf_118
                    replace hf_122 := tr _ _ _ hf_122
                    replace hf_241 := tr _ _ _ hf_241
                    replace hf_250 := tr _ _ _ hf_250
                    replace hf_253 := tr _ _ _ hf_253
                    replace hf_301 := tr _ _ _ hf_301
                    replace hf_304 := tr _ _ _ hf_304
                    replace hf_321 := tr _ _ _ hf_321
                    replace hf_328 := tr _ _ _ hf_328
                    replace hf_330 := tr _ _ _ hf_330
                    replace hfr := hfr.arr tr
                    replace hfa := hfa.wr ka_331 tl (by decide)
                    refine jj_iconst (v := 1) C dX1_takeIn_209 (by decide) ?_
                    exact jj_zret C rfl ⟨[], pl_334, rfl, rfl, hok_335, hfr, hfa, (Or.inr rfl)⟩ dX1_takeIn_210 (jj_le rfl) (jj_le rfl)
                · refine jj_iconst (v := 0) C dX1_takeIn_110 (by decide) ?_
                  exact jj_zret C rfl ⟨[], pl_126, rfl, rfl, hok_127, hfr, hfa, (Or.inl rfl)⟩ dX1_takeIn_111 (jj_le rfl) (jj_le rfl)
      · have z_c_120 := jc_neq (a := (x_119).toInt) (b := (1)) c_120 rfl (by decide)
        refine jj_ldc2 (v := 1000000) C dX1_takeIn_32 jw_39e30070ed ?_
        refine jj_goto (tgt := 47) C dX1_takeIn_35 (by decide) ?_
        refine jj_lstore C dX1_takeIn_47 (by decide) rfl ?_
        refine jj_lload C dX1_takeIn_49 rfl ?_
        refine jj_lconst (v := 0) C dX1_takeIn_51 (by decide) ?_
        refine jj_lcmp_leF (tgt := 79) C dX1_takeIn_52 dX1_takeIn_53 (by decide) (by decide) ?_
        refine jj_aload_n C dX1_takeIn_56 rfl ?_
        refine tt_get C hok jk_2 8 (by decide) jw_eaf43346a8 (t := (0, 0, 40)) hk1 (by decide) rfl rfl dX1_takeIn_57 (fun v_336 hv_336 hf_337 => ?_)
        obtain ⟨x_338, rfl, lx_338, ux_338⟩ := tt_vi hv_336
        refine jj_bipush (v := 40) C dX1_takeIn_60 (by decide) ?_
        refine jj_icmp_ge (tgt := 79) C dX1_takeIn_62 (by decide) (fun c_339 => ?_) (fun c_339 => ?_)
        · have z_c_339 := jc_le (a := (40)) (b := (x_338).toInt) c_339 (by decide) rfl
          refine jj_iconst (v := 0) C dX1_takeIn_79 (by decide) ?_
          exact jj_zret C rfl ⟨[], pl0, rfl, rfl, hok, hfr, hfa, (Or.inl rfl)⟩ dX1_takeIn_80 (jj_le rfl) (jj_le rfl)
        · have z_c_339 := jc_nle (a := (40)) (b := (x_338).toInt) c_339 (by decide) rfl
          refine jj_iload C dX1_takeIn_65 rfl ?_
          refine jj_if_eqT (tgt := 81) C dX1_takeIn_67 (by decide) (by decide) ?_
          refine jj_aload_n C dX1_takeIn_81 rfl ?_
          refine tt_get C hok jk_7 3 (by decide) jw_1a2f98b2b0 (t := (1, (-9223372036854775808), 9223372036854775807)) hk2 (by decide) rfl rfl dX1_takeIn_82 (fun v_340 hv_340 hf_341 => ?_)
          obtain ⟨y_342, rfl, -, -⟩ := tt_vj hv_340
          refine jj_ldc2 (v := 100000) C dX1_takeIn_85 jw_8b2b15bcdc ?_
          obtain ⟨y_343, ey_343⟩ : ∃ z : Int64, y_342 * (100000 : Int64) = z := ⟨_, rfl⟩
          refine jj_lmul (v := y_343) C dX1_takeIn_88 ey_343 ?_
          refine jj_lload C dX1_takeIn_89 rfl ?_
          obtain ⟨y_344, ey_344⟩ : ∃ z : Int64, y_343 / (1000000 : Int64) = z := ⟨_, rfl⟩
          refine jj_ldiv (v := y_344) C dX1_takeIn_91 (by decide) ey_344 ?_
          refine jj_lstore C dX1_takeIn_92 (by decide) rfl ?_
          refine jj_lload C dX1_takeIn_94 rfl ?_
          refine jj_lconst (v := 1) C dX1_takeIn_96 (by decide) ?_
          refine jj_lcmp_lt (tgt := 110) C dX1_takeIn_97 dX1_takeIn_98 (by decide) (fun c_345 => ?_) (fun c_345 => ?_)
          · refine jj_iconst (v := 0) C dX1_takeIn_110 (by decide) ?_
            exact jj_zret C rfl ⟨[], pl0, rfl, rfl, hok, hfr, hfa, (Or.inl rfl)⟩ dX1_takeIn_111 (jj_le rfl) (jj_le rfl)
          · refine jj_lload C dX1_takeIn_101 rfl ?_
            refine jj_ldc2 (v := 10000000) C dX1_takeIn_103 jw_c1baced628 ?_
            refine jj_lcmp_le (tgt := 112) C dX1_takeIn_106 dX1_takeIn_107 (by decide) (fun c_346 => ?_) (fun c_346 => ?_)
            · refine jj_iload C dX1_takeIn_112 rfl ?_
              refine jj_if_eqT (tgt := 124) C dX1_takeIn_114 (by decide) (by decide) ?_
              refine jj_aload_n C dX1_takeIn_124 rfl ?_
              refine tt_get C hok jk_2 11 (by decide) jw_56984fd307 (t := (2, 6, 0)) hk1 (by decide) rfl rfl dX1_takeIn_125 (fun v_347 hv_347 hf_348 => ?_)
              obtain ⟨a_349, rfl, ka_349⟩ := tt_vr hv_347
              refine jj_iload_n C dX1_takeIn_128 rfl ?_
              refine tt_aald C hok (t := (2, 2, 0)) ka_349 (by decide) rfl rfl rfl (vp_in_iff.mpr ⟨by omega, by omega⟩) dX1_takeIn_129 (fun v_350 hv_350 => ?_)
              obtain ⟨a_351, rfl, ka_351⟩ := tt_vr hv_350
              refine jj_astore C dX1_takeIn_130 (by decide) rfl ?_
              refine jj_lload C dX1_takeIn_132 rfl ?_
              refine jj_aload C dX1_takeIn_134 rfl ?_
              refine tt_get C hok jk_9 4 (by decide) jw_0a98b03de8 (t := (1, (-9223372036854775808), 9223372036854775807)) ka_351 (by decide) rfl rfl dX1_takeIn_136 (fun v_352 hv_352 hf_353 => ?_)
              obtain ⟨y_354, rfl, -, -⟩ := tt_vj hv_352
              refine jj_lload C dX1_takeIn_139 rfl ?_
              refine jj_aload_n C dX1_takeIn_141 rfl ?_
              refine tt_get C hok jk_2 3 (by decide) jw_8322fbab96 (t := (0, (-2147483648), 2147483647)) hk1 (by decide) rfl rfl dX1_takeIn_142 (fun v_355 hv_355 hf_356 => ?_)
              obtain ⟨x_357, rfl, lx_357, ux_357⟩ := tt_vi hv_355
              refine tt_callS (rest := []) C (tc_X2_dueOn_2 hl D cA ak y_344 y_354 x_357 hok) [] [] rfl rfl (by decide) (by decide) (by decide) jw_2f594c34e3 jw_06dd566a56 jw_79af3f4029 jw_eebd9e2034 jn_X2_dueOn rfl (jj_le rfl) (jj_le rfl) (jj_le rfl) (jj_le rfl) (jj_le rfl) dX1_takeIn_145 rfl (fun _ _ _ hX => hX.elim) (fun rx pl_358 r O_361 => ?_)
              obtain ⟨rfl, hok_359, hr_360, hfa9, hR_363⟩ := O_361
              replace hf_114 := hr_360.at hk1 (by decide) (by decide) hf_114
              replace hf_118 := hr_360.at hk1 (by decide) (by decide) hf_118
              replace hf_337 := hr_360.at hk1 (by decide) (by decide) hf_337
              replace hf_341 := hr_360.at hk2 (by decide) (by decide) hf_341
              replace hf_348 := hr_360.at hk1 (by decide) (by decide) hf_348
              replace hf_353 := hr_360.at ka_351 (by decide) (by decide) hf_353
              replace hf_356 := hr_360.at hk1 (by decide) (by decide) hf_356
              replace hfr := hfr.trans (hr_360.sub (by decide))
              replace hfa := hfa.trans (hfa9.sub (by decide))
              rcases hR_363 with rfl | ⟨y_366, rfl⟩
              · refine jj_lstore C dX1_takeIn_148 (by decide) rfl ?_
                refine jj_aload_n C dX1_takeIn_150 rfl ?_
                refine jj_aload_n C dX1_takeIn_151 rfl ?_
                refine tt_get C hok_359 jk_7 0 (by decide) jw_ca00009e69 (t := (0, (-2147483648), 2147483647)) hk2 (by decide) rfl rfl dX1_takeIn_152 (fun v_367 hv_367 hf_368 => ?_)
                obtain ⟨x_369, rfl, lx_369, ux_369⟩ := tt_vi hv_367
                refine jj_aload C dX1_takeIn_155 rfl ?_
                refine tt_get C hok_359 jk_9 0 (by decide) jw_e7cfa07cc9 (t := (0, (-2147483648), 2147483647)) ka_351 (by decide) rfl rfl dX1_takeIn_157 (fun v_370 hv_370 hf_371 => ?_)
                obtain ⟨x_372, rfl, lx_372, ux_372⟩ := tt_vi hv_370
                refine jj_lload C dX1_takeIn_160 rfl ?_
                refine jj_lload C dX1_takeIn_162 rfl ?_
                refine jj_lload C dX1_takeIn_164 rfl ?_
                obtain ⟨qc, gs, hqc⟩ := tt_recv (cx := []) hok_359 hk1 (by decide) rfl
                refine tt_callV (rest := []) C (tc_X0_addLot_1 hl D cA ak h1 x_369 x_372 y_344 hk1 hok_359) [] [] rfl rfl (by decide) (by decide) (by decide) qc hqc rfl rfl jw_336fd576a9 jw_c1ec506c02 jw_0fb782f899 jw_7d25d4fd32 jw_a7bf4567f9 jn_X0_addLot rfl (jj_le rfl) (jj_le rfl) (jj_le rfl) (jj_le rfl) (jj_le rfl) dX1_takeIn_166 rfl (fun _ _ _ hX => hX.elim) (fun rx pl_373 r O_376 => ?_)
                obtain ⟨rfl, hok_374, hr_375, hfa9, hR_378⟩ := O_376
                replace hf_114 := hr_375.at hk1 (by decide) (by decide) hf_114
                replace hf_118 := hr_375.at hk1 (by decide) (by decide) hf_118
                replace hf_341 := hr_375.at hk2 (by decide) (by decide) hf_341
                replace hf_348 := hr_375.at hk1 (by decide) (by decide) hf_348
                replace hf_353 := hr_375.at ka_351 (by decide) (by decide) hf_353
                replace hf_356 := hr_375.at hk1 (by decide) (by decide) hf_356
                replace hf_368 := hr_375.at hk2 (by decide) (by decide) hf_368
                replace hf_371 := hr_375.at ka_351 (by decide) (by decide) hf_371
                replace hfr := hfr.trans (hr_375.sub (by decide))
                replace hfa := hfa.trans (hfa9.sub (by decide))
                obtain ⟨a_381, ka_381, rfl⟩ := hR_378
                refine jj_pop C dX1_takeIn_169 rfl ?_
                refine jj_aload C dX1_takeIn_170 rfl ?_
                refine jj_dup C dX1_takeIn_172 rfl ?_
                refine tt_get C hok_374 jk_9 2 (by decide) jw_a25c79ea7a (t := (1, (-9223372036854775808), 9223372036854775807)) ka_351 (by decide) rfl rfl dX1_takeIn_173 (fun v_382 hv_382 hf_383 => ?_)
                obtain ⟨y_384, rfl, -, -⟩ := tt_vj hv_382
                refine jj_aload_n C dX1_takeIn_176 rfl ?_
                refine tt_getF C hok_374 jk_7 3 (by decide) jw_1a2f98b2b0 (t := (1, (-9223372036854775808), 9223372036854775807)) hk2 (by decide) rfl rfl hf_341 dX1_takeIn_177 ?_
                obtain ⟨y_385, ey_385⟩ : ∃ z : Int64, y_384 + y_342 = z := ⟨_, rfl⟩
                refine jj_ladd (v := y_385) C dX1_takeIn_180 ey_385 ?_
                refine rl_put C hok_374 jk_9 2 (by decide) jw_a25c79ea7a (t := (1, (-9223372036854775808), 9223372036854775807)) ka_351 (by decide) rfl rfl rfl (tt_ja y_385) rfl rfl dX1_takeIn_181 (fun pl_386 hok_387 tr hn tl => ?_)
                replace hf_114 := tr _ _ _ (Or.inl (tt_ne hk1 ka_351 (by decide))) hf_114
                replace hf_118 := tr _ _ _ (Or.inl (tt_ne hk1 ka_351 (by decide))) hf_118
                replace hf_341 := tr _ _ _ (Or.inl (tt_ne hk2 ka_351 (by decide))) hf_341
                replace hf_348 := tr _ _ _ (Or.inl (tt_ne hk1 ka_351 (by decide))) hf_348
                replace hf_353 := tr _ _ _ (Or.inr (by decide)) hf_353
                replace hf_356 := tr _ _ _ (Or.inl (tt_ne hk1 ka_351 (by decide))) hf_356
                replace hf_368 := tr _ _ _ (Or.inl (tt_ne hk2 ka_351 (by decide))) hf_368
                replace hf_371 := tr _ _ _ (Or.inr (by decide)) hf_371
                have hf_388 := hn
                replace hfr := hfr.put ka_351 tr (by decide)
                replace hfa := hfa.all tl
                refine jj_aload C dX1_takeIn_184 rfl ?_
                refine jj_dup C dX1_takeIn_186 rfl ?_
                refine tt_get C hok_387 jk_9 3 (by decide) jw_df3b225d28 (t := (1, (-9223372036854775808), 9223372036854775807)) ka_351 (by decide) rfl rfl dX1_takeIn_187 (fun v_389 hv_389 hf_390 => ?_)
                obtain ⟨y_391, rfl, -, -⟩ := tt_vj hv_389
                refine jj_lload C dX1_takeIn_190 rfl ?_
                obtain ⟨y_392, ey_392⟩ : ∃ z : Int64, y_391 + y_344 = z := ⟨_, rfl⟩
                refine jj_ladd (v := y_392) C dX1_takeIn_192 ey_392 ?_
                refine rl_put C hok_387 jk_9 3 (by decide) jw_df3b225d28 (t := (1, (-9223372036854775808), 9223372036854775807)) ka_351 (by decide) rfl rfl rfl (tt_ja y_392) rfl rfl dX1_takeIn_193 (fun pl_393 hok_394 tr hn tl => ?_)
                replace hf_114 := tr _ _ _ (Or.inl (tt_ne hk1 ka_351 (by decide))) hf_114
                replace hf_118 := tr _ _ _ (Or.inl (tt_ne hk1 ka_351 (by decide))) hf_118
                replace hf_341 := tr _ _ _ (Or.inl (tt_ne hk2 ka_351 (by decide))) hf_341
                replace hf_348 := tr _ _ _ (Or.inl (tt_ne hk1 ka_351 (by decide))) hf_348
                replace hf_353 := tr _ _ _ (Or.inr (by decide)) hf_353
                replace hf_356 := tr _ _ _ (Or.inl (tt_ne hk1 ka_351 (by decide))) hf_356
                replace hf_368 := tr _ _ _ (Or.inl (tt_ne hk2 ka_351 (by decide))) hf_368
                replace hf_371 := tr _ _ _ (Or.inr (by decide)) hf_371
                replace hf_388 := tr _ _ _ (Or.inr (by decide)) hf_388
                have hf_395 := hn
                replace hfr := hfr.put ka_351 tr (by decide)
                replace hfa := hfa.all tl
                refine jj_aload_n C dX1_takeIn_196 rfl ?_
                refine tt_get C hok_394 jk_2 10 (by decide) jw_489e37c5a2 (t := (2, 5, 0)) hk1 (by decide) rfl rfl dX1_takeIn_197 (fun v_396 hv_396 hf_397 => ?_)
                obtain ⟨a_398, rfl, ka_398⟩ := tt_vr hv_396
                refine jj_iconst (v := 2) C dX1_takeIn_200 (by decide) ?_
                refine jj_dup2 C dX1_takeIn_201 rfl rfl ?_
                refine tt_lald C hok_394 (t := (1, (-9223372036854775808), 9223372036854775807)) ka_398 (by decide) rfl (vp_in_iff.mpr (by decide)) dX1_takeIn_202 (fun v_399 hv_399 => ?_)
                refine jj_aload_n C dX1_takeIn_203 rfl ?_
                refine tt_getF C hok_394 jk_7 3 (by decide) jw_1a2f98b2b0 (t := (1, (-9223372036854775808), 9223372036854775807)) hk2 (by decide) rfl rfl hf_341 dX1_takeIn_204 ?_
                obtain ⟨y_400, ey_400⟩ : ∃ z : Int64, v_399 + y_342 = z := ⟨_, rfl⟩
                refine jj_ladd (v := y_400) C dX1_takeIn_207 ey_400 ?_
                refine tl_last C hok_394 (t := (1, (-9223372036854775808), 9223372036854775807)) ka_398 (by decide) rfl (vp_in_iff.mpr (by decide)) (tt_ja _) dX1_takeIn_208 (fun pl_401 hok_402 tr tl => ?_)
                replace hf_114 := tr _ _ _ hf_114
                replace hf_118 := tr _ _ _ hf_118
                replace hf_341 := tr _ _ _ hf_341
                replace hf_348 := tr _ _ _ hf_348
                replace hf_353 := tr _ _ _ hf_353
                replace hf_356 := tr _ _ _ hf_356
                replace hf_368 := tr _ _ _ hf_368
                replace hf_371 := tr _ _ _ hf_371
                replace hf_388 := tr _ _ _ hf_388
                replace hf_395 := tr _ _ _ hf_395
                replace hf_397 := tr _ _ _ hf_397
                replace hfr := hfr.arr tr
                replace hfa := hfa.wr ka_398 tl (by decide)
                refine jj_iconst (v := 1) C dX1_takeIn_209 (by decide) ?_
                exact jj_zret C rfl ⟨[], pl_401, rfl, rfl, hok_402, hfr, hfa, (Or.inr rfl)⟩ dX1_takeIn_210 (jj_le rfl) (jj_le rfl)
              · refine jj_lstore C dX1_takeIn_148 (by decide) rfl ?_
                refine jj_aload_n C dX1_takeIn_150 rfl ?_
                refine jj_aload_n C dX1_takeIn_151 rfl ?_
                refine tt_get C hok_359 jk_7 0 (by decide) jw_ca00009e69 (t := (0, (-2147483648), 2147483647)) hk2 (by decide) rfl rfl dX1_takeIn_152 (fun v_403 hv_403 hf_404 => ?_)
                obtain ⟨x_405, rfl, lx_405, ux_405⟩ := tt_vi hv_403
                refine jj_aload C dX1_takeIn_155 rfl ?_
                refine tt_get C hok_359 jk_9 0 (by decide) jw_e7cfa07cc9 (t := (0, (-2147483648), 2147483647)) ka_351 (by decide) rfl rfl dX1_takeIn_157 (fun v_406 hv_406 hf_407 => ?_)
                obtain ⟨x_408, rfl, lx_408, ux_408⟩ := tt_vi hv_406
                refine jj_lload C dX1_takeIn_160 rfl ?_
                refine jj_lload C dX1_takeIn_162 rfl ?_
                refine jj_lload C dX1_takeIn_164 rfl ?_
                obtain ⟨qc, gs, hqc⟩ := tt_recv (cx := []) hok_359 hk1 (by decide) rfl
                refine tt_callV (rest := []) C (tc_X0_addLot_2 hl D cA ak h1 x_405 x_408 y_344 y_366 hk1 hok_359) [] [] rfl rfl (by decide) (by decide) (by decide) qc hqc rfl rfl jw_336fd576a9 jw_c1ec506c02 jw_0fb782f899 jw_7d25d4fd32 jw_a7bf4567f9 jn_X0_addLot rfl (jj_le rfl) (jj_le rfl) (jj_le rfl) (jj_le rfl) (jj_le rfl) dX1_takeIn_166 rfl (fun _ _ _ hX => hX.elim) (fun rx pl_409 r O_412 => ?_)
                obtain ⟨rfl, hok_410, hr_411, hfa9, hR_414⟩ := O_412
                replace hf_114 := hr_411.at hk1 (by decide) (by decide) hf_114
                replace hf_118 := hr_411.at hk1 (by decide) (by decide) hf_118
                replace hf_341 := hr_411.at hk2 (by decide) (by decide) hf_341
                replace hf_348 := hr_411.at hk1 (by decide) (by decide) hf_348
                replace hf_353 := hr_411.at ka_351 (by decide) (by decide) hf_353
                replace hf_356 := hr_411.at hk1 (by decide) (by decide) hf_356
                replace hf_404 := hr_411.at hk2 (by decide) (by decide) hf_404
                replace hf_407 := hr_411.at ka_351 (by decide) (by decide) hf_407
                replace hfr := hfr.trans (hr_411.sub (by decide))
                replace hfa := hfa.trans (hfa9.sub (by decide))
                obtain ⟨a_417, ka_417, rfl⟩ := hR_414
                refine jj_pop C dX1_takeIn_169 rfl ?_
                refine jj_aload C dX1_takeIn_170 rfl ?_
                refine jj_dup C dX1_takeIn_172 rfl ?_
                refine tt_get C hok_410 jk_9 2 (by decide) jw_a25c79ea7a (t := (1, (-9223372036854775808), 9223372036854775807)) ka_351 (by decide) rfl rfl dX1_takeIn_173 (fun v_418 hv_418 hf_419 => ?_)
                obtain ⟨y_420, rfl, -, -⟩ := tt_vj hv_418
                refine jj_aload_n C dX1_takeIn_176 rfl ?_
                refine tt_getF C hok_410 jk_7 3 (by decide) jw_1a2f98b2b0 (t := (1, (-9223372036854775808), 9223372036854775807)) hk2 (by decide) rfl rfl hf_341 dX1_takeIn_177 ?_
                obtain ⟨y_421, ey_421⟩ : ∃ z : Int64, y_420 + y_342 = z := ⟨_, rfl⟩
                refine jj_ladd (v := y_421) C dX1_takeIn_180 ey_421 ?_
                refine rl_put C hok_410 jk_9 2 (by decide) jw_a25c79ea7a (t := (1, (-9223372036854775808), 9223372036854775807)) ka_351 (by decide) rfl rfl rfl (tt_ja y_421) rfl rfl dX1_takeIn_181 (fun pl_422 hok_423 tr hn tl => ?_)
                replace hf_114 := tr _ _ _ (Or.inl (tt_ne hk1 ka_351 (by decide))) hf_114
                replace hf_118 := tr _ _ _ (Or.inl (tt_ne hk1 ka_351 (by decide))) hf_118
                replace hf_341 := tr _ _ _ (Or.inl (tt_ne hk2 ka_351 (by decide))) hf_341
                replace hf_348 := tr _ _ _ (Or.inl (tt_ne hk1 ka_351 (by decide))) hf_348
                replace hf_353 := tr _ _ _ (Or.inr (by decide)) hf_353
                replace hf_356 := tr _ _ _ (Or.inl (tt_ne hk1 ka_351 (by decide))) hf_356
                replace hf_404 := tr _ _ _ (Or.inl (tt_ne hk2 ka_351 (by decide))) hf_404
                replace hf_407 := tr _ _ _ (Or.inr (by decide)) hf_407
                have hf_424 := hn
                replace hfr := hfr.put ka_351 tr (by decide)
                replace hfa := hfa.all tl
                refine jj_aload C dX1_takeIn_184 rfl ?_
                refine jj_dup C dX1_takeIn_186 rfl ?_
                refine tt_get C hok_423 jk_9 3 (by decide) jw_df3b225d28 (t := (1, (-9223372036854775808), 9223372036854775807)) ka_351 (by decide) rfl rfl dX1_takeIn_187 (fun v_425 hv_425 hf_426 => ?_)
                obtain ⟨y_427, rfl, -, -⟩ := tt_vj hv_425
                refine jj_lload C dX1_takeIn_190 rfl ?_
                obtain ⟨y_428, ey_428⟩ : ∃ z : Int64, y_427 + y_344 = z := ⟨_, rfl⟩
                refine jj_ladd (v := y_428) C dX1_takeIn_192 ey_428 ?_
                refine rl_put C hok_423 jk_9 3 (by decide) jw_df3b225d28 (t := (1, (-9223372036854775808), 9223372036854775807)) ka_351 (by decide) rfl rfl rfl (tt_ja y_428) rfl rfl dX1_takeIn_193 (fun pl_429 hok_430 tr hn tl => ?_)
                replace hf_114 := tr _ _ _ (Or.inl (tt_ne hk1 ka_351 (by decide))) hf_114
                replace hf_118 := tr _ _ _ (Or.inl (tt_ne hk1 ka_351 (by decide))) hf_118
                replace hf_341 := tr _ _ _ (Or.inl (tt_ne hk2 ka_351 (by decide))) hf_341
                replace hf_348 := tr _ _ _ (Or.inl (tt_ne hk1 ka_351 (by decide))) hf_348
                replace hf_353 := tr _ _ _ (Or.inr (by decide)) hf_353
                replace hf_356 := tr _ _ _ (Or.inl (tt_ne hk1 ka_351 (by decide))) hf_356
                replace hf_404 := tr _ _ _ (Or.inl (tt_ne hk2 ka_351 (by decide))) hf_404
                replace hf_407 := tr _ _ _ (Or.inr (by decide)) hf_407
                replace hf_424 := tr _ _ _ (Or.inr (by decide)) hf_424
                have hf_431 := hn
                replace hfr := hfr.put ka_351 tr (by decide)
                replace hfa := hfa.all tl
                refine jj_aload_n C dX1_takeIn_196 rfl ?_
                refine tt_get C hok_430 jk_2 10 (by decide) jw_489e37c5a2 (t := (2, 5, 0)) hk1 (by decide) rfl rfl dX1_takeIn_197 (fun v_432 hv_432 hf_433 => ?_)
                obtain ⟨a_434, rfl, ka_434⟩ := tt_vr hv_432
                refine jj_iconst (v := 2) C dX1_takeIn_200 (by decide) ?_
                refine jj_dup2 C dX1_takeIn_201 rfl rfl ?_
                refine tt_lald C hok_430 (t := (1, (-9223372036854775808), 9223372036854775807)) ka_434 (by decide) rfl (vp_in_iff.mpr (by decide)) dX1_takeIn_202 (fun v_435 hv_435 => ?_)
                refine jj_aload_n C dX1_takeIn_203 rfl ?_
                refine tt_getF C hok_430 jk_7 3 (by decide) jw_1a2f98b2b0 (t := (1, (-9223372036854775808), 9223372036854775807)) hk2 (by decide) rfl rfl hf_341 dX1_takeIn_204 ?_
                obtain ⟨y_436, ey_436⟩ : ∃ z : Int64, v_435 + y_342 = z := ⟨_, rfl⟩
                refine jj_ladd (v := y_436) C dX1_takeIn_207 ey_436 ?_
                refine tl_last C hok_430 (t := (1, (-9223372036854775808), 9223372036854775807)) ka_434 (by decide) rfl (vp_in_iff.mpr (by decide)) (tt_ja _) dX1_takeIn_208 (fun pl_437 hok_438 tr tl => ?_)
                replace hf_114 := tr _ _ _ hf_114
                replace hf_118 := tr _ _ _ hf_118
                replace hf_341 := tr _ _ _ hf_341
                replace hf_348 := tr _ _ _ hf_348
                replace hf_353 := tr _ _ _ hf_353
                replace hf_356 := tr _ _ _ hf_356
                replace hf_404 := tr _ _ _ hf_404
                replace hf_407 := tr _ _ _ hf_407
                replace hf_424 := tr _ _ _ hf_424
                replace hf_431 := tr _ _ _ hf_431
                replace hf_433 := tr _ _ _ hf_433
                replace hfr := hfr.arr tr
                replace hfa := hfa.wr ka_434 tl (by decide)
                refine jj_iconst (v := 1) C dX1_takeIn_209 (by decide) ?_
                exact jj_zret C rfl ⟨[], pl_437, rfl, rfl, hok_438, hfr, hfa, (Or.inr rfl)⟩ dX1_takeIn_210 (jj_le rfl) (jj_le rfl)
            · refine jj_iconst (v := 0) C dX1_takeIn_110 (by decide) ?_
              exact jj_zret C rfl ⟨[], pl0, rfl, rfl, hok, hfr, hfa, (Or.inl rfl)⟩ dX1_takeIn_111 (jj_le rfl) (jj_le rfl)
    · have z_c_116 := jc_nlt (a := (p3).toInt) (b := (x_115).toInt) c_116 rfl rfl
      refine jj_iconst (v := 1) C dX1_takeIn_12 (by decide) ?_
      refine jj_goto (tgt := 17) C dX1_takeIn_13 (by decide) ?_
      refine jj_istore C dX1_takeIn_17 (by decide) rfl ?_
      refine jj_iload C dX1_takeIn_19 rfl ?_
      refine jj_if_neT (tgt := 32) C dX1_takeIn_21 (by decide) (by decide) ?_
      refine jj_ldc2 (v := 1000000) C dX1_takeIn_32 jw_39e30070ed ?_
      refine jj_goto (tgt := 47) C dX1_takeIn_35 (by decide) ?_
      refine jj_lstore C dX1_takeIn_47 (by decide) rfl ?_
      refine jj_lload C dX1_takeIn_49 rfl ?_
      refine jj_lconst (v := 0) C dX1_takeIn_51 (by decide) ?_
      refine jj_lcmp_leF (tgt := 79) C dX1_takeIn_52 dX1_takeIn_53 (by decide) (by decide) ?_
      refine jj_aload_n C dX1_takeIn_56 rfl ?_
      refine tt_get C hok jk_2 8 (by decide) jw_eaf43346a8 (t := (0, 0, 40)) hk1 (by decide) rfl rfl dX1_takeIn_57 (fun v_439 hv_439 hf_440 => ?_)
      obtain ⟨x_441, rfl, lx_441, ux_441⟩ := tt_vi hv_439
      refine jj_bipush (v := 40) C dX1_takeIn_60 (by decide) ?_
      refine jj_icmp_ge (tgt := 79) C dX1_takeIn_62 (by decide) (fun c_442 => ?_) (fun c_442 => ?_)
      · have z_c_442 := jc_le (a := (40)) (b := (x_441).toInt) c_442 (by decide) rfl
        refine jj_iconst (v := 0) C dX1_takeIn_79 (by decide) ?_
        exact jj_zret C rfl ⟨[], pl0, rfl, rfl, hok, hfr, hfa, (Or.inl rfl)⟩ dX1_takeIn_80 (jj_le rfl) (jj_le rfl)
      · have z_c_442 := jc_nle (a := (40)) (b := (x_441).toInt) c_442 (by decide) rfl
        refine jj_iload C dX1_takeIn_65 rfl ?_
        refine jj_if_eqF (tgt := 81) C dX1_takeIn_67 (by decide) (by decide) ?_
        refine jj_aload_n C dX1_takeIn_70 rfl ?_
        refine tt_getF C hok jk_2 7 (by decide) jw_1a34255153 (t := (0, 0, 6)) hk1 (by decide) rfl rfl hf_114 dX1_takeIn_71 ?_
        refine jj_bipush (v := 6) C dX1_takeIn_74 (by decide) ?_
        refine jj_icmp_lt (tgt := 81) C dX1_takeIn_76 (by decide) (fun c_443 => ?_) (fun c_443 => ?_)
        · have z_c_443 := jc_lt (a := (x_115).toInt) (b := (6)) c_443 rfl (by decide)
          refine jj_aload_n C dX1_takeIn_81 rfl ?_
          refine tt_get C hok jk_7 3 (by decide) jw_1a2f98b2b0 (t := (1, (-9223372036854775808), 9223372036854775807)) hk2 (by decide) rfl rfl dX1_takeIn_82 (fun v_444 hv_444 hf_445 => ?_)
          obtain ⟨y_446, rfl, -, -⟩ := tt_vj hv_444
          refine jj_ldc2 (v := 100000) C dX1_takeIn_85 jw_8b2b15bcdc ?_
          obtain ⟨y_447, ey_447⟩ : ∃ z : Int64, y_446 * (100000 : Int64) = z := ⟨_, rfl⟩
          refine jj_lmul (v := y_447) C dX1_takeIn_88 ey_447 ?_
          refine jj_lload C dX1_takeIn_89 rfl ?_
          obtain ⟨y_448, ey_448⟩ : ∃ z : Int64, y_447 / (1000000 : Int64) = z := ⟨_, rfl⟩
          refine jj_ldiv (v := y_448) C dX1_takeIn_91 (by decide) ey_448 ?_
          refine jj_lstore C dX1_takeIn_92 (by decide) rfl ?_
          refine jj_lload C dX1_takeIn_94 rfl ?_
          refine jj_lconst (v := 1) C dX1_takeIn_96 (by decide) ?_
          refine jj_lcmp_lt (tgt := 110) C dX1_takeIn_97 dX1_takeIn_98 (by decide) (fun c_449 => ?_) (fun c_449 => ?_)
          · refine jj_iconst (v := 0) C dX1_takeIn_110 (by decide) ?_
            exact jj_zret C rfl ⟨[], pl0, rfl, rfl, hok, hfr, hfa, (Or.inl rfl)⟩ dX1_takeIn_111 (jj_le rfl) (jj_le rfl)
          · refine jj_lload C dX1_takeIn_101 rfl ?_
            refine jj_ldc2 (v := 10000000) C dX1_takeIn_103 jw_c1baced628 ?_
            refine jj_lcmp_le (tgt := 112) C dX1_takeIn_106 dX1_takeIn_107 (by decide) (fun c_450 => ?_) (fun c_450 => ?_)
            · refine jj_iload C dX1_takeIn_112 rfl ?_
              refine jj_if_eqF (tgt := 124) C dX1_takeIn_114 (by decide) (by decide) ?_
              refine jj_aload_n C dX1_takeIn_117 rfl ?_
              obtain ⟨qc, gs, hqc⟩ := tt_recv (cx := []) hok hk1 (by decide) rfl
              refine tt_callV (rest := []) C (tc_X0_beginSeries_1 hl D cA ak h1 hk1 hok) [] [] rfl rfl (by decide) (by decide) (by decide) qc hqc rfl rfl jw_40082dbd80 jw_d38a131825 jw_91f7b54243 jw_7d25d4fd32 jw_89a78d52f3 jn_X0_beginSeries rfl (jj_le rfl) (jj_le rfl) (jj_le rfl) (jj_le rfl) (jj_le rfl) dX1_takeIn_118 rfl (fun _ _ _ hX => hX.elim) (fun rx pl_451 r O_454 => ?_)
              obtain ⟨rfl, hok_452, hr_453, hfa9, hR_456⟩ := O_454
              replace hf_440 := hr_453.at hk1 (by decide) (by decide) hf_440
              replace hf_445 := hr_453.at hk2 (by decide) (by decide) hf_445
              replace hfr := hfr.trans (hr_453.sub (by decide))
              replace hfa := hfa.trans (hfa9.sub (by decide))
              obtain ⟨a_459, ka_459, rfl⟩ := hR_456
              refine jj_goto (tgt := 130) C dX1_takeIn_121 (by decide) ?_
              refine jj_astore C dX1_takeIn_130 (by decide) rfl ?_
              refine jj_lload C dX1_takeIn_132 rfl ?_
              refine jj_aload C dX1_takeIn_134 rfl ?_
              refine tt_get C hok_452 jk_9 4 (by decide) jw_0a98b03de8 (t := (1, (-9223372036854775808), 9223372036854775807)) ka_459 (by decide) rfl rfl dX1_takeIn_136 (fun v_460 hv_460 hf_461 => ?_)
              obtain ⟨y_462, rfl, -, -⟩ := tt_vj hv_460
              refine jj_lload C dX1_takeIn_139 rfl ?_
              refine jj_aload_n C dX1_takeIn_141 rfl ?_
              refine tt_get C hok_452 jk_2 3 (by decide) jw_8322fbab96 (t := (0, (-2147483648), 2147483647)) hk1 (by decide) rfl rfl dX1_takeIn_142 (fun v_463 hv_463 hf_464 => ?_)
              obtain ⟨x_465, rfl, lx_465, ux_465⟩ := tt_vi hv_463
              refine tt_callS (rest := []) C (tc_X2_dueOn_2 hl D cA ak y_448 y_462 x_465 hok_452) [] [] rfl rfl (by decide) (by decide) (by decide) jw_2f594c34e3 jw_06dd566a56 jw_79af3f4029 jw_eebd9e2034 jn_X2_dueOn rfl (jj_le rfl) (jj_le rfl) (jj_le rfl) (jj_le rfl) (jj_le rfl) dX1_takeIn_145 rfl (fun _ _ _ hX => hX.elim) (fun rx pl_466 r O_469 => ?_)
              obtain ⟨rfl, hok_467, hr_468, hfa9, hR_471⟩ := O_469
              replace hf_440 := hr_468.at hk1 (by decide) (by decide) hf_440
              replace hf_445 := hr_468.at hk2 (by decide) (by decide) hf_445
              replace hf_461 := hr_468.at ka_459 (by decide) (by decide) hf_461
              replace hf_464 := hr_468.at hk1 (by decide) (by decide) hf_464
              replace hfr := hfr.trans (hr_468.sub (by decide))
              replace hfa := hfa.trans (hfa9.sub (by decide))
              rcases hR_471 with rfl | ⟨y_474, rfl⟩
              · refine jj_lstore C dX1_takeIn_148 (by decide) rfl ?_
                refine jj_aload_n C dX1_takeIn_150 rfl ?_
                refine jj_aload_n C dX1_takeIn_151 rfl ?_
                refine tt_get C hok_467 jk_7 0 (by decide) jw_ca00009e69 (t := (0, (-2147483648), 2147483647)) hk2 (by decide) rfl rfl dX1_takeIn_152 (fun v_475 hv_475 hf_476 => ?_)
                obtain ⟨x_477, rfl, lx_477, ux_477⟩ := tt_vi hv_475
                refine jj_aload C dX1_takeIn_155 rfl ?_
                refine tt_get C hok_467 jk_9 0 (by decide) jw_e7cfa07cc9 (t := (0, (-2147483648), 2147483647)) ka_459 (by decide) rfl rfl dX1_takeIn_157 (fun v_478 hv_478 hf_479 => ?_)
                obtain ⟨x_480, rfl, lx_480, ux_480⟩ := tt_vi hv_478
                refine jj_lload C dX1_takeIn_160 rfl ?_
                refine jj_lload C dX1_takeIn_162 rfl ?_
                refine jj_lload C dX1_takeIn_164 rfl ?_
                obtain ⟨qc, gs, hqc⟩ := tt_recv (cx := []) hok_467 hk1 (by decide) rfl
                refine tt_callV (rest := []) C (tc_X0_addLot_1 hl D cA ak h1 x_477 x_480 y_448 hk1 hok_467) [] [] rfl rfl (by decide) (by decide) (by decide) qc hqc rfl rfl jw_336fd576a9 jw_c1ec506c02 jw_0fb782f899 jw_7d25d4fd32 jw_a7bf4567f9 jn_X0_addLot rfl (jj_le rfl) (jj_le rfl) (jj_le rfl) (jj_le rfl) (jj_le rfl) dX1_takeIn_166 rfl (fun _ _ _ hX => hX.elim) (fun rx pl_481 r O_484 => ?_)
                obtain ⟨rfl, hok_482, hr_483, hfa9, hR_486⟩ := O_484
                replace hf_445 := hr_483.at hk2 (by decide) (by decide) hf_445
                replace hf_461 := hr_483.at ka_459 (by decide) (by decide) hf_461
                replace hf_464 := hr_483.at hk1 (by decide) (by decide) hf_464
                replace hf_476 := hr_483.at hk2 (by decide) (by decide) hf_476
                replace hf_479 := hr_483.at ka_459 (by decide) (by decide) hf_479
                replace hfr := hfr.trans (hr_483.sub (by decide))
                replace hfa := hfa.trans (hfa9.sub (by decide))
                obtain ⟨a_489, ka_489, rfl⟩ := hR_486
                refine jj_pop C dX1_takeIn_169 rfl ?_
                refine jj_aload C dX1_takeIn_170 rfl ?_
                refine jj_dup C dX1_takeIn_172 rfl ?_
                refine tt_get C hok_482 jk_9 2 (by decide) jw_a25c79ea7a (t := (1, (-9223372036854775808), 9223372036854775807)) ka_459 (by decide) rfl rfl dX1_takeIn_173 (fun v_490 hv_490 hf_491 => ?_)
                obtain ⟨y_492, rfl, -, -⟩ := tt_vj hv_490
                refine jj_aload_n C dX1_takeIn_176 rfl ?_
                refine tt_getF C hok_482 jk_7 3 (by decide) jw_1a2f98b2b0 (t := (1, (-9223372036854775808), 9223372036854775807)) hk2 (by decide) rfl rfl hf_445 dX1_takeIn_177 ?_
                obtain ⟨y_493, ey_493⟩ : ∃ z : Int64, y_492 + y_446 = z := ⟨_, rfl⟩
                refine jj_ladd (v := y_493) C dX1_takeIn_180 ey_493 ?_
                refine rl_put C hok_482 jk_9 2 (by decide) jw_a25c79ea7a (t := (1, (-9223372036854775808), 9223372036854775807)) ka_459 (by decide) rfl rfl rfl (tt_ja y_493) rfl rfl dX1_takeIn_181 (fun pl_494 hok_495 tr hn tl => ?_)
                replace hf_445 := tr _ _ _ (Or.inl (tt_ne hk2 ka_459 (by decide))) hf_445
                replace hf_461 := tr _ _ _ (Or.inr (by decide)) hf_461
                replace hf_464 := tr _ _ _ (Or.inl (tt_ne hk1 ka_459 (by decide))) hf_464
                replace hf_476 := tr _ _ _ (Or.inl (tt_ne hk2 ka_459 (by decide))) hf_476
                replace hf_479 := tr _ _ _ (Or.inr (by decide)) hf_479
                have hf_496 := hn
                replace hfr := hfr.put ka_459 tr (by decide)
                replace hfa := hfa.all tl
                refine jj_aload C dX1_takeIn_184 rfl ?_
                refine jj_dup C dX1_takeIn_186 rfl ?_
                refine tt_get C hok_495 jk_9 3 (by decide) jw_df3b225d28 (t := (1, (-9223372036854775808), 9223372036854775807)) ka_459 (by decide) rfl rfl dX1_takeIn_187 (fun v_497 hv_497 hf_498 => ?_)
                obtain ⟨y_499, rfl, -, -⟩ := tt_vj hv_497
                refine jj_lload C dX1_takeIn_190 rfl ?_
                obtain ⟨y_500, ey_500⟩ : ∃ z : Int64, y_499 + y_448 = z := ⟨_, rfl⟩
                refine jj_ladd (v := y_500) C dX1_takeIn_192 ey_500 ?_
                refine rl_put C hok_495 jk_9 3 (by decide) jw_df3b225d28 (t := (1, (-9223372036854775808), 9223372036854775807)) ka_459 (by decide) rfl rfl rfl (tt_ja y_500) rfl rfl dX1_takeIn_193 (fun pl_501 hok_502 tr hn tl => ?_)
                replace hf_445 := tr _ _ _ (Or.inl (tt_ne hk2 ka_459 (by decide))) hf_445
                replace hf_461 := tr _ _ _ (Or.inr (by decide)) hf_461
                replace hf_464 := tr _ _ _ (Or.inl (tt_ne hk1 ka_459 (by decide))) hf_464
                replace hf_476 := tr _ _ _ (Or.inl (tt_ne hk2 ka_459 (by decide))) hf_476
                replace hf_479 := tr _ _ _ (Or.inr (by decide)) hf_479
                replace hf_496 := tr _ _ _ (Or.inr (by decide)) hf_496
                have hf_503 := hn
                replace hfr := hfr.put ka_459 tr (by decide)
                replace hfa := hfa.all tl
                refine jj_aload_n C dX1_takeIn_196 rfl ?_
                refine tt_get C hok_502 jk_2 10 (by decide) jw_489e37c5a2 (t := (2, 5, 0)) hk1 (by decide) rfl rfl dX1_takeIn_197 (fun v_504 hv_504 hf_505 => ?_)
                obtain ⟨a_506, rfl, ka_506⟩ := tt_vr hv_504
                refine jj_iconst (v := 2) C dX1_takeIn_200 (by decide) ?_
                refine jj_dup2 C dX1_takeIn_201 rfl rfl ?_
                refine tt_lald C hok_502 (t := (1, (-9223372036854775808), 9223372036854775807)) ka_506 (by decide) rfl (vp_in_iff.mpr (by decide)) dX1_takeIn_202 (fun v_507 hv_507 => ?_)
                refine jj_aload_n C dX1_takeIn_203 rfl ?_
                refine tt_getF C hok_502 jk_7 3 (by decide) jw_1a2f98b2b0 (t := (1, (-9223372036854775808), 9223372036854775807)) hk2 (by decide) rfl rfl hf_445 dX1_takeIn_204 ?_
                obtain ⟨y_508, ey_508⟩ : ∃ z : Int64, v_507 + y_446 = z := ⟨_, rfl⟩
                refine jj_ladd (v := y_508) C dX1_takeIn_207 ey_508 ?_
                refine tl_last C hok_502 (t := (1, (-9223372036854775808), 9223372036854775807)) ka_506 (by decide) rfl (vp_in_iff.mpr (by decide)) (tt_ja _) dX1_takeIn_208 (fun pl_509 hok_510 tr tl => ?_)
                replace hf_445 := tr _ _ _ hf_445
                replace hf_461 := tr _ _ _ hf_461
                replace hf_464 := tr _ _ _ hf_464
                replace hf_476 := tr _ _ _ hf_476
                replace hf_479 := tr _ _ _ hf_479
                replace hf_496 := tr _ _ _ hf_496
                replace hf_503 := tr _ _ _ hf_503
                replace hf_505 := tr _ _ _ hf_505
                replace hfr := hfr.arr tr
                replace hfa := hfa.wr ka_506 tl (by decide)
                refine jj_iconst (v := 1) C dX1_takeIn_209 (by decide) ?_
                exact jj_zret C rfl ⟨[], pl_509, rfl, rfl, hok_510, hfr, hfa, (Or.inr rfl)⟩ dX1_takeIn_210 (jj_le rfl) (jj_le rfl)
              · refine jj_lstore C dX1_takeIn_148 (by decide) rfl ?_
                refine jj_aload_n C dX1_takeIn_150 rfl ?_
                refine jj_aload_n C dX1_takeIn_151 rfl ?_
                refine tt_get C hok_467 jk_7 0 (by decide) jw_ca00009e69 (t := (0, (-2147483648), 2147483647)) hk2 (by decide) rfl rfl dX1_takeIn_152 (fun v_511 hv_511 hf_512 => ?_)
                obtain ⟨x_513, rfl, lx_513, ux_513⟩ := tt_vi hv_511
                refine jj_aload C dX1_takeIn_155 rfl ?_
                refine tt_get C hok_467 jk_9 0 (by decide) jw_e7cfa07cc9 (t := (0, (-2147483648), 2147483647)) ka_459 (by decide) rfl rfl dX1_takeIn_157 (fun v_514 hv_514 hf_515 => ?_)
                obtain ⟨x_516, rfl, lx_516, ux_516⟩ := tt_vi hv_514
                refine jj_lload C dX1_takeIn_160 rfl ?_
                refine jj_lload C dX1_takeIn_162 rfl ?_
                refine jj_lload C dX1_takeIn_164 rfl ?_
                obtain ⟨qc, gs, hqc⟩ := tt_recv (cx := []) hok_467 hk1 (by decide) rfl
                refine tt_callV (rest := []) C (tc_X0_addLot_2 hl D cA ak h1 x_513 x_516 y_448 y_474 hk1 hok_467) [] [] rfl rfl (by decide) (by decide) (by decide) qc hqc rfl rfl jw_336fd576a9 jw_c1ec506c02 jw_0fb782f899 jw_7d25d4fd32 jw_a7bf4567f9 jn_X0_addLot rfl (jj_le rfl) (jj_le rfl) (jj_le rfl) (jj_le rfl) (jj_le rfl) dX1_takeIn_166 rfl (fun _ _ _ hX => hX.elim) (fun rx pl_517 r O_520 => ?_)
                obtain ⟨rfl, hok_518, hr_519, hfa9, hR_522⟩ := O_520
                replace hf_445 := hr_519.at hk2 (by decide) (by decide) hf_445
                replace hf_461 := hr_519.at ka_459 (by decide) (by decide) hf_461
                replace hf_464 := hr_519.at hk1 (by decide) (by decide) hf_464
                replace hf_512 := hr_519.at hk2 (by decide) (by decide) hf_512
                replace hf_515 := hr_519.at ka_459 (by decide) (by decide) hf_515
                replace hfr := hfr.trans (hr_519.sub (by decide))
                replace hfa := hfa.trans (hfa9.sub (by decide))
                obtain ⟨a_525, ka_525, rfl⟩ := hR_522
                refine jj_pop C dX1_takeIn_169 rfl ?_
                refine jj_aload C dX1_takeIn_170 rfl ?_
                refine jj_dup C dX1_takeIn_172 rfl ?_
                refine tt_get C hok_518 jk_9 2 (by decide) jw_a25c79ea7a (t := (1, (-9223372036854775808), 9223372036854775807)) ka_459 (by decide) rfl rfl dX1_takeIn_173 (fun v_526 hv_526 hf_527 => ?_)
                obtain ⟨y_528, rfl, -, -⟩ := tt_vj hv_526
                refine jj_aload_n C dX1_takeIn_176 rfl ?_
                refine tt_getF C hok_518 jk_7 3 (by decide) jw_1a2f98b2b0 (t := (1, (-9223372036854775808), 9223372036854775807)) hk2 (by decide) rfl rfl hf_445 dX1_takeIn_177 ?_
                obtain ⟨y_529, ey_529⟩ : ∃ z : Int64, y_528 + y_446 = z := ⟨_, rfl⟩
                refine jj_ladd (v := y_529) C dX1_takeIn_180 ey_529 ?_
                refine rl_put C hok_518 jk_9 2 (by decide) jw_a25c79ea7a (t := (1, (-9223372036854775808), 9223372036854775807)) ka_459 (by decide) rfl rfl rfl (tt_ja y_529) rfl rfl dX1_takeIn_181 (fun pl_530 hok_531 tr hn tl => ?_)
                replace hf_445 := tr _ _ _ (Or.inl (tt_ne hk2 ka_459 (by decide))) hf_445
                replace hf_461 := tr _ _ _ (Or.inr (by decide)) hf_461
                replace hf_464 := tr _ _ _ (Or.inl (tt_ne hk1 ka_459 (by decide))) hf_464
                replace hf_512 := tr _ _ _ (Or.inl (tt_ne hk2 ka_459 (by decide))) hf_512
                replace hf_515 := tr _ _ _ (Or.inr (by decide)) hf_515
                have hf_532 := hn
                replace hfr := hfr.put ka_459 tr (by decide)
                replace hfa := hfa.all tl
                refine jj_aload C dX1_takeIn_184 rfl ?_
                refine jj_dup C dX1_takeIn_186 rfl ?_
                refine tt_get C hok_531 jk_9 3 (by decide) jw_df3b225d28 (t := (1, (-9223372036854775808), 9223372036854775807)) ka_459 (by decide) rfl rfl dX1_takeIn_187 (fun v_533 hv_533 hf_534 => ?_)
                obtain ⟨y_535, rfl, -, -⟩ := tt_vj hv_533
                refine jj_lload C dX1_takeIn_190 rfl ?_
                obtain ⟨y_536, ey_536⟩ : ∃ z : Int64, y_535 + y_448 = z := ⟨_, rfl⟩
                refine jj_ladd (v := y_536) C dX1_takeIn_192 ey_536 ?_
                refine rl_put C hok_531 jk_9 3 (by decide) jw_df3b225d28 (t := (1, (-9223372036854775808), 9223372036854775807)) ka_459 (by decide) rfl rfl rfl (tt_ja y_536) rfl rfl dX1_takeIn_193 (fun pl_537 hok_538 tr hn tl => ?_)
                replace hf_445 := tr _ _ _ (Or.inl (tt_ne hk2 ka_459 (by decide))) hf_445
                replace hf_461 := tr _ _ _ (Or.inr (by decide)) hf_461
                replace hf_464 := tr _ _ _ (Or.inl (tt_ne hk1 ka_459 (by decide))) hf_464
                replace hf_512 := tr _ _ _ (Or.inl (tt_ne hk2 ka_459 (by decide))) hf_512
                replace hf_515 := tr _ _ _ (Or.inr (by decide)) hf_515
                replace hf_532 := tr _ _ _ (Or.inr (by decide)) hf_532
                have hf_539 := hn
                replace hfr := hfr.put ka_459 tr (by decide)
                replace hfa := hfa.all tl
                refine jj_aload_n C dX1_takeIn_196 rfl ?_
                refine tt_get C hok_538 jk_2 10 (by decide) jw_489e37c5a2 (t := (2, 5, 0)) hk1 (by decide) rfl rfl dX1_takeIn_197 (fun v_540 hv_540 hf_541 => ?_)
                obtain ⟨a_542, rfl, ka_542⟩ := tt_vr hv_540
                refine jj_iconst (v := 2) C dX1_takeIn_200 (by decide) ?_
                refine jj_dup2 C dX1_takeIn_201 rfl rfl ?_
                refine tt_lald C hok_538 (t := (1, (-9223372036854775808), 9223372036854775807)) ka_542 (by decide) rfl (vp_in_iff.mpr (by decide)) dX1_takeIn_202 (fun v_543 hv_543 => ?_)
                refine jj_aload_n C dX1_takeIn_203 rfl ?_
                refine tt_getF C hok_538 jk_7 3 (by decide) jw_1a2f98b2b0 (t := (1, (-9223372036854775808), 9223372036854775807)) hk2 (by decide) rfl rfl hf_445 dX1_takeIn_204 ?_
                obtain ⟨y_544, ey_544⟩ : ∃ z : Int64, v_543 + y_446 = z := ⟨_, rfl⟩
                refine jj_ladd (v := y_544) C dX1_takeIn_207 ey_544 ?_
                refine tl_last C hok_538 (t := (1, (-9223372036854775808), 9223372036854775807)) ka_542 (by decide) rfl (vp_in_iff.mpr (by decide)) (tt_ja _) dX1_takeIn_208 (fun pl_545 hok_546 tr tl => ?_)
                replace hf_445 := tr _ _ _ hf_445
                replace hf_461 := tr _ _ _ hf_461
                replace hf_464 := tr _ _ _ hf_464
                replace hf_512 := tr _ _ _ hf_512
                replace hf_515 := tr _ _ _ hf_515
                replace hf_532 := tr _ _ _ hf_532
                replace hf_539 := tr _ _ _ hf_539
                replace hf_541 := tr _ _ _ hf_541
                replace hfr := hfr.arr tr
                replace hfa := hfa.wr ka_542 tl (by decide)
                refine jj_iconst (v := 1) C dX1_takeIn_209 (by decide) ?_
                exact jj_zret C rfl ⟨[], pl_545, rfl, rfl, hok_546, hfr, hfa, (Or.inr rfl)⟩ dX1_takeIn_210 (jj_le rfl) (jj_le rfl)
            · refine jj_iconst (v := 0) C dX1_takeIn_110 (by decide) ?_
              exact jj_zret C rfl ⟨[], pl0, rfl, rfl, hok, hfr, hfa, (Or.inl rfl)⟩ dX1_takeIn_111 (jj_le rfl) (jj_le rfl)
        · have z_c_443 := jc_nlt (a := (x_115).toInt) (b := (6)) c_443 rfl (by decide)
          exfalso; omega

