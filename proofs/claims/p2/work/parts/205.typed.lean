set_option maxHeartbeats 4000000 in
set_option maxRecDepth 100000 in
theorem tc_X1_takeIn_2 {l : Launch} (hl : l.stackTraces = false) (D : va_G) (cA : Nat → ClassId) (ak : (Nat → Nat) × (Nat → Nat)) {Kd : Nat → Nat} (h0 : Nat) (h1 : Nat) (h2 : Nat) (p3 : Int32) (hk0 : Kd h0 = 9) (hk1 : Kd h1 = 1) (hk2 : Kd h2 = 4) (lp3 : (-1 : Int) ≤ p3.toInt) (up3 : p3.toInt ≤ 5) {pl0 : va_W} (hok : tt_ok tt_tk cA Kd pl0) : jj_M l D cA ak yX1_takeIn (.code yX1_takeIn cX1_takeIn 12 (some .boolean)) 2 51 0 0 ([] ++ pl0) [.ref h0, .ref h1, .ref h2, .int p3] (tt_O (fun rx pl1 r => rx = [] ∧ tt_ok tt_tk cA Kd pl1 ∧ tt_fr Kd [(1, 6), (1, 7), (1, 8), (2, 0), (2, 1), (2, 2), (2, 3), (2, 4), (3, 0), (3, 1), (3, 2), (3, 3), (3, 4), (3, 5)] pl0 pl1 ∧ ((r = some (.int 0)) ∨ (r = some (.int 1))))) (tt_OX (fun _ _ _ => False)) := by
  refine jj_start hl (by decide) jw_329 (jj_le rfl) ?_
  intro p e s m args below meth c A hargs hA C hex hmn
  have hfr := tt_fr.refl (K := Kd) (WS := [(1, 6), (1, 7), (1, 8), (2, 0), (2, 1), (2, 2), (2, 3), (2, 4), (3, 0), (3, 1), (3, 2), (3, 3), (3, 4), (3, 5)]) pl0
  refine jj_iload_n C dX1_takeIn_0 rfl ?_
  refine jj_if_lt (tgt := 12) C dX1_takeIn_1 (by decide) (fun c_1 => ?_) (fun c_1 => ?_)
  · have z_c_1 := jc_lt (a := (p3).toInt) (b := (0)) c_1 rfl (by decide)
    refine jj_iconst (v := 1) C dX1_takeIn_12 (by decide) ?_
    refine jj_goto (tgt := 17) C dX1_takeIn_13 (by decide) ?_
    refine jj_istore C dX1_takeIn_17 (by decide) rfl ?_
    refine jj_iload C dX1_takeIn_19 rfl ?_
    refine jj_if_neT (tgt := 32) C dX1_takeIn_21 (by decide) (by decide) ?_
    refine jj_ldc2 (v := 1000000) C dX1_takeIn_32 jw_330 ?_
    refine jj_goto (tgt := 47) C dX1_takeIn_35 (by decide) ?_
    refine jj_lstore C dX1_takeIn_47 (by decide) rfl ?_
    refine jj_lload C dX1_takeIn_49 rfl ?_
    refine jj_lconst (v := 0) C dX1_takeIn_51 (by decide) ?_
    refine jj_lcmp_leF (tgt := 79) C dX1_takeIn_52 dX1_takeIn_53 (by decide) (by decide) ?_
    refine jj_aload_n C dX1_takeIn_56 rfl ?_
    refine tt_get C hok jk_2 8 (by decide) jw_121 (t := (0, 0, 40)) hk1 (by decide) rfl rfl dX1_takeIn_57 (fun v_2 hv_2 hf_3 => ?_)
    obtain ⟨x_4, rfl, lx_4, ux_4⟩ := tt_vi hv_2
    refine jj_bipush (v := 40) C dX1_takeIn_60 (by decide) ?_
    refine jj_icmp_ge (tgt := 79) C dX1_takeIn_62 (by decide) (fun c_5 => ?_) (fun c_5 => ?_)
    · have z_c_5 := jc_le (a := (40)) (b := (x_4).toInt) c_5 (by decide) rfl
      refine jj_iconst (v := 0) C dX1_takeIn_79 (by decide) ?_
      exact jj_zret C rfl ⟨[], pl0, rfl, rfl, hok, hfr, (Or.inl rfl)⟩ dX1_takeIn_80 (jj_le rfl) (jj_le rfl)
    · have z_c_5 := jc_nle (a := (40)) (b := (x_4).toInt) c_5 (by decide) rfl
      refine jj_iload C dX1_takeIn_65 rfl ?_
      refine jj_if_eqF (tgt := 81) C dX1_takeIn_67 (by decide) (by decide) ?_
      refine jj_aload_n C dX1_takeIn_70 rfl ?_
      refine tt_get C hok jk_2 7 (by decide) jw_80 (t := (0, 0, 6)) hk1 (by decide) rfl rfl dX1_takeIn_71 (fun v_6 hv_6 hf_7 => ?_)
      obtain ⟨x_8, rfl, lx_8, ux_8⟩ := tt_vi hv_6
      refine jj_bipush (v := 6) C dX1_takeIn_74 (by decide) ?_
      refine jj_icmp_lt (tgt := 81) C dX1_takeIn_76 (by decide) (fun c_9 => ?_) (fun c_9 => ?_)
      · have z_c_9 := jc_lt (a := (x_8).toInt) (b := (6)) c_9 rfl (by decide)
        refine jj_aload_n C dX1_takeIn_81 rfl ?_
        refine tt_get C hok jk_7 3 (by decide) jw_118 (t := (1, (-9223372036854775808), 9223372036854775807)) hk2 (by decide) rfl rfl dX1_takeIn_82 (fun v_10 hv_10 hf_11 => ?_)
        obtain ⟨y_12, rfl, -, -⟩ := tt_vj hv_10
        refine jj_ldc2 (v := 100000) C dX1_takeIn_85 jw_331 ?_
        obtain ⟨y_13, ey_13⟩ : ∃ z : Int64, y_12 * (100000 : Int64) = z := ⟨_, rfl⟩
        refine jj_lmul (v := y_13) C dX1_takeIn_88 ey_13 ?_
        refine jj_lload C dX1_takeIn_89 rfl ?_
        obtain ⟨y_14, ey_14⟩ : ∃ z : Int64, y_13 / (1000000 : Int64) = z := ⟨_, rfl⟩
        refine jj_ldiv (v := y_14) C dX1_takeIn_91 (by decide) ey_14 ?_
        refine jj_lstore C dX1_takeIn_92 (by decide) rfl ?_
        refine jj_lload C dX1_takeIn_94 rfl ?_
        refine jj_lconst (v := 1) C dX1_takeIn_96 (by decide) ?_
        refine jj_lcmp_lt (tgt := 110) C dX1_takeIn_97 dX1_takeIn_98 (by decide) (fun c_15 => ?_) (fun c_15 => ?_)
        · refine jj_iconst (v := 0) C dX1_takeIn_110 (by decide) ?_
          exact jj_zret C rfl ⟨[], pl0, rfl, rfl, hok, hfr, (Or.inl rfl)⟩ dX1_takeIn_111 (jj_le rfl) (jj_le rfl)
        · refine jj_lload C dX1_takeIn_101 rfl ?_
          refine jj_ldc2 (v := 10000000) C dX1_takeIn_103 jw_332 ?_
          refine jj_lcmp_le (tgt := 112) C dX1_takeIn_106 dX1_takeIn_107 (by decide) (fun c_16 => ?_) (fun c_16 => ?_)
          · refine jj_iload C dX1_takeIn_112 rfl ?_
            refine jj_if_eqF (tgt := 124) C dX1_takeIn_114 (by decide) (by decide) ?_
            refine jj_aload_n C dX1_takeIn_117 rfl ?_
            obtain ⟨qc, gs, hqc⟩ := tt_recv (cx := []) hok hk1 (by decide) rfl
            refine tt_callV (rest := []) C (tc_X0_beginSeries_1 hl D cA ak h1 hk1 hok) [] [] rfl rfl (by decide) (by decide) (by decide) qc hqc rfl rfl jw_333 jw_344 jw_345 jw_133 jw_334 jn_X0_beginSeries rfl (jj_le rfl) (jj_le rfl) (jj_le rfl) (jj_le rfl) (jj_le rfl) dX1_takeIn_118 rfl (fun _ _ _ hX => hX.elim) (fun rx pl_17 r O_20 => ?_)
            obtain ⟨rfl, hok_18, hr_19, hR_22⟩ := O_20
            replace hf_3 := hr_19.at hk1 (by decide) (by decide) hf_3
            replace hf_11 := hr_19.at hk2 (by decide) (by decide) hf_11
            replace hfr := hfr.trans (hr_19.sub (by decide))
            obtain ⟨a_23, ka_23, rfl⟩ := hR_22
            refine jj_goto (tgt := 130) C dX1_takeIn_121 (by decide) ?_
            refine jj_astore C dX1_takeIn_130 (by decide) rfl ?_
            refine jj_lload C dX1_takeIn_132 rfl ?_
            refine jj_aload C dX1_takeIn_134 rfl ?_
            refine tt_get C hok_18 jk_9 4 (by decide) jw_172 (t := (1, (-9223372036854775808), 9223372036854775807)) ka_23 (by decide) rfl rfl dX1_takeIn_136 (fun v_24 hv_24 hf_25 => ?_)
            obtain ⟨y_26, rfl, -, -⟩ := tt_vj hv_24
            refine jj_lload C dX1_takeIn_139 rfl ?_
            refine jj_aload_n C dX1_takeIn_141 rfl ?_
            refine tt_get C hok_18 jk_2 3 (by decide) jw_149 (t := (0, (-2147483648), 2147483647)) hk1 (by decide) rfl rfl dX1_takeIn_142 (fun v_27 hv_27 hf_28 => ?_)
            obtain ⟨x_29, rfl, lx_29, ux_29⟩ := tt_vi hv_27
            refine tt_callS (rest := []) C (tc_X2_dueOn_2 hl D cA ak y_14 y_26 x_29 hok_18) [] [] rfl rfl (by decide) (by decide) (by decide) jw_173 jw_178 jw_175 jw_174 jn_X2_dueOn rfl (jj_le rfl) (jj_le rfl) (jj_le rfl) (jj_le rfl) (jj_le rfl) dX1_takeIn_145 rfl (fun _ _ _ hX => hX.elim) (fun rx pl_30 r O_33 => ?_)
            obtain ⟨rfl, hok_31, hr_32, hR_35⟩ := O_33
            replace hf_3 := hr_32.at hk1 (by decide) (by decide) hf_3
            replace hf_11 := hr_32.at hk2 (by decide) (by decide) hf_11
            replace hf_25 := hr_32.at ka_23 (by decide) (by decide) hf_25
            replace hf_28 := hr_32.at hk1 (by decide) (by decide) hf_28
            replace hfr := hfr.trans (hr_32.sub (by decide))
            rcases hR_35 with rfl | ⟨y_36, rfl⟩
            · refine jj_lstore C dX1_takeIn_148 (by decide) rfl ?_
              refine jj_aload_n C dX1_takeIn_150 rfl ?_
              refine jj_aload_n C dX1_takeIn_151 rfl ?_
              refine tt_get C hok_31 jk_7 0 (by decide) jw_117 (t := (0, (-2147483648), 2147483647)) hk2 (by decide) rfl rfl dX1_takeIn_152 (fun v_37 hv_37 hf_38 => ?_)
              obtain ⟨x_39, rfl, lx_39, ux_39⟩ := tt_vi hv_37
              refine jj_aload C dX1_takeIn_155 rfl ?_
              refine tt_get C hok_31 jk_9 0 (by decide) jw_347 (t := (0, (-2147483648), 2147483647)) ka_23 (by decide) rfl rfl dX1_takeIn_157 (fun v_40 hv_40 hf_41 => ?_)
              obtain ⟨x_42, rfl, lx_42, ux_42⟩ := tt_vi hv_40
              refine jj_lload C dX1_takeIn_160 rfl ?_
              refine jj_lload C dX1_takeIn_162 rfl ?_
              refine jj_lload C dX1_takeIn_164 rfl ?_
              obtain ⟨qc, gs, hqc⟩ := tt_recv (cx := []) hok_31 hk1 (by decide) rfl
              refine tt_callV (rest := []) C (tc_X0_addLot_1 hl D cA ak h1 x_39 x_42 y_14 hk1 hok_31) [] [] rfl rfl (by decide) (by decide) (by decide) qc hqc rfl rfl jw_348 jw_354 jw_355 jw_133 jw_349 jn_X0_addLot rfl (jj_le rfl) (jj_le rfl) (jj_le rfl) (jj_le rfl) (jj_le rfl) dX1_takeIn_166 rfl (fun _ _ _ hX => hX.elim) (fun rx pl_43 r O_46 => ?_)
              obtain ⟨rfl, hok_44, hr_45, hR_48⟩ := O_46
              replace hf_11 := hr_45.at hk2 (by decide) (by decide) hf_11
              replace hf_25 := hr_45.at ka_23 (by decide) (by decide) hf_25
              replace hf_28 := hr_45.at hk1 (by decide) (by decide) hf_28
              replace hf_38 := hr_45.at hk2 (by decide) (by decide) hf_38
              replace hf_41 := hr_45.at ka_23 (by decide) (by decide) hf_41
              replace hfr := hfr.trans (hr_45.sub (by decide))
              obtain ⟨a_49, ka_49, rfl⟩ := hR_48
              refine jj_pop C dX1_takeIn_169 rfl ?_
              refine jj_aload C dX1_takeIn_170 rfl ?_
              refine jj_dup C dX1_takeIn_172 rfl ?_
              refine tt_get C hok_44 jk_9 2 (by decide) jw_113 (t := (1, (-9223372036854775808), 9223372036854775807)) ka_23 (by decide) rfl rfl dX1_takeIn_173 (fun v_50 hv_50 hf_51 => ?_)
              obtain ⟨y_52, rfl, -, -⟩ := tt_vj hv_50
              refine jj_aload_n C dX1_takeIn_176 rfl ?_
              refine tt_getF C hok_44 jk_7 3 (by decide) jw_118 (t := (1, (-9223372036854775808), 9223372036854775807)) hk2 (by decide) rfl rfl hf_11 dX1_takeIn_177 ?_
              obtain ⟨y_53, ey_53⟩ : ∃ z : Int64, y_52 + y_12 = z := ⟨_, rfl⟩
              refine jj_ladd (v := y_53) C dX1_takeIn_180 ey_53 ?_
              refine tt_put C hok_44 jk_9 2 (by decide) jw_113 (t := (1, (-9223372036854775808), 9223372036854775807)) ka_23 (by decide) rfl rfl rfl (tt_ja y_53) rfl rfl dX1_takeIn_181 (fun pl_54 hok_55 tr hn => ?_)
              replace hf_11 := tr _ _ _ (Or.inl (tt_ne hk2 ka_23 (by decide))) hf_11
              replace hf_25 := tr _ _ _ (Or.inr (by decide)) hf_25
              replace hf_28 := tr _ _ _ (Or.inl (tt_ne hk1 ka_23 (by decide))) hf_28
              replace hf_38 := tr _ _ _ (Or.inl (tt_ne hk2 ka_23 (by decide))) hf_38
              replace hf_41 := tr _ _ _ (Or.inr (by decide)) hf_41
              have hf_56 := hn
              replace hfr := hfr.put ka_23 tr (by decide)
              refine jj_aload C dX1_takeIn_184 rfl ?_
              refine jj_dup C dX1_takeIn_186 rfl ?_
              refine tt_get C hok_55 jk_9 3 (by decide) jw_157 (t := (1, (-9223372036854775808), 9223372036854775807)) ka_23 (by decide) rfl rfl dX1_takeIn_187 (fun v_57 hv_57 hf_58 => ?_)
              obtain ⟨y_59, rfl, -, -⟩ := tt_vj hv_57
              refine jj_lload C dX1_takeIn_190 rfl ?_
              obtain ⟨y_60, ey_60⟩ : ∃ z : Int64, y_59 + y_14 = z := ⟨_, rfl⟩
              refine jj_ladd (v := y_60) C dX1_takeIn_192 ey_60 ?_
              refine tt_put C hok_55 jk_9 3 (by decide) jw_157 (t := (1, (-9223372036854775808), 9223372036854775807)) ka_23 (by decide) rfl rfl rfl (tt_ja y_60) rfl rfl dX1_takeIn_193 (fun pl_61 hok_62 tr hn => ?_)
              replace hf_11 := tr _ _ _ (Or.inl (tt_ne hk2 ka_23 (by decide))) hf_11
              replace hf_25 := tr _ _ _ (Or.inr (by decide)) hf_25
              replace hf_28 := tr _ _ _ (Or.inl (tt_ne hk1 ka_23 (by decide))) hf_28
              replace hf_38 := tr _ _ _ (Or.inl (tt_ne hk2 ka_23 (by decide))) hf_38
              replace hf_41 := tr _ _ _ (Or.inr (by decide)) hf_41
              replace hf_56 := tr _ _ _ (Or.inr (by decide)) hf_56
              have hf_63 := hn
              replace hfr := hfr.put ka_23 tr (by decide)
              refine jj_aload_n C dX1_takeIn_196 rfl ?_
              refine tt_get C hok_62 jk_2 10 (by decide) jw_269 (t := (2, 5, 0)) hk1 (by decide) rfl rfl dX1_takeIn_197 (fun v_64 hv_64 hf_65 => ?_)
              obtain ⟨a_66, rfl, ka_66⟩ := tt_vr hv_64
              refine jj_iconst (v := 2) C dX1_takeIn_200 (by decide) ?_
              refine jj_dup2 C dX1_takeIn_201 rfl rfl ?_
              refine tt_lald C hok_62 (t := (1, (-9223372036854775808), 9223372036854775807)) ka_66 (by decide) rfl (vp_in_iff.mpr (by decide)) dX1_takeIn_202 (fun v_67 hv_67 => ?_)
              refine jj_aload_n C dX1_takeIn_203 rfl ?_
              refine tt_getF C hok_62 jk_7 3 (by decide) jw_118 (t := (1, (-9223372036854775808), 9223372036854775807)) hk2 (by decide) rfl rfl hf_11 dX1_takeIn_204 ?_
              obtain ⟨y_68, ey_68⟩ : ∃ z : Int64, v_67 + y_12 = z := ⟨_, rfl⟩
              refine jj_ladd (v := y_68) C dX1_takeIn_207 ey_68 ?_
              refine tt_last C hok_62 (t := (1, (-9223372036854775808), 9223372036854775807)) ka_66 (by decide) rfl (vp_in_iff.mpr (by decide)) (tt_ja _) dX1_takeIn_208 (fun pl_69 hok_70 tr => ?_)
              replace hf_11 := tr _ _ _ hf_11
              replace hf_25 := tr _ _ _ hf_25
              replace hf_28 := tr _ _ _ hf_28
              replace hf_38 := tr _ _ _ hf_38
              replace hf_41 := tr _ _ _ hf_41
              replace hf_56 := tr _ _ _ hf_56
              replace hf_63 := tr _ _ _ hf_63
              replace hf_65 := tr _ _ _ hf_65
              replace hfr := hfr.arr tr
              refine jj_iconst (v := 1) C dX1_takeIn_209 (by decide) ?_
              exact jj_zret C rfl ⟨[], pl_69, rfl, rfl, hok_70, hfr, (Or.inr rfl)⟩ dX1_takeIn_210 (jj_le rfl) (jj_le rfl)
            · refine jj_lstore C dX1_takeIn_148 (by decide) rfl ?_
              refine jj_aload_n C dX1_takeIn_150 rfl ?_
              refine jj_aload_n C dX1_takeIn_151 rfl ?_
              refine tt_get C hok_31 jk_7 0 (by decide) jw_117 (t := (0, (-2147483648), 2147483647)) hk2 (by decide) rfl rfl dX1_takeIn_152 (fun v_71 hv_71 hf_72 => ?_)
              obtain ⟨x_73, rfl, lx_73, ux_73⟩ := tt_vi hv_71
              refine jj_aload C dX1_takeIn_155 rfl ?_
              refine tt_get C hok_31 jk_9 0 (by decide) jw_347 (t := (0, (-2147483648), 2147483647)) ka_23 (by decide) rfl rfl dX1_takeIn_157 (fun v_74 hv_74 hf_75 => ?_)
              obtain ⟨x_76, rfl, lx_76, ux_76⟩ := tt_vi hv_74
              refine jj_lload C dX1_takeIn_160 rfl ?_
              refine jj_lload C dX1_takeIn_162 rfl ?_
              refine jj_lload C dX1_takeIn_164 rfl ?_
              obtain ⟨qc, gs, hqc⟩ := tt_recv (cx := []) hok_31 hk1 (by decide) rfl
              refine tt_callV (rest := []) C (tc_X0_addLot_2 hl D cA ak h1 x_73 x_76 y_14 y_36 hk1 hok_31) [] [] rfl rfl (by decide) (by decide) (by decide) qc hqc rfl rfl jw_348 jw_354 jw_355 jw_133 jw_349 jn_X0_addLot rfl (jj_le rfl) (jj_le rfl) (jj_le rfl) (jj_le rfl) (jj_le rfl) dX1_takeIn_166 rfl (fun _ _ _ hX => hX.elim) (fun rx pl_77 r O_80 => ?_)
              obtain ⟨rfl, hok_78, hr_79, hR_82⟩ := O_80
              replace hf_11 := hr_79.at hk2 (by decide) (by decide) hf_11
              replace hf_25 := hr_79.at ka_23 (by decide) (by decide) hf_25
              replace hf_28 := hr_79.at hk1 (by decide) (by decide) hf_28
              replace hf_72 := hr_79.at hk2 (by decide) (by decide) hf_72
              replace hf_75 := hr_79.at ka_23 (by decide) (by decide) hf_75
              replace hfr := hfr.trans (hr_79.sub (by decide))
              obtain ⟨a_83, ka_83, rfl⟩ := hR_82
              refine jj_pop C dX1_takeIn_169 rfl ?_
              refine jj_aload C dX1_takeIn_170 rfl ?_
              refine jj_dup C dX1_takeIn_172 rfl ?_
              refine tt_get C hok_78 jk_9 2 (by decide) jw_113 (t := (1, (-9223372036854775808), 9223372036854775807)) ka_23 (by decide) rfl rfl dX1_takeIn_173 (fun v_84 hv_84 hf_85 => ?_)
              obtain ⟨y_86, rfl, -, -⟩ := tt_vj hv_84
              refine jj_aload_n C dX1_takeIn_176 rfl ?_
              refine tt_getF C hok_78 jk_7 3 (by decide) jw_118 (t := (1, (-9223372036854775808), 9223372036854775807)) hk2 (by decide) rfl rfl hf_11 dX1_takeIn_177 ?_
              obtain ⟨y_87, ey_87⟩ : ∃ z : Int64, y_86 + y_12 = z := ⟨_, rfl⟩
              refine jj_ladd (v := y_87) C dX1_takeIn_180 ey_87 ?_
              refine tt_put C hok_78 jk_9 2 (by decide) jw_113 (t := (1, (-9223372036854775808), 9223372036854775807)) ka_23 (by decide) rfl rfl rfl (tt_ja y_87) rfl rfl dX1_takeIn_181 (fun pl_88 hok_89 tr hn => ?_)
              replace hf_11 := tr _ _ _ (Or.inl (tt_ne hk2 ka_23 (by decide))) hf_11
              replace hf_25 := tr _ _ _ (Or.inr (by decide)) hf_25
              replace hf_28 := tr _ _ _ (Or.inl (tt_ne hk1 ka_23 (by decide))) hf_28
              replace hf_72 := tr _ _ _ (Or.inl (tt_ne hk2 ka_23 (by decide))) hf_72
              replace hf_75 := tr _ _ _ (Or.inr (by decide)) hf_75
              have hf_90 := hn
              replace hfr := hfr.put ka_23 tr (by decide)
              refine jj_aload C dX1_takeIn_184 rfl ?_
              refine jj_dup C dX1_takeIn_186 rfl ?_
              refine tt_get C hok_89 jk_9 3 (by decide) jw_157 (t := (1, (-9223372036854775808), 9223372036854775807)) ka_23 (by decide) rfl rfl dX1_takeIn_187 (fun v_91 hv_91 hf_92 => ?_)
              obtain ⟨y_93, rfl, -, -⟩ := tt_vj hv_91
              refine jj_lload C dX1_takeIn_190 rfl ?_
              obtain ⟨y_94, ey_94⟩ : ∃ z : Int64, y_93 + y_14 = z := ⟨_, rfl⟩
              refine jj_ladd (v := y_94) C dX1_takeIn_192 ey_94 ?_
              refine tt_put C hok_89 jk_9 3 (by decide) jw_157 (t := (1, (-9223372036854775808), 9223372036854775807)) ka_23 (by decide) rfl rfl rfl (tt_ja y_94) rfl rfl dX1_takeIn_193 (fun pl_95 hok_96 tr hn => ?_)
              replace hf_11 := tr _ _ _ (Or.inl (tt_ne hk2 ka_23 (by decide))) hf_11
              replace hf_25 := tr _ _ _ (Or.inr (by decide)) hf_25
              replace hf_28 := tr _ _ _ (Or.inl (tt_ne hk1 ka_23 (by decide))) hf_28
              replace hf_72 := tr _ _ _ (Or.inl (tt_ne hk2 ka_23 (by decide))) hf_72
              replace hf_75 := tr _ _ _ (Or.inr (by decide)) hf_75
              replace hf_90 := tr _ _ _ (Or.inr (by decide)) hf_90
              have hf_97 := hn
              replace hfr := hfr.put ka_23 tr (by decide)
              refine jj_aload_n C dX1_takeIn_196 rfl ?_
              refine tt_get C hok_96 jk_2 10 (by decide) jw_269 (t := (2, 5, 0)) hk1 (by decide) rfl rfl dX1_takeIn_197 (fun v_98 hv_98 hf_99 => ?_)
              obtain ⟨a_100, rfl, ka_100⟩ := tt_vr hv_98
              refine jj_iconst (v := 2) C dX1_takeIn_200 (by decide) ?_
              refine jj_dup2 C dX1_takeIn_201 rfl rfl ?_
              refine tt_lald C hok_96 (t := (1, (-9223372036854775808), 9223372036854775807)) ka_100 (by decide) rfl (vp_in_iff.mpr (by decide)) dX1_takeIn_202 (fun v_101 hv_101 => ?_)
              refine jj_aload_n C dX1_takeIn_203 rfl ?_
              refine tt_getF C hok_96 jk_7 3 (by decide) jw_118 (t := (1, (-9223372036854775808), 9223372036854775807)) hk2 (by decide) rfl rfl hf_11 dX1_takeIn_204 ?_
              obtain ⟨y_102, ey_102⟩ : ∃ z : Int64, v_101 + y_12 = z := ⟨_, rfl⟩
              refine jj_ladd (v := y_102) C dX1_takeIn_207 ey_102 ?_
              refine tt_last C hok_96 (t := (1, (-9223372036854775808), 9223372036854775807)) ka_100 (by decide) rfl (vp_in_iff.mpr (by decide)) (tt_ja _) dX1_takeIn_208 (fun pl_103 hok_104 tr => ?_)
              replace hf_11 := tr _ _ _ hf_11
              replace hf_25 := tr _ _ _ hf_25
              replace hf_28 := tr _ _ _ hf_28
              replace hf_72 := tr _ _ _ hf_72
              replace hf_75 := tr _ _ _ hf_75
              replace hf_90 := tr _ _ _ hf_90
              replace hf_97 := tr _ _ _ hf_97
              replace hf_99 := tr _ _ _ hf_99
              replace hfr := hfr.arr tr
              refine jj_iconst (v := 1) C dX1_takeIn_209 (by decide) ?_
              exact jj_zret C rfl ⟨[], pl_103, rfl, rfl, hok_104, hfr, (Or.inr rfl)⟩ dX1_takeIn_210 (jj_le rfl) (jj_le rfl)
          · refine jj_iconst (v := 0) C dX1_takeIn_110 (by decide) ?_
            exact jj_zret C rfl ⟨[], pl0, rfl, rfl, hok, hfr, (Or.inl rfl)⟩ dX1_takeIn_111 (jj_le rfl) (jj_le rfl)
      · have z_c_9 := jc_nlt (a := (x_8).toInt) (b := (6)) c_9 rfl (by decide)
        refine jj_iconst (v := 0) C dX1_takeIn_79 (by decide) ?_
        exact jj_zret C rfl ⟨[], pl0, rfl, rfl, hok, hfr, (Or.inl rfl)⟩ dX1_takeIn_80 (jj_le rfl) (jj_le rfl)
  · have z_c_1 := jc_nlt (a := (p3).toInt) (b := (0)) c_1 rfl (by decide)
    refine jj_iload_n C dX1_takeIn_4 rfl ?_
    refine jj_aload_n C dX1_takeIn_5 rfl ?_
    refine tt_get C hok jk_2 7 (by decide) jw_80 (t := (0, 0, 6)) hk1 (by decide) rfl rfl dX1_takeIn_6 (fun v_105 hv_105 hf_106 => ?_)
    obtain ⟨x_107, rfl, lx_107, ux_107⟩ := tt_vi hv_105
    refine jj_icmp_lt (tgt := 16) C dX1_takeIn_9 (by decide) (fun c_108 => ?_) (fun c_108 => ?_)
    · have z_c_108 := jc_lt (a := (p3).toInt) (b := (x_107).toInt) c_108 rfl rfl
      refine jj_iconst (v := 0) C dX1_takeIn_16 (by decide) ?_
      refine jj_istore C dX1_takeIn_17 (by decide) rfl ?_
      refine jj_iload C dX1_takeIn_19 rfl ?_
      refine jj_if_neF (tgt := 32) C dX1_takeIn_21 (by decide) (by decide) ?_
      refine jj_aload_n C dX1_takeIn_24 rfl ?_
      refine tt_get C hok jk_2 1 (by decide) jw_164 (t := (0, (-2147483648), 2147483647)) hk1 (by decide) rfl rfl dX1_takeIn_25 (fun v_109 hv_109 hf_110 => ?_)
      obtain ⟨x_111, rfl, lx_111, ux_111⟩ := tt_vi hv_109
      refine jj_iconst (v := 1) C dX1_takeIn_28 (by decide) ?_
      refine jj_icmp_eq (tgt := 38) C dX1_takeIn_29 (by decide) (fun c_112 => ?_) (fun c_112 => ?_)
      · have z_c_112 := jc_eq (a := (x_111).toInt) (b := (1)) c_112 rfl (by decide)
        refine jj_aload_n C dX1_takeIn_38 rfl ?_
        refine tt_get C hok jk_2 11 (by decide) jw_89 (t := (2, 6, 0)) hk1 (by decide) rfl rfl dX1_takeIn_39 (fun v_113 hv_113 hf_114 => ?_)
        obtain ⟨a_115, rfl, ka_115⟩ := tt_vr hv_113
        refine jj_iload_n C dX1_takeIn_42 rfl ?_
        refine tt_aald C hok (t := (2, 2, 0)) ka_115 (by decide) rfl rfl rfl (vp_in_iff.mpr ⟨by omega, by omega⟩) dX1_takeIn_43 (fun v_116 hv_116 => ?_)
        obtain ⟨a_117, rfl, ka_117⟩ := tt_vr hv_116
        obtain ⟨qc, gs, hqc⟩ := tt_recv (cx := []) hok ka_117 (by decide) rfl
        refine tt_callV (rest := []) C (tc_X8_grossPrice_1 hl D cA ak a_117 ka_117 hok) [] [] rfl rfl (by decide) (by decide) (by decide) qc hqc rfl rfl jw_166 jw_169 jw_170 jw_92 jw_167 jn_X8_grossPrice rfl (jj_le rfl) (jj_le rfl) (jj_le rfl) (jj_le rfl) (jj_le rfl) dX1_takeIn_44 rfl (fun _ _ _ hX => hX.elim) (fun rx pl_118 r O_121 => ?_)
        obtain ⟨rfl, hok_119, hr_120, hR_123⟩ := O_121
        replace hf_106 := hr_120.at hk1 (by decide) (by decide) hf_106
        replace hf_110 := hr_120.at hk1 (by decide) (by decide) hf_110
        replace hf_114 := hr_120.at hk1 (by decide) (by decide) hf_114
        replace hfr := hfr.trans (hr_120.sub (by decide))
        rcases hR_123 with rfl | ⟨y_124, rfl⟩
        · refine jj_lstore C dX1_takeIn_47 (by decide) rfl ?_
          refine jj_lload C dX1_takeIn_49 rfl ?_
          refine jj_lconst (v := 0) C dX1_takeIn_51 (by decide) ?_
          refine jj_lcmp_leF (tgt := 79) C dX1_takeIn_52 dX1_takeIn_53 (by decide) (by decide) ?_
          refine jj_aload_n C dX1_takeIn_56 rfl ?_
          refine tt_get C hok_119 jk_2 8 (by decide) jw_121 (t := (0, 0, 40)) hk1 (by decide) rfl rfl dX1_takeIn_57 (fun v_125 hv_125 hf_126 => ?_)
          obtain ⟨x_127, rfl, lx_127, ux_127⟩ := tt_vi hv_125
          refine jj_bipush (v := 40) C dX1_takeIn_60 (by decide) ?_
          refine jj_icmp_ge (tgt := 79) C dX1_takeIn_62 (by decide) (fun c_128 => ?_) (fun c_128 => ?_)
          · have z_c_128 := jc_le (a := (40)) (b := (x_127).toInt) c_128 (by decide) rfl
            refine jj_iconst (v := 0) C dX1_takeIn_79 (by decide) ?_
            exact jj_zret C rfl ⟨[], pl_118, rfl, rfl, hok_119, hfr, (Or.inl rfl)⟩ dX1_takeIn_80 (jj_le rfl) (jj_le rfl)
          · have z_c_128 := jc_nle (a := (40)) (b := (x_127).toInt) c_128 (by decide) rfl
            refine jj_iload C dX1_takeIn_65 rfl ?_
            refine jj_if_eqT (tgt := 81) C dX1_takeIn_67 (by decide) (by decide) ?_
            refine jj_aload_n C dX1_takeIn_81 rfl ?_
            refine tt_get C hok_119 jk_7 3 (by decide) jw_118 (t := (1, (-9223372036854775808), 9223372036854775807)) hk2 (by decide) rfl rfl dX1_takeIn_82 (fun v_129 hv_129 hf_130 => ?_)
            obtain ⟨y_131, rfl, -, -⟩ := tt_vj hv_129
            refine jj_ldc2 (v := 100000) C dX1_takeIn_85 jw_331 ?_
            obtain ⟨y_132, ey_132⟩ : ∃ z : Int64, y_131 * (100000 : Int64) = z := ⟨_, rfl⟩
            refine jj_lmul (v := y_132) C dX1_takeIn_88 ey_132 ?_
            refine jj_lload C dX1_takeIn_89 rfl ?_
            obtain ⟨y_133, ey_133⟩ : ∃ z : Int64, y_132 / (1000000 : Int64) = z := ⟨_, rfl⟩
            refine jj_ldiv (v := y_133) C dX1_takeIn_91 (by decide) ey_133 ?_
            refine jj_lstore C dX1_takeIn_92 (by decide) rfl ?_
            refine jj_lload C dX1_takeIn_94 rfl ?_
            refine jj_lconst (v := 1) C dX1_takeIn_96 (by decide) ?_
            refine jj_lcmp_lt (tgt := 110) C dX1_takeIn_97 dX1_takeIn_98 (by decide) (fun c_134 => ?_) (fun c_134 => ?_)
            · refine jj_iconst (v := 0) C dX1_takeIn_110 (by decide) ?_
              exact jj_zret C rfl ⟨[], pl_118, rfl, rfl, hok_119, hfr, (Or.inl rfl)⟩ dX1_takeIn_111 (jj_le rfl) (jj_le rfl)
            · refine jj_lload C dX1_takeIn_101 rfl ?_
              refine jj_ldc2 (v := 10000000) C dX1_takeIn_103 jw_332 ?_
              refine jj_lcmp_le (tgt := 112) C dX1_takeIn_106 dX1_takeIn_107 (by decide) (fun c_135 => ?_) (fun c_135 => ?_)
              · refine jj_iload C dX1_takeIn_112 rfl ?_
                refine jj_if_eqT (tgt := 124) C dX1_takeIn_114 (by decide) (by decide) ?_
                refine jj_aload_n C dX1_takeIn_124 rfl ?_
                refine tt_getF C hok_119 jk_2 11 (by decide) jw_89 (t := (2, 6, 0)) hk1 (by decide) rfl rfl hf_114 dX1_takeIn_125 ?_
                refine jj_iload_n C dX1_takeIn_128 rfl ?_
                refine tt_aald C hok_119 (t := (2, 2, 0)) ka_115 (by decide) rfl rfl rfl (vp_in_iff.mpr ⟨by omega, by omega⟩) dX1_takeIn_129 (fun v_136 hv_136 => ?_)
                obtain ⟨a_137, rfl, ka_137⟩ := tt_vr hv_136
                refine jj_astore C dX1_takeIn_130 (by decide) rfl ?_
                refine jj_lload C dX1_takeIn_132 rfl ?_
                refine jj_aload C dX1_takeIn_134 rfl ?_
                refine tt_get C hok_119 jk_9 4 (by decide) jw_172 (t := (1, (-9223372036854775808), 9223372036854775807)) ka_137 (by decide) rfl rfl dX1_takeIn_136 (fun v_138 hv_138 hf_139 => ?_)
                obtain ⟨y_140, rfl, -, -⟩ := tt_vj hv_138
                refine jj_lload C dX1_takeIn_139 rfl ?_
                refine jj_aload_n C dX1_takeIn_141 rfl ?_
                refine tt_get C hok_119 jk_2 3 (by decide) jw_149 (t := (0, (-2147483648), 2147483647)) hk1 (by decide) rfl rfl dX1_takeIn_142 (fun v_141 hv_141 hf_142 => ?_)
                obtain ⟨x_143, rfl, lx_143, ux_143⟩ := tt_vi hv_141
                refine tt_callS (rest := []) C (tc_X2_dueOn_2 hl D cA ak y_133 y_140 x_143 hok_119) [] [] rfl rfl (by decide) (by decide) (by decide) jw_173 jw_178 jw_175 jw_174 jn_X2_dueOn rfl (jj_le rfl) (jj_le rfl) (jj_le rfl) (jj_le rfl) (jj_le rfl) dX1_takeIn_145 rfl (fun _ _ _ hX => hX.elim) (fun rx pl_144 r O_147 => ?_)
                obtain ⟨rfl, hok_145, hr_146, hR_149⟩ := O_147
                replace hf_106 := hr_146.at hk1 (by decide) (by decide) hf_106
                replace hf_110 := hr_146.at hk1 (by decide) (by decide) hf_110
                replace hf_114 := hr_146.at hk1 (by decide) (by decide) hf_114
                replace hf_126 := hr_146.at hk1 (by decide) (by decide) hf_126
                replace hf_130 := hr_146.at hk2 (by decide) (by decide) hf_130
                replace hf_139 := hr_146.at ka_137 (by decide) (by decide) hf_139
                replace hf_142 := hr_146.at hk1 (by decide) (by decide) hf_142
                replace hfr := hfr.trans (hr_146.sub (by decide))
                rcases hR_149 with rfl | ⟨y_150, rfl⟩
                · refine jj_lstore C dX1_takeIn_148 (by decide) rfl ?_
                  refine jj_aload_n C dX1_takeIn_150 rfl ?_
                  refine jj_aload_n C dX1_takeIn_151 rfl ?_
                  refine tt_get C hok_145 jk_7 0 (by decide) jw_117 (t := (0, (-2147483648), 2147483647)) hk2 (by decide) rfl rfl dX1_takeIn_152 (fun v_151 hv_151 hf_152 => ?_)
                  obtain ⟨x_153, rfl, lx_153, ux_153⟩ := tt_vi hv_151
                  refine jj_aload C dX1_takeIn_155 rfl ?_
                  refine tt_get C hok_145 jk_9 0 (by decide) jw_347 (t := (0, (-2147483648), 2147483647)) ka_137 (by decide) rfl rfl dX1_takeIn_157 (fun v_154 hv_154 hf_155 => ?_)
                  obtain ⟨x_156, rfl, lx_156, ux_156⟩ := tt_vi hv_154
                  refine jj_lload C dX1_takeIn_160 rfl ?_
                  refine jj_lload C dX1_takeIn_162 rfl ?_
                  refine jj_lload C dX1_takeIn_164 rfl ?_
                  obtain ⟨qc, gs, hqc⟩ := tt_recv (cx := []) hok_145 hk1 (by decide) rfl
                  refine tt_callV (rest := []) C (tc_X0_addLot_1 hl D cA ak h1 x_153 x_156 y_133 hk1 hok_145) [] [] rfl rfl (by decide) (by decide) (by decide) qc hqc rfl rfl jw_348 jw_354 jw_355 jw_133 jw_349 jn_X0_addLot rfl (jj_le rfl) (jj_le rfl) (jj_le rfl) (jj_le rfl) (jj_le rfl) dX1_takeIn_166 rfl (fun _ _ _ hX => hX.elim) (fun rx pl_157 r O_160 => ?_)
                  obtain ⟨rfl, hok_158, hr_159, hR_162⟩ := O_160
                  replace hf_106 := hr_159.at hk1 (by decide) (by decide) hf_106
                  replace hf_110 := hr_159.at hk1 (by decide) (by decide) hf_110
                  replace hf_114 := hr_159.at hk1 (by decide) (by decide) hf_114
                  replace hf_130 := hr_159.at hk2 (by decide) (by decide) hf_130
                  replace hf_139 := hr_159.at ka_137 (by decide) (by decide) hf_139
                  replace hf_142 := hr_159.at hk1 (by decide) (by decide) hf_142
                  replace hf_152 := hr_159.at hk2 (by decide) (by decide) hf_152
                  replace hf_155 := hr_159.at ka_137 (by decide) (by decide) hf_155
                  replace hfr := hfr.trans (hr_159.sub (by decide))
                  obtain ⟨a_163, ka_163, rfl⟩ := hR_162
                  refine jj_pop C dX1_takeIn_169 rfl ?_
                  refine jj_aload C dX1_takeIn_170 rfl ?_
                  refine jj_dup C dX1_takeIn_172 rfl ?_
                  refine tt_get C hok_158 jk_9 2 (by decide) jw_113 (t := (1, (-9223372036854775808), 9223372036854775807)) ka_137 (by decide) rfl rfl dX1_takeIn_173 (fun v_164 hv_164 hf_165 => ?_)
                  obtain ⟨y_166, rfl, -, -⟩ := tt_vj hv_164
                  refine jj_aload_n C dX1_takeIn_176 rfl ?_
                  refine tt_getF C hok_158 jk_7 3 (by decide) jw_118 (t := (1, (-9223372036854775808), 9223372036854775807)) hk2 (by decide) rfl rfl hf_130 dX1_takeIn_177 ?_
                  obtain ⟨y_167, ey_167⟩ : ∃ z : Int64, y_166 + y_131 = z := ⟨_, rfl⟩
                  refine jj_ladd (v := y_167) C dX1_takeIn_180 ey_167 ?_
                  refine tt_put C hok_158 jk_9 2 (by decide) jw_113 (t := (1, (-9223372036854775808), 9223372036854775807)) ka_137 (by decide) rfl rfl rfl (tt_ja y_167) rfl rfl dX1_takeIn_181 (fun pl_168 hok_169 tr hn => ?_)
                  replace hf_106 := tr _ _ _ (Or.inl (tt_ne hk1 ka_137 (by decide))) hf_106
                  replace hf_110 := tr _ _ _ (Or.inl (tt_ne hk1 ka_137 (by decide))) hf_110
                  replace hf_114 := tr _ _ _ (Or.inl (tt_ne hk1 ka_137 (by decide))) hf_114
                  replace hf_130 := tr _ _ _ (Or.inl (tt_ne hk2 ka_137 (by decide))) hf_130
                  replace hf_139 := tr _ _ _ (Or.inr (by decide)) hf_139
                  replace hf_142 := tr _ _ _ (Or.inl (tt_ne hk1 ka_137 (by decide))) hf_142
                  replace hf_152 := tr _ _ _ (Or.inl (tt_ne hk2 ka_137 (by decide))) hf_152
                  replace hf_155 := tr _ _ _ (Or.inr (by decide)) hf_155
                  have hf_170 := hn
                  replace hfr := hfr.put ka_137 tr (by decide)
                  refine jj_aload C dX1_takeIn_184 rfl ?_
                  refine jj_dup C dX1_takeIn_186 rfl ?_
                  refine tt_get C hok_169 jk_9 3 (by decide) jw_157 (t := (1, (-9223372036854775808), 9223372036854775807)) ka_137 (by decide) rfl rfl dX1_takeIn_187 (fun v_171 hv_171 hf_172 => ?_)
                  obtain ⟨y_173, rfl, -, -⟩ := tt_vj hv_171
                  refine jj_lload C dX1_takeIn_190 rfl ?_
                  obtain ⟨y_174, ey_174⟩ : ∃ z : Int64, y_173 + y_133 = z := ⟨_, rfl⟩
                  refine jj_ladd (v := y_174) C dX1_takeIn_192 ey_174 ?_
                  refine tt_put C hok_169 jk_9 3 (by decide) jw_157 (t := (1, (-9223372036854775808), 9223372036854775807)) ka_137 (by decide) rfl rfl rfl (tt_ja y_174) rfl rfl dX1_takeIn_193 (fun pl_175 hok_176 tr hn => ?_)
                  replace hf_106 := tr _ _ _ (Or.inl (tt_ne hk1 ka_137 (by decide))) hf_106
                  replace hf_110 := tr _ _ _ (Or.inl (tt_ne hk1 ka_137 (by decide))) hf_110
                  replace hf_114 := tr _ _ _ (Or.inl (tt_ne hk1 ka_137 (by decide))) hf_114
                  replace hf_130 := tr _ _ _ (Or.inl (tt_ne hk2 ka_137 (by decide))) hf_130
                  replace hf_139 := tr _ _ _ (Or.inr (by decide)) hf_139
                  replace hf_142 := tr _ _ _ (Or.inl (tt_ne hk1 ka_137 (by decide))) hf_142
                  replace hf_152 := tr _ _ _ (Or.inl (tt_ne hk2 ka_137 (by decide))) hf_152
                  replace hf_155 := tr _ _ _ (Or.inr (by decide)) hf_155
                  replace hf_170 := tr _ _ _ (Or.inr (by decide)) hf_170
                  have hf_177 := hn
                  replace hfr := hfr.put ka_137 tr (by decide)
                  refine jj_aload_n C dX1_takeIn_196 rfl ?_
                  refine tt_get C hok_176 jk_2 10 (by decide) jw_269 (t := (2, 5, 0)) hk1 (by decide) rfl rfl dX1_takeIn_197 (fun v_178 hv_178 hf_179 => ?_)
                  obtain ⟨a_180, rfl, ka_180⟩ := tt_vr hv_178
                  refine jj_iconst (v := 2) C dX1_takeIn_200 (by decide) ?_
                  refine jj_dup2 C dX1_takeIn_201 rfl rfl ?_
                  refine tt_lald C hok_176 (t := (1, (-9223372036854775808), 9223372036854775807)) ka_180 (by decide) rfl (vp_in_iff.mpr (by decide)) dX1_takeIn_202 (fun v_181 hv_181 => ?_)
                  refine jj_aload_n C dX1_takeIn_203 rfl ?_
                  refine tt_getF C hok_176 jk_7 3 (by decide) jw_118 (t := (1, (-9223372036854775808), 9223372036854775807)) hk2 (by decide) rfl rfl hf_130 dX1_takeIn_204 ?_
                  obtain ⟨y_182, ey_182⟩ : ∃ z : Int64, v_181 + y_131 = z := ⟨_, rfl⟩
                  refine jj_ladd (v := y_182) C dX1_takeIn_207 ey_182 ?_
                  refine tt_last C hok_176 (t := (1, (-9223372036854775808), 9223372036854775807)) ka_180 (by decide) rfl (vp_in_iff.mpr (by decide)) (tt_ja _) dX1_takeIn_208 (fun pl_183 hok_184 tr => ?_)
                  replace hf_106 := tr _ _ _ hf_106
                  replace hf_110 := tr _ _ _ hf_110
                  replace hf_114 := tr _ _ _ hf_114
                  replace hf_130 := tr _ _ _ hf_130
                  replace hf_139 := tr _ _ _ hf_139
                  replace hf_142 := tr _ _ _ hf_142
                  replace hf_152 := tr _ _ _ hf_152
                  replace hf_155 := tr _ _ _ hf_155
                  replace hf_170 := tr _ _ _ hf_170
                  replace hf_177 := tr _ _ _ hf_177
                  replace hf_179 := tr _ _ _ hf_179
                  replace hfr := hfr.arr tr
                  refine jj_iconst (v := 1) C dX1_takeIn_209 (by decide) ?_
                  exact jj_zret C rfl ⟨[], pl_183, rfl, rfl, hok_184, hfr, (Or.inr rfl)⟩ dX1_takeIn_210 (jj_le rfl) (jj_le rfl)
                · refine jj_lstore C dX1_takeIn_148 (by decide) rfl ?_
                  refine jj_aload_n C dX1_takeIn_150 rfl ?_
                  refine jj_aload_n C dX1_takeIn_151 rfl ?_
                  refine tt_get C hok_145 jk_7 0 (by decide) jw_117 (t := (0, (-2147483648), 2147483647)) hk2 (by decide) rfl rfl dX1_takeIn_152 (fun v_185 hv_185 hf_186 => ?_)
                  obtain ⟨x_187, rfl, lx_187, ux_187⟩ := tt_vi hv_185
                  refine jj_aload C dX1_takeIn_155 rfl ?_
                  refine tt_get C hok_145 jk_9 0 (by decide) jw_347 (t := (0, (-2147483648), 2147483647)) ka_137 (by decide) rfl rfl dX1_takeIn_157 (fun v_188 hv_188 hf_189 => ?_)
                  obtain ⟨x_190, rfl, lx_190, ux_190⟩ := tt_vi hv_188
                  refine jj_lload C dX1_takeIn_160 rfl ?_
                  refine jj_lload C dX1_takeIn_162 rfl ?_
                  refine jj_lload C dX1_takeIn_164 rfl ?_
                  obtain ⟨qc, gs, hqc⟩ := tt_recv (cx := []) hok_145 hk1 (by decide) rfl
                  refine tt_callV (rest := []) C (tc_X0_addLot_2 hl D cA ak h1 x_187 x_190 y_133 y_150 hk1 hok_145) [] [] rfl rfl (by decide) (by decide) (by decide) qc hqc rfl rfl jw_348 jw_354 jw_355 jw_133 jw_349 jn_X0_addLot rfl (jj_le rfl) (jj_le rfl) (jj_le rfl) (jj_le rfl) (jj_le rfl) dX1_takeIn_166 rfl (fun _ _ _ hX => hX.elim) (fun rx pl_191 r O_194 => ?_)
                  obtain ⟨rfl, hok_192, hr_193, hR_196⟩ := O_194
                  replace hf_106 := hr_193.at hk1 (by decide) (by decide) hf_106
                  replace hf_110 := hr_193.at hk1 (by decide) (by decide) hf_110
                  replace hf_114 := hr_193.at hk1 (by decide) (by decide) hf_114
                  replace hf_130 := hr_193.at hk2 (by decide) (by decide) hf_130
                  replace hf_139 := hr_193.at ka_137 (by decide) (by decide) hf_139
                  replace hf_142 := hr_193.at hk1 (by decide) (by decide) hf_142
                  replace hf_186 := hr_193.at hk2 (by decide) (by decide) hf_186
                  replace hf_189 := hr_193.at ka_137 (by decide) (by decide) hf_189
                  replace hfr := hfr.trans (hr_193.sub (by decide))
                  obtain ⟨a_197, ka_197, rfl⟩ := hR_196
                  refine jj_pop C dX1_takeIn_169 rfl ?_
                  refine jj_aload C dX1_takeIn_170 rfl ?_
                  refine jj_dup C dX1_takeIn_172 rfl ?_
                  refine tt_get C hok_192 jk_9 2 (by decide) jw_113 (t := (1, (-9223372036854775808), 9223372036854775807)) ka_137 (by decide) rfl rfl dX1_takeIn_173 (fun v_198 hv_198 hf_199 => ?_)
                  obtain ⟨y_200, rfl, -, -⟩ := tt_vj hv_198
                  refine jj_aload_n C dX1_takeIn_176 rfl ?_
                  refine tt_getF C hok_192 jk_7 3 (by decide) jw_118 (t := (1, (-9223372036854775808), 9223372036854775807)) hk2 (by decide) rfl rfl hf_130 dX1_takeIn_177 ?_
                  obtain ⟨y_201, ey_201⟩ : ∃ z : Int64, y_200 + y_131 = z := ⟨_, rfl⟩
                  refine jj_ladd (v := y_201) C dX1_takeIn_180 ey_201 ?_
                  refine tt_put C hok_192 jk_9 2 (by decide) jw_113 (t := (1, (-9223372036854775808), 9223372036854775807)) ka_137 (by decide) rfl rfl rfl (tt_ja y_201) rfl rfl dX1_takeIn_181 (fun pl_202 hok_203 tr hn => ?_)
                  replace hf_106 := tr _ _ _ (Or.inl (tt_ne hk1 ka_137 (by decide))) hf_106
                  replace hf_110 := tr _ _ _ (Or.inl (tt_ne hk1 ka_137 (by decide))) hf_110
                  replace hf_114 := tr _ _ _ (Or.inl (tt_ne hk1 ka_137 (by decide))) hf_114
                  replace hf_130 := tr _ _ _ (Or.inl (tt_ne hk2 ka_137 (by decide))) hf_130
                  replace hf_139 := tr _ _ _ (Or.inr (by decide)) hf_139
                  replace hf_142 := tr _ _ _ (Or.inl (tt_ne hk1 ka_137 (by decide))) hf_142
                  replace hf_186 := tr _ _ _ (Or.inl (tt_ne hk2 ka_137 (by decide))) hf_186
                  replace hf_189 := tr _ _ _ (Or.inr (by decide)) hf_189
                  have hf_204 := hn
                  replace hfr := hfr.put ka_137 tr (by decide)
                  refine jj_aload C dX1_takeIn_184 rfl ?_
                  refine jj_dup C dX1_takeIn_186 rfl ?_
                  refine tt_get C hok_203 jk_9 3 (by decide) jw_157 (t := (1, (-9223372036854775808), 9223372036854775807)) ka_137 (by decide) rfl rfl dX1_takeIn_187 (fun v_205 hv_205 hf_206 => ?_)
                  obtain ⟨y_207, rfl, -, -⟩ := tt_vj hv_205
                  refine jj_lload C dX1_takeIn_190 rfl ?_
                  obtain ⟨y_208, ey_208⟩ : ∃ z : Int64, y_207 + y_133 = z := ⟨_, rfl⟩
                  refine jj_ladd (v := y_208) C dX1_takeIn_192 ey_208 ?_
                  refine tt_put C hok_203 jk_9 3 (by decide) jw_157 (t := (1, (-9223372036854775808), 9223372036854775807)) ka_137 (by decide) rfl rfl rfl (tt_ja y_208) rfl rfl dX1_takeIn_193 (fun pl_209 hok_210 tr hn => ?_)
                  replace hf_106 := tr _ _ _ (Or.inl (tt_ne hk1 ka_137 (by decide))) hf_106
                  replace hf_110 := tr _ _ _ (Or.inl (tt_ne hk1 ka_137 (by decide))) hf_110
                  replace hf_114 := tr _ _ _ (Or.inl (tt_ne hk1 ka_137 (by decide))) hf_114
                  replace hf_130 := tr _ _ _ (Or.inl (tt_ne hk2 ka_137 (by decide))) hf_130
                  replace hf_139 := tr _ _ _ (Or.inr (by decide)) hf_139
                  replace hf_142 := tr _ _ _ (Or.inl (tt_ne hk1 ka_137 (by decide))) hf_142
                  replace hf_186 := tr _ _ _ (Or.inl (tt_ne hk2 ka_137 (by decide))) hf_186
                  replace hf_189 := tr _ _ _ (Or.inr (by decide)) hf_189
                  replace hf_204 := tr _ _ _ (Or.inr (by decide)) hf_204
                  have hf_211 := hn
                  replace hfr := hfr.put ka_137 tr (by decide)
                  refine jj_aload_n C dX1_takeIn_196 rfl ?_
                  refine tt_get C hok_210 jk_2 10 (by decide) jw_269 (t := (2, 5, 0)) hk1 (by decide) rfl rfl dX1_takeIn_197 (fun v_212 hv_212 hf_213 => ?_)
                  obtain ⟨a_214, rfl, ka_214⟩ := tt_vr hv_212
                  refine jj_iconst (v := 2) C dX1_takeIn_200 (by decide) ?_
                  refine jj_dup2 C dX1_takeIn_201 rfl rfl ?_
                  refine tt_lald C hok_210 (t := (1, (-9223372036854775808), 9223372036854775807)) ka_214 (by decide) rfl (vp_in_iff.mpr (by decide)) dX1_takeIn_202 (fun v_215 hv_215 => ?_)
                  refine jj_aload_n C dX1_takeIn_203 rfl ?_
                  refine tt_getF C hok_210 jk_7 3 (by decide) jw_118 (t := (1, (-9223372036854775808), 9223372036854775807)) hk2 (by decide) rfl rfl hf_130 dX1_takeIn_204 ?_
                  obtain ⟨y_216, ey_216⟩ : ∃ z : Int64, v_215 + y_131 = z := ⟨_, rfl⟩
                  refine jj_ladd (v := y_216) C dX1_takeIn_207 ey_216 ?_
                  refine tt_last C hok_210 (t := (1, (-9223372036854775808), 9223372036854775807)) ka_214 (by decide) rfl (vp_in_iff.mpr (by decide)) (tt_ja _) dX1_takeIn_208 (fun pl_217 hok_218 tr => ?_)
                  replace hf_106 := tr _ _ _ hf_106
                  replace hf_110 := tr _ _ _ hf_110
                  replace hf_114 := tr _ _ _ hf_114
                  replace hf_130 := tr _ _ _ hf_130
                  replace hf_139 := tr _ _ _ hf_139
                  replace hf_142 := tr _ _ _ hf_142
                  replace hf_186 := tr _ _ _ hf_186
                  replace hf_189 := tr _ _ _ hf_189
                  replace hf_204 := tr _ _ _ hf_204
                  replace hf_211 := tr _ _ _ hf_211
                  replace hf_213 := tr _ _ _ hf_213
                  replace hfr := hfr.arr tr
                  refine jj_iconst (v := 1) C dX1_takeIn_209 (by decide) ?_
                  exact jj_zret C rfl ⟨[], pl_217, rfl, rfl, hok_218, hfr, (Or.inr rfl)⟩ dX1_takeIn_210 (jj_le rfl) (jj_le rfl)
              · refine jj_iconst (v := 0) C dX1_takeIn_110 (by decide) ?_
                exact jj_zret C rfl ⟨[], pl_118, rfl, rfl, hok_119, hfr, (Or.inl rfl)⟩ dX1_takeIn_111 (jj_le rfl) (jj_le rfl)
        · refine jj_lstore C dX1_takeIn_47 (by decide) rfl ?_
          refine jj_lload C dX1_takeIn_49 rfl ?_
          refine jj_lconst (v := 0) C dX1_takeIn_51 (by decide) ?_
          refine jj_lcmp_le (tgt := 79) C dX1_takeIn_52 dX1_takeIn_53 (by decide) (fun c_219 => ?_) (fun c_219 => ?_)
          · refine jj_iconst (v := 0) C dX1_takeIn_79 (by decide) ?_
            exact jj_zret C rfl ⟨[], pl_118, rfl, rfl, hok_119, hfr, (Or.inl rfl)⟩ dX1_takeIn_80 (jj_le rfl) (jj_le rfl)
          · refine jj_aload_n C dX1_takeIn_56 rfl ?_
            refine tt_get C hok_119 jk_2 8 (by decide) jw_121 (t := (0, 0, 40)) hk1 (by decide) rfl rfl dX1_takeIn_57 (fun v_220 hv_220 hf_221 => ?_)
            obtain ⟨x_222, rfl, lx_222, ux_222⟩ := tt_vi hv_220
            refine jj_bipush (v := 40) C dX1_takeIn_60 (by decide) ?_
            refine jj_icmp_ge (tgt := 79) C dX1_takeIn_62 (by decide) (fun c_223 => ?_) (fun c_223 => ?_)
            · have z_c_223 := jc_le (a := (40)) (b := (x_222).toInt) c_223 (by decide) rfl
              refine jj_iconst (v := 0) C dX1_takeIn_79 (by decide) ?_
              exact jj_zret C rfl ⟨[], pl_118, rfl, rfl, hok_119, hfr, (Or.inl rfl)⟩ dX1_takeIn_80 (jj_le rfl) (jj_le rfl)
            · have z_c_223 := jc_nle (a := (40)) (b := (x_222).toInt) c_223 (by decide) rfl
              refine jj_iload C dX1_takeIn_65 rfl ?_
              refine jj_if_eqT (tgt := 81) C dX1_takeIn_67 (by decide) (by decide) ?_
              refine jj_aload_n C dX1_takeIn_81 rfl ?_
              refine tt_get C hok_119 jk_7 3 (by decide) jw_118 (t := (1, (-9223372036854775808), 9223372036854775807)) hk2 (by decide) rfl rfl dX1_takeIn_82 (fun v_224 hv_224 hf_225 => ?_)
              obtain ⟨y_226, rfl, -, -⟩ := tt_vj hv_224
              refine jj_ldc2 (v := 100000) C dX1_takeIn_85 jw_331 ?_
              obtain ⟨y_227, ey_227⟩ : ∃ z : Int64, y_226 * (100000 : Int64) = z := ⟨_, rfl⟩
              refine jj_lmul (v := y_227) C dX1_takeIn_88 ey_227 ?_
              refine jj_lload C dX1_takeIn_89 rfl ?_
              obtain ⟨y_228, ey_228⟩ : ∃ z : Int64, y_227 / y_124 = z := ⟨_, rfl⟩
              refine jj_ldiv (v := y_228) C dX1_takeIn_91 (jt_nzpL (by first | exact Int64.not_le.mp c_219 | exact Int32.not_le.mp c_219)) ey_228 ?_
              refine jj_lstore C dX1_takeIn_92 (by decide) rfl ?_
              refine jj_lload C dX1_takeIn_94 rfl ?_
              refine jj_lconst (v := 1) C dX1_takeIn_96 (by decide) ?_
              refine jj_lcmp_lt (tgt := 110) C dX1_takeIn_97 dX1_takeIn_98 (by decide) (fun c_229 => ?_) (fun c_229 => ?_)
              · refine jj_iconst (v := 0) C dX1_takeIn_110 (by decide) ?_
                exact jj_zret C rfl ⟨[], pl_118, rfl, rfl, hok_119, hfr, (Or.inl rfl)⟩ dX1_takeIn_111 (jj_le rfl) (jj_le rfl)
              · refine jj_lload C dX1_takeIn_101 rfl ?_
                refine jj_ldc2 (v := 10000000) C dX1_takeIn_103 jw_332 ?_
                refine jj_lcmp_le (tgt := 112) C dX1_takeIn_106 dX1_takeIn_107 (by decide) (fun c_230 => ?_) (fun c_230 => ?_)
                · refine jj_iload C dX1_takeIn_112 rfl ?_
                  refine jj_if_eqT (tgt := 124) C dX1_takeIn_114 (by decide) (by decide) ?_
                  refine jj_aload_n C dX1_takeIn_124 rfl ?_
                  refine tt_getF C hok_119 jk_2 11 (by decide) jw_89 (t := (2, 6, 0)) hk1 (by decide) rfl rfl hf_114 dX1_takeIn_125 ?_
                  refine jj_iload_n C dX1_takeIn_128 rfl ?_
                  refine tt_aald C hok_119 (t := (2, 2, 0)) ka_115 (by decide) rfl rfl rfl (vp_in_iff.mpr ⟨by omega, by omega⟩) dX1_takeIn_129 (fun v_231 hv_231 => ?_)
                  obtain ⟨a_232, rfl, ka_232⟩ := tt_vr hv_231
                  refine jj_astore C dX1_takeIn_130 (by decide) rfl ?_
                  refine jj_lload C dX1_takeIn_132 rfl ?_
                  refine jj_aload C dX1_takeIn_134 rfl ?_
                  refine tt_get C hok_119 jk_9 4 (by decide) jw_172 (t := (1, (-9223372036854775808), 9223372036854775807)) ka_232 (by decide) rfl rfl dX1_takeIn_136 (fun v_233 hv_233 hf_234 => ?_)
                  obtain ⟨y_235, rfl, -, -⟩ := tt_vj hv_233
                  refine jj_lload C dX1_takeIn_139 rfl ?_
                  refine jj_aload_n C dX1_takeIn_141 rfl ?_
                  refine tt_get C hok_119 jk_2 3 (by decide) jw_149 (t := (0, (-2147483648), 2147483647)) hk1 (by decide) rfl rfl dX1_takeIn_142 (fun v_236 hv_236 hf_237 => ?_)
                  obtain ⟨x_238, rfl, lx_238, ux_238⟩ := tt_vi hv_236
                  refine tt_callS (rest := []) C (tc_X2_dueOn_1 hl D cA ak y_228 y_235 y_124 x_238 hok_119) [] [] rfl rfl (by decide) (by decide) (by decide) jw_173 jw_178 jw_175 jw_174 jn_X2_dueOn rfl (jj_le rfl) (jj_le rfl) (jj_le rfl) (jj_le rfl) (jj_le rfl) dX1_takeIn_145 rfl (fun _ _ _ hX => hX.elim) (fun rx pl_239 r O_242 => ?_)
                  obtain ⟨rfl, hok_240, hr_241, hR_244⟩ := O_242
                  replace hf_106 := hr_241.at hk1 (by decide) (by decide) hf_106
                  replace hf_110 := hr_241.at hk1 (by decide) (by decide) hf_110
                  replace hf_114 := hr_241.at hk1 (by decide) (by decide) hf_114
                  replace hf_221 := hr_241.at hk1 (by decide) (by decide) hf_221
                  replace hf_225 := hr_241.at hk2 (by decide) (by decide) hf_225
                  replace hf_234 := hr_241.at ka_232 (by decide) (by decide) hf_234
                  replace hf_237 := hr_241.at hk1 (by decide) (by decide) hf_237
                  replace hfr := hfr.trans (hr_241.sub (by decide))
                  rcases hR_244 with rfl | ⟨y_245, rfl⟩
                  · refine jj_lstore C dX1_takeIn_148 (by decide) rfl ?_
                    refine jj_aload_n C dX1_takeIn_150 rfl ?_
                    refine jj_aload_n C dX1_takeIn_151 rfl ?_
                    refine tt_get C hok_240 jk_7 0 (by decide) jw_117 (t := (0, (-2147483648), 2147483647)) hk2 (by decide) rfl rfl dX1_takeIn_152 (fun v_246 hv_246 hf_247 => ?_)
                    obtain ⟨x_248, rfl, lx_248, ux_248⟩ := tt_vi hv_246
                    refine jj_aload C dX1_takeIn_155 rfl ?_
                    refine tt_get C hok_240 jk_9 0 (by decide) jw_347 (t := (0, (-2147483648), 2147483647)) ka_232 (by decide) rfl rfl dX1_takeIn_157 (fun v_249 hv_249 hf_250 => ?_)
                    obtain ⟨x_251, rfl, lx_251, ux_251⟩ := tt_vi hv_249
                    refine jj_lload C dX1_takeIn_160 rfl ?_
                    refine jj_lload C dX1_takeIn_162 rfl ?_
                    refine jj_lload C dX1_takeIn_164 rfl ?_
                    obtain ⟨qc, gs, hqc⟩ := tt_recv (cx := []) hok_240 hk1 (by decide) rfl
                    refine tt_callV (rest := []) C (tc_X0_addLot_3 hl D cA ak h1 x_248 x_251 y_228 y_124 hk1 hok_240) [] [] rfl rfl (by decide) (by decide) (by decide) qc hqc rfl rfl jw_348 jw_354 jw_355 jw_133 jw_349 jn_X0_addLot rfl (jj_le rfl) (jj_le rfl) (jj_le rfl) (jj_le rfl) (jj_le rfl) dX1_takeIn_166 rfl (fun _ _ _ hX => hX.elim) (fun rx pl_252 r O_255 => ?_)
                    obtain ⟨rfl, hok_253, hr_254, hR_257⟩ := O_255
                    replace hf_106 := hr_254.at hk1 (by decide) (by decide) hf_106
                    replace hf_110 := hr_254.at hk1 (by decide) (by decide) hf_110
                    replace hf_114 := hr_254.at hk1 (by decide) (by decide) hf_114
                    replace hf_225 := hr_254.at hk2 (by decide) (by decide) hf_225
                    replace hf_234 := hr_254.at ka_232 (by decide) (by decide) hf_234
                    replace hf_237 := hr_254.at hk1 (by decide) (by decide) hf_237
                    replace hf_247 := hr_254.at hk2 (by decide) (by decide) hf_247
                    replace hf_250 := hr_254.at ka_232 (by decide) (by decide) hf_250
                    replace hfr := hfr.trans (hr_254.sub (by decide))
                    obtain ⟨a_258, ka_258, rfl⟩ := hR_257
                    refine jj_pop C dX1_takeIn_169 rfl ?_
                    refine jj_aload C dX1_takeIn_170 rfl ?_
                    refine jj_dup C dX1_takeIn_172 rfl ?_
                    refine tt_get C hok_253 jk_9 2 (by decide) jw_113 (t := (1, (-9223372036854775808), 9223372036854775807)) ka_232 (by decide) rfl rfl dX1_takeIn_173 (fun v_259 hv_259 hf_260 => ?_)
                    obtain ⟨y_261, rfl, -, -⟩ := tt_vj hv_259
                    refine jj_aload_n C dX1_takeIn_176 rfl ?_
                    refine tt_getF C hok_253 jk_7 3 (by decide) jw_118 (t := (1, (-9223372036854775808), 9223372036854775807)) hk2 (by decide) rfl rfl hf_225 dX1_takeIn_177 ?_
                    obtain ⟨y_262, ey_262⟩ : ∃ z : Int64, y_261 + y_226 = z := ⟨_, rfl⟩
                    refine jj_ladd (v := y_262) C dX1_takeIn_180 ey_262 ?_
                    refine tt_put C hok_253 jk_9 2 (by decide) jw_113 (t := (1, (-9223372036854775808), 9223372036854775807)) ka_232 (by decide) rfl rfl rfl (tt_ja y_262) rfl rfl dX1_takeIn_181 (fun pl_263 hok_264 tr hn => ?_)
                    replace hf_106 := tr _ _ _ (Or.inl (tt_ne hk1 ka_232 (by decide))) hf_106
                    replace hf_110 := tr _ _ _ (Or.inl (tt_ne hk1 ka_232 (by decide))) hf_110
                    replace hf_114 := tr _ _ _ (Or.inl (tt_ne hk1 ka_232 (by decide))) hf_114
                    replace hf_225 := tr _ _ _ (Or.inl (tt_ne hk2 ka_232 (by decide))) hf_225
                    replace hf_234 := tr _ _ _ (Or.inr (by decide)) hf_234
                    replace hf_237 := tr _ _ _ (Or.inl (tt_ne hk1 ka_232 (by decide))) hf_237
                    replace hf_247 := tr _ _ _ (Or.inl (tt_ne hk2 ka_232 (by decide))) hf_247
                    replace hf_250 := tr _ _ _ (Or.inr (by decide)) hf_250
                    have hf_265 := hn
                    replace hfr := hfr.put ka_232 tr (by decide)
                    refine jj_aload C dX1_takeIn_184 rfl ?_
                    refine jj_dup C dX1_takeIn_186 rfl ?_
                    refine tt_get C hok_264 jk_9 3 (by decide) jw_157 (t := (1, (-9223372036854775808), 9223372036854775807)) ka_232 (by decide) rfl rfl dX1_takeIn_187 (fun v_266 hv_266 hf_267 => ?_)
                    obtain ⟨y_268, rfl, -, -⟩ := tt_vj hv_266
                    refine jj_lload C dX1_takeIn_190 rfl ?_
                    obtain ⟨y_269, ey_269⟩ : ∃ z : Int64, y_268 + y_228 = z := ⟨_, rfl⟩
                    refine jj_ladd (v := y_269) C dX1_takeIn_192 ey_269 ?_
                    refine tt_put C hok_264 jk_9 3 (by decide) jw_157 (t := (1, (-9223372036854775808), 9223372036854775807)) ka_232 (by decide) rfl rfl rfl (tt_ja y_269) rfl rfl dX1_takeIn_193 (fun pl_270 hok_271 tr hn => ?_)
                    replace hf_106 := tr _ _ _ (Or.inl (tt_ne hk1 ka_232 (by decide))) hf_106
                    replace hf_110 := tr _ _ _ (Or.inl (tt_ne hk1 ka_232 (by decide))) hf_110
                    replace hf_114 := tr _ _ _ (Or.inl (tt_ne hk1 ka_232 (by decide))) hf_114
                    replace hf_225 := tr _ _ _ (Or.inl (tt_ne hk2 ka_232 (by decide))) hf_225
                    replace hf_234 := tr _ _ _ (Or.inr (by decide)) hf_234
                    replace hf_237 := tr _ _ _ (Or.inl (tt_ne hk1 ka_232 (by decide))) hf_237
                    replace hf_247 := tr _ _ _ (Or.inl (tt_ne hk2 ka_232 (by decide))) hf_247
                    replace hf_250 := tr _ _ _ (Or.inr (by decide)) hf_250
                    replace hf_265 := tr _ _ _ (Or.inr (by decide)) hf_265
                    have hf_272 := hn
                    replace hfr := hfr.put ka_232 tr (by decide)
                    refine jj_aload_n C dX1_takeIn_196 rfl ?_
                    refine tt_get C hok_271 jk_2 10 (by decide) jw_269 (t := (2, 5, 0)) hk1 (by decide) rfl rfl dX1_takeIn_197 (fun v_273 hv_273 hf_274 => ?_)
                    obtain ⟨a_275, rfl, ka_275⟩ := tt_vr hv_273
                    refine jj_iconst (v := 2) C dX1_takeIn_200 (by decide) ?_
                    refine jj_dup2 C dX1_takeIn_201 rfl rfl ?_
                    refine tt_lald C hok_271 (t := (1, (-9223372036854775808), 9223372036854775807)) ka_275 (by decide) rfl (vp_in_iff.mpr (by decide)) dX1_takeIn_202 (fun v_276 hv_276 => ?_)
                    refine jj_aload_n C dX1_takeIn_203 rfl ?_
                    refine tt_getF C hok_271 jk_7 3 (by decide) jw_118 (t := (1, (-9223372036854775808), 9223372036854775807)) hk2 (by decide) rfl rfl hf_225 dX1_takeIn_204 ?_
                    obtain ⟨y_277, ey_277⟩ : ∃ z : Int64, v_276 + y_226 = z := ⟨_, rfl⟩
                    refine jj_ladd (v := y_277) C dX1_takeIn_207 ey_277 ?_
                    refine tt_last C hok_271 (t := (1, (-9223372036854775808), 9223372036854775807)) ka_275 (by decide) rfl (vp_in_iff.mpr (by decide)) (tt_ja _) dX1_takeIn_208 (fun pl_278 hok_279 tr => ?_)
                    replace hf_106 := tr _ _ _ hf_106
                    replace hf_110 := tr _ _ _ hf_110
                    replace hf_114 := tr _ _ _ hf_114
                    replace hf_225 := tr _ _ _ hf_225
                    replace hf_234 := tr _ _ _ hf_234
                    replace hf_237 := tr _ _ _ hf_237
                    replace hf_247 := tr _ _ _ hf_247
                    replace hf_250 := tr _ _ _ hf_250
                    replace hf_265 := tr _ _ _ hf_265
                    replace hf_272 := tr _ _ _ hf_272
                    replace hf_274 := tr _ _ _ hf_274
                    replace hfr := hfr.arr tr
                    refine jj_iconst (v := 1) C dX1_takeIn_209 (by decide) ?_
                    exact jj_zret C rfl ⟨[], pl_278, rfl, rfl, hok_279, hfr, (Or.inr rfl)⟩ dX1_takeIn_210 (jj_le rfl) (jj_le rfl)
                  · refine jj_lstore C dX1_takeIn_148 (by decide) rfl ?_
                    refine jj_aload_n C dX1_takeIn_150 rfl ?_
                    refine jj_aload_n C dX1_takeIn_151 rfl ?_
                    refine tt_get C hok_240 jk_7 0 (by decide) jw_117 (t := (0, (-2147483648), 2147483647)) hk2 (by decide) rfl rfl dX1_takeIn_152 (fun v_280 hv_280 hf_281 => ?_)
                    obtain ⟨x_282, rfl, lx_282, ux_282⟩ := tt_vi hv_280
                    refine jj_aload C dX1_takeIn_155 rfl ?_
                    refine tt_get C hok_240 jk_9 0 (by decide) jw_347 (t := (0, (-2147483648), 2147483647)) ka_232 (by decide) rfl rfl dX1_takeIn_157 (fun v_283 hv_283 hf_284 => ?_)
                    obtain ⟨x_285, rfl, lx_285, ux_285⟩ := tt_vi hv_283
                    refine jj_lload C dX1_takeIn_160 rfl ?_
                    refine jj_lload C dX1_takeIn_162 rfl ?_
                    refine jj_lload C dX1_takeIn_164 rfl ?_
                    obtain ⟨qc, gs, hqc⟩ := tt_recv (cx := []) hok_240 hk1 (by decide) rfl
                    refine tt_callV (rest := []) C (tc_X0_addLot_4 hl D cA ak h1 x_282 x_285 y_228 y_124 y_245 hk1 hok_240) [] [] rfl rfl (by decide) (by decide) (by decide) qc hqc rfl rfl jw_348 jw_354 jw_355 jw_133 jw_349 jn_X0_addLot rfl (jj_le rfl) (jj_le rfl) (jj_le rfl) (jj_le rfl) (jj_le rfl) dX1_takeIn_166 rfl (fun _ _ _ hX => hX.elim) (fun rx pl_286 r O_289 => ?_)
                    obtain ⟨rfl, hok_287, hr_288, hR_291⟩ := O_289
                    replace hf_106 := hr_288.at hk1 (by decide) (by decide) hf_106
                    replace hf_110 := hr_288.at hk1 (by decide) (by decide) hf_110
                    replace hf_114 := hr_288.at hk1 (by decide) (by decide) hf_114
                    replace hf_225 := hr_288.at hk2 (by decide) (by decide) hf_225
                    replace hf_234 := hr_288.at ka_232 (by decide) (by decide) hf_234
                    replace hf_237 := hr_288.at hk1 (by decide) (by decide) hf_237
                    replace hf_281 := hr_288.at hk2 (by decide) (by decide) hf_281
                    replace hf_284 := hr_288.at ka_232 (by decide) (by decide) hf_284
                    replace hfr := hfr.trans (hr_288.sub (by decide))
                    obtain ⟨a_292, ka_292, rfl⟩ := hR_291
                    refine jj_pop C dX1_takeIn_169 rfl ?_
                    refine jj_aload C dX1_takeIn_170 rfl ?_
                    refine jj_dup C dX1_takeIn_172 rfl ?_
                    refine tt_get C hok_287 jk_9 2 (by decide) jw_113 (t := (1, (-9223372036854775808), 9223372036854775807)) ka_232 (by decide) rfl rfl dX1_takeIn_173 (fun v_293 hv_293 hf_294 => ?_)
                    obtain ⟨y_295, rfl, -, -⟩ := tt_vj hv_293
                    refine jj_aload_n C dX1_takeIn_176 rfl ?_
                    refine tt_getF C hok_287 jk_7 3 (by decide) jw_118 (t := (1, (-9223372036854775808), 9223372036854775807)) hk2 (by decide) rfl rfl hf_225 dX1_takeIn_177 ?_
                    obtain ⟨y_296, ey_296⟩ : ∃ z : Int64, y_295 + y_226 = z := ⟨_, rfl⟩
                    refine jj_ladd (v := y_296) C dX1_takeIn_180 ey_296 ?_
                    refine tt_put C hok_287 jk_9 2 (by decide) jw_113 (t := (1, (-9223372036854775808), 9223372036854775807)) ka_232 (by decide) rfl rfl rfl (tt_ja y_296) rfl rfl dX1_takeIn_181 (fun pl_297 hok_298 tr hn => ?_)
                    replace hf_106 := tr _ _ _ (Or.inl (tt_ne hk1 ka_232 (by decide))) hf_106
                    replace hf_110 := tr _ _ _ (Or.inl (tt_ne hk1 ka_232 (by decide))) hf_110
                    replace hf_114 := tr _ _ _ (Or.inl (tt_ne hk1 ka_232 (by decide))) hf_114
                    replace hf_225 := tr _ _ _ (Or.inl (tt_ne hk2 ka_232 (by decide))) hf_225
                    replace hf_234 := tr _ _ _ (Or.inr (by decide)) hf_234
                    replace hf_237 := tr _ _ _ (Or.inl (tt_ne hk1 ka_232 (by decide))) hf_237
                    replace hf_281 := tr _ _ _ (Or.inl (tt_ne hk2 ka_232 (by decide))) hf_281
                    replace hf_284 := tr _ _ _ (Or.inr (by decide)) hf_284
                    have hf_299 := hn
                    replace hfr := hfr.put ka_232 tr (by decide)
                    refine jj_aload C dX1_takeIn_184 rfl ?_
                    refine jj_dup C dX1_takeIn_186 rfl ?_
                    refine tt_get C hok_298 jk_9 3 (by decide) jw_157 (t := (1, (-9223372036854775808), 9223372036854775807)) ka_232 (by decide) rfl rfl dX1_takeIn_187 (fun v_300 hv_300 hf_301 => ?_)
                    obtain ⟨y_302, rfl, -, -⟩ := tt_vj hv_300
                    refine jj_lload C dX1_takeIn_190 rfl ?_
                    obtain ⟨y_303, ey_303⟩ : ∃ z : Int64, y_302 + y_228 = z := ⟨_, rfl⟩
                    refine jj_ladd (v := y_303) C dX1_takeIn_192 ey_303 ?_
                    refine tt_put C hok_298 jk_9 3 (by decide) jw_157 (t := (1, (-9223372036854775808), 9223372036854775807)) ka_232 (by decide) rfl rfl rfl (tt_ja y_303) rfl rfl dX1_takeIn_193 (fun pl_304 hok_305 tr hn => ?_)
                    replace hf_106 := tr _ _ _ (Or.inl (tt_ne hk1 ka_232 (by decide))) hf_106
                    replace hf_110 := tr _ _ _ (Or.inl (tt_ne hk1 ka_232 (by decide))) hf_110
                    replace hf_114 := tr _ _ _ (Or.inl (tt_ne hk1 ka_232 (by decide))) hf_114
                    replace hf_225 := tr _ _ _ (Or.inl (tt_ne hk2 ka_232 (by decide))) hf_225
                    replace hf_234 := tr _ _ _ (Or.inr (by decide)) hf_234
                    replace hf_237 := tr _ _ _ (Or.inl (tt_ne hk1 ka_232 (by decide))) hf_237
                    replace hf_281 := tr _ _ _ (Or.inl (tt_ne hk2 ka_232 (by decide))) hf_281
                    replace hf_284 := tr _ _ _ (Or.inr (by decide)) hf_284
                    replace hf_299 := tr _ _ _ (Or.inr (by decide)) hf_299
                    have hf_306 := hn
                    replace hfr := hfr.put ka_232 tr (by decide)
                    refine jj_aload_n C dX1_takeIn_196 rfl ?_
                    refine tt_get C hok_305 jk_2 10 (by decide) jw_269 (t := (2, 5, 0)) hk1 (by decide) rfl rfl dX1_takeIn_197 (fun v_307 hv_307 hf_308 => ?_)
                    obtain ⟨a_309, rfl, ka_309⟩ := tt_vr hv_307
                    refine jj_iconst (v := 2) C dX1_takeIn_200 (by decide) ?_
                    refine jj_dup2 C dX1_takeIn_201 rfl rfl ?_
                    refine tt_lald C hok_305 (t := (1, (-9223372036854775808), 9223372036854775807)) ka_309 (by decide) rfl (vp_in_iff.mpr (by decide)) dX1_takeIn_202 (fun v_310 hv_310 => ?_)
                    refine jj_aload_n C dX1_takeIn_203 rfl ?_
                    refine tt_getF C hok_305 jk_7 3 (by decide) jw_118 (t := (1, (-9223372036854775808), 9223372036854775807)) hk2 (by decide) rfl rfl hf_225 dX1_takeIn_204 ?_
                    obtain ⟨y_311, ey_311⟩ : ∃ z : Int64, v_310 + y_226 = z := ⟨_, rfl⟩
                    refine jj_ladd (v := y_311) C dX1_takeIn_207 ey_311 ?_
                    refine tt_last C hok_305 (t := (1, (-9223372036854775808), 9223372036854775807)) ka_309 (by decide) rfl (vp_in_iff.mpr (by decide)) (tt_ja _) dX1_takeIn_208 (fun pl_312 hok_313 tr => ?_)
                    replace hf_106 := tr _ _ _ hf_106
                    replace hf_110 := tr _ _ _ hf_110
                    replace hf_114 := tr _ _ _ hf_114
                    replace hf_225 := tr _ _ _ hf_225
                    replace hf_234 := tr _ _ _ hf_234
                    replace hf_237 := tr _ _ _ hf_237
                    replace hf_281 := tr _ _ _ hf_281
                    replace hf_284 := tr _ _ _ hf_284
                    replace hf_299 := tr _ _ _ hf_299
                    replace hf_306 := tr _ _ _ hf_306
                    replace hf_308 := tr _ _ _ hf_308
                    replace hfr := hfr.arr tr
                    refine jj_iconst (v := 1) C dX1_takeIn_209 (by decide) ?_
                    exact jj_zret C rfl ⟨[], pl_312, rfl, rfl, hok_313, hfr, (Or.inr rfl)⟩ dX1_takeIn_210 (jj_le rfl) (jj_le rfl)
                · refine jj_iconst (v := 0) C dX1_takeIn_110 (by decide) ?_
                  exact jj_zret C rfl ⟨[], pl_118, rfl, rfl, hok_119, hfr, (Or.inl rfl)⟩ dX1_takeIn_111 (jj_le rfl) (jj_le rfl)
      · have z_c_112 := jc_neq (a := (x_111).toInt) (b := (1)) c_112 rfl (by decide)
        refine jj_ldc2 (v := 1000000) C dX1_takeIn_32 jw_330 ?_
        refine jj_goto (tgt := 47) C dX1_takeIn_35 (by decide) ?_
        refine jj_lstore C dX1_takeIn_47 (by decide) rfl ?_
        refine jj_lload C dX1_takeIn_49 rfl ?_
        refine jj_lconst (v := 0) C dX1_takeIn_51 (by decide) ?_
        refine jj_lcmp_leF (tgt := 79) C dX1_takeIn_52 dX1_takeIn_53 (by decide) (by decide) ?_
        refine jj_aload_n C dX1_takeIn_56 rfl ?_
        refine tt_get C hok jk_2 8 (by decide) jw_121 (t := (0, 0, 40)) hk1 (by decide) rfl rfl dX1_takeIn_57 (fun v_314 hv_314 hf_315 => ?_)
        obtain ⟨x_316, rfl, lx_316, ux_316⟩ := tt_vi hv_314
        refine jj_bipush (v := 40) C dX1_takeIn_60 (by decide) ?_
        refine jj_icmp_ge (tgt := 79) C dX1_takeIn_62 (by decide) (fun c_317 => ?_) (fun c_317 => ?_)
        · have z_c_317 := jc_le (a := (40)) (b := (x_316).toInt) c_317 (by decide) rfl
          refine jj_iconst (v := 0) C dX1_takeIn_79 (by decide) ?_
          exact jj_zret C rfl ⟨[], pl0, rfl, rfl, hok, hfr, (Or.inl rfl)⟩ dX1_takeIn_80 (jj_le rfl) (jj_le rfl)
        · have z_c_317 := jc_nle (a := (40)) (b := (x_316).toInt) c_317 (by decide) rfl
          refine jj_iload C dX1_takeIn_65 rfl ?_
          refine jj_if_eqT (tgt := 81) C dX1_takeIn_67 (by decide) (by decide) ?_
          refine jj_aload_n C dX1_takeIn_81 rfl ?_
          refine tt_get C hok jk_7 3 (by decide) jw_118 (t := (1, (-9223372036854775808), 9223372036854775807)) hk2 (by decide) rfl rfl dX1_takeIn_82 (fun v_318 hv_318 hf_319 => ?_)
          obtain ⟨y_320, rfl, -, -⟩ := tt_vj hv_318
          refine jj_ldc2 (v := 100000) C dX1_takeIn_85 jw_331 ?_
          obtain ⟨y_321, ey_321⟩ : ∃ z : Int64, y_320 * (100000 : Int64) = z := ⟨_, rfl⟩
          refine jj_lmul (v := y_321) C dX1_takeIn_88 ey_321 ?_
          refine jj_lload C dX1_takeIn_89 rfl ?_
          obtain ⟨y_322, ey_322⟩ : ∃ z : Int64, y_321 / (1000000 : Int64) = z := ⟨_, rfl⟩
          refine jj_ldiv (v := y_322) C dX1_takeIn_91 (by decide) ey_322 ?_
          refine jj_lstore C dX1_takeIn_92 (by decide) rfl ?_
          refine jj_lload C dX1_takeIn_94 rfl ?_
          refine jj_lconst (v := 1) C dX1_takeIn_96 (by decide) ?_
          refine jj_lcmp_lt (tgt := 110) C dX1_takeIn_97 dX1_takeIn_98 (by decide) (fun c_323 => ?_) (fun c_323 => ?_)
          · refine jj_iconst (v := 0) C dX1_takeIn_110 (by decide) ?_
            exact jj_zret C rfl ⟨[], pl0, rfl, rfl, hok, hfr, (Or.inl rfl)⟩ dX1_takeIn_111 (jj_le rfl) (jj_le rfl)
          · refine jj_lload C dX1_takeIn_101 rfl ?_
            refine jj_ldc2 (v := 10000000) C dX1_takeIn_103 jw_332 ?_
            refine jj_lcmp_le (tgt := 112) C dX1_takeIn_106 dX1_takeIn_107 (by decide) (fun c_324 => ?_) (fun c_324 => ?_)
            · refine jj_iload C dX1_takeIn_112 rfl ?_
              refine jj_if_eqT (tgt := 124) C dX1_takeIn_114 (by decide) (by decide) ?_
              refine jj_aload_n C dX1_takeIn_124 rfl ?_
              refine tt_get C hok jk_2 11 (by decide) jw_89 (t := (2, 6, 0)) hk1 (by decide) rfl rfl dX1_takeIn_125 (fun v_325 hv_325 hf_326 => ?_)
              obtain ⟨a_327, rfl, ka_327⟩ := tt_vr hv_325
              refine jj_iload_n C dX1_takeIn_128 rfl ?_
              refine tt_aald C hok (t := (2, 2, 0)) ka_327 (by decide) rfl rfl rfl (vp_in_iff.mpr ⟨by omega, by omega⟩) dX1_takeIn_129 (fun v_328 hv_328 => ?_)
              obtain ⟨a_329, rfl, ka_329⟩ := tt_vr hv_328
              refine jj_astore C dX1_takeIn_130 (by decide) rfl ?_
              refine jj_lload C dX1_takeIn_132 rfl ?_
              refine jj_aload C dX1_takeIn_134 rfl ?_
              refine tt_get C hok jk_9 4 (by decide) jw_172 (t := (1, (-9223372036854775808), 9223372036854775807)) ka_329 (by decide) rfl rfl dX1_takeIn_136 (fun v_330 hv_330 hf_331 => ?_)
              obtain ⟨y_332, rfl, -, -⟩ := tt_vj hv_330
              refine jj_lload C dX1_takeIn_139 rfl ?_
              refine jj_aload_n C dX1_takeIn_141 rfl ?_
              refine tt_get C hok jk_2 3 (by decide) jw_149 (t := (0, (-2147483648), 2147483647)) hk1 (by decide) rfl rfl dX1_takeIn_142 (fun v_333 hv_333 hf_334 => ?_)
              obtain ⟨x_335, rfl, lx_335, ux_335⟩ := tt_vi hv_333
              refine tt_callS (rest := []) C (tc_X2_dueOn_2 hl D cA ak y_322 y_332 x_335 hok) [] [] rfl rfl (by decide) (by decide) (by decide) jw_173 jw_178 jw_175 jw_174 jn_X2_dueOn rfl (jj_le rfl) (jj_le rfl) (jj_le rfl) (jj_le rfl) (jj_le rfl) dX1_takeIn_145 rfl (fun _ _ _ hX => hX.elim) (fun rx pl_336 r O_339 => ?_)
              obtain ⟨rfl, hok_337, hr_338, hR_341⟩ := O_339
              replace hf_106 := hr_338.at hk1 (by decide) (by decide) hf_106
              replace hf_110 := hr_338.at hk1 (by decide) (by decide) hf_110
              replace hf_315 := hr_338.at hk1 (by decide) (by decide) hf_315
              replace hf_319 := hr_338.at hk2 (by decide) (by decide) hf_319
              replace hf_326 := hr_338.at hk1 (by decide) (by decide) hf_326
              replace hf_331 := hr_338.at ka_329 (by decide) (by decide) hf_331
              replace hf_334 := hr_338.at hk1 (by decide) (by decide) hf_334
              replace hfr := hfr.trans (hr_338.sub (by decide))
              rcases hR_341 with rfl | ⟨y_342, rfl⟩
              · refine jj_lstore C dX1_takeIn_148 (by decide) rfl ?_
                refine jj_aload_n C dX1_takeIn_150 rfl ?_
                refine jj_aload_n C dX1_takeIn_151 rfl ?_
                refine tt_get C hok_337 jk_7 0 (by decide) jw_117 (t := (0, (-2147483648), 2147483647)) hk2 (by decide) rfl rfl dX1_takeIn_152 (fun v_343 hv_343 hf_344 => ?_)
                obtain ⟨x_345, rfl, lx_345, ux_345⟩ := tt_vi hv_343
                refine jj_aload C dX1_takeIn_155 rfl ?_
                refine tt_get C hok_337 jk_9 0 (by decide) jw_347 (t := (0, (-2147483648), 2147483647)) ka_329 (by decide) rfl rfl dX1_takeIn_157 (fun v_346 hv_346 hf_347 => ?_)
                obtain ⟨x_348, rfl, lx_348, ux_348⟩ := tt_vi hv_346
                refine jj_lload C dX1_takeIn_160 rfl ?_
                refine jj_lload C dX1_takeIn_162 rfl ?_
                refine jj_lload C dX1_takeIn_164 rfl ?_
                obtain ⟨qc, gs, hqc⟩ := tt_recv (cx := []) hok_337 hk1 (by decide) rfl
                refine tt_callV (rest := []) C (tc_X0_addLot_1 hl D cA ak h1 x_345 x_348 y_322 hk1 hok_337) [] [] rfl rfl (by decide) (by decide) (by decide) qc hqc rfl rfl jw_348 jw_354 jw_355 jw_133 jw_349 jn_X0_addLot rfl (jj_le rfl) (jj_le rfl) (jj_le rfl) (jj_le rfl) (jj_le rfl) dX1_takeIn_166 rfl (fun _ _ _ hX => hX.elim) (fun rx pl_349 r O_352 => ?_)
                obtain ⟨rfl, hok_350, hr_351, hR_354⟩ := O_352
                replace hf_106 := hr_351.at hk1 (by decide) (by decide) hf_106
                replace hf_110 := hr_351.at hk1 (by decide) (by decide) hf_110
                replace hf_319 := hr_351.at hk2 (by decide) (by decide) hf_319
                replace hf_326 := hr_351.at hk1 (by decide) (by decide) hf_326
                replace hf_331 := hr_351.at ka_329 (by decide) (by decide) hf_331
                replace hf_334 := hr_351.at hk1 (by decide) (by decide) hf_334
                replace hf_344 := hr_351.at hk2 (by decide) (by decide) hf_344
                replace hf_347 := hr_351.at ka_329 (by decide) (by decide) hf_347
                replace hfr := hfr.trans (hr_351.sub (by decide))
                obtain ⟨a_355, ka_355, rfl⟩ := hR_354
                refine jj_pop C dX1_takeIn_169 rfl ?_
                refine jj_aload C dX1_takeIn_170 rfl ?_
                refine jj_dup C dX1_takeIn_172 rfl ?_
                refine tt_get C hok_350 jk_9 2 (by decide) jw_113 (t := (1, (-9223372036854775808), 9223372036854775807)) ka_329 (by decide) rfl rfl dX1_takeIn_173 (fun v_356 hv_356 hf_357 => ?_)
                obtain ⟨y_358, rfl, -, -⟩ := tt_vj hv_356
                refine jj_aload_n C dX1_takeIn_176 rfl ?_
                refine tt_getF C hok_350 jk_7 3 (by decide) jw_118 (t := (1, (-9223372036854775808), 9223372036854775807)) hk2 (by decide) rfl rfl hf_319 dX1_takeIn_177 ?_
                obtain ⟨y_359, ey_359⟩ : ∃ z : Int64, y_358 + y_320 = z := ⟨_, rfl⟩
                refine jj_ladd (v := y_359) C dX1_takeIn_180 ey_359 ?_
                refine tt_put C hok_350 jk_9 2 (by decide) jw_113 (t := (1, (-9223372036854775808), 9223372036854775807)) ka_329 (by decide) rfl rfl rfl (tt_ja y_359) rfl rfl dX1_takeIn_181 (fun pl_360 hok_361 tr hn => ?_)
                replace hf_106 := tr _ _ _ (Or.inl (tt_ne hk1 ka_329 (by decide))) hf_106
                replace hf_110 := tr _ _ _ (Or.inl (tt_ne hk1 ka_329 (by decide))) hf_110
                replace hf_319 := tr _ _ _ (Or.inl (tt_ne hk2 ka_329 (by decide))) hf_319
                replace hf_326 := tr _ _ _ (Or.inl (tt_ne hk1 ka_329 (by decide))) hf_326
                replace hf_331 := tr _ _ _ (Or.inr (by decide)) hf_331
                replace hf_334 := tr _ _ _ (Or.inl (tt_ne hk1 ka_329 (by decide))) hf_334
                replace hf_344 := tr _ _ _ (Or.inl (tt_ne hk2 ka_329 (by decide))) hf_344
                replace hf_347 := tr _ _ _ (Or.inr (by decide)) hf_347
                have hf_362 := hn
                replace hfr := hfr.put ka_329 tr (by decide)
                refine jj_aload C dX1_takeIn_184 rfl ?_
                refine jj_dup C dX1_takeIn_186 rfl ?_
                refine tt_get C hok_361 jk_9 3 (by decide) jw_157 (t := (1, (-9223372036854775808), 9223372036854775807)) ka_329 (by decide) rfl rfl dX1_takeIn_187 (fun v_363 hv_363 hf_364 => ?_)
                obtain ⟨y_365, rfl, -, -⟩ := tt_vj hv_363
                refine jj_lload C dX1_takeIn_190 rfl ?_
                obtain ⟨y_366, ey_366⟩ : ∃ z : Int64, y_365 + y_322 = z := ⟨_, rfl⟩
                refine jj_ladd (v := y_366) C dX1_takeIn_192 ey_366 ?_
                refine tt_put C hok_361 jk_9 3 (by decide) jw_157 (t := (1, (-9223372036854775808), 9223372036854775807)) ka_329 (by decide) rfl rfl rfl (tt_ja y_366) rfl rfl dX1_takeIn_193 (fun pl_367 hok_368 tr hn => ?_)
                replace hf_106 := tr _ _ _ (Or.inl (tt_ne hk1 ka_329 (by decide))) hf_106
                replace hf_110 := tr _ _ _ (Or.inl (tt_ne hk1 ka_329 (by decide))) hf_110
                replace hf_319 := tr _ _ _ (Or.inl (tt_ne hk2 ka_329 (by decide))) hf_319
                replace hf_326 := tr _ _ _ (Or.inl (tt_ne hk1 ka_329 (by decide))) hf_326
                replace hf_331 := tr _ _ _ (Or.inr (by decide)) hf_331
                replace hf_334 := tr _ _ _ (Or.inl (tt_ne hk1 ka_329 (by decide))) hf_334
                replace hf_344 := tr _ _ _ (Or.inl (tt_ne hk2 ka_329 (by decide))) hf_344
                replace hf_347 := tr _ _ _ (Or.inr (by decide)) hf_347
                replace hf_362 := tr _ _ _ (Or.inr (by decide)) hf_362
                have hf_369 := hn
                replace hfr := hfr.put ka_329 tr (by decide)
                refine jj_aload_n C dX1_takeIn_196 rfl ?_
                refine tt_get C hok_368 jk_2 10 (by decide) jw_269 (t := (2, 5, 0)) hk1 (by decide) rfl rfl dX1_takeIn_197 (fun v_370 hv_370 hf_371 => ?_)
                obtain ⟨a_372, rfl, ka_372⟩ := tt_vr hv_370
                refine jj_iconst (v := 2) C dX1_takeIn_200 (by decide) ?_
                refine jj_dup2 C dX1_takeIn_201 rfl rfl ?_
                refine tt_lald C hok_368 (t := (1, (-9223372036854775808), 9223372036854775807)) ka_372 (by decide) rfl (vp_in_iff.mpr (by decide)) dX1_takeIn_202 (fun v_373 hv_373 => ?_)
                refine jj_aload_n C dX1_takeIn_203 rfl ?_
                refine tt_getF C hok_368 jk_7 3 (by decide) jw_118 (t := (1, (-9223372036854775808), 9223372036854775807)) hk2 (by decide) rfl rfl hf_319 dX1_takeIn_204 ?_
                obtain ⟨y_374, ey_374⟩ : ∃ z : Int64, v_373 + y_320 = z := ⟨_, rfl⟩
                refine jj_ladd (v := y_374) C dX1_takeIn_207 ey_374 ?_
                refine tt_last C hok_368 (t := (1, (-9223372036854775808), 9223372036854775807)) ka_372 (by decide) rfl (vp_in_iff.mpr (by decide)) (tt_ja _) dX1_takeIn_208 (fun pl_375 hok_376 tr => ?_)
                replace hf_106 := tr _ _ _ hf_106
                replace hf_110 := tr _ _ _ hf_110
                replace hf_319 := tr _ _ _ hf_319
                replace hf_326 := tr _ _ _ hf_326
                replace hf_331 := tr _ _ _ hf_331
                replace hf_334 := tr _ _ _ hf_334
                replace hf_344 := tr _ _ _ hf_344
                replace hf_347 := tr _ _ _ hf_347
                replace hf_362 := tr _ _ _ hf_362
                replace hf_369 := tr _ _ _ hf_369
                replace hf_371 := tr _ _ _ hf_371
                replace hfr := hfr.arr tr
                refine jj_iconst (v := 1) C dX1_takeIn_209 (by decide) ?_
                exact jj_zret C rfl ⟨[], pl_375, rfl, rfl, hok_376, hfr, (Or.inr rfl)⟩ dX1_takeIn_210 (jj_le rfl) (jj_le rfl)
              · refine jj_lstore C dX1_takeIn_148 (by decide) rfl ?_
                refine jj_aload_n C dX1_takeIn_150 rfl ?_
                refine jj_aload_n C dX1_takeIn_151 rfl ?_
                refine tt_get C hok_337 jk_7 0 (by decide) jw_117 (t := (0, (-2147483648), 2147483647)) hk2 (by decide) rfl rfl dX1_takeIn_152 (fun v_377 hv_377 hf_378 => ?_)
                obtain ⟨x_379, rfl, lx_379, ux_379⟩ := tt_vi hv_377
                refine jj_aload C dX1_takeIn_155 rfl ?_
                refine tt_get C hok_337 jk_9 0 (by decide) jw_347 (t := (0, (-2147483648), 2147483647)) ka_329 (by decide) rfl rfl dX1_takeIn_157 (fun v_380 hv_380 hf_381 => ?_)
                obtain ⟨x_382, rfl, lx_382, ux_382⟩ := tt_vi hv_380
                refine jj_lload C dX1_takeIn_160 rfl ?_
                refine jj_lload C dX1_takeIn_162 rfl ?_
                refine jj_lload C dX1_takeIn_164 rfl ?_
                obtain ⟨qc, gs, hqc⟩ := tt_recv (cx := []) hok_337 hk1 (by decide) rfl
                refine tt_callV (rest := []) C (tc_X0_addLot_2 hl D cA ak h1 x_379 x_382 y_322 y_342 hk1 hok_337) [] [] rfl rfl (by decide) (by decide) (by decide) qc hqc rfl rfl jw_348 jw_354 jw_355 jw_133 jw_349 jn_X0_addLot rfl (jj_le rfl) (jj_le rfl) (jj_le rfl) (jj_le rfl) (jj_le rfl) dX1_takeIn_166 rfl (fun _ _ _ hX => hX.elim) (fun rx pl_383 r O_386 => ?_)
                obtain ⟨rfl, hok_384, hr_385, hR_388⟩ := O_386
                replace hf_106 := hr_385.at hk1 (by decide) (by decide) hf_106
                replace hf_110 := hr_385.at hk1 (by decide) (by decide) hf_110
                replace hf_319 := hr_385.at hk2 (by decide) (by decide) hf_319
                replace hf_326 := hr_385.at hk1 (by decide) (by decide) hf_326
                replace hf_331 := hr_385.at ka_329 (by decide) (by decide) hf_331
                replace hf_334 := hr_385.at hk1 (by decide) (by decide) hf_334
                replace hf_378 := hr_385.at hk2 (by decide) (by decide) hf_378
                replace hf_381 := hr_385.at ka_329 (by decide) (by decide) hf_381
                replace hfr := hfr.trans (hr_385.sub (by decide))
                obtain ⟨a_389, ka_389, rfl⟩ := hR_388
                refine jj_pop C dX1_takeIn_169 rfl ?_
                refine jj_aload C dX1_takeIn_170 rfl ?_
                refine jj_dup C dX1_takeIn_172 rfl ?_
                refine tt_get C hok_384 jk_9 2 (by decide) jw_113 (t := (1, (-9223372036854775808), 9223372036854775807)) ka_329 (by decide) rfl rfl dX1_takeIn_173 (fun v_390 hv_390 hf_391 => ?_)
                obtain ⟨y_392, rfl, -, -⟩ := tt_vj hv_390
                refine jj_aload_n C dX1_takeIn_176 rfl ?_
                refine tt_getF C hok_384 jk_7 3 (by decide) jw_118 (t := (1, (-9223372036854775808), 9223372036854775807)) hk2 (by decide) rfl rfl hf_319 dX1_takeIn_177 ?_
                obtain ⟨y_393, ey_393⟩ : ∃ z : Int64, y_392 + y_320 = z := ⟨_, rfl⟩
                refine jj_ladd (v := y_393) C dX1_takeIn_180 ey_393 ?_
                refine tt_put C hok_384 jk_9 2 (by decide) jw_113 (t := (1, (-9223372036854775808), 9223372036854775807)) ka_329 (by decide) rfl rfl rfl (tt_ja y_393) rfl rfl dX1_takeIn_181 (fun pl_394 hok_395 tr hn => ?_)
                replace hf_106 := tr _ _ _ (Or.inl (tt_ne hk1 ka_329 (by decide))) hf_106
                replace hf_110 := tr _ _ _ (Or.inl (tt_ne hk1 ka_329 (by decide))) hf_110
                replace hf_319 := tr _ _ _ (Or.inl (tt_ne hk2 ka_329 (by decide))) hf_319
                replace hf_326 := tr _ _ _ (Or.inl (tt_ne hk1 ka_329 (by decide))) hf_326
                replace hf_331 := tr _ _ _ (Or.inr (by decide)) hf_331
                replace hf_334 := tr _ _ _ (Or.inl (tt_ne hk1 ka_329 (by decide))) hf_334
                replace hf_378 := tr _ _ _ (Or.inl (tt_ne hk2 ka_329 (by decide))) hf_378
                replace hf_381 := tr _ _ _ (Or.inr (by decide)) hf_381
                have hf_396 := hn
                replace hfr := hfr.put ka_329 tr (by decide)
                refine jj_aload C dX1_takeIn_184 rfl ?_
                refine jj_dup C dX1_takeIn_186 rfl ?_
                refine tt_get C hok_395 jk_9 3 (by decide) jw_157 (t := (1, (-9223372036854775808), 9223372036854775807)) ka_329 (by decide) rfl rfl dX1_takeIn_187 (fun v_397 hv_397 hf_398 => ?_)
                obtain ⟨y_399, rfl, -, -⟩ := tt_vj hv_397
                refine jj_lload C dX1_takeIn_190 rfl ?_
                obtain ⟨y_400, ey_400⟩ : ∃ z : Int64, y_399 + y_322 = z := ⟨_, rfl⟩
                refine jj_ladd (v := y_400) C dX1_takeIn_192 ey_400 ?_
                refine tt_put C hok_395 jk_9 3 (by decide) jw_157 (t := (1, (-9223372036854775808), 9223372036854775807)) ka_329 (by decide) rfl rfl rfl (tt_ja y_400) rfl rfl dX1_takeIn_193 (fun pl_401 hok_402 tr hn => ?_)
                replace hf_106 := tr _ _ _ (Or.inl (tt_ne hk1 ka_329 (by decide))) hf_106
                replace hf_110 := tr _ _ _ (Or.inl (tt_ne hk1 ka_329 (by decide))) hf_110
                replace hf_319 := tr _ _ _ (Or.inl (tt_ne hk2 ka_329 (by decide))) hf_319
                replace hf_326 := tr _ _ _ (Or.inl (tt_ne hk1 ka_329 (by decide))) hf_326
                replace hf_331 := tr _ _ _ (Or.inr (by decide)) hf_331
                replace hf_334 := tr _ _ _ (Or.inl (tt_ne hk1 ka_329 (by decide))) hf_334
                replace hf_378 := tr _ _ _ (Or.inl (tt_ne hk2 ka_329 (by decide))) hf_378
                replace hf_381 := tr _ _ _ (Or.inr (by decide)) hf_381
                replace hf_396 := tr _ _ _ (Or.inr (by decide)) hf_396
                have hf_403 := hn
                replace hfr := hfr.put ka_329 tr (by decide)
                refine jj_aload_n C dX1_takeIn_196 rfl ?_
                refine tt_get C hok_402 jk_2 10 (by decide) jw_269 (t := (2, 5, 0)) hk1 (by decide) rfl rfl dX1_takeIn_197 (fun v_404 hv_404 hf_405 => ?_)
                obtain ⟨a_406, rfl, ka_406⟩ := tt_vr hv_404
                refine jj_iconst (v := 2) C dX1_takeIn_200 (by decide) ?_
                refine jj_dup2 C dX1_takeIn_201 rfl rfl ?_
                refine tt_lald C hok_402 (t := (1, (-9223372036854775808), 9223372036854775807)) ka_406 (by decide) rfl (vp_in_iff.mpr (by decide)) dX1_takeIn_202 (fun v_407 hv_407 => ?_)
                refine jj_aload_n C dX1_takeIn_203 rfl ?_
                refine tt_getF C hok_402 jk_7 3 (by decide) jw_118 (t := (1, (-9223372036854775808), 9223372036854775807)) hk2 (by decide) rfl rfl hf_319 dX1_takeIn_204 ?_
                obtain ⟨y_408, ey_408⟩ : ∃ z : Int64, v_407 + y_320 = z := ⟨_, rfl⟩
                refine jj_ladd (v := y_408) C dX1_takeIn_207 ey_408 ?_
                refine tt_last C hok_402 (t := (1, (-9223372036854775808), 9223372036854775807)) ka_406 (by decide) rfl (vp_in_iff.mpr (by decide)) (tt_ja _) dX1_takeIn_208 (fun pl_409 hok_410 tr => ?_)
                replace hf_106 := tr _ _ _ hf_106
                replace hf_110 := tr _ _ _ hf_110
                replace hf_319 := tr _ _ _ hf_319
                replace hf_326 := tr _ _ _ hf_326
                replace hf_331 := tr _ _ _ hf_331
                replace hf_334 := tr _ _ _ hf_334
                replace hf_378 := tr _ _ _ hf_378
                replace hf_381 := tr _ _ _ hf_381
                replace hf_396 := tr _ _ _ hf_396
                replace hf_403 := tr _ _ _ hf_403
                replace hf_405 := tr _ _ _ hf_405
                replace hfr := hfr.arr tr
                refine jj_iconst (v := 1) C dX1_takeIn_209 (by decide) ?_
                exact jj_zret C rfl ⟨[], pl_409, rfl, rfl, hok_410, hfr, (Or.inr rfl)⟩ dX1_takeIn_210 (jj_le rfl) (jj_le rfl)
            · refine jj_iconst (v := 0) C dX1_takeIn_110 (by decide) ?_
              exact jj_zret C rfl ⟨[], pl0, rfl, rfl, hok, hfr, (Or.inl rfl)⟩ dX1_takeIn_111 (jj_le rfl) (jj_le rfl)
    · have z_c_108 := jc_nlt (a := (p3).toInt) (b := (x_107).toInt) c_108 rfl rfl
      refine jj_iconst (v := 1) C dX1_takeIn_12 (by decide) ?_
      refine jj_goto (tgt := 17) C dX1_takeIn_13 (by decide) ?_
      refine jj_istore C dX1_takeIn_17 (by decide) rfl ?_
      refine jj_iload C dX1_takeIn_19 rfl ?_
      refine jj_if_neT (tgt := 32) C dX1_takeIn_21 (by decide) (by decide) ?_
      refine jj_ldc2 (v := 1000000) C dX1_takeIn_32 jw_330 ?_
      refine jj_goto (tgt := 47) C dX1_takeIn_35 (by decide) ?_
      refine jj_lstore C dX1_takeIn_47 (by decide) rfl ?_
      refine jj_lload C dX1_takeIn_49 rfl ?_
      refine jj_lconst (v := 0) C dX1_takeIn_51 (by decide) ?_
      refine jj_lcmp_leF (tgt := 79) C dX1_takeIn_52 dX1_takeIn_53 (by decide) (by decide) ?_
      refine jj_aload_n C dX1_takeIn_56 rfl ?_
      refine tt_get C hok jk_2 8 (by decide) jw_121 (t := (0, 0, 40)) hk1 (by decide) rfl rfl dX1_takeIn_57 (fun v_411 hv_411 hf_412 => ?_)
      obtain ⟨x_413, rfl, lx_413, ux_413⟩ := tt_vi hv_411
      refine jj_bipush (v := 40) C dX1_takeIn_60 (by decide) ?_
      refine jj_icmp_ge (tgt := 79) C dX1_takeIn_62 (by decide) (fun c_414 => ?_) (fun c_414 => ?_)
      · have z_c_414 := jc_le (a := (40)) (b := (x_413).toInt) c_414 (by decide) rfl
        refine jj_iconst (v := 0) C dX1_takeIn_79 (by decide) ?_
        exact jj_zret C rfl ⟨[], pl0, rfl, rfl, hok, hfr, (Or.inl rfl)⟩ dX1_takeIn_80 (jj_le rfl) (jj_le rfl)
      · have z_c_414 := jc_nle (a := (40)) (b := (x_413).toInt) c_414 (by decide) rfl
        refine jj_iload C dX1_takeIn_65 rfl ?_
        refine jj_if_eqF (tgt := 81) C dX1_takeIn_67 (by decide) (by decide) ?_
        refine jj_aload_n C dX1_takeIn_70 rfl ?_
        refine tt_getF C hok jk_2 7 (by decide) jw_80 (t := (0, 0, 6)) hk1 (by decide) rfl rfl hf_106 dX1_takeIn_71 ?_
        refine jj_bipush (v := 6) C dX1_takeIn_74 (by decide) ?_
        refine jj_icmp_lt (tgt := 81) C dX1_takeIn_76 (by decide) (fun c_415 => ?_) (fun c_415 => ?_)
        · have z_c_415 := jc_lt (a := (x_107).toInt) (b := (6)) c_415 rfl (by decide)
          refine jj_aload_n C dX1_takeIn_81 rfl ?_
          refine tt_get C hok jk_7 3 (by decide) jw_118 (t := (1, (-9223372036854775808), 9223372036854775807)) hk2 (by decide) rfl rfl dX1_takeIn_82 (fun v_416 hv_416 hf_417 => ?_)
          obtain ⟨y_418, rfl, -, -⟩ := tt_vj hv_416
          refine jj_ldc2 (v := 100000) C dX1_takeIn_85 jw_331 ?_
          obtain ⟨y_419, ey_419⟩ : ∃ z : Int64, y_418 * (100000 : Int64) = z := ⟨_, rfl⟩
          refine jj_lmul (v := y_419) C dX1_takeIn_88 ey_419 ?_
          refine jj_lload C dX1_takeIn_89 rfl ?_
          obtain ⟨y_420, ey_420⟩ : ∃ z : Int64, y_419 / (1000000 : Int64) = z := ⟨_, rfl⟩
          refine jj_ldiv (v := y_420) C dX1_takeIn_91 (by decide) ey_420 ?_
          refine jj_lstore C dX1_takeIn_92 (by decide) rfl ?_
          refine jj_lload C dX1_takeIn_94 rfl ?_
          refine jj_lconst (v := 1) C dX1_takeIn_96 (by decide) ?_
          refine jj_lcmp_lt (tgt := 110) C dX1_takeIn_97 dX1_takeIn_98 (by decide) (fun c_421 => ?_) (fun c_421 => ?_)
          · refine jj_iconst (v := 0) C dX1_takeIn_110 (by decide) ?_
            exact jj_zret C rfl ⟨[], pl0, rfl, rfl, hok, hfr, (Or.inl rfl)⟩ dX1_takeIn_111 (jj_le rfl) (jj_le rfl)
          · refine jj_lload C dX1_takeIn_101 rfl ?_
            refine jj_ldc2 (v := 10000000) C dX1_takeIn_103 jw_332 ?_
            refine jj_lcmp_le (tgt := 112) C dX1_takeIn_106 dX1_takeIn_107 (by decide) (fun c_422 => ?_) (fun c_422 => ?_)
            · refine jj_iload C dX1_takeIn_112 rfl ?_
              refine jj_if_eqF (tgt := 124) C dX1_takeIn_114 (by decide) (by decide) ?_
              refine jj_aload_n C dX1_takeIn_117 rfl ?_
              obtain ⟨qc, gs, hqc⟩ := tt_recv (cx := []) hok hk1 (by decide) rfl
              refine tt_callV (rest := []) C (tc_X0_beginSeries_1 hl D cA ak h1 hk1 hok) [] [] rfl rfl (by decide) (by decide) (by decide) qc hqc rfl rfl jw_333 jw_344 jw_345 jw_133 jw_334 jn_X0_beginSeries rfl (jj_le rfl) (jj_le rfl) (jj_le rfl) (jj_le rfl) (jj_le rfl) dX1_takeIn_118 rfl (fun _ _ _ hX => hX.elim) (fun rx pl_423 r O_426 => ?_)
              obtain ⟨rfl, hok_424, hr_425, hR_428⟩ := O_426
              replace hf_412 := hr_425.at hk1 (by decide) (by decide) hf_412
              replace hf_417 := hr_425.at hk2 (by decide) (by decide) hf_417
              replace hfr := hfr.trans (hr_425.sub (by decide))
              obtain ⟨a_429, ka_429, rfl⟩ := hR_428
              refine jj_goto (tgt := 130) C dX1_takeIn_121 (by decide) ?_
              refine jj_astore C dX1_takeIn_130 (by decide) rfl ?_
              refine jj_lload C dX1_takeIn_132 rfl ?_
              refine jj_aload C dX1_takeIn_134 rfl ?_
              refine tt_get C hok_424 jk_9 4 (by decide) jw_172 (t := (1, (-9223372036854775808), 9223372036854775807)) ka_429 (by decide) rfl rfl dX1_takeIn_136 (fun v_430 hv_430 hf_431 => ?_)
              obtain ⟨y_432, rfl, -, -⟩ := tt_vj hv_430
              refine jj_lload C dX1_takeIn_139 rfl ?_
              refine jj_aload_n C dX1_takeIn_141 rfl ?_
              refine tt_get C hok_424 jk_2 3 (by decide) jw_149 (t := (0, (-2147483648), 2147483647)) hk1 (by decide) rfl rfl dX1_takeIn_142 (fun v_433 hv_433 hf_434 => ?_)
              obtain ⟨x_435, rfl, lx_435, ux_435⟩ := tt_vi hv_433
              refine tt_callS (rest := []) C (tc_X2_dueOn_2 hl D cA ak y_420 y_432 x_435 hok_424) [] [] rfl rfl (by decide) (by decide) (by decide) jw_173 jw_178 jw_175 jw_174 jn_X2_dueOn rfl (jj_le rfl) (jj_le rfl) (jj_le rfl) (jj_le rfl) (jj_le rfl) dX1_takeIn_145 rfl (fun _ _ _ hX => hX.elim) (fun rx pl_436 r O_439 => ?_)
              obtain ⟨rfl, hok_437, hr_438, hR_441⟩ := O_439
              replace hf_412 := hr_438.at hk1 (by decide) (by decide) hf_412
              replace hf_417 := hr_438.at hk2 (by decide) (by decide) hf_417
              replace hf_431 := hr_438.at ka_429 (by decide) (by decide) hf_431
              replace hf_434 := hr_438.at hk1 (by decide) (by decide) hf_434
              replace hfr := hfr.trans (hr_438.sub (by decide))
              rcases hR_441 with rfl | ⟨y_442, rfl⟩
              · refine jj_lstore C dX1_takeIn_148 (by decide) rfl ?_
                refine jj_aload_n C dX1_takeIn_150 rfl ?_
                refine jj_aload_n C dX1_takeIn_151 rfl ?_
                refine tt_get C hok_437 jk_7 0 (by decide) jw_117 (t := (0, (-2147483648), 2147483647)) hk2 (by decide) rfl rfl dX1_takeIn_152 (fun v_443 hv_443 hf_444 => ?_)
                obtain ⟨x_445, rfl, lx_445, ux_445⟩ := tt_vi hv_443
                refine jj_aload C dX1_takeIn_155 rfl ?_
                refine tt_get C hok_437 jk_9 0 (by decide) jw_347 (t := (0, (-2147483648), 2147483647)) ka_429 (by decide) rfl rfl dX1_takeIn_157 (fun v_446 hv_446 hf_447 => ?_)
                obtain ⟨x_448, rfl, lx_448, ux_448⟩ := tt_vi hv_446
                refine jj_lload C dX1_takeIn_160 rfl ?_
                refine jj_lload C dX1_takeIn_162 rfl ?_
                refine jj_lload C dX1_takeIn_164 rfl ?_
                obtain ⟨qc, gs, hqc⟩ := tt_recv (cx := []) hok_437 hk1 (by decide) rfl
                refine tt_callV (rest := []) C (tc_X0_addLot_1 hl D cA ak h1 x_445 x_448 y_420 hk1 hok_437) [] [] rfl rfl (by decide) (by decide) (by decide) qc hqc rfl rfl jw_348 jw_354 jw_355 jw_133 jw_349 jn_X0_addLot rfl (jj_le rfl) (jj_le rfl) (jj_le rfl) (jj_le rfl) (jj_le rfl) dX1_takeIn_166 rfl (fun _ _ _ hX => hX.elim) (fun rx pl_449 r O_452 => ?_)
                obtain ⟨rfl, hok_450, hr_451, hR_454⟩ := O_452
                replace hf_417 := hr_451.at hk2 (by decide) (by decide) hf_417
                replace hf_431 := hr_451.at ka_429 (by decide) (by decide) hf_431
                replace hf_434 := hr_451.at hk1 (by decide) (by decide) hf_434
                replace hf_444 := hr_451.at hk2 (by decide) (by decide) hf_444
                replace hf_447 := hr_451.at ka_429 (by decide) (by decide) hf_447
                replace hfr := hfr.trans (hr_451.sub (by decide))
                obtain ⟨a_455, ka_455, rfl⟩ := hR_454
                refine jj_pop C dX1_takeIn_169 rfl ?_
                refine jj_aload C dX1_takeIn_170 rfl ?_
                refine jj_dup C dX1_takeIn_172 rfl ?_
                refine tt_get C hok_450 jk_9 2 (by decide) jw_113 (t := (1, (-9223372036854775808), 9223372036854775807)) ka_429 (by decide) rfl rfl dX1_takeIn_173 (fun v_456 hv_456 hf_457 => ?_)
                obtain ⟨y_458, rfl, -, -⟩ := tt_vj hv_456
                refine jj_aload_n C dX1_takeIn_176 rfl ?_
                refine tt_getF C hok_450 jk_7 3 (by decide) jw_118 (t := (1, (-9223372036854775808), 9223372036854775807)) hk2 (by decide) rfl rfl hf_417 dX1_takeIn_177 ?_
                obtain ⟨y_459, ey_459⟩ : ∃ z : Int64, y_458 + y_418 = z := ⟨_, rfl⟩
                refine jj_ladd (v := y_459) C dX1_takeIn_180 ey_459 ?_
                refine tt_put C hok_450 jk_9 2 (by decide) jw_113 (t := (1, (-9223372036854775808), 9223372036854775807)) ka_429 (by decide) rfl rfl rfl (tt_ja y_459) rfl rfl dX1_takeIn_181 (fun pl_460 hok_461 tr hn => ?_)
                replace hf_417 := tr _ _ _ (Or.inl (tt_ne hk2 ka_429 (by decide))) hf_417
                replace hf_431 := tr _ _ _ (Or.inr (by decide)) hf_431
                replace hf_434 := tr _ _ _ (Or.inl (tt_ne hk1 ka_429 (by decide))) hf_434
                replace hf_444 := tr _ _ _ (Or.inl (tt_ne hk2 ka_429 (by decide))) hf_444
                replace hf_447 := tr _ _ _ (Or.inr (by decide)) hf_447
                have hf_462 := hn
                replace hfr := hfr.put ka_429 tr (by decide)
                refine jj_aload C dX1_takeIn_184 rfl ?_
                refine jj_dup C dX1_takeIn_186 rfl ?_
                refine tt_get C hok_461 jk_9 3 (by decide) jw_157 (t := (1, (-9223372036854775808), 9223372036854775807)) ka_429 (by decide) rfl rfl dX1_takeIn_187 (fun v_463 hv_463 hf_464 => ?_)
                obtain ⟨y_465, rfl, -, -⟩ := tt_vj hv_463
                refine jj_lload C dX1_takeIn_190 rfl ?_
                obtain ⟨y_466, ey_466⟩ : ∃ z : Int64, y_465 + y_420 = z := ⟨_, rfl⟩
                refine jj_ladd (v := y_466) C dX1_takeIn_192 ey_466 ?_
                refine tt_put C hok_461 jk_9 3 (by decide) jw_157 (t := (1, (-9223372036854775808), 9223372036854775807)) ka_429 (by decide) rfl rfl rfl (tt_ja y_466) rfl rfl dX1_takeIn_193 (fun pl_467 hok_468 tr hn => ?_)
                replace hf_417 := tr _ _ _ (Or.inl (tt_ne hk2 ka_429 (by decide))) hf_417
                replace hf_431 := tr _ _ _ (Or.inr (by decide)) hf_431
                replace hf_434 := tr _ _ _ (Or.inl (tt_ne hk1 ka_429 (by decide))) hf_434
                replace hf_444 := tr _ _ _ (Or.inl (tt_ne hk2 ka_429 (by decide))) hf_444
                replace hf_447 := tr _ _ _ (Or.inr (by decide)) hf_447
                replace hf_462 := tr _ _ _ (Or.inr (by decide)) hf_462
                have hf_469 := hn
                replace hfr := hfr.put ka_429 tr (by decide)
                refine jj_aload_n C dX1_takeIn_196 rfl ?_
                refine tt_get C hok_468 jk_2 10 (by decide) jw_269 (t := (2, 5, 0)) hk1 (by decide) rfl rfl dX1_takeIn_197 (fun v_470 hv_470 hf_471 => ?_)
                obtain ⟨a_472, rfl, ka_472⟩ := tt_vr hv_470
                refine jj_iconst (v := 2) C dX1_takeIn_200 (by decide) ?_
                refine jj_dup2 C dX1_takeIn_201 rfl rfl ?_
                refine tt_lald C hok_468 (t := (1, (-9223372036854775808), 9223372036854775807)) ka_472 (by decide) rfl (vp_in_iff.mpr (by decide)) dX1_takeIn_202 (fun v_473 hv_473 => ?_)
                refine jj_aload_n C dX1_takeIn_203 rfl ?_
                refine tt_getF C hok_468 jk_7 3 (by decide) jw_118 (t := (1, (-9223372036854775808), 9223372036854775807)) hk2 (by decide) rfl rfl hf_417 dX1_takeIn_204 ?_
                obtain ⟨y_474, ey_474⟩ : ∃ z : Int64, v_473 + y_418 = z := ⟨_, rfl⟩
                refine jj_ladd (v := y_474) C dX1_takeIn_207 ey_474 ?_
                refine tt_last C hok_468 (t := (1, (-9223372036854775808), 9223372036854775807)) ka_472 (by decide) rfl (vp_in_iff.mpr (by decide)) (tt_ja _) dX1_takeIn_208 (fun pl_475 hok_476 tr => ?_)
                replace hf_417 := tr _ _ _ hf_417
                replace hf_431 := tr _ _ _ hf_431
                replace hf_434 := tr _ _ _ hf_434
                replace hf_444 := tr _ _ _ hf_444
                replace hf_447 := tr _ _ _ hf_447
                replace hf_462 := tr _ _ _ hf_462
                replace hf_469 := tr _ _ _ hf_469
                replace hf_471 := tr _ _ _ hf_471
                replace hfr := hfr.arr tr
                refine jj_iconst (v := 1) C dX1_takeIn_209 (by decide) ?_
                exact jj_zret C rfl ⟨[], pl_475, rfl, rfl, hok_476, hfr, (Or.inr rfl)⟩ dX1_takeIn_210 (jj_le rfl) (jj_le rfl)
              · refine jj_lstore C dX1_takeIn_148 (by decide) rfl ?_
                refine jj_aload_n C dX1_takeIn_150 rfl ?_
                refine jj_aload_n C dX1_takeIn_151 rfl ?_
                refine tt_get C hok_437 jk_7 0 (by decide) jw_117 (t := (0, (-2147483648), 2147483647)) hk2 (by decide) rfl rfl dX1_takeIn_152 (fun v_477 hv_477 hf_478 => ?_)
                obtain ⟨x_479, rfl, lx_479, ux_479⟩ := tt_vi hv_477
                refine jj_aload C dX1_takeIn_155 rfl ?_
                refine tt_get C hok_437 jk_9 0 (by decide) jw_347 (t := (0, (-2147483648), 2147483647)) ka_429 (by decide) rfl rfl dX1_takeIn_157 (fun v_480 hv_480 hf_481 => ?_)
                obtain ⟨x_482, rfl, lx_482, ux_482⟩ := tt_vi hv_480
                refine jj_lload C dX1_takeIn_160 rfl ?_
                refine jj_lload C dX1_takeIn_162 rfl ?_
                refine jj_lload C dX1_takeIn_164 rfl ?_
                obtain ⟨qc, gs, hqc⟩ := tt_recv (cx := []) hok_437 hk1 (by decide) rfl
                refine tt_callV (rest := []) C (tc_X0_addLot_2 hl D cA ak h1 x_479 x_482 y_420 y_442 hk1 hok_437) [] [] rfl rfl (by decide) (by decide) (by decide) qc hqc rfl rfl jw_348 jw_354 jw_355 jw_133 jw_349 jn_X0_addLot rfl (jj_le rfl) (jj_le rfl) (jj_le rfl) (jj_le rfl) (jj_le rfl) dX1_takeIn_166 rfl (fun _ _ _ hX => hX.elim) (fun rx pl_483 r O_486 => ?_)
                obtain ⟨rfl, hok_484, hr_485, hR_488⟩ := O_486
                replace hf_417 := hr_485.at hk2 (by decide) (by decide) hf_417
                replace hf_431 := hr_485.at ka_429 (by decide) (by decide) hf_431
                replace hf_434 := hr_485.at hk1 (by decide) (by decide) hf_434
                replace hf_478 := hr_485.at hk2 (by decide) (by decide) hf_478
                replace hf_481 := hr_485.at ka_429 (by decide) (by decide) hf_481
                replace hfr := hfr.trans (hr_485.sub (by decide))
                obtain ⟨a_489, ka_489, rfl⟩ := hR_488
                refine jj_pop C dX1_takeIn_169 rfl ?_
                refine jj_aload C dX1_takeIn_170 rfl ?_
                refine jj_dup C dX1_takeIn_172 rfl ?_
                refine tt_get C hok_484 jk_9 2 (by decide) jw_113 (t := (1, (-9223372036854775808), 9223372036854775807)) ka_429 (by decide) rfl rfl dX1_takeIn_173 (fun v_490 hv_490 hf_491 => ?_)
                obtain ⟨y_492, rfl, -, -⟩ := tt_vj hv_490
                refine jj_aload_n C dX1_takeIn_176 rfl ?_
                refine tt_getF C hok_484 jk_7 3 (by decide) jw_118 (t := (1, (-9223372036854775808), 9223372036854775807)) hk2 (by decide) rfl rfl hf_417 dX1_takeIn_177 ?_
                obtain ⟨y_493, ey_493⟩ : ∃ z : Int64, y_492 + y_418 = z := ⟨_, rfl⟩
                refine jj_ladd (v := y_493) C dX1_takeIn_180 ey_493 ?_
                refine tt_put C hok_484 jk_9 2 (by decide) jw_113 (t := (1, (-9223372036854775808), 9223372036854775807)) ka_429 (by decide) rfl rfl rfl (tt_ja y_493) rfl rfl dX1_takeIn_181 (fun pl_494 hok_495 tr hn => ?_)
                replace hf_417 := tr _ _ _ (Or.inl (tt_ne hk2 ka_429 (by decide))) hf_417
                replace hf_431 := tr _ _ _ (Or.inr (by decide)) hf_431
                replace hf_434 := tr _ _ _ (Or.inl (tt_ne hk1 ka_429 (by decide))) hf_434
                replace hf_478 := tr _ _ _ (Or.inl (tt_ne hk2 ka_429 (by decide))) hf_478
                replace hf_481 := tr _ _ _ (Or.inr (by decide)) hf_481
                have hf_496 := hn
                replace hfr := hfr.put ka_429 tr (by decide)
                refine jj_aload C dX1_takeIn_184 rfl ?_
                refine jj_dup C dX1_takeIn_186 rfl ?_
                refine tt_get C hok_495 jk_9 3 (by decide) jw_157 (t := (1, (-9223372036854775808), 9223372036854775807)) ka_429 (by decide) rfl rfl dX1_takeIn_187 (fun v_497 hv_497 hf_498 => ?_)
                obtain ⟨y_499, rfl, -, -⟩ := tt_vj hv_497
                refine jj_lload C dX1_takeIn_190 rfl ?_
                obtain ⟨y_500, ey_500⟩ : ∃ z : Int64, y_499 + y_420 = z := ⟨_, rfl⟩
                refine jj_ladd (v := y_500) C dX1_takeIn_192 ey_500 ?_
                refine tt_put C hok_495 jk_9 3 (by decide) jw_157 (t := (1, (-9223372036854775808), 9223372036854775807)) ka_429 (by decide) rfl rfl rfl (tt_ja y_500) rfl rfl dX1_takeIn_193 (fun pl_501 hok_502 tr hn => ?_)
                replace hf_417 := tr _ _ _ (Or.inl (tt_ne hk2 ka_429 (by decide))) hf_417
                replace hf_431 := tr _ _ _ (Or.inr (by decide)) hf_431
                replace hf_434 := tr _ _ _ (Or.inl (tt_ne hk1 ka_429 (by decide))) hf_434
                replace hf_478 := tr _ _ _ (Or.inl (tt_ne hk2 ka_429 (by decide))) hf_478
                replace hf_481 := tr _ _ _ (Or.inr (by decide)) hf_481
                replace hf_496 := tr _ _ _ (Or.inr (by decide)) hf_496
                have hf_503 := hn
                replace hfr := hfr.put ka_429 tr (by decide)
                refine jj_aload_n C dX1_takeIn_196 rfl ?_
                refine tt_get C hok_502 jk_2 10 (by decide) jw_269 (t := (2, 5, 0)) hk1 (by decide) rfl rfl dX1_takeIn_197 (fun v_504 hv_504 hf_505 => ?_)
                obtain ⟨a_506, rfl, ka_506⟩ := tt_vr hv_504
                refine jj_iconst (v := 2) C dX1_takeIn_200 (by decide) ?_
                refine jj_dup2 C dX1_takeIn_201 rfl rfl ?_
                refine tt_lald C hok_502 (t := (1, (-9223372036854775808), 9223372036854775807)) ka_506 (by decide) rfl (vp_in_iff.mpr (by decide)) dX1_takeIn_202 (fun v_507 hv_507 => ?_)
                refine jj_aload_n C dX1_takeIn_203 rfl ?_
                refine tt_getF C hok_502 jk_7 3 (by decide) jw_118 (t := (1, (-9223372036854775808), 9223372036854775807)) hk2 (by decide) rfl rfl hf_417 dX1_takeIn_204 ?_
                obtain ⟨y_508, ey_508⟩ : ∃ z : Int64, v_507 + y_418 = z := ⟨_, rfl⟩
                refine jj_ladd (v := y_508) C dX1_takeIn_207 ey_508 ?_
                refine tt_last C hok_502 (t := (1, (-9223372036854775808), 9223372036854775807)) ka_506 (by decide) rfl (vp_in_iff.mpr (by decide)) (tt_ja _) dX1_takeIn_208 (fun pl_509 hok_510 tr => ?_)
                replace hf_417 := tr _ _ _ hf_417
                replace hf_431 := tr _ _ _ hf_431
                replace hf_434 := tr _ _ _ hf_434
                replace hf_478 := tr _ _ _ hf_478
                replace hf_481 := tr _ _ _ hf_481
                replace hf_496 := tr _ _ _ hf_496
                replace hf_503 := tr _ _ _ hf_503
                replace hf_505 := tr _ _ _ hf_505
                replace hfr := hfr.arr tr
                refine jj_iconst (v := 1) C dX1_takeIn_209 (by decide) ?_
                exact jj_zret C rfl ⟨[], pl_509, rfl, rfl, hok_510, hfr, (Or.inr rfl)⟩ dX1_takeIn_210 (jj_le rfl) (jj_le rfl)
            · refine jj_iconst (v := 0) C dX1_takeIn_110 (by decide) ?_
              exact jj_zret C rfl ⟨[], pl0, rfl, rfl, hok, hfr, (Or.inl rfl)⟩ dX1_takeIn_111 (jj_le rfl) (jj_le rfl)
        · have z_c_415 := jc_nlt (a := (x_107).toInt) (b := (6)) c_415 rfl (by decide)
          exfalso; omega

