set_option maxHeartbeats 4000000 in
set_option maxRecDepth 100000 in
theorem tc_X2_settleSeries_1 {l : Launch} (hl : l.stackTraces = false) (D : va_G) (cA : Nat → ClassId) (ak : (Nat → Nat) × (Nat → Nat)) {Kd : Nat → Nat} (h0 : Nat) (h1 : Nat) (hk0 : Kd h0 = 1) (hk1 : Kd h1 = 2) {pl0 : va_W} (hok : tt_ok tt_tk cA Kd pl0) : jj_M l D cA ak yX2_settleSeries (.code yX2_settleSeries cX2_settleSeries 10 none) 2 58 0 0 ([] ++ pl0) [.ref h0, .ref h1] (tt_O (fun rx pl1 r => rx = [] ∧ tt_ok tt_tk cA Kd pl1 ∧ tt_fr Kd [(2, 2), (2, 3), (2, 4), (3, 3), (3, 4), (3, 5)] pl0 pl1 ∧ tt_fa Kd [5] pl0 pl1 ∧ ((r = none)))) (tt_OX (fun _ _ _ => False)) := by
  refine jj_start hl (by decide) jw_6694ff0abd (jj_le rfl) ?_
  intro p e s m args below meth c A hargs hA C hex hmn
  have hfr := tt_fr.refl (K := Kd) (WS := [(2, 2), (2, 3), (2, 4), (3, 3), (3, 4), (3, 5)]) pl0
  have hfa := tt_fa.refl (K := Kd) (WA := [5]) pl0
  refine jj_aload_n C dX2_settleSeries_0 rfl ?_
  obtain ⟨qc, gs, hqc⟩ := tt_recv (cx := []) hok hk1 (by decide) rfl
  refine tt_callV (rest := []) C (tc_X8_grossPrice_1 hl D cA ak h1 hk1 hok) [] [] rfl rfl (by decide) (by decide) (by decide) qc hqc rfl rfl jw_6230caeffd jw_8d67ffd46e jw_4ae9f31643 jw_364e75910d jw_11bb953c63 jn_X8_grossPrice rfl (jj_le rfl) (jj_le rfl) (jj_le rfl) (jj_le rfl) (jj_le rfl) dX2_settleSeries_1 rfl (fun _ _ _ hX => hX.elim) (fun rx pl_1 r O_4 => ?_)
  obtain ⟨rfl, hok_2, hr_3, hfa9, hR_6⟩ := O_4
  replace hfr := hfr.trans (hr_3.sub (by decide))
  replace hfa := hfa.trans (hfa9.sub (by decide))
  rcases hR_6 with rfl | ⟨y_9, rfl⟩
  · refine jj_lstore_n C dX2_settleSeries_4 (by decide) rfl ?_
    refine jj_aload_n C dX2_settleSeries_5 rfl ?_
    refine jj_aload_n C dX2_settleSeries_6 rfl ?_
    refine tt_get C hok_2 jk_2 3 (by decide) jw_6a66993f6c (t := (0, (-2147483648), 2147483647)) hk0 (by decide) rfl rfl dX2_settleSeries_7 (fun v_10 hv_10 hf_11 => ?_)
    obtain ⟨x_12, rfl, lx_12, ux_12⟩ := tt_vi hv_10
    obtain ⟨qc, gs, hqc⟩ := tt_recv (cx := []) hok_2 hk1 (by decide) rfl
    refine tt_callV (rest := []) C (tc_X8_accruedFee_1 hl D cA ak h1 x_12 hk1 hok_2) [] [] rfl rfl (by decide) (by decide) (by decide) qc hqc rfl rfl jw_0a56017595 jw_16e73d269e jw_e0ac78627f jw_364e75910d jw_449e8f4cf4 jn_X8_accruedFee rfl (jj_le rfl) (jj_le rfl) (jj_le rfl) (jj_le rfl) (jj_le rfl) dX2_settleSeries_10 rfl (fun _ _ _ hX => hX.elim) (fun rx pl_13 r O_16 => ?_)
    obtain ⟨rfl, hok_14, hr_15, hfa9, hR_18⟩ := O_16
    replace hf_11 := hr_15.at hk0 (by decide) (by decide) hf_11
    replace hfr := hfr.trans (hr_15.sub (by decide))
    replace hfa := hfa.trans (hfa9.sub (by decide))
    rcases hR_18 with rfl | ⟨y_21, rfl⟩
    · refine jj_lstore C dX2_settleSeries_13 (by decide) rfl ?_
      refine jj_aload_n C dX2_settleSeries_15 rfl ?_
      refine jj_dup C dX2_settleSeries_16 rfl ?_
      refine tt_get C hok_14 jk_9 2 (by decide) jw_5719898240 (t := (1, (-9223372036854775808), 9223372036854775807)) hk1 (by decide) rfl rfl dX2_settleSeries_17 (fun v_22 hv_22 hf_23 => ?_)
      obtain ⟨y_24, rfl, -, -⟩ := tt_vj hv_22
      refine jj_lload C dX2_settleSeries_20 rfl ?_
      obtain ⟨y_25, ey_25⟩ : ∃ z : Int64, y_24 - (0 : Int64) = z := ⟨_, rfl⟩
      refine jj_lsub (v := y_25) C dX2_settleSeries_22 ey_25 ?_
      refine rl_put C hok_14 jk_9 2 (by decide) jw_5719898240 (t := (1, (-9223372036854775808), 9223372036854775807)) hk1 (by decide) rfl rfl rfl (tt_ja y_25) rfl rfl dX2_settleSeries_23 (fun pl_26 hok_27 tr hn tl => ?_)
      replace hf_11 := tr _ _ _ (Or.inl (tt_ne hk0 hk1 (by decide))) hf_11
      have hf_28 := hn
      replace hfr := hfr.put hk1 tr (by decide)
      replace hfa := hfa.all tl
      refine jj_aload_n C dX2_settleSeries_26 rfl ?_
      refine tt_get C hok_27 jk_2 10 (by decide) jw_d4020bdca8 (t := (2, 5, 0)) hk0 (by decide) rfl rfl dX2_settleSeries_27 (fun v_29 hv_29 hf_30 => ?_)
      obtain ⟨a_31, rfl, ka_31⟩ := tt_vr hv_29
      refine jj_iconst (v := 0) C dX2_settleSeries_30 (by decide) ?_
      refine jj_dup2 C dX2_settleSeries_31 rfl rfl ?_
      refine tt_lald C hok_27 (t := (1, (-9223372036854775808), 9223372036854775807)) ka_31 (by decide) rfl (vp_in_iff.mpr (by decide)) dX2_settleSeries_32 (fun v_32 hv_32 => ?_)
      refine jj_lload C dX2_settleSeries_33 rfl ?_
      obtain ⟨y_33, ey_33⟩ : ∃ z : Int64, v_32 + (0 : Int64) = z := ⟨_, rfl⟩
      refine jj_ladd (v := y_33) C dX2_settleSeries_35 ey_33 ?_
      refine tl_last C hok_27 (t := (1, (-9223372036854775808), 9223372036854775807)) ka_31 (by decide) rfl (vp_in_iff.mpr (by decide)) (tt_ja _) dX2_settleSeries_36 (fun pl_34 hok_35 tr tl => ?_)
      replace hf_11 := tr _ _ _ hf_11
      replace hf_28 := tr _ _ _ hf_28
      replace hf_30 := tr _ _ _ hf_30
      replace hfr := hfr.arr tr
      replace hfa := hfa.wr ka_31 tl (by decide)
      refine jj_aload_n C dX2_settleSeries_37 rfl ?_
      obtain ⟨qc, gs, hqc⟩ := tt_recv (cx := []) hok_35 hk1 (by decide) rfl
      refine tt_callV (rest := []) C (tc_X8_grossPrice_1 hl D cA ak h1 hk1 hok_35) [] [] rfl rfl (by decide) (by decide) (by decide) qc hqc rfl rfl jw_6230caeffd jw_8d67ffd46e jw_4ae9f31643 jw_364e75910d jw_11bb953c63 jn_X8_grossPrice rfl (jj_le rfl) (jj_le rfl) (jj_le rfl) (jj_le rfl) (jj_le rfl) dX2_settleSeries_38 rfl (fun _ _ _ hX => hX.elim) (fun rx pl_36 r O_39 => ?_)
      obtain ⟨rfl, hok_37, hr_38, hfa9, hR_41⟩ := O_39
      replace hf_11 := hr_38.at hk0 (by decide) (by decide) hf_11
      replace hf_28 := hr_38.at hk1 (by decide) (by decide) hf_28
      replace hf_30 := hr_38.at hk0 (by decide) (by decide) hf_30
      replace hfr := hfr.trans (hr_38.sub (by decide))
      replace hfa := hfa.trans (hfa9.sub (by decide))
      rcases hR_41 with rfl | ⟨y_44, rfl⟩
      · refine jj_lstore C dX2_settleSeries_41 (by decide) rfl ?_
        refine jj_iconst (v := 0) C dX2_settleSeries_43 (by decide) ?_
        refine jj_istore C dX2_settleSeries_44 (by decide) rfl ?_
        have hL_45 : ∀ (N : Nat) (pl : va_W) (x_46 : Int32), True → tt_ok tt_tk cA Kd pl → tt_fr Kd [(2, 2), (2, 3), (2, 4), (3, 3), (3, 4), (3, 5)] pl0 pl → tt_fa Kd [5] pl0 pl → tt_at pl h0 3 (.int x_12) → tt_at pl h0 10 (.ref a_31) → (0 : Int) ≤ x_46.toInt → x_46.toInt ≤ 40 → (2147483648 - x_46.toInt ≤ (N : Int)) → jj_J p l e (jj_rm 2 58 0 0) s m args below meth c 10 A (vx_MQ below (jj_q D A (tt_O (fun rx pl1 r => rx = [] ∧ tt_ok tt_tk cA Kd pl1 ∧ tt_fr Kd [(2, 2), (2, 3), (2, 4), (3, 3), (3, 4), (3, 5)] pl0 pl1 ∧ tt_fa Kd [5] pl0 pl1 ∧ ((r = none))))) (jj_x D A (tt_OX (fun _ _ _ => False))) args s 0 0 A) (jj_X D A ([] ++ pl)) 0 0 46 [(8, .int x_46), (6, .long 1000000), (4, .long 0), (2, .long 1000000), (0, .ref h0), (1, .ref h1)] [] := by
          intro NL_45
          induction NL_45 with
          | zero => intro pl x_46 _ hok hfr hfa hf_47 hf_48 lx_46 ux_46 hNL_45; exfalso; omega
          | succ NL_45 ihL_45 =>
            intro pl x_46 _ hok hfr hfa hf_47 hf_48 lx_46 ux_46 hNL_45
            replace ihL_45 := fun pl x_46 h1 => ihL_45 pl x_46 trivial h1
            refine jj_iload C dX2_settleSeries_46 rfl ?_
            refine jj_aload_n C dX2_settleSeries_48 rfl ?_
            refine tt_get C hok jk_2 8 (by decide) jw_0a65dafd43 (t := (0, 0, 40)) hk0 (by decide) rfl rfl dX2_settleSeries_49 (fun v_49 hv_49 hf_50 => ?_)
            obtain ⟨x_51, rfl, lx_51, ux_51⟩ := tt_vi hv_49
            refine jj_icmp_ge (tgt := 123) C dX2_settleSeries_52 (by decide) (fun c_52 => ?_) (fun c_52 => ?_)
            · have z_c_52 := jc_le (a := (x_51).toInt) (b := (x_46).toInt) c_52 rfl rfl
              refine jj_lload C dX2_settleSeries_123 rfl ?_
              refine jj_lconst (v := 0) C dX2_settleSeries_125 (by decide) ?_
              refine jj_lcmp_leT (tgt := 136) C dX2_settleSeries_126 dX2_settleSeries_127 (by decide) (by decide) ?_
              exact jj_vret C ⟨[], pl, rfl, rfl, hok, hfr, hfa, rfl⟩ dX2_settleSeries_136 (jj_le rfl) (jj_le rfl)
            · have z_c_52 := jc_nle (a := (x_51).toInt) (b := (x_46).toInt) c_52 rfl rfl
              refine jj_aload_n C dX2_settleSeries_55 rfl ?_
              refine tt_get C hok jk_2 12 (by decide) jw_841c5f25b9 (t := (2, 7, 0)) hk0 (by decide) rfl rfl dX2_settleSeries_56 (fun v_53 hv_53 hf_54 => ?_)
              obtain ⟨a_55, rfl, ka_55⟩ := tt_vr hv_53
              refine jj_iload C dX2_settleSeries_59 rfl ?_
              refine tt_aald C hok (t := (2, 3, 0)) ka_55 (by decide) rfl rfl rfl (vp_in_iff.mpr ⟨by omega, by omega⟩) dX2_settleSeries_61 (fun v_56 hv_56 => ?_)
              obtain ⟨a_57, rfl, ka_57⟩ := tt_vr hv_56
              refine jj_astore C dX2_settleSeries_62 (by decide) rfl ?_
              refine jj_aload C dX2_settleSeries_64 rfl ?_
              refine tt_get C hok jk_5 1 (by decide) jw_65e19a7e21 (t := (0, (-2147483648), 2147483647)) ka_57 (by decide) rfl rfl dX2_settleSeries_66 (fun v_58 hv_58 hf_59 => ?_)
              obtain ⟨x_60, rfl, lx_60, ux_60⟩ := tt_vi hv_58
              refine jj_aload_n C dX2_settleSeries_69 rfl ?_
              refine tt_get C hok jk_9 0 (by decide) jw_2d4d10d910 (t := (0, (-2147483648), 2147483647)) hk1 (by decide) rfl rfl dX2_settleSeries_70 (fun v_61 hv_61 hf_62 => ?_)
              obtain ⟨x_63, rfl, lx_63, ux_63⟩ := tt_vi hv_61
              refine jj_icmp_ne (tgt := 117) C dX2_settleSeries_73 (by decide) (fun c_64 => ?_) (fun c_64 => ?_)
              · have z_c_64 := jc_neq (a := (x_60).toInt) (b := (x_63).toInt) c_64 rfl rfl
                obtain ⟨x_65, ex_65, vx_65⟩ := tt_inc (x := x_46) (n := 1) (by omega) (by omega)
                refine jj_iinc (v := x_65) C dX2_settleSeries_117 rfl ex_65 (by decide) rfl ?_
                refine jj_goto (tgt := 46) C dX2_settleSeries_120 (by decide) ?_
                refine jj_loc [0, 2, 3, 4, 5, 6] rfl ?_
                exact ihL_45 pl x_65 hok hfr hfa hf_47 hf_48 (by first | omega | decide | exact tt_lo _ | exact tt_hi _) (by first | omega | decide | exact tt_lo _ | exact tt_hi _) (by first | omega | decide | exact tt_lo _ | exact tt_hi _)
              · have z_c_64 := jc_eq (a := (x_60).toInt) (b := (x_63).toInt) c_64 rfl rfl
                refine jj_aload_n C dX2_settleSeries_76 rfl ?_
                refine tt_get C hok jk_2 1 (by decide) jw_d1d9a7ddd0 (t := (0, (-2147483648), 2147483647)) hk0 (by decide) rfl rfl dX2_settleSeries_77 (fun v_66 hv_66 hf_67 => ?_)
                obtain ⟨x_68, rfl, lx_68, ux_68⟩ := tt_vi hv_66
                refine jj_iconst (v := 1) C dX2_settleSeries_80 (by decide) ?_
                refine jj_icmp_ne (tgt := 104) C dX2_settleSeries_81 (by decide) (fun c_69 => ?_) (fun c_69 => ?_)
                · have z_c_69 := jc_neq (a := (x_68).toInt) (b := (1)) c_69 rfl (by decide)
                  refine jj_aload C dX2_settleSeries_104 rfl ?_
                  refine jj_lload C dX2_settleSeries_106 rfl ?_
                  refine rl_put C hok jk_5 4 (by decide) jw_8ebffe18a9 (t := (1, (-9223372036854775808), 9223372036854775807)) ka_57 (by decide) rfl rfl rfl (tt_ja (1000000 : Int64)) rfl rfl dX2_settleSeries_108 (fun pl_70 hok_71 tr hn tl => ?_)
                  replace hf_47 := tr _ _ _ (Or.inl (tt_ne hk0 ka_57 (by decide))) hf_47
                  replace hf_48 := tr _ _ _ (Or.inl (tt_ne hk0 ka_57 (by decide))) hf_48
                  replace hf_50 := tr _ _ _ (Or.inl (tt_ne hk0 ka_57 (by decide))) hf_50
                  replace hf_54 := tr _ _ _ (Or.inl (tt_ne hk0 ka_57 (by decide))) hf_54
                  replace hf_59 := tr _ _ _ (Or.inr (by decide)) hf_59
                  replace hf_62 := tr _ _ _ (Or.inl (tt_ne hk1 ka_57 (by decide))) hf_62
                  replace hf_67 := tr _ _ _ (Or.inl (tt_ne hk0 ka_57 (by decide))) hf_67
                  have hf_72 := hn
                  replace hfr := hfr.put ka_57 tr (by decide)
                  replace hfa := hfa.all tl
                  refine jj_aload C dX2_settleSeries_111 rfl ?_
                  refine jj_lconst (v := 0) C dX2_settleSeries_113 (by decide) ?_
                  refine rl_put C hok_71 jk_5 5 (by decide) jw_5d4c99f47d (t := (1, (-9223372036854775808), 9223372036854775807)) ka_57 (by decide) rfl rfl rfl (tt_ja (0 : Int64)) rfl rfl dX2_settleSeries_114 (fun pl_73 hok_74 tr hn tl => ?_)
                  replace hf_47 := tr _ _ _ (Or.inl (tt_ne hk0 ka_57 (by decide))) hf_47
                  replace hf_48 := tr _ _ _ (Or.inl (tt_ne hk0 ka_57 (by decide))) hf_48
                  replace hf_50 := tr _ _ _ (Or.inl (tt_ne hk0 ka_57 (by decide))) hf_50
                  replace hf_54 := tr _ _ _ (Or.inl (tt_ne hk0 ka_57 (by decide))) hf_54
                  replace hf_59 := tr _ _ _ (Or.inr (by decide)) hf_59
                  replace hf_62 := tr _ _ _ (Or.inl (tt_ne hk1 ka_57 (by decide))) hf_62
                  replace hf_67 := tr _ _ _ (Or.inl (tt_ne hk0 ka_57 (by decide))) hf_67
                  replace hf_72 := tr _ _ _ (Or.inr (by decide)) hf_72
                  have hf_75 := hn
                  replace hfr := hfr.put ka_57 tr (by decide)
                  replace hfa := hfa.all tl
                  obtain ⟨x_76, ex_76, vx_76⟩ := tt_inc (x := x_46) (n := 1) (by omega) (by omega)
                  refine jj_iinc (v := x_76) C dX2_settleSeries_117 rfl ex_76 (by decide) rfl ?_
                  refine jj_goto (tgt := 46) C dX2_settleSeries_120 (by decide) ?_
                  refine jj_loc [0, 2, 3, 4, 5, 6] rfl ?_
                  exact ihL_45 pl_73 x_76 hok_74 hfr hfa hf_47 hf_48 (by first | omega | decide | exact tt_lo _ | exact tt_hi _) (by first | omega | decide | exact tt_lo _ | exact tt_hi _) (by first | omega | decide | exact tt_lo _ | exact tt_hi _)
                · have z_c_69 := jc_eq (a := (x_68).toInt) (b := (1)) c_69 rfl (by decide)
                  refine jj_aload_n C dX2_settleSeries_84 rfl ?_
                  refine jj_aload_n C dX2_settleSeries_85 rfl ?_
                  refine jj_aload C dX2_settleSeries_86 rfl ?_
                  refine jj_lload_n C dX2_settleSeries_88 rfl ?_
                  refine jj_lload C dX2_settleSeries_89 rfl ?_
                  refine tt_callS (rest := []) C (tc_X2_giveBack_1 hl D cA ak h0 h1 a_57 hk0 hk1 ka_57 hok) [] [] rfl rfl (by decide) (by decide) (by decide) jw_5d382c0351 jw_86ab3ee099 jw_79af3f4029 jw_0fb41ea103 jn_X2_giveBack rfl (jj_le rfl) (jj_le rfl) (jj_le rfl) (jj_le rfl) (jj_le rfl) dX2_settleSeries_91 rfl (fun _ _ _ hX => hX.elim) (fun rx pl_77 r O_80 => ?_)
                  obtain ⟨rfl, hok_78, hr_79, hfa9, hR_82⟩ := O_80
                  replace hf_47 := hr_79.at hk0 (by decide) (by decide) hf_47
                  replace hf_48 := hr_79.at hk0 (by decide) (by decide) hf_48
                  replace hf_50 := hr_79.at hk0 (by decide) (by decide) hf_50
                  replace hf_54 := hr_79.at hk0 (by decide) (by decide) hf_54
                  replace hf_59 := hr_79.at ka_57 (by decide) (by decide) hf_59
                  replace hf_62 := hr_79.at hk1 (by decide) (by decide) hf_62
                  replace hf_67 := hr_79.at hk0 (by decide) (by decide) hf_67
                  replace hfr := hfr.trans (hr_79.sub (by decide))
                  replace hfa := hfa.trans (hfa9.sub (by decide))
                  obtain rfl := hR_82
                  refine jj_aload_n C dX2_settleSeries_94 rfl ?_
                  refine jj_aload_n C dX2_settleSeries_95 rfl ?_
                  refine jj_aload C dX2_settleSeries_96 rfl ?_
                  refine jj_lload_n C dX2_settleSeries_98 rfl ?_
                  refine jj_lload C dX2_settleSeries_99 rfl ?_
                  refine tt_callS (rest := []) C (tc_X2_takeDue_1 hl D cA ak h0 h1 a_57 hk0 hk1 ka_57 hok_78) [] [] rfl rfl (by decide) (by decide) (by decide) jw_fc900e64a6 jw_0ed4369b1a jw_79af3f4029 jw_ba54d233d6 jn_X2_takeDue rfl (jj_le rfl) (jj_le rfl) (jj_le rfl) (jj_le rfl) (jj_le rfl) dX2_settleSeries_101 rfl (fun _ _ _ hX => hX.elim) (fun rx pl_85 r O_88 => ?_)
                  obtain ⟨rfl, hok_86, hr_87, hfa9, hR_90⟩ := O_88
                  replace hf_47 := hr_87.at hk0 (by decide) (by decide) hf_47
                  replace hf_48 := hr_87.at hk0 (by decide) (by decide) hf_48
                  replace hf_50 := hr_87.at hk0 (by decide) (by decide) hf_50
                  replace hf_54 := hr_87.at hk0 (by decide) (by decide) hf_54
                  replace hf_59 := hr_87.at ka_57 (by decide) (by decide) hf_59
                  replace hf_62 := hr_87.at hk1 (by decide) (by decide) hf_62
                  replace hf_67 := hr_87.at hk0 (by decide) (by decide) hf_67
                  replace hfr := hfr.trans (hr_87.sub (by decide))
                  replace hfa := hfa.trans (hfa9.sub (by decide))
                  obtain rfl := hR_90
                  refine jj_aload C dX2_settleSeries_104 rfl ?_
                  refine jj_lload C dX2_settleSeries_106 rfl ?_
                  refine rl_put C hok_86 jk_5 4 (by decide) jw_8ebffe18a9 (t := (1, (-9223372036854775808), 9223372036854775807)) ka_57 (by decide) rfl rfl rfl (tt_ja (1000000 : Int64)) rfl rfl dX2_settleSeries_108 (fun pl_93 hok_94 tr hn tl => ?_)
                  replace hf_47 := tr _ _ _ (Or.inl (tt_ne hk0 ka_57 (by decide))) hf_47
                  replace hf_48 := tr _ _ _ (Or.inl (tt_ne hk0 ka_57 (by decide))) hf_48
                  replace hf_50 := tr _ _ _ (Or.inl (tt_ne hk0 ka_57 (by decide))) hf_50
                  replace hf_54 := tr _ _ _ (Or.inl (tt_ne hk0 ka_57 (by decide))) hf_54
                  replace hf_59 := tr _ _ _ (Or.inr (by decide)) hf_59
                  replace hf_62 := tr _ _ _ (Or.inl (tt_ne hk1 ka_57 (by decide))) hf_62
                  replace hf_67 := tr _ _ _ (Or.inl (tt_ne hk0 ka_57 (by decide))) hf_67
                  have hf_95 := hn
                  replace hfr := hfr.put ka_57 tr (by decide)
                  replace hfa := hfa.all tl
                  refine jj_aload C dX2_settleSeries_111 rfl ?_
                  refine jj_lconst (v := 0) C dX2_settleSeries_113 (by decide) ?_
                  refine rl_put C hok_94 jk_5 5 (by decide) jw_5d4c99f47d (t := (1, (-9223372036854775808), 9223372036854775807)) ka_57 (by decide) rfl rfl rfl (tt_ja (0 : Int64)) rfl rfl dX2_settleSeries_114 (fun pl_96 hok_97 tr hn tl => ?_)
                  replace hf_47 := tr _ _ _ (Or.inl (tt_ne hk0 ka_57 (by decide))) hf_47
                  replace hf_48 := tr _ _ _ (Or.inl (tt_ne hk0 ka_57 (by decide))) hf_48
                  replace hf_50 := tr _ _ _ (Or.inl (tt_ne hk0 ka_57 (by decide))) hf_50
                  replace hf_54 := tr _ _ _ (Or.inl (tt_ne hk0 ka_57 (by decide))) hf_54
                  replace hf_59 := tr _ _ _ (Or.inr (by decide)) hf_59
                  replace hf_62 := tr _ _ _ (Or.inl (tt_ne hk1 ka_57 (by decide))) hf_62
                  replace hf_67 := tr _ _ _ (Or.inl (tt_ne hk0 ka_57 (by decide))) hf_67
                  replace hf_95 := tr _ _ _ (Or.inr (by decide)) hf_95
                  have hf_98 := hn
                  replace hfr := hfr.put ka_57 tr (by decide)
                  replace hfa := hfa.all tl
                  obtain ⟨x_99, ex_99, vx_99⟩ := tt_inc (x := x_46) (n := 1) (by omega) (by omega)
                  refine jj_iinc (v := x_99) C dX2_settleSeries_117 rfl ex_99 (by decide) rfl ?_
                  refine jj_goto (tgt := 46) C dX2_settleSeries_120 (by decide) ?_
                  refine jj_loc [0, 2, 3, 4, 5, 6] rfl ?_
                  exact ihL_45 pl_96 x_99 hok_97 hfr hfa hf_47 hf_48 (by first | omega | decide | exact tt_lo _ | exact tt_hi _) (by first | omega | decide | exact tt_lo _ | exact tt_hi _) (by first | omega | decide | exact tt_lo _ | exact tt_hi _)
        exact hL_45 _ pl_36 (0 : Int32) trivial hok_37 hfr hfa hf_11 hf_30 (by first | omega | decide | exact tt_lo _ | exact tt_hi _) (by first | omega | decide | exact tt_lo _ | exact tt_hi _) (Int.self_le_toNat _)
      · refine jj_lstore C dX2_settleSeries_41 (by decide) rfl ?_
        refine jj_iconst (v := 0) C dX2_settleSeries_43 (by decide) ?_
        refine jj_istore C dX2_settleSeries_44 (by decide) rfl ?_
        have hL_100 : ∀ (N : Nat) (pl : va_W) (x_101 : Int32), True → tt_ok tt_tk cA Kd pl → tt_fr Kd [(2, 2), (2, 3), (2, 4), (3, 3), (3, 4), (3, 5)] pl0 pl → tt_fa Kd [5] pl0 pl → tt_at pl h0 3 (.int x_12) → tt_at pl h0 10 (.ref a_31) → (0 : Int) ≤ x_101.toInt → x_101.toInt ≤ 40 → (2147483648 - x_101.toInt ≤ (N : Int)) → jj_J p l e (jj_rm 2 58 0 0) s m args below meth c 10 A (vx_MQ below (jj_q D A (tt_O (fun rx pl1 r => rx = [] ∧ tt_ok tt_tk cA Kd pl1 ∧ tt_fr Kd [(2, 2), (2, 3), (2, 4), (3, 3), (3, 4), (3, 5)] pl0 pl1 ∧ tt_fa Kd [5] pl0 pl1 ∧ ((r = none))))) (jj_x D A (tt_OX (fun _ _ _ => False))) args s 0 0 A) (jj_X D A ([] ++ pl)) 0 0 46 [(8, .int x_101), (6, .long y_44), (4, .long 0), (2, .long 1000000), (0, .ref h0), (1, .ref h1)] [] := by
          intro NL_100
          induction NL_100 with
          | zero => intro pl x_101 _ hok hfr hfa hf_102 hf_103 lx_101 ux_101 hNL_100; exfalso; omega
          | succ NL_100 ihL_100 =>
            intro pl x_101 _ hok hfr hfa hf_102 hf_103 lx_101 ux_101 hNL_100
            replace ihL_100 := fun pl x_101 h1 => ihL_100 pl x_101 trivial h1
            refine jj_iload C dX2_settleSeries_46 rfl ?_
            refine jj_aload_n C dX2_settleSeries_48 rfl ?_
            refine tt_get C hok jk_2 8 (by decide) jw_0a65dafd43 (t := (0, 0, 40)) hk0 (by decide) rfl rfl dX2_settleSeries_49 (fun v_104 hv_104 hf_105 => ?_)
            obtain ⟨x_106, rfl, lx_106, ux_106⟩ := tt_vi hv_104
            refine jj_icmp_ge (tgt := 123) C dX2_settleSeries_52 (by decide) (fun c_107 => ?_) (fun c_107 => ?_)
            · have z_c_107 := jc_le (a := (x_106).toInt) (b := (x_101).toInt) c_107 rfl rfl
              refine jj_lload C dX2_settleSeries_123 rfl ?_
              refine jj_lconst (v := 0) C dX2_settleSeries_125 (by decide) ?_
              refine jj_lcmp_leT (tgt := 136) C dX2_settleSeries_126 dX2_settleSeries_127 (by decide) (by decide) ?_
              exact jj_vret C ⟨[], pl, rfl, rfl, hok, hfr, hfa, rfl⟩ dX2_settleSeries_136 (jj_le rfl) (jj_le rfl)
            · have z_c_107 := jc_nle (a := (x_106).toInt) (b := (x_101).toInt) c_107 rfl rfl
              refine jj_aload_n C dX2_settleSeries_55 rfl ?_
              refine tt_get C hok jk_2 12 (by decide) jw_841c5f25b9 (t := (2, 7, 0)) hk0 (by decide) rfl rfl dX2_settleSeries_56 (fun v_108 hv_108 hf_109 => ?_)
              obtain ⟨a_110, rfl, ka_110⟩ := tt_vr hv_108
              refine jj_iload C dX2_settleSeries_59 rfl ?_
              refine tt_aald C hok (t := (2, 3, 0)) ka_110 (by decide) rfl rfl rfl (vp_in_iff.mpr ⟨by omega, by omega⟩) dX2_settleSeries_61 (fun v_111 hv_111 => ?_)
              obtain ⟨a_112, rfl, ka_112⟩ := tt_vr hv_111
              refine jj_astore C dX2_settleSeries_62 (by decide) rfl ?_
              refine jj_aload C dX2_settleSeries_64 rfl ?_
              refine tt_get C hok jk_5 1 (by decide) jw_65e19a7e21 (t := (0, (-2147483648), 2147483647)) ka_112 (by decide) rfl rfl dX2_settleSeries_66 (fun v_113 hv_113 hf_114 => ?_)
              obtain ⟨x_115, rfl, lx_115, ux_115⟩ := tt_vi hv_113
              refine jj_aload_n C dX2_settleSeries_69 rfl ?_
              refine tt_get C hok jk_9 0 (by decide) jw_2d4d10d910 (t := (0, (-2147483648), 2147483647)) hk1 (by decide) rfl rfl dX2_settleSeries_70 (fun v_116 hv_116 hf_117 => ?_)
              obtain ⟨x_118, rfl, lx_118, ux_118⟩ := tt_vi hv_116
              refine jj_icmp_ne (tgt := 117) C dX2_settleSeries_73 (by decide) (fun c_119 => ?_) (fun c_119 => ?_)
              · have z_c_119 := jc_neq (a := (x_115).toInt) (b := (x_118).toInt) c_119 rfl rfl
                obtain ⟨x_120, ex_120, vx_120⟩ := tt_inc (x := x_101) (n := 1) (by omega) (by omega)
                refine jj_iinc (v := x_120) C dX2_settleSeries_117 rfl ex_120 (by decide) rfl ?_
                refine jj_goto (tgt := 46) C dX2_settleSeries_120 (by decide) ?_
                refine jj_loc [0, 2, 3, 4, 5, 6] rfl ?_
                exact ihL_100 pl x_120 hok hfr hfa hf_102 hf_103 (by first | omega | decide | exact tt_lo _ | exact tt_hi _) (by first | omega | decide | exact tt_lo _ | exact tt_hi _) (by first | omega | decide | exact tt_lo _ | exact tt_hi _)
              · have z_c_119 := jc_eq (a := (x_115).toInt) (b := (x_118).toInt) c_119 rfl rfl
                refine jj_aload_n C dX2_settleSeries_76 rfl ?_
                refine tt_get C hok jk_2 1 (by decide) jw_d1d9a7ddd0 (t := (0, (-2147483648), 2147483647)) hk0 (by decide) rfl rfl dX2_settleSeries_77 (fun v_121 hv_121 hf_122 => ?_)
                obtain ⟨x_123, rfl, lx_123, ux_123⟩ := tt_vi hv_121
                refine jj_iconst (v := 1) C dX2_settleSeries_80 (by decide) ?_
                refine jj_icmp_ne (tgt := 104) C dX2_settleSeries_81 (by decide) (fun c_124 => ?_) (fun c_124 => ?_)
                · have z_c_124 := jc_neq (a := (x_123).toInt) (b := (1)) c_124 rfl (by decide)
                  refine jj_aload C dX2_settleSeries_104 rfl ?_
                  refine jj_lload C dX2_settleSeries_106 rfl ?_
                  refine rl_put C hok jk_5 4 (by decide) jw_8ebffe18a9 (t := (1, (-9223372036854775808), 9223372036854775807)) ka_112 (by decide) rfl rfl rfl (tt_ja y_44) rfl rfl dX2_settleSeries_108 (fun pl_125 hok_126 tr hn tl => ?_)
                  replace hf_102 := tr _ _ _ (Or.inl (tt_ne hk0 ka_112 (by decide))) hf_102
                  replace hf_103 := tr _ _ _ (Or.inl (tt_ne hk0 ka_112 (by decide))) hf_103
                  replace hf_105 := tr _ _ _ (Or.inl (tt_ne hk0 ka_112 (by decide))) hf_105
                  replace hf_109 := tr _ _ _ (Or.inl (tt_ne hk0 ka_112 (by decide))) hf_109
                  replace hf_114 := tr _ _ _ (Or.inr (by decide)) hf_114
                  replace hf_117 := tr _ _ _ (Or.inl (tt_ne hk1 ka_112 (by decide))) hf_117
                  replace hf_122 := tr _ _ _ (Or.inl (tt_ne hk0 ka_112 (by decide))) hf_122
                  have hf_127 := hn
                  replace hfr := hfr.put ka_112 tr (by decide)
                  replace hfa := hfa.all tl
                  refine jj_aload C dX2_settleSeries_111 rfl ?_
                  refine jj_lconst (v := 0) C dX2_settleSeries_113 (by decide) ?_
                  refine rl_put C hok_126 jk_5 5 (by decide) jw_5d4c99f47d (t := (1, (-9223372036854775808), 9223372036854775807)) ka_112 (by decide) rfl rfl rfl (tt_ja (0 : Int64)) rfl rfl dX2_settleSeries_114 (fun pl_128 hok_129 tr hn tl => ?_)
                  replace hf_102 := tr _ _ _ (Or.inl (tt_ne hk0 ka_112 (by decide))) hf_102
                  replace hf_103 := tr _ _ _ (Or.inl (tt_ne hk0 ka_112 (by decide))) hf_103
                  replace hf_105 := tr _ _ _ (Or.inl (tt_ne hk0 ka_112 (by decide))) hf_105
                  replace hf_109 := tr _ _ _ (Or.inl (tt_ne hk0 ka_112 (by decide))) hf_109
                  replace hf_114 := tr _ _ _ (Or.inr (by decide)) hf_114
                  replace hf_117 := tr _ _ _ (Or.inl (tt_ne hk1 ka_112 (by decide))) hf_117
                  replace hf_122 := tr _ _ _ (Or.inl (tt_ne hk0 ka_112 (by decide))) hf_122
                  replace hf_127 := tr _ _ _ (Or.inr (by decide)) hf_127
                  have hf_130 := hn
                  replace hfr := hfr.put ka_112 tr (by decide)
                  replace hfa := hfa.all tl
                  obtain ⟨x_131, ex_131, vx_131⟩ := tt_inc (x := x_101) (n := 1) (by omega) (by omega)
                  refine jj_iinc (v := x_131) C dX2_settleSeries_117 rfl ex_131 (by decide) rfl ?_
                  refine jj_goto (tgt := 46) C dX2_settleSeries_120 (by decide) ?_
                  refine jj_loc [0, 2, 3, 4, 5, 6] rfl ?_
                  exact ihL_100 pl_128 x_131 hok_129 hfr hfa hf_102 hf_103 (by first | omega | decide | exact tt_lo _ | exact tt_hi _) (by first | omega | decide | exact tt_lo _ | exact tt_hi _) (by first | omega | decide | exact tt_lo _ | exact tt_hi _)
                · have z_c_124 := jc_eq (a := (x_123).toInt) (b := (1)) c_124 rfl (by decide)
                  refine jj_aload_n C dX2_settleSeries_84 rfl ?_
                  refine jj_aload_n C dX2_settleSeries_85 rfl ?_
                  refine jj_aload C dX2_settleSeries_86 rfl ?_
                  refine jj_lload_n C dX2_settleSeries_88 rfl ?_
                  refine jj_lload C dX2_settleSeries_89 rfl ?_
                  refine tt_callS (rest := []) C (tc_X2_giveBack_2 hl D cA ak h0 h1 a_112 y_44 hk0 hk1 ka_112 hok) [] [] rfl rfl (by decide) (by decide) (by decide) jw_5d382c0351 jw_86ab3ee099 jw_79af3f4029 jw_0fb41ea103 jn_X2_giveBack rfl (jj_le rfl) (jj_le rfl) (jj_le rfl) (jj_le rfl) (jj_le rfl) dX2_settleSeries_91 rfl (fun _ _ _ hX => hX.elim) (fun rx pl_132 r O_135 => ?_)
                  obtain ⟨rfl, hok_133, hr_134, hfa9, hR_137⟩ := O_135
                  replace hf_102 := hr_134.at hk0 (by decide) (by decide) hf_102
                  replace hf_103 := hr_134.at hk0 (by decide) (by decide) hf_103
                  replace hf_105 := hr_134.at hk0 (by decide) (by decide) hf_105
                  replace hf_109 := hr_134.at hk0 (by decide) (by decide) hf_109
                  replace hf_114 := hr_134.at ka_112 (by decide) (by decide) hf_114
                  replace hf_117 := hr_134.at hk1 (by decide) (by decide) hf_117
                  replace hf_122 := hr_134.at hk0 (by decide) (by decide) hf_122
                  replace hfr := hfr.trans (hr_134.sub (by decide))
                  replace hfa := hfa.trans (hfa9.sub (by decide))
                  obtain rfl := hR_137
                  refine jj_aload_n C dX2_settleSeries_94 rfl ?_
                  refine jj_aload_n C dX2_settleSeries_95 rfl ?_
                  refine jj_aload C dX2_settleSeries_96 rfl ?_
                  refine jj_lload_n C dX2_settleSeries_98 rfl ?_
                  refine jj_lload C dX2_settleSeries_99 rfl ?_
                  refine tt_callS (rest := []) C (tc_X2_takeDue_2 hl D cA ak h0 h1 a_112 y_44 hk0 hk1 ka_112 hok_133) [] [] rfl rfl (by decide) (by decide) (by decide) jw_fc900e64a6 jw_0ed4369b1a jw_79af3f4029 jw_ba54d233d6 jn_X2_takeDue rfl (jj_le rfl) (jj_le rfl) (jj_le rfl) (jj_le rfl) (jj_le rfl) dX2_settleSeries_101 rfl (fun _ _ _ hX => hX.elim) (fun rx pl_140 r O_143 => ?_)
                  obtain ⟨rfl, hok_141, hr_142, hfa9, hR_145⟩ := O_143
                  replace hf_102 := hr_142.at hk0 (by decide) (by decide) hf_102
                  replace hf_103 := hr_142.at hk0 (by decide) (by decide) hf_103
                  replace hf_105 := hr_142.at hk0 (by decide) (by decide) hf_105
                  replace hf_109 := hr_142.at hk0 (by decide) (by decide) hf_109
                  replace hf_114 := hr_142.at ka_112 (by decide) (by decide) hf_114
                  replace hf_117 := hr_142.at hk1 (by decide) (by decide) hf_117
                  replace hf_122 := hr_142.at hk0 (by decide) (by decide) hf_122
                  replace hfr := hfr.trans (hr_142.sub (by decide))
                  replace hfa := hfa.trans (hfa9.sub (by decide))
                  obtain rfl := hR_145
                  refine jj_aload C dX2_settleSeries_104 rfl ?_
                  refine jj_lload C dX2_settleSeries_106 rfl ?_
                  refine rl_put C hok_141 jk_5 4 (by decide) jw_8ebffe18a9 (t := (1, (-9223372036854775808), 9223372036854775807)) ka_112 (by decide) rfl rfl rfl (tt_ja y_44) rfl rfl dX2_settleSeries_108 (fun pl_148 hok_149 tr hn tl => ?_)
                  replace hf_102 := tr _ _ _ (Or.inl (tt_ne hk0 ka_112 (by decide))) hf_102
                  replace hf_103 := tr _ _ _ (Or.inl (tt_ne hk0 ka_112 (by decide))) hf_103
                  replace hf_105 := tr _ _ _ (Or.inl (tt_ne hk0 ka_112 (by decide))) hf_105
                  replace hf_109 := tr _ _ _ (Or.inl (tt_ne hk0 ka_112 (by decide))) hf_109
                  replace hf_114 := tr _ _ _ (Or.inr (by decide)) hf_114
                  replace hf_117 := tr _ _ _ (Or.inl (tt_ne hk1 ka_112 (by decide))) hf_117
                  replace hf_122 := tr _ _ _ (Or.inl (tt_ne hk0 ka_112 (by decide))) hf_122
                  have hf_150 := hn
                  replace hfr := hfr.put ka_112 tr (by decide)
                  replace hfa := hfa.all tl
                  refine jj_aload C dX2_settleSeries_111 rfl ?_
                  refine jj_lconst (v := 0) C dX2_settleSeries_113 (by decide) ?_
                  refine rl_put C hok_149 jk_5 5 (by decide) jw_5d4c99f47d (t := (1, (-9223372036854775808), 9223372036854775807)) ka_112 (by decide) rfl rfl rfl (tt_ja (0 : Int64)) rfl rfl dX2_settleSeries_114 (fun pl_151 hok_152 tr hn tl => ?_)
                  replace hf_102 := tr _ _ _ (Or.inl (tt_ne hk0 ka_112 (by decide))) hf_102
                  replace hf_103 := tr _ _ _ (Or.inl (tt_ne hk0 ka_112 (by decide))) hf_103
                  replace hf_105 := tr _ _ _ (Or.inl (tt_ne hk0 ka_112 (by decide))) hf_105
                  replace hf_109 := tr _ _ _ (Or.inl (tt_ne hk0 ka_112 (by decide))) hf_109
                  replace hf_114 := tr _ _ _ (Or.inr (by decide)) hf_114
                  replace hf_117 := tr _ _ _ (Or.inl (tt_ne hk1 ka_112 (by decide))) hf_117
                  replace hf_122 := tr _ _ _ (Or.inl (tt_ne hk0 ka_112 (by decide))) hf_122
                  replace hf_150 := tr _ _ _ (Or.inr (by decide)) hf_150
                  have hf_153 := hn
                  replace hfr := hfr.put ka_112 tr (by decide)
                  replace hfa := hfa.all tl
                  obtain ⟨x_154, ex_154, vx_154⟩ := tt_inc (x := x_101) (n := 1) (by omega) (by omega)
                  refine jj_iinc (v := x_154) C dX2_settleSeries_117 rfl ex_154 (by decide) rfl ?_
                  refine jj_goto (tgt := 46) C dX2_settleSeries_120 (by decide) ?_
                  refine jj_loc [0, 2, 3, 4, 5, 6] rfl ?_
                  exact ihL_100 pl_151 x_154 hok_152 hfr hfa hf_102 hf_103 (by first | omega | decide | exact tt_lo _ | exact tt_hi _) (by first | omega | decide | exact tt_lo _ | exact tt_hi _) (by first | omega | decide | exact tt_lo _ | exact tt_hi _)
        exact hL_100 _ pl_36 (0 : Int32) trivial hok_37 hfr hfa hf_11 hf_30 (by first | omega | decide | exact tt_lo _ | exact tt_hi _) (by first | omega | decide | exact tt_lo _ | exact tt_hi _) (Int.self_le_toNat _)
    · refine jj_lstore C dX2_settleSeries_13 (by decide) rfl ?_
      refine jj_aload_n C dX2_settleSeries_15 rfl ?_
      refine jj_dup C dX2_settleSeries_16 rfl ?_
      refine tt_get C hok_14 jk_9 2 (by decide) jw_5719898240 (t := (1, (-9223372036854775808), 9223372036854775807)) hk1 (by decide) rfl rfl dX2_settleSeries_17 (fun v_155 hv_155 hf_156 => ?_)
      obtain ⟨y_157, rfl, -, -⟩ := tt_vj hv_155
      refine jj_lload C dX2_settleSeries_20 rfl ?_
      obtain ⟨y_158, ey_158⟩ : ∃ z : Int64, y_157 - y_21 = z := ⟨_, rfl⟩
      refine jj_lsub (v := y_158) C dX2_settleSeries_22 ey_158 ?_
      refine rl_put C hok_14 jk_9 2 (by decide) jw_5719898240 (t := (1, (-9223372036854775808), 9223372036854775807)) hk1 (by decide) rfl rfl rfl (tt_ja y_158) rfl rfl dX2_settleSeries_23 (fun pl_159 hok_160 tr hn tl => ?_)
      replace hf_11 := tr _ _ _ (Or.inl (tt_ne hk0 hk1 (by decide))) hf_11
      have hf_161 := hn
      replace hfr := hfr.put hk1 tr (by decide)
      replace hfa := hfa.all tl
      refine jj_aload_n C dX2_settleSeries_26 rfl ?_
      refine tt_get C hok_160 jk_2 10 (by decide) jw_d4020bdca8 (t := (2, 5, 0)) hk0 (by decide) rfl rfl dX2_settleSeries_27 (fun v_162 hv_162 hf_163 => ?_)
      obtain ⟨a_164, rfl, ka_164⟩ := tt_vr hv_162
      refine jj_iconst (v := 0) C dX2_settleSeries_30 (by decide) ?_
      refine jj_dup2 C dX2_settleSeries_31 rfl rfl ?_
      refine tt_lald C hok_160 (t := (1, (-9223372036854775808), 9223372036854775807)) ka_164 (by decide) rfl (vp_in_iff.mpr (by decide)) dX2_settleSeries_32 (fun v_165 hv_165 => ?_)
      refine jj_lload C dX2_settleSeries_33 rfl ?_
      obtain ⟨y_166, ey_166⟩ : ∃ z : Int64, v_165 + y_21 = z := ⟨_, rfl⟩
      refine jj_ladd (v := y_166) C dX2_settleSeries_35 ey_166 ?_
      refine tl_last C hok_160 (t := (1, (-9223372036854775808), 9223372036854775807)) ka_164 (by decide) rfl (vp_in_iff.mpr (by decide)) (tt_ja _) dX2_settleSeries_36 (fun pl_167 hok_168 tr tl => ?_)
      replace hf_11 := tr _ _ _ hf_11
      replace hf_161 := tr _ _ _ hf_161
      replace hf_163 := tr _ _ _ hf_163
      replace hfr := hfr.arr tr
      replace hfa := hfa.wr ka_164 tl (by decide)
      refine jj_aload_n C dX2_settleSeries_37 rfl ?_
      obtain ⟨qc, gs, hqc⟩ := tt_recv (cx := []) hok_168 hk1 (by decide) rfl
      refine tt_callV (rest := []) C (tc_X8_grossPrice_1 hl D cA ak h1 hk1 hok_168) [] [] rfl rfl (by decide) (by decide) (by decide) qc hqc rfl rfl jw_6230caeffd jw_8d67ffd46e jw_4ae9f31643 jw_364e75910d jw_11bb953c63 jn_X8_grossPrice rfl (jj_le rfl) (jj_le rfl) (jj_le rfl) (jj_le rfl) (jj_le rfl) dX2_settleSeries_38 rfl (fun _ _ _ hX => hX.elim) (fun rx pl_169 r O_172 => ?_)
      obtain ⟨rfl, hok_170, hr_171, hfa9, hR_174⟩ := O_172
      replace hf_11 := hr_171.at hk0 (by decide) (by decide) hf_11
      replace hf_161 := hr_171.at hk1 (by decide) (by decide) hf_161
      replace hf_163 := hr_171.at hk0 (by decide) (by decide) hf_163
      replace hfr := hfr.trans (hr_171.sub (by decide))
      replace hfa := hfa.trans (hfa9.sub (by decide))
      rcases hR_174 with rfl | ⟨y_177, rfl⟩
      · refine jj_lstore C dX2_settleSeries_41 (by decide) rfl ?_
        refine jj_iconst (v := 0) C dX2_settleSeries_43 (by decide) ?_
        refine jj_istore C dX2_settleSeries_44 (by decide) rfl ?_
        have hL_178 : ∀ (N : Nat) (pl : va_W) (x_179 : Int32), True → tt_ok tt_tk cA Kd pl → tt_fr Kd [(2, 2), (2, 3), (2, 4), (3, 3), (3, 4), (3, 5)] pl0 pl → tt_fa Kd [5] pl0 pl → tt_at pl h0 3 (.int x_12) → tt_at pl h0 10 (.ref a_164) → (0 : Int) ≤ x_179.toInt → x_179.toInt ≤ 40 → (2147483648 - x_179.toInt ≤ (N : Int)) → jj_J p l e (jj_rm 2 58 0 0) s m args below meth c 10 A (vx_MQ below (jj_q D A (tt_O (fun rx pl1 r => rx = [] ∧ tt_ok tt_tk cA Kd pl1 ∧ tt_fr Kd [(2, 2), (2, 3), (2, 4), (3, 3), (3, 4), (3, 5)] pl0 pl1 ∧ tt_fa Kd [5] pl0 pl1 ∧ ((r = none))))) (jj_x D A (tt_OX (fun _ _ _ => False))) args s 0 0 A) (jj_X D A ([] ++ pl)) 0 0 46 [(8, .int x_179), (6, .long 1000000), (4, .long y_21), (2, .long 1000000), (0, .ref h0), (1, .ref h1)] [] := by
          intro NL_178
          induction NL_178 with
          | zero => intro pl x_179 _ hok hfr hfa hf_180 hf_181 lx_179 ux_179 hNL_178; exfalso; omega
          | succ NL_178 ihL_178 =>
            intro pl x_179 _ hok hfr hfa hf_180 hf_181 lx_179 ux_179 hNL_178
            replace ihL_178 := fun pl x_179 h1 => ihL_178 pl x_179 trivial h1
            refine jj_iload C dX2_settleSeries_46 rfl ?_
            refine jj_aload_n C dX2_settleSeries_48 rfl ?_
            refine tt_get C hok jk_2 8 (by decide) jw_0a65dafd43 (t := (0, 0, 40)) hk0 (by decide) rfl rfl dX2_settleSeries_49 (fun v_182 hv_182 hf_183 => ?_)
            obtain ⟨x_184, rfl, lx_184, ux_184⟩ := tt_vi hv_182
            refine jj_icmp_ge (tgt := 123) C dX2_settleSeries_52 (by decide) (fun c_185 => ?_) (fun c_185 => ?_)
            · have z_c_185 := jc_le (a := (x_184).toInt) (b := (x_179).toInt) c_185 rfl rfl
              refine jj_lload C dX2_settleSeries_123 rfl ?_
              refine jj_lconst (v := 0) C dX2_settleSeries_125 (by decide) ?_
              refine jj_lcmp_le (tgt := 136) C dX2_settleSeries_126 dX2_settleSeries_127 (by decide) (fun c_186 => ?_) (fun c_186 => ?_)
              · exact jj_vret C ⟨[], pl, rfl, rfl, hok, hfr, hfa, rfl⟩ dX2_settleSeries_136 (jj_le rfl) (jj_le rfl)
              · refine jj_aload_n C dX2_settleSeries_130 rfl ?_
                refine jj_lload C dX2_settleSeries_131 rfl ?_
                refine rl_put C hok jk_9 4 (by decide) jw_bb7ee2f491 (t := (1, (-9223372036854775808), 9223372036854775807)) hk1 (by decide) rfl rfl rfl (tt_ja (1000000 : Int64)) rfl rfl dX2_settleSeries_133 (fun pl_187 hok_188 tr hn tl => ?_)
                replace hf_180 := tr _ _ _ (Or.inl (tt_ne hk0 hk1 (by decide))) hf_180
                replace hf_181 := tr _ _ _ (Or.inl (tt_ne hk0 hk1 (by decide))) hf_181
                replace hf_183 := tr _ _ _ (Or.inl (tt_ne hk0 hk1 (by decide))) hf_183
                have hf_189 := hn
                replace hfr := hfr.put hk1 tr (by decide)
                replace hfa := hfa.all tl
                exact jj_vret C ⟨[], pl_187, rfl, rfl, hok_188, hfr, hfa, rfl⟩ dX2_settleSeries_136 (jj_le rfl) (jj_le rfl)
            · have z_c_185 := jc_nle (a := (x_184).toInt) (b := (x_179).toInt) c_185 rfl rfl
              refine jj_aload_n C dX2_settleSeries_55 rfl ?_
              refine tt_get C hok jk_2 12 (by decide) jw_841c5f25b9 (t := (2, 7, 0)) hk0 (by decide) rfl rfl dX2_settleSeries_56 (fun v_190 hv_190 hf_191 => ?_)
              obtain ⟨a_192, rfl, ka_192⟩ := tt_vr hv_190
              refine jj_iload C dX2_settleSeries_59 rfl ?_
              refine tt_aald C hok (t := (2, 3, 0)) ka_192 (by decide) rfl rfl rfl (vp_in_iff.mpr ⟨by omega, by omega⟩) dX2_settleSeries_61 (fun v_193 hv_193 => ?_)
              obtain ⟨a_194, rfl, ka_194⟩ := tt_vr hv_193
              refine jj_astore C dX2_settleSeries_62 (by decide) rfl ?_
              refine jj_aload C dX2_settleSeries_64 rfl ?_
              refine tt_get C hok jk_5 1 (by decide) jw_65e19a7e21 (t := (0, (-2147483648), 2147483647)) ka_194 (by decide) rfl rfl dX2_settleSeries_66 (fun v_195 hv_195 hf_196 => ?_)
              obtain ⟨x_197, rfl, lx_197, ux_197⟩ := tt_vi hv_195
              refine jj_aload_n C dX2_settleSeries_69 rfl ?_
              refine tt_get C hok jk_9 0 (by decide) jw_2d4d10d910 (t := (0, (-2147483648), 2147483647)) hk1 (by decide) rfl rfl dX2_settleSeries_70 (fun v_198 hv_198 hf_199 => ?_)
              obtain ⟨x_200, rfl, lx_200, ux_200⟩ := tt_vi hv_198
              refine jj_icmp_ne (tgt := 117) C dX2_settleSeries_73 (by decide) (fun c_201 => ?_) (fun c_201 => ?_)
              · have z_c_201 := jc_neq (a := (x_197).toInt) (b := (x_200).toInt) c_201 rfl rfl
                obtain ⟨x_202, ex_202, vx_202⟩ := tt_inc (x := x_179) (n := 1) (by omega) (by omega)
                refine jj_iinc (v := x_202) C dX2_settleSeries_117 rfl ex_202 (by decide) rfl ?_
                refine jj_goto (tgt := 46) C dX2_settleSeries_120 (by decide) ?_
                refine jj_loc [0, 2, 3, 4, 5, 6] rfl ?_
                exact ihL_178 pl x_202 hok hfr hfa hf_180 hf_181 (by first | omega | decide | exact tt_lo _ | exact tt_hi _) (by first | omega | decide | exact tt_lo _ | exact tt_hi _) (by first | omega | decide | exact tt_lo _ | exact tt_hi _)
              · have z_c_201 := jc_eq (a := (x_197).toInt) (b := (x_200).toInt) c_201 rfl rfl
                refine jj_aload_n C dX2_settleSeries_76 rfl ?_
                refine tt_get C hok jk_2 1 (by decide) jw_d1d9a7ddd0 (t := (0, (-2147483648), 2147483647)) hk0 (by decide) rfl rfl dX2_settleSeries_77 (fun v_203 hv_203 hf_204 => ?_)
                obtain ⟨x_205, rfl, lx_205, ux_205⟩ := tt_vi hv_203
                refine jj_iconst (v := 1) C dX2_settleSeries_80 (by decide) ?_
                refine jj_icmp_ne (tgt := 104) C dX2_settleSeries_81 (by decide) (fun c_206 => ?_) (fun c_206 => ?_)
                · have z_c_206 := jc_neq (a := (x_205).toInt) (b := (1)) c_206 rfl (by decide)
                  refine jj_aload C dX2_settleSeries_104 rfl ?_
                  refine jj_lload C dX2_settleSeries_106 rfl ?_
                  refine rl_put C hok jk_5 4 (by decide) jw_8ebffe18a9 (t := (1, (-9223372036854775808), 9223372036854775807)) ka_194 (by decide) rfl rfl rfl (tt_ja (1000000 : Int64)) rfl rfl dX2_settleSeries_108 (fun pl_207 hok_208 tr hn tl => ?_)
                  replace hf_180 := tr _ _ _ (Or.inl (tt_ne hk0 ka_194 (by decide))) hf_180
                  replace hf_181 := tr _ _ _ (Or.inl (tt_ne hk0 ka_194 (by decide))) hf_181
                  replace hf_183 := tr _ _ _ (Or.inl (tt_ne hk0 ka_194 (by decide))) hf_183
                  replace hf_191 := tr _ _ _ (Or.inl (tt_ne hk0 ka_194 (by decide))) hf_191
                  replace hf_196 := tr _ _ _ (Or.inr (by decide)) hf_196
                  replace hf_199 := tr _ _ _ (Or.inl (tt_ne hk1 ka_194 (by decide))) hf_199
                  replace hf_204 := tr _ _ _ (Or.inl (tt_ne hk0 ka_194 (by decide))) hf_204
                  have hf_209 := hn
                  replace hfr := hfr.put ka_194 tr (by decide)
                  replace hfa := hfa.all tl
                  refine jj_aload C dX2_settleSeries_111 rfl ?_
                  refine jj_lconst (v := 0) C dX2_settleSeries_113 (by decide) ?_
                  refine rl_put C hok_208 jk_5 5 (by decide) jw_5d4c99f47d (t := (1, (-9223372036854775808), 9223372036854775807)) ka_194 (by decide) rfl rfl rfl (tt_ja (0 : Int64)) rfl rfl dX2_settleSeries_114 (fun pl_210 hok_211 tr hn tl => ?_)
                  replace hf_180 := tr _ _ _ (Or.inl (tt_ne hk0 ka_194 (by decide))) hf_180
                  replace hf_181 := tr _ _ _ (Or.inl (tt_ne hk0 ka_194 (by decide))) hf_181
                  replace hf_183 := tr _ _ _ (Or.inl (tt_ne hk0 ka_194 (by decide))) hf_183
                  replace hf_191 := tr _ _ _ (Or.inl (tt_ne hk0 ka_194 (by decide))) hf_191
                  replace hf_196 := tr _ _ _ (Or.inr (by decide)) hf_196
                  replace hf_199 := tr _ _ _ (Or.inl (tt_ne hk1 ka_194 (by decide))) hf_199
                  replace hf_204 := tr _ _ _ (Or.inl (tt_ne hk0 ka_194 (by decide))) hf_204
                  replace hf_209 := tr _ _ _ (Or.inr (by decide)) hf_209
                  have hf_212 := hn
                  replace hfr := hfr.put ka_194 tr (by decide)
                  replace hfa := hfa.all tl
                  obtain ⟨x_213, ex_213, vx_213⟩ := tt_inc (x := x_179) (n := 1) (by omega) (by omega)
                  refine jj_iinc (v := x_213) C dX2_settleSeries_117 rfl ex_213 (by decide) rfl ?_
                  refine jj_goto (tgt := 46) C dX2_settleSeries_120 (by decide) ?_
                  refine jj_loc [0, 2, 3, 4, 5, 6] rfl ?_
                  exact ihL_178 pl_210 x_213 hok_211 hfr hfa hf_180 hf_181 (by first | omega | decide | exact tt_lo _ | exact tt_hi _) (by first | omega | decide | exact tt_lo _ | exact tt_hi _) (by first | omega | decide | exact tt_lo _ | exact tt_hi _)
                · have z_c_206 := jc_eq (a := (x_205).toInt) (b := (1)) c_206 rfl (by decide)
                  refine jj_aload_n C dX2_settleSeries_84 rfl ?_
                  refine jj_aload_n C dX2_settleSeries_85 rfl ?_
                  refine jj_aload C dX2_settleSeries_86 rfl ?_
                  refine jj_lload_n C dX2_settleSeries_88 rfl ?_
                  refine jj_lload C dX2_settleSeries_89 rfl ?_
                  refine tt_callS (rest := []) C (tc_X2_giveBack_1 hl D cA ak h0 h1 a_194 hk0 hk1 ka_194 hok) [] [] rfl rfl (by decide) (by decide) (by decide) jw_5d382c0351 jw_86ab3ee099 jw_79af3f4029 jw_0fb41ea103 jn_X2_giveBack rfl (jj_le rfl) (jj_le rfl) (jj_le rfl) (jj_le rfl) (jj_le rfl) dX2_settleSeries_91 rfl (fun _ _ _ hX => hX.elim) (fun rx pl_214 r O_217 => ?_)
                  obtain ⟨rfl, hok_215, hr_216, hfa9, hR_219⟩ := O_217
                  replace hf_180 := hr_216.at hk0 (by decide) (by decide) hf_180
                  replace hf_181 := hr_216.at hk0 (by decide) (by decide) hf_181
                  replace hf_183 := hr_216.at hk0 (by decide) (by decide) hf_183
                  replace hf_191 := hr_216.at hk0 (by decide) (by decide) hf_191
                  replace hf_196 := hr_216.at ka_194 (by decide) (by decide) hf_196
                  replace hf_199 := hr_216.at hk1 (by decide) (by decide) hf_199
                  replace hf_204 := hr_216.at hk0 (by decide) (by decide) hf_204
                  replace hfr := hfr.trans (hr_216.sub (by decide))
                  replace hfa := hfa.trans (hfa9.sub (by decide))
                  obtain rfl := hR_219
                  refine jj_aload_n C dX2_settleSeries_94 rfl ?_
                  refine jj_aload_n C dX2_settleSeries_95 rfl ?_
                  refine jj_aload C dX2_settleSeries_96 rfl ?_
                  refine jj_lload_n C dX2_settleSeries_98 rfl ?_
                  refine jj_lload C dX2_settleSeries_99 rfl ?_
                  refine tt_callS (rest := []) C (tc_X2_takeDue_1 hl D cA ak h0 h1 a_194 hk0 hk1 ka_194 hok_215) [] [] rfl rfl (by decide) (by decide) (by decide) jw_fc900e64a6 jw_0ed4369b1a jw_79af3f4029 jw_ba54d233d6 jn_X2_takeDue rfl (jj_le rfl) (jj_le rfl) (jj_le rfl) (jj_le rfl) (jj_le rfl) dX2_settleSeries_101 rfl (fun _ _ _ hX => hX.elim) (fun rx pl_222 r O_225 => ?_)
                  obtain ⟨rfl, hok_223, hr_224, hfa9, hR_227⟩ := O_225
                  replace hf_180 := hr_224.at hk0 (by decide) (by decide) hf_180
                  replace hf_181 := hr_224.at hk0 (by decide) (by decide) hf_181
                  replace hf_183 := hr_224.at hk0 (by decide) (by decide) hf_183
                  replace hf_191 := hr_224.at hk0 (by decide) (by decide) hf_191
                  replace hf_196 := hr_224.at ka_194 (by decide) (by decide) hf_196
                  replace hf_199 := hr_224.at hk1 (by decide) (by decide) hf_199
                  replace hf_204 := hr_224.at hk0 (by decide) (by decide) hf_204
                  replace hfr := hfr.trans (hr_224.sub (by decide))
                  replace hfa := hfa.trans (hfa9.sub (by decide))
                  obtain rfl := hR_227
                  refine jj_aload C dX2_settleSeries_104 rfl ?_
                  refine jj_lload C dX2_settleSeries_106 rfl ?_
                  refine rl_put C hok_223 jk_5 4 (by decide) jw_8ebffe18a9 (t := (1, (-9223372036854775808), 9223372036854775807)) ka_194 (by decide) rfl rfl rfl (tt_ja (1000000 : Int64)) rfl rfl dX2_settleSeries_108 (fun pl_230 hok_231 tr hn tl => ?_)
                  replace hf_180 := tr _ _ _ (Or.inl (tt_ne hk0 ka_194 (by decide))) hf_180
                  replace hf_181 := tr _ _ _ (Or.inl (tt_ne hk0 ka_194 (by decide))) hf_181
                  replace hf_183 := tr _ _ _ (Or.inl (tt_ne hk0 ka_194 (by decide))) hf_183
                  replace hf_191 := tr _ _ _ (Or.inl (tt_ne hk0 ka_194 (by decide))) hf_191
                  replace hf_196 := tr _ _ _ (Or.inr (by decide)) hf_196
                  replace hf_199 := tr _ _ _ (Or.inl (tt_ne hk1 ka_194 (by decide))) hf_199
                  replace hf_204 := tr _ _ _ (Or.inl (tt_ne hk0 ka_194 (by decide))) hf_204
                  have hf_232 := hn
                  replace hfr := hfr.put ka_194 tr (by decide)
                  replace hfa := hfa.all tl
                  refine jj_aload C dX2_settleSeries_111 rfl ?_
                  refine jj_lconst (v := 0) C dX2_settleSeries_113 (by decide) ?_
                  refine rl_put C hok_231 jk_5 5 (by decide) jw_5d4c99f47d (t := (1, (-9223372036854775808), 9223372036854775807)) ka_194 (by decide) rfl rfl rfl (tt_ja (0 : Int64)) rfl rfl dX2_settleSeries_114 (fun pl_233 hok_234 tr hn tl => ?_)
                  replace hf_180 := tr _ _ _ (Or.inl (tt_ne hk0 ka_194 (by decide))) hf_180
                  replace hf_181 := tr _ _ _ (Or.inl (tt_ne hk0 ka_194 (by decide))) hf_181
                  replace hf_183 := tr _ _ _ (Or.inl (tt_ne hk0 ka_194 (by decide))) hf_183
                  replace hf_191 := tr _ _ _ (Or.inl (tt_ne hk0 ka_194 (by decide))) hf_191
                  replace hf_196 := tr _ _ _ (Or.inr (by decide)) hf_196
                  replace hf_199 := tr _ _ _ (Or.inl (tt_ne hk1 ka_194 (by decide))) hf_199
                  replace hf_204 := tr _ _ _ (Or.inl (tt_ne hk0 ka_194 (by decide))) hf_204
                  replace hf_232 := tr _ _ _ (Or.inr (by decide)) hf_232
                  have hf_235 := hn
                  replace hfr := hfr.put ka_194 tr (by decide)
                  replace hfa := hfa.all tl
                  obtain ⟨x_236, ex_236, vx_236⟩ := tt_inc (x := x_179) (n := 1) (by omega) (by omega)
                  refine jj_iinc (v := x_236) C dX2_settleSeries_117 rfl ex_236 (by decide) rfl ?_
                  refine jj_goto (tgt := 46) C dX2_settleSeries_120 (by decide) ?_
                  refine jj_loc [0, 2, 3, 4, 5, 6] rfl ?_
                  exact ihL_178 pl_233 x_236 hok_234 hfr hfa hf_180 hf_181 (by first | omega | decide | exact tt_lo _ | exact tt_hi _) (by first | omega | decide | exact tt_lo _ | exact tt_hi _) (by first | omega | decide | exact tt_lo _ | exact tt_hi _)
        exact hL_178 _ pl_169 (0 : Int32) trivial hok_170 hfr hfa hf_11 hf_163 (by first | omega | decide | exact tt_lo _ | exact tt_hi _) (by first | omega | decide | exact tt_lo _ | exact tt_hi _) (Int.self_le_toNat _)
      · refine jj_lstore C dX2_settleSeries_41 (by decide) rfl ?_
        refine jj_iconst (v := 0) C dX2_settleSeries_43 (by decide) ?_
        refine jj_istore C dX2_settleSeries_44 (by decide) rfl ?_
        have hL_237 : ∀ (N : Nat) (pl : va_W) (x_238 : Int32), True → tt_ok tt_tk cA Kd pl → tt_fr Kd [(2, 2), (2, 3), (2, 4), (3, 3), (3, 4), (3, 5)] pl0 pl → tt_fa Kd [5] pl0 pl → tt_at pl h0 3 (.int x_12) → tt_at pl h0 10 (.ref a_164) → (0 : Int) ≤ x_238.toInt → x_238.toInt ≤ 40 → (2147483648 - x_238.toInt ≤ (N : Int)) → jj_J p l e (jj_rm 2 58 0 0) s m args below meth c 10 A (vx_MQ below (jj_q D A (tt_O (fun rx pl1 r => rx = [] ∧ tt_ok tt_tk cA Kd pl1 ∧ tt_fr Kd [(2, 2), (2, 3), (2, 4), (3, 3), (3, 4), (3, 5)] pl0 pl1 ∧ tt_fa Kd [5] pl0 pl1 ∧ ((r = none))))) (jj_x D A (tt_OX (fun _ _ _ => False))) args s 0 0 A) (jj_X D A ([] ++ pl)) 0 0 46 [(8, .int x_238), (6, .long y_177), (4, .long y_21), (2, .long 1000000), (0, .ref h0), (1, .ref h1)] [] := by
          intro NL_237
          induction NL_237 with
          | zero => intro pl x_238 _ hok hfr hfa hf_239 hf_240 lx_238 ux_238 hNL_237; exfalso; omega
          | succ NL_237 ihL_237 =>
            intro pl x_238 _ hok hfr hfa hf_239 hf_240 lx_238 ux_238 hNL_237
            replace ihL_237 := fun pl x_238 h1 => ihL_237 pl x_238 trivial h1
            refine jj_iload C dX2_settleSeries_46 rfl ?_
            refine jj_aload_n C dX2_settleSeries_48 rfl ?_
            refine tt_get C hok jk_2 8 (by decide) jw_0a65dafd43 (t := (0, 0, 40)) hk0 (by decide) rfl rfl dX2_settleSeries_49 (fun v_241 hv_241 hf_242 => ?_)
            obtain ⟨x_243, rfl, lx_243, ux_243⟩ := tt_vi hv_241
            refine jj_icmp_ge (tgt := 123) C dX2_settleSeries_52 (by decide) (fun c_244 => ?_) (fun c_244 => ?_)
            · have z_c_244 := jc_le (a := (x_243).toInt) (b := (x_238).toInt) c_244 rfl rfl
              refine jj_lload C dX2_settleSeries_123 rfl ?_
              refine jj_lconst (v := 0) C dX2_settleSeries_125 (by decide) ?_
              refine jj_lcmp_le (tgt := 136) C dX2_settleSeries_126 dX2_settleSeries_127 (by decide) (fun c_245 => ?_) (fun c_245 => ?_)
              · exact jj_vret C ⟨[], pl, rfl, rfl, hok, hfr, hfa, rfl⟩ dX2_settleSeries_136 (jj_le rfl) (jj_le rfl)
              · refine jj_aload_n C dX2_settleSeries_130 rfl ?_
                refine jj_lload C dX2_settleSeries_131 rfl ?_
                refine rl_put C hok jk_9 4 (by decide) jw_bb7ee2f491 (t := (1, (-9223372036854775808), 9223372036854775807)) hk1 (by decide) rfl rfl rfl (tt_ja y_177) rfl rfl dX2_settleSeries_133 (fun pl_246 hok_247 tr hn tl => ?_)
                replace hf_239 := tr _ _ _ (Or.inl (tt_ne hk0 hk1 (by decide))) hf_239
                replace hf_240 := tr _ _ _ (Or.inl (tt_ne hk0 hk1 (by decide))) hf_240
                replace hf_242 := tr _ _ _ (Or.inl (tt_ne hk0 hk1 (by decide))) hf_242
                have hf_248 := hn
                replace hfr := hfr.put hk1 tr (by decide)
                replace hfa := hfa.all tl
                exact jj_vret C ⟨[], pl_246, rfl, rfl, hok_247, hfr, hfa, rfl⟩ dX2_settleSeries_136 (jj_le rfl) (jj_le rfl)
            · have z_c_244 := jc_nle (a := (x_243).toInt) (b := (x_238).toInt) c_244 rfl rfl
              refine jj_aload_n C dX2_settleSeries_55 rfl ?_
              refine tt_get C hok jk_2 12 (by decide) jw_841c5f25b9 (t := (2, 7, 0)) hk0 (by decide) rfl rfl dX2_settleSeries_56 (fun v_249 hv_249 hf_250 => ?_)
              obtain ⟨a_251, rfl, ka_251⟩ := tt_vr hv_249
              refine jj_iload C dX2_settleSeries_59 rfl ?_
              refine tt_aald C hok (t := (2, 3, 0)) ka_251 (by decide) rfl rfl rfl (vp_in_iff.mpr ⟨by omega, by omega⟩) dX2_settleSeries_61 (fun v_252 hv_252 => ?_)
              obtain ⟨a_253, rfl, ka_253⟩ := tt_vr hv_252
              refine jj_astore C dX2_settleSeries_62 (by decide) rfl ?_
              refine jj_aload C dX2_settleSeries_64 rfl ?_
              refine tt_get C hok jk_5 1 (by decide) jw_65e19a7e21 (t := (0, (-2147483648), 2147483647)) ka_253 (by decide) rfl rfl dX2_settleSeries_66 (fun v_254 hv_254 hf_255 => ?_)
              obtain ⟨x_256, rfl, lx_256, ux_256⟩ := tt_vi hv_254
              refine jj_aload_n C dX2_settleSeries_69 rfl ?_
              refine tt_get C hok jk_9 0 (by decide) jw_2d4d10d910 (t := (0, (-2147483648), 2147483647)) hk1 (by decide) rfl rfl dX2_settleSeries_70 (fun v_257 hv_257 hf_258 => ?_)
              obtain ⟨x_259, rfl, lx_259, ux_259⟩ := tt_vi hv_257
              refine jj_icmp_ne (tgt := 117) C dX2_settleSeries_73 (by decide) (fun c_260 => ?_) (fun c_260 => ?_)
              · have z_c_260 := jc_neq (a := (x_256).toInt) (b := (x_259).toInt) c_260 rfl rfl
                obtain ⟨x_261, ex_261, vx_261⟩ := tt_inc (x := x_238) (n := 1) (by omega) (by omega)
                refine jj_iinc (v := x_261) C dX2_settleSeries_117 rfl ex_261 (by decide) rfl ?_
                refine jj_goto (tgt := 46) C dX2_settleSeries_120 (by decide) ?_
                refine jj_loc [0, 2, 3, 4, 5, 6] rfl ?_
                exact ihL_237 pl x_261 hok hfr hfa hf_239 hf_240 (by first | omega | decide | exact tt_lo _ | exact tt_hi _) (by first | omega | decide | exact tt_lo _ | exact tt_hi _) (by first | omega | decide | exact tt_lo _ | exact tt_hi _)
              · have z_c_260 := jc_eq (a := (x_256).toInt) (b := (x_259).toInt) c_260 rfl rfl
                refine jj_aload_n C dX2_settleSeries_76 rfl ?_
                refine tt_get C hok jk_2 1 (by decide) jw_d1d9a7ddd0 (t := (0, (-2147483648), 2147483647)) hk0 (by decide) rfl rfl dX2_settleSeries_77 (fun v_262 hv_262 hf_263 => ?_)
                obtain ⟨x_264, rfl, lx_264, ux_264⟩ := tt_vi hv_262
                refine jj_iconst (v := 1) C dX2_settleSeries_80 (by decide) ?_
                refine jj_icmp_ne (tgt := 104) C dX2_settleSeries_81 (by decide) (fun c_265 => ?_) (fun c_265 => ?_)
                · have z_c_265 := jc_neq (a := (x_264).toInt) (b := (1)) c_265 rfl (by decide)
                  refine jj_aload C dX2_settleSeries_104 rfl ?_
                  refine jj_lload C dX2_settleSeries_106 rfl ?_
                  refine rl_put C hok jk_5 4 (by decide) jw_8ebffe18a9 (t := (1, (-9223372036854775808), 9223372036854775807)) ka_253 (by decide) rfl rfl rfl (tt_ja y_177) rfl rfl dX2_settleSeries_108 (fun pl_266 hok_267 tr hn tl => ?_)
                  replace hf_239 := tr _ _ _ (Or.inl (tt_ne hk0 ka_253 (by decide))) hf_239
                  replace hf_240 := tr _ _ _ (Or.inl (tt_ne hk0 ka_253 (by decide))) hf_240
                  replace hf_242 := tr _ _ _ (Or.inl (tt_ne hk0 ka_253 (by decide))) hf_242
                  replace hf_250 := tr _ _ _ (Or.inl (tt_ne hk0 ka_253 (by decide))) hf_250
                  replace hf_255 := tr _ _ _ (Or.inr (by decide)) hf_255
                  replace hf_258 := tr _ _ _ (Or.inl (tt_ne hk1 ka_253 (by decide))) hf_258
                  replace hf_263 := tr _ _ _ (Or.inl (tt_ne hk0 ka_253 (by decide))) hf_263
                  have hf_268 := hn
                  replace hfr := hfr.put ka_253 tr (by decide)
                  replace hfa := hfa.all tl
                  refine jj_aload C dX2_settleSeries_111 rfl ?_
                  refine jj_lconst (v := 0) C dX2_settleSeries_113 (by decide) ?_
                  refine rl_put C hok_267 jk_5 5 (by decide) jw_5d4c99f47d (t := (1, (-9223372036854775808), 9223372036854775807)) ka_253 (by decide) rfl rfl rfl (tt_ja (0 : Int64)) rfl rfl dX2_settleSeries_114 (fun pl_269 hok_270 tr hn tl => ?_)
                  replace hf_239 := tr _ _ _ (Or.inl (tt_ne hk0 ka_253 (by decide))) hf_239
                  replace hf_240 := tr _ _ _ (Or.inl (tt_ne hk0 ka_253 (by decide))) hf_240
                  replace hf_242 := tr _ _ _ (Or.inl (tt_ne hk0 ka_253 (by decide))) hf_242
                  replace hf_250 := tr _ _ _ (Or.inl (tt_ne hk0 ka_253 (by decide))) hf_250
                  replace hf_255 := tr _ _ _ (Or.inr (by decide)) hf_255
                  replace hf_258 := tr _ _ _ (Or.inl (tt_ne hk1 ka_253 (by decide))) hf_258
                  replace hf_263 := tr _ _ _ (Or.inl (tt_ne hk0 ka_253 (by decide))) hf_263
                  replace hf_268 := tr _ _ _ (Or.inr (by decide)) hf_268
                  have hf_271 := hn
                  replace hfr := hfr.put ka_253 tr (by decide)
                  replace hfa := hfa.all tl
                  obtain ⟨x_272, ex_272, vx_272⟩ := tt_inc (x := x_238) (n := 1) (by omega) (by omega)
                  refine jj_iinc (v := x_272) C dX2_settleSeries_117 rfl ex_272 (by decide) rfl ?_
                  refine jj_goto (tgt := 46) C dX2_settleSeries_120 (by decide) ?_
                  refine jj_loc [0, 2, 3, 4, 5, 6] rfl ?_
                  exact ihL_237 pl_269 x_272 hok_270 hfr hfa hf_239 hf_240 (by first | omega | decide | exact tt_lo _ | exact tt_hi _) (by first | omega | decide | exact tt_lo _ | exact tt_hi _) (by first | omega | decide | exact tt_lo _ | exact tt_hi _)
                · have z_c_265 := jc_eq (a := (x_264).toInt) (b := (1)) c_265 rfl (by decide)
                  refine jj_aload_n C dX2_settleSeries_84 rfl ?_
                  refine jj_aload_n C dX2_settleSeries_85 rfl ?_
                  refine jj_aload C dX2_settleSeries_86 rfl ?_
                  refine jj_lload_n C dX2_settleSeries_88 rfl ?_
                  refine jj_lload C dX2_settleSeries_89 rfl ?_
                  refine tt_callS (rest := []) C (tc_X2_giveBack_2 hl D cA ak h0 h1 a_253 y_177 hk0 hk1 ka_253 hok) [] [] rfl rfl (by decide) (by decide) (by decide) jw_5d382c0351 jw_86ab3ee099 jw_79af3f4029 jw_0fb41ea103 jn_X2_giveBack rfl (jj_le rfl) (jj_le rfl) (jj_le rfl) (jj_le rfl) (jj_le rfl) dX2_settleSeries_91 rfl (fun _ _ _ hX => hX.elim) (fun rx pl_273 r O_276 => ?_)
                  obtain ⟨rfl, hok_274, hr_275, hfa9, hR_278⟩ := O_276
                  replace hf_239 := hr_275.at hk0 (by decide) (by decide) hf_239
                  replace hf_240 := hr_275.at hk0 (by decide) (by decide) hf_240
                  replace hf_242 := hr_275.at hk0 (by decide) (by decide) hf_242
                  replace hf_250 := hr_275.at hk0 (by decide) (by decide) hf_250
                  replace hf_255 := hr_275.at ka_253 (by decide) (by decide) hf_255
                  replace hf_258 := hr_275.at hk1 (by decide) (by decide) hf_258
                  replace hf_263 := hr_275.at hk0 (by decide) (by decide) hf_263
                  replace hfr := hfr.trans (hr_275.sub (by decide))
                  replace hfa := hfa.trans (hfa9.sub (by decide))
                  obtain rfl := hR_278
                  refine jj_aload_n C dX2_settleSeries_94 rfl ?_
                  refine jj_aload_n C dX2_settleSeries_95 rfl ?_
                  refine jj_aload C dX2_settleSeries_96 rfl ?_
                  refine jj_lload_n C dX2_settleSeries_98 rfl ?_
                  refine jj_lload C dX2_settleSeries_99 rfl ?_
                  refine tt_callS (rest := []) C (tc_X2_takeDue_2 hl D cA ak h0 h1 a_253 y_177 hk0 hk1 ka_253 hok_274) [] [] rfl rfl (by decide) (by decide) (by decide) jw_fc900e64a6 jw_0ed4369b1a jw_79af3f4029 jw_ba54d233d6 jn_X2_takeDue rfl (jj_le rfl) (jj_le rfl) (jj_le rfl) (jj_le rfl) (jj_le rfl) dX2_settleSeries_101 rfl (fun _ _ _ hX => hX.elim) (fun rx pl_281 r O_284 => ?_)
                  obtain ⟨rfl, hok_282, hr_283, hfa9, hR_286⟩ := O_284
                  replace hf_239 := hr_283.at hk0 (by decide) (by decide) hf_239
                  replace hf_240 := hr_283.at hk0 (by decide) (by decide) hf_240
                  replace hf_242 := hr_283.at hk0 (by decide) (by decide) hf_242
                  replace hf_250 := hr_283.at hk0 (by decide) (by decide) hf_250
                  replace hf_255 := hr_283.at ka_253 (by decide) (by decide) hf_255
                  replace hf_258 := hr_283.at hk1 (by decide) (by decide) hf_258
                  replace hf_263 := hr_283.at hk0 (by decide) (by decide) hf_263
                  replace hfr := hfr.trans (hr_283.sub (by decide))
                  replace hfa := hfa.trans (hfa9.sub (by decide))
                  obtain rfl := hR_286
                  refine jj_aload C dX2_settleSeries_104 rfl ?_
                  refine jj_lload C dX2_settleSeries_106 rfl ?_
                  refine rl_put C hok_282 jk_5 4 (by decide) jw_8ebffe18a9 (t := (1, (-9223372036854775808), 9223372036854775807)) ka_253 (by decide) rfl rfl rfl (tt_ja y_177) rfl rfl dX2_settleSeries_108 (fun pl_289 hok_290 tr hn tl => ?_)
                  replace hf_239 := tr _ _ _ (Or.inl (tt_ne hk0 ka_253 (by decide))) hf_239
                  replace hf_240 := tr _ _ _ (Or.inl (tt_ne hk0 ka_253 (by decide))) hf_240
                  replace hf_242 := tr _ _ _ (Or.inl (tt_ne hk0 ka_253 (by decide))) hf_242
                  replace hf_250 := tr _ _ _ (Or.inl (tt_ne hk0 ka_253 (by decide))) hf_250
                  replace hf_255 := tr _ _ _ (Or.inr (by decide)) hf_255
                  replace hf_258 := tr _ _ _ (Or.inl (tt_ne hk1 ka_253 (by decide))) hf_258
                  replace hf_263 := tr _ _ _ (Or.inl (tt_ne hk0 ka_253 (by decide))) hf_263
                  have hf_291 := hn
                  replace hfr := hfr.put ka_253 tr (by decide)
                  replace hfa := hfa.all tl
                  refine jj_aload C dX2_settleSeries_111 rfl ?_
                  refine jj_lconst (v := 0) C dX2_settleSeries_113 (by decide) ?_
                  refine rl_put C hok_290 jk_5 5 (by decide) jw_5d4c99f47d (t := (1, (-9223372036854775808), 9223372036854775807)) ka_253 (by decide) rfl rfl rfl (tt_ja (0 : Int64)) rfl rfl dX2_settleSeries_114 (fun pl_292 hok_293 tr hn tl => ?_)
                  replace hf_239 := tr _ _ _ (Or.inl (tt_ne hk0 ka_253 (by decide))) hf_239
                  replace hf_240 := tr _ _ _ (Or.inl (tt_ne hk0 ka_253 (by decide))) hf_240
                  replace hf_242 := tr _ _ _ (Or.inl (tt_ne hk0 ka_253 (by decide))) hf_242
                  replace hf_250 := tr _ _ _ (Or.inl (tt_ne hk0 ka_253 (by decide))) hf_250
                  replace hf_255 := tr _ _ _ (Or.inr (by decide)) hf_255
                  replace hf_258 := tr _ _ _ (Or.inl (tt_ne hk1 ka_253 (by decide))) hf_258
                  replace hf_263 := tr _ _ _ (Or.inl (tt_ne hk0 ka_253 (by decide))) hf_263
                  replace hf_291 := tr _ _ _ (Or.inr (by decide)) hf_291
                  have hf_294 := hn
                  replace hfr := hfr.put ka_253 tr (by decide)
                  replace hfa := hfa.all tl
                  obtain ⟨x_295, ex_295, vx_295⟩ := tt_inc (x := x_238) (n := 1) (by omega) (by omega)
                  refine jj_iinc (v := x_295) C dX2_settleSeries_117 rfl ex_295 (by decide) rfl ?_
                  refine jj_goto (tgt := 46) C dX2_settleSeries_120 (by decide) ?_
                  refine jj_loc [0, 2, 3, 4, 5, 6] rfl ?_
                  exact ihL_237 pl_292 x_295 hok_293 hfr hfa hf_239 hf_240 (by first | omega | decide | exact tt_lo _ | exact tt_hi _) (by first | omega | decide | exact tt_lo _ | exact tt_hi _) (by first | omega | decide | exact tt_lo _ | exact tt_hi _)
        exact hL_237 _ pl_169 (0 : Int32) trivial hok_170 hfr hfa hf_11 hf_163 (by first | omega | decide | exact tt_lo _ | exact tt_hi _) (by first | omega | decide | exact tt_lo _ | exact tt_hi _) (Int.self_le_toNat _)
  · refine jj_lstore_n C dX2_settleSeries_4 (by decide) rfl ?_
    refine jj_aload_n C dX2_settleSeries_5 rfl ?_
    refine jj_aload_n C dX2_settleSeries_6 rfl ?_
    refine tt_get C hok_2 jk_2 3 (by decide) jw_6a66993f6c (t := (0, (-2147483648), 2147483647)) hk0 (by decide) rfl rfl dX2_settleSeries_7 (fun v_296 hv_296 hf_297 => ?_)
    obtain ⟨x_298, rfl, lx_298, ux_298⟩ := tt_vi hv_296
    obtain ⟨qc, gs, hqc⟩ := tt_recv (cx := []) hok_2 hk1 (by decide) rfl
    refine tt_callV (rest := []) C (tc_X8_accruedFee_1 hl D cA ak h1 x_298 hk1 hok_2) [] [] rfl rfl (by decide) (by decide) (by decide) qc hqc rfl rfl jw_0a56017595 jw_16e73d269e jw_e0ac78627f jw_364e75910d jw_449e8f4cf4 jn_X8_accruedFee rfl (jj_le rfl) (jj_le rfl) (jj_le rfl) (jj_le rfl) (jj_le rfl) dX2_settleSeries_10 rfl (fun _ _ _ hX => hX.elim) (fun rx pl_299 r O_302 => ?_)
    obtain ⟨rfl, hok_300, hr_301, hfa9, hR_304⟩ := O_302
    replace hf_297 := hr_301.at hk0 (by decide) (by decide) hf_297
    replace hfr := hfr.trans (hr_301.sub (by decide))
    replace hfa := hfa.trans (hfa9.sub (by decide))
    rcases hR_304 with rfl | ⟨y_307, rfl⟩
    · refine jj_lstore C dX2_settleSeries_13 (by decide) rfl ?_
      refine jj_aload_n C dX2_settleSeries_15 rfl ?_
      refine jj_dup C dX2_settleSeries_16 rfl ?_
      refine tt_get C hok_300 jk_9 2 (by decide) jw_5719898240 (t := (1, (-9223372036854775808), 9223372036854775807)) hk1 (by decide) rfl rfl dX2_settleSeries_17 (fun v_308 hv_308 hf_309 => ?_)
      obtain ⟨y_310, rfl, -, -⟩ := tt_vj hv_308
      refine jj_lload C dX2_settleSeries_20 rfl ?_
      obtain ⟨y_311, ey_311⟩ : ∃ z : Int64, y_310 - (0 : Int64) = z := ⟨_, rfl⟩
      refine jj_lsub (v := y_311) C dX2_settleSeries_22 ey_311 ?_
      refine rl_put C hok_300 jk_9 2 (by decide) jw_5719898240 (t := (1, (-9223372036854775808), 9223372036854775807)) hk1 (by decide) rfl rfl rfl (tt_ja y_311) rfl rfl dX2_settleSeries_23 (fun pl_312 hok_313 tr hn tl => ?_)
      replace hf_297 := tr _ _ _ (Or.inl (tt_ne hk0 hk1 (by decide))) hf_297
      have hf_314 := hn
      replace hfr := hfr.put hk1 tr (by decide)
      replace hfa := hfa.all tl
      refine jj_aload_n C dX2_settleSeries_26 rfl ?_
      refine tt_get C hok_313 jk_2 10 (by decide) jw_d4020bdca8 (t := (2, 5, 0)) hk0 (by decide) rfl rfl dX2_settleSeries_27 (fun v_315 hv_315 hf_316 => ?_)
      obtain ⟨a_317, rfl, ka_317⟩ := tt_vr hv_315
      refine jj_iconst (v := 0) C dX2_settleSeries_30 (by decide) ?_
      refine jj_dup2 C dX2_settleSeries_31 rfl rfl ?_
      refine tt_lald C hok_313 (t := (1, (-9223372036854775808), 9223372036854775807)) ka_317 (by decide) rfl (vp_in_iff.mpr (by decide)) dX2_settleSeries_32 (fun v_318 hv_318 => ?_)
      refine jj_lload C dX2_settleSeries_33 rfl ?_
      obtain ⟨y_319, ey_319⟩ : ∃ z : Int64, v_318 + (0 : Int64) = z := ⟨_, rfl⟩
      refine jj_ladd (v := y_319) C dX2_settleSeries_35 ey_319 ?_
      refine tl_last C hok_313 (t := (1, (-9223372036854775808), 9223372036854775807)) ka_317 (by decide) rfl (vp_in_iff.mpr (by decide)) (tt_ja _) dX2_settleSeries_36 (fun pl_320 hok_321 tr tl => ?_)
      replace hf_297 := tr _ _ _ hf_297
      replace hf_314 := tr _ _ _ hf_314
      replace hf_316 := tr _ _ _ hf_316
      replace hfr := hfr.arr tr
      replace hfa := hfa.wr ka_317 tl (by decide)
      refine jj_aload_n C dX2_settleSeries_37 rfl ?_
      obtain ⟨qc, gs, hqc⟩ := tt_recv (cx := []) hok_321 hk1 (by decide) rfl
      refine tt_callV (rest := []) C (tc_X8_grossPrice_1 hl D cA ak h1 hk1 hok_321) [] [] rfl rfl (by decide) (by decide) (by decide) qc hqc rfl rfl jw_6230caeffd jw_8d67ffd46e jw_4ae9f31643 jw_364e75910d jw_11bb953c63 jn_X8_grossPrice rfl (jj_le rfl) (jj_le rfl) (jj_le rfl) (jj_le rfl) (jj_le rfl) dX2_settleSeries_38 rfl (fun _ _ _ hX => hX.elim) (fun rx pl_322 r O_325 => ?_)
      obtain ⟨rfl, hok_323, hr_324, hfa9, hR_327⟩ := O_325
      replace hf_297 := hr_324.at hk0 (by decide) (by decide) hf_297
      replace hf_314 := hr_324.at hk1 (by decide) (by decide) hf_314
      replace hf_316 := hr_324.at hk0 (by decide) (by decide) hf_316
      replace hfr := hfr.trans (hr_324.sub (by decide))
      replace hfa := hfa.trans (hfa9.sub (by decide))
      rcases hR_327 with rfl | ⟨y_330, rfl⟩
      · refine jj_lstore C dX2_settleSeries_41 (by decide) rfl ?_
        refine jj_iconst (v := 0) C dX2_settleSeries_43 (by decide) ?_
        refine jj_istore C dX2_settleSeries_44 (by decide) rfl ?_
        have hL_331 : ∀ (N : Nat) (pl : va_W) (x_332 : Int32), True → tt_ok tt_tk cA Kd pl → tt_fr Kd [(2, 2), (2, 3), (2, 4), (3, 3), (3, 4), (3, 5)] pl0 pl → tt_fa Kd [5] pl0 pl → tt_at pl h0 3 (.int x_298) → tt_at pl h0 10 (.ref a_317) → (0 : Int) ≤ x_332.toInt → x_332.toInt ≤ 40 → (2147483648 - x_332.toInt ≤ (N : Int)) → jj_J p l e (jj_rm 2 58 0 0) s m args below meth c 10 A (vx_MQ below (jj_q D A (tt_O (fun rx pl1 r => rx = [] ∧ tt_ok tt_tk cA Kd pl1 ∧ tt_fr Kd [(2, 2), (2, 3), (2, 4), (3, 3), (3, 4), (3, 5)] pl0 pl1 ∧ tt_fa Kd [5] pl0 pl1 ∧ ((r = none))))) (jj_x D A (tt_OX (fun _ _ _ => False))) args s 0 0 A) (jj_X D A ([] ++ pl)) 0 0 46 [(8, .int x_332), (6, .long 1000000), (4, .long 0), (2, .long y_9), (0, .ref h0), (1, .ref h1)] [] := by
          intro NL_331
          induction NL_331 with
          | zero => intro pl x_332 _ hok hfr hfa hf_333 hf_334 lx_332 ux_332 hNL_331; exfalso; omega
          | succ NL_331 ihL_331 =>
            intro pl x_332 _ hok hfr hfa hf_333 hf_334 lx_332 ux_332 hNL_331
            replace ihL_331 := fun pl x_332 h1 => ihL_331 pl x_332 trivial h1
            refine jj_iload C dX2_settleSeries_46 rfl ?_
            refine jj_aload_n C dX2_settleSeries_48 rfl ?_
            refine tt_get C hok jk_2 8 (by decide) jw_0a65dafd43 (t := (0, 0, 40)) hk0 (by decide) rfl rfl dX2_settleSeries_49 (fun v_335 hv_335 hf_336 => ?_)
            obtain ⟨x_337, rfl, lx_337, ux_337⟩ := tt_vi hv_335
            refine jj_icmp_ge (tgt := 123) C dX2_settleSeries_52 (by decide) (fun c_338 => ?_) (fun c_338 => ?_)
            · have z_c_338 := jc_le (a := (x_337).toInt) (b := (x_332).toInt) c_338 rfl rfl
              refine jj_lload C dX2_settleSeries_123 rfl ?_
              refine jj_lconst (v := 0) C dX2_settleSeries_125 (by decide) ?_
              refine jj_lcmp_leT (tgt := 136) C dX2_settleSeries_126 dX2_settleSeries_127 (by decide) (by decide) ?_
              exact jj_vret C ⟨[], pl, rfl, rfl, hok, hfr, hfa, rfl⟩ dX2_settleSeries_136 (jj_le rfl) (jj_le rfl)
            · have z_c_338 := jc_nle (a := (x_337).toInt) (b := (x_332).toInt) c_338 rfl rfl
              refine jj_aload_n C dX2_settleSeries_55 rfl ?_
              refine tt_get C hok jk_2 12 (by decide) jw_841c5f25b9 (t := (2, 7, 0)) hk0 (by decide) rfl rfl dX2_settleSeries_56 (fun v_339 hv_339 hf_340 => ?_)
              obtain ⟨a_341, rfl, ka_341⟩ := tt_vr hv_339
              refine jj_iload C dX2_settleSeries_59 rfl ?_
              refine tt_aald C hok (t := (2, 3, 0)) ka_341 (by decide) rfl rfl rfl (vp_in_iff.mpr ⟨by omega, by omega⟩) dX2_settleSeries_61 (fun v_342 hv_342 => ?_)
              obtain ⟨a_343, rfl, ka_343⟩ := tt_vr hv_342
              refine jj_astore C dX2_settleSeries_62 (by decide) rfl ?_
              refine jj_aload C dX2_settleSeries_64 rfl ?_
              refine tt_get C hok jk_5 1 (by decide) jw_65e19a7e21 (t := (0, (-2147483648), 2147483647)) ka_343 (by decide) rfl rfl dX2_settleSeries_66 (fun v_344 hv_344 hf_345 => ?_)
              obtain ⟨x_346, rfl, lx_346, ux_346⟩ := tt_vi hv_344
              refine jj_aload_n C dX2_settleSeries_69 rfl ?_
              refine tt_get C hok jk_9 0 (by decide) jw_2d4d10d910 (t := (0, (-2147483648), 2147483647)) hk1 (by decide) rfl rfl dX2_settleSeries_70 (fun v_347 hv_347 hf_348 => ?_)
              obtain ⟨x_349, rfl, lx_349, ux_349⟩ := tt_vi hv_347
              refine jj_icmp_ne (tgt := 117) C dX2_settleSeries_73 (by decide) (fun c_350 => ?_) (fun c_350 => ?_)
              · have z_c_350 := jc_neq (a := (x_346).toInt) (b := (x_349).toInt) c_350 rfl rfl
                obtain ⟨x_351, ex_351, vx_351⟩ := tt_inc (x := x_332) (n := 1) (by omega) (by omega)
                refine jj_iinc (v := x_351) C dX2_settleSeries_117 rfl ex_351 (by decide) rfl ?_
                refine jj_goto (tgt := 46) C dX2_settleSeries_120 (by decide) ?_
                refine jj_loc [0, 2, 3, 4, 5, 6] rfl ?_
                exact ihL_331 pl x_351 hok hfr hfa hf_333 hf_334 (by first | omega | decide | exact tt_lo _ | exact tt_hi _) (by first | omega | decide | exact tt_lo _ | exact tt_hi _) (by first | omega | decide | exact tt_lo _ | exact tt_hi _)
              · have z_c_350 := jc_eq (a := (x_346).toInt) (b := (x_349).toInt) c_350 rfl rfl
                refine jj_aload_n C dX2_settleSeries_76 rfl ?_
                refine tt_get C hok jk_2 1 (by decide) jw_d1d9a7ddd0 (t := (0, (-2147483648), 2147483647)) hk0 (by decide) rfl rfl dX2_settleSeries_77 (fun v_352 hv_352 hf_353 => ?_)
                obtain ⟨x_354, rfl, lx_354, ux_354⟩ := tt_vi hv_352
                refine jj_iconst (v := 1) C dX2_settleSeries_80 (by decide) ?_
                refine jj_icmp_ne (tgt := 104) C dX2_settleSeries_81 (by decide) (fun c_355 => ?_) (fun c_355 => ?_)
                · have z_c_355 := jc_neq (a := (x_354).toInt) (b := (1)) c_355 rfl (by decide)
                  refine jj_aload C dX2_settleSeries_104 rfl ?_
                  refine jj_lload C dX2_settleSeries_106 rfl ?_
                  refine rl_put C hok jk_5 4 (by decide) jw_8ebffe18a9 (t := (1, (-9223372036854775808), 9223372036854775807)) ka_343 (by decide) rfl rfl rfl (tt_ja (1000000 : Int64)) rfl rfl dX2_settleSeries_108 (fun pl_356 hok_357 tr hn tl => ?_)
                  replace hf_333 := tr _ _ _ (Or.inl (tt_ne hk0 ka_343 (by decide))) hf_333
                  replace hf_334 := tr _ _ _ (Or.inl (tt_ne hk0 ka_343 (by decide))) hf_334
                  replace hf_336 := tr _ _ _ (Or.inl (tt_ne hk0 ka_343 (by decide))) hf_336
                  replace hf_340 := tr _ _ _ (Or.inl (tt_ne hk0 ka_343 (by decide))) hf_340
                  replace hf_345 := tr _ _ _ (Or.inr (by decide)) hf_345
                  replace hf_348 := tr _ _ _ (Or.inl (tt_ne hk1 ka_343 (by decide))) hf_348
                  replace hf_353 := tr _ _ _ (Or.inl (tt_ne hk0 ka_343 (by decide))) hf_353
                  have hf_358 := hn
                  replace hfr := hfr.put ka_343 tr (by decide)
                  replace hfa := hfa.all tl
                  refine jj_aload C dX2_settleSeries_111 rfl ?_
                  refine jj_lconst (v := 0) C dX2_settleSeries_113 (by decide) ?_
                  refine rl_put C hok_357 jk_5 5 (by decide) jw_5d4c99f47d (t := (1, (-9223372036854775808), 9223372036854775807)) ka_343 (by decide) rfl rfl rfl (tt_ja (0 : Int64)) rfl rfl dX2_settleSeries_114 (fun pl_359 hok_360 tr hn tl => ?_)
                  replace hf_333 := tr _ _ _ (Or.inl (tt_ne hk0 ka_343 (by decide))) hf_333
                  replace hf_334 := tr _ _ _ (Or.inl (tt_ne hk0 ka_343 (by decide))) hf_334
                  replace hf_336 := tr _ _ _ (Or.inl (tt_ne hk0 ka_343 (by decide))) hf_336
                  replace hf_340 := tr _ _ _ (Or.inl (tt_ne hk0 ka_343 (by decide))) hf_340
                  replace hf_345 := tr _ _ _ (Or.inr (by decide)) hf_345
                  replace hf_348 := tr _ _ _ (Or.inl (tt_ne hk1 ka_343 (by decide))) hf_348
                  replace hf_353 := tr _ _ _ (Or.inl (tt_ne hk0 ka_343 (by decide))) hf_353
                  replace hf_358 := tr _ _ _ (Or.inr (by decide)) hf_358
                  have hf_361 := hn
                  replace hfr := hfr.put ka_343 tr (by decide)
                  replace hfa := hfa.all tl
                  obtain ⟨x_362, ex_362, vx_362⟩ := tt_inc (x := x_332) (n := 1) (by omega) (by omega)
                  refine jj_iinc (v := x_362) C dX2_settleSeries_117 rfl ex_362 (by decide) rfl ?_
                  refine jj_goto (tgt := 46) C dX2_settleSeries_120 (by decide) ?_
                  refine jj_loc [0, 2, 3, 4, 5, 6] rfl ?_
                  exact ihL_331 pl_359 x_362 hok_360 hfr hfa hf_333 hf_334 (by first | omega | decide | exact tt_lo _ | exact tt_hi _) (by first | omega | decide | exact tt_lo _ | exact tt_hi _) (by first | omega | decide | exact tt_lo _ | exact tt_hi _)
                · have z_c_355 := jc_eq (a := (x_354).toInt) (b := (1)) c_355 rfl (by decide)
                  refine jj_aload_n C dX2_settleSeries_84 rfl ?_
                  refine jj_aload_n C dX2_settleSeries_85 rfl ?_
                  refine jj_aload C dX2_settleSeries_86 rfl ?_
                  refine jj_lload_n C dX2_settleSeries_88 rfl ?_
                  refine jj_lload C dX2_settleSeries_89 rfl ?_
                  refine tt_callS (rest := []) C (tc_X2_giveBack_3 hl D cA ak h0 h1 a_343 y_9 hk0 hk1 ka_343 hok) [] [] rfl rfl (by decide) (by decide) (by decide) jw_5d382c0351 jw_86ab3ee099 jw_79af3f4029 jw_0fb41ea103 jn_X2_giveBack rfl (jj_le rfl) (jj_le rfl) (jj_le rfl) (jj_le rfl) (jj_le rfl) dX2_settleSeries_91 rfl (fun _ _ _ hX => hX.elim) (fun rx pl_363 r O_366 => ?_)
                  obtain ⟨rfl, hok_364, hr_365, hfa9, hR_368⟩ := O_366
                  replace hf_333 := hr_365.at hk0 (by decide) (by decide) hf_333
                  replace hf_334 := hr_365.at hk0 (by decide) (by decide) hf_334
                  replace hf_336 := hr_365.at hk0 (by decide) (by decide) hf_336
                  replace hf_340 := hr_365.at hk0 (by decide) (by decide) hf_340
                  replace hf_345 := hr_365.at ka_343 (by decide) (by decide) hf_345
                  replace hf_348 := hr_365.at hk1 (by decide) (by decide) hf_348
                  replace hf_353 := hr_365.at hk0 (by decide) (by decide) hf_353
                  replace hfr := hfr.trans (hr_365.sub (by decide))
                  replace hfa := hfa.trans (hfa9.sub (by decide))
                  obtain rfl := hR_368
                  refine jj_aload_n C dX2_settleSeries_94 rfl ?_
                  refine jj_aload_n C dX2_settleSeries_95 rfl ?_
                  refine jj_aload C dX2_settleSeries_96 rfl ?_
                  refine jj_lload_n C dX2_settleSeries_98 rfl ?_
                  refine jj_lload C dX2_settleSeries_99 rfl ?_
                  refine tt_callS (rest := []) C (tc_X2_takeDue_3 hl D cA ak h0 h1 a_343 y_9 hk0 hk1 ka_343 hok_364) [] [] rfl rfl (by decide) (by decide) (by decide) jw_fc900e64a6 jw_0ed4369b1a jw_79af3f4029 jw_ba54d233d6 jn_X2_takeDue rfl (jj_le rfl) (jj_le rfl) (jj_le rfl) (jj_le rfl) (jj_le rfl) dX2_settleSeries_101 rfl (fun _ _ _ hX => hX.elim) (fun rx pl_371 r O_374 => ?_)
                  obtain ⟨rfl, hok_372, hr_373, hfa9, hR_376⟩ := O_374
                  replace hf_333 := hr_373.at hk0 (by decide) (by decide) hf_333
                  replace hf_334 := hr_373.at hk0 (by decide) (by decide) hf_334
                  replace hf_336 := hr_373.at hk0 (by decide) (by decide) hf_336
                  replace hf_340 := hr_373.at hk0 (by decide) (by decide) hf_340
                  replace hf_345 := hr_373.at ka_343 (by decide) (by decide) hf_345
                  replace hf_348 := hr_373.at hk1 (by decide) (by decide) hf_348
                  replace hf_353 := hr_373.at hk0 (by decide) (by decide) hf_353
                  replace hfr := hfr.trans (hr_373.sub (by decide))
                  replace hfa := hfa.trans (hfa9.sub (by decide))
                  obtain rfl := hR_376
                  refine jj_aload C dX2_settleSeries_104 rfl ?_
                  refine jj_lload C dX2_settleSeries_106 rfl ?_
                  refine rl_put C hok_372 jk_5 4 (by decide) jw_8ebffe18a9 (t := (1, (-9223372036854775808), 9223372036854775807)) ka_343 (by decide) rfl rfl rfl (tt_ja (1000000 : Int64)) rfl rfl dX2_settleSeries_108 (fun pl_379 hok_380 tr hn tl => ?_)
                  replace hf_333 := tr _ _ _ (Or.inl (tt_ne hk0 ka_343 (by decide))) hf_333
                  replace hf_334 := tr _ _ _ (Or.inl (tt_ne hk0 ka_343 (by decide))) hf_334
                  replace hf_336 := tr _ _ _ (Or.inl (tt_ne hk0 ka_343 (by decide))) hf_336
                  replace hf_340 := tr _ _ _ (Or.inl (tt_ne hk0 ka_343 (by decide))) hf_340
                  replace hf_345 := tr _ _ _ (Or.inr (by decide)) hf_345
                  replace hf_348 := tr _ _ _ (Or.inl (tt_ne hk1 ka_343 (by decide))) hf_348
                  replace hf_353 := tr _ _ _ (Or.inl (tt_ne hk0 ka_343 (by decide))) hf_353
                  have hf_381 := hn
                  replace hfr := hfr.put ka_343 tr (by decide)
                  replace hfa := hfa.all tl
                  refine jj_aload C dX2_settleSeries_111 rfl ?_
                  refine jj_lconst (v := 0) C dX2_settleSeries_113 (by decide) ?_
                  refine rl_put C hok_380 jk_5 5 (by decide) jw_5d4c99f47d (t := (1, (-9223372036854775808), 9223372036854775807)) ka_343 (by decide) rfl rfl rfl (tt_ja (0 : Int64)) rfl rfl dX2_settleSeries_114 (fun pl_382 hok_383 tr hn tl => ?_)
                  replace hf_333 := tr _ _ _ (Or.inl (tt_ne hk0 ka_343 (by decide))) hf_333
                  replace hf_334 := tr _ _ _ (Or.inl (tt_ne hk0 ka_343 (by decide))) hf_334
                  replace hf_336 := tr _ _ _ (Or.inl (tt_ne hk0 ka_343 (by decide))) hf_336
                  replace hf_340 := tr _ _ _ (Or.inl (tt_ne hk0 ka_343 (by decide))) hf_340
                  replace hf_345 := tr _ _ _ (Or.inr (by decide)) hf_345
                  replace hf_348 := tr _ _ _ (Or.inl (tt_ne hk1 ka_343 (by decide))) hf_348
                  replace hf_353 := tr _ _ _ (Or.inl (tt_ne hk0 ka_343 (by decide))) hf_353
                  replace hf_381 := tr _ _ _ (Or.inr (by decide)) hf_381
                  have hf_384 := hn
                  replace hfr := hfr.put ka_343 tr (by decide)
                  replace hfa := hfa.all tl
                  obtain ⟨x_385, ex_385, vx_385⟩ := tt_inc (x := x_332) (n := 1) (by omega) (by omega)
                  refine jj_iinc (v := x_385) C dX2_settleSeries_117 rfl ex_385 (by decide) rfl ?_
                  refine jj_goto (tgt := 46) C dX2_settleSeries_120 (by decide) ?_
                  refine jj_loc [0, 2, 3, 4, 5, 6] rfl ?_
                  exact ihL_331 pl_382 x_385 hok_383 hfr hfa hf_333 hf_334 (by first | omega | decide | exact tt_lo _ | exact tt_hi _) (by first | omega | decide | exact tt_lo _ | exact tt_hi _) (by first | omega | decide | exact tt_lo _ | exact tt_hi _)
        exact hL_331 _ pl_322 (0 : Int32) trivial hok_323 hfr hfa hf_297 hf_316 (by first | omega | decide | exact tt_lo _ | exact tt_hi _) (by first | omega | decide | exact tt_lo _ | exact tt_hi _) (Int.self_le_toNat _)
      · refine jj_lstore C dX2_settleSeries_41 (by decide) rfl ?_
        refine jj_iconst (v := 0) C dX2_settleSeries_43 (by decide) ?_
        refine jj_istore C dX2_settleSeries_44 (by decide) rfl ?_
        have hL_386 : ∀ (N : Nat) (pl : va_W) (x_387 : Int32), True → tt_ok tt_tk cA Kd pl → tt_fr Kd [(2, 2), (2, 3), (2, 4), (3, 3), (3, 4), (3, 5)] pl0 pl → tt_fa Kd [5] pl0 pl → tt_at pl h0 3 (.int x_298) → tt_at pl h0 10 (.ref a_317) → (0 : Int) ≤ x_387.toInt → x_387.toInt ≤ 40 → (2147483648 - x_387.toInt ≤ (N : Int)) → jj_J p l e (jj_rm 2 58 0 0) s m args below meth c 10 A (vx_MQ below (jj_q D A (tt_O (fun rx pl1 r => rx = [] ∧ tt_ok tt_tk cA Kd pl1 ∧ tt_fr Kd [(2, 2), (2, 3), (2, 4), (3, 3), (3, 4), (3, 5)] pl0 pl1 ∧ tt_fa Kd [5] pl0 pl1 ∧ ((r = none))))) (jj_x D A (tt_OX (fun _ _ _ => False))) args s 0 0 A) (jj_X D A ([] ++ pl)) 0 0 46 [(8, .int x_387), (6, .long y_330), (4, .long 0), (2, .long y_9), (0, .ref h0), (1, .ref h1)] [] := by
          intro NL_386
          induction NL_386 with
          | zero => intro pl x_387 _ hok hfr hfa hf_388 hf_389 lx_387 ux_387 hNL_386; exfalso; omega
          | succ NL_386 ihL_386 =>
            intro pl x_387 _ hok hfr hfa hf_388 hf_389 lx_387 ux_387 hNL_386
            replace ihL_386 := fun pl x_387 h1 => ihL_386 pl x_387 trivial h1
            refine jj_iload C dX2_settleSeries_46 rfl ?_
            refine jj_aload_n C dX2_settleSeries_48 rfl ?_
            refine tt_get C hok jk_2 8 (by decide) jw_0a65dafd43 (t := (0, 0, 40)) hk0 (by decide) rfl rfl dX2_settleSeries_49 (fun v_390 hv_390 hf_391 => ?_)
            obtain ⟨x_392, rfl, lx_392, ux_392⟩ := tt_vi hv_390
            refine jj_icmp_ge (tgt := 123) C dX2_settleSeries_52 (by decide) (fun c_393 => ?_) (fun c_393 => ?_)
            · have z_c_393 := jc_le (a := (x_392).toInt) (b := (x_387).toInt) c_393 rfl rfl
              refine jj_lload C dX2_settleSeries_123 rfl ?_
              refine jj_lconst (v := 0) C dX2_settleSeries_125 (by decide) ?_
              refine jj_lcmp_leT (tgt := 136) C dX2_settleSeries_126 dX2_settleSeries_127 (by decide) (by decide) ?_
              exact jj_vret C ⟨[], pl, rfl, rfl, hok, hfr, hfa, rfl⟩ dX2_settleSeries_136 (jj_le rfl) (jj_le rfl)
            · have z_c_393 := jc_nle (a := (x_392).toInt) (b := (x_387).toInt) c_393 rfl rfl
              refine jj_aload_n C dX2_settleSeries_55 rfl ?_
              refine tt_get C hok jk_2 12 (by decide) jw_841c5f25b9 (t := (2, 7, 0)) hk0 (by decide) rfl rfl dX2_settleSeries_56 (fun v_394 hv_394 hf_395 => ?_)
              obtain ⟨a_396, rfl, ka_396⟩ := tt_vr hv_394
              refine jj_iload C dX2_settleSeries_59 rfl ?_
              refine tt_aald C hok (t := (2, 3, 0)) ka_396 (by decide) rfl rfl rfl (vp_in_iff.mpr ⟨by omega, by omega⟩) dX2_settleSeries_61 (fun v_397 hv_397 => ?_)
              obtain ⟨a_398, rfl, ka_398⟩ := tt_vr hv_397
              refine jj_astore C dX2_settleSeries_62 (by decide) rfl ?_
              refine jj_aload C dX2_settleSeries_64 rfl ?_
              refine tt_get C hok jk_5 1 (by decide) jw_65e19a7e21 (t := (0, (-2147483648), 2147483647)) ka_398 (by decide) rfl rfl dX2_settleSeries_66 (fun v_399 hv_399 hf_400 => ?_)
              obtain ⟨x_401, rfl, lx_401, ux_401⟩ := tt_vi hv_399
              refine jj_aload_n C dX2_settleSeries_69 rfl ?_
              refine tt_get C hok jk_9 0 (by decide) jw_2d4d10d910 (t := (0, (-2147483648), 2147483647)) hk1 (by decide) rfl rfl dX2_settleSeries_70 (fun v_402 hv_402 hf_403 => ?_)
              obtain ⟨x_404, rfl, lx_404, ux_404⟩ := tt_vi hv_402
              refine jj_icmp_ne (tgt := 117) C dX2_settleSeries_73 (by decide) (fun c_405 => ?_) (fun c_405 => ?_)
              · have z_c_405 := jc_neq (a := (x_401).toInt) (b := (x_404).toInt) c_405 rfl rfl
                obtain ⟨x_406, ex_406, vx_406⟩ := tt_inc (x := x_387) (n := 1) (by omega) (by omega)
                refine jj_iinc (v := x_406) C dX2_settleSeries_117 rfl ex_406 (by decide) rfl ?_
                refine jj_goto (tgt := 46) C dX2_settleSeries_120 (by decide) ?_
                refine jj_loc [0, 2, 3, 4, 5, 6] rfl ?_
                exact ihL_386 pl x_406 hok hfr hfa hf_388 hf_389 (by first | omega | decide | exact tt_lo _ | exact tt_hi _) (by first | omega | decide | exact tt_lo _ | exact tt_hi _) (by first | omega | decide | exact tt_lo _ | exact tt_hi _)
              · have z_c_405 := jc_eq (a := (x_401).toInt) (b := (x_404).toInt) c_405 rfl rfl
                refine jj_aload_n C dX2_settleSeries_76 rfl ?_
                refine tt_get C hok jk_2 1 (by decide) jw_d1d9a7ddd0 (t := (0, (-2147483648), 2147483647)) hk0 (by decide) rfl rfl dX2_settleSeries_77 (fun v_407 hv_407 hf_408 => ?_)
                obtain ⟨x_409, rfl, lx_409, ux_409⟩ := tt_vi hv_407
                refine jj_iconst (v := 1) C dX2_settleSeries_80 (by decide) ?_
                refine jj_icmp_ne (tgt := 104) C dX2_settleSeries_81 (by decide) (fun c_410 => ?_) (fun c_410 => ?_)
                · have z_c_410 := jc_neq (a := (x_409).toInt) (b := (1)) c_410 rfl (by decide)
                  refine jj_aload C dX2_settleSeries_104 rfl ?_
                  refine jj_lload C dX2_settleSeries_106 rfl ?_
                  refine rl_put C hok jk_5 4 (by decide) jw_8ebffe18a9 (t := (1, (-9223372036854775808), 9223372036854775807)) ka_398 (by decide) rfl rfl rfl (tt_ja y_330) rfl rfl dX2_settleSeries_108 (fun pl_411 hok_412 tr hn tl => ?_)
                  replace hf_388 := tr _ _ _ (Or.inl (tt_ne hk0 ka_398 (by decide))) hf_388
                  replace hf_389 := tr _ _ _ (Or.inl (tt_ne hk0 ka_398 (by decide))) hf_389
                  replace hf_391 := tr _ _ _ (Or.inl (tt_ne hk0 ka_398 (by decide))) hf_391
                  replace hf_395 := tr _ _ _ (Or.inl (tt_ne hk0 ka_398 (by decide))) hf_395
                  replace hf_400 := tr _ _ _ (Or.inr (by decide)) hf_400
                  replace hf_403 := tr _ _ _ (Or.inl (tt_ne hk1 ka_398 (by decide))) hf_403
                  replace hf_408 := tr _ _ _ (Or.inl (tt_ne hk0 ka_398 (by decide))) hf_408
                  have hf_413 := hn
                  replace hfr := hfr.put ka_398 tr (by decide)
                  replace hfa := hfa.all tl
                  refine jj_aload C dX2_settleSeries_111 rfl ?_
                  refine jj_lconst (v := 0) C dX2_settleSeries_113 (by decide) ?_
                  refine rl_put C hok_412 jk_5 5 (by decide) jw_5d4c99f47d (t := (1, (-9223372036854775808), 9223372036854775807)) ka_398 (by decide) rfl rfl rfl (tt_ja (0 : Int64)) rfl rfl dX2_settleSeries_114 (fun pl_414 hok_415 tr hn tl => ?_)
                  replace hf_388 := tr _ _ _ (Or.inl (tt_ne hk0 ka_398 (by decide))) hf_388
                  replace hf_389 := tr _ _ _ (Or.inl (tt_ne hk0 ka_398 (by decide))) hf_389
                  replace hf_391 := tr _ _ _ (Or.inl (tt_ne hk0 ka_398 (by decide))) hf_391
                  replace hf_395 := tr _ _ _ (Or.inl (tt_ne hk0 ka_398 (by decide))) hf_395
                  replace hf_400 := tr _ _ _ (Or.inr (by decide)) hf_400
                  replace hf_403 := tr _ _ _ (Or.inl (tt_ne hk1 ka_398 (by decide))) hf_403
                  replace hf_408 := tr _ _ _ (Or.inl (tt_ne hk0 ka_398 (by decide))) hf_408
                  replace hf_413 := tr _ _ _ (Or.inr (by decide)) hf_413
                  have hf_416 := hn
                  replace hfr := hfr.put ka_398 tr (by decide)
                  replace hfa := hfa.all tl
                  obtain ⟨x_417, ex_417, vx_417⟩ := tt_inc (x := x_387) (n := 1) (by omega) (by omega)
                  refine jj_iinc (v := x_417) C dX2_settleSeries_117 rfl ex_417 (by decide) rfl ?_
                  refine jj_goto (tgt := 46) C dX2_settleSeries_120 (by decide) ?_
                  refine jj_loc [0, 2, 3, 4, 5, 6] rfl ?_
                  exact ihL_386 pl_414 x_417 hok_415 hfr hfa hf_388 hf_389 (by first | omega | decide | exact tt_lo _ | exact tt_hi _) (by first | omega | decide | exact tt_lo _ | exact tt_hi _) (by first | omega | decide | exact tt_lo _ | exact tt_hi _)
                · have z_c_410 := jc_eq (a := (x_409).toInt) (b := (1)) c_410 rfl (by decide)
                  refine jj_aload_n C dX2_settleSeries_84 rfl ?_
                  refine jj_aload_n C dX2_settleSeries_85 rfl ?_
                  refine jj_aload C dX2_settleSeries_86 rfl ?_
                  refine jj_lload_n C dX2_settleSeries_88 rfl ?_
                  refine jj_lload C dX2_settleSeries_89 rfl ?_
                  refine tt_callS (rest := []) C (tc_X2_giveBack_4 hl D cA ak h0 h1 a_398 y_9 y_330 hk0 hk1 ka_398 hok) [] [] rfl rfl (by decide) (by decide) (by decide) jw_5d382c0351 jw_86ab3ee099 jw_79af3f4029 jw_0fb41ea103 jn_X2_giveBack rfl (jj_le rfl) (jj_le rfl) (jj_le rfl) (jj_le rfl) (jj_le rfl) dX2_settleSeries_91 rfl (fun _ _ _ hX => hX.elim) (fun rx pl_418 r O_421 => ?_)
                  obtain ⟨rfl, hok_419, hr_420, hfa9, hR_423⟩ := O_421
                  replace hf_388 := hr_420.at hk0 (by decide) (by decide) hf_388
                  replace hf_389 := hr_420.at hk0 (by decide) (by decide) hf_389
                  replace hf_391 := hr_420.at hk0 (by decide) (by decide) hf_391
                  replace hf_395 := hr_420.at hk0 (by decide) (by decide) hf_395
                  replace hf_400 := hr_420.at ka_398 (by decide) (by decide) hf_400
                  replace hf_403 := hr_420.at hk1 (by decide) (by decide) hf_403
                  replace hf_408 := hr_420.at hk0 (by decide) (by decide) hf_408
                  replace hfr := hfr.trans (hr_420.sub (by decide))
                  replace hfa := hfa.trans (hfa9.sub (by decide))
                  obtain rfl := hR_423
                  refine jj_aload_n C dX2_settleSeries_94 rfl ?_
                  refine jj_aload_n C dX2_settleSeries_95 rfl ?_
                  refine jj_aload C dX2_settleSeries_96 rfl ?_
                  refine jj_lload_n C dX2_settleSeries_98 rfl ?_
                  refine jj_lload C dX2_settleSeries_99 rfl ?_
                  refine tt_callS (rest := []) C (tc_X2_takeDue_4 hl D cA ak h0 h1 a_398 y_9 y_330 hk0 hk1 ka_398 hok_419) [] [] rfl rfl (by decide) (by decide) (by decide) jw_fc900e64a6 jw_0ed4369b1a jw_79af3f4029 jw_ba54d233d6 jn_X2_takeDue rfl (jj_le rfl) (jj_le rfl) (jj_le rfl) (jj_le rfl) (jj_le rfl) dX2_settleSeries_101 rfl (fun _ _ _ hX => hX.elim) (fun rx pl_426 r O_429 => ?_)
                  obtain ⟨rfl, hok_427, hr_428, hfa9, hR_431⟩ := O_429
                  replace hf_388 := hr_428.at hk0 (by decide) (by decide) hf_388
                  replace hf_389 := hr_428.at hk0 (by decide) (by decide) hf_389
                  replace hf_391 := hr_428.at hk0 (by decide) (by decide) hf_391
                  replace hf_395 := hr_428.at hk0 (by decide) (by decide) hf_395
                  replace hf_400 := hr_428.at ka_398 (by decide) (by decide) hf_400
                  replace hf_403 := hr_428.at hk1 (by decide) (by decide) hf_403
                  replace hf_408 := hr_428.at hk0 (by decide) (by decide) hf_408
                  replace hfr := hfr.trans (hr_428.sub (by decide))
                  replace hfa := hfa.trans (hfa9.sub (by decide))
                  obtain rfl := hR_431
                  refine jj_aload C dX2_settleSeries_104 rfl ?_
                  refine jj_lload C dX2_settleSeries_106 rfl ?_
                  refine rl_put C hok_427 jk_5 4 (by decide) jw_8ebffe18a9 (t := (1, (-9223372036854775808), 9223372036854775807)) ka_398 (by decide) rfl rfl rfl (tt_ja y_330) rfl rfl dX2_settleSeries_108 (fun pl_434 hok_435 tr hn tl => ?_)
                  replace hf_388 := tr _ _ _ (Or.inl (tt_ne hk0 ka_398 (by decide))) hf_388
                  replace hf_389 := tr _ _ _ (Or.inl (tt_ne hk0 ka_398 (by decide))) hf_389
                  replace hf_391 := tr _ _ _ (Or.inl (tt_ne hk0 ka_398 (by decide))) hf_391
                  replace hf_395 := tr _ _ _ (Or.inl (tt_ne hk0 ka_398 (by decide))) hf_395
                  replace hf_400 := tr _ _ _ (Or.inr (by decide)) hf_400
                  replace hf_403 := tr _ _ _ (Or.inl (tt_ne hk1 ka_398 (by decide))) hf_403
                  replace hf_408 := tr _ _ _ (Or.inl (tt_ne hk0 ka_398 (by decide))) hf_408
                  have hf_436 := hn
                  replace hfr := hfr.put ka_398 tr (by decide)
                  replace hfa := hfa.all tl
                  refine jj_aload C dX2_settleSeries_111 rfl ?_
                  refine jj_lconst (v := 0) C dX2_settleSeries_113 (by decide) ?_
                  refine rl_put C hok_435 jk_5 5 (by decide) jw_5d4c99f47d (t := (1, (-9223372036854775808), 9223372036854775807)) ka_398 (by decide) rfl rfl rfl (tt_ja (0 : Int64)) rfl rfl dX2_settleSeries_114 (fun pl_437 hok_438 tr hn tl => ?_)
                  replace hf_388 := tr _ _ _ (Or.inl (tt_ne hk0 ka_398 (by decide))) hf_388
                  replace hf_389 := tr _ _ _ (Or.inl (tt_ne hk0 ka_398 (by decide))) hf_389
                  replace hf_391 := tr _ _ _ (Or.inl (tt_ne hk0 ka_398 (by decide))) hf_391
                  replace hf_395 := tr _ _ _ (Or.inl (tt_ne hk0 ka_398 (by decide))) hf_395
                  replace hf_400 := tr _ _ _ (Or.inr (by decide)) hf_400
                  replace hf_403 := tr _ _ _ (Or.inl (tt_ne hk1 ka_398 (by decide))) hf_403
                  replace hf_408 := tr _ _ _ (Or.inl (tt_ne hk0 ka_398 (by decide))) hf_408
                  replace hf_436 := tr _ _ _ (Or.inr (by decide)) hf_436
                  have hf_439 := hn
                  replace hfr := hfr.put ka_398 tr (by decide)
                  replace hfa := hfa.all tl
                  obtain ⟨x_440, ex_440, vx_440⟩ := tt_inc (x := x_387) (n := 1) (by omega) (by omega)
                  refine jj_iinc (v := x_440) C dX2_settleSeries_117 rfl ex_440 (by decide) rfl ?_
                  refine jj_goto (tgt := 46) C dX2_settleSeries_120 (by decide) ?_
                  refine jj_loc [0, 2, 3, 4, 5, 6] rfl ?_
                  exact ihL_386 pl_437 x_440 hok_438 hfr hfa hf_388 hf_389 (by first | omega | decide | exact tt_lo _ | exact tt_hi _) (by first | omega | decide | exact tt_lo _ | exact tt_hi _) (by first | omega | decide | exact tt_lo _ | exact tt_hi _)
        exact hL_386 _ pl_322 (0 : Int32) trivial hok_323 hfr hfa hf_297 hf_316 (by first | omega | decide | exact tt_lo _ | exact tt_hi _) (by first | omega | decide | exact tt_lo _ | exact tt_hi _) (Int.self_le_toNat _)
    · refine jj_lstore C dX2_settleSeries_13 (by decide) rfl ?_
      refine jj_aload_n C dX2_settleSeries_15 rfl ?_
      refine jj_dup C dX2_settleSeries_16 rfl ?_
      refine tt_get C hok_300 jk_9 2 (by decide) jw_5719898240 (t := (1, (-9223372036854775808), 9223372036854775807)) hk1 (by decide) rfl rfl dX2_settleSeries_17 (fun v_441 hv_441 hf_442 => ?_)
      obtain ⟨y_443, rfl, -, -⟩ := tt_vj hv_441
      refine jj_lload C dX2_settleSeries_20 rfl ?_
      obtain ⟨y_444, ey_444⟩ : ∃ z : Int64, y_443 - y_307 = z := ⟨_, rfl⟩
      refine jj_lsub (v := y_444) C dX2_settleSeries_22 ey_444 ?_
      refine rl_put C hok_300 jk_9 2 (by decide) jw_5719898240 (t := (1, (-9223372036854775808), 9223372036854775807)) hk1 (by decide) rfl rfl rfl (tt_ja y_444) rfl rfl dX2_settleSeries_23 (fun pl_445 hok_446 tr hn tl => ?_)
      replace hf_297 := tr _ _ _ (Or.inl (tt_ne hk0 hk1 (by decide))) hf_297
      have hf_447 := hn
      replace hfr := hfr.put hk1 tr (by decide)
      replace hfa := hfa.all tl
      refine jj_aload_n C dX2_settleSeries_26 rfl ?_
      refine tt_get C hok_446 jk_2 10 (by decide) jw_d4020bdca8 (t := (2, 5, 0)) hk0 (by decide) rfl rfl dX2_settleSeries_27 (fun v_448 hv_448 hf_449 => ?_)
      obtain ⟨a_450, rfl, ka_450⟩ := tt_vr hv_448
      refine jj_iconst (v := 0) C dX2_settleSeries_30 (by decide) ?_
      refine jj_dup2 C dX2_settleSeries_31 rfl rfl ?_
      refine tt_lald C hok_446 (t := (1, (-9223372036854775808), 9223372036854775807)) ka_450 (by decide) rfl (vp_in_iff.mpr (by decide)) dX2_settleSeries_32 (fun v_451 hv_451 => ?_)
      refine jj_lload C dX2_settleSeries_33 rfl ?_
      obtain ⟨y_452, ey_452⟩ : ∃ z : Int64, v_451 + y_307 = z := ⟨_, rfl⟩
      refine jj_ladd (v := y_452) C dX2_settleSeries_35 ey_452 ?_
      refine tl_last C hok_446 (t := (1, (-9223372036854775808), 9223372036854775807)) ka_450 (by decide) rfl (vp_in_iff.mpr (by decide)) (tt_ja _) dX2_settleSeries_36 (fun pl_453 hok_454 tr tl => ?_)
      replace hf_297 := tr _ _ _ hf_297
      replace hf_447 := tr _ _ _ hf_447
      replace hf_449 := tr _ _ _ hf_449
      replace hfr := hfr.arr tr
      replace hfa := hfa.wr ka_450 tl (by decide)
      refine jj_aload_n C dX2_settleSeries_37 rfl ?_
      obtain ⟨qc, gs, hqc⟩ := tt_recv (cx := []) hok_454 hk1 (by decide) rfl
      refine tt_callV (rest := []) C (tc_X8_grossPrice_1 hl D cA ak h1 hk1 hok_454) [] [] rfl rfl (by decide) (by decide) (by decide) qc hqc rfl rfl jw_6230caeffd jw_8d67ffd46e jw_4ae9f31643 jw_364e75910d jw_11bb953c63 jn_X8_grossPrice rfl (jj_le rfl) (jj_le rfl) (jj_le rfl) (jj_le rfl) (jj_le rfl) dX2_settleSeries_38 rfl (fun _ _ _ hX => hX.elim) (fun rx pl_455 r O_458 => ?_)
      obtain ⟨rfl, hok_456, hr_457, hfa9, hR_460⟩ := O_458
      replace hf_297 := hr_457.at hk0 (by decide) (by decide) hf_297
      replace hf_447 := hr_457.at hk1 (by decide) (by decide) hf_447
      replace hf_449 := hr_457.at hk0 (by decide) (by decide) hf_449
      replace hfr := hfr.trans (hr_457.sub (by decide))
      replace hfa := hfa.trans (hfa9.sub (by decide))
      rcases hR_460 with rfl | ⟨y_463, rfl⟩
      · refine jj_lstore C dX2_settleSeries_41 (by decide) rfl ?_
        refine jj_iconst (v := 0) C dX2_settleSeries_43 (by decide) ?_
        refine jj_istore C dX2_settleSeries_44 (by decide) rfl ?_
        have hL_464 : ∀ (N : Nat) (pl : va_W) (x_465 : Int32), True → tt_ok tt_tk cA Kd pl → tt_fr Kd [(2, 2), (2, 3), (2, 4), (3, 3), (3, 4), (3, 5)] pl0 pl → tt_fa Kd [5] pl0 pl → tt_at pl h0 3 (.int x_298) → tt_at pl h0 10 (.ref a_450) → (0 : Int) ≤ x_465.toInt → x_465.toInt ≤ 40 → (2147483648 - x_465.toInt ≤ (N : Int)) → jj_J p l e (jj_rm 2 58 0 0) s m args below meth c 10 A (vx_MQ below (jj_q D A (tt_O (fun rx pl1 r => rx = [] ∧ tt_ok tt_tk cA Kd pl1 ∧ tt_fr Kd [(2, 2), (2, 3), (2, 4), (3, 3), (3, 4), (3, 5)] pl0 pl1 ∧ tt_fa Kd [5] pl0 pl1 ∧ ((r = none))))) (jj_x D A (tt_OX (fun _ _ _ => False))) args s 0 0 A) (jj_X D A ([] ++ pl)) 0 0 46 [(8, .int x_465), (6, .long 1000000), (4, .long y_307), (2, .long y_9), (0, .ref h0), (1, .ref h1)] [] := by
          intro NL_464
          induction NL_464 with
          | zero => intro pl x_465 _ hok hfr hfa hf_466 hf_467 lx_465 ux_465 hNL_464; exfalso; omega
          | succ NL_464 ihL_464 =>
            intro pl x_465 _ hok hfr hfa hf_466 hf_467 lx_465 ux_465 hNL_464
            replace ihL_464 := fun pl x_465 h1 => ihL_464 pl x_465 trivial h1
            refine jj_iload C dX2_settleSeries_46 rfl ?_
            refine jj_aload_n C dX2_settleSeries_48 rfl ?_
            refine tt_get C hok jk_2 8 (by decide) jw_0a65dafd43 (t := (0, 0, 40)) hk0 (by decide) rfl rfl dX2_settleSeries_49 (fun v_468 hv_468 hf_469 => ?_)
            obtain ⟨x_470, rfl, lx_470, ux_470⟩ := tt_vi hv_468
            refine jj_icmp_ge (tgt := 123) C dX2_settleSeries_52 (by decide) (fun c_471 => ?_) (fun c_471 => ?_)
            · have z_c_471 := jc_le (a := (x_470).toInt) (b := (x_465).toInt) c_471 rfl rfl
              refine jj_lload C dX2_settleSeries_123 rfl ?_
              refine jj_lconst (v := 0) C dX2_settleSeries_125 (by decide) ?_
              refine jj_lcmp_le (tgt := 136) C dX2_settleSeries_126 dX2_settleSeries_127 (by decide) (fun c_472 => ?_) (fun c_472 => ?_)
              · exact jj_vret C ⟨[], pl, rfl, rfl, hok, hfr, hfa, rfl⟩ dX2_settleSeries_136 (jj_le rfl) (jj_le rfl)
              · refine jj_aload_n C dX2_settleSeries_130 rfl ?_
                refine jj_lload C dX2_settleSeries_131 rfl ?_
                refine rl_put C hok jk_9 4 (by decide) jw_bb7ee2f491 (t := (1, (-9223372036854775808), 9223372036854775807)) hk1 (by decide) rfl rfl rfl (tt_ja (1000000 : Int64)) rfl rfl dX2_settleSeries_133 (fun pl_473 hok_474 tr hn tl => ?_)
                replace hf_466 := tr _ _ _ (Or.inl (tt_ne hk0 hk1 (by decide))) hf_466
                replace hf_467 := tr _ _ _ (Or.inl (tt_ne hk0 hk1 (by decide))) hf_467
                replace hf_469 := tr _ _ _ (Or.inl (tt_ne hk0 hk1 (by decide))) hf_469
                have hf_475 := hn
                replace hfr := hfr.put hk1 tr (by decide)
                replace hfa := hfa.all tl
                exact jj_vret C ⟨[], pl_473, rfl, rfl, hok_474, hfr, hfa, rfl⟩ dX2_settleSeries_136 (jj_le rfl) (jj_le rfl)
            · have z_c_471 := jc_nle (a := (x_470).toInt) (b := (x_465).toInt) c_471 rfl rfl
              refine jj_aload_n C dX2_settleSeries_55 rfl ?_
              refine tt_get C hok jk_2 12 (by decide) jw_841c5f25b9 (t := (2, 7, 0)) hk0 (by decide) rfl rfl dX2_settleSeries_56 (fun v_476 hv_476 hf_477 => ?_)
              obtain ⟨a_478, rfl, ka_478⟩ := tt_vr hv_476
              refine jj_iload C dX2_settleSeries_59 rfl ?_
              refine tt_aald C hok (t := (2, 3, 0)) ka_478 (by decide) rfl rfl rfl (vp_in_iff.mpr ⟨by omega, by omega⟩) dX2_settleSeries_61 (fun v_479 hv_479 => ?_)
              obtain ⟨a_480, rfl, ka_480⟩ := tt_vr hv_479
              refine jj_astore C dX2_settleSeries_62 (by decide) rfl ?_
              refine jj_aload C dX2_settleSeries_64 rfl ?_
              refine tt_get C hok jk_5 1 (by decide) jw_65e19a7e21 (t := (0, (-2147483648), 2147483647)) ka_480 (by decide) rfl rfl dX2_settleSeries_66 (fun v_481 hv_481 hf_482 => ?_)
              obtain ⟨x_483, rfl, lx_483, ux_483⟩ := tt_vi hv_481
              refine jj_aload_n C dX2_settleSeries_69 rfl ?_
              refine tt_get C hok jk_9 0 (by decide) jw_2d4d10d910 (t := (0, (-2147483648), 2147483647)) hk1 (by decide) rfl rfl dX2_settleSeries_70 (fun v_484 hv_484 hf_485 => ?_)
              obtain ⟨x_486, rfl, lx_486, ux_486⟩ := tt_vi hv_484
              refine jj_icmp_ne (tgt := 117) C dX2_settleSeries_73 (by decide) (fun c_487 => ?_) (fun c_487 => ?_)
              · have z_c_487 := jc_neq (a := (x_483).toInt) (b := (x_486).toInt) c_487 rfl rfl
                obtain ⟨x_488, ex_488, vx_488⟩ := tt_inc (x := x_465) (n := 1) (by omega) (by omega)
                refine jj_iinc (v := x_488) C dX2_settleSeries_117 rfl ex_488 (by decide) rfl ?_
                refine jj_goto (tgt := 46) C dX2_settleSeries_120 (by decide) ?_
                refine jj_loc [0, 2, 3, 4, 5, 6] rfl ?_
                exact ihL_464 pl x_488 hok hfr hfa hf_466 hf_467 (by first | omega | decide | exact tt_lo _ | exact tt_hi _) (by first | omega | decide | exact tt_lo _ | exact tt_hi _) (by first | omega | decide | exact tt_lo _ | exact tt_hi _)
              · have z_c_487 := jc_eq (a := (x_483).toInt) (b := (x_486).toInt) c_487 rfl rfl
                refine jj_aload_n C dX2_settleSeries_76 rfl ?_
                refine tt_get C hok jk_2 1 (by decide) jw_d1d9a7ddd0 (t := (0, (-2147483648), 2147483647)) hk0 (by decide) rfl rfl dX2_settleSeries_77 (fun v_489 hv_489 hf_490 => ?_)
                obtain ⟨x_491, rfl, lx_491, ux_491⟩ := tt_vi hv_489
                refine jj_iconst (v := 1) C dX2_settleSeries_80 (by decide) ?_
                refine jj_icmp_ne (tgt := 104) C dX2_settleSeries_81 (by decide) (fun c_492 => ?_) (fun c_492 => ?_)
                · have z_c_492 := jc_neq (a := (x_491).toInt) (b := (1)) c_492 rfl (by decide)
                  refine jj_aload C dX2_settleSeries_104 rfl ?_
                  refine jj_lload C dX2_settleSeries_106 rfl ?_
                  refine rl_put C hok jk_5 4 (by decide) jw_8ebffe18a9 (t := (1, (-9223372036854775808), 9223372036854775807)) ka_480 (by decide) rfl rfl rfl (tt_ja (1000000 : Int64)) rfl rfl dX2_settleSeries_108 (fun pl_493 hok_494 tr hn tl => ?_)
                  replace hf_466 := tr _ _ _ (Or.inl (tt_ne hk0 ka_480 (by decide))) hf_466
                  replace hf_467 := tr _ _ _ (Or.inl (tt_ne hk0 ka_480 (by decide))) hf_467
                  replace hf_469 := tr _ _ _ (Or.inl (tt_ne hk0 ka_480 (by decide))) hf_469
                  replace hf_477 := tr _ _ _ (Or.inl (tt_ne hk0 ka_480 (by decide))) hf_477
                  replace hf_482 := tr _ _ _ (Or.inr (by decide)) hf_482
                  replace hf_485 := tr _ _ _ (Or.inl (tt_ne hk1 ka_480 (by decide))) hf_485
                  replace hf_490 := tr _ _ _ (Or.inl (tt_ne hk0 ka_480 (by decide))) hf_490
                  have hf_495 := hn
                  replace hfr := hfr.put ka_480 tr (by decide)
                  replace hfa := hfa.all tl
                  refine jj_aload C dX2_settleSeries_111 rfl ?_
                  refine jj_lconst (v := 0) C dX2_settleSeries_113 (by decide) ?_
                  refine rl_put C hok_494 jk_5 5 (by decide) jw_5d4c99f47d (t := (1, (-9223372036854775808), 9223372036854775807)) ka_480 (by decide) rfl rfl rfl (tt_ja (0 : Int64)) rfl rfl dX2_settleSeries_114 (fun pl_496 hok_497 tr hn tl => ?_)
                  replace hf_466 := tr _ _ _ (Or.inl (tt_ne hk0 ka_480 (by decide))) hf_466
                  replace hf_467 := tr _ _ _ (Or.inl (tt_ne hk0 ka_480 (by decide))) hf_467
                  replace hf_469 := tr _ _ _ (Or.inl (tt_ne hk0 ka_480 (by decide))) hf_469
                  replace hf_477 := tr _ _ _ (Or.inl (tt_ne hk0 ka_480 (by decide))) hf_477
                  replace hf_482 := tr _ _ _ (Or.inr (by decide)) hf_482
                  replace hf_485 := tr _ _ _ (Or.inl (tt_ne hk1 ka_480 (by decide))) hf_485
                  replace hf_490 := tr _ _ _ (Or.inl (tt_ne hk0 ka_480 (by decide))) hf_490
                  replace hf_495 := tr _ _ _ (Or.inr (by decide)) hf_495
                  have hf_498 := hn
                  replace hfr := hfr.put ka_480 tr (by decide)
                  replace hfa := hfa.all tl
                  obtain ⟨x_499, ex_499, vx_499⟩ := tt_inc (x := x_465) (n := 1) (by omega) (by omega)
                  refine jj_iinc (v := x_499) C dX2_settleSeries_117 rfl ex_499 (by decide) rfl ?_
                  refine jj_goto (tgt := 46) C dX2_settleSeries_120 (by decide) ?_
                  refine jj_loc [0, 2, 3, 4, 5, 6] rfl ?_
                  exact ihL_464 pl_496 x_499 hok_497 hfr hfa hf_466 hf_467 (by first | omega | decide | exact tt_lo _ | exact tt_hi _) (by first | omega | decide | exact tt_lo _ | exact tt_hi _) (by first | omega | decide | exact tt_lo _ | exact tt_hi _)
                · have z_c_492 := jc_eq (a := (x_491).toInt) (b := (1)) c_492 rfl (by decide)
                  refine jj_aload_n C dX2_settleSeries_84 rfl ?_
                  refine jj_aload_n C dX2_settleSeries_85 rfl ?_
                  refine jj_aload C dX2_settleSeries_86 rfl ?_
                  refine jj_lload_n C dX2_settleSeries_88 rfl ?_
                  refine jj_lload C dX2_settleSeries_89 rfl ?_
                  refine tt_callS (rest := []) C (tc_X2_giveBack_3 hl D cA ak h0 h1 a_480 y_9 hk0 hk1 ka_480 hok) [] [] rfl rfl (by decide) (by decide) (by decide) jw_5d382c0351 jw_86ab3ee099 jw_79af3f4029 jw_0fb41ea103 jn_X2_giveBack rfl (jj_le rfl) (jj_le rfl) (jj_le rfl) (jj_le rfl) (jj_le rfl) dX2_settleSeries_91 rfl (fun _ _ _ hX => hX.elim) (fun rx pl_500 r O_503 => ?_)
                  obtain ⟨rfl, hok_501, hr_502, hfa9, hR_505⟩ := O_503
                  replace hf_466 := hr_502.at hk0 (by decide) (by decide) hf_466
                  replace hf_467 := hr_502.at hk0 (by decide) (by decide) hf_467
                  replace hf_469 := hr_502.at hk0 (by decide) (by decide) hf_469
                  replace hf_477 := hr_502.at hk0 (by decide) (by decide) hf_477
                  replace hf_482 := hr_502.at ka_480 (by decide) (by decide) hf_482
                  replace hf_485 := hr_502.at hk1 (by decide) (by decide) hf_485
                  replace hf_490 := hr_502.at hk0 (by decide) (by decide) hf_490
                  replace hfr := hfr.trans (hr_502.sub (by decide))
                  replace hfa := hfa.trans (hfa9.sub (by decide))
                  obtain rfl := hR_505
                  refine jj_aload_n C dX2_settleSeries_94 rfl ?_
                  refine jj_aload_n C dX2_settleSeries_95 rfl ?_
                  refine jj_aload C dX2_settleSeries_96 rfl ?_
                  refine jj_lload_n C dX2_settleSeries_98 rfl ?_
                  refine jj_lload C dX2_settleSeries_99 rfl ?_
                  refine tt_callS (rest := []) C (tc_X2_takeDue_3 hl D cA ak h0 h1 a_480 y_9 hk0 hk1 ka_480 hok_501) [] [] rfl rfl (by decide) (by decide) (by decide) jw_fc900e64a6 jw_0ed4369b1a jw_79af3f4029 jw_ba54d233d6 jn_X2_takeDue rfl (jj_le rfl) (jj_le rfl) (jj_le rfl) (jj_le rfl) (jj_le rfl) dX2_settleSeries_101 rfl (fun _ _ _ hX => hX.elim) (fun rx pl_508 r O_511 => ?_)
                  obtain ⟨rfl, hok_509, hr_510, hfa9, hR_513⟩ := O_511
                  replace hf_466 := hr_510.at hk0 (by decide) (by decide) hf_466
                  replace hf_467 := hr_510.at hk0 (by decide) (by decide) hf_467
                  replace hf_469 := hr_510.at hk0 (by decide) (by decide) hf_469
                  replace hf_477 := hr_510.at hk0 (by decide) (by decide) hf_477
                  replace hf_482 := hr_510.at ka_480 (by decide) (by decide) hf_482
                  replace hf_485 := hr_510.at hk1 (by decide) (by decide) hf_485
                  replace hf_490 := hr_510.at hk0 (by decide) (by decide) hf_490
                  replace hfr := hfr.trans (hr_510.sub (by decide))
                  replace hfa := hfa.trans (hfa9.sub (by decide))
                  obtain rfl := hR_513
                  refine jj_aload C dX2_settleSeries_104 rfl ?_
                  refine jj_lload C dX2_settleSeries_106 rfl ?_
                  refine rl_put C hok_509 jk_5 4 (by decide) jw_8ebffe18a9 (t := (1, (-9223372036854775808), 9223372036854775807)) ka_480 (by decide) rfl rfl rfl (tt_ja (1000000 : Int64)) rfl rfl dX2_settleSeries_108 (fun pl_516 hok_517 tr hn tl => ?_)
                  replace hf_466 := tr _ _ _ (Or.inl (tt_ne hk0 ka_480 (by decide))) hf_466
                  replace hf_467 := tr _ _ _ (Or.inl (tt_ne hk0 ka_480 (by decide))) hf_467
                  replace hf_469 := tr _ _ _ (Or.inl (tt_ne hk0 ka_480 (by decide))) hf_469
                  replace hf_477 := tr _ _ _ (Or.inl (tt_ne hk0 ka_480 (by decide))) hf_477
                  replace hf_482 := tr _ _ _ (Or.inr (by decide)) hf_482
                  replace hf_485 := tr _ _ _ (Or.inl (tt_ne hk1 ka_480 (by decide))) hf_485
                  replace hf_490 := tr _ _ _ (Or.inl (tt_ne hk0 ka_480 (by decide))) hf_490
                  have hf_518 := hn
                  replace hfr := hfr.put ka_480 tr (by decide)
                  replace hfa := hfa.all tl
                  refine jj_aload C dX2_settleSeries_111 rfl ?_
                  refine jj_lconst (v := 0) C dX2_settleSeries_113 (by decide) ?_
                  refine rl_put C hok_517 jk_5 5 (by decide) jw_5d4c99f47d (t := (1, (-9223372036854775808), 9223372036854775807)) ka_480 (by decide) rfl rfl rfl (tt_ja (0 : Int64)) rfl rfl dX2_settleSeries_114 (fun pl_519 hok_520 tr hn tl => ?_)
                  replace hf_466 := tr _ _ _ (Or.inl (tt_ne hk0 ka_480 (by decide))) hf_466
                  replace hf_467 := tr _ _ _ (Or.inl (tt_ne hk0 ka_480 (by decide))) hf_467
                  replace hf_469 := tr _ _ _ (Or.inl (tt_ne hk0 ka_480 (by decide))) hf_469
                  replace hf_477 := tr _ _ _ (Or.inl (tt_ne hk0 ka_480 (by decide))) hf_477
                  replace hf_482 := tr _ _ _ (Or.inr (by decide)) hf_482
                  replace hf_485 := tr _ _ _ (Or.inl (tt_ne hk1 ka_480 (by decide))) hf_485
                  replace hf_490 := tr _ _ _ (Or.inl (tt_ne hk0 ka_480 (by decide))) hf_490
                  replace hf_518 := tr _ _ _ (Or.inr (by decide)) hf_518
                  have hf_521 := hn
                  replace hfr := hfr.put ka_480 tr (by decide)
                  replace hfa := hfa.all tl
                  obtain ⟨x_522, ex_522, vx_522⟩ := tt_inc (x := x_465) (n := 1) (by omega) (by omega)
                  refine jj_iinc (v := x_522) C dX2_settleSeries_117 rfl ex_522 (by decide) rfl ?_
                  refine jj_goto (tgt := 46) C dX2_settleSeries_120 (by decide) ?_
                  refine jj_loc [0, 2, 3, 4, 5, 6] rfl ?_
                  exact ihL_464 pl_519 x_522 hok_520 hfr hfa hf_466 hf_467 (by first | omega | decide | exact tt_lo _ | exact tt_hi _) (by first | omega | decide | exact tt_lo _ | exact tt_hi _) (by first | omega | decide | exact tt_lo _ | exact tt_hi _)
        exact hL_464 _ pl_455 (0 : Int32) trivial hok_456 hfr hfa hf_297 hf_449 (by first | omega | decide | exact tt_lo _ | exact tt_hi _) (by first | omega | decide | exact tt_lo _ | exact tt_hi _) (Int.self_le_toNat _)
      · refine jj_lstore C dX2_settleSeries_41 (by decide) rfl ?_
        refine jj_iconst (v := 0) C dX2_settleSeries_43 (by decide) ?_
        refine jj_istore C dX2_settleSeries_44 (by decide) rfl ?_
        have hL_523 : ∀ (N : Nat) (pl : va_W) (x_524 : Int32), True → tt_ok tt_tk cA Kd pl → tt_fr Kd [(2, 2), (2, 3), (2, 4), (3, 3), (3, 4), (3, 5)] pl0 pl → tt_fa Kd [5] pl0 pl → tt_at pl h0 3 (.int x_298) → tt_at pl h0 10 (.ref a_450) → (0 : Int) ≤ x_524.toInt → x_524.toInt ≤ 40 → (2147483648 - x_524.toInt ≤ (N : Int)) → jj_J p l e (jj_rm 2 58 0 0) s m args below meth c 10 A (vx_MQ below (jj_q D A (tt_O (fun rx pl1 r => rx = [] ∧ tt_ok tt_tk cA Kd pl1 ∧ tt_fr Kd [(2, 2), (2, 3), (2, 4), (3, 3), (3, 4), (3, 5)] pl0 pl1 ∧ tt_fa Kd [5] pl0 pl1 ∧ ((r = none))))) (jj_x D A (tt_OX (fun _ _ _ => False))) args s 0 0 A) (jj_X D A ([] ++ pl)) 0 0 46 [(8, .int x_524), (6, .long y_463), (4, .long y_307), (2, .long y_9), (0, .ref h0), (1, .ref h1)] [] := by
          intro NL_523
          induction NL_523 with
          | zero => intro pl x_524 _ hok hfr hfa hf_525 hf_526 lx_524 ux_524 hNL_523; exfalso; omega
          | succ NL_523 ihL_523 =>
            intro pl x_524 _ hok hfr hfa hf_525 hf_526 lx_524 ux_524 hNL_523
            replace ihL_523 := fun pl x_524 h1 => ihL_523 pl x_524 trivial h1
            refine jj_iload C dX2_settleSeries_46 rfl ?_
            refine jj_aload_n C dX2_settleSeries_48 rfl ?_
            refine tt_get C hok jk_2 8 (by decide) jw_0a65dafd43 (t := (0, 0, 40)) hk0 (by decide) rfl rfl dX2_settleSeries_49 (fun v_527 hv_527 hf_528 => ?_)
            obtain ⟨x_529, rfl, lx_529, ux_529⟩ := tt_vi hv_527
            refine jj_icmp_ge (tgt := 123) C dX2_settleSeries_52 (by decide) (fun c_530 => ?_) (fun c_530 => ?_)
            · have z_c_530 := jc_le (a := (x_529).toInt) (b := (x_524).toInt) c_530 rfl rfl
              refine jj_lload C dX2_settleSeries_123 rfl ?_
              refine jj_lconst (v := 0) C dX2_settleSeries_125 (by decide) ?_
              refine jj_lcmp_le (tgt := 136) C dX2_settleSeries_126 dX2_settleSeries_127 (by decide) (fun c_531 => ?_) (fun c_531 => ?_)
              · exact jj_vret C ⟨[], pl, rfl, rfl, hok, hfr, hfa, rfl⟩ dX2_settleSeries_136 (jj_le rfl) (jj_le rfl)
              · refine jj_aload_n C dX2_settleSeries_130 rfl ?_
                refine jj_lload C dX2_settleSeries_131 rfl ?_
                refine rl_put C hok jk_9 4 (by decide) jw_bb7ee2f491 (t := (1, (-9223372036854775808), 9223372036854775807)) hk1 (by decide) rfl rfl rfl (tt_ja y_463) rfl rfl dX2_settleSeries_133 (fun pl_532 hok_533 tr hn tl => ?_)
                replace hf_525 := tr _ _ _ (Or.inl (tt_ne hk0 hk1 (by decide))) hf_525
                replace hf_526 := tr _ _ _ (Or.inl (tt_ne hk0 hk1 (by decide))) hf_526
                replace hf_528 := tr _ _ _ (Or.inl (tt_ne hk0 hk1 (by decide))) hf_528
                have hf_534 := hn
                replace hfr := hfr.put hk1 tr (by decide)
                replace hfa := hfa.all tl
                exact jj_vret C ⟨[], pl_532, rfl, rfl, hok_533, hfr, hfa, rfl⟩ dX2_settleSeries_136 (jj_le rfl) (jj_le rfl)
            · have z_c_530 := jc_nle (a := (x_529).toInt) (b := (x_524).toInt) c_530 rfl rfl
              refine jj_aload_n C dX2_settleSeries_55 rfl ?_
              refine tt_get C hok jk_2 12 (by decide) jw_841c5f25b9 (t := (2, 7, 0)) hk0 (by decide) rfl rfl dX2_settleSeries_56 (fun v_535 hv_535 hf_536 => ?_)
              obtain ⟨a_537, rfl, ka_537⟩ := tt_vr hv_535
              refine jj_iload C dX2_settleSeries_59 rfl ?_
              refine tt_aald C hok (t := (2, 3, 0)) ka_537 (by decide) rfl rfl rfl (vp_in_iff.mpr ⟨by omega, by omega⟩) dX2_settleSeries_61 (fun v_538 hv_538 => ?_)
              obtain ⟨a_539, rfl, ka_539⟩ := tt_vr hv_538
              refine jj_astore C dX2_settleSeries_62 (by decide) rfl ?_
              refine jj_aload C dX2_settleSeries_64 rfl ?_
              refine tt_get C hok jk_5 1 (by decide) jw_65e19a7e21 (t := (0, (-2147483648), 2147483647)) ka_539 (by decide) rfl rfl dX2_settleSeries_66 (fun v_540 hv_540 hf_541 => ?_)
              obtain ⟨x_542, rfl, lx_542, ux_542⟩ := tt_vi hv_540
              refine jj_aload_n C dX2_settleSeries_69 rfl ?_
              refine tt_get C hok jk_9 0 (by decide) jw_2d4d10d910 (t := (0, (-2147483648), 2147483647)) hk1 (by decide) rfl rfl dX2_settleSeries_70 (fun v_543 hv_543 hf_544 => ?_)
              obtain ⟨x_545, rfl, lx_545, ux_545⟩ := tt_vi hv_543
              refine jj_icmp_ne (tgt := 117) C dX2_settleSeries_73 (by decide) (fun c_546 => ?_) (fun c_546 => ?_)
              · have z_c_546 := jc_neq (a := (x_542).toInt) (b := (x_545).toInt) c_546 rfl rfl
                obtain ⟨x_547, ex_547, vx_547⟩ := tt_inc (x := x_524) (n := 1) (by omega) (by omega)
                refine jj_iinc (v := x_547) C dX2_settleSeries_117 rfl ex_547 (by decide) rfl ?_
                refine jj_goto (tgt := 46) C dX2_settleSeries_120 (by decide) ?_
                refine jj_loc [0, 2, 3, 4, 5, 6] rfl ?_
                exact ihL_523 pl x_547 hok hfr hfa hf_525 hf_526 (by first | omega | decide | exact tt_lo _ | exact tt_hi _) (by first | omega | decide | exact tt_lo _ | exact tt_hi _) (by first | omega | decide | exact tt_lo _ | exact tt_hi _)
              · have z_c_546 := jc_eq (a := (x_542).toInt) (b := (x_545).toInt) c_546 rfl rfl
                refine jj_aload_n C dX2_settleSeries_76 rfl ?_
                refine tt_get C hok jk_2 1 (by decide) jw_d1d9a7ddd0 (t := (0, (-2147483648), 2147483647)) hk0 (by decide) rfl rfl dX2_settleSeries_77 (fun v_548 hv_548 hf_549 => ?_)
                obtain ⟨x_550, rfl, lx_550, ux_550⟩ := tt_vi hv_548
                refine jj_iconst (v := 1) C dX2_settleSeries_80 (by decide) ?_
                refine jj_icmp_ne (tgt := 104) C dX2_settleSeries_81 (by decide) (fun c_551 => ?_) (fun c_551 => ?_)
                · have z_c_551 := jc_neq (a := (x_550).toInt) (b := (1)) c_551 rfl (by decide)
                  refine jj_aload C dX2_settleSeries_104 rfl ?_
                  refine jj_lload C dX2_settleSeries_106 rfl ?_
                  refine rl_put C hok jk_5 4 (by decide) jw_8ebffe18a9 (t := (1, (-9223372036854775808), 9223372036854775807)) ka_539 (by decide) rfl rfl rfl (tt_ja y_463) rfl rfl dX2_settleSeries_108 (fun pl_552 hok_553 tr hn tl => ?_)
                  replace hf_525 := tr _ _ _ (Or.inl (tt_ne hk0 ka_539 (by decide))) hf_525
                  replace hf_526 := tr _ _ _ (Or.inl (tt_ne hk0 ka_539 (by decide))) hf_526
                  replace hf_528 := tr _ _ _ (Or.inl (tt_ne hk0 ka_539 (by decide))) hf_528
                  replace hf_536 := tr _ _ _ (Or.inl (tt_ne hk0 ka_539 (by decide))) hf_536
                  replace hf_541 := tr _ _ _ (Or.inr (by decide)) hf_541
                  replace hf_544 := tr _ _ _ (Or.inl (tt_ne hk1 ka_539 (by decide))) hf_544
                  replace hf_549 := tr _ _ _ (Or.inl (tt_ne hk0 ka_539 (by decide))) hf_549
                  have hf_554 := hn
                  replace hfr := hfr.put ka_539 tr (by decide)
                  replace hfa := hfa.all tl
                  refine jj_aload C dX2_settleSeries_111 rfl ?_
                  refine jj_lconst (v := 0) C dX2_settleSeries_113 (by decide) ?_
                  refine rl_put C hok_553 jk_5 5 (by decide) jw_5d4c99f47d (t := (1, (-9223372036854775808), 9223372036854775807)) ka_539 (by decide) rfl rfl rfl (tt_ja (0 : Int64)) rfl rfl dX2_settleSeries_114 (fun pl_555 hok_556 tr hn tl => ?_)
                  replace hf_525 := tr _ _ _ (Or.inl (tt_ne hk0 ka_539 (by decide))) hf_525
                  replace hf_526 := tr _ _ _ (Or.inl (tt_ne hk0 ka_539 (by decide))) hf_526
                  replace hf_528 := tr _ _ _ (Or.inl (tt_ne hk0 ka_539 (by decide))) hf_528
                  replace hf_536 := tr _ _ _ (Or.inl (tt_ne hk0 ka_539 (by decide))) hf_536
                  replace hf_541 := tr _ _ _ (Or.inr (by decide)) hf_541
                  replace hf_544 := tr _ _ _ (Or.inl (tt_ne hk1 ka_539 (by decide))) hf_544
                  replace hf_549 := tr _ _ _ (Or.inl (tt_ne hk0 ka_539 (by decide))) hf_549
                  replace hf_554 := tr _ _ _ (Or.inr (by decide)) hf_554
                  have hf_557 := hn
                  replace hfr := hfr.put ka_539 tr (by decide)
                  replace hfa := hfa.all tl
                  obtain ⟨x_558, ex_558, vx_558⟩ := tt_inc (x := x_524) (n := 1) (by omega) (by omega)
                  refine jj_iinc (v := x_558) C dX2_settleSeries_117 rfl ex_558 (by decide) rfl ?_
                  refine jj_goto (tgt := 46) C dX2_settleSeries_120 (by decide) ?_
                  refine jj_loc [0, 2, 3, 4, 5, 6] rfl ?_
                  exact ihL_523 pl_555 x_558 hok_556 hfr hfa hf_525 hf_526 (by first | omega | decide | exact tt_lo _ | exact tt_hi _) (by first | omega | decide | exact tt_lo _ | exact tt_hi _) (by first | omega | decide | exact tt_lo _ | exact tt_hi _)
                · have z_c_551 := jc_eq (a := (x_550).toInt) (b := (1)) c_551 rfl (by decide)
                  refine jj_aload_n C dX2_settleSeries_84 rfl ?_
                  refine jj_aload_n C dX2_settleSeries_85 rfl ?_
                  refine jj_aload C dX2_settleSeries_86 rfl ?_
                  refine jj_lload_n C dX2_settleSeries_88 rfl ?_
                  refine jj_lload C dX2_settleSeries_89 rfl ?_
                  refine tt_callS (rest := []) C (tc_X2_giveBack_4 hl D cA ak h0 h1 a_539 y_9 y_463 hk0 hk1 ka_539 hok) [] [] rfl rfl (by decide) (by decide) (by decide) jw_5d382c0351 jw_86ab3ee099 jw_79af3f4029 jw_0fb41ea103 jn_X2_giveBack rfl (jj_le rfl) (jj_le rfl) (jj_le rfl) (jj_le rfl) (jj_le rfl) dX2_settleSeries_91 rfl (fun _ _ _ hX => hX.elim) (fun rx pl_559 r O_562 => ?_)
                  obtain ⟨rfl, hok_560, hr_561, hfa9, hR_564⟩ := O_562
                  replace hf_525 := hr_561.at hk0 (by decide) (by decide) hf_525
                  replace hf_526 := hr_561.at hk0 (by decide) (by decide) hf_526
                  replace hf_528 := hr_561.at hk0 (by decide) (by decide) hf_528
                  replace hf_536 := hr_561.at hk0 (by decide) (by decide) hf_536
                  replace hf_541 := hr_561.at ka_539 (by decide) (by decide) hf_541
                  replace hf_544 := hr_561.at hk1 (by decide) (by decide) hf_544
                  replace hf_549 := hr_561.at hk0 (by decide) (by decide) hf_549
                  replace hfr := hfr.trans (hr_561.sub (by decide))
                  replace hfa := hfa.trans (hfa9.sub (by decide))
                  obtain rfl := hR_564
                  refine jj_aload_n C dX2_settleSeries_94 rfl ?_
                  refine jj_aload_n C dX2_settleSeries_95 rfl ?_
                  refine jj_aload C dX2_settleSeries_96 rfl ?_
                  refine jj_lload_n C dX2_settleSeries_98 rfl ?_
                  refine jj_lload C dX2_settleSeries_99 rfl ?_
                  refine tt_callS (rest := []) C (tc_X2_takeDue_4 hl D cA ak h0 h1 a_539 y_9 y_463 hk0 hk1 ka_539 hok_560) [] [] rfl rfl (by decide) (by decide) (by decide) jw_fc900e64a6 jw_0ed4369b1a jw_79af3f4029 jw_ba54d233d6 jn_X2_takeDue rfl (jj_le rfl) (jj_le rfl) (jj_le rfl) (jj_le rfl) (jj_le rfl) dX2_settleSeries_101 rfl (fun _ _ _ hX => hX.elim) (fun rx pl_567 r O_570 => ?_)
                  obtain ⟨rfl, hok_568, hr_569, hfa9, hR_572⟩ := O_570
                  replace hf_525 := hr_569.at hk0 (by decide) (by decide) hf_525
                  replace hf_526 := hr_569.at hk0 (by decide) (by decide) hf_526
                  replace hf_528 := hr_569.at hk0 (by decide) (by decide) hf_528
                  replace hf_536 := hr_569.at hk0 (by decide) (by decide) hf_536
                  replace hf_541 := hr_569.at ka_539 (by decide) (by decide) hf_541
                  replace hf_544 := hr_569.at hk1 (by decide) (by decide) hf_544
                  replace hf_549 := hr_569.at hk0 (by decide) (by decide) hf_549
                  replace hfr := hfr.trans (hr_569.sub (by decide))
                  replace hfa := hfa.trans (hfa9.sub (by decide))
                  obtain rfl := hR_572
                  refine jj_aload C dX2_settleSeries_104 rfl ?_
                  refine jj_lload C dX2_settleSeries_106 rfl ?_
                  refine rl_put C hok_568 jk_5 4 (by decide) jw_8ebffe18a9 (t := (1, (-9223372036854775808), 9223372036854775807)) ka_539 (by decide) rfl rfl rfl (tt_ja y_463) rfl rfl dX2_settleSeries_108 (fun pl_575 hok_576 tr hn tl => ?_)
                  replace hf_525 := tr _ _ _ (Or.inl (tt_ne hk0 ka_539 (by decide))) hf_525
                  replace hf_526 := tr _ _ _ (Or.inl (tt_ne hk0 ka_539 (by decide))) hf_526
                  replace hf_528 := tr _ _ _ (Or.inl (tt_ne hk0 ka_539 (by decide))) hf_528
                  replace hf_536 := tr _ _ _ (Or.inl (tt_ne hk0 ka_539 (by decide))) hf_536
                  replace hf_541 := tr _ _ _ (Or.inr (by decide)) hf_541
                  replace hf_544 := tr _ _ _ (Or.inl (tt_ne hk1 ka_539 (by decide))) hf_544
                  replace hf_549 := tr _ _ _ (Or.inl (tt_ne hk0 ka_539 (by decide))) hf_549
                  have hf_577 := hn
                  replace hfr := hfr.put ka_539 tr (by decide)
                  replace hfa := hfa.all tl
                  refine jj_aload C dX2_settleSeries_111 rfl ?_
                  refine jj_lconst (v := 0) C dX2_settleSeries_113 (by decide) ?_
                  refine rl_put C hok_576 jk_5 5 (by decide) jw_5d4c99f47d (t := (1, (-9223372036854775808), 9223372036854775807)) ka_539 (by decide) rfl rfl rfl (tt_ja (0 : Int64)) rfl rfl dX2_settleSeries_114 (fun pl_578 hok_579 tr hn tl => ?_)
                  replace hf_525 := tr _ _ _ (Or.inl (tt_ne hk0 ka_539 (by decide))) hf_525
                  replace hf_526 := tr _ _ _ (Or.inl (tt_ne hk0 ka_539 (by decide))) hf_526
                  replace hf_528 := tr _ _ _ (Or.inl (tt_ne hk0 ka_539 (by decide))) hf_528
                  replace hf_536 := tr _ _ _ (Or.inl (tt_ne hk0 ka_539 (by decide))) hf_536
                  replace hf_541 := tr _ _ _ (Or.inr (by decide)) hf_541
                  replace hf_544 := tr _ _ _ (Or.inl (tt_ne hk1 ka_539 (by decide))) hf_544
                  replace hf_549 := tr _ _ _ (Or.inl (tt_ne hk0 ka_539 (by decide))) hf_549
                  replace hf_577 := tr _ _ _ (Or.inr (by decide)) hf_577
                  have hf_580 := hn
                  replace hfr := hfr.put ka_539 tr (by decide)
                  replace hfa := hfa.all tl
                  obtain ⟨x_581, ex_581, vx_581⟩ := tt_inc (x := x_524) (n := 1) (by omega) (by omega)
                  refine jj_iinc (v := x_581) C dX2_settleSeries_117 rfl ex_581 (by decide) rfl ?_
                  refine jj_goto (tgt := 46) C dX2_settleSeries_120 (by decide) ?_
                  refine jj_loc [0, 2, 3, 4, 5, 6] rfl ?_
                  exact ihL_523 pl_578 x_581 hok_579 hfr hfa hf_525 hf_526 (by first | omega | decide | exact tt_lo _ | exact tt_hi _) (by first | omega | decide | exact tt_lo _ | exact tt_hi _) (by first | omega | decide | exact tt_lo _ | exact tt_hi _)
        exact hL_523 _ pl_455 (0 : Int32) trivial hok_456 hfr hfa hf_297 hf_449 (by first | omega | decide | exact tt_lo _ | exact tt_hi _) (by first | omega | decide | exact tt_lo _ | exact tt_hi _) (Int.self_le_toNat _)

