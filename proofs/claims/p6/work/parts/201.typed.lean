set_option maxHeartbeats 4000000 in
set_option maxRecDepth 100000 in
theorem tc_X1_tryRedemption_1 {l : Launch} (hl : l.stackTraces = false) (D : va_G) (cA : Nat → ClassId) (ak : (Nat → Nat) × (Nat → Nat)) {Kd : Nat → Nat} (h0 : Nat) (h1 : Nat) (p2 : Int32) (p3 : Int64) (hk0 : Kd h0 = 9) (hk1 : Kd h1 = 1) {pl0 : va_W} (hok : tt_ok tt_tk cA Kd pl0) : jj_M l D cA ak yX1_tryRedemption (.code yX1_tryRedemption cX1_tryRedemption 15 (some .long)) 2 54 0 0 ([] ++ pl0) [.ref h0, .ref h1, .int p2, .long p3, .int 0] (tt_O (fun rx pl1 r => rx = [] ∧ tt_ok tt_tk cA Kd pl1 ∧ tt_fr Kd [(2, 2), (2, 3), (9, 1), (9, 2), (9, 3), (9, 4), (9, 5)] pl0 pl1 ∧ tt_fa Kd [] pl0 pl1 ∧ ((∃ v : Int64, r = some (.long v))))) (tt_OX (fun _ _ _ => False)) := by
  refine jj_start hl (by decide) jw_a452736dc6 (jj_le rfl) ?_
  intro p e s m args below meth c A hargs hA C hex hmn
  have hfr := tt_fr.refl (K := Kd) (WS := [(2, 2), (2, 3), (9, 1), (9, 2), (9, 3), (9, 4), (9, 5)]) pl0
  have hfa := tt_fa.refl (K := Kd) (WA := []) pl0
  have lp2 := tt_lo p2
  have up2 := tt_hi p2
  refine jj_lconst (v := 0) C dX1_tryRedemption_0 (by decide) ?_
  refine jj_lstore C dX1_tryRedemption_1 (by decide) rfl ?_
  refine jj_lload_n C dX1_tryRedemption_3 rfl ?_
  refine jj_lstore C dX1_tryRedemption_4 (by decide) rfl ?_
  refine jj_iconst (v := 0) C dX1_tryRedemption_6 (by decide) ?_
  refine jj_istore C dX1_tryRedemption_7 (by decide) rfl ?_
  have hL_1 : ∀ (N : Nat) (pl : va_W) (x_2 : Int32) (y_3 : Int64) (y_4 : Int64), True → tt_ok tt_tk cA Kd pl → tt_fr Kd [(2, 2), (2, 3), (9, 1), (9, 2), (9, 3), (9, 4), (9, 5)] pl0 pl → tt_fa Kd [] pl0 pl → (0 : Int) ≤ x_2.toInt → x_2.toInt ≤ 40 → (2147483648 - x_2.toInt ≤ (N : Int)) → jj_J p l e (jj_rm 2 54 0 0) s m args below meth c 15 A (vx_MQ below (jj_q D A (tt_O (fun rx pl1 r => rx = [] ∧ tt_ok tt_tk cA Kd pl1 ∧ tt_fr Kd [(2, 2), (2, 3), (9, 1), (9, 2), (9, 3), (9, 4), (9, 5)] pl0 pl1 ∧ tt_fa Kd [] pl0 pl1 ∧ ((∃ v : Int64, r = some (.long v)))))) (jj_x D A (tt_OX (fun _ _ _ => False))) args s 0 0 A) (jj_X D A ([] ++ pl)) 0 0 9 [(10, .int x_2), (8, .long y_3), (6, .long y_4), (0, .ref h0), (1, .ref h1), (2, .int p2), (3, .long p3), (5, .int 0)] [] := by
    intro NL_1
    induction NL_1 with
    | zero => intro pl x_2 y_3 y_4 _ hok hfr hfa lx_2 ux_2 hNL_1; exfalso; omega
    | succ NL_1 ihL_1 =>
      intro pl x_2 y_3 y_4 _ hok hfr hfa lx_2 ux_2 hNL_1
      replace ihL_1 := fun pl x_2 y_3 y_4 h1 => ihL_1 pl x_2 y_3 y_4 trivial h1
      refine jj_iload C dX1_tryRedemption_9 rfl ?_
      refine jj_aload_n C dX1_tryRedemption_11 rfl ?_
      refine tt_get C hok jk_2 8 (by decide) jw_eaf43346a8 (t := (0, 0, 40)) hk1 (by decide) rfl rfl dX1_tryRedemption_12 (fun v_5 hv_5 hf_6 => ?_)
      obtain ⟨x_7, rfl, lx_7, ux_7⟩ := tt_vi hv_5
      refine jj_icmp_ge (tgt := 173) C dX1_tryRedemption_15 (by decide) (fun c_8 => ?_) (fun c_8 => ?_)
      · have z_c_8 := jc_le (a := (x_7).toInt) (b := (x_2).toInt) c_8 rfl rfl
        refine jj_lload C dX1_tryRedemption_173 rfl ?_
        exact jj_lret C ⟨[], pl, rfl, rfl, hok, hfr, hfa, ⟨y_4, rfl⟩⟩ dX1_tryRedemption_175 (jj_le rfl) (jj_le rfl)
      · have z_c_8 := jc_nle (a := (x_7).toInt) (b := (x_2).toInt) c_8 rfl rfl
        refine jj_lload C dX1_tryRedemption_18 rfl ?_
        refine jj_lconst (v := 0) C dX1_tryRedemption_20 (by decide) ?_
        refine jj_lcmp_le (tgt := 173) C dX1_tryRedemption_21 dX1_tryRedemption_22 (by decide) (fun c_9 => ?_) (fun c_9 => ?_)
        · refine jj_lload C dX1_tryRedemption_173 rfl ?_
          exact jj_lret C ⟨[], pl, rfl, rfl, hok, hfr, hfa, ⟨y_4, rfl⟩⟩ dX1_tryRedemption_175 (jj_le rfl) (jj_le rfl)
        · refine jj_aload_n C dX1_tryRedemption_25 rfl ?_
          refine tt_get C hok jk_2 12 (by decide) jw_41d1bd2a61 (t := (2, 7, 0)) hk1 (by decide) rfl rfl dX1_tryRedemption_26 (fun v_10 hv_10 hf_11 => ?_)
          obtain ⟨a_12, rfl, ka_12⟩ := tt_vr hv_10
          refine jj_iload C dX1_tryRedemption_29 rfl ?_
          refine tt_aald C hok (t := (2, 3, 0)) ka_12 (by decide) rfl rfl rfl (vp_in_iff.mpr ⟨by omega, by omega⟩) dX1_tryRedemption_31 (fun v_13 hv_13 => ?_)
          obtain ⟨a_14, rfl, ka_14⟩ := tt_vr hv_13
          refine jj_astore C dX1_tryRedemption_32 (by decide) rfl ?_
          refine jj_aload_n C dX1_tryRedemption_34 rfl ?_
          refine jj_aload C dX1_tryRedemption_35 rfl ?_
          refine tt_get C hok jk_5 1 (by decide) jw_85587ec127 (t := (0, (-2147483648), 2147483647)) ka_14 (by decide) rfl rfl dX1_tryRedemption_37 (fun v_15 hv_15 hf_16 => ?_)
          obtain ⟨x_17, rfl, lx_17, ux_17⟩ := tt_vi hv_15
          obtain ⟨qc, gs, hqc⟩ := tt_recv (cx := []) hok hk1 (by decide) rfl
          refine tt_callV (rest := []) C (tc_X0_placeOfSeries_1 hl D cA ak h1 x_17 hk1 hok) [] [] rfl rfl (by decide) (by decide) (by decide) qc hqc rfl rfl jw_bb838ff949 jw_0061c834c4 jw_a3c4f03cad jw_7d25d4fd32 jw_3fe68be2d3 jn_X0_placeOfSeries rfl (jj_le rfl) (jj_le rfl) (jj_le rfl) (jj_le rfl) (jj_le rfl) dX1_tryRedemption_40 rfl (fun _ _ _ hX => hX.elim) (fun rx pl_18 r O_21 => ?_)
          obtain ⟨rfl, hok_19, hr_20, hfa9, hR_23⟩ := O_21
          replace hf_6 := hr_20.at hk1 (by decide) (by decide) hf_6
          replace hf_11 := hr_20.at hk1 (by decide) (by decide) hf_11
          replace hf_16 := hr_20.at ka_14 (by decide) (by decide) hf_16
          replace hfr := hfr.trans (hr_20.sub (by decide))
          replace hfa := hfa.trans (hfa9.sub (by decide))
          rcases hR_23 with rfl | ⟨x_26, lx_26, ux_26, rfl⟩
          · refine jj_istore C dX1_tryRedemption_43 (by decide) rfl ?_
            refine jj_aload C dX1_tryRedemption_45 rfl ?_
            refine tt_get C hok_19 jk_5 0 (by decide) jw_a8c98ef318 (t := (0, (-2147483648), 2147483647)) ka_14 (by decide) rfl rfl dX1_tryRedemption_47 (fun v_27 hv_27 hf_28 => ?_)
            obtain ⟨x_29, rfl, lx_29, ux_29⟩ := tt_vi hv_27
            refine jj_iload_n C dX1_tryRedemption_50 rfl ?_
            refine jj_icmp_ne (tgt := 167) C dX1_tryRedemption_51 (by decide) (fun c_30 => ?_) (fun c_30 => ?_)
            · have z_c_30 := jc_neq (a := (x_29).toInt) (b := (p2).toInt) c_30 rfl rfl
              obtain ⟨x_31, ex_31, vx_31⟩ := tt_inc (x := x_2) (n := 1) (by omega) (by omega)
              refine jj_iinc (v := x_31) C dX1_tryRedemption_167 rfl ex_31 (by decide) rfl ?_
              refine jj_goto (tgt := 9) C dX1_tryRedemption_170 (by decide) ?_
              refine jj_loc [0, 3, 4, 5, 6, 7, 8, 9] rfl ?_
              exact ihL_1 pl_18 x_31 y_3 y_4 hok_19 hfr hfa (by first | omega | decide | exact tt_lo _ | exact tt_hi _) (by first | omega | decide | exact tt_lo _ | exact tt_hi _) (by first | omega | decide | exact tt_lo _ | exact tt_hi _)
            · have z_c_30 := jc_eq (a := (x_29).toInt) (b := (p2).toInt) c_30 rfl rfl
              refine jj_iload C dX1_tryRedemption_54 rfl ?_
              refine jj_iconst (v := (-1)) C dX1_tryRedemption_56 (by decide) ?_
              refine jj_icmp_eqT (tgt := 167) C dX1_tryRedemption_57 (by decide) (by decide) ?_
              obtain ⟨x_32, ex_32, vx_32⟩ := tt_inc (x := x_2) (n := 1) (by omega) (by omega)
              refine jj_iinc (v := x_32) C dX1_tryRedemption_167 rfl ex_32 (by decide) rfl ?_
              refine jj_goto (tgt := 9) C dX1_tryRedemption_170 (by decide) ?_
              refine jj_loc [0, 3, 4, 5, 6, 7, 8, 9] rfl ?_
              exact ihL_1 pl_18 x_32 y_3 y_4 hok_19 hfr hfa (by first | omega | decide | exact tt_lo _ | exact tt_hi _) (by first | omega | decide | exact tt_lo _ | exact tt_hi _) (by first | omega | decide | exact tt_lo _ | exact tt_hi _)
          · refine jj_istore C dX1_tryRedemption_43 (by decide) rfl ?_
            refine jj_aload C dX1_tryRedemption_45 rfl ?_
            refine tt_get C hok_19 jk_5 0 (by decide) jw_a8c98ef318 (t := (0, (-2147483648), 2147483647)) ka_14 (by decide) rfl rfl dX1_tryRedemption_47 (fun v_33 hv_33 hf_34 => ?_)
            obtain ⟨x_35, rfl, lx_35, ux_35⟩ := tt_vi hv_33
            refine jj_iload_n C dX1_tryRedemption_50 rfl ?_
            refine jj_icmp_ne (tgt := 167) C dX1_tryRedemption_51 (by decide) (fun c_36 => ?_) (fun c_36 => ?_)
            · have z_c_36 := jc_neq (a := (x_35).toInt) (b := (p2).toInt) c_36 rfl rfl
              obtain ⟨x_37, ex_37, vx_37⟩ := tt_inc (x := x_2) (n := 1) (by omega) (by omega)
              refine jj_iinc (v := x_37) C dX1_tryRedemption_167 rfl ex_37 (by decide) rfl ?_
              refine jj_goto (tgt := 9) C dX1_tryRedemption_170 (by decide) ?_
              refine jj_loc [0, 3, 4, 5, 6, 7, 8, 9] rfl ?_
              exact ihL_1 pl_18 x_37 y_3 y_4 hok_19 hfr hfa (by first | omega | decide | exact tt_lo _ | exact tt_hi _) (by first | omega | decide | exact tt_lo _ | exact tt_hi _) (by first | omega | decide | exact tt_lo _ | exact tt_hi _)
            · have z_c_36 := jc_eq (a := (x_35).toInt) (b := (p2).toInt) c_36 rfl rfl
              refine jj_iload C dX1_tryRedemption_54 rfl ?_
              refine jj_iconst (v := (-1)) C dX1_tryRedemption_56 (by decide) ?_
              refine jj_icmp_eq (tgt := 167) C dX1_tryRedemption_57 (by decide) (fun c_38 => ?_) (fun c_38 => ?_)
              · have z_c_38 := jc_eq (a := (x_26).toInt) (b := (-1)) c_38 rfl (by decide)
                exfalso; omega
              · have z_c_38 := jc_neq (a := (x_26).toInt) (b := (-1)) c_38 rfl (by decide)
                refine jj_lload C dX1_tryRedemption_60 rfl ?_
                refine jj_aload C dX1_tryRedemption_62 rfl ?_
                refine tt_get C hok_19 jk_5 3 (by decide) jw_fcb072e0d9 (t := (1, (-9223372036854775808), 9223372036854775807)) ka_14 (by decide) rfl rfl dX1_tryRedemption_64 (fun v_39 hv_39 hf_40 => ?_)
                obtain ⟨y_41, rfl, -, -⟩ := tt_vj hv_39
                refine tt_call0S (rest := []) C (ct_J9_min_f86c9_1 hl D cA ak y_3 y_41) jw_fa02caeb63 jw_a0cddbe894 jw_a731c8553d jw_e0e7ffaaeb jn_J9_min_f86c9 rfl (jj_le rfl) (jj_le rfl) (jj_le rfl) (jj_le rfl) (jj_le rfl) dX1_tryRedemption_67 rfl (fun w1 r O_42 => ?_)
                rcases O_42 with ⟨c_43, -, rfl⟩ | ⟨c_44, -, rfl⟩
                · refine jj_lstore C dX1_tryRedemption_70 (by decide) rfl ?_
                  refine jj_aload_n C dX1_tryRedemption_72 rfl ?_
                  refine jj_aload_n C dX1_tryRedemption_73 rfl ?_
                  refine jj_aload_n C dX1_tryRedemption_74 rfl ?_
                  refine tt_get C hok_19 jk_3 0 (by decide) jw_808194b586 (t := (2, 6, 0)) hk0 (by decide) rfl rfl dX1_tryRedemption_75 (fun v_45 hv_45 hf_46 => ?_)
                  obtain ⟨a_47, rfl, ka_47⟩ := tt_vr hv_45
                  refine jj_iload C dX1_tryRedemption_78 rfl ?_
                  refine tt_aald C hok_19 (t := (2, 2, 0)) ka_47 (by decide) rfl rfl rfl (vp_in_iff.mpr ⟨by omega, by omega⟩) dX1_tryRedemption_80 (fun v_48 hv_48 => ?_)
                  obtain ⟨a_49, rfl, ka_49⟩ := tt_vr hv_48
                  refine jj_aload C dX1_tryRedemption_81 rfl ?_
                  refine jj_lload C dX1_tryRedemption_83 rfl ?_
                  obtain ⟨qc, gs, hqc⟩ := tt_recv (cx := []) hok_19 hk0 (by decide) rfl
                  refine tt_callV (rest := []) C (tc_X1_quote_1 hl D cA ak h0 h1 a_49 a_14 y_41 hk0 hk1 ka_49 ka_14 hok_19) [] [] rfl rfl (by decide) (by decide) (by decide) qc hqc rfl rfl jw_1832e55719 jw_b1f9248fb6 jw_6c091437de jw_944cf9c3ab jw_9a9d59d9b6 jn_X1_quote rfl (jj_le rfl) (jj_le rfl) (jj_le rfl) (jj_le rfl) (jj_le rfl) dX1_tryRedemption_85 rfl (fun _ _ _ hX => hX.elim) (fun rx pl_50 r O_53 => ?_)
                  obtain ⟨rfl, hok_51, hr_52, hfa9, hR_55⟩ := O_53
                  replace hf_6 := hr_52.at hk1 (by decide) (by decide) hf_6
                  replace hf_11 := hr_52.at hk1 (by decide) (by decide) hf_11
                  replace hf_16 := hr_52.at ka_14 (by decide) (by decide) hf_16
                  replace hf_34 := hr_52.at ka_14 (by decide) (by decide) hf_34
                  replace hf_40 := hr_52.at ka_14 (by decide) (by decide) hf_40
                  replace hf_46 := hr_52.at hk0 (by decide) (by decide) hf_46
                  replace hfr := hfr.trans (hr_52.sub (by decide))
                  replace hfa := hfa.trans (hfa9.sub (by decide))
                  obtain rfl := hR_55
                  refine jj_aload_n C dX1_tryRedemption_88 rfl ?_
                  refine tt_getF C hok_51 jk_3 0 (by decide) jw_808194b586 (t := (2, 6, 0)) hk0 (by decide) rfl rfl hf_46 dX1_tryRedemption_89 ?_
                  refine jj_iload C dX1_tryRedemption_92 rfl ?_
                  refine tt_aald C hok_51 (t := (2, 2, 0)) ka_47 (by decide) rfl rfl rfl (vp_in_iff.mpr ⟨by omega, by omega⟩) dX1_tryRedemption_94 (fun v_58 hv_58 => ?_)
                  obtain ⟨a_59, rfl, ka_59⟩ := tt_vr hv_58
                  refine jj_dup C dX1_tryRedemption_95 rfl ?_
                  refine tt_get C hok_51 jk_9 2 (by decide) jw_a25c79ea7a (t := (1, (-9223372036854775808), 9223372036854775807)) ka_59 (by decide) rfl rfl dX1_tryRedemption_96 (fun v_60 hv_60 hf_61 => ?_)
                  obtain ⟨y_62, rfl, -, -⟩ := tt_vj hv_60
                  refine jj_aload_n C dX1_tryRedemption_99 rfl ?_
                  refine tt_get C hok_51 jk_3 1 (by decide) jw_d747bb1560 (t := (1, (-9223372036854775808), 9223372036854775807)) hk0 (by decide) rfl rfl dX1_tryRedemption_100 (fun v_63 hv_63 hf_64 => ?_)
                  obtain ⟨y_65, rfl, -, -⟩ := tt_vj hv_63
                  refine jj_aload_n C dX1_tryRedemption_103 rfl ?_
                  refine tt_get C hok_51 jk_3 2 (by decide) jw_771ad03ca8 (t := (1, (-9223372036854775808), 9223372036854775807)) hk0 (by decide) rfl rfl dX1_tryRedemption_104 (fun v_66 hv_66 hf_67 => ?_)
                  obtain ⟨y_68, rfl, -, -⟩ := tt_vj hv_66
                  obtain ⟨y_69, ey_69⟩ : ∃ z : Int64, y_65 + y_68 = z := ⟨_, rfl⟩
                  refine jj_ladd (v := y_69) C dX1_tryRedemption_107 ey_69 ?_
                  obtain ⟨y_70, ey_70⟩ : ∃ z : Int64, y_62 - y_69 = z := ⟨_, rfl⟩
                  refine jj_lsub (v := y_70) C dX1_tryRedemption_108 ey_70 ?_
                  refine rl_put C hok_51 jk_9 2 (by decide) jw_a25c79ea7a (t := (1, (-9223372036854775808), 9223372036854775807)) ka_59 (by decide) rfl rfl rfl (tt_ja y_70) rfl rfl dX1_tryRedemption_109 (fun pl_71 hok_72 tr hn tl => ?_)
                  replace hf_6 := tr _ _ _ (Or.inl (tt_ne hk1 ka_59 (by decide))) hf_6
                  replace hf_11 := tr _ _ _ (Or.inl (tt_ne hk1 ka_59 (by decide))) hf_11
                  replace hf_16 := tr _ _ _ (Or.inl (tt_ne ka_14 ka_59 (by decide))) hf_16
                  replace hf_34 := tr _ _ _ (Or.inl (tt_ne ka_14 ka_59 (by decide))) hf_34
                  replace hf_40 := tr _ _ _ (Or.inl (tt_ne ka_14 ka_59 (by decide))) hf_40
                  replace hf_46 := tr _ _ _ (Or.inl (tt_ne hk0 ka_59 (by decide))) hf_46
                  replace hf_64 := tr _ _ _ (Or.inl (tt_ne hk0 ka_59 (by decide))) hf_64
                  replace hf_67 := tr _ _ _ (Or.inl (tt_ne hk0 ka_59 (by decide))) hf_67
                  have hf_73 := hn
                  replace hfr := hfr.put ka_59 tr (by decide)
                  replace hfa := hfa.all tl
                  refine jj_aload_n C dX1_tryRedemption_112 rfl ?_
                  refine tt_getF C hok_72 jk_3 0 (by decide) jw_808194b586 (t := (2, 6, 0)) hk0 (by decide) rfl rfl hf_46 dX1_tryRedemption_113 ?_
                  refine jj_iload C dX1_tryRedemption_116 rfl ?_
                  refine tt_aald C hok_72 (t := (2, 2, 0)) ka_47 (by decide) rfl rfl rfl (vp_in_iff.mpr ⟨by omega, by omega⟩) dX1_tryRedemption_118 (fun v_74 hv_74 => ?_)
                  obtain ⟨a_75, rfl, ka_75⟩ := tt_vr hv_74
                  refine jj_dup C dX1_tryRedemption_119 rfl ?_
                  refine tt_get C hok_72 jk_9 3 (by decide) jw_df3b225d28 (t := (1, (-9223372036854775808), 9223372036854775807)) ka_75 (by decide) rfl rfl dX1_tryRedemption_120 (fun v_76 hv_76 hf_77 => ?_)
                  obtain ⟨y_78, rfl, -, -⟩ := tt_vj hv_76
                  refine jj_lload C dX1_tryRedemption_123 rfl ?_
                  obtain ⟨y_79, ey_79⟩ : ∃ z : Int64, y_78 - y_41 = z := ⟨_, rfl⟩
                  refine jj_lsub (v := y_79) C dX1_tryRedemption_125 ey_79 ?_
                  refine rl_put C hok_72 jk_9 3 (by decide) jw_df3b225d28 (t := (1, (-9223372036854775808), 9223372036854775807)) ka_75 (by decide) rfl rfl rfl (tt_ja y_79) rfl rfl dX1_tryRedemption_126 (fun pl_80 hok_81 tr hn tl => ?_)
                  replace hf_6 := tr _ _ _ (Or.inl (tt_ne hk1 ka_75 (by decide))) hf_6
                  replace hf_11 := tr _ _ _ (Or.inl (tt_ne hk1 ka_75 (by decide))) hf_11
                  replace hf_16 := tr _ _ _ (Or.inl (tt_ne ka_14 ka_75 (by decide))) hf_16
                  replace hf_34 := tr _ _ _ (Or.inl (tt_ne ka_14 ka_75 (by decide))) hf_34
                  replace hf_40 := tr _ _ _ (Or.inl (tt_ne ka_14 ka_75 (by decide))) hf_40
                  replace hf_46 := tr _ _ _ (Or.inl (tt_ne hk0 ka_75 (by decide))) hf_46
                  replace hf_64 := tr _ _ _ (Or.inl (tt_ne hk0 ka_75 (by decide))) hf_64
                  replace hf_67 := tr _ _ _ (Or.inl (tt_ne hk0 ka_75 (by decide))) hf_67
                  replace hf_73 := tr _ _ _ (Or.inr (by decide)) hf_73
                  have hf_82 := hn
                  replace hfr := hfr.put ka_75 tr (by decide)
                  replace hfa := hfa.all tl
                  refine jj_lload C dX1_tryRedemption_129 rfl ?_
                  refine jj_lload C dX1_tryRedemption_131 rfl ?_
                  obtain ⟨y_83, ey_83⟩ : ∃ z : Int64, y_3 - y_41 = z := ⟨_, rfl⟩
                  refine jj_lsub (v := y_83) C dX1_tryRedemption_133 ey_83 ?_
                  refine jj_lstore C dX1_tryRedemption_134 (by decide) rfl ?_
                  refine jj_lload C dX1_tryRedemption_136 rfl ?_
                  refine jj_iload C dX1_tryRedemption_138 rfl ?_
                  refine jj_if_eqT (tgt := 160) C dX1_tryRedemption_140 (by decide) (by decide) ?_
                  refine jj_aload_n C dX1_tryRedemption_160 rfl ?_
                  refine tt_getF C hok_81 jk_3 1 (by decide) jw_d747bb1560 (t := (1, (-9223372036854775808), 9223372036854775807)) hk0 (by decide) rfl rfl hf_64 dX1_tryRedemption_161 ?_
                  obtain ⟨y_84, ey_84⟩ : ∃ z : Int64, y_4 + y_65 = z := ⟨_, rfl⟩
                  refine jj_ladd (v := y_84) C dX1_tryRedemption_164 ey_84 ?_
                  refine jj_lstore C dX1_tryRedemption_165 (by decide) rfl ?_
                  obtain ⟨x_85, ex_85, vx_85⟩ := tt_inc (x := x_2) (n := 1) (by omega) (by omega)
                  refine jj_iinc (v := x_85) C dX1_tryRedemption_167 rfl ex_85 (by decide) rfl ?_
                  refine jj_goto (tgt := 9) C dX1_tryRedemption_170 (by decide) ?_
                  refine jj_loc [0, 2, 1, 6, 7, 8, 9, 10] rfl ?_
                  exact ihL_1 pl_80 x_85 y_83 y_84 hok_81 hfr hfa (by first | omega | decide | exact tt_lo _ | exact tt_hi _) (by first | omega | decide | exact tt_lo _ | exact tt_hi _) (by first | omega | decide | exact tt_lo _ | exact tt_hi _)
                · refine jj_lstore C dX1_tryRedemption_70 (by decide) rfl ?_
                  refine jj_aload_n C dX1_tryRedemption_72 rfl ?_
                  refine jj_aload_n C dX1_tryRedemption_73 rfl ?_
                  refine jj_aload_n C dX1_tryRedemption_74 rfl ?_
                  refine tt_get C hok_19 jk_3 0 (by decide) jw_808194b586 (t := (2, 6, 0)) hk0 (by decide) rfl rfl dX1_tryRedemption_75 (fun v_86 hv_86 hf_87 => ?_)
                  obtain ⟨a_88, rfl, ka_88⟩ := tt_vr hv_86
                  refine jj_iload C dX1_tryRedemption_78 rfl ?_
                  refine tt_aald C hok_19 (t := (2, 2, 0)) ka_88 (by decide) rfl rfl rfl (vp_in_iff.mpr ⟨by omega, by omega⟩) dX1_tryRedemption_80 (fun v_89 hv_89 => ?_)
                  obtain ⟨a_90, rfl, ka_90⟩ := tt_vr hv_89
                  refine jj_aload C dX1_tryRedemption_81 rfl ?_
                  refine jj_lload C dX1_tryRedemption_83 rfl ?_
                  obtain ⟨qc, gs, hqc⟩ := tt_recv (cx := []) hok_19 hk0 (by decide) rfl
                  refine tt_callV (rest := []) C (tc_X1_quote_1 hl D cA ak h0 h1 a_90 a_14 y_3 hk0 hk1 ka_90 ka_14 hok_19) [] [] rfl rfl (by decide) (by decide) (by decide) qc hqc rfl rfl jw_1832e55719 jw_b1f9248fb6 jw_6c091437de jw_944cf9c3ab jw_9a9d59d9b6 jn_X1_quote rfl (jj_le rfl) (jj_le rfl) (jj_le rfl) (jj_le rfl) (jj_le rfl) dX1_tryRedemption_85 rfl (fun _ _ _ hX => hX.elim) (fun rx pl_91 r O_94 => ?_)
                  obtain ⟨rfl, hok_92, hr_93, hfa9, hR_96⟩ := O_94
                  replace hf_6 := hr_93.at hk1 (by decide) (by decide) hf_6
                  replace hf_11 := hr_93.at hk1 (by decide) (by decide) hf_11
                  replace hf_16 := hr_93.at ka_14 (by decide) (by decide) hf_16
                  replace hf_34 := hr_93.at ka_14 (by decide) (by decide) hf_34
                  replace hf_40 := hr_93.at ka_14 (by decide) (by decide) hf_40
                  replace hf_87 := hr_93.at hk0 (by decide) (by decide) hf_87
                  replace hfr := hfr.trans (hr_93.sub (by decide))
                  replace hfa := hfa.trans (hfa9.sub (by decide))
                  obtain rfl := hR_96
                  refine jj_aload_n C dX1_tryRedemption_88 rfl ?_
                  refine tt_getF C hok_92 jk_3 0 (by decide) jw_808194b586 (t := (2, 6, 0)) hk0 (by decide) rfl rfl hf_87 dX1_tryRedemption_89 ?_
                  refine jj_iload C dX1_tryRedemption_92 rfl ?_
                  refine tt_aald C hok_92 (t := (2, 2, 0)) ka_88 (by decide) rfl rfl rfl (vp_in_iff.mpr ⟨by omega, by omega⟩) dX1_tryRedemption_94 (fun v_99 hv_99 => ?_)
                  obtain ⟨a_100, rfl, ka_100⟩ := tt_vr hv_99
                  refine jj_dup C dX1_tryRedemption_95 rfl ?_
                  refine tt_get C hok_92 jk_9 2 (by decide) jw_a25c79ea7a (t := (1, (-9223372036854775808), 9223372036854775807)) ka_100 (by decide) rfl rfl dX1_tryRedemption_96 (fun v_101 hv_101 hf_102 => ?_)
                  obtain ⟨y_103, rfl, -, -⟩ := tt_vj hv_101
                  refine jj_aload_n C dX1_tryRedemption_99 rfl ?_
                  refine tt_get C hok_92 jk_3 1 (by decide) jw_d747bb1560 (t := (1, (-9223372036854775808), 9223372036854775807)) hk0 (by decide) rfl rfl dX1_tryRedemption_100 (fun v_104 hv_104 hf_105 => ?_)
                  obtain ⟨y_106, rfl, -, -⟩ := tt_vj hv_104
                  refine jj_aload_n C dX1_tryRedemption_103 rfl ?_
                  refine tt_get C hok_92 jk_3 2 (by decide) jw_771ad03ca8 (t := (1, (-9223372036854775808), 9223372036854775807)) hk0 (by decide) rfl rfl dX1_tryRedemption_104 (fun v_107 hv_107 hf_108 => ?_)
                  obtain ⟨y_109, rfl, -, -⟩ := tt_vj hv_107
                  obtain ⟨y_110, ey_110⟩ : ∃ z : Int64, y_106 + y_109 = z := ⟨_, rfl⟩
                  refine jj_ladd (v := y_110) C dX1_tryRedemption_107 ey_110 ?_
                  obtain ⟨y_111, ey_111⟩ : ∃ z : Int64, y_103 - y_110 = z := ⟨_, rfl⟩
                  refine jj_lsub (v := y_111) C dX1_tryRedemption_108 ey_111 ?_
                  refine rl_put C hok_92 jk_9 2 (by decide) jw_a25c79ea7a (t := (1, (-9223372036854775808), 9223372036854775807)) ka_100 (by decide) rfl rfl rfl (tt_ja y_111) rfl rfl dX1_tryRedemption_109 (fun pl_112 hok_113 tr hn tl => ?_)
                  replace hf_6 := tr _ _ _ (Or.inl (tt_ne hk1 ka_100 (by decide))) hf_6
                  replace hf_11 := tr _ _ _ (Or.inl (tt_ne hk1 ka_100 (by decide))) hf_11
                  replace hf_16 := tr _ _ _ (Or.inl (tt_ne ka_14 ka_100 (by decide))) hf_16
                  replace hf_34 := tr _ _ _ (Or.inl (tt_ne ka_14 ka_100 (by decide))) hf_34
                  replace hf_40 := tr _ _ _ (Or.inl (tt_ne ka_14 ka_100 (by decide))) hf_40
                  replace hf_87 := tr _ _ _ (Or.inl (tt_ne hk0 ka_100 (by decide))) hf_87
                  replace hf_105 := tr _ _ _ (Or.inl (tt_ne hk0 ka_100 (by decide))) hf_105
                  replace hf_108 := tr _ _ _ (Or.inl (tt_ne hk0 ka_100 (by decide))) hf_108
                  have hf_114 := hn
                  replace hfr := hfr.put ka_100 tr (by decide)
                  replace hfa := hfa.all tl
                  refine jj_aload_n C dX1_tryRedemption_112 rfl ?_
                  refine tt_getF C hok_113 jk_3 0 (by decide) jw_808194b586 (t := (2, 6, 0)) hk0 (by decide) rfl rfl hf_87 dX1_tryRedemption_113 ?_
                  refine jj_iload C dX1_tryRedemption_116 rfl ?_
                  refine tt_aald C hok_113 (t := (2, 2, 0)) ka_88 (by decide) rfl rfl rfl (vp_in_iff.mpr ⟨by omega, by omega⟩) dX1_tryRedemption_118 (fun v_115 hv_115 => ?_)
                  obtain ⟨a_116, rfl, ka_116⟩ := tt_vr hv_115
                  refine jj_dup C dX1_tryRedemption_119 rfl ?_
                  refine tt_get C hok_113 jk_9 3 (by decide) jw_df3b225d28 (t := (1, (-9223372036854775808), 9223372036854775807)) ka_116 (by decide) rfl rfl dX1_tryRedemption_120 (fun v_117 hv_117 hf_118 => ?_)
                  obtain ⟨y_119, rfl, -, -⟩ := tt_vj hv_117
                  refine jj_lload C dX1_tryRedemption_123 rfl ?_
                  obtain ⟨y_120, ey_120⟩ : ∃ z : Int64, y_119 - y_3 = z := ⟨_, rfl⟩
                  refine jj_lsub (v := y_120) C dX1_tryRedemption_125 ey_120 ?_
                  refine rl_put C hok_113 jk_9 3 (by decide) jw_df3b225d28 (t := (1, (-9223372036854775808), 9223372036854775807)) ka_116 (by decide) rfl rfl rfl (tt_ja y_120) rfl rfl dX1_tryRedemption_126 (fun pl_121 hok_122 tr hn tl => ?_)
                  replace hf_6 := tr _ _ _ (Or.inl (tt_ne hk1 ka_116 (by decide))) hf_6
                  replace hf_11 := tr _ _ _ (Or.inl (tt_ne hk1 ka_116 (by decide))) hf_11
                  replace hf_16 := tr _ _ _ (Or.inl (tt_ne ka_14 ka_116 (by decide))) hf_16
                  replace hf_34 := tr _ _ _ (Or.inl (tt_ne ka_14 ka_116 (by decide))) hf_34
                  replace hf_40 := tr _ _ _ (Or.inl (tt_ne ka_14 ka_116 (by decide))) hf_40
                  replace hf_87 := tr _ _ _ (Or.inl (tt_ne hk0 ka_116 (by decide))) hf_87
                  replace hf_105 := tr _ _ _ (Or.inl (tt_ne hk0 ka_116 (by decide))) hf_105
                  replace hf_108 := tr _ _ _ (Or.inl (tt_ne hk0 ka_116 (by decide))) hf_108
                  replace hf_114 := tr _ _ _ (Or.inr (by decide)) hf_114
                  have hf_123 := hn
                  replace hfr := hfr.put ka_116 tr (by decide)
                  replace hfa := hfa.all tl
                  refine jj_lload C dX1_tryRedemption_129 rfl ?_
                  refine jj_lload C dX1_tryRedemption_131 rfl ?_
                  obtain ⟨y_124, ey_124⟩ : ∃ z : Int64, y_3 - y_3 = z := ⟨_, rfl⟩
                  refine jj_lsub (v := y_124) C dX1_tryRedemption_133 ey_124 ?_
                  refine jj_lstore C dX1_tryRedemption_134 (by decide) rfl ?_
                  refine jj_lload C dX1_tryRedemption_136 rfl ?_
                  refine jj_iload C dX1_tryRedemption_138 rfl ?_
                  refine jj_if_eqT (tgt := 160) C dX1_tryRedemption_140 (by decide) (by decide) ?_
                  refine jj_aload_n C dX1_tryRedemption_160 rfl ?_
                  refine tt_getF C hok_122 jk_3 1 (by decide) jw_d747bb1560 (t := (1, (-9223372036854775808), 9223372036854775807)) hk0 (by decide) rfl rfl hf_105 dX1_tryRedemption_161 ?_
                  obtain ⟨y_125, ey_125⟩ : ∃ z : Int64, y_4 + y_106 = z := ⟨_, rfl⟩
                  refine jj_ladd (v := y_125) C dX1_tryRedemption_164 ey_125 ?_
                  refine jj_lstore C dX1_tryRedemption_165 (by decide) rfl ?_
                  obtain ⟨x_126, ex_126, vx_126⟩ := tt_inc (x := x_2) (n := 1) (by omega) (by omega)
                  refine jj_iinc (v := x_126) C dX1_tryRedemption_167 rfl ex_126 (by decide) rfl ?_
                  refine jj_goto (tgt := 9) C dX1_tryRedemption_170 (by decide) ?_
                  refine jj_loc [0, 2, 1, 6, 7, 8, 9, 10] rfl ?_
                  exact ihL_1 pl_121 x_126 y_124 y_125 hok_122 hfr hfa (by first | omega | decide | exact tt_lo _ | exact tt_hi _) (by first | omega | decide | exact tt_lo _ | exact tt_hi _) (by first | omega | decide | exact tt_lo _ | exact tt_hi _)
  exact hL_1 _ pl0 (0 : Int32) p3 (0 : Int64) trivial hok hfr hfa (by first | omega | decide | exact tt_lo _ | exact tt_hi _) (by first | omega | decide | exact tt_lo _ | exact tt_hi _) (Int.self_le_toNat _)

set_option maxHeartbeats 4000000 in
set_option maxRecDepth 100000 in
theorem tc_X1_baseOfRedemptions_1 {l : Launch} (hl : l.stackTraces = false) (D : va_G) (cA : Nat → ClassId) (ak : (Nat → Nat) × (Nat → Nat)) {Kd : Nat → Nat} (h0 : Nat) (h1 : Nat) (hk0 : Kd h0 = 9) (hk1 : Kd h1 = 1) {pl0 : va_W} (hok : tt_ok tt_tk cA Kd pl0) : jj_M l D cA ak yX1_baseOfRedemptions (.code yX1_baseOfRedemptions cX1_baseOfRedemptions 6 (some .long)) 3 88 0 0 ([] ++ pl0) [.ref h0, .ref h1] (tt_O (fun rx pl1 r => rx = [] ∧ tt_ok tt_tk cA Kd pl1 ∧ tt_fr Kd [(2, 0), (2, 1), (2, 2), (2, 3), (2, 4), (9, 1), (9, 2), (9, 3), (9, 4), (9, 5)] pl0 pl1 ∧ tt_fa Kd [] pl0 pl1 ∧ ((∃ v : Int64, r = some (.long v))))) (tt_OX (fun _ _ _ => False)) := by
  refine jj_start hl (by decide) jw_77ee4174d9 (jj_le rfl) ?_
  intro p e s m args below meth c A hargs hA C hex hmn
  have hfr := tt_fr.refl (K := Kd) (WS := [(2, 0), (2, 1), (2, 2), (2, 3), (2, 4), (9, 1), (9, 2), (9, 3), (9, 4), (9, 5)]) pl0
  have hfa := tt_fa.refl (K := Kd) (WA := []) pl0
  refine jj_lconst (v := 0) C dX1_baseOfRedemptions_0 (by decide) ?_
  refine jj_lstore_n C dX1_baseOfRedemptions_1 (by decide) rfl ?_
  refine jj_iconst (v := 0) C dX1_baseOfRedemptions_2 (by decide) ?_
  refine jj_istore C dX1_baseOfRedemptions_3 (by decide) rfl ?_
  have hL_1 : ∀ (N : Nat) (pl : va_W) (x_2 : Int32) (y_3 : Int64), True → tt_ok tt_tk cA Kd pl → tt_fr Kd [(2, 0), (2, 1), (2, 2), (2, 3), (2, 4), (9, 1), (9, 2), (9, 3), (9, 4), (9, 5)] pl0 pl → tt_fa Kd [] pl0 pl → (0 : Int) ≤ x_2.toInt → x_2.toInt ≤ 12 → (2147483648 - x_2.toInt ≤ (N : Int)) → jj_J p l e (jj_rm 3 88 0 0) s m args below meth c 6 A (vx_MQ below (jj_q D A (tt_O (fun rx pl1 r => rx = [] ∧ tt_ok tt_tk cA Kd pl1 ∧ tt_fr Kd [(2, 0), (2, 1), (2, 2), (2, 3), (2, 4), (9, 1), (9, 2), (9, 3), (9, 4), (9, 5)] pl0 pl1 ∧ tt_fa Kd [] pl0 pl1 ∧ ((∃ v : Int64, r = some (.long v)))))) (jj_x D A (tt_OX (fun _ _ _ => False))) args s 0 0 A) (jj_X D A ([] ++ pl)) 0 0 5 [(4, .int x_2), (2, .long y_3), (0, .ref h0), (1, .ref h1)] [] := by
    intro NL_1
    induction NL_1 with
    | zero => intro pl x_2 y_3 _ hok hfr hfa lx_2 ux_2 hNL_1; exfalso; omega
    | succ NL_1 ihL_1 =>
      intro pl x_2 y_3 _ hok hfr hfa lx_2 ux_2 hNL_1
      replace ihL_1 := fun pl x_2 y_3 h1 => ihL_1 pl x_2 y_3 trivial h1
      refine jj_iload C dX1_baseOfRedemptions_5 rfl ?_
      refine jj_aload_n C dX1_baseOfRedemptions_7 rfl ?_
      refine tt_get C hok jk_2 9 (by decide) jw_106092f028 (t := (0, 0, 12)) hk1 (by decide) rfl rfl dX1_baseOfRedemptions_8 (fun v_4 hv_4 hf_5 => ?_)
      obtain ⟨x_6, rfl, lx_6, ux_6⟩ := tt_vi hv_4
      refine jj_icmp_ge (tgt := 62) C dX1_baseOfRedemptions_11 (by decide) (fun c_7 => ?_) (fun c_7 => ?_)
      · have z_c_7 := jc_le (a := (x_6).toInt) (b := (x_2).toInt) c_7 rfl rfl
        refine jj_lload_n C dX1_baseOfRedemptions_62 rfl ?_
        exact jj_lret C ⟨[], pl, rfl, rfl, hok, hfr, hfa, ⟨y_3, rfl⟩⟩ dX1_baseOfRedemptions_63 (jj_le rfl) (jj_le rfl)
      · have z_c_7 := jc_nle (a := (x_6).toInt) (b := (x_2).toInt) c_7 rfl rfl
        refine jj_aload_n C dX1_baseOfRedemptions_14 rfl ?_
        refine tt_get C hok jk_2 13 (by decide) jw_cb3eb05d91 (t := (2, 8, 0)) hk1 (by decide) rfl rfl dX1_baseOfRedemptions_15 (fun v_8 hv_8 hf_9 => ?_)
        obtain ⟨a_10, rfl, ka_10⟩ := tt_vr hv_8
        refine jj_iload C dX1_baseOfRedemptions_18 rfl ?_
        refine tt_aald C hok (t := (2, 4, 0)) ka_10 (by decide) rfl rfl rfl (vp_in_iff.mpr ⟨by omega, by omega⟩) dX1_baseOfRedemptions_20 (fun v_11 hv_11 => ?_)
        obtain ⟨a_12, rfl, ka_12⟩ := tt_vr hv_11
        refine jj_astore C dX1_baseOfRedemptions_21 (by decide) rfl ?_
        refine jj_aload C dX1_baseOfRedemptions_23 rfl ?_
        refine tt_get C hok jk_7 2 (by decide) jw_500886c681 (t := (0, 0, 1)) ka_12 (by decide) rfl rfl dX1_baseOfRedemptions_25 (fun v_13 hv_13 hf_14 => ?_)
        obtain ⟨x_15, rfl, lx_15, ux_15⟩ := tt_vi hv_13
        refine jj_if_eq (tgt := 56) C dX1_baseOfRedemptions_28 (by decide) (fun c_16 => ?_) (fun c_16 => ?_)
        · have z_c_16 := jc_eq (a := (x_15).toInt) (b := (0)) c_16 rfl (by decide)
          obtain ⟨x_17, ex_17, vx_17⟩ := tt_inc (x := x_2) (n := 1) (by omega) (by omega)
          refine jj_iinc (v := x_17) C dX1_baseOfRedemptions_56 rfl ex_17 (by decide) rfl ?_
          refine jj_goto (tgt := 5) C dX1_baseOfRedemptions_59 (by decide) ?_
          refine jj_loc [0, 2, 3, 4] rfl ?_
          exact ihL_1 pl x_17 y_3 hok hfr hfa (by first | omega | decide | exact tt_lo _ | exact tt_hi _) (by first | omega | decide | exact tt_lo _ | exact tt_hi _) (by first | omega | decide | exact tt_lo _ | exact tt_hi _)
        · have z_c_16 := jc_neq (a := (x_15).toInt) (b := (0)) c_16 rfl (by decide)
          refine jj_aload_n C dX1_baseOfRedemptions_31 rfl ?_
          refine jj_aload_n C dX1_baseOfRedemptions_32 rfl ?_
          refine jj_iconst (v := 0) C dX1_baseOfRedemptions_33 (by decide) ?_
          obtain ⟨qc, gs, hqc⟩ := tt_recv (cx := []) hok hk0 (by decide) rfl
          refine tt_callV (rest := []) C (tc_X1_resetTrial_1 hl D cA ak h0 h1 hk0 hk1 hok) [] [] rfl rfl (by decide) (by decide) (by decide) qc hqc rfl rfl jw_e4af616004 jw_bacc1607b6 jw_d2d28ff2fc jw_944cf9c3ab jw_94abfb5ed9 jn_X1_resetTrial rfl (jj_le rfl) (jj_le rfl) (jj_le rfl) (jj_le rfl) (jj_le rfl) dX1_baseOfRedemptions_34 rfl (fun _ _ _ hX => hX.elim) (fun rx pl_18 r O_21 => ?_)
          obtain ⟨rfl, hok_19, hr_20, hfa9, hR_23⟩ := O_21
          replace hf_5 := hr_20.at hk1 (by decide) (by decide) hf_5
          replace hf_9 := hr_20.at hk1 (by decide) (by decide) hf_9
          replace hf_14 := hr_20.at ka_12 (by decide) (by decide) hf_14
          replace hfr := hfr.trans (hr_20.sub (by decide))
          replace hfa := hfa.trans (hfa9.sub (by decide))
          obtain rfl := hR_23
          refine jj_lload_n C dX1_baseOfRedemptions_37 rfl ?_
          refine jj_aload_n C dX1_baseOfRedemptions_38 rfl ?_
          refine jj_aload_n C dX1_baseOfRedemptions_39 rfl ?_
          refine jj_aload C dX1_baseOfRedemptions_40 rfl ?_
          refine tt_get C hok_19 jk_7 0 (by decide) jw_ca00009e69 (t := (0, (-2147483648), 2147483647)) ka_12 (by decide) rfl rfl dX1_baseOfRedemptions_42 (fun v_26 hv_26 hf_27 => ?_)
          obtain ⟨x_28, rfl, lx_28, ux_28⟩ := tt_vi hv_26
          refine jj_aload C dX1_baseOfRedemptions_45 rfl ?_
          refine tt_get C hok_19 jk_7 3 (by decide) jw_1a2f98b2b0 (t := (1, (-9223372036854775808), 9223372036854775807)) ka_12 (by decide) rfl rfl dX1_baseOfRedemptions_47 (fun v_29 hv_29 hf_30 => ?_)
          obtain ⟨y_31, rfl, -, -⟩ := tt_vj hv_29
          refine jj_iconst (v := 0) C dX1_baseOfRedemptions_50 (by decide) ?_
          obtain ⟨qc, gs, hqc⟩ := tt_recv (cx := []) hok_19 hk0 (by decide) rfl
          refine tt_callV (rest := [.long y_3]) C (tc_X1_tryRedemption_1 hl D cA ak h0 h1 x_28 y_31 hk0 hk1 hok_19) [] [] rfl rfl (by decide) (by decide) (by decide) qc hqc rfl rfl jw_484ec097f9 jw_eb03746c8c jw_a203910c50 jw_944cf9c3ab jw_a452736dc6 jn_X1_tryRedemption rfl (jj_le rfl) (jj_le rfl) (jj_le rfl) (jj_le rfl) (jj_le rfl) dX1_baseOfRedemptions_51 rfl (fun _ _ _ hX => hX.elim) (fun rx pl_32 r O_35 => ?_)
          obtain ⟨rfl, hok_33, hr_34, hfa9, hR_37⟩ := O_35
          replace hf_5 := hr_34.at hk1 (by decide) (by decide) hf_5
          replace hf_9 := hr_34.at hk1 (by decide) (by decide) hf_9
          replace hf_14 := hr_34.at ka_12 (by decide) (by decide) hf_14
          replace hf_27 := hr_34.at ka_12 (by decide) (by decide) hf_27
          replace hf_30 := hr_34.at ka_12 (by decide) (by decide) hf_30
          replace hfr := hfr.trans (hr_34.sub (by decide))
          replace hfa := hfa.trans (hfa9.sub (by decide))
          obtain ⟨y_40, rfl⟩ := hR_37
          obtain ⟨y_41, ey_41⟩ : ∃ z : Int64, y_3 + y_40 = z := ⟨_, rfl⟩
          refine jj_ladd (v := y_41) C dX1_baseOfRedemptions_54 ey_41 ?_
          refine jj_lstore_n C dX1_baseOfRedemptions_55 (by decide) rfl ?_
          obtain ⟨x_42, ex_42, vx_42⟩ := tt_inc (x := x_2) (n := 1) (by omega) (by omega)
          refine jj_iinc (v := x_42) C dX1_baseOfRedemptions_56 rfl ex_42 (by decide) rfl ?_
          refine jj_goto (tgt := 5) C dX1_baseOfRedemptions_59 (by decide) ?_
          refine jj_loc [0, 1, 3, 4] rfl ?_
          exact ihL_1 pl_32 x_42 y_41 hok_33 hfr hfa (by first | omega | decide | exact tt_lo _ | exact tt_hi _) (by first | omega | decide | exact tt_lo _ | exact tt_hi _) (by first | omega | decide | exact tt_lo _ | exact tt_hi _)
  exact hL_1 _ pl0 (0 : Int32) (0 : Int64) trivial hok hfr hfa (by first | omega | decide | exact tt_lo _ | exact tt_hi _) (by first | omega | decide | exact tt_lo _ | exact tt_hi _) (Int.self_le_toNat _)

set_option maxHeartbeats 4000000 in
set_option maxRecDepth 100000 in
theorem tc_X6_copyFrom_1 {l : Launch} (hl : l.stackTraces = false) (D : va_G) (cA : Nat → ClassId) (ak : (Nat → Nat) × (Nat → Nat)) {Kd : Nat → Nat} (h0 : Nat) (h1 : Nat) (hk0 : Kd h0 = 4) (hk1 : Kd h1 = 4) {pl0 : va_W} (hok : tt_ok tt_tk cA Kd pl0) : jj_M l D cA ak yX6_copyFrom (.code yX6_copyFrom cX6_copyFrom 2 none) 0 0 0 0 ([] ++ pl0) [.ref h0, .ref h1] (tt_O (fun rx pl1 r => rx = [] ∧ tt_ok tt_tk cA Kd pl1 ∧ tt_fr Kd [(4, 0), (4, 1), (4, 2), (4, 3), (4, 4)] pl0 pl1 ∧ tt_fa Kd [] pl0 pl1 ∧ ((r = none)))) (tt_OX (fun _ _ _ => False)) := by
  refine jj_start hl (by decide) jw_836011c9ed (jj_le rfl) ?_
  intro p e s m args below meth c A hargs hA C hex hmn
  have hfr := tt_fr.refl (K := Kd) (WS := [(4, 0), (4, 1), (4, 2), (4, 3), (4, 4)]) pl0
  have hfa := tt_fa.refl (K := Kd) (WA := []) pl0
  refine jj_aload_n C dX6_copyFrom_0 rfl ?_
  refine jj_aload_n C dX6_copyFrom_1 rfl ?_
  refine tt_get C hok jk_7 0 (by decide) jw_ab602f01ec (t := (0, (-2147483648), 2147483647)) hk1 (by decide) rfl rfl dX6_copyFrom_2 (fun v_1 hv_1 hf_2 => ?_)
  obtain ⟨x_3, rfl, lx_3, ux_3⟩ := tt_vi hv_1
  refine rl_put C hok jk_7 0 (by decide) jw_ab602f01ec (t := (0, (-2147483648), 2147483647)) hk0 (by decide) rfl rfl rfl (tt_ia x_3) rfl rfl dX6_copyFrom_5 (fun pl_4 hok_5 tr hn tl => ?_)
  have hf_6 := hn
  replace hfr := hfr.put hk0 tr (by decide)
  replace hfa := hfa.all tl
  refine jj_aload_n C dX6_copyFrom_8 rfl ?_
  refine jj_aload_n C dX6_copyFrom_9 rfl ?_
  refine tt_get C hok_5 jk_7 1 (by decide) jw_7cf5a36917 (t := (0, (-2147483648), 2147483647)) hk1 (by decide) rfl rfl dX6_copyFrom_10 (fun v_7 hv_7 hf_8 => ?_)
  obtain ⟨x_9, rfl, lx_9, ux_9⟩ := tt_vi hv_7
  refine rl_put C hok_5 jk_7 1 (by decide) jw_7cf5a36917 (t := (0, (-2147483648), 2147483647)) hk0 (by decide) rfl rfl rfl (tt_ia x_9) rfl rfl dX6_copyFrom_13 (fun pl_10 hok_11 tr hn tl => ?_)
  replace hf_6 := tr _ _ _ (Or.inr (by decide)) hf_6
  have hf_12 := hn
  replace hfr := hfr.put hk0 tr (by decide)
  replace hfa := hfa.all tl
  refine jj_aload_n C dX6_copyFrom_16 rfl ?_
  refine jj_aload_n C dX6_copyFrom_17 rfl ?_
  refine tt_get C hok_11 jk_7 2 (by decide) jw_0e59eaf272 (t := (0, 0, 1)) hk1 (by decide) rfl rfl dX6_copyFrom_18 (fun v_13 hv_13 hf_14 => ?_)
  obtain ⟨x_15, rfl, lx_15, ux_15⟩ := tt_vi hv_13
  refine rl_put C hok_11 jk_7 2 (by decide) jw_0e59eaf272 (t := (0, 0, 1)) hk0 (by decide) rfl rfl rfl (tt_iv (by omega) (by omega)) (tt_narZ (by omega) (by omega)) (tt_fitZ (by omega) (by omega)) dX6_copyFrom_21 (fun pl_16 hok_17 tr hn tl => ?_)
  replace hf_6 := tr _ _ _ (Or.inr (by decide)) hf_6
  replace hf_12 := tr _ _ _ (Or.inr (by decide)) hf_12
  have hf_18 := hn
  replace hfr := hfr.put hk0 tr (by decide)
  replace hfa := hfa.all tl
  refine jj_aload_n C dX6_copyFrom_24 rfl ?_
  refine jj_aload_n C dX6_copyFrom_25 rfl ?_
  refine tt_get C hok_17 jk_7 3 (by decide) jw_7a5d14dc09 (t := (1, (-9223372036854775808), 9223372036854775807)) hk1 (by decide) rfl rfl dX6_copyFrom_26 (fun v_19 hv_19 hf_20 => ?_)
  obtain ⟨y_21, rfl, -, -⟩ := tt_vj hv_19
  refine rl_put C hok_17 jk_7 3 (by decide) jw_7a5d14dc09 (t := (1, (-9223372036854775808), 9223372036854775807)) hk0 (by decide) rfl rfl rfl (tt_ja y_21) rfl rfl dX6_copyFrom_29 (fun pl_22 hok_23 tr hn tl => ?_)
  replace hf_6 := tr _ _ _ (Or.inr (by decide)) hf_6
  replace hf_12 := tr _ _ _ (Or.inr (by decide)) hf_12
  replace hf_18 := tr _ _ _ (Or.inr (by decide)) hf_18
  have hf_24 := hn
  replace hfr := hfr.put hk0 tr (by decide)
  replace hfa := hfa.all tl
  refine jj_aload_n C dX6_copyFrom_32 rfl ?_
  refine jj_aload_n C dX6_copyFrom_33 rfl ?_
  refine tt_get C hok_23 jk_7 4 (by decide) jw_7941f64051 (t := (1, (-9223372036854775808), 9223372036854775807)) hk1 (by decide) rfl rfl dX6_copyFrom_34 (fun v_25 hv_25 hf_26 => ?_)
  obtain ⟨y_27, rfl, -, -⟩ := tt_vj hv_25
  refine rl_put C hok_23 jk_7 4 (by decide) jw_7941f64051 (t := (1, (-9223372036854775808), 9223372036854775807)) hk0 (by decide) rfl rfl rfl (tt_ja y_27) rfl rfl dX6_copyFrom_37 (fun pl_28 hok_29 tr hn tl => ?_)
  replace hf_6 := tr _ _ _ (Or.inr (by decide)) hf_6
  replace hf_12 := tr _ _ _ (Or.inr (by decide)) hf_12
  replace hf_18 := tr _ _ _ (Or.inr (by decide)) hf_18
  replace hf_24 := tr _ _ _ (Or.inr (by decide)) hf_24
  have hf_30 := hn
  replace hfr := hfr.put hk0 tr (by decide)
  replace hfa := hfa.all tl
  exact jj_vret C ⟨[], pl_28, rfl, rfl, hok_29, hfr, hfa, rfl⟩ dX6_copyFrom_40 (jj_le rfl) (jj_le rfl)

set_option maxHeartbeats 4000000 in
set_option maxRecDepth 100000 in
theorem tc_X4_copyFrom_1 {l : Launch} (hl : l.stackTraces = false) (D : va_G) (cA : Nat → ClassId) (ak : (Nat → Nat) × (Nat → Nat)) {Kd : Nat → Nat} (h0 : Nat) (h1 : Nat) (hk0 : Kd h0 = 3) (hk1 : Kd h1 = 3) {pl0 : va_W} (hok : tt_ok tt_tk cA Kd pl0) : jj_M l D cA ak yX4_copyFrom (.code yX4_copyFrom cX4_copyFrom 2 none) 0 0 0 0 ([] ++ pl0) [.ref h0, .ref h1] (tt_O (fun rx pl1 r => rx = [] ∧ tt_ok tt_tk cA Kd pl1 ∧ tt_fr Kd [(3, 0), (3, 1), (3, 2), (3, 3), (3, 4), (3, 5)] pl0 pl1 ∧ tt_fa Kd [] pl0 pl1 ∧ ((r = none)))) (tt_OX (fun _ _ _ => False)) := by
  refine jj_start hl (by decide) jw_26dedf570e (jj_le rfl) ?_
  intro p e s m args below meth c A hargs hA C hex hmn
  have hfr := tt_fr.refl (K := Kd) (WS := [(3, 0), (3, 1), (3, 2), (3, 3), (3, 4), (3, 5)]) pl0
  have hfa := tt_fa.refl (K := Kd) (WA := []) pl0
  refine jj_aload_n C dX4_copyFrom_0 rfl ?_
  refine jj_aload_n C dX4_copyFrom_1 rfl ?_
  refine tt_get C hok jk_5 0 (by decide) jw_1bb0e54621 (t := (0, (-2147483648), 2147483647)) hk1 (by decide) rfl rfl dX4_copyFrom_2 (fun v_1 hv_1 hf_2 => ?_)
  obtain ⟨x_3, rfl, lx_3, ux_3⟩ := tt_vi hv_1
  refine rl_put C hok jk_5 0 (by decide) jw_1bb0e54621 (t := (0, (-2147483648), 2147483647)) hk0 (by decide) rfl rfl rfl (tt_ia x_3) rfl rfl dX4_copyFrom_5 (fun pl_4 hok_5 tr hn tl => ?_)
  have hf_6 := hn
  replace hfr := hfr.put hk0 tr (by decide)
  replace hfa := hfa.all tl
  refine jj_aload_n C dX4_copyFrom_8 rfl ?_
  refine jj_aload_n C dX4_copyFrom_9 rfl ?_
  refine tt_get C hok_5 jk_5 1 (by decide) jw_976779c271 (t := (0, (-2147483648), 2147483647)) hk1 (by decide) rfl rfl dX4_copyFrom_10 (fun v_7 hv_7 hf_8 => ?_)
  obtain ⟨x_9, rfl, lx_9, ux_9⟩ := tt_vi hv_7
  refine rl_put C hok_5 jk_5 1 (by decide) jw_976779c271 (t := (0, (-2147483648), 2147483647)) hk0 (by decide) rfl rfl rfl (tt_ia x_9) rfl rfl dX4_copyFrom_13 (fun pl_10 hok_11 tr hn tl => ?_)
  replace hf_6 := tr _ _ _ (Or.inr (by decide)) hf_6
  have hf_12 := hn
  replace hfr := hfr.put hk0 tr (by decide)
  replace hfa := hfa.all tl
  refine jj_aload_n C dX4_copyFrom_16 rfl ?_
  refine jj_aload_n C dX4_copyFrom_17 rfl ?_
  refine tt_get C hok_11 jk_5 2 (by decide) jw_2fcb3f5de7 (t := (0, (-2147483648), 2147483647)) hk1 (by decide) rfl rfl dX4_copyFrom_18 (fun v_13 hv_13 hf_14 => ?_)
  obtain ⟨x_15, rfl, lx_15, ux_15⟩ := tt_vi hv_13
  refine rl_put C hok_11 jk_5 2 (by decide) jw_2fcb3f5de7 (t := (0, (-2147483648), 2147483647)) hk0 (by decide) rfl rfl rfl (tt_ia x_15) rfl rfl dX4_copyFrom_21 (fun pl_16 hok_17 tr hn tl => ?_)
  replace hf_6 := tr _ _ _ (Or.inr (by decide)) hf_6
  replace hf_12 := tr _ _ _ (Or.inr (by decide)) hf_12
  have hf_18 := hn
  replace hfr := hfr.put hk0 tr (by decide)
  replace hfa := hfa.all tl
  refine jj_aload_n C dX4_copyFrom_24 rfl ?_
  refine jj_aload_n C dX4_copyFrom_25 rfl ?_
  refine tt_get C hok_17 jk_5 3 (by decide) jw_45db99320d (t := (1, (-9223372036854775808), 9223372036854775807)) hk1 (by decide) rfl rfl dX4_copyFrom_26 (fun v_19 hv_19 hf_20 => ?_)
  obtain ⟨y_21, rfl, -, -⟩ := tt_vj hv_19
  refine rl_put C hok_17 jk_5 3 (by decide) jw_45db99320d (t := (1, (-9223372036854775808), 9223372036854775807)) hk0 (by decide) rfl rfl rfl (tt_ja y_21) rfl rfl dX4_copyFrom_29 (fun pl_22 hok_23 tr hn tl => ?_)
  replace hf_6 := tr _ _ _ (Or.inr (by decide)) hf_6
  replace hf_12 := tr _ _ _ (Or.inr (by decide)) hf_12
  replace hf_18 := tr _ _ _ (Or.inr (by decide)) hf_18
  have hf_24 := hn
  replace hfr := hfr.put hk0 tr (by decide)
  replace hfa := hfa.all tl
  refine jj_aload_n C dX4_copyFrom_32 rfl ?_
  refine jj_aload_n C dX4_copyFrom_33 rfl ?_
  refine tt_get C hok_23 jk_5 4 (by decide) jw_ad4dde1162 (t := (1, (-9223372036854775808), 9223372036854775807)) hk1 (by decide) rfl rfl dX4_copyFrom_34 (fun v_25 hv_25 hf_26 => ?_)
  obtain ⟨y_27, rfl, -, -⟩ := tt_vj hv_25
  refine rl_put C hok_23 jk_5 4 (by decide) jw_ad4dde1162 (t := (1, (-9223372036854775808), 9223372036854775807)) hk0 (by decide) rfl rfl rfl (tt_ja y_27) rfl rfl dX4_copyFrom_37 (fun pl_28 hok_29 tr hn tl => ?_)
  replace hf_6 := tr _ _ _ (Or.inr (by decide)) hf_6
  replace hf_12 := tr _ _ _ (Or.inr (by decide)) hf_12
  replace hf_18 := tr _ _ _ (Or.inr (by decide)) hf_18
  replace hf_24 := tr _ _ _ (Or.inr (by decide)) hf_24
  have hf_30 := hn
  replace hfr := hfr.put hk0 tr (by decide)
  replace hfa := hfa.all tl
  refine jj_aload_n C dX4_copyFrom_40 rfl ?_
  refine jj_aload_n C dX4_copyFrom_41 rfl ?_
  refine tt_get C hok_29 jk_5 5 (by decide) jw_c6a8dac0f8 (t := (1, (-9223372036854775808), 9223372036854775807)) hk1 (by decide) rfl rfl dX4_copyFrom_42 (fun v_31 hv_31 hf_32 => ?_)
  obtain ⟨y_33, rfl, -, -⟩ := tt_vj hv_31
  refine rl_put C hok_29 jk_5 5 (by decide) jw_c6a8dac0f8 (t := (1, (-9223372036854775808), 9223372036854775807)) hk0 (by decide) rfl rfl rfl (tt_ja y_33) rfl rfl dX4_copyFrom_45 (fun pl_34 hok_35 tr hn tl => ?_)
  replace hf_6 := tr _ _ _ (Or.inr (by decide)) hf_6
  replace hf_12 := tr _ _ _ (Or.inr (by decide)) hf_12
  replace hf_18 := tr _ _ _ (Or.inr (by decide)) hf_18
  replace hf_24 := tr _ _ _ (Or.inr (by decide)) hf_24
  replace hf_30 := tr _ _ _ (Or.inr (by decide)) hf_30
  have hf_36 := hn
  replace hfr := hfr.put hk0 tr (by decide)
  replace hfa := hfa.all tl
  exact jj_vret C ⟨[], pl_34, rfl, rfl, hok_35, hfr, hfa, rfl⟩ dX4_copyFrom_48 (jj_le rfl) (jj_le rfl)

set_option maxHeartbeats 4000000 in
set_option maxRecDepth 100000 in
theorem tc_X0_copyFrom_1 {l : Launch} (hl : l.stackTraces = false) (D : va_G) (cA : Nat → ClassId) (ak : (Nat → Nat) × (Nat → Nat)) {Kd : Nat → Nat} (h0 : Nat) (h1 : Nat) (hk0 : Kd h0 = 1) (hk1 : Kd h1 = 1) {pl0 : va_W} (hok : tt_ok tt_tk cA Kd pl0) : jj_M l D cA ak yX0_copyFrom (.code yX0_copyFrom cX0_copyFrom 3 none) 1 21 0 0 ([] ++ pl0) [.ref h0, .ref h1] (tt_O (fun rx pl1 r => rx = [] ∧ tt_ok tt_tk cA Kd pl1 ∧ tt_fr Kd [(1, 0), (1, 1), (1, 2), (1, 3), (1, 4), (1, 5), (1, 6), (1, 7), (1, 8), (1, 9), (2, 0), (2, 1), (2, 2), (2, 3), (2, 4), (3, 0), (3, 1), (3, 2), (3, 3), (3, 4), (3, 5), (4, 0), (4, 1), (4, 2), (4, 3), (4, 4)] pl0 pl1 ∧ tt_fa Kd [5] pl0 pl1 ∧ ((r = none)))) (tt_OX (fun _ _ _ => False)) := by
  refine jj_start hl (by decide) jw_58241735d3 (jj_le rfl) ?_
  intro p e s m args below meth c A hargs hA C hex hmn
  have hfr := tt_fr.refl (K := Kd) (WS := [(1, 0), (1, 1), (1, 2), (1, 3), (1, 4), (1, 5), (1, 6), (1, 7), (1, 8), (1, 9), (2, 0), (2, 1), (2, 2), (2, 3), (2, 4), (3, 0), (3, 1), (3, 2), (3, 3), (3, 4), (3, 5), (4, 0), (4, 1), (4, 2), (4, 3), (4, 4)]) pl0
  have hfa := tt_fa.refl (K := Kd) (WA := [5]) pl0
  refine jj_aload_n C dX0_copyFrom_0 rfl ?_
  refine jj_aload_n C dX0_copyFrom_1 rfl ?_
  refine tt_get C hok jk_2 0 (by decide) jw_cbdbdaad27 (t := (0, (-2147483648), 2147483647)) hk1 (by decide) rfl rfl dX0_copyFrom_2 (fun v_1 hv_1 hf_2 => ?_)
  obtain ⟨x_3, rfl, lx_3, ux_3⟩ := tt_vi hv_1
  refine rl_put C hok jk_2 0 (by decide) jw_cbdbdaad27 (t := (0, (-2147483648), 2147483647)) hk0 (by decide) rfl rfl rfl (tt_ia x_3) rfl rfl dX0_copyFrom_5 (fun pl_4 hok_5 tr hn tl => ?_)
  have hf_6 := hn
  replace hfr := hfr.put hk0 tr (by decide)
  replace hfa := hfa.all tl
  refine jj_aload_n C dX0_copyFrom_8 rfl ?_
  refine jj_aload_n C dX0_copyFrom_9 rfl ?_
  refine tt_get C hok_5 jk_2 1 (by decide) jw_4c8a2fbb77 (t := (0, (-2147483648), 2147483647)) hk1 (by decide) rfl rfl dX0_copyFrom_10 (fun v_7 hv_7 hf_8 => ?_)
  obtain ⟨x_9, rfl, lx_9, ux_9⟩ := tt_vi hv_7
  refine rl_put C hok_5 jk_2 1 (by decide) jw_4c8a2fbb77 (t := (0, (-2147483648), 2147483647)) hk0 (by decide) rfl rfl rfl (tt_ia x_9) rfl rfl dX0_copyFrom_13 (fun pl_10 hok_11 tr hn tl => ?_)
  replace hf_6 := tr _ _ _ (Or.inr (by decide)) hf_6
  have hf_12 := hn
  replace hfr := hfr.put hk0 tr (by decide)
  replace hfa := hfa.all tl
  refine jj_aload_n C dX0_copyFrom_16 rfl ?_
  refine jj_aload_n C dX0_copyFrom_17 rfl ?_
  refine tt_get C hok_11 jk_2 2 (by decide) jw_950abe33c4 (t := (0, (-2147483648), 2147483647)) hk1 (by decide) rfl rfl dX0_copyFrom_18 (fun v_13 hv_13 hf_14 => ?_)
  obtain ⟨x_15, rfl, lx_15, ux_15⟩ := tt_vi hv_13
  refine rl_put C hok_11 jk_2 2 (by decide) jw_950abe33c4 (t := (0, (-2147483648), 2147483647)) hk0 (by decide) rfl rfl rfl (tt_ia x_15) rfl rfl dX0_copyFrom_21 (fun pl_16 hok_17 tr hn tl => ?_)
  replace hf_6 := tr _ _ _ (Or.inr (by decide)) hf_6
  replace hf_12 := tr _ _ _ (Or.inr (by decide)) hf_12
  have hf_18 := hn
  replace hfr := hfr.put hk0 tr (by decide)
  replace hfa := hfa.all tl
  refine jj_aload_n C dX0_copyFrom_24 rfl ?_
  refine jj_aload_n C dX0_copyFrom_25 rfl ?_
  refine tt_get C hok_17 jk_2 3 (by decide) jw_d83bb35855 (t := (0, (-2147483648), 2147483647)) hk1 (by decide) rfl rfl dX0_copyFrom_26 (fun v_19 hv_19 hf_20 => ?_)
  obtain ⟨x_21, rfl, lx_21, ux_21⟩ := tt_vi hv_19
  refine rl_put C hok_17 jk_2 3 (by decide) jw_d83bb35855 (t := (0, (-2147483648), 2147483647)) hk0 (by decide) rfl rfl rfl (tt_ia x_21) rfl rfl dX0_copyFrom_29 (fun pl_22 hok_23 tr hn tl => ?_)
  replace hf_6 := tr _ _ _ (Or.inr (by decide)) hf_6
  replace hf_12 := tr _ _ _ (Or.inr (by decide)) hf_12
  replace hf_18 := tr _ _ _ (Or.inr (by decide)) hf_18
  have hf_24 := hn
  replace hfr := hfr.put hk0 tr (by decide)
  replace hfa := hfa.all tl
  refine jj_aload_n C dX0_copyFrom_32 rfl ?_
  refine jj_aload_n C dX0_copyFrom_33 rfl ?_
  refine tt_get C hok_23 jk_2 4 (by decide) jw_458b0311a8 (t := (0, (-2147483648), 2147483647)) hk1 (by decide) rfl rfl dX0_copyFrom_34 (fun v_25 hv_25 hf_26 => ?_)
  obtain ⟨x_27, rfl, lx_27, ux_27⟩ := tt_vi hv_25
  refine rl_put C hok_23 jk_2 4 (by decide) jw_458b0311a8 (t := (0, (-2147483648), 2147483647)) hk0 (by decide) rfl rfl rfl (tt_ia x_27) rfl rfl dX0_copyFrom_37 (fun pl_28 hok_29 tr hn tl => ?_)
  replace hf_6 := tr _ _ _ (Or.inr (by decide)) hf_6
  replace hf_12 := tr _ _ _ (Or.inr (by decide)) hf_12
  replace hf_18 := tr _ _ _ (Or.inr (by decide)) hf_18
  replace hf_24 := tr _ _ _ (Or.inr (by decide)) hf_24
  have hf_30 := hn
  replace hfr := hfr.put hk0 tr (by decide)
  replace hfa := hfa.all tl
  refine jj_aload_n C dX0_copyFrom_40 rfl ?_
  refine jj_aload_n C dX0_copyFrom_41 rfl ?_
  refine tt_get C hok_29 jk_2 5 (by decide) jw_cd8f4320e7 (t := (0, (-2147483648), 2147483647)) hk1 (by decide) rfl rfl dX0_copyFrom_42 (fun v_31 hv_31 hf_32 => ?_)
  obtain ⟨x_33, rfl, lx_33, ux_33⟩ := tt_vi hv_31
  refine rl_put C hok_29 jk_2 5 (by decide) jw_cd8f4320e7 (t := (0, (-2147483648), 2147483647)) hk0 (by decide) rfl rfl rfl (tt_ia x_33) rfl rfl dX0_copyFrom_45 (fun pl_34 hok_35 tr hn tl => ?_)
  replace hf_6 := tr _ _ _ (Or.inr (by decide)) hf_6
  replace hf_12 := tr _ _ _ (Or.inr (by decide)) hf_12
  replace hf_18 := tr _ _ _ (Or.inr (by decide)) hf_18
  replace hf_24 := tr _ _ _ (Or.inr (by decide)) hf_24
  replace hf_30 := tr _ _ _ (Or.inr (by decide)) hf_30
  have hf_36 := hn
  replace hfr := hfr.put hk0 tr (by decide)
  replace hfa := hfa.all tl
  refine jj_aload_n C dX0_copyFrom_48 rfl ?_
  refine jj_aload_n C dX0_copyFrom_49 rfl ?_
  refine tt_get C hok_35 jk_2 6 (by decide) jw_cb51088522 (t := (0, (-2147483648), 2147483647)) hk1 (by decide) rfl rfl dX0_copyFrom_50 (fun v_37 hv_37 hf_38 => ?_)
  obtain ⟨x_39, rfl, lx_39, ux_39⟩ := tt_vi hv_37
  refine rl_put C hok_35 jk_2 6 (by decide) jw_cb51088522 (t := (0, (-2147483648), 2147483647)) hk0 (by decide) rfl rfl rfl (tt_ia x_39) rfl rfl dX0_copyFrom_53 (fun pl_40 hok_41 tr hn tl => ?_)
  replace hf_6 := tr _ _ _ (Or.inr (by decide)) hf_6
  replace hf_12 := tr _ _ _ (Or.inr (by decide)) hf_12
  replace hf_18 := tr _ _ _ (Or.inr (by decide)) hf_18
  replace hf_24 := tr _ _ _ (Or.inr (by decide)) hf_24
  replace hf_30 := tr _ _ _ (Or.inr (by decide)) hf_30
  replace hf_36 := tr _ _ _ (Or.inr (by decide)) hf_36
  have hf_42 := hn
  replace hfr := hfr.put hk0 tr (by decide)
  replace hfa := hfa.all tl
  refine jj_aload_n C dX0_copyFrom_56 rfl ?_
  refine jj_aload_n C dX0_copyFrom_57 rfl ?_
  refine tt_get C hok_41 jk_2 7 (by decide) jw_4839b30b4b (t := (0, 0, 6)) hk1 (by decide) rfl rfl dX0_copyFrom_58 (fun v_43 hv_43 hf_44 => ?_)
  obtain ⟨x_45, rfl, lx_45, ux_45⟩ := tt_vi hv_43
  refine rl_put C hok_41 jk_2 7 (by decide) jw_4839b30b4b (t := (0, 0, 6)) hk0 (by decide) rfl rfl rfl (tt_iv (by omega) (by omega)) rfl rfl dX0_copyFrom_61 (fun pl_46 hok_47 tr hn tl => ?_)
  replace hf_6 := tr _ _ _ (Or.inr (by decide)) hf_6
  replace hf_12 := tr _ _ _ (Or.inr (by decide)) hf_12
  replace hf_18 := tr _ _ _ (Or.inr (by decide)) hf_18
  replace hf_24 := tr _ _ _ (Or.inr (by decide)) hf_24
  replace hf_30 := tr _ _ _ (Or.inr (by decide)) hf_30
  replace hf_36 := tr _ _ _ (Or.inr (by decide)) hf_36
  replace hf_42 := tr _ _ _ (Or.inr (by decide)) hf_42
  have hf_48 := hn
  replace hfr := hfr.put hk0 tr (by decide)
  replace hfa := hfa.all tl
  refine jj_aload_n C dX0_copyFrom_64 rfl ?_
  refine jj_aload_n C dX0_copyFrom_65 rfl ?_
  refine tt_get C hok_47 jk_2 8 (by decide) jw_9d0ccd4490 (t := (0, 0, 40)) hk1 (by decide) rfl rfl dX0_copyFrom_66 (fun v_49 hv_49 hf_50 => ?_)
  obtain ⟨x_51, rfl, lx_51, ux_51⟩ := tt_vi hv_49
  refine rl_put C hok_47 jk_2 8 (by decide) jw_9d0ccd4490 (t := (0, 0, 40)) hk0 (by decide) rfl rfl rfl (tt_iv (by omega) (by omega)) rfl rfl dX0_copyFrom_69 (fun pl_52 hok_53 tr hn tl => ?_)
  replace hf_6 := tr _ _ _ (Or.inr (by decide)) hf_6
  replace hf_12 := tr _ _ _ (Or.inr (by decide)) hf_12
  replace hf_18 := tr _ _ _ (Or.inr (by decide)) hf_18
  replace hf_24 := tr _ _ _ (Or.inr (by decide)) hf_24
  replace hf_30 := tr _ _ _ (Or.inr (by decide)) hf_30
  replace hf_36 := tr _ _ _ (Or.inr (by decide)) hf_36
  replace hf_42 := tr _ _ _ (Or.inr (by decide)) hf_42
  replace hf_48 := tr _ _ _ (Or.inr (by decide)) hf_48
  have hf_54 := hn
  replace hfr := hfr.put hk0 tr (by decide)
  replace hfa := hfa.all tl
  refine jj_aload_n C dX0_copyFrom_72 rfl ?_
  refine jj_aload_n C dX0_copyFrom_73 rfl ?_
  refine tt_get C hok_53 jk_2 9 (by decide) jw_a6a6052378 (t := (0, 0, 12)) hk1 (by decide) rfl rfl dX0_copyFrom_74 (fun v_55 hv_55 hf_56 => ?_)
  obtain ⟨x_57, rfl, lx_57, ux_57⟩ := tt_vi hv_55
  refine rl_put C hok_53 jk_2 9 (by decide) jw_a6a6052378 (t := (0, 0, 12)) hk0 (by decide) rfl rfl rfl (tt_iv (by omega) (by omega)) rfl rfl dX0_copyFrom_77 (fun pl_58 hok_59 tr hn tl => ?_)
  replace hf_6 := tr _ _ _ (Or.inr (by decide)) hf_6
  replace hf_12 := tr _ _ _ (Or.inr (by decide)) hf_12
  replace hf_18 := tr _ _ _ (Or.inr (by decide)) hf_18
  replace hf_24 := tr _ _ _ (Or.inr (by decide)) hf_24
  replace hf_30 := tr _ _ _ (Or.inr (by decide)) hf_30
  replace hf_36 := tr _ _ _ (Or.inr (by decide)) hf_36
  replace hf_42 := tr _ _ _ (Or.inr (by decide)) hf_42
  replace hf_48 := tr _ _ _ (Or.inr (by decide)) hf_48
  replace hf_54 := tr _ _ _ (Or.inr (by decide)) hf_54
  have hf_60 := hn
  replace hfr := hfr.put hk0 tr (by decide)
  replace hfa := hfa.all tl
  refine jj_iconst (v := 0) C dX0_copyFrom_80 (by decide) ?_
  refine jj_istore_n C dX0_copyFrom_81 (by decide) rfl ?_
  have hL_61 : ∀ (N : Nat) (pl : va_W) (x_62 : Int32), True → tt_ok tt_tk cA Kd pl → tt_fr Kd [(1, 0), (1, 1), (1, 2), (1, 3), (1, 4), (1, 5), (1, 6), (1, 7), (1, 8), (1, 9), (2, 0), (2, 1), (2, 2), (2, 3), (2, 4), (3, 0), (3, 1), (3, 2), (3, 3), (3, 4), (3, 5), (4, 0), (4, 1), (4, 2), (4, 3), (4, 4)] pl0 pl → tt_fa Kd [5] pl0 pl → (0 : Int) ≤ x_62.toInt → x_62.toInt ≤ 6 → (2147483648 - x_62.toInt ≤ (N : Int)) → jj_J p l e (jj_rm 1 21 0 0) s m args below meth c 3 A (vx_MQ below (jj_q D A (tt_O (fun rx pl1 r => rx = [] ∧ tt_ok tt_tk cA Kd pl1 ∧ tt_fr Kd [(1, 0), (1, 1), (1, 2), (1, 3), (1, 4), (1, 5), (1, 6), (1, 7), (1, 8), (1, 9), (2, 0), (2, 1), (2, 2), (2, 3), (2, 4), (3, 0), (3, 1), (3, 2), (3, 3), (3, 4), (3, 5), (4, 0), (4, 1), (4, 2), (4, 3), (4, 4)] pl0 pl1 ∧ tt_fa Kd [5] pl0 pl1 ∧ ((r = none))))) (jj_x D A (tt_OX (fun _ _ _ => False))) args s 0 0 A) (jj_X D A ([] ++ pl)) 0 0 82 [(2, .int x_62), (0, .ref h0), (1, .ref h1)] [] := by
    intro NL_61
    induction NL_61 with
    | zero => intro pl x_62 _ hok hfr hfa lx_62 ux_62 hNL_61; exfalso; omega
    | succ NL_61 ihL_61 =>
      intro pl x_62 _ hok hfr hfa lx_62 ux_62 hNL_61
      replace ihL_61 := fun pl x_62 h1 => ihL_61 pl x_62 trivial h1
      refine jj_iload_n C dX0_copyFrom_82 rfl ?_
      refine jj_bipush (v := 6) C dX0_copyFrom_83 (by decide) ?_
      refine jj_icmp_ge (tgt := 106) C dX0_copyFrom_85 (by decide) (fun c_63 => ?_) (fun c_63 => ?_)
      · have z_c_63 := jc_le (a := (6)) (b := (x_62).toInt) c_63 (by decide) rfl
        refine jj_iconst (v := 0) C dX0_copyFrom_106 (by decide) ?_
        refine jj_istore_n C dX0_copyFrom_107 (by decide) rfl ?_
        have hL_64 : ∀ (N : Nat) (pl : va_W) (x_65 : Int32), True → tt_ok tt_tk cA Kd pl → tt_fr Kd [(1, 0), (1, 1), (1, 2), (1, 3), (1, 4), (1, 5), (1, 6), (1, 7), (1, 8), (1, 9), (2, 0), (2, 1), (2, 2), (2, 3), (2, 4), (3, 0), (3, 1), (3, 2), (3, 3), (3, 4), (3, 5), (4, 0), (4, 1), (4, 2), (4, 3), (4, 4)] pl0 pl → tt_fa Kd [5] pl0 pl → (0 : Int) ≤ x_65.toInt → x_65.toInt ≤ 6 → (2147483648 - x_65.toInt ≤ (N : Int)) → jj_J p l e (jj_rm 1 21 0 0) s m args below meth c 3 A (vx_MQ below (jj_q D A (tt_O (fun rx pl1 r => rx = [] ∧ tt_ok tt_tk cA Kd pl1 ∧ tt_fr Kd [(1, 0), (1, 1), (1, 2), (1, 3), (1, 4), (1, 5), (1, 6), (1, 7), (1, 8), (1, 9), (2, 0), (2, 1), (2, 2), (2, 3), (2, 4), (3, 0), (3, 1), (3, 2), (3, 3), (3, 4), (3, 5), (4, 0), (4, 1), (4, 2), (4, 3), (4, 4)] pl0 pl1 ∧ tt_fa Kd [5] pl0 pl1 ∧ ((r = none))))) (jj_x D A (tt_OX (fun _ _ _ => False))) args s 0 0 A) (jj_X D A ([] ++ pl)) 0 0 108 [(2, .int x_65), (0, .ref h0), (1, .ref h1)] [] := by
          intro NL_64
          induction NL_64 with
          | zero => intro pl x_65 _ hok hfr hfa lx_65 ux_65 hNL_64; exfalso; omega
          | succ NL_64 ihL_64 =>
            intro pl x_65 _ hok hfr hfa lx_65 ux_65 hNL_64
            replace ihL_64 := fun pl x_65 h1 => ihL_64 pl x_65 trivial h1
            refine jj_iload_n C dX0_copyFrom_108 rfl ?_
            refine jj_aload_n C dX0_copyFrom_109 rfl ?_
            refine tt_get C hok jk_2 7 (by decide) jw_4839b30b4b (t := (0, 0, 6)) hk0 (by decide) rfl rfl dX0_copyFrom_110 (fun v_66 hv_66 hf_67 => ?_)
            obtain ⟨x_68, rfl, lx_68, ux_68⟩ := tt_vi hv_66
            refine jj_icmp_ge (tgt := 137) C dX0_copyFrom_113 (by decide) (fun c_69 => ?_) (fun c_69 => ?_)
            · have z_c_69 := jc_le (a := (x_68).toInt) (b := (x_65).toInt) c_69 rfl rfl
              refine jj_iconst (v := 0) C dX0_copyFrom_137 (by decide) ?_
              refine jj_istore_n C dX0_copyFrom_138 (by decide) rfl ?_
              have hL_70 : ∀ (N : Nat) (pl : va_W) (x_71 : Int32), True → tt_ok tt_tk cA Kd pl → tt_fr Kd [(1, 0), (1, 1), (1, 2), (1, 3), (1, 4), (1, 5), (1, 6), (1, 7), (1, 8), (1, 9), (2, 0), (2, 1), (2, 2), (2, 3), (2, 4), (3, 0), (3, 1), (3, 2), (3, 3), (3, 4), (3, 5), (4, 0), (4, 1), (4, 2), (4, 3), (4, 4)] pl0 pl → tt_fa Kd [5] pl0 pl → (0 : Int) ≤ x_71.toInt → x_71.toInt ≤ 40 → (2147483648 - x_71.toInt ≤ (N : Int)) → jj_J p l e (jj_rm 1 21 0 0) s m args below meth c 3 A (vx_MQ below (jj_q D A (tt_O (fun rx pl1 r => rx = [] ∧ tt_ok tt_tk cA Kd pl1 ∧ tt_fr Kd [(1, 0), (1, 1), (1, 2), (1, 3), (1, 4), (1, 5), (1, 6), (1, 7), (1, 8), (1, 9), (2, 0), (2, 1), (2, 2), (2, 3), (2, 4), (3, 0), (3, 1), (3, 2), (3, 3), (3, 4), (3, 5), (4, 0), (4, 1), (4, 2), (4, 3), (4, 4)] pl0 pl1 ∧ tt_fa Kd [5] pl0 pl1 ∧ ((r = none))))) (jj_x D A (tt_OX (fun _ _ _ => False))) args s 0 0 A) (jj_X D A ([] ++ pl)) 0 0 139 [(2, .int x_71), (0, .ref h0), (1, .ref h1)] [] := by
                intro NL_70
                induction NL_70 with
                | zero => intro pl x_71 _ hok hfr hfa lx_71 ux_71 hNL_70; exfalso; omega
                | succ NL_70 ihL_70 =>
                  intro pl x_71 _ hok hfr hfa lx_71 ux_71 hNL_70
                  replace ihL_70 := fun pl x_71 h1 => ihL_70 pl x_71 trivial h1
                  refine jj_iload_n C dX0_copyFrom_139 rfl ?_
                  refine jj_aload_n C dX0_copyFrom_140 rfl ?_
                  refine tt_get C hok jk_2 8 (by decide) jw_9d0ccd4490 (t := (0, 0, 40)) hk0 (by decide) rfl rfl dX0_copyFrom_141 (fun v_72 hv_72 hf_73 => ?_)
                  obtain ⟨x_74, rfl, lx_74, ux_74⟩ := tt_vi hv_72
                  refine jj_icmp_ge (tgt := 168) C dX0_copyFrom_144 (by decide) (fun c_75 => ?_) (fun c_75 => ?_)
                  · have z_c_75 := jc_le (a := (x_74).toInt) (b := (x_71).toInt) c_75 rfl rfl
                    refine jj_iconst (v := 0) C dX0_copyFrom_168 (by decide) ?_
                    refine jj_istore_n C dX0_copyFrom_169 (by decide) rfl ?_
                    have hL_76 : ∀ (N : Nat) (pl : va_W) (x_77 : Int32), True → tt_ok tt_tk cA Kd pl → tt_fr Kd [(1, 0), (1, 1), (1, 2), (1, 3), (1, 4), (1, 5), (1, 6), (1, 7), (1, 8), (1, 9), (2, 0), (2, 1), (2, 2), (2, 3), (2, 4), (3, 0), (3, 1), (3, 2), (3, 3), (3, 4), (3, 5), (4, 0), (4, 1), (4, 2), (4, 3), (4, 4)] pl0 pl → tt_fa Kd [5] pl0 pl → (0 : Int) ≤ x_77.toInt → x_77.toInt ≤ 12 → (2147483648 - x_77.toInt ≤ (N : Int)) → jj_J p l e (jj_rm 1 21 0 0) s m args below meth c 3 A (vx_MQ below (jj_q D A (tt_O (fun rx pl1 r => rx = [] ∧ tt_ok tt_tk cA Kd pl1 ∧ tt_fr Kd [(1, 0), (1, 1), (1, 2), (1, 3), (1, 4), (1, 5), (1, 6), (1, 7), (1, 8), (1, 9), (2, 0), (2, 1), (2, 2), (2, 3), (2, 4), (3, 0), (3, 1), (3, 2), (3, 3), (3, 4), (3, 5), (4, 0), (4, 1), (4, 2), (4, 3), (4, 4)] pl0 pl1 ∧ tt_fa Kd [5] pl0 pl1 ∧ ((r = none))))) (jj_x D A (tt_OX (fun _ _ _ => False))) args s 0 0 A) (jj_X D A ([] ++ pl)) 0 0 170 [(2, .int x_77), (0, .ref h0), (1, .ref h1)] [] := by
                      intro NL_76
                      induction NL_76 with
                      | zero => intro pl x_77 _ hok hfr hfa lx_77 ux_77 hNL_76; exfalso; omega
                      | succ NL_76 ihL_76 =>
                        intro pl x_77 _ hok hfr hfa lx_77 ux_77 hNL_76
                        replace ihL_76 := fun pl x_77 h1 => ihL_76 pl x_77 trivial h1
                        refine jj_iload_n C dX0_copyFrom_170 rfl ?_
                        refine jj_aload_n C dX0_copyFrom_171 rfl ?_
                        refine tt_get C hok jk_2 9 (by decide) jw_a6a6052378 (t := (0, 0, 12)) hk0 (by decide) rfl rfl dX0_copyFrom_172 (fun v_78 hv_78 hf_79 => ?_)
                        obtain ⟨x_80, rfl, lx_80, ux_80⟩ := tt_vi hv_78
                        refine jj_icmp_ge (tgt := 199) C dX0_copyFrom_175 (by decide) (fun c_81 => ?_) (fun c_81 => ?_)
                        · have z_c_81 := jc_le (a := (x_80).toInt) (b := (x_77).toInt) c_81 rfl rfl
                          exact jj_vret C ⟨[], pl, rfl, rfl, hok, hfr, hfa, rfl⟩ dX0_copyFrom_199 (jj_le rfl) (jj_le rfl)
                        · have z_c_81 := jc_nle (a := (x_80).toInt) (b := (x_77).toInt) c_81 rfl rfl
                          refine jj_aload_n C dX0_copyFrom_178 rfl ?_
                          refine tt_get C hok jk_2 13 (by decide) jw_241b9bc751 (t := (2, 8, 0)) hk0 (by decide) rfl rfl dX0_copyFrom_179 (fun v_82 hv_82 hf_83 => ?_)
                          obtain ⟨a_84, rfl, ka_84⟩ := tt_vr hv_82
                          refine jj_iload_n C dX0_copyFrom_182 rfl ?_
                          refine tt_aald C hok (t := (2, 4, 0)) ka_84 (by decide) rfl rfl rfl (vp_in_iff.mpr ⟨by omega, by omega⟩) dX0_copyFrom_183 (fun v_85 hv_85 => ?_)
                          obtain ⟨a_86, rfl, ka_86⟩ := tt_vr hv_85
                          refine jj_aload_n C dX0_copyFrom_184 rfl ?_
                          refine tt_get C hok jk_2 13 (by decide) jw_241b9bc751 (t := (2, 8, 0)) hk1 (by decide) rfl rfl dX0_copyFrom_185 (fun v_87 hv_87 hf_88 => ?_)
                          obtain ⟨a_89, rfl, ka_89⟩ := tt_vr hv_87
                          refine jj_iload_n C dX0_copyFrom_188 rfl ?_
                          refine tt_aald C hok (t := (2, 4, 0)) ka_89 (by decide) rfl rfl rfl (vp_in_iff.mpr ⟨by omega, by omega⟩) dX0_copyFrom_189 (fun v_90 hv_90 => ?_)
                          obtain ⟨a_91, rfl, ka_91⟩ := tt_vr hv_90
                          obtain ⟨qc, gs, hqc⟩ := tt_recv (cx := []) hok ka_86 (by decide) rfl
                          refine tt_callV (rest := []) C (tc_X6_copyFrom_1 hl D cA ak a_86 a_91 ka_86 ka_91 hok) [] [] rfl rfl (by decide) (by decide) (by decide) qc hqc rfl rfl jw_a0c005f9e3 jw_602fa5615a jw_f4704c41b3 jw_37718511f3 jw_836011c9ed jn_X6_copyFrom rfl (jj_le rfl) (jj_le rfl) (jj_le rfl) (jj_le rfl) (jj_le rfl) dX0_copyFrom_190 rfl (fun _ _ _ hX => hX.elim) (fun rx pl_92 r O_95 => ?_)
                          obtain ⟨rfl, hok_93, hr_94, hfa9, hR_97⟩ := O_95
                          replace hf_79 := hr_94.at hk0 (by decide) (by decide) hf_79
                          replace hf_83 := hr_94.at hk0 (by decide) (by decide) hf_83
                          replace hf_88 := hr_94.at hk1 (by decide) (by decide) hf_88
                          replace hfr := hfr.trans (hr_94.sub (by decide))
                          replace hfa := hfa.trans (hfa9.sub (by decide))
                          obtain rfl := hR_97
                          obtain ⟨x_100, ex_100, vx_100⟩ := tt_inc (x := x_77) (n := 1) (by omega) (by omega)
                          refine jj_iinc (v := x_100) C dX0_copyFrom_193 rfl ex_100 (by decide) rfl ?_
                          refine jj_goto (tgt := 170) C dX0_copyFrom_196 (by decide) ?_
                          exact ihL_76 pl_92 x_100 hok_93 hfr hfa (by first | omega | decide | exact tt_lo _ | exact tt_hi _) (by first | omega | decide | exact tt_lo _ | exact tt_hi _) (by first | omega | decide | exact tt_lo _ | exact tt_hi _)
                    exact hL_76 _ pl (0 : Int32) trivial hok hfr hfa (by first | omega | decide | exact tt_lo _ | exact tt_hi _) (by first | omega | decide | exact tt_lo _ | exact tt_hi _) (Int.self_le_toNat _)
                  · have z_c_75 := jc_nle (a := (x_74).toInt) (b := (x_71).toInt) c_75 rfl rfl
                    refine jj_aload_n C dX0_copyFrom_147 rfl ?_
                    refine tt_get C hok jk_2 12 (by decide) jw_5f730213e9 (t := (2, 7, 0)) hk0 (by decide) rfl rfl dX0_copyFrom_148 (fun v_101 hv_101 hf_102 => ?_)
                    obtain ⟨a_103, rfl, ka_103⟩ := tt_vr hv_101
                    refine jj_iload_n C dX0_copyFrom_151 rfl ?_
                    refine tt_aald C hok (t := (2, 3, 0)) ka_103 (by decide) rfl rfl rfl (vp_in_iff.mpr ⟨by omega, by omega⟩) dX0_copyFrom_152 (fun v_104 hv_104 => ?_)
                    obtain ⟨a_105, rfl, ka_105⟩ := tt_vr hv_104
                    refine jj_aload_n C dX0_copyFrom_153 rfl ?_
                    refine tt_get C hok jk_2 12 (by decide) jw_5f730213e9 (t := (2, 7, 0)) hk1 (by decide) rfl rfl dX0_copyFrom_154 (fun v_106 hv_106 hf_107 => ?_)
                    obtain ⟨a_108, rfl, ka_108⟩ := tt_vr hv_106
                    refine jj_iload_n C dX0_copyFrom_157 rfl ?_
                    refine tt_aald C hok (t := (2, 3, 0)) ka_108 (by decide) rfl rfl rfl (vp_in_iff.mpr ⟨by omega, by omega⟩) dX0_copyFrom_158 (fun v_109 hv_109 => ?_)
                    obtain ⟨a_110, rfl, ka_110⟩ := tt_vr hv_109
                    obtain ⟨qc, gs, hqc⟩ := tt_recv (cx := []) hok ka_105 (by decide) rfl
                    refine tt_callV (rest := []) C (tc_X4_copyFrom_1 hl D cA ak a_105 a_110 ka_105 ka_110 hok) [] [] rfl rfl (by decide) (by decide) (by decide) qc hqc rfl rfl jw_c7a5e11de7 jw_a89944d251 jw_dd85a2718f jw_2fe9664d28 jw_26dedf570e jn_X4_copyFrom rfl (jj_le rfl) (jj_le rfl) (jj_le rfl) (jj_le rfl) (jj_le rfl) dX0_copyFrom_159 rfl (fun _ _ _ hX => hX.elim) (fun rx pl_111 r O_114 => ?_)
                    obtain ⟨rfl, hok_112, hr_113, hfa9, hR_116⟩ := O_114
                    replace hf_73 := hr_113.at hk0 (by decide) (by decide) hf_73
                    replace hf_102 := hr_113.at hk0 (by decide) (by decide) hf_102
                    replace hf_107 := hr_113.at hk1 (by decide) (by decide) hf_107
                    replace hfr := hfr.trans (hr_113.sub (by decide))
                    replace hfa := hfa.trans (hfa9.sub (by decide))
                    obtain rfl := hR_116
                    obtain ⟨x_119, ex_119, vx_119⟩ := tt_inc (x := x_71) (n := 1) (by omega) (by omega)
                    refine jj_iinc (v := x_119) C dX0_copyFrom_162 rfl ex_119 (by decide) rfl ?_
                    refine jj_goto (tgt := 139) C dX0_copyFrom_165 (by decide) ?_
                    exact ihL_70 pl_111 x_119 hok_112 hfr hfa (by first | omega | decide | exact tt_lo _ | exact tt_hi _) (by first | omega | decide | exact tt_lo _ | exact tt_hi _) (by first | omega | decide | exact tt_lo _ | exact tt_hi _)
              exact hL_70 _ pl (0 : Int32) trivial hok hfr hfa (by first | omega | decide | exact tt_lo _ | exact tt_hi _) (by first | omega | decide | exact tt_lo _ | exact tt_hi _) (Int.self_le_toNat _)
            · have z_c_69 := jc_nle (a := (x_68).toInt) (b := (x_65).toInt) c_69 rfl rfl
              refine jj_aload_n C dX0_copyFrom_116 rfl ?_
              refine tt_get C hok jk_2 11 (by decide) jw_b81d81495e (t := (2, 6, 0)) hk0 (by decide) rfl rfl dX0_copyFrom_117 (fun v_120 hv_120 hf_121 => ?_)
              obtain ⟨a_122, rfl, ka_122⟩ := tt_vr hv_120
              refine jj_iload_n C dX0_copyFrom_120 rfl ?_
              refine tt_aald C hok (t := (2, 2, 0)) ka_122 (by decide) rfl rfl rfl (vp_in_iff.mpr ⟨by omega, by omega⟩) dX0_copyFrom_121 (fun v_123 hv_123 => ?_)
              obtain ⟨a_124, rfl, ka_124⟩ := tt_vr hv_123
              refine jj_aload_n C dX0_copyFrom_122 rfl ?_
              refine tt_get C hok jk_2 11 (by decide) jw_b81d81495e (t := (2, 6, 0)) hk1 (by decide) rfl rfl dX0_copyFrom_123 (fun v_125 hv_125 hf_126 => ?_)
              obtain ⟨a_127, rfl, ka_127⟩ := tt_vr hv_125
              refine jj_iload_n C dX0_copyFrom_126 rfl ?_
              refine tt_aald C hok (t := (2, 2, 0)) ka_127 (by decide) rfl rfl rfl (vp_in_iff.mpr ⟨by omega, by omega⟩) dX0_copyFrom_127 (fun v_128 hv_128 => ?_)
              obtain ⟨a_129, rfl, ka_129⟩ := tt_vr hv_128
              obtain ⟨qc, gs, hqc⟩ := tt_recv (cx := []) hok ka_124 (by decide) rfl
              refine tt_callV (rest := []) C (tc_X8_copyFrom_1 hl D cA ak a_124 a_129 ka_124 ka_129 hok) [] [] rfl rfl (by decide) (by decide) (by decide) qc hqc rfl rfl jw_44ed65faaa jw_90d71545dc jw_31822f9d17 jw_364e75910d jw_067ae4989e jn_X8_copyFrom rfl (jj_le rfl) (jj_le rfl) (jj_le rfl) (jj_le rfl) (jj_le rfl) dX0_copyFrom_128 rfl (fun _ _ _ hX => hX.elim) (fun rx pl_130 r O_133 => ?_)
              obtain ⟨rfl, hok_131, hr_132, hfa9, hR_135⟩ := O_133
              replace hf_67 := hr_132.at hk0 (by decide) (by decide) hf_67
              replace hf_121 := hr_132.at hk0 (by decide) (by decide) hf_121
              replace hf_126 := hr_132.at hk1 (by decide) (by decide) hf_126
              replace hfr := hfr.trans (hr_132.sub (by decide))
              replace hfa := hfa.trans (hfa9.sub (by decide))
              obtain rfl := hR_135
              obtain ⟨x_138, ex_138, vx_138⟩ := tt_inc (x := x_65) (n := 1) (by omega) (by omega)
              refine jj_iinc (v := x_138) C dX0_copyFrom_131 rfl ex_138 (by decide) rfl ?_
              refine jj_goto (tgt := 108) C dX0_copyFrom_134 (by decide) ?_
              exact ihL_64 pl_130 x_138 hok_131 hfr hfa (by first | omega | decide | exact tt_lo _ | exact tt_hi _) (by first | omega | decide | exact tt_lo _ | exact tt_hi _) (by first | omega | decide | exact tt_lo _ | exact tt_hi _)
        exact hL_64 _ pl (0 : Int32) trivial hok hfr hfa (by first | omega | decide | exact tt_lo _ | exact tt_hi _) (by first | omega | decide | exact tt_lo _ | exact tt_hi _) (Int.self_le_toNat _)
      · have z_c_63 := jc_nle (a := (6)) (b := (x_62).toInt) c_63 (by decide) rfl
        refine jj_aload_n C dX0_copyFrom_88 rfl ?_
        refine tt_get C hok jk_2 10 (by decide) jw_10b3e82d95 (t := (2, 5, 0)) hk0 (by decide) rfl rfl dX0_copyFrom_89 (fun v_139 hv_139 hf_140 => ?_)
        obtain ⟨a_141, rfl, ka_141⟩ := tt_vr hv_139
        refine jj_iload_n C dX0_copyFrom_92 rfl ?_
        refine jj_aload_n C dX0_copyFrom_93 rfl ?_
        refine tt_get C hok jk_2 10 (by decide) jw_10b3e82d95 (t := (2, 5, 0)) hk1 (by decide) rfl rfl dX0_copyFrom_94 (fun v_142 hv_142 hf_143 => ?_)
        obtain ⟨a_144, rfl, ka_144⟩ := tt_vr hv_142
        refine jj_iload_n C dX0_copyFrom_97 rfl ?_
        refine tt_lald C hok (t := (1, (-9223372036854775808), 9223372036854775807)) ka_144 (by decide) rfl (vp_in_iff.mpr ⟨by omega, by omega⟩) dX0_copyFrom_98 (fun v_145 hv_145 => ?_)
        refine tl_last C hok (t := (1, (-9223372036854775808), 9223372036854775807)) ka_141 (by decide) rfl (vp_in_iff.mpr ⟨by omega, by omega⟩) (tt_ja _) dX0_copyFrom_99 (fun pl_146 hok_147 tr tl => ?_)
        replace hf_140 := tr _ _ _ hf_140
        replace hf_143 := tr _ _ _ hf_143
        replace hfr := hfr.arr tr
        replace hfa := hfa.wr ka_141 tl (by decide)
        obtain ⟨x_148, ex_148, vx_148⟩ := tt_inc (x := x_62) (n := 1) (by omega) (by omega)
        refine jj_iinc (v := x_148) C dX0_copyFrom_100 rfl ex_148 (by decide) rfl ?_
        refine jj_goto (tgt := 82) C dX0_copyFrom_103 (by decide) ?_
        exact ihL_61 pl_146 x_148 hok_147 hfr hfa (by first | omega | decide | exact tt_lo _ | exact tt_hi _) (by first | omega | decide | exact tt_lo _ | exact tt_hi _) (by first | omega | decide | exact tt_lo _ | exact tt_hi _)
  exact hL_61 _ pl_58 (0 : Int32) trivial hok_59 hfr hfa (by first | omega | decide | exact tt_lo _ | exact tt_hi _) (by first | omega | decide | exact tt_lo _ | exact tt_hi _) (Int.self_le_toNat _)

set_option maxHeartbeats 4000000 in
set_option maxRecDepth 100000 in
theorem tc_X0_netOfAll_1 {l : Launch} (hl : l.stackTraces = false) (D : va_G) (cA : Nat → ClassId) (ak : (Nat → Nat) × (Nat → Nat)) {Kd : Nat → Nat} (h0 : Nat) (hk0 : Kd h0 = 1) {pl0 : va_W} (hok : tt_ok tt_tk cA Kd pl0) : jj_M l D cA ak yX0_netOfAll (.code yX0_netOfAll cX0_netOfAll 4 (some .long)) 1 25 0 0 ([] ++ pl0) [.ref h0] (tt_O (fun rx pl1 r => rx = [] ∧ tt_ok tt_tk cA Kd pl1 ∧ tt_fr Kd [] pl0 pl1 ∧ tt_fa Kd [] pl0 pl1 ∧ ((∃ v : Int64, r = some (.long v))))) (tt_OX (fun _ _ _ => False)) := by
  refine jj_start hl (by decide) jw_144409f761 (jj_le rfl) ?_
  intro p e s m args below meth c A hargs hA C hex hmn
  have hfr := tt_fr.refl (K := Kd) (WS := []) pl0
  have hfa := tt_fa.refl (K := Kd) (WA := []) pl0
  refine jj_lconst (v := 0) C dX0_netOfAll_0 (by decide) ?_
  refine jj_lstore_n C dX0_netOfAll_1 (by decide) rfl ?_
  refine jj_iconst (v := 0) C dX0_netOfAll_2 (by decide) ?_
  refine jj_istore_n C dX0_netOfAll_3 (by decide) rfl ?_
  have hL_1 : ∀ (N : Nat) (pl : va_W) (x_2 : Int32) (y_3 : Int64), True → tt_ok tt_tk cA Kd pl → tt_fr Kd [] pl0 pl → tt_fa Kd [] pl0 pl → (0 : Int) ≤ x_2.toInt → x_2.toInt ≤ 6 → (2147483648 - x_2.toInt ≤ (N : Int)) → jj_J p l e (jj_rm 1 25 0 0) s m args below meth c 4 A (vx_MQ below (jj_q D A (tt_O (fun rx pl1 r => rx = [] ∧ tt_ok tt_tk cA Kd pl1 ∧ tt_fr Kd [] pl0 pl1 ∧ tt_fa Kd [] pl0 pl1 ∧ ((∃ v : Int64, r = some (.long v)))))) (jj_x D A (tt_OX (fun _ _ _ => False))) args s 0 0 A) (jj_X D A ([] ++ pl)) 0 0 4 [(3, .int x_2), (1, .long y_3), (0, .ref h0)] [] := by
    intro NL_1
    induction NL_1 with
    | zero => intro pl x_2 y_3 _ hok hfr hfa lx_2 ux_2 hNL_1; exfalso; omega
    | succ NL_1 ihL_1 =>
      intro pl x_2 y_3 _ hok hfr hfa lx_2 ux_2 hNL_1
      replace ihL_1 := fun pl x_2 y_3 h1 => ihL_1 pl x_2 y_3 trivial h1
      refine jj_iload_n C dX0_netOfAll_4 rfl ?_
      refine jj_aload_n C dX0_netOfAll_5 rfl ?_
      refine tt_get C hok jk_2 7 (by decide) jw_4839b30b4b (t := (0, 0, 6)) hk0 (by decide) rfl rfl dX0_netOfAll_6 (fun v_4 hv_4 hf_5 => ?_)
      obtain ⟨x_6, rfl, lx_6, ux_6⟩ := tt_vi hv_4
      refine jj_icmp_ge (tgt := 44) C dX0_netOfAll_9 (by decide) (fun c_7 => ?_) (fun c_7 => ?_)
      · have z_c_7 := jc_le (a := (x_6).toInt) (b := (x_2).toInt) c_7 rfl rfl
        refine jj_lload_n C dX0_netOfAll_44 rfl ?_
        exact jj_lret C ⟨[], pl, rfl, rfl, hok, hfr, hfa, ⟨y_3, rfl⟩⟩ dX0_netOfAll_45 (jj_le rfl) (jj_le rfl)
      · have z_c_7 := jc_nle (a := (x_6).toInt) (b := (x_2).toInt) c_7 rfl rfl
        refine jj_lload_n C dX0_netOfAll_12 rfl ?_
        refine jj_aload_n C dX0_netOfAll_13 rfl ?_
        refine tt_get C hok jk_2 11 (by decide) jw_b81d81495e (t := (2, 6, 0)) hk0 (by decide) rfl rfl dX0_netOfAll_14 (fun v_8 hv_8 hf_9 => ?_)
        obtain ⟨a_10, rfl, ka_10⟩ := tt_vr hv_8
        refine jj_iload_n C dX0_netOfAll_17 rfl ?_
        refine tt_aald C hok (t := (2, 2, 0)) ka_10 (by decide) rfl rfl rfl (vp_in_iff.mpr ⟨by omega, by omega⟩) dX0_netOfAll_18 (fun v_11 hv_11 => ?_)
        obtain ⟨a_12, rfl, ka_12⟩ := tt_vr hv_11
        refine tt_get C hok jk_9 2 (by decide) jw_63df8fd9f3 (t := (1, (-9223372036854775808), 9223372036854775807)) ka_12 (by decide) rfl rfl dX0_netOfAll_19 (fun v_13 hv_13 hf_14 => ?_)
        obtain ⟨y_15, rfl, -, -⟩ := tt_vj hv_13
        refine jj_aload_n C dX0_netOfAll_22 rfl ?_
        refine tt_getF C hok jk_2 11 (by decide) jw_b81d81495e (t := (2, 6, 0)) hk0 (by decide) rfl rfl hf_9 dX0_netOfAll_23 ?_
        refine jj_iload_n C dX0_netOfAll_26 rfl ?_
        refine tt_aald C hok (t := (2, 2, 0)) ka_10 (by decide) rfl rfl rfl (vp_in_iff.mpr ⟨by omega, by omega⟩) dX0_netOfAll_27 (fun v_16 hv_16 => ?_)
        obtain ⟨a_17, rfl, ka_17⟩ := tt_vr hv_16
        refine jj_aload_n C dX0_netOfAll_28 rfl ?_
        refine tt_get C hok jk_2 3 (by decide) jw_d83bb35855 (t := (0, (-2147483648), 2147483647)) hk0 (by decide) rfl rfl dX0_netOfAll_29 (fun v_18 hv_18 hf_19 => ?_)
        obtain ⟨x_20, rfl, lx_20, ux_20⟩ := tt_vi hv_18
        obtain ⟨qc, gs, hqc⟩ := tt_recv (cx := []) hok ka_17 (by decide) rfl
        refine tt_callV (rest := [.long y_15, .long y_3]) C (tc_X8_accruedFee_1 hl D cA ak a_17 x_20 ka_17 hok) [] [] rfl rfl (by decide) (by decide) (by decide) qc hqc rfl rfl jw_22b16a02fe jw_16e73d269e jw_e0ac78627f jw_364e75910d jw_449e8f4cf4 jn_X8_accruedFee rfl (jj_le rfl) (jj_le rfl) (jj_le rfl) (jj_le rfl) (jj_le rfl) dX0_netOfAll_32 rfl (fun _ _ _ hX => hX.elim) (fun rx pl_21 r O_24 => ?_)
        obtain ⟨rfl, hok_22, hr_23, hfa9, hR_26⟩ := O_24
        replace hf_5 := hr_23.at hk0 (by decide) (by decide) hf_5
        replace hf_9 := hr_23.at hk0 (by decide) (by decide) hf_9
        replace hf_14 := hr_23.at ka_12 (by decide) (by decide) hf_14
        replace hf_19 := hr_23.at hk0 (by decide) (by decide) hf_19
        replace hfr := hfr.trans (hr_23.sub (by decide))
        replace hfa := hfa.trans (hfa9.sub (by decide))
        rcases hR_26 with rfl | ⟨y_29, rfl⟩
        · obtain ⟨y_30, ey_30⟩ : ∃ z : Int64, y_15 - (0 : Int64) = z := ⟨_, rfl⟩
          refine jj_lsub (v := y_30) C dX0_netOfAll_35 ey_30 ?_
          obtain ⟨y_31, ey_31⟩ : ∃ z : Int64, y_3 + y_30 = z := ⟨_, rfl⟩
          refine jj_ladd (v := y_31) C dX0_netOfAll_36 ey_31 ?_
          refine jj_lstore_n C dX0_netOfAll_37 (by decide) rfl ?_
          obtain ⟨x_32, ex_32, vx_32⟩ := tt_inc (x := x_2) (n := 1) (by omega) (by omega)
          refine jj_iinc (v := x_32) C dX0_netOfAll_38 rfl ex_32 (by decide) rfl ?_
          refine jj_goto (tgt := 4) C dX0_netOfAll_41 (by decide) ?_
          exact ihL_1 pl_21 x_32 y_31 hok_22 hfr hfa (by first | omega | decide | exact tt_lo _ | exact tt_hi _) (by first | omega | decide | exact tt_lo _ | exact tt_hi _) (by first | omega | decide | exact tt_lo _ | exact tt_hi _)
        · obtain ⟨y_33, ey_33⟩ : ∃ z : Int64, y_15 - y_29 = z := ⟨_, rfl⟩
          refine jj_lsub (v := y_33) C dX0_netOfAll_35 ey_33 ?_
          obtain ⟨y_34, ey_34⟩ : ∃ z : Int64, y_3 + y_33 = z := ⟨_, rfl⟩
          refine jj_ladd (v := y_34) C dX0_netOfAll_36 ey_34 ?_
          refine jj_lstore_n C dX0_netOfAll_37 (by decide) rfl ?_
          obtain ⟨x_35, ex_35, vx_35⟩ := tt_inc (x := x_2) (n := 1) (by omega) (by omega)
          refine jj_iinc (v := x_35) C dX0_netOfAll_38 rfl ex_35 (by decide) rfl ?_
          refine jj_goto (tgt := 4) C dX0_netOfAll_41 (by decide) ?_
          exact ihL_1 pl_21 x_35 y_34 hok_22 hfr hfa (by first | omega | decide | exact tt_lo _ | exact tt_hi _) (by first | omega | decide | exact tt_lo _ | exact tt_hi _) (by first | omega | decide | exact tt_lo _ | exact tt_hi _)
  exact hL_1 _ pl0 (0 : Int32) (0 : Int64) trivial hok hfr hfa (by first | omega | decide | exact tt_lo _ | exact tt_hi _) (by first | omega | decide | exact tt_lo _ | exact tt_hi _) (Int.self_le_toNat _)

set_option maxHeartbeats 4000000 in
set_option maxRecDepth 100000 in
theorem tc_X0_limitOfGate_1 {l : Launch} (hl : l.stackTraces = false) (D : va_G) (cA : Nat → ClassId) (ak : (Nat → Nat) × (Nat → Nat)) {Kd : Nat → Nat} (h0 : Nat) (hk0 : Kd h0 = 1) {pl0 : va_W} (hok : tt_ok tt_tk cA Kd pl0) : jj_M l D cA ak yX0_limitOfGate (.code yX0_limitOfGate cX0_limitOfGate 1 (some .long)) 2 48 0 0 ([] ++ pl0) [.ref h0] (tt_O (fun rx pl1 r => rx = [] ∧ tt_ok tt_tk cA Kd pl1 ∧ tt_fr Kd [] pl0 pl1 ∧ tt_fa Kd [] pl0 pl1 ∧ ((∃ v : Int64, r = some (.long v))))) (tt_OX (fun _ _ _ => False)) := by
  refine jj_start hl (by decide) jw_2cb5ab9c9b (jj_le rfl) ?_
  intro p e s m args below meth c A hargs hA C hex hmn
  have hfr := tt_fr.refl (K := Kd) (WS := []) pl0
  have hfa := tt_fa.refl (K := Kd) (WA := []) pl0
  refine jj_aload_n C dX0_limitOfGate_0 rfl ?_
  obtain ⟨qc, gs, hqc⟩ := tt_recv (cx := []) hok hk0 (by decide) rfl
  refine tt_callV (rest := []) C (tc_X0_netOfAll_1 hl D cA ak h0 hk0 hok) [] [] rfl rfl (by decide) (by decide) (by decide) qc hqc rfl rfl jw_4759a1f4d5 jw_26ce198b3a jw_dfaafe33a2 jw_7d25d4fd32 jw_144409f761 jn_X0_netOfAll rfl (jj_le rfl) (jj_le rfl) (jj_le rfl) (jj_le rfl) (jj_le rfl) dX0_limitOfGate_1 rfl (fun _ _ _ hX => hX.elim) (fun rx pl_1 r O_4 => ?_)
  obtain ⟨rfl, hok_2, hr_3, hfa9, hR_6⟩ := O_4
  replace hfr := hfr.trans (hr_3.sub (by decide))
  replace hfa := hfa.trans (hfa9.sub (by decide))
  obtain ⟨y_9, rfl⟩ := hR_6
  refine jj_aload_n C dX0_limitOfGate_4 rfl ?_
  refine tt_get C hok_2 jk_2 4 (by decide) jw_458b0311a8 (t := (0, (-2147483648), 2147483647)) hk0 (by decide) rfl rfl dX0_limitOfGate_5 (fun v_10 hv_10 hf_11 => ?_)
  obtain ⟨x_12, rfl, lx_12, ux_12⟩ := tt_vi hv_10
  obtain ⟨y_13, ey_13, vy_13⟩ := tt_i2l x_12
  refine jj_i2l (v := y_13) C dX0_limitOfGate_8 ey_13 ?_
  obtain ⟨y_14, ey_14⟩ : ∃ z : Int64, y_9 * y_13 = z := ⟨_, rfl⟩
  refine jj_lmul (v := y_14) C dX0_limitOfGate_9 ey_14 ?_
  refine jj_ldc2 (v := 100) C dX0_limitOfGate_10 jw_11ede7347a ?_
  obtain ⟨y_15, ey_15⟩ : ∃ z : Int64, y_14 / (100 : Int64) = z := ⟨_, rfl⟩
  refine jj_ldiv (v := y_15) C dX0_limitOfGate_13 (by decide) ey_15 ?_
  exact jj_lret C ⟨[], pl_1, rfl, rfl, hok_2, hfr, hfa, ⟨y_15, rfl⟩⟩ dX0_limitOfGate_14 (jj_le rfl) (jj_le rfl)

set_option maxHeartbeats 4000000 in
set_option maxRecDepth 100000 in
theorem tc_X0_unitsHeldBy_1 {l : Launch} (hl : l.stackTraces = false) (D : va_G) (cA : Nat → ClassId) (ak : (Nat → Nat) × (Nat → Nat)) {Kd : Nat → Nat} (h0 : Nat) (p1 : Int32) (hk0 : Kd h0 = 1) {pl0 : va_W} (hok : tt_ok tt_tk cA Kd pl0) : jj_M l D cA ak yX0_unitsHeldBy (.code yX0_unitsHeldBy cX0_unitsHeldBy 5 (some .long)) 0 0 0 0 ([] ++ pl0) [.ref h0, .int p1] (tt_O (fun rx pl1 r => rx = [] ∧ tt_ok tt_tk cA Kd pl1 ∧ tt_fr Kd [] pl0 pl1 ∧ tt_fa Kd [] pl0 pl1 ∧ ((∃ v : Int64, r = some (.long v))))) (tt_OX (fun _ _ _ => False)) := by
  refine jj_start hl (by decide) jw_325e36afd1 (jj_le rfl) ?_
  intro p e s m args below meth c A hargs hA C hex hmn
  have hfr := tt_fr.refl (K := Kd) (WS := []) pl0
  have hfa := tt_fa.refl (K := Kd) (WA := []) pl0
  have lp1 := tt_lo p1
  have up1 := tt_hi p1
  refine jj_lconst (v := 0) C dX0_unitsHeldBy_0 (by decide) ?_
  refine jj_lstore_n C dX0_unitsHeldBy_1 (by decide) rfl ?_
  refine jj_iconst (v := 0) C dX0_unitsHeldBy_2 (by decide) ?_
  refine jj_istore C dX0_unitsHeldBy_3 (by decide) rfl ?_
  have hL_1 : ∀ (N : Nat) (pl : va_W) (x_2 : Int32) (y_3 : Int64), True → tt_ok tt_tk cA Kd pl → tt_fr Kd [] pl0 pl → tt_fa Kd [] pl0 pl → (0 : Int) ≤ x_2.toInt → x_2.toInt ≤ 40 → (2147483648 - x_2.toInt ≤ (N : Int)) → jj_J p l e (jj_rm 0 0 0 0) s m args below meth c 5 A (vx_MQ below (jj_q D A (tt_O (fun rx pl1 r => rx = [] ∧ tt_ok tt_tk cA Kd pl1 ∧ tt_fr Kd [] pl0 pl1 ∧ tt_fa Kd [] pl0 pl1 ∧ ((∃ v : Int64, r = some (.long v)))))) (jj_x D A (tt_OX (fun _ _ _ => False))) args s 0 0 A) (jj_X D A ([] ++ pl)) 0 0 5 [(4, .int x_2), (2, .long y_3), (0, .ref h0), (1, .int p1)] [] := by
    intro NL_1
    induction NL_1 with
    | zero => intro pl x_2 y_3 _ hok hfr hfa lx_2 ux_2 hNL_1; exfalso; omega
    | succ NL_1 ihL_1 =>
      intro pl x_2 y_3 _ hok hfr hfa lx_2 ux_2 hNL_1
      replace ihL_1 := fun pl x_2 y_3 h1 => ihL_1 pl x_2 y_3 trivial h1
      refine jj_iload C dX0_unitsHeldBy_5 rfl ?_
      refine jj_aload_n C dX0_unitsHeldBy_7 rfl ?_
      refine tt_get C hok jk_2 8 (by decide) jw_9d0ccd4490 (t := (0, 0, 40)) hk0 (by decide) rfl rfl dX0_unitsHeldBy_8 (fun v_4 hv_4 hf_5 => ?_)
      obtain ⟨x_6, rfl, lx_6, ux_6⟩ := tt_vi hv_4
      refine jj_icmp_ge (tgt := 47) C dX0_unitsHeldBy_11 (by decide) (fun c_7 => ?_) (fun c_7 => ?_)
      · have z_c_7 := jc_le (a := (x_6).toInt) (b := (x_2).toInt) c_7 rfl rfl
        refine jj_lload_n C dX0_unitsHeldBy_47 rfl ?_
        exact jj_lret C ⟨[], pl, rfl, rfl, hok, hfr, hfa, ⟨y_3, rfl⟩⟩ dX0_unitsHeldBy_48 (jj_le rfl) (jj_le rfl)
      · have z_c_7 := jc_nle (a := (x_6).toInt) (b := (x_2).toInt) c_7 rfl rfl
        refine jj_aload_n C dX0_unitsHeldBy_14 rfl ?_
        refine tt_get C hok jk_2 12 (by decide) jw_5f730213e9 (t := (2, 7, 0)) hk0 (by decide) rfl rfl dX0_unitsHeldBy_15 (fun v_8 hv_8 hf_9 => ?_)
        obtain ⟨a_10, rfl, ka_10⟩ := tt_vr hv_8
        refine jj_iload C dX0_unitsHeldBy_18 rfl ?_
        refine tt_aald C hok (t := (2, 3, 0)) ka_10 (by decide) rfl rfl rfl (vp_in_iff.mpr ⟨by omega, by omega⟩) dX0_unitsHeldBy_20 (fun v_11 hv_11 => ?_)
        obtain ⟨a_12, rfl, ka_12⟩ := tt_vr hv_11
        refine tt_get C hok jk_5 0 (by decide) jw_89374484be (t := (0, (-2147483648), 2147483647)) ka_12 (by decide) rfl rfl dX0_unitsHeldBy_21 (fun v_13 hv_13 hf_14 => ?_)
        obtain ⟨x_15, rfl, lx_15, ux_15⟩ := tt_vi hv_13
        refine jj_iload_n C dX0_unitsHeldBy_24 rfl ?_
        refine jj_icmp_ne (tgt := 41) C dX0_unitsHeldBy_25 (by decide) (fun c_16 => ?_) (fun c_16 => ?_)
        · have z_c_16 := jc_neq (a := (x_15).toInt) (b := (p1).toInt) c_16 rfl rfl
          obtain ⟨x_17, ex_17, vx_17⟩ := tt_inc (x := x_2) (n := 1) (by omega) (by omega)
          refine jj_iinc (v := x_17) C dX0_unitsHeldBy_41 rfl ex_17 (by decide) rfl ?_
          refine jj_goto (tgt := 5) C dX0_unitsHeldBy_44 (by decide) ?_
          exact ihL_1 pl x_17 y_3 hok hfr hfa (by first | omega | decide | exact tt_lo _ | exact tt_hi _) (by first | omega | decide | exact tt_lo _ | exact tt_hi _) (by first | omega | decide | exact tt_lo _ | exact tt_hi _)
        · have z_c_16 := jc_eq (a := (x_15).toInt) (b := (p1).toInt) c_16 rfl rfl
          refine jj_lload_n C dX0_unitsHeldBy_28 rfl ?_
          refine jj_aload_n C dX0_unitsHeldBy_29 rfl ?_
          refine tt_getF C hok jk_2 12 (by decide) jw_5f730213e9 (t := (2, 7, 0)) hk0 (by decide) rfl rfl hf_9 dX0_unitsHeldBy_30 ?_
          refine jj_iload C dX0_unitsHeldBy_33 rfl ?_
          refine tt_aald C hok (t := (2, 3, 0)) ka_10 (by decide) rfl rfl rfl (vp_in_iff.mpr ⟨by omega, by omega⟩) dX0_unitsHeldBy_35 (fun v_18 hv_18 => ?_)
          obtain ⟨a_19, rfl, ka_19⟩ := tt_vr hv_18
          refine tt_get C hok jk_5 3 (by decide) jw_1f6afd9b6f (t := (1, (-9223372036854775808), 9223372036854775807)) ka_19 (by decide) rfl rfl dX0_unitsHeldBy_36 (fun v_20 hv_20 hf_21 => ?_)
          obtain ⟨y_22, rfl, -, -⟩ := tt_vj hv_20
          obtain ⟨y_23, ey_23⟩ : ∃ z : Int64, y_3 + y_22 = z := ⟨_, rfl⟩
          refine jj_ladd (v := y_23) C dX0_unitsHeldBy_39 ey_23 ?_
          refine jj_lstore_n C dX0_unitsHeldBy_40 (by decide) rfl ?_
          obtain ⟨x_24, ex_24, vx_24⟩ := tt_inc (x := x_2) (n := 1) (by omega) (by omega)
          refine jj_iinc (v := x_24) C dX0_unitsHeldBy_41 rfl ex_24 (by decide) rfl ?_
          refine jj_goto (tgt := 5) C dX0_unitsHeldBy_44 (by decide) ?_
          exact ihL_1 pl x_24 y_23 hok hfr hfa (by first | omega | decide | exact tt_lo _ | exact tt_hi _) (by first | omega | decide | exact tt_lo _ | exact tt_hi _) (by first | omega | decide | exact tt_lo _ | exact tt_hi _)
  exact hL_1 _ pl0 (0 : Int32) (0 : Int64) trivial hok hfr hfa (by first | omega | decide | exact tt_lo _ | exact tt_hi _) (by first | omega | decide | exact tt_lo _ | exact tt_hi _) (Int.self_le_toNat _)

