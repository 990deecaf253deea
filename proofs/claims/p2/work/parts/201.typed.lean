set_option maxHeartbeats 4000000 in
set_option maxRecDepth 100000 in
theorem tc_X1_tryRedemption_1 {l : Launch} (hl : l.stackTraces = false) (D : va_G) (cA : Nat → ClassId) (ak : (Nat → Nat) × (Nat → Nat)) {Kd : Nat → Nat} (h0 : Nat) (h1 : Nat) (p2 : Int32) (p3 : Int64) (hk0 : Kd h0 = 9) (hk1 : Kd h1 = 1) {pl0 : va_W} (hok : tt_ok tt_tk cA Kd pl0) : jj_M l D cA ak yX1_tryRedemption (.code yX1_tryRedemption cX1_tryRedemption 15 (some .long)) 2 54 0 0 ([] ++ pl0) [.ref h0, .ref h1, .int p2, .long p3, .int 0] (tt_O (fun rx pl1 r => rx = [] ∧ tt_ok tt_tk cA Kd pl1 ∧ tt_fr Kd [(2, 2), (2, 3), (9, 1), (9, 2), (9, 3), (9, 4), (9, 5)] pl0 pl1 ∧ ((∃ v : Int64, r = some (.long v))))) (tt_OX (fun _ _ _ => False)) := by
  refine jj_start hl (by decide) jw_120 (jj_le rfl) ?_
  intro p e s m args below meth c A hargs hA C hex hmn
  have hfr := tt_fr.refl (K := Kd) (WS := [(2, 2), (2, 3), (9, 1), (9, 2), (9, 3), (9, 4), (9, 5)]) pl0
  have lp2 := tt_lo p2
  have up2 := tt_hi p2
  refine jj_lconst (v := 0) C dX1_tryRedemption_0 (by decide) ?_
  refine jj_lstore C dX1_tryRedemption_1 (by decide) rfl ?_
  refine jj_lload_n C dX1_tryRedemption_3 rfl ?_
  refine jj_lstore C dX1_tryRedemption_4 (by decide) rfl ?_
  refine jj_iconst (v := 0) C dX1_tryRedemption_6 (by decide) ?_
  refine jj_istore C dX1_tryRedemption_7 (by decide) rfl ?_
  have hL_1 : ∀ (N : Nat) (pl : va_W) (x_2 : Int32) (y_3 : Int64) (y_4 : Int64), True → tt_ok tt_tk cA Kd pl → tt_fr Kd [(2, 2), (2, 3), (9, 1), (9, 2), (9, 3), (9, 4), (9, 5)] pl0 pl → (0 : Int) ≤ x_2.toInt → x_2.toInt ≤ 40 → (2147483648 - x_2.toInt ≤ (N : Int)) → jj_J p l e (jj_rm 2 54 0 0) s m args below meth c 15 A (vx_MQ below (jj_q D A (tt_O (fun rx pl1 r => rx = [] ∧ tt_ok tt_tk cA Kd pl1 ∧ tt_fr Kd [(2, 2), (2, 3), (9, 1), (9, 2), (9, 3), (9, 4), (9, 5)] pl0 pl1 ∧ ((∃ v : Int64, r = some (.long v)))))) (jj_x D A (tt_OX (fun _ _ _ => False))) args s 0 0 A) (jj_X D A ([] ++ pl)) 0 0 9 [(10, .int x_2), (8, .long y_3), (6, .long y_4), (0, .ref h0), (1, .ref h1), (2, .int p2), (3, .long p3), (5, .int 0)] [] := by
    intro NL_1
    induction NL_1 with
    | zero => intro pl x_2 y_3 y_4 _ hok hfr lx_2 ux_2 hNL_1; exfalso; omega
    | succ NL_1 ihL_1 =>
      intro pl x_2 y_3 y_4 _ hok hfr lx_2 ux_2 hNL_1
      replace ihL_1 := fun pl x_2 y_3 y_4 h1 => ihL_1 pl x_2 y_3 y_4 trivial h1
      refine jj_iload C dX1_tryRedemption_9 rfl ?_
      refine jj_aload_n C dX1_tryRedemption_11 rfl ?_
      refine tt_get C hok jk_2 8 (by decide) jw_121 (t := (0, 0, 40)) hk1 (by decide) rfl rfl dX1_tryRedemption_12 (fun v_5 hv_5 hf_6 => ?_)
      obtain ⟨x_7, rfl, lx_7, ux_7⟩ := tt_vi hv_5
      refine jj_icmp_ge (tgt := 173) C dX1_tryRedemption_15 (by decide) (fun c_8 => ?_) (fun c_8 => ?_)
      · have z_c_8 := jc_le (a := (x_7).toInt) (b := (x_2).toInt) c_8 rfl rfl
        refine jj_lload C dX1_tryRedemption_173 rfl ?_
        exact jj_lret C ⟨[], pl, rfl, rfl, hok, hfr, ⟨y_4, rfl⟩⟩ dX1_tryRedemption_175 (jj_le rfl) (jj_le rfl)
      · have z_c_8 := jc_nle (a := (x_7).toInt) (b := (x_2).toInt) c_8 rfl rfl
        refine jj_lload C dX1_tryRedemption_18 rfl ?_
        refine jj_lconst (v := 0) C dX1_tryRedemption_20 (by decide) ?_
        refine jj_lcmp_le (tgt := 173) C dX1_tryRedemption_21 dX1_tryRedemption_22 (by decide) (fun c_9 => ?_) (fun c_9 => ?_)
        · refine jj_lload C dX1_tryRedemption_173 rfl ?_
          exact jj_lret C ⟨[], pl, rfl, rfl, hok, hfr, ⟨y_4, rfl⟩⟩ dX1_tryRedemption_175 (jj_le rfl) (jj_le rfl)
        · refine jj_aload_n C dX1_tryRedemption_25 rfl ?_
          refine tt_get C hok jk_2 12 (by decide) jw_122 (t := (2, 7, 0)) hk1 (by decide) rfl rfl dX1_tryRedemption_26 (fun v_10 hv_10 hf_11 => ?_)
          obtain ⟨a_12, rfl, ka_12⟩ := tt_vr hv_10
          refine jj_iload C dX1_tryRedemption_29 rfl ?_
          refine tt_aald C hok (t := (2, 3, 0)) ka_12 (by decide) rfl rfl rfl (vp_in_iff.mpr ⟨by omega, by omega⟩) dX1_tryRedemption_31 (fun v_13 hv_13 => ?_)
          obtain ⟨a_14, rfl, ka_14⟩ := tt_vr hv_13
          refine jj_astore C dX1_tryRedemption_32 (by decide) rfl ?_
          refine jj_aload_n C dX1_tryRedemption_34 rfl ?_
          refine jj_aload C dX1_tryRedemption_35 rfl ?_
          refine tt_get C hok jk_5 1 (by decide) jw_123 (t := (0, (-2147483648), 2147483647)) ka_14 (by decide) rfl rfl dX1_tryRedemption_37 (fun v_15 hv_15 hf_16 => ?_)
          obtain ⟨x_17, rfl, lx_17, ux_17⟩ := tt_vi hv_15
          obtain ⟨qc, gs, hqc⟩ := tt_recv (cx := []) hok hk1 (by decide) rfl
          refine tt_callV (rest := []) C (tc_X0_placeOfSeries_1 hl D cA ak h1 x_17 hk1 hok) [] [] rfl rfl (by decide) (by decide) (by decide) qc hqc rfl rfl jw_131 jw_137 jw_138 jw_133 jw_132 jn_X0_placeOfSeries rfl (jj_le rfl) (jj_le rfl) (jj_le rfl) (jj_le rfl) (jj_le rfl) dX1_tryRedemption_40 rfl (fun _ _ _ hX => hX.elim) (fun rx pl_18 r O_21 => ?_)
          obtain ⟨rfl, hok_19, hr_20, hR_23⟩ := O_21
          replace hf_6 := hr_20.at hk1 (by decide) (by decide) hf_6
          replace hf_11 := hr_20.at hk1 (by decide) (by decide) hf_11
          replace hf_16 := hr_20.at ka_14 (by decide) (by decide) hf_16
          replace hfr := hfr.trans (hr_20.sub (by decide))
          rcases hR_23 with rfl | ⟨x_24, lx_24, ux_24, rfl⟩
          · refine jj_istore C dX1_tryRedemption_43 (by decide) rfl ?_
            refine jj_aload C dX1_tryRedemption_45 rfl ?_
            refine tt_get C hok_19 jk_5 0 (by decide) jw_140 (t := (0, (-2147483648), 2147483647)) ka_14 (by decide) rfl rfl dX1_tryRedemption_47 (fun v_25 hv_25 hf_26 => ?_)
            obtain ⟨x_27, rfl, lx_27, ux_27⟩ := tt_vi hv_25
            refine jj_iload_n C dX1_tryRedemption_50 rfl ?_
            refine jj_icmp_ne (tgt := 167) C dX1_tryRedemption_51 (by decide) (fun c_28 => ?_) (fun c_28 => ?_)
            · have z_c_28 := jc_neq (a := (x_27).toInt) (b := (p2).toInt) c_28 rfl rfl
              obtain ⟨x_29, ex_29, vx_29⟩ := tt_inc (x := x_2) (n := 1) (by omega) (by omega)
              refine jj_iinc (v := x_29) C dX1_tryRedemption_167 rfl ex_29 (by decide) rfl ?_
              refine jj_goto (tgt := 9) C dX1_tryRedemption_170 (by decide) ?_
              refine jj_loc [0, 3, 4, 5, 6, 7, 8, 9] rfl ?_
              exact ihL_1 pl_18 x_29 y_3 y_4 hok_19 hfr (by first | omega | decide | exact tt_lo _ | exact tt_hi _) (by first | omega | decide | exact tt_lo _ | exact tt_hi _) (by first | omega | decide | exact tt_lo _ | exact tt_hi _)
            · have z_c_28 := jc_eq (a := (x_27).toInt) (b := (p2).toInt) c_28 rfl rfl
              refine jj_iload C dX1_tryRedemption_54 rfl ?_
              refine jj_iconst (v := (-1)) C dX1_tryRedemption_56 (by decide) ?_
              refine jj_icmp_eqT (tgt := 167) C dX1_tryRedemption_57 (by decide) (by decide) ?_
              obtain ⟨x_30, ex_30, vx_30⟩ := tt_inc (x := x_2) (n := 1) (by omega) (by omega)
              refine jj_iinc (v := x_30) C dX1_tryRedemption_167 rfl ex_30 (by decide) rfl ?_
              refine jj_goto (tgt := 9) C dX1_tryRedemption_170 (by decide) ?_
              refine jj_loc [0, 3, 4, 5, 6, 7, 8, 9] rfl ?_
              exact ihL_1 pl_18 x_30 y_3 y_4 hok_19 hfr (by first | omega | decide | exact tt_lo _ | exact tt_hi _) (by first | omega | decide | exact tt_lo _ | exact tt_hi _) (by first | omega | decide | exact tt_lo _ | exact tt_hi _)
          · refine jj_istore C dX1_tryRedemption_43 (by decide) rfl ?_
            refine jj_aload C dX1_tryRedemption_45 rfl ?_
            refine tt_get C hok_19 jk_5 0 (by decide) jw_140 (t := (0, (-2147483648), 2147483647)) ka_14 (by decide) rfl rfl dX1_tryRedemption_47 (fun v_31 hv_31 hf_32 => ?_)
            obtain ⟨x_33, rfl, lx_33, ux_33⟩ := tt_vi hv_31
            refine jj_iload_n C dX1_tryRedemption_50 rfl ?_
            refine jj_icmp_ne (tgt := 167) C dX1_tryRedemption_51 (by decide) (fun c_34 => ?_) (fun c_34 => ?_)
            · have z_c_34 := jc_neq (a := (x_33).toInt) (b := (p2).toInt) c_34 rfl rfl
              obtain ⟨x_35, ex_35, vx_35⟩ := tt_inc (x := x_2) (n := 1) (by omega) (by omega)
              refine jj_iinc (v := x_35) C dX1_tryRedemption_167 rfl ex_35 (by decide) rfl ?_
              refine jj_goto (tgt := 9) C dX1_tryRedemption_170 (by decide) ?_
              refine jj_loc [0, 3, 4, 5, 6, 7, 8, 9] rfl ?_
              exact ihL_1 pl_18 x_35 y_3 y_4 hok_19 hfr (by first | omega | decide | exact tt_lo _ | exact tt_hi _) (by first | omega | decide | exact tt_lo _ | exact tt_hi _) (by first | omega | decide | exact tt_lo _ | exact tt_hi _)
            · have z_c_34 := jc_eq (a := (x_33).toInt) (b := (p2).toInt) c_34 rfl rfl
              refine jj_iload C dX1_tryRedemption_54 rfl ?_
              refine jj_iconst (v := (-1)) C dX1_tryRedemption_56 (by decide) ?_
              refine jj_icmp_eq (tgt := 167) C dX1_tryRedemption_57 (by decide) (fun c_36 => ?_) (fun c_36 => ?_)
              · have z_c_36 := jc_eq (a := (x_24).toInt) (b := (-1)) c_36 rfl (by decide)
                exfalso; omega
              · have z_c_36 := jc_neq (a := (x_24).toInt) (b := (-1)) c_36 rfl (by decide)
                refine jj_lload C dX1_tryRedemption_60 rfl ?_
                refine jj_aload C dX1_tryRedemption_62 rfl ?_
                refine tt_get C hok_19 jk_5 3 (by decide) jw_141 (t := (1, (-9223372036854775808), 9223372036854775807)) ka_14 (by decide) rfl rfl dX1_tryRedemption_64 (fun v_37 hv_37 hf_38 => ?_)
                obtain ⟨y_39, rfl, -, -⟩ := tt_vj hv_37
                refine tt_call0S (rest := []) C (ct_J9_min_f86c9_1 hl D cA ak y_3 y_39) jw_142 jw_145 jw_144 jw_143 jn_J9_min_f86c9 rfl (jj_le rfl) (jj_le rfl) (jj_le rfl) (jj_le rfl) (jj_le rfl) dX1_tryRedemption_67 rfl (fun w1 r O_40 => ?_)
                rcases O_40 with ⟨c_41, -, rfl⟩ | ⟨c_42, -, rfl⟩
                · refine jj_lstore C dX1_tryRedemption_70 (by decide) rfl ?_
                  refine jj_aload_n C dX1_tryRedemption_72 rfl ?_
                  refine jj_aload_n C dX1_tryRedemption_73 rfl ?_
                  refine jj_aload_n C dX1_tryRedemption_74 rfl ?_
                  refine tt_get C hok_19 jk_3 0 (by decide) jw_81 (t := (2, 6, 0)) hk0 (by decide) rfl rfl dX1_tryRedemption_75 (fun v_43 hv_43 hf_44 => ?_)
                  obtain ⟨a_45, rfl, ka_45⟩ := tt_vr hv_43
                  refine jj_iload C dX1_tryRedemption_78 rfl ?_
                  refine tt_aald C hok_19 (t := (2, 2, 0)) ka_45 (by decide) rfl rfl rfl (vp_in_iff.mpr ⟨by omega, by omega⟩) dX1_tryRedemption_80 (fun v_46 hv_46 => ?_)
                  obtain ⟨a_47, rfl, ka_47⟩ := tt_vr hv_46
                  refine jj_aload C dX1_tryRedemption_81 rfl ?_
                  refine jj_lload C dX1_tryRedemption_83 rfl ?_
                  obtain ⟨qc, gs, hqc⟩ := tt_recv (cx := []) hok_19 hk0 (by decide) rfl
                  refine tt_callV (rest := []) C (tc_X1_quote_1 hl D cA ak h0 h1 a_47 a_14 y_39 hk0 hk1 ka_47 ka_14 hok_19) [] [] rfl rfl (by decide) (by decide) (by decide) qc hqc rfl rfl jw_147 jw_180 jw_181 jw_74 jw_148 jn_X1_quote rfl (jj_le rfl) (jj_le rfl) (jj_le rfl) (jj_le rfl) (jj_le rfl) dX1_tryRedemption_85 rfl (fun _ _ _ hX => hX.elim) (fun rx pl_48 r O_51 => ?_)
                  obtain ⟨rfl, hok_49, hr_50, hR_53⟩ := O_51
                  replace hf_6 := hr_50.at hk1 (by decide) (by decide) hf_6
                  replace hf_11 := hr_50.at hk1 (by decide) (by decide) hf_11
                  replace hf_16 := hr_50.at ka_14 (by decide) (by decide) hf_16
                  replace hf_32 := hr_50.at ka_14 (by decide) (by decide) hf_32
                  replace hf_38 := hr_50.at ka_14 (by decide) (by decide) hf_38
                  replace hf_44 := hr_50.at hk0 (by decide) (by decide) hf_44
                  replace hfr := hfr.trans (hr_50.sub (by decide))
                  obtain rfl := hR_53
                  refine jj_aload_n C dX1_tryRedemption_88 rfl ?_
                  refine tt_getF C hok_49 jk_3 0 (by decide) jw_81 (t := (2, 6, 0)) hk0 (by decide) rfl rfl hf_44 dX1_tryRedemption_89 ?_
                  refine jj_iload C dX1_tryRedemption_92 rfl ?_
                  refine tt_aald C hok_49 (t := (2, 2, 0)) ka_45 (by decide) rfl rfl rfl (vp_in_iff.mpr ⟨by omega, by omega⟩) dX1_tryRedemption_94 (fun v_54 hv_54 => ?_)
                  obtain ⟨a_55, rfl, ka_55⟩ := tt_vr hv_54
                  refine jj_dup C dX1_tryRedemption_95 rfl ?_
                  refine tt_get C hok_49 jk_9 2 (by decide) jw_113 (t := (1, (-9223372036854775808), 9223372036854775807)) ka_55 (by decide) rfl rfl dX1_tryRedemption_96 (fun v_56 hv_56 hf_57 => ?_)
                  obtain ⟨y_58, rfl, -, -⟩ := tt_vj hv_56
                  refine jj_aload_n C dX1_tryRedemption_99 rfl ?_
                  refine tt_get C hok_49 jk_3 1 (by decide) jw_158 (t := (1, (-9223372036854775808), 9223372036854775807)) hk0 (by decide) rfl rfl dX1_tryRedemption_100 (fun v_59 hv_59 hf_60 => ?_)
                  obtain ⟨y_61, rfl, -, -⟩ := tt_vj hv_59
                  refine jj_aload_n C dX1_tryRedemption_103 rfl ?_
                  refine tt_get C hok_49 jk_3 2 (by decide) jw_159 (t := (1, (-9223372036854775808), 9223372036854775807)) hk0 (by decide) rfl rfl dX1_tryRedemption_104 (fun v_62 hv_62 hf_63 => ?_)
                  obtain ⟨y_64, rfl, -, -⟩ := tt_vj hv_62
                  obtain ⟨y_65, ey_65⟩ : ∃ z : Int64, y_61 + y_64 = z := ⟨_, rfl⟩
                  refine jj_ladd (v := y_65) C dX1_tryRedemption_107 ey_65 ?_
                  obtain ⟨y_66, ey_66⟩ : ∃ z : Int64, y_58 - y_65 = z := ⟨_, rfl⟩
                  refine jj_lsub (v := y_66) C dX1_tryRedemption_108 ey_66 ?_
                  refine tt_put C hok_49 jk_9 2 (by decide) jw_113 (t := (1, (-9223372036854775808), 9223372036854775807)) ka_55 (by decide) rfl rfl rfl (tt_ja y_66) rfl rfl dX1_tryRedemption_109 (fun pl_67 hok_68 tr hn => ?_)
                  replace hf_6 := tr _ _ _ (Or.inl (tt_ne hk1 ka_55 (by decide))) hf_6
                  replace hf_11 := tr _ _ _ (Or.inl (tt_ne hk1 ka_55 (by decide))) hf_11
                  replace hf_16 := tr _ _ _ (Or.inl (tt_ne ka_14 ka_55 (by decide))) hf_16
                  replace hf_32 := tr _ _ _ (Or.inl (tt_ne ka_14 ka_55 (by decide))) hf_32
                  replace hf_38 := tr _ _ _ (Or.inl (tt_ne ka_14 ka_55 (by decide))) hf_38
                  replace hf_44 := tr _ _ _ (Or.inl (tt_ne hk0 ka_55 (by decide))) hf_44
                  replace hf_60 := tr _ _ _ (Or.inl (tt_ne hk0 ka_55 (by decide))) hf_60
                  replace hf_63 := tr _ _ _ (Or.inl (tt_ne hk0 ka_55 (by decide))) hf_63
                  have hf_69 := hn
                  replace hfr := hfr.put ka_55 tr (by decide)
                  refine jj_aload_n C dX1_tryRedemption_112 rfl ?_
                  refine tt_getF C hok_68 jk_3 0 (by decide) jw_81 (t := (2, 6, 0)) hk0 (by decide) rfl rfl hf_44 dX1_tryRedemption_113 ?_
                  refine jj_iload C dX1_tryRedemption_116 rfl ?_
                  refine tt_aald C hok_68 (t := (2, 2, 0)) ka_45 (by decide) rfl rfl rfl (vp_in_iff.mpr ⟨by omega, by omega⟩) dX1_tryRedemption_118 (fun v_70 hv_70 => ?_)
                  obtain ⟨a_71, rfl, ka_71⟩ := tt_vr hv_70
                  refine jj_dup C dX1_tryRedemption_119 rfl ?_
                  refine tt_get C hok_68 jk_9 3 (by decide) jw_157 (t := (1, (-9223372036854775808), 9223372036854775807)) ka_71 (by decide) rfl rfl dX1_tryRedemption_120 (fun v_72 hv_72 hf_73 => ?_)
                  obtain ⟨y_74, rfl, -, -⟩ := tt_vj hv_72
                  refine jj_lload C dX1_tryRedemption_123 rfl ?_
                  obtain ⟨y_75, ey_75⟩ : ∃ z : Int64, y_74 - y_39 = z := ⟨_, rfl⟩
                  refine jj_lsub (v := y_75) C dX1_tryRedemption_125 ey_75 ?_
                  refine tt_put C hok_68 jk_9 3 (by decide) jw_157 (t := (1, (-9223372036854775808), 9223372036854775807)) ka_71 (by decide) rfl rfl rfl (tt_ja y_75) rfl rfl dX1_tryRedemption_126 (fun pl_76 hok_77 tr hn => ?_)
                  replace hf_6 := tr _ _ _ (Or.inl (tt_ne hk1 ka_71 (by decide))) hf_6
                  replace hf_11 := tr _ _ _ (Or.inl (tt_ne hk1 ka_71 (by decide))) hf_11
                  replace hf_16 := tr _ _ _ (Or.inl (tt_ne ka_14 ka_71 (by decide))) hf_16
                  replace hf_32 := tr _ _ _ (Or.inl (tt_ne ka_14 ka_71 (by decide))) hf_32
                  replace hf_38 := tr _ _ _ (Or.inl (tt_ne ka_14 ka_71 (by decide))) hf_38
                  replace hf_44 := tr _ _ _ (Or.inl (tt_ne hk0 ka_71 (by decide))) hf_44
                  replace hf_60 := tr _ _ _ (Or.inl (tt_ne hk0 ka_71 (by decide))) hf_60
                  replace hf_63 := tr _ _ _ (Or.inl (tt_ne hk0 ka_71 (by decide))) hf_63
                  replace hf_69 := tr _ _ _ (Or.inr (by decide)) hf_69
                  have hf_78 := hn
                  replace hfr := hfr.put ka_71 tr (by decide)
                  refine jj_lload C dX1_tryRedemption_129 rfl ?_
                  refine jj_lload C dX1_tryRedemption_131 rfl ?_
                  obtain ⟨y_79, ey_79⟩ : ∃ z : Int64, y_3 - y_39 = z := ⟨_, rfl⟩
                  refine jj_lsub (v := y_79) C dX1_tryRedemption_133 ey_79 ?_
                  refine jj_lstore C dX1_tryRedemption_134 (by decide) rfl ?_
                  refine jj_lload C dX1_tryRedemption_136 rfl ?_
                  refine jj_iload C dX1_tryRedemption_138 rfl ?_
                  refine jj_if_eqT (tgt := 160) C dX1_tryRedemption_140 (by decide) (by decide) ?_
                  refine jj_aload_n C dX1_tryRedemption_160 rfl ?_
                  refine tt_getF C hok_77 jk_3 1 (by decide) jw_158 (t := (1, (-9223372036854775808), 9223372036854775807)) hk0 (by decide) rfl rfl hf_60 dX1_tryRedemption_161 ?_
                  obtain ⟨y_80, ey_80⟩ : ∃ z : Int64, y_4 + y_61 = z := ⟨_, rfl⟩
                  refine jj_ladd (v := y_80) C dX1_tryRedemption_164 ey_80 ?_
                  refine jj_lstore C dX1_tryRedemption_165 (by decide) rfl ?_
                  obtain ⟨x_81, ex_81, vx_81⟩ := tt_inc (x := x_2) (n := 1) (by omega) (by omega)
                  refine jj_iinc (v := x_81) C dX1_tryRedemption_167 rfl ex_81 (by decide) rfl ?_
                  refine jj_goto (tgt := 9) C dX1_tryRedemption_170 (by decide) ?_
                  refine jj_loc [0, 2, 1, 6, 7, 8, 9, 10] rfl ?_
                  exact ihL_1 pl_76 x_81 y_79 y_80 hok_77 hfr (by first | omega | decide | exact tt_lo _ | exact tt_hi _) (by first | omega | decide | exact tt_lo _ | exact tt_hi _) (by first | omega | decide | exact tt_lo _ | exact tt_hi _)
                · refine jj_lstore C dX1_tryRedemption_70 (by decide) rfl ?_
                  refine jj_aload_n C dX1_tryRedemption_72 rfl ?_
                  refine jj_aload_n C dX1_tryRedemption_73 rfl ?_
                  refine jj_aload_n C dX1_tryRedemption_74 rfl ?_
                  refine tt_get C hok_19 jk_3 0 (by decide) jw_81 (t := (2, 6, 0)) hk0 (by decide) rfl rfl dX1_tryRedemption_75 (fun v_82 hv_82 hf_83 => ?_)
                  obtain ⟨a_84, rfl, ka_84⟩ := tt_vr hv_82
                  refine jj_iload C dX1_tryRedemption_78 rfl ?_
                  refine tt_aald C hok_19 (t := (2, 2, 0)) ka_84 (by decide) rfl rfl rfl (vp_in_iff.mpr ⟨by omega, by omega⟩) dX1_tryRedemption_80 (fun v_85 hv_85 => ?_)
                  obtain ⟨a_86, rfl, ka_86⟩ := tt_vr hv_85
                  refine jj_aload C dX1_tryRedemption_81 rfl ?_
                  refine jj_lload C dX1_tryRedemption_83 rfl ?_
                  obtain ⟨qc, gs, hqc⟩ := tt_recv (cx := []) hok_19 hk0 (by decide) rfl
                  refine tt_callV (rest := []) C (tc_X1_quote_1 hl D cA ak h0 h1 a_86 a_14 y_3 hk0 hk1 ka_86 ka_14 hok_19) [] [] rfl rfl (by decide) (by decide) (by decide) qc hqc rfl rfl jw_147 jw_180 jw_181 jw_74 jw_148 jn_X1_quote rfl (jj_le rfl) (jj_le rfl) (jj_le rfl) (jj_le rfl) (jj_le rfl) dX1_tryRedemption_85 rfl (fun _ _ _ hX => hX.elim) (fun rx pl_87 r O_90 => ?_)
                  obtain ⟨rfl, hok_88, hr_89, hR_92⟩ := O_90
                  replace hf_6 := hr_89.at hk1 (by decide) (by decide) hf_6
                  replace hf_11 := hr_89.at hk1 (by decide) (by decide) hf_11
                  replace hf_16 := hr_89.at ka_14 (by decide) (by decide) hf_16
                  replace hf_32 := hr_89.at ka_14 (by decide) (by decide) hf_32
                  replace hf_38 := hr_89.at ka_14 (by decide) (by decide) hf_38
                  replace hf_83 := hr_89.at hk0 (by decide) (by decide) hf_83
                  replace hfr := hfr.trans (hr_89.sub (by decide))
                  obtain rfl := hR_92
                  refine jj_aload_n C dX1_tryRedemption_88 rfl ?_
                  refine tt_getF C hok_88 jk_3 0 (by decide) jw_81 (t := (2, 6, 0)) hk0 (by decide) rfl rfl hf_83 dX1_tryRedemption_89 ?_
                  refine jj_iload C dX1_tryRedemption_92 rfl ?_
                  refine tt_aald C hok_88 (t := (2, 2, 0)) ka_84 (by decide) rfl rfl rfl (vp_in_iff.mpr ⟨by omega, by omega⟩) dX1_tryRedemption_94 (fun v_93 hv_93 => ?_)
                  obtain ⟨a_94, rfl, ka_94⟩ := tt_vr hv_93
                  refine jj_dup C dX1_tryRedemption_95 rfl ?_
                  refine tt_get C hok_88 jk_9 2 (by decide) jw_113 (t := (1, (-9223372036854775808), 9223372036854775807)) ka_94 (by decide) rfl rfl dX1_tryRedemption_96 (fun v_95 hv_95 hf_96 => ?_)
                  obtain ⟨y_97, rfl, -, -⟩ := tt_vj hv_95
                  refine jj_aload_n C dX1_tryRedemption_99 rfl ?_
                  refine tt_get C hok_88 jk_3 1 (by decide) jw_158 (t := (1, (-9223372036854775808), 9223372036854775807)) hk0 (by decide) rfl rfl dX1_tryRedemption_100 (fun v_98 hv_98 hf_99 => ?_)
                  obtain ⟨y_100, rfl, -, -⟩ := tt_vj hv_98
                  refine jj_aload_n C dX1_tryRedemption_103 rfl ?_
                  refine tt_get C hok_88 jk_3 2 (by decide) jw_159 (t := (1, (-9223372036854775808), 9223372036854775807)) hk0 (by decide) rfl rfl dX1_tryRedemption_104 (fun v_101 hv_101 hf_102 => ?_)
                  obtain ⟨y_103, rfl, -, -⟩ := tt_vj hv_101
                  obtain ⟨y_104, ey_104⟩ : ∃ z : Int64, y_100 + y_103 = z := ⟨_, rfl⟩
                  refine jj_ladd (v := y_104) C dX1_tryRedemption_107 ey_104 ?_
                  obtain ⟨y_105, ey_105⟩ : ∃ z : Int64, y_97 - y_104 = z := ⟨_, rfl⟩
                  refine jj_lsub (v := y_105) C dX1_tryRedemption_108 ey_105 ?_
                  refine tt_put C hok_88 jk_9 2 (by decide) jw_113 (t := (1, (-9223372036854775808), 9223372036854775807)) ka_94 (by decide) rfl rfl rfl (tt_ja y_105) rfl rfl dX1_tryRedemption_109 (fun pl_106 hok_107 tr hn => ?_)
                  replace hf_6 := tr _ _ _ (Or.inl (tt_ne hk1 ka_94 (by decide))) hf_6
                  replace hf_11 := tr _ _ _ (Or.inl (tt_ne hk1 ka_94 (by decide))) hf_11
                  replace hf_16 := tr _ _ _ (Or.inl (tt_ne ka_14 ka_94 (by decide))) hf_16
                  replace hf_32 := tr _ _ _ (Or.inl (tt_ne ka_14 ka_94 (by decide))) hf_32
                  replace hf_38 := tr _ _ _ (Or.inl (tt_ne ka_14 ka_94 (by decide))) hf_38
                  replace hf_83 := tr _ _ _ (Or.inl (tt_ne hk0 ka_94 (by decide))) hf_83
                  replace hf_99 := tr _ _ _ (Or.inl (tt_ne hk0 ka_94 (by decide))) hf_99
                  replace hf_102 := tr _ _ _ (Or.inl (tt_ne hk0 ka_94 (by decide))) hf_102
                  have hf_108 := hn
                  replace hfr := hfr.put ka_94 tr (by decide)
                  refine jj_aload_n C dX1_tryRedemption_112 rfl ?_
                  refine tt_getF C hok_107 jk_3 0 (by decide) jw_81 (t := (2, 6, 0)) hk0 (by decide) rfl rfl hf_83 dX1_tryRedemption_113 ?_
                  refine jj_iload C dX1_tryRedemption_116 rfl ?_
                  refine tt_aald C hok_107 (t := (2, 2, 0)) ka_84 (by decide) rfl rfl rfl (vp_in_iff.mpr ⟨by omega, by omega⟩) dX1_tryRedemption_118 (fun v_109 hv_109 => ?_)
                  obtain ⟨a_110, rfl, ka_110⟩ := tt_vr hv_109
                  refine jj_dup C dX1_tryRedemption_119 rfl ?_
                  refine tt_get C hok_107 jk_9 3 (by decide) jw_157 (t := (1, (-9223372036854775808), 9223372036854775807)) ka_110 (by decide) rfl rfl dX1_tryRedemption_120 (fun v_111 hv_111 hf_112 => ?_)
                  obtain ⟨y_113, rfl, -, -⟩ := tt_vj hv_111
                  refine jj_lload C dX1_tryRedemption_123 rfl ?_
                  obtain ⟨y_114, ey_114⟩ : ∃ z : Int64, y_113 - y_3 = z := ⟨_, rfl⟩
                  refine jj_lsub (v := y_114) C dX1_tryRedemption_125 ey_114 ?_
                  refine tt_put C hok_107 jk_9 3 (by decide) jw_157 (t := (1, (-9223372036854775808), 9223372036854775807)) ka_110 (by decide) rfl rfl rfl (tt_ja y_114) rfl rfl dX1_tryRedemption_126 (fun pl_115 hok_116 tr hn => ?_)
                  replace hf_6 := tr _ _ _ (Or.inl (tt_ne hk1 ka_110 (by decide))) hf_6
                  replace hf_11 := tr _ _ _ (Or.inl (tt_ne hk1 ka_110 (by decide))) hf_11
                  replace hf_16 := tr _ _ _ (Or.inl (tt_ne ka_14 ka_110 (by decide))) hf_16
                  replace hf_32 := tr _ _ _ (Or.inl (tt_ne ka_14 ka_110 (by decide))) hf_32
                  replace hf_38 := tr _ _ _ (Or.inl (tt_ne ka_14 ka_110 (by decide))) hf_38
                  replace hf_83 := tr _ _ _ (Or.inl (tt_ne hk0 ka_110 (by decide))) hf_83
                  replace hf_99 := tr _ _ _ (Or.inl (tt_ne hk0 ka_110 (by decide))) hf_99
                  replace hf_102 := tr _ _ _ (Or.inl (tt_ne hk0 ka_110 (by decide))) hf_102
                  replace hf_108 := tr _ _ _ (Or.inr (by decide)) hf_108
                  have hf_117 := hn
                  replace hfr := hfr.put ka_110 tr (by decide)
                  refine jj_lload C dX1_tryRedemption_129 rfl ?_
                  refine jj_lload C dX1_tryRedemption_131 rfl ?_
                  obtain ⟨y_118, ey_118⟩ : ∃ z : Int64, y_3 - y_3 = z := ⟨_, rfl⟩
                  refine jj_lsub (v := y_118) C dX1_tryRedemption_133 ey_118 ?_
                  refine jj_lstore C dX1_tryRedemption_134 (by decide) rfl ?_
                  refine jj_lload C dX1_tryRedemption_136 rfl ?_
                  refine jj_iload C dX1_tryRedemption_138 rfl ?_
                  refine jj_if_eqT (tgt := 160) C dX1_tryRedemption_140 (by decide) (by decide) ?_
                  refine jj_aload_n C dX1_tryRedemption_160 rfl ?_
                  refine tt_getF C hok_116 jk_3 1 (by decide) jw_158 (t := (1, (-9223372036854775808), 9223372036854775807)) hk0 (by decide) rfl rfl hf_99 dX1_tryRedemption_161 ?_
                  obtain ⟨y_119, ey_119⟩ : ∃ z : Int64, y_4 + y_100 = z := ⟨_, rfl⟩
                  refine jj_ladd (v := y_119) C dX1_tryRedemption_164 ey_119 ?_
                  refine jj_lstore C dX1_tryRedemption_165 (by decide) rfl ?_
                  obtain ⟨x_120, ex_120, vx_120⟩ := tt_inc (x := x_2) (n := 1) (by omega) (by omega)
                  refine jj_iinc (v := x_120) C dX1_tryRedemption_167 rfl ex_120 (by decide) rfl ?_
                  refine jj_goto (tgt := 9) C dX1_tryRedemption_170 (by decide) ?_
                  refine jj_loc [0, 2, 1, 6, 7, 8, 9, 10] rfl ?_
                  exact ihL_1 pl_115 x_120 y_118 y_119 hok_116 hfr (by first | omega | decide | exact tt_lo _ | exact tt_hi _) (by first | omega | decide | exact tt_lo _ | exact tt_hi _) (by first | omega | decide | exact tt_lo _ | exact tt_hi _)
  exact hL_1 _ pl0 (0 : Int32) p3 (0 : Int64) trivial hok hfr (by first | omega | decide | exact tt_lo _ | exact tt_hi _) (by first | omega | decide | exact tt_lo _ | exact tt_hi _) (Int.self_le_toNat _)

set_option maxHeartbeats 4000000 in
set_option maxRecDepth 100000 in
theorem tc_X1_baseOfRedemptions_1 {l : Launch} (hl : l.stackTraces = false) (D : va_G) (cA : Nat → ClassId) (ak : (Nat → Nat) × (Nat → Nat)) {Kd : Nat → Nat} (h0 : Nat) (h1 : Nat) (hk0 : Kd h0 = 9) (hk1 : Kd h1 = 1) {pl0 : va_W} (hok : tt_ok tt_tk cA Kd pl0) : jj_M l D cA ak yX1_baseOfRedemptions (.code yX1_baseOfRedemptions cX1_baseOfRedemptions 6 (some .long)) 3 88 0 0 ([] ++ pl0) [.ref h0, .ref h1] (tt_O (fun rx pl1 r => rx = [] ∧ tt_ok tt_tk cA Kd pl1 ∧ tt_fr Kd [(2, 0), (2, 1), (2, 2), (2, 3), (2, 4), (9, 1), (9, 2), (9, 3), (9, 4), (9, 5)] pl0 pl1 ∧ ((∃ v : Int64, r = some (.long v))))) (tt_OX (fun _ _ _ => False)) := by
  refine jj_start hl (by decide) jw_73 (jj_le rfl) ?_
  intro p e s m args below meth c A hargs hA C hex hmn
  have hfr := tt_fr.refl (K := Kd) (WS := [(2, 0), (2, 1), (2, 2), (2, 3), (2, 4), (9, 1), (9, 2), (9, 3), (9, 4), (9, 5)]) pl0
  refine jj_lconst (v := 0) C dX1_baseOfRedemptions_0 (by decide) ?_
  refine jj_lstore_n C dX1_baseOfRedemptions_1 (by decide) rfl ?_
  refine jj_iconst (v := 0) C dX1_baseOfRedemptions_2 (by decide) ?_
  refine jj_istore C dX1_baseOfRedemptions_3 (by decide) rfl ?_
  have hL_1 : ∀ (N : Nat) (pl : va_W) (x_2 : Int32) (y_3 : Int64), True → tt_ok tt_tk cA Kd pl → tt_fr Kd [(2, 0), (2, 1), (2, 2), (2, 3), (2, 4), (9, 1), (9, 2), (9, 3), (9, 4), (9, 5)] pl0 pl → (0 : Int) ≤ x_2.toInt → x_2.toInt ≤ 12 → (2147483648 - x_2.toInt ≤ (N : Int)) → jj_J p l e (jj_rm 3 88 0 0) s m args below meth c 6 A (vx_MQ below (jj_q D A (tt_O (fun rx pl1 r => rx = [] ∧ tt_ok tt_tk cA Kd pl1 ∧ tt_fr Kd [(2, 0), (2, 1), (2, 2), (2, 3), (2, 4), (9, 1), (9, 2), (9, 3), (9, 4), (9, 5)] pl0 pl1 ∧ ((∃ v : Int64, r = some (.long v)))))) (jj_x D A (tt_OX (fun _ _ _ => False))) args s 0 0 A) (jj_X D A ([] ++ pl)) 0 0 5 [(4, .int x_2), (2, .long y_3), (0, .ref h0), (1, .ref h1)] [] := by
    intro NL_1
    induction NL_1 with
    | zero => intro pl x_2 y_3 _ hok hfr lx_2 ux_2 hNL_1; exfalso; omega
    | succ NL_1 ihL_1 =>
      intro pl x_2 y_3 _ hok hfr lx_2 ux_2 hNL_1
      replace ihL_1 := fun pl x_2 y_3 h1 => ihL_1 pl x_2 y_3 trivial h1
      refine jj_iload C dX1_baseOfRedemptions_5 rfl ?_
      refine jj_aload_n C dX1_baseOfRedemptions_7 rfl ?_
      refine tt_get C hok jk_2 9 (by decide) jw_75 (t := (0, 0, 12)) hk1 (by decide) rfl rfl dX1_baseOfRedemptions_8 (fun v_4 hv_4 hf_5 => ?_)
      obtain ⟨x_6, rfl, lx_6, ux_6⟩ := tt_vi hv_4
      refine jj_icmp_ge (tgt := 62) C dX1_baseOfRedemptions_11 (by decide) (fun c_7 => ?_) (fun c_7 => ?_)
      · have z_c_7 := jc_le (a := (x_6).toInt) (b := (x_2).toInt) c_7 rfl rfl
        refine jj_lload_n C dX1_baseOfRedemptions_62 rfl ?_
        exact jj_lret C ⟨[], pl, rfl, rfl, hok, hfr, ⟨y_3, rfl⟩⟩ dX1_baseOfRedemptions_63 (jj_le rfl) (jj_le rfl)
      · have z_c_7 := jc_nle (a := (x_6).toInt) (b := (x_2).toInt) c_7 rfl rfl
        refine jj_aload_n C dX1_baseOfRedemptions_14 rfl ?_
        refine tt_get C hok jk_2 13 (by decide) jw_76 (t := (2, 8, 0)) hk1 (by decide) rfl rfl dX1_baseOfRedemptions_15 (fun v_8 hv_8 hf_9 => ?_)
        obtain ⟨a_10, rfl, ka_10⟩ := tt_vr hv_8
        refine jj_iload C dX1_baseOfRedemptions_18 rfl ?_
        refine tt_aald C hok (t := (2, 4, 0)) ka_10 (by decide) rfl rfl rfl (vp_in_iff.mpr ⟨by omega, by omega⟩) dX1_baseOfRedemptions_20 (fun v_11 hv_11 => ?_)
        obtain ⟨a_12, rfl, ka_12⟩ := tt_vr hv_11
        refine jj_astore C dX1_baseOfRedemptions_21 (by decide) rfl ?_
        refine jj_aload C dX1_baseOfRedemptions_23 rfl ?_
        refine tt_get C hok jk_7 2 (by decide) jw_77 (t := (0, 0, 1)) ka_12 (by decide) rfl rfl dX1_baseOfRedemptions_25 (fun v_13 hv_13 hf_14 => ?_)
        obtain ⟨x_15, rfl, lx_15, ux_15⟩ := tt_vi hv_13
        refine jj_if_eq (tgt := 56) C dX1_baseOfRedemptions_28 (by decide) (fun c_16 => ?_) (fun c_16 => ?_)
        · have z_c_16 := jc_eq (a := (x_15).toInt) (b := (0)) c_16 rfl (by decide)
          obtain ⟨x_17, ex_17, vx_17⟩ := tt_inc (x := x_2) (n := 1) (by omega) (by omega)
          refine jj_iinc (v := x_17) C dX1_baseOfRedemptions_56 rfl ex_17 (by decide) rfl ?_
          refine jj_goto (tgt := 5) C dX1_baseOfRedemptions_59 (by decide) ?_
          refine jj_loc [0, 2, 3, 4] rfl ?_
          exact ihL_1 pl x_17 y_3 hok hfr (by first | omega | decide | exact tt_lo _ | exact tt_hi _) (by first | omega | decide | exact tt_lo _ | exact tt_hi _) (by first | omega | decide | exact tt_lo _ | exact tt_hi _)
        · have z_c_16 := jc_neq (a := (x_15).toInt) (b := (0)) c_16 rfl (by decide)
          refine jj_aload_n C dX1_baseOfRedemptions_31 rfl ?_
          refine jj_aload_n C dX1_baseOfRedemptions_32 rfl ?_
          refine jj_iconst (v := 0) C dX1_baseOfRedemptions_33 (by decide) ?_
          obtain ⟨qc, gs, hqc⟩ := tt_recv (cx := []) hok hk0 (by decide) rfl
          refine tt_callV (rest := []) C (tc_X1_resetTrial_1 hl D cA ak h0 h1 hk0 hk1 hok) [] [] rfl rfl (by decide) (by decide) (by decide) qc hqc rfl rfl jw_78 jw_114 jw_115 jw_74 jw_79 jn_X1_resetTrial rfl (jj_le rfl) (jj_le rfl) (jj_le rfl) (jj_le rfl) (jj_le rfl) dX1_baseOfRedemptions_34 rfl (fun _ _ _ hX => hX.elim) (fun rx pl_18 r O_21 => ?_)
          obtain ⟨rfl, hok_19, hr_20, hR_23⟩ := O_21
          replace hf_5 := hr_20.at hk1 (by decide) (by decide) hf_5
          replace hf_9 := hr_20.at hk1 (by decide) (by decide) hf_9
          replace hf_14 := hr_20.at ka_12 (by decide) (by decide) hf_14
          replace hfr := hfr.trans (hr_20.sub (by decide))
          obtain rfl := hR_23
          refine jj_lload_n C dX1_baseOfRedemptions_37 rfl ?_
          refine jj_aload_n C dX1_baseOfRedemptions_38 rfl ?_
          refine jj_aload_n C dX1_baseOfRedemptions_39 rfl ?_
          refine jj_aload C dX1_baseOfRedemptions_40 rfl ?_
          refine tt_get C hok_19 jk_7 0 (by decide) jw_117 (t := (0, (-2147483648), 2147483647)) ka_12 (by decide) rfl rfl dX1_baseOfRedemptions_42 (fun v_24 hv_24 hf_25 => ?_)
          obtain ⟨x_26, rfl, lx_26, ux_26⟩ := tt_vi hv_24
          refine jj_aload C dX1_baseOfRedemptions_45 rfl ?_
          refine tt_get C hok_19 jk_7 3 (by decide) jw_118 (t := (1, (-9223372036854775808), 9223372036854775807)) ka_12 (by decide) rfl rfl dX1_baseOfRedemptions_47 (fun v_27 hv_27 hf_28 => ?_)
          obtain ⟨y_29, rfl, -, -⟩ := tt_vj hv_27
          refine jj_iconst (v := 0) C dX1_baseOfRedemptions_50 (by decide) ?_
          obtain ⟨qc, gs, hqc⟩ := tt_recv (cx := []) hok_19 hk0 (by decide) rfl
          refine tt_callV (rest := [.long y_3]) C (tc_X1_tryRedemption_1 hl D cA ak h0 h1 x_26 y_29 hk0 hk1 hok_19) [] [] rfl rfl (by decide) (by decide) (by decide) qc hqc rfl rfl jw_119 jw_183 jw_184 jw_74 jw_120 jn_X1_tryRedemption rfl (jj_le rfl) (jj_le rfl) (jj_le rfl) (jj_le rfl) (jj_le rfl) dX1_baseOfRedemptions_51 rfl (fun _ _ _ hX => hX.elim) (fun rx pl_30 r O_33 => ?_)
          obtain ⟨rfl, hok_31, hr_32, hR_35⟩ := O_33
          replace hf_5 := hr_32.at hk1 (by decide) (by decide) hf_5
          replace hf_9 := hr_32.at hk1 (by decide) (by decide) hf_9
          replace hf_14 := hr_32.at ka_12 (by decide) (by decide) hf_14
          replace hf_25 := hr_32.at ka_12 (by decide) (by decide) hf_25
          replace hf_28 := hr_32.at ka_12 (by decide) (by decide) hf_28
          replace hfr := hfr.trans (hr_32.sub (by decide))
          obtain ⟨y_36, rfl⟩ := hR_35
          obtain ⟨y_37, ey_37⟩ : ∃ z : Int64, y_3 + y_36 = z := ⟨_, rfl⟩
          refine jj_ladd (v := y_37) C dX1_baseOfRedemptions_54 ey_37 ?_
          refine jj_lstore_n C dX1_baseOfRedemptions_55 (by decide) rfl ?_
          obtain ⟨x_38, ex_38, vx_38⟩ := tt_inc (x := x_2) (n := 1) (by omega) (by omega)
          refine jj_iinc (v := x_38) C dX1_baseOfRedemptions_56 rfl ex_38 (by decide) rfl ?_
          refine jj_goto (tgt := 5) C dX1_baseOfRedemptions_59 (by decide) ?_
          refine jj_loc [0, 1, 3, 4] rfl ?_
          exact ihL_1 pl_30 x_38 y_37 hok_31 hfr (by first | omega | decide | exact tt_lo _ | exact tt_hi _) (by first | omega | decide | exact tt_lo _ | exact tt_hi _) (by first | omega | decide | exact tt_lo _ | exact tt_hi _)
  exact hL_1 _ pl0 (0 : Int32) (0 : Int64) trivial hok hfr (by first | omega | decide | exact tt_lo _ | exact tt_hi _) (by first | omega | decide | exact tt_lo _ | exact tt_hi _) (Int.self_le_toNat _)

set_option maxHeartbeats 4000000 in
set_option maxRecDepth 100000 in
theorem tc_X6_copyFrom_1 {l : Launch} (hl : l.stackTraces = false) (D : va_G) (cA : Nat → ClassId) (ak : (Nat → Nat) × (Nat → Nat)) {Kd : Nat → Nat} (h0 : Nat) (h1 : Nat) (hk0 : Kd h0 = 4) (hk1 : Kd h1 = 4) {pl0 : va_W} (hok : tt_ok tt_tk cA Kd pl0) : jj_M l D cA ak yX6_copyFrom (.code yX6_copyFrom cX6_copyFrom 2 none) 0 0 0 0 ([] ++ pl0) [.ref h0, .ref h1] (tt_O (fun rx pl1 r => rx = [] ∧ tt_ok tt_tk cA Kd pl1 ∧ tt_fr Kd [(4, 0), (4, 1), (4, 2), (4, 3), (4, 4)] pl0 pl1 ∧ ((r = none)))) (tt_OX (fun _ _ _ => False)) := by
  refine jj_start hl (by decide) jw_204 (jj_le rfl) ?_
  intro p e s m args below meth c A hargs hA C hex hmn
  have hfr := tt_fr.refl (K := Kd) (WS := [(4, 0), (4, 1), (4, 2), (4, 3), (4, 4)]) pl0
  refine jj_aload_n C dX6_copyFrom_0 rfl ?_
  refine jj_aload_n C dX6_copyFrom_1 rfl ?_
  refine tt_get C hok jk_7 0 (by decide) jw_206 (t := (0, (-2147483648), 2147483647)) hk1 (by decide) rfl rfl dX6_copyFrom_2 (fun v_1 hv_1 hf_2 => ?_)
  obtain ⟨x_3, rfl, lx_3, ux_3⟩ := tt_vi hv_1
  refine tt_put C hok jk_7 0 (by decide) jw_206 (t := (0, (-2147483648), 2147483647)) hk0 (by decide) rfl rfl rfl (tt_ia x_3) rfl rfl dX6_copyFrom_5 (fun pl_4 hok_5 tr hn => ?_)
  have hf_6 := hn
  replace hfr := hfr.put hk0 tr (by decide)
  refine jj_aload_n C dX6_copyFrom_8 rfl ?_
  refine jj_aload_n C dX6_copyFrom_9 rfl ?_
  refine tt_get C hok_5 jk_7 1 (by decide) jw_207 (t := (0, (-2147483648), 2147483647)) hk1 (by decide) rfl rfl dX6_copyFrom_10 (fun v_7 hv_7 hf_8 => ?_)
  obtain ⟨x_9, rfl, lx_9, ux_9⟩ := tt_vi hv_7
  refine tt_put C hok_5 jk_7 1 (by decide) jw_207 (t := (0, (-2147483648), 2147483647)) hk0 (by decide) rfl rfl rfl (tt_ia x_9) rfl rfl dX6_copyFrom_13 (fun pl_10 hok_11 tr hn => ?_)
  replace hf_6 := tr _ _ _ (Or.inr (by decide)) hf_6
  have hf_12 := hn
  replace hfr := hfr.put hk0 tr (by decide)
  refine jj_aload_n C dX6_copyFrom_16 rfl ?_
  refine jj_aload_n C dX6_copyFrom_17 rfl ?_
  refine tt_get C hok_11 jk_7 2 (by decide) jw_208 (t := (0, 0, 1)) hk1 (by decide) rfl rfl dX6_copyFrom_18 (fun v_13 hv_13 hf_14 => ?_)
  obtain ⟨x_15, rfl, lx_15, ux_15⟩ := tt_vi hv_13
  refine tt_put C hok_11 jk_7 2 (by decide) jw_208 (t := (0, 0, 1)) hk0 (by decide) rfl rfl rfl (tt_iv (by omega) (by omega)) (tt_narZ (by omega) (by omega)) (tt_fitZ (by omega) (by omega)) dX6_copyFrom_21 (fun pl_16 hok_17 tr hn => ?_)
  replace hf_6 := tr _ _ _ (Or.inr (by decide)) hf_6
  replace hf_12 := tr _ _ _ (Or.inr (by decide)) hf_12
  have hf_18 := hn
  replace hfr := hfr.put hk0 tr (by decide)
  refine jj_aload_n C dX6_copyFrom_24 rfl ?_
  refine jj_aload_n C dX6_copyFrom_25 rfl ?_
  refine tt_get C hok_17 jk_7 3 (by decide) jw_209 (t := (1, (-9223372036854775808), 9223372036854775807)) hk1 (by decide) rfl rfl dX6_copyFrom_26 (fun v_19 hv_19 hf_20 => ?_)
  obtain ⟨y_21, rfl, -, -⟩ := tt_vj hv_19
  refine tt_put C hok_17 jk_7 3 (by decide) jw_209 (t := (1, (-9223372036854775808), 9223372036854775807)) hk0 (by decide) rfl rfl rfl (tt_ja y_21) rfl rfl dX6_copyFrom_29 (fun pl_22 hok_23 tr hn => ?_)
  replace hf_6 := tr _ _ _ (Or.inr (by decide)) hf_6
  replace hf_12 := tr _ _ _ (Or.inr (by decide)) hf_12
  replace hf_18 := tr _ _ _ (Or.inr (by decide)) hf_18
  have hf_24 := hn
  replace hfr := hfr.put hk0 tr (by decide)
  refine jj_aload_n C dX6_copyFrom_32 rfl ?_
  refine jj_aload_n C dX6_copyFrom_33 rfl ?_
  refine tt_get C hok_23 jk_7 4 (by decide) jw_210 (t := (1, (-9223372036854775808), 9223372036854775807)) hk1 (by decide) rfl rfl dX6_copyFrom_34 (fun v_25 hv_25 hf_26 => ?_)
  obtain ⟨y_27, rfl, -, -⟩ := tt_vj hv_25
  refine tt_put C hok_23 jk_7 4 (by decide) jw_210 (t := (1, (-9223372036854775808), 9223372036854775807)) hk0 (by decide) rfl rfl rfl (tt_ja y_27) rfl rfl dX6_copyFrom_37 (fun pl_28 hok_29 tr hn => ?_)
  replace hf_6 := tr _ _ _ (Or.inr (by decide)) hf_6
  replace hf_12 := tr _ _ _ (Or.inr (by decide)) hf_12
  replace hf_18 := tr _ _ _ (Or.inr (by decide)) hf_18
  replace hf_24 := tr _ _ _ (Or.inr (by decide)) hf_24
  have hf_30 := hn
  replace hfr := hfr.put hk0 tr (by decide)
  exact jj_vret C ⟨[], pl_28, rfl, rfl, hok_29, hfr, rfl⟩ dX6_copyFrom_40 (jj_le rfl) (jj_le rfl)

set_option maxHeartbeats 4000000 in
set_option maxRecDepth 100000 in
theorem tc_X4_copyFrom_1 {l : Launch} (hl : l.stackTraces = false) (D : va_G) (cA : Nat → ClassId) (ak : (Nat → Nat) × (Nat → Nat)) {Kd : Nat → Nat} (h0 : Nat) (h1 : Nat) (hk0 : Kd h0 = 3) (hk1 : Kd h1 = 3) {pl0 : va_W} (hok : tt_ok tt_tk cA Kd pl0) : jj_M l D cA ak yX4_copyFrom (.code yX4_copyFrom cX4_copyFrom 2 none) 0 0 0 0 ([] ++ pl0) [.ref h0, .ref h1] (tt_O (fun rx pl1 r => rx = [] ∧ tt_ok tt_tk cA Kd pl1 ∧ tt_fr Kd [(3, 0), (3, 1), (3, 2), (3, 3), (3, 4), (3, 5)] pl0 pl1 ∧ ((r = none)))) (tt_OX (fun _ _ _ => False)) := by
  refine jj_start hl (by decide) jw_216 (jj_le rfl) ?_
  intro p e s m args below meth c A hargs hA C hex hmn
  have hfr := tt_fr.refl (K := Kd) (WS := [(3, 0), (3, 1), (3, 2), (3, 3), (3, 4), (3, 5)]) pl0
  refine jj_aload_n C dX4_copyFrom_0 rfl ?_
  refine jj_aload_n C dX4_copyFrom_1 rfl ?_
  refine tt_get C hok jk_5 0 (by decide) jw_218 (t := (0, (-2147483648), 2147483647)) hk1 (by decide) rfl rfl dX4_copyFrom_2 (fun v_1 hv_1 hf_2 => ?_)
  obtain ⟨x_3, rfl, lx_3, ux_3⟩ := tt_vi hv_1
  refine tt_put C hok jk_5 0 (by decide) jw_218 (t := (0, (-2147483648), 2147483647)) hk0 (by decide) rfl rfl rfl (tt_ia x_3) rfl rfl dX4_copyFrom_5 (fun pl_4 hok_5 tr hn => ?_)
  have hf_6 := hn
  replace hfr := hfr.put hk0 tr (by decide)
  refine jj_aload_n C dX4_copyFrom_8 rfl ?_
  refine jj_aload_n C dX4_copyFrom_9 rfl ?_
  refine tt_get C hok_5 jk_5 1 (by decide) jw_219 (t := (0, (-2147483648), 2147483647)) hk1 (by decide) rfl rfl dX4_copyFrom_10 (fun v_7 hv_7 hf_8 => ?_)
  obtain ⟨x_9, rfl, lx_9, ux_9⟩ := tt_vi hv_7
  refine tt_put C hok_5 jk_5 1 (by decide) jw_219 (t := (0, (-2147483648), 2147483647)) hk0 (by decide) rfl rfl rfl (tt_ia x_9) rfl rfl dX4_copyFrom_13 (fun pl_10 hok_11 tr hn => ?_)
  replace hf_6 := tr _ _ _ (Or.inr (by decide)) hf_6
  have hf_12 := hn
  replace hfr := hfr.put hk0 tr (by decide)
  refine jj_aload_n C dX4_copyFrom_16 rfl ?_
  refine jj_aload_n C dX4_copyFrom_17 rfl ?_
  refine tt_get C hok_11 jk_5 2 (by decide) jw_220 (t := (0, (-2147483648), 2147483647)) hk1 (by decide) rfl rfl dX4_copyFrom_18 (fun v_13 hv_13 hf_14 => ?_)
  obtain ⟨x_15, rfl, lx_15, ux_15⟩ := tt_vi hv_13
  refine tt_put C hok_11 jk_5 2 (by decide) jw_220 (t := (0, (-2147483648), 2147483647)) hk0 (by decide) rfl rfl rfl (tt_ia x_15) rfl rfl dX4_copyFrom_21 (fun pl_16 hok_17 tr hn => ?_)
  replace hf_6 := tr _ _ _ (Or.inr (by decide)) hf_6
  replace hf_12 := tr _ _ _ (Or.inr (by decide)) hf_12
  have hf_18 := hn
  replace hfr := hfr.put hk0 tr (by decide)
  refine jj_aload_n C dX4_copyFrom_24 rfl ?_
  refine jj_aload_n C dX4_copyFrom_25 rfl ?_
  refine tt_get C hok_17 jk_5 3 (by decide) jw_221 (t := (1, (-9223372036854775808), 9223372036854775807)) hk1 (by decide) rfl rfl dX4_copyFrom_26 (fun v_19 hv_19 hf_20 => ?_)
  obtain ⟨y_21, rfl, -, -⟩ := tt_vj hv_19
  refine tt_put C hok_17 jk_5 3 (by decide) jw_221 (t := (1, (-9223372036854775808), 9223372036854775807)) hk0 (by decide) rfl rfl rfl (tt_ja y_21) rfl rfl dX4_copyFrom_29 (fun pl_22 hok_23 tr hn => ?_)
  replace hf_6 := tr _ _ _ (Or.inr (by decide)) hf_6
  replace hf_12 := tr _ _ _ (Or.inr (by decide)) hf_12
  replace hf_18 := tr _ _ _ (Or.inr (by decide)) hf_18
  have hf_24 := hn
  replace hfr := hfr.put hk0 tr (by decide)
  refine jj_aload_n C dX4_copyFrom_32 rfl ?_
  refine jj_aload_n C dX4_copyFrom_33 rfl ?_
  refine tt_get C hok_23 jk_5 4 (by decide) jw_222 (t := (1, (-9223372036854775808), 9223372036854775807)) hk1 (by decide) rfl rfl dX4_copyFrom_34 (fun v_25 hv_25 hf_26 => ?_)
  obtain ⟨y_27, rfl, -, -⟩ := tt_vj hv_25
  refine tt_put C hok_23 jk_5 4 (by decide) jw_222 (t := (1, (-9223372036854775808), 9223372036854775807)) hk0 (by decide) rfl rfl rfl (tt_ja y_27) rfl rfl dX4_copyFrom_37 (fun pl_28 hok_29 tr hn => ?_)
  replace hf_6 := tr _ _ _ (Or.inr (by decide)) hf_6
  replace hf_12 := tr _ _ _ (Or.inr (by decide)) hf_12
  replace hf_18 := tr _ _ _ (Or.inr (by decide)) hf_18
  replace hf_24 := tr _ _ _ (Or.inr (by decide)) hf_24
  have hf_30 := hn
  replace hfr := hfr.put hk0 tr (by decide)
  refine jj_aload_n C dX4_copyFrom_40 rfl ?_
  refine jj_aload_n C dX4_copyFrom_41 rfl ?_
  refine tt_get C hok_29 jk_5 5 (by decide) jw_223 (t := (1, (-9223372036854775808), 9223372036854775807)) hk1 (by decide) rfl rfl dX4_copyFrom_42 (fun v_31 hv_31 hf_32 => ?_)
  obtain ⟨y_33, rfl, -, -⟩ := tt_vj hv_31
  refine tt_put C hok_29 jk_5 5 (by decide) jw_223 (t := (1, (-9223372036854775808), 9223372036854775807)) hk0 (by decide) rfl rfl rfl (tt_ja y_33) rfl rfl dX4_copyFrom_45 (fun pl_34 hok_35 tr hn => ?_)
  replace hf_6 := tr _ _ _ (Or.inr (by decide)) hf_6
  replace hf_12 := tr _ _ _ (Or.inr (by decide)) hf_12
  replace hf_18 := tr _ _ _ (Or.inr (by decide)) hf_18
  replace hf_24 := tr _ _ _ (Or.inr (by decide)) hf_24
  replace hf_30 := tr _ _ _ (Or.inr (by decide)) hf_30
  have hf_36 := hn
  replace hfr := hfr.put hk0 tr (by decide)
  exact jj_vret C ⟨[], pl_34, rfl, rfl, hok_35, hfr, rfl⟩ dX4_copyFrom_48 (jj_le rfl) (jj_le rfl)

set_option maxHeartbeats 4000000 in
set_option maxRecDepth 100000 in
theorem tc_X0_copyFrom_1 {l : Launch} (hl : l.stackTraces = false) (D : va_G) (cA : Nat → ClassId) (ak : (Nat → Nat) × (Nat → Nat)) {Kd : Nat → Nat} (h0 : Nat) (h1 : Nat) (hk0 : Kd h0 = 1) (hk1 : Kd h1 = 1) {pl0 : va_W} (hok : tt_ok tt_tk cA Kd pl0) : jj_M l D cA ak yX0_copyFrom (.code yX0_copyFrom cX0_copyFrom 3 none) 1 21 0 0 ([] ++ pl0) [.ref h0, .ref h1] (tt_O (fun rx pl1 r => rx = [] ∧ tt_ok tt_tk cA Kd pl1 ∧ tt_fr Kd [(1, 0), (1, 1), (1, 2), (1, 3), (1, 4), (1, 5), (1, 6), (1, 7), (1, 8), (1, 9), (2, 0), (2, 1), (2, 2), (2, 3), (2, 4), (3, 0), (3, 1), (3, 2), (3, 3), (3, 4), (3, 5), (4, 0), (4, 1), (4, 2), (4, 3), (4, 4)] pl0 pl1 ∧ ((r = none)))) (tt_OX (fun _ _ _ => False)) := by
  refine jj_start hl (by decide) jw_191 (jj_le rfl) ?_
  intro p e s m args below meth c A hargs hA C hex hmn
  have hfr := tt_fr.refl (K := Kd) (WS := [(1, 0), (1, 1), (1, 2), (1, 3), (1, 4), (1, 5), (1, 6), (1, 7), (1, 8), (1, 9), (2, 0), (2, 1), (2, 2), (2, 3), (2, 4), (3, 0), (3, 1), (3, 2), (3, 3), (3, 4), (3, 5), (4, 0), (4, 1), (4, 2), (4, 3), (4, 4)]) pl0
  refine jj_aload_n C dX0_copyFrom_0 rfl ?_
  refine jj_aload_n C dX0_copyFrom_1 rfl ?_
  refine tt_get C hok jk_2 0 (by decide) jw_192 (t := (0, (-2147483648), 2147483647)) hk1 (by decide) rfl rfl dX0_copyFrom_2 (fun v_1 hv_1 hf_2 => ?_)
  obtain ⟨x_3, rfl, lx_3, ux_3⟩ := tt_vi hv_1
  refine tt_put C hok jk_2 0 (by decide) jw_192 (t := (0, (-2147483648), 2147483647)) hk0 (by decide) rfl rfl rfl (tt_ia x_3) rfl rfl dX0_copyFrom_5 (fun pl_4 hok_5 tr hn => ?_)
  have hf_6 := hn
  replace hfr := hfr.put hk0 tr (by decide)
  refine jj_aload_n C dX0_copyFrom_8 rfl ?_
  refine jj_aload_n C dX0_copyFrom_9 rfl ?_
  refine tt_get C hok_5 jk_2 1 (by decide) jw_193 (t := (0, (-2147483648), 2147483647)) hk1 (by decide) rfl rfl dX0_copyFrom_10 (fun v_7 hv_7 hf_8 => ?_)
  obtain ⟨x_9, rfl, lx_9, ux_9⟩ := tt_vi hv_7
  refine tt_put C hok_5 jk_2 1 (by decide) jw_193 (t := (0, (-2147483648), 2147483647)) hk0 (by decide) rfl rfl rfl (tt_ia x_9) rfl rfl dX0_copyFrom_13 (fun pl_10 hok_11 tr hn => ?_)
  replace hf_6 := tr _ _ _ (Or.inr (by decide)) hf_6
  have hf_12 := hn
  replace hfr := hfr.put hk0 tr (by decide)
  refine jj_aload_n C dX0_copyFrom_16 rfl ?_
  refine jj_aload_n C dX0_copyFrom_17 rfl ?_
  refine tt_get C hok_11 jk_2 2 (by decide) jw_194 (t := (0, (-2147483648), 2147483647)) hk1 (by decide) rfl rfl dX0_copyFrom_18 (fun v_13 hv_13 hf_14 => ?_)
  obtain ⟨x_15, rfl, lx_15, ux_15⟩ := tt_vi hv_13
  refine tt_put C hok_11 jk_2 2 (by decide) jw_194 (t := (0, (-2147483648), 2147483647)) hk0 (by decide) rfl rfl rfl (tt_ia x_15) rfl rfl dX0_copyFrom_21 (fun pl_16 hok_17 tr hn => ?_)
  replace hf_6 := tr _ _ _ (Or.inr (by decide)) hf_6
  replace hf_12 := tr _ _ _ (Or.inr (by decide)) hf_12
  have hf_18 := hn
  replace hfr := hfr.put hk0 tr (by decide)
  refine jj_aload_n C dX0_copyFrom_24 rfl ?_
  refine jj_aload_n C dX0_copyFrom_25 rfl ?_
  refine tt_get C hok_17 jk_2 3 (by decide) jw_195 (t := (0, (-2147483648), 2147483647)) hk1 (by decide) rfl rfl dX0_copyFrom_26 (fun v_19 hv_19 hf_20 => ?_)
  obtain ⟨x_21, rfl, lx_21, ux_21⟩ := tt_vi hv_19
  refine tt_put C hok_17 jk_2 3 (by decide) jw_195 (t := (0, (-2147483648), 2147483647)) hk0 (by decide) rfl rfl rfl (tt_ia x_21) rfl rfl dX0_copyFrom_29 (fun pl_22 hok_23 tr hn => ?_)
  replace hf_6 := tr _ _ _ (Or.inr (by decide)) hf_6
  replace hf_12 := tr _ _ _ (Or.inr (by decide)) hf_12
  replace hf_18 := tr _ _ _ (Or.inr (by decide)) hf_18
  have hf_24 := hn
  replace hfr := hfr.put hk0 tr (by decide)
  refine jj_aload_n C dX0_copyFrom_32 rfl ?_
  refine jj_aload_n C dX0_copyFrom_33 rfl ?_
  refine tt_get C hok_23 jk_2 4 (by decide) jw_196 (t := (0, (-2147483648), 2147483647)) hk1 (by decide) rfl rfl dX0_copyFrom_34 (fun v_25 hv_25 hf_26 => ?_)
  obtain ⟨x_27, rfl, lx_27, ux_27⟩ := tt_vi hv_25
  refine tt_put C hok_23 jk_2 4 (by decide) jw_196 (t := (0, (-2147483648), 2147483647)) hk0 (by decide) rfl rfl rfl (tt_ia x_27) rfl rfl dX0_copyFrom_37 (fun pl_28 hok_29 tr hn => ?_)
  replace hf_6 := tr _ _ _ (Or.inr (by decide)) hf_6
  replace hf_12 := tr _ _ _ (Or.inr (by decide)) hf_12
  replace hf_18 := tr _ _ _ (Or.inr (by decide)) hf_18
  replace hf_24 := tr _ _ _ (Or.inr (by decide)) hf_24
  have hf_30 := hn
  replace hfr := hfr.put hk0 tr (by decide)
  refine jj_aload_n C dX0_copyFrom_40 rfl ?_
  refine jj_aload_n C dX0_copyFrom_41 rfl ?_
  refine tt_get C hok_29 jk_2 5 (by decide) jw_197 (t := (0, (-2147483648), 2147483647)) hk1 (by decide) rfl rfl dX0_copyFrom_42 (fun v_31 hv_31 hf_32 => ?_)
  obtain ⟨x_33, rfl, lx_33, ux_33⟩ := tt_vi hv_31
  refine tt_put C hok_29 jk_2 5 (by decide) jw_197 (t := (0, (-2147483648), 2147483647)) hk0 (by decide) rfl rfl rfl (tt_ia x_33) rfl rfl dX0_copyFrom_45 (fun pl_34 hok_35 tr hn => ?_)
  replace hf_6 := tr _ _ _ (Or.inr (by decide)) hf_6
  replace hf_12 := tr _ _ _ (Or.inr (by decide)) hf_12
  replace hf_18 := tr _ _ _ (Or.inr (by decide)) hf_18
  replace hf_24 := tr _ _ _ (Or.inr (by decide)) hf_24
  replace hf_30 := tr _ _ _ (Or.inr (by decide)) hf_30
  have hf_36 := hn
  replace hfr := hfr.put hk0 tr (by decide)
  refine jj_aload_n C dX0_copyFrom_48 rfl ?_
  refine jj_aload_n C dX0_copyFrom_49 rfl ?_
  refine tt_get C hok_35 jk_2 6 (by decide) jw_198 (t := (0, (-2147483648), 2147483647)) hk1 (by decide) rfl rfl dX0_copyFrom_50 (fun v_37 hv_37 hf_38 => ?_)
  obtain ⟨x_39, rfl, lx_39, ux_39⟩ := tt_vi hv_37
  refine tt_put C hok_35 jk_2 6 (by decide) jw_198 (t := (0, (-2147483648), 2147483647)) hk0 (by decide) rfl rfl rfl (tt_ia x_39) rfl rfl dX0_copyFrom_53 (fun pl_40 hok_41 tr hn => ?_)
  replace hf_6 := tr _ _ _ (Or.inr (by decide)) hf_6
  replace hf_12 := tr _ _ _ (Or.inr (by decide)) hf_12
  replace hf_18 := tr _ _ _ (Or.inr (by decide)) hf_18
  replace hf_24 := tr _ _ _ (Or.inr (by decide)) hf_24
  replace hf_30 := tr _ _ _ (Or.inr (by decide)) hf_30
  replace hf_36 := tr _ _ _ (Or.inr (by decide)) hf_36
  have hf_42 := hn
  replace hfr := hfr.put hk0 tr (by decide)
  refine jj_aload_n C dX0_copyFrom_56 rfl ?_
  refine jj_aload_n C dX0_copyFrom_57 rfl ?_
  refine tt_get C hok_41 jk_2 7 (by decide) jw_134 (t := (0, 0, 6)) hk1 (by decide) rfl rfl dX0_copyFrom_58 (fun v_43 hv_43 hf_44 => ?_)
  obtain ⟨x_45, rfl, lx_45, ux_45⟩ := tt_vi hv_43
  refine tt_put C hok_41 jk_2 7 (by decide) jw_134 (t := (0, 0, 6)) hk0 (by decide) rfl rfl rfl (tt_iv (by omega) (by omega)) rfl rfl dX0_copyFrom_61 (fun pl_46 hok_47 tr hn => ?_)
  replace hf_6 := tr _ _ _ (Or.inr (by decide)) hf_6
  replace hf_12 := tr _ _ _ (Or.inr (by decide)) hf_12
  replace hf_18 := tr _ _ _ (Or.inr (by decide)) hf_18
  replace hf_24 := tr _ _ _ (Or.inr (by decide)) hf_24
  replace hf_30 := tr _ _ _ (Or.inr (by decide)) hf_30
  replace hf_36 := tr _ _ _ (Or.inr (by decide)) hf_36
  replace hf_42 := tr _ _ _ (Or.inr (by decide)) hf_42
  have hf_48 := hn
  replace hfr := hfr.put hk0 tr (by decide)
  refine jj_aload_n C dX0_copyFrom_64 rfl ?_
  refine jj_aload_n C dX0_copyFrom_65 rfl ?_
  refine tt_get C hok_47 jk_2 8 (by decide) jw_199 (t := (0, 0, 40)) hk1 (by decide) rfl rfl dX0_copyFrom_66 (fun v_49 hv_49 hf_50 => ?_)
  obtain ⟨x_51, rfl, lx_51, ux_51⟩ := tt_vi hv_49
  refine tt_put C hok_47 jk_2 8 (by decide) jw_199 (t := (0, 0, 40)) hk0 (by decide) rfl rfl rfl (tt_iv (by omega) (by omega)) rfl rfl dX0_copyFrom_69 (fun pl_52 hok_53 tr hn => ?_)
  replace hf_6 := tr _ _ _ (Or.inr (by decide)) hf_6
  replace hf_12 := tr _ _ _ (Or.inr (by decide)) hf_12
  replace hf_18 := tr _ _ _ (Or.inr (by decide)) hf_18
  replace hf_24 := tr _ _ _ (Or.inr (by decide)) hf_24
  replace hf_30 := tr _ _ _ (Or.inr (by decide)) hf_30
  replace hf_36 := tr _ _ _ (Or.inr (by decide)) hf_36
  replace hf_42 := tr _ _ _ (Or.inr (by decide)) hf_42
  replace hf_48 := tr _ _ _ (Or.inr (by decide)) hf_48
  have hf_54 := hn
  replace hfr := hfr.put hk0 tr (by decide)
  refine jj_aload_n C dX0_copyFrom_72 rfl ?_
  refine jj_aload_n C dX0_copyFrom_73 rfl ?_
  refine tt_get C hok_53 jk_2 9 (by decide) jw_200 (t := (0, 0, 12)) hk1 (by decide) rfl rfl dX0_copyFrom_74 (fun v_55 hv_55 hf_56 => ?_)
  obtain ⟨x_57, rfl, lx_57, ux_57⟩ := tt_vi hv_55
  refine tt_put C hok_53 jk_2 9 (by decide) jw_200 (t := (0, 0, 12)) hk0 (by decide) rfl rfl rfl (tt_iv (by omega) (by omega)) rfl rfl dX0_copyFrom_77 (fun pl_58 hok_59 tr hn => ?_)
  replace hf_6 := tr _ _ _ (Or.inr (by decide)) hf_6
  replace hf_12 := tr _ _ _ (Or.inr (by decide)) hf_12
  replace hf_18 := tr _ _ _ (Or.inr (by decide)) hf_18
  replace hf_24 := tr _ _ _ (Or.inr (by decide)) hf_24
  replace hf_30 := tr _ _ _ (Or.inr (by decide)) hf_30
  replace hf_36 := tr _ _ _ (Or.inr (by decide)) hf_36
  replace hf_42 := tr _ _ _ (Or.inr (by decide)) hf_42
  replace hf_48 := tr _ _ _ (Or.inr (by decide)) hf_48
  replace hf_54 := tr _ _ _ (Or.inr (by decide)) hf_54
  have hf_60 := hn
  replace hfr := hfr.put hk0 tr (by decide)
  refine jj_iconst (v := 0) C dX0_copyFrom_80 (by decide) ?_
  refine jj_istore_n C dX0_copyFrom_81 (by decide) rfl ?_
  have hL_61 : ∀ (N : Nat) (pl : va_W) (x_62 : Int32), True → tt_ok tt_tk cA Kd pl → tt_fr Kd [(1, 0), (1, 1), (1, 2), (1, 3), (1, 4), (1, 5), (1, 6), (1, 7), (1, 8), (1, 9), (2, 0), (2, 1), (2, 2), (2, 3), (2, 4), (3, 0), (3, 1), (3, 2), (3, 3), (3, 4), (3, 5), (4, 0), (4, 1), (4, 2), (4, 3), (4, 4)] pl0 pl → (0 : Int) ≤ x_62.toInt → x_62.toInt ≤ 6 → (2147483648 - x_62.toInt ≤ (N : Int)) → jj_J p l e (jj_rm 1 21 0 0) s m args below meth c 3 A (vx_MQ below (jj_q D A (tt_O (fun rx pl1 r => rx = [] ∧ tt_ok tt_tk cA Kd pl1 ∧ tt_fr Kd [(1, 0), (1, 1), (1, 2), (1, 3), (1, 4), (1, 5), (1, 6), (1, 7), (1, 8), (1, 9), (2, 0), (2, 1), (2, 2), (2, 3), (2, 4), (3, 0), (3, 1), (3, 2), (3, 3), (3, 4), (3, 5), (4, 0), (4, 1), (4, 2), (4, 3), (4, 4)] pl0 pl1 ∧ ((r = none))))) (jj_x D A (tt_OX (fun _ _ _ => False))) args s 0 0 A) (jj_X D A ([] ++ pl)) 0 0 82 [(2, .int x_62), (0, .ref h0), (1, .ref h1)] [] := by
    intro NL_61
    induction NL_61 with
    | zero => intro pl x_62 _ hok hfr lx_62 ux_62 hNL_61; exfalso; omega
    | succ NL_61 ihL_61 =>
      intro pl x_62 _ hok hfr lx_62 ux_62 hNL_61
      replace ihL_61 := fun pl x_62 h1 => ihL_61 pl x_62 trivial h1
      refine jj_iload_n C dX0_copyFrom_82 rfl ?_
      refine jj_bipush (v := 6) C dX0_copyFrom_83 (by decide) ?_
      refine jj_icmp_ge (tgt := 106) C dX0_copyFrom_85 (by decide) (fun c_63 => ?_) (fun c_63 => ?_)
      · have z_c_63 := jc_le (a := (6)) (b := (x_62).toInt) c_63 (by decide) rfl
        refine jj_iconst (v := 0) C dX0_copyFrom_106 (by decide) ?_
        refine jj_istore_n C dX0_copyFrom_107 (by decide) rfl ?_
        have hL_64 : ∀ (N : Nat) (pl : va_W) (x_65 : Int32), True → tt_ok tt_tk cA Kd pl → tt_fr Kd [(1, 0), (1, 1), (1, 2), (1, 3), (1, 4), (1, 5), (1, 6), (1, 7), (1, 8), (1, 9), (2, 0), (2, 1), (2, 2), (2, 3), (2, 4), (3, 0), (3, 1), (3, 2), (3, 3), (3, 4), (3, 5), (4, 0), (4, 1), (4, 2), (4, 3), (4, 4)] pl0 pl → (0 : Int) ≤ x_65.toInt → x_65.toInt ≤ 6 → (2147483648 - x_65.toInt ≤ (N : Int)) → jj_J p l e (jj_rm 1 21 0 0) s m args below meth c 3 A (vx_MQ below (jj_q D A (tt_O (fun rx pl1 r => rx = [] ∧ tt_ok tt_tk cA Kd pl1 ∧ tt_fr Kd [(1, 0), (1, 1), (1, 2), (1, 3), (1, 4), (1, 5), (1, 6), (1, 7), (1, 8), (1, 9), (2, 0), (2, 1), (2, 2), (2, 3), (2, 4), (3, 0), (3, 1), (3, 2), (3, 3), (3, 4), (3, 5), (4, 0), (4, 1), (4, 2), (4, 3), (4, 4)] pl0 pl1 ∧ ((r = none))))) (jj_x D A (tt_OX (fun _ _ _ => False))) args s 0 0 A) (jj_X D A ([] ++ pl)) 0 0 108 [(2, .int x_65), (0, .ref h0), (1, .ref h1)] [] := by
          intro NL_64
          induction NL_64 with
          | zero => intro pl x_65 _ hok hfr lx_65 ux_65 hNL_64; exfalso; omega
          | succ NL_64 ihL_64 =>
            intro pl x_65 _ hok hfr lx_65 ux_65 hNL_64
            replace ihL_64 := fun pl x_65 h1 => ihL_64 pl x_65 trivial h1
            refine jj_iload_n C dX0_copyFrom_108 rfl ?_
            refine jj_aload_n C dX0_copyFrom_109 rfl ?_
            refine tt_get C hok jk_2 7 (by decide) jw_134 (t := (0, 0, 6)) hk0 (by decide) rfl rfl dX0_copyFrom_110 (fun v_66 hv_66 hf_67 => ?_)
            obtain ⟨x_68, rfl, lx_68, ux_68⟩ := tt_vi hv_66
            refine jj_icmp_ge (tgt := 137) C dX0_copyFrom_113 (by decide) (fun c_69 => ?_) (fun c_69 => ?_)
            · have z_c_69 := jc_le (a := (x_68).toInt) (b := (x_65).toInt) c_69 rfl rfl
              refine jj_iconst (v := 0) C dX0_copyFrom_137 (by decide) ?_
              refine jj_istore_n C dX0_copyFrom_138 (by decide) rfl ?_
              have hL_70 : ∀ (N : Nat) (pl : va_W) (x_71 : Int32), True → tt_ok tt_tk cA Kd pl → tt_fr Kd [(1, 0), (1, 1), (1, 2), (1, 3), (1, 4), (1, 5), (1, 6), (1, 7), (1, 8), (1, 9), (2, 0), (2, 1), (2, 2), (2, 3), (2, 4), (3, 0), (3, 1), (3, 2), (3, 3), (3, 4), (3, 5), (4, 0), (4, 1), (4, 2), (4, 3), (4, 4)] pl0 pl → (0 : Int) ≤ x_71.toInt → x_71.toInt ≤ 40 → (2147483648 - x_71.toInt ≤ (N : Int)) → jj_J p l e (jj_rm 1 21 0 0) s m args below meth c 3 A (vx_MQ below (jj_q D A (tt_O (fun rx pl1 r => rx = [] ∧ tt_ok tt_tk cA Kd pl1 ∧ tt_fr Kd [(1, 0), (1, 1), (1, 2), (1, 3), (1, 4), (1, 5), (1, 6), (1, 7), (1, 8), (1, 9), (2, 0), (2, 1), (2, 2), (2, 3), (2, 4), (3, 0), (3, 1), (3, 2), (3, 3), (3, 4), (3, 5), (4, 0), (4, 1), (4, 2), (4, 3), (4, 4)] pl0 pl1 ∧ ((r = none))))) (jj_x D A (tt_OX (fun _ _ _ => False))) args s 0 0 A) (jj_X D A ([] ++ pl)) 0 0 139 [(2, .int x_71), (0, .ref h0), (1, .ref h1)] [] := by
                intro NL_70
                induction NL_70 with
                | zero => intro pl x_71 _ hok hfr lx_71 ux_71 hNL_70; exfalso; omega
                | succ NL_70 ihL_70 =>
                  intro pl x_71 _ hok hfr lx_71 ux_71 hNL_70
                  replace ihL_70 := fun pl x_71 h1 => ihL_70 pl x_71 trivial h1
                  refine jj_iload_n C dX0_copyFrom_139 rfl ?_
                  refine jj_aload_n C dX0_copyFrom_140 rfl ?_
                  refine tt_get C hok jk_2 8 (by decide) jw_199 (t := (0, 0, 40)) hk0 (by decide) rfl rfl dX0_copyFrom_141 (fun v_72 hv_72 hf_73 => ?_)
                  obtain ⟨x_74, rfl, lx_74, ux_74⟩ := tt_vi hv_72
                  refine jj_icmp_ge (tgt := 168) C dX0_copyFrom_144 (by decide) (fun c_75 => ?_) (fun c_75 => ?_)
                  · have z_c_75 := jc_le (a := (x_74).toInt) (b := (x_71).toInt) c_75 rfl rfl
                    refine jj_iconst (v := 0) C dX0_copyFrom_168 (by decide) ?_
                    refine jj_istore_n C dX0_copyFrom_169 (by decide) rfl ?_
                    have hL_76 : ∀ (N : Nat) (pl : va_W) (x_77 : Int32), True → tt_ok tt_tk cA Kd pl → tt_fr Kd [(1, 0), (1, 1), (1, 2), (1, 3), (1, 4), (1, 5), (1, 6), (1, 7), (1, 8), (1, 9), (2, 0), (2, 1), (2, 2), (2, 3), (2, 4), (3, 0), (3, 1), (3, 2), (3, 3), (3, 4), (3, 5), (4, 0), (4, 1), (4, 2), (4, 3), (4, 4)] pl0 pl → (0 : Int) ≤ x_77.toInt → x_77.toInt ≤ 12 → (2147483648 - x_77.toInt ≤ (N : Int)) → jj_J p l e (jj_rm 1 21 0 0) s m args below meth c 3 A (vx_MQ below (jj_q D A (tt_O (fun rx pl1 r => rx = [] ∧ tt_ok tt_tk cA Kd pl1 ∧ tt_fr Kd [(1, 0), (1, 1), (1, 2), (1, 3), (1, 4), (1, 5), (1, 6), (1, 7), (1, 8), (1, 9), (2, 0), (2, 1), (2, 2), (2, 3), (2, 4), (3, 0), (3, 1), (3, 2), (3, 3), (3, 4), (3, 5), (4, 0), (4, 1), (4, 2), (4, 3), (4, 4)] pl0 pl1 ∧ ((r = none))))) (jj_x D A (tt_OX (fun _ _ _ => False))) args s 0 0 A) (jj_X D A ([] ++ pl)) 0 0 170 [(2, .int x_77), (0, .ref h0), (1, .ref h1)] [] := by
                      intro NL_76
                      induction NL_76 with
                      | zero => intro pl x_77 _ hok hfr lx_77 ux_77 hNL_76; exfalso; omega
                      | succ NL_76 ihL_76 =>
                        intro pl x_77 _ hok hfr lx_77 ux_77 hNL_76
                        replace ihL_76 := fun pl x_77 h1 => ihL_76 pl x_77 trivial h1
                        refine jj_iload_n C dX0_copyFrom_170 rfl ?_
                        refine jj_aload_n C dX0_copyFrom_171 rfl ?_
                        refine tt_get C hok jk_2 9 (by decide) jw_200 (t := (0, 0, 12)) hk0 (by decide) rfl rfl dX0_copyFrom_172 (fun v_78 hv_78 hf_79 => ?_)
                        obtain ⟨x_80, rfl, lx_80, ux_80⟩ := tt_vi hv_78
                        refine jj_icmp_ge (tgt := 199) C dX0_copyFrom_175 (by decide) (fun c_81 => ?_) (fun c_81 => ?_)
                        · have z_c_81 := jc_le (a := (x_80).toInt) (b := (x_77).toInt) c_81 rfl rfl
                          exact jj_vret C ⟨[], pl, rfl, rfl, hok, hfr, rfl⟩ dX0_copyFrom_199 (jj_le rfl) (jj_le rfl)
                        · have z_c_81 := jc_nle (a := (x_80).toInt) (b := (x_77).toInt) c_81 rfl rfl
                          refine jj_aload_n C dX0_copyFrom_178 rfl ?_
                          refine tt_get C hok jk_2 13 (by decide) jw_202 (t := (2, 8, 0)) hk0 (by decide) rfl rfl dX0_copyFrom_179 (fun v_82 hv_82 hf_83 => ?_)
                          obtain ⟨a_84, rfl, ka_84⟩ := tt_vr hv_82
                          refine jj_iload_n C dX0_copyFrom_182 rfl ?_
                          refine tt_aald C hok (t := (2, 4, 0)) ka_84 (by decide) rfl rfl rfl (vp_in_iff.mpr ⟨by omega, by omega⟩) dX0_copyFrom_183 (fun v_85 hv_85 => ?_)
                          obtain ⟨a_86, rfl, ka_86⟩ := tt_vr hv_85
                          refine jj_aload_n C dX0_copyFrom_184 rfl ?_
                          refine tt_get C hok jk_2 13 (by decide) jw_202 (t := (2, 8, 0)) hk1 (by decide) rfl rfl dX0_copyFrom_185 (fun v_87 hv_87 hf_88 => ?_)
                          obtain ⟨a_89, rfl, ka_89⟩ := tt_vr hv_87
                          refine jj_iload_n C dX0_copyFrom_188 rfl ?_
                          refine tt_aald C hok (t := (2, 4, 0)) ka_89 (by decide) rfl rfl rfl (vp_in_iff.mpr ⟨by omega, by omega⟩) dX0_copyFrom_189 (fun v_90 hv_90 => ?_)
                          obtain ⟨a_91, rfl, ka_91⟩ := tt_vr hv_90
                          obtain ⟨qc, gs, hqc⟩ := tt_recv (cx := []) hok ka_86 (by decide) rfl
                          refine tt_callV (rest := []) C (tc_X6_copyFrom_1 hl D cA ak a_86 a_91 ka_86 ka_91 hok) [] [] rfl rfl (by decide) (by decide) (by decide) qc hqc rfl rfl jw_203 jw_211 jw_212 jw_205 jw_204 jn_X6_copyFrom rfl (jj_le rfl) (jj_le rfl) (jj_le rfl) (jj_le rfl) (jj_le rfl) dX0_copyFrom_190 rfl (fun _ _ _ hX => hX.elim) (fun rx pl_92 r O_95 => ?_)
                          obtain ⟨rfl, hok_93, hr_94, hR_97⟩ := O_95
                          replace hf_79 := hr_94.at hk0 (by decide) (by decide) hf_79
                          replace hf_83 := hr_94.at hk0 (by decide) (by decide) hf_83
                          replace hf_88 := hr_94.at hk1 (by decide) (by decide) hf_88
                          replace hfr := hfr.trans (hr_94.sub (by decide))
                          obtain rfl := hR_97
                          obtain ⟨x_98, ex_98, vx_98⟩ := tt_inc (x := x_77) (n := 1) (by omega) (by omega)
                          refine jj_iinc (v := x_98) C dX0_copyFrom_193 rfl ex_98 (by decide) rfl ?_
                          refine jj_goto (tgt := 170) C dX0_copyFrom_196 (by decide) ?_
                          exact ihL_76 pl_92 x_98 hok_93 hfr (by first | omega | decide | exact tt_lo _ | exact tt_hi _) (by first | omega | decide | exact tt_lo _ | exact tt_hi _) (by first | omega | decide | exact tt_lo _ | exact tt_hi _)
                    exact hL_76 _ pl (0 : Int32) trivial hok hfr (by first | omega | decide | exact tt_lo _ | exact tt_hi _) (by first | omega | decide | exact tt_lo _ | exact tt_hi _) (Int.self_le_toNat _)
                  · have z_c_75 := jc_nle (a := (x_74).toInt) (b := (x_71).toInt) c_75 rfl rfl
                    refine jj_aload_n C dX0_copyFrom_147 rfl ?_
                    refine tt_get C hok jk_2 12 (by decide) jw_214 (t := (2, 7, 0)) hk0 (by decide) rfl rfl dX0_copyFrom_148 (fun v_99 hv_99 hf_100 => ?_)
                    obtain ⟨a_101, rfl, ka_101⟩ := tt_vr hv_99
                    refine jj_iload_n C dX0_copyFrom_151 rfl ?_
                    refine tt_aald C hok (t := (2, 3, 0)) ka_101 (by decide) rfl rfl rfl (vp_in_iff.mpr ⟨by omega, by omega⟩) dX0_copyFrom_152 (fun v_102 hv_102 => ?_)
                    obtain ⟨a_103, rfl, ka_103⟩ := tt_vr hv_102
                    refine jj_aload_n C dX0_copyFrom_153 rfl ?_
                    refine tt_get C hok jk_2 12 (by decide) jw_214 (t := (2, 7, 0)) hk1 (by decide) rfl rfl dX0_copyFrom_154 (fun v_104 hv_104 hf_105 => ?_)
                    obtain ⟨a_106, rfl, ka_106⟩ := tt_vr hv_104
                    refine jj_iload_n C dX0_copyFrom_157 rfl ?_
                    refine tt_aald C hok (t := (2, 3, 0)) ka_106 (by decide) rfl rfl rfl (vp_in_iff.mpr ⟨by omega, by omega⟩) dX0_copyFrom_158 (fun v_107 hv_107 => ?_)
                    obtain ⟨a_108, rfl, ka_108⟩ := tt_vr hv_107
                    obtain ⟨qc, gs, hqc⟩ := tt_recv (cx := []) hok ka_103 (by decide) rfl
                    refine tt_callV (rest := []) C (tc_X4_copyFrom_1 hl D cA ak a_103 a_108 ka_103 ka_108 hok) [] [] rfl rfl (by decide) (by decide) (by decide) qc hqc rfl rfl jw_215 jw_224 jw_225 jw_217 jw_216 jn_X4_copyFrom rfl (jj_le rfl) (jj_le rfl) (jj_le rfl) (jj_le rfl) (jj_le rfl) dX0_copyFrom_159 rfl (fun _ _ _ hX => hX.elim) (fun rx pl_109 r O_112 => ?_)
                    obtain ⟨rfl, hok_110, hr_111, hR_114⟩ := O_112
                    replace hf_73 := hr_111.at hk0 (by decide) (by decide) hf_73
                    replace hf_100 := hr_111.at hk0 (by decide) (by decide) hf_100
                    replace hf_105 := hr_111.at hk1 (by decide) (by decide) hf_105
                    replace hfr := hfr.trans (hr_111.sub (by decide))
                    obtain rfl := hR_114
                    obtain ⟨x_115, ex_115, vx_115⟩ := tt_inc (x := x_71) (n := 1) (by omega) (by omega)
                    refine jj_iinc (v := x_115) C dX0_copyFrom_162 rfl ex_115 (by decide) rfl ?_
                    refine jj_goto (tgt := 139) C dX0_copyFrom_165 (by decide) ?_
                    exact ihL_70 pl_109 x_115 hok_110 hfr (by first | omega | decide | exact tt_lo _ | exact tt_hi _) (by first | omega | decide | exact tt_lo _ | exact tt_hi _) (by first | omega | decide | exact tt_lo _ | exact tt_hi _)
              exact hL_70 _ pl (0 : Int32) trivial hok hfr (by first | omega | decide | exact tt_lo _ | exact tt_hi _) (by first | omega | decide | exact tt_lo _ | exact tt_hi _) (Int.self_le_toNat _)
            · have z_c_69 := jc_nle (a := (x_68).toInt) (b := (x_65).toInt) c_69 rfl rfl
              refine jj_aload_n C dX0_copyFrom_116 rfl ?_
              refine tt_get C hok jk_2 11 (by decide) jw_135 (t := (2, 6, 0)) hk0 (by decide) rfl rfl dX0_copyFrom_117 (fun v_116 hv_116 hf_117 => ?_)
              obtain ⟨a_118, rfl, ka_118⟩ := tt_vr hv_116
              refine jj_iload_n C dX0_copyFrom_120 rfl ?_
              refine tt_aald C hok (t := (2, 2, 0)) ka_118 (by decide) rfl rfl rfl (vp_in_iff.mpr ⟨by omega, by omega⟩) dX0_copyFrom_121 (fun v_119 hv_119 => ?_)
              obtain ⟨a_120, rfl, ka_120⟩ := tt_vr hv_119
              refine jj_aload_n C dX0_copyFrom_122 rfl ?_
              refine tt_get C hok jk_2 11 (by decide) jw_135 (t := (2, 6, 0)) hk1 (by decide) rfl rfl dX0_copyFrom_123 (fun v_121 hv_121 hf_122 => ?_)
              obtain ⟨a_123, rfl, ka_123⟩ := tt_vr hv_121
              refine jj_iload_n C dX0_copyFrom_126 rfl ?_
              refine tt_aald C hok (t := (2, 2, 0)) ka_123 (by decide) rfl rfl rfl (vp_in_iff.mpr ⟨by omega, by omega⟩) dX0_copyFrom_127 (fun v_124 hv_124 => ?_)
              obtain ⟨a_125, rfl, ka_125⟩ := tt_vr hv_124
              obtain ⟨qc, gs, hqc⟩ := tt_recv (cx := []) hok ka_120 (by decide) rfl
              refine tt_callV (rest := []) C (tc_X8_copyFrom_1 hl D cA ak a_120 a_125 ka_120 ka_125 hok) [] [] rfl rfl (by decide) (by decide) (by decide) qc hqc rfl rfl jw_227 jw_104 jw_105 jw_92 jw_91 jn_X8_copyFrom rfl (jj_le rfl) (jj_le rfl) (jj_le rfl) (jj_le rfl) (jj_le rfl) dX0_copyFrom_128 rfl (fun _ _ _ hX => hX.elim) (fun rx pl_126 r O_129 => ?_)
              obtain ⟨rfl, hok_127, hr_128, hR_131⟩ := O_129
              replace hf_67 := hr_128.at hk0 (by decide) (by decide) hf_67
              replace hf_117 := hr_128.at hk0 (by decide) (by decide) hf_117
              replace hf_122 := hr_128.at hk1 (by decide) (by decide) hf_122
              replace hfr := hfr.trans (hr_128.sub (by decide))
              obtain rfl := hR_131
              obtain ⟨x_132, ex_132, vx_132⟩ := tt_inc (x := x_65) (n := 1) (by omega) (by omega)
              refine jj_iinc (v := x_132) C dX0_copyFrom_131 rfl ex_132 (by decide) rfl ?_
              refine jj_goto (tgt := 108) C dX0_copyFrom_134 (by decide) ?_
              exact ihL_64 pl_126 x_132 hok_127 hfr (by first | omega | decide | exact tt_lo _ | exact tt_hi _) (by first | omega | decide | exact tt_lo _ | exact tt_hi _) (by first | omega | decide | exact tt_lo _ | exact tt_hi _)
        exact hL_64 _ pl (0 : Int32) trivial hok hfr (by first | omega | decide | exact tt_lo _ | exact tt_hi _) (by first | omega | decide | exact tt_lo _ | exact tt_hi _) (Int.self_le_toNat _)
      · have z_c_63 := jc_nle (a := (6)) (b := (x_62).toInt) c_63 (by decide) rfl
        refine jj_aload_n C dX0_copyFrom_88 rfl ?_
        refine tt_get C hok jk_2 10 (by decide) jw_201 (t := (2, 5, 0)) hk0 (by decide) rfl rfl dX0_copyFrom_89 (fun v_133 hv_133 hf_134 => ?_)
        obtain ⟨a_135, rfl, ka_135⟩ := tt_vr hv_133
        refine jj_iload_n C dX0_copyFrom_92 rfl ?_
        refine jj_aload_n C dX0_copyFrom_93 rfl ?_
        refine tt_get C hok jk_2 10 (by decide) jw_201 (t := (2, 5, 0)) hk1 (by decide) rfl rfl dX0_copyFrom_94 (fun v_136 hv_136 hf_137 => ?_)
        obtain ⟨a_138, rfl, ka_138⟩ := tt_vr hv_136
        refine jj_iload_n C dX0_copyFrom_97 rfl ?_
        refine tt_lald C hok (t := (1, (-9223372036854775808), 9223372036854775807)) ka_138 (by decide) rfl (vp_in_iff.mpr ⟨by omega, by omega⟩) dX0_copyFrom_98 (fun v_139 hv_139 => ?_)
        refine tt_last C hok (t := (1, (-9223372036854775808), 9223372036854775807)) ka_135 (by decide) rfl (vp_in_iff.mpr ⟨by omega, by omega⟩) (tt_ja _) dX0_copyFrom_99 (fun pl_140 hok_141 tr => ?_)
        replace hf_134 := tr _ _ _ hf_134
        replace hf_137 := tr _ _ _ hf_137
        replace hfr := hfr.arr tr
        obtain ⟨x_142, ex_142, vx_142⟩ := tt_inc (x := x_62) (n := 1) (by omega) (by omega)
        refine jj_iinc (v := x_142) C dX0_copyFrom_100 rfl ex_142 (by decide) rfl ?_
        refine jj_goto (tgt := 82) C dX0_copyFrom_103 (by decide) ?_
        exact ihL_61 pl_140 x_142 hok_141 hfr (by first | omega | decide | exact tt_lo _ | exact tt_hi _) (by first | omega | decide | exact tt_lo _ | exact tt_hi _) (by first | omega | decide | exact tt_lo _ | exact tt_hi _)
  exact hL_61 _ pl_58 (0 : Int32) trivial hok_59 hfr (by first | omega | decide | exact tt_lo _ | exact tt_hi _) (by first | omega | decide | exact tt_lo _ | exact tt_hi _) (Int.self_le_toNat _)

set_option maxHeartbeats 4000000 in
set_option maxRecDepth 100000 in
theorem tc_X0_netOfAll_1 {l : Launch} (hl : l.stackTraces = false) (D : va_G) (cA : Nat → ClassId) (ak : (Nat → Nat) × (Nat → Nat)) {Kd : Nat → Nat} (h0 : Nat) (hk0 : Kd h0 = 1) {pl0 : va_W} (hok : tt_ok tt_tk cA Kd pl0) : jj_M l D cA ak yX0_netOfAll (.code yX0_netOfAll cX0_netOfAll 4 (some .long)) 1 25 0 0 ([] ++ pl0) [.ref h0] (tt_O (fun rx pl1 r => rx = [] ∧ tt_ok tt_tk cA Kd pl1 ∧ tt_fr Kd [] pl0 pl1 ∧ ((∃ v : Int64, r = some (.long v))))) (tt_OX (fun _ _ _ => False)) := by
  refine jj_start hl (by decide) jw_237 (jj_le rfl) ?_
  intro p e s m args below meth c A hargs hA C hex hmn
  have hfr := tt_fr.refl (K := Kd) (WS := []) pl0
  refine jj_lconst (v := 0) C dX0_netOfAll_0 (by decide) ?_
  refine jj_lstore_n C dX0_netOfAll_1 (by decide) rfl ?_
  refine jj_iconst (v := 0) C dX0_netOfAll_2 (by decide) ?_
  refine jj_istore_n C dX0_netOfAll_3 (by decide) rfl ?_
  have hL_1 : ∀ (N : Nat) (pl : va_W) (x_2 : Int32) (y_3 : Int64), True → tt_ok tt_tk cA Kd pl → tt_fr Kd [] pl0 pl → (0 : Int) ≤ x_2.toInt → x_2.toInt ≤ 6 → (2147483648 - x_2.toInt ≤ (N : Int)) → jj_J p l e (jj_rm 1 25 0 0) s m args below meth c 4 A (vx_MQ below (jj_q D A (tt_O (fun rx pl1 r => rx = [] ∧ tt_ok tt_tk cA Kd pl1 ∧ tt_fr Kd [] pl0 pl1 ∧ ((∃ v : Int64, r = some (.long v)))))) (jj_x D A (tt_OX (fun _ _ _ => False))) args s 0 0 A) (jj_X D A ([] ++ pl)) 0 0 4 [(3, .int x_2), (1, .long y_3), (0, .ref h0)] [] := by
    intro NL_1
    induction NL_1 with
    | zero => intro pl x_2 y_3 _ hok hfr lx_2 ux_2 hNL_1; exfalso; omega
    | succ NL_1 ihL_1 =>
      intro pl x_2 y_3 _ hok hfr lx_2 ux_2 hNL_1
      replace ihL_1 := fun pl x_2 y_3 h1 => ihL_1 pl x_2 y_3 trivial h1
      refine jj_iload_n C dX0_netOfAll_4 rfl ?_
      refine jj_aload_n C dX0_netOfAll_5 rfl ?_
      refine tt_get C hok jk_2 7 (by decide) jw_134 (t := (0, 0, 6)) hk0 (by decide) rfl rfl dX0_netOfAll_6 (fun v_4 hv_4 hf_5 => ?_)
      obtain ⟨x_6, rfl, lx_6, ux_6⟩ := tt_vi hv_4
      refine jj_icmp_ge (tgt := 44) C dX0_netOfAll_9 (by decide) (fun c_7 => ?_) (fun c_7 => ?_)
      · have z_c_7 := jc_le (a := (x_6).toInt) (b := (x_2).toInt) c_7 rfl rfl
        refine jj_lload_n C dX0_netOfAll_44 rfl ?_
        exact jj_lret C ⟨[], pl, rfl, rfl, hok, hfr, ⟨y_3, rfl⟩⟩ dX0_netOfAll_45 (jj_le rfl) (jj_le rfl)
      · have z_c_7 := jc_nle (a := (x_6).toInt) (b := (x_2).toInt) c_7 rfl rfl
        refine jj_lload_n C dX0_netOfAll_12 rfl ?_
        refine jj_aload_n C dX0_netOfAll_13 rfl ?_
        refine tt_get C hok jk_2 11 (by decide) jw_135 (t := (2, 6, 0)) hk0 (by decide) rfl rfl dX0_netOfAll_14 (fun v_8 hv_8 hf_9 => ?_)
        obtain ⟨a_10, rfl, ka_10⟩ := tt_vr hv_8
        refine jj_iload_n C dX0_netOfAll_17 rfl ?_
        refine tt_aald C hok (t := (2, 2, 0)) ka_10 (by decide) rfl rfl rfl (vp_in_iff.mpr ⟨by omega, by omega⟩) dX0_netOfAll_18 (fun v_11 hv_11 => ?_)
        obtain ⟨a_12, rfl, ka_12⟩ := tt_vr hv_11
        refine tt_get C hok jk_9 2 (by decide) jw_238 (t := (1, (-9223372036854775808), 9223372036854775807)) ka_12 (by decide) rfl rfl dX0_netOfAll_19 (fun v_13 hv_13 hf_14 => ?_)
        obtain ⟨y_15, rfl, -, -⟩ := tt_vj hv_13
        refine jj_aload_n C dX0_netOfAll_22 rfl ?_
        refine tt_getF C hok jk_2 11 (by decide) jw_135 (t := (2, 6, 0)) hk0 (by decide) rfl rfl hf_9 dX0_netOfAll_23 ?_
        refine jj_iload_n C dX0_netOfAll_26 rfl ?_
        refine tt_aald C hok (t := (2, 2, 0)) ka_10 (by decide) rfl rfl rfl (vp_in_iff.mpr ⟨by omega, by omega⟩) dX0_netOfAll_27 (fun v_16 hv_16 => ?_)
        obtain ⟨a_17, rfl, ka_17⟩ := tt_vr hv_16
        refine jj_aload_n C dX0_netOfAll_28 rfl ?_
        refine tt_get C hok jk_2 3 (by decide) jw_195 (t := (0, (-2147483648), 2147483647)) hk0 (by decide) rfl rfl dX0_netOfAll_29 (fun v_18 hv_18 hf_19 => ?_)
        obtain ⟨x_20, rfl, lx_20, ux_20⟩ := tt_vi hv_18
        obtain ⟨qc, gs, hqc⟩ := tt_recv (cx := []) hok ka_17 (by decide) rfl
        refine tt_callV (rest := [.long y_15, .long y_3]) C (tc_X8_accruedFee_1 hl D cA ak a_17 x_20 ka_17 hok) [] [] rfl rfl (by decide) (by decide) (by decide) qc hqc rfl rfl jw_239 jw_154 jw_155 jw_92 jw_151 jn_X8_accruedFee rfl (jj_le rfl) (jj_le rfl) (jj_le rfl) (jj_le rfl) (jj_le rfl) dX0_netOfAll_32 rfl (fun _ _ _ hX => hX.elim) (fun rx pl_21 r O_24 => ?_)
        obtain ⟨rfl, hok_22, hr_23, hR_26⟩ := O_24
        replace hf_5 := hr_23.at hk0 (by decide) (by decide) hf_5
        replace hf_9 := hr_23.at hk0 (by decide) (by decide) hf_9
        replace hf_14 := hr_23.at ka_12 (by decide) (by decide) hf_14
        replace hf_19 := hr_23.at hk0 (by decide) (by decide) hf_19
        replace hfr := hfr.trans (hr_23.sub (by decide))
        rcases hR_26 with rfl | ⟨y_27, rfl⟩
        · obtain ⟨y_28, ey_28⟩ : ∃ z : Int64, y_15 - (0 : Int64) = z := ⟨_, rfl⟩
          refine jj_lsub (v := y_28) C dX0_netOfAll_35 ey_28 ?_
          obtain ⟨y_29, ey_29⟩ : ∃ z : Int64, y_3 + y_28 = z := ⟨_, rfl⟩
          refine jj_ladd (v := y_29) C dX0_netOfAll_36 ey_29 ?_
          refine jj_lstore_n C dX0_netOfAll_37 (by decide) rfl ?_
          obtain ⟨x_30, ex_30, vx_30⟩ := tt_inc (x := x_2) (n := 1) (by omega) (by omega)
          refine jj_iinc (v := x_30) C dX0_netOfAll_38 rfl ex_30 (by decide) rfl ?_
          refine jj_goto (tgt := 4) C dX0_netOfAll_41 (by decide) ?_
          exact ihL_1 pl_21 x_30 y_29 hok_22 hfr (by first | omega | decide | exact tt_lo _ | exact tt_hi _) (by first | omega | decide | exact tt_lo _ | exact tt_hi _) (by first | omega | decide | exact tt_lo _ | exact tt_hi _)
        · obtain ⟨y_31, ey_31⟩ : ∃ z : Int64, y_15 - y_27 = z := ⟨_, rfl⟩
          refine jj_lsub (v := y_31) C dX0_netOfAll_35 ey_31 ?_
          obtain ⟨y_32, ey_32⟩ : ∃ z : Int64, y_3 + y_31 = z := ⟨_, rfl⟩
          refine jj_ladd (v := y_32) C dX0_netOfAll_36 ey_32 ?_
          refine jj_lstore_n C dX0_netOfAll_37 (by decide) rfl ?_
          obtain ⟨x_33, ex_33, vx_33⟩ := tt_inc (x := x_2) (n := 1) (by omega) (by omega)
          refine jj_iinc (v := x_33) C dX0_netOfAll_38 rfl ex_33 (by decide) rfl ?_
          refine jj_goto (tgt := 4) C dX0_netOfAll_41 (by decide) ?_
          exact ihL_1 pl_21 x_33 y_32 hok_22 hfr (by first | omega | decide | exact tt_lo _ | exact tt_hi _) (by first | omega | decide | exact tt_lo _ | exact tt_hi _) (by first | omega | decide | exact tt_lo _ | exact tt_hi _)
  exact hL_1 _ pl0 (0 : Int32) (0 : Int64) trivial hok hfr (by first | omega | decide | exact tt_lo _ | exact tt_hi _) (by first | omega | decide | exact tt_lo _ | exact tt_hi _) (Int.self_le_toNat _)

set_option maxHeartbeats 4000000 in
set_option maxRecDepth 100000 in
theorem tc_X0_limitOfGate_1 {l : Launch} (hl : l.stackTraces = false) (D : va_G) (cA : Nat → ClassId) (ak : (Nat → Nat) × (Nat → Nat)) {Kd : Nat → Nat} (h0 : Nat) (hk0 : Kd h0 = 1) {pl0 : va_W} (hok : tt_ok tt_tk cA Kd pl0) : jj_M l D cA ak yX0_limitOfGate (.code yX0_limitOfGate cX0_limitOfGate 1 (some .long)) 2 48 0 0 ([] ++ pl0) [.ref h0] (tt_O (fun rx pl1 r => rx = [] ∧ tt_ok tt_tk cA Kd pl1 ∧ tt_fr Kd [] pl0 pl1 ∧ ((∃ v : Int64, r = some (.long v))))) (tt_OX (fun _ _ _ => False)) := by
  refine jj_start hl (by decide) jw_235 (jj_le rfl) ?_
  intro p e s m args below meth c A hargs hA C hex hmn
  have hfr := tt_fr.refl (K := Kd) (WS := []) pl0
  refine jj_aload_n C dX0_limitOfGate_0 rfl ?_
  obtain ⟨qc, gs, hqc⟩ := tt_recv (cx := []) hok hk0 (by decide) rfl
  refine tt_callV (rest := []) C (tc_X0_netOfAll_1 hl D cA ak h0 hk0 hok) [] [] rfl rfl (by decide) (by decide) (by decide) qc hqc rfl rfl jw_236 jw_240 jw_241 jw_133 jw_237 jn_X0_netOfAll rfl (jj_le rfl) (jj_le rfl) (jj_le rfl) (jj_le rfl) (jj_le rfl) dX0_limitOfGate_1 rfl (fun _ _ _ hX => hX.elim) (fun rx pl_1 r O_4 => ?_)
  obtain ⟨rfl, hok_2, hr_3, hR_6⟩ := O_4
  replace hfr := hfr.trans (hr_3.sub (by decide))
  obtain ⟨y_7, rfl⟩ := hR_6
  refine jj_aload_n C dX0_limitOfGate_4 rfl ?_
  refine tt_get C hok_2 jk_2 4 (by decide) jw_196 (t := (0, (-2147483648), 2147483647)) hk0 (by decide) rfl rfl dX0_limitOfGate_5 (fun v_8 hv_8 hf_9 => ?_)
  obtain ⟨x_10, rfl, lx_10, ux_10⟩ := tt_vi hv_8
  obtain ⟨y_11, ey_11, vy_11⟩ := tt_i2l x_10
  refine jj_i2l (v := y_11) C dX0_limitOfGate_8 ey_11 ?_
  obtain ⟨y_12, ey_12⟩ : ∃ z : Int64, y_7 * y_11 = z := ⟨_, rfl⟩
  refine jj_lmul (v := y_12) C dX0_limitOfGate_9 ey_12 ?_
  refine jj_ldc2 (v := 100) C dX0_limitOfGate_10 jw_243 ?_
  obtain ⟨y_13, ey_13⟩ : ∃ z : Int64, y_12 / (100 : Int64) = z := ⟨_, rfl⟩
  refine jj_ldiv (v := y_13) C dX0_limitOfGate_13 (by decide) ey_13 ?_
  exact jj_lret C ⟨[], pl_1, rfl, rfl, hok_2, hfr, ⟨y_13, rfl⟩⟩ dX0_limitOfGate_14 (jj_le rfl) (jj_le rfl)

set_option maxHeartbeats 4000000 in
set_option maxRecDepth 100000 in
theorem tc_X0_unitsHeldBy_1 {l : Launch} (hl : l.stackTraces = false) (D : va_G) (cA : Nat → ClassId) (ak : (Nat → Nat) × (Nat → Nat)) {Kd : Nat → Nat} (h0 : Nat) (p1 : Int32) (hk0 : Kd h0 = 1) {pl0 : va_W} (hok : tt_ok tt_tk cA Kd pl0) : jj_M l D cA ak yX0_unitsHeldBy (.code yX0_unitsHeldBy cX0_unitsHeldBy 5 (some .long)) 0 0 0 0 ([] ++ pl0) [.ref h0, .int p1] (tt_O (fun rx pl1 r => rx = [] ∧ tt_ok tt_tk cA Kd pl1 ∧ tt_fr Kd [] pl0 pl1 ∧ ((∃ v : Int64, r = some (.long v))))) (tt_OX (fun _ _ _ => False)) := by
  refine jj_start hl (by decide) jw_248 (jj_le rfl) ?_
  intro p e s m args below meth c A hargs hA C hex hmn
  have hfr := tt_fr.refl (K := Kd) (WS := []) pl0
  have lp1 := tt_lo p1
  have up1 := tt_hi p1
  refine jj_lconst (v := 0) C dX0_unitsHeldBy_0 (by decide) ?_
  refine jj_lstore_n C dX0_unitsHeldBy_1 (by decide) rfl ?_
  refine jj_iconst (v := 0) C dX0_unitsHeldBy_2 (by decide) ?_
  refine jj_istore C dX0_unitsHeldBy_3 (by decide) rfl ?_
  have hL_1 : ∀ (N : Nat) (pl : va_W) (x_2 : Int32) (y_3 : Int64), True → tt_ok tt_tk cA Kd pl → tt_fr Kd [] pl0 pl → (0 : Int) ≤ x_2.toInt → x_2.toInt ≤ 40 → (2147483648 - x_2.toInt ≤ (N : Int)) → jj_J p l e (jj_rm 0 0 0 0) s m args below meth c 5 A (vx_MQ below (jj_q D A (tt_O (fun rx pl1 r => rx = [] ∧ tt_ok tt_tk cA Kd pl1 ∧ tt_fr Kd [] pl0 pl1 ∧ ((∃ v : Int64, r = some (.long v)))))) (jj_x D A (tt_OX (fun _ _ _ => False))) args s 0 0 A) (jj_X D A ([] ++ pl)) 0 0 5 [(4, .int x_2), (2, .long y_3), (0, .ref h0), (1, .int p1)] [] := by
    intro NL_1
    induction NL_1 with
    | zero => intro pl x_2 y_3 _ hok hfr lx_2 ux_2 hNL_1; exfalso; omega
    | succ NL_1 ihL_1 =>
      intro pl x_2 y_3 _ hok hfr lx_2 ux_2 hNL_1
      replace ihL_1 := fun pl x_2 y_3 h1 => ihL_1 pl x_2 y_3 trivial h1
      refine jj_iload C dX0_unitsHeldBy_5 rfl ?_
      refine jj_aload_n C dX0_unitsHeldBy_7 rfl ?_
      refine tt_get C hok jk_2 8 (by decide) jw_199 (t := (0, 0, 40)) hk0 (by decide) rfl rfl dX0_unitsHeldBy_8 (fun v_4 hv_4 hf_5 => ?_)
      obtain ⟨x_6, rfl, lx_6, ux_6⟩ := tt_vi hv_4
      refine jj_icmp_ge (tgt := 47) C dX0_unitsHeldBy_11 (by decide) (fun c_7 => ?_) (fun c_7 => ?_)
      · have z_c_7 := jc_le (a := (x_6).toInt) (b := (x_2).toInt) c_7 rfl rfl
        refine jj_lload_n C dX0_unitsHeldBy_47 rfl ?_
        exact jj_lret C ⟨[], pl, rfl, rfl, hok, hfr, ⟨y_3, rfl⟩⟩ dX0_unitsHeldBy_48 (jj_le rfl) (jj_le rfl)
      · have z_c_7 := jc_nle (a := (x_6).toInt) (b := (x_2).toInt) c_7 rfl rfl
        refine jj_aload_n C dX0_unitsHeldBy_14 rfl ?_
        refine tt_get C hok jk_2 12 (by decide) jw_214 (t := (2, 7, 0)) hk0 (by decide) rfl rfl dX0_unitsHeldBy_15 (fun v_8 hv_8 hf_9 => ?_)
        obtain ⟨a_10, rfl, ka_10⟩ := tt_vr hv_8
        refine jj_iload C dX0_unitsHeldBy_18 rfl ?_
        refine tt_aald C hok (t := (2, 3, 0)) ka_10 (by decide) rfl rfl rfl (vp_in_iff.mpr ⟨by omega, by omega⟩) dX0_unitsHeldBy_20 (fun v_11 hv_11 => ?_)
        obtain ⟨a_12, rfl, ka_12⟩ := tt_vr hv_11
        refine tt_get C hok jk_5 0 (by decide) jw_249 (t := (0, (-2147483648), 2147483647)) ka_12 (by decide) rfl rfl dX0_unitsHeldBy_21 (fun v_13 hv_13 hf_14 => ?_)
        obtain ⟨x_15, rfl, lx_15, ux_15⟩ := tt_vi hv_13
        refine jj_iload_n C dX0_unitsHeldBy_24 rfl ?_
        refine jj_icmp_ne (tgt := 41) C dX0_unitsHeldBy_25 (by decide) (fun c_16 => ?_) (fun c_16 => ?_)
        · have z_c_16 := jc_neq (a := (x_15).toInt) (b := (p1).toInt) c_16 rfl rfl
          obtain ⟨x_17, ex_17, vx_17⟩ := tt_inc (x := x_2) (n := 1) (by omega) (by omega)
          refine jj_iinc (v := x_17) C dX0_unitsHeldBy_41 rfl ex_17 (by decide) rfl ?_
          refine jj_goto (tgt := 5) C dX0_unitsHeldBy_44 (by decide) ?_
          exact ihL_1 pl x_17 y_3 hok hfr (by first | omega | decide | exact tt_lo _ | exact tt_hi _) (by first | omega | decide | exact tt_lo _ | exact tt_hi _) (by first | omega | decide | exact tt_lo _ | exact tt_hi _)
        · have z_c_16 := jc_eq (a := (x_15).toInt) (b := (p1).toInt) c_16 rfl rfl
          refine jj_lload_n C dX0_unitsHeldBy_28 rfl ?_
          refine jj_aload_n C dX0_unitsHeldBy_29 rfl ?_
          refine tt_getF C hok jk_2 12 (by decide) jw_214 (t := (2, 7, 0)) hk0 (by decide) rfl rfl hf_9 dX0_unitsHeldBy_30 ?_
          refine jj_iload C dX0_unitsHeldBy_33 rfl ?_
          refine tt_aald C hok (t := (2, 3, 0)) ka_10 (by decide) rfl rfl rfl (vp_in_iff.mpr ⟨by omega, by omega⟩) dX0_unitsHeldBy_35 (fun v_18 hv_18 => ?_)
          obtain ⟨a_19, rfl, ka_19⟩ := tt_vr hv_18
          refine tt_get C hok jk_5 3 (by decide) jw_250 (t := (1, (-9223372036854775808), 9223372036854775807)) ka_19 (by decide) rfl rfl dX0_unitsHeldBy_36 (fun v_20 hv_20 hf_21 => ?_)
          obtain ⟨y_22, rfl, -, -⟩ := tt_vj hv_20
          obtain ⟨y_23, ey_23⟩ : ∃ z : Int64, y_3 + y_22 = z := ⟨_, rfl⟩
          refine jj_ladd (v := y_23) C dX0_unitsHeldBy_39 ey_23 ?_
          refine jj_lstore_n C dX0_unitsHeldBy_40 (by decide) rfl ?_
          obtain ⟨x_24, ex_24, vx_24⟩ := tt_inc (x := x_2) (n := 1) (by omega) (by omega)
          refine jj_iinc (v := x_24) C dX0_unitsHeldBy_41 rfl ex_24 (by decide) rfl ?_
          refine jj_goto (tgt := 5) C dX0_unitsHeldBy_44 (by decide) ?_
          exact ihL_1 pl x_24 y_23 hok hfr (by first | omega | decide | exact tt_lo _ | exact tt_hi _) (by first | omega | decide | exact tt_lo _ | exact tt_hi _) (by first | omega | decide | exact tt_lo _ | exact tt_hi _)
  exact hL_1 _ pl0 (0 : Int32) (0 : Int64) trivial hok hfr (by first | omega | decide | exact tt_lo _ | exact tt_hi _) (by first | omega | decide | exact tt_lo _ | exact tt_hi _) (Int.self_le_toNat _)

set_option maxHeartbeats 4000000 in
set_option maxRecDepth 100000 in
theorem tc_X0_dropEmptyLots_1 {l : Launch} (hl : l.stackTraces = false) (D : va_G) (cA : Nat → ClassId) (ak : (Nat → Nat) × (Nat → Nat)) {Kd : Nat → Nat} (h0 : Nat) (hk0 : Kd h0 = 1) {pl0 : va_W} (hok : tt_ok tt_tk cA Kd pl0) : jj_M l D cA ak yX0_dropEmptyLots (.code yX0_dropEmptyLots cX0_dropEmptyLots 4 none) 0 0 0 0 ([] ++ pl0) [.ref h0] (tt_O (fun rx pl1 r => rx = [] ∧ tt_ok tt_tk cA Kd pl1 ∧ tt_fr Kd [(1, 8)] pl0 pl1 ∧ ((r = none)))) (tt_OX (fun _ _ _ => False)) := by
  refine jj_start hl (by decide) jw_257 (jj_le rfl) ?_
  intro p e s m args below meth c A hargs hA C hex hmn
  have hfr := tt_fr.refl (K := Kd) (WS := [(1, 8)]) pl0
  refine jj_iconst (v := 0) C dX0_dropEmptyLots_0 (by decide) ?_
  refine jj_istore_n C dX0_dropEmptyLots_1 (by decide) rfl ?_
  refine jj_iconst (v := 0) C dX0_dropEmptyLots_2 (by decide) ?_
  refine jj_istore_n C dX0_dropEmptyLots_3 (by decide) rfl ?_
  have hL_1 : ∀ (N : Nat) (pl : va_W) (x_2 : Int32) (x_3 : Int32), True → tt_ok tt_tk cA Kd pl → tt_fr Kd [(1, 8)] pl0 pl → (0 : Int) ≤ x_2.toInt → x_2.toInt ≤ 40 → (0 : Int) ≤ x_3.toInt → x_3.toInt ≤ 40 → x_3.toInt ≤ x_2.toInt → (2147483648 - x_2.toInt ≤ (N : Int)) → jj_J p l e (jj_rm 0 0 0 0) s m args below meth c 4 A (vx_MQ below (jj_q D A (tt_O (fun rx pl1 r => rx = [] ∧ tt_ok tt_tk cA Kd pl1 ∧ tt_fr Kd [(1, 8)] pl0 pl1 ∧ ((r = none))))) (jj_x D A (tt_OX (fun _ _ _ => False))) args s 0 0 A) (jj_X D A ([] ++ pl)) 0 0 4 [(2, .int x_2), (1, .int x_3), (0, .ref h0)] [] := by
    intro NL_1
    induction NL_1 with
    | zero => intro pl x_2 x_3 _ hok hfr lx_2 ux_2 lx_3 ux_3 r1_2 hNL_1; exfalso; omega
    | succ NL_1 ihL_1 =>
      intro pl x_2 x_3 _ hok hfr lx_2 ux_2 lx_3 ux_3 r1_2 hNL_1
      replace ihL_1 := fun pl x_2 x_3 h1 => ihL_1 pl x_2 x_3 trivial h1
      refine jj_iload_n C dX0_dropEmptyLots_4 rfl ?_
      refine jj_aload_n C dX0_dropEmptyLots_5 rfl ?_
      refine tt_get C hok jk_2 8 (by decide) jw_199 (t := (0, 0, 40)) hk0 (by decide) rfl rfl dX0_dropEmptyLots_6 (fun v_4 hv_4 hf_5 => ?_)
      obtain ⟨x_6, rfl, lx_6, ux_6⟩ := tt_vi hv_4
      refine jj_icmp_ge (tgt := 56) C dX0_dropEmptyLots_9 (by decide) (fun c_7 => ?_) (fun c_7 => ?_)
      · have z_c_7 := jc_le (a := (x_6).toInt) (b := (x_2).toInt) c_7 rfl rfl
        refine jj_aload_n C dX0_dropEmptyLots_56 rfl ?_
        refine jj_iload_n C dX0_dropEmptyLots_57 rfl ?_
        refine tt_put C hok jk_2 8 (by decide) jw_199 (t := (0, 0, 40)) hk0 (by decide) rfl rfl rfl (tt_iv (by omega) (by omega)) rfl rfl dX0_dropEmptyLots_58 (fun pl_8 hok_9 tr hn => ?_)
        have hf_10 := hn
        replace hfr := hfr.put hk0 tr (by decide)
        exact jj_vret C ⟨[], pl_8, rfl, rfl, hok_9, hfr, rfl⟩ dX0_dropEmptyLots_61 (jj_le rfl) (jj_le rfl)
      · have z_c_7 := jc_nle (a := (x_6).toInt) (b := (x_2).toInt) c_7 rfl rfl
        refine jj_aload_n C dX0_dropEmptyLots_12 rfl ?_
        refine tt_get C hok jk_2 12 (by decide) jw_214 (t := (2, 7, 0)) hk0 (by decide) rfl rfl dX0_dropEmptyLots_13 (fun v_11 hv_11 hf_12 => ?_)
        obtain ⟨a_13, rfl, ka_13⟩ := tt_vr hv_11
        refine jj_iload_n C dX0_dropEmptyLots_16 rfl ?_
        refine tt_aald C hok (t := (2, 3, 0)) ka_13 (by decide) rfl rfl rfl (vp_in_iff.mpr ⟨by omega, by omega⟩) dX0_dropEmptyLots_17 (fun v_14 hv_14 => ?_)
        obtain ⟨a_15, rfl, ka_15⟩ := tt_vr hv_14
        refine jj_astore_n C dX0_dropEmptyLots_18 (by decide) rfl ?_
        refine jj_aload_n C dX0_dropEmptyLots_19 rfl ?_
        refine tt_get C hok jk_5 3 (by decide) jw_250 (t := (1, (-9223372036854775808), 9223372036854775807)) ka_15 (by decide) rfl rfl dX0_dropEmptyLots_20 (fun v_16 hv_16 hf_17 => ?_)
        obtain ⟨y_18, rfl, -, -⟩ := tt_vj hv_16
        refine jj_lconst (v := 0) C dX0_dropEmptyLots_23 (by decide) ?_
        refine jj_lcmp_le (tgt := 50) C dX0_dropEmptyLots_24 dX0_dropEmptyLots_25 (by decide) (fun c_19 => ?_) (fun c_19 => ?_)
        · obtain ⟨x_20, ex_20, vx_20⟩ := tt_inc (x := x_2) (n := 1) (by omega) (by omega)
          refine jj_iinc (v := x_20) C dX0_dropEmptyLots_50 rfl ex_20 (by decide) rfl ?_
          refine jj_goto (tgt := 4) C dX0_dropEmptyLots_53 (by decide) ?_
          refine jj_loc [0, 2, 3] rfl ?_
          exact ihL_1 pl x_20 x_3 hok hfr (by first | omega | decide | exact tt_lo _ | exact tt_hi _) (by first | omega | decide | exact tt_lo _ | exact tt_hi _) (by first | omega | decide | exact tt_lo _ | exact tt_hi _) (by first | omega | decide | exact tt_lo _ | exact tt_hi _) (by first | omega | decide | exact tt_lo _ | exact tt_hi _) (by first | omega | decide | exact tt_lo _ | exact tt_hi _)
        · refine jj_aload_n C dX0_dropEmptyLots_28 rfl ?_
          refine tt_getF C hok jk_2 12 (by decide) jw_214 (t := (2, 7, 0)) hk0 (by decide) rfl rfl hf_12 dX0_dropEmptyLots_29 ?_
          refine jj_iload_n C dX0_dropEmptyLots_32 rfl ?_
          refine jj_aload_n C dX0_dropEmptyLots_33 rfl ?_
          refine tt_getF C hok jk_2 12 (by decide) jw_214 (t := (2, 7, 0)) hk0 (by decide) rfl rfl hf_12 dX0_dropEmptyLots_34 ?_
          refine jj_iload_n C dX0_dropEmptyLots_37 rfl ?_
          refine tt_aald C hok (t := (2, 3, 0)) ka_13 (by decide) rfl rfl rfl (vp_in_iff.mpr ⟨by omega, by omega⟩) dX0_dropEmptyLots_38 (fun v_21 hv_21 => ?_)
          obtain ⟨a_22, rfl, ka_22⟩ := tt_vr hv_21
          refine tt_aast C hok (t := (2, 3, 0)) ka_13 (by decide) rfl rfl rfl ka_22 (by decide) rfl rfl (vp_in_iff.mpr ⟨by omega, by omega⟩) (tt_rv ka_22) dX0_dropEmptyLots_39 (fun pl_23 hok_24 tr hne => ?_)
          replace hf_5 := tr _ _ _ hf_5
          replace hf_12 := tr _ _ _ hf_12
          replace hf_17 := tr _ _ _ hf_17
          replace hfr := hfr.arr tr
          refine jj_aload_n C dX0_dropEmptyLots_40 rfl ?_
          refine tt_getF C hok_24 jk_2 12 (by decide) jw_214 (t := (2, 7, 0)) hk0 (by decide) rfl rfl hf_12 dX0_dropEmptyLots_41 ?_
          refine jj_iload_n C dX0_dropEmptyLots_44 rfl ?_
          refine jj_aload_n C dX0_dropEmptyLots_45 rfl ?_
          refine tt_aast C hok_24 (t := (2, 3, 0)) ka_13 (by decide) rfl rfl rfl ka_15 (by decide) rfl rfl (vp_in_iff.mpr ⟨by omega, by omega⟩) (tt_rv ka_15) dX0_dropEmptyLots_46 (fun pl_25 hok_26 tr hne => ?_)
          replace hf_5 := tr _ _ _ hf_5
          replace hf_12 := tr _ _ _ hf_12
          replace hf_17 := tr _ _ _ hf_17
          replace hfr := hfr.arr tr
          obtain ⟨x_27, ex_27, vx_27⟩ := tt_inc (x := x_3) (n := 1) (by omega) (by omega)
          refine jj_iinc (v := x_27) C dX0_dropEmptyLots_47 rfl ex_27 (by decide) rfl ?_
          obtain ⟨x_28, ex_28, vx_28⟩ := tt_inc (x := x_2) (n := 1) (by omega) (by omega)
          refine jj_iinc (v := x_28) C dX0_dropEmptyLots_50 rfl ex_28 (by decide) rfl ?_
          refine jj_goto (tgt := 4) C dX0_dropEmptyLots_53 (by decide) ?_
          refine jj_loc [0, 1, 3] rfl ?_
          exact ihL_1 pl_25 x_28 x_27 hok_26 hfr (by first | omega | decide | exact tt_lo _ | exact tt_hi _) (by first | omega | decide | exact tt_lo _ | exact tt_hi _) (by first | omega | decide | exact tt_lo _ | exact tt_hi _) (by first | omega | decide | exact tt_lo _ | exact tt_hi _) (by first | omega | decide | exact tt_lo _ | exact tt_hi _) (by first | omega | decide | exact tt_lo _ | exact tt_hi _)
  exact hL_1 _ pl0 (0 : Int32) (0 : Int32) trivial hok hfr (by first | omega | decide | exact tt_lo _ | exact tt_hi _) (by first | omega | decide | exact tt_lo _ | exact tt_hi _) (by first | omega | decide | exact tt_lo _ | exact tt_hi _) (by first | omega | decide | exact tt_lo _ | exact tt_hi _) (by first | omega | decide | exact tt_lo _ | exact tt_hi _) (Int.self_le_toNat _)

