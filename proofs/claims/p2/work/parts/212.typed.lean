set_option maxHeartbeats 4000000 in
set_option maxRecDepth 100000 in
theorem tc_X1_payAfterRate_12 {l : Launch} (hl : l.stackTraces = false) (D : va_G) (cA : Nat → ClassId) (ak : (Nat → Nat) × (Nat → Nat)) {Kd : Nat → Nat} (h0 : Nat) (h1 : Nat) (p2 : Int32) (hk0 : Kd h0 = 9) (hk1 : Kd h1 = 1) (lp2 : (0 : Int) ≤ p2.toInt) (up2 : p2.toInt ≤ 399) {pl0 : va_W} (hok : tt_ok tt_tk cA Kd pl0) : jj_M l D cA ak yX1_payAfterRate (.code yX1_payAfterRate cX1_payAfterRate 4 (some .long)) 3 88 0 0 ([] ++ pl0) [.ref h0, .ref h1, .int p2, .int 0] (tt_O (fun rx pl1 r => rx = [] ∧ tt_ok tt_tk cA Kd pl1 ∧ tt_fr Kd [(2, 0), (2, 1), (2, 2), (2, 3), (2, 4), (9, 1), (9, 2), (9, 3), (9, 4), (9, 5)] pl0 pl1 ∧ ((∃ v : Int64, r = some (.long v))))) (tt_OX (fun _ _ _ => False)) := by
  refine jj_start hl (by decide) jw_438 (jj_le rfl) ?_
  intro p e s m args below meth c A hargs hA C hex hmn
  have hfr := tt_fr.refl (K := Kd) (WS := [(2, 0), (2, 1), (2, 2), (2, 3), (2, 4), (9, 1), (9, 2), (9, 3), (9, 4), (9, 5)]) pl0
  refine jj_aload_n C dX1_payAfterRate_0 rfl ?_
  refine jj_aload_n C dX1_payAfterRate_1 rfl ?_
  refine jj_iload_n C dX1_payAfterRate_2 rfl ?_
  obtain ⟨qc, gs, hqc⟩ := tt_recv (cx := []) hok hk0 (by decide) rfl
  refine tt_callV (rest := []) C (tc_X1_resetTrial_1 hl D cA ak h0 h1 hk0 hk1 hok) [] [] rfl rfl (by decide) (by decide) (by decide) qc hqc rfl rfl jw_78 jw_114 jw_115 jw_74 jw_79 jn_X1_resetTrial rfl (jj_le rfl) (jj_le rfl) (jj_le rfl) (jj_le rfl) (jj_le rfl) dX1_payAfterRate_3 rfl (fun _ _ _ hX => hX.elim) (fun rx pl_1 r O_4 => ?_)
  obtain ⟨rfl, hok_2, hr_3, hR_6⟩ := O_4
  replace hfr := hfr.trans (hr_3.sub (by decide))
  obtain rfl := hR_6
  refine jj_aload_n C dX1_payAfterRate_6 rfl ?_
  refine jj_aload_n C dX1_payAfterRate_7 rfl ?_
  refine jj_iload_n C dX1_payAfterRate_8 rfl ?_
  refine jj_ldc2 (v := 9223372036854775807) C dX1_payAfterRate_9 jw_439 ?_
  refine jj_iconst (v := 1) C dX1_payAfterRate_12 (by decide) ?_
  obtain ⟨qc, gs, hqc⟩ := tt_recv (cx := []) hok_2 hk0 (by decide) rfl
  refine tt_callV (rest := []) C (tc_X1_tryRedemption_13 hl D cA ak h0 h1 p2 hk0 hk1 (by omega) (by omega) hok_2) [] [] rfl rfl (by decide) (by decide) (by decide) qc hqc rfl rfl jw_119 jw_183 jw_184 jw_74 jw_120 jn_X1_tryRedemption rfl (jj_le rfl) (jj_le rfl) (jj_le rfl) (jj_le rfl) (jj_le rfl) dX1_payAfterRate_13 rfl (fun _ _ _ hX => hX.elim) (fun rx pl_7 r O_10 => ?_)
  obtain ⟨rfl, hok_8, hr_9, hR_12⟩ := O_10
  replace hfr := hfr.trans (hr_9.sub (by decide))
  obtain ⟨y_13, rfl⟩ := hR_12
  exact jj_lret C ⟨[], pl_7, rfl, rfl, hok_8, hfr, ⟨y_13, rfl⟩⟩ dX1_payAfterRate_16 (jj_le rfl) (jj_le rfl)

set_option maxHeartbeats 4000000 in
set_option maxRecDepth 100000 in
theorem tc_X1_tryRedemption_14 {l : Launch} (hl : l.stackTraces = false) (D : va_G) (cA : Nat → ClassId) (ak : (Nat → Nat) × (Nat → Nat)) {Kd : Nat → Nat} (h0 : Nat) (h1 : Nat) (p2 : Int32) (hk0 : Kd h0 = 9) (hk1 : Kd h1 = 1) (lp2 : (0 : Int) ≤ p2.toInt) (up2 : p2.toInt ≤ 400) {pl0 : va_W} (hok : tt_ok tt_tk cA Kd pl0) : jj_M l D cA ak yX1_tryRedemption (.code yX1_tryRedemption cX1_tryRedemption 15 (some .long)) 2 54 0 0 ([] ++ pl0) [.ref h0, .ref h1, .int p2, .long 9223372036854775807, .int 1] (tt_O (fun rx pl1 r => rx = [] ∧ tt_ok tt_tk cA Kd pl1 ∧ tt_fr Kd [(2, 2), (2, 3), (9, 1), (9, 2), (9, 3), (9, 4), (9, 5)] pl0 pl1 ∧ ((∃ v : Int64, r = some (.long v))))) (tt_OX (fun _ _ _ => False)) := by
  refine jj_start hl (by decide) jw_120 (jj_le rfl) ?_
  intro p e s m args below meth c A hargs hA C hex hmn
  have hfr := tt_fr.refl (K := Kd) (WS := [(2, 2), (2, 3), (9, 1), (9, 2), (9, 3), (9, 4), (9, 5)]) pl0
  refine jj_lconst (v := 0) C dX1_tryRedemption_0 (by decide) ?_
  refine jj_lstore C dX1_tryRedemption_1 (by decide) rfl ?_
  refine jj_lload_n C dX1_tryRedemption_3 rfl ?_
  refine jj_lstore C dX1_tryRedemption_4 (by decide) rfl ?_
  refine jj_iconst (v := 0) C dX1_tryRedemption_6 (by decide) ?_
  refine jj_istore C dX1_tryRedemption_7 (by decide) rfl ?_
  have hL_1 : ∀ (N : Nat) (pl : va_W) (x_2 : Int32) (y_3 : Int64) (y_4 : Int64), True → tt_ok tt_tk cA Kd pl → tt_fr Kd [(2, 2), (2, 3), (9, 1), (9, 2), (9, 3), (9, 4), (9, 5)] pl0 pl → (0 : Int) ≤ x_2.toInt → x_2.toInt ≤ 40 → (2147483648 - x_2.toInt ≤ (N : Int)) → jj_J p l e (jj_rm 2 54 0 0) s m args below meth c 15 A (vx_MQ below (jj_q D A (tt_O (fun rx pl1 r => rx = [] ∧ tt_ok tt_tk cA Kd pl1 ∧ tt_fr Kd [(2, 2), (2, 3), (9, 1), (9, 2), (9, 3), (9, 4), (9, 5)] pl0 pl1 ∧ ((∃ v : Int64, r = some (.long v)))))) (jj_x D A (tt_OX (fun _ _ _ => False))) args s 0 0 A) (jj_X D A ([] ++ pl)) 0 0 9 [(10, .int x_2), (8, .long y_3), (6, .long y_4), (0, .ref h0), (1, .ref h1), (2, .int p2), (3, .long 9223372036854775807), (5, .int 1)] [] := by
    intro NL_1
    induction NL_1 with
    | zero => intro pl x_2 y_3 y_4 _ hok hfr lx_2 ux_2 hNL_1; exfalso; omega
    | succ NL_1 ihL_1 =>
      intro pl x_2 y_3 y_4 _ hok hfr lx_2 ux_2 hNL_1
      replace ihL_1 := fun pl x_2 y_3 y_4 h1 => ihL_1 pl x_2 y_3 y_4 trivial h1
      refine jj_iload C dX1_tryRedemption_9 rfl ?_
      refine jj_aload_n C dX1_tryRedemption_11 rfl ?_
      refine tt_get C hok jk_2 8 (by decide) jw_121 (t := (0, 0, 40)) hk1 (by decide) rfl rfl dX1_tryRedemption_12 (fun v_5 hv_5 hf_6 => ?_)
      obtain ⟨x_7, rfl, lx_7, ux_7⟩ := tt_vi hv_5
      refine jj_icmp_ge (tgt := 173) C dX1_tryRedemption_15 (by decide) (fun c_8 => ?_) (fun c_8 => ?_)
      · have z_c_8 := jc_le (a := (x_7).toInt) (b := (x_2).toInt) c_8 rfl rfl
        refine jj_lload C dX1_tryRedemption_173 rfl ?_
        exact jj_lret C ⟨[], pl, rfl, rfl, hok, hfr, ⟨y_4, rfl⟩⟩ dX1_tryRedemption_175 (jj_le rfl) (jj_le rfl)
      · have z_c_8 := jc_nle (a := (x_7).toInt) (b := (x_2).toInt) c_8 rfl rfl
        refine jj_lload C dX1_tryRedemption_18 rfl ?_
        refine jj_lconst (v := 0) C dX1_tryRedemption_20 (by decide) ?_
        refine jj_lcmp_le (tgt := 173) C dX1_tryRedemption_21 dX1_tryRedemption_22 (by decide) (fun c_9 => ?_) (fun c_9 => ?_)
        · refine jj_lload C dX1_tryRedemption_173 rfl ?_
          exact jj_lret C ⟨[], pl, rfl, rfl, hok, hfr, ⟨y_4, rfl⟩⟩ dX1_tryRedemption_175 (jj_le rfl) (jj_le rfl)
        · refine jj_aload_n C dX1_tryRedemption_25 rfl ?_
          refine tt_get C hok jk_2 12 (by decide) jw_122 (t := (2, 7, 0)) hk1 (by decide) rfl rfl dX1_tryRedemption_26 (fun v_10 hv_10 hf_11 => ?_)
          obtain ⟨a_12, rfl, ka_12⟩ := tt_vr hv_10
          refine jj_iload C dX1_tryRedemption_29 rfl ?_
          refine tt_aald C hok (t := (2, 3, 0)) ka_12 (by decide) rfl rfl rfl (vp_in_iff.mpr ⟨by omega, by omega⟩) dX1_tryRedemption_31 (fun v_13 hv_13 => ?_)
          obtain ⟨a_14, rfl, ka_14⟩ := tt_vr hv_13
          refine jj_astore C dX1_tryRedemption_32 (by decide) rfl ?_
          refine jj_aload_n C dX1_tryRedemption_34 rfl ?_
          refine jj_aload C dX1_tryRedemption_35 rfl ?_
          refine tt_get C hok jk_5 1 (by decide) jw_123 (t := (0, (-2147483648), 2147483647)) ka_14 (by decide) rfl rfl dX1_tryRedemption_37 (fun v_15 hv_15 hf_16 => ?_)
          obtain ⟨x_17, rfl, lx_17, ux_17⟩ := tt_vi hv_15
          obtain ⟨qc, gs, hqc⟩ := tt_recv (cx := []) hok hk1 (by decide) rfl
          refine tt_callV (rest := []) C (tc_X0_placeOfSeries_1 hl D cA ak h1 x_17 hk1 hok) [] [] rfl rfl (by decide) (by decide) (by decide) qc hqc rfl rfl jw_131 jw_137 jw_138 jw_133 jw_132 jn_X0_placeOfSeries rfl (jj_le rfl) (jj_le rfl) (jj_le rfl) (jj_le rfl) (jj_le rfl) dX1_tryRedemption_40 rfl (fun _ _ _ hX => hX.elim) (fun rx pl_18 r O_21 => ?_)
          obtain ⟨rfl, hok_19, hr_20, hR_23⟩ := O_21
          replace hf_6 := hr_20.at hk1 (by decide) (by decide) hf_6
          replace hf_11 := hr_20.at hk1 (by decide) (by decide) hf_11
          replace hf_16 := hr_20.at ka_14 (by decide) (by decide) hf_16
          replace hfr := hfr.trans (hr_20.sub (by decide))
          rcases hR_23 with rfl | ⟨x_24, lx_24, ux_24, rfl⟩
          · refine jj_istore C dX1_tryRedemption_43 (by decide) rfl ?_
            refine jj_aload C dX1_tryRedemption_45 rfl ?_
            refine tt_get C hok_19 jk_5 0 (by decide) jw_140 (t := (0, (-2147483648), 2147483647)) ka_14 (by decide) rfl rfl dX1_tryRedemption_47 (fun v_25 hv_25 hf_26 => ?_)
            obtain ⟨x_27, rfl, lx_27, ux_27⟩ := tt_vi hv_25
            refine jj_iload_n C dX1_tryRedemption_50 rfl ?_
            refine jj_icmp_ne (tgt := 167) C dX1_tryRedemption_51 (by decide) (fun c_28 => ?_) (fun c_28 => ?_)
            · have z_c_28 := jc_neq (a := (x_27).toInt) (b := (p2).toInt) c_28 rfl rfl
              obtain ⟨x_29, ex_29, vx_29⟩ := tt_inc (x := x_2) (n := 1) (by omega) (by omega)
              refine jj_iinc (v := x_29) C dX1_tryRedemption_167 rfl ex_29 (by decide) rfl ?_
              refine jj_goto (tgt := 9) C dX1_tryRedemption_170 (by decide) ?_
              refine jj_loc [0, 3, 4, 5, 6, 7, 8, 9] rfl ?_
              exact ihL_1 pl_18 x_29 y_3 y_4 hok_19 hfr (by first | omega | decide | exact tt_lo _ | exact tt_hi _) (by first | omega | decide | exact tt_lo _ | exact tt_hi _) (by first | omega | decide | exact tt_lo _ | exact tt_hi _)
            · have z_c_28 := jc_eq (a := (x_27).toInt) (b := (p2).toInt) c_28 rfl rfl
              refine jj_iload C dX1_tryRedemption_54 rfl ?_
              refine jj_iconst (v := (-1)) C dX1_tryRedemption_56 (by decide) ?_
              refine jj_icmp_eqT (tgt := 167) C dX1_tryRedemption_57 (by decide) (by decide) ?_
              obtain ⟨x_30, ex_30, vx_30⟩ := tt_inc (x := x_2) (n := 1) (by omega) (by omega)
              refine jj_iinc (v := x_30) C dX1_tryRedemption_167 rfl ex_30 (by decide) rfl ?_
              refine jj_goto (tgt := 9) C dX1_tryRedemption_170 (by decide) ?_
              refine jj_loc [0, 3, 4, 5, 6, 7, 8, 9] rfl ?_
              exact ihL_1 pl_18 x_30 y_3 y_4 hok_19 hfr (by first | omega | decide | exact tt_lo _ | exact tt_hi _) (by first | omega | decide | exact tt_lo _ | exact tt_hi _) (by first | omega | decide | exact tt_lo _ | exact tt_hi _)
          · refine jj_istore C dX1_tryRedemption_43 (by decide) rfl ?_
            refine jj_aload C dX1_tryRedemption_45 rfl ?_
            refine tt_get C hok_19 jk_5 0 (by decide) jw_140 (t := (0, (-2147483648), 2147483647)) ka_14 (by decide) rfl rfl dX1_tryRedemption_47 (fun v_31 hv_31 hf_32 => ?_)
            obtain ⟨x_33, rfl, lx_33, ux_33⟩ := tt_vi hv_31
            refine jj_iload_n C dX1_tryRedemption_50 rfl ?_
            refine jj_icmp_ne (tgt := 167) C dX1_tryRedemption_51 (by decide) (fun c_34 => ?_) (fun c_34 => ?_)
            · have z_c_34 := jc_neq (a := (x_33).toInt) (b := (p2).toInt) c_34 rfl rfl
              obtain ⟨x_35, ex_35, vx_35⟩ := tt_inc (x := x_2) (n := 1) (by omega) (by omega)
              refine jj_iinc (v := x_35) C dX1_tryRedemption_167 rfl ex_35 (by decide) rfl ?_
              refine jj_goto (tgt := 9) C dX1_tryRedemption_170 (by decide) ?_
              refine jj_loc [0, 3, 4, 5, 6, 7, 8, 9] rfl ?_
              exact ihL_1 pl_18 x_35 y_3 y_4 hok_19 hfr (by first | omega | decide | exact tt_lo _ | exact tt_hi _) (by first | omega | decide | exact tt_lo _ | exact tt_hi _) (by first | omega | decide | exact tt_lo _ | exact tt_hi _)
            · have z_c_34 := jc_eq (a := (x_33).toInt) (b := (p2).toInt) c_34 rfl rfl
              refine jj_iload C dX1_tryRedemption_54 rfl ?_
              refine jj_iconst (v := (-1)) C dX1_tryRedemption_56 (by decide) ?_
              refine jj_icmp_eq (tgt := 167) C dX1_tryRedemption_57 (by decide) (fun c_36 => ?_) (fun c_36 => ?_)
              · have z_c_36 := jc_eq (a := (x_24).toInt) (b := (-1)) c_36 rfl (by decide)
                exfalso; omega
              · have z_c_36 := jc_neq (a := (x_24).toInt) (b := (-1)) c_36 rfl (by decide)
                refine jj_lload C dX1_tryRedemption_60 rfl ?_
                refine jj_aload C dX1_tryRedemption_62 rfl ?_
                refine tt_get C hok_19 jk_5 3 (by decide) jw_141 (t := (1, (-9223372036854775808), 9223372036854775807)) ka_14 (by decide) rfl rfl dX1_tryRedemption_64 (fun v_37 hv_37 hf_38 => ?_)
                obtain ⟨y_39, rfl, -, -⟩ := tt_vj hv_37
                refine tt_call0S (rest := []) C (ct_J9_min_f86c9_1 hl D cA ak y_3 y_39) jw_142 jw_145 jw_144 jw_143 jn_J9_min_f86c9 rfl (jj_le rfl) (jj_le rfl) (jj_le rfl) (jj_le rfl) (jj_le rfl) dX1_tryRedemption_67 rfl (fun w1 r O_40 => ?_)
                rcases O_40 with ⟨c_41, -, rfl⟩ | ⟨c_42, -, rfl⟩
                · refine jj_lstore C dX1_tryRedemption_70 (by decide) rfl ?_
                  refine jj_aload_n C dX1_tryRedemption_72 rfl ?_
                  refine jj_aload_n C dX1_tryRedemption_73 rfl ?_
                  refine jj_aload_n C dX1_tryRedemption_74 rfl ?_
                  refine tt_get C hok_19 jk_3 0 (by decide) jw_81 (t := (2, 6, 0)) hk0 (by decide) rfl rfl dX1_tryRedemption_75 (fun v_43 hv_43 hf_44 => ?_)
                  obtain ⟨a_45, rfl, ka_45⟩ := tt_vr hv_43
                  refine jj_iload C dX1_tryRedemption_78 rfl ?_
                  refine tt_aald C hok_19 (t := (2, 2, 0)) ka_45 (by decide) rfl rfl rfl (vp_in_iff.mpr ⟨by omega, by omega⟩) dX1_tryRedemption_80 (fun v_46 hv_46 => ?_)
                  obtain ⟨a_47, rfl, ka_47⟩ := tt_vr hv_46
                  refine jj_aload C dX1_tryRedemption_81 rfl ?_
                  refine jj_lload C dX1_tryRedemption_83 rfl ?_
                  obtain ⟨qc, gs, hqc⟩ := tt_recv (cx := []) hok_19 hk0 (by decide) rfl
                  refine tt_callV (rest := []) C (tc_X1_quote_1 hl D cA ak h0 h1 a_47 a_14 y_39 hk0 hk1 ka_47 ka_14 hok_19) [] [] rfl rfl (by decide) (by decide) (by decide) qc hqc rfl rfl jw_147 jw_180 jw_181 jw_74 jw_148 jn_X1_quote rfl (jj_le rfl) (jj_le rfl) (jj_le rfl) (jj_le rfl) (jj_le rfl) dX1_tryRedemption_85 rfl (fun _ _ _ hX => hX.elim) (fun rx pl_48 r O_51 => ?_)
                  obtain ⟨rfl, hok_49, hr_50, hR_53⟩ := O_51
                  replace hf_6 := hr_50.at hk1 (by decide) (by decide) hf_6
                  replace hf_11 := hr_50.at hk1 (by decide) (by decide) hf_11
                  replace hf_16 := hr_50.at ka_14 (by decide) (by decide) hf_16
                  replace hf_32 := hr_50.at ka_14 (by decide) (by decide) hf_32
                  replace hf_38 := hr_50.at ka_14 (by decide) (by decide) hf_38
                  replace hf_44 := hr_50.at hk0 (by decide) (by decide) hf_44
                  replace hfr := hfr.trans (hr_50.sub (by decide))
                  obtain rfl := hR_53
                  refine jj_aload_n C dX1_tryRedemption_88 rfl ?_
                  refine tt_getF C hok_49 jk_3 0 (by decide) jw_81 (t := (2, 6, 0)) hk0 (by decide) rfl rfl hf_44 dX1_tryRedemption_89 ?_
                  refine jj_iload C dX1_tryRedemption_92 rfl ?_
                  refine tt_aald C hok_49 (t := (2, 2, 0)) ka_45 (by decide) rfl rfl rfl (vp_in_iff.mpr ⟨by omega, by omega⟩) dX1_tryRedemption_94 (fun v_54 hv_54 => ?_)
                  obtain ⟨a_55, rfl, ka_55⟩ := tt_vr hv_54
                  refine jj_dup C dX1_tryRedemption_95 rfl ?_
                  refine tt_get C hok_49 jk_9 2 (by decide) jw_113 (t := (1, (-9223372036854775808), 9223372036854775807)) ka_55 (by decide) rfl rfl dX1_tryRedemption_96 (fun v_56 hv_56 hf_57 => ?_)
                  obtain ⟨y_58, rfl, -, -⟩ := tt_vj hv_56
                  refine jj_aload_n C dX1_tryRedemption_99 rfl ?_
                  refine tt_get C hok_49 jk_3 1 (by decide) jw_158 (t := (1, (-9223372036854775808), 9223372036854775807)) hk0 (by decide) rfl rfl dX1_tryRedemption_100 (fun v_59 hv_59 hf_60 => ?_)
                  obtain ⟨y_61, rfl, -, -⟩ := tt_vj hv_59
                  refine jj_aload_n C dX1_tryRedemption_103 rfl ?_
                  refine tt_get C hok_49 jk_3 2 (by decide) jw_159 (t := (1, (-9223372036854775808), 9223372036854775807)) hk0 (by decide) rfl rfl dX1_tryRedemption_104 (fun v_62 hv_62 hf_63 => ?_)
                  obtain ⟨y_64, rfl, -, -⟩ := tt_vj hv_62
                  obtain ⟨y_65, ey_65⟩ : ∃ z : Int64, y_61 + y_64 = z := ⟨_, rfl⟩
                  refine jj_ladd (v := y_65) C dX1_tryRedemption_107 ey_65 ?_
                  obtain ⟨y_66, ey_66⟩ : ∃ z : Int64, y_58 - y_65 = z := ⟨_, rfl⟩
                  refine jj_lsub (v := y_66) C dX1_tryRedemption_108 ey_66 ?_
                  refine tt_put C hok_49 jk_9 2 (by decide) jw_113 (t := (1, (-9223372036854775808), 9223372036854775807)) ka_55 (by decide) rfl rfl rfl (tt_ja y_66) rfl rfl dX1_tryRedemption_109 (fun pl_67 hok_68 tr hn => ?_)
                  replace hf_6 := tr _ _ _ (Or.inl (tt_ne hk1 ka_55 (by decide))) hf_6
                  replace hf_11 := tr _ _ _ (Or.inl (tt_ne hk1 ka_55 (by decide))) hf_11
                  replace hf_16 := tr _ _ _ (Or.inl (tt_ne ka_14 ka_55 (by decide))) hf_16
                  replace hf_32 := tr _ _ _ (Or.inl (tt_ne ka_14 ka_55 (by decide))) hf_32
                  replace hf_38 := tr _ _ _ (Or.inl (tt_ne ka_14 ka_55 (by decide))) hf_38
                  replace hf_44 := tr _ _ _ (Or.inl (tt_ne hk0 ka_55 (by decide))) hf_44
                  replace hf_60 := tr _ _ _ (Or.inl (tt_ne hk0 ka_55 (by decide))) hf_60
                  replace hf_63 := tr _ _ _ (Or.inl (tt_ne hk0 ka_55 (by decide))) hf_63
                  have hf_69 := hn
                  replace hfr := hfr.put ka_55 tr (by decide)
                  refine jj_aload_n C dX1_tryRedemption_112 rfl ?_
                  refine tt_getF C hok_68 jk_3 0 (by decide) jw_81 (t := (2, 6, 0)) hk0 (by decide) rfl rfl hf_44 dX1_tryRedemption_113 ?_
                  refine jj_iload C dX1_tryRedemption_116 rfl ?_
                  refine tt_aald C hok_68 (t := (2, 2, 0)) ka_45 (by decide) rfl rfl rfl (vp_in_iff.mpr ⟨by omega, by omega⟩) dX1_tryRedemption_118 (fun v_70 hv_70 => ?_)
                  obtain ⟨a_71, rfl, ka_71⟩ := tt_vr hv_70
                  refine jj_dup C dX1_tryRedemption_119 rfl ?_
                  refine tt_get C hok_68 jk_9 3 (by decide) jw_157 (t := (1, (-9223372036854775808), 9223372036854775807)) ka_71 (by decide) rfl rfl dX1_tryRedemption_120 (fun v_72 hv_72 hf_73 => ?_)
                  obtain ⟨y_74, rfl, -, -⟩ := tt_vj hv_72
                  refine jj_lload C dX1_tryRedemption_123 rfl ?_
                  obtain ⟨y_75, ey_75⟩ : ∃ z : Int64, y_74 - y_39 = z := ⟨_, rfl⟩
                  refine jj_lsub (v := y_75) C dX1_tryRedemption_125 ey_75 ?_
                  refine tt_put C hok_68 jk_9 3 (by decide) jw_157 (t := (1, (-9223372036854775808), 9223372036854775807)) ka_71 (by decide) rfl rfl rfl (tt_ja y_75) rfl rfl dX1_tryRedemption_126 (fun pl_76 hok_77 tr hn => ?_)
                  replace hf_6 := tr _ _ _ (Or.inl (tt_ne hk1 ka_71 (by decide))) hf_6
                  replace hf_11 := tr _ _ _ (Or.inl (tt_ne hk1 ka_71 (by decide))) hf_11
                  replace hf_16 := tr _ _ _ (Or.inl (tt_ne ka_14 ka_71 (by decide))) hf_16
                  replace hf_32 := tr _ _ _ (Or.inl (tt_ne ka_14 ka_71 (by decide))) hf_32
                  replace hf_38 := tr _ _ _ (Or.inl (tt_ne ka_14 ka_71 (by decide))) hf_38
                  replace hf_44 := tr _ _ _ (Or.inl (tt_ne hk0 ka_71 (by decide))) hf_44
                  replace hf_60 := tr _ _ _ (Or.inl (tt_ne hk0 ka_71 (by decide))) hf_60
                  replace hf_63 := tr _ _ _ (Or.inl (tt_ne hk0 ka_71 (by decide))) hf_63
                  replace hf_69 := tr _ _ _ (Or.inr (by decide)) hf_69
                  have hf_78 := hn
                  replace hfr := hfr.put ka_71 tr (by decide)
                  refine jj_lload C dX1_tryRedemption_129 rfl ?_
                  refine jj_lload C dX1_tryRedemption_131 rfl ?_
                  obtain ⟨y_79, ey_79⟩ : ∃ z : Int64, y_3 - y_39 = z := ⟨_, rfl⟩
                  refine jj_lsub (v := y_79) C dX1_tryRedemption_133 ey_79 ?_
                  refine jj_lstore C dX1_tryRedemption_134 (by decide) rfl ?_
                  refine jj_lload C dX1_tryRedemption_136 rfl ?_
                  refine jj_iload C dX1_tryRedemption_138 rfl ?_
                  refine jj_if_eqF (tgt := 160) C dX1_tryRedemption_140 (by decide) (by decide) ?_
                  refine jj_aload_n C dX1_tryRedemption_143 rfl ?_
                  refine tt_getF C hok_77 jk_3 1 (by decide) jw_158 (t := (1, (-9223372036854775808), 9223372036854775807)) hk0 (by decide) rfl rfl hf_60 dX1_tryRedemption_144 ?_
                  refine jj_aload_n C dX1_tryRedemption_147 rfl ?_
                  refine tt_get C hok_77 jk_3 4 (by decide) jw_161 (t := (1, (-9223372036854775808), 9223372036854775807)) hk0 (by decide) rfl rfl dX1_tryRedemption_148 (fun v_80 hv_80 hf_81 => ?_)
                  obtain ⟨y_82, rfl, -, -⟩ := tt_vj hv_80
                  obtain ⟨y_83, ey_83⟩ : ∃ z : Int64, y_61 + y_82 = z := ⟨_, rfl⟩
                  refine jj_ladd (v := y_83) C dX1_tryRedemption_151 ey_83 ?_
                  refine jj_aload_n C dX1_tryRedemption_152 rfl ?_
                  refine tt_get C hok_77 jk_3 5 (by decide) jw_162 (t := (1, (-9223372036854775808), 9223372036854775807)) hk0 (by decide) rfl rfl dX1_tryRedemption_153 (fun v_84 hv_84 hf_85 => ?_)
                  obtain ⟨y_86, rfl, -, -⟩ := tt_vj hv_84
                  obtain ⟨y_87, ey_87⟩ : ∃ z : Int64, y_83 - y_86 = z := ⟨_, rfl⟩
                  refine jj_lsub (v := y_87) C dX1_tryRedemption_156 ey_87 ?_
                  refine jj_goto (tgt := 164) C dX1_tryRedemption_157 (by decide) ?_
                  obtain ⟨y_88, ey_88⟩ : ∃ z : Int64, y_4 + y_87 = z := ⟨_, rfl⟩
                  refine jj_ladd (v := y_88) C dX1_tryRedemption_164 ey_88 ?_
                  refine jj_lstore C dX1_tryRedemption_165 (by decide) rfl ?_
                  obtain ⟨x_89, ex_89, vx_89⟩ := tt_inc (x := x_2) (n := 1) (by omega) (by omega)
                  refine jj_iinc (v := x_89) C dX1_tryRedemption_167 rfl ex_89 (by decide) rfl ?_
                  refine jj_goto (tgt := 9) C dX1_tryRedemption_170 (by decide) ?_
                  refine jj_loc [0, 2, 1, 6, 7, 8, 9, 10] rfl ?_
                  exact ihL_1 pl_76 x_89 y_79 y_88 hok_77 hfr (by first | omega | decide | exact tt_lo _ | exact tt_hi _) (by first | omega | decide | exact tt_lo _ | exact tt_hi _) (by first | omega | decide | exact tt_lo _ | exact tt_hi _)
                · refine jj_lstore C dX1_tryRedemption_70 (by decide) rfl ?_
                  refine jj_aload_n C dX1_tryRedemption_72 rfl ?_
                  refine jj_aload_n C dX1_tryRedemption_73 rfl ?_
                  refine jj_aload_n C dX1_tryRedemption_74 rfl ?_
                  refine tt_get C hok_19 jk_3 0 (by decide) jw_81 (t := (2, 6, 0)) hk0 (by decide) rfl rfl dX1_tryRedemption_75 (fun v_90 hv_90 hf_91 => ?_)
                  obtain ⟨a_92, rfl, ka_92⟩ := tt_vr hv_90
                  refine jj_iload C dX1_tryRedemption_78 rfl ?_
                  refine tt_aald C hok_19 (t := (2, 2, 0)) ka_92 (by decide) rfl rfl rfl (vp_in_iff.mpr ⟨by omega, by omega⟩) dX1_tryRedemption_80 (fun v_93 hv_93 => ?_)
                  obtain ⟨a_94, rfl, ka_94⟩ := tt_vr hv_93
                  refine jj_aload C dX1_tryRedemption_81 rfl ?_
                  refine jj_lload C dX1_tryRedemption_83 rfl ?_
                  obtain ⟨qc, gs, hqc⟩ := tt_recv (cx := []) hok_19 hk0 (by decide) rfl
                  refine tt_callV (rest := []) C (tc_X1_quote_1 hl D cA ak h0 h1 a_94 a_14 y_3 hk0 hk1 ka_94 ka_14 hok_19) [] [] rfl rfl (by decide) (by decide) (by decide) qc hqc rfl rfl jw_147 jw_180 jw_181 jw_74 jw_148 jn_X1_quote rfl (jj_le rfl) (jj_le rfl) (jj_le rfl) (jj_le rfl) (jj_le rfl) dX1_tryRedemption_85 rfl (fun _ _ _ hX => hX.elim) (fun rx pl_95 r O_98 => ?_)
                  obtain ⟨rfl, hok_96, hr_97, hR_100⟩ := O_98
                  replace hf_6 := hr_97.at hk1 (by decide) (by decide) hf_6
                  replace hf_11 := hr_97.at hk1 (by decide) (by decide) hf_11
                  replace hf_16 := hr_97.at ka_14 (by decide) (by decide) hf_16
                  replace hf_32 := hr_97.at ka_14 (by decide) (by decide) hf_32
                  replace hf_38 := hr_97.at ka_14 (by decide) (by decide) hf_38
                  replace hf_91 := hr_97.at hk0 (by decide) (by decide) hf_91
                  replace hfr := hfr.trans (hr_97.sub (by decide))
                  obtain rfl := hR_100
                  refine jj_aload_n C dX1_tryRedemption_88 rfl ?_
                  refine tt_getF C hok_96 jk_3 0 (by decide) jw_81 (t := (2, 6, 0)) hk0 (by decide) rfl rfl hf_91 dX1_tryRedemption_89 ?_
                  refine jj_iload C dX1_tryRedemption_92 rfl ?_
                  refine tt_aald C hok_96 (t := (2, 2, 0)) ka_92 (by decide) rfl rfl rfl (vp_in_iff.mpr ⟨by omega, by omega⟩) dX1_tryRedemption_94 (fun v_101 hv_101 => ?_)
                  obtain ⟨a_102, rfl, ka_102⟩ := tt_vr hv_101
                  refine jj_dup C dX1_tryRedemption_95 rfl ?_
                  refine tt_get C hok_96 jk_9 2 (by decide) jw_113 (t := (1, (-9223372036854775808), 9223372036854775807)) ka_102 (by decide) rfl rfl dX1_tryRedemption_96 (fun v_103 hv_103 hf_104 => ?_)
                  obtain ⟨y_105, rfl, -, -⟩ := tt_vj hv_103
                  refine jj_aload_n C dX1_tryRedemption_99 rfl ?_
                  refine tt_get C hok_96 jk_3 1 (by decide) jw_158 (t := (1, (-9223372036854775808), 9223372036854775807)) hk0 (by decide) rfl rfl dX1_tryRedemption_100 (fun v_106 hv_106 hf_107 => ?_)
                  obtain ⟨y_108, rfl, -, -⟩ := tt_vj hv_106
                  refine jj_aload_n C dX1_tryRedemption_103 rfl ?_
                  refine tt_get C hok_96 jk_3 2 (by decide) jw_159 (t := (1, (-9223372036854775808), 9223372036854775807)) hk0 (by decide) rfl rfl dX1_tryRedemption_104 (fun v_109 hv_109 hf_110 => ?_)
                  obtain ⟨y_111, rfl, -, -⟩ := tt_vj hv_109
                  obtain ⟨y_112, ey_112⟩ : ∃ z : Int64, y_108 + y_111 = z := ⟨_, rfl⟩
                  refine jj_ladd (v := y_112) C dX1_tryRedemption_107 ey_112 ?_
                  obtain ⟨y_113, ey_113⟩ : ∃ z : Int64, y_105 - y_112 = z := ⟨_, rfl⟩
                  refine jj_lsub (v := y_113) C dX1_tryRedemption_108 ey_113 ?_
                  refine tt_put C hok_96 jk_9 2 (by decide) jw_113 (t := (1, (-9223372036854775808), 9223372036854775807)) ka_102 (by decide) rfl rfl rfl (tt_ja y_113) rfl rfl dX1_tryRedemption_109 (fun pl_114 hok_115 tr hn => ?_)
                  replace hf_6 := tr _ _ _ (Or.inl (tt_ne hk1 ka_102 (by decide))) hf_6
                  replace hf_11 := tr _ _ _ (Or.inl (tt_ne hk1 ka_102 (by decide))) hf_11
                  replace hf_16 := tr _ _ _ (Or.inl (tt_ne ka_14 ka_102 (by decide))) hf_16
                  replace hf_32 := tr _ _ _ (Or.inl (tt_ne ka_14 ka_102 (by decide))) hf_32
                  replace hf_38 := tr _ _ _ (Or.inl (tt_ne ka_14 ka_102 (by decide))) hf_38
                  replace hf_91 := tr _ _ _ (Or.inl (tt_ne hk0 ka_102 (by decide))) hf_91
                  replace hf_107 := tr _ _ _ (Or.inl (tt_ne hk0 ka_102 (by decide))) hf_107
                  replace hf_110 := tr _ _ _ (Or.inl (tt_ne hk0 ka_102 (by decide))) hf_110
                  have hf_116 := hn
                  replace hfr := hfr.put ka_102 tr (by decide)
                  refine jj_aload_n C dX1_tryRedemption_112 rfl ?_
                  refine tt_getF C hok_115 jk_3 0 (by decide) jw_81 (t := (2, 6, 0)) hk0 (by decide) rfl rfl hf_91 dX1_tryRedemption_113 ?_
                  refine jj_iload C dX1_tryRedemption_116 rfl ?_
                  refine tt_aald C hok_115 (t := (2, 2, 0)) ka_92 (by decide) rfl rfl rfl (vp_in_iff.mpr ⟨by omega, by omega⟩) dX1_tryRedemption_118 (fun v_117 hv_117 => ?_)
                  obtain ⟨a_118, rfl, ka_118⟩ := tt_vr hv_117
                  refine jj_dup C dX1_tryRedemption_119 rfl ?_
                  refine tt_get C hok_115 jk_9 3 (by decide) jw_157 (t := (1, (-9223372036854775808), 9223372036854775807)) ka_118 (by decide) rfl rfl dX1_tryRedemption_120 (fun v_119 hv_119 hf_120 => ?_)
                  obtain ⟨y_121, rfl, -, -⟩ := tt_vj hv_119
                  refine jj_lload C dX1_tryRedemption_123 rfl ?_
                  obtain ⟨y_122, ey_122⟩ : ∃ z : Int64, y_121 - y_3 = z := ⟨_, rfl⟩
                  refine jj_lsub (v := y_122) C dX1_tryRedemption_125 ey_122 ?_
                  refine tt_put C hok_115 jk_9 3 (by decide) jw_157 (t := (1, (-9223372036854775808), 9223372036854775807)) ka_118 (by decide) rfl rfl rfl (tt_ja y_122) rfl rfl dX1_tryRedemption_126 (fun pl_123 hok_124 tr hn => ?_)
                  replace hf_6 := tr _ _ _ (Or.inl (tt_ne hk1 ka_118 (by decide))) hf_6
                  replace hf_11 := tr _ _ _ (Or.inl (tt_ne hk1 ka_118 (by decide))) hf_11
                  replace hf_16 := tr _ _ _ (Or.inl (tt_ne ka_14 ka_118 (by decide))) hf_16
                  replace hf_32 := tr _ _ _ (Or.inl (tt_ne ka_14 ka_118 (by decide))) hf_32
                  replace hf_38 := tr _ _ _ (Or.inl (tt_ne ka_14 ka_118 (by decide))) hf_38
                  replace hf_91 := tr _ _ _ (Or.inl (tt_ne hk0 ka_118 (by decide))) hf_91
                  replace hf_107 := tr _ _ _ (Or.inl (tt_ne hk0 ka_118 (by decide))) hf_107
                  replace hf_110 := tr _ _ _ (Or.inl (tt_ne hk0 ka_118 (by decide))) hf_110
                  replace hf_116 := tr _ _ _ (Or.inr (by decide)) hf_116
                  have hf_125 := hn
                  replace hfr := hfr.put ka_118 tr (by decide)
                  refine jj_lload C dX1_tryRedemption_129 rfl ?_
                  refine jj_lload C dX1_tryRedemption_131 rfl ?_
                  obtain ⟨y_126, ey_126⟩ : ∃ z : Int64, y_3 - y_3 = z := ⟨_, rfl⟩
                  refine jj_lsub (v := y_126) C dX1_tryRedemption_133 ey_126 ?_
                  refine jj_lstore C dX1_tryRedemption_134 (by decide) rfl ?_
                  refine jj_lload C dX1_tryRedemption_136 rfl ?_
                  refine jj_iload C dX1_tryRedemption_138 rfl ?_
                  refine jj_if_eqF (tgt := 160) C dX1_tryRedemption_140 (by decide) (by decide) ?_
                  refine jj_aload_n C dX1_tryRedemption_143 rfl ?_
                  refine tt_getF C hok_124 jk_3 1 (by decide) jw_158 (t := (1, (-9223372036854775808), 9223372036854775807)) hk0 (by decide) rfl rfl hf_107 dX1_tryRedemption_144 ?_
                  refine jj_aload_n C dX1_tryRedemption_147 rfl ?_
                  refine tt_get C hok_124 jk_3 4 (by decide) jw_161 (t := (1, (-9223372036854775808), 9223372036854775807)) hk0 (by decide) rfl rfl dX1_tryRedemption_148 (fun v_127 hv_127 hf_128 => ?_)
                  obtain ⟨y_129, rfl, -, -⟩ := tt_vj hv_127
                  obtain ⟨y_130, ey_130⟩ : ∃ z : Int64, y_108 + y_129 = z := ⟨_, rfl⟩
                  refine jj_ladd (v := y_130) C dX1_tryRedemption_151 ey_130 ?_
                  refine jj_aload_n C dX1_tryRedemption_152 rfl ?_
                  refine tt_get C hok_124 jk_3 5 (by decide) jw_162 (t := (1, (-9223372036854775808), 9223372036854775807)) hk0 (by decide) rfl rfl dX1_tryRedemption_153 (fun v_131 hv_131 hf_132 => ?_)
                  obtain ⟨y_133, rfl, -, -⟩ := tt_vj hv_131
                  obtain ⟨y_134, ey_134⟩ : ∃ z : Int64, y_130 - y_133 = z := ⟨_, rfl⟩
                  refine jj_lsub (v := y_134) C dX1_tryRedemption_156 ey_134 ?_
                  refine jj_goto (tgt := 164) C dX1_tryRedemption_157 (by decide) ?_
                  obtain ⟨y_135, ey_135⟩ : ∃ z : Int64, y_4 + y_134 = z := ⟨_, rfl⟩
                  refine jj_ladd (v := y_135) C dX1_tryRedemption_164 ey_135 ?_
                  refine jj_lstore C dX1_tryRedemption_165 (by decide) rfl ?_
                  obtain ⟨x_136, ex_136, vx_136⟩ := tt_inc (x := x_2) (n := 1) (by omega) (by omega)
                  refine jj_iinc (v := x_136) C dX1_tryRedemption_167 rfl ex_136 (by decide) rfl ?_
                  refine jj_goto (tgt := 9) C dX1_tryRedemption_170 (by decide) ?_
                  refine jj_loc [0, 2, 1, 6, 7, 8, 9, 10] rfl ?_
                  exact ihL_1 pl_123 x_136 y_126 y_135 hok_124 hfr (by first | omega | decide | exact tt_lo _ | exact tt_hi _) (by first | omega | decide | exact tt_lo _ | exact tt_hi _) (by first | omega | decide | exact tt_lo _ | exact tt_hi _)
  exact hL_1 _ pl0 (0 : Int32) (9223372036854775807 : Int64) (0 : Int64) trivial hok hfr (by first | omega | decide | exact tt_lo _ | exact tt_hi _) (by first | omega | decide | exact tt_lo _ | exact tt_hi _) (Int.self_le_toNat _)

set_option maxHeartbeats 4000000 in
set_option maxRecDepth 100000 in
theorem tc_X1_payAfterRate_13 {l : Launch} (hl : l.stackTraces = false) (D : va_G) (cA : Nat → ClassId) (ak : (Nat → Nat) × (Nat → Nat)) {Kd : Nat → Nat} (h0 : Nat) (h1 : Nat) (p2 : Int32) (hk0 : Kd h0 = 9) (hk1 : Kd h1 = 1) (lp2 : (0 : Int) ≤ p2.toInt) (up2 : p2.toInt ≤ 400) {pl0 : va_W} (hok : tt_ok tt_tk cA Kd pl0) : jj_M l D cA ak yX1_payAfterRate (.code yX1_payAfterRate cX1_payAfterRate 4 (some .long)) 3 88 0 0 ([] ++ pl0) [.ref h0, .ref h1, .int p2, .int 0] (tt_O (fun rx pl1 r => rx = [] ∧ tt_ok tt_tk cA Kd pl1 ∧ tt_fr Kd [(2, 0), (2, 1), (2, 2), (2, 3), (2, 4), (9, 1), (9, 2), (9, 3), (9, 4), (9, 5)] pl0 pl1 ∧ ((∃ v : Int64, r = some (.long v))))) (tt_OX (fun _ _ _ => False)) := by
  refine jj_start hl (by decide) jw_438 (jj_le rfl) ?_
  intro p e s m args below meth c A hargs hA C hex hmn
  have hfr := tt_fr.refl (K := Kd) (WS := [(2, 0), (2, 1), (2, 2), (2, 3), (2, 4), (9, 1), (9, 2), (9, 3), (9, 4), (9, 5)]) pl0
  refine jj_aload_n C dX1_payAfterRate_0 rfl ?_
  refine jj_aload_n C dX1_payAfterRate_1 rfl ?_
  refine jj_iload_n C dX1_payAfterRate_2 rfl ?_
  obtain ⟨qc, gs, hqc⟩ := tt_recv (cx := []) hok hk0 (by decide) rfl
  refine tt_callV (rest := []) C (tc_X1_resetTrial_1 hl D cA ak h0 h1 hk0 hk1 hok) [] [] rfl rfl (by decide) (by decide) (by decide) qc hqc rfl rfl jw_78 jw_114 jw_115 jw_74 jw_79 jn_X1_resetTrial rfl (jj_le rfl) (jj_le rfl) (jj_le rfl) (jj_le rfl) (jj_le rfl) dX1_payAfterRate_3 rfl (fun _ _ _ hX => hX.elim) (fun rx pl_1 r O_4 => ?_)
  obtain ⟨rfl, hok_2, hr_3, hR_6⟩ := O_4
  replace hfr := hfr.trans (hr_3.sub (by decide))
  obtain rfl := hR_6
  refine jj_aload_n C dX1_payAfterRate_6 rfl ?_
  refine jj_aload_n C dX1_payAfterRate_7 rfl ?_
  refine jj_iload_n C dX1_payAfterRate_8 rfl ?_
  refine jj_ldc2 (v := 9223372036854775807) C dX1_payAfterRate_9 jw_439 ?_
  refine jj_iconst (v := 1) C dX1_payAfterRate_12 (by decide) ?_
  obtain ⟨qc, gs, hqc⟩ := tt_recv (cx := []) hok_2 hk0 (by decide) rfl
  refine tt_callV (rest := []) C (tc_X1_tryRedemption_14 hl D cA ak h0 h1 p2 hk0 hk1 (by omega) (by omega) hok_2) [] [] rfl rfl (by decide) (by decide) (by decide) qc hqc rfl rfl jw_119 jw_183 jw_184 jw_74 jw_120 jn_X1_tryRedemption rfl (jj_le rfl) (jj_le rfl) (jj_le rfl) (jj_le rfl) (jj_le rfl) dX1_payAfterRate_13 rfl (fun _ _ _ hX => hX.elim) (fun rx pl_7 r O_10 => ?_)
  obtain ⟨rfl, hok_8, hr_9, hR_12⟩ := O_10
  replace hfr := hfr.trans (hr_9.sub (by decide))
  obtain ⟨y_13, rfl⟩ := hR_12
  exact jj_lret C ⟨[], pl_7, rfl, rfl, hok_8, hfr, ⟨y_13, rfl⟩⟩ dX1_payAfterRate_16 (jj_le rfl) (jj_le rfl)

set_option maxHeartbeats 4000000 in
set_option maxRecDepth 100000 in
theorem tc_X1_tryRedemption_15 {l : Launch} (hl : l.stackTraces = false) (D : va_G) (cA : Nat → ClassId) (ak : (Nat → Nat) × (Nat → Nat)) {Kd : Nat → Nat} (h0 : Nat) (h1 : Nat) (p2 : Int32) (hk0 : Kd h0 = 9) (hk1 : Kd h1 = 1) (lp2 : (0 : Int) ≤ p2.toInt) (up2 : p2.toInt ≤ 1300) {pl0 : va_W} (hok : tt_ok tt_tk cA Kd pl0) : jj_M l D cA ak yX1_tryRedemption (.code yX1_tryRedemption cX1_tryRedemption 15 (some .long)) 2 54 0 0 ([] ++ pl0) [.ref h0, .ref h1, .int p2, .long 9223372036854775807, .int 1] (tt_O (fun rx pl1 r => rx = [] ∧ tt_ok tt_tk cA Kd pl1 ∧ tt_fr Kd [(2, 2), (2, 3), (9, 1), (9, 2), (9, 3), (9, 4), (9, 5)] pl0 pl1 ∧ ((∃ v : Int64, r = some (.long v))))) (tt_OX (fun _ _ _ => False)) := by
  refine jj_start hl (by decide) jw_120 (jj_le rfl) ?_
  intro p e s m args below meth c A hargs hA C hex hmn
  have hfr := tt_fr.refl (K := Kd) (WS := [(2, 2), (2, 3), (9, 1), (9, 2), (9, 3), (9, 4), (9, 5)]) pl0
  refine jj_lconst (v := 0) C dX1_tryRedemption_0 (by decide) ?_
  refine jj_lstore C dX1_tryRedemption_1 (by decide) rfl ?_
  refine jj_lload_n C dX1_tryRedemption_3 rfl ?_
  refine jj_lstore C dX1_tryRedemption_4 (by decide) rfl ?_
  refine jj_iconst (v := 0) C dX1_tryRedemption_6 (by decide) ?_
  refine jj_istore C dX1_tryRedemption_7 (by decide) rfl ?_
  have hL_1 : ∀ (N : Nat) (pl : va_W) (x_2 : Int32) (y_3 : Int64) (y_4 : Int64), True → tt_ok tt_tk cA Kd pl → tt_fr Kd [(2, 2), (2, 3), (9, 1), (9, 2), (9, 3), (9, 4), (9, 5)] pl0 pl → (0 : Int) ≤ x_2.toInt → x_2.toInt ≤ 40 → (2147483648 - x_2.toInt ≤ (N : Int)) → jj_J p l e (jj_rm 2 54 0 0) s m args below meth c 15 A (vx_MQ below (jj_q D A (tt_O (fun rx pl1 r => rx = [] ∧ tt_ok tt_tk cA Kd pl1 ∧ tt_fr Kd [(2, 2), (2, 3), (9, 1), (9, 2), (9, 3), (9, 4), (9, 5)] pl0 pl1 ∧ ((∃ v : Int64, r = some (.long v)))))) (jj_x D A (tt_OX (fun _ _ _ => False))) args s 0 0 A) (jj_X D A ([] ++ pl)) 0 0 9 [(10, .int x_2), (8, .long y_3), (6, .long y_4), (0, .ref h0), (1, .ref h1), (2, .int p2), (3, .long 9223372036854775807), (5, .int 1)] [] := by
    intro NL_1
    induction NL_1 with
    | zero => intro pl x_2 y_3 y_4 _ hok hfr lx_2 ux_2 hNL_1; exfalso; omega
    | succ NL_1 ihL_1 =>
      intro pl x_2 y_3 y_4 _ hok hfr lx_2 ux_2 hNL_1
      replace ihL_1 := fun pl x_2 y_3 y_4 h1 => ihL_1 pl x_2 y_3 y_4 trivial h1
      refine jj_iload C dX1_tryRedemption_9 rfl ?_
      refine jj_aload_n C dX1_tryRedemption_11 rfl ?_
      refine tt_get C hok jk_2 8 (by decide) jw_121 (t := (0, 0, 40)) hk1 (by decide) rfl rfl dX1_tryRedemption_12 (fun v_5 hv_5 hf_6 => ?_)
      obtain ⟨x_7, rfl, lx_7, ux_7⟩ := tt_vi hv_5
      refine jj_icmp_ge (tgt := 173) C dX1_tryRedemption_15 (by decide) (fun c_8 => ?_) (fun c_8 => ?_)
      · have z_c_8 := jc_le (a := (x_7).toInt) (b := (x_2).toInt) c_8 rfl rfl
        refine jj_lload C dX1_tryRedemption_173 rfl ?_
        exact jj_lret C ⟨[], pl, rfl, rfl, hok, hfr, ⟨y_4, rfl⟩⟩ dX1_tryRedemption_175 (jj_le rfl) (jj_le rfl)
      · have z_c_8 := jc_nle (a := (x_7).toInt) (b := (x_2).toInt) c_8 rfl rfl
        refine jj_lload C dX1_tryRedemption_18 rfl ?_
        refine jj_lconst (v := 0) C dX1_tryRedemption_20 (by decide) ?_
        refine jj_lcmp_le (tgt := 173) C dX1_tryRedemption_21 dX1_tryRedemption_22 (by decide) (fun c_9 => ?_) (fun c_9 => ?_)
        · refine jj_lload C dX1_tryRedemption_173 rfl ?_
          exact jj_lret C ⟨[], pl, rfl, rfl, hok, hfr, ⟨y_4, rfl⟩⟩ dX1_tryRedemption_175 (jj_le rfl) (jj_le rfl)
        · refine jj_aload_n C dX1_tryRedemption_25 rfl ?_
          refine tt_get C hok jk_2 12 (by decide) jw_122 (t := (2, 7, 0)) hk1 (by decide) rfl rfl dX1_tryRedemption_26 (fun v_10 hv_10 hf_11 => ?_)
          obtain ⟨a_12, rfl, ka_12⟩ := tt_vr hv_10
          refine jj_iload C dX1_tryRedemption_29 rfl ?_
          refine tt_aald C hok (t := (2, 3, 0)) ka_12 (by decide) rfl rfl rfl (vp_in_iff.mpr ⟨by omega, by omega⟩) dX1_tryRedemption_31 (fun v_13 hv_13 => ?_)
          obtain ⟨a_14, rfl, ka_14⟩ := tt_vr hv_13
          refine jj_astore C dX1_tryRedemption_32 (by decide) rfl ?_
          refine jj_aload_n C dX1_tryRedemption_34 rfl ?_
          refine jj_aload C dX1_tryRedemption_35 rfl ?_
          refine tt_get C hok jk_5 1 (by decide) jw_123 (t := (0, (-2147483648), 2147483647)) ka_14 (by decide) rfl rfl dX1_tryRedemption_37 (fun v_15 hv_15 hf_16 => ?_)
          obtain ⟨x_17, rfl, lx_17, ux_17⟩ := tt_vi hv_15
          obtain ⟨qc, gs, hqc⟩ := tt_recv (cx := []) hok hk1 (by decide) rfl
          refine tt_callV (rest := []) C (tc_X0_placeOfSeries_1 hl D cA ak h1 x_17 hk1 hok) [] [] rfl rfl (by decide) (by decide) (by decide) qc hqc rfl rfl jw_131 jw_137 jw_138 jw_133 jw_132 jn_X0_placeOfSeries rfl (jj_le rfl) (jj_le rfl) (jj_le rfl) (jj_le rfl) (jj_le rfl) dX1_tryRedemption_40 rfl (fun _ _ _ hX => hX.elim) (fun rx pl_18 r O_21 => ?_)
          obtain ⟨rfl, hok_19, hr_20, hR_23⟩ := O_21
          replace hf_6 := hr_20.at hk1 (by decide) (by decide) hf_6
          replace hf_11 := hr_20.at hk1 (by decide) (by decide) hf_11
          replace hf_16 := hr_20.at ka_14 (by decide) (by decide) hf_16
          replace hfr := hfr.trans (hr_20.sub (by decide))
          rcases hR_23 with rfl | ⟨x_24, lx_24, ux_24, rfl⟩
          · refine jj_istore C dX1_tryRedemption_43 (by decide) rfl ?_
            refine jj_aload C dX1_tryRedemption_45 rfl ?_
            refine tt_get C hok_19 jk_5 0 (by decide) jw_140 (t := (0, (-2147483648), 2147483647)) ka_14 (by decide) rfl rfl dX1_tryRedemption_47 (fun v_25 hv_25 hf_26 => ?_)
            obtain ⟨x_27, rfl, lx_27, ux_27⟩ := tt_vi hv_25
            refine jj_iload_n C dX1_tryRedemption_50 rfl ?_
            refine jj_icmp_ne (tgt := 167) C dX1_tryRedemption_51 (by decide) (fun c_28 => ?_) (fun c_28 => ?_)
            · have z_c_28 := jc_neq (a := (x_27).toInt) (b := (p2).toInt) c_28 rfl rfl
              obtain ⟨x_29, ex_29, vx_29⟩ := tt_inc (x := x_2) (n := 1) (by omega) (by omega)
              refine jj_iinc (v := x_29) C dX1_tryRedemption_167 rfl ex_29 (by decide) rfl ?_
              refine jj_goto (tgt := 9) C dX1_tryRedemption_170 (by decide) ?_
              refine jj_loc [0, 3, 4, 5, 6, 7, 8, 9] rfl ?_
              exact ihL_1 pl_18 x_29 y_3 y_4 hok_19 hfr (by first | omega | decide | exact tt_lo _ | exact tt_hi _) (by first | omega | decide | exact tt_lo _ | exact tt_hi _) (by first | omega | decide | exact tt_lo _ | exact tt_hi _)
            · have z_c_28 := jc_eq (a := (x_27).toInt) (b := (p2).toInt) c_28 rfl rfl
              refine jj_iload C dX1_tryRedemption_54 rfl ?_
              refine jj_iconst (v := (-1)) C dX1_tryRedemption_56 (by decide) ?_
              refine jj_icmp_eqT (tgt := 167) C dX1_tryRedemption_57 (by decide) (by decide) ?_
              obtain ⟨x_30, ex_30, vx_30⟩ := tt_inc (x := x_2) (n := 1) (by omega) (by omega)
              refine jj_iinc (v := x_30) C dX1_tryRedemption_167 rfl ex_30 (by decide) rfl ?_
              refine jj_goto (tgt := 9) C dX1_tryRedemption_170 (by decide) ?_
              refine jj_loc [0, 3, 4, 5, 6, 7, 8, 9] rfl ?_
              exact ihL_1 pl_18 x_30 y_3 y_4 hok_19 hfr (by first | omega | decide | exact tt_lo _ | exact tt_hi _) (by first | omega | decide | exact tt_lo _ | exact tt_hi _) (by first | omega | decide | exact tt_lo _ | exact tt_hi _)
          · refine jj_istore C dX1_tryRedemption_43 (by decide) rfl ?_
            refine jj_aload C dX1_tryRedemption_45 rfl ?_
            refine tt_get C hok_19 jk_5 0 (by decide) jw_140 (t := (0, (-2147483648), 2147483647)) ka_14 (by decide) rfl rfl dX1_tryRedemption_47 (fun v_31 hv_31 hf_32 => ?_)
            obtain ⟨x_33, rfl, lx_33, ux_33⟩ := tt_vi hv_31
            refine jj_iload_n C dX1_tryRedemption_50 rfl ?_
            refine jj_icmp_ne (tgt := 167) C dX1_tryRedemption_51 (by decide) (fun c_34 => ?_) (fun c_34 => ?_)
            · have z_c_34 := jc_neq (a := (x_33).toInt) (b := (p2).toInt) c_34 rfl rfl
              obtain ⟨x_35, ex_35, vx_35⟩ := tt_inc (x := x_2) (n := 1) (by omega) (by omega)
              refine jj_iinc (v := x_35) C dX1_tryRedemption_167 rfl ex_35 (by decide) rfl ?_
              refine jj_goto (tgt := 9) C dX1_tryRedemption_170 (by decide) ?_
              refine jj_loc [0, 3, 4, 5, 6, 7, 8, 9] rfl ?_
              exact ihL_1 pl_18 x_35 y_3 y_4 hok_19 hfr (by first | omega | decide | exact tt_lo _ | exact tt_hi _) (by first | omega | decide | exact tt_lo _ | exact tt_hi _) (by first | omega | decide | exact tt_lo _ | exact tt_hi _)
            · have z_c_34 := jc_eq (a := (x_33).toInt) (b := (p2).toInt) c_34 rfl rfl
              refine jj_iload C dX1_tryRedemption_54 rfl ?_
              refine jj_iconst (v := (-1)) C dX1_tryRedemption_56 (by decide) ?_
              refine jj_icmp_eq (tgt := 167) C dX1_tryRedemption_57 (by decide) (fun c_36 => ?_) (fun c_36 => ?_)
              · have z_c_36 := jc_eq (a := (x_24).toInt) (b := (-1)) c_36 rfl (by decide)
                exfalso; omega
              · have z_c_36 := jc_neq (a := (x_24).toInt) (b := (-1)) c_36 rfl (by decide)
                refine jj_lload C dX1_tryRedemption_60 rfl ?_
                refine jj_aload C dX1_tryRedemption_62 rfl ?_
                refine tt_get C hok_19 jk_5 3 (by decide) jw_141 (t := (1, (-9223372036854775808), 9223372036854775807)) ka_14 (by decide) rfl rfl dX1_tryRedemption_64 (fun v_37 hv_37 hf_38 => ?_)
                obtain ⟨y_39, rfl, -, -⟩ := tt_vj hv_37
                refine tt_call0S (rest := []) C (ct_J9_min_f86c9_1 hl D cA ak y_3 y_39) jw_142 jw_145 jw_144 jw_143 jn_J9_min_f86c9 rfl (jj_le rfl) (jj_le rfl) (jj_le rfl) (jj_le rfl) (jj_le rfl) dX1_tryRedemption_67 rfl (fun w1 r O_40 => ?_)
                rcases O_40 with ⟨c_41, -, rfl⟩ | ⟨c_42, -, rfl⟩
                · refine jj_lstore C dX1_tryRedemption_70 (by decide) rfl ?_
                  refine jj_aload_n C dX1_tryRedemption_72 rfl ?_
                  refine jj_aload_n C dX1_tryRedemption_73 rfl ?_
                  refine jj_aload_n C dX1_tryRedemption_74 rfl ?_
                  refine tt_get C hok_19 jk_3 0 (by decide) jw_81 (t := (2, 6, 0)) hk0 (by decide) rfl rfl dX1_tryRedemption_75 (fun v_43 hv_43 hf_44 => ?_)
                  obtain ⟨a_45, rfl, ka_45⟩ := tt_vr hv_43
                  refine jj_iload C dX1_tryRedemption_78 rfl ?_
                  refine tt_aald C hok_19 (t := (2, 2, 0)) ka_45 (by decide) rfl rfl rfl (vp_in_iff.mpr ⟨by omega, by omega⟩) dX1_tryRedemption_80 (fun v_46 hv_46 => ?_)
                  obtain ⟨a_47, rfl, ka_47⟩ := tt_vr hv_46
                  refine jj_aload C dX1_tryRedemption_81 rfl ?_
                  refine jj_lload C dX1_tryRedemption_83 rfl ?_
                  obtain ⟨qc, gs, hqc⟩ := tt_recv (cx := []) hok_19 hk0 (by decide) rfl
                  refine tt_callV (rest := []) C (tc_X1_quote_1 hl D cA ak h0 h1 a_47 a_14 y_39 hk0 hk1 ka_47 ka_14 hok_19) [] [] rfl rfl (by decide) (by decide) (by decide) qc hqc rfl rfl jw_147 jw_180 jw_181 jw_74 jw_148 jn_X1_quote rfl (jj_le rfl) (jj_le rfl) (jj_le rfl) (jj_le rfl) (jj_le rfl) dX1_tryRedemption_85 rfl (fun _ _ _ hX => hX.elim) (fun rx pl_48 r O_51 => ?_)
                  obtain ⟨rfl, hok_49, hr_50, hR_53⟩ := O_51
                  replace hf_6 := hr_50.at hk1 (by decide) (by decide) hf_6
                  replace hf_11 := hr_50.at hk1 (by decide) (by decide) hf_11
                  replace hf_16 := hr_50.at ka_14 (by decide) (by decide) hf_16
                  replace hf_32 := hr_50.at ka_14 (by decide) (by decide) hf_32
                  replace hf_38 := hr_50.at ka_14 (by decide) (by decide) hf_38
                  replace hf_44 := hr_50.at hk0 (by decide) (by decide) hf_44
                  replace hfr := hfr.trans (hr_50.sub (by decide))
                  obtain rfl := hR_53
                  refine jj_aload_n C dX1_tryRedemption_88 rfl ?_
                  refine tt_getF C hok_49 jk_3 0 (by decide) jw_81 (t := (2, 6, 0)) hk0 (by decide) rfl rfl hf_44 dX1_tryRedemption_89 ?_
                  refine jj_iload C dX1_tryRedemption_92 rfl ?_
                  refine tt_aald C hok_49 (t := (2, 2, 0)) ka_45 (by decide) rfl rfl rfl (vp_in_iff.mpr ⟨by omega, by omega⟩) dX1_tryRedemption_94 (fun v_54 hv_54 => ?_)
                  obtain ⟨a_55, rfl, ka_55⟩ := tt_vr hv_54
                  refine jj_dup C dX1_tryRedemption_95 rfl ?_
                  refine tt_get C hok_49 jk_9 2 (by decide) jw_113 (t := (1, (-9223372036854775808), 9223372036854775807)) ka_55 (by decide) rfl rfl dX1_tryRedemption_96 (fun v_56 hv_56 hf_57 => ?_)
                  obtain ⟨y_58, rfl, -, -⟩ := tt_vj hv_56
                  refine jj_aload_n C dX1_tryRedemption_99 rfl ?_
                  refine tt_get C hok_49 jk_3 1 (by decide) jw_158 (t := (1, (-9223372036854775808), 9223372036854775807)) hk0 (by decide) rfl rfl dX1_tryRedemption_100 (fun v_59 hv_59 hf_60 => ?_)
                  obtain ⟨y_61, rfl, -, -⟩ := tt_vj hv_59
                  refine jj_aload_n C dX1_tryRedemption_103 rfl ?_
                  refine tt_get C hok_49 jk_3 2 (by decide) jw_159 (t := (1, (-9223372036854775808), 9223372036854775807)) hk0 (by decide) rfl rfl dX1_tryRedemption_104 (fun v_62 hv_62 hf_63 => ?_)
                  obtain ⟨y_64, rfl, -, -⟩ := tt_vj hv_62
                  obtain ⟨y_65, ey_65⟩ : ∃ z : Int64, y_61 + y_64 = z := ⟨_, rfl⟩
                  refine jj_ladd (v := y_65) C dX1_tryRedemption_107 ey_65 ?_
                  obtain ⟨y_66, ey_66⟩ : ∃ z : Int64, y_58 - y_65 = z := ⟨_, rfl⟩
                  refine jj_lsub (v := y_66) C dX1_tryRedemption_108 ey_66 ?_
                  refine tt_put C hok_49 jk_9 2 (by decide) jw_113 (t := (1, (-9223372036854775808), 9223372036854775807)) ka_55 (by decide) rfl rfl rfl (tt_ja y_66) rfl rfl dX1_tryRedemption_109 (fun pl_67 hok_68 tr hn => ?_)
                  replace hf_6 := tr _ _ _ (Or.inl (tt_ne hk1 ka_55 (by decide))) hf_6
                  replace hf_11 := tr _ _ _ (Or.inl (tt_ne hk1 ka_55 (by decide))) hf_11
                  replace hf_16 := tr _ _ _ (Or.inl (tt_ne ka_14 ka_55 (by decide))) hf_16
                  replace hf_32 := tr _ _ _ (Or.inl (tt_ne ka_14 ka_55 (by decide))) hf_32
                  replace hf_38 := tr _ _ _ (Or.inl (tt_ne ka_14 ka_55 (by decide))) hf_38
                  replace hf_44 := tr _ _ _ (Or.inl (tt_ne hk0 ka_55 (by decide))) hf_44
                  replace hf_60 := tr _ _ _ (Or.inl (tt_ne hk0 ka_55 (by decide))) hf_60
                  replace hf_63 := tr _ _ _ (Or.inl (tt_ne hk0 ka_55 (by decide))) hf_63
                  have hf_69 := hn
                  replace hfr := hfr.put ka_55 tr (by decide)
                  refine jj_aload_n C dX1_tryRedemption_112 rfl ?_
                  refine tt_getF C hok_68 jk_3 0 (by decide) jw_81 (t := (2, 6, 0)) hk0 (by decide) rfl rfl hf_44 dX1_tryRedemption_113 ?_
                  refine jj_iload C dX1_tryRedemption_116 rfl ?_
                  refine tt_aald C hok_68 (t := (2, 2, 0)) ka_45 (by decide) rfl rfl rfl (vp_in_iff.mpr ⟨by omega, by omega⟩) dX1_tryRedemption_118 (fun v_70 hv_70 => ?_)
                  obtain ⟨a_71, rfl, ka_71⟩ := tt_vr hv_70
                  refine jj_dup C dX1_tryRedemption_119 rfl ?_
                  refine tt_get C hok_68 jk_9 3 (by decide) jw_157 (t := (1, (-9223372036854775808), 9223372036854775807)) ka_71 (by decide) rfl rfl dX1_tryRedemption_120 (fun v_72 hv_72 hf_73 => ?_)
                  obtain ⟨y_74, rfl, -, -⟩ := tt_vj hv_72
                  refine jj_lload C dX1_tryRedemption_123 rfl ?_
                  obtain ⟨y_75, ey_75⟩ : ∃ z : Int64, y_74 - y_39 = z := ⟨_, rfl⟩
                  refine jj_lsub (v := y_75) C dX1_tryRedemption_125 ey_75 ?_
                  refine tt_put C hok_68 jk_9 3 (by decide) jw_157 (t := (1, (-9223372036854775808), 9223372036854775807)) ka_71 (by decide) rfl rfl rfl (tt_ja y_75) rfl rfl dX1_tryRedemption_126 (fun pl_76 hok_77 tr hn => ?_)
                  replace hf_6 := tr _ _ _ (Or.inl (tt_ne hk1 ka_71 (by decide))) hf_6
                  replace hf_11 := tr _ _ _ (Or.inl (tt_ne hk1 ka_71 (by decide))) hf_11
                  replace hf_16 := tr _ _ _ (Or.inl (tt_ne ka_14 ka_71 (by decide))) hf_16
                  replace hf_32 := tr _ _ _ (Or.inl (tt_ne ka_14 ka_71 (by decide))) hf_32
                  replace hf_38 := tr _ _ _ (Or.inl (tt_ne ka_14 ka_71 (by decide))) hf_38
                  replace hf_44 := tr _ _ _ (Or.inl (tt_ne hk0 ka_71 (by decide))) hf_44
                  replace hf_60 := tr _ _ _ (Or.inl (tt_ne hk0 ka_71 (by decide))) hf_60
                  replace hf_63 := tr _ _ _ (Or.inl (tt_ne hk0 ka_71 (by decide))) hf_63
                  replace hf_69 := tr _ _ _ (Or.inr (by decide)) hf_69
                  have hf_78 := hn
                  replace hfr := hfr.put ka_71 tr (by decide)
                  refine jj_lload C dX1_tryRedemption_129 rfl ?_
                  refine jj_lload C dX1_tryRedemption_131 rfl ?_
                  obtain ⟨y_79, ey_79⟩ : ∃ z : Int64, y_3 - y_39 = z := ⟨_, rfl⟩
                  refine jj_lsub (v := y_79) C dX1_tryRedemption_133 ey_79 ?_
                  refine jj_lstore C dX1_tryRedemption_134 (by decide) rfl ?_
                  refine jj_lload C dX1_tryRedemption_136 rfl ?_
                  refine jj_iload C dX1_tryRedemption_138 rfl ?_
                  refine jj_if_eqF (tgt := 160) C dX1_tryRedemption_140 (by decide) (by decide) ?_
                  refine jj_aload_n C dX1_tryRedemption_143 rfl ?_
                  refine tt_getF C hok_77 jk_3 1 (by decide) jw_158 (t := (1, (-9223372036854775808), 9223372036854775807)) hk0 (by decide) rfl rfl hf_60 dX1_tryRedemption_144 ?_
                  refine jj_aload_n C dX1_tryRedemption_147 rfl ?_
                  refine tt_get C hok_77 jk_3 4 (by decide) jw_161 (t := (1, (-9223372036854775808), 9223372036854775807)) hk0 (by decide) rfl rfl dX1_tryRedemption_148 (fun v_80 hv_80 hf_81 => ?_)
                  obtain ⟨y_82, rfl, -, -⟩ := tt_vj hv_80
                  obtain ⟨y_83, ey_83⟩ : ∃ z : Int64, y_61 + y_82 = z := ⟨_, rfl⟩
                  refine jj_ladd (v := y_83) C dX1_tryRedemption_151 ey_83 ?_
                  refine jj_aload_n C dX1_tryRedemption_152 rfl ?_
                  refine tt_get C hok_77 jk_3 5 (by decide) jw_162 (t := (1, (-9223372036854775808), 9223372036854775807)) hk0 (by decide) rfl rfl dX1_tryRedemption_153 (fun v_84 hv_84 hf_85 => ?_)
                  obtain ⟨y_86, rfl, -, -⟩ := tt_vj hv_84
                  obtain ⟨y_87, ey_87⟩ : ∃ z : Int64, y_83 - y_86 = z := ⟨_, rfl⟩
                  refine jj_lsub (v := y_87) C dX1_tryRedemption_156 ey_87 ?_
                  refine jj_goto (tgt := 164) C dX1_tryRedemption_157 (by decide) ?_
                  obtain ⟨y_88, ey_88⟩ : ∃ z : Int64, y_4 + y_87 = z := ⟨_, rfl⟩
                  refine jj_ladd (v := y_88) C dX1_tryRedemption_164 ey_88 ?_
                  refine jj_lstore C dX1_tryRedemption_165 (by decide) rfl ?_
                  obtain ⟨x_89, ex_89, vx_89⟩ := tt_inc (x := x_2) (n := 1) (by omega) (by omega)
                  refine jj_iinc (v := x_89) C dX1_tryRedemption_167 rfl ex_89 (by decide) rfl ?_
                  refine jj_goto (tgt := 9) C dX1_tryRedemption_170 (by decide) ?_
                  refine jj_loc [0, 2, 1, 6, 7, 8, 9, 10] rfl ?_
                  exact ihL_1 pl_76 x_89 y_79 y_88 hok_77 hfr (by first | omega | decide | exact tt_lo _ | exact tt_hi _) (by first | omega | decide | exact tt_lo _ | exact tt_hi _) (by first | omega | decide | exact tt_lo _ | exact tt_hi _)
                · refine jj_lstore C dX1_tryRedemption_70 (by decide) rfl ?_
                  refine jj_aload_n C dX1_tryRedemption_72 rfl ?_
                  refine jj_aload_n C dX1_tryRedemption_73 rfl ?_
                  refine jj_aload_n C dX1_tryRedemption_74 rfl ?_
                  refine tt_get C hok_19 jk_3 0 (by decide) jw_81 (t := (2, 6, 0)) hk0 (by decide) rfl rfl dX1_tryRedemption_75 (fun v_90 hv_90 hf_91 => ?_)
                  obtain ⟨a_92, rfl, ka_92⟩ := tt_vr hv_90
                  refine jj_iload C dX1_tryRedemption_78 rfl ?_
                  refine tt_aald C hok_19 (t := (2, 2, 0)) ka_92 (by decide) rfl rfl rfl (vp_in_iff.mpr ⟨by omega, by omega⟩) dX1_tryRedemption_80 (fun v_93 hv_93 => ?_)
                  obtain ⟨a_94, rfl, ka_94⟩ := tt_vr hv_93
                  refine jj_aload C dX1_tryRedemption_81 rfl ?_
                  refine jj_lload C dX1_tryRedemption_83 rfl ?_
                  obtain ⟨qc, gs, hqc⟩ := tt_recv (cx := []) hok_19 hk0 (by decide) rfl
                  refine tt_callV (rest := []) C (tc_X1_quote_1 hl D cA ak h0 h1 a_94 a_14 y_3 hk0 hk1 ka_94 ka_14 hok_19) [] [] rfl rfl (by decide) (by decide) (by decide) qc hqc rfl rfl jw_147 jw_180 jw_181 jw_74 jw_148 jn_X1_quote rfl (jj_le rfl) (jj_le rfl) (jj_le rfl) (jj_le rfl) (jj_le rfl) dX1_tryRedemption_85 rfl (fun _ _ _ hX => hX.elim) (fun rx pl_95 r O_98 => ?_)
                  obtain ⟨rfl, hok_96, hr_97, hR_100⟩ := O_98
                  replace hf_6 := hr_97.at hk1 (by decide) (by decide) hf_6
                  replace hf_11 := hr_97.at hk1 (by decide) (by decide) hf_11
                  replace hf_16 := hr_97.at ka_14 (by decide) (by decide) hf_16
                  replace hf_32 := hr_97.at ka_14 (by decide) (by decide) hf_32
                  replace hf_38 := hr_97.at ka_14 (by decide) (by decide) hf_38
                  replace hf_91 := hr_97.at hk0 (by decide) (by decide) hf_91
                  replace hfr := hfr.trans (hr_97.sub (by decide))
                  obtain rfl := hR_100
                  refine jj_aload_n C dX1_tryRedemption_88 rfl ?_
                  refine tt_getF C hok_96 jk_3 0 (by decide) jw_81 (t := (2, 6, 0)) hk0 (by decide) rfl rfl hf_91 dX1_tryRedemption_89 ?_
                  refine jj_iload C dX1_tryRedemption_92 rfl ?_
                  refine tt_aald C hok_96 (t := (2, 2, 0)) ka_92 (by decide) rfl rfl rfl (vp_in_iff.mpr ⟨by omega, by omega⟩) dX1_tryRedemption_94 (fun v_101 hv_101 => ?_)
                  obtain ⟨a_102, rfl, ka_102⟩ := tt_vr hv_101
                  refine jj_dup C dX1_tryRedemption_95 rfl ?_
                  refine tt_get C hok_96 jk_9 2 (by decide) jw_113 (t := (1, (-9223372036854775808), 9223372036854775807)) ka_102 (by decide) rfl rfl dX1_tryRedemption_96 (fun v_103 hv_103 hf_104 => ?_)
                  obtain ⟨y_105, rfl, -, -⟩ := tt_vj hv_103
                  refine jj_aload_n C dX1_tryRedemption_99 rfl ?_
                  refine tt_get C hok_96 jk_3 1 (by decide) jw_158 (t := (1, (-9223372036854775808), 9223372036854775807)) hk0 (by decide) rfl rfl dX1_tryRedemption_100 (fun v_106 hv_106 hf_107 => ?_)
                  obtain ⟨y_108, rfl, -, -⟩ := tt_vj hv_106
                  refine jj_aload_n C dX1_tryRedemption_103 rfl ?_
                  refine tt_get C hok_96 jk_3 2 (by decide) jw_159 (t := (1, (-9223372036854775808), 9223372036854775807)) hk0 (by decide) rfl rfl dX1_tryRedemption_104 (fun v_109 hv_109 hf_110 => ?_)
                  obtain ⟨y_111, rfl, -, -⟩ := tt_vj hv_109
                  obtain ⟨y_112, ey_112⟩ : ∃ z : Int64, y_108 + y_111 = z := ⟨_, rfl⟩
                  refine jj_ladd (v := y_112) C dX1_tryRedemption_107 ey_112 ?_
                  obtain ⟨y_113, ey_113⟩ : ∃ z : Int64, y_105 - y_112 = z := ⟨_, rfl⟩
                  refine jj_lsub (v := y_113) C dX1_tryRedemption_108 ey_113 ?_
                  refine tt_put C hok_96 jk_9 2 (by decide) jw_113 (t := (1, (-9223372036854775808), 9223372036854775807)) ka_102 (by decide) rfl rfl rfl (tt_ja y_113) rfl rfl dX1_tryRedemption_109 (fun pl_114 hok_115 tr hn => ?_)
                  replace hf_6 := tr _ _ _ (Or.inl (tt_ne hk1 ka_102 (by decide))) hf_6
                  replace hf_11 := tr _ _ _ (Or.inl (tt_ne hk1 ka_102 (by decide))) hf_11
                  replace hf_16 := tr _ _ _ (Or.inl (tt_ne ka_14 ka_102 (by decide))) hf_16
                  replace hf_32 := tr _ _ _ (Or.inl (tt_ne ka_14 ka_102 (by decide))) hf_32
                  replace hf_38 := tr _ _ _ (Or.inl (tt_ne ka_14 ka_102 (by decide))) hf_38
                  replace hf_91 := tr _ _ _ (Or.inl (tt_ne hk0 ka_102 (by decide))) hf_91
                  replace hf_107 := tr _ _ _ (Or.inl (tt_ne hk0 ka_102 (by decide))) hf_107
                  replace hf_110 := tr _ _ _ (Or.inl (tt_ne hk0 ka_102 (by decide))) hf_110
                  have hf_116 := hn
                  replace hfr := hfr.put ka_102 tr (by decide)
                  refine jj_aload_n C dX1_tryRedemption_112 rfl ?_
                  refine tt_getF C hok_115 jk_3 0 (by decide) jw_81 (t := (2, 6, 0)) hk0 (by decide) rfl rfl hf_91 dX1_tryRedemption_113 ?_
                  refine jj_iload C dX1_tryRedemption_116 rfl ?_
                  refine tt_aald C hok_115 (t := (2, 2, 0)) ka_92 (by decide) rfl rfl rfl (vp_in_iff.mpr ⟨by omega, by omega⟩) dX1_tryRedemption_118 (fun v_117 hv_117 => ?_)
                  obtain ⟨a_118, rfl, ka_118⟩ := tt_vr hv_117
                  refine jj_dup C dX1_tryRedemption_119 rfl ?_
                  refine tt_get C hok_115 jk_9 3 (by decide) jw_157 (t := (1, (-9223372036854775808), 9223372036854775807)) ka_118 (by decide) rfl rfl dX1_tryRedemption_120 (fun v_119 hv_119 hf_120 => ?_)
                  obtain ⟨y_121, rfl, -, -⟩ := tt_vj hv_119
                  refine jj_lload C dX1_tryRedemption_123 rfl ?_
                  obtain ⟨y_122, ey_122⟩ : ∃ z : Int64, y_121 - y_3 = z := ⟨_, rfl⟩
                  refine jj_lsub (v := y_122) C dX1_tryRedemption_125 ey_122 ?_
                  refine tt_put C hok_115 jk_9 3 (by decide) jw_157 (t := (1, (-9223372036854775808), 9223372036854775807)) ka_118 (by decide) rfl rfl rfl (tt_ja y_122) rfl rfl dX1_tryRedemption_126 (fun pl_123 hok_124 tr hn => ?_)
                  replace hf_6 := tr _ _ _ (Or.inl (tt_ne hk1 ka_118 (by decide))) hf_6
                  replace hf_11 := tr _ _ _ (Or.inl (tt_ne hk1 ka_118 (by decide))) hf_11
                  replace hf_16 := tr _ _ _ (Or.inl (tt_ne ka_14 ka_118 (by decide))) hf_16
                  replace hf_32 := tr _ _ _ (Or.inl (tt_ne ka_14 ka_118 (by decide))) hf_32
                  replace hf_38 := tr _ _ _ (Or.inl (tt_ne ka_14 ka_118 (by decide))) hf_38
                  replace hf_91 := tr _ _ _ (Or.inl (tt_ne hk0 ka_118 (by decide))) hf_91
                  replace hf_107 := tr _ _ _ (Or.inl (tt_ne hk0 ka_118 (by decide))) hf_107
                  replace hf_110 := tr _ _ _ (Or.inl (tt_ne hk0 ka_118 (by decide))) hf_110
                  replace hf_116 := tr _ _ _ (Or.inr (by decide)) hf_116
                  have hf_125 := hn
                  replace hfr := hfr.put ka_118 tr (by decide)
                  refine jj_lload C dX1_tryRedemption_129 rfl ?_
                  refine jj_lload C dX1_tryRedemption_131 rfl ?_
                  obtain ⟨y_126, ey_126⟩ : ∃ z : Int64, y_3 - y_3 = z := ⟨_, rfl⟩
                  refine jj_lsub (v := y_126) C dX1_tryRedemption_133 ey_126 ?_
                  refine jj_lstore C dX1_tryRedemption_134 (by decide) rfl ?_
                  refine jj_lload C dX1_tryRedemption_136 rfl ?_
                  refine jj_iload C dX1_tryRedemption_138 rfl ?_
                  refine jj_if_eqF (tgt := 160) C dX1_tryRedemption_140 (by decide) (by decide) ?_
                  refine jj_aload_n C dX1_tryRedemption_143 rfl ?_
                  refine tt_getF C hok_124 jk_3 1 (by decide) jw_158 (t := (1, (-9223372036854775808), 9223372036854775807)) hk0 (by decide) rfl rfl hf_107 dX1_tryRedemption_144 ?_
                  refine jj_aload_n C dX1_tryRedemption_147 rfl ?_
                  refine tt_get C hok_124 jk_3 4 (by decide) jw_161 (t := (1, (-9223372036854775808), 9223372036854775807)) hk0 (by decide) rfl rfl dX1_tryRedemption_148 (fun v_127 hv_127 hf_128 => ?_)
                  obtain ⟨y_129, rfl, -, -⟩ := tt_vj hv_127
                  obtain ⟨y_130, ey_130⟩ : ∃ z : Int64, y_108 + y_129 = z := ⟨_, rfl⟩
                  refine jj_ladd (v := y_130) C dX1_tryRedemption_151 ey_130 ?_
                  refine jj_aload_n C dX1_tryRedemption_152 rfl ?_
                  refine tt_get C hok_124 jk_3 5 (by decide) jw_162 (t := (1, (-9223372036854775808), 9223372036854775807)) hk0 (by decide) rfl rfl dX1_tryRedemption_153 (fun v_131 hv_131 hf_132 => ?_)
                  obtain ⟨y_133, rfl, -, -⟩ := tt_vj hv_131
                  obtain ⟨y_134, ey_134⟩ : ∃ z : Int64, y_130 - y_133 = z := ⟨_, rfl⟩
                  refine jj_lsub (v := y_134) C dX1_tryRedemption_156 ey_134 ?_
                  refine jj_goto (tgt := 164) C dX1_tryRedemption_157 (by decide) ?_
                  obtain ⟨y_135, ey_135⟩ : ∃ z : Int64, y_4 + y_134 = z := ⟨_, rfl⟩
                  refine jj_ladd (v := y_135) C dX1_tryRedemption_164 ey_135 ?_
                  refine jj_lstore C dX1_tryRedemption_165 (by decide) rfl ?_
                  obtain ⟨x_136, ex_136, vx_136⟩ := tt_inc (x := x_2) (n := 1) (by omega) (by omega)
                  refine jj_iinc (v := x_136) C dX1_tryRedemption_167 rfl ex_136 (by decide) rfl ?_
                  refine jj_goto (tgt := 9) C dX1_tryRedemption_170 (by decide) ?_
                  refine jj_loc [0, 2, 1, 6, 7, 8, 9, 10] rfl ?_
                  exact ihL_1 pl_123 x_136 y_126 y_135 hok_124 hfr (by first | omega | decide | exact tt_lo _ | exact tt_hi _) (by first | omega | decide | exact tt_lo _ | exact tt_hi _) (by first | omega | decide | exact tt_lo _ | exact tt_hi _)
  exact hL_1 _ pl0 (0 : Int32) (9223372036854775807 : Int64) (0 : Int64) trivial hok hfr (by first | omega | decide | exact tt_lo _ | exact tt_hi _) (by first | omega | decide | exact tt_lo _ | exact tt_hi _) (Int.self_le_toNat _)

set_option maxHeartbeats 4000000 in
set_option maxRecDepth 100000 in
theorem tc_X1_payAfterRate_14 {l : Launch} (hl : l.stackTraces = false) (D : va_G) (cA : Nat → ClassId) (ak : (Nat → Nat) × (Nat → Nat)) {Kd : Nat → Nat} (h0 : Nat) (h1 : Nat) (p2 : Int32) (hk0 : Kd h0 = 9) (hk1 : Kd h1 = 1) (lp2 : (0 : Int) ≤ p2.toInt) (up2 : p2.toInt ≤ 1300) {pl0 : va_W} (hok : tt_ok tt_tk cA Kd pl0) : jj_M l D cA ak yX1_payAfterRate (.code yX1_payAfterRate cX1_payAfterRate 4 (some .long)) 3 88 0 0 ([] ++ pl0) [.ref h0, .ref h1, .int p2, .int 0] (tt_O (fun rx pl1 r => rx = [] ∧ tt_ok tt_tk cA Kd pl1 ∧ tt_fr Kd [(2, 0), (2, 1), (2, 2), (2, 3), (2, 4), (9, 1), (9, 2), (9, 3), (9, 4), (9, 5)] pl0 pl1 ∧ ((∃ v : Int64, r = some (.long v))))) (tt_OX (fun _ _ _ => False)) := by
  refine jj_start hl (by decide) jw_438 (jj_le rfl) ?_
  intro p e s m args below meth c A hargs hA C hex hmn
  have hfr := tt_fr.refl (K := Kd) (WS := [(2, 0), (2, 1), (2, 2), (2, 3), (2, 4), (9, 1), (9, 2), (9, 3), (9, 4), (9, 5)]) pl0
  refine jj_aload_n C dX1_payAfterRate_0 rfl ?_
  refine jj_aload_n C dX1_payAfterRate_1 rfl ?_
  refine jj_iload_n C dX1_payAfterRate_2 rfl ?_
  obtain ⟨qc, gs, hqc⟩ := tt_recv (cx := []) hok hk0 (by decide) rfl
  refine tt_callV (rest := []) C (tc_X1_resetTrial_1 hl D cA ak h0 h1 hk0 hk1 hok) [] [] rfl rfl (by decide) (by decide) (by decide) qc hqc rfl rfl jw_78 jw_114 jw_115 jw_74 jw_79 jn_X1_resetTrial rfl (jj_le rfl) (jj_le rfl) (jj_le rfl) (jj_le rfl) (jj_le rfl) dX1_payAfterRate_3 rfl (fun _ _ _ hX => hX.elim) (fun rx pl_1 r O_4 => ?_)
  obtain ⟨rfl, hok_2, hr_3, hR_6⟩ := O_4
  replace hfr := hfr.trans (hr_3.sub (by decide))
  obtain rfl := hR_6
  refine jj_aload_n C dX1_payAfterRate_6 rfl ?_
  refine jj_aload_n C dX1_payAfterRate_7 rfl ?_
  refine jj_iload_n C dX1_payAfterRate_8 rfl ?_
  refine jj_ldc2 (v := 9223372036854775807) C dX1_payAfterRate_9 jw_439 ?_
  refine jj_iconst (v := 1) C dX1_payAfterRate_12 (by decide) ?_
  obtain ⟨qc, gs, hqc⟩ := tt_recv (cx := []) hok_2 hk0 (by decide) rfl
  refine tt_callV (rest := []) C (tc_X1_tryRedemption_15 hl D cA ak h0 h1 p2 hk0 hk1 (by omega) (by omega) hok_2) [] [] rfl rfl (by decide) (by decide) (by decide) qc hqc rfl rfl jw_119 jw_183 jw_184 jw_74 jw_120 jn_X1_tryRedemption rfl (jj_le rfl) (jj_le rfl) (jj_le rfl) (jj_le rfl) (jj_le rfl) dX1_payAfterRate_13 rfl (fun _ _ _ hX => hX.elim) (fun rx pl_7 r O_10 => ?_)
  obtain ⟨rfl, hok_8, hr_9, hR_12⟩ := O_10
  replace hfr := hfr.trans (hr_9.sub (by decide))
  obtain ⟨y_13, rfl⟩ := hR_12
  exact jj_lret C ⟨[], pl_7, rfl, rfl, hok_8, hfr, ⟨y_13, rfl⟩⟩ dX1_payAfterRate_16 (jj_le rfl) (jj_le rfl)

set_option maxHeartbeats 4000000 in
set_option maxRecDepth 100000 in
theorem tc_X1_payAfterRate_15 {l : Launch} (hl : l.stackTraces = false) (D : va_G) (cA : Nat → ClassId) (ak : (Nat → Nat) × (Nat → Nat)) {Kd : Nat → Nat} (h0 : Nat) (h1 : Nat) (p2 : Int32) (hk0 : Kd h0 = 9) (hk1 : Kd h1 = 1) {pl0 : va_W} (hok : tt_ok tt_tk cA Kd pl0) : jj_M l D cA ak yX1_payAfterRate (.code yX1_payAfterRate cX1_payAfterRate 4 (some .long)) 3 88 0 0 ([] ++ pl0) [.ref h0, .ref h1, .int p2, .int 0] (tt_O (fun rx pl1 r => rx = [] ∧ tt_ok tt_tk cA Kd pl1 ∧ tt_fr Kd [(2, 0), (2, 1), (2, 2), (2, 3), (2, 4), (9, 1), (9, 2), (9, 3), (9, 4), (9, 5)] pl0 pl1 ∧ ((∃ v : Int64, r = some (.long v))))) (tt_OX (fun _ _ _ => False)) := by
  refine jj_start hl (by decide) jw_438 (jj_le rfl) ?_
  intro p e s m args below meth c A hargs hA C hex hmn
  have hfr := tt_fr.refl (K := Kd) (WS := [(2, 0), (2, 1), (2, 2), (2, 3), (2, 4), (9, 1), (9, 2), (9, 3), (9, 4), (9, 5)]) pl0
  have lp2 := tt_lo p2
  have up2 := tt_hi p2
  refine jj_aload_n C dX1_payAfterRate_0 rfl ?_
  refine jj_aload_n C dX1_payAfterRate_1 rfl ?_
  refine jj_iload_n C dX1_payAfterRate_2 rfl ?_
  obtain ⟨qc, gs, hqc⟩ := tt_recv (cx := []) hok hk0 (by decide) rfl
  refine tt_callV (rest := []) C (tc_X1_resetTrial_1 hl D cA ak h0 h1 hk0 hk1 hok) [] [] rfl rfl (by decide) (by decide) (by decide) qc hqc rfl rfl jw_78 jw_114 jw_115 jw_74 jw_79 jn_X1_resetTrial rfl (jj_le rfl) (jj_le rfl) (jj_le rfl) (jj_le rfl) (jj_le rfl) dX1_payAfterRate_3 rfl (fun _ _ _ hX => hX.elim) (fun rx pl_1 r O_4 => ?_)
  obtain ⟨rfl, hok_2, hr_3, hR_6⟩ := O_4
  replace hfr := hfr.trans (hr_3.sub (by decide))
  obtain rfl := hR_6
  refine jj_aload_n C dX1_payAfterRate_6 rfl ?_
  refine jj_aload_n C dX1_payAfterRate_7 rfl ?_
  refine jj_iload_n C dX1_payAfterRate_8 rfl ?_
  refine jj_ldc2 (v := 9223372036854775807) C dX1_payAfterRate_9 jw_439 ?_
  refine jj_iconst (v := 1) C dX1_payAfterRate_12 (by decide) ?_
  obtain ⟨qc, gs, hqc⟩ := tt_recv (cx := []) hok_2 hk0 (by decide) rfl
  refine tt_callV (rest := []) C (tc_X1_tryRedemption_2 hl D cA ak h0 h1 p2 hk0 hk1 hok_2) [] [] rfl rfl (by decide) (by decide) (by decide) qc hqc rfl rfl jw_119 jw_183 jw_184 jw_74 jw_120 jn_X1_tryRedemption rfl (jj_le rfl) (jj_le rfl) (jj_le rfl) (jj_le rfl) (jj_le rfl) dX1_payAfterRate_13 rfl (fun _ _ _ hX => hX.elim) (fun rx pl_7 r O_10 => ?_)
  obtain ⟨rfl, hok_8, hr_9, hR_12⟩ := O_10
  replace hfr := hfr.trans (hr_9.sub (by decide))
  obtain ⟨y_13, rfl⟩ := hR_12
  exact jj_lret C ⟨[], pl_7, rfl, rfl, hok_8, hfr, ⟨y_13, rfl⟩⟩ dX1_payAfterRate_16 (jj_le rfl) (jj_le rfl)

set_option maxHeartbeats 4000000 in
set_option maxRecDepth 100000 in
theorem tc_X10_placeInRanking_1 {l : Launch} (hl : l.stackTraces = false) (D : va_G) (cA : Nat → ClassId) (ak : (Nat → Nat) × (Nat → Nat)) {Kd : Nat → Nat} (h0 : Nat) (p1 : Int32) (hk0 : Kd h0 = 15) (lp1 : (0 : Int) ≤ p1.toInt) (up1 : p1.toInt ≤ 0) {pl0 : va_W} (hok : tt_ok tt_tk cA Kd pl0) : jj_M l D cA ak yX10_placeInRanking (.code yX10_placeInRanking cX10_placeInRanking 8 (some .int)) 4 111 0 0 ([] ++ pl0) [.ref h0, .int p1] (tt_O (fun rx pl1 r => rx = [] ∧ tt_ok tt_tk cA Kd pl1 ∧ tt_fr Kd [(2, 0), (2, 1), (2, 2), (2, 3), (2, 4), (9, 1), (9, 2), (9, 3), (9, 4), (9, 5)] pl0 pl1 ∧ ((∃ v : Int32, (-2147483648 : Int) ≤ v.toInt ∧ v.toInt ≤ 2147483647 ∧ r = some (.int v))))) (tt_OX (fun _ _ _ => False)) := by
  refine jj_start hl (by decide) jw_479 (jj_le rfl) ?_
  intro p e s m args below meth c A hargs hA C hex hmn
  have hfr := tt_fr.refl (K := Kd) (WS := [(2, 0), (2, 1), (2, 2), (2, 3), (2, 4), (9, 1), (9, 2), (9, 3), (9, 4), (9, 5)]) pl0
  refine jj_aload_n C dX10_placeInRanking_0 rfl ?_
  refine tt_get C hok jk_11 5 (by decide) jw_71 (t := (2, 9, 0)) hk0 (by decide) rfl rfl dX10_placeInRanking_1 (fun v_1 hv_1 hf_2 => ?_)
  obtain ⟨a_3, rfl, ka_3⟩ := tt_vr hv_1
  refine jj_aload_n C dX10_placeInRanking_4 rfl ?_
  refine tt_get C hok jk_11 3 (by decide) jw_2 (t := (2, 1, 0)) hk0 (by decide) rfl rfl dX10_placeInRanking_5 (fun v_4 hv_4 hf_5 => ?_)
  obtain ⟨a_6, rfl, ka_6⟩ := tt_vr hv_4
  refine jj_iload_n C dX10_placeInRanking_8 rfl ?_
  refine jj_iconst (v := 0) C dX10_placeInRanking_9 (by decide) ?_
  obtain ⟨qc, gs, hqc⟩ := tt_recv (cx := []) hok ka_3 (by decide) rfl
  refine tt_callV (rest := []) C (tc_X1_payAfterRate_2 hl D cA ak a_3 a_6 p1 ka_3 ka_6 (by omega) (by omega) hok) [] [] rfl rfl (by decide) (by decide) (by decide) qc hqc rfl rfl jw_437 jw_440 jw_441 jw_74 jw_438 jn_X1_payAfterRate rfl (jj_le rfl) (jj_le rfl) (jj_le rfl) (jj_le rfl) (jj_le rfl) dX10_placeInRanking_10 rfl (fun _ _ _ hX => hX.elim) (fun rx pl_7 r O_10 => ?_)
  obtain ⟨rfl, hok_8, hr_9, hR_12⟩ := O_10
  replace hf_2 := hr_9.at hk0 (by decide) (by decide) hf_2
  replace hf_5 := hr_9.at hk0 (by decide) (by decide) hf_5
  replace hfr := hfr.trans (hr_9.sub (by decide))
  obtain ⟨y_13, rfl⟩ := hR_12
  refine jj_lstore_n C dX10_placeInRanking_13 (by decide) rfl ?_
  refine jj_iconst (v := 0) C dX10_placeInRanking_14 (by decide) ?_
  refine jj_istore C dX10_placeInRanking_15 (by decide) rfl ?_
  refine jj_iconst (v := 0) C dX10_placeInRanking_17 (by decide) ?_
  refine jj_istore C dX10_placeInRanking_18 (by decide) rfl ?_
  have hL_14 : ∀ (N : Nat) (pl : va_W) (x_15 : Int32) (x_16 : Int32), True → tt_ok tt_tk cA Kd pl → tt_fr Kd [(2, 0), (2, 1), (2, 2), (2, 3), (2, 4), (9, 1), (9, 2), (9, 3), (9, 4), (9, 5)] pl0 pl → tt_at pl h0 5 (.ref a_3) → tt_at pl h0 3 (.ref a_6) → (0 : Int) ≤ x_15.toInt → x_15.toInt ≤ 2147483647 → (-2147483648 : Int) ≤ x_16.toInt → x_16.toInt ≤ 2147483647 → (2147483648 - x_15.toInt ≤ (N : Int)) → jj_J p l e (jj_rm 4 111 0 0) s m args below meth c 8 A (vx_MQ below (jj_q D A (tt_O (fun rx pl1 r => rx = [] ∧ tt_ok tt_tk cA Kd pl1 ∧ tt_fr Kd [(2, 0), (2, 1), (2, 2), (2, 3), (2, 4), (9, 1), (9, 2), (9, 3), (9, 4), (9, 5)] pl0 pl1 ∧ ((∃ v : Int32, (-2147483648 : Int) ≤ v.toInt ∧ v.toInt ≤ 2147483647 ∧ r = some (.int v)))))) (jj_x D A (tt_OX (fun _ _ _ => False))) args s 0 0 A) (jj_X D A ([] ++ pl)) 0 0 20 [(5, .int x_15), (4, .int x_16), (2, .long y_13), (0, .ref h0), (1, .int p1)] [] := by
    intro NL_14
    induction NL_14 with
    | zero => intro pl x_15 x_16 _ hok hfr hf_17 hf_18 lx_15 ux_15 lx_16 ux_16 hNL_14; exfalso; omega
    | succ NL_14 ihL_14 =>
      intro pl x_15 x_16 _ hok hfr hf_17 hf_18 lx_15 ux_15 lx_16 ux_16 hNL_14
      replace ihL_14 := fun pl x_15 x_16 h1 => ihL_14 pl x_15 x_16 trivial h1
      refine jj_iload C dX10_placeInRanking_20 rfl ?_
      refine jj_aload_n C dX10_placeInRanking_22 rfl ?_
      refine tt_getF C hok jk_11 3 (by decide) jw_2 (t := (2, 1, 0)) hk0 (by decide) rfl rfl hf_18 dX10_placeInRanking_23 ?_
      refine tt_get C hok jk_2 0 (by decide) jw_306 (t := (0, (-2147483648), 2147483647)) ka_6 (by decide) rfl rfl dX10_placeInRanking_26 (fun v_19 hv_19 hf_20 => ?_)
      obtain ⟨x_21, rfl, lx_21, ux_21⟩ := tt_vi hv_19
      refine jj_icmp_ge (tgt := 77) C dX10_placeInRanking_29 (by decide) (fun c_22 => ?_) (fun c_22 => ?_)
      · have z_c_22 := jc_le (a := (x_21).toInt) (b := (x_15).toInt) c_22 rfl rfl
        refine jj_iload C dX10_placeInRanking_77 rfl ?_
        exact jj_iret C ⟨[], pl, rfl, rfl, hok, hfr, ⟨x_16, (by first | omega | exact tt_lo _ | exact tt_hi _), (by first | omega | exact tt_lo _ | exact tt_hi _), rfl⟩⟩ dX10_placeInRanking_79 (jj_le rfl) (jj_le rfl)
      · have z_c_22 := jc_nle (a := (x_21).toInt) (b := (x_15).toInt) c_22 rfl rfl
        refine jj_aload_n C dX10_placeInRanking_32 rfl ?_
        refine tt_getF C hok jk_11 5 (by decide) jw_71 (t := (2, 9, 0)) hk0 (by decide) rfl rfl hf_17 dX10_placeInRanking_33 ?_
        refine jj_aload_n C dX10_placeInRanking_36 rfl ?_
        refine tt_getF C hok jk_11 3 (by decide) jw_2 (t := (2, 1, 0)) hk0 (by decide) rfl rfl hf_18 dX10_placeInRanking_37 ?_
        refine jj_iload C dX10_placeInRanking_40 rfl ?_
        refine jj_iconst (v := 0) C dX10_placeInRanking_42 (by decide) ?_
        obtain ⟨qc, gs, hqc⟩ := tt_recv (cx := []) hok ka_3 (by decide) rfl
        refine tt_callV (rest := []) C (tc_X1_payAfterRate_15 hl D cA ak a_3 a_6 x_15 ka_3 ka_6 hok) [] [] rfl rfl (by decide) (by decide) (by decide) qc hqc rfl rfl jw_437 jw_440 jw_441 jw_74 jw_438 jn_X1_payAfterRate rfl (jj_le rfl) (jj_le rfl) (jj_le rfl) (jj_le rfl) (jj_le rfl) dX10_placeInRanking_43 rfl (fun _ _ _ hX => hX.elim) (fun rx pl_23 r O_26 => ?_)
        obtain ⟨rfl, hok_24, hr_25, hR_28⟩ := O_26
        replace hf_17 := hr_25.at hk0 (by decide) (by decide) hf_17
        replace hf_18 := hr_25.at hk0 (by decide) (by decide) hf_18
        replace hf_20 := hr_25.at ka_6 (by decide) (by decide) hf_20
        replace hfr := hfr.trans (hr_25.sub (by decide))
        obtain ⟨y_29, rfl⟩ := hR_28
        refine jj_lstore C dX10_placeInRanking_46 (by decide) rfl ?_
        refine jj_lload C dX10_placeInRanking_48 rfl ?_
        refine jj_lload_n C dX10_placeInRanking_50 rfl ?_
        refine jj_lcmp_gt (tgt := 68) C dX10_placeInRanking_51 dX10_placeInRanking_52 (by decide) (fun c_30 => ?_) (fun c_30 => ?_)
        · obtain ⟨x_31, ex_31⟩ : ∃ z : Int32, x_16 + Int32.ofInt 1 = z := ⟨_, rfl⟩
          refine jj_iinc (v := x_31) C dX10_placeInRanking_68 rfl ex_31 (by decide) rfl ?_
          obtain ⟨x_32, ex_32, vx_32⟩ := tt_inc (x := x_15) (n := 1) (by omega) (by omega)
          refine jj_iinc (v := x_32) C dX10_placeInRanking_71 rfl ex_32 (by decide) rfl ?_
          refine jj_goto (tgt := 20) C dX10_placeInRanking_74 (by decide) ?_
          refine jj_loc [0, 1, 3, 4, 5] rfl ?_
          exact ihL_14 pl_23 x_32 x_31 hok_24 hfr hf_17 hf_18 (by first | omega | decide | exact tt_lo _ | exact tt_hi _) (by first | omega | decide | exact tt_lo _ | exact tt_hi _) (by first | omega | decide | exact tt_lo _ | exact tt_hi _) (by first | omega | decide | exact tt_lo _ | exact tt_hi _) (by first | omega | decide | exact tt_lo _ | exact tt_hi _)
        · refine jj_lload C dX10_placeInRanking_55 rfl ?_
          refine jj_lload_n C dX10_placeInRanking_57 rfl ?_
          refine jj_lcmp_ne (tgt := 71) C dX10_placeInRanking_58 dX10_placeInRanking_59 (by decide) (fun c_33 => ?_) (fun c_33 => ?_)
          · obtain ⟨x_34, ex_34, vx_34⟩ := tt_inc (x := x_15) (n := 1) (by omega) (by omega)
            refine jj_iinc (v := x_34) C dX10_placeInRanking_71 rfl ex_34 (by decide) rfl ?_
            refine jj_goto (tgt := 20) C dX10_placeInRanking_74 (by decide) ?_
            refine jj_loc [0, 2, 3, 4, 5] rfl ?_
            exact ihL_14 pl_23 x_34 x_16 hok_24 hfr hf_17 hf_18 (by first | omega | decide | exact tt_lo _ | exact tt_hi _) (by first | omega | decide | exact tt_lo _ | exact tt_hi _) (by first | omega | decide | exact tt_lo _ | exact tt_hi _) (by first | omega | decide | exact tt_lo _ | exact tt_hi _) (by first | omega | decide | exact tt_lo _ | exact tt_hi _)
          · refine jj_iload C dX10_placeInRanking_62 rfl ?_
            refine jj_iload_n C dX10_placeInRanking_64 rfl ?_
            refine jj_icmp_ge (tgt := 71) C dX10_placeInRanking_65 (by decide) (fun c_35 => ?_) (fun c_35 => ?_)
            · have z_c_35 := jc_le (a := (p1).toInt) (b := (x_15).toInt) c_35 rfl rfl
              obtain ⟨x_36, ex_36, vx_36⟩ := tt_inc (x := x_15) (n := 1) (by omega) (by omega)
              refine jj_iinc (v := x_36) C dX10_placeInRanking_71 rfl ex_36 (by decide) rfl ?_
              refine jj_goto (tgt := 20) C dX10_placeInRanking_74 (by decide) ?_
              refine jj_loc [0, 2, 3, 4, 5] rfl ?_
              exact ihL_14 pl_23 x_36 x_16 hok_24 hfr hf_17 hf_18 (by first | omega | decide | exact tt_lo _ | exact tt_hi _) (by first | omega | decide | exact tt_lo _ | exact tt_hi _) (by first | omega | decide | exact tt_lo _ | exact tt_hi _) (by first | omega | decide | exact tt_lo _ | exact tt_hi _) (by first | omega | decide | exact tt_lo _ | exact tt_hi _)
            · have z_c_35 := jc_nle (a := (p1).toInt) (b := (x_15).toInt) c_35 rfl rfl
              exfalso; omega
  exact hL_14 _ pl_7 (0 : Int32) (0 : Int32) trivial hok_8 hfr hf_2 hf_5 (by first | omega | decide | exact tt_lo _ | exact tt_hi _) (by first | omega | decide | exact tt_lo _ | exact tt_hi _) (by first | omega | decide | exact tt_lo _ | exact tt_hi _) (by first | omega | decide | exact tt_lo _ | exact tt_hi _) (Int.self_le_toNat _)

set_option maxHeartbeats 4000000 in
set_option maxRecDepth 100000 in
theorem tc_X10_placeInRanking_2 {l : Launch} (hl : l.stackTraces = false) (D : va_G) (cA : Nat → ClassId) (ak : (Nat → Nat) × (Nat → Nat)) {Kd : Nat → Nat} (h0 : Nat) (p1 : Int32) (hk0 : Kd h0 = 15) (lp1 : (0 : Int) ≤ p1.toInt) (up1 : p1.toInt ≤ 1) {pl0 : va_W} (hok : tt_ok tt_tk cA Kd pl0) : jj_M l D cA ak yX10_placeInRanking (.code yX10_placeInRanking cX10_placeInRanking 8 (some .int)) 4 111 0 0 ([] ++ pl0) [.ref h0, .int p1] (tt_O (fun rx pl1 r => rx = [] ∧ tt_ok tt_tk cA Kd pl1 ∧ tt_fr Kd [(2, 0), (2, 1), (2, 2), (2, 3), (2, 4), (9, 1), (9, 2), (9, 3), (9, 4), (9, 5)] pl0 pl1 ∧ ((∃ v : Int32, (-2147483648 : Int) ≤ v.toInt ∧ v.toInt ≤ 2147483647 ∧ r = some (.int v))))) (tt_OX (fun _ _ _ => False)) := by
  refine jj_start hl (by decide) jw_479 (jj_le rfl) ?_
  intro p e s m args below meth c A hargs hA C hex hmn
  have hfr := tt_fr.refl (K := Kd) (WS := [(2, 0), (2, 1), (2, 2), (2, 3), (2, 4), (9, 1), (9, 2), (9, 3), (9, 4), (9, 5)]) pl0
  refine jj_aload_n C dX10_placeInRanking_0 rfl ?_
  refine tt_get C hok jk_11 5 (by decide) jw_71 (t := (2, 9, 0)) hk0 (by decide) rfl rfl dX10_placeInRanking_1 (fun v_1 hv_1 hf_2 => ?_)
  obtain ⟨a_3, rfl, ka_3⟩ := tt_vr hv_1
  refine jj_aload_n C dX10_placeInRanking_4 rfl ?_
  refine tt_get C hok jk_11 3 (by decide) jw_2 (t := (2, 1, 0)) hk0 (by decide) rfl rfl dX10_placeInRanking_5 (fun v_4 hv_4 hf_5 => ?_)
  obtain ⟨a_6, rfl, ka_6⟩ := tt_vr hv_4
  refine jj_iload_n C dX10_placeInRanking_8 rfl ?_
  refine jj_iconst (v := 0) C dX10_placeInRanking_9 (by decide) ?_
  obtain ⟨qc, gs, hqc⟩ := tt_recv (cx := []) hok ka_3 (by decide) rfl
  refine tt_callV (rest := []) C (tc_X1_payAfterRate_3 hl D cA ak a_3 a_6 p1 ka_3 ka_6 (by omega) (by omega) hok) [] [] rfl rfl (by decide) (by decide) (by decide) qc hqc rfl rfl jw_437 jw_440 jw_441 jw_74 jw_438 jn_X1_payAfterRate rfl (jj_le rfl) (jj_le rfl) (jj_le rfl) (jj_le rfl) (jj_le rfl) dX10_placeInRanking_10 rfl (fun _ _ _ hX => hX.elim) (fun rx pl_7 r O_10 => ?_)
  obtain ⟨rfl, hok_8, hr_9, hR_12⟩ := O_10
  replace hf_2 := hr_9.at hk0 (by decide) (by decide) hf_2
  replace hf_5 := hr_9.at hk0 (by decide) (by decide) hf_5
  replace hfr := hfr.trans (hr_9.sub (by decide))
  obtain ⟨y_13, rfl⟩ := hR_12
  refine jj_lstore_n C dX10_placeInRanking_13 (by decide) rfl ?_
  refine jj_iconst (v := 0) C dX10_placeInRanking_14 (by decide) ?_
  refine jj_istore C dX10_placeInRanking_15 (by decide) rfl ?_
  refine jj_iconst (v := 0) C dX10_placeInRanking_17 (by decide) ?_
  refine jj_istore C dX10_placeInRanking_18 (by decide) rfl ?_
  have hL_14 : ∀ (N : Nat) (pl : va_W) (x_15 : Int32) (x_16 : Int32), True → tt_ok tt_tk cA Kd pl → tt_fr Kd [(2, 0), (2, 1), (2, 2), (2, 3), (2, 4), (9, 1), (9, 2), (9, 3), (9, 4), (9, 5)] pl0 pl → tt_at pl h0 5 (.ref a_3) → tt_at pl h0 3 (.ref a_6) → (0 : Int) ≤ x_15.toInt → x_15.toInt ≤ 2147483647 → (-2147483648 : Int) ≤ x_16.toInt → x_16.toInt ≤ 2147483647 → (2147483648 - x_15.toInt ≤ (N : Int)) → jj_J p l e (jj_rm 4 111 0 0) s m args below meth c 8 A (vx_MQ below (jj_q D A (tt_O (fun rx pl1 r => rx = [] ∧ tt_ok tt_tk cA Kd pl1 ∧ tt_fr Kd [(2, 0), (2, 1), (2, 2), (2, 3), (2, 4), (9, 1), (9, 2), (9, 3), (9, 4), (9, 5)] pl0 pl1 ∧ ((∃ v : Int32, (-2147483648 : Int) ≤ v.toInt ∧ v.toInt ≤ 2147483647 ∧ r = some (.int v)))))) (jj_x D A (tt_OX (fun _ _ _ => False))) args s 0 0 A) (jj_X D A ([] ++ pl)) 0 0 20 [(5, .int x_15), (4, .int x_16), (2, .long y_13), (0, .ref h0), (1, .int p1)] [] := by
    intro NL_14
    induction NL_14 with
    | zero => intro pl x_15 x_16 _ hok hfr hf_17 hf_18 lx_15 ux_15 lx_16 ux_16 hNL_14; exfalso; omega
    | succ NL_14 ihL_14 =>
      intro pl x_15 x_16 _ hok hfr hf_17 hf_18 lx_15 ux_15 lx_16 ux_16 hNL_14
      replace ihL_14 := fun pl x_15 x_16 h1 => ihL_14 pl x_15 x_16 trivial h1
      refine jj_iload C dX10_placeInRanking_20 rfl ?_
      refine jj_aload_n C dX10_placeInRanking_22 rfl ?_
      refine tt_getF C hok jk_11 3 (by decide) jw_2 (t := (2, 1, 0)) hk0 (by decide) rfl rfl hf_18 dX10_placeInRanking_23 ?_
      refine tt_get C hok jk_2 0 (by decide) jw_306 (t := (0, (-2147483648), 2147483647)) ka_6 (by decide) rfl rfl dX10_placeInRanking_26 (fun v_19 hv_19 hf_20 => ?_)
      obtain ⟨x_21, rfl, lx_21, ux_21⟩ := tt_vi hv_19
      refine jj_icmp_ge (tgt := 77) C dX10_placeInRanking_29 (by decide) (fun c_22 => ?_) (fun c_22 => ?_)
      · have z_c_22 := jc_le (a := (x_21).toInt) (b := (x_15).toInt) c_22 rfl rfl
        refine jj_iload C dX10_placeInRanking_77 rfl ?_
        exact jj_iret C ⟨[], pl, rfl, rfl, hok, hfr, ⟨x_16, (by first | omega | exact tt_lo _ | exact tt_hi _), (by first | omega | exact tt_lo _ | exact tt_hi _), rfl⟩⟩ dX10_placeInRanking_79 (jj_le rfl) (jj_le rfl)
      · have z_c_22 := jc_nle (a := (x_21).toInt) (b := (x_15).toInt) c_22 rfl rfl
        refine jj_aload_n C dX10_placeInRanking_32 rfl ?_
        refine tt_getF C hok jk_11 5 (by decide) jw_71 (t := (2, 9, 0)) hk0 (by decide) rfl rfl hf_17 dX10_placeInRanking_33 ?_
        refine jj_aload_n C dX10_placeInRanking_36 rfl ?_
        refine tt_getF C hok jk_11 3 (by decide) jw_2 (t := (2, 1, 0)) hk0 (by decide) rfl rfl hf_18 dX10_placeInRanking_37 ?_
        refine jj_iload C dX10_placeInRanking_40 rfl ?_
        refine jj_iconst (v := 0) C dX10_placeInRanking_42 (by decide) ?_
        obtain ⟨qc, gs, hqc⟩ := tt_recv (cx := []) hok ka_3 (by decide) rfl
        refine tt_callV (rest := []) C (tc_X1_payAfterRate_15 hl D cA ak a_3 a_6 x_15 ka_3 ka_6 hok) [] [] rfl rfl (by decide) (by decide) (by decide) qc hqc rfl rfl jw_437 jw_440 jw_441 jw_74 jw_438 jn_X1_payAfterRate rfl (jj_le rfl) (jj_le rfl) (jj_le rfl) (jj_le rfl) (jj_le rfl) dX10_placeInRanking_43 rfl (fun _ _ _ hX => hX.elim) (fun rx pl_23 r O_26 => ?_)
        obtain ⟨rfl, hok_24, hr_25, hR_28⟩ := O_26
        replace hf_17 := hr_25.at hk0 (by decide) (by decide) hf_17
        replace hf_18 := hr_25.at hk0 (by decide) (by decide) hf_18
        replace hf_20 := hr_25.at ka_6 (by decide) (by decide) hf_20
        replace hfr := hfr.trans (hr_25.sub (by decide))
        obtain ⟨y_29, rfl⟩ := hR_28
        refine jj_lstore C dX10_placeInRanking_46 (by decide) rfl ?_
        refine jj_lload C dX10_placeInRanking_48 rfl ?_
        refine jj_lload_n C dX10_placeInRanking_50 rfl ?_
        refine jj_lcmp_gt (tgt := 68) C dX10_placeInRanking_51 dX10_placeInRanking_52 (by decide) (fun c_30 => ?_) (fun c_30 => ?_)
        · obtain ⟨x_31, ex_31⟩ : ∃ z : Int32, x_16 + Int32.ofInt 1 = z := ⟨_, rfl⟩
          refine jj_iinc (v := x_31) C dX10_placeInRanking_68 rfl ex_31 (by decide) rfl ?_
          obtain ⟨x_32, ex_32, vx_32⟩ := tt_inc (x := x_15) (n := 1) (by omega) (by omega)
          refine jj_iinc (v := x_32) C dX10_placeInRanking_71 rfl ex_32 (by decide) rfl ?_
          refine jj_goto (tgt := 20) C dX10_placeInRanking_74 (by decide) ?_
          refine jj_loc [0, 1, 3, 4, 5] rfl ?_
          exact ihL_14 pl_23 x_32 x_31 hok_24 hfr hf_17 hf_18 (by first | omega | decide | exact tt_lo _ | exact tt_hi _) (by first | omega | decide | exact tt_lo _ | exact tt_hi _) (by first | omega | decide | exact tt_lo _ | exact tt_hi _) (by first | omega | decide | exact tt_lo _ | exact tt_hi _) (by first | omega | decide | exact tt_lo _ | exact tt_hi _)
        · refine jj_lload C dX10_placeInRanking_55 rfl ?_
          refine jj_lload_n C dX10_placeInRanking_57 rfl ?_
          refine jj_lcmp_ne (tgt := 71) C dX10_placeInRanking_58 dX10_placeInRanking_59 (by decide) (fun c_33 => ?_) (fun c_33 => ?_)
          · obtain ⟨x_34, ex_34, vx_34⟩ := tt_inc (x := x_15) (n := 1) (by omega) (by omega)
            refine jj_iinc (v := x_34) C dX10_placeInRanking_71 rfl ex_34 (by decide) rfl ?_
            refine jj_goto (tgt := 20) C dX10_placeInRanking_74 (by decide) ?_
            refine jj_loc [0, 2, 3, 4, 5] rfl ?_
            exact ihL_14 pl_23 x_34 x_16 hok_24 hfr hf_17 hf_18 (by first | omega | decide | exact tt_lo _ | exact tt_hi _) (by first | omega | decide | exact tt_lo _ | exact tt_hi _) (by first | omega | decide | exact tt_lo _ | exact tt_hi _) (by first | omega | decide | exact tt_lo _ | exact tt_hi _) (by first | omega | decide | exact tt_lo _ | exact tt_hi _)
          · refine jj_iload C dX10_placeInRanking_62 rfl ?_
            refine jj_iload_n C dX10_placeInRanking_64 rfl ?_
            refine jj_icmp_ge (tgt := 71) C dX10_placeInRanking_65 (by decide) (fun c_35 => ?_) (fun c_35 => ?_)
            · have z_c_35 := jc_le (a := (p1).toInt) (b := (x_15).toInt) c_35 rfl rfl
              obtain ⟨x_36, ex_36, vx_36⟩ := tt_inc (x := x_15) (n := 1) (by omega) (by omega)
              refine jj_iinc (v := x_36) C dX10_placeInRanking_71 rfl ex_36 (by decide) rfl ?_
              refine jj_goto (tgt := 20) C dX10_placeInRanking_74 (by decide) ?_
              refine jj_loc [0, 2, 3, 4, 5] rfl ?_
              exact ihL_14 pl_23 x_36 x_16 hok_24 hfr hf_17 hf_18 (by first | omega | decide | exact tt_lo _ | exact tt_hi _) (by first | omega | decide | exact tt_lo _ | exact tt_hi _) (by first | omega | decide | exact tt_lo _ | exact tt_hi _) (by first | omega | decide | exact tt_lo _ | exact tt_hi _) (by first | omega | decide | exact tt_lo _ | exact tt_hi _)
            · have z_c_35 := jc_nle (a := (p1).toInt) (b := (x_15).toInt) c_35 rfl rfl
              obtain ⟨x_37, ex_37⟩ : ∃ z : Int32, x_16 + Int32.ofInt 1 = z := ⟨_, rfl⟩
              refine jj_iinc (v := x_37) C dX10_placeInRanking_68 rfl ex_37 (by decide) rfl ?_
              obtain ⟨x_38, ex_38, vx_38⟩ := tt_inc (x := x_15) (n := 1) (by omega) (by omega)
              refine jj_iinc (v := x_38) C dX10_placeInRanking_71 rfl ex_38 (by decide) rfl ?_
              refine jj_goto (tgt := 20) C dX10_placeInRanking_74 (by decide) ?_
              refine jj_loc [0, 1, 3, 4, 5] rfl ?_
              exact ihL_14 pl_23 x_38 x_37 hok_24 hfr hf_17 hf_18 (by first | omega | decide | exact tt_lo _ | exact tt_hi _) (by first | omega | decide | exact tt_lo _ | exact tt_hi _) (by first | omega | decide | exact tt_lo _ | exact tt_hi _) (by first | omega | decide | exact tt_lo _ | exact tt_hi _) (by first | omega | decide | exact tt_lo _ | exact tt_hi _)
  exact hL_14 _ pl_7 (0 : Int32) (0 : Int32) trivial hok_8 hfr hf_2 hf_5 (by first | omega | decide | exact tt_lo _ | exact tt_hi _) (by first | omega | decide | exact tt_lo _ | exact tt_hi _) (by first | omega | decide | exact tt_lo _ | exact tt_hi _) (by first | omega | decide | exact tt_lo _ | exact tt_hi _) (Int.self_le_toNat _)

set_option maxHeartbeats 4000000 in
set_option maxRecDepth 100000 in
theorem tc_X10_placeInRanking_3 {l : Launch} (hl : l.stackTraces = false) (D : va_G) (cA : Nat → ClassId) (ak : (Nat → Nat) × (Nat → Nat)) {Kd : Nat → Nat} (h0 : Nat) (p1 : Int32) (hk0 : Kd h0 = 15) (lp1 : (0 : Int) ≤ p1.toInt) (up1 : p1.toInt ≤ 5) {pl0 : va_W} (hok : tt_ok tt_tk cA Kd pl0) : jj_M l D cA ak yX10_placeInRanking (.code yX10_placeInRanking cX10_placeInRanking 8 (some .int)) 4 111 0 0 ([] ++ pl0) [.ref h0, .int p1] (tt_O (fun rx pl1 r => rx = [] ∧ tt_ok tt_tk cA Kd pl1 ∧ tt_fr Kd [(2, 0), (2, 1), (2, 2), (2, 3), (2, 4), (9, 1), (9, 2), (9, 3), (9, 4), (9, 5)] pl0 pl1 ∧ ((∃ v : Int32, (-2147483648 : Int) ≤ v.toInt ∧ v.toInt ≤ 2147483647 ∧ r = some (.int v))))) (tt_OX (fun _ _ _ => False)) := by
  refine jj_start hl (by decide) jw_479 (jj_le rfl) ?_
  intro p e s m args below meth c A hargs hA C hex hmn
  have hfr := tt_fr.refl (K := Kd) (WS := [(2, 0), (2, 1), (2, 2), (2, 3), (2, 4), (9, 1), (9, 2), (9, 3), (9, 4), (9, 5)]) pl0
  refine jj_aload_n C dX10_placeInRanking_0 rfl ?_
  refine tt_get C hok jk_11 5 (by decide) jw_71 (t := (2, 9, 0)) hk0 (by decide) rfl rfl dX10_placeInRanking_1 (fun v_1 hv_1 hf_2 => ?_)
  obtain ⟨a_3, rfl, ka_3⟩ := tt_vr hv_1
  refine jj_aload_n C dX10_placeInRanking_4 rfl ?_
  refine tt_get C hok jk_11 3 (by decide) jw_2 (t := (2, 1, 0)) hk0 (by decide) rfl rfl dX10_placeInRanking_5 (fun v_4 hv_4 hf_5 => ?_)
  obtain ⟨a_6, rfl, ka_6⟩ := tt_vr hv_4
  refine jj_iload_n C dX10_placeInRanking_8 rfl ?_
  refine jj_iconst (v := 0) C dX10_placeInRanking_9 (by decide) ?_
  obtain ⟨qc, gs, hqc⟩ := tt_recv (cx := []) hok ka_3 (by decide) rfl
  refine tt_callV (rest := []) C (tc_X1_payAfterRate_4 hl D cA ak a_3 a_6 p1 ka_3 ka_6 (by omega) (by omega) hok) [] [] rfl rfl (by decide) (by decide) (by decide) qc hqc rfl rfl jw_437 jw_440 jw_441 jw_74 jw_438 jn_X1_payAfterRate rfl (jj_le rfl) (jj_le rfl) (jj_le rfl) (jj_le rfl) (jj_le rfl) dX10_placeInRanking_10 rfl (fun _ _ _ hX => hX.elim) (fun rx pl_7 r O_10 => ?_)
  obtain ⟨rfl, hok_8, hr_9, hR_12⟩ := O_10
  replace hf_2 := hr_9.at hk0 (by decide) (by decide) hf_2
  replace hf_5 := hr_9.at hk0 (by decide) (by decide) hf_5
  replace hfr := hfr.trans (hr_9.sub (by decide))
  obtain ⟨y_13, rfl⟩ := hR_12
  refine jj_lstore_n C dX10_placeInRanking_13 (by decide) rfl ?_
  refine jj_iconst (v := 0) C dX10_placeInRanking_14 (by decide) ?_
  refine jj_istore C dX10_placeInRanking_15 (by decide) rfl ?_
  refine jj_iconst (v := 0) C dX10_placeInRanking_17 (by decide) ?_
  refine jj_istore C dX10_placeInRanking_18 (by decide) rfl ?_
  have hL_14 : ∀ (N : Nat) (pl : va_W) (x_15 : Int32) (x_16 : Int32), True → tt_ok tt_tk cA Kd pl → tt_fr Kd [(2, 0), (2, 1), (2, 2), (2, 3), (2, 4), (9, 1), (9, 2), (9, 3), (9, 4), (9, 5)] pl0 pl → tt_at pl h0 5 (.ref a_3) → tt_at pl h0 3 (.ref a_6) → (0 : Int) ≤ x_15.toInt → x_15.toInt ≤ 2147483647 → (-2147483648 : Int) ≤ x_16.toInt → x_16.toInt ≤ 2147483647 → (2147483648 - x_15.toInt ≤ (N : Int)) → jj_J p l e (jj_rm 4 111 0 0) s m args below meth c 8 A (vx_MQ below (jj_q D A (tt_O (fun rx pl1 r => rx = [] ∧ tt_ok tt_tk cA Kd pl1 ∧ tt_fr Kd [(2, 0), (2, 1), (2, 2), (2, 3), (2, 4), (9, 1), (9, 2), (9, 3), (9, 4), (9, 5)] pl0 pl1 ∧ ((∃ v : Int32, (-2147483648 : Int) ≤ v.toInt ∧ v.toInt ≤ 2147483647 ∧ r = some (.int v)))))) (jj_x D A (tt_OX (fun _ _ _ => False))) args s 0 0 A) (jj_X D A ([] ++ pl)) 0 0 20 [(5, .int x_15), (4, .int x_16), (2, .long y_13), (0, .ref h0), (1, .int p1)] [] := by
    intro NL_14
    induction NL_14 with
    | zero => intro pl x_15 x_16 _ hok hfr hf_17 hf_18 lx_15 ux_15 lx_16 ux_16 hNL_14; exfalso; omega
    | succ NL_14 ihL_14 =>
      intro pl x_15 x_16 _ hok hfr hf_17 hf_18 lx_15 ux_15 lx_16 ux_16 hNL_14
      replace ihL_14 := fun pl x_15 x_16 h1 => ihL_14 pl x_15 x_16 trivial h1
      refine jj_iload C dX10_placeInRanking_20 rfl ?_
      refine jj_aload_n C dX10_placeInRanking_22 rfl ?_
      refine tt_getF C hok jk_11 3 (by decide) jw_2 (t := (2, 1, 0)) hk0 (by decide) rfl rfl hf_18 dX10_placeInRanking_23 ?_
      refine tt_get C hok jk_2 0 (by decide) jw_306 (t := (0, (-2147483648), 2147483647)) ka_6 (by decide) rfl rfl dX10_placeInRanking_26 (fun v_19 hv_19 hf_20 => ?_)
      obtain ⟨x_21, rfl, lx_21, ux_21⟩ := tt_vi hv_19
      refine jj_icmp_ge (tgt := 77) C dX10_placeInRanking_29 (by decide) (fun c_22 => ?_) (fun c_22 => ?_)
      · have z_c_22 := jc_le (a := (x_21).toInt) (b := (x_15).toInt) c_22 rfl rfl
        refine jj_iload C dX10_placeInRanking_77 rfl ?_
        exact jj_iret C ⟨[], pl, rfl, rfl, hok, hfr, ⟨x_16, (by first | omega | exact tt_lo _ | exact tt_hi _), (by first | omega | exact tt_lo _ | exact tt_hi _), rfl⟩⟩ dX10_placeInRanking_79 (jj_le rfl) (jj_le rfl)
      · have z_c_22 := jc_nle (a := (x_21).toInt) (b := (x_15).toInt) c_22 rfl rfl
        refine jj_aload_n C dX10_placeInRanking_32 rfl ?_
        refine tt_getF C hok jk_11 5 (by decide) jw_71 (t := (2, 9, 0)) hk0 (by decide) rfl rfl hf_17 dX10_placeInRanking_33 ?_
        refine jj_aload_n C dX10_placeInRanking_36 rfl ?_
        refine tt_getF C hok jk_11 3 (by decide) jw_2 (t := (2, 1, 0)) hk0 (by decide) rfl rfl hf_18 dX10_placeInRanking_37 ?_
        refine jj_iload C dX10_placeInRanking_40 rfl ?_
        refine jj_iconst (v := 0) C dX10_placeInRanking_42 (by decide) ?_
        obtain ⟨qc, gs, hqc⟩ := tt_recv (cx := []) hok ka_3 (by decide) rfl
        refine tt_callV (rest := []) C (tc_X1_payAfterRate_15 hl D cA ak a_3 a_6 x_15 ka_3 ka_6 hok) [] [] rfl rfl (by decide) (by decide) (by decide) qc hqc rfl rfl jw_437 jw_440 jw_441 jw_74 jw_438 jn_X1_payAfterRate rfl (jj_le rfl) (jj_le rfl) (jj_le rfl) (jj_le rfl) (jj_le rfl) dX10_placeInRanking_43 rfl (fun _ _ _ hX => hX.elim) (fun rx pl_23 r O_26 => ?_)
        obtain ⟨rfl, hok_24, hr_25, hR_28⟩ := O_26
        replace hf_17 := hr_25.at hk0 (by decide) (by decide) hf_17
        replace hf_18 := hr_25.at hk0 (by decide) (by decide) hf_18
        replace hf_20 := hr_25.at ka_6 (by decide) (by decide) hf_20
        replace hfr := hfr.trans (hr_25.sub (by decide))
        obtain ⟨y_29, rfl⟩ := hR_28
        refine jj_lstore C dX10_placeInRanking_46 (by decide) rfl ?_
        refine jj_lload C dX10_placeInRanking_48 rfl ?_
        refine jj_lload_n C dX10_placeInRanking_50 rfl ?_
        refine jj_lcmp_gt (tgt := 68) C dX10_placeInRanking_51 dX10_placeInRanking_52 (by decide) (fun c_30 => ?_) (fun c_30 => ?_)
        · obtain ⟨x_31, ex_31⟩ : ∃ z : Int32, x_16 + Int32.ofInt 1 = z := ⟨_, rfl⟩
          refine jj_iinc (v := x_31) C dX10_placeInRanking_68 rfl ex_31 (by decide) rfl ?_
          obtain ⟨x_32, ex_32, vx_32⟩ := tt_inc (x := x_15) (n := 1) (by omega) (by omega)
          refine jj_iinc (v := x_32) C dX10_placeInRanking_71 rfl ex_32 (by decide) rfl ?_
          refine jj_goto (tgt := 20) C dX10_placeInRanking_74 (by decide) ?_
          refine jj_loc [0, 1, 3, 4, 5] rfl ?_
          exact ihL_14 pl_23 x_32 x_31 hok_24 hfr hf_17 hf_18 (by first | omega | decide | exact tt_lo _ | exact tt_hi _) (by first | omega | decide | exact tt_lo _ | exact tt_hi _) (by first | omega | decide | exact tt_lo _ | exact tt_hi _) (by first | omega | decide | exact tt_lo _ | exact tt_hi _) (by first | omega | decide | exact tt_lo _ | exact tt_hi _)
        · refine jj_lload C dX10_placeInRanking_55 rfl ?_
          refine jj_lload_n C dX10_placeInRanking_57 rfl ?_
          refine jj_lcmp_ne (tgt := 71) C dX10_placeInRanking_58 dX10_placeInRanking_59 (by decide) (fun c_33 => ?_) (fun c_33 => ?_)
          · obtain ⟨x_34, ex_34, vx_34⟩ := tt_inc (x := x_15) (n := 1) (by omega) (by omega)
            refine jj_iinc (v := x_34) C dX10_placeInRanking_71 rfl ex_34 (by decide) rfl ?_
            refine jj_goto (tgt := 20) C dX10_placeInRanking_74 (by decide) ?_
            refine jj_loc [0, 2, 3, 4, 5] rfl ?_
            exact ihL_14 pl_23 x_34 x_16 hok_24 hfr hf_17 hf_18 (by first | omega | decide | exact tt_lo _ | exact tt_hi _) (by first | omega | decide | exact tt_lo _ | exact tt_hi _) (by first | omega | decide | exact tt_lo _ | exact tt_hi _) (by first | omega | decide | exact tt_lo _ | exact tt_hi _) (by first | omega | decide | exact tt_lo _ | exact tt_hi _)
          · refine jj_iload C dX10_placeInRanking_62 rfl ?_
            refine jj_iload_n C dX10_placeInRanking_64 rfl ?_
            refine jj_icmp_ge (tgt := 71) C dX10_placeInRanking_65 (by decide) (fun c_35 => ?_) (fun c_35 => ?_)
            · have z_c_35 := jc_le (a := (p1).toInt) (b := (x_15).toInt) c_35 rfl rfl
              obtain ⟨x_36, ex_36, vx_36⟩ := tt_inc (x := x_15) (n := 1) (by omega) (by omega)
              refine jj_iinc (v := x_36) C dX10_placeInRanking_71 rfl ex_36 (by decide) rfl ?_
              refine jj_goto (tgt := 20) C dX10_placeInRanking_74 (by decide) ?_
              refine jj_loc [0, 2, 3, 4, 5] rfl ?_
              exact ihL_14 pl_23 x_36 x_16 hok_24 hfr hf_17 hf_18 (by first | omega | decide | exact tt_lo _ | exact tt_hi _) (by first | omega | decide | exact tt_lo _ | exact tt_hi _) (by first | omega | decide | exact tt_lo _ | exact tt_hi _) (by first | omega | decide | exact tt_lo _ | exact tt_hi _) (by first | omega | decide | exact tt_lo _ | exact tt_hi _)
            · have z_c_35 := jc_nle (a := (p1).toInt) (b := (x_15).toInt) c_35 rfl rfl
              obtain ⟨x_37, ex_37⟩ : ∃ z : Int32, x_16 + Int32.ofInt 1 = z := ⟨_, rfl⟩
              refine jj_iinc (v := x_37) C dX10_placeInRanking_68 rfl ex_37 (by decide) rfl ?_
              obtain ⟨x_38, ex_38, vx_38⟩ := tt_inc (x := x_15) (n := 1) (by omega) (by omega)
              refine jj_iinc (v := x_38) C dX10_placeInRanking_71 rfl ex_38 (by decide) rfl ?_
              refine jj_goto (tgt := 20) C dX10_placeInRanking_74 (by decide) ?_
              refine jj_loc [0, 1, 3, 4, 5] rfl ?_
              exact ihL_14 pl_23 x_38 x_37 hok_24 hfr hf_17 hf_18 (by first | omega | decide | exact tt_lo _ | exact tt_hi _) (by first | omega | decide | exact tt_lo _ | exact tt_hi _) (by first | omega | decide | exact tt_lo _ | exact tt_hi _) (by first | omega | decide | exact tt_lo _ | exact tt_hi _) (by first | omega | decide | exact tt_lo _ | exact tt_hi _)
  exact hL_14 _ pl_7 (0 : Int32) (0 : Int32) trivial hok_8 hfr hf_2 hf_5 (by first | omega | decide | exact tt_lo _ | exact tt_hi _) (by first | omega | decide | exact tt_lo _ | exact tt_hi _) (by first | omega | decide | exact tt_lo _ | exact tt_hi _) (by first | omega | decide | exact tt_lo _ | exact tt_hi _) (Int.self_le_toNat _)

