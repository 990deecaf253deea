set_option maxHeartbeats 4000000 in
set_option maxRecDepth 100000 in
theorem tc_X1_payAfterRate_5 {l : Launch} (hl : l.stackTraces = false) (D : va_G) (cA : Nat → ClassId) (ak : (Nat → Nat) × (Nat → Nat)) {Kd : Nat → Nat} (h0 : Nat) (h1 : Nat) (p2 : Int32) (hk0 : Kd h0 = 9) (hk1 : Kd h1 = 1) (lp2 : (0 : Int) ≤ p2.toInt) (up2 : p2.toInt ≤ 6) {pl0 : va_W} (hok : tt_ok tt_tk cA Kd pl0) : jj_M l D cA ak yX1_payAfterRate (.code yX1_payAfterRate cX1_payAfterRate 4 (some .long)) 3 88 0 0 ([] ++ pl0) [.ref h0, .ref h1, .int p2, .int 0] (tt_O (fun rx pl1 r => rx = [] ∧ tt_ok tt_tk cA Kd pl1 ∧ tt_fr Kd [(2, 0), (2, 1), (2, 2), (2, 3), (2, 4), (9, 1), (9, 2), (9, 3), (9, 4), (9, 5)] pl0 pl1 ∧ tt_fa Kd [] pl0 pl1 ∧ ((∃ v : Int64, r = some (.long v))))) (tt_OX (fun _ _ _ => False)) := by
  refine jj_start hl (by decide) jw_8658218399 (jj_le rfl) ?_
  intro p e s m args below meth c A hargs hA C hex hmn
  have hfr := tt_fr.refl (K := Kd) (WS := [(2, 0), (2, 1), (2, 2), (2, 3), (2, 4), (9, 1), (9, 2), (9, 3), (9, 4), (9, 5)]) pl0
  have hfa := tt_fa.refl (K := Kd) (WA := []) pl0
  refine jj_aload_n C dX1_payAfterRate_0 rfl ?_
  refine jj_aload_n C dX1_payAfterRate_1 rfl ?_
  refine jj_iload_n C dX1_payAfterRate_2 rfl ?_
  obtain ⟨qc, gs, hqc⟩ := tt_recv (cx := []) hok hk0 (by decide) rfl
  refine tt_callV (rest := []) C (tc_X1_resetTrial_1 hl D cA ak h0 h1 hk0 hk1 hok) [] [] rfl rfl (by decide) (by decide) (by decide) qc hqc rfl rfl jw_e4af616004 jw_bacc1607b6 jw_d2d28ff2fc jw_944cf9c3ab jw_94abfb5ed9 jn_X1_resetTrial rfl (jj_le rfl) (jj_le rfl) (jj_le rfl) (jj_le rfl) (jj_le rfl) dX1_payAfterRate_3 rfl (fun _ _ _ hX => hX.elim) (fun rx pl_1 r O_4 => ?_)
  obtain ⟨rfl, hok_2, hr_3, hfa9, hR_6⟩ := O_4
  replace hfr := hfr.trans (hr_3.sub (by decide))
  replace hfa := hfa.trans (hfa9.sub (by decide))
  obtain rfl := hR_6
  refine jj_aload_n C dX1_payAfterRate_6 rfl ?_
  refine jj_aload_n C dX1_payAfterRate_7 rfl ?_
  refine jj_iload_n C dX1_payAfterRate_8 rfl ?_
  refine jj_ldc2 (v := 9223372036854775807) C dX1_payAfterRate_9 jw_0ae03504c0 ?_
  refine jj_iconst (v := 1) C dX1_payAfterRate_12 (by decide) ?_
  obtain ⟨qc, gs, hqc⟩ := tt_recv (cx := []) hok_2 hk0 (by decide) rfl
  refine tt_callV (rest := []) C (tc_X1_tryRedemption_6 hl D cA ak h0 h1 p2 hk0 hk1 (by omega) (by omega) hok_2) [] [] rfl rfl (by decide) (by decide) (by decide) qc hqc rfl rfl jw_484ec097f9 jw_eb03746c8c jw_a203910c50 jw_944cf9c3ab jw_a452736dc6 jn_X1_tryRedemption rfl (jj_le rfl) (jj_le rfl) (jj_le rfl) (jj_le rfl) (jj_le rfl) dX1_payAfterRate_13 rfl (fun _ _ _ hX => hX.elim) (fun rx pl_9 r O_12 => ?_)
  obtain ⟨rfl, hok_10, hr_11, hfa9, hR_14⟩ := O_12
  replace hfr := hfr.trans (hr_11.sub (by decide))
  replace hfa := hfa.trans (hfa9.sub (by decide))
  obtain ⟨y_17, rfl⟩ := hR_14
  exact jj_lret C ⟨[], pl_9, rfl, rfl, hok_10, hfr, hfa, ⟨y_17, rfl⟩⟩ dX1_payAfterRate_16 (jj_le rfl) (jj_le rfl)

set_option maxHeartbeats 4000000 in
set_option maxRecDepth 100000 in
theorem tc_X1_tryRedemption_7 {l : Launch} (hl : l.stackTraces = false) (D : va_G) (cA : Nat → ClassId) (ak : (Nat → Nat) × (Nat → Nat)) {Kd : Nat → Nat} (h0 : Nat) (h1 : Nat) (p2 : Int32) (hk0 : Kd h0 = 9) (hk1 : Kd h1 = 1) (lp2 : (0 : Int) ≤ p2.toInt) (up2 : p2.toInt ≤ 9) {pl0 : va_W} (hok : tt_ok tt_tk cA Kd pl0) : jj_M l D cA ak yX1_tryRedemption (.code yX1_tryRedemption cX1_tryRedemption 15 (some .long)) 2 54 0 0 ([] ++ pl0) [.ref h0, .ref h1, .int p2, .long 9223372036854775807, .int 1] (tt_O (fun rx pl1 r => rx = [] ∧ tt_ok tt_tk cA Kd pl1 ∧ tt_fr Kd [(2, 2), (2, 3), (9, 1), (9, 2), (9, 3), (9, 4), (9, 5)] pl0 pl1 ∧ tt_fa Kd [] pl0 pl1 ∧ ((∃ v : Int64, r = some (.long v))))) (tt_OX (fun _ _ _ => False)) := by
  refine jj_start hl (by decide) jw_a452736dc6 (jj_le rfl) ?_
  intro p e s m args below meth c A hargs hA C hex hmn
  have hfr := tt_fr.refl (K := Kd) (WS := [(2, 2), (2, 3), (9, 1), (9, 2), (9, 3), (9, 4), (9, 5)]) pl0
  have hfa := tt_fa.refl (K := Kd) (WA := []) pl0
  refine jj_lconst (v := 0) C dX1_tryRedemption_0 (by decide) ?_
  refine jj_lstore C dX1_tryRedemption_1 (by decide) rfl ?_
  refine jj_lload_n C dX1_tryRedemption_3 rfl ?_
  refine jj_lstore C dX1_tryRedemption_4 (by decide) rfl ?_
  refine jj_iconst (v := 0) C dX1_tryRedemption_6 (by decide) ?_
  refine jj_istore C dX1_tryRedemption_7 (by decide) rfl ?_
  have hL_1 : ∀ (N : Nat) (pl : va_W) (x_2 : Int32) (y_3 : Int64) (y_4 : Int64), True → tt_ok tt_tk cA Kd pl → tt_fr Kd [(2, 2), (2, 3), (9, 1), (9, 2), (9, 3), (9, 4), (9, 5)] pl0 pl → tt_fa Kd [] pl0 pl → (0 : Int) ≤ x_2.toInt → x_2.toInt ≤ 40 → (2147483648 - x_2.toInt ≤ (N : Int)) → jj_J p l e (jj_rm 2 54 0 0) s m args below meth c 15 A (vx_MQ below (jj_q D A (tt_O (fun rx pl1 r => rx = [] ∧ tt_ok tt_tk cA Kd pl1 ∧ tt_fr Kd [(2, 2), (2, 3), (9, 1), (9, 2), (9, 3), (9, 4), (9, 5)] pl0 pl1 ∧ tt_fa Kd [] pl0 pl1 ∧ ((∃ v : Int64, r = some (.long v)))))) (jj_x D A (tt_OX (fun _ _ _ => False))) args s 0 0 A) (jj_X D A ([] ++ pl)) 0 0 9 [(10, .int x_2), (8, .long y_3), (6, .long y_4), (0, .ref h0), (1, .ref h1), (2, .int p2), (3, .long 9223372036854775807), (5, .int 1)] [] := by
    intro NL_1
    induction NL_1 with
    | zero => intro pl x_2 y_3 y_4 _ hok hfr hfa lx_2 ux_2 hNL_1; exfalso; omega
    | succ NL_1 ihL_1 =>
      intro pl x_2 y_3 y_4 _ hok hfr hfa lx_2 ux_2 hNL_1
      replace ihL_1 := fun pl x_2 y_3 y_4 h1 => ihL_1 pl x_2 y_3 y_4 trivial h1
      refine jj_iload C dX1_tryRedemption_9 rfl ?_
      refine jj_aload_n C dX1_tryRedemption_11 rfl ?_
      refine tt_get C hok jk_2 8 (by decide) jw_eaf43346a8 (t := (0, 0, 40)) hk1 (by decide) rfl rfl dX1_tryRedemption_12 (fun v_5 hv_5 hf_6 => ?_)
      obtain ⟨x_7, rfl, lx_7, ux_7⟩ := tt_vi hv_5
      refine jj_icmp_ge (tgt := 173) C dX1_tryRedemption_15 (by decide) (fun c_8 => ?_) (fun c_8 => ?_)
      · have z_c_8 := jc_le (a := (x_7).toInt) (b := (x_2).toInt) c_8 rfl rfl
        refine jj_lload C dX1_tryRedemption_173 rfl ?_
        exact jj_lret C ⟨[], pl, rfl, rfl, hok, hfr, hfa, ⟨y_4, rfl⟩⟩ dX1_tryRedemption_175 (jj_le rfl) (jj_le rfl)
      · have z_c_8 := jc_nle (a := (x_7).toInt) (b := (x_2).toInt) c_8 rfl rfl
        refine jj_lload C dX1_tryRedemption_18 rfl ?_
        refine jj_lconst (v := 0) C dX1_tryRedemption_20 (by decide) ?_
        refine jj_lcmp_le (tgt := 173) C dX1_tryRedemption_21 dX1_tryRedemption_22 (by decide) (fun c_9 => ?_) (fun c_9 => ?_)
        · refine jj_lload C dX1_tryRedemption_173 rfl ?_
          exact jj_lret C ⟨[], pl, rfl, rfl, hok, hfr, hfa, ⟨y_4, rfl⟩⟩ dX1_tryRedemption_175 (jj_le rfl) (jj_le rfl)
        · refine jj_aload_n C dX1_tryRedemption_25 rfl ?_
          refine tt_get C hok jk_2 12 (by decide) jw_41d1bd2a61 (t := (2, 7, 0)) hk1 (by decide) rfl rfl dX1_tryRedemption_26 (fun v_10 hv_10 hf_11 => ?_)
          obtain ⟨a_12, rfl, ka_12⟩ := tt_vr hv_10
          refine jj_iload C dX1_tryRedemption_29 rfl ?_
          refine tt_aald C hok (t := (2, 3, 0)) ka_12 (by decide) rfl rfl rfl (vp_in_iff.mpr ⟨by omega, by omega⟩) dX1_tryRedemption_31 (fun v_13 hv_13 => ?_)
          obtain ⟨a_14, rfl, ka_14⟩ := tt_vr hv_13
          refine jj_astore C dX1_tryRedemption_32 (by decide) rfl ?_
          refine jj_aload_n C dX1_tryRedemption_34 rfl ?_
          refine jj_aload C dX1_tryRedemption_35 rfl ?_
          refine tt_get C hok jk_5 1 (by decide) jw_85587ec127 (t := (0, (-2147483648), 2147483647)) ka_14 (by decide) rfl rfl dX1_tryRedemption_37 (fun v_15 hv_15 hf_16 => ?_)
          obtain ⟨x_17, rfl, lx_17, ux_17⟩ := tt_vi hv_15
          obtain ⟨qc, gs, hqc⟩ := tt_recv (cx := []) hok hk1 (by decide) rfl
          refine tt_callV (rest := []) C (tc_X0_placeOfSeries_1 hl D cA ak h1 x_17 hk1 hok) [] [] rfl rfl (by decide) (by decide) (by decide) qc hqc rfl rfl jw_bb838ff949 jw_0061c834c4 jw_a3c4f03cad jw_7d25d4fd32 jw_3fe68be2d3 jn_X0_placeOfSeries rfl (jj_le rfl) (jj_le rfl) (jj_le rfl) (jj_le rfl) (jj_le rfl) dX1_tryRedemption_40 rfl (fun _ _ _ hX => hX.elim) (fun rx pl_18 r O_21 => ?_)
          obtain ⟨rfl, hok_19, hr_20, hfa9, hR_23⟩ := O_21
          replace hf_6 := hr_20.at hk1 (by decide) (by decide) hf_6
          replace hf_11 := hr_20.at hk1 (by decide) (by decide) hf_11
          replace hf_16 := hr_20.at ka_14 (by decide) (by decide) hf_16
          replace hfr := hfr.trans (hr_20.sub (by decide))
          replace hfa := hfa.trans (hfa9.sub (by decide))
          rcases hR_23 with rfl | ⟨x_26, lx_26, ux_26, rfl⟩
          · refine jj_istore C dX1_tryRedemption_43 (by decide) rfl ?_
            refine jj_aload C dX1_tryRedemption_45 rfl ?_
            refine tt_get C hok_19 jk_5 0 (by decide) jw_a8c98ef318 (t := (0, (-2147483648), 2147483647)) ka_14 (by decide) rfl rfl dX1_tryRedemption_47 (fun v_27 hv_27 hf_28 => ?_)
            obtain ⟨x_29, rfl, lx_29, ux_29⟩ := tt_vi hv_27
            refine jj_iload_n C dX1_tryRedemption_50 rfl ?_
            refine jj_icmp_ne (tgt := 167) C dX1_tryRedemption_51 (by decide) (fun c_30 => ?_) (fun c_30 => ?_)
            · have z_c_30 := jc_neq (a := (x_29).toInt) (b := (p2).toInt) c_30 rfl rfl
              obtain ⟨x_31, ex_31, vx_31⟩ := tt_inc (x := x_2) (n := 1) (by omega) (by omega)
              refine jj_iinc (v := x_31) C dX1_tryRedemption_167 rfl ex_31 (by decide) rfl ?_
              refine jj_goto (tgt := 9) C dX1_tryRedemption_170 (by decide) ?_
              refine jj_loc [0, 3, 4, 5, 6, 7, 8, 9] rfl ?_
              exact ihL_1 pl_18 x_31 y_3 y_4 hok_19 hfr hfa (by first | omega | decide | exact tt_lo _ | exact tt_hi _) (by first | omega | decide | exact tt_lo _ | exact tt_hi _) (by first | omega | decide | exact tt_lo _ | exact tt_hi _)
            · have z_c_30 := jc_eq (a := (x_29).toInt) (b := (p2).toInt) c_30 rfl rfl
              refine jj_iload C dX1_tryRedemption_54 rfl ?_
              refine jj_iconst (v := (-1)) C dX1_tryRedemption_56 (by decide) ?_
              refine jj_icmp_eqT (tgt := 167) C dX1_tryRedemption_57 (by decide) (by decide) ?_
              obtain ⟨x_32, ex_32, vx_32⟩ := tt_inc (x := x_2) (n := 1) (by omega) (by omega)
              refine jj_iinc (v := x_32) C dX1_tryRedemption_167 rfl ex_32 (by decide) rfl ?_
              refine jj_goto (tgt := 9) C dX1_tryRedemption_170 (by decide) ?_
              refine jj_loc [0, 3, 4, 5, 6, 7, 8, 9] rfl ?_
              exact ihL_1 pl_18 x_32 y_3 y_4 hok_19 hfr hfa (by first | omega | decide | exact tt_lo _ | exact tt_hi _) (by first | omega | decide | exact tt_lo _ | exact tt_hi _) (by first | omega | decide | exact tt_lo _ | exact tt_hi _)
          · refine jj_istore C dX1_tryRedemption_43 (by decide) rfl ?_
            refine jj_aload C dX1_tryRedemption_45 rfl ?_
            refine tt_get C hok_19 jk_5 0 (by decide) jw_a8c98ef318 (t := (0, (-2147483648), 2147483647)) ka_14 (by decide) rfl rfl dX1_tryRedemption_47 (fun v_33 hv_33 hf_34 => ?_)
            obtain ⟨x_35, rfl, lx_35, ux_35⟩ := tt_vi hv_33
            refine jj_iload_n C dX1_tryRedemption_50 rfl ?_
            refine jj_icmp_ne (tgt := 167) C dX1_tryRedemption_51 (by decide) (fun c_36 => ?_) (fun c_36 => ?_)
            · have z_c_36 := jc_neq (a := (x_35).toInt) (b := (p2).toInt) c_36 rfl rfl
              obtain ⟨x_37, ex_37, vx_37⟩ := tt_inc (x := x_2) (n := 1) (by omega) (by omega)
              refine jj_iinc (v := x_37) C dX1_tryRedemption_167 rfl ex_37 (by decide) rfl ?_
              refine jj_goto (tgt := 9) C dX1_tryRedemption_170 (by decide) ?_
              refine jj_loc [0, 3, 4, 5, 6, 7, 8, 9] rfl ?_
              exact ihL_1 pl_18 x_37 y_3 y_4 hok_19 hfr hfa (by first | omega | decide | exact tt_lo _ | exact tt_hi _) (by first | omega | decide | exact tt_lo _ | exact tt_hi _) (by first | omega | decide | exact tt_lo _ | exact tt_hi _)
            · have z_c_36 := jc_eq (a := (x_35).toInt) (b := (p2).toInt) c_36 rfl rfl
              refine jj_iload C dX1_tryRedemption_54 rfl ?_
              refine jj_iconst (v := (-1)) C dX1_tryRedemption_56 (by decide) ?_
              refine jj_icmp_eq (tgt := 167) C dX1_tryRedemption_57 (by decide) (fun c_38 => ?_) (fun c_38 => ?_)
              · have z_c_38 := jc_eq (a := (x_26).toInt) (b := (-1)) c_38 rfl (by decide)
                exfalso; omega
              · have z_c_38 := jc_neq (a := (x_26).toInt) (b := (-1)) c_38 rfl (by decide)
                refine jj_lload C dX1_tryRedemption_60 rfl ?_
                refine jj_aload C dX1_tryRedemption_62 rfl ?_
                refine tt_get C hok_19 jk_5 3 (by decide) jw_fcb072e0d9 (t := (1, (-9223372036854775808), 9223372036854775807)) ka_14 (by decide) rfl rfl dX1_tryRedemption_64 (fun v_39 hv_39 hf_40 => ?_)
                obtain ⟨y_41, rfl, -, -⟩ := tt_vj hv_39
                refine tt_call0S (rest := []) C (ct_J9_min_f86c9_1 hl D cA ak y_3 y_41) jw_fa02caeb63 jw_a0cddbe894 jw_a731c8553d jw_e0e7ffaaeb jn_J9_min_f86c9 rfl (jj_le rfl) (jj_le rfl) (jj_le rfl) (jj_le rfl) (jj_le rfl) dX1_tryRedemption_67 rfl (fun w1 r O_42 => ?_)
                rcases O_42 with ⟨c_43, -, rfl⟩ | ⟨c_44, -, rfl⟩
                · refine jj_lstore C dX1_tryRedemption_70 (by decide) rfl ?_
                  refine jj_aload_n C dX1_tryRedemption_72 rfl ?_
                  refine jj_aload_n C dX1_tryRedemption_73 rfl ?_
                  refine jj_aload_n C dX1_tryRedemption_74 rfl ?_
                  refine tt_get C hok_19 jk_3 0 (by decide) jw_808194b586 (t := (2, 6, 0)) hk0 (by decide) rfl rfl dX1_tryRedemption_75 (fun v_45 hv_45 hf_46 => ?_)
                  obtain ⟨a_47, rfl, ka_47⟩ := tt_vr hv_45
                  refine jj_iload C dX1_tryRedemption_78 rfl ?_
                  refine tt_aald C hok_19 (t := (2, 2, 0)) ka_47 (by decide) rfl rfl rfl (vp_in_iff.mpr ⟨by omega, by omega⟩) dX1_tryRedemption_80 (fun v_48 hv_48 => ?_)
                  obtain ⟨a_49, rfl, ka_49⟩ := tt_vr hv_48
                  refine jj_aload C dX1_tryRedemption_81 rfl ?_
                  refine jj_lload C dX1_tryRedemption_83 rfl ?_
                  obtain ⟨qc, gs, hqc⟩ := tt_recv (cx := []) hok_19 hk0 (by decide) rfl
                  refine tt_callV (rest := []) C (tc_X1_quote_1 hl D cA ak h0 h1 a_49 a_14 y_41 hk0 hk1 ka_49 ka_14 hok_19) [] [] rfl rfl (by decide) (by decide) (by decide) qc hqc rfl rfl jw_1832e55719 jw_b1f9248fb6 jw_6c091437de jw_944cf9c3ab jw_9a9d59d9b6 jn_X1_quote rfl (jj_le rfl) (jj_le rfl) (jj_le rfl) (jj_le rfl) (jj_le rfl) dX1_tryRedemption_85 rfl (fun _ _ _ hX => hX.elim) (fun rx pl_50 r O_53 => ?_)
                  obtain ⟨rfl, hok_51, hr_52, hfa9, hR_55⟩ := O_53
                  replace hf_6 := hr_52.at hk1 (by decide) (by decide) hf_6
                  replace hf_11 := hr_52.at hk1 (by decide) (by decide) hf_11
                  replace hf_16 := hr_52.at ka_14 (by decide) (by decide) hf_16
                  replace hf_34 := hr_52.at ka_14 (by decide) (by decide) hf_34
                  replace hf_40 := hr_52.at ka_14 (by decide) (by decide) hf_40
                  replace hf_46 := hr_52.at hk0 (by decide) (by decide) hf_46
                  replace hfr := hfr.trans (hr_52.sub (by decide))
                  replace hfa := hfa.trans (hfa9.sub (by decide))
                  obtain rfl := hR_55
                  refine jj_aload_n C dX1_tryRedemption_88 rfl ?_
                  refine tt_getF C hok_51 jk_3 0 (by decide) jw_808194b586 (t := (2, 6, 0)) hk0 (by decide) rfl rfl hf_46 dX1_tryRedemption_89 ?_
                  refine jj_iload C dX1_tryRedemption_92 rfl ?_
                  refine tt_aald C hok_51 (t := (2, 2, 0)) ka_47 (by decide) rfl rfl rfl (vp_in_iff.mpr ⟨by omega, by omega⟩) dX1_tryRedemption_94 (fun v_58 hv_58 => ?_)
                  obtain ⟨a_59, rfl, ka_59⟩ := tt_vr hv_58
                  refine jj_dup C dX1_tryRedemption_95 rfl ?_
                  refine tt_get C hok_51 jk_9 2 (by decide) jw_a25c79ea7a (t := (1, (-9223372036854775808), 9223372036854775807)) ka_59 (by decide) rfl rfl dX1_tryRedemption_96 (fun v_60 hv_60 hf_61 => ?_)
                  obtain ⟨y_62, rfl, -, -⟩ := tt_vj hv_60
                  refine jj_aload_n C dX1_tryRedemption_99 rfl ?_
                  refine tt_get C hok_51 jk_3 1 (by decide) jw_d747bb1560 (t := (1, (-9223372036854775808), 9223372036854775807)) hk0 (by decide) rfl rfl dX1_tryRedemption_100 (fun v_63 hv_63 hf_64 => ?_)
                  obtain ⟨y_65, rfl, -, -⟩ := tt_vj hv_63
                  refine jj_aload_n C dX1_tryRedemption_103 rfl ?_
                  refine tt_get C hok_51 jk_3 2 (by decide) jw_771ad03ca8 (t := (1, (-9223372036854775808), 9223372036854775807)) hk0 (by decide) rfl rfl dX1_tryRedemption_104 (fun v_66 hv_66 hf_67 => ?_)
                  obtain ⟨y_68, rfl, -, -⟩ := tt_vj hv_66
                  obtain ⟨y_69, ey_69⟩ : ∃ z : Int64, y_65 + y_68 = z := ⟨_, rfl⟩
                  refine jj_ladd (v := y_69) C dX1_tryRedemption_107 ey_69 ?_
                  obtain ⟨y_70, ey_70⟩ : ∃ z : Int64, y_62 - y_69 = z := ⟨_, rfl⟩
                  refine jj_lsub (v := y_70) C dX1_tryRedemption_108 ey_70 ?_
                  refine rl_put C hok_51 jk_9 2 (by decide) jw_a25c79ea7a (t := (1, (-9223372036854775808), 9223372036854775807)) ka_59 (by decide) rfl rfl rfl (tt_ja y_70) rfl rfl dX1_tryRedemption_109 (fun pl_71 hok_72 tr hn tl => ?_)
                  replace hf_6 := tr _ _ _ (Or.inl (tt_ne hk1 ka_59 (by decide))) hf_6
                  replace hf_11 := tr _ _ _ (Or.inl (tt_ne hk1 ka_59 (by decide))) hf_11
                  replace hf_16 := tr _ _ _ (Or.inl (tt_ne ka_14 ka_59 (by decide))) hf_16
                  replace hf_34 := tr _ _ _ (Or.inl (tt_ne ka_14 ka_59 (by decide))) hf_34
                  replace hf_40 := tr _ _ _ (Or.inl (tt_ne ka_14 ka_59 (by decide))) hf_40
                  replace hf_46 := tr _ _ _ (Or.inl (tt_ne hk0 ka_59 (by decide))) hf_46
                  replace hf_64 := tr _ _ _ (Or.inl (tt_ne hk0 ka_59 (by decide))) hf_64
                  replace hf_67 := tr _ _ _ (Or.inl (tt_ne hk0 ka_59 (by decide))) hf_67
                  have hf_73 := hn
                  replace hfr := hfr.put ka_59 tr (by decide)
                  replace hfa := hfa.all tl
                  refine jj_aload_n C dX1_tryRedemption_112 rfl ?_
                  refine tt_getF C hok_72 jk_3 0 (by decide) jw_808194b586 (t := (2, 6, 0)) hk0 (by decide) rfl rfl hf_46 dX1_tryRedemption_113 ?_
                  refine jj_iload C dX1_tryRedemption_116 rfl ?_
                  refine tt_aald C hok_72 (t := (2, 2, 0)) ka_47 (by decide) rfl rfl rfl (vp_in_iff.mpr ⟨by omega, by omega⟩) dX1_tryRedemption_118 (fun v_74 hv_74 => ?_)
                  obtain ⟨a_75, rfl, ka_75⟩ := tt_vr hv_74
                  refine jj_dup C dX1_tryRedemption_119 rfl ?_
                  refine tt_get C hok_72 jk_9 3 (by decide) jw_df3b225d28 (t := (1, (-9223372036854775808), 9223372036854775807)) ka_75 (by decide) rfl rfl dX1_tryRedemption_120 (fun v_76 hv_76 hf_77 => ?_)
                  obtain ⟨y_78, rfl, -, -⟩ := tt_vj hv_76
                  refine jj_lload C dX1_tryRedemption_123 rfl ?_
                  obtain ⟨y_79, ey_79⟩ : ∃ z : Int64, y_78 - y_41 = z := ⟨_, rfl⟩
                  refine jj_lsub (v := y_79) C dX1_tryRedemption_125 ey_79 ?_
                  refine rl_put C hok_72 jk_9 3 (by decide) jw_df3b225d28 (t := (1, (-9223372036854775808), 9223372036854775807)) ka_75 (by decide) rfl rfl rfl (tt_ja y_79) rfl rfl dX1_tryRedemption_126 (fun pl_80 hok_81 tr hn tl => ?_)
                  replace hf_6 := tr _ _ _ (Or.inl (tt_ne hk1 ka_75 (by decide))) hf_6
                  replace hf_11 := tr _ _ _ (Or.inl (tt_ne hk1 ka_75 (by decide))) hf_11
                  replace hf_16 := tr _ _ _ (Or.inl (tt_ne ka_14 ka_75 (by decide))) hf_16
                  replace hf_34 := tr _ _ _ (Or.inl (tt_ne ka_14 ka_75 (by decide))) hf_34
                  replace hf_40 := tr _ _ _ (Or.inl (tt_ne ka_14 ka_75 (by decide))) hf_40
                  replace hf_46 := tr _ _ _ (Or.inl (tt_ne hk0 ka_75 (by decide))) hf_46
                  replace hf_64 := tr _ _ _ (Or.inl (tt_ne hk0 ka_75 (by decide))) hf_64
                  replace hf_67 := tr _ _ _ (Or.inl (tt_ne hk0 ka_75 (by decide))) hf_67
                  replace hf_73 := tr _ _ _ (Or.inr (by decide)) hf_73
                  have hf_82 := hn
                  replace hfr := hfr.put ka_75 tr (by decide)
                  replace hfa := hfa.all tl
                  refine jj_lload C dX1_tryRedemption_129 rfl ?_
                  refine jj_lload C dX1_tryRedemption_131 rfl ?_
                  obtain ⟨y_83, ey_83⟩ : ∃ z : Int64, y_3 - y_41 = z := ⟨_, rfl⟩
                  refine jj_lsub (v := y_83) C dX1_tryRedemption_133 ey_83 ?_
                  refine jj_lstore C dX1_tryRedemption_134 (by decide) rfl ?_
                  refine jj_lload C dX1_tryRedemption_136 rfl ?_
                  refine jj_iload C dX1_tryRedemption_138 rfl ?_
                  refine jj_if_eqF (tgt := 160) C dX1_tryRedemption_140 (by decide) (by decide) ?_
                  refine jj_aload_n C dX1_tryRedemption_143 rfl ?_
                  refine tt_getF C hok_81 jk_3 1 (by decide) jw_d747bb1560 (t := (1, (-9223372036854775808), 9223372036854775807)) hk0 (by decide) rfl rfl hf_64 dX1_tryRedemption_144 ?_
                  refine jj_aload_n C dX1_tryRedemption_147 rfl ?_
                  refine tt_get C hok_81 jk_3 4 (by decide) jw_21f29d6c44 (t := (1, (-9223372036854775808), 9223372036854775807)) hk0 (by decide) rfl rfl dX1_tryRedemption_148 (fun v_84 hv_84 hf_85 => ?_)
                  obtain ⟨y_86, rfl, -, -⟩ := tt_vj hv_84
                  obtain ⟨y_87, ey_87⟩ : ∃ z : Int64, y_65 + y_86 = z := ⟨_, rfl⟩
                  refine jj_ladd (v := y_87) C dX1_tryRedemption_151 ey_87 ?_
                  refine jj_aload_n C dX1_tryRedemption_152 rfl ?_
                  refine tt_get C hok_81 jk_3 5 (by decide) jw_e41f55c9ce (t := (1, (-9223372036854775808), 9223372036854775807)) hk0 (by decide) rfl rfl dX1_tryRedemption_153 (fun v_88 hv_88 hf_89 => ?_)
                  obtain ⟨y_90, rfl, -, -⟩ := tt_vj hv_88
                  obtain ⟨y_91, ey_91⟩ : ∃ z : Int64, y_87 - y_90 = z := ⟨_, rfl⟩
                  refine jj_lsub (v := y_91) C dX1_tryRedemption_156 ey_91 ?_
                  refine jj_goto (tgt := 164) C dX1_tryRedemption_157 (by decide) ?_
                  obtain ⟨y_92, ey_92⟩ : ∃ z : Int64, y_4 + y_91 = z := ⟨_, rfl⟩
                  refine jj_ladd (v := y_92) C dX1_tryRedemption_164 ey_92 ?_
                  refine jj_lstore C dX1_tryRedemption_165 (by decide) rfl ?_
                  obtain ⟨x_93, ex_93, vx_93⟩ := tt_inc (x := x_2) (n := 1) (by omega) (by omega)
                  refine jj_iinc (v := x_93) C dX1_tryRedemption_167 rfl ex_93 (by decide) rfl ?_
                  refine jj_goto (tgt := 9) C dX1_tryRedemption_170 (by decide) ?_
                  refine jj_loc [0, 2, 1, 6, 7, 8, 9, 10] rfl ?_
                  exact ihL_1 pl_80 x_93 y_83 y_92 hok_81 hfr hfa (by first | omega | decide | exact tt_lo _ | exact tt_hi _) (by first | omega | decide | exact tt_lo _ | exact tt_hi _) (by first | omega | decide | exact tt_lo _ | exact tt_hi _)
                · refine jj_lstore C dX1_tryRedemption_70 (by decide) rfl ?_
                  refine jj_aload_n C dX1_tryRedemption_72 rfl ?_
                  refine jj_aload_n C dX1_tryRedemption_73 rfl ?_
                  refine jj_aload_n C dX1_tryRedemption_74 rfl ?_
                  refine tt_get C hok_19 jk_3 0 (by decide) jw_808194b586 (t := (2, 6, 0)) hk0 (by decide) rfl rfl dX1_tryRedemption_75 (fun v_94 hv_94 hf_95 => ?_)
                  obtain ⟨a_96, rfl, ka_96⟩ := tt_vr hv_94
                  refine jj_iload C dX1_tryRedemption_78 rfl ?_
                  refine tt_aald C hok_19 (t := (2, 2, 0)) ka_96 (by decide) rfl rfl rfl (vp_in_iff.mpr ⟨by omega, by omega⟩) dX1_tryRedemption_80 (fun v_97 hv_97 => ?_)
                  obtain ⟨a_98, rfl, ka_98⟩ := tt_vr hv_97
                  refine jj_aload C dX1_tryRedemption_81 rfl ?_
                  refine jj_lload C dX1_tryRedemption_83 rfl ?_
                  obtain ⟨qc, gs, hqc⟩ := tt_recv (cx := []) hok_19 hk0 (by decide) rfl
                  refine tt_callV (rest := []) C (tc_X1_quote_1 hl D cA ak h0 h1 a_98 a_14 y_3 hk0 hk1 ka_98 ka_14 hok_19) [] [] rfl rfl (by decide) (by decide) (by decide) qc hqc rfl rfl jw_1832e55719 jw_b1f9248fb6 jw_6c091437de jw_944cf9c3ab jw_9a9d59d9b6 jn_X1_quote rfl (jj_le rfl) (jj_le rfl) (jj_le rfl) (jj_le rfl) (jj_le rfl) dX1_tryRedemption_85 rfl (fun _ _ _ hX => hX.elim) (fun rx pl_99 r O_102 => ?_)
                  obtain ⟨rfl, hok_100, hr_101, hfa9, hR_104⟩ := O_102
                  replace hf_6 := hr_101.at hk1 (by decide) (by decide) hf_6
                  replace hf_11 := hr_101.at hk1 (by decide) (by decide) hf_11
                  replace hf_16 := hr_101.at ka_14 (by decide) (by decide) hf_16
                  replace hf_34 := hr_101.at ka_14 (by decide) (by decide) hf_34
                  replace hf_40 := hr_101.at ka_14 (by decide) (by decide) hf_40
                  replace hf_95 := hr_101.at hk0 (by decide) (by decide) hf_95
                  replace hfr := hfr.trans (hr_101.sub (by decide))
                  replace hfa := hfa.trans (hfa9.sub (by decide))
                  obtain rfl := hR_104
                  refine jj_aload_n C dX1_tryRedemption_88 rfl ?_
                  refine tt_getF C hok_100 jk_3 0 (by decide) jw_808194b586 (t := (2, 6, 0)) hk0 (by decide) rfl rfl hf_95 dX1_tryRedemption_89 ?_
                  refine jj_iload C dX1_tryRedemption_92 rfl ?_
                  refine tt_aald C hok_100 (t := (2, 2, 0)) ka_96 (by decide) rfl rfl rfl (vp_in_iff.mpr ⟨by omega, by omega⟩) dX1_tryRedemption_94 (fun v_107 hv_107 => ?_)
                  obtain ⟨a_108, rfl, ka_108⟩ := tt_vr hv_107
                  refine jj_dup C dX1_tryRedemption_95 rfl ?_
                  refine tt_get C hok_100 jk_9 2 (by decide) jw_a25c79ea7a (t := (1, (-9223372036854775808), 9223372036854775807)) ka_108 (by decide) rfl rfl dX1_tryRedemption_96 (fun v_109 hv_109 hf_110 => ?_)
                  obtain ⟨y_111, rfl, -, -⟩ := tt_vj hv_109
                  refine jj_aload_n C dX1_tryRedemption_99 rfl ?_
                  refine tt_get C hok_100 jk_3 1 (by decide) jw_d747bb1560 (t := (1, (-9223372036854775808), 9223372036854775807)) hk0 (by decide) rfl rfl dX1_tryRedemption_100 (fun v_112 hv_112 hf_113 => ?_)
                  obtain ⟨y_114, rfl, -, -⟩ := tt_vj hv_112
                  refine jj_aload_n C dX1_tryRedemption_103 rfl ?_
                  refine tt_get C hok_100 jk_3 2 (by decide) jw_771ad03ca8 (t := (1, (-9223372036854775808), 9223372036854775807)) hk0 (by decide) rfl rfl dX1_tryRedemption_104 (fun v_115 hv_115 hf_116 => ?_)
                  obtain ⟨y_117, rfl, -, -⟩ := tt_vj hv_115
                  obtain ⟨y_118, ey_118⟩ : ∃ z : Int64, y_114 + y_117 = z := ⟨_, rfl⟩
                  refine jj_ladd (v := y_118) C dX1_tryRedemption_107 ey_118 ?_
                  obtain ⟨y_119, ey_119⟩ : ∃ z : Int64, y_111 - y_118 = z := ⟨_, rfl⟩
                  refine jj_lsub (v := y_119) C dX1_tryRedemption_108 ey_119 ?_
                  refine rl_put C hok_100 jk_9 2 (by decide) jw_a25c79ea7a (t := (1, (-9223372036854775808), 9223372036854775807)) ka_108 (by decide) rfl rfl rfl (tt_ja y_119) rfl rfl dX1_tryRedemption_109 (fun pl_120 hok_121 tr hn tl => ?_)
                  replace hf_6 := tr _ _ _ (Or.inl (tt_ne hk1 ka_108 (by decide))) hf_6
                  replace hf_11 := tr _ _ _ (Or.inl (tt_ne hk1 ka_108 (by decide))) hf_11
                  replace hf_16 := tr _ _ _ (Or.inl (tt_ne ka_14 ka_108 (by decide))) hf_16
                  replace hf_34 := tr _ _ _ (Or.inl (tt_ne ka_14 ka_108 (by decide))) hf_34
                  replace hf_40 := tr _ _ _ (Or.inl (tt_ne ka_14 ka_108 (by decide))) hf_40
                  replace hf_95 := tr _ _ _ (Or.inl (tt_ne hk0 ka_108 (by decide))) hf_95
                  replace hf_113 := tr _ _ _ (Or.inl (tt_ne hk0 ka_108 (by decide))) hf_113
                  replace hf_116 := tr _ _ _ (Or.inl (tt_ne hk0 ka_108 (by decide))) hf_116
                  have hf_122 := hn
                  replace hfr := hfr.put ka_108 tr (by decide)
                  replace hfa := hfa.all tl
                  refine jj_aload_n C dX1_tryRedemption_112 rfl ?_
                  refine tt_getF C hok_121 jk_3 0 (by decide) jw_808194b586 (t := (2, 6, 0)) hk0 (by decide) rfl rfl hf_95 dX1_tryRedemption_113 ?_
                  refine jj_iload C dX1_tryRedemption_116 rfl ?_
                  refine tt_aald C hok_121 (t := (2, 2, 0)) ka_96 (by decide) rfl rfl rfl (vp_in_iff.mpr ⟨by omega, by omega⟩) dX1_tryRedemption_118 (fun v_123 hv_123 => ?_)
                  obtain ⟨a_124, rfl, ka_124⟩ := tt_vr hv_123
                  refine jj_dup C dX1_tryRedemption_119 rfl ?_
                  refine tt_get C hok_121 jk_9 3 (by decide) jw_df3b225d28 (t := (1, (-9223372036854775808), 9223372036854775807)) ka_124 (by decide) rfl rfl dX1_tryRedemption_120 (fun v_125 hv_125 hf_126 => ?_)
                  obtain ⟨y_127, rfl, -, -⟩ := tt_vj hv_125
                  refine jj_lload C dX1_tryRedemption_123 rfl ?_
                  obtain ⟨y_128, ey_128⟩ : ∃ z : Int64, y_127 - y_3 = z := ⟨_, rfl⟩
                  refine jj_lsub (v := y_128) C dX1_tryRedemption_125 ey_128 ?_
                  refine rl_put C hok_121 jk_9 3 (by decide) jw_df3b225d28 (t := (1, (-9223372036854775808), 9223372036854775807)) ka_124 (by decide) rfl rfl rfl (tt_ja y_128) rfl rfl dX1_tryRedemption_126 (fun pl_129 hok_130 tr hn tl => ?_)
                  replace hf_6 := tr _ _ _ (Or.inl (tt_ne hk1 ka_124 (by decide))) hf_6
                  replace hf_11 := tr _ _ _ (Or.inl (tt_ne hk1 ka_124 (by decide))) hf_11
                  replace hf_16 := tr _ _ _ (Or.inl (tt_ne ka_14 ka_124 (by decide))) hf_16
                  replace hf_34 := tr _ _ _ (Or.inl (tt_ne ka_14 ka_124 (by decide))) hf_34
                  replace hf_40 := tr _ _ _ (Or.inl (tt_ne ka_14 ka_124 (by decide))) hf_40
                  replace hf_95 := tr _ _ _ (Or.inl (tt_ne hk0 ka_124 (by decide))) hf_95
                  replace hf_113 := tr _ _ _ (Or.inl (tt_ne hk0 ka_124 (by decide))) hf_113
                  replace hf_116 := tr _ _ _ (Or.inl (tt_ne hk0 ka_124 (by decide))) hf_116
                  replace hf_122 := tr _ _ _ (Or.inr (by decide)) hf_122
                  have hf_131 := hn
                  replace hfr := hfr.put ka_124 tr (by decide)
                  replace hfa := hfa.all tl
                  refine jj_lload C dX1_tryRedemption_129 rfl ?_
                  refine jj_lload C dX1_tryRedemption_131 rfl ?_
                  obtain ⟨y_132, ey_132⟩ : ∃ z : Int64, y_3 - y_3 = z := ⟨_, rfl⟩
                  refine jj_lsub (v := y_132) C dX1_tryRedemption_133 ey_132 ?_
                  refine jj_lstore C dX1_tryRedemption_134 (by decide) rfl ?_
                  refine jj_lload C dX1_tryRedemption_136 rfl ?_
                  refine jj_iload C dX1_tryRedemption_138 rfl ?_
                  refine jj_if_eqF (tgt := 160) C dX1_tryRedemption_140 (by decide) (by decide) ?_
                  refine jj_aload_n C dX1_tryRedemption_143 rfl ?_
                  refine tt_getF C hok_130 jk_3 1 (by decide) jw_d747bb1560 (t := (1, (-9223372036854775808), 9223372036854775807)) hk0 (by decide) rfl rfl hf_113 dX1_tryRedemption_144 ?_
                  refine jj_aload_n C dX1_tryRedemption_147 rfl ?_
                  refine tt_get C hok_130 jk_3 4 (by decide) jw_21f29d6c44 (t := (1, (-9223372036854775808), 9223372036854775807)) hk0 (by decide) rfl rfl dX1_tryRedemption_148 (fun v_133 hv_133 hf_134 => ?_)
                  obtain ⟨y_135, rfl, -, -⟩ := tt_vj hv_133
                  obtain ⟨y_136, ey_136⟩ : ∃ z : Int64, y_114 + y_135 = z := ⟨_, rfl⟩
                  refine jj_ladd (v := y_136) C dX1_tryRedemption_151 ey_136 ?_
                  refine jj_aload_n C dX1_tryRedemption_152 rfl ?_
                  refine tt_get C hok_130 jk_3 5 (by decide) jw_e41f55c9ce (t := (1, (-9223372036854775808), 9223372036854775807)) hk0 (by decide) rfl rfl dX1_tryRedemption_153 (fun v_137 hv_137 hf_138 => ?_)
                  obtain ⟨y_139, rfl, -, -⟩ := tt_vj hv_137
                  obtain ⟨y_140, ey_140⟩ : ∃ z : Int64, y_136 - y_139 = z := ⟨_, rfl⟩
                  refine jj_lsub (v := y_140) C dX1_tryRedemption_156 ey_140 ?_
                  refine jj_goto (tgt := 164) C dX1_tryRedemption_157 (by decide) ?_
                  obtain ⟨y_141, ey_141⟩ : ∃ z : Int64, y_4 + y_140 = z := ⟨_, rfl⟩
                  refine jj_ladd (v := y_141) C dX1_tryRedemption_164 ey_141 ?_
                  refine jj_lstore C dX1_tryRedemption_165 (by decide) rfl ?_
                  obtain ⟨x_142, ex_142, vx_142⟩ := tt_inc (x := x_2) (n := 1) (by omega) (by omega)
                  refine jj_iinc (v := x_142) C dX1_tryRedemption_167 rfl ex_142 (by decide) rfl ?_
                  refine jj_goto (tgt := 9) C dX1_tryRedemption_170 (by decide) ?_
                  refine jj_loc [0, 2, 1, 6, 7, 8, 9, 10] rfl ?_
                  exact ihL_1 pl_129 x_142 y_132 y_141 hok_130 hfr hfa (by first | omega | decide | exact tt_lo _ | exact tt_hi _) (by first | omega | decide | exact tt_lo _ | exact tt_hi _) (by first | omega | decide | exact tt_lo _ | exact tt_hi _)
  exact hL_1 _ pl0 (0 : Int32) (9223372036854775807 : Int64) (0 : Int64) trivial hok hfr hfa (by first | omega | decide | exact tt_lo _ | exact tt_hi _) (by first | omega | decide | exact tt_lo _ | exact tt_hi _) (Int.self_le_toNat _)

set_option maxHeartbeats 4000000 in
set_option maxRecDepth 100000 in
theorem tc_X1_payAfterRate_6 {l : Launch} (hl : l.stackTraces = false) (D : va_G) (cA : Nat → ClassId) (ak : (Nat → Nat) × (Nat → Nat)) {Kd : Nat → Nat} (h0 : Nat) (h1 : Nat) (p2 : Int32) (hk0 : Kd h0 = 9) (hk1 : Kd h1 = 1) (lp2 : (0 : Int) ≤ p2.toInt) (up2 : p2.toInt ≤ 9) {pl0 : va_W} (hok : tt_ok tt_tk cA Kd pl0) : jj_M l D cA ak yX1_payAfterRate (.code yX1_payAfterRate cX1_payAfterRate 4 (some .long)) 3 88 0 0 ([] ++ pl0) [.ref h0, .ref h1, .int p2, .int 0] (tt_O (fun rx pl1 r => rx = [] ∧ tt_ok tt_tk cA Kd pl1 ∧ tt_fr Kd [(2, 0), (2, 1), (2, 2), (2, 3), (2, 4), (9, 1), (9, 2), (9, 3), (9, 4), (9, 5)] pl0 pl1 ∧ tt_fa Kd [] pl0 pl1 ∧ ((∃ v : Int64, r = some (.long v))))) (tt_OX (fun _ _ _ => False)) := by
  refine jj_start hl (by decide) jw_8658218399 (jj_le rfl) ?_
  intro p e s m args below meth c A hargs hA C hex hmn
  have hfr := tt_fr.refl (K := Kd) (WS := [(2, 0), (2, 1), (2, 2), (2, 3), (2, 4), (9, 1), (9, 2), (9, 3), (9, 4), (9, 5)]) pl0
  have hfa := tt_fa.refl (K := Kd) (WA := []) pl0
  refine jj_aload_n C dX1_payAfterRate_0 rfl ?_
  refine jj_aload_n C dX1_payAfterRate_1 rfl ?_
  refine jj_iload_n C dX1_payAfterRate_2 rfl ?_
  obtain ⟨qc, gs, hqc⟩ := tt_recv (cx := []) hok hk0 (by decide) rfl
  refine tt_callV (rest := []) C (tc_X1_resetTrial_1 hl D cA ak h0 h1 hk0 hk1 hok) [] [] rfl rfl (by decide) (by decide) (by decide) qc hqc rfl rfl jw_e4af616004 jw_bacc1607b6 jw_d2d28ff2fc jw_944cf9c3ab jw_94abfb5ed9 jn_X1_resetTrial rfl (jj_le rfl) (jj_le rfl) (jj_le rfl) (jj_le rfl) (jj_le rfl) dX1_payAfterRate_3 rfl (fun _ _ _ hX => hX.elim) (fun rx pl_1 r O_4 => ?_)
  obtain ⟨rfl, hok_2, hr_3, hfa9, hR_6⟩ := O_4
  replace hfr := hfr.trans (hr_3.sub (by decide))
  replace hfa := hfa.trans (hfa9.sub (by decide))
  obtain rfl := hR_6
  refine jj_aload_n C dX1_payAfterRate_6 rfl ?_
  refine jj_aload_n C dX1_payAfterRate_7 rfl ?_
  refine jj_iload_n C dX1_payAfterRate_8 rfl ?_
  refine jj_ldc2 (v := 9223372036854775807) C dX1_payAfterRate_9 jw_0ae03504c0 ?_
  refine jj_iconst (v := 1) C dX1_payAfterRate_12 (by decide) ?_
  obtain ⟨qc, gs, hqc⟩ := tt_recv (cx := []) hok_2 hk0 (by decide) rfl
  refine tt_callV (rest := []) C (tc_X1_tryRedemption_7 hl D cA ak h0 h1 p2 hk0 hk1 (by omega) (by omega) hok_2) [] [] rfl rfl (by decide) (by decide) (by decide) qc hqc rfl rfl jw_484ec097f9 jw_eb03746c8c jw_a203910c50 jw_944cf9c3ab jw_a452736dc6 jn_X1_tryRedemption rfl (jj_le rfl) (jj_le rfl) (jj_le rfl) (jj_le rfl) (jj_le rfl) dX1_payAfterRate_13 rfl (fun _ _ _ hX => hX.elim) (fun rx pl_9 r O_12 => ?_)
  obtain ⟨rfl, hok_10, hr_11, hfa9, hR_14⟩ := O_12
  replace hfr := hfr.trans (hr_11.sub (by decide))
  replace hfa := hfa.trans (hfa9.sub (by decide))
  obtain ⟨y_17, rfl⟩ := hR_14
  exact jj_lret C ⟨[], pl_9, rfl, rfl, hok_10, hfr, hfa, ⟨y_17, rfl⟩⟩ dX1_payAfterRate_16 (jj_le rfl) (jj_le rfl)

set_option maxHeartbeats 4000000 in
set_option maxRecDepth 100000 in
theorem tc_X1_tryRedemption_8 {l : Launch} (hl : l.stackTraces = false) (D : va_G) (cA : Nat → ClassId) (ak : (Nat → Nat) × (Nat → Nat)) {Kd : Nat → Nat} (h0 : Nat) (h1 : Nat) (p2 : Int32) (hk0 : Kd h0 = 9) (hk1 : Kd h1 = 1) (lp2 : (0 : Int) ≤ p2.toInt) (up2 : p2.toInt ≤ 10) {pl0 : va_W} (hok : tt_ok tt_tk cA Kd pl0) : jj_M l D cA ak yX1_tryRedemption (.code yX1_tryRedemption cX1_tryRedemption 15 (some .long)) 2 54 0 0 ([] ++ pl0) [.ref h0, .ref h1, .int p2, .long 9223372036854775807, .int 1] (tt_O (fun rx pl1 r => rx = [] ∧ tt_ok tt_tk cA Kd pl1 ∧ tt_fr Kd [(2, 2), (2, 3), (9, 1), (9, 2), (9, 3), (9, 4), (9, 5)] pl0 pl1 ∧ tt_fa Kd [] pl0 pl1 ∧ ((∃ v : Int64, r = some (.long v))))) (tt_OX (fun _ _ _ => False)) := by
  refine jj_start hl (by decide) jw_a452736dc6 (jj_le rfl) ?_
  intro p e s m args below meth c A hargs hA C hex hmn
  have hfr := tt_fr.refl (K := Kd) (WS := [(2, 2), (2, 3), (9, 1), (9, 2), (9, 3), (9, 4), (9, 5)]) pl0
  have hfa := tt_fa.refl (K := Kd) (WA := []) pl0
  refine jj_lconst (v := 0) C dX1_tryRedemption_0 (by decide) ?_
  refine jj_lstore C dX1_tryRedemption_1 (by decide) rfl ?_
  refine jj_lload_n C dX1_tryRedemption_3 rfl ?_
  refine jj_lstore C dX1_tryRedemption_4 (by decide) rfl ?_
  refine jj_iconst (v := 0) C dX1_tryRedemption_6 (by decide) ?_
  refine jj_istore C dX1_tryRedemption_7 (by decide) rfl ?_
  have hL_1 : ∀ (N : Nat) (pl : va_W) (x_2 : Int32) (y_3 : Int64) (y_4 : Int64), True → tt_ok tt_tk cA Kd pl → tt_fr Kd [(2, 2), (2, 3), (9, 1), (9, 2), (9, 3), (9, 4), (9, 5)] pl0 pl → tt_fa Kd [] pl0 pl → (0 : Int) ≤ x_2.toInt → x_2.toInt ≤ 40 → (2147483648 - x_2.toInt ≤ (N : Int)) → jj_J p l e (jj_rm 2 54 0 0) s m args below meth c 15 A (vx_MQ below (jj_q D A (tt_O (fun rx pl1 r => rx = [] ∧ tt_ok tt_tk cA Kd pl1 ∧ tt_fr Kd [(2, 2), (2, 3), (9, 1), (9, 2), (9, 3), (9, 4), (9, 5)] pl0 pl1 ∧ tt_fa Kd [] pl0 pl1 ∧ ((∃ v : Int64, r = some (.long v)))))) (jj_x D A (tt_OX (fun _ _ _ => False))) args s 0 0 A) (jj_X D A ([] ++ pl)) 0 0 9 [(10, .int x_2), (8, .long y_3), (6, .long y_4), (0, .ref h0), (1, .ref h1), (2, .int p2), (3, .long 9223372036854775807), (5, .int 1)] [] := by
    intro NL_1
    induction NL_1 with
    | zero => intro pl x_2 y_3 y_4 _ hok hfr hfa lx_2 ux_2 hNL_1; exfalso; omega
    | succ NL_1 ihL_1 =>
      intro pl x_2 y_3 y_4 _ hok hfr hfa lx_2 ux_2 hNL_1
      replace ihL_1 := fun pl x_2 y_3 y_4 h1 => ihL_1 pl x_2 y_3 y_4 trivial h1
      refine jj_iload C dX1_tryRedemption_9 rfl ?_
      refine jj_aload_n C dX1_tryRedemption_11 rfl ?_
      refine tt_get C hok jk_2 8 (by decide) jw_eaf43346a8 (t := (0, 0, 40)) hk1 (by decide) rfl rfl dX1_tryRedemption_12 (fun v_5 hv_5 hf_6 => ?_)
      obtain ⟨x_7, rfl, lx_7, ux_7⟩ := tt_vi hv_5
      refine jj_icmp_ge (tgt := 173) C dX1_tryRedemption_15 (by decide) (fun c_8 => ?_) (fun c_8 => ?_)
      · have z_c_8 := jc_le (a := (x_7).toInt) (b := (x_2).toInt) c_8 rfl rfl
        refine jj_lload C dX1_tryRedemption_173 rfl ?_
        exact jj_lret C ⟨[], pl, rfl, rfl, hok, hfr, hfa, ⟨y_4, rfl⟩⟩ dX1_tryRedemption_175 (jj_le rfl) (jj_le rfl)
      · have z_c_8 := jc_nle (a := (x_7).toInt) (b := (x_2).toInt) c_8 rfl rfl
        refine jj_lload C dX1_tryRedemption_18 rfl ?_
        refine jj_lconst (v := 0) C dX1_tryRedemption_20 (by decide) ?_
        refine jj_lcmp_le (tgt := 173) C dX1_tryRedemption_21 dX1_tryRedemption_22 (by decide) (fun c_9 => ?_) (fun c_9 => ?_)
        · refine jj_lload C dX1_tryRedemption_173 rfl ?_
          exact jj_lret C ⟨[], pl, rfl, rfl, hok, hfr, hfa, ⟨y_4, rfl⟩⟩ dX1_tryRedemption_175 (jj_le rfl) (jj_le rfl)
        · refine jj_aload_n C dX1_tryRedemption_25 rfl ?_
          refine tt_get C hok jk_2 12 (by decide) jw_41d1bd2a61 (t := (2, 7, 0)) hk1 (by decide) rfl rfl dX1_tryRedemption_26 (fun v_10 hv_10 hf_11 => ?_)
          obtain ⟨a_12, rfl, ka_12⟩ := tt_vr hv_10
          refine jj_iload C dX1_tryRedemption_29 rfl ?_
          refine tt_aald C hok (t := (2, 3, 0)) ka_12 (by decide) rfl rfl rfl (vp_in_iff.mpr ⟨by omega, by omega⟩) dX1_tryRedemption_31 (fun v_13 hv_13 => ?_)
          obtain ⟨a_14, rfl, ka_14⟩ := tt_vr hv_13
          refine jj_astore C dX1_tryRedemption_32 (by decide) rfl ?_
          refine jj_aload_n C dX1_tryRedemption_34 rfl ?_
          refine jj_aload C dX1_tryRedemption_35 rfl ?_
          refine tt_get C hok jk_5 1 (by decide) jw_85587ec127 (t := (0, (-2147483648), 2147483647)) ka_14 (by decide) rfl rfl dX1_tryRedemption_37 (fun v_15 hv_15 hf_16 => ?_)
          obtain ⟨x_17, rfl, lx_17, ux_17⟩ := tt_vi hv_15
          obtain ⟨qc, gs, hqc⟩ := tt_recv (cx := []) hok hk1 (by decide) rfl
          refine tt_callV (rest := []) C (tc_X0_placeOfSeries_1 hl D cA ak h1 x_17 hk1 hok) [] [] rfl rfl (by decide) (by decide) (by decide) qc hqc rfl rfl jw_bb838ff949 jw_0061c834c4 jw_a3c4f03cad jw_7d25d4fd32 jw_3fe68be2d3 jn_X0_placeOfSeries rfl (jj_le rfl) (jj_le rfl) (jj_le rfl) (jj_le rfl) (jj_le rfl) dX1_tryRedemption_40 rfl (fun _ _ _ hX => hX.elim) (fun rx pl_18 r O_21 => ?_)
          obtain ⟨rfl, hok_19, hr_20, hfa9, hR_23⟩ := O_21
          replace hf_6 := hr_20.at hk1 (by decide) (by decide) hf_6
          replace hf_11 := hr_20.at hk1 (by decide) (by decide) hf_11
          replace hf_16 := hr_20.at ka_14 (by decide) (by decide) hf_16
          replace hfr := hfr.trans (hr_20.sub (by decide))
          replace hfa := hfa.trans (hfa9.sub (by decide))
          rcases hR_23 with rfl | ⟨x_26, lx_26, ux_26, rfl⟩
          · refine jj_istore C dX1_tryRedemption_43 (by decide) rfl ?_
            refine jj_aload C dX1_tryRedemption_45 rfl ?_
            refine tt_get C hok_19 jk_5 0 (by decide) jw_a8c98ef318 (t := (0, (-2147483648), 2147483647)) ka_14 (by decide) rfl rfl dX1_tryRedemption_47 (fun v_27 hv_27 hf_28 => ?_)
            obtain ⟨x_29, rfl, lx_29, ux_29⟩ := tt_vi hv_27
            refine jj_iload_n C dX1_tryRedemption_50 rfl ?_
            refine jj_icmp_ne (tgt := 167) C dX1_tryRedemption_51 (by decide) (fun c_30 => ?_) (fun c_30 => ?_)
            · have z_c_30 := jc_neq (a := (x_29).toInt) (b := (p2).toInt) c_30 rfl rfl
              obtain ⟨x_31, ex_31, vx_31⟩ := tt_inc (x := x_2) (n := 1) (by omega) (by omega)
              refine jj_iinc (v := x_31) C dX1_tryRedemption_167 rfl ex_31 (by decide) rfl ?_
              refine jj_goto (tgt := 9) C dX1_tryRedemption_170 (by decide) ?_
              refine jj_loc [0, 3, 4, 5, 6, 7, 8, 9] rfl ?_
              exact ihL_1 pl_18 x_31 y_3 y_4 hok_19 hfr hfa (by first | omega | decide | exact tt_lo _ | exact tt_hi _) (by first | omega | decide | exact tt_lo _ | exact tt_hi _) (by first | omega | decide | exact tt_lo _ | exact tt_hi _)
            · have z_c_30 := jc_eq (a := (x_29).toInt) (b := (p2).toInt) c_30 rfl rfl
              refine jj_iload C dX1_tryRedemption_54 rfl ?_
              refine jj_iconst (v := (-1)) C dX1_tryRedemption_56 (by decide) ?_
              refine jj_icmp_eqT (tgt := 167) C dX1_tryRedemption_57 (by decide) (by decide) ?_
              obtain ⟨x_32, ex_32, vx_32⟩ := tt_inc (x := x_2) (n := 1) (by omega) (by omega)
              refine jj_iinc (v := x_32) C dX1_tryRedemption_167 rfl ex_32 (by decide) rfl ?_
              refine jj_goto (tgt := 9) C dX1_tryRedemption_170 (by decide) ?_
              refine jj_loc [0, 3, 4, 5, 6, 7, 8, 9] rfl ?_
              exact ihL_1 pl_18 x_32 y_3 y_4 hok_19 hfr hfa (by first | omega | decide | exact tt_lo _ | exact tt_hi _) (by first | omega | decide | exact tt_lo _ | exact tt_hi _) (by first | omega | decide | exact tt_lo _ | exact tt_hi _)
          · refine jj_istore C dX1_tryRedemption_43 (by decide) rfl ?_
            refine jj_aload C dX1_tryRedemption_45 rfl ?_
            refine tt_get C hok_19 jk_5 0 (by decide) jw_a8c98ef318 (t := (0, (-2147483648), 2147483647)) ka_14 (by decide) rfl rfl dX1_tryRedemption_47 (fun v_33 hv_33 hf_34 => ?_)
            obtain ⟨x_35, rfl, lx_35, ux_35⟩ := tt_vi hv_33
            refine jj_iload_n C dX1_tryRedemption_50 rfl ?_
            refine jj_icmp_ne (tgt := 167) C dX1_tryRedemption_51 (by decide) (fun c_36 => ?_) (fun c_36 => ?_)
            · have z_c_36 := jc_neq (a := (x_35).toInt) (b := (p2).toInt) c_36 rfl rfl
              obtain ⟨x_37, ex_37, vx_37⟩ := tt_inc (x := x_2) (n := 1) (by omega) (by omega)
              refine jj_iinc (v := x_37) C dX1_tryRedemption_167 rfl ex_37 (by decide) rfl ?_
              refine jj_goto (tgt := 9) C dX1_tryRedemption_170 (by decide) ?_
              refine jj_loc [0, 3, 4, 5, 6, 7, 8, 9] rfl ?_
              exact ihL_1 pl_18 x_37 y_3 y_4 hok_19 hfr hfa (by first | omega | decide | exact tt_lo _ | exact tt_hi _) (by first | omega | decide | exact tt_lo _ | exact tt_hi _) (by first | omega | decide | exact tt_lo _ | exact tt_hi _)
            · have z_c_36 := jc_eq (a := (x_35).toInt) (b := (p2).toInt) c_36 rfl rfl
              refine jj_iload C dX1_tryRedemption_54 rfl ?_
              refine jj_iconst (v := (-1)) C dX1_tryRedemption_56 (by decide) ?_
              refine jj_icmp_eq (tgt := 167) C dX1_tryRedemption_57 (by decide) (fun c_38 => ?_) (fun c_38 => ?_)
              · have z_c_38 := jc_eq (a := (x_26).toInt) (b := (-1)) c_38 rfl (by decide)
                exfalso; omega
              · have z_c_38 := jc_neq (a := (x_26).toInt) (b := (-1)) c_38 rfl (by decide)
                refine jj_lload C dX1_tryRedemption_60 rfl ?_
                refine jj_aload C dX1_tryRedemption_62 rfl ?_
                refine tt_get C hok_19 jk_5 3 (by decide) jw_fcb072e0d9 (t := (1, (-9223372036854775808), 9223372036854775807)) ka_14 (by decide) rfl rfl dX1_tryRedemption_64 (fun v_39 hv_39 hf_40 => ?_)
                obtain ⟨y_41, rfl, -, -⟩ := tt_vj hv_39
                refine tt_call0S (rest := []) C (ct_J9_min_f86c9_1 hl D cA ak y_3 y_41) jw_fa02caeb63 jw_a0cddbe894 jw_a731c8553d jw_e0e7ffaaeb jn_J9_min_f86c9 rfl (jj_le rfl) (jj_le rfl) (jj_le rfl) (jj_le rfl) (jj_le rfl) dX1_tryRedemption_67 rfl (fun w1 r O_42 => ?_)
                rcases O_42 with ⟨c_43, -, rfl⟩ | ⟨c_44, -, rfl⟩
                · refine jj_lstore C dX1_tryRedemption_70 (by decide) rfl ?_
                  refine jj_aload_n C dX1_tryRedemption_72 rfl ?_
                  refine jj_aload_n C dX1_tryRedemption_73 rfl ?_
                  refine jj_aload_n C dX1_tryRedemption_74 rfl ?_
                  refine tt_get C hok_19 jk_3 0 (by decide) jw_808194b586 (t := (2, 6, 0)) hk0 (by decide) rfl rfl dX1_tryRedemption_75 (fun v_45 hv_45 hf_46 => ?_)
                  obtain ⟨a_47, rfl, ka_47⟩ := tt_vr hv_45
                  refine jj_iload C dX1_tryRedemption_78 rfl ?_
                  refine tt_aald C hok_19 (t := (2, 2, 0)) ka_47 (by decide) rfl rfl rfl (vp_in_iff.mpr ⟨by omega, by omega⟩) dX1_tryRedemption_80 (fun v_48 hv_48 => ?_)
                  obtain ⟨a_49, rfl, ka_49⟩ := tt_vr hv_48
                  refine jj_aload C dX1_tryRedemption_81 rfl ?_
                  refine jj_lload C dX1_tryRedemption_83 rfl ?_
                  obtain ⟨qc, gs, hqc⟩ := tt_recv (cx := []) hok_19 hk0 (by decide) rfl
                  refine tt_callV (rest := []) C (tc_X1_quote_1 hl D cA ak h0 h1 a_49 a_14 y_41 hk0 hk1 ka_49 ka_14 hok_19) [] [] rfl rfl (by decide) (by decide) (by decide) qc hqc rfl rfl jw_1832e55719 jw_b1f9248fb6 jw_6c091437de jw_944cf9c3ab jw_9a9d59d9b6 jn_X1_quote rfl (jj_le rfl) (jj_le rfl) (jj_le rfl) (jj_le rfl) (jj_le rfl) dX1_tryRedemption_85 rfl (fun _ _ _ hX => hX.elim) (fun rx pl_50 r O_53 => ?_)
                  obtain ⟨rfl, hok_51, hr_52, hfa9, hR_55⟩ := O_53
                  replace hf_6 := hr_52.at hk1 (by decide) (by decide) hf_6
                  replace hf_11 := hr_52.at hk1 (by decide) (by decide) hf_11
                  replace hf_16 := hr_52.at ka_14 (by decide) (by decide) hf_16
                  replace hf_34 := hr_52.at ka_14 (by decide) (by decide) hf_34
                  replace hf_40 := hr_52.at ka_14 (by decide) (by decide) hf_40
                  replace hf_46 := hr_52.at hk0 (by decide) (by decide) hf_46
                  replace hfr := hfr.trans (hr_52.sub (by decide))
                  replace hfa := hfa.trans (hfa9.sub (by decide))
                  obtain rfl := hR_55
                  refine jj_aload_n C dX1_tryRedemption_88 rfl ?_
                  refine tt_getF C hok_51 jk_3 0 (by decide) jw_808194b586 (t := (2, 6, 0)) hk0 (by decide) rfl rfl hf_46 dX1_tryRedemption_89 ?_
                  refine jj_iload C dX1_tryRedemption_92 rfl ?_
                  refine tt_aald C hok_51 (t := (2, 2, 0)) ka_47 (by decide) rfl rfl rfl (vp_in_iff.mpr ⟨by omega, by omega⟩) dX1_tryRedemption_94 (fun v_58 hv_58 => ?_)
                  obtain ⟨a_59, rfl, ka_59⟩ := tt_vr hv_58
                  refine jj_dup C dX1_tryRedemption_95 rfl ?_
                  refine tt_get C hok_51 jk_9 2 (by decide) jw_a25c79ea7a (t := (1, (-9223372036854775808), 9223372036854775807)) ka_59 (by decide) rfl rfl dX1_tryRedemption_96 (fun v_60 hv_60 hf_61 => ?_)
                  obtain ⟨y_62, rfl, -, -⟩ := tt_vj hv_60
                  refine jj_aload_n C dX1_tryRedemption_99 rfl ?_
                  refine tt_get C hok_51 jk_3 1 (by decide) jw_d747bb1560 (t := (1, (-9223372036854775808), 9223372036854775807)) hk0 (by decide) rfl rfl dX1_tryRedemption_100 (fun v_63 hv_63 hf_64 => ?_)
                  obtain ⟨y_65, rfl, -, -⟩ := tt_vj hv_63
                  refine jj_aload_n C dX1_tryRedemption_103 rfl ?_
                  refine tt_get C hok_51 jk_3 2 (by decide) jw_771ad03ca8 (t := (1, (-9223372036854775808), 9223372036854775807)) hk0 (by decide) rfl rfl dX1_tryRedemption_104 (fun v_66 hv_66 hf_67 => ?_)
                  obtain ⟨y_68, rfl, -, -⟩ := tt_vj hv_66
                  obtain ⟨y_69, ey_69⟩ : ∃ z : Int64, y_65 + y_68 = z := ⟨_, rfl⟩
                  refine jj_ladd (v := y_69) C dX1_tryRedemption_107 ey_69 ?_
                  obtain ⟨y_70, ey_70⟩ : ∃ z : Int64, y_62 - y_69 = z := ⟨_, rfl⟩
                  refine jj_lsub (v := y_70) C dX1_tryRedemption_108 ey_70 ?_
                  refine rl_put C hok_51 jk_9 2 (by decide) jw_a25c79ea7a (t := (1, (-9223372036854775808), 9223372036854775807)) ka_59 (by decide) rfl rfl rfl (tt_ja y_70) rfl rfl dX1_tryRedemption_109 (fun pl_71 hok_72 tr hn tl => ?_)
                  replace hf_6 := tr _ _ _ (Or.inl (tt_ne hk1 ka_59 (by decide))) hf_6
                  replace hf_11 := tr _ _ _ (Or.inl (tt_ne hk1 ka_59 (by decide))) hf_11
                  replace hf_16 := tr _ _ _ (Or.inl (tt_ne ka_14 ka_59 (by decide))) hf_16
                  replace hf_34 := tr _ _ _ (Or.inl (tt_ne ka_14 ka_59 (by decide))) hf_34
                  replace hf_40 := tr _ _ _ (Or.inl (tt_ne ka_14 ka_59 (by decide))) hf_40
                  replace hf_46 := tr _ _ _ (Or.inl (tt_ne hk0 ka_59 (by decide))) hf_46
                  replace hf_64 := tr _ _ _ (Or.inl (tt_ne hk0 ka_59 (by decide))) hf_64
                  replace hf_67 := tr _ _ _ (Or.inl (tt_ne hk0 ka_59 (by decide))) hf_67
                  have hf_73 := hn
                  replace hfr := hfr.put ka_59 tr (by decide)
                  replace hfa := hfa.all tl
                  refine jj_aload_n C dX1_tryRedemption_112 rfl ?_
                  refine tt_getF C hok_72 jk_3 0 (by decide) jw_808194b586 (t := (2, 6, 0)) hk0 (by decide) rfl rfl hf_46 dX1_tryRedemption_113 ?_
                  refine jj_iload C dX1_tryRedemption_116 rfl ?_
                  refine tt_aald C hok_72 (t := (2, 2, 0)) ka_47 (by decide) rfl rfl rfl (vp_in_iff.mpr ⟨by omega, by omega⟩) dX1_tryRedemption_118 (fun v_74 hv_74 => ?_)
                  obtain ⟨a_75, rfl, ka_75⟩ := tt_vr hv_74
                  refine jj_dup C dX1_tryRedemption_119 rfl ?_
                  refine tt_get C hok_72 jk_9 3 (by decide) jw_df3b225d28 (t := (1, (-9223372036854775808), 9223372036854775807)) ka_75 (by decide) rfl rfl dX1_tryRedemption_120 (fun v_76 hv_76 hf_77 => ?_)
                  obtain ⟨y_78, rfl, -, -⟩ := tt_vj hv_76
                  refine jj_lload C dX1_tryRedemption_123 rfl ?_
                  obtain ⟨y_79, ey_79⟩ : ∃ z : Int64, y_78 - y_41 = z := ⟨_, rfl⟩
                  refine jj_lsub (v := y_79) C dX1_tryRedemption_125 ey_79 ?_
                  refine rl_put C hok_72 jk_9 3 (by decide) jw_df3b225d28 (t := (1, (-9223372036854775808), 9223372036854775807)) ka_75 (by decide) rfl rfl rfl (tt_ja y_79) rfl rfl dX1_tryRedemption_126 (fun pl_80 hok_81 tr hn tl => ?_)
                  replace hf_6 := tr _ _ _ (Or.inl (tt_ne hk1 ka_75 (by decide))) hf_6
                  replace hf_11 := tr _ _ _ (Or.inl (tt_ne hk1 ka_75 (by decide))) hf_11
                  replace hf_16 := tr _ _ _ (Or.inl (tt_ne ka_14 ka_75 (by decide))) hf_16
                  replace hf_34 := tr _ _ _ (Or.inl (tt_ne ka_14 ka_75 (by decide))) hf_34
                  replace hf_40 := tr _ _ _ (Or.inl (tt_ne ka_14 ka_75 (by decide))) hf_40
                  replace hf_46 := tr _ _ _ (Or.inl (tt_ne hk0 ka_75 (by decide))) hf_46
                  replace hf_64 := tr _ _ _ (Or.inl (tt_ne hk0 ka_75 (by decide))) hf_64
                  replace hf_67 := tr _ _ _ (Or.inl (tt_ne hk0 ka_75 (by decide))) hf_67
                  replace hf_73 := tr _ _ _ (Or.inr (by decide)) hf_73
                  have hf_82 := hn
                  replace hfr := hfr.put ka_75 tr (by decide)
                  replace hfa := hfa.all tl
                  refine jj_lload C dX1_tryRedemption_129 rfl ?_
                  refine jj_lload C dX1_tryRedemption_131 rfl ?_
                  obtain ⟨y_83, ey_83⟩ : ∃ z : Int64, y_3 - y_41 = z := ⟨_, rfl⟩
                  refine jj_lsub (v := y_83) C dX1_tryRedemption_133 ey_83 ?_
                  refine jj_lstore C dX1_tryRedemption_134 (by decide) rfl ?_
                  refine jj_lload C dX1_tryRedemption_136 rfl ?_
                  refine jj_iload C dX1_tryRedemption_138 rfl ?_
                  refine jj_if_eqF (tgt := 160) C dX1_tryRedemption_140 (by decide) (by decide) ?_
                  refine jj_aload_n C dX1_tryRedemption_143 rfl ?_
                  refine tt_getF C hok_81 jk_3 1 (by decide) jw_d747bb1560 (t := (1, (-9223372036854775808), 9223372036854775807)) hk0 (by decide) rfl rfl hf_64 dX1_tryRedemption_144 ?_
                  refine jj_aload_n C dX1_tryRedemption_147 rfl ?_
                  refine tt_get C hok_81 jk_3 4 (by decide) jw_21f29d6c44 (t := (1, (-9223372036854775808), 9223372036854775807)) hk0 (by decide) rfl rfl dX1_tryRedemption_148 (fun v_84 hv_84 hf_85 => ?_)
                  obtain ⟨y_86, rfl, -, -⟩ := tt_vj hv_84
                  obtain ⟨y_87, ey_87⟩ : ∃ z : Int64, y_65 + y_86 = z := ⟨_, rfl⟩
                  refine jj_ladd (v := y_87) C dX1_tryRedemption_151 ey_87 ?_
                  refine jj_aload_n C dX1_tryRedemption_152 rfl ?_
                  refine tt_get C hok_81 jk_3 5 (by decide) jw_e41f55c9ce (t := (1, (-9223372036854775808), 9223372036854775807)) hk0 (by decide) rfl rfl dX1_tryRedemption_153 (fun v_88 hv_88 hf_89 => ?_)
                  obtain ⟨y_90, rfl, -, -⟩ := tt_vj hv_88
                  obtain ⟨y_91, ey_91⟩ : ∃ z : Int64, y_87 - y_90 = z := ⟨_, rfl⟩
                  refine jj_lsub (v := y_91) C dX1_tryRedemption_156 ey_91 ?_
                  refine jj_goto (tgt := 164) C dX1_tryRedemption_157 (by decide) ?_
                  obtain ⟨y_92, ey_92⟩ : ∃ z : Int64, y_4 + y_91 = z := ⟨_, rfl⟩
                  refine jj_ladd (v := y_92) C dX1_tryRedemption_164 ey_92 ?_
                  refine jj_lstore C dX1_tryRedemption_165 (by decide) rfl ?_
                  obtain ⟨x_93, ex_93, vx_93⟩ := tt_inc (x := x_2) (n := 1) (by omega) (by omega)
                  refine jj_iinc (v := x_93) C dX1_tryRedemption_167 rfl ex_93 (by decide) rfl ?_
                  refine jj_goto (tgt := 9) C dX1_tryRedemption_170 (by decide) ?_
                  refine jj_loc [0, 2, 1, 6, 7, 8, 9, 10] rfl ?_
                  exact ihL_1 pl_80 x_93 y_83 y_92 hok_81 hfr hfa (by first | omega | decide | exact tt_lo _ | exact tt_hi _) (by first | omega | decide | exact tt_lo _ | exact tt_hi _) (by first | omega | decide | exact tt_lo _ | exact tt_hi _)
                · refine jj_lstore C dX1_tryRedemption_70 (by decide) rfl ?_
                  refine jj_aload_n C dX1_tryRedemption_72 rfl ?_
                  refine jj_aload_n C dX1_tryRedemption_73 rfl ?_
                  refine jj_aload_n C dX1_tryRedemption_74 rfl ?_
                  refine tt_get C hok_19 jk_3 0 (by decide) jw_808194b586 (t := (2, 6, 0)) hk0 (by decide) rfl rfl dX1_tryRedemption_75 (fun v_94 hv_94 hf_95 => ?_)
                  obtain ⟨a_96, rfl, ka_96⟩ := tt_vr hv_94
                  refine jj_iload C dX1_tryRedemption_78 rfl ?_
                  refine tt_aald C hok_19 (t := (2, 2, 0)) ka_96 (by decide) rfl rfl rfl (vp_in_iff.mpr ⟨by omega, by omega⟩) dX1_tryRedemption_80 (fun v_97 hv_97 => ?_)
                  obtain ⟨a_98, rfl, ka_98⟩ := tt_vr hv_97
                  refine jj_aload C dX1_tryRedemption_81 rfl ?_
                  refine jj_lload C dX1_tryRedemption_83 rfl ?_
                  obtain ⟨qc, gs, hqc⟩ := tt_recv (cx := []) hok_19 hk0 (by decide) rfl
                  refine tt_callV (rest := []) C (tc_X1_quote_1 hl D cA ak h0 h1 a_98 a_14 y_3 hk0 hk1 ka_98 ka_14 hok_19) [] [] rfl rfl (by decide) (by decide) (by decide) qc hqc rfl rfl jw_1832e55719 jw_b1f9248fb6 jw_6c091437de jw_944cf9c3ab jw_9a9d59d9b6 jn_X1_quote rfl (jj_le rfl) (jj_le rfl) (jj_le rfl) (jj_le rfl) (jj_le rfl) dX1_tryRedemption_85 rfl (fun _ _ _ hX => hX.elim) (fun rx pl_99 r O_102 => ?_)
                  obtain ⟨rfl, hok_100, hr_101, hfa9, hR_104⟩ := O_102
                  replace hf_6 := hr_101.at hk1 (by decide) (by decide) hf_6
                  replace hf_11 := hr_101.at hk1 (by decide) (by decide) hf_11
                  replace hf_16 := hr_101.at ka_14 (by decide) (by decide) hf_16
                  replace hf_34 := hr_101.at ka_14 (by decide) (by decide) hf_34
                  replace hf_40 := hr_101.at ka_14 (by decide) (by decide) hf_40
                  replace hf_95 := hr_101.at hk0 (by decide) (by decide) hf_95
                  replace hfr := hfr.trans (hr_101.sub (by decide))
                  replace hfa := hfa.trans (hfa9.sub (by decide))
                  obtain rfl := hR_104
                  refine jj_aload_n C dX1_tryRedemption_88 rfl ?_
                  refine tt_getF C hok_100 jk_3 0 (by decide) jw_808194b586 (t := (2, 6, 0)) hk0 (by decide) rfl rfl hf_95 dX1_tryRedemption_89 ?_
                  refine jj_iload C dX1_tryRedemption_92 rfl ?_
                  refine tt_aald C hok_100 (t := (2, 2, 0)) ka_96 (by decide) rfl rfl rfl (vp_in_iff.mpr ⟨by omega, by omega⟩) dX1_tryRedemption_94 (fun v_107 hv_107 => ?_)
                  obtain ⟨a_108, rfl, ka_108⟩ := tt_vr hv_107
                  refine jj_dup C dX1_tryRedemption_95 rfl ?_
                  refine tt_get C hok_100 jk_9 2 (by decide) jw_a25c79ea7a (t := (1, (-9223372036854775808), 9223372036854775807)) ka_108 (by decide) rfl rfl dX1_tryRedemption_96 (fun v_109 hv_109 hf_110 => ?_)
                  obtain ⟨y_111, rfl, -, -⟩ := tt_vj hv_109
                  refine jj_aload_n C dX1_tryRedemption_99 rfl ?_
                  refine tt_get C hok_100 jk_3 1 (by decide) jw_d747bb1560 (t := (1, (-9223372036854775808), 9223372036854775807)) hk0 (by decide) rfl rfl dX1_tryRedemption_100 (fun v_112 hv_112 hf_113 => ?_)
                  obtain ⟨y_114, rfl, -, -⟩ := tt_vj hv_112
                  refine jj_aload_n C dX1_tryRedemption_103 rfl ?_
                  refine tt_get C hok_100 jk_3 2 (by decide) jw_771ad03ca8 (t := (1, (-9223372036854775808), 9223372036854775807)) hk0 (by decide) rfl rfl dX1_tryRedemption_104 (fun v_115 hv_115 hf_116 => ?_)
                  obtain ⟨y_117, rfl, -, -⟩ := tt_vj hv_115
                  obtain ⟨y_118, ey_118⟩ : ∃ z : Int64, y_114 + y_117 = z := ⟨_, rfl⟩
                  refine jj_ladd (v := y_118) C dX1_tryRedemption_107 ey_118 ?_
                  obtain ⟨y_119, ey_119⟩ : ∃ z : Int64, y_111 - y_118 = z := ⟨_, rfl⟩
                  refine jj_lsub (v := y_119) C dX1_tryRedemption_108 ey_119 ?_
                  refine rl_put C hok_100 jk_9 2 (by decide) jw_a25c79ea7a (t := (1, (-9223372036854775808), 9223372036854775807)) ka_108 (by decide) rfl rfl rfl (tt_ja y_119) rfl rfl dX1_tryRedemption_109 (fun pl_120 hok_121 tr hn tl => ?_)
                  replace hf_6 := tr _ _ _ (Or.inl (tt_ne hk1 ka_108 (by decide))) hf_6
                  replace hf_11 := tr _ _ _ (Or.inl (tt_ne hk1 ka_108 (by decide))) hf_11
                  replace hf_16 := tr _ _ _ (Or.inl (tt_ne ka_14 ka_108 (by decide))) hf_16
                  replace hf_34 := tr _ _ _ (Or.inl (tt_ne ka_14 ka_108 (by decide))) hf_34
                  replace hf_40 := tr _ _ _ (Or.inl (tt_ne ka_14 ka_108 (by decide))) hf_40
                  replace hf_95 := tr _ _ _ (Or.inl (tt_ne hk0 ka_108 (by decide))) hf_95
                  replace hf_113 := tr _ _ _ (Or.inl (tt_ne hk0 ka_108 (by decide))) hf_113
                  replace hf_116 := tr _ _ _ (Or.inl (tt_ne hk0 ka_108 (by decide))) hf_116
                  have hf_122 := hn
                  replace hfr := hfr.put ka_108 tr (by decide)
                  replace hfa := hfa.all tl
                  refine jj_aload_n C dX1_tryRedemption_112 rfl ?_
                  refine tt_getF C hok_121 jk_3 0 (by decide) jw_808194b586 (t := (2, 6, 0)) hk0 (by decide) rfl rfl hf_95 dX1_tryRedemption_113 ?_
                  refine jj_iload C dX1_tryRedemption_116 rfl ?_
                  refine tt_aald C hok_121 (t := (2, 2, 0)) ka_96 (by decide) rfl rfl rfl (vp_in_iff.mpr ⟨by omega, by omega⟩) dX1_tryRedemption_118 (fun v_123 hv_123 => ?_)
                  obtain ⟨a_124, rfl, ka_124⟩ := tt_vr hv_123
                  refine jj_dup C dX1_tryRedemption_119 rfl ?_
                  refine tt_get C hok_121 jk_9 3 (by decide) jw_df3b225d28 (t := (1, (-9223372036854775808), 9223372036854775807)) ka_124 (by decide) rfl rfl dX1_tryRedemption_120 (fun v_125 hv_125 hf_126 => ?_)
                  obtain ⟨y_127, rfl, -, -⟩ := tt_vj hv_125
                  refine jj_lload C dX1_tryRedemption_123 rfl ?_
                  obtain ⟨y_128, ey_128⟩ : ∃ z : Int64, y_127 - y_3 = z := ⟨_, rfl⟩
                  refine jj_lsub (v := y_128) C dX1_tryRedemption_125 ey_128 ?_
                  refine rl_put C hok_121 jk_9 3 (by decide) jw_df3b225d28 (t := (1, (-9223372036854775808), 9223372036854775807)) ka_124 (by decide) rfl rfl rfl (tt_ja y_128) rfl rfl dX1_tryRedemption_126 (fun pl_129 hok_130 tr hn tl => ?_)
                  replace hf_6 := tr _ _ _ (Or.inl (tt_ne hk1 ka_124 (by decide))) hf_6
                  replace hf_11 := tr _ _ _ (Or.inl (tt_ne hk1 ka_124 (by decide))) hf_11
                  replace hf_16 := tr _ _ _ (Or.inl (tt_ne ka_14 ka_124 (by decide))) hf_16
                  replace hf_34 := tr _ _ _ (Or.inl (tt_ne ka_14 ka_124 (by decide))) hf_34
                  replace hf_40 := tr _ _ _ (Or.inl (tt_ne ka_14 ka_124 (by decide))) hf_40
                  replace hf_95 := tr _ _ _ (Or.inl (tt_ne hk0 ka_124 (by decide))) hf_95
                  replace hf_113 := tr _ _ _ (Or.inl (tt_ne hk0 ka_124 (by decide))) hf_113
                  replace hf_116 := tr _ _ _ (Or.inl (tt_ne hk0 ka_124 (by decide))) hf_116
                  replace hf_122 := tr _ _ _ (Or.inr (by decide)) hf_122
                  have hf_131 := hn
                  replace hfr := hfr.put ka_124 tr (by decide)
                  replace hfa := hfa.all tl
                  refine jj_lload C dX1_tryRedemption_129 rfl ?_
                  refine jj_lload C dX1_tryRedemption_131 rfl ?_
                  obtain ⟨y_132, ey_132⟩ : ∃ z : Int64, y_3 - y_3 = z := ⟨_, rfl⟩
                  refine jj_lsub (v := y_132) C dX1_tryRedemption_133 ey_132 ?_
                  refine jj_lstore C dX1_tryRedemption_134 (by decide) rfl ?_
                  refine jj_lload C dX1_tryRedemption_136 rfl ?_
                  refine jj_iload C dX1_tryRedemption_138 rfl ?_
                  refine jj_if_eqF (tgt := 160) C dX1_tryRedemption_140 (by decide) (by decide) ?_
                  refine jj_aload_n C dX1_tryRedemption_143 rfl ?_
                  refine tt_getF C hok_130 jk_3 1 (by decide) jw_d747bb1560 (t := (1, (-9223372036854775808), 9223372036854775807)) hk0 (by decide) rfl rfl hf_113 dX1_tryRedemption_144 ?_
                  refine jj_aload_n C dX1_tryRedemption_147 rfl ?_
                  refine tt_get C hok_130 jk_3 4 (by decide) jw_21f29d6c44 (t := (1, (-9223372036854775808), 9223372036854775807)) hk0 (by decide) rfl rfl dX1_tryRedemption_148 (fun v_133 hv_133 hf_134 => ?_)
                  obtain ⟨y_135, rfl, -, -⟩ := tt_vj hv_133
                  obtain ⟨y_136, ey_136⟩ : ∃ z : Int64, y_114 + y_135 = z := ⟨_, rfl⟩
                  refine jj_ladd (v := y_136) C dX1_tryRedemption_151 ey_136 ?_
                  refine jj_aload_n C dX1_tryRedemption_152 rfl ?_
                  refine tt_get C hok_130 jk_3 5 (by decide) jw_e41f55c9ce (t := (1, (-9223372036854775808), 9223372036854775807)) hk0 (by decide) rfl rfl dX1_tryRedemption_153 (fun v_137 hv_137 hf_138 => ?_)
                  obtain ⟨y_139, rfl, -, -⟩ := tt_vj hv_137
                  obtain ⟨y_140, ey_140⟩ : ∃ z : Int64, y_136 - y_139 = z := ⟨_, rfl⟩
                  refine jj_lsub (v := y_140) C dX1_tryRedemption_156 ey_140 ?_
                  refine jj_goto (tgt := 164) C dX1_tryRedemption_157 (by decide) ?_
                  obtain ⟨y_141, ey_141⟩ : ∃ z : Int64, y_4 + y_140 = z := ⟨_, rfl⟩
                  refine jj_ladd (v := y_141) C dX1_tryRedemption_164 ey_141 ?_
                  refine jj_lstore C dX1_tryRedemption_165 (by decide) rfl ?_
                  obtain ⟨x_142, ex_142, vx_142⟩ := tt_inc (x := x_2) (n := 1) (by omega) (by omega)
                  refine jj_iinc (v := x_142) C dX1_tryRedemption_167 rfl ex_142 (by decide) rfl ?_
                  refine jj_goto (tgt := 9) C dX1_tryRedemption_170 (by decide) ?_
                  refine jj_loc [0, 2, 1, 6, 7, 8, 9, 10] rfl ?_
                  exact ihL_1 pl_129 x_142 y_132 y_141 hok_130 hfr hfa (by first | omega | decide | exact tt_lo _ | exact tt_hi _) (by first | omega | decide | exact tt_lo _ | exact tt_hi _) (by first | omega | decide | exact tt_lo _ | exact tt_hi _)
  exact hL_1 _ pl0 (0 : Int32) (9223372036854775807 : Int64) (0 : Int64) trivial hok hfr hfa (by first | omega | decide | exact tt_lo _ | exact tt_hi _) (by first | omega | decide | exact tt_lo _ | exact tt_hi _) (Int.self_le_toNat _)

set_option maxHeartbeats 4000000 in
set_option maxRecDepth 100000 in
theorem tc_X1_payAfterRate_7 {l : Launch} (hl : l.stackTraces = false) (D : va_G) (cA : Nat → ClassId) (ak : (Nat → Nat) × (Nat → Nat)) {Kd : Nat → Nat} (h0 : Nat) (h1 : Nat) (p2 : Int32) (hk0 : Kd h0 = 9) (hk1 : Kd h1 = 1) (lp2 : (0 : Int) ≤ p2.toInt) (up2 : p2.toInt ≤ 10) {pl0 : va_W} (hok : tt_ok tt_tk cA Kd pl0) : jj_M l D cA ak yX1_payAfterRate (.code yX1_payAfterRate cX1_payAfterRate 4 (some .long)) 3 88 0 0 ([] ++ pl0) [.ref h0, .ref h1, .int p2, .int 0] (tt_O (fun rx pl1 r => rx = [] ∧ tt_ok tt_tk cA Kd pl1 ∧ tt_fr Kd [(2, 0), (2, 1), (2, 2), (2, 3), (2, 4), (9, 1), (9, 2), (9, 3), (9, 4), (9, 5)] pl0 pl1 ∧ tt_fa Kd [] pl0 pl1 ∧ ((∃ v : Int64, r = some (.long v))))) (tt_OX (fun _ _ _ => False)) := by
  refine jj_start hl (by decide) jw_8658218399 (jj_le rfl) ?_
  intro p e s m args below meth c A hargs hA C hex hmn
  have hfr := tt_fr.refl (K := Kd) (WS := [(2, 0), (2, 1), (2, 2), (2, 3), (2, 4), (9, 1), (9, 2), (9, 3), (9, 4), (9, 5)]) pl0
  have hfa := tt_fa.refl (K := Kd) (WA := []) pl0
  refine jj_aload_n C dX1_payAfterRate_0 rfl ?_
  refine jj_aload_n C dX1_payAfterRate_1 rfl ?_
  refine jj_iload_n C dX1_payAfterRate_2 rfl ?_
  obtain ⟨qc, gs, hqc⟩ := tt_recv (cx := []) hok hk0 (by decide) rfl
  refine tt_callV (rest := []) C (tc_X1_resetTrial_1 hl D cA ak h0 h1 hk0 hk1 hok) [] [] rfl rfl (by decide) (by decide) (by decide) qc hqc rfl rfl jw_e4af616004 jw_bacc1607b6 jw_d2d28ff2fc jw_944cf9c3ab jw_94abfb5ed9 jn_X1_resetTrial rfl (jj_le rfl) (jj_le rfl) (jj_le rfl) (jj_le rfl) (jj_le rfl) dX1_payAfterRate_3 rfl (fun _ _ _ hX => hX.elim) (fun rx pl_1 r O_4 => ?_)
  obtain ⟨rfl, hok_2, hr_3, hfa9, hR_6⟩ := O_4
  replace hfr := hfr.trans (hr_3.sub (by decide))
  replace hfa := hfa.trans (hfa9.sub (by decide))
  obtain rfl := hR_6
  refine jj_aload_n C dX1_payAfterRate_6 rfl ?_
  refine jj_aload_n C dX1_payAfterRate_7 rfl ?_
  refine jj_iload_n C dX1_payAfterRate_8 rfl ?_
  refine jj_ldc2 (v := 9223372036854775807) C dX1_payAfterRate_9 jw_0ae03504c0 ?_
  refine jj_iconst (v := 1) C dX1_payAfterRate_12 (by decide) ?_
  obtain ⟨qc, gs, hqc⟩ := tt_recv (cx := []) hok_2 hk0 (by decide) rfl
  refine tt_callV (rest := []) C (tc_X1_tryRedemption_8 hl D cA ak h0 h1 p2 hk0 hk1 (by omega) (by omega) hok_2) [] [] rfl rfl (by decide) (by decide) (by decide) qc hqc rfl rfl jw_484ec097f9 jw_eb03746c8c jw_a203910c50 jw_944cf9c3ab jw_a452736dc6 jn_X1_tryRedemption rfl (jj_le rfl) (jj_le rfl) (jj_le rfl) (jj_le rfl) (jj_le rfl) dX1_payAfterRate_13 rfl (fun _ _ _ hX => hX.elim) (fun rx pl_9 r O_12 => ?_)
  obtain ⟨rfl, hok_10, hr_11, hfa9, hR_14⟩ := O_12
  replace hfr := hfr.trans (hr_11.sub (by decide))
  replace hfa := hfa.trans (hfa9.sub (by decide))
  obtain ⟨y_17, rfl⟩ := hR_14
  exact jj_lret C ⟨[], pl_9, rfl, rfl, hok_10, hfr, hfa, ⟨y_17, rfl⟩⟩ dX1_payAfterRate_16 (jj_le rfl) (jj_le rfl)

set_option maxHeartbeats 4000000 in
set_option maxRecDepth 100000 in
theorem tc_X1_tryRedemption_9 {l : Launch} (hl : l.stackTraces = false) (D : va_G) (cA : Nat → ClassId) (ak : (Nat → Nat) × (Nat → Nat)) {Kd : Nat → Nat} (h0 : Nat) (h1 : Nat) (p2 : Int32) (hk0 : Kd h0 = 9) (hk1 : Kd h1 = 1) (lp2 : (0 : Int) ≤ p2.toInt) (up2 : p2.toInt ≤ 11) {pl0 : va_W} (hok : tt_ok tt_tk cA Kd pl0) : jj_M l D cA ak yX1_tryRedemption (.code yX1_tryRedemption cX1_tryRedemption 15 (some .long)) 2 54 0 0 ([] ++ pl0) [.ref h0, .ref h1, .int p2, .long 9223372036854775807, .int 1] (tt_O (fun rx pl1 r => rx = [] ∧ tt_ok tt_tk cA Kd pl1 ∧ tt_fr Kd [(2, 2), (2, 3), (9, 1), (9, 2), (9, 3), (9, 4), (9, 5)] pl0 pl1 ∧ tt_fa Kd [] pl0 pl1 ∧ ((∃ v : Int64, r = some (.long v))))) (tt_OX (fun _ _ _ => False)) := by
  refine jj_start hl (by decide) jw_a452736dc6 (jj_le rfl) ?_
  intro p e s m args below meth c A hargs hA C hex hmn
  have hfr := tt_fr.refl (K := Kd) (WS := [(2, 2), (2, 3), (9, 1), (9, 2), (9, 3), (9, 4), (9, 5)]) pl0
  have hfa := tt_fa.refl (K := Kd) (WA := []) pl0
  refine jj_lconst (v := 0) C dX1_tryRedemption_0 (by decide) ?_
  refine jj_lstore C dX1_tryRedemption_1 (by decide) rfl ?_
  refine jj_lload_n C dX1_tryRedemption_3 rfl ?_
  refine jj_lstore C dX1_tryRedemption_4 (by decide) rfl ?_
  refine jj_iconst (v := 0) C dX1_tryRedemption_6 (by decide) ?_
  refine jj_istore C dX1_tryRedemption_7 (by decide) rfl ?_
  have hL_1 : ∀ (N : Nat) (pl : va_W) (x_2 : Int32) (y_3 : Int64) (y_4 : Int64), True → tt_ok tt_tk cA Kd pl → tt_fr Kd [(2, 2), (2, 3), (9, 1), (9, 2), (9, 3), (9, 4), (9, 5)] pl0 pl → tt_fa Kd [] pl0 pl → (0 : Int) ≤ x_2.toInt → x_2.toInt ≤ 40 → (2147483648 - x_2.toInt ≤ (N : Int)) → jj_J p l e (jj_rm 2 54 0 0) s m args below meth c 15 A (vx_MQ below (jj_q D A (tt_O (fun rx pl1 r => rx = [] ∧ tt_ok tt_tk cA Kd pl1 ∧ tt_fr Kd [(2, 2), (2, 3), (9, 1), (9, 2), (9, 3), (9, 4), (9, 5)] pl0 pl1 ∧ tt_fa Kd [] pl0 pl1 ∧ ((∃ v : Int64, r = some (.long v)))))) (jj_x D A (tt_OX (fun _ _ _ => False))) args s 0 0 A) (jj_X D A ([] ++ pl)) 0 0 9 [(10, .int x_2), (8, .long y_3), (6, .long y_4), (0, .ref h0), (1, .ref h1), (2, .int p2), (3, .long 9223372036854775807), (5, .int 1)] [] := by
    intro NL_1
    induction NL_1 with
    | zero => intro pl x_2 y_3 y_4 _ hok hfr hfa lx_2 ux_2 hNL_1; exfalso; omega
    | succ NL_1 ihL_1 =>
      intro pl x_2 y_3 y_4 _ hok hfr hfa lx_2 ux_2 hNL_1
      replace ihL_1 := fun pl x_2 y_3 y_4 h1 => ihL_1 pl x_2 y_3 y_4 trivial h1
      refine jj_iload C dX1_tryRedemption_9 rfl ?_
      refine jj_aload_n C dX1_tryRedemption_11 rfl ?_
      refine tt_get C hok jk_2 8 (by decide) jw_eaf43346a8 (t := (0, 0, 40)) hk1 (by decide) rfl rfl dX1_tryRedemption_12 (fun v_5 hv_5 hf_6 => ?_)
      obtain ⟨x_7, rfl, lx_7, ux_7⟩ := tt_vi hv_5
      refine jj_icmp_ge (tgt := 173) C dX1_tryRedemption_15 (by decide) (fun c_8 => ?_) (fun c_8 => ?_)
      · have z_c_8 := jc_le (a := (x_7).toInt) (b := (x_2).toInt) c_8 rfl rfl
        refine jj_lload C dX1_tryRedemption_173 rfl ?_
        exact jj_lret C ⟨[], pl, rfl, rfl, hok, hfr, hfa, ⟨y_4, rfl⟩⟩ dX1_tryRedemption_175 (jj_le rfl) (jj_le rfl)
      · have z_c_8 := jc_nle (a := (x_7).toInt) (b := (x_2).toInt) c_8 rfl rfl
        refine jj_lload C dX1_tryRedemption_18 rfl ?_
        refine jj_lconst (v := 0) C dX1_tryRedemption_20 (by decide) ?_
        refine jj_lcmp_le (tgt := 173) C dX1_tryRedemption_21 dX1_tryRedemption_22 (by decide) (fun c_9 => ?_) (fun c_9 => ?_)
        · refine jj_lload C dX1_tryRedemption_173 rfl ?_
          exact jj_lret C ⟨[], pl, rfl, rfl, hok, hfr, hfa, ⟨y_4, rfl⟩⟩ dX1_tryRedemption_175 (jj_le rfl) (jj_le rfl)
        · refine jj_aload_n C dX1_tryRedemption_25 rfl ?_
          refine tt_get C hok jk_2 12 (by decide) jw_41d1bd2a61 (t := (2, 7, 0)) hk1 (by decide) rfl rfl dX1_tryRedemption_26 (fun v_10 hv_10 hf_11 => ?_)
          obtain ⟨a_12, rfl, ka_12⟩ := tt_vr hv_10
          refine jj_iload C dX1_tryRedemption_29 rfl ?_
          refine tt_aald C hok (t := (2, 3, 0)) ka_12 (by decide) rfl rfl rfl (vp_in_iff.mpr ⟨by omega, by omega⟩) dX1_tryRedemption_31 (fun v_13 hv_13 => ?_)
          obtain ⟨a_14, rfl, ka_14⟩ := tt_vr hv_13
          refine jj_astore C dX1_tryRedemption_32 (by decide) rfl ?_
          refine jj_aload_n C dX1_tryRedemption_34 rfl ?_
          refine jj_aload C dX1_tryRedemption_35 rfl ?_
          refine tt_get C hok jk_5 1 (by decide) jw_85587ec127 (t := (0, (-2147483648), 2147483647)) ka_14 (by decide) rfl rfl dX1_tryRedemption_37 (fun v_15 hv_15 hf_16 => ?_)
          obtain ⟨x_17, rfl, lx_17, ux_17⟩ := tt_vi hv_15
          obtain ⟨qc, gs, hqc⟩ := tt_recv (cx := []) hok hk1 (by decide) rfl
          refine tt_callV (rest := []) C (tc_X0_placeOfSeries_1 hl D cA ak h1 x_17 hk1 hok) [] [] rfl rfl (by decide) (by decide) (by decide) qc hqc rfl rfl jw_bb838ff949 jw_0061c834c4 jw_a3c4f03cad jw_7d25d4fd32 jw_3fe68be2d3 jn_X0_placeOfSeries rfl (jj_le rfl) (jj_le rfl) (jj_le rfl) (jj_le rfl) (jj_le rfl) dX1_tryRedemption_40 rfl (fun _ _ _ hX => hX.elim) (fun rx pl_18 r O_21 => ?_)
          obtain ⟨rfl, hok_19, hr_20, hfa9, hR_23⟩ := O_21
          replace hf_6 := hr_20.at hk1 (by decide) (by decide) hf_6
          replace hf_11 := hr_20.at hk1 (by decide) (by decide) hf_11
          replace hf_16 := hr_20.at ka_14 (by decide) (by decide) hf_16
          replace hfr := hfr.trans (hr_20.sub (by decide))
          replace hfa := hfa.trans (hfa9.sub (by decide))
          rcases hR_23 with rfl | ⟨x_26, lx_26, ux_26, rfl⟩
          · refine jj_istore C dX1_tryRedemption_43 (by decide) rfl ?_
            refine jj_aload C dX1_tryRedemption_45 rfl ?_
            refine tt_get C hok_19 jk_5 0 (by decide) jw_a8c98ef318 (t := (0, (-2147483648), 2147483647)) ka_14 (by decide) rfl rfl dX1_tryRedemption_47 (fun v_27 hv_27 hf_28 => ?_)
            obtain ⟨x_29, rfl, lx_29, ux_29⟩ := tt_vi hv_27
            refine jj_iload_n C dX1_tryRedemption_50 rfl ?_
            refine jj_icmp_ne (tgt := 167) C dX1_tryRedemption_51 (by decide) (fun c_30 => ?_) (fun c_30 => ?_)
            · have z_c_30 := jc_neq (a := (x_29).toInt) (b := (p2).toInt) c_30 rfl rfl
              obtain ⟨x_31, ex_31, vx_31⟩ := tt_inc (x := x_2) (n := 1) (by omega) (by omega)
              refine jj_iinc (v := x_31) C dX1_tryRedemption_167 rfl ex_31 (by decide) rfl ?_
              refine jj_goto (tgt := 9) C dX1_tryRedemption_170 (by decide) ?_
              refine jj_loc [0, 3, 4, 5, 6, 7, 8, 9] rfl ?_
              exact ihL_1 pl_18 x_31 y_3 y_4 hok_19 hfr hfa (by first | omega | decide | exact tt_lo _ | exact tt_hi _) (by first | omega | decide | exact tt_lo _ | exact tt_hi _) (by first | omega | decide | exact tt_lo _ | exact tt_hi _)
            · have z_c_30 := jc_eq (a := (x_29).toInt) (b := (p2).toInt) c_30 rfl rfl
              refine jj_iload C dX1_tryRedemption_54 rfl ?_
              refine jj_iconst (v := (-1)) C dX1_tryRedemption_56 (by decide) ?_
              refine jj_icmp_eqT (tgt := 167) C dX1_tryRedemption_57 (by decide) (by decide) ?_
              obtain ⟨x_32, ex_32, vx_32⟩ := tt_inc (x := x_2) (n := 1) (by omega) (by omega)
              refine jj_iinc (v := x_32) C dX1_tryRedemption_167 rfl ex_32 (by decide) rfl ?_
              refine jj_goto (tgt := 9) C dX1_tryRedemption_170 (by decide) ?_
              refine jj_loc [0, 3, 4, 5, 6, 7, 8, 9] rfl ?_
              exact ihL_1 pl_18 x_32 y_3 y_4 hok_19 hfr hfa (by first | omega | decide | exact tt_lo _ | exact tt_hi _) (by first | omega | decide | exact tt_lo _ | exact tt_hi _) (by first | omega | decide | exact tt_lo _ | exact tt_hi _)
          · refine jj_istore C dX1_tryRedemption_43 (by decide) rfl ?_
            refine jj_aload C dX1_tryRedemption_45 rfl ?_
            refine tt_get C hok_19 jk_5 0 (by decide) jw_a8c98ef318 (t := (0, (-2147483648), 2147483647)) ka_14 (by decide) rfl rfl dX1_tryRedemption_47 (fun v_33 hv_33 hf_34 => ?_)
            obtain ⟨x_35, rfl, lx_35, ux_35⟩ := tt_vi hv_33
            refine jj_iload_n C dX1_tryRedemption_50 rfl ?_
            refine jj_icmp_ne (tgt := 167) C dX1_tryRedemption_51 (by decide) (fun c_36 => ?_) (fun c_36 => ?_)
            · have z_c_36 := jc_neq (a := (x_35).toInt) (b := (p2).toInt) c_36 rfl rfl
              obtain ⟨x_37, ex_37, vx_37⟩ := tt_inc (x := x_2) (n := 1) (by omega) (by omega)
              refine jj_iinc (v := x_37) C dX1_tryRedemption_167 rfl ex_37 (by decide) rfl ?_
              refine jj_goto (tgt := 9) C dX1_tryRedemption_170 (by decide) ?_
              refine jj_loc [0, 3, 4, 5, 6, 7, 8, 9] rfl ?_
              exact ihL_1 pl_18 x_37 y_3 y_4 hok_19 hfr hfa (by first | omega | decide | exact tt_lo _ | exact tt_hi _) (by first | omega | decide | exact tt_lo _ | exact tt_hi _) (by first | omega | decide | exact tt_lo _ | exact tt_hi _)
            · have z_c_36 := jc_eq (a := (x_35).toInt) (b := (p2).toInt) c_36 rfl rfl
              refine jj_iload C dX1_tryRedemption_54 rfl ?_
              refine jj_iconst (v := (-1)) C dX1_tryRedemption_56 (by decide) ?_
              refine jj_icmp_eq (tgt := 167) C dX1_tryRedemption_57 (by decide) (fun c_38 => ?_) (fun c_38 => ?_)
              · have z_c_38 := jc_eq (a := (x_26).toInt) (b := (-1)) c_38 rfl (by decide)
                exfalso; omega
              · have z_c_38 := jc_neq (a := (x_26).toInt) (b := (-1)) c_38 rfl (by decide)
                refine jj_lload C dX1_tryRedemption_60 rfl ?_
                refine jj_aload C dX1_tryRedemption_62 rfl ?_
                refine tt_get C hok_19 jk_5 3 (by decide) jw_fcb072e0d9 (t := (1, (-9223372036854775808), 9223372036854775807)) ka_14 (by decide) rfl rfl dX1_tryRedemption_64 (fun v_39 hv_39 hf_40 => ?_)
                obtain ⟨y_41, rfl, -, -⟩ := tt_vj hv_39
                refine tt_call0S (rest := []) C (ct_J9_min_f86c9_1 hl D cA ak y_3 y_41) jw_fa02caeb63 jw_a0cddbe894 jw_a731c8553d jw_e0e7ffaaeb jn_J9_min_f86c9 rfl (jj_le rfl) (jj_le rfl) (jj_le rfl) (jj_le rfl) (jj_le rfl) dX1_tryRedemption_67 rfl (fun w1 r O_42 => ?_)
                rcases O_42 with ⟨c_43, -, rfl⟩ | ⟨c_44, -, rfl⟩
                · refine jj_lstore C dX1_tryRedemption_70 (by decide) rfl ?_
                  refine jj_aload_n C dX1_tryRedemption_72 rfl ?_
                  refine jj_aload_n C dX1_tryRedemption_73 rfl ?_
                  refine jj_aload_n C dX1_tryRedemption_74 rfl ?_
                  refine tt_get C hok_19 jk_3 0 (by decide) jw_808194b586 (t := (2, 6, 0)) hk0 (by decide) rfl rfl dX1_tryRedemption_75 (fun v_45 hv_45 hf_46 => ?_)
                  obtain ⟨a_47, rfl, ka_47⟩ := tt_vr hv_45
                  refine jj_iload C dX1_tryRedemption_78 rfl ?_
                  refine tt_aald C hok_19 (t := (2, 2, 0)) ka_47 (by decide) rfl rfl rfl (vp_in_iff.mpr ⟨by omega, by omega⟩) dX1_tryRedemption_80 (fun v_48 hv_48 => ?_)
                  obtain ⟨a_49, rfl, ka_49⟩ := tt_vr hv_48
                  refine jj_aload C dX1_tryRedemption_81 rfl ?_
                  refine jj_lload C dX1_tryRedemption_83 rfl ?_
                  obtain ⟨qc, gs, hqc⟩ := tt_recv (cx := []) hok_19 hk0 (by decide) rfl
                  refine tt_callV (rest := []) C (tc_X1_quote_1 hl D cA ak h0 h1 a_49 a_14 y_41 hk0 hk1 ka_49 ka_14 hok_19) [] [] rfl rfl (by decide) (by decide) (by decide) qc hqc rfl rfl jw_1832e55719 jw_b1f9248fb6 jw_6c091437de jw_944cf9c3ab jw_9a9d59d9b6 jn_X1_quote rfl (jj_le rfl) (jj_le rfl) (jj_le rfl) (jj_le rfl) (jj_le rfl) dX1_tryRedemption_85 rfl (fun _ _ _ hX => hX.elim) (fun rx pl_50 r O_53 => ?_)
                  obtain ⟨rfl, hok_51, hr_52, hfa9, hR_55⟩ := O_53
                  replace hf_6 := hr_52.at hk1 (by decide) (by decide) hf_6
                  replace hf_11 := hr_52.at hk1 (by decide) (by decide) hf_11
                  replace hf_16 := hr_52.at ka_14 (by decide) (by decide) hf_16
                  replace hf_34 := hr_52.at ka_14 (by decide) (by decide) hf_34
                  replace hf_40 := hr_52.at ka_14 (by decide) (by decide) hf_40
                  replace hf_46 := hr_52.at hk0 (by decide) (by decide) hf_46
                  replace hfr := hfr.trans (hr_52.sub (by decide))
                  replace hfa := hfa.trans (hfa9.sub (by decide))
                  obtain rfl := hR_55
                  refine jj_aload_n C dX1_tryRedemption_88 rfl ?_
                  refine tt_getF C hok_51 jk_3 0 (by decide) jw_808194b586 (t := (2, 6, 0)) hk0 (by decide) rfl rfl hf_46 dX1_tryRedemption_89 ?_
                  refine jj_iload C dX1_tryRedemption_92 rfl ?_
                  refine tt_aald C hok_51 (t := (2, 2, 0)) ka_47 (by decide) rfl rfl rfl (vp_in_iff.mpr ⟨by omega, by omega⟩) dX1_tryRedemption_94 (fun v_58 hv_58 => ?_)
                  obtain ⟨a_59, rfl, ka_59⟩ := tt_vr hv_58
                  refine jj_dup C dX1_tryRedemption_95 rfl ?_
                  refine tt_get C hok_51 jk_9 2 (by decide) jw_a25c79ea7a (t := (1, (-9223372036854775808), 9223372036854775807)) ka_59 (by decide) rfl rfl dX1_tryRedemption_96 (fun v_60 hv_60 hf_61 => ?_)
                  obtain ⟨y_62, rfl, -, -⟩ := tt_vj hv_60
                  refine jj_aload_n C dX1_tryRedemption_99 rfl ?_
                  refine tt_get C hok_51 jk_3 1 (by decide) jw_d747bb1560 (t := (1, (-9223372036854775808), 9223372036854775807)) hk0 (by decide) rfl rfl dX1_tryRedemption_100 (fun v_63 hv_63 hf_64 => ?_)
                  obtain ⟨y_65, rfl, -, -⟩ := tt_vj hv_63
                  refine jj_aload_n C dX1_tryRedemption_103 rfl ?_
                  refine tt_get C hok_51 jk_3 2 (by decide) jw_771ad03ca8 (t := (1, (-9223372036854775808), 9223372036854775807)) hk0 (by decide) rfl rfl dX1_tryRedemption_104 (fun v_66 hv_66 hf_67 => ?_)
                  obtain ⟨y_68, rfl, -, -⟩ := tt_vj hv_66
                  obtain ⟨y_69, ey_69⟩ : ∃ z : Int64, y_65 + y_68 = z := ⟨_, rfl⟩
                  refine jj_ladd (v := y_69) C dX1_tryRedemption_107 ey_69 ?_
                  obtain ⟨y_70, ey_70⟩ : ∃ z : Int64, y_62 - y_69 = z := ⟨_, rfl⟩
                  refine jj_lsub (v := y_70) C dX1_tryRedemption_108 ey_70 ?_
                  refine rl_put C hok_51 jk_9 2 (by decide) jw_a25c79ea7a (t := (1, (-9223372036854775808), 9223372036854775807)) ka_59 (by decide) rfl rfl rfl (tt_ja y_70) rfl rfl dX1_tryRedemption_109 (fun pl_71 hok_72 tr hn tl => ?_)
                  replace hf_6 := tr _ _ _ (Or.inl (tt_ne hk1 ka_59 (by decide))) hf_6
                  replace hf_11 := tr _ _ _ (Or.inl (tt_ne hk1 ka_59 (by decide))) hf_11
                  replace hf_16 := tr _ _ _ (Or.inl (tt_ne ka_14 ka_59 (by decide))) hf_16
                  replace hf_34 := tr _ _ _ (Or.inl (tt_ne ka_14 ka_59 (by decide))) hf_34
                  replace hf_40 := tr _ _ _ (Or.inl (tt_ne ka_14 ka_59 (by decide))) hf_40
                  replace hf_46 := tr _ _ _ (Or.inl (tt_ne hk0 ka_59 (by decide))) hf_46
                  replace hf_64 := tr _ _ _ (Or.inl (tt_ne hk0 ka_59 (by decide))) hf_64
                  replace hf_67 := tr _ _ _ (Or.inl (tt_ne hk0 ka_59 (by decide))) hf_67
                  have hf_73 := hn
                  replace hfr := hfr.put ka_59 tr (by decide)
                  replace hfa := hfa.all tl
                  refine jj_aload_n C dX1_tryRedemption_112 rfl ?_
                  refine tt_getF C hok_72 jk_3 0 (by decide) jw_808194b586 (t := (2, 6, 0)) hk0 (by decide) rfl rfl hf_46 dX1_tryRedemption_113 ?_
                  refine jj_iload C dX1_tryRedemption_116 rfl ?_
                  refine tt_aald C hok_72 (t := (2, 2, 0)) ka_47 (by decide) rfl rfl rfl (vp_in_iff.mpr ⟨by omega, by omega⟩) dX1_tryRedemption_118 (fun v_74 hv_74 => ?_)
                  obtain ⟨a_75, rfl, ka_75⟩ := tt_vr hv_74
                  refine jj_dup C dX1_tryRedemption_119 rfl ?_
                  refine tt_get C hok_72 jk_9 3 (by decide) jw_df3b225d28 (t := (1, (-9223372036854775808), 9223372036854775807)) ka_75 (by decide) rfl rfl dX1_tryRedemption_120 (fun v_76 hv_76 hf_77 => ?_)
                  obtain ⟨y_78, rfl, -, -⟩ := tt_vj hv_76
                  refine jj_lload C dX1_tryRedemption_123 rfl ?_
                  obtain ⟨y_79, ey_79⟩ : ∃ z : Int64, y_78 - y_41 = z := ⟨_, rfl⟩
                  refine jj_lsub (v := y_79) C dX1_tryRedemption_125 ey_79 ?_
                  refine rl_put C hok_72 jk_9 3 (by decide) jw_df3b225d28 (t := (1, (-9223372036854775808), 9223372036854775807)) ka_75 (by decide) rfl rfl rfl (tt_ja y_79) rfl rfl dX1_tryRedemption_126 (fun pl_80 hok_81 tr hn tl => ?_)
                  replace hf_6 := tr _ _ _ (Or.inl (tt_ne hk1 ka_75 (by decide))) hf_6
                  replace hf_11 := tr _ _ _ (Or.inl (tt_ne hk1 ka_75 (by decide))) hf_11
                  replace hf_16 := tr _ _ _ (Or.inl (tt_ne ka_14 ka_75 (by decide))) hf_16
                  replace hf_34 := tr _ _ _ (Or.inl (tt_ne ka_14 ka_75 (by decide))) hf_34
                  replace hf_40 := tr _ _ _ (Or.inl (tt_ne ka_14 ka_75 (by decide))) hf_40
                  replace hf_46 := tr _ _ _ (Or.inl (tt_ne hk0 ka_75 (by decide))) hf_46
                  replace hf_64 := tr _ _ _ (Or.inl (tt_ne hk0 ka_75 (by decide))) hf_64
                  replace hf_67 := tr _ _ _ (Or.inl (tt_ne hk0 ka_75 (by decide))) hf_67
                  replace hf_73 := tr _ _ _ (Or.inr (by decide)) hf_73
                  have hf_82 := hn
                  replace hfr := hfr.put ka_75 tr (by decide)
                  replace hfa := hfa.all tl
                  refine jj_lload C dX1_tryRedemption_129 rfl ?_
                  refine jj_lload C dX1_tryRedemption_131 rfl ?_
                  obtain ⟨y_83, ey_83⟩ : ∃ z : Int64, y_3 - y_41 = z := ⟨_, rfl⟩
                  refine jj_lsub (v := y_83) C dX1_tryRedemption_133 ey_83 ?_
                  refine jj_lstore C dX1_tryRedemption_134 (by decide) rfl ?_
                  refine jj_lload C dX1_tryRedemption_136 rfl ?_
                  refine jj_iload C dX1_tryRedemption_138 rfl ?_
                  refine jj_if_eqF (tgt := 160) C dX1_tryRedemption_140 (by decide) (by decide) ?_
                  refine jj_aload_n C dX1_tryRedemption_143 rfl ?_
                  refine tt_getF C hok_81 jk_3 1 (by decide) jw_d747bb1560 (t := (1, (-9223372036854775808), 9223372036854775807)) hk0 (by decide) rfl rfl hf_64 dX1_tryRedemption_144 ?_
                  refine jj_aload_n C dX1_tryRedemption_147 rfl ?_
                  refine tt_get C hok_81 jk_3 4 (by decide) jw_21f29d6c44 (t := (1, (-9223372036854775808), 9223372036854775807)) hk0 (by decide) rfl rfl dX1_tryRedemption_148 (fun v_84 hv_84 hf_85 => ?_)
                  obtain ⟨y_86, rfl, -, -⟩ := tt_vj hv_84
                  obtain ⟨y_87, ey_87⟩ : ∃ z : Int64, y_65 + y_86 = z := ⟨_, rfl⟩
                  refine jj_ladd (v := y_87) C dX1_tryRedemption_151 ey_87 ?_
                  refine jj_aload_n C dX1_tryRedemption_152 rfl ?_
                  refine tt_get C hok_81 jk_3 5 (by decide) jw_e41f55c9ce (t := (1, (-9223372036854775808), 9223372036854775807)) hk0 (by decide) rfl rfl dX1_tryRedemption_153 (fun v_88 hv_88 hf_89 => ?_)
                  obtain ⟨y_90, rfl, -, -⟩ := tt_vj hv_88
                  obtain ⟨y_91, ey_91⟩ : ∃ z : Int64, y_87 - y_90 = z := ⟨_, rfl⟩
                  refine jj_lsub (v := y_91) C dX1_tryRedemption_156 ey_91 ?_
                  refine jj_goto (tgt := 164) C dX1_tryRedemption_157 (by decide) ?_
                  obtain ⟨y_92, ey_92⟩ : ∃ z : Int64, y_4 + y_91 = z := ⟨_, rfl⟩
                  refine jj_ladd (v := y_92) C dX1_tryRedemption_164 ey_92 ?_
                  refine jj_lstore C dX1_tryRedemption_165 (by decide) rfl ?_
                  obtain ⟨x_93, ex_93, vx_93⟩ := tt_inc (x := x_2) (n := 1) (by omega) (by omega)
                  refine jj_iinc (v := x_93) C dX1_tryRedemption_167 rfl ex_93 (by decide) rfl ?_
                  refine jj_goto (tgt := 9) C dX1_tryRedemption_170 (by decide) ?_
                  refine jj_loc [0, 2, 1, 6, 7, 8, 9, 10] rfl ?_
                  exact ihL_1 pl_80 x_93 y_83 y_92 hok_81 hfr hfa (by first | omega | decide | exact tt_lo _ | exact tt_hi _) (by first | omega | decide | exact tt_lo _ | exact tt_hi _) (by first | omega | decide | exact tt_lo _ | exact tt_hi _)
                · refine jj_lstore C dX1_tryRedemption_70 (by decide) rfl ?_
                  refine jj_aload_n C dX1_tryRedemption_72 rfl ?_
                  refine jj_aload_n C dX1_tryRedemption_73 rfl ?_
                  refine jj_aload_n C dX1_tryRedemption_74 rfl ?_
                  refine tt_get C hok_19 jk_3 0 (by decide) jw_808194b586 (t := (2, 6, 0)) hk0 (by decide) rfl rfl dX1_tryRedemption_75 (fun v_94 hv_94 hf_95 => ?_)
                  obtain ⟨a_96, rfl, ka_96⟩ := tt_vr hv_94
                  refine jj_iload C dX1_tryRedemption_78 rfl ?_
                  refine tt_aald C hok_19 (t := (2, 2, 0)) ka_96 (by decide) rfl rfl rfl (vp_in_iff.mpr ⟨by omega, by omega⟩) dX1_tryRedemption_80 (fun v_97 hv_97 => ?_)
                  obtain ⟨a_98, rfl, ka_98⟩ := tt_vr hv_97
                  refine jj_aload C dX1_tryRedemption_81 rfl ?_
                  refine jj_lload C dX1_tryRedemption_83 rfl ?_
                  obtain ⟨qc, gs, hqc⟩ := tt_recv (cx := []) hok_19 hk0 (by decide) rfl
                  refine tt_callV (rest := []) C (tc_X1_quote_1 hl D cA ak h0 h1 a_98 a_14 y_3 hk0 hk1 ka_98 ka_14 hok_19) [] [] rfl rfl (by decide) (by decide) (by decide) qc hqc rfl rfl jw_1832e55719 jw_b1f9248fb6 jw_6c091437de jw_944cf9c3ab jw_9a9d59d9b6 jn_X1_quote rfl (jj_le rfl) (jj_le rfl) (jj_le rfl) (jj_le rfl) (jj_le rfl) dX1_tryRedemption_85 rfl (fun _ _ _ hX => hX.elim) (fun rx pl_99 r O_102 => ?_)
                  obtain ⟨rfl, hok_100, hr_101, hfa9, hR_104⟩ := O_102
                  replace hf_6 := hr_101.at hk1 (by decide) (by decide) hf_6
                  replace hf_11 := hr_101.at hk1 (by decide) (by decide) hf_11
                  replace hf_16 := hr_101.at ka_14 (by decide) (by decide) hf_16
                  replace hf_34 := hr_101.at ka_14 (by decide) (by decide) hf_34
                  replace hf_40 := hr_101.at ka_14 (by decide) (by decide) hf_40
                  replace hf_95 := hr_101.at hk0 (by decide) (by decide) hf_95
                  replace hfr := hfr.trans (hr_101.sub (by decide))
                  replace hfa := hfa.trans (hfa9.sub (by decide))
                  obtain rfl := hR_104
                  refine jj_aload_n C dX1_tryRedemption_88 rfl ?_
                  refine tt_getF C hok_100 jk_3 0 (by decide) jw_808194b586 (t := (2, 6, 0)) hk0 (by decide) rfl rfl hf_95 dX1_tryRedemption_89 ?_
                  refine jj_iload C dX1_tryRedemption_92 rfl ?_
                  refine tt_aald C hok_100 (t := (2, 2, 0)) ka_96 (by decide) rfl rfl rfl (vp_in_iff.mpr ⟨by omega, by omega⟩) dX1_tryRedemption_94 (fun v_107 hv_107 => ?_)
                  obtain ⟨a_108, rfl, ka_108⟩ := tt_vr hv_107
                  refine jj_dup C dX1_tryRedemption_95 rfl ?_
                  refine tt_get C hok_100 jk_9 2 (by decide) jw_a25c79ea7a (t := (1, (-9223372036854775808), 9223372036854775807)) ka_108 (by decide) rfl rfl dX1_tryRedemption_96 (fun v_109 hv_109 hf_110 => ?_)
                  obtain ⟨y_111, rfl, -, -⟩ := tt_vj hv_109
                  refine jj_aload_n C dX1_tryRedemption_99 rfl ?_
                  refine tt_get C hok_100 jk_3 1 (by decide) jw_d747bb1560 (t := (1, (-9223372036854775808), 9223372036854775807)) hk0 (by decide) rfl rfl dX1_tryRedemption_100 (fun v_112 hv_112 hf_113 => ?_)
                  obtain ⟨y_114, rfl, -, -⟩ := tt_vj hv_112
                  refine jj_aload_n C dX1_tryRedemption_103 rfl ?_
                  refine tt_get C hok_100 jk_3 2 (by decide) jw_771ad03ca8 (t := (1, (-9223372036854775808), 9223372036854775807)) hk0 (by decide) rfl rfl dX1_tryRedemption_104 (fun v_115 hv_115 hf_116 => ?_)
                  obtain ⟨y_117, rfl, -, -⟩ := tt_vj hv_115
                  obtain ⟨y_118, ey_118⟩ : ∃ z : Int64, y_114 + y_117 = z := ⟨_, rfl⟩
                  refine jj_ladd (v := y_118) C dX1_tryRedemption_107 ey_118 ?_
                  obtain ⟨y_119, ey_119⟩ : ∃ z : Int64, y_111 - y_118 = z := ⟨_, rfl⟩
                  refine jj_lsub (v := y_119) C dX1_tryRedemption_108 ey_119 ?_
                  refine rl_put C hok_100 jk_9 2 (by decide) jw_a25c79ea7a (t := (1, (-9223372036854775808), 9223372036854775807)) ka_108 (by decide) rfl rfl rfl (tt_ja y_119) rfl rfl dX1_tryRedemption_109 (fun pl_120 hok_121 tr hn tl => ?_)
                  replace hf_6 := tr _ _ _ (Or.inl (tt_ne hk1 ka_108 (by decide))) hf_6
                  replace hf_11 := tr _ _ _ (Or.inl (tt_ne hk1 ka_108 (by decide))) hf_11
                  replace hf_16 := tr _ _ _ (Or.inl (tt_ne ka_14 ka_108 (by decide))) hf_16
                  replace hf_34 := tr _ _ _ (Or.inl (tt_ne ka_14 ka_108 (by decide))) hf_34
                  replace hf_40 := tr _ _ _ (Or.inl (tt_ne ka_14 ka_108 (by decide))) hf_40
                  replace hf_95 := tr _ _ _ (Or.inl (tt_ne hk0 ka_108 (by decide))) hf_95
                  replace hf_113 := tr _ _ _ (Or.inl (tt_ne hk0 ka_108 (by decide))) hf_113
                  replace hf_116 := tr _ _ _ (Or.inl (tt_ne hk0 ka_108 (by decide))) hf_116
                  have hf_122 := hn
                  replace hfr := hfr.put ka_108 tr (by decide)
                  replace hfa := hfa.all tl
                  refine jj_aload_n C dX1_tryRedemption_112 rfl ?_
                  refine tt_getF C hok_121 jk_3 0 (by decide) jw_808194b586 (t := (2, 6, 0)) hk0 (by decide) rfl rfl hf_95 dX1_tryRedemption_113 ?_
                  refine jj_iload C dX1_tryRedemption_116 rfl ?_
                  refine tt_aald C hok_121 (t := (2, 2, 0)) ka_96 (by decide) rfl rfl rfl (vp_in_iff.mpr ⟨by omega, by omega⟩) dX1_tryRedemption_118 (fun v_123 hv_123 => ?_)
                  obtain ⟨a_124, rfl, ka_124⟩ := tt_vr hv_123
                  refine jj_dup C dX1_tryRedemption_119 rfl ?_
                  refine tt_get C hok_121 jk_9 3 (by decide) jw_df3b225d28 (t := (1, (-9223372036854775808), 9223372036854775807)) ka_124 (by decide) rfl rfl dX1_tryRedemption_120 (fun v_125 hv_125 hf_126 => ?_)
                  obtain ⟨y_127, rfl, -, -⟩ := tt_vj hv_125
                  refine jj_lload C dX1_tryRedemption_123 rfl ?_
                  obtain ⟨y_128, ey_128⟩ : ∃ z : Int64, y_127 - y_3 = z := ⟨_, rfl⟩
                  refine jj_lsub (v := y_128) C dX1_tryRedemption_125 ey_128 ?_
                  refine rl_put C hok_121 jk_9 3 (by decide) jw_df3b225d28 (t := (1, (-9223372036854775808), 9223372036854775807)) ka_124 (by decide) rfl rfl rfl (tt_ja y_128) rfl rfl dX1_tryRedemption_126 (fun pl_129 hok_130 tr hn tl => ?_)
                  replace hf_6 := tr _ _ _ (Or.inl (tt_ne hk1 ka_124 (by decide))) hf_6
                  replace hf_11 := tr _ _ _ (Or.inl (tt_ne hk1 ka_124 (by decide))) hf_11
                  replace hf_16 := tr _ _ _ (Or.inl (tt_ne ka_14 ka_124 (by decide))) hf_16
                  replace hf_34 := tr _ _ _ (Or.inl (tt_ne ka_14 ka_124 (by decide))) hf_34
                  replace hf_40 := tr _ _ _ (Or.inl (tt_ne ka_14 ka_124 (by decide))) hf_40
                  replace hf_95 := tr _ _ _ (Or.inl (tt_ne hk0 ka_124 (by decide))) hf_95
                  replace hf_113 := tr _ _ _ (Or.inl (tt_ne hk0 ka_124 (by decide))) hf_113
                  replace hf_116 := tr _ _ _ (Or.inl (tt_ne hk0 ka_124 (by decide))) hf_116
                  replace hf_122 := tr _ _ _ (Or.inr (by decide)) hf_122
                  have hf_131 := hn
                  replace hfr := hfr.put ka_124 tr (by decide)
                  replace hfa := hfa.all tl
                  refine jj_lload C dX1_tryRedemption_129 rfl ?_
                  refine jj_lload C dX1_tryRedemption_131 rfl ?_
                  obtain ⟨y_132, ey_132⟩ : ∃ z : Int64, y_3 - y_3 = z := ⟨_, rfl⟩
                  refine jj_lsub (v := y_132) C dX1_tryRedemption_133 ey_132 ?_
                  refine jj_lstore C dX1_tryRedemption_134 (by decide) rfl ?_
                  refine jj_lload C dX1_tryRedemption_136 rfl ?_
                  refine jj_iload C dX1_tryRedemption_138 rfl ?_
                  refine jj_if_eqF (tgt := 160) C dX1_tryRedemption_140 (by decide) (by decide) ?_
                  refine jj_aload_n C dX1_tryRedemption_143 rfl ?_
                  refine tt_getF C hok_130 jk_3 1 (by decide) jw_d747bb1560 (t := (1, (-9223372036854775808), 9223372036854775807)) hk0 (by decide) rfl rfl hf_113 dX1_tryRedemption_144 ?_
                  refine jj_aload_n C dX1_tryRedemption_147 rfl ?_
                  refine tt_get C hok_130 jk_3 4 (by decide) jw_21f29d6c44 (t := (1, (-9223372036854775808), 9223372036854775807)) hk0 (by decide) rfl rfl dX1_tryRedemption_148 (fun v_133 hv_133 hf_134 => ?_)
                  obtain ⟨y_135, rfl, -, -⟩ := tt_vj hv_133
                  obtain ⟨y_136, ey_136⟩ : ∃ z : Int64, y_114 + y_135 = z := ⟨_, rfl⟩
                  refine jj_ladd (v := y_136) C dX1_tryRedemption_151 ey_136 ?_
                  refine jj_aload_n C dX1_tryRedemption_152 rfl ?_
                  refine tt_get C hok_130 jk_3 5 (by decide) jw_e41f55c9ce (t := (1, (-9223372036854775808), 9223372036854775807)) hk0 (by decide) rfl rfl dX1_tryRedemption_153 (fun v_137 hv_137 hf_138 => ?_)
                  obtain ⟨y_139, rfl, -, -⟩ := tt_vj hv_137
                  obtain ⟨y_140, ey_140⟩ : ∃ z : Int64, y_136 - y_139 = z := ⟨_, rfl⟩
                  refine jj_lsub (v := y_140) C dX1_tryRedemption_156 ey_140 ?_
                  refine jj_goto (tgt := 164) C dX1_tryRedemption_157 (by decide) ?_
                  obtain ⟨y_141, ey_141⟩ : ∃ z : Int64, y_4 + y_140 = z := ⟨_, rfl⟩
                  refine jj_ladd (v := y_141) C dX1_tryRedemption_164 ey_141 ?_
                  refine jj_lstore C dX1_tryRedemption_165 (by decide) rfl ?_
                  obtain ⟨x_142, ex_142, vx_142⟩ := tt_inc (x := x_2) (n := 1) (by omega) (by omega)
                  refine jj_iinc (v := x_142) C dX1_tryRedemption_167 rfl ex_142 (by decide) rfl ?_
                  refine jj_goto (tgt := 9) C dX1_tryRedemption_170 (by decide) ?_
                  refine jj_loc [0, 2, 1, 6, 7, 8, 9, 10] rfl ?_
                  exact ihL_1 pl_129 x_142 y_132 y_141 hok_130 hfr hfa (by first | omega | decide | exact tt_lo _ | exact tt_hi _) (by first | omega | decide | exact tt_lo _ | exact tt_hi _) (by first | omega | decide | exact tt_lo _ | exact tt_hi _)
  exact hL_1 _ pl0 (0 : Int32) (9223372036854775807 : Int64) (0 : Int64) trivial hok hfr hfa (by first | omega | decide | exact tt_lo _ | exact tt_hi _) (by first | omega | decide | exact tt_lo _ | exact tt_hi _) (Int.self_le_toNat _)

