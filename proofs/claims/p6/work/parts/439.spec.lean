theorem jw_c6fa4608ab : Cond.methodLink RX11 189 yX11_subscribeTo ∈ jj_G := jj_t7 (List.mem_of_getElem? (i := 116) (by decide +kernel)) rfl
theorem jw_2e901c2d39 : Cond.instanceMethod yX11_subscribeTo ∈ jj_G := jj_t7 (List.mem_of_getElem? (i := 118) (by decide +kernel)) rfl
theorem jw_9307c7cf7b : Cond.selects RX11 yX11_subscribeTo yX11_subscribeTo ∈ jj_G := jj_pv (q := (yX11_subscribeTo, 25)) (by decide +kernel)
theorem jn_X11_subscribeTo : jj_N yX11_subscribeTo 2 := by unfold jj_N; decide +kernel
theorem jw_6f4117bb9f : Cond.code yX11_subscribeAll cX11_subscribeAll 4 none ∈ jj_G := jj_t7 (List.mem_of_getElem? (i := 115) (by decide +kernel)) rfl

set_option maxHeartbeats 4000000 in
set_option maxRecDepth 100000 in
theorem rs_subscribeAll {l : Launch} (hl : l.stackTraces = false) (D : va_G) (cA : Nat → ClassId) (ak : (Nat → Nat) × (Nat → Nat)) {Kd : Nat → Nat} {h0 aw aa at0 ai af ap : Nat} (ad : Nat) (fd : Nat → Int32) (B : Int) (f : Nat → Int64) (hk0 : Kd h0 = 1) (hkw : Kd aw = 2) (hka : Kd aa = 3) (hkt : Kd at0 = 4) (hki : Kd ai = 5) (hkf : Kd af = 6) (hkp : Kd ap = 7) (hkd : Kd ad = 9) (hI : rl_I B f) (hP : rl_P f) (hB : B + 360000000 ≤ 43920000000) (h9 : 0 ≤ (f 9).toInt ∧ (f 9).toInt < 4611686018427387000) (hdn : rl_dn f fd (rnR f)) {pl0 : va_W} (hok : tt_ok rt_tk cA Kd pl0) (hm : rl_m pl0 h0 aw aa at0 ai af ap) (hC : tt_lc pl0 aw f) (hd : tt_at pl0 h0 11 (.ref ad)) (hdc : tt_ic pl0 ad fd) : jj_M l D cA ak yX11_subscribeAll (.code yX11_subscribeAll cX11_subscribeAll 4 none) 3 74 0 0 ([] ++ pl0) [.ref h0] (tt_O (fun rx pl1 r => rx = [] ∧ tt_ok rt_tk cA Kd pl1 ∧ tt_fr Kd [] pl0 pl1 ∧ tt_fa Kd [2, 9] pl0 pl1 ∧ ((∃ (g : Nat → Int64) (gd : Nat → Int32), tt_lc pl1 aw g ∧ tt_at pl1 h0 11 (.ref ad) ∧ tt_ic pl1 ad gd ∧ rl_SA B f g fd gd (rnR f) ∧ r = none)))) (tt_OX (fun _ _ _ => False)) := by
  refine jj_start hl (by decide) jw_6f4117bb9f (jj_le rfl) ?_
  intro p e s m args below meth c A hargs hA C hex hmn
  have hfr := tt_fr.refl (K := Kd) (WS := []) pl0
  have hfa := tt_fa.refl (K := Kd) (WA := [2, 9]) pl0
  have hH := hI.1.1
  obtain ⟨⟨g0a, g0b⟩, ⟨g1a, g1b⟩, ⟨g6a, g6b⟩, ⟨g7a, g7b⟩, ⟨g8a, g8b⟩⟩ := hH
  refine jj_aload_n C dX11_subscribeAll_0 rfl ?_
  refine tt_getF C hok jk_12 0 (by decide) jw_34eaf3ba8b (t := (2, 2, 0)) hk0 (by decide) rfl rfl hm.1 dX11_subscribeAll_1 ?_
  refine jj_iconst (v := 1) C dX11_subscribeAll_4 (by decide) ?_
  refine rl_lald C hok (t := (1, (-9223372036854775808), 9223372036854775807)) hkw (by decide) rfl (k := 1) (v := (f 1)) (vp_in_iff.mpr (by decide)) hC (by decide) rfl dX11_subscribeAll_5 ?_
  refine jj_lconst (v := 1) C dX11_subscribeAll_6 (by decide) ?_
  refine jj_lcmp_ne (tgt := 30) C dX11_subscribeAll_7 dX11_subscribeAll_8 (by decide) (fun c_1 => ?_) (fun c_1 => ?_)
  · have z_c_1 := jc_neqL (a := (f 1).toInt) (b := 1) c_1 rfl (by decide)
    refine jj_iconst (v := (-1)) C dX11_subscribeAll_30 (by decide) ?_
    refine jj_istore_n C dX11_subscribeAll_31 (by decide) rfl ?_
    refine jj_iconst (v := 0) C dX11_subscribeAll_32 (by decide) ?_
    refine jj_istore_n C dX11_subscribeAll_33 (by decide) rfl ?_
    have hL_2 : ∀ (N : Nat) (pl : va_W) (k_3 : Nat) (x_4 : Int32) (fd_5 : Nat → Int32) (g_6 : Nat → Int64), True → tt_ok rt_tk cA Kd pl → tt_fr Kd [] pl0 pl → tt_fa Kd [2, 9] pl0 pl → rl_m pl h0 aw aa at0 ai af ap → tt_at pl h0 11 (.ref ad) → tt_ic pl ad fd_5 → True → tt_lc pl aw g_6 → rl_SA B f g_6 fd fd_5 k_3 → (0 : Int) ≤ (k_3 : Int) → (k_3 : Int) ≤ 12 → (-1 : Int) ≤ x_4.toInt → x_4.toInt ≤ 399 → (rl_SS g_6 x_4 k_3 ∧ ((k_3 : Nat) : Int) ≤ (g_6 8).toInt) → (2147483648 - (k_3 : Int) ≤ (N : Int)) → jj_J p l e (jj_rm 3 74 0 0) s m args below meth c 4 A (vx_MQ below (jj_q D A (tt_O (fun rx pl1 r => rx = [] ∧ tt_ok rt_tk cA Kd pl1 ∧ tt_fr Kd [] pl0 pl1 ∧ tt_fa Kd [2, 9] pl0 pl1 ∧ ((∃ (g : Nat → Int64) (gd : Nat → Int32), tt_lc pl1 aw g ∧ tt_at pl1 h0 11 (.ref ad) ∧ tt_ic pl1 ad gd ∧ rl_SA B f g fd gd (rnR f) ∧ r = none))))) (jj_x D A (tt_OX (fun _ _ _ => False))) args s 0 0 A) (jj_X D A ([] ++ pl)) 0 0 34 [(2, .int (nI k_3)), (1, .int x_4), (0, .ref h0)] [] := by
      intro NL_2
      induction NL_2 with
      | zero => intro pl k_3 x_4 fd_5 g_6 _ hok hfr hfa hm hf_7 hG_8 hE_9 hC_10 hD_11 lk_3 uk_3 lx_4 ux_4 hS9 hNL_2; exfalso; omega
      | succ NL_2 ihL_2 =>
        intro pl k_3 x_4 fd_5 g_6 _ hok hfr hfa hm hf_7 hG_8 hE_9 hC_10 hD_11 lk_3 uk_3 lx_4 ux_4 hS9 hNL_2
        replace ihL_2 := fun pl k_3 x_4 fd_5 g_6 h1 => ihL_2 pl k_3 x_4 fd_5 g_6 trivial h1
        obtain ⟨⟨g0ag_6, g0bg_6⟩, ⟨g1ag_6, g1bg_6⟩, ⟨g6ag_6, g6bg_6⟩, ⟨g7ag_6, g7bg_6⟩, ⟨g8ag_6, g8bg_6⟩⟩ := (hD_11.1).1.1
        refine jj_iload_n C dX11_subscribeAll_34 rfl ?_
        refine jj_i2l C dX11_subscribeAll_35 rfl ?_
        refine jj_aload_n C dX11_subscribeAll_36 rfl ?_
        refine tt_getF C hok jk_12 0 (by decide) jw_34eaf3ba8b (t := (2, 2, 0)) hk0 (by decide) rfl rfl hm.1 dX11_subscribeAll_37 ?_
        refine jj_bipush (v := 8) C dX11_subscribeAll_40 (by decide) ?_
        refine rl_lald C hok (t := (1, (-9223372036854775808), 9223372036854775807)) hkw (by decide) rfl (k := 8) (v := (g_6 8)) (vp_in_iff.mpr (by decide)) hC_10 (by decide) rfl dX11_subscribeAll_42 ?_
        refine jj_lcmp_ge (tgt := 88) C dX11_subscribeAll_43 dX11_subscribeAll_44 (by decide) (fun c_12 => ?_) (fun c_12 => ?_)
        · have z_c_12 := jc_leL (a := (g_6 8).toInt) (b := ((k_3 : Nat) : Int)) c_12 rfl (rl_tl (by omega))
          exact jj_vret C ⟨[], pl, rfl, rfl, hok, hfr, hfa, ⟨g_6, fd_5, hC_10, hf_7, hG_8, (by have e8 := congrArg Int64.toInt (hD_11.2.2.2.1 8 (by decide) (by decide) (by decide) (by decide)); have e7 : rnR f = k_3 := (by unfold rnR; omega); rw [e7]; exact hD_11), rfl⟩⟩ dX11_subscribeAll_88 (jj_le rfl) (jj_le rfl)
        · have z_c_12 := jc_nleL (a := (g_6 8).toInt) (b := ((k_3 : Nat) : Int)) c_12 rfl (rl_tl (by omega))
          refine jj_aload_n C dX11_subscribeAll_47 rfl ?_
          refine jj_iload_n C dX11_subscribeAll_48 rfl ?_
          obtain ⟨qc, gs, hqc⟩ := tt_recv (cx := []) hok hk0 (by decide) rfl
          refine tt_callV (rest := []) C (rs_isRedemption hl D cA ak k_3 g_6 hk0 hkw hka hkt hki hkf hkp (by omega) hok hm hC_10) [] [] rfl rfl (by decide) (by decide) (by decide) qc hqc rfl rfl jw_4afadc9e32 jw_d8b192ed60 jw_21f07d63b9 jw_f96c99f44d jw_978e8f4c07 jn_X11_isRedemption rfl (jj_le rfl) (jj_le rfl) (jj_le rfl) (jj_le rfl) (jj_le rfl) dX11_subscribeAll_49 rfl (fun _ _ _ hX => hX.elim) (fun rx pl_13 r O_17 => ?_)
          obtain ⟨rfl, hok_14, hr_15, ha_16, hR_18⟩ := O_17
          replace hf_7 := hr_15.at hk0 (by decide) (by decide) hf_7
          replace hC_10 := ha_16.at hkw (by decide) (by decide) hC_10
          replace hG_8 := ha_16.at hkd (by decide) (by decide) hG_8
          replace hm := hm.fr hr_15 hk0 rfl
          replace hfr := hfr.trans (hr_15.sub (by decide))
          replace hfa := hfa.trans (ha_16.sub (by decide))
          rcases hR_18 with ⟨c_19, rfl⟩ | ⟨c_20, rfl⟩
          · refine jj_if_eqT (tgt := 58) C dX11_subscribeAll_52 (by decide) (by decide) ?_
            refine jj_aload_n C dX11_subscribeAll_58 rfl ?_
            refine jj_iload_n C dX11_subscribeAll_59 rfl ?_
            refine jj_iload_n C dX11_subscribeAll_60 rfl ?_
            rcases hS9.1 with ⟨e_21, e_22⟩ | ⟨k_24, e_21, e_22, e_23⟩
            · rw [e_21]
              obtain ⟨qc, gs, hqc⟩ := tt_recv (cx := []) hok_14 hk0 (by decide) rfl
              refine tt_callV (rest := []) C (rs_subOpen hl D cA ak k_3 (B + 30000000 * ((k_3 : Nat) : Int)) (B + 30000000 * ((1 + k_3 : Nat) : Int)) g_6 hk0 hkw hka hkt hki hkf hkp (by omega) hD_11.1 hD_11.2.1 (by omega) (hD_11.1.sub0 (by unfold rnR; omega) c_19).2 (by have q8 := hD_11.1.2.2.2.2.2.2.2; have q7 := (hD_11.1.sub0 (by unfold rnR; omega) c_19).2; omega) e_22 (by have q9 := hD_11.2.2.2.2.2.1; omega) hok_14 hm hC_10) [] [] rfl rfl (by decide) (by decide) (by decide) qc hqc rfl rfl jw_c6fa4608ab jw_2e901c2d39 jw_9307c7cf7b jw_f96c99f44d jw_0bdec3858a jn_X11_subscribeTo rfl (jj_le rfl) (jj_le rfl) (jj_le rfl) (jj_le rfl) (jj_le rfl) dX11_subscribeAll_61 rfl (fun _ _ _ hX => hX.elim) (fun rx pl_25 r O_29 => ?_)
              obtain ⟨rfl, hok_26, hr_27, ha_28, hR_30⟩ := O_29
              replace hf_7 := hr_27.at hk0 (by decide) (by decide) hf_7
              replace hG_8 := ha_28.at hkd (by decide) (by decide) hG_8
              replace hm := hm.fr hr_27 hk0 rfl
              replace hfr := hfr.trans (hr_27.sub (by decide))
              replace hfa := hfa.trans (ha_28.sub (by decide))
              rcases hR_30 with ⟨hC_31, rfl⟩ | ⟨g_32, n_33, hs_36, hs_37, hC_34, hI_35, hs_38, hs_39, hs_40, hs_41, hs_42, hs_43, hs_44, rfl⟩
              · refine jj_istore_n C dX11_subscribeAll_64 (by decide) rfl ?_
                refine jj_iload_n C dX11_subscribeAll_65 rfl ?_
                refine jj_iconst (v := (-1)) C dX11_subscribeAll_66 (by decide) ?_
                refine jj_icmp_neF (tgt := 73) C dX11_subscribeAll_67 (by decide) (by decide) ?_
                refine jj_goto (tgt := 82) C dX11_subscribeAll_70 (by decide) ?_
                refine jj_iinc (v := nI (1 + k_3)) C dX11_subscribeAll_82 rfl (rl_addR (kn := 1) (by decide) (by omega)) (by decide) rfl ?_
                refine jj_goto (tgt := 34) C dX11_subscribeAll_85 (by decide) ?_
                refine jj_loc [0, 2, 3] rfl ?_
                exact ihL_2 pl_25 (1 + k_3) ((-1) : Int32) fd_5 g_6 hok_26 hfr hfa hm hf_7 hG_8 trivial hC_31 (hD_11.skip (fun z => hdn _ (by have e8 := congrArg Int64.toInt (hD_11.2.2.2.1 8 (by decide) (by decide) (by decide) (by decide)); unfold rnR; omega) (fun w => absurd z (by rw [w]; decide)))) (by first | omega | decide | exact tt_lo _ | exact tt_hi _) (by first | omega | decide | exact tt_lo _ | exact tt_hi _) (by first | omega | decide | exact tt_lo _ | exact tt_hi _) (by first | omega | decide | exact tt_lo _ | exact tt_hi _) ⟨rl_SS.next (Or.inl ⟨rfl, e_22⟩), by omega⟩ (by first | omega | decide | exact tt_lo _ | exact tt_hi _)
              · obtain ⟨⟨g0ag_32, g0bg_32⟩, ⟨g1ag_32, g1bg_32⟩, ⟨g6ag_32, g6bg_32⟩, ⟨g7ag_32, g7bg_32⟩, ⟨g8ag_32, g8bg_32⟩⟩ := hI_35.1.1
                refine jj_istore_n C dX11_subscribeAll_64 (by decide) rfl ?_
                refine jj_iload_n C dX11_subscribeAll_65 rfl ?_
                refine jj_iconst (v := (-1)) C dX11_subscribeAll_66 (by decide) ?_
                refine jj_icmp_ne (tgt := 73) C dX11_subscribeAll_67 (by decide) (fun c_45 => ?_) (fun c_45 => ?_)
                · have z_c_45 := jc_neq (a := ((16 + 5 * n_33 : Nat) : Int)) (b := (-1)) c_45 (rl_ti (by omega)) (by decide)
                  refine jj_iload_n C dX11_subscribeAll_73 rfl ?_
                  refine jj_istore_n C dX11_subscribeAll_74 (by decide) rfl ?_
                  refine jj_aload_n C dX11_subscribeAll_75 rfl ?_
                  refine tt_getF C hok_26 jk_12 11 (by decide) jw_dca952cae2 (t := (2, 9, 0)) hk0 (by decide) rfl rfl hf_7 dX11_subscribeAll_76 ?_
                  refine jj_iload_n C dX11_subscribeAll_79 rfl ?_
                  refine jj_iconst (v := 1) C dX11_subscribeAll_80 (by decide) ?_
                  refine rl_zast C hok_26 (t := (0, (-2147483648), 2147483647)) hkd (by decide) rfl (vp_in_nI (by omega) (by decide)) (tt_ia _) dX11_subscribeAll_81 (fun pl_46 hok_47 tr tl tw => ?_)
                  replace hf_7 := tr _ _ _ hf_7
                  replace hm := hm.arr tr
                  replace hfr := hfr.arr tr
                  replace hC_34 := tl _ _ (tt_ne hkw hkd (by decide)) hC_34
                  replace hG_8 := tw _ hG_8
                  replace hfa := hfa.wr hkd tl (by decide)
                  refine jj_iinc (v := nI (1 + k_3)) C dX11_subscribeAll_82 rfl (rl_addR (kn := 1) (by decide) (by omega)) (by decide) rfl ?_
                  refine jj_goto (tgt := 34) C dX11_subscribeAll_85 (by decide) ?_
                  refine jj_loc [0, 1, 3] rfl ?_
                  exact ihL_2 pl_46 (1 + k_3) (nI (16 + 5 * n_33)) (upd fd_5 (nI k_3).toNatClampNeg (vp_nar .boolean (1 : Int32))) g_32 hok_47 hfr hfa hm hf_7 hG_8 trivial hC_34 (hD_11.put (by omega) (by rw [← hD_11.2.2.2.2.1 _ (by omega)]; exact (rl_I.sub0 hD_11.1 (by unfold rnR; omega) c_19).1) hI_35 hs_38 hs_39 (fun i a b c d => hs_40 i b c d (by omega) (by omega) (by omega)) (fun i a => hs_40 i (by omega) (by omega) (by omega) (by omega) (by omega) (by omega)) ⟨by omega, by omega⟩ (by decide)) (by first | omega | decide | (rw [rl_ti (by omega)]; omega) | exact tt_lo _ | exact tt_hi _) (by first | omega | decide | (rw [rl_ti (by omega)]; omega) | exact tt_lo _ | exact tt_hi _) (by first | omega | decide | (rw [rl_ti (by omega)]; omega) | exact tt_lo _ | exact tt_hi _) (by first | omega | decide | (rw [rl_ti (by omega)]; omega) | exact tt_lo _ | exact tt_hi _) ⟨rl_SS.opn hs_36 hs_41.1 hs_42 hs_43 hs_44, by have e8 := congrArg Int64.toInt (hs_40 8 (by decide) (by decide) (by decide) (by decide) (by omega) (by omega)); omega⟩ (by first | omega | decide | exact tt_lo _ | exact tt_hi _)
                · have z_c_45 := jc_eq (a := ((16 + 5 * n_33 : Nat) : Int)) (b := (-1)) c_45 (rl_ti (by omega)) (by decide)
                  exfalso; omega
            · rw [e_21]
              have hk_24 : k_24 < 6 := by unfold rnS at e_22; omega
              obtain ⟨qc, gs, hqc⟩ := tt_recv (cx := []) hok_14 hk0 (by decide) rfl
              refine tt_callV (rest := []) C (rs_subIn hl D cA ak k_24 k_3 (B + 30000000 * ((k_3 : Nat) : Int)) (B + 30000000 * ((1 + k_3 : Nat) : Int)) g_6 hk0 hkw hka hkt hki hkf hkp (by omega) hD_11.1 hD_11.2.1 (by omega) (hD_11.1.sub0 (by unfold rnR; omega) c_19).2 (by have q8 := hD_11.1.2.2.2.2.2.2.2; have q7 := (hD_11.1.sub0 (by unfold rnR; omega) c_19).2; omega) e_22 (fun z => by have q9 := e_23 z; exact ⟨q9.1, by omega, by omega⟩) hok_14 hm hC_10) [] [] rfl rfl (by decide) (by decide) (by decide) qc hqc rfl rfl jw_c6fa4608ab jw_2e901c2d39 jw_9307c7cf7b jw_f96c99f44d jw_0bdec3858a jn_X11_subscribeTo rfl (jj_le rfl) (jj_le rfl) (jj_le rfl) (jj_le rfl) (jj_le rfl) dX11_subscribeAll_61 rfl (fun _ _ _ hX => hX.elim) (fun rx pl_48 r O_52 => ?_)
              obtain ⟨rfl, hok_49, hr_50, ha_51, hR_53⟩ := O_52
              replace hf_7 := hr_50.at hk0 (by decide) (by decide) hf_7
              replace hG_8 := ha_51.at hkd (by decide) (by decide) hG_8
              replace hm := hm.fr hr_50 hk0 rfl
              replace hfr := hfr.trans (hr_50.sub (by decide))
              replace hfa := hfa.trans (ha_51.sub (by decide))
              rcases hR_53 with ⟨hC_54, rfl⟩ | ⟨g_55, hC_56, hI_57, hs_58, hs_59, hs_60, hs_61, hs_62, rfl⟩
              · refine jj_istore_n C dX11_subscribeAll_64 (by decide) rfl ?_
                refine jj_iload_n C dX11_subscribeAll_65 rfl ?_
                refine jj_iconst (v := (-1)) C dX11_subscribeAll_66 (by decide) ?_
                refine jj_icmp_neF (tgt := 73) C dX11_subscribeAll_67 (by decide) (by decide) ?_
                refine jj_goto (tgt := 82) C dX11_subscribeAll_70 (by decide) ?_
                refine jj_iinc (v := nI (1 + k_3)) C dX11_subscribeAll_82 rfl (rl_addR (kn := 1) (by decide) (by omega)) (by decide) rfl ?_
                refine jj_goto (tgt := 34) C dX11_subscribeAll_85 (by decide) ?_
                refine jj_loc [0, 2, 3] rfl ?_
                exact ihL_2 pl_48 (1 + k_3) (nI (16 + 5 * k_24)) fd_5 g_6 hok_49 hfr hfa hm hf_7 hG_8 trivial hC_54 (hD_11.skip (fun z => hdn _ (by have e8 := congrArg Int64.toInt (hD_11.2.2.2.1 8 (by decide) (by decide) (by decide) (by decide)); unfold rnR; omega) (fun w => absurd z (by rw [w]; decide)))) (by first | omega | decide | (rw [rl_ti (by omega)]; omega) | exact tt_lo _ | exact tt_hi _) (by first | omega | decide | (rw [rl_ti (by omega)]; omega) | exact tt_lo _ | exact tt_hi _) (by first | omega | decide | (rw [rl_ti (by omega)]; omega) | exact tt_lo _ | exact tt_hi _) (by first | omega | decide | (rw [rl_ti (by omega)]; omega) | exact tt_lo _ | exact tt_hi _) ⟨rl_SS.next (Or.inr ⟨k_24, rfl, e_22, e_23⟩), by omega⟩ (by first | omega | decide | exact tt_lo _ | exact tt_hi _)
              · obtain ⟨⟨g0ag_55, g0bg_55⟩, ⟨g1ag_55, g1bg_55⟩, ⟨g6ag_55, g6bg_55⟩, ⟨g7ag_55, g7bg_55⟩, ⟨g8ag_55, g8bg_55⟩⟩ := hI_57.1.1
                refine jj_istore_n C dX11_subscribeAll_64 (by decide) rfl ?_
                refine jj_iload_n C dX11_subscribeAll_65 rfl ?_
                refine jj_iconst (v := (-1)) C dX11_subscribeAll_66 (by decide) ?_
                refine jj_icmp_ne (tgt := 73) C dX11_subscribeAll_67 (by decide) (fun c_63 => ?_) (fun c_63 => ?_)
                · have z_c_63 := jc_neq (a := ((16 + 5 * k_24 : Nat) : Int)) (b := (-1)) c_63 (rl_ti (by omega)) (by decide)
                  refine jj_iload_n C dX11_subscribeAll_73 rfl ?_
                  refine jj_istore_n C dX11_subscribeAll_74 (by decide) rfl ?_
                  refine jj_aload_n C dX11_subscribeAll_75 rfl ?_
                  refine tt_getF C hok_49 jk_12 11 (by decide) jw_dca952cae2 (t := (2, 9, 0)) hk0 (by decide) rfl rfl hf_7 dX11_subscribeAll_76 ?_
                  refine jj_iload_n C dX11_subscribeAll_79 rfl ?_
                  refine jj_iconst (v := 1) C dX11_subscribeAll_80 (by decide) ?_
                  refine rl_zast C hok_49 (t := (0, (-2147483648), 2147483647)) hkd (by decide) rfl (vp_in_nI (by omega) (by decide)) (tt_ia _) dX11_subscribeAll_81 (fun pl_64 hok_65 tr tl tw => ?_)
                  replace hf_7 := tr _ _ _ hf_7
                  replace hm := hm.arr tr
                  replace hfr := hfr.arr tr
                  replace hC_56 := tl _ _ (tt_ne hkw hkd (by decide)) hC_56
                  replace hG_8 := tw _ hG_8
                  replace hfa := hfa.wr hkd tl (by decide)
                  refine jj_iinc (v := nI (1 + k_3)) C dX11_subscribeAll_82 rfl (rl_addR (kn := 1) (by decide) (by omega)) (by decide) rfl ?_
                  refine jj_goto (tgt := 34) C dX11_subscribeAll_85 (by decide) ?_
                  refine jj_loc [0, 1, 3] rfl ?_
                  exact ihL_2 pl_64 (1 + k_3) (nI (16 + 5 * k_24)) (upd fd_5 (nI k_3).toNatClampNeg (vp_nar .boolean (1 : Int32))) g_55 hok_65 hfr hfa hm hf_7 hG_8 trivial hC_56 (hD_11.put (by omega) (by rw [← hD_11.2.2.2.2.1 _ (by omega)]; exact (rl_I.sub0 hD_11.1 (by unfold rnR; omega) c_19).1) hI_57 hs_58 hs_59 (fun i a b c d => hs_60 i c (by omega) (by omega) (by omega)) (fun i a => hs_60 i (by omega) (by omega) (by omega) (by omega)) (by rw [hs_60 9 (by decide) (by decide) (by omega) (by omega)]; exact ⟨by omega, by omega⟩) (by decide)) (by first | omega | decide | (rw [rl_ti (by omega)]; omega) | exact tt_lo _ | exact tt_hi _) (by first | omega | decide | (rw [rl_ti (by omega)]; omega) | exact tt_lo _ | exact tt_hi _) (by first | omega | decide | (rw [rl_ti (by omega)]; omega) | exact tt_lo _ | exact tt_hi _) (by first | omega | decide | (rw [rl_ti (by omega)]; omega) | exact tt_lo _ | exact tt_hi _) ⟨rl_SS.inn (by omega) e_22 e_23 hs_60 hs_61 hs_62, by have e8 := congrArg Int64.toInt (hs_60 8 (by decide) (by decide) (by omega) (by omega)); omega⟩ (by first | omega | decide | exact tt_lo _ | exact tt_hi _)
                · have z_c_63 := jc_eq (a := ((16 + 5 * k_24 : Nat) : Int)) (b := (-1)) c_63 (rl_ti (by omega)) (by decide)
                  exfalso; omega
          · refine jj_if_eqF (tgt := 58) C dX11_subscribeAll_52 (by decide) (by decide) ?_
            refine jj_goto (tgt := 82) C dX11_subscribeAll_55 (by decide) ?_
            refine jj_iinc (v := nI (1 + k_3)) C dX11_subscribeAll_82 rfl (rl_addR (kn := 1) (by decide) (by omega)) (by decide) rfl ?_
            refine jj_goto (tgt := 34) C dX11_subscribeAll_85 (by decide) ?_
            exact ihL_2 pl_13 (1 + k_3) x_4 fd_5 g_6 hok_14 hfr hfa hm hf_7 hG_8 trivial hC_10 (hD_11.skip (fun z => absurd z (by rw [← hD_11.2.2.2.2.1 _ (by omega), c_20]; decide))) (by first | omega | decide | exact tt_lo _ | exact tt_hi _) (by first | omega | decide | exact tt_lo _ | exact tt_hi _) (by first | omega | decide | exact tt_lo _ | exact tt_hi _) (by first | omega | decide | exact tt_lo _ | exact tt_hi _) ⟨hS9.1.next, by omega⟩ (by first | omega | decide | exact tt_lo _ | exact tt_hi _)
    exact hL_2 _ pl0 0 ((-1) : Int32) fd f trivial hok hfr hfa hm hd hdc trivial hC (rl_SA.init hI hP fd) (by first | omega | decide | exact tt_lo _ | exact tt_hi _) (by first | omega | decide | exact tt_lo _ | exact tt_hi _) (by first | omega | decide | exact tt_lo _ | exact tt_hi _) (by first | omega | decide | exact tt_lo _ | exact tt_hi _) ⟨Or.inl ⟨rfl, fun z => by omega⟩, by omega⟩ (Int.self_le_toNat _)
  · have z_c_1 := jc_eqL (a := (f 1).toInt) (b := 1) c_1 rfl (by decide)
    refine jj_aload_n C dX11_subscribeAll_11 rfl ?_
    refine tt_getF C hok jk_12 0 (by decide) jw_34eaf3ba8b (t := (2, 2, 0)) hk0 (by decide) rfl rfl hm.1 dX11_subscribeAll_12 ?_
    refine jj_bipush (v := 6) C dX11_subscribeAll_15 (by decide) ?_
    refine rl_lald C hok (t := (1, (-9223372036854775808), 9223372036854775807)) hkw (by decide) rfl (k := 6) (v := (f 6)) (vp_in_iff.mpr (by decide)) hC (by decide) rfl dX11_subscribeAll_17 ?_
    refine jj_lconst (v := 0) C dX11_subscribeAll_18 (by decide) ?_
    refine jj_lcmp_le (tgt := 30) C dX11_subscribeAll_19 dX11_subscribeAll_20 (by decide) (fun c_66 => ?_) (fun c_66 => ?_)
    · have z_c_66 := jc_leL (a := (f 6).toInt) (b := 0) c_66 rfl (by decide)
      refine jj_iconst (v := (-1)) C dX11_subscribeAll_30 (by decide) ?_
      refine jj_istore_n C dX11_subscribeAll_31 (by decide) rfl ?_
      refine jj_iconst (v := 0) C dX11_subscribeAll_32 (by decide) ?_
      refine jj_istore_n C dX11_subscribeAll_33 (by decide) rfl ?_
      have hL_67 : ∀ (N : Nat) (pl : va_W) (k_68 : Nat) (x_69 : Int32) (fd_70 : Nat → Int32) (g_71 : Nat → Int64), True → tt_ok rt_tk cA Kd pl → tt_fr Kd [] pl0 pl → tt_fa Kd [2, 9] pl0 pl → rl_m pl h0 aw aa at0 ai af ap → tt_at pl h0 11 (.ref ad) → tt_ic pl ad fd_70 → True → tt_lc pl aw g_71 → rl_SA B f g_71 fd fd_70 k_68 → (0 : Int) ≤ (k_68 : Int) → (k_68 : Int) ≤ 12 → (-1 : Int) ≤ x_69.toInt → x_69.toInt ≤ 399 → (rl_SS g_71 x_69 k_68 ∧ ((k_68 : Nat) : Int) ≤ (g_71 8).toInt) → (2147483648 - (k_68 : Int) ≤ (N : Int)) → jj_J p l e (jj_rm 3 74 0 0) s m args below meth c 4 A (vx_MQ below (jj_q D A (tt_O (fun rx pl1 r => rx = [] ∧ tt_ok rt_tk cA Kd pl1 ∧ tt_fr Kd [] pl0 pl1 ∧ tt_fa Kd [2, 9] pl0 pl1 ∧ ((∃ (g : Nat → Int64) (gd : Nat → Int32), tt_lc pl1 aw g ∧ tt_at pl1 h0 11 (.ref ad) ∧ tt_ic pl1 ad gd ∧ rl_SA B f g fd gd (rnR f) ∧ r = none))))) (jj_x D A (tt_OX (fun _ _ _ => False))) args s 0 0 A) (jj_X D A ([] ++ pl)) 0 0 34 [(2, .int (nI k_68)), (1, .int x_69), (0, .ref h0)] [] := by
        intro NL_67
        induction NL_67 with
        | zero => intro pl k_68 x_69 fd_70 g_71 _ hok hfr hfa hm hf_72 hG_73 hE_74 hC_75 hD_76 lk_68 uk_68 lx_69 ux_69 hS9 hNL_67; exfalso; omega
        | succ NL_67 ihL_67 =>
          intro pl k_68 x_69 fd_70 g_71 _ hok hfr hfa hm hf_72 hG_73 hE_74 hC_75 hD_76 lk_68 uk_68 lx_69 ux_69 hS9 hNL_67
          replace ihL_67 := fun pl k_68 x_69 fd_70 g_71 h1 => ihL_67 pl k_68 x_69 fd_70 g_71 trivial h1
          obtain ⟨⟨g0ag_71, g0bg_71⟩, ⟨g1ag_71, g1bg_71⟩, ⟨g6ag_71, g6bg_71⟩, ⟨g7ag_71, g7bg_71⟩, ⟨g8ag_71, g8bg_71⟩⟩ := (hD_76.1).1.1
          refine jj_iload_n C dX11_subscribeAll_34 rfl ?_
          refine jj_i2l C dX11_subscribeAll_35 rfl ?_
          refine jj_aload_n C dX11_subscribeAll_36 rfl ?_
          refine tt_getF C hok jk_12 0 (by decide) jw_34eaf3ba8b (t := (2, 2, 0)) hk0 (by decide) rfl rfl hm.1 dX11_subscribeAll_37 ?_
          refine jj_bipush (v := 8) C dX11_subscribeAll_40 (by decide) ?_
          refine rl_lald C hok (t := (1, (-9223372036854775808), 9223372036854775807)) hkw (by decide) rfl (k := 8) (v := (g_71 8)) (vp_in_iff.mpr (by decide)) hC_75 (by decide) rfl dX11_subscribeAll_42 ?_
          refine jj_lcmp_ge (tgt := 88) C dX11_subscribeAll_43 dX11_subscribeAll_44 (by decide) (fun c_77 => ?_) (fun c_77 => ?_)
          · have z_c_77 := jc_leL (a := (g_71 8).toInt) (b := ((k_68 : Nat) : Int)) c_77 rfl (rl_tl (by omega))
            exact jj_vret C ⟨[], pl, rfl, rfl, hok, hfr, hfa, ⟨g_71, fd_70, hC_75, hf_72, hG_73, (by have e8 := congrArg Int64.toInt (hD_76.2.2.2.1 8 (by decide) (by decide) (by decide) (by decide)); have e7 : rnR f = k_68 := (by unfold rnR; omega); rw [e7]; exact hD_76), rfl⟩⟩ dX11_subscribeAll_88 (jj_le rfl) (jj_le rfl)
          · have z_c_77 := jc_nleL (a := (g_71 8).toInt) (b := ((k_68 : Nat) : Int)) c_77 rfl (rl_tl (by omega))
            refine jj_aload_n C dX11_subscribeAll_47 rfl ?_
            refine jj_iload_n C dX11_subscribeAll_48 rfl ?_
            obtain ⟨qc, gs, hqc⟩ := tt_recv (cx := []) hok hk0 (by decide) rfl
            refine tt_callV (rest := []) C (rs_isRedemption hl D cA ak k_68 g_71 hk0 hkw hka hkt hki hkf hkp (by omega) hok hm hC_75) [] [] rfl rfl (by decide) (by decide) (by decide) qc hqc rfl rfl jw_4afadc9e32 jw_d8b192ed60 jw_21f07d63b9 jw_f96c99f44d jw_978e8f4c07 jn_X11_isRedemption rfl (jj_le rfl) (jj_le rfl) (jj_le rfl) (jj_le rfl) (jj_le rfl) dX11_subscribeAll_49 rfl (fun _ _ _ hX => hX.elim) (fun rx pl_78 r O_82 => ?_)
            obtain ⟨rfl, hok_79, hr_80, ha_81, hR_83⟩ := O_82
            replace hf_72 := hr_80.at hk0 (by decide) (by decide) hf_72
            replace hC_75 := ha_81.at hkw (by decide) (by decide) hC_75
            replace hG_73 := ha_81.at hkd (by decide) (by decide) hG_73
            replace hm := hm.fr hr_80 hk0 rfl
            replace hfr := hfr.trans (hr_80.sub (by decide))
            replace hfa := hfa.trans (ha_81.sub (by decide))
            rcases hR_83 with ⟨c_84, rfl⟩ | ⟨c_85, rfl⟩
            · refine jj_if_eqT (tgt := 58) C dX11_subscribeAll_52 (by decide) (by decide) ?_
              refine jj_aload_n C dX11_subscribeAll_58 rfl ?_
              refine jj_iload_n C dX11_subscribeAll_59 rfl ?_
              refine jj_iload_n C dX11_subscribeAll_60 rfl ?_
              rcases hS9.1 with ⟨e_86, e_87⟩ | ⟨k_89, e_86, e_87, e_88⟩
              · rw [e_86]
                obtain ⟨qc, gs, hqc⟩ := tt_recv (cx := []) hok_79 hk0 (by decide) rfl
                refine tt_callV (rest := []) C (rs_subOpen hl D cA ak k_68 (B + 30000000 * ((k_68 : Nat) : Int)) (B + 30000000 * ((1 + k_68 : Nat) : Int)) g_71 hk0 hkw hka hkt hki hkf hkp (by omega) hD_76.1 hD_76.2.1 (by omega) (hD_76.1.sub0 (by unfold rnR; omega) c_84).2 (by have q8 := hD_76.1.2.2.2.2.2.2.2; have q7 := (hD_76.1.sub0 (by unfold rnR; omega) c_84).2; omega) e_87 (by have q9 := hD_76.2.2.2.2.2.1; omega) hok_79 hm hC_75) [] [] rfl rfl (by decide) (by decide) (by decide) qc hqc rfl rfl jw_c6fa4608ab jw_2e901c2d39 jw_9307c7cf7b jw_f96c99f44d jw_0bdec3858a jn_X11_subscribeTo rfl (jj_le rfl) (jj_le rfl) (jj_le rfl) (jj_le rfl) (jj_le rfl) dX11_subscribeAll_61 rfl (fun _ _ _ hX => hX.elim) (fun rx pl_90 r O_94 => ?_)
                obtain ⟨rfl, hok_91, hr_92, ha_93, hR_95⟩ := O_94
                replace hf_72 := hr_92.at hk0 (by decide) (by decide) hf_72
                replace hG_73 := ha_93.at hkd (by decide) (by decide) hG_73
                replace hm := hm.fr hr_92 hk0 rfl
                replace hfr := hfr.trans (hr_92.sub (by decide))
                replace hfa := hfa.trans (ha_93.sub (by decide))
                rcases hR_95 with ⟨hC_96, rfl⟩ | ⟨g_97, n_98, hs_101, hs_102, hC_99, hI_100, hs_103, hs_104, hs_105, hs_106, hs_107, hs_108, hs_109, rfl⟩
                · refine jj_istore_n C dX11_subscribeAll_64 (by decide) rfl ?_
                  refine jj_iload_n C dX11_subscribeAll_65 rfl ?_
                  refine jj_iconst (v := (-1)) C dX11_subscribeAll_66 (by decide) ?_
                  refine jj_icmp_neF (tgt := 73) C dX11_subscribeAll_67 (by decide) (by decide) ?_
                  refine jj_goto (tgt := 82) C dX11_subscribeAll_70 (by decide) ?_
                  refine jj_iinc (v := nI (1 + k_68)) C dX11_subscribeAll_82 rfl (rl_addR (kn := 1) (by decide) (by omega)) (by decide) rfl ?_
                  refine jj_goto (tgt := 34) C dX11_subscribeAll_85 (by decide) ?_
                  refine jj_loc [0, 2, 3] rfl ?_
                  exact ihL_67 pl_90 (1 + k_68) ((-1) : Int32) fd_70 g_71 hok_91 hfr hfa hm hf_72 hG_73 trivial hC_96 (hD_76.skip (fun z => hdn _ (by have e8 := congrArg Int64.toInt (hD_76.2.2.2.1 8 (by decide) (by decide) (by decide) (by decide)); unfold rnR; omega) (fun w => absurd z (by rw [w]; decide)))) (by first | omega | decide | exact tt_lo _ | exact tt_hi _) (by first | omega | decide | exact tt_lo _ | exact tt_hi _) (by first | omega | decide | exact tt_lo _ | exact tt_hi _) (by first | omega | decide | exact tt_lo _ | exact tt_hi _) ⟨rl_SS.next (Or.inl ⟨rfl, e_87⟩), by omega⟩ (by first | omega | decide | exact tt_lo _ | exact tt_hi _)
                · obtain ⟨⟨g0ag_97, g0bg_97⟩, ⟨g1ag_97, g1bg_97⟩, ⟨g6ag_97, g6bg_97⟩, ⟨g7ag_97, g7bg_97⟩, ⟨g8ag_97, g8bg_97⟩⟩ := hI_100.1.1
                  refine jj_istore_n C dX11_subscribeAll_64 (by decide) rfl ?_
                  refine jj_iload_n C dX11_subscribeAll_65 rfl ?_
                  refine jj_iconst (v := (-1)) C dX11_subscribeAll_66 (by decide) ?_
                  refine jj_icmp_ne (tgt := 73) C dX11_subscribeAll_67 (by decide) (fun c_110 => ?_) (fun c_110 => ?_)
                  · have z_c_110 := jc_neq (a := ((16 + 5 * n_98 : Nat) : Int)) (b := (-1)) c_110 (rl_ti (by omega)) (by decide)
                    refine jj_iload_n C dX11_subscribeAll_73 rfl ?_
                    refine jj_istore_n C dX11_subscribeAll_74 (by decide) rfl ?_
                    refine jj_aload_n C dX11_subscribeAll_75 rfl ?_
                    refine tt_getF C hok_91 jk_12 11 (by decide) jw_dca952cae2 (t := (2, 9, 0)) hk0 (by decide) rfl rfl hf_72 dX11_subscribeAll_76 ?_
                    refine jj_iload_n C dX11_subscribeAll_79 rfl ?_
                    refine jj_iconst (v := 1) C dX11_subscribeAll_80 (by decide) ?_
                    refine rl_zast C hok_91 (t := (0, (-2147483648), 2147483647)) hkd (by decide) rfl (vp_in_nI (by omega) (by decide)) (tt_ia _) dX11_subscribeAll_81 (fun pl_111 hok_112 tr tl tw => ?_)
                    replace hf_72 := tr _ _ _ hf_72
                    replace hm := hm.arr tr
                    replace hfr := hfr.arr tr
                    replace hC_99 := tl _ _ (tt_ne hkw hkd (by decide)) hC_99
                    replace hG_73 := tw _ hG_73
                    replace hfa := hfa.wr hkd tl (by decide)
                    refine jj_iinc (v := nI (1 + k_68)) C dX11_subscribeAll_82 rfl (rl_addR (kn := 1) (by decide) (by omega)) (by decide) rfl ?_
                    refine jj_goto (tgt := 34) C dX11_subscribeAll_85 (by decide) ?_
                    refine jj_loc [0, 1, 3] rfl ?_
                    exact ihL_67 pl_111 (1 + k_68) (nI (16 + 5 * n_98)) (upd fd_70 (nI k_68).toNatClampNeg (vp_nar .boolean (1 : Int32))) g_97 hok_112 hfr hfa hm hf_72 hG_73 trivial hC_99 (hD_76.put (by omega) (by rw [← hD_76.2.2.2.2.1 _ (by omega)]; exact (rl_I.sub0 hD_76.1 (by unfold rnR; omega) c_84).1) hI_100 hs_103 hs_104 (fun i a b c d => hs_105 i b c d (by omega) (by omega) (by omega)) (fun i a => hs_105 i (by omega) (by omega) (by omega) (by omega) (by omega) (by omega)) ⟨by omega, by omega⟩ (by decide)) (by first | omega | decide | (rw [rl_ti (by omega)]; omega) | exact tt_lo _ | exact tt_hi _) (by first | omega | decide | (rw [rl_ti (by omega)]; omega) | exact tt_lo _ | exact tt_hi _) (by first | omega | decide | (rw [rl_ti (by omega)]; omega) | exact tt_lo _ | exact tt_hi _) (by first | omega | decide | (rw [rl_ti (by omega)]; omega) | exact tt_lo _ | exact tt_hi _) ⟨rl_SS.opn hs_101 hs_106.1 hs_107 hs_108 hs_109, by have e8 := congrArg Int64.toInt (hs_105 8 (by decide) (by decide) (by decide) (by decide) (by omega) (by omega)); omega⟩ (by first | omega | decide | exact tt_lo _ | exact tt_hi _)
                  · have z_c_110 := jc_eq (a := ((16 + 5 * n_98 : Nat) : Int)) (b := (-1)) c_110 (rl_ti (by omega)) (by decide)
                    exfalso; omega
              · rw [e_86]
                have hk_89 : k_89 < 6 := by unfold rnS at e_87; omega
                obtain ⟨qc, gs, hqc⟩ := tt_recv (cx := []) hok_79 hk0 (by decide) rfl
                refine tt_callV (rest := []) C (rs_subIn hl D cA ak k_89 k_68 (B + 30000000 * ((k_68 : Nat) : Int)) (B + 30000000 * ((1 + k_68 : Nat) : Int)) g_71 hk0 hkw hka hkt hki hkf hkp (by omega) hD_76.1 hD_76.2.1 (by omega) (hD_76.1.sub0 (by unfold rnR; omega) c_84).2 (by have q8 := hD_76.1.2.2.2.2.2.2.2; have q7 := (hD_76.1.sub0 (by unfold rnR; omega) c_84).2; omega) e_87 (fun z => by have q9 := e_88 z; exact ⟨q9.1, by omega, by omega⟩) hok_79 hm hC_75) [] [] rfl rfl (by decide) (by decide) (by decide) qc hqc rfl rfl jw_c6fa4608ab jw_2e901c2d39 jw_9307c7cf7b jw_f96c99f44d jw_0bdec3858a jn_X11_subscribeTo rfl (jj_le rfl) (jj_le rfl) (jj_le rfl) (jj_le rfl) (jj_le rfl) dX11_subscribeAll_61 rfl (fun _ _ _ hX => hX.elim) (fun rx pl_113 r O_117 => ?_)
                obtain ⟨rfl, hok_114, hr_115, ha_116, hR_118⟩ := O_117
                replace hf_72 := hr_115.at hk0 (by decide) (by decide) hf_72
                replace hG_73 := ha_116.at hkd (by decide) (by decide) hG_73
                replace hm := hm.fr hr_115 hk0 rfl
                replace hfr := hfr.trans (hr_115.sub (by decide))
                replace hfa := hfa.trans (ha_116.sub (by decide))
                rcases hR_118 with ⟨hC_119, rfl⟩ | ⟨g_120, hC_121, hI_122, hs_123, hs_124, hs_125, hs_126, hs_127, rfl⟩
                · refine jj_istore_n C dX11_subscribeAll_64 (by decide) rfl ?_
                  refine jj_iload_n C dX11_subscribeAll_65 rfl ?_
                  refine jj_iconst (v := (-1)) C dX11_subscribeAll_66 (by decide) ?_
                  refine jj_icmp_neF (tgt := 73) C dX11_subscribeAll_67 (by decide) (by decide) ?_
                  refine jj_goto (tgt := 82) C dX11_subscribeAll_70 (by decide) ?_
                  refine jj_iinc (v := nI (1 + k_68)) C dX11_subscribeAll_82 rfl (rl_addR (kn := 1) (by decide) (by omega)) (by decide) rfl ?_
                  refine jj_goto (tgt := 34) C dX11_subscribeAll_85 (by decide) ?_
                  refine jj_loc [0, 2, 3] rfl ?_
                  exact ihL_67 pl_113 (1 + k_68) (nI (16 + 5 * k_89)) fd_70 g_71 hok_114 hfr hfa hm hf_72 hG_73 trivial hC_119 (hD_76.skip (fun z => hdn _ (by have e8 := congrArg Int64.toInt (hD_76.2.2.2.1 8 (by decide) (by decide) (by decide) (by decide)); unfold rnR; omega) (fun w => absurd z (by rw [w]; decide)))) (by first | omega | decide | (rw [rl_ti (by omega)]; omega) | exact tt_lo _ | exact tt_hi _) (by first | omega | decide | (rw [rl_ti (by omega)]; omega) | exact tt_lo _ | exact tt_hi _) (by first | omega | decide | (rw [rl_ti (by omega)]; omega) | exact tt_lo _ | exact tt_hi _) (by first | omega | decide | (rw [rl_ti (by omega)]; omega) | exact tt_lo _ | exact tt_hi _) ⟨rl_SS.next (Or.inr ⟨k_89, rfl, e_87, e_88⟩), by omega⟩ (by first | omega | decide | exact tt_lo _ | exact tt_hi _)
                · obtain ⟨⟨g0ag_120, g0bg_120⟩, ⟨g1ag_120, g1bg_120⟩, ⟨g6ag_120, g6bg_120⟩, ⟨g7ag_120, g7bg_120⟩, ⟨g8ag_120, g8bg_120⟩⟩ := hI_122.1.1
                  refine jj_istore_n C dX11_subscribeAll_64 (by decide) rfl ?_
                  refine jj_iload_n C dX11_subscribeAll_65 rfl ?_
                  refine jj_iconst (v := (-1)) C dX11_subscribeAll_66 (by decide) ?_
                  refine jj_icmp_ne (tgt := 73) C dX11_subscribeAll_67 (by decide) (fun c_128 => ?_) (fun c_128 => ?_)
                  · have z_c_128 := jc_neq (a := ((16 + 5 * k_89 : Nat) : Int)) (b := (-1)) c_128 (rl_ti (by omega)) (by decide)
                    refine jj_iload_n C dX11_subscribeAll_73 rfl ?_
                    refine jj_istore_n C dX11_subscribeAll_74 (by decide) rfl ?_
                    refine jj_aload_n C dX11_subscribeAll_75 rfl ?_
                    refine tt_getF C hok_114 jk_12 11 (by decide) jw_dca952cae2 (t := (2, 9, 0)) hk0 (by decide) rfl rfl hf_72 dX11_subscribeAll_76 ?_
                    refine jj_iload_n C dX11_subscribeAll_79 rfl ?_
                    refine jj_iconst (v := 1) C dX11_subscribeAll_80 (by decide) ?_
                    refine rl_zast C hok_114 (t := (0, (-2147483648), 2147483647)) hkd (by decide) rfl (vp_in_nI (by omega) (by decide)) (tt_ia _) dX11_subscribeAll_81 (fun pl_129 hok_130 tr tl tw => ?_)
                    replace hf_72 := tr _ _ _ hf_72
                    replace hm := hm.arr tr
                    replace hfr := hfr.arr tr
                    replace hC_121 := tl _ _ (tt_ne hkw hkd (by decide)) hC_121
                    replace hG_73 := tw _ hG_73
                    replace hfa := hfa.wr hkd tl (by decide)
                    refine jj_iinc (v := nI (1 + k_68)) C dX11_subscribeAll_82 rfl (rl_addR (kn := 1) (by decide) (by omega)) (by decide) rfl ?_
                    refine jj_goto (tgt := 34) C dX11_subscribeAll_85 (by decide) ?_
                    refine jj_loc [0, 1, 3] rfl ?_
                    exact ihL_67 pl_129 (1 + k_68) (nI (16 + 5 * k_89)) (upd fd_70 (nI k_68).toNatClampNeg (vp_nar .boolean (1 : Int32))) g_120 hok_130 hfr hfa hm hf_72 hG_73 trivial hC_121 (hD_76.put (by omega) (by rw [← hD_76.2.2.2.2.1 _ (by omega)]; exact (rl_I.sub0 hD_76.1 (by unfold rnR; omega) c_84).1) hI_122 hs_123 hs_124 (fun i a b c d => hs_125 i c (by omega) (by omega) (by omega)) (fun i a => hs_125 i (by omega) (by omega) (by omega) (by omega)) (by rw [hs_125 9 (by decide) (by decide) (by omega) (by omega)]; exact ⟨by omega, by omega⟩) (by decide)) (by first | omega | decide | (rw [rl_ti (by omega)]; omega) | exact tt_lo _ | exact tt_hi _) (by first | omega | decide | (rw [rl_ti (by omega)]; omega) | exact tt_lo _ | exact tt_hi _) (by first | omega | decide | (rw [rl_ti (by omega)]; omega) | exact tt_lo _ | exact tt_hi _) (by first | omega | decide | (rw [rl_ti (by omega)]; omega) | exact tt_lo _ | exact tt_hi _) ⟨rl_SS.inn (by omega) e_87 e_88 hs_125 hs_126 hs_127, by have e8 := congrArg Int64.toInt (hs_125 8 (by decide) (by decide) (by omega) (by omega)); omega⟩ (by first | omega | decide | exact tt_lo _ | exact tt_hi _)
                  · have z_c_128 := jc_eq (a := ((16 + 5 * k_89 : Nat) : Int)) (b := (-1)) c_128 (rl_ti (by omega)) (by decide)
                    exfalso; omega
            · refine jj_if_eqF (tgt := 58) C dX11_subscribeAll_52 (by decide) (by decide) ?_
              refine jj_goto (tgt := 82) C dX11_subscribeAll_55 (by decide) ?_
              refine jj_iinc (v := nI (1 + k_68)) C dX11_subscribeAll_82 rfl (rl_addR (kn := 1) (by decide) (by omega)) (by decide) rfl ?_
              refine jj_goto (tgt := 34) C dX11_subscribeAll_85 (by decide) ?_
              exact ihL_67 pl_78 (1 + k_68) x_69 fd_70 g_71 hok_79 hfr hfa hm hf_72 hG_73 trivial hC_75 (hD_76.skip (fun z => absurd z (by rw [← hD_76.2.2.2.2.1 _ (by omega), c_85]; decide))) (by first | omega | decide | exact tt_lo _ | exact tt_hi _) (by first | omega | decide | exact tt_lo _ | exact tt_hi _) (by first | omega | decide | exact tt_lo _ | exact tt_hi _) (by first | omega | decide | exact tt_lo _ | exact tt_hi _) ⟨hS9.1.next, by omega⟩ (by first | omega | decide | exact tt_lo _ | exact tt_hi _)
      exact hL_67 _ pl0 0 ((-1) : Int32) fd f trivial hok hfr hfa hm hd hdc trivial hC (rl_SA.init hI hP fd) (by first | omega | decide | exact tt_lo _ | exact tt_hi _) (by first | omega | decide | exact tt_lo _ | exact tt_hi _) (by first | omega | decide | exact tt_lo _ | exact tt_hi _) (by first | omega | decide | exact tt_lo _ | exact tt_hi _) ⟨Or.inl ⟨rfl, fun z => by omega⟩, by omega⟩ (Int.self_le_toNat _)
    · have z_c_66 := jc_nleL (a := (f 6).toInt) (b := 0) c_66 rfl (by decide)
      refine jj_iconst (v := 0) C dX11_subscribeAll_23 (by decide) ?_
      show jj_J p l e _ s m args below meth c _ A _ (jj_X D A ([] ++ pl0)) _ _ 24 [(0, .ref h0)] [.int (nI 0)]
      refine tt_call0S (rest := []) C (rn_seriesAt hl D cA ak 0 16 (by omega)) jw_6251557f40 jw_b2cd40a13f jw_f96c99f44d jw_6245231363 jn_X11_seriesAt rfl (jj_le rfl) (jj_le rfl) (jj_le rfl) (jj_le rfl) (jj_le rfl) dX11_subscribeAll_24 rfl (fun w1 r hO => ?_)
      obtain ⟨-, rfl⟩ := hO
      refine jj_goto (tgt := 31) C dX11_subscribeAll_27 (by decide) ?_
      refine jj_istore_n C dX11_subscribeAll_31 (by decide) rfl ?_
      refine jj_iconst (v := 0) C dX11_subscribeAll_32 (by decide) ?_
      refine jj_istore_n C dX11_subscribeAll_33 (by decide) rfl ?_
      have hL_131 : ∀ (N : Nat) (pl : va_W) (k_132 : Nat) (x_133 : Int32) (fd_134 : Nat → Int32) (g_135 : Nat → Int64), True → tt_ok rt_tk cA Kd pl → tt_fr Kd [] pl0 pl → tt_fa Kd [2, 9] pl0 pl → rl_m pl h0 aw aa at0 ai af ap → tt_at pl h0 11 (.ref ad) → tt_ic pl ad fd_134 → True → tt_lc pl aw g_135 → rl_SA B f g_135 fd fd_134 k_132 → (0 : Int) ≤ (k_132 : Int) → (k_132 : Int) ≤ 12 → (-1 : Int) ≤ x_133.toInt → x_133.toInt ≤ 399 → (rl_SS g_135 x_133 k_132 ∧ ((k_132 : Nat) : Int) ≤ (g_135 8).toInt) → (2147483648 - (k_132 : Int) ≤ (N : Int)) → jj_J p l e (jj_rm 3 74 0 0) s m args below meth c 4 A (vx_MQ below (jj_q D A (tt_O (fun rx pl1 r => rx = [] ∧ tt_ok rt_tk cA Kd pl1 ∧ tt_fr Kd [] pl0 pl1 ∧ tt_fa Kd [2, 9] pl0 pl1 ∧ ((∃ (g : Nat → Int64) (gd : Nat → Int32), tt_lc pl1 aw g ∧ tt_at pl1 h0 11 (.ref ad) ∧ tt_ic pl1 ad gd ∧ rl_SA B f g fd gd (rnR f) ∧ r = none))))) (jj_x D A (tt_OX (fun _ _ _ => False))) args s 0 0 A) (jj_X D A ([] ++ pl)) 0 0 34 [(2, .int (nI k_132)), (1, .int x_133), (0, .ref h0)] [] := by
        intro NL_131
        induction NL_131 with
        | zero => intro pl k_132 x_133 fd_134 g_135 _ hok hfr hfa hm hf_136 hG_137 hE_138 hC_139 hD_140 lk_132 uk_132 lx_133 ux_133 hS9 hNL_131; exfalso; omega
        | succ NL_131 ihL_131 =>
          intro pl k_132 x_133 fd_134 g_135 _ hok hfr hfa hm hf_136 hG_137 hE_138 hC_139 hD_140 lk_132 uk_132 lx_133 ux_133 hS9 hNL_131
          replace ihL_131 := fun pl k_132 x_133 fd_134 g_135 h1 => ihL_131 pl k_132 x_133 fd_134 g_135 trivial h1
          obtain ⟨⟨g0ag_135, g0bg_135⟩, ⟨g1ag_135, g1bg_135⟩, ⟨g6ag_135, g6bg_135⟩, ⟨g7ag_135, g7bg_135⟩, ⟨g8ag_135, g8bg_135⟩⟩ := (hD_140.1).1.1
          refine jj_iload_n C dX11_subscribeAll_34 rfl ?_
          refine jj_i2l C dX11_subscribeAll_35 rfl ?_
          refine jj_aload_n C dX11_subscribeAll_36 rfl ?_
          refine tt_getF C hok jk_12 0 (by decide) jw_34eaf3ba8b (t := (2, 2, 0)) hk0 (by decide) rfl rfl hm.1 dX11_subscribeAll_37 ?_
          refine jj_bipush (v := 8) C dX11_subscribeAll_40 (by decide) ?_
          refine rl_lald C hok (t := (1, (-9223372036854775808), 9223372036854775807)) hkw (by decide) rfl (k := 8) (v := (g_135 8)) (vp_in_iff.mpr (by decide)) hC_139 (by decide) rfl dX11_subscribeAll_42 ?_
          refine jj_lcmp_ge (tgt := 88) C dX11_subscribeAll_43 dX11_subscribeAll_44 (by decide) (fun c_141 => ?_) (fun c_141 => ?_)
          · have z_c_141 := jc_leL (a := (g_135 8).toInt) (b := ((k_132 : Nat) : Int)) c_141 rfl (rl_tl (by omega))
            exact jj_vret C ⟨[], pl, rfl, rfl, hok, hfr, hfa, ⟨g_135, fd_134, hC_139, hf_136, hG_137, (by have e8 := congrArg Int64.toInt (hD_140.2.2.2.1 8 (by decide) (by decide) (by decide) (by decide)); have e7 : rnR f = k_132 := (by unfold rnR; omega); rw [e7]; exact hD_140), rfl⟩⟩ dX11_subscribeAll_88 (jj_le rfl) (jj_le rfl)
          · have z_c_141 := jc_nleL (a := (g_135 8).toInt) (b := ((k_132 : Nat) : Int)) c_141 rfl (rl_tl (by omega))
            refine jj_aload_n C dX11_subscribeAll_47 rfl ?_
            refine jj_iload_n C dX11_subscribeAll_48 rfl ?_
            obtain ⟨qc, gs, hqc⟩ := tt_recv (cx := []) hok hk0 (by decide) rfl
            refine tt_callV (rest := []) C (rs_isRedemption hl D cA ak k_132 g_135 hk0 hkw hka hkt hki hkf hkp (by omega) hok hm hC_139) [] [] rfl rfl (by decide) (by decide) (by decide) qc hqc rfl rfl jw_4afadc9e32 jw_d8b192ed60 jw_21f07d63b9 jw_f96c99f44d jw_978e8f4c07 jn_X11_isRedemption rfl (jj_le rfl) (jj_le rfl) (jj_le rfl) (jj_le rfl) (jj_le rfl) dX11_subscribeAll_49 rfl (fun _ _ _ hX => hX.elim) (fun rx pl_142 r O_146 => ?_)
            obtain ⟨rfl, hok_143, hr_144, ha_145, hR_147⟩ := O_146
            replace hf_136 := hr_144.at hk0 (by decide) (by decide) hf_136
            replace hC_139 := ha_145.at hkw (by decide) (by decide) hC_139
            replace hG_137 := ha_145.at hkd (by decide) (by decide) hG_137
            replace hm := hm.fr hr_144 hk0 rfl
            replace hfr := hfr.trans (hr_144.sub (by decide))
            replace hfa := hfa.trans (ha_145.sub (by decide))
            rcases hR_147 with ⟨c_148, rfl⟩ | ⟨c_149, rfl⟩
            · refine jj_if_eqT (tgt := 58) C dX11_subscribeAll_52 (by decide) (by decide) ?_
              refine jj_aload_n C dX11_subscribeAll_58 rfl ?_
              refine jj_iload_n C dX11_subscribeAll_59 rfl ?_
              refine jj_iload_n C dX11_subscribeAll_60 rfl ?_
              rcases hS9.1 with ⟨e_150, e_151⟩ | ⟨k_153, e_150, e_151, e_152⟩
              · rw [e_150]
                obtain ⟨qc, gs, hqc⟩ := tt_recv (cx := []) hok_143 hk0 (by decide) rfl
                refine tt_callV (rest := []) C (rs_subOpen hl D cA ak k_132 (B + 30000000 * ((k_132 : Nat) : Int)) (B + 30000000 * ((1 + k_132 : Nat) : Int)) g_135 hk0 hkw hka hkt hki hkf hkp (by omega) hD_140.1 hD_140.2.1 (by omega) (hD_140.1.sub0 (by unfold rnR; omega) c_148).2 (by have q8 := hD_140.1.2.2.2.2.2.2.2; have q7 := (hD_140.1.sub0 (by unfold rnR; omega) c_148).2; omega) e_151 (by have q9 := hD_140.2.2.2.2.2.1; omega) hok_143 hm hC_139) [] [] rfl rfl (by decide) (by decide) (by decide) qc hqc rfl rfl jw_c6fa4608ab jw_2e901c2d39 jw_9307c7cf7b jw_f96c99f44d jw_0bdec3858a jn_X11_subscribeTo rfl (jj_le rfl) (jj_le rfl) (jj_le rfl) (jj_le rfl) (jj_le rfl) dX11_subscribeAll_61 rfl (fun _ _ _ hX => hX.elim) (fun rx pl_154 r O_158 => ?_)
                obtain ⟨rfl, hok_155, hr_156, ha_157, hR_159⟩ := O_158
                replace hf_136 := hr_156.at hk0 (by decide) (by decide) hf_136
                replace hG_137 := ha_157.at hkd (by decide) (by decide) hG_137
                replace hm := hm.fr hr_156 hk0 rfl
                replace hfr := hfr.trans (hr_156.sub (by decide))
                replace hfa := hfa.trans (ha_157.sub (by decide))
                rcases hR_159 with ⟨hC_160, rfl⟩ | ⟨g_161, n_162, hs_165, hs_166, hC_163, hI_164, hs_167, hs_168, hs_169, hs_170, hs_171, hs_172, hs_173, rfl⟩
                · refine jj_istore_n C dX11_subscribeAll_64 (by decide) rfl ?_
                  refine jj_iload_n C dX11_subscribeAll_65 rfl ?_
                  refine jj_iconst (v := (-1)) C dX11_subscribeAll_66 (by decide) ?_
                  refine jj_icmp_neF (tgt := 73) C dX11_subscribeAll_67 (by decide) (by decide) ?_
                  refine jj_goto (tgt := 82) C dX11_subscribeAll_70 (by decide) ?_
                  refine jj_iinc (v := nI (1 + k_132)) C dX11_subscribeAll_82 rfl (rl_addR (kn := 1) (by decide) (by omega)) (by decide) rfl ?_
                  refine jj_goto (tgt := 34) C dX11_subscribeAll_85 (by decide) ?_
                  refine jj_loc [0, 2, 3] rfl ?_
                  exact ihL_131 pl_154 (1 + k_132) ((-1) : Int32) fd_134 g_135 hok_155 hfr hfa hm hf_136 hG_137 trivial hC_160 (hD_140.skip (fun z => hdn _ (by have e8 := congrArg Int64.toInt (hD_140.2.2.2.1 8 (by decide) (by decide) (by decide) (by decide)); unfold rnR; omega) (fun w => absurd z (by rw [w]; decide)))) (by first | omega | decide | exact tt_lo _ | exact tt_hi _) (by first | omega | decide | exact tt_lo _ | exact tt_hi _) (by first | omega | decide | exact tt_lo _ | exact tt_hi _) (by first | omega | decide | exact tt_lo _ | exact tt_hi _) ⟨rl_SS.next (Or.inl ⟨rfl, e_151⟩), by omega⟩ (by first | omega | decide | exact tt_lo _ | exact tt_hi _)
                · obtain ⟨⟨g0ag_161, g0bg_161⟩, ⟨g1ag_161, g1bg_161⟩, ⟨g6ag_161, g6bg_161⟩, ⟨g7ag_161, g7bg_161⟩, ⟨g8ag_161, g8bg_161⟩⟩ := hI_164.1.1
                  refine jj_istore_n C dX11_subscribeAll_64 (by decide) rfl ?_
                  refine jj_iload_n C dX11_subscribeAll_65 rfl ?_
                  refine jj_iconst (v := (-1)) C dX11_subscribeAll_66 (by decide) ?_
                  refine jj_icmp_ne (tgt := 73) C dX11_subscribeAll_67 (by decide) (fun c_174 => ?_) (fun c_174 => ?_)
                  · have z_c_174 := jc_neq (a := ((16 + 5 * n_162 : Nat) : Int)) (b := (-1)) c_174 (rl_ti (by omega)) (by decide)
                    refine jj_iload_n C dX11_subscribeAll_73 rfl ?_
                    refine jj_istore_n C dX11_subscribeAll_74 (by decide) rfl ?_
                    refine jj_aload_n C dX11_subscribeAll_75 rfl ?_
                    refine tt_getF C hok_155 jk_12 11 (by decide) jw_dca952cae2 (t := (2, 9, 0)) hk0 (by decide) rfl rfl hf_136 dX11_subscribeAll_76 ?_
                    refine jj_iload_n C dX11_subscribeAll_79 rfl ?_
                    refine jj_iconst (v := 1) C dX11_subscribeAll_80 (by decide) ?_
                    refine rl_zast C hok_155 (t := (0, (-2147483648), 2147483647)) hkd (by decide) rfl (vp_in_nI (by omega) (by decide)) (tt_ia _) dX11_subscribeAll_81 (fun pl_175 hok_176 tr tl tw => ?_)
                    replace hf_136 := tr _ _ _ hf_136
                    replace hm := hm.arr tr
                    replace hfr := hfr.arr tr
                    replace hC_163 := tl _ _ (tt_ne hkw hkd (by decide)) hC_163
                    replace hG_137 := tw _ hG_137
                    replace hfa := hfa.wr hkd tl (by decide)
                    refine jj_iinc (v := nI (1 + k_132)) C dX11_subscribeAll_82 rfl (rl_addR (kn := 1) (by decide) (by omega)) (by decide) rfl ?_
                    refine jj_goto (tgt := 34) C dX11_subscribeAll_85 (by decide) ?_
                    refine jj_loc [0, 1, 3] rfl ?_
                    exact ihL_131 pl_175 (1 + k_132) (nI (16 + 5 * n_162)) (upd fd_134 (nI k_132).toNatClampNeg (vp_nar .boolean (1 : Int32))) g_161 hok_176 hfr hfa hm hf_136 hG_137 trivial hC_163 (hD_140.put (by omega) (by rw [← hD_140.2.2.2.2.1 _ (by omega)]; exact (rl_I.sub0 hD_140.1 (by unfold rnR; omega) c_148).1) hI_164 hs_167 hs_168 (fun i a b c d => hs_169 i b c d (by omega) (by omega) (by omega)) (fun i a => hs_169 i (by omega) (by omega) (by omega) (by omega) (by omega) (by omega)) ⟨by omega, by omega⟩ (by decide)) (by first | omega | decide | (rw [rl_ti (by omega)]; omega) | exact tt_lo _ | exact tt_hi _) (by first | omega | decide | (rw [rl_ti (by omega)]; omega) | exact tt_lo _ | exact tt_hi _) (by first | omega | decide | (rw [rl_ti (by omega)]; omega) | exact tt_lo _ | exact tt_hi _) (by first | omega | decide | (rw [rl_ti (by omega)]; omega) | exact tt_lo _ | exact tt_hi _) ⟨rl_SS.opn hs_165 hs_170.1 hs_171 hs_172 hs_173, by have e8 := congrArg Int64.toInt (hs_169 8 (by decide) (by decide) (by decide) (by decide) (by omega) (by omega)); omega⟩ (by first | omega | decide | exact tt_lo _ | exact tt_hi _)
                  · have z_c_174 := jc_eq (a := ((16 + 5 * n_162 : Nat) : Int)) (b := (-1)) c_174 (rl_ti (by omega)) (by decide)
                    exfalso; omega
              · rw [e_150]
                have hk_153 : k_153 < 6 := by unfold rnS at e_151; omega
                obtain ⟨qc, gs, hqc⟩ := tt_recv (cx := []) hok_143 hk0 (by decide) rfl
                refine tt_callV (rest := []) C (rs_subIn hl D cA ak k_153 k_132 (B + 30000000 * ((k_132 : Nat) : Int)) (B + 30000000 * ((1 + k_132 : Nat) : Int)) g_135 hk0 hkw hka hkt hki hkf hkp (by omega) hD_140.1 hD_140.2.1 (by omega) (hD_140.1.sub0 (by unfold rnR; omega) c_148).2 (by have q8 := hD_140.1.2.2.2.2.2.2.2; have q7 := (hD_140.1.sub0 (by unfold rnR; omega) c_148).2; omega) e_151 (fun z => by have q9 := e_152 z; exact ⟨q9.1, by omega, by omega⟩) hok_143 hm hC_139) [] [] rfl rfl (by decide) (by decide) (by decide) qc hqc rfl rfl jw_c6fa4608ab jw_2e901c2d39 jw_9307c7cf7b jw_f96c99f44d jw_0bdec3858a jn_X11_subscribeTo rfl (jj_le rfl) (jj_le rfl) (jj_le rfl) (jj_le rfl) (jj_le rfl) dX11_subscribeAll_61 rfl (fun _ _ _ hX => hX.elim) (fun rx pl_177 r O_181 => ?_)
                obtain ⟨rfl, hok_178, hr_179, ha_180, hR_182⟩ := O_181
                replace hf_136 := hr_179.at hk0 (by decide) (by decide) hf_136
                replace hG_137 := ha_180.at hkd (by decide) (by decide) hG_137
                replace hm := hm.fr hr_179 hk0 rfl
                replace hfr := hfr.trans (hr_179.sub (by decide))
                replace hfa := hfa.trans (ha_180.sub (by decide))
                rcases hR_182 with ⟨hC_183, rfl⟩ | ⟨g_184, hC_185, hI_186, hs_187, hs_188, hs_189, hs_190, hs_191, rfl⟩
                · refine jj_istore_n C dX11_subscribeAll_64 (by decide) rfl ?_
                  refine jj_iload_n C dX11_subscribeAll_65 rfl ?_
                  refine jj_iconst (v := (-1)) C dX11_subscribeAll_66 (by decide) ?_
                  refine jj_icmp_neF (tgt := 73) C dX11_subscribeAll_67 (by decide) (by decide) ?_
                  refine jj_goto (tgt := 82) C dX11_subscribeAll_70 (by decide) ?_
                  refine jj_iinc (v := nI (1 + k_132)) C dX11_subscribeAll_82 rfl (rl_addR (kn := 1) (by decide) (by omega)) (by decide) rfl ?_
                  refine jj_goto (tgt := 34) C dX11_subscribeAll_85 (by decide) ?_
                  refine jj_loc [0, 2, 3] rfl ?_
                  exact ihL_131 pl_177 (1 + k_132) (nI (16 + 5 * k_153)) fd_134 g_135 hok_178 hfr hfa hm hf_136 hG_137 trivial hC_183 (hD_140.skip (fun z => hdn _ (by have e8 := congrArg Int64.toInt (hD_140.2.2.2.1 8 (by decide) (by decide) (by decide) (by decide)); unfold rnR; omega) (fun w => absurd z (by rw [w]; decide)))) (by first | omega | decide | (rw [rl_ti (by omega)]; omega) | exact tt_lo _ | exact tt_hi _) (by first | omega | decide | (rw [rl_ti (by omega)]; omega) | exact tt_lo _ | exact tt_hi _) (by first | omega | decide | (rw [rl_ti (by omega)]; omega) | exact tt_lo _ | exact tt_hi _) (by first | omega | decide | (rw [rl_ti (by omega)]; omega) | exact tt_lo _ | exact tt_hi _) ⟨rl_SS.next (Or.inr ⟨k_153, rfl, e_151, e_152⟩), by omega⟩ (by first | omega | decide | exact tt_lo _ | exact tt_hi _)
                · obtain ⟨⟨g0ag_184, g0bg_184⟩, ⟨g1ag_184, g1bg_184⟩, ⟨g6ag_184, g6bg_184⟩, ⟨g7ag_184, g7bg_184⟩, ⟨g8ag_184, g8bg_184⟩⟩ := hI_186.1.1
                  refine jj_istore_n C dX11_subscribeAll_64 (by decide) rfl ?_
                  refine jj_iload_n C dX11_subscribeAll_65 rfl ?_
                  refine jj_iconst (v := (-1)) C dX11_subscribeAll_66 (by decide) ?_
                  refine jj_icmp_ne (tgt := 73) C dX11_subscribeAll_67 (by decide) (fun c_192 => ?_) (fun c_192 => ?_)
                  · have z_c_192 := jc_neq (a := ((16 + 5 * k_153 : Nat) : Int)) (b := (-1)) c_192 (rl_ti (by omega)) (by decide)
                    refine jj_iload_n C dX11_subscribeAll_73 rfl ?_
                    refine jj_istore_n C dX11_subscribeAll_74 (by decide) rfl ?_
                    refine jj_aload_n C dX11_subscribeAll_75 rfl ?_
                    refine tt_getF C hok_178 jk_12 11 (by decide) jw_dca952cae2 (t := (2, 9, 0)) hk0 (by decide) rfl rfl hf_136 dX11_subscribeAll_76 ?_
                    refine jj_iload_n C dX11_subscribeAll_79 rfl ?_
                    refine jj_iconst (v := 1) C dX11_subscribeAll_80 (by decide) ?_
                    refine rl_zast C hok_178 (t := (0, (-2147483648), 2147483647)) hkd (by decide) rfl (vp_in_nI (by omega) (by decide)) (tt_ia _) dX11_subscribeAll_81 (fun pl_193 hok_194 tr tl tw => ?_)
                    replace hf_136 := tr _ _ _ hf_136
                    replace hm := hm.arr tr
                    replace hfr := hfr.arr tr
                    replace hC_185 := tl _ _ (tt_ne hkw hkd (by decide)) hC_185
                    replace hG_137 := tw _ hG_137
                    replace hfa := hfa.wr hkd tl (by decide)
                    refine jj_iinc (v := nI (1 + k_132)) C dX11_subscribeAll_82 rfl (rl_addR (kn := 1) (by decide) (by omega)) (by decide) rfl ?_
                    refine jj_goto (tgt := 34) C dX11_subscribeAll_85 (by decide) ?_
                    refine jj_loc [0, 1, 3] rfl ?_
                    exact ihL_131 pl_193 (1 + k_132) (nI (16 + 5 * k_153)) (upd fd_134 (nI k_132).toNatClampNeg (vp_nar .boolean (1 : Int32))) g_184 hok_194 hfr hfa hm hf_136 hG_137 trivial hC_185 (hD_140.put (by omega) (by rw [← hD_140.2.2.2.2.1 _ (by omega)]; exact (rl_I.sub0 hD_140.1 (by unfold rnR; omega) c_148).1) hI_186 hs_187 hs_188 (fun i a b c d => hs_189 i c (by omega) (by omega) (by omega)) (fun i a => hs_189 i (by omega) (by omega) (by omega) (by omega)) (by rw [hs_189 9 (by decide) (by decide) (by omega) (by omega)]; exact ⟨by omega, by omega⟩) (by decide)) (by first | omega | decide | (rw [rl_ti (by omega)]; omega) | exact tt_lo _ | exact tt_hi _) (by first | omega | decide | (rw [rl_ti (by omega)]; omega) | exact tt_lo _ | exact tt_hi _) (by first | omega | decide | (rw [rl_ti (by omega)]; omega) | exact tt_lo _ | exact tt_hi _) (by first | omega | decide | (rw [rl_ti (by omega)]; omega) | exact tt_lo _ | exact tt_hi _) ⟨rl_SS.inn (by omega) e_151 e_152 hs_189 hs_190 hs_191, by have e8 := congrArg Int64.toInt (hs_189 8 (by decide) (by decide) (by omega) (by omega)); omega⟩ (by first | omega | decide | exact tt_lo _ | exact tt_hi _)
                  · have z_c_192 := jc_eq (a := ((16 + 5 * k_153 : Nat) : Int)) (b := (-1)) c_192 (rl_ti (by omega)) (by decide)
                    exfalso; omega
            · refine jj_if_eqF (tgt := 58) C dX11_subscribeAll_52 (by decide) (by decide) ?_
              refine jj_goto (tgt := 82) C dX11_subscribeAll_55 (by decide) ?_
              refine jj_iinc (v := nI (1 + k_132)) C dX11_subscribeAll_82 rfl (rl_addR (kn := 1) (by decide) (by omega)) (by decide) rfl ?_
              refine jj_goto (tgt := 34) C dX11_subscribeAll_85 (by decide) ?_
              exact ihL_131 pl_142 (1 + k_132) x_133 fd_134 g_135 hok_143 hfr hfa hm hf_136 hG_137 trivial hC_139 (hD_140.skip (fun z => absurd z (by rw [← hD_140.2.2.2.2.1 _ (by omega), c_149]; decide))) (by first | omega | decide | exact tt_lo _ | exact tt_hi _) (by first | omega | decide | exact tt_lo _ | exact tt_hi _) (by first | omega | decide | exact tt_lo _ | exact tt_hi _) (by first | omega | decide | exact tt_lo _ | exact tt_hi _) ⟨hS9.1.next, by omega⟩ (by first | omega | decide | exact tt_lo _ | exact tt_hi _)
      exact hL_131 _ pl0 0 (nI 16) fd f trivial hok hfr hfa hm hd hdc trivial hC (rl_SA.init hI hP fd) (by first | omega | decide | exact tt_lo _ | exact tt_hi _) (by first | omega | decide | exact tt_lo _ | exact tt_hi _) (by first | omega | decide | exact tt_lo _ | exact tt_hi _) (by first | omega | decide | exact tt_lo _ | exact tt_hi _) ⟨Or.inr ⟨0, rfl, by unfold rnS; omega, fun z => absurd z (by omega)⟩, by omega⟩ (Int.self_le_toNat _)
