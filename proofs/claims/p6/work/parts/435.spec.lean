theorem jw_509dd97d21 : Cond.constantLong RX11 260 (3650000) ∈ jj_G := jj_t7 (List.mem_of_getElem? (i := 217) (by decide +kernel)) rfl
theorem jw_09fd61e7f6 : Cond.code yX11_goDays cX11_goDays 8 (some .long) ∈ jj_G := jj_t7 (List.mem_of_getElem? (i := 216) (by decide +kernel)) rfl

set_option maxHeartbeats 4000000 in
set_option maxRecDepth 100000 in
theorem rs_goDays {l : Launch} (hl : l.stackTraces = false) (D : va_G) (cA : Nat → ClassId) (ak : (Nat → Nat) × (Nat → Nat)) {Kd : Nat → Nat} {h0 aw aa at0 ai af ap : Nat} (p1 : Int32) (B : Int) (f : Nat → Int64) (hk0 : Kd h0 = 1) (hkw : Kd aw = 2) (hka : Kd aa = 3) (hkt : Kd at0 = 4) (hki : Kd ai = 5) (hkf : Kd af = 6) (hkp : Kd ap = 7) (hI : rl_I B f) (hP : rl_P f) (hB : B ≤ 43920000000) {pl0 : va_W} (hok : tt_ok rt_tk cA Kd pl0) (hm : rl_m pl0 h0 aw aa at0 ai af ap) (hC : tt_lc pl0 aw f) : jj_M l D cA ak yX11_goDays (.code yX11_goDays cX11_goDays 8 (some .long)) 1 20 0 0 ([] ++ pl0) [.ref h0, .int p1] (tt_O (fun rx pl1 r => rx = [] ∧ tt_ok rt_tk cA Kd pl1 ∧ tt_fr Kd [] pl0 pl1 ∧ tt_fa Kd [2] pl0 pl1 ∧ ((∃ g : Nat → Int64, tt_lc pl1 aw g ∧ rl_G B f g ∧ ∃ v : Int64, r = some (.long v))))) (tt_OX (fun _ _ _ => False)) := by
  refine jj_start hl (by decide) jw_09fd61e7f6 (jj_le rfl) ?_
  intro p e s m args below meth c A hargs hA C hex hmn
  have hfr := tt_fr.refl (K := Kd) (WS := []) pl0
  have hfa := tt_fa.refl (K := Kd) (WA := [2]) pl0
  have hH := hI.1.1
  obtain ⟨⟨g0a, g0b⟩, ⟨g1a, g1b⟩, ⟨g6a, g6b⟩, ⟨g7a, g7b⟩, ⟨g8a, g8b⟩⟩ := hH
  have lp1 := tt_lo p1
  have up1 := tt_hi p1
  refine jj_lconst (v := 0) C dX11_goDays_0 (by decide) ?_
  refine jj_lstore_n C dX11_goDays_1 (by decide) rfl ?_
  refine jj_iconst (v := 0) C dX11_goDays_2 (by decide) ?_
  refine jj_istore C dX11_goDays_3 (by decide) rfl ?_
  have hL_1 : ∀ (N : Nat) (pl : va_W) (k_2 : Nat) (y_3 : Int64) (g_4 : Nat → Int64), True → tt_ok rt_tk cA Kd pl → tt_fr Kd [] pl0 pl → tt_fa Kd [2] pl0 pl → rl_m pl h0 aw aa at0 ai af ap → tt_lc pl aw g_4 → rl_G B f g_4 → (0 : Int) ≤ (k_2 : Int) → (k_2 : Int) ≤ 2147483647 → (2147483648 - (k_2 : Int) ≤ (N : Int)) → jj_J p l e (jj_rm 1 20 0 0) s m args below meth c 8 A (vx_MQ below (jj_q D A (tt_O (fun rx pl1 r => rx = [] ∧ tt_ok rt_tk cA Kd pl1 ∧ tt_fr Kd [] pl0 pl1 ∧ tt_fa Kd [2] pl0 pl1 ∧ ((∃ g : Nat → Int64, tt_lc pl1 aw g ∧ rl_G B f g ∧ ∃ v : Int64, r = some (.long v)))))) (jj_x D A (tt_OX (fun _ _ _ => False))) args s 0 0 A) (jj_X D A ([] ++ pl)) 0 0 5 [(4, .int (nI k_2)), (2, .long y_3), (0, .ref h0), (1, .int p1)] [] := by
    intro NL_1
    induction NL_1 with
    | zero => intro pl k_2 y_3 g_4 _ hok hfr hfa hm hC_5 hD_6 lk_2 uk_2 hNL_1; exfalso; omega
    | succ NL_1 ihL_1 =>
      intro pl k_2 y_3 g_4 _ hok hfr hfa hm hC_5 hD_6 lk_2 uk_2 hNL_1
      replace ihL_1 := fun pl k_2 y_3 g_4 h1 => ihL_1 pl k_2 y_3 g_4 trivial h1
      obtain ⟨⟨g0ag_4, g0bg_4⟩, ⟨g1ag_4, g1bg_4⟩, ⟨g6ag_4, g6bg_4⟩, ⟨g7ag_4, g7bg_4⟩, ⟨g8ag_4, g8bg_4⟩⟩ := (hD_6.1).1.1
      refine jj_iload C dX11_goDays_5 rfl ?_
      refine jj_iload_n C dX11_goDays_7 rfl ?_
      refine jj_icmp_ge (tgt := 97) C dX11_goDays_8 (by decide) (fun c_7 => ?_) (fun c_7 => ?_)
      · have z_c_7 := jc_le (a := p1.toInt) (b := ((k_2 : Nat) : Int)) c_7 rfl (rl_ti (by omega))
        refine jj_aload_n C dX11_goDays_97 rfl ?_
        refine tt_getF C hok jk_12 0 (by decide) jw_34eaf3ba8b (t := (2, 2, 0)) hk0 (by decide) rfl rfl hm.1 dX11_goDays_98 ?_
        refine jj_bipush (v := 15) C dX11_goDays_101 (by decide) ?_
        refine jj_dup2 C dX11_goDays_103 rfl rfl ?_
        refine rl_lald C hok (t := (1, (-9223372036854775808), 9223372036854775807)) hkw (by decide) rfl (k := 15) (v := (g_4 15)) (vp_in_iff.mpr (by decide)) hC_5 (by decide) rfl dX11_goDays_104 ?_
        refine jj_lload_n C dX11_goDays_105 rfl ?_
        refine jj_ladd C dX11_goDays_106 rfl ?_
        refine rl_last C hok (t := (1, (-9223372036854775808), 9223372036854775807)) hkw (by decide) rfl (k := 15) (vp_in_iff.mpr (by decide)) (tt_ja _) (by decide) dX11_goDays_107 (fun pl_8 hok_9 tr tl tw => ?_)
        replace hm := hm.arr tr
        replace hfr := hfr.arr tr
        replace hC_5 := tw _ hC_5
        replace hfa := hfa.wr hkw tl (by decide)
        refine jj_aload_n C dX11_goDays_108 rfl ?_
        refine tt_getF C hok_9 jk_12 0 (by decide) jw_34eaf3ba8b (t := (2, 2, 0)) hk0 (by decide) rfl rfl hm.1 dX11_goDays_109 ?_
        refine jj_bipush (v := 10) C dX11_goDays_112 (by decide) ?_
        refine jj_dup2 C dX11_goDays_114 rfl rfl ?_
        refine rl_lald C hok_9 (t := (1, (-9223372036854775808), 9223372036854775807)) hkw (by decide) rfl (k := 10) (v := (g_4 10)) (vp_in_iff.mpr (by decide)) hC_5 (by decide) (rl_ne (by omega) rfl) dX11_goDays_115 ?_
        refine jj_lload_n C dX11_goDays_116 rfl ?_
        refine jj_ladd C dX11_goDays_117 rfl ?_
        refine rl_last C hok_9 (t := (1, (-9223372036854775808), 9223372036854775807)) hkw (by decide) rfl (k := 10) (vp_in_iff.mpr (by decide)) (tt_ja _) (by decide) dX11_goDays_118 (fun pl_10 hok_11 tr tl tw => ?_)
        replace hm := hm.arr tr
        replace hfr := hfr.arr tr
        replace hC_5 := tw _ hC_5
        replace hfa := hfa.wr hkw tl (by decide)
        refine jj_lload_n C dX11_goDays_119 rfl ?_
        exact jj_lret C ⟨[], pl_10, rfl, rfl, hok_11, hfr, hfa, ⟨_, hC_5, (hD_6.acc (Or.inr (by omega)) _).acc (Or.inr (by omega)) _, _, rfl⟩⟩ dX11_goDays_120 (jj_le rfl) (jj_le rfl)
      · have z_c_7 := jc_nle (a := p1.toInt) (b := ((k_2 : Nat) : Int)) c_7 rfl (rl_ti (by omega))
        refine jj_iconst (v := 0) C dX11_goDays_11 (by decide) ?_
        refine jj_istore C dX11_goDays_12 (by decide) rfl ?_
        have hL_12 : ∀ (N : Nat) (pl : va_W) (k_13 : Nat) (y_14 : Int64) (g_15 : Nat → Int64), True → tt_ok rt_tk cA Kd pl → tt_fr Kd [] pl0 pl → tt_fa Kd [2] pl0 pl → rl_m pl h0 aw aa at0 ai af ap → tt_lc pl aw g_15 → rl_G B f g_15 → (0 : Int) ≤ (k_13 : Int) → (k_13 : Int) ≤ 6 → (2147483648 - (k_13 : Int) ≤ (N : Int)) → jj_J p l e (jj_rm 1 20 0 0) s m args below meth c 8 A (vx_MQ below (jj_q D A (tt_O (fun rx pl1 r => rx = [] ∧ tt_ok rt_tk cA Kd pl1 ∧ tt_fr Kd [] pl0 pl1 ∧ tt_fa Kd [2] pl0 pl1 ∧ ((∃ g : Nat → Int64, tt_lc pl1 aw g ∧ rl_G B f g ∧ ∃ v : Int64, r = some (.long v)))))) (jj_x D A (tt_OX (fun _ _ _ => False))) args s 0 0 A) (jj_X D A ([] ++ pl)) 0 0 14 [(5, .int (nI k_13)), (4, .int (nI k_2)), (2, .long y_14), (0, .ref h0), (1, .int p1)] [] := by
          intro NL_12
          induction NL_12 with
          | zero => intro pl k_13 y_14 g_15 _ hok hfr hfa hm hC_16 hD_17 lk_13 uk_13 hNL_12; exfalso; omega
          | succ NL_12 ihL_12 =>
            intro pl k_13 y_14 g_15 _ hok hfr hfa hm hC_16 hD_17 lk_13 uk_13 hNL_12
            replace ihL_12 := fun pl k_13 y_14 g_15 h1 => ihL_12 pl k_13 y_14 g_15 trivial h1
            obtain ⟨⟨g0ag_15, g0bg_15⟩, ⟨g1ag_15, g1bg_15⟩, ⟨g6ag_15, g6bg_15⟩, ⟨g7ag_15, g7bg_15⟩, ⟨g8ag_15, g8bg_15⟩⟩ := (hD_17.1).1.1
            refine jj_iload C dX11_goDays_14 rfl ?_
            refine jj_i2l C dX11_goDays_16 rfl ?_
            refine jj_aload_n C dX11_goDays_17 rfl ?_
            refine tt_getF C hok jk_12 0 (by decide) jw_34eaf3ba8b (t := (2, 2, 0)) hk0 (by decide) rfl rfl hm.1 dX11_goDays_18 ?_
            refine jj_bipush (v := 6) C dX11_goDays_21 (by decide) ?_
            refine rl_lald C hok (t := (1, (-9223372036854775808), 9223372036854775807)) hkw (by decide) rfl (k := 6) (v := (g_15 6)) (vp_in_iff.mpr (by decide)) hC_16 (by decide) rfl dX11_goDays_23 ?_
            refine jj_lcmp_ge (tgt := 81) C dX11_goDays_24 dX11_goDays_25 (by decide) (fun c_18 => ?_) (fun c_18 => ?_)
            · have z_c_18 := jc_leL (a := (g_15 6).toInt) (b := ((k_13 : Nat) : Int)) c_18 rfl (rl_tl (by omega))
              refine jj_aload_n C dX11_goDays_81 rfl ?_
              refine tt_getF C hok jk_12 0 (by decide) jw_34eaf3ba8b (t := (2, 2, 0)) hk0 (by decide) rfl rfl hm.1 dX11_goDays_82 ?_
              refine jj_iconst (v := 5) C dX11_goDays_85 (by decide) ?_
              refine jj_dup2 C dX11_goDays_86 rfl rfl ?_
              refine rl_lald C hok (t := (1, (-9223372036854775808), 9223372036854775807)) hkw (by decide) rfl (k := 5) (v := (g_15 5)) (vp_in_iff.mpr (by decide)) hC_16 (by decide) rfl dX11_goDays_87 ?_
              refine jj_lconst (v := 1) C dX11_goDays_88 (by decide) ?_
              refine jj_ladd C dX11_goDays_89 rfl ?_
              refine rl_last C hok (t := (1, (-9223372036854775808), 9223372036854775807)) hkw (by decide) rfl (k := 5) (vp_in_iff.mpr (by decide)) (tt_ja _) (by decide) dX11_goDays_90 (fun pl_19 hok_20 tr tl tw => ?_)
              replace hm := hm.arr tr
              replace hfr := hfr.arr tr
              replace hC_16 := tw _ hC_16
              replace hfa := hfa.wr hkw tl (by decide)
              refine jj_iinc (v := nI (1 + k_2)) C dX11_goDays_91 rfl (rl_addR (kn := 1) (by decide) (by omega)) (by decide) rfl ?_
              refine jj_goto (tgt := 5) C dX11_goDays_94 (by decide) ?_
              refine jj_loc [0, 2, 3, 4] rfl ?_
              exact ihL_1 pl_19 (1 + k_2) y_14 (vp_updL g_15 5 ((g_15 5) + (1 : Int64))) hok_20 hfr hfa hm hC_16 (hD_17.acc (Or.inl rfl) _) (by first | omega | decide | exact tt_lo _ | exact tt_hi _) (by first | omega | decide | exact tt_lo _ | exact tt_hi _) (by first | omega | decide | exact tt_lo _ | exact tt_hi _)
            · have z_c_18 := jc_nleL (a := (g_15 6).toInt) (b := ((k_13 : Nat) : Int)) c_18 rfl (rl_tl (by omega))
              refine jj_aload_n C dX11_goDays_28 rfl ?_
              refine tt_getF C hok jk_12 0 (by decide) jw_34eaf3ba8b (t := (2, 2, 0)) hk0 (by decide) rfl rfl hm.1 dX11_goDays_29 ?_
              refine jj_iload C dX11_goDays_32 rfl ?_
              refine tt_call0S (rest := [.ref aw]) C (rn_seriesAt hl D cA ak k_13 (16 + 5 * k_13) (by omega)) jw_6251557f40 jw_b2cd40a13f jw_f96c99f44d jw_6245231363 jn_X11_seriesAt rfl (jj_le rfl) (jj_le rfl) (jj_le rfl) (jj_le rfl) (jj_le rfl) dX11_goDays_34 rfl (fun w1 r hO => ?_)
              obtain ⟨-, rfl⟩ := hO
              refine jj_iconst (v := 2) C dX11_goDays_37 (by decide) ?_
              refine jj_iadd (v := nI (18 + 5 * k_13)) C dX11_goDays_38 (rl_addR (kn := 2) (by decide) (by omega)) ?_
              refine rl_lald C hok (t := (1, (-9223372036854775808), 9223372036854775807)) hkw (by decide) rfl (k := 18 + 5 * k_13) (v := (g_15 (18 + 5 * k_13))) (vp_in_nI (by omega) (by decide)) hC_16 (nI_clamp (by omega)) rfl dX11_goDays_39 ?_
              refine jj_aload_n C dX11_goDays_40 rfl ?_
              refine tt_getF C hok jk_12 0 (by decide) jw_34eaf3ba8b (t := (2, 2, 0)) hk0 (by decide) rfl rfl hm.1 dX11_goDays_41 ?_
              refine jj_iconst (v := 2) C dX11_goDays_44 (by decide) ?_
              refine rl_lald C hok (t := (1, (-9223372036854775808), 9223372036854775807)) hkw (by decide) rfl (k := 2) (v := (g_15 2)) (vp_in_iff.mpr (by decide)) hC_16 (by decide) rfl dX11_goDays_45 ?_
              refine jj_lmul C dX11_goDays_46 rfl ?_
              refine jj_ldc2 (v := 3650000) C dX11_goDays_47 jw_509dd97d21 ?_
              refine jj_ldiv C dX11_goDays_50 (by decide) rfl ?_
              refine jj_lstore C dX11_goDays_51 (by decide) rfl ?_
              refine jj_aload_n C dX11_goDays_53 rfl ?_
              refine tt_getF C hok jk_12 0 (by decide) jw_34eaf3ba8b (t := (2, 2, 0)) hk0 (by decide) rfl rfl hm.1 dX11_goDays_54 ?_
              refine jj_iload C dX11_goDays_57 rfl ?_
              refine tt_call0S (rest := [.ref aw]) C (rn_seriesAt hl D cA ak k_13 (16 + 5 * k_13) (by omega)) jw_6251557f40 jw_b2cd40a13f jw_f96c99f44d jw_6245231363 jn_X11_seriesAt rfl (jj_le rfl) (jj_le rfl) (jj_le rfl) (jj_le rfl) (jj_le rfl) dX11_goDays_59 rfl (fun w1 r hO => ?_)
              obtain ⟨-, rfl⟩ := hO
              refine jj_iconst (v := 2) C dX11_goDays_62 (by decide) ?_
              refine jj_iadd (v := nI (18 + 5 * k_13)) C dX11_goDays_63 (rl_addR (kn := 2) (by decide) (by omega)) ?_
              refine jj_dup2 C dX11_goDays_64 rfl rfl ?_
              refine rl_lald C hok (t := (1, (-9223372036854775808), 9223372036854775807)) hkw (by decide) rfl (k := 18 + 5 * k_13) (v := (g_15 (18 + 5 * k_13))) (vp_in_nI (by omega) (by decide)) hC_16 (nI_clamp (by omega)) rfl dX11_goDays_65 ?_
              refine jj_lload C dX11_goDays_66 rfl ?_
              refine jj_lsub C dX11_goDays_68 rfl ?_
              refine rl_last C hok (t := (1, (-9223372036854775808), 9223372036854775807)) hkw (by decide) rfl (k := 18 + 5 * k_13) (vp_in_nI (by omega) (by decide)) (tt_ja _) (nI_clamp (by omega)) dX11_goDays_69 (fun pl_21 hok_22 tr tl tw => ?_)
              replace hm := hm.arr tr
              replace hfr := hfr.arr tr
              replace hC_16 := tw _ hC_16
              replace hfa := hfa.wr hkw tl (by decide)
              refine jj_lload_n C dX11_goDays_70 rfl ?_
              refine jj_lload C dX11_goDays_71 rfl ?_
              refine jj_ladd C dX11_goDays_73 rfl ?_
              refine jj_lstore_n C dX11_goDays_74 (by decide) rfl ?_
              refine jj_iinc (v := nI (1 + k_13)) C dX11_goDays_75 rfl (rl_addR (kn := 1) (by decide) (by omega)) (by decide) rfl ?_
              refine jj_goto (tgt := 14) C dX11_goDays_78 (by decide) ?_
              refine jj_loc [0, 3, 1, 4, 5] rfl ?_
              exact ihL_12 pl_21 (1 + k_13) (y_14 + (((g_15 (18 + 5 * k_13)) * (g_15 2)) / (3650000 : Int64))) (vp_updL g_15 (18 + 5 * k_13) ((g_15 (18 + 5 * k_13)) - (((g_15 (18 + 5 * k_13)) * (g_15 2)) / (3650000 : Int64)))) hok_22 hfr hfa hm hC_16 (hD_17.day hB (by unfold rnS; omega)) (by first | omega | decide | exact tt_lo _ | exact tt_hi _) (by first | omega | decide | exact tt_lo _ | exact tt_hi _) (by first | omega | decide | exact tt_lo _ | exact tt_hi _)
        exact hL_12 _ pl 0 y_3 g_4 trivial hok hfr hfa hm hC_5 hD_6 (by first | omega | decide | exact tt_lo _ | exact tt_hi _) (by first | omega | decide | exact tt_lo _ | exact tt_hi _) (Int.self_le_toNat _)
  exact hL_1 _ pl0 0 (0 : Int64) f trivial hok hfr hfa hm hC (rl_G.init hI hP) (by first | omega | decide | exact tt_lo _ | exact tt_hi _) (by first | omega | decide | exact tt_lo _ | exact tt_hi _) (Int.self_le_toNat _)
