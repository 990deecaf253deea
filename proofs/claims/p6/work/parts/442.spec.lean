theorem jw_665473674f : Cond.code yX11_mergeOne cX11_mergeOne 9 none ∈ jj_G := jj_t8 (List.mem_of_getElem? (i := 13) (by decide +kernel)) rfl
theorem jw_309c0a361b : Cond.methodLink RX11 284 yX11_mergeOne ∈ jj_G := jj_t8 (List.mem_of_getElem? (i := 10) (by decide +kernel)) rfl
theorem jw_49a57df682 : Cond.instanceMethod yX11_mergeOne ∈ jj_G := jj_t8 (List.mem_of_getElem? (i := 12) (by decide +kernel)) rfl
theorem jw_397a550003 : Cond.selects RX11 yX11_mergeOne yX11_mergeOne ∈ jj_G := jj_pv (q := (yX11_mergeOne, 25)) (by decide +kernel)
theorem jn_X11_mergeOne : jj_N yX11_mergeOne 4 := by unfold jj_N; decide +kernel
theorem jw_2b00fc14d7 : Cond.code yX11_mergeAll cX11_mergeAll 7 (some .int) ∈ jj_G := jj_t8 (List.mem_of_getElem? (i := 9) (by decide +kernel)) rfl

set_option maxHeartbeats 4000000 in
set_option maxRecDepth 100000 in
theorem rs_mergeOne {l : Launch} (hl : l.stackTraces = false) (D : va_G) (cA : Nat → ClassId) (ak : (Nat → Nat) × (Nat → Nat)) {Kd : Nat → Nat} {h0 aw aa at0 ai af ap : Nat} (k : Nat) (p3 p4 : Int64) (B : Int) (f : Nat → Int64) (hk0 : Kd h0 = 1) (hkw : Kd aw = 2) (hka : Kd aa = 3) (hkt : Kd at0 = 4) (hki : Kd ai = 5) (hkf : Kd af = 6) (hkp : Kd ap = 7) (hk : k < rnS f) (hk9 : 1 ≤ k) (hI : rl_I B f) (hB5 : B ≤ 43520000000) (m0 : (f 1).toInt = 0) (hp : 0 ≤ p3.toInt ∧ p3.toInt * (f (19 + 5 * k)).toInt ≤ (f (18 + 5 * k)).toInt * 100000) (hl9 : p4.toInt = (f 20).toInt) (hM : p4.toInt * (f 19).toInt ≤ (f 18).toInt * 100000) {pl0 : va_W} (hok : tt_ok rt_tk cA Kd pl0) (hm : rl_m pl0 h0 aw aa at0 ai af ap) (hC : tt_lc pl0 aw f) : jj_M l D cA ak yX11_mergeOne (.code yX11_mergeOne cX11_mergeOne 9 none) 1 20 0 0 ([] ++ pl0) [.ref h0, .int (nI (16 + 5 * k)), .int (nI 16), .long p3, .long p4] (tt_O (fun rx pl1 r => rx = [] ∧ tt_ok rt_tk cA Kd pl1 ∧ tt_fr Kd [] pl0 pl1 ∧ tt_fa Kd [2] pl0 pl1 ∧ ((∃ g : Nat → Int64, tt_lc pl1 aw g ∧ (rl_I B (rg_dS g k) ∧ rl_T (rg_dS g k) = rl_T f ∧ (∀ i : Nat, i ≠ 6 → i ≠ 18 → i ≠ 19 → ¬ (16 + 5 * k ≤ i ∧ i < 286) → (i < 46 ∨ 286 ≤ i) → rg_dS g k i = f i) ∧ (rg_dS g k 6).toInt = (f 6).toInt - 1 ∧ (rg_dS g k 18).toInt = (f 18).toInt + (f (18 + 5 * k)).toInt ∧ (f 19).toInt ≤ (rg_dS g k 19).toInt ∧ p4.toInt * (rg_dS g k 19).toInt ≤ p4.toInt * (f 19).toInt + p3.toInt * (f (19 + 5 * k)).toInt ∧ ∀ i : Nat, 16 + 5 * k ≤ i → i < 41 → rg_dS g k i = f (5 + i)) ∧ r = none)))) (tt_OX (fun _ _ _ => False)) := by
  refine jj_start hl (by decide) jw_665473674f (jj_le rfl) ?_
  intro p e s m args below meth c A hargs hA C hex hmn
  have hfr := tt_fr.refl (K := Kd) (WS := []) pl0
  have hfa := tt_fa.refl (K := Kd) (WA := [2]) pl0
  have hH := hI.1.1
  obtain ⟨⟨g0a, g0b⟩, ⟨g1a, g1b⟩, ⟨g6a, g6b⟩, ⟨g7a, g7b⟩, ⟨g8a, g8b⟩⟩ := hH
  have hB : B ≤ 43920000000 := by omega
  have hk6 : k < 6 := by unfold rnS at hk; omega
  have hm0 : 1000000 ≤ (f 20).toInt := (hI.2.1 0 (by omega)).2.1.1
  refine jj_iconst (v := 0) C dX11_mergeOne_0 (by decide) ?_
  refine jj_istore C dX11_mergeOne_1 (by decide) rfl ?_
  have hL_1 : ∀ (N : Nat) (pl : va_W) (k_2 : Nat) (g_3 : Nat → Int64), True → tt_ok rt_tk cA Kd pl → tt_fr Kd [] pl0 pl → tt_fa Kd [2] pl0 pl → rl_m pl h0 aw aa at0 ai af ap → tt_lc pl aw g_3 → rl_MO B f g_3 k p3.toInt p4.toInt k_2 → (0 : Int) ≤ (k_2 : Int) → (k_2 : Int) ≤ 40 → (((k_2 : Nat) : Int) ≤ (f 7).toInt) → (2147483648 - (k_2 : Int) ≤ (N : Int)) → jj_J p l e (jj_rm 1 20 0 0) s m args below meth c 9 A (vx_MQ below (jj_q D A (tt_O (fun rx pl1 r => rx = [] ∧ tt_ok rt_tk cA Kd pl1 ∧ tt_fr Kd [] pl0 pl1 ∧ tt_fa Kd [2] pl0 pl1 ∧ ((∃ g : Nat → Int64, tt_lc pl1 aw g ∧ (rl_I B (rg_dS g k) ∧ rl_T (rg_dS g k) = rl_T f ∧ (∀ i : Nat, i ≠ 6 → i ≠ 18 → i ≠ 19 → ¬ (16 + 5 * k ≤ i ∧ i < 286) → (i < 46 ∨ 286 ≤ i) → rg_dS g k i = f i) ∧ (rg_dS g k 6).toInt = (f 6).toInt - 1 ∧ (rg_dS g k 18).toInt = (f 18).toInt + (f (18 + 5 * k)).toInt ∧ (f 19).toInt ≤ (rg_dS g k 19).toInt ∧ p4.toInt * (rg_dS g k 19).toInt ≤ p4.toInt * (f 19).toInt + p3.toInt * (f (19 + 5 * k)).toInt ∧ ∀ i : Nat, 16 + 5 * k ≤ i → i < 41 → rg_dS g k i = f (5 + i)) ∧ r = none))))) (jj_x D A (tt_OX (fun _ _ _ => False))) args s 0 0 A) (jj_X D A ([] ++ pl)) 0 0 3 [(7, .int (nI k_2)), (0, .ref h0), (1, .int (nI (16 + 5 * k))), (2, .int (nI 16)), (3, .long p3), (5, .long p4)] [] := by
    intro NL_1
    induction NL_1 with
    | zero => intro pl k_2 g_3 _ hok hfr hfa hm hC_4 hD_5 lk_2 uk_2 hS9 hNL_1; exfalso; omega
    | succ NL_1 ihL_1 =>
      intro pl k_2 g_3 _ hok hfr hfa hm hC_4 hD_5 lk_2 uk_2 hS9 hNL_1
      replace ihL_1 := fun pl k_2 g_3 h1 => ihL_1 pl k_2 g_3 trivial h1
      have e7g_3 := congrArg Int64.toInt (hD_5.2.1 7 (by decide) (by omega))
      refine jj_iload C dX11_mergeOne_3 rfl ?_
      refine jj_i2l C dX11_mergeOne_5 rfl ?_
      refine jj_aload_n C dX11_mergeOne_6 rfl ?_
      refine tt_getF C hok jk_12 0 (by decide) jw_34eaf3ba8b (t := (2, 2, 0)) hk0 (by decide) rfl rfl hm.1 dX11_mergeOne_7 ?_
      refine jj_bipush (v := 7) C dX11_mergeOne_10 (by decide) ?_
      refine rl_lald C hok (t := (1, (-9223372036854775808), 9223372036854775807)) hkw (by decide) rfl (k := 7) (v := (g_3 7)) (vp_in_iff.mpr (by decide)) hC_4 (by decide) rfl dX11_mergeOne_12 ?_
      refine jj_lcmp_ge (tgt := 125) C dX11_mergeOne_13 dX11_mergeOne_14 (by decide) (fun c_6 => ?_) (fun c_6 => ?_)
      · have z_c_6 := jc_leL (a := (g_3 7).toInt) (b := ((k_2 : Nat) : Int)) c_6 rfl (rl_tl (by omega))
        refine jj_aload_n C dX11_mergeOne_125 rfl ?_
        refine tt_getF C hok jk_12 0 (by decide) jw_34eaf3ba8b (t := (2, 2, 0)) hk0 (by decide) rfl rfl hm.1 dX11_mergeOne_126 ?_
        refine jj_iload_n C dX11_mergeOne_129 rfl ?_
        refine jj_iconst (v := 2) C dX11_mergeOne_130 (by decide) ?_
        refine jj_iadd (v := nI 18) C dX11_mergeOne_131 (rl_addR (kn := 2) (by decide) (by omega)) ?_
        refine jj_dup2 C dX11_mergeOne_132 rfl rfl ?_
        refine rl_lald C hok (t := (1, (-9223372036854775808), 9223372036854775807)) hkw (by decide) rfl (k := 18) (v := (g_3 18)) (vp_in_nI (by omega) (by decide)) hC_4 (nI_clamp (by omega)) rfl dX11_mergeOne_133 ?_
        refine jj_aload_n C dX11_mergeOne_134 rfl ?_
        refine tt_getF C hok jk_12 0 (by decide) jw_34eaf3ba8b (t := (2, 2, 0)) hk0 (by decide) rfl rfl hm.1 dX11_mergeOne_135 ?_
        refine jj_iload_n C dX11_mergeOne_138 rfl ?_
        refine jj_iconst (v := 2) C dX11_mergeOne_139 (by decide) ?_
        refine jj_iadd (v := nI (18 + 5 * k)) C dX11_mergeOne_140 (rl_addR (kn := 2) (by decide) (by omega)) ?_
        refine rl_lald C hok (t := (1, (-9223372036854775808), 9223372036854775807)) hkw (by decide) rfl (k := 18 + 5 * k) (v := (g_3 (18 + 5 * k))) (vp_in_nI (by omega) (by decide)) hC_4 (nI_clamp (by omega)) rfl dX11_mergeOne_141 ?_
        refine jj_ladd C dX11_mergeOne_142 rfl ?_
        refine rl_last C hok (t := (1, (-9223372036854775808), 9223372036854775807)) hkw (by decide) rfl (k := 18) (vp_in_nI (by omega) (by decide)) (tt_ja _) (nI_clamp (by omega)) dX11_mergeOne_143 (fun pl_7 hok_8 tr tl tw => ?_)
        replace hm := hm.arr tr
        replace hfr := hfr.arr tr
        replace hC_4 := tw _ hC_4
        replace hfa := hfa.wr hkw tl (by decide)
        exact jj_vret C ⟨[], pl_7, rfl, rfl, hok_8, hfr, hfa, ⟨_, hC_4, (hD_5.fin hI hB5 hk hk9 (by have := congrArg Int64.toInt (hD_5.2.1 7 (by decide) (by omega)); unfold rnL; omega) hp.1 rfl), rfl⟩⟩ dX11_mergeOne_144 (jj_le rfl) (jj_le rfl)
      · have z_c_6 := jc_nleL (a := (g_3 7).toInt) (b := ((k_2 : Nat) : Int)) c_6 rfl (rl_tl (by omega))
        refine jj_iload C dX11_mergeOne_17 rfl ?_
        refine tt_call0S (rest := []) C (rn_lotAt hl D cA ak k_2 (46 + 6 * k_2) (by omega)) jw_4c8c4b88e2 jw_0fa3e2bccb jw_f96c99f44d jw_d540d98a1c jn_X11_lotAt rfl (jj_le rfl) (jj_le rfl) (jj_le rfl) (jj_le rfl) (jj_le rfl) dX11_mergeOne_19 rfl (fun w1 r hO => ?_)
        obtain ⟨-, rfl⟩ := hO
        refine jj_istore C dX11_mergeOne_22 (by decide) rfl ?_
        refine jj_aload_n C dX11_mergeOne_24 rfl ?_
        refine tt_getF C hok jk_12 0 (by decide) jw_34eaf3ba8b (t := (2, 2, 0)) hk0 (by decide) rfl rfl hm.1 dX11_mergeOne_25 ?_
        refine jj_iload C dX11_mergeOne_28 rfl ?_
        refine jj_iconst (v := 1) C dX11_mergeOne_30 (by decide) ?_
        refine jj_iadd (v := nI (47 + 6 * k_2)) C dX11_mergeOne_31 (rl_addR (kn := 1) (by decide) (by omega)) ?_
        refine rl_lald C hok (t := (1, (-9223372036854775808), 9223372036854775807)) hkw (by decide) rfl (k := 47 + 6 * k_2) (v := (g_3 (47 + 6 * k_2))) (vp_in_nI (by omega) (by decide)) hC_4 (nI_clamp (by omega)) rfl dX11_mergeOne_32 ?_
        refine jj_aload_n C dX11_mergeOne_33 rfl ?_
        refine tt_getF C hok jk_12 0 (by decide) jw_34eaf3ba8b (t := (2, 2, 0)) hk0 (by decide) rfl rfl hm.1 dX11_mergeOne_34 ?_
        refine jj_iload_n C dX11_mergeOne_37 rfl ?_
        refine jj_iconst (v := 0) C dX11_mergeOne_38 (by decide) ?_
        refine jj_iadd (v := nI (16 + 5 * k)) C dX11_mergeOne_39 (rl_addR (kn := 0) (by decide) (by omega)) ?_
        refine rl_lald C hok (t := (1, (-9223372036854775808), 9223372036854775807)) hkw (by decide) rfl (k := 16 + 5 * k) (v := (g_3 (16 + 5 * k))) (vp_in_nI (by omega) (by decide)) hC_4 (nI_clamp (by omega)) rfl dX11_mergeOne_40 ?_
        refine jj_lcmp_eq (tgt := 48) C dX11_mergeOne_41 dX11_mergeOne_42 (by decide) (fun c_9 => ?_) (fun c_9 => ?_)
        · have z_c_9 := jc_eqL (a := (g_3 (47 + 6 * k_2)).toInt) (b := (g_3 (16 + 5 * k)).toInt) c_9 rfl rfl
          refine jj_aload_n C dX11_mergeOne_48 rfl ?_
          refine tt_getF C hok jk_12 0 (by decide) jw_34eaf3ba8b (t := (2, 2, 0)) hk0 (by decide) rfl rfl hm.1 dX11_mergeOne_49 ?_
          refine jj_iload C dX11_mergeOne_52 rfl ?_
          refine jj_iconst (v := 2) C dX11_mergeOne_54 (by decide) ?_
          refine jj_iadd (v := nI (48 + 6 * k_2)) C dX11_mergeOne_55 (rl_addR (kn := 2) (by decide) (by omega)) ?_
          refine jj_aload_n C dX11_mergeOne_56 rfl ?_
          refine tt_getF C hok jk_12 0 (by decide) jw_34eaf3ba8b (t := (2, 2, 0)) hk0 (by decide) rfl rfl hm.1 dX11_mergeOne_57 ?_
          refine jj_iload C dX11_mergeOne_60 rfl ?_
          refine jj_iconst (v := 2) C dX11_mergeOne_62 (by decide) ?_
          refine jj_iadd (v := nI (48 + 6 * k_2)) C dX11_mergeOne_63 (rl_addR (kn := 2) (by decide) (by omega)) ?_
          refine rl_lald C hok (t := (1, (-9223372036854775808), 9223372036854775807)) hkw (by decide) rfl (k := 48 + 6 * k_2) (v := (g_3 (48 + 6 * k_2))) (vp_in_nI (by omega) (by decide)) hC_4 (nI_clamp (by omega)) rfl dX11_mergeOne_64 ?_
          refine jj_lload_n C dX11_mergeOne_65 rfl ?_
          refine jj_lmul C dX11_mergeOne_66 rfl ?_
          refine jj_lload C dX11_mergeOne_67 rfl ?_
          refine jj_ldiv C dX11_mergeOne_69 (rl_nz (by omega)) rfl ?_
          refine rl_last C hok (t := (1, (-9223372036854775808), 9223372036854775807)) hkw (by decide) rfl (k := 48 + 6 * k_2) (vp_in_nI (by omega) (by decide)) (tt_ja _) (nI_clamp (by omega)) dX11_mergeOne_70 (fun pl_10 hok_11 tr tl tw => ?_)
          replace hm := hm.arr tr
          replace hfr := hfr.arr tr
          replace hC_4 := tw _ hC_4
          replace hfa := hfa.wr hkw tl (by decide)
          refine jj_aload_n C dX11_mergeOne_71 rfl ?_
          refine tt_getF C hok_11 jk_12 0 (by decide) jw_34eaf3ba8b (t := (2, 2, 0)) hk0 (by decide) rfl rfl hm.1 dX11_mergeOne_72 ?_
          refine jj_iload C dX11_mergeOne_75 rfl ?_
          refine jj_iconst (v := 1) C dX11_mergeOne_77 (by decide) ?_
          refine jj_iadd (v := nI (47 + 6 * k_2)) C dX11_mergeOne_78 (rl_addR (kn := 1) (by decide) (by omega)) ?_
          refine jj_aload_n C dX11_mergeOne_79 rfl ?_
          refine tt_getF C hok_11 jk_12 0 (by decide) jw_34eaf3ba8b (t := (2, 2, 0)) hk0 (by decide) rfl rfl hm.1 dX11_mergeOne_80 ?_
          refine jj_iload_n C dX11_mergeOne_83 rfl ?_
          refine jj_iconst (v := 0) C dX11_mergeOne_84 (by decide) ?_
          refine jj_iadd (v := nI 16) C dX11_mergeOne_85 (rl_addR (kn := 0) (by decide) (by omega)) ?_
          refine rl_lald C hok_11 (t := (1, (-9223372036854775808), 9223372036854775807)) hkw (by decide) rfl (k := 16) (v := (g_3 16)) (vp_in_nI (by omega) (by decide)) hC_4 (nI_clamp (by omega)) (rl_ne (by omega) rfl) dX11_mergeOne_86 ?_
          refine rl_last C hok_11 (t := (1, (-9223372036854775808), 9223372036854775807)) hkw (by decide) rfl (k := 47 + 6 * k_2) (vp_in_nI (by omega) (by decide)) (tt_ja _) (nI_clamp (by omega)) dX11_mergeOne_87 (fun pl_12 hok_13 tr tl tw => ?_)
          replace hm := hm.arr tr
          replace hfr := hfr.arr tr
          replace hC_4 := tw _ hC_4
          replace hfa := hfa.wr hkw tl (by decide)
          refine jj_aload_n C dX11_mergeOne_88 rfl ?_
          refine tt_getF C hok_13 jk_12 0 (by decide) jw_34eaf3ba8b (t := (2, 2, 0)) hk0 (by decide) rfl rfl hm.1 dX11_mergeOne_89 ?_
          refine jj_iload C dX11_mergeOne_92 rfl ?_
          refine jj_iconst (v := 3) C dX11_mergeOne_94 (by decide) ?_
          refine jj_iadd (v := nI (49 + 6 * k_2)) C dX11_mergeOne_95 (rl_addR (kn := 3) (by decide) (by omega)) ?_
          refine jj_lload C dX11_mergeOne_96 rfl ?_
          refine rl_last C hok_13 (t := (1, (-9223372036854775808), 9223372036854775807)) hkw (by decide) rfl (k := 49 + 6 * k_2) (vp_in_nI (by omega) (by decide)) (tt_ja _) (nI_clamp (by omega)) dX11_mergeOne_98 (fun pl_14 hok_15 tr tl tw => ?_)
          replace hm := hm.arr tr
          replace hfr := hfr.arr tr
          replace hC_4 := tw _ hC_4
          replace hfa := hfa.wr hkw tl (by decide)
          refine jj_aload_n C dX11_mergeOne_99 rfl ?_
          refine tt_getF C hok_15 jk_12 0 (by decide) jw_34eaf3ba8b (t := (2, 2, 0)) hk0 (by decide) rfl rfl hm.1 dX11_mergeOne_100 ?_
          refine jj_iload_n C dX11_mergeOne_103 rfl ?_
          refine jj_iconst (v := 3) C dX11_mergeOne_104 (by decide) ?_
          refine jj_iadd (v := nI 19) C dX11_mergeOne_105 (rl_addR (kn := 3) (by decide) (by omega)) ?_
          refine jj_dup2 C dX11_mergeOne_106 rfl rfl ?_
          refine rl_lald C hok_15 (t := (1, (-9223372036854775808), 9223372036854775807)) hkw (by decide) rfl (k := 19) (v := (g_3 19)) (vp_in_nI (by omega) (by decide)) hC_4 (nI_clamp (by omega)) (rl_ne (by omega) (rl_ne (by omega) (rl_ne (by omega) rfl))) dX11_mergeOne_107 ?_
          refine jj_aload_n C dX11_mergeOne_108 rfl ?_
          refine tt_getF C hok_15 jk_12 0 (by decide) jw_34eaf3ba8b (t := (2, 2, 0)) hk0 (by decide) rfl rfl hm.1 dX11_mergeOne_109 ?_
          refine jj_iload C dX11_mergeOne_112 rfl ?_
          refine jj_iconst (v := 2) C dX11_mergeOne_114 (by decide) ?_
          refine jj_iadd (v := nI (48 + 6 * k_2)) C dX11_mergeOne_115 (rl_addR (kn := 2) (by decide) (by omega)) ?_
          refine rl_lald C hok_15 (t := (1, (-9223372036854775808), 9223372036854775807)) hkw (by decide) rfl (k := 48 + 6 * k_2) (v := (((g_3 (48 + 6 * k_2)) * p3) / p4)) (vp_in_nI (by omega) (by decide)) hC_4 (nI_clamp (by omega)) (rl_ne (by omega) (rl_ne (by omega) (rl_eq (by omega)))) dX11_mergeOne_116 ?_
          refine jj_ladd C dX11_mergeOne_117 rfl ?_
          refine rl_last C hok_15 (t := (1, (-9223372036854775808), 9223372036854775807)) hkw (by decide) rfl (k := 19) (vp_in_nI (by omega) (by decide)) (tt_ja _) (nI_clamp (by omega)) dX11_mergeOne_118 (fun pl_16 hok_17 tr tl tw => ?_)
          replace hm := hm.arr tr
          replace hfr := hfr.arr tr
          replace hC_4 := tw _ hC_4
          replace hfa := hfa.wr hkw tl (by decide)
          refine jj_iinc (v := nI (1 + k_2)) C dX11_mergeOne_119 rfl (rl_addR (kn := 1) (by decide) (by omega)) (by decide) rfl ?_
          refine jj_goto (tgt := 3) C dX11_mergeOne_122 (by decide) ?_
          refine jj_loc [0, 2, 3, 4, 5, 6] rfl ?_
          exact ihL_1 pl_16 (1 + k_2) (vp_updL (vp_updL (vp_updL (vp_updL g_3 (48 + 6 * k_2) (((g_3 (48 + 6 * k_2)) * p3) / p4)) (47 + 6 * k_2) (g_3 16)) (49 + 6 * k_2) p4) 19 ((g_3 19) + (((g_3 (48 + 6 * k_2)) * p3) / p4))) hok_17 hfr hfa hm hC_4 (hD_5.put hI hB5 hk hk9 m0 (by have := congrArg Int64.toInt (hD_5.2.1 7 (by decide) (by omega)); unfold rnL; omega) c_9 hp hl9 hM rfl) (by first | omega | decide | exact tt_lo _ | exact tt_hi _) (by first | omega | decide | exact tt_lo _ | exact tt_hi _) (by omega) (by first | omega | decide | exact tt_lo _ | exact tt_hi _)
        · have z_c_9 := jc_neqL (a := (g_3 (47 + 6 * k_2)).toInt) (b := (g_3 (16 + 5 * k)).toInt) c_9 rfl rfl
          refine jj_goto (tgt := 119) C dX11_mergeOne_45 (by decide) ?_
          refine jj_iinc (v := nI (1 + k_2)) C dX11_mergeOne_119 rfl (rl_addR (kn := 1) (by decide) (by omega)) (by decide) rfl ?_
          refine jj_goto (tgt := 3) C dX11_mergeOne_122 (by decide) ?_
          refine jj_loc [0, 2, 3, 4, 5, 6] rfl ?_
          exact ihL_1 pl (1 + k_2) g_3 hok hfr hfa hm hC_4 (hD_5.skip hk6 (by have := congrArg Int64.toInt (hD_5.2.1 7 (by decide) (by omega)); unfold rnL; omega) c_9) (by first | omega | decide | exact tt_lo _ | exact tt_hi _) (by first | omega | decide | exact tt_lo _ | exact tt_hi _) (by omega) (by first | omega | decide | exact tt_lo _ | exact tt_hi _)
  exact hL_1 _ pl0 0 f trivial hok hfr hfa hm hC (rl_MO.init hI k p3.toInt p4.toInt) (by first | omega | decide | exact tt_lo _ | exact tt_hi _) (by first | omega | decide | exact tt_lo _ | exact tt_hi _) (by omega) (Int.self_le_toNat _)

set_option maxHeartbeats 4000000 in
set_option maxRecDepth 100000 in
theorem rs_mergeAll {l : Launch} (hl : l.stackTraces = false) (D : va_G) (cA : Nat → ClassId) (ak : (Nat → Nat) × (Nat → Nat)) {Kd : Nat → Nat} {h0 aw aa at0 ai af ap : Nat} (B : Int) (f : Nat → Int64) (hk0 : Kd h0 = 1) (hkw : Kd aw = 2) (hka : Kd aa = 3) (hkt : Kd at0 = 4) (hki : Kd ai = 5) (hkf : Kd af = 6) (hkp : Kd ap = 7) (hI : rl_I B f) (hP : rl_P f) (hB5 : B ≤ 43520000000) {pl0 : va_W} (hok : tt_ok rt_tk cA Kd pl0) (hm : rl_m pl0 h0 aw aa at0 ai af ap) (hC : tt_lc pl0 aw f) : jj_M l D cA ak yX11_mergeAll (.code yX11_mergeAll cX11_mergeAll 7 (some .int)) 2 48 0 0 ([] ++ pl0) [.ref h0] (tt_O (fun rx pl1 r => rx = [] ∧ tt_ok rt_tk cA Kd pl1 ∧ tt_fr Kd [] pl0 pl1 ∧ tt_fa Kd [2] pl0 pl1 ∧ ((∃ g : Nat → Int64, tt_lc pl1 aw g ∧ rl_I B g ∧ rl_P g ∧ rl_T g ≤ rl_T f ∧ (∀ i : Nat, (i < 10 ∧ i ≠ 6 ∧ i ≠ 7 ∨ 286 ≤ i) → g i = f i) ∧ ∃ v : Int32, r = some (.int v))))) (tt_OX (fun _ _ _ => False)) := by
  refine jj_start hl (by decide) jw_2b00fc14d7 (jj_le rfl) ?_
  intro p e s m args below meth c A hargs hA C hex hmn
  have hfr := tt_fr.refl (K := Kd) (WS := []) pl0
  have hfa := tt_fa.refl (K := Kd) (WA := [2]) pl0
  have hH := hI.1.1
  obtain ⟨⟨g0a, g0b⟩, ⟨g1a, g1b⟩, ⟨g6a, g6b⟩, ⟨g7a, g7b⟩, ⟨g8a, g8b⟩⟩ := hH
  have hB : B ≤ 43920000000 := by omega
  refine jj_aload_n C dX11_mergeAll_0 rfl ?_
  refine tt_getF C hok jk_12 0 (by decide) jw_34eaf3ba8b (t := (2, 2, 0)) hk0 (by decide) rfl rfl hm.1 dX11_mergeAll_1 ?_
  refine jj_iconst (v := 1) C dX11_mergeAll_4 (by decide) ?_
  refine rl_lald C hok (t := (1, (-9223372036854775808), 9223372036854775807)) hkw (by decide) rfl (k := 1) (v := (f 1)) (vp_in_iff.mpr (by decide)) hC (by decide) rfl dX11_mergeAll_5 ?_
  refine jj_lconst (v := 1) C dX11_mergeAll_6 (by decide) ?_
  refine jj_lcmp_eq (tgt := 23) C dX11_mergeAll_7 dX11_mergeAll_8 (by decide) (fun c_1 => ?_) (fun c_1 => ?_)
  · have z_c_1 := jc_eqL (a := (f 1).toInt) (b := 1) c_1 rfl (by decide)
    refine jj_iconst (v := 0) C dX11_mergeAll_23 (by decide) ?_
    exact jj_iret C ⟨[], pl0, rfl, rfl, hok, hfr, hfa, ⟨f, hC, hI, hP, Int.le_refl _, fun _ _ => rfl, (0 : Int32), rfl⟩⟩ dX11_mergeAll_24 (jj_le rfl) (jj_le rfl)
  · have z_c_1 := jc_neqL (a := (f 1).toInt) (b := 1) c_1 rfl (by decide)
    refine jj_aload_n C dX11_mergeAll_11 rfl ?_
    refine tt_getF C hok jk_12 0 (by decide) jw_34eaf3ba8b (t := (2, 2, 0)) hk0 (by decide) rfl rfl hm.1 dX11_mergeAll_12 ?_
    refine jj_bipush (v := 6) C dX11_mergeAll_15 (by decide) ?_
    refine rl_lald C hok (t := (1, (-9223372036854775808), 9223372036854775807)) hkw (by decide) rfl (k := 6) (v := (f 6)) (vp_in_iff.mpr (by decide)) hC (by decide) rfl dX11_mergeAll_17 ?_
    refine jj_lconst (v := 0) C dX11_mergeAll_18 (by decide) ?_
    refine jj_lcmp_ne (tgt := 25) C dX11_mergeAll_19 dX11_mergeAll_20 (by decide) (fun c_2 => ?_) (fun c_2 => ?_)
    · have z_c_2 := jc_neqL (a := (f 6).toInt) (b := 0) c_2 rfl (by decide)
      refine jj_iconst (v := 0) C dX11_mergeAll_25 (by decide) ?_
      show jj_J p l e _ s m args below meth c _ A _ (jj_X D A ([] ++ pl0)) _ _ 26 [(0, .ref h0)] [.int (nI 0)]
      refine tt_call0S (rest := []) C (rn_seriesAt hl D cA ak 0 16 (by omega)) jw_6251557f40 jw_b2cd40a13f jw_f96c99f44d jw_6245231363 jn_X11_seriesAt rfl (jj_le rfl) (jj_le rfl) (jj_le rfl) (jj_le rfl) (jj_le rfl) dX11_mergeAll_26 rfl (fun w1 r hO => ?_)
      obtain ⟨-, rfl⟩ := hO
      refine jj_istore_n C dX11_mergeAll_29 (by decide) rfl ?_
      have hu1 : ¬ (f 19) = 0 := rl_PU hP (k := 0) (by unfold rnS; omega)
      refine jj_aload_n C dX11_mergeAll_30 rfl ?_
      refine jj_iload_n C dX11_mergeAll_31 rfl ?_
      obtain ⟨qc, gs, hqc⟩ := tt_recv (cx := []) hok hk0 (by decide) rfl
      refine tt_callV (rest := []) C (rs_gross hl D cA ak 0 f hk0 hkw hka hkt hki hkf hkp (by omega) hu1 hok hm hC) [] [] rfl rfl (by decide) (by decide) (by decide) qc hqc rfl rfl jw_1edf99ea30 jw_400b60e050 jw_5647e6ad46 jw_f96c99f44d jw_5385d4d55b jn_X11_gross rfl (jj_le rfl) (jj_le rfl) (jj_le rfl) (jj_le rfl) (jj_le rfl) dX11_mergeAll_32 rfl (fun _ _ _ hX => hX.elim) (fun rx pl_3 r O_7 => ?_)
      obtain ⟨rfl, hok_4, hr_5, ha_6, hR_8⟩ := O_7
      replace hC := ha_6.at hkw (by decide) (by decide) hC
      replace hm := hm.fr hr_5 hk0 rfl
      replace hfr := hfr.trans (hr_5.sub (by decide))
      replace hfa := hfa.trans (ha_6.sub (by decide))
      obtain rfl := hR_8
      refine jj_lstore_n C dX11_mergeAll_35 (by decide) rfl ?_
      refine jj_lload_n C dX11_mergeAll_36 rfl ?_
      refine jj_aload_n C dX11_mergeAll_37 rfl ?_
      refine tt_getF C hok_4 jk_12 0 (by decide) jw_34eaf3ba8b (t := (2, 2, 0)) hk0 (by decide) rfl rfl hm.1 dX11_mergeAll_38 ?_
      refine jj_iload_n C dX11_mergeAll_41 rfl ?_
      refine jj_iconst (v := 4) C dX11_mergeAll_42 (by decide) ?_
      refine jj_iadd (v := nI 20) C dX11_mergeAll_43 (rl_addR (kn := 4) (by decide) (by omega)) ?_
      refine rl_lald C hok_4 (t := (1, (-9223372036854775808), 9223372036854775807)) hkw (by decide) rfl (k := 20) (v := (f 20)) (vp_in_nI (by omega) (by decide)) hC (nI_clamp (by omega)) rfl dX11_mergeAll_44 ?_
      refine jj_lcmp_eq (tgt := 51) C dX11_mergeAll_45 dX11_mergeAll_46 (by decide) (fun c_9 => ?_) (fun c_9 => ?_)
      · have z_c_9 := jc_eqL (a := (rg_gross f 0).toInt) (b := (f 20).toInt) c_9 rfl rfl
        refine jj_iconst (v := 0) C dX11_mergeAll_51 (by decide) ?_
        refine jj_istore C dX11_mergeAll_52 (by decide) rfl ?_
        refine jj_iconst (v := 1) C dX11_mergeAll_54 (by decide) ?_
        refine jj_istore C dX11_mergeAll_55 (by decide) rfl ?_
        have hL_10 : ∀ (N : Nat) (pl : va_W) (k_11 : Nat) (x_12 : Int32) (g_13 : Nat → Int64), True → tt_ok rt_tk cA Kd pl → tt_fr Kd [] pl0 pl → tt_fa Kd [2] pl0 pl → rl_m pl h0 aw aa at0 ai af ap → tt_lc pl aw g_13 → rl_MA B f g_13 k_11 → (1 : Int) ≤ (k_11 : Int) → (k_11 : Int) ≤ 6 → (-2147483648 : Int) ≤ x_12.toInt → x_12.toInt ≤ 2147483647 → (((k_11 : Nat) : Int) ≤ (g_13 6).toInt) → ((g_13 6).toInt - ((k_11 : Nat) : Int) + 1 ≤ (N : Int)) → jj_J p l e (jj_rm 2 48 0 0) s m args below meth c 7 A (vx_MQ below (jj_q D A (tt_O (fun rx pl1 r => rx = [] ∧ tt_ok rt_tk cA Kd pl1 ∧ tt_fr Kd [] pl0 pl1 ∧ tt_fa Kd [2] pl0 pl1 ∧ ((∃ g : Nat → Int64, tt_lc pl1 aw g ∧ rl_I B g ∧ rl_P g ∧ rl_T g ≤ rl_T f ∧ (∀ i : Nat, (i < 10 ∧ i ≠ 6 ∧ i ≠ 7 ∨ 286 ≤ i) → g i = f i) ∧ ∃ v : Int32, r = some (.int v)))))) (jj_x D A (tt_OX (fun _ _ _ => False))) args s 0 0 A) (jj_X D A ([] ++ pl)) 0 0 57 [(5, .int (nI k_11)), (4, .int x_12), (2, .long (rg_gross f 0)), (1, .int (nI 16)), (0, .ref h0)] [] := by
          intro NL_10
          induction NL_10 with
          | zero => intro pl k_11 x_12 g_13 _ hok hfr hfa hm hC_14 hD_15 lk_11 uk_11 lx_12 ux_12 hS9 hNL_10; exfalso; omega
          | succ NL_10 ihL_10 =>
            intro pl k_11 x_12 g_13 _ hok hfr hfa hm hC_14 hD_15 lk_11 uk_11 lx_12 ux_12 hS9 hNL_10
            replace ihL_10 := fun pl k_11 x_12 g_13 h1 => ihL_10 pl k_11 x_12 g_13 trivial h1
            obtain ⟨⟨g0ag_13, g0bg_13⟩, ⟨g1ag_13, g1bg_13⟩, ⟨g6ag_13, g6bg_13⟩, ⟨g7ag_13, g7bg_13⟩, ⟨g8ag_13, g8bg_13⟩⟩ := (hD_15.1).1.1
            refine jj_iload C dX11_mergeAll_57 rfl ?_
            refine jj_i2l C dX11_mergeAll_59 rfl ?_
            refine jj_aload_n C dX11_mergeAll_60 rfl ?_
            refine tt_getF C hok jk_12 0 (by decide) jw_34eaf3ba8b (t := (2, 2, 0)) hk0 (by decide) rfl rfl hm.1 dX11_mergeAll_61 ?_
            refine jj_bipush (v := 6) C dX11_mergeAll_64 (by decide) ?_
            refine rl_lald C hok (t := (1, (-9223372036854775808), 9223372036854775807)) hkw (by decide) rfl (k := 6) (v := (g_13 6)) (vp_in_iff.mpr (by decide)) hC_14 (by decide) rfl dX11_mergeAll_66 ?_
            refine jj_lcmp_ge (tgt := 129) C dX11_mergeAll_67 dX11_mergeAll_68 (by decide) (fun c_16 => ?_) (fun c_16 => ?_)
            · have z_c_16 := jc_leL (a := (g_13 6).toInt) (b := ((k_11 : Nat) : Int)) c_16 rfl (rl_tl (by omega))
              refine jj_aload_n C dX11_mergeAll_129 rfl ?_
              obtain ⟨qc, gs, hqc⟩ := tt_recv (cx := []) hok hk0 (by decide) rfl
              refine tt_callV (rest := []) C (rs_dropEmptyLots hl D cA ak B g_13 hk0 hkw hka hkt hki hkf hkp hD_15.1 hok hm hC_14) [] [] rfl rfl (by decide) (by decide) (by decide) qc hqc rfl rfl jw_617bd67f79 jw_8e5c1f18ee jw_f08bec5428 jw_f96c99f44d jw_78a4443009 jn_X11_dropEmptyLots rfl (jj_le rfl) (jj_le rfl) (jj_le rfl) (jj_le rfl) (jj_le rfl) dX11_mergeAll_130 rfl (fun _ _ _ hX => hX.elim) (fun rx pl_17 r O_21 => ?_)
              obtain ⟨rfl, hok_18, hr_19, ha_20, hR_22⟩ := O_21
              replace hm := hm.fr hr_19 hk0 rfl
              replace hfr := hfr.trans (hr_19.sub (by decide))
              replace hfa := hfa.trans (ha_20.sub (by decide))
              obtain ⟨g_23, hC_24, hI_25, hq_26, hq_27, hq_28, hq_29, rfl⟩ := hR_22
              obtain ⟨⟨g0ag_23, g0bg_23⟩, ⟨g1ag_23, g1bg_23⟩, ⟨g6ag_23, g6bg_23⟩, ⟨g7ag_23, g7bg_23⟩, ⟨g8ag_23, g8bg_23⟩⟩ := hI_25.1.1
              refine jj_iload C dX11_mergeAll_133 rfl ?_
              exact jj_iret C ⟨[], pl_17, rfl, rfl, hok_18, hfr, hfa, ⟨g_23, hC_24, hI_25, ⟨hq_29, fun a ha => by rw [hq_27 (19 + 5 * a) (by have := hI_25.1.1.2.2.1; unfold rnS at ha; omega)]; exact hD_15.2.2.2.1 a (by unfold rnS at ha ⊢; rw [← hq_27 6 (by omega)]; exact ha)⟩, Int.le_trans hq_26 hD_15.2.1, (fun i a => (hq_27 i (by omega)).trans (hD_15.2.2.1 i (by omega))), x_12, rfl⟩⟩ dX11_mergeAll_135 (jj_le rfl) (jj_le rfl)
            · have z_c_16 := jc_nleL (a := (g_13 6).toInt) (b := ((k_11 : Nat) : Int)) c_16 rfl (rl_tl (by omega))
              refine jj_iload C dX11_mergeAll_71 rfl ?_
              refine tt_call0S (rest := []) C (rn_seriesAt hl D cA ak k_11 (16 + 5 * k_11) (by omega)) jw_6251557f40 jw_b2cd40a13f jw_f96c99f44d jw_6245231363 jn_X11_seriesAt rfl (jj_le rfl) (jj_le rfl) (jj_le rfl) (jj_le rfl) (jj_le rfl) dX11_mergeAll_73 rfl (fun w1 r hO => ?_)
              obtain ⟨-, rfl⟩ := hO
              refine jj_istore C dX11_mergeAll_76 (by decide) rfl ?_
              have hu_30 : ¬ (g_13 (19 + 5 * k_11)) = 0 := rl_nz (by have := hD_15.2.2.2.1 k_11 (by unfold rnS; omega); omega)
              refine jj_aload_n C dX11_mergeAll_78 rfl ?_
              refine jj_iload C dX11_mergeAll_79 rfl ?_
              obtain ⟨qc, gs, hqc⟩ := tt_recv (cx := []) hok hk0 (by decide) rfl
              refine tt_callV (rest := []) C (rs_gross hl D cA ak k_11 g_13 hk0 hkw hka hkt hki hkf hkp (by omega) hu_30 hok hm hC_14) [] [] rfl rfl (by decide) (by decide) (by decide) qc hqc rfl rfl jw_1edf99ea30 jw_400b60e050 jw_5647e6ad46 jw_f96c99f44d jw_5385d4d55b jn_X11_gross rfl (jj_le rfl) (jj_le rfl) (jj_le rfl) (jj_le rfl) (jj_le rfl) dX11_mergeAll_81 rfl (fun _ _ _ hX => hX.elim) (fun rx pl_31 r O_35 => ?_)
              obtain ⟨rfl, hok_32, hr_33, ha_34, hR_36⟩ := O_35
              replace hC_14 := ha_34.at hkw (by decide) (by decide) hC_14
              replace hm := hm.fr hr_33 hk0 rfl
              replace hfr := hfr.trans (hr_33.sub (by decide))
              replace hfa := hfa.trans (ha_34.sub (by decide))
              obtain rfl := hR_36
              refine jj_aload_n C dX11_mergeAll_84 rfl ?_
              refine tt_getF C hok_32 jk_12 0 (by decide) jw_34eaf3ba8b (t := (2, 2, 0)) hk0 (by decide) rfl rfl hm.1 dX11_mergeAll_85 ?_
              refine jj_iload C dX11_mergeAll_88 rfl ?_
              refine jj_iconst (v := 4) C dX11_mergeAll_90 (by decide) ?_
              refine jj_iadd (v := nI (20 + 5 * k_11)) C dX11_mergeAll_91 (rl_addR (kn := 4) (by decide) (by omega)) ?_
              refine rl_lald C hok_32 (t := (1, (-9223372036854775808), 9223372036854775807)) hkw (by decide) rfl (k := 20 + 5 * k_11) (v := (g_13 (20 + 5 * k_11))) (vp_in_nI (by omega) (by decide)) hC_14 (nI_clamp (by omega)) rfl dX11_mergeAll_92 ?_
              refine jj_lcmp_ne (tgt := 123) C dX11_mergeAll_93 dX11_mergeAll_94 (by decide) (fun c_37 => ?_) (fun c_37 => ?_)
              · have z_c_37 := jc_neqL (a := (rg_gross g_13 k_11).toInt) (b := (g_13 (20 + 5 * k_11)).toInt) c_37 rfl rfl
                refine jj_iinc (v := nI (1 + k_11)) C dX11_mergeAll_123 rfl (rl_addR (kn := 1) (by decide) (by omega)) (by decide) rfl ?_
                refine jj_goto (tgt := 57) C dX11_mergeAll_126 (by decide) ?_
                refine jj_loc [0, 2, 3, 4, 5] rfl ?_
                exact ihL_10 pl_31 (1 + k_11) x_12 g_13 hok_32 hfr hfa hm hC_14 (hD_15.skip (by omega)) (by first | omega | decide | exact tt_lo _ | exact tt_hi _) (by first | omega | decide | exact tt_lo _ | exact tt_hi _) (by first | omega | decide | exact tt_lo _ | exact tt_hi _) (by first | omega | decide | exact tt_lo _ | exact tt_hi _) (by omega) (by first | omega | decide | exact tt_lo _ | exact tt_hi _)
              · have z_c_37 := jc_eqL (a := (rg_gross g_13 k_11).toInt) (b := (g_13 (20 + 5 * k_11)).toInt) c_37 rfl rfl
                refine jj_aload_n C dX11_mergeAll_97 rfl ?_
                refine jj_iload C dX11_mergeAll_98 rfl ?_
                refine jj_iload_n C dX11_mergeAll_100 rfl ?_
                refine jj_aload_n C dX11_mergeAll_101 rfl ?_
                refine jj_iload C dX11_mergeAll_102 rfl ?_
                obtain ⟨qc, gs, hqc⟩ := tt_recv (cx := []) hok_32 hk0 (by decide) rfl
                refine tt_callV (rest := [.int (nI 16), .int (nI (16 + 5 * k_11)), .ref h0]) C (rs_gross hl D cA ak k_11 g_13 hk0 hkw hka hkt hki hkf hkp (by omega) hu_30 hok_32 hm hC_14) [] [] rfl rfl (by decide) (by decide) (by decide) qc hqc rfl rfl jw_1edf99ea30 jw_400b60e050 jw_5647e6ad46 jw_f96c99f44d jw_5385d4d55b jn_X11_gross rfl (jj_le rfl) (jj_le rfl) (jj_le rfl) (jj_le rfl) (jj_le rfl) dX11_mergeAll_104 rfl (fun _ _ _ hX => hX.elim) (fun rx pl_38 r O_42 => ?_)
                obtain ⟨rfl, hok_39, hr_40, ha_41, hR_43⟩ := O_42
                replace hC_14 := ha_41.at hkw (by decide) (by decide) hC_14
                replace hm := hm.fr hr_40 hk0 rfl
                replace hfr := hfr.trans (hr_40.sub (by decide))
                replace hfa := hfa.trans (ha_41.sub (by decide))
                obtain rfl := hR_43
                refine jj_lload_n C dX11_mergeAll_107 rfl ?_
                obtain ⟨qc, gs, hqc⟩ := tt_recv (cx := []) hok_39 hk0 (by decide) rfl
                refine tt_callV (rest := []) C (rs_mergeOne hl D cA ak k_11 (rg_gross g_13 k_11) (rg_gross f 0) B g_13 hk0 hkw hka hkt hki hkf hkp (by unfold rnS; omega) (by omega) hD_15.1 hB5 hD_15.2.2.2.2.1.2 ⟨(hD_15.1.gross hB (k := k_11) (by unfold rnS; omega) (by have := hD_15.2.2.2.1 k_11 (by unfold rnS; omega); omega)).2.1, (hD_15.1.gross hB (k := k_11) (by unfold rnS; omega) (by have := hD_15.2.2.2.1 k_11 (by unfold rnS; omega); omega)).2.2⟩ (by rw [c_9, hD_15.2.2.2.2.1.1]) (by rw [c_9, ← hD_15.2.2.2.2.1.1]; exact hD_15.2.2.2.2.2.1) hok_39 hm hC_14) [] [] rfl rfl (by decide) (by decide) (by decide) qc hqc rfl rfl jw_309c0a361b jw_49a57df682 jw_397a550003 jw_f96c99f44d jw_665473674f jn_X11_mergeOne rfl (jj_le rfl) (jj_le rfl) (jj_le rfl) (jj_le rfl) (jj_le rfl) dX11_mergeAll_108 rfl (fun _ _ _ hX => hX.elim) (fun rx pl_44 r O_48 => ?_)
                obtain ⟨rfl, hok_45, hr_46, ha_47, hR_49⟩ := O_48
                replace hm := hm.fr hr_46 hk0 rfl
                replace hfr := hfr.trans (hr_46.sub (by decide))
                replace hfa := hfa.trans (ha_47.sub (by decide))
                obtain ⟨g_50, hC_51, hq_52, rfl⟩ := hR_49
                refine jj_aload_n C dX11_mergeAll_111 rfl ?_
                refine jj_iload C dX11_mergeAll_112 rfl ?_
                obtain ⟨qc, gs, hqc⟩ := tt_recv (cx := []) hok_45 hk0 (by decide) rfl
                refine tt_callV (rest := []) C (rs_dropSeries hl D cA ak k_11 g_50 hk0 hkw hka hkt hki hkf hkp (by omega) hok_45 hm hC_51) [] [] rfl rfl (by decide) (by decide) (by decide) qc hqc rfl rfl jw_be253d6d22 jw_2c4ef652a4 jw_ed61f4f8ea jw_f96c99f44d jw_1bc5a547f3 jn_X11_dropSeries rfl (jj_le rfl) (jj_le rfl) (jj_le rfl) (jj_le rfl) (jj_le rfl) dX11_mergeAll_114 rfl (fun _ _ _ hX => hX.elim) (fun rx pl_53 r O_57 => ?_)
                obtain ⟨rfl, hok_54, hr_55, ha_56, hR_58⟩ := O_57
                replace hm := hm.fr hr_55 hk0 rfl
                replace hfr := hfr.trans (hr_55.sub (by decide))
                replace hfa := hfa.trans (ha_56.sub (by decide))
                obtain ⟨hC_59, rfl⟩ := hR_58
                obtain ⟨x_60, ex_60⟩ : ∃ z : Int32, x_12 + Int32.ofInt 1 = z := ⟨_, rfl⟩
                refine jj_iinc (v := x_60) C dX11_mergeAll_117 rfl ex_60 (by decide) rfl ?_
                refine jj_goto (tgt := 126) C dX11_mergeAll_120 (by decide) ?_
                refine jj_goto (tgt := 57) C dX11_mergeAll_126 (by decide) ?_
                refine jj_loc [2, 0, 3, 4, 5] rfl ?_
                exact ihL_10 pl_53 k_11 x_60 (rg_dS g_50 k_11) hok_54 hfr hfa hm hC_59 (hD_15.drop hB (by unfold rnS; omega) hq_52.1 hq_52.2.1 hq_52.2.2.1 hq_52.2.2.2.1 hq_52.2.2.2.2.1 hq_52.2.2.2.2.2.1 (by have q9 := hq_52.2.2.2.2.2.2.1; rw [c_9, ← hD_15.2.2.2.2.1.1] at q9; exact q9) hq_52.2.2.2.2.2.2.2) (by first | omega | decide | exact tt_lo _ | exact tt_hi _) (by first | omega | decide | exact tt_lo _ | exact tt_hi _) (by first | omega | decide | exact tt_lo _ | exact tt_hi _) (by first | omega | decide | exact tt_lo _ | exact tt_hi _) (by have q9 := hq_52.2.2.2.1; omega) (by first | omega | decide | exact tt_lo _ | exact tt_hi _)
        exact hL_10 _ pl_3 1 (0 : Int32) f trivial hok_4 hfr hfa hm hC (rl_MA.init hI hP hB (by omega) (by omega) c_9) (by first | omega | decide | exact tt_lo _ | exact tt_hi _) (by first | omega | decide | exact tt_lo _ | exact tt_hi _) (by first | omega | decide | exact tt_lo _ | exact tt_hi _) (by first | omega | decide | exact tt_lo _ | exact tt_hi _) (by omega) (Int.self_le_toNat _)
      · have z_c_9 := jc_neqL (a := (rg_gross f 0).toInt) (b := (f 20).toInt) c_9 rfl rfl
        refine jj_iconst (v := 0) C dX11_mergeAll_49 (by decide) ?_
        exact jj_iret C ⟨[], pl_3, rfl, rfl, hok_4, hfr, hfa, ⟨f, hC, hI, hP, Int.le_refl _, fun _ _ => rfl, (0 : Int32), rfl⟩⟩ dX11_mergeAll_50 (jj_le rfl) (jj_le rfl)
    · have z_c_2 := jc_eqL (a := (f 6).toInt) (b := 0) c_2 rfl (by decide)
      refine jj_iconst (v := 0) C dX11_mergeAll_23 (by decide) ?_
      exact jj_iret C ⟨[], pl0, rfl, rfl, hok, hfr, hfa, ⟨f, hC, hI, hP, Int.le_refl _, fun _ _ => rfl, (0 : Int32), rfl⟩⟩ dX11_mergeAll_24 (jj_le rfl) (jj_le rfl)
