theorem jw_d433781008 : Cond.code yX11_split cX11_split 8 none ∈ jj_G := jj_t8 (List.mem_of_getElem? (i := 29) (by decide +kernel)) rfl
theorem jw_7c4659b817 : Cond.code yX11_splits cX11_splits 7 (some .boolean) ∈ jj_G := jj_t8 (List.mem_of_getElem? (i := 25) (by decide +kernel)) rfl
theorem jw_fd488cad69 : Cond.methodLink RX11 290 yX11_splits ∈ jj_G := jj_t8 (List.mem_of_getElem? (i := 22) (by decide +kernel)) rfl
theorem jw_786f02bcdc : Cond.instanceMethod yX11_splits ∈ jj_G := jj_t8 (List.mem_of_getElem? (i := 24) (by decide +kernel)) rfl
theorem jw_db8687d292 : Cond.selects RX11 yX11_splits yX11_splits ∈ jj_G := jj_pv (q := (yX11_splits, 25)) (by decide +kernel)
theorem jn_X11_splits : jj_N yX11_splits 2 := by unfold jj_N; decide +kernel
theorem jw_185ae12042 : Cond.code yX11_cannotMove cX11_cannotMove 3 (some .boolean) ∈ jj_G := jj_t8 (List.mem_of_getElem? (i := 21) (by decide +kernel)) rfl

set_option maxHeartbeats 4000000 in
set_option maxRecDepth 100000 in
theorem rs_split {l : Launch} (hl : l.stackTraces = false) (D : va_G) (cA : Nat → ClassId) (ak : (Nat → Nat) × (Nat → Nat)) {Kd : Nat → Nat} {h0 aw aa at0 ai af ap : Nat} (j e9 : Nat) (p2 : Int32) (p3 : Int64) (B : Int) (f : Nat → Int64) (hk0 : Kd h0 = 1) (hkw : Kd aw = 2) (hka : Kd aa = 3) (hkt : Kd at0 = 4) (hki : Kd ai = 5) (hkf : Kd af = 6) (hkp : Kd ap = 7) (he : (f 7).toInt = ((1 + e9 + j : Nat) : Int)) (hl9 : (f 7).toInt < 40) (hI : rl_I B f) (hP : rl_P f) (hB : B ≤ 43920000000) (hx : 1 ≤ p3.toInt ∧ p3.toInt < (f (48 + 6 * j)).toInt) {pl0 : va_W} (hok : tt_ok rt_tk cA Kd pl0) (hm : rl_m pl0 h0 aw aa at0 ai af ap) (hC : tt_lc pl0 aw f) : jj_M l D cA ak yX11_split (.code yX11_split cX11_split 8 none) 1 20 0 0 ([] ++ pl0) [.ref h0, .int (nI (46 + 6 * j)), .int p2, .long p3] (tt_O (fun rx pl1 r => rx = [] ∧ tt_ok rt_tk cA Kd pl1 ∧ tt_fr Kd [] pl0 pl1 ∧ tt_fa Kd [2] pl0 pl1 ∧ ((∃ g : Nat → Int64, tt_lc pl1 aw g ∧ rl_I B g ∧ rl_P g ∧ rl_T g = rl_T f ∧ (∀ i : Nat, i ≠ 7 → i ≠ 48 + 6 * j → i ≠ 50 + 6 * j → ¬ (46 + 6 * rnL f ≤ i ∧ i ≤ 51 + 6 * rnL f) → g i = f i) ∧ (g 7).toInt = (f 7).toInt + 1 ∧ r = none)))) (tt_OX (fun _ _ _ => False)) := by
  refine jj_start hl (by decide) jw_d433781008 (jj_le rfl) ?_
  intro p e s m args below meth c A hargs hA C hex hmn
  have hfr := tt_fr.refl (K := Kd) (WS := []) pl0
  have hfa := tt_fa.refl (K := Kd) (WA := [2]) pl0
  have hH := hI.1.1
  obtain ⟨⟨g0a, g0b⟩, ⟨g1a, g1b⟩, ⟨g6a, g6b⟩, ⟨g7a, g7b⟩, ⟨g8a, g8b⟩⟩ := hH
  have lp2 := tt_lo p2
  have up2 := tt_hi p2
  have hm9 : rnL f = 1 + e9 + j := by unfold rnL; omega
  refine jj_aload_n C dX11_split_0 rfl ?_
  refine tt_getF C hok jk_12 0 (by decide) jw_34eaf3ba8b (t := (2, 2, 0)) hk0 (by decide) rfl rfl hm.1 dX11_split_1 ?_
  refine jj_bipush (v := 7) C dX11_split_4 (by decide) ?_
  refine rl_lald C hok (t := (1, (-9223372036854775808), 9223372036854775807)) hkw (by decide) rfl (k := 7) (v := (f 7)) (vp_in_iff.mpr (by decide)) hC (by decide) rfl dX11_split_6 ?_
  obtain ⟨n_1, en_1, vn_1⟩ := rl_l2i (x := (f 7)) (by omega) (by omega)
  refine jj_l2i (v := nI n_1) C dX11_split_7 en_1 ?_
  obtain rfl : n_1 = 1 + e9 + j := by omega
  refine tt_call0S (rest := []) C (rn_lotAt hl D cA ak (1 + e9 + j) (52 + 6 * e9 + 6 * j) (by omega)) jw_4c8c4b88e2 jw_0fa3e2bccb jw_f96c99f44d jw_d540d98a1c jn_X11_lotAt rfl (jj_le rfl) (jj_le rfl) (jj_le rfl) (jj_le rfl) (jj_le rfl) dX11_split_8 rfl (fun w1 r hO => ?_)
  obtain ⟨-, rfl⟩ := hO
  refine jj_istore C dX11_split_11 (by decide) rfl ?_
  refine jj_iconst (v := 0) C dX11_split_13 (by decide) ?_
  refine jj_istore C dX11_split_14 (by decide) rfl ?_
  have hL_2 : ∀ (N : Nat) (pl : va_W) (k_3 : Nat) (g_4 : Nat → Int64), True → tt_ok rt_tk cA Kd pl → tt_fr Kd [] pl0 pl → tt_fa Kd [2] pl0 pl → rl_m pl h0 aw aa at0 ai af ap → tt_lc pl aw g_4 → rl_LC f g_4 j (1 + e9 + j) k_3 → (0 : Int) ≤ (k_3 : Int) → (k_3 : Int) ≤ 6 → (2147483648 - (k_3 : Int) ≤ (N : Int)) → jj_J p l e (jj_rm 1 20 0 0) s m args below meth c 8 A (vx_MQ below (jj_q D A (tt_O (fun rx pl1 r => rx = [] ∧ tt_ok rt_tk cA Kd pl1 ∧ tt_fr Kd [] pl0 pl1 ∧ tt_fa Kd [2] pl0 pl1 ∧ ((∃ g : Nat → Int64, tt_lc pl1 aw g ∧ rl_I B g ∧ rl_P g ∧ rl_T g = rl_T f ∧ (∀ i : Nat, i ≠ 7 → i ≠ 48 + 6 * j → i ≠ 50 + 6 * j → ¬ (46 + 6 * rnL f ≤ i ∧ i ≤ 51 + 6 * rnL f) → g i = f i) ∧ (g 7).toInt = (f 7).toInt + 1 ∧ r = none))))) (jj_x D A (tt_OX (fun _ _ _ => False))) args s 0 0 A) (jj_X D A ([] ++ pl)) 0 0 16 [(6, .int (nI k_3)), (5, .int (nI (52 + 6 * e9 + 6 * j))), (0, .ref h0), (1, .int (nI (46 + 6 * j))), (2, .int p2), (3, .long p3)] [] := by
    intro NL_2
    induction NL_2 with
    | zero => intro pl k_3 g_4 _ hok hfr hfa hm hC_5 hD_6 lk_3 uk_3 hNL_2; exfalso; omega
    | succ NL_2 ihL_2 =>
      intro pl k_3 g_4 _ hok hfr hfa hm hC_5 hD_6 lk_3 uk_3 hNL_2
      replace ihL_2 := fun pl k_3 g_4 h1 => ihL_2 pl k_3 g_4 trivial h1
      refine jj_iload C dX11_split_16 rfl ?_
      refine jj_bipush (v := 6) C dX11_split_18 (by decide) ?_
      refine jj_icmp_ge (tgt := 48) C dX11_split_20 (by decide) (fun c_7 => ?_) (fun c_7 => ?_)
      · have z_c_7 := jc_le (a := 6) (b := ((k_3 : Nat) : Int)) c_7 (by decide) (rl_ti (by omega))
        obtain rfl : k_3 = 6 := by omega
        have q48 : g_4 (48 + 6 * j) = f (48 + 6 * j) := hD_6.1 _ (by omega)
        have q50 : g_4 (50 + 6 * j) = f (50 + 6 * j) := hD_6.1 _ (by omega)
        have q7 : g_4 7 = f 7 := hD_6.1 _ (by omega)
        have hlu : ¬ (g_4 (48 + 6 * j)) = 0 := rl_nz (by rw [q48]; omega)
        refine jj_aload_n C dX11_split_48 rfl ?_
        refine tt_getF C hok jk_12 0 (by decide) jw_34eaf3ba8b (t := (2, 2, 0)) hk0 (by decide) rfl rfl hm.1 dX11_split_49 ?_
        refine jj_iload_n C dX11_split_52 rfl ?_
        refine jj_iconst (v := 4) C dX11_split_53 (by decide) ?_
        refine jj_iadd (v := nI (50 + 6 * j)) C dX11_split_54 (rl_addR (kn := 4) (by decide) (by omega)) ?_
        refine rl_lald C hok (t := (1, (-9223372036854775808), 9223372036854775807)) hkw (by decide) rfl (k := 50 + 6 * j) (v := (g_4 (50 + 6 * j))) (vp_in_nI (by omega) (by decide)) hC_5 (nI_clamp (by omega)) rfl dX11_split_55 ?_
        refine jj_lload_n C dX11_split_56 rfl ?_
        refine jj_lmul C dX11_split_57 rfl ?_
        refine jj_aload_n C dX11_split_58 rfl ?_
        refine tt_getF C hok jk_12 0 (by decide) jw_34eaf3ba8b (t := (2, 2, 0)) hk0 (by decide) rfl rfl hm.1 dX11_split_59 ?_
        refine jj_iload_n C dX11_split_62 rfl ?_
        refine jj_iconst (v := 2) C dX11_split_63 (by decide) ?_
        refine jj_iadd (v := nI (48 + 6 * j)) C dX11_split_64 (rl_addR (kn := 2) (by decide) (by omega)) ?_
        refine rl_lald C hok (t := (1, (-9223372036854775808), 9223372036854775807)) hkw (by decide) rfl (k := 48 + 6 * j) (v := (g_4 (48 + 6 * j))) (vp_in_nI (by omega) (by decide)) hC_5 (nI_clamp (by omega)) rfl dX11_split_65 ?_
        refine jj_ldiv C dX11_split_66 hlu rfl ?_
        refine jj_lstore C dX11_split_67 (by decide) rfl ?_
        refine jj_aload_n C dX11_split_69 rfl ?_
        refine tt_getF C hok jk_12 0 (by decide) jw_34eaf3ba8b (t := (2, 2, 0)) hk0 (by decide) rfl rfl hm.1 dX11_split_70 ?_
        refine jj_iload C dX11_split_73 rfl ?_
        refine jj_iconst (v := 0) C dX11_split_75 (by decide) ?_
        refine jj_iadd (v := nI (52 + 6 * e9 + 6 * j)) C dX11_split_76 (rl_addR (kn := 0) (by decide) (by omega)) ?_
        refine jj_iload_n C dX11_split_77 rfl ?_
        obtain ⟨y_8, ey_8, vy_8⟩ := tt_i2l p2
        refine jj_i2l (v := y_8) C dX11_split_78 ey_8 ?_
        refine rl_last C hok (t := (1, (-9223372036854775808), 9223372036854775807)) hkw (by decide) rfl (k := 52 + 6 * e9 + 6 * j) (vp_in_nI (by omega) (by decide)) (tt_ja _) (nI_clamp (by omega)) dX11_split_79 (fun pl_9 hok_10 tr tl tw => ?_)
        replace hm := hm.arr tr
        replace hfr := hfr.arr tr
        replace hC_5 := tw _ hC_5
        replace hfa := hfa.wr hkw tl (by decide)
        refine jj_aload_n C dX11_split_80 rfl ?_
        refine tt_getF C hok_10 jk_12 0 (by decide) jw_34eaf3ba8b (t := (2, 2, 0)) hk0 (by decide) rfl rfl hm.1 dX11_split_81 ?_
        refine jj_iload C dX11_split_84 rfl ?_
        refine jj_iconst (v := 2) C dX11_split_86 (by decide) ?_
        refine jj_iadd (v := nI (54 + 6 * e9 + 6 * j)) C dX11_split_87 (rl_addR (kn := 2) (by decide) (by omega)) ?_
        refine jj_lload_n C dX11_split_88 rfl ?_
        refine rl_last C hok_10 (t := (1, (-9223372036854775808), 9223372036854775807)) hkw (by decide) rfl (k := 54 + 6 * e9 + 6 * j) (vp_in_nI (by omega) (by decide)) (tt_ja _) (nI_clamp (by omega)) dX11_split_89 (fun pl_11 hok_12 tr tl tw => ?_)
        replace hm := hm.arr tr
        replace hfr := hfr.arr tr
        replace hC_5 := tw _ hC_5
        replace hfa := hfa.wr hkw tl (by decide)
        refine jj_aload_n C dX11_split_90 rfl ?_
        refine tt_getF C hok_12 jk_12 0 (by decide) jw_34eaf3ba8b (t := (2, 2, 0)) hk0 (by decide) rfl rfl hm.1 dX11_split_91 ?_
        refine jj_iload C dX11_split_94 rfl ?_
        refine jj_iconst (v := 4) C dX11_split_96 (by decide) ?_
        refine jj_iadd (v := nI (56 + 6 * e9 + 6 * j)) C dX11_split_97 (rl_addR (kn := 4) (by decide) (by omega)) ?_
        refine jj_lload C dX11_split_98 rfl ?_
        refine rl_last C hok_12 (t := (1, (-9223372036854775808), 9223372036854775807)) hkw (by decide) rfl (k := 56 + 6 * e9 + 6 * j) (vp_in_nI (by omega) (by decide)) (tt_ja _) (nI_clamp (by omega)) dX11_split_100 (fun pl_13 hok_14 tr tl tw => ?_)
        replace hm := hm.arr tr
        replace hfr := hfr.arr tr
        replace hC_5 := tw _ hC_5
        replace hfa := hfa.wr hkw tl (by decide)
        refine jj_aload_n C dX11_split_101 rfl ?_
        refine tt_getF C hok_14 jk_12 0 (by decide) jw_34eaf3ba8b (t := (2, 2, 0)) hk0 (by decide) rfl rfl hm.1 dX11_split_102 ?_
        refine jj_iload_n C dX11_split_105 rfl ?_
        refine jj_iconst (v := 2) C dX11_split_106 (by decide) ?_
        refine jj_iadd (v := nI (48 + 6 * j)) C dX11_split_107 (rl_addR (kn := 2) (by decide) (by omega)) ?_
        refine jj_dup2 C dX11_split_108 rfl rfl ?_
        refine rl_lald C hok_14 (t := (1, (-9223372036854775808), 9223372036854775807)) hkw (by decide) rfl (k := 48 + 6 * j) (v := (g_4 (48 + 6 * j))) (vp_in_nI (by omega) (by decide)) hC_5 (nI_clamp (by omega)) (rl_ne (by omega) (rl_ne (by omega) (rl_ne (by omega) rfl))) dX11_split_109 ?_
        refine jj_lload_n C dX11_split_110 rfl ?_
        refine jj_lsub C dX11_split_111 rfl ?_
        refine rl_last C hok_14 (t := (1, (-9223372036854775808), 9223372036854775807)) hkw (by decide) rfl (k := 48 + 6 * j) (vp_in_nI (by omega) (by decide)) (tt_ja _) (nI_clamp (by omega)) dX11_split_112 (fun pl_15 hok_16 tr tl tw => ?_)
        replace hm := hm.arr tr
        replace hfr := hfr.arr tr
        replace hC_5 := tw _ hC_5
        replace hfa := hfa.wr hkw tl (by decide)
        refine jj_aload_n C dX11_split_113 rfl ?_
        refine tt_getF C hok_16 jk_12 0 (by decide) jw_34eaf3ba8b (t := (2, 2, 0)) hk0 (by decide) rfl rfl hm.1 dX11_split_114 ?_
        refine jj_iload_n C dX11_split_117 rfl ?_
        refine jj_iconst (v := 4) C dX11_split_118 (by decide) ?_
        refine jj_iadd (v := nI (50 + 6 * j)) C dX11_split_119 (rl_addR (kn := 4) (by decide) (by omega)) ?_
        refine jj_dup2 C dX11_split_120 rfl rfl ?_
        refine rl_lald C hok_16 (t := (1, (-9223372036854775808), 9223372036854775807)) hkw (by decide) rfl (k := 50 + 6 * j) (v := (g_4 (50 + 6 * j))) (vp_in_nI (by omega) (by decide)) hC_5 (nI_clamp (by omega)) (rl_ne (by omega) (rl_ne (by omega) (rl_ne (by omega) (rl_ne (by omega) rfl)))) dX11_split_121 ?_
        refine jj_lload C dX11_split_122 rfl ?_
        refine jj_lsub C dX11_split_124 rfl ?_
        refine rl_last C hok_16 (t := (1, (-9223372036854775808), 9223372036854775807)) hkw (by decide) rfl (k := 50 + 6 * j) (vp_in_nI (by omega) (by decide)) (tt_ja _) (nI_clamp (by omega)) dX11_split_125 (fun pl_17 hok_18 tr tl tw => ?_)
        replace hm := hm.arr tr
        replace hfr := hfr.arr tr
        replace hC_5 := tw _ hC_5
        replace hfa := hfa.wr hkw tl (by decide)
        refine jj_aload_n C dX11_split_126 rfl ?_
        refine tt_getF C hok_18 jk_12 0 (by decide) jw_34eaf3ba8b (t := (2, 2, 0)) hk0 (by decide) rfl rfl hm.1 dX11_split_127 ?_
        refine jj_bipush (v := 7) C dX11_split_130 (by decide) ?_
        refine jj_dup2 C dX11_split_132 rfl rfl ?_
        refine rl_lald C hok_18 (t := (1, (-9223372036854775808), 9223372036854775807)) hkw (by decide) rfl (k := 7) (v := (g_4 7)) (vp_in_iff.mpr (by decide)) hC_5 (by decide) (rl_ne (by omega) (rl_ne (by omega) (rl_ne (by omega) (rl_ne (by omega) (rl_ne (by omega) rfl))))) dX11_split_133 ?_
        refine jj_lconst (v := 1) C dX11_split_134 (by decide) ?_
        refine jj_ladd C dX11_split_135 rfl ?_
        refine rl_last C hok_18 (t := (1, (-9223372036854775808), 9223372036854775807)) hkw (by decide) rfl (k := 7) (vp_in_iff.mpr (by decide)) (tt_ja _) (by decide) dX11_split_136 (fun pl_19 hok_20 tr tl tw => ?_)
        replace hm := hm.arr tr
        replace hfr := hfr.arr tr
        replace hC_5 := tw _ hC_5
        replace hfa := hfa.wr hkw tl (by decide)
        exact jj_vret C ⟨[], pl_19, rfl, rfl, hok_20, hfr, hfa, (by rw [q48, q50, q7, (by omega : 52 + 6 * e9 + 6 * j = 46 + 6 * (1 + e9 + j)), (by omega : 54 + 6 * e9 + 6 * j = 48 + 6 * (1 + e9 + j)), (by omega : 56 + 6 * e9 + 6 * j = 50 + 6 * (1 + e9 + j))] at hC_5; have q9 := hD_6.fin (own := y_8) hI hP hB (by omega) (by unfold rnL; omega) (by omega) hx rfl; exact ⟨_, hC_5, q9.1, q9.2.1, q9.2.2.1, (by rw [hm9]; exact q9.2.2.2.1), q9.2.2.2.2, rfl⟩)⟩ dX11_split_137 (jj_le rfl) (jj_le rfl)
      · have z_c_7 := jc_nle (a := 6) (b := ((k_3 : Nat) : Int)) c_7 (by decide) (rl_ti (by omega))
        refine jj_aload_n C dX11_split_23 rfl ?_
        refine tt_getF C hok jk_12 0 (by decide) jw_34eaf3ba8b (t := (2, 2, 0)) hk0 (by decide) rfl rfl hm.1 dX11_split_24 ?_
        refine jj_iload C dX11_split_27 rfl ?_
        refine jj_iload C dX11_split_29 rfl ?_
        refine jj_iadd (v := nI (52 + 6 * e9 + 6 * j + k_3)) C dX11_split_31 (rl_add (by omega)) ?_
        refine jj_aload_n C dX11_split_32 rfl ?_
        refine tt_getF C hok jk_12 0 (by decide) jw_34eaf3ba8b (t := (2, 2, 0)) hk0 (by decide) rfl rfl hm.1 dX11_split_33 ?_
        refine jj_iload_n C dX11_split_36 rfl ?_
        refine jj_iload C dX11_split_37 rfl ?_
        refine jj_iadd (v := nI (46 + 6 * j + k_3)) C dX11_split_39 (rl_add (by omega)) ?_
        refine rl_lald C hok (t := (1, (-9223372036854775808), 9223372036854775807)) hkw (by decide) rfl (k := 46 + 6 * j + k_3) (v := (g_4 (46 + 6 * j + k_3))) (vp_in_nI (by omega) (by decide)) hC_5 (nI_clamp (by omega)) rfl dX11_split_40 ?_
        refine rl_last C hok (t := (1, (-9223372036854775808), 9223372036854775807)) hkw (by decide) rfl (k := 52 + 6 * e9 + 6 * j + k_3) (vp_in_nI (by omega) (by decide)) (tt_ja _) (nI_clamp (by omega)) dX11_split_41 (fun pl_21 hok_22 tr tl tw => ?_)
        replace hm := hm.arr tr
        replace hfr := hfr.arr tr
        replace hC_5 := tw _ hC_5
        replace hfa := hfa.wr hkw tl (by decide)
        refine jj_iinc (v := nI (1 + k_3)) C dX11_split_42 rfl (rl_addR (kn := 1) (by decide) (by omega)) (by decide) rfl ?_
        refine jj_goto (tgt := 16) C dX11_split_45 (by decide) ?_
        exact ihL_2 pl_21 (1 + k_3) (vp_updL g_4 (52 + 6 * e9 + 6 * j + k_3) (g_4 (46 + 6 * j + k_3))) hok_22 hfr hfa hm hC_5 (hD_6.step (by omega) (by omega) (by omega) (by omega)) (by first | omega | decide | exact tt_lo _ | exact tt_hi _) (by first | omega | decide | exact tt_lo _ | exact tt_hi _) (by first | omega | decide | exact tt_lo _ | exact tt_hi _)
  exact hL_2 _ pl0 0 f trivial hok hfr hfa hm hC (rl_LC.init f j (1 + e9 + j)) (by first | omega | decide | exact tt_lo _ | exact tt_hi _) (by first | omega | decide | exact tt_lo _ | exact tt_hi _) (Int.self_le_toNat _)

set_option maxHeartbeats 4000000 in
set_option maxRecDepth 100000 in
theorem rs_splits {l : Launch} (hl : l.stackTraces = false) (D : va_G) (cA : Nat → ClassId) (ak : (Nat → Nat) × (Nat → Nat)) {Kd : Nat → Nat} {h0 aw aa at0 ai af ap : Nat} (p1 : Int32) (p2 : Int64) (f : Nat → Int64) (hk0 : Kd h0 = 1) (hkw : Kd aw = 2) (hka : Kd aa = 3) (hkt : Kd at0 = 4) (hki : Kd ai = 5) (hkf : Kd af = 6) (hkp : Kd ap = 7) (hH : rl_h f) {pl0 : va_W} (hok : tt_ok rt_tk cA Kd pl0) (hm : rl_m pl0 h0 aw aa at0 ai af ap) (hC : tt_lc pl0 aw f) : jj_M l D cA ak yX11_splits (.code yX11_splits cX11_splits 7 (some .boolean)) 1 20 0 0 ([] ++ pl0) [.ref h0, .int p1, .long p2] (tt_O (fun rx pl1 r => rx = [] ∧ tt_ok rt_tk cA Kd pl1 ∧ tt_fr Kd [] pl0 pl1 ∧ tt_fa Kd [] pl0 pl1 ∧ ((¬ rg_sp f p1.toInt64 (rnL f) 0 p2 ∧ r = some (.int 0)) ∨ (r = some (.int 1))))) (tt_OX (fun _ _ _ => False)) := by
  refine jj_start hl (by decide) jw_7c4659b817 (jj_le rfl) ?_
  intro p e s m args below meth c A hargs hA C hex hmn
  have hfr := tt_fr.refl (K := Kd) (WS := []) pl0
  have hfa := tt_fa.refl (K := Kd) (WA := []) pl0
  obtain ⟨⟨g0a, g0b⟩, ⟨g1a, g1b⟩, ⟨g6a, g6b⟩, ⟨g7a, g7b⟩, ⟨g8a, g8b⟩⟩ := hH
  have lp1 := tt_lo p1
  have up1 := tt_hi p1
  refine jj_lload_n C dX11_splits_0 rfl ?_
  refine jj_lstore C dX11_splits_1 (by decide) rfl ?_
  refine jj_iconst (v := 0) C dX11_splits_3 (by decide) ?_
  refine jj_istore C dX11_splits_4 (by decide) rfl ?_
  have hL_1 : ∀ (N : Nat) (pl : va_W) (k_2 : Nat) (y_3 : Int64), True → tt_ok rt_tk cA Kd pl → tt_fr Kd [] pl0 pl → tt_fa Kd [] pl0 pl → rl_m pl h0 aw aa at0 ai af ap → tt_lc pl aw f → (0 : Int) ≤ (k_2 : Int) → (k_2 : Int) ≤ 40 → (rl_SP f p1.toInt64 p2 k_2 y_3) → (2147483648 - (k_2 : Int) ≤ (N : Int)) → jj_J p l e (jj_rm 1 20 0 0) s m args below meth c 7 A (vx_MQ below (jj_q D A (tt_O (fun rx pl1 r => rx = [] ∧ tt_ok rt_tk cA Kd pl1 ∧ tt_fr Kd [] pl0 pl1 ∧ tt_fa Kd [] pl0 pl1 ∧ ((¬ rg_sp f p1.toInt64 (rnL f) 0 p2 ∧ r = some (.int 0)) ∨ (r = some (.int 1)))))) (jj_x D A (tt_OX (fun _ _ _ => False))) args s 0 0 A) (jj_X D A ([] ++ pl)) 0 0 6 [(6, .int (nI k_2)), (4, .long y_3), (0, .ref h0), (1, .int p1), (2, .long p2)] [] := by
    intro NL_1
    induction NL_1 with
    | zero => intro pl k_2 y_3 _ hok hfr hfa hm hC lk_2 uk_2 hS9 hNL_1; exfalso; omega
    | succ NL_1 ihL_1 =>
      intro pl k_2 y_3 _ hok hfr hfa hm hC lk_2 uk_2 hS9 hNL_1
      replace ihL_1 := fun pl k_2 y_3 h1 => ihL_1 pl k_2 y_3 trivial h1
      refine jj_iload C dX11_splits_6 rfl ?_
      refine jj_i2l C dX11_splits_8 rfl ?_
      refine jj_aload_n C dX11_splits_9 rfl ?_
      refine tt_getF C hok jk_12 0 (by decide) jw_34eaf3ba8b (t := (2, 2, 0)) hk0 (by decide) rfl rfl hm.1 dX11_splits_10 ?_
      refine jj_bipush (v := 7) C dX11_splits_13 (by decide) ?_
      refine rl_lald C hok (t := (1, (-9223372036854775808), 9223372036854775807)) hkw (by decide) rfl (k := 7) (v := (f 7)) (vp_in_iff.mpr (by decide)) hC (by decide) rfl dX11_splits_15 ?_
      refine jj_lcmp_ge (tgt := 91) C dX11_splits_16 dX11_splits_17 (by decide) (fun c_4 => ?_) (fun c_4 => ?_)
      · have z_c_4 := jc_leL (a := (f 7).toInt) (b := ((k_2 : Nat) : Int)) c_4 rfl (rl_tl (by omega))
        refine jj_iconst (v := 0) C dX11_splits_91 (by decide) ?_
        exact jj_zret C rfl ⟨[], pl, rfl, rfl, hok, hfr, hfa, (Or.inl ⟨hS9.fin0 (by unfold rnL; omega), rfl⟩)⟩ dX11_splits_92 (jj_le rfl) (jj_le rfl)
      · have z_c_4 := jc_nleL (a := (f 7).toInt) (b := ((k_2 : Nat) : Int)) c_4 rfl (rl_tl (by omega))
        refine jj_lload C dX11_splits_20 rfl ?_
        refine jj_lconst (v := 0) C dX11_splits_22 (by decide) ?_
        refine jj_lcmp_le (tgt := 91) C dX11_splits_23 dX11_splits_24 (by decide) (fun c_5 => ?_) (fun c_5 => ?_)
        · have z_c_5 := jc_leL (a := y_3.toInt) (b := 0) c_5 rfl (by decide)
          refine jj_iconst (v := 0) C dX11_splits_91 (by decide) ?_
          exact jj_zret C rfl ⟨[], pl, rfl, rfl, hok, hfr, hfa, (Or.inl ⟨hS9.finL c_5, rfl⟩)⟩ dX11_splits_92 (jj_le rfl) (jj_le rfl)
        · have z_c_5 := jc_nleL (a := y_3.toInt) (b := 0) c_5 rfl (by decide)
          refine jj_aload_n C dX11_splits_27 rfl ?_
          refine tt_getF C hok jk_12 0 (by decide) jw_34eaf3ba8b (t := (2, 2, 0)) hk0 (by decide) rfl rfl hm.1 dX11_splits_28 ?_
          refine jj_iload C dX11_splits_31 rfl ?_
          refine tt_call0S (rest := [.ref aw]) C (rn_lotAt hl D cA ak k_2 (46 + 6 * k_2) (by omega)) jw_4c8c4b88e2 jw_0fa3e2bccb jw_f96c99f44d jw_d540d98a1c jn_X11_lotAt rfl (jj_le rfl) (jj_le rfl) (jj_le rfl) (jj_le rfl) (jj_le rfl) dX11_splits_33 rfl (fun w1 r hO => ?_)
          obtain ⟨-, rfl⟩ := hO
          refine jj_iconst (v := 0) C dX11_splits_36 (by decide) ?_
          refine jj_iadd (v := nI (46 + 6 * k_2)) C dX11_splits_37 (rl_addR (kn := 0) (by decide) (by omega)) ?_
          refine rl_lald C hok (t := (1, (-9223372036854775808), 9223372036854775807)) hkw (by decide) rfl (k := 46 + 6 * k_2) (v := (f (46 + 6 * k_2))) (vp_in_nI (by omega) (by decide)) hC (nI_clamp (by omega)) rfl dX11_splits_38 ?_
          refine jj_iload_n C dX11_splits_39 rfl ?_
          obtain ⟨y_6, ey_6, vy_6⟩ := tt_i2l p1
          refine jj_i2l (v := y_6) C dX11_splits_40 ey_6 ?_
          have hy9 : p1.toInt64 = y_6 := ey_6
          refine jj_lcmp_eq (tgt := 48) C dX11_splits_41 dX11_splits_42 (by decide) (fun c_7 => ?_) (fun c_7 => ?_)
          · have z_c_7 := jc_eqL (a := (f (46 + 6 * k_2)).toInt) (b := y_6.toInt) c_7 rfl rfl
            refine jj_lload C dX11_splits_48 rfl ?_
            refine jj_aload_n C dX11_splits_50 rfl ?_
            refine tt_getF C hok jk_12 0 (by decide) jw_34eaf3ba8b (t := (2, 2, 0)) hk0 (by decide) rfl rfl hm.1 dX11_splits_51 ?_
            refine jj_iload C dX11_splits_54 rfl ?_
            refine tt_call0S (rest := [.ref aw, .long y_3]) C (rn_lotAt hl D cA ak k_2 (46 + 6 * k_2) (by omega)) jw_4c8c4b88e2 jw_0fa3e2bccb jw_f96c99f44d jw_d540d98a1c jn_X11_lotAt rfl (jj_le rfl) (jj_le rfl) (jj_le rfl) (jj_le rfl) (jj_le rfl) dX11_splits_56 rfl (fun w1 r hO => ?_)
            obtain ⟨-, rfl⟩ := hO
            refine jj_iconst (v := 2) C dX11_splits_59 (by decide) ?_
            refine jj_iadd (v := nI (48 + 6 * k_2)) C dX11_splits_60 (rl_addR (kn := 2) (by decide) (by omega)) ?_
            refine rl_lald C hok (t := (1, (-9223372036854775808), 9223372036854775807)) hkw (by decide) rfl (k := 48 + 6 * k_2) (v := (f (48 + 6 * k_2))) (vp_in_nI (by omega) (by decide)) hC (nI_clamp (by omega)) rfl dX11_splits_61 ?_
            refine jj_lcmp_ge (tgt := 68) C dX11_splits_62 dX11_splits_63 (by decide) (fun c_8 => ?_) (fun c_8 => ?_)
            · have z_c_8 := jc_leL (a := (f (48 + 6 * k_2)).toInt) (b := y_3.toInt) c_8 rfl rfl
              refine jj_lload C dX11_splits_68 rfl ?_
              refine jj_aload_n C dX11_splits_70 rfl ?_
              refine tt_getF C hok jk_12 0 (by decide) jw_34eaf3ba8b (t := (2, 2, 0)) hk0 (by decide) rfl rfl hm.1 dX11_splits_71 ?_
              refine jj_iload C dX11_splits_74 rfl ?_
              refine tt_call0S (rest := [.ref aw, .long y_3]) C (rn_lotAt hl D cA ak k_2 (46 + 6 * k_2) (by omega)) jw_4c8c4b88e2 jw_0fa3e2bccb jw_f96c99f44d jw_d540d98a1c jn_X11_lotAt rfl (jj_le rfl) (jj_le rfl) (jj_le rfl) (jj_le rfl) (jj_le rfl) dX11_splits_76 rfl (fun w1 r hO => ?_)
              obtain ⟨-, rfl⟩ := hO
              refine jj_iconst (v := 2) C dX11_splits_79 (by decide) ?_
              refine jj_iadd (v := nI (48 + 6 * k_2)) C dX11_splits_80 (rl_addR (kn := 2) (by decide) (by omega)) ?_
              refine rl_lald C hok (t := (1, (-9223372036854775808), 9223372036854775807)) hkw (by decide) rfl (k := 48 + 6 * k_2) (v := (f (48 + 6 * k_2))) (vp_in_nI (by omega) (by decide)) hC (nI_clamp (by omega)) rfl dX11_splits_81 ?_
              refine jj_lsub C dX11_splits_82 rfl ?_
              refine jj_lstore C dX11_splits_83 (by decide) rfl ?_
              refine jj_iinc (v := nI (1 + k_2)) C dX11_splits_85 rfl (rl_addR (kn := 1) (by decide) (by omega)) (by decide) rfl ?_
              refine jj_goto (tgt := 6) C dX11_splits_88 (by decide) ?_
              exact ihL_1 pl (1 + k_2) (y_3 - (f (48 + 6 * k_2))) hok hfr hfa hm hC (by first | omega | decide | exact tt_lo _ | exact tt_hi _) (by first | omega | decide | exact tt_lo _ | exact tt_hi _) (hS9.next (by unfold rnL; omega) (Int64.not_lt.mpr c_8) (by rw [hy9]; exact c_7)) (by first | omega | decide | exact tt_lo _ | exact tt_hi _)
            · have z_c_8 := jc_nleL (a := (f (48 + 6 * k_2)).toInt) (b := y_3.toInt) c_8 rfl rfl
              refine jj_iconst (v := 1) C dX11_splits_66 (by decide) ?_
              exact jj_zret C rfl ⟨[], pl, rfl, rfl, hok, hfr, hfa, (Or.inr rfl)⟩ dX11_splits_67 (jj_le rfl) (jj_le rfl)
          · have z_c_7 := jc_neqL (a := (f (46 + 6 * k_2)).toInt) (b := y_6.toInt) c_7 rfl rfl
            refine jj_goto (tgt := 85) C dX11_splits_45 (by decide) ?_
            refine jj_iinc (v := nI (1 + k_2)) C dX11_splits_85 rfl (rl_addR (kn := 1) (by decide) (by omega)) (by decide) rfl ?_
            refine jj_goto (tgt := 6) C dX11_splits_88 (by decide) ?_
            exact ihL_1 pl (1 + k_2) y_3 hok hfr hfa hm hC (by first | omega | decide | exact tt_lo _ | exact tt_hi _) (by first | omega | decide | exact tt_lo _ | exact tt_hi _) (hS9.skip (by unfold rnL; omega) (by rw [hy9]; exact c_7)) (by first | omega | decide | exact tt_lo _ | exact tt_hi _)
  exact hL_1 _ pl0 0 p2 trivial hok hfr hfa hm hC (by first | omega | decide | exact tt_lo _ | exact tt_hi _) (by first | omega | decide | exact tt_lo _ | exact tt_hi _) (rl_SP.init f p1.toInt64 p2) (Int.self_le_toNat _)

set_option maxHeartbeats 4000000 in
set_option maxRecDepth 100000 in
theorem rs_cannotMove {l : Launch} (hl : l.stackTraces = false) (D : va_G) (cA : Nat → ClassId) (ak : (Nat → Nat) × (Nat → Nat)) {Kd : Nat → Nat} {h0 aw aa at0 ai af ap : Nat} (p1 p2 : Int32) (f : Nat → Int64) (hk0 : Kd h0 = 1) (hkw : Kd aw = 2) (hka : Kd aa = 3) (hkt : Kd at0 = 4) (hki : Kd ai = 5) (hkf : Kd af = 6) (hkp : Kd ap = 7) (hH : rl_h f) {pl0 : va_W} (hok : tt_ok rt_tk cA Kd pl0) (hm : rl_m pl0 h0 aw aa at0 ai af ap) (hC : tt_lc pl0 aw f) : jj_M l D cA ak yX11_cannotMove (.code yX11_cannotMove cX11_cannotMove 3 (some .boolean)) 3 65 0 0 ([] ++ pl0) [.ref h0, .int p1, .int p2] (tt_O (fun rx pl1 r => rx = [] ∧ tt_ok rt_tk cA Kd pl1 ∧ tt_fr Kd [] pl0 pl1 ∧ tt_fa Kd [] pl0 pl1 ∧ ((r = some (.int 1)) ∨ (((f 7).toInt = 40 → ¬ rg_sp f p1.toInt64 (rnL f) 0 p2.toInt64) ∧ r = some (.int 0))))) (tt_OX (fun _ _ _ => False)) := by
  refine jj_start hl (by decide) jw_185ae12042 (jj_le rfl) ?_
  intro p e s m args below meth c A hargs hA C hex hmn
  have hfr := tt_fr.refl (K := Kd) (WS := []) pl0
  have hfa := tt_fa.refl (K := Kd) (WA := []) pl0
  obtain ⟨⟨g0a, g0b⟩, ⟨g1a, g1b⟩, ⟨g6a, g6b⟩, ⟨g7a, g7b⟩, ⟨g8a, g8b⟩⟩ := hH
  have lp1 := tt_lo p1
  have up1 := tt_hi p1
  have lp2 := tt_lo p2
  have up2 := tt_hi p2
  refine jj_aload_n C dX11_cannotMove_0 rfl ?_
  refine jj_iload_n C dX11_cannotMove_1 rfl ?_
  obtain ⟨qc, gs, hqc⟩ := tt_recv (cx := []) hok hk0 (by decide) rfl
  refine tt_callV (rest := []) C (rc_X11_unitsBy_d8d95c hl D cA ak p1 _ hk0 hkw hka hkt hki hkf hkp ⟨⟨g0a, g0b⟩, ⟨g1a, g1b⟩, ⟨g6a, g6b⟩, ⟨g7a, g7b⟩, ⟨g8a, g8b⟩⟩ hok hm hC) [] [] rfl rfl (by decide) (by decide) (by decide) qc hqc rfl rfl jw_d258851c0a jw_53672f19d9 jw_faff4a546a jw_f96c99f44d jw_6f23c3bc30 jn_X11_unitsBy rfl (jj_le rfl) (jj_le rfl) (jj_le rfl) (jj_le rfl) (jj_le rfl) dX11_cannotMove_2 rfl (fun _ _ _ hX => hX.elim) (fun rx pl_1 r O_5 => ?_)
  obtain ⟨rfl, hok_2, hr_3, ha_4, hR_6⟩ := O_5
  replace hC := ha_4.at hkw (by decide) (by decide) hC
  replace hm := hm.fr hr_3 hk0 rfl
  replace hfr := hfr.trans (hr_3.sub (by decide))
  replace hfa := hfa.trans (ha_4.sub (by decide))
  obtain ⟨y_7, rfl⟩ := hR_6
  refine jj_iload_n C dX11_cannotMove_5 rfl ?_
  obtain ⟨y_8, ey_8, vy_8⟩ := tt_i2l p2
  refine jj_i2l (v := y_8) C dX11_cannotMove_6 ey_8 ?_
  refine jj_aload_n C dX11_cannotMove_7 rfl ?_
  refine jj_iload_n C dX11_cannotMove_8 rfl ?_
  obtain ⟨qc, gs, hqc⟩ := tt_recv (cx := []) hok_2 hk0 (by decide) rfl
  refine tt_callV (rest := [.long y_8, .long y_7]) C (rc_X11_waitingOf_d8d95c hl D cA ak p1 _ hk0 hkw hka hkt hki hkf hkp ⟨⟨g0a, g0b⟩, ⟨g1a, g1b⟩, ⟨g6a, g6b⟩, ⟨g7a, g7b⟩, ⟨g8a, g8b⟩⟩ hok_2 hm hC) [] [] rfl rfl (by decide) (by decide) (by decide) qc hqc rfl rfl jw_71a89613c3 jw_6ea26eaaba jw_a8d4f4f87c jw_f96c99f44d jw_afcf941469 jn_X11_waitingOf rfl (jj_le rfl) (jj_le rfl) (jj_le rfl) (jj_le rfl) (jj_le rfl) dX11_cannotMove_9 rfl (fun _ _ _ hX => hX.elim) (fun rx pl_9 r O_13 => ?_)
  obtain ⟨rfl, hok_10, hr_11, ha_12, hR_14⟩ := O_13
  replace hC := ha_12.at hkw (by decide) (by decide) hC
  replace hm := hm.fr hr_11 hk0 rfl
  replace hfr := hfr.trans (hr_11.sub (by decide))
  replace hfa := hfa.trans (ha_12.sub (by decide))
  obtain ⟨y_15, rfl⟩ := hR_14
  refine jj_ladd C dX11_cannotMove_12 rfl ?_
  refine jj_lcmp_lt (tgt := 41) C dX11_cannotMove_13 dX11_cannotMove_14 (by decide) (fun c_16 => ?_) (fun c_16 => ?_)
  · have z_c_16 := jc_ltL (a := y_7.toInt) (b := (y_8 + y_15).toInt) c_16 rfl rfl
    refine jj_iconst (v := 1) C dX11_cannotMove_41 (by decide) ?_
    refine jj_goto (tgt := 46) C dX11_cannotMove_42 (by decide) ?_
    exact jj_zret C rfl ⟨[], pl_9, rfl, rfl, hok_10, hfr, hfa, (Or.inl rfl)⟩ dX11_cannotMove_46 (jj_le rfl) (jj_le rfl)
  · have z_c_16 := jc_nltL (a := y_7.toInt) (b := (y_8 + y_15).toInt) c_16 rfl rfl
    refine jj_aload_n C dX11_cannotMove_17 rfl ?_
    refine tt_getF C hok_10 jk_12 0 (by decide) jw_34eaf3ba8b (t := (2, 2, 0)) hk0 (by decide) rfl rfl hm.1 dX11_cannotMove_18 ?_
    refine jj_bipush (v := 7) C dX11_cannotMove_21 (by decide) ?_
    refine rl_lald C hok_10 (t := (1, (-9223372036854775808), 9223372036854775807)) hkw (by decide) rfl (k := 7) (v := (f 7)) (vp_in_iff.mpr (by decide)) hC (by decide) rfl dX11_cannotMove_23 ?_
    refine jj_ldc2 (v := 40) C dX11_cannotMove_24 jw_13decb34e5 ?_
    refine jj_lcmp_ne (tgt := 45) C dX11_cannotMove_27 dX11_cannotMove_28 (by decide) (fun c_17 => ?_) (fun c_17 => ?_)
    · have z_c_17 := jc_neqL (a := (f 7).toInt) (b := 40) c_17 rfl (by decide)
      refine jj_iconst (v := 0) C dX11_cannotMove_45 (by decide) ?_
      exact jj_zret C rfl ⟨[], pl_9, rfl, rfl, hok_10, hfr, hfa, (Or.inr ⟨fun z => absurd z (by omega), rfl⟩)⟩ dX11_cannotMove_46 (jj_le rfl) (jj_le rfl)
    · have z_c_17 := jc_eqL (a := (f 7).toInt) (b := 40) c_17 rfl (by decide)
      refine jj_aload_n C dX11_cannotMove_31 rfl ?_
      refine jj_iload_n C dX11_cannotMove_32 rfl ?_
      refine jj_iload_n C dX11_cannotMove_33 rfl ?_
      obtain ⟨y_18, ey_18, vy_18⟩ := tt_i2l p2
      refine jj_i2l (v := y_18) C dX11_cannotMove_34 ey_18 ?_
      obtain ⟨qc, gs, hqc⟩ := tt_recv (cx := []) hok_10 hk0 (by decide) rfl
      refine tt_callV (rest := []) C (rs_splits hl D cA ak p1 y_18 f hk0 hkw hka hkt hki hkf hkp ⟨⟨g0a, g0b⟩, ⟨g1a, g1b⟩, ⟨g6a, g6b⟩, ⟨g7a, g7b⟩, ⟨g8a, g8b⟩⟩ hok_10 hm hC) [] [] rfl rfl (by decide) (by decide) (by decide) qc hqc rfl rfl jw_fd488cad69 jw_786f02bcdc jw_db8687d292 jw_f96c99f44d jw_7c4659b817 jn_X11_splits rfl (jj_le rfl) (jj_le rfl) (jj_le rfl) (jj_le rfl) (jj_le rfl) dX11_cannotMove_35 rfl (fun _ _ _ hX => hX.elim) (fun rx pl_19 r O_23 => ?_)
      obtain ⟨rfl, hok_20, hr_21, ha_22, hR_24⟩ := O_23
      replace hC := ha_22.at hkw (by decide) (by decide) hC
      replace hm := hm.fr hr_21 hk0 rfl
      replace hfr := hfr.trans (hr_21.sub (by decide))
      replace hfa := hfa.trans (ha_22.sub (by decide))
      rcases hR_24 with ⟨hn_25, rfl⟩ | rfl
      · refine jj_if_eqT (tgt := 45) C dX11_cannotMove_38 (by decide) (by decide) ?_
        refine jj_iconst (v := 0) C dX11_cannotMove_45 (by decide) ?_
        exact jj_zret C rfl ⟨[], pl_19, rfl, rfl, hok_20, hfr, hfa, (Or.inr ⟨fun _ => by have q9 := hn_25; first | exact q9 | (rw [← ey_18] at q9; exact q9), rfl⟩)⟩ dX11_cannotMove_46 (jj_le rfl) (jj_le rfl)
      · refine jj_if_eqF (tgt := 45) C dX11_cannotMove_38 (by decide) (by decide) ?_
        refine jj_iconst (v := 1) C dX11_cannotMove_41 (by decide) ?_
        refine jj_goto (tgt := 46) C dX11_cannotMove_42 (by decide) ?_
        exact jj_zret C rfl ⟨[], pl_19, rfl, rfl, hok_20, hfr, hfa, (Or.inl rfl)⟩ dX11_cannotMove_46 (jj_le rfl) (jj_le rfl)
