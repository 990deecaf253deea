theorem jw_c832cf9acb : Cond.constantLong RX11 109 (1000000) ∈ jj_G := jj_t7 (List.mem_of_getElem? (i := 120) (by decide +kernel)) rfl
theorem jw_09eccb7143 : Cond.code yX11_openOne cX11_openOne 2 (some .int) ∈ jj_G := jj_t7 (List.mem_of_getElem? (i := 130) (by decide +kernel)) rfl

set_option maxHeartbeats 4000000 in
set_option maxRecDepth 100000 in
theorem rs_openOne {l : Launch} (hl : l.stackTraces = false) (D : va_G) (cA : Nat → ClassId) (ak : (Nat → Nat) × (Nat → Nat)) {Kd : Nat → Nat} {h0 aw aa at0 ai af ap : Nat} (B : Int) (f : Nat → Int64) (hk0 : Kd h0 = 1) (hkw : Kd aw = 2) (hka : Kd aa = 3) (hkt : Kd at0 = 4) (hki : Kd ai = 5) (hkf : Kd af = 6) (hkp : Kd ap = 7) (hI : rl_I B f) (h6 : (f 6).toInt < 6) (hme : (f 1).toInt = 1 → (f 6).toInt = 0) (h9 : 0 ≤ (f 9).toInt ∧ (f 9).toInt < 4611686018427387904) {pl0 : va_W} (hok : tt_ok rt_tk cA Kd pl0) (hm : rl_m pl0 h0 aw aa at0 ai af ap) (hC : tt_lc pl0 aw f) : jj_M l D cA ak yX11_openOne (.code yX11_openOne cX11_openOne 2 (some .int)) 1 20 0 0 ([] ++ pl0) [.ref h0] (tt_O (fun rx pl1 r => rx = [] ∧ tt_ok rt_tk cA Kd pl1 ∧ tt_fr Kd [] pl0 pl1 ∧ tt_fa Kd [2] pl0 pl1 ∧ ((∃ (g : Nat → Int64) (n : Nat), (f 6).toInt = (n : Int) ∧ tt_lc pl1 aw g ∧ rl_I B g ∧ rl_T g = rl_T f ∧ (∀ i : Nat, i ≠ 6 → i ≠ 9 → ¬ (16 + 5 * n ≤ i ∧ i ≤ 20 + 5 * n) → g i = f i) ∧ ((g 6).toInt = (f 6).toInt + 1 ∧ (g 9).toInt = (f 9).toInt + 1) ∧ (g (18 + 5 * n)).toInt = 0 ∧ (g (19 + 5 * n)).toInt = 0 ∧ (g (20 + 5 * n)).toInt = 1000000 ∧ (∀ k : Nat, k < n → rl_P f → 1 ≤ (g (19 + 5 * k)).toInt) ∧ (rl_P f → ∀ j : Nat, j < rnL g → 1 ≤ (g (48 + 6 * j)).toInt) ∧ r = some (.int (nI (16 + 5 * n))))))) (tt_OX (fun _ _ _ => False)) := by
  refine jj_start hl (by decide) jw_09eccb7143 (jj_le rfl) ?_
  intro p e s m args below meth c A hargs hA C hex hmn
  have hfr := tt_fr.refl (K := Kd) (WS := []) pl0
  have hfa := tt_fa.refl (K := Kd) (WA := [2]) pl0
  have hH := hI.1.1
  obtain ⟨⟨g0a, g0b⟩, ⟨g1a, g1b⟩, ⟨g6a, g6b⟩, ⟨g7a, g7b⟩, ⟨g8a, g8b⟩⟩ := hH
  refine jj_aload_n C dX11_openOne_0 rfl ?_
  refine tt_getF C hok jk_12 0 (by decide) jw_34eaf3ba8b (t := (2, 2, 0)) hk0 (by decide) rfl rfl hm.1 dX11_openOne_1 ?_
  refine jj_bipush (v := 6) C dX11_openOne_4 (by decide) ?_
  refine rl_lald C hok (t := (1, (-9223372036854775808), 9223372036854775807)) hkw (by decide) rfl (k := 6) (v := (f 6)) (vp_in_iff.mpr (by decide)) hC (by decide) rfl dX11_openOne_6 ?_
  obtain ⟨n_1, en_1, vn_1⟩ := rl_l2i (x := (f 6)) (by omega) (by omega)
  refine jj_l2i (v := nI n_1) C dX11_openOne_7 en_1 ?_
  refine tt_call0S (rest := []) C (rn_seriesAt hl D cA ak n_1 (16 + 5 * n_1) (by omega)) jw_6251557f40 jw_b2cd40a13f jw_f96c99f44d jw_6245231363 jn_X11_seriesAt rfl (jj_le rfl) (jj_le rfl) (jj_le rfl) (jj_le rfl) (jj_le rfl) dX11_openOne_8 rfl (fun w1 r hO => ?_)
  obtain ⟨-, rfl⟩ := hO
  refine jj_istore_n C dX11_openOne_11 (by decide) rfl ?_
  refine jj_aload_n C dX11_openOne_12 rfl ?_
  refine tt_getF C hok jk_12 0 (by decide) jw_34eaf3ba8b (t := (2, 2, 0)) hk0 (by decide) rfl rfl hm.1 dX11_openOne_13 ?_
  refine jj_iload_n C dX11_openOne_16 rfl ?_
  refine jj_iconst (v := 0) C dX11_openOne_17 (by decide) ?_
  refine jj_iadd (v := nI (16 + 5 * n_1)) C dX11_openOne_18 (rl_addR (kn := 0) (by decide) (by omega)) ?_
  refine jj_aload_n C dX11_openOne_19 rfl ?_
  refine tt_getF C hok jk_12 0 (by decide) jw_34eaf3ba8b (t := (2, 2, 0)) hk0 (by decide) rfl rfl hm.1 dX11_openOne_20 ?_
  refine jj_bipush (v := 9) C dX11_openOne_23 (by decide) ?_
  refine rl_lald C hok (t := (1, (-9223372036854775808), 9223372036854775807)) hkw (by decide) rfl (k := 9) (v := (f 9)) (vp_in_iff.mpr (by decide)) hC (by decide) rfl dX11_openOne_25 ?_
  refine rl_last C hok (t := (1, (-9223372036854775808), 9223372036854775807)) hkw (by decide) rfl (k := 16 + 5 * n_1) (vp_in_nI (by omega) (by decide)) (tt_ja _) (nI_clamp (by omega)) dX11_openOne_26 (fun pl_2 hok_3 tr tl tw => ?_)
  replace hm := hm.arr tr
  replace hfr := hfr.arr tr
  replace hC := tw _ hC
  replace hfa := hfa.wr hkw tl (by decide)
  refine jj_aload_n C dX11_openOne_27 rfl ?_
  refine tt_getF C hok_3 jk_12 0 (by decide) jw_34eaf3ba8b (t := (2, 2, 0)) hk0 (by decide) rfl rfl hm.1 dX11_openOne_28 ?_
  refine jj_iload_n C dX11_openOne_31 rfl ?_
  refine jj_iconst (v := 1) C dX11_openOne_32 (by decide) ?_
  refine jj_iadd (v := nI (17 + 5 * n_1)) C dX11_openOne_33 (rl_addR (kn := 1) (by decide) (by omega)) ?_
  refine jj_aload_n C dX11_openOne_34 rfl ?_
  refine tt_getF C hok_3 jk_12 0 (by decide) jw_34eaf3ba8b (t := (2, 2, 0)) hk0 (by decide) rfl rfl hm.1 dX11_openOne_35 ?_
  refine jj_iconst (v := 5) C dX11_openOne_38 (by decide) ?_
  refine rl_lald C hok_3 (t := (1, (-9223372036854775808), 9223372036854775807)) hkw (by decide) rfl (k := 5) (v := (f 5)) (vp_in_iff.mpr (by decide)) hC (by decide) (rl_ne (by omega) rfl) dX11_openOne_39 ?_
  refine rl_last C hok_3 (t := (1, (-9223372036854775808), 9223372036854775807)) hkw (by decide) rfl (k := 17 + 5 * n_1) (vp_in_nI (by omega) (by decide)) (tt_ja _) (nI_clamp (by omega)) dX11_openOne_40 (fun pl_4 hok_5 tr tl tw => ?_)
  replace hm := hm.arr tr
  replace hfr := hfr.arr tr
  replace hC := tw _ hC
  replace hfa := hfa.wr hkw tl (by decide)
  refine jj_aload_n C dX11_openOne_41 rfl ?_
  refine tt_getF C hok_5 jk_12 0 (by decide) jw_34eaf3ba8b (t := (2, 2, 0)) hk0 (by decide) rfl rfl hm.1 dX11_openOne_42 ?_
  refine jj_iload_n C dX11_openOne_45 rfl ?_
  refine jj_iconst (v := 2) C dX11_openOne_46 (by decide) ?_
  refine jj_iadd (v := nI (18 + 5 * n_1)) C dX11_openOne_47 (rl_addR (kn := 2) (by decide) (by omega)) ?_
  refine jj_lconst (v := 0) C dX11_openOne_48 (by decide) ?_
  refine rl_last C hok_5 (t := (1, (-9223372036854775808), 9223372036854775807)) hkw (by decide) rfl (k := 18 + 5 * n_1) (vp_in_nI (by omega) (by decide)) (tt_ja _) (nI_clamp (by omega)) dX11_openOne_49 (fun pl_6 hok_7 tr tl tw => ?_)
  replace hm := hm.arr tr
  replace hfr := hfr.arr tr
  replace hC := tw _ hC
  replace hfa := hfa.wr hkw tl (by decide)
  refine jj_aload_n C dX11_openOne_50 rfl ?_
  refine tt_getF C hok_7 jk_12 0 (by decide) jw_34eaf3ba8b (t := (2, 2, 0)) hk0 (by decide) rfl rfl hm.1 dX11_openOne_51 ?_
  refine jj_iload_n C dX11_openOne_54 rfl ?_
  refine jj_iconst (v := 3) C dX11_openOne_55 (by decide) ?_
  refine jj_iadd (v := nI (19 + 5 * n_1)) C dX11_openOne_56 (rl_addR (kn := 3) (by decide) (by omega)) ?_
  refine jj_lconst (v := 0) C dX11_openOne_57 (by decide) ?_
  refine rl_last C hok_7 (t := (1, (-9223372036854775808), 9223372036854775807)) hkw (by decide) rfl (k := 19 + 5 * n_1) (vp_in_nI (by omega) (by decide)) (tt_ja _) (nI_clamp (by omega)) dX11_openOne_58 (fun pl_8 hok_9 tr tl tw => ?_)
  replace hm := hm.arr tr
  replace hfr := hfr.arr tr
  replace hC := tw _ hC
  replace hfa := hfa.wr hkw tl (by decide)
  refine jj_aload_n C dX11_openOne_59 rfl ?_
  refine tt_getF C hok_9 jk_12 0 (by decide) jw_34eaf3ba8b (t := (2, 2, 0)) hk0 (by decide) rfl rfl hm.1 dX11_openOne_60 ?_
  refine jj_iload_n C dX11_openOne_63 rfl ?_
  refine jj_iconst (v := 4) C dX11_openOne_64 (by decide) ?_
  refine jj_iadd (v := nI (20 + 5 * n_1)) C dX11_openOne_65 (rl_addR (kn := 4) (by decide) (by omega)) ?_
  refine jj_ldc2 (v := 1000000) C dX11_openOne_66 jw_c832cf9acb ?_
  refine rl_last C hok_9 (t := (1, (-9223372036854775808), 9223372036854775807)) hkw (by decide) rfl (k := 20 + 5 * n_1) (vp_in_nI (by omega) (by decide)) (tt_ja _) (nI_clamp (by omega)) dX11_openOne_69 (fun pl_10 hok_11 tr tl tw => ?_)
  replace hm := hm.arr tr
  replace hfr := hfr.arr tr
  replace hC := tw _ hC
  replace hfa := hfa.wr hkw tl (by decide)
  refine jj_aload_n C dX11_openOne_70 rfl ?_
  refine tt_getF C hok_11 jk_12 0 (by decide) jw_34eaf3ba8b (t := (2, 2, 0)) hk0 (by decide) rfl rfl hm.1 dX11_openOne_71 ?_
  refine jj_bipush (v := 6) C dX11_openOne_74 (by decide) ?_
  refine jj_dup2 C dX11_openOne_76 rfl rfl ?_
  refine rl_lald C hok_11 (t := (1, (-9223372036854775808), 9223372036854775807)) hkw (by decide) rfl (k := 6) (v := (f 6)) (vp_in_iff.mpr (by decide)) hC (by decide) (rl_ne (by omega) (rl_ne (by omega) (rl_ne (by omega) (rl_ne (by omega) (rl_ne (by omega) rfl))))) dX11_openOne_77 ?_
  refine jj_lconst (v := 1) C dX11_openOne_78 (by decide) ?_
  refine jj_ladd C dX11_openOne_79 rfl ?_
  refine rl_last C hok_11 (t := (1, (-9223372036854775808), 9223372036854775807)) hkw (by decide) rfl (k := 6) (vp_in_iff.mpr (by decide)) (tt_ja _) (by decide) dX11_openOne_80 (fun pl_12 hok_13 tr tl tw => ?_)
  replace hm := hm.arr tr
  replace hfr := hfr.arr tr
  replace hC := tw _ hC
  replace hfa := hfa.wr hkw tl (by decide)
  refine jj_aload_n C dX11_openOne_81 rfl ?_
  refine tt_getF C hok_13 jk_12 0 (by decide) jw_34eaf3ba8b (t := (2, 2, 0)) hk0 (by decide) rfl rfl hm.1 dX11_openOne_82 ?_
  refine jj_bipush (v := 9) C dX11_openOne_85 (by decide) ?_
  refine jj_dup2 C dX11_openOne_87 rfl rfl ?_
  refine rl_lald C hok_13 (t := (1, (-9223372036854775808), 9223372036854775807)) hkw (by decide) rfl (k := 9) (v := (f 9)) (vp_in_iff.mpr (by decide)) hC (by decide) (rl_ne (by omega) (rl_ne (by omega) (rl_ne (by omega) (rl_ne (by omega) (rl_ne (by omega) (rl_ne (by omega) rfl)))))) dX11_openOne_88 ?_
  refine jj_lconst (v := 1) C dX11_openOne_89 (by decide) ?_
  refine jj_ladd C dX11_openOne_90 rfl ?_
  refine rl_last C hok_13 (t := (1, (-9223372036854775808), 9223372036854775807)) hkw (by decide) rfl (k := 9) (vp_in_iff.mpr (by decide)) (tt_ja _) (by decide) dX11_openOne_91 (fun pl_14 hok_15 tr tl tw => ?_)
  replace hm := hm.arr tr
  replace hfr := hfr.arr tr
  replace hC := tw _ hC
  replace hfa := hfa.wr hkw tl (by decide)
  refine jj_iload_n C dX11_openOne_92 rfl ?_
  exact jj_iret C ⟨[], pl_14, rfl, rfl, hok_15, hfr, hfa, (by have q9 := rl_openw hI h6 hme h9 (n := n_1) (by omega) (g := (vp_updL (vp_updL (vp_updL (vp_updL (vp_updL (vp_updL (vp_updL f (16 + 5 * n_1) (f 9)) (17 + 5 * n_1) (f 5)) (18 + 5 * n_1) (0 : Int64)) (19 + 5 * n_1) (0 : Int64)) (20 + 5 * n_1) (1000000 : Int64)) 6 ((f 6) + (1 : Int64))) 9 ((f 9) + (1 : Int64)))) rfl; exact ⟨_, n_1, (by omega), hC, q9.1, q9.2.1, q9.2.2.1, q9.2.2.2.1, q9.2.2.2.2.1, q9.2.2.2.2.2.1, q9.2.2.2.2.2.2.1, q9.2.2.2.2.2.2.2.1, q9.2.2.2.2.2.2.2.2, rfl⟩)⟩ dX11_openOne_93 (jj_le rfl) (jj_le rfl)
