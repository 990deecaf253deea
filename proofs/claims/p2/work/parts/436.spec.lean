theorem jw_244fd0acfd : Cond.code yX11_ask cX11_ask 8 none ∈ jj_G := jj_t7 (List.mem_of_getElem? (i := 167) (by decide +kernel)) rfl

set_option maxHeartbeats 4000000 in
set_option maxRecDepth 100000 in
theorem rs_ask_aw {l : Launch} (hl : l.stackTraces = false) (D : va_G) (cA : Nat → ClassId) (ak : (Nat → Nat) × (Nat → Nat)) {Kd : Nat → Nat} {h0 aw aa at0 ai af ap : Nat} (p2 : Int32) (p3 p4 : Int64) (B B1 : Int) (f : Nat → Int64) (hk0 : Kd h0 = 1) (hkw : Kd aw = 2) (hka : Kd aa = 3) (hkt : Kd at0 = 4) (hki : Kd ai = 5) (hkf : Kd af = 6) (hkp : Kd ap = 7) (hI : rl_I B f) (hr8 : (f 8).toInt < 12) (hb : p3 = 0 ∨ p3 = 1) (hc : p3 = 0 → 0 ≤ p4.toInt ∧ p4.toInt ≤ 10000000) (hB1 : rl_T f + 3 * (if p3 = 0 then p4.toInt else 0) ≤ B1) {pl0 : va_W} (hok : tt_ok rt_tk cA Kd pl0) (hm : rl_m pl0 h0 aw aa at0 ai af ap) (hC : tt_lc pl0 aw f) : jj_M l D cA ak yX11_ask (.code yX11_ask cX11_ask 8 none) 1 20 0 0 ([] ++ pl0) [.ref h0, .ref aw, .int p2, .long p3, .long p4] (tt_O (fun rx pl1 r => rx = [] ∧ tt_ok rt_tk cA Kd pl1 ∧ tt_fr Kd [] pl0 pl1 ∧ tt_fa Kd [2] pl0 pl1 ∧ ((∃ g : Nat → Int64, tt_lc pl1 aw g ∧ rl_I B1 g ∧ rl_T g = rl_T f + 3 * (if p3 = 0 then p4.toInt else 0) ∧ (rl_P f → rl_P g) ∧ (∀ i : Nat, i < 286 → i ≠ 8 → g i = f i) ∧ (g 8).toInt = (f 8).toInt + 1 ∧ r = none)))) (tt_OX (fun _ _ _ => False)) := by
  refine jj_start hl (by decide) jw_244fd0acfd (jj_le rfl) ?_
  intro p e s m args below meth c A hargs hA C hex hmn
  have hfr := tt_fr.refl (K := Kd) (WS := []) pl0
  have hfa := tt_fa.refl (K := Kd) (WA := [2]) pl0
  have hH := hI.1.1
  obtain ⟨⟨g0a, g0b⟩, ⟨g1a, g1b⟩, ⟨g6a, g6b⟩, ⟨g7a, g7b⟩, ⟨g8a, g8b⟩⟩ := hH
  have lp2 := tt_lo p2
  have up2 := tt_hi p2
  refine jj_aload_n C dX11_ask_0 rfl ?_
  refine jj_bipush (v := 8) C dX11_ask_1 (by decide) ?_
  refine rl_lald C hok (t := (1, (-9223372036854775808), 9223372036854775807)) hkw (by decide) rfl (k := 8) (v := (f 8)) (vp_in_iff.mpr (by decide)) hC (by decide) rfl dX11_ask_3 ?_
  obtain ⟨n_1, en_1, vn_1⟩ := rl_l2i (x := (f 8)) (by omega) (by omega)
  refine jj_l2i (v := nI n_1) C dX11_ask_4 en_1 ?_
  refine tt_call0S (rest := []) C (rn_requestAt hl D cA ak n_1 (286 + 4 * n_1) (by omega)) jw_b399766b1e jw_c583cc9526 jw_f96c99f44d jw_595411e0f2 jn_X11_requestAt rfl (jj_le rfl) (jj_le rfl) (jj_le rfl) (jj_le rfl) (jj_le rfl) dX11_ask_5 rfl (fun w1 r hO => ?_)
  obtain ⟨-, rfl⟩ := hO
  refine jj_istore C dX11_ask_8 (by decide) rfl ?_
  refine jj_aload_n C dX11_ask_10 rfl ?_
  refine jj_iload C dX11_ask_11 rfl ?_
  refine jj_iconst (v := 0) C dX11_ask_13 (by decide) ?_
  refine jj_iadd (v := nI (286 + 4 * n_1)) C dX11_ask_14 (rl_addR (kn := 0) (by decide) (by omega)) ?_
  refine jj_iload_n C dX11_ask_15 rfl ?_
  obtain ⟨y_2, ey_2, vy_2⟩ := tt_i2l p2
  refine jj_i2l (v := y_2) C dX11_ask_16 ey_2 ?_
  refine rl_last C hok (t := (1, (-9223372036854775808), 9223372036854775807)) hkw (by decide) rfl (k := 286 + 4 * n_1) (vp_in_nI (by omega) (by decide)) (tt_ja _) (nI_clamp (by omega)) dX11_ask_17 (fun pl_3 hok_4 tr tl tw => ?_)
  replace hm := hm.arr tr
  replace hfr := hfr.arr tr
  replace hC := tw _ hC
  replace hfa := hfa.wr hkw tl (by decide)
  refine jj_aload_n C dX11_ask_18 rfl ?_
  refine jj_iload C dX11_ask_19 rfl ?_
  refine jj_iconst (v := 1) C dX11_ask_21 (by decide) ?_
  refine jj_iadd (v := nI (287 + 4 * n_1)) C dX11_ask_22 (rl_addR (kn := 1) (by decide) (by omega)) ?_
  refine jj_lload_n C dX11_ask_23 rfl ?_
  refine rl_last C hok_4 (t := (1, (-9223372036854775808), 9223372036854775807)) hkw (by decide) rfl (k := 287 + 4 * n_1) (vp_in_nI (by omega) (by decide)) (tt_ja _) (nI_clamp (by omega)) dX11_ask_24 (fun pl_5 hok_6 tr tl tw => ?_)
  replace hm := hm.arr tr
  replace hfr := hfr.arr tr
  replace hC := tw _ hC
  replace hfa := hfa.wr hkw tl (by decide)
  refine jj_aload_n C dX11_ask_25 rfl ?_
  refine jj_iload C dX11_ask_26 rfl ?_
  refine jj_iconst (v := 2) C dX11_ask_28 (by decide) ?_
  refine jj_iadd (v := nI (288 + 4 * n_1)) C dX11_ask_29 (rl_addR (kn := 2) (by decide) (by omega)) ?_
  refine jj_lload C dX11_ask_30 rfl ?_
  refine rl_last C hok_6 (t := (1, (-9223372036854775808), 9223372036854775807)) hkw (by decide) rfl (k := 288 + 4 * n_1) (vp_in_nI (by omega) (by decide)) (tt_ja _) (nI_clamp (by omega)) dX11_ask_32 (fun pl_7 hok_8 tr tl tw => ?_)
  replace hm := hm.arr tr
  replace hfr := hfr.arr tr
  replace hC := tw _ hC
  replace hfa := hfa.wr hkw tl (by decide)
  refine jj_aload_n C dX11_ask_33 rfl ?_
  refine jj_iload C dX11_ask_34 rfl ?_
  refine jj_iconst (v := 3) C dX11_ask_36 (by decide) ?_
  refine jj_iadd (v := nI (289 + 4 * n_1)) C dX11_ask_37 (rl_addR (kn := 3) (by decide) (by omega)) ?_
  refine jj_aload_n C dX11_ask_38 rfl ?_
  refine jj_iconst (v := 5) C dX11_ask_39 (by decide) ?_
  refine rl_lald C hok_8 (t := (1, (-9223372036854775808), 9223372036854775807)) hkw (by decide) rfl (k := 5) (v := (f 5)) (vp_in_iff.mpr (by decide)) hC (by decide) (rl_ne (by omega) (rl_ne (by omega) (rl_ne (by omega) rfl))) dX11_ask_40 ?_
  refine rl_last C hok_8 (t := (1, (-9223372036854775808), 9223372036854775807)) hkw (by decide) rfl (k := 289 + 4 * n_1) (vp_in_nI (by omega) (by decide)) (tt_ja _) (nI_clamp (by omega)) dX11_ask_41 (fun pl_9 hok_10 tr tl tw => ?_)
  replace hm := hm.arr tr
  replace hfr := hfr.arr tr
  replace hC := tw _ hC
  replace hfa := hfa.wr hkw tl (by decide)
  refine jj_aload_n C dX11_ask_42 rfl ?_
  refine jj_bipush (v := 8) C dX11_ask_43 (by decide) ?_
  refine jj_dup2 C dX11_ask_45 rfl rfl ?_
  refine rl_lald C hok_10 (t := (1, (-9223372036854775808), 9223372036854775807)) hkw (by decide) rfl (k := 8) (v := (f 8)) (vp_in_iff.mpr (by decide)) hC (by decide) (rl_ne (by omega) (rl_ne (by omega) (rl_ne (by omega) (rl_ne (by omega) rfl)))) dX11_ask_46 ?_
  refine jj_lconst (v := 1) C dX11_ask_47 (by decide) ?_
  refine jj_ladd C dX11_ask_48 rfl ?_
  refine rl_last C hok_10 (t := (1, (-9223372036854775808), 9223372036854775807)) hkw (by decide) rfl (k := 8) (vp_in_iff.mpr (by decide)) (tt_ja _) (by decide) dX11_ask_49 (fun pl_11 hok_12 tr tl tw => ?_)
  replace hm := hm.arr tr
  replace hfr := hfr.arr tr
  replace hC := tw _ hC
  replace hfa := hfa.wr hkw tl (by decide)
  exact jj_vret C ⟨[], pl_11, rfl, rfl, hok_12, hfr, hfa, (by have q9 := rl_askw hI hr8 (n := n_1) (by omega) hb hc hB1 (g := (vp_updL (vp_updL (vp_updL (vp_updL (vp_updL f (286 + 4 * n_1) y_2) (287 + 4 * n_1) p3) (288 + 4 * n_1) p4) (289 + 4 * n_1) (f 5)) 8 ((f 8) + (1 : Int64)))) rfl; exact ⟨_, hC, q9.1, q9.2.1, q9.2.2.1, q9.2.2.2.1, q9.2.2.2.2, rfl⟩)⟩ dX11_ask_50 (jj_le rfl) (jj_le rfl)

set_option maxHeartbeats 4000000 in
set_option maxRecDepth 100000 in
theorem rs_ask_af {l : Launch} (hl : l.stackTraces = false) (D : va_G) (cA : Nat → ClassId) (ak : (Nat → Nat) × (Nat → Nat)) {Kd : Nat → Nat} {h0 aw aa at0 ai af ap : Nat} (p2 : Int32) (p3 p4 : Int64) (B B1 : Int) (f : Nat → Int64) (hk0 : Kd h0 = 1) (hkw : Kd aw = 2) (hka : Kd aa = 3) (hkt : Kd at0 = 4) (hki : Kd ai = 5) (hkf : Kd af = 6) (hkp : Kd ap = 7) (hI : rl_I B f) (hr8 : (f 8).toInt < 12) (hb : p3 = 0 ∨ p3 = 1) (hc : p3 = 0 → 0 ≤ p4.toInt ∧ p4.toInt ≤ 10000000) (hB1 : rl_T f + 3 * (if p3 = 0 then p4.toInt else 0) ≤ B1) {pl0 : va_W} (hok : tt_ok rt_tk cA Kd pl0) (hm : rl_m pl0 h0 aw aa at0 ai af ap) (hC : tt_lc pl0 af f) : jj_M l D cA ak yX11_ask (.code yX11_ask cX11_ask 8 none) 1 20 0 0 ([] ++ pl0) [.ref h0, .ref af, .int p2, .long p3, .long p4] (tt_O (fun rx pl1 r => rx = [] ∧ tt_ok rt_tk cA Kd pl1 ∧ tt_fr Kd [] pl0 pl1 ∧ tt_fa Kd [6] pl0 pl1 ∧ ((∃ g : Nat → Int64, tt_lc pl1 af g ∧ rl_I B1 g ∧ rl_T g = rl_T f + 3 * (if p3 = 0 then p4.toInt else 0) ∧ (rl_P f → rl_P g) ∧ (∀ i : Nat, i < 286 → i ≠ 8 → g i = f i) ∧ (g 8).toInt = (f 8).toInt + 1 ∧ r = none)))) (tt_OX (fun _ _ _ => False)) := by
  refine jj_start hl (by decide) jw_244fd0acfd (jj_le rfl) ?_
  intro p e s m args below meth c A hargs hA C hex hmn
  have hfr := tt_fr.refl (K := Kd) (WS := []) pl0
  have hfa := tt_fa.refl (K := Kd) (WA := [6]) pl0
  have hH := hI.1.1
  obtain ⟨⟨g0a, g0b⟩, ⟨g1a, g1b⟩, ⟨g6a, g6b⟩, ⟨g7a, g7b⟩, ⟨g8a, g8b⟩⟩ := hH
  have lp2 := tt_lo p2
  have up2 := tt_hi p2
  refine jj_aload_n C dX11_ask_0 rfl ?_
  refine jj_bipush (v := 8) C dX11_ask_1 (by decide) ?_
  refine rl_lald C hok (t := (1, (-9223372036854775808), 9223372036854775807)) hkf (by decide) rfl (k := 8) (v := (f 8)) (vp_in_iff.mpr (by decide)) hC (by decide) rfl dX11_ask_3 ?_
  obtain ⟨n_1, en_1, vn_1⟩ := rl_l2i (x := (f 8)) (by omega) (by omega)
  refine jj_l2i (v := nI n_1) C dX11_ask_4 en_1 ?_
  refine tt_call0S (rest := []) C (rn_requestAt hl D cA ak n_1 (286 + 4 * n_1) (by omega)) jw_b399766b1e jw_c583cc9526 jw_f96c99f44d jw_595411e0f2 jn_X11_requestAt rfl (jj_le rfl) (jj_le rfl) (jj_le rfl) (jj_le rfl) (jj_le rfl) dX11_ask_5 rfl (fun w1 r hO => ?_)
  obtain ⟨-, rfl⟩ := hO
  refine jj_istore C dX11_ask_8 (by decide) rfl ?_
  refine jj_aload_n C dX11_ask_10 rfl ?_
  refine jj_iload C dX11_ask_11 rfl ?_
  refine jj_iconst (v := 0) C dX11_ask_13 (by decide) ?_
  refine jj_iadd (v := nI (286 + 4 * n_1)) C dX11_ask_14 (rl_addR (kn := 0) (by decide) (by omega)) ?_
  refine jj_iload_n C dX11_ask_15 rfl ?_
  obtain ⟨y_2, ey_2, vy_2⟩ := tt_i2l p2
  refine jj_i2l (v := y_2) C dX11_ask_16 ey_2 ?_
  refine rl_last C hok (t := (1, (-9223372036854775808), 9223372036854775807)) hkf (by decide) rfl (k := 286 + 4 * n_1) (vp_in_nI (by omega) (by decide)) (tt_ja _) (nI_clamp (by omega)) dX11_ask_17 (fun pl_3 hok_4 tr tl tw => ?_)
  replace hm := hm.arr tr
  replace hfr := hfr.arr tr
  replace hC := tw _ hC
  replace hfa := hfa.wr hkf tl (by decide)
  refine jj_aload_n C dX11_ask_18 rfl ?_
  refine jj_iload C dX11_ask_19 rfl ?_
  refine jj_iconst (v := 1) C dX11_ask_21 (by decide) ?_
  refine jj_iadd (v := nI (287 + 4 * n_1)) C dX11_ask_22 (rl_addR (kn := 1) (by decide) (by omega)) ?_
  refine jj_lload_n C dX11_ask_23 rfl ?_
  refine rl_last C hok_4 (t := (1, (-9223372036854775808), 9223372036854775807)) hkf (by decide) rfl (k := 287 + 4 * n_1) (vp_in_nI (by omega) (by decide)) (tt_ja _) (nI_clamp (by omega)) dX11_ask_24 (fun pl_5 hok_6 tr tl tw => ?_)
  replace hm := hm.arr tr
  replace hfr := hfr.arr tr
  replace hC := tw _ hC
  replace hfa := hfa.wr hkf tl (by decide)
  refine jj_aload_n C dX11_ask_25 rfl ?_
  refine jj_iload C dX11_ask_26 rfl ?_
  refine jj_iconst (v := 2) C dX11_ask_28 (by decide) ?_
  refine jj_iadd (v := nI (288 + 4 * n_1)) C dX11_ask_29 (rl_addR (kn := 2) (by decide) (by omega)) ?_
  refine jj_lload C dX11_ask_30 rfl ?_
  refine rl_last C hok_6 (t := (1, (-9223372036854775808), 9223372036854775807)) hkf (by decide) rfl (k := 288 + 4 * n_1) (vp_in_nI (by omega) (by decide)) (tt_ja _) (nI_clamp (by omega)) dX11_ask_32 (fun pl_7 hok_8 tr tl tw => ?_)
  replace hm := hm.arr tr
  replace hfr := hfr.arr tr
  replace hC := tw _ hC
  replace hfa := hfa.wr hkf tl (by decide)
  refine jj_aload_n C dX11_ask_33 rfl ?_
  refine jj_iload C dX11_ask_34 rfl ?_
  refine jj_iconst (v := 3) C dX11_ask_36 (by decide) ?_
  refine jj_iadd (v := nI (289 + 4 * n_1)) C dX11_ask_37 (rl_addR (kn := 3) (by decide) (by omega)) ?_
  refine jj_aload_n C dX11_ask_38 rfl ?_
  refine jj_iconst (v := 5) C dX11_ask_39 (by decide) ?_
  refine rl_lald C hok_8 (t := (1, (-9223372036854775808), 9223372036854775807)) hkf (by decide) rfl (k := 5) (v := (f 5)) (vp_in_iff.mpr (by decide)) hC (by decide) (rl_ne (by omega) (rl_ne (by omega) (rl_ne (by omega) rfl))) dX11_ask_40 ?_
  refine rl_last C hok_8 (t := (1, (-9223372036854775808), 9223372036854775807)) hkf (by decide) rfl (k := 289 + 4 * n_1) (vp_in_nI (by omega) (by decide)) (tt_ja _) (nI_clamp (by omega)) dX11_ask_41 (fun pl_9 hok_10 tr tl tw => ?_)
  replace hm := hm.arr tr
  replace hfr := hfr.arr tr
  replace hC := tw _ hC
  replace hfa := hfa.wr hkf tl (by decide)
  refine jj_aload_n C dX11_ask_42 rfl ?_
  refine jj_bipush (v := 8) C dX11_ask_43 (by decide) ?_
  refine jj_dup2 C dX11_ask_45 rfl rfl ?_
  refine rl_lald C hok_10 (t := (1, (-9223372036854775808), 9223372036854775807)) hkf (by decide) rfl (k := 8) (v := (f 8)) (vp_in_iff.mpr (by decide)) hC (by decide) (rl_ne (by omega) (rl_ne (by omega) (rl_ne (by omega) (rl_ne (by omega) rfl)))) dX11_ask_46 ?_
  refine jj_lconst (v := 1) C dX11_ask_47 (by decide) ?_
  refine jj_ladd C dX11_ask_48 rfl ?_
  refine rl_last C hok_10 (t := (1, (-9223372036854775808), 9223372036854775807)) hkf (by decide) rfl (k := 8) (vp_in_iff.mpr (by decide)) (tt_ja _) (by decide) dX11_ask_49 (fun pl_11 hok_12 tr tl tw => ?_)
  replace hm := hm.arr tr
  replace hfr := hfr.arr tr
  replace hC := tw _ hC
  replace hfa := hfa.wr hkf tl (by decide)
  exact jj_vret C ⟨[], pl_11, rfl, rfl, hok_12, hfr, hfa, (by have q9 := rl_askw hI hr8 (n := n_1) (by omega) hb hc hB1 (g := (vp_updL (vp_updL (vp_updL (vp_updL (vp_updL f (286 + 4 * n_1) y_2) (287 + 4 * n_1) p3) (288 + 4 * n_1) p4) (289 + 4 * n_1) (f 5)) 8 ((f 8) + (1 : Int64)))) rfl; exact ⟨_, hC, q9.1, q9.2.1, q9.2.2.1, q9.2.2.2.1, q9.2.2.2.2, rfl⟩)⟩ dX11_ask_50 (jj_le rfl) (jj_le rfl)
