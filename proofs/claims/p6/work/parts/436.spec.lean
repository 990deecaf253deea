theorem jw_244fd0acfd : Cond.code yX11_ask cX11_ask 8 none ∈ jj_G := jj_t7 (List.mem_of_getElem? (i := 163) (by decide +kernel)) rfl
theorem jw_d680bb70d7 : Cond.constantLong RX11 241 (10000) ∈ jj_G := jj_t7 (List.mem_of_getElem? (i := 201) (by decide +kernel)) rfl
theorem jw_c85534015f : Cond.constantLong RX11 243 (1000000000) ∈ jj_G := jj_t7 (List.mem_of_getElem? (i := 202) (by decide +kernel)) rfl
theorem jw_65ddc638d1 : Cond.constantLong RX11 245 (100000000) ∈ jj_G := jj_t7 (List.mem_of_getElem? (i := 203) (by decide +kernel)) rfl
theorem jw_1f97d6c9c0 : Cond.code yX11_isTooMuch cX11_isTooMuch 6 (some .boolean) ∈ jj_G := jj_t7 (List.mem_of_getElem? (i := 200) (by decide +kernel)) rfl
theorem jw_7b130daeac : Cond.code yX11_gain cX11_gain 8 (some .long) ∈ jj_G := jj_t7 (List.mem_of_getElem? (i := 207) (by decide +kernel)) rfl

set_option maxHeartbeats 4000000 in
set_option maxRecDepth 100000 in
theorem rs_ask_aw {l : Launch} (hl : l.stackTraces = false) (D : va_G) (cA : Nat → ClassId) (ak : (Nat → Nat) × (Nat → Nat)) {Kd : Nat → Nat} {h0 aw aa at0 ai af ap : Nat} (p2 : Int32) (p3 p4 : Int64) (B B1 : Int) (f : Nat → Int64) (hk0 : Kd h0 = 1) (hkw : Kd aw = 2) (hka : Kd aa = 3) (hkt : Kd at0 = 4) (hki : Kd ai = 5) (hkf : Kd af = 6) (hkp : Kd ap = 7) (hI : rl_I B f) (hr8 : (f 8).toInt < 12) (hb : p3 = 0 ∨ p3 = 1) (hc : p3 = 0 → 0 ≤ p4.toInt ∧ p4.toInt ≤ 10000000) (hB1 : rl_T f + 3 * (if p3 = 0 then p4.toInt else 0) ≤ B1) {pl0 : va_W} (hok : tt_ok rt_tk cA Kd pl0) (hm : rl_m pl0 h0 aw aa at0 ai af ap) (hC : tt_lc pl0 aw f) : jj_M l D cA ak yX11_ask (.code yX11_ask cX11_ask 8 none) 1 20 0 0 ([] ++ pl0) [.ref h0, .ref aw, .int p2, .long p3, .long p4] (tt_O (fun rx pl1 r => rx = [] ∧ tt_ok rt_tk cA Kd pl1 ∧ tt_fr Kd [] pl0 pl1 ∧ tt_fa Kd [2] pl0 pl1 ∧ ((∃ g : Nat → Int64, tt_lc pl1 aw g ∧ rl_I B1 g ∧ rl_T g = rl_T f + 3 * (if p3 = 0 then p4.toInt else 0) ∧ (rl_P f → rl_P g) ∧ (∀ i : Nat, i < 286 → i ≠ 8 → g i = f i) ∧ (g 8).toInt = (f 8).toInt + 1 ∧ r = none)))) (tt_OX (fun _ _ _ => False)) := by
  refine jj_start hl (by decide) jw_244fd0acfd (jj_le rfl) ?_
  intro p e s m args below meth c A hargs hA C hex hmn
  have hfr := tt_fr.refl (K := Kd) (WS := []) pl0
  have hfa := tt_fa.refl (K := Kd) (WA := [2]) pl0
  have hH := hI.1.1
  obtain ⟨⟨g0a, g0b⟩, ⟨g1a, g1b⟩, ⟨g6a, g6b⟩, ⟨g7a, g7b⟩, ⟨g8a, g8b⟩⟩ := hH
  have lp2 := tt_lo p2
  have up2 := tt_hi p2
  refine jj_aload_n C dX11_ask_0 rfl ?_
  refine jj_bipush (v := 8) C dX11_ask_1 (by decide) ?_
  refine rl_lald C hok (t := (1, (-9223372036854775808), 9223372036854775807)) hkw (by decide) rfl (k := 8) (v := (f 8)) (vp_in_iff.mpr (by decide)) hC (by decide) rfl dX11_ask_3 ?_
  obtain ⟨n_1, en_1, vn_1⟩ := rl_l2i (x := (f 8)) (by omega) (by omega)
  refine jj_l2i (v := nI n_1) C dX11_ask_4 en_1 ?_
  refine tt_call0S (rest := []) C (rn_requestAt hl D cA ak n_1 (286 + 4 * n_1) (by omega)) jw_b399766b1e jw_c583cc9526 jw_f96c99f44d jw_595411e0f2 jn_X11_requestAt rfl (jj_le rfl) (jj_le rfl) (jj_le rfl) (jj_le rfl) (jj_le rfl) dX11_ask_5 rfl (fun w1 r hO => ?_)
  obtain ⟨-, rfl⟩ := hO
  refine jj_istore C dX11_ask_8 (by decide) rfl ?_
  refine jj_aload_n C dX11_ask_10 rfl ?_
  refine jj_iload C dX11_ask_11 rfl ?_
  refine jj_iconst (v := 0) C dX11_ask_13 (by decide) ?_
  refine jj_iadd (v := nI (286 + 4 * n_1)) C dX11_ask_14 (rl_addR (kn := 0) (by decide) (by omega)) ?_
  refine jj_iload_n C dX11_ask_15 rfl ?_
  obtain ⟨y_2, ey_2, vy_2⟩ := tt_i2l p2
  refine jj_i2l (v := y_2) C dX11_ask_16 ey_2 ?_
  refine rl_last C hok (t := (1, (-9223372036854775808), 9223372036854775807)) hkw (by decide) rfl (k := 286 + 4 * n_1) (vp_in_nI (by omega) (by decide)) (tt_ja _) (nI_clamp (by omega)) dX11_ask_17 (fun pl_3 hok_4 tr tl tw => ?_)
  replace hm := hm.arr tr
  replace hfr := hfr.arr tr
  replace hC := tw _ hC
  replace hfa := hfa.wr hkw tl (by decide)
  refine jj_aload_n C dX11_ask_18 rfl ?_
  refine jj_iload C dX11_ask_19 rfl ?_
  refine jj_iconst (v := 1) C dX11_ask_21 (by decide) ?_
  refine jj_iadd (v := nI (287 + 4 * n_1)) C dX11_ask_22 (rl_addR (kn := 1) (by decide) (by omega)) ?_
  refine jj_lload_n C dX11_ask_23 rfl ?_
  refine rl_last C hok_4 (t := (1, (-9223372036854775808), 9223372036854775807)) hkw (by decide) rfl (k := 287 + 4 * n_1) (vp_in_nI (by omega) (by decide)) (tt_ja _) (nI_clamp (by omega)) dX11_ask_24 (fun pl_5 hok_6 tr tl tw => ?_)
  replace hm := hm.arr tr
  replace hfr := hfr.arr tr
  replace hC := tw _ hC
  replace hfa := hfa.wr hkw tl (by decide)
  refine jj_aload_n C dX11_ask_25 rfl ?_
  refine jj_iload C dX11_ask_26 rfl ?_
  refine jj_iconst (v := 2) C dX11_ask_28 (by decide) ?_
  refine jj_iadd (v := nI (288 + 4 * n_1)) C dX11_ask_29 (rl_addR (kn := 2) (by decide) (by omega)) ?_
  refine jj_lload C dX11_ask_30 rfl ?_
  refine rl_last C hok_6 (t := (1, (-9223372036854775808), 9223372036854775807)) hkw (by decide) rfl (k := 288 + 4 * n_1) (vp_in_nI (by omega) (by decide)) (tt_ja _) (nI_clamp (by omega)) dX11_ask_32 (fun pl_7 hok_8 tr tl tw => ?_)
  replace hm := hm.arr tr
  replace hfr := hfr.arr tr
  replace hC := tw _ hC
  replace hfa := hfa.wr hkw tl (by decide)
  refine jj_aload_n C dX11_ask_33 rfl ?_
  refine jj_iload C dX11_ask_34 rfl ?_
  refine jj_iconst (v := 3) C dX11_ask_36 (by decide) ?_
  refine jj_iadd (v := nI (289 + 4 * n_1)) C dX11_ask_37 (rl_addR (kn := 3) (by decide) (by omega)) ?_
  refine jj_aload_n C dX11_ask_38 rfl ?_
  refine jj_iconst (v := 5) C dX11_ask_39 (by decide) ?_
  refine rl_lald C hok_8 (t := (1, (-9223372036854775808), 9223372036854775807)) hkw (by decide) rfl (k := 5) (v := (f 5)) (vp_in_iff.mpr (by decide)) hC (by decide) (rl_ne (by omega) (rl_ne (by omega) (rl_ne (by omega) rfl))) dX11_ask_40 ?_
  refine rl_last C hok_8 (t := (1, (-9223372036854775808), 9223372036854775807)) hkw (by decide) rfl (k := 289 + 4 * n_1) (vp_in_nI (by omega) (by decide)) (tt_ja _) (nI_clamp (by omega)) dX11_ask_41 (fun pl_9 hok_10 tr tl tw => ?_)
  replace hm := hm.arr tr
  replace hfr := hfr.arr tr
  replace hC := tw _ hC
  replace hfa := hfa.wr hkw tl (by decide)
  refine jj_aload_n C dX11_ask_42 rfl ?_
  refine jj_bipush (v := 8) C dX11_ask_43 (by decide) ?_
  refine jj_dup2 C dX11_ask_45 rfl rfl ?_
  refine rl_lald C hok_10 (t := (1, (-9223372036854775808), 9223372036854775807)) hkw (by decide) rfl (k := 8) (v := (f 8)) (vp_in_iff.mpr (by decide)) hC (by decide) (rl_ne (by omega) (rl_ne (by omega) (rl_ne (by omega) (rl_ne (by omega) rfl)))) dX11_ask_46 ?_
  refine jj_lconst (v := 1) C dX11_ask_47 (by decide) ?_
  refine jj_ladd C dX11_ask_48 rfl ?_
  refine rl_last C hok_10 (t := (1, (-9223372036854775808), 9223372036854775807)) hkw (by decide) rfl (k := 8) (vp_in_iff.mpr (by decide)) (tt_ja _) (by decide) dX11_ask_49 (fun pl_11 hok_12 tr tl tw => ?_)
  replace hm := hm.arr tr
  replace hfr := hfr.arr tr
  replace hC := tw _ hC
  replace hfa := hfa.wr hkw tl (by decide)
  exact jj_vret C ⟨[], pl_11, rfl, rfl, hok_12, hfr, hfa, (by have q9 := rl_askw hI hr8 (n := n_1) (by omega) hb hc hB1 (g := (vp_updL (vp_updL (vp_updL (vp_updL (vp_updL f (286 + 4 * n_1) y_2) (287 + 4 * n_1) p3) (288 + 4 * n_1) p4) (289 + 4 * n_1) (f 5)) 8 ((f 8) + (1 : Int64)))) rfl; exact ⟨_, hC, q9.1, q9.2.1, q9.2.2.1, q9.2.2.2.1, q9.2.2.2.2, rfl⟩)⟩ dX11_ask_50 (jj_le rfl) (jj_le rfl)

set_option maxHeartbeats 4000000 in
set_option maxRecDepth 100000 in
theorem rs_ask_af {l : Launch} (hl : l.stackTraces = false) (D : va_G) (cA : Nat → ClassId) (ak : (Nat → Nat) × (Nat → Nat)) {Kd : Nat → Nat} {h0 aw aa at0 ai af ap : Nat} (p2 : Int32) (p3 p4 : Int64) (B B1 : Int) (f : Nat → Int64) (hk0 : Kd h0 = 1) (hkw : Kd aw = 2) (hka : Kd aa = 3) (hkt : Kd at0 = 4) (hki : Kd ai = 5) (hkf : Kd af = 6) (hkp : Kd ap = 7) (hI : rl_I B f) (hr8 : (f 8).toInt < 12) (hb : p3 = 0 ∨ p3 = 1) (hc : p3 = 0 → 0 ≤ p4.toInt ∧ p4.toInt ≤ 10000000) (hB1 : rl_T f + 3 * (if p3 = 0 then p4.toInt else 0) ≤ B1) {pl0 : va_W} (hok : tt_ok rt_tk cA Kd pl0) (hm : rl_m pl0 h0 aw aa at0 ai af ap) (hC : tt_lc pl0 af f) : jj_M l D cA ak yX11_ask (.code yX11_ask cX11_ask 8 none) 1 20 0 0 ([] ++ pl0) [.ref h0, .ref af, .int p2, .long p3, .long p4] (tt_O (fun rx pl1 r => rx = [] ∧ tt_ok rt_tk cA Kd pl1 ∧ tt_fr Kd [] pl0 pl1 ∧ tt_fa Kd [6] pl0 pl1 ∧ ((∃ g : Nat → Int64, tt_lc pl1 af g ∧ rl_I B1 g ∧ rl_T g = rl_T f + 3 * (if p3 = 0 then p4.toInt else 0) ∧ (rl_P f → rl_P g) ∧ (∀ i : Nat, i < 286 → i ≠ 8 → g i = f i) ∧ (g 8).toInt = (f 8).toInt + 1 ∧ r = none)))) (tt_OX (fun _ _ _ => False)) := by
  refine jj_start hl (by decide) jw_244fd0acfd (jj_le rfl) ?_
  intro p e s m args below meth c A hargs hA C hex hmn
  have hfr := tt_fr.refl (K := Kd) (WS := []) pl0
  have hfa := tt_fa.refl (K := Kd) (WA := [6]) pl0
  have hH := hI.1.1
  obtain ⟨⟨g0a, g0b⟩, ⟨g1a, g1b⟩, ⟨g6a, g6b⟩, ⟨g7a, g7b⟩, ⟨g8a, g8b⟩⟩ := hH
  have lp2 := tt_lo p2
  have up2 := tt_hi p2
  refine jj_aload_n C dX11_ask_0 rfl ?_
  refine jj_bipush (v := 8) C dX11_ask_1 (by decide) ?_
  refine rl_lald C hok (t := (1, (-9223372036854775808), 9223372036854775807)) hkf (by decide) rfl (k := 8) (v := (f 8)) (vp_in_iff.mpr (by decide)) hC (by decide) rfl dX11_ask_3 ?_
  obtain ⟨n_1, en_1, vn_1⟩ := rl_l2i (x := (f 8)) (by omega) (by omega)
  refine jj_l2i (v := nI n_1) C dX11_ask_4 en_1 ?_
  refine tt_call0S (rest := []) C (rn_requestAt hl D cA ak n_1 (286 + 4 * n_1) (by omega)) jw_b399766b1e jw_c583cc9526 jw_f96c99f44d jw_595411e0f2 jn_X11_requestAt rfl (jj_le rfl) (jj_le rfl) (jj_le rfl) (jj_le rfl) (jj_le rfl) dX11_ask_5 rfl (fun w1 r hO => ?_)
  obtain ⟨-, rfl⟩ := hO
  refine jj_istore C dX11_ask_8 (by decide) rfl ?_
  refine jj_aload_n C dX11_ask_10 rfl ?_
  refine jj_iload C dX11_ask_11 rfl ?_
  refine jj_iconst (v := 0) C dX11_ask_13 (by decide) ?_
  refine jj_iadd (v := nI (286 + 4 * n_1)) C dX11_ask_14 (rl_addR (kn := 0) (by decide) (by omega)) ?_
  refine jj_iload_n C dX11_ask_15 rfl ?_
  obtain ⟨y_2, ey_2, vy_2⟩ := tt_i2l p2
  refine jj_i2l (v := y_2) C dX11_ask_16 ey_2 ?_
  refine rl_last C hok (t := (1, (-9223372036854775808), 9223372036854775807)) hkf (by decide) rfl (k := 286 + 4 * n_1) (vp_in_nI (by omega) (by decide)) (tt_ja _) (nI_clamp (by omega)) dX11_ask_17 (fun pl_3 hok_4 tr tl tw => ?_)
  replace hm := hm.arr tr
  replace hfr := hfr.arr tr
  replace hC := tw _ hC
  replace hfa := hfa.wr hkf tl (by decide)
  refine jj_aload_n C dX11_ask_18 rfl ?_
  refine jj_iload C dX11_ask_19 rfl ?_
  refine jj_iconst (v := 1) C dX11_ask_21 (by decide) ?_
  refine jj_iadd (v := nI (287 + 4 * n_1)) C dX11_ask_22 (rl_addR (kn := 1) (by decide) (by omega)) ?_
  refine jj_lload_n C dX11_ask_23 rfl ?_
  refine rl_last C hok_4 (t := (1, (-9223372036854775808), 9223372036854775807)) hkf (by decide) rfl (k := 287 + 4 * n_1) (vp_in_nI (by omega) (by decide)) (tt_ja _) (nI_clamp (by omega)) dX11_ask_24 (fun pl_5 hok_6 tr tl tw => ?_)
  replace hm := hm.arr tr
  replace hfr := hfr.arr tr
  replace hC := tw _ hC
  replace hfa := hfa.wr hkf tl (by decide)
  refine jj_aload_n C dX11_ask_25 rfl ?_
  refine jj_iload C dX11_ask_26 rfl ?_
  refine jj_iconst (v := 2) C dX11_ask_28 (by decide) ?_
  refine jj_iadd (v := nI (288 + 4 * n_1)) C dX11_ask_29 (rl_addR (kn := 2) (by decide) (by omega)) ?_
  refine jj_lload C dX11_ask_30 rfl ?_
  refine rl_last C hok_6 (t := (1, (-9223372036854775808), 9223372036854775807)) hkf (by decide) rfl (k := 288 + 4 * n_1) (vp_in_nI (by omega) (by decide)) (tt_ja _) (nI_clamp (by omega)) dX11_ask_32 (fun pl_7 hok_8 tr tl tw => ?_)
  replace hm := hm.arr tr
  replace hfr := hfr.arr tr
  replace hC := tw _ hC
  replace hfa := hfa.wr hkf tl (by decide)
  refine jj_aload_n C dX11_ask_33 rfl ?_
  refine jj_iload C dX11_ask_34 rfl ?_
  refine jj_iconst (v := 3) C dX11_ask_36 (by decide) ?_
  refine jj_iadd (v := nI (289 + 4 * n_1)) C dX11_ask_37 (rl_addR (kn := 3) (by decide) (by omega)) ?_
  refine jj_aload_n C dX11_ask_38 rfl ?_
  refine jj_iconst (v := 5) C dX11_ask_39 (by decide) ?_
  refine rl_lald C hok_8 (t := (1, (-9223372036854775808), 9223372036854775807)) hkf (by decide) rfl (k := 5) (v := (f 5)) (vp_in_iff.mpr (by decide)) hC (by decide) (rl_ne (by omega) (rl_ne (by omega) (rl_ne (by omega) rfl))) dX11_ask_40 ?_
  refine rl_last C hok_8 (t := (1, (-9223372036854775808), 9223372036854775807)) hkf (by decide) rfl (k := 289 + 4 * n_1) (vp_in_nI (by omega) (by decide)) (tt_ja _) (nI_clamp (by omega)) dX11_ask_41 (fun pl_9 hok_10 tr tl tw => ?_)
  replace hm := hm.arr tr
  replace hfr := hfr.arr tr
  replace hC := tw _ hC
  replace hfa := hfa.wr hkf tl (by decide)
  refine jj_aload_n C dX11_ask_42 rfl ?_
  refine jj_bipush (v := 8) C dX11_ask_43 (by decide) ?_
  refine jj_dup2 C dX11_ask_45 rfl rfl ?_
  refine rl_lald C hok_10 (t := (1, (-9223372036854775808), 9223372036854775807)) hkf (by decide) rfl (k := 8) (v := (f 8)) (vp_in_iff.mpr (by decide)) hC (by decide) (rl_ne (by omega) (rl_ne (by omega) (rl_ne (by omega) (rl_ne (by omega) rfl)))) dX11_ask_46 ?_
  refine jj_lconst (v := 1) C dX11_ask_47 (by decide) ?_
  refine jj_ladd C dX11_ask_48 rfl ?_
  refine rl_last C hok_10 (t := (1, (-9223372036854775808), 9223372036854775807)) hkf (by decide) rfl (k := 8) (vp_in_iff.mpr (by decide)) (tt_ja _) (by decide) dX11_ask_49 (fun pl_11 hok_12 tr tl tw => ?_)
  replace hm := hm.arr tr
  replace hfr := hfr.arr tr
  replace hC := tw _ hC
  replace hfa := hfa.wr hkf tl (by decide)
  exact jj_vret C ⟨[], pl_11, rfl, rfl, hok_12, hfr, hfa, (by have q9 := rl_askw hI hr8 (n := n_1) (by omega) hb hc hB1 (g := (vp_updL (vp_updL (vp_updL (vp_updL (vp_updL f (286 + 4 * n_1) y_2) (287 + 4 * n_1) p3) (288 + 4 * n_1) p4) (289 + 4 * n_1) (f 5)) 8 ((f 8) + (1 : Int64)))) rfl; exact ⟨_, hC, q9.1, q9.2.1, q9.2.2.1, q9.2.2.2.1, q9.2.2.2.2, rfl⟩)⟩ dX11_ask_50 (jj_le rfl) (jj_le rfl)

set_option maxHeartbeats 4000000 in
set_option maxRecDepth 100000 in
theorem rs_isTooMuch {l : Launch} (hl : l.stackTraces = false) (D : va_G) (cA : Nat → ClassId) (ak : (Nat → Nat) × (Nat → Nat)) {Kd : Nat → Nat} {h0 aw aa at0 ai af ap : Nat} (p1 : Int32) (B : Int) (f : Nat → Int64) (hk0 : Kd h0 = 1) (hkw : Kd aw = 2) (hka : Kd aa = 3) (hkt : Kd at0 = 4) (hki : Kd ai = 5) (hkf : Kd af = 6) (hkp : Kd ap = 7) (hI : rl_I B f) (hP : rl_P f) {pl0 : va_W} (hok : tt_ok rt_tk cA Kd pl0) (hm : rl_m pl0 h0 aw aa at0 ai af ap) (hC : tt_lc pl0 aw f) : jj_M l D cA ak yX11_isTooMuch (.code yX11_isTooMuch cX11_isTooMuch 6 (some .boolean)) 1 20 0 0 ([] ++ pl0) [.ref h0, .int p1] (tt_O (fun rx pl1 r => rx = [] ∧ tt_ok rt_tk cA Kd pl1 ∧ tt_fr Kd [] pl0 pl1 ∧ tt_fa Kd [] pl0 pl1 ∧ (((0 < p1.toInt → rl_TM f p1.toInt (rnS f)) ∧ r = some (.int 0)) ∨ (r = some (.int 1))))) (tt_OX (fun _ _ _ => False)) := by
  refine jj_start hl (by decide) jw_1f97d6c9c0 (jj_le rfl) ?_
  intro p e s m args below meth c A hargs hA C hex hmn
  have hfr := tt_fr.refl (K := Kd) (WS := []) pl0
  have hfa := tt_fa.refl (K := Kd) (WA := []) pl0
  have hH := hI.1.1
  obtain ⟨⟨g0a, g0b⟩, ⟨g1a, g1b⟩, ⟨g6a, g6b⟩, ⟨g7a, g7b⟩, ⟨g8a, g8b⟩⟩ := hH
  have lp1 := tt_lo p1
  have up1 := tt_hi p1
  refine jj_iconst (v := 0) C dX11_isTooMuch_0 (by decide) ?_
  refine jj_istore_n C dX11_isTooMuch_1 (by decide) rfl ?_
  have hL_1 : ∀ (N : Nat) (pl : va_W) (k_2 : Nat), True → tt_ok rt_tk cA Kd pl → tt_fr Kd [] pl0 pl → tt_fa Kd [] pl0 pl → rl_m pl h0 aw aa at0 ai af ap → tt_lc pl aw f → (0 : Int) ≤ (k_2 : Int) → (k_2 : Int) ≤ 6 → (rl_TM f p1.toInt k_2) → (2147483648 - (k_2 : Int) ≤ (N : Int)) → jj_J p l e (jj_rm 1 20 0 0) s m args below meth c 6 A (vx_MQ below (jj_q D A (tt_O (fun rx pl1 r => rx = [] ∧ tt_ok rt_tk cA Kd pl1 ∧ tt_fr Kd [] pl0 pl1 ∧ tt_fa Kd [] pl0 pl1 ∧ (((0 < p1.toInt → rl_TM f p1.toInt (rnS f)) ∧ r = some (.int 0)) ∨ (r = some (.int 1)))))) (jj_x D A (tt_OX (fun _ _ _ => False))) args s 0 0 A) (jj_X D A ([] ++ pl)) 0 0 2 [(2, .int (nI k_2)), (0, .ref h0), (1, .int p1)] [] := by
    intro NL_1
    induction NL_1 with
    | zero => intro pl k_2 _ hok hfr hfa hm hC lk_2 uk_2 hM9 hNL_1; exfalso; omega
    | succ NL_1 ihL_1 =>
      intro pl k_2 _ hok hfr hfa hm hC lk_2 uk_2 hM9 hNL_1
      replace ihL_1 := fun pl k_2 h1 => ihL_1 pl k_2 trivial h1
      refine jj_iload_n C dX11_isTooMuch_2 rfl ?_
      refine jj_i2l C dX11_isTooMuch_3 rfl ?_
      refine jj_aload_n C dX11_isTooMuch_4 rfl ?_
      refine tt_getF C hok jk_12 0 (by decide) jw_34eaf3ba8b (t := (2, 2, 0)) hk0 (by decide) rfl rfl hm.1 dX11_isTooMuch_5 ?_
      refine jj_bipush (v := 6) C dX11_isTooMuch_8 (by decide) ?_
      refine rl_lald C hok (t := (1, (-9223372036854775808), 9223372036854775807)) hkw (by decide) rfl (k := 6) (v := (f 6)) (vp_in_iff.mpr (by decide)) hC (by decide) rfl dX11_isTooMuch_10 ?_
      refine jj_lcmp_ge (tgt := 89) C dX11_isTooMuch_11 dX11_isTooMuch_12 (by decide) (fun c_3 => ?_) (fun c_3 => ?_)
      · have z_c_3 := jc_leL (a := (f 6).toInt) (b := ((k_2 : Nat) : Int)) c_3 rfl (rl_tl (by omega))
        refine jj_iconst (v := 0) C dX11_isTooMuch_89 (by decide) ?_
        exact jj_zret C rfl ⟨[], pl, rfl, rfl, hok, hfr, hfa, (Or.inl ⟨(fun z => by first | (exfalso; omega) | exact (fun a ha => hM9 a (by unfold rnS at ha; omega))), rfl⟩)⟩ dX11_isTooMuch_90 (jj_le rfl) (jj_le rfl)
      · have z_c_3 := jc_nleL (a := (f 6).toInt) (b := ((k_2 : Nat) : Int)) c_3 rfl (rl_tl (by omega))
        refine jj_iload_n C dX11_isTooMuch_15 rfl ?_
        refine jj_if_le (tgt := 89) C dX11_isTooMuch_16 (by decide) (fun c_4 => ?_) (fun c_4 => ?_)
        · have z_c_4 := jc_le (a := p1.toInt) (b := 0) c_4 rfl (by decide)
          refine jj_iconst (v := 0) C dX11_isTooMuch_89 (by decide) ?_
          exact jj_zret C rfl ⟨[], pl, rfl, rfl, hok, hfr, hfa, (Or.inl ⟨(fun z => by first | (exfalso; omega) | exact (fun a ha => hM9 a (by unfold rnS at ha; omega))), rfl⟩)⟩ dX11_isTooMuch_90 (jj_le rfl) (jj_le rfl)
        · have z_c_4 := jc_nle (a := p1.toInt) (b := 0) c_4 rfl (by decide)
          refine jj_iload_n C dX11_isTooMuch_19 rfl ?_
          refine tt_call0S (rest := []) C (rn_seriesAt hl D cA ak k_2 (16 + 5 * k_2) (by omega)) jw_6251557f40 jw_b2cd40a13f jw_f96c99f44d jw_6245231363 jn_X11_seriesAt rfl (jj_le rfl) (jj_le rfl) (jj_le rfl) (jj_le rfl) (jj_le rfl) dX11_isTooMuch_20 rfl (fun w1 r hO => ?_)
          obtain ⟨-, rfl⟩ := hO
          refine jj_istore_n C dX11_isTooMuch_23 (by decide) rfl ?_
          refine jj_aload_n C dX11_isTooMuch_24 rfl ?_
          refine tt_getF C hok jk_12 0 (by decide) jw_34eaf3ba8b (t := (2, 2, 0)) hk0 (by decide) rfl rfl hm.1 dX11_isTooMuch_25 ?_
          refine jj_iload_n C dX11_isTooMuch_28 rfl ?_
          refine jj_iconst (v := 2) C dX11_isTooMuch_29 (by decide) ?_
          refine jj_iadd (v := nI (18 + 5 * k_2)) C dX11_isTooMuch_30 (rl_addR (kn := 2) (by decide) (by omega)) ?_
          refine rl_lald C hok (t := (1, (-9223372036854775808), 9223372036854775807)) hkw (by decide) rfl (k := 18 + 5 * k_2) (v := (f (18 + 5 * k_2))) (vp_in_nI (by omega) (by decide)) hC (nI_clamp (by omega)) rfl dX11_isTooMuch_31 ?_
          refine jj_aload_n C dX11_isTooMuch_32 rfl ?_
          refine tt_getF C hok jk_12 0 (by decide) jw_34eaf3ba8b (t := (2, 2, 0)) hk0 (by decide) rfl rfl hm.1 dX11_isTooMuch_33 ?_
          refine jj_iload_n C dX11_isTooMuch_36 rfl ?_
          refine jj_iconst (v := 2) C dX11_isTooMuch_37 (by decide) ?_
          refine jj_iadd (v := nI (18 + 5 * k_2)) C dX11_isTooMuch_38 (rl_addR (kn := 2) (by decide) (by omega)) ?_
          refine rl_lald C hok (t := (1, (-9223372036854775808), 9223372036854775807)) hkw (by decide) rfl (k := 18 + 5 * k_2) (v := (f (18 + 5 * k_2))) (vp_in_nI (by omega) (by decide)) hC (nI_clamp (by omega)) rfl dX11_isTooMuch_39 ?_
          refine jj_iload_n C dX11_isTooMuch_40 rfl ?_
          obtain ⟨y_5, ey_5, vy_5⟩ := tt_i2l p1
          refine jj_i2l (v := y_5) C dX11_isTooMuch_41 ey_5 ?_
          refine jj_lmul C dX11_isTooMuch_42 rfl ?_
          refine jj_ldc2 (v := 10000) C dX11_isTooMuch_43 jw_d680bb70d7 ?_
          refine jj_ldiv C dX11_isTooMuch_46 (by decide) rfl ?_
          refine jj_ladd C dX11_isTooMuch_47 rfl ?_
          refine jj_lstore C dX11_isTooMuch_48 (by decide) rfl ?_
          refine jj_lload C dX11_isTooMuch_50 rfl ?_
          refine jj_ldc2 (v := 1000000000) C dX11_isTooMuch_52 jw_c85534015f ?_
          refine jj_lcmp_gt (tgt := 81) C dX11_isTooMuch_55 dX11_isTooMuch_56 (by decide) (fun c_6 => ?_) (fun c_6 => ?_)
          · have z_c_6 := jc_ltL (a := 1000000000) (b := ((f (18 + 5 * k_2)) + (((f (18 + 5 * k_2)) * y_5) / (10000 : Int64))).toInt) c_6 (by decide) rfl
            refine jj_iconst (v := 1) C dX11_isTooMuch_81 (by decide) ?_
            exact jj_zret C rfl ⟨[], pl, rfl, rfl, hok, hfr, hfa, (Or.inr rfl)⟩ dX11_isTooMuch_82 (jj_le rfl) (jj_le rfl)
          · have z_c_6 := jc_nltL (a := 1000000000) (b := ((f (18 + 5 * k_2)) + (((f (18 + 5 * k_2)) * y_5) / (10000 : Int64))).toInt) c_6 (by decide) rfl
            refine jj_lload C dX11_isTooMuch_59 rfl ?_
            refine jj_ldc2 (v := 100000) C dX11_isTooMuch_61 jw_759d064724 ?_
            refine jj_lmul C dX11_isTooMuch_64 rfl ?_
            refine jj_aload_n C dX11_isTooMuch_65 rfl ?_
            refine tt_getF C hok jk_12 0 (by decide) jw_34eaf3ba8b (t := (2, 2, 0)) hk0 (by decide) rfl rfl hm.1 dX11_isTooMuch_66 ?_
            refine jj_iload_n C dX11_isTooMuch_69 rfl ?_
            refine jj_iconst (v := 3) C dX11_isTooMuch_70 (by decide) ?_
            refine jj_iadd (v := nI (19 + 5 * k_2)) C dX11_isTooMuch_71 (rl_addR (kn := 3) (by decide) (by omega)) ?_
            refine rl_lald C hok (t := (1, (-9223372036854775808), 9223372036854775807)) hkw (by decide) rfl (k := 19 + 5 * k_2) (v := (f (19 + 5 * k_2))) (vp_in_nI (by omega) (by decide)) hC (nI_clamp (by omega)) rfl dX11_isTooMuch_72 ?_
            refine jj_ldiv C dX11_isTooMuch_73 (rl_PU hP (k := k_2) (by unfold rnS; omega)) rfl ?_
            refine jj_ldc2 (v := 100000000) C dX11_isTooMuch_74 jw_65ddc638d1 ?_
            refine jj_lcmp_le (tgt := 83) C dX11_isTooMuch_77 dX11_isTooMuch_78 (by decide) (fun c_7 => ?_) (fun c_7 => ?_)
            · have z_c_7 := jc_leL (a := ((((f (18 + 5 * k_2)) + (((f (18 + 5 * k_2)) * y_5) / (10000 : Int64))) * (100000 : Int64)) / (f (19 + 5 * k_2))).toInt) (b := 100000000) c_7 rfl (by decide)
              refine jj_iinc (v := nI (1 + k_2)) C dX11_isTooMuch_83 rfl (rl_addR (kn := 1) (by decide) (by omega)) (by decide) rfl ?_
              refine jj_goto (tgt := 2) C dX11_isTooMuch_86 (by decide) ?_
              refine jj_loc [0, 3, 4] rfl ?_
              exact ihL_1 pl (1 + k_2) hok hfr hfa hm hC (by first | omega | decide | exact tt_lo _ | exact tt_hi _) (by first | omega | decide | exact tt_lo _ | exact tt_hi _) (rl_TM.next hM9 vy_5 (by omega)) (by first | omega | decide | exact tt_lo _ | exact tt_hi _)
            · have z_c_7 := jc_nleL (a := ((((f (18 + 5 * k_2)) + (((f (18 + 5 * k_2)) * y_5) / (10000 : Int64))) * (100000 : Int64)) / (f (19 + 5 * k_2))).toInt) (b := 100000000) c_7 rfl (by decide)
              refine jj_iconst (v := 1) C dX11_isTooMuch_81 (by decide) ?_
              exact jj_zret C rfl ⟨[], pl, rfl, rfl, hok, hfr, hfa, (Or.inr rfl)⟩ dX11_isTooMuch_82 (jj_le rfl) (jj_le rfl)
  exact hL_1 _ pl0 0 trivial hok hfr hfa hm hC (by first | omega | decide | exact tt_lo _ | exact tt_hi _) (by first | omega | decide | exact tt_lo _ | exact tt_hi _) (fun a ha => absurd ha (Nat.not_lt_zero _)) (Int.self_le_toNat _)

set_option maxHeartbeats 4000000 in
set_option maxRecDepth 100000 in
theorem rs_gain {l : Launch} (hl : l.stackTraces = false) (D : va_G) (cA : Nat → ClassId) (ak : (Nat → Nat) × (Nat → Nat)) {Kd : Nat → Nat} {h0 aw aa at0 ai af ap : Nat} (p1 : Int32) (B : Int) (f : Nat → Int64) (hk0 : Kd h0 = 1) (hkw : Kd aw = 2) (hka : Kd aa = 3) (hkt : Kd at0 = 4) (hki : Kd ai = 5) (hkf : Kd af = 6) (hkp : Kd ap = 7) (hI : rl_I B f) (hP : rl_P f) (hB : B ≤ 43920000000) (hB0 : 12760000000 ≤ B) (hq : -9000 ≤ p1.toInt ∧ p1.toInt ≤ 9999) (hG : 0 < p1.toInt → rl_TM f p1.toInt (rnS f)) {pl0 : va_W} (hok : tt_ok rt_tk cA Kd pl0) (hm : rl_m pl0 h0 aw aa at0 ai af ap) (hC : tt_lc pl0 aw f) : jj_M l D cA ak yX11_gain (.code yX11_gain cX11_gain 8 (some .long)) 1 20 0 0 ([] ++ pl0) [.ref h0, .int p1] (tt_O (fun rx pl1 r => rx = [] ∧ tt_ok rt_tk cA Kd pl1 ∧ tt_fr Kd [] pl0 pl1 ∧ tt_fa Kd [2] pl0 pl1 ∧ ((∃ g : Nat → Int64, tt_lc pl1 aw g ∧ rl_I B g ∧ rl_P g ∧ (p1.toInt ≤ 0 → rl_T g ≤ rl_T f) ∧ (0 < p1.toInt → rl_T g ≤ 12760000000) ∧ (∀ i : Nat, (i < 10 ∨ 46 ≤ i) → g i = f i) ∧ ∃ v : Int64, r = some (.long v))))) (tt_OX (fun _ _ _ => False)) := by
  refine jj_start hl (by decide) jw_7b130daeac (jj_le rfl) ?_
  intro p e s m args below meth c A hargs hA C hex hmn
  have hfr := tt_fr.refl (K := Kd) (WS := []) pl0
  have hfa := tt_fa.refl (K := Kd) (WA := [2]) pl0
  have hH := hI.1.1
  obtain ⟨⟨g0a, g0b⟩, ⟨g1a, g1b⟩, ⟨g6a, g6b⟩, ⟨g7a, g7b⟩, ⟨g8a, g8b⟩⟩ := hH
  refine jj_lconst (v := 0) C dX11_gain_0 (by decide) ?_
  refine jj_lstore_n C dX11_gain_1 (by decide) rfl ?_
  refine jj_iconst (v := 0) C dX11_gain_2 (by decide) ?_
  refine jj_istore C dX11_gain_3 (by decide) rfl ?_
  have hL_1 : ∀ (N : Nat) (pl : va_W) (k_2 : Nat) (y_3 : Int64) (g_4 : Nat → Int64), True → tt_ok rt_tk cA Kd pl → tt_fr Kd [] pl0 pl → tt_fa Kd [2] pl0 pl → rl_m pl h0 aw aa at0 ai af ap → tt_lc pl aw g_4 → rl_W B f g_4 p1.toInt k_2 → (0 : Int) ≤ (k_2 : Int) → (k_2 : Int) ≤ 6 → (2147483648 - (k_2 : Int) ≤ (N : Int)) → jj_J p l e (jj_rm 1 20 0 0) s m args below meth c 8 A (vx_MQ below (jj_q D A (tt_O (fun rx pl1 r => rx = [] ∧ tt_ok rt_tk cA Kd pl1 ∧ tt_fr Kd [] pl0 pl1 ∧ tt_fa Kd [2] pl0 pl1 ∧ ((∃ g : Nat → Int64, tt_lc pl1 aw g ∧ rl_I B g ∧ rl_P g ∧ (p1.toInt ≤ 0 → rl_T g ≤ rl_T f) ∧ (0 < p1.toInt → rl_T g ≤ 12760000000) ∧ (∀ i : Nat, (i < 10 ∨ 46 ≤ i) → g i = f i) ∧ ∃ v : Int64, r = some (.long v)))))) (jj_x D A (tt_OX (fun _ _ _ => False))) args s 0 0 A) (jj_X D A ([] ++ pl)) 0 0 5 [(4, .int (nI k_2)), (2, .long y_3), (0, .ref h0), (1, .int p1)] [] := by
    intro NL_1
    induction NL_1 with
    | zero => intro pl k_2 y_3 g_4 _ hok hfr hfa hm hC_5 hD_6 lk_2 uk_2 hNL_1; exfalso; omega
    | succ NL_1 ihL_1 =>
      intro pl k_2 y_3 g_4 _ hok hfr hfa hm hC_5 hD_6 lk_2 uk_2 hNL_1
      replace ihL_1 := fun pl k_2 y_3 g_4 h1 => ihL_1 pl k_2 y_3 g_4 trivial h1
      obtain ⟨⟨g0ag_4, g0bg_4⟩, ⟨g1ag_4, g1bg_4⟩, ⟨g6ag_4, g6bg_4⟩, ⟨g7ag_4, g7bg_4⟩, ⟨g8ag_4, g8bg_4⟩⟩ := (hD_6.1).1.1
      refine jj_iload C dX11_gain_5 rfl ?_
      refine jj_i2l C dX11_gain_7 rfl ?_
      refine jj_aload_n C dX11_gain_8 rfl ?_
      refine tt_getF C hok jk_12 0 (by decide) jw_34eaf3ba8b (t := (2, 2, 0)) hk0 (by decide) rfl rfl hm.1 dX11_gain_9 ?_
      refine jj_bipush (v := 6) C dX11_gain_12 (by decide) ?_
      refine rl_lald C hok (t := (1, (-9223372036854775808), 9223372036854775807)) hkw (by decide) rfl (k := 6) (v := (g_4 6)) (vp_in_iff.mpr (by decide)) hC_5 (by decide) rfl dX11_gain_14 ?_
      refine jj_lcmp_ge (tgt := 69) C dX11_gain_15 dX11_gain_16 (by decide) (fun c_7 => ?_) (fun c_7 => ?_)
      · have z_c_7 := jc_leL (a := (g_4 6).toInt) (b := ((k_2 : Nat) : Int)) c_7 rfl (rl_tl (by omega))
        refine jj_aload_n C dX11_gain_69 rfl ?_
        refine tt_getF C hok jk_12 0 (by decide) jw_34eaf3ba8b (t := (2, 2, 0)) hk0 (by decide) rfl rfl hm.1 dX11_gain_70 ?_
        refine jj_bipush (v := 14) C dX11_gain_73 (by decide) ?_
        refine jj_dup2 C dX11_gain_75 rfl rfl ?_
        refine rl_lald C hok (t := (1, (-9223372036854775808), 9223372036854775807)) hkw (by decide) rfl (k := 14) (v := (g_4 14)) (vp_in_iff.mpr (by decide)) hC_5 (by decide) rfl dX11_gain_76 ?_
        refine jj_lload_n C dX11_gain_77 rfl ?_
        refine jj_ladd C dX11_gain_78 rfl ?_
        refine rl_last C hok (t := (1, (-9223372036854775808), 9223372036854775807)) hkw (by decide) rfl (k := 14) (vp_in_iff.mpr (by decide)) (tt_ja _) (by decide) dX11_gain_79 (fun pl_8 hok_9 tr tl tw => ?_)
        replace hm := hm.arr tr
        replace hfr := hfr.arr tr
        replace hC_5 := tw _ hC_5
        replace hfa := hfa.wr hkw tl (by decide)
        refine jj_lload_n C dX11_gain_80 rfl ?_
        exact jj_lret C ⟨[], pl_8, rfl, rfl, hok_9, hfr, hfa, (by have q9 := hD_6.fin ((g_4 14) + y_3); exact ⟨_, hC_5, q9.1, q9.2.1, q9.2.2.1, q9.2.2.2.1, q9.2.2.2.2, _, rfl⟩)⟩ dX11_gain_81 (jj_le rfl) (jj_le rfl)
      · have z_c_7 := jc_nleL (a := (g_4 6).toInt) (b := ((k_2 : Nat) : Int)) c_7 rfl (rl_tl (by omega))
        refine jj_iload C dX11_gain_19 rfl ?_
        refine tt_call0S (rest := []) C (rn_seriesAt hl D cA ak k_2 (16 + 5 * k_2) (by omega)) jw_6251557f40 jw_b2cd40a13f jw_f96c99f44d jw_6245231363 jn_X11_seriesAt rfl (jj_le rfl) (jj_le rfl) (jj_le rfl) (jj_le rfl) (jj_le rfl) dX11_gain_21 rfl (fun w1 r hO => ?_)
        obtain ⟨-, rfl⟩ := hO
        refine jj_istore C dX11_gain_24 (by decide) rfl ?_
        refine jj_aload_n C dX11_gain_26 rfl ?_
        refine tt_getF C hok jk_12 0 (by decide) jw_34eaf3ba8b (t := (2, 2, 0)) hk0 (by decide) rfl rfl hm.1 dX11_gain_27 ?_
        refine jj_iload C dX11_gain_30 rfl ?_
        refine jj_iconst (v := 2) C dX11_gain_32 (by decide) ?_
        refine jj_iadd (v := nI (18 + 5 * k_2)) C dX11_gain_33 (rl_addR (kn := 2) (by decide) (by omega)) ?_
        refine rl_lald C hok (t := (1, (-9223372036854775808), 9223372036854775807)) hkw (by decide) rfl (k := 18 + 5 * k_2) (v := (g_4 (18 + 5 * k_2))) (vp_in_nI (by omega) (by decide)) hC_5 (nI_clamp (by omega)) rfl dX11_gain_34 ?_
        refine jj_iload_n C dX11_gain_35 rfl ?_
        obtain ⟨y_10, ey_10, vy_10⟩ := tt_i2l p1
        refine jj_i2l (v := y_10) C dX11_gain_36 ey_10 ?_
        refine jj_lmul C dX11_gain_37 rfl ?_
        refine jj_ldc2 (v := 10000) C dX11_gain_38 jw_d680bb70d7 ?_
        refine jj_ldiv C dX11_gain_41 (by decide) rfl ?_
        refine jj_lstore C dX11_gain_42 (by decide) rfl ?_
        refine jj_aload_n C dX11_gain_44 rfl ?_
        refine tt_getF C hok jk_12 0 (by decide) jw_34eaf3ba8b (t := (2, 2, 0)) hk0 (by decide) rfl rfl hm.1 dX11_gain_45 ?_
        refine jj_iload C dX11_gain_48 rfl ?_
        refine jj_iconst (v := 2) C dX11_gain_50 (by decide) ?_
        refine jj_iadd (v := nI (18 + 5 * k_2)) C dX11_gain_51 (rl_addR (kn := 2) (by decide) (by omega)) ?_
        refine jj_dup2 C dX11_gain_52 rfl rfl ?_
        refine rl_lald C hok (t := (1, (-9223372036854775808), 9223372036854775807)) hkw (by decide) rfl (k := 18 + 5 * k_2) (v := (g_4 (18 + 5 * k_2))) (vp_in_nI (by omega) (by decide)) hC_5 (nI_clamp (by omega)) rfl dX11_gain_53 ?_
        refine jj_lload C dX11_gain_54 rfl ?_
        refine jj_ladd C dX11_gain_56 rfl ?_
        refine rl_last C hok (t := (1, (-9223372036854775808), 9223372036854775807)) hkw (by decide) rfl (k := 18 + 5 * k_2) (vp_in_nI (by omega) (by decide)) (tt_ja _) (nI_clamp (by omega)) dX11_gain_57 (fun pl_11 hok_12 tr tl tw => ?_)
        replace hm := hm.arr tr
        replace hfr := hfr.arr tr
        replace hC_5 := tw _ hC_5
        replace hfa := hfa.wr hkw tl (by decide)
        refine jj_lload_n C dX11_gain_58 rfl ?_
        refine jj_lload C dX11_gain_59 rfl ?_
        refine jj_ladd C dX11_gain_61 rfl ?_
        refine jj_lstore_n C dX11_gain_62 (by decide) rfl ?_
        refine jj_iinc (v := nI (1 + k_2)) C dX11_gain_63 rfl (rl_addR (kn := 1) (by decide) (by omega)) (by decide) rfl ?_
        refine jj_goto (tgt := 5) C dX11_gain_66 (by decide) ?_
        refine jj_loc [0, 1, 4, 5] rfl ?_
        exact ihL_1 pl_11 (1 + k_2) (y_3 + (((g_4 (18 + 5 * k_2)) * y_10) / (10000 : Int64))) (vp_updL g_4 (18 + 5 * k_2) ((g_4 (18 + 5 * k_2)) + (((g_4 (18 + 5 * k_2)) * y_10) / (10000 : Int64)))) hok_12 hfr hfa hm hC_5 (hD_6.step hB hB0 hq hG (by unfold rnS; omega) vy_10) (by first | omega | decide | exact tt_lo _ | exact tt_hi _) (by first | omega | decide | exact tt_lo _ | exact tt_hi _) (by first | omega | decide | exact tt_lo _ | exact tt_hi _)
  exact hL_1 _ pl0 0 (0 : Int64) f trivial hok hfr hfa hm hC (rl_W.init hI hP hB hq hG) (by first | omega | decide | exact tt_lo _ | exact tt_hi _) (by first | omega | decide | exact tt_lo _ | exact tt_hi _) (Int.self_le_toNat _)
