theorem jw_916d704b4e : Cond.constantLong RX11 179 (10000000) ∈ jj_G := jj_t7 (List.mem_of_getElem? (i := 121) (by decide +kernel)) rfl
theorem jw_13decb34e5 : Cond.constantLong RX11 181 (40) ∈ jj_G := jj_t7 (List.mem_of_getElem? (i := 125) (by decide +kernel)) rfl
theorem jw_f454e46fa4 : Cond.constantLong RX11 183 (6) ∈ jj_G := jj_t7 (List.mem_of_getElem? (i := 126) (by decide +kernel)) rfl
theorem jw_4d5a4e1a1e : Cond.methodLink RX11 185 yX11_openOne ∈ jj_G := jj_t7 (List.mem_of_getElem? (i := 127) (by decide +kernel)) rfl
theorem jw_8d21c5b5dc : Cond.instanceMethod yX11_openOne ∈ jj_G := jj_t7 (List.mem_of_getElem? (i := 129) (by decide +kernel)) rfl
theorem jw_12a8e84f6e : Cond.selects RX11 yX11_openOne yX11_openOne ∈ jj_G := jj_pv (q := (yX11_openOne, 25)) (by decide +kernel)
theorem jn_X11_openOne : jj_N yX11_openOne 0 := by unfold jj_N; decide +kernel
theorem jw_0bdec3858a : Cond.code yX11_subscribeTo cX11_subscribeTo 14 (some .int) ∈ jj_G := jj_t7 (List.mem_of_getElem? (i := 119) (by decide +kernel)) rfl
set_option maxHeartbeats 4000000 in
set_option maxRecDepth 100000 in
theorem ct_X11_in_s1 {l : Launch} (hl : l.stackTraces = false) (D : va_G) (cA : Nat → ClassId) (ak : (Nat → Nat) × (Nat → Nat)) (b0 : Int64) : jj_M l D cA ak yX11_in (.code yX11_in cX11_in 6 (some .boolean)) 0 0 0 0 [] [.long b0, .long 1, .long 10000000] (fun (w : va_W) (r : Option Value) => (b0 < 1 ∧ w = [] ∧ r = some (.int 0)) ∨ (¬ b0 < 1 ∧ 10000000 < b0 ∧ w = [] ∧ r = some (.int 0)) ∨ (¬ b0 < 1 ∧ ¬ 10000000 < b0 ∧ w = [] ∧ r = some (.int 1))) jj_noX := by
  refine jj_start hl (by decide) jw_e07c9ada56 (jj_le rfl) ?_
  intro p e s m args below meth c A hargs hA C hex hmn
  refine jj_lload_n C dX11_in_0 rfl ?_
  refine jj_lload_n C dX11_in_1 rfl ?_
  refine jj_lcmp_lt (tgt := 17) C dX11_in_2 dX11_in_3 (by decide) (fun c_1 => ?_) (fun c_1 => ?_)
  · refine jj_iconst (v := 0) C dX11_in_17 (by decide) ?_
    exact jj_zret C rfl (Or.inl ⟨c_1, rfl, rfl⟩) dX11_in_18 (jj_le rfl) (jj_le rfl)
  · refine jj_lload_n C dX11_in_6 rfl ?_
    refine jj_lload C dX11_in_7 rfl ?_
    refine jj_lcmp_gt (tgt := 17) C dX11_in_9 dX11_in_10 (by decide) (fun c_2 => ?_) (fun c_2 => ?_)
    · refine jj_iconst (v := 0) C dX11_in_17 (by decide) ?_
      exact jj_zret C rfl (Or.inr (Or.inl ⟨c_1, c_2, rfl, rfl⟩)) dX11_in_18 (jj_le rfl) (jj_le rfl)
    · refine jj_iconst (v := 1) C dX11_in_13 (by decide) ?_
      refine jj_goto (tgt := 18) C dX11_in_14 (by decide) ?_
      exact jj_zret C rfl (Or.inr (Or.inr ⟨c_1, c_2, rfl, rfl⟩)) dX11_in_18 (jj_le rfl) (jj_le rfl)

set_option maxHeartbeats 4000000 in
set_option maxRecDepth 100000 in
theorem ct_X11_in_s2 {l : Launch} (hl : l.stackTraces = false) (D : va_G) (cA : Nat → ClassId) (ak : (Nat → Nat) × (Nat → Nat)) : jj_M l D cA ak yX11_in (.code yX11_in cX11_in 6 (some .boolean)) 0 0 0 0 [] [.long 0, .long 1, .long 10000000] (fun (w : va_W) (r : Option Value) => (w = [] ∧ r = some (.int 0))) jj_noX := by
  refine jj_start hl (by decide) jw_e07c9ada56 (jj_le rfl) ?_
  intro p e s m args below meth c A hargs hA C hex hmn
  refine jj_lload_n C dX11_in_0 rfl ?_
  refine jj_lload_n C dX11_in_1 rfl ?_
  refine jj_lcmp_ltT (tgt := 17) C dX11_in_2 dX11_in_3 (by decide) (by decide) ?_
  refine jj_iconst (v := 0) C dX11_in_17 (by decide) ?_
  exact jj_zret C rfl ⟨rfl, rfl⟩ dX11_in_18 (jj_le rfl) (jj_le rfl)

set_option maxHeartbeats 4000000 in
set_option maxRecDepth 100000 in
theorem rs_subOpen {l : Launch} (hl : l.stackTraces = false) (D : va_G) (cA : Nat → ClassId) (ak : (Nat → Nat) × (Nat → Nat)) {Kd : Nat → Nat} {h0 aw aa at0 ai af ap : Nat} (q : Nat) (B B1 : Int) (f : Nat → Int64) (hk0 : Kd h0 = 1) (hkw : Kd aw = 2) (hka : Kd aa = 3) (hkt : Kd at0 = 4) (hki : Kd ai = 5) (hkf : Kd af = 6) (hkp : Kd ap = 7) (hr : q < 12) (hI : rl_I B f) (hP : rl_P f) (hB : B ≤ 43920000000) (ham : 0 ≤ (f (288 + 4 * q)).toInt ∧ (f (288 + 4 * q)).toInt ≤ 10000000) (hB1 : rl_T f + 3 * (f (288 + 4 * q)).toInt ≤ B1) (hme : (f 1).toInt = 1 → (f 6).toInt = 0) (h9 : 0 ≤ (f 9).toInt ∧ (f 9).toInt < 4611686018427387904) {pl0 : va_W} (hok : tt_ok rt_tk cA Kd pl0) (hm : rl_m pl0 h0 aw aa at0 ai af ap) (hC : tt_lc pl0 aw f) : jj_M l D cA ak yX11_subscribeTo (.code yX11_subscribeTo cX11_subscribeTo 14 (some .int)) 2 41 0 0 ([] ++ pl0) [.ref h0, .int (-1), .int (nI q)] (tt_O (fun rx pl1 r => rx = [] ∧ tt_ok rt_tk cA Kd pl1 ∧ tt_fr Kd [] pl0 pl1 ∧ tt_fa Kd [2] pl0 pl1 ∧ ((tt_lc pl1 aw f ∧ r = some (.int (-1))) ∨ (∃ (g : Nat → Int64) (n : Nat), (f 6).toInt = (n : Int) ∧ n < 6 ∧ tt_lc pl1 aw g ∧ rl_I B1 g ∧ rl_P g ∧ rl_T g ≤ rl_T f + 3 * (f (288 + 4 * q)).toInt ∧ (∀ i : Nat, i ≠ 6 → i ≠ 7 → i ≠ 9 → i ≠ 12 → ¬ (16 + 5 * n ≤ i ∧ i ≤ 20 + 5 * n) → (i < 46 ∨ 286 ≤ i) → g i = f i) ∧ ((g 6).toInt = (f 6).toInt + 1 ∧ (g 9).toInt = (f 9).toInt + 1) ∧ (g (20 + 5 * n)).toInt = 1000000 ∧ (g (18 + 5 * n)).toInt ≤ 10000000 ∧ (g (19 + 5 * n)).toInt ≤ 10000000 ∧ r = some (.int (nI (16 + 5 * n))))))) (tt_OX (fun _ _ _ => False)) := by
  refine jj_start hl (by decide) jw_0bdec3858a (jj_le rfl) ?_
  intro p e s m args below meth c A hargs hA C hex hmn
  have hfr := tt_fr.refl (K := Kd) (WS := []) pl0
  have hfa := tt_fa.refl (K := Kd) (WA := [2]) pl0
  have hH := hI.1.1
  obtain ⟨⟨g0a, g0b⟩, ⟨g1a, g1b⟩, ⟨g6a, g6b⟩, ⟨g7a, g7b⟩, ⟨g8a, g8b⟩⟩ := hH
  refine jj_iload_n C dX11_subscribeTo_0 rfl ?_
  refine tt_call0S (rest := []) C (rn_requestAt hl D cA ak q (286 + 4 * q) (by omega)) jw_b399766b1e jw_c583cc9526 jw_f96c99f44d jw_595411e0f2 jn_X11_requestAt rfl (jj_le rfl) (jj_le rfl) (jj_le rfl) (jj_le rfl) (jj_le rfl) dX11_subscribeTo_1 rfl (fun w1 r hO => ?_)
  obtain ⟨-, rfl⟩ := hO
  refine jj_istore_n C dX11_subscribeTo_4 (by decide) rfl ?_
  refine jj_aload_n C dX11_subscribeTo_5 rfl ?_
  refine tt_getF C hok jk_12 0 (by decide) jw_34eaf3ba8b (t := (2, 2, 0)) hk0 (by decide) rfl rfl hm.1 dX11_subscribeTo_6 ?_
  refine jj_iload_n C dX11_subscribeTo_9 rfl ?_
  refine jj_iconst (v := 2) C dX11_subscribeTo_10 (by decide) ?_
  refine jj_iadd (v := nI (288 + 4 * q)) C dX11_subscribeTo_11 (rl_addR (kn := 2) (by decide) (by omega)) ?_
  refine rl_lald C hok (t := (1, (-9223372036854775808), 9223372036854775807)) hkw (by decide) rfl (k := 288 + 4 * q) (v := (f (288 + 4 * q))) (vp_in_nI (by omega) (by decide)) hC (nI_clamp (by omega)) rfl dX11_subscribeTo_12 ?_
  refine jj_lstore C dX11_subscribeTo_13 (by decide) rfl ?_
  refine jj_iload_n C dX11_subscribeTo_15 rfl ?_
  refine jj_iconst (v := (-1)) C dX11_subscribeTo_16 (by decide) ?_
  refine jj_icmp_eqT (tgt := 31) C dX11_subscribeTo_17 (by decide) (by decide) ?_
  refine jj_ldc2 (v := 1000000) C dX11_subscribeTo_31 jw_c832cf9acb ?_
  refine jj_goto (tgt := 42) C dX11_subscribeTo_34 (by decide) ?_
  refine jj_lstore C dX11_subscribeTo_42 (by decide) rfl ?_
  refine jj_lload C dX11_subscribeTo_44 rfl ?_
  refine jj_lconst (v := 0) C dX11_subscribeTo_46 (by decide) ?_
  refine jj_lcmp_neT (tgt := 55) C dX11_subscribeTo_47 dX11_subscribeTo_48 (by decide) (by decide) ?_
  refine jj_lload C dX11_subscribeTo_55 rfl ?_
  refine jj_ldc2 (v := 100000) C dX11_subscribeTo_57 jw_759d064724 ?_
  refine jj_lmul C dX11_subscribeTo_60 rfl ?_
  refine jj_lload C dX11_subscribeTo_61 rfl ?_
  refine jj_ldiv C dX11_subscribeTo_63 (by decide) rfl ?_
  refine jj_lstore C dX11_subscribeTo_64 (by decide) rfl ?_
  refine jj_lload C dX11_subscribeTo_66 rfl ?_
  refine jj_lconst (v := 1) C dX11_subscribeTo_68 (by decide) ?_
  refine jj_ldc2 (v := 10000000) C dX11_subscribeTo_69 jw_916d704b4e ?_
  refine tt_call0S (rest := []) C (ct_X11_in_s1 hl D cA ak (((f (288 + 4 * q)) * (100000 : Int64)) / (1000000 : Int64))) jw_2a24feddee jw_12f28ccfda jw_f96c99f44d jw_e07c9ada56 jn_X11_in rfl (jj_le rfl) (jj_le rfl) (jj_le rfl) (jj_le rfl) (jj_le rfl) dX11_subscribeTo_72 rfl (fun w1 r O_1 => ?_)
  rcases O_1 with ⟨c_2, -, rfl⟩ | ⟨c_3, c_4, -, rfl⟩ | ⟨c_5, c_6, -, rfl⟩
  · have z_c_2 := jc_ltL (a := (((f (288 + 4 * q)) * (100000 : Int64)) / (1000000 : Int64)).toInt) (b := 1) c_2 rfl (by decide)
    refine jj_if_eqT (tgt := 111) C dX11_subscribeTo_75 (by decide) (by decide) ?_
    refine jj_iconst (v := (-1)) C dX11_subscribeTo_111 (by decide) ?_
    exact jj_iret C ⟨[], pl0, rfl, rfl, hok, hfr, hfa, (Or.inl ⟨hC, rfl⟩)⟩ dX11_subscribeTo_112 (jj_le rfl) (jj_le rfl)
  · have z_c_3 := jc_nltL (a := (((f (288 + 4 * q)) * (100000 : Int64)) / (1000000 : Int64)).toInt) (b := 1) c_3 rfl (by decide)
    have z_c_4 := jc_ltL (a := 10000000) (b := (((f (288 + 4 * q)) * (100000 : Int64)) / (1000000 : Int64)).toInt) c_4 (by decide) rfl
    refine jj_if_eqT (tgt := 111) C dX11_subscribeTo_75 (by decide) (by decide) ?_
    refine jj_iconst (v := (-1)) C dX11_subscribeTo_111 (by decide) ?_
    exact jj_iret C ⟨[], pl0, rfl, rfl, hok, hfr, hfa, (Or.inl ⟨hC, rfl⟩)⟩ dX11_subscribeTo_112 (jj_le rfl) (jj_le rfl)
  · have z_c_5 := jc_nltL (a := (((f (288 + 4 * q)) * (100000 : Int64)) / (1000000 : Int64)).toInt) (b := 1) c_5 rfl (by decide)
    have z_c_6 := jc_nltL (a := 10000000) (b := (((f (288 + 4 * q)) * (100000 : Int64)) / (1000000 : Int64)).toInt) c_6 (by decide) rfl
    refine jj_if_eqF (tgt := 111) C dX11_subscribeTo_75 (by decide) (by decide) ?_
    refine jj_aload_n C dX11_subscribeTo_78 rfl ?_
    refine tt_getF C hok jk_12 0 (by decide) jw_34eaf3ba8b (t := (2, 2, 0)) hk0 (by decide) rfl rfl hm.1 dX11_subscribeTo_79 ?_
    refine jj_bipush (v := 7) C dX11_subscribeTo_82 (by decide) ?_
    refine rl_lald C hok (t := (1, (-9223372036854775808), 9223372036854775807)) hkw (by decide) rfl (k := 7) (v := (f 7)) (vp_in_iff.mpr (by decide)) hC (by decide) rfl dX11_subscribeTo_84 ?_
    refine jj_ldc2 (v := 40) C dX11_subscribeTo_85 jw_13decb34e5 ?_
    refine jj_lcmp_eq (tgt := 111) C dX11_subscribeTo_88 dX11_subscribeTo_89 (by decide) (fun c_7 => ?_) (fun c_7 => ?_)
    · have z_c_7 := jc_eqL (a := (f 7).toInt) (b := 40) c_7 rfl (by decide)
      refine jj_iconst (v := (-1)) C dX11_subscribeTo_111 (by decide) ?_
      exact jj_iret C ⟨[], pl0, rfl, rfl, hok, hfr, hfa, (Or.inl ⟨hC, rfl⟩)⟩ dX11_subscribeTo_112 (jj_le rfl) (jj_le rfl)
    · have z_c_7 := jc_neqL (a := (f 7).toInt) (b := 40) c_7 rfl (by decide)
      refine jj_iload_n C dX11_subscribeTo_92 rfl ?_
      refine jj_iconst (v := (-1)) C dX11_subscribeTo_93 (by decide) ?_
      refine jj_icmp_neF (tgt := 113) C dX11_subscribeTo_94 (by decide) (by decide) ?_
      refine jj_aload_n C dX11_subscribeTo_97 rfl ?_
      refine tt_getF C hok jk_12 0 (by decide) jw_34eaf3ba8b (t := (2, 2, 0)) hk0 (by decide) rfl rfl hm.1 dX11_subscribeTo_98 ?_
      refine jj_bipush (v := 6) C dX11_subscribeTo_101 (by decide) ?_
      refine rl_lald C hok (t := (1, (-9223372036854775808), 9223372036854775807)) hkw (by decide) rfl (k := 6) (v := (f 6)) (vp_in_iff.mpr (by decide)) hC (by decide) rfl dX11_subscribeTo_103 ?_
      refine jj_ldc2 (v := 6) C dX11_subscribeTo_104 jw_f454e46fa4 ?_
      refine jj_lcmp_ne (tgt := 113) C dX11_subscribeTo_107 dX11_subscribeTo_108 (by decide) (fun c_8 => ?_) (fun c_8 => ?_)
      · have z_c_8 := jc_neqL (a := (f 6).toInt) (b := 6) c_8 rfl (by decide)
        refine jj_iload_n C dX11_subscribeTo_113 rfl ?_
        refine jj_iconst (v := (-1)) C dX11_subscribeTo_114 (by decide) ?_
        refine jj_icmp_neF (tgt := 125) C dX11_subscribeTo_115 (by decide) (by decide) ?_
        refine jj_aload_n C dX11_subscribeTo_118 rfl ?_
        obtain ⟨qc, gs, hqc⟩ := tt_recv (cx := []) hok hk0 (by decide) rfl
        refine tt_callV (rest := []) C (rs_openOne hl D cA ak B f hk0 hkw hka hkt hki hkf hkp hI (by omega) hme h9 hok hm hC) [] [] rfl rfl (by decide) (by decide) (by decide) qc hqc rfl rfl jw_4d5a4e1a1e jw_8d21c5b5dc jw_12a8e84f6e jw_f96c99f44d jw_09eccb7143 jn_X11_openOne rfl (jj_le rfl) (jj_le rfl) (jj_le rfl) (jj_le rfl) (jj_le rfl) dX11_subscribeTo_119 rfl (fun _ _ _ hX => hX.elim) (fun rx pl_9 r O_13 => ?_)
        obtain ⟨rfl, hok_10, hr_11, ha_12, hR_14⟩ := O_13
        replace hm := hm.fr hr_11 hk0 rfl
        replace hfr := hfr.trans (hr_11.sub (by decide))
        replace hfa := hfa.trans (ha_12.sub (by decide))
        obtain ⟨g_15, n_18, en_19, hC_16, hI_17, hq_20, hq_21, hq_22, hq_23, hq_24, hq_25, hq_26, hq_27, rfl⟩ := hR_14
        obtain ⟨⟨g0ag_15, g0bg_15⟩, ⟨g1ag_15, g1bg_15⟩, ⟨g6ag_15, g6bg_15⟩, ⟨g7ag_15, g7bg_15⟩, ⟨g8ag_15, g8bg_15⟩⟩ := hI_17.1.1
        refine jj_goto (tgt := 126) C dX11_subscribeTo_122 (by decide) ?_
        refine jj_istore C dX11_subscribeTo_126 (by decide) rfl ?_
        refine jj_lload C dX11_subscribeTo_128 rfl ?_
        refine jj_aload_n C dX11_subscribeTo_130 rfl ?_
        refine tt_getF C hok_10 jk_12 0 (by decide) jw_34eaf3ba8b (t := (2, 2, 0)) hk0 (by decide) rfl rfl hm.1 dX11_subscribeTo_131 ?_
        refine jj_iload C dX11_subscribeTo_134 rfl ?_
        refine jj_iconst (v := 4) C dX11_subscribeTo_136 (by decide) ?_
        refine jj_iadd (v := nI (20 + 5 * n_18)) C dX11_subscribeTo_137 (rl_addR (kn := 4) (by decide) (by omega)) ?_
        refine rl_lald C hok_10 (t := (1, (-9223372036854775808), 9223372036854775807)) hkw (by decide) rfl (k := 20 + 5 * n_18) (v := (g_15 (20 + 5 * n_18))) (vp_in_nI (by omega) (by decide)) hC_16 (nI_clamp (by omega)) rfl dX11_subscribeTo_138 ?_
        refine jj_lsub C dX11_subscribeTo_139 rfl ?_
        refine jj_lstore C dX11_subscribeTo_140 (by decide) rfl ?_
        refine jj_aload_n C dX11_subscribeTo_142 rfl ?_
        refine tt_getF C hok_10 jk_12 0 (by decide) jw_34eaf3ba8b (t := (2, 2, 0)) hk0 (by decide) rfl rfl hm.1 dX11_subscribeTo_143 ?_
        refine jj_bipush (v := 7) C dX11_subscribeTo_146 (by decide) ?_
        refine rl_lald C hok_10 (t := (1, (-9223372036854775808), 9223372036854775807)) hkw (by decide) rfl (k := 7) (v := (g_15 7)) (vp_in_iff.mpr (by decide)) hC_16 (by decide) rfl dX11_subscribeTo_148 ?_
        obtain ⟨n_28, en_28, vn_28⟩ := rl_l2i (x := (g_15 7)) (by omega) (by omega)
        refine jj_l2i (v := nI n_28) C dX11_subscribeTo_149 en_28 ?_
        refine tt_call0S (rest := []) C (rn_lotAt hl D cA ak n_28 (46 + 6 * n_28) (by omega)) jw_4c8c4b88e2 jw_0fa3e2bccb jw_f96c99f44d jw_d540d98a1c jn_X11_lotAt rfl (jj_le rfl) (jj_le rfl) (jj_le rfl) (jj_le rfl) (jj_le rfl) dX11_subscribeTo_150 rfl (fun w1 r hO => ?_)
        obtain ⟨-, rfl⟩ := hO
        refine jj_istore C dX11_subscribeTo_153 (by decide) rfl ?_
        refine jj_aload_n C dX11_subscribeTo_155 rfl ?_
        refine tt_getF C hok_10 jk_12 0 (by decide) jw_34eaf3ba8b (t := (2, 2, 0)) hk0 (by decide) rfl rfl hm.1 dX11_subscribeTo_156 ?_
        refine jj_iload C dX11_subscribeTo_159 rfl ?_
        refine jj_iconst (v := 0) C dX11_subscribeTo_161 (by decide) ?_
        refine jj_iadd (v := nI (46 + 6 * n_28)) C dX11_subscribeTo_162 (rl_addR (kn := 0) (by decide) (by omega)) ?_
        refine jj_aload_n C dX11_subscribeTo_163 rfl ?_
        refine tt_getF C hok_10 jk_12 0 (by decide) jw_34eaf3ba8b (t := (2, 2, 0)) hk0 (by decide) rfl rfl hm.1 dX11_subscribeTo_164 ?_
        refine jj_iload_n C dX11_subscribeTo_167 rfl ?_
        refine jj_iconst (v := 0) C dX11_subscribeTo_168 (by decide) ?_
        refine jj_iadd (v := nI (286 + 4 * q)) C dX11_subscribeTo_169 (rl_addR (kn := 0) (by decide) (by omega)) ?_
        refine rl_lald C hok_10 (t := (1, (-9223372036854775808), 9223372036854775807)) hkw (by decide) rfl (k := 286 + 4 * q) (v := (g_15 (286 + 4 * q))) (vp_in_nI (by omega) (by decide)) hC_16 (nI_clamp (by omega)) rfl dX11_subscribeTo_170 ?_
        refine rl_last C hok_10 (t := (1, (-9223372036854775808), 9223372036854775807)) hkw (by decide) rfl (k := 46 + 6 * n_28) (vp_in_nI (by omega) (by decide)) (tt_ja _) (nI_clamp (by omega)) dX11_subscribeTo_171 (fun pl_29 hok_30 tr tl tw => ?_)
        replace hm := hm.arr tr
        replace hfr := hfr.arr tr
        replace hC_16 := tw _ hC_16
        replace hfa := hfa.wr hkw tl (by decide)
        refine jj_aload_n C dX11_subscribeTo_172 rfl ?_
        refine tt_getF C hok_30 jk_12 0 (by decide) jw_34eaf3ba8b (t := (2, 2, 0)) hk0 (by decide) rfl rfl hm.1 dX11_subscribeTo_173 ?_
        refine jj_iload C dX11_subscribeTo_176 rfl ?_
        refine jj_iconst (v := 1) C dX11_subscribeTo_178 (by decide) ?_
        refine jj_iadd (v := nI (47 + 6 * n_28)) C dX11_subscribeTo_179 (rl_addR (kn := 1) (by decide) (by omega)) ?_
        refine jj_aload_n C dX11_subscribeTo_180 rfl ?_
        refine tt_getF C hok_30 jk_12 0 (by decide) jw_34eaf3ba8b (t := (2, 2, 0)) hk0 (by decide) rfl rfl hm.1 dX11_subscribeTo_181 ?_
        refine jj_iload C dX11_subscribeTo_184 rfl ?_
        refine jj_iconst (v := 0) C dX11_subscribeTo_186 (by decide) ?_
        refine jj_iadd (v := nI (16 + 5 * n_18)) C dX11_subscribeTo_187 (rl_addR (kn := 0) (by decide) (by omega)) ?_
        refine rl_lald C hok_30 (t := (1, (-9223372036854775808), 9223372036854775807)) hkw (by decide) rfl (k := 16 + 5 * n_18) (v := (g_15 (16 + 5 * n_18))) (vp_in_nI (by omega) (by decide)) hC_16 (nI_clamp (by omega)) (rl_ne (by omega) rfl) dX11_subscribeTo_188 ?_
        refine rl_last C hok_30 (t := (1, (-9223372036854775808), 9223372036854775807)) hkw (by decide) rfl (k := 47 + 6 * n_28) (vp_in_nI (by omega) (by decide)) (tt_ja _) (nI_clamp (by omega)) dX11_subscribeTo_189 (fun pl_31 hok_32 tr tl tw => ?_)
        replace hm := hm.arr tr
        replace hfr := hfr.arr tr
        replace hC_16 := tw _ hC_16
        replace hfa := hfa.wr hkw tl (by decide)
        refine jj_aload_n C dX11_subscribeTo_190 rfl ?_
        refine tt_getF C hok_32 jk_12 0 (by decide) jw_34eaf3ba8b (t := (2, 2, 0)) hk0 (by decide) rfl rfl hm.1 dX11_subscribeTo_191 ?_
        refine jj_iload C dX11_subscribeTo_194 rfl ?_
        refine jj_iconst (v := 2) C dX11_subscribeTo_196 (by decide) ?_
        refine jj_iadd (v := nI (48 + 6 * n_28)) C dX11_subscribeTo_197 (rl_addR (kn := 2) (by decide) (by omega)) ?_
        refine jj_lload C dX11_subscribeTo_198 rfl ?_
        refine rl_last C hok_32 (t := (1, (-9223372036854775808), 9223372036854775807)) hkw (by decide) rfl (k := 48 + 6 * n_28) (vp_in_nI (by omega) (by decide)) (tt_ja _) (nI_clamp (by omega)) dX11_subscribeTo_200 (fun pl_33 hok_34 tr tl tw => ?_)
        replace hm := hm.arr tr
        replace hfr := hfr.arr tr
        replace hC_16 := tw _ hC_16
        replace hfa := hfa.wr hkw tl (by decide)
        refine jj_aload_n C dX11_subscribeTo_201 rfl ?_
        refine tt_getF C hok_34 jk_12 0 (by decide) jw_34eaf3ba8b (t := (2, 2, 0)) hk0 (by decide) rfl rfl hm.1 dX11_subscribeTo_202 ?_
        refine jj_iload C dX11_subscribeTo_205 rfl ?_
        refine jj_iconst (v := 3) C dX11_subscribeTo_207 (by decide) ?_
        refine jj_iadd (v := nI (49 + 6 * n_28)) C dX11_subscribeTo_208 (rl_addR (kn := 3) (by decide) (by omega)) ?_
        refine jj_lload C dX11_subscribeTo_209 rfl ?_
        refine rl_last C hok_34 (t := (1, (-9223372036854775808), 9223372036854775807)) hkw (by decide) rfl (k := 49 + 6 * n_28) (vp_in_nI (by omega) (by decide)) (tt_ja _) (nI_clamp (by omega)) dX11_subscribeTo_211 (fun pl_35 hok_36 tr tl tw => ?_)
        replace hm := hm.arr tr
        replace hfr := hfr.arr tr
        replace hC_16 := tw _ hC_16
        replace hfa := hfa.wr hkw tl (by decide)
        refine jj_aload_n C dX11_subscribeTo_212 rfl ?_
        refine tt_getF C hok_36 jk_12 0 (by decide) jw_34eaf3ba8b (t := (2, 2, 0)) hk0 (by decide) rfl rfl hm.1 dX11_subscribeTo_213 ?_
        refine jj_iload C dX11_subscribeTo_216 rfl ?_
        refine jj_iconst (v := 4) C dX11_subscribeTo_218 (by decide) ?_
        refine jj_iadd (v := nI (50 + 6 * n_28)) C dX11_subscribeTo_219 (rl_addR (kn := 4) (by decide) (by omega)) ?_
        refine jj_aload_n C dX11_subscribeTo_220 rfl ?_
        refine tt_getF C hok_36 jk_12 0 (by decide) jw_34eaf3ba8b (t := (2, 2, 0)) hk0 (by decide) rfl rfl hm.1 dX11_subscribeTo_221 ?_
        refine jj_iconst (v := 1) C dX11_subscribeTo_224 (by decide) ?_
        refine rl_lald C hok_36 (t := (1, (-9223372036854775808), 9223372036854775807)) hkw (by decide) rfl (k := 1) (v := (g_15 1)) (vp_in_iff.mpr (by decide)) hC_16 (by decide) (rl_ne (by omega) (rl_ne (by omega) (rl_ne (by omega) (rl_ne (by omega) rfl)))) dX11_subscribeTo_225 ?_
        refine jj_lconst (v := 1) C dX11_subscribeTo_226 (by decide) ?_
        refine jj_lcmp_ne (tgt := 261) C dX11_subscribeTo_227 dX11_subscribeTo_228 (by decide) (fun c_37 => ?_) (fun c_37 => ?_)
        · have z_c_37 := jc_neqL (a := (g_15 1).toInt) (b := 1) c_37 rfl (by decide)
          refine jj_lconst (v := 0) C dX11_subscribeTo_261 (by decide) ?_
          refine rl_last C hok_36 (t := (1, (-9223372036854775808), 9223372036854775807)) hkw (by decide) rfl (k := 50 + 6 * n_28) (vp_in_nI (by omega) (by decide)) (tt_ja _) (nI_clamp (by omega)) dX11_subscribeTo_262 (fun pl_38 hok_39 tr tl tw => ?_)
          replace hm := hm.arr tr
          replace hfr := hfr.arr tr
          replace hC_16 := tw _ hC_16
          replace hfa := hfa.wr hkw tl (by decide)
          refine jj_aload_n C dX11_subscribeTo_263 rfl ?_
          refine tt_getF C hok_39 jk_12 0 (by decide) jw_34eaf3ba8b (t := (2, 2, 0)) hk0 (by decide) rfl rfl hm.1 dX11_subscribeTo_264 ?_
          refine jj_iload C dX11_subscribeTo_267 rfl ?_
          refine jj_iconst (v := 5) C dX11_subscribeTo_269 (by decide) ?_
          refine jj_iadd (v := nI (51 + 6 * n_28)) C dX11_subscribeTo_270 (rl_addR (kn := 5) (by decide) (by omega)) ?_
          refine jj_aload_n C dX11_subscribeTo_271 rfl ?_
          refine tt_getF C hok_39 jk_12 0 (by decide) jw_34eaf3ba8b (t := (2, 2, 0)) hk0 (by decide) rfl rfl hm.1 dX11_subscribeTo_272 ?_
          refine jj_iconst (v := 5) C dX11_subscribeTo_275 (by decide) ?_
          refine rl_lald C hok_39 (t := (1, (-9223372036854775808), 9223372036854775807)) hkw (by decide) rfl (k := 5) (v := (g_15 5)) (vp_in_iff.mpr (by decide)) hC_16 (by decide) (rl_ne (by omega) (rl_ne (by omega) (rl_ne (by omega) (rl_ne (by omega) (rl_ne (by omega) rfl))))) dX11_subscribeTo_276 ?_
          refine rl_last C hok_39 (t := (1, (-9223372036854775808), 9223372036854775807)) hkw (by decide) rfl (k := 51 + 6 * n_28) (vp_in_nI (by omega) (by decide)) (tt_ja _) (nI_clamp (by omega)) dX11_subscribeTo_277 (fun pl_40 hok_41 tr tl tw => ?_)
          replace hm := hm.arr tr
          replace hfr := hfr.arr tr
          replace hC_16 := tw _ hC_16
          replace hfa := hfa.wr hkw tl (by decide)
          refine jj_aload_n C dX11_subscribeTo_278 rfl ?_
          refine tt_getF C hok_41 jk_12 0 (by decide) jw_34eaf3ba8b (t := (2, 2, 0)) hk0 (by decide) rfl rfl hm.1 dX11_subscribeTo_279 ?_
          refine jj_bipush (v := 7) C dX11_subscribeTo_282 (by decide) ?_
          refine jj_dup2 C dX11_subscribeTo_284 rfl rfl ?_
          refine rl_lald C hok_41 (t := (1, (-9223372036854775808), 9223372036854775807)) hkw (by decide) rfl (k := 7) (v := (g_15 7)) (vp_in_iff.mpr (by decide)) hC_16 (by decide) (rl_ne (by omega) (rl_ne (by omega) (rl_ne (by omega) (rl_ne (by omega) (rl_ne (by omega) (rl_ne (by omega) rfl)))))) dX11_subscribeTo_285 ?_
          refine jj_lconst (v := 1) C dX11_subscribeTo_286 (by decide) ?_
          refine jj_ladd C dX11_subscribeTo_287 rfl ?_
          refine rl_last C hok_41 (t := (1, (-9223372036854775808), 9223372036854775807)) hkw (by decide) rfl (k := 7) (vp_in_iff.mpr (by decide)) (tt_ja _) (by decide) dX11_subscribeTo_288 (fun pl_42 hok_43 tr tl tw => ?_)
          replace hm := hm.arr tr
          replace hfr := hfr.arr tr
          replace hC_16 := tw _ hC_16
          replace hfa := hfa.wr hkw tl (by decide)
          refine jj_aload_n C dX11_subscribeTo_289 rfl ?_
          refine tt_getF C hok_43 jk_12 0 (by decide) jw_34eaf3ba8b (t := (2, 2, 0)) hk0 (by decide) rfl rfl hm.1 dX11_subscribeTo_290 ?_
          refine jj_iload C dX11_subscribeTo_293 rfl ?_
          refine jj_iconst (v := 2) C dX11_subscribeTo_295 (by decide) ?_
          refine jj_iadd (v := nI (18 + 5 * n_18)) C dX11_subscribeTo_296 (rl_addR (kn := 2) (by decide) (by omega)) ?_
          refine jj_dup2 C dX11_subscribeTo_297 rfl rfl ?_
          refine rl_lald C hok_43 (t := (1, (-9223372036854775808), 9223372036854775807)) hkw (by decide) rfl (k := 18 + 5 * n_18) (v := (g_15 (18 + 5 * n_18))) (vp_in_nI (by omega) (by decide)) hC_16 (nI_clamp (by omega)) (rl_ne (by omega) (rl_ne (by omega) (rl_ne (by omega) (rl_ne (by omega) (rl_ne (by omega) (rl_ne (by omega) (rl_ne (by omega) rfl))))))) dX11_subscribeTo_298 ?_
          refine jj_lload C dX11_subscribeTo_299 rfl ?_
          refine jj_ladd C dX11_subscribeTo_301 rfl ?_
          refine rl_last C hok_43 (t := (1, (-9223372036854775808), 9223372036854775807)) hkw (by decide) rfl (k := 18 + 5 * n_18) (vp_in_nI (by omega) (by decide)) (tt_ja _) (nI_clamp (by omega)) dX11_subscribeTo_302 (fun pl_44 hok_45 tr tl tw => ?_)
          replace hm := hm.arr tr
          replace hfr := hfr.arr tr
          replace hC_16 := tw _ hC_16
          replace hfa := hfa.wr hkw tl (by decide)
          refine jj_aload_n C dX11_subscribeTo_303 rfl ?_
          refine tt_getF C hok_45 jk_12 0 (by decide) jw_34eaf3ba8b (t := (2, 2, 0)) hk0 (by decide) rfl rfl hm.1 dX11_subscribeTo_304 ?_
          refine jj_iload C dX11_subscribeTo_307 rfl ?_
          refine jj_iconst (v := 3) C dX11_subscribeTo_309 (by decide) ?_
          refine jj_iadd (v := nI (19 + 5 * n_18)) C dX11_subscribeTo_310 (rl_addR (kn := 3) (by decide) (by omega)) ?_
          refine jj_dup2 C dX11_subscribeTo_311 rfl rfl ?_
          refine rl_lald C hok_45 (t := (1, (-9223372036854775808), 9223372036854775807)) hkw (by decide) rfl (k := 19 + 5 * n_18) (v := (g_15 (19 + 5 * n_18))) (vp_in_nI (by omega) (by decide)) hC_16 (nI_clamp (by omega)) (rl_ne (by omega) (rl_ne (by omega) (rl_ne (by omega) (rl_ne (by omega) (rl_ne (by omega) (rl_ne (by omega) (rl_ne (by omega) (rl_ne (by omega) rfl)))))))) dX11_subscribeTo_312 ?_
          refine jj_lload C dX11_subscribeTo_313 rfl ?_
          refine jj_ladd C dX11_subscribeTo_315 rfl ?_
          refine rl_last C hok_45 (t := (1, (-9223372036854775808), 9223372036854775807)) hkw (by decide) rfl (k := 19 + 5 * n_18) (vp_in_nI (by omega) (by decide)) (tt_ja _) (nI_clamp (by omega)) dX11_subscribeTo_316 (fun pl_46 hok_47 tr tl tw => ?_)
          replace hm := hm.arr tr
          replace hfr := hfr.arr tr
          replace hC_16 := tw _ hC_16
          replace hfa := hfa.wr hkw tl (by decide)
          refine jj_aload_n C dX11_subscribeTo_317 rfl ?_
          refine tt_getF C hok_47 jk_12 0 (by decide) jw_34eaf3ba8b (t := (2, 2, 0)) hk0 (by decide) rfl rfl hm.1 dX11_subscribeTo_318 ?_
          refine jj_bipush (v := 12) C dX11_subscribeTo_321 (by decide) ?_
          refine jj_dup2 C dX11_subscribeTo_323 rfl rfl ?_
          refine rl_lald C hok_47 (t := (1, (-9223372036854775808), 9223372036854775807)) hkw (by decide) rfl (k := 12) (v := (g_15 12)) (vp_in_iff.mpr (by decide)) hC_16 (by decide) (rl_ne (by omega) (rl_ne (by omega) (rl_ne (by omega) (rl_ne (by omega) (rl_ne (by omega) (rl_ne (by omega) (rl_ne (by omega) (rl_ne (by omega) (rl_ne (by omega) rfl))))))))) dX11_subscribeTo_324 ?_
          refine jj_lload C dX11_subscribeTo_325 rfl ?_
          refine jj_ladd C dX11_subscribeTo_327 rfl ?_
          refine rl_last C hok_47 (t := (1, (-9223372036854775808), 9223372036854775807)) hkw (by decide) rfl (k := 12) (vp_in_iff.mpr (by decide)) (tt_ja _) (by decide) dX11_subscribeTo_328 (fun pl_48 hok_49 tr tl tw => ?_)
          replace hm := hm.arr tr
          replace hfr := hfr.arr tr
          replace hC_16 := tw _ hC_16
          replace hfa := hfa.wr hkw tl (by decide)
          refine jj_iload C dX11_subscribeTo_329 rfl ?_
          exact jj_iret C ⟨[], pl_48, rfl, rfl, hok_49, hfr, hfa, (Or.inr (by have e7 := congrArg Int64.toInt (hq_21 7 (by decide) (by decide) (by omega)); have q9 := rl_subO hP hB (n := n_18) en_19 (by omega) hI_17 hq_20 hq_21 hq_22 hq_23 hq_24 hq_25 hq_26 hq_27 (by omega) (by omega) ham (by omega) (by omega) (Or.inl rfl) hB1 (g := (vp_updL (vp_updL (vp_updL (vp_updL (vp_updL (vp_updL (vp_updL (vp_updL (vp_updL (vp_updL g_15 (46 + 6 * n_28) (g_15 (286 + 4 * q))) (47 + 6 * n_28) (g_15 (16 + 5 * n_18))) (48 + 6 * n_28) (((f (288 + 4 * q)) * (100000 : Int64)) / (1000000 : Int64))) (49 + 6 * n_28) (1000000 : Int64)) (50 + 6 * n_28) (0 : Int64)) (51 + 6 * n_28) (g_15 5)) 7 ((g_15 7) + (1 : Int64))) (18 + 5 * n_18) ((g_15 (18 + 5 * n_18)) + (f (288 + 4 * q)))) (19 + 5 * n_18) ((g_15 (19 + 5 * n_18)) + (((f (288 + 4 * q)) * (100000 : Int64)) / (1000000 : Int64)))) 12 ((g_15 12) + (f (288 + 4 * q))))) rfl; exact ⟨_, n_18, en_19, (by omega), hC_16, q9.1, q9.2.1, q9.2.2.1, q9.2.2.2.1, q9.2.2.2.2.1, q9.2.2.2.2.2.1, q9.2.2.2.2.2.2.1, q9.2.2.2.2.2.2.2, rfl⟩))⟩ dX11_subscribeTo_331 (jj_le rfl) (jj_le rfl)
        · have z_c_37 := jc_eqL (a := (g_15 1).toInt) (b := 1) c_37 rfl (by decide)
          refine jj_lload C dX11_subscribeTo_231 rfl ?_
          refine jj_lconst (v := 0) C dX11_subscribeTo_233 (by decide) ?_
          refine jj_lcmp_le (tgt := 261) C dX11_subscribeTo_234 dX11_subscribeTo_235 (by decide) (fun c_50 => ?_) (fun c_50 => ?_)
          · have z_c_50 := jc_leL (a := ((1000000 : Int64) - (g_15 (20 + 5 * n_18))).toInt) (b := 0) c_50 rfl (by decide)
            refine jj_lconst (v := 0) C dX11_subscribeTo_261 (by decide) ?_
            refine rl_last C hok_36 (t := (1, (-9223372036854775808), 9223372036854775807)) hkw (by decide) rfl (k := 50 + 6 * n_28) (vp_in_nI (by omega) (by decide)) (tt_ja _) (nI_clamp (by omega)) dX11_subscribeTo_262 (fun pl_51 hok_52 tr tl tw => ?_)
            replace hm := hm.arr tr
            replace hfr := hfr.arr tr
            replace hC_16 := tw _ hC_16
            replace hfa := hfa.wr hkw tl (by decide)
            refine jj_aload_n C dX11_subscribeTo_263 rfl ?_
            refine tt_getF C hok_52 jk_12 0 (by decide) jw_34eaf3ba8b (t := (2, 2, 0)) hk0 (by decide) rfl rfl hm.1 dX11_subscribeTo_264 ?_
            refine jj_iload C dX11_subscribeTo_267 rfl ?_
            refine jj_iconst (v := 5) C dX11_subscribeTo_269 (by decide) ?_
            refine jj_iadd (v := nI (51 + 6 * n_28)) C dX11_subscribeTo_270 (rl_addR (kn := 5) (by decide) (by omega)) ?_
            refine jj_aload_n C dX11_subscribeTo_271 rfl ?_
            refine tt_getF C hok_52 jk_12 0 (by decide) jw_34eaf3ba8b (t := (2, 2, 0)) hk0 (by decide) rfl rfl hm.1 dX11_subscribeTo_272 ?_
            refine jj_iconst (v := 5) C dX11_subscribeTo_275 (by decide) ?_
            refine rl_lald C hok_52 (t := (1, (-9223372036854775808), 9223372036854775807)) hkw (by decide) rfl (k := 5) (v := (g_15 5)) (vp_in_iff.mpr (by decide)) hC_16 (by decide) (rl_ne (by omega) (rl_ne (by omega) (rl_ne (by omega) (rl_ne (by omega) (rl_ne (by omega) rfl))))) dX11_subscribeTo_276 ?_
            refine rl_last C hok_52 (t := (1, (-9223372036854775808), 9223372036854775807)) hkw (by decide) rfl (k := 51 + 6 * n_28) (vp_in_nI (by omega) (by decide)) (tt_ja _) (nI_clamp (by omega)) dX11_subscribeTo_277 (fun pl_53 hok_54 tr tl tw => ?_)
            replace hm := hm.arr tr
            replace hfr := hfr.arr tr
            replace hC_16 := tw _ hC_16
            replace hfa := hfa.wr hkw tl (by decide)
            refine jj_aload_n C dX11_subscribeTo_278 rfl ?_
            refine tt_getF C hok_54 jk_12 0 (by decide) jw_34eaf3ba8b (t := (2, 2, 0)) hk0 (by decide) rfl rfl hm.1 dX11_subscribeTo_279 ?_
            refine jj_bipush (v := 7) C dX11_subscribeTo_282 (by decide) ?_
            refine jj_dup2 C dX11_subscribeTo_284 rfl rfl ?_
            refine rl_lald C hok_54 (t := (1, (-9223372036854775808), 9223372036854775807)) hkw (by decide) rfl (k := 7) (v := (g_15 7)) (vp_in_iff.mpr (by decide)) hC_16 (by decide) (rl_ne (by omega) (rl_ne (by omega) (rl_ne (by omega) (rl_ne (by omega) (rl_ne (by omega) (rl_ne (by omega) rfl)))))) dX11_subscribeTo_285 ?_
            refine jj_lconst (v := 1) C dX11_subscribeTo_286 (by decide) ?_
            refine jj_ladd C dX11_subscribeTo_287 rfl ?_
            refine rl_last C hok_54 (t := (1, (-9223372036854775808), 9223372036854775807)) hkw (by decide) rfl (k := 7) (vp_in_iff.mpr (by decide)) (tt_ja _) (by decide) dX11_subscribeTo_288 (fun pl_55 hok_56 tr tl tw => ?_)
            replace hm := hm.arr tr
            replace hfr := hfr.arr tr
            replace hC_16 := tw _ hC_16
            replace hfa := hfa.wr hkw tl (by decide)
            refine jj_aload_n C dX11_subscribeTo_289 rfl ?_
            refine tt_getF C hok_56 jk_12 0 (by decide) jw_34eaf3ba8b (t := (2, 2, 0)) hk0 (by decide) rfl rfl hm.1 dX11_subscribeTo_290 ?_
            refine jj_iload C dX11_subscribeTo_293 rfl ?_
            refine jj_iconst (v := 2) C dX11_subscribeTo_295 (by decide) ?_
            refine jj_iadd (v := nI (18 + 5 * n_18)) C dX11_subscribeTo_296 (rl_addR (kn := 2) (by decide) (by omega)) ?_
            refine jj_dup2 C dX11_subscribeTo_297 rfl rfl ?_
            refine rl_lald C hok_56 (t := (1, (-9223372036854775808), 9223372036854775807)) hkw (by decide) rfl (k := 18 + 5 * n_18) (v := (g_15 (18 + 5 * n_18))) (vp_in_nI (by omega) (by decide)) hC_16 (nI_clamp (by omega)) (rl_ne (by omega) (rl_ne (by omega) (rl_ne (by omega) (rl_ne (by omega) (rl_ne (by omega) (rl_ne (by omega) (rl_ne (by omega) rfl))))))) dX11_subscribeTo_298 ?_
            refine jj_lload C dX11_subscribeTo_299 rfl ?_
            refine jj_ladd C dX11_subscribeTo_301 rfl ?_
            refine rl_last C hok_56 (t := (1, (-9223372036854775808), 9223372036854775807)) hkw (by decide) rfl (k := 18 + 5 * n_18) (vp_in_nI (by omega) (by decide)) (tt_ja _) (nI_clamp (by omega)) dX11_subscribeTo_302 (fun pl_57 hok_58 tr tl tw => ?_)
            replace hm := hm.arr tr
            replace hfr := hfr.arr tr
            replace hC_16 := tw _ hC_16
            replace hfa := hfa.wr hkw tl (by decide)
            refine jj_aload_n C dX11_subscribeTo_303 rfl ?_
            refine tt_getF C hok_58 jk_12 0 (by decide) jw_34eaf3ba8b (t := (2, 2, 0)) hk0 (by decide) rfl rfl hm.1 dX11_subscribeTo_304 ?_
            refine jj_iload C dX11_subscribeTo_307 rfl ?_
            refine jj_iconst (v := 3) C dX11_subscribeTo_309 (by decide) ?_
            refine jj_iadd (v := nI (19 + 5 * n_18)) C dX11_subscribeTo_310 (rl_addR (kn := 3) (by decide) (by omega)) ?_
            refine jj_dup2 C dX11_subscribeTo_311 rfl rfl ?_
            refine rl_lald C hok_58 (t := (1, (-9223372036854775808), 9223372036854775807)) hkw (by decide) rfl (k := 19 + 5 * n_18) (v := (g_15 (19 + 5 * n_18))) (vp_in_nI (by omega) (by decide)) hC_16 (nI_clamp (by omega)) (rl_ne (by omega) (rl_ne (by omega) (rl_ne (by omega) (rl_ne (by omega) (rl_ne (by omega) (rl_ne (by omega) (rl_ne (by omega) (rl_ne (by omega) rfl)))))))) dX11_subscribeTo_312 ?_
            refine jj_lload C dX11_subscribeTo_313 rfl ?_
            refine jj_ladd C dX11_subscribeTo_315 rfl ?_
            refine rl_last C hok_58 (t := (1, (-9223372036854775808), 9223372036854775807)) hkw (by decide) rfl (k := 19 + 5 * n_18) (vp_in_nI (by omega) (by decide)) (tt_ja _) (nI_clamp (by omega)) dX11_subscribeTo_316 (fun pl_59 hok_60 tr tl tw => ?_)
            replace hm := hm.arr tr
            replace hfr := hfr.arr tr
            replace hC_16 := tw _ hC_16
            replace hfa := hfa.wr hkw tl (by decide)
            refine jj_aload_n C dX11_subscribeTo_317 rfl ?_
            refine tt_getF C hok_60 jk_12 0 (by decide) jw_34eaf3ba8b (t := (2, 2, 0)) hk0 (by decide) rfl rfl hm.1 dX11_subscribeTo_318 ?_
            refine jj_bipush (v := 12) C dX11_subscribeTo_321 (by decide) ?_
            refine jj_dup2 C dX11_subscribeTo_323 rfl rfl ?_
            refine rl_lald C hok_60 (t := (1, (-9223372036854775808), 9223372036854775807)) hkw (by decide) rfl (k := 12) (v := (g_15 12)) (vp_in_iff.mpr (by decide)) hC_16 (by decide) (rl_ne (by omega) (rl_ne (by omega) (rl_ne (by omega) (rl_ne (by omega) (rl_ne (by omega) (rl_ne (by omega) (rl_ne (by omega) (rl_ne (by omega) (rl_ne (by omega) rfl))))))))) dX11_subscribeTo_324 ?_
            refine jj_lload C dX11_subscribeTo_325 rfl ?_
            refine jj_ladd C dX11_subscribeTo_327 rfl ?_
            refine rl_last C hok_60 (t := (1, (-9223372036854775808), 9223372036854775807)) hkw (by decide) rfl (k := 12) (vp_in_iff.mpr (by decide)) (tt_ja _) (by decide) dX11_subscribeTo_328 (fun pl_61 hok_62 tr tl tw => ?_)
            replace hm := hm.arr tr
            replace hfr := hfr.arr tr
            replace hC_16 := tw _ hC_16
            replace hfa := hfa.wr hkw tl (by decide)
            refine jj_iload C dX11_subscribeTo_329 rfl ?_
            exact jj_iret C ⟨[], pl_61, rfl, rfl, hok_62, hfr, hfa, (Or.inr (by have e7 := congrArg Int64.toInt (hq_21 7 (by decide) (by decide) (by omega)); have q9 := rl_subO hP hB (n := n_18) en_19 (by omega) hI_17 hq_20 hq_21 hq_22 hq_23 hq_24 hq_25 hq_26 hq_27 (by omega) (by omega) ham (by omega) (by omega) (Or.inl rfl) hB1 (g := (vp_updL (vp_updL (vp_updL (vp_updL (vp_updL (vp_updL (vp_updL (vp_updL (vp_updL (vp_updL g_15 (46 + 6 * n_28) (g_15 (286 + 4 * q))) (47 + 6 * n_28) (g_15 (16 + 5 * n_18))) (48 + 6 * n_28) (((f (288 + 4 * q)) * (100000 : Int64)) / (1000000 : Int64))) (49 + 6 * n_28) (1000000 : Int64)) (50 + 6 * n_28) (0 : Int64)) (51 + 6 * n_28) (g_15 5)) 7 ((g_15 7) + (1 : Int64))) (18 + 5 * n_18) ((g_15 (18 + 5 * n_18)) + (f (288 + 4 * q)))) (19 + 5 * n_18) ((g_15 (19 + 5 * n_18)) + (((f (288 + 4 * q)) * (100000 : Int64)) / (1000000 : Int64)))) 12 ((g_15 12) + (f (288 + 4 * q))))) rfl; exact ⟨_, n_18, en_19, (by omega), hC_16, q9.1, q9.2.1, q9.2.2.1, q9.2.2.2.1, q9.2.2.2.2.1, q9.2.2.2.2.2.1, q9.2.2.2.2.2.2.1, q9.2.2.2.2.2.2.2, rfl⟩))⟩ dX11_subscribeTo_331 (jj_le rfl) (jj_le rfl)
          · have z_c_50 := jc_nleL (a := ((1000000 : Int64) - (g_15 (20 + 5 * n_18))).toInt) (b := 0) c_50 rfl (by decide)
            refine jj_lload C dX11_subscribeTo_238 rfl ?_
            refine jj_lload C dX11_subscribeTo_240 rfl ?_
            refine jj_lmul C dX11_subscribeTo_242 rfl ?_
            refine jj_aload_n C dX11_subscribeTo_243 rfl ?_
            refine tt_getF C hok_36 jk_12 0 (by decide) jw_34eaf3ba8b (t := (2, 2, 0)) hk0 (by decide) rfl rfl hm.1 dX11_subscribeTo_244 ?_
            refine jj_iconst (v := 3) C dX11_subscribeTo_247 (by decide) ?_
            refine rl_lald C hok_36 (t := (1, (-9223372036854775808), 9223372036854775807)) hkw (by decide) rfl (k := 3) (v := (g_15 3)) (vp_in_iff.mpr (by decide)) hC_16 (by decide) (rl_ne (by omega) (rl_ne (by omega) (rl_ne (by omega) (rl_ne (by omega) rfl)))) dX11_subscribeTo_248 ?_
            refine jj_lmul C dX11_subscribeTo_249 rfl ?_
            refine jj_ldc2 (v := 100) C dX11_subscribeTo_250 jw_0cface3231 ?_
            refine jj_ldiv C dX11_subscribeTo_253 (by decide) rfl ?_
            refine jj_ldc2 (v := 100000) C dX11_subscribeTo_254 jw_759d064724 ?_
            refine jj_ldiv C dX11_subscribeTo_257 (by decide) rfl ?_
            refine jj_goto (tgt := 262) C dX11_subscribeTo_258 (by decide) ?_
            refine rl_last C hok_36 (t := (1, (-9223372036854775808), 9223372036854775807)) hkw (by decide) rfl (k := 50 + 6 * n_28) (vp_in_nI (by omega) (by decide)) (tt_ja _) (nI_clamp (by omega)) dX11_subscribeTo_262 (fun pl_63 hok_64 tr tl tw => ?_)
            replace hm := hm.arr tr
            replace hfr := hfr.arr tr
            replace hC_16 := tw _ hC_16
            replace hfa := hfa.wr hkw tl (by decide)
            refine jj_aload_n C dX11_subscribeTo_263 rfl ?_
            refine tt_getF C hok_64 jk_12 0 (by decide) jw_34eaf3ba8b (t := (2, 2, 0)) hk0 (by decide) rfl rfl hm.1 dX11_subscribeTo_264 ?_
            refine jj_iload C dX11_subscribeTo_267 rfl ?_
            refine jj_iconst (v := 5) C dX11_subscribeTo_269 (by decide) ?_
            refine jj_iadd (v := nI (51 + 6 * n_28)) C dX11_subscribeTo_270 (rl_addR (kn := 5) (by decide) (by omega)) ?_
            refine jj_aload_n C dX11_subscribeTo_271 rfl ?_
            refine tt_getF C hok_64 jk_12 0 (by decide) jw_34eaf3ba8b (t := (2, 2, 0)) hk0 (by decide) rfl rfl hm.1 dX11_subscribeTo_272 ?_
            refine jj_iconst (v := 5) C dX11_subscribeTo_275 (by decide) ?_
            refine rl_lald C hok_64 (t := (1, (-9223372036854775808), 9223372036854775807)) hkw (by decide) rfl (k := 5) (v := (g_15 5)) (vp_in_iff.mpr (by decide)) hC_16 (by decide) (rl_ne (by omega) (rl_ne (by omega) (rl_ne (by omega) (rl_ne (by omega) (rl_ne (by omega) rfl))))) dX11_subscribeTo_276 ?_
            refine rl_last C hok_64 (t := (1, (-9223372036854775808), 9223372036854775807)) hkw (by decide) rfl (k := 51 + 6 * n_28) (vp_in_nI (by omega) (by decide)) (tt_ja _) (nI_clamp (by omega)) dX11_subscribeTo_277 (fun pl_65 hok_66 tr tl tw => ?_)
            replace hm := hm.arr tr
            replace hfr := hfr.arr tr
            replace hC_16 := tw _ hC_16
            replace hfa := hfa.wr hkw tl (by decide)
            refine jj_aload_n C dX11_subscribeTo_278 rfl ?_
            refine tt_getF C hok_66 jk_12 0 (by decide) jw_34eaf3ba8b (t := (2, 2, 0)) hk0 (by decide) rfl rfl hm.1 dX11_subscribeTo_279 ?_
            refine jj_bipush (v := 7) C dX11_subscribeTo_282 (by decide) ?_
            refine jj_dup2 C dX11_subscribeTo_284 rfl rfl ?_
            refine rl_lald C hok_66 (t := (1, (-9223372036854775808), 9223372036854775807)) hkw (by decide) rfl (k := 7) (v := (g_15 7)) (vp_in_iff.mpr (by decide)) hC_16 (by decide) (rl_ne (by omega) (rl_ne (by omega) (rl_ne (by omega) (rl_ne (by omega) (rl_ne (by omega) (rl_ne (by omega) rfl)))))) dX11_subscribeTo_285 ?_
            refine jj_lconst (v := 1) C dX11_subscribeTo_286 (by decide) ?_
            refine jj_ladd C dX11_subscribeTo_287 rfl ?_
            refine rl_last C hok_66 (t := (1, (-9223372036854775808), 9223372036854775807)) hkw (by decide) rfl (k := 7) (vp_in_iff.mpr (by decide)) (tt_ja _) (by decide) dX11_subscribeTo_288 (fun pl_67 hok_68 tr tl tw => ?_)
            replace hm := hm.arr tr
            replace hfr := hfr.arr tr
            replace hC_16 := tw _ hC_16
            replace hfa := hfa.wr hkw tl (by decide)
            refine jj_aload_n C dX11_subscribeTo_289 rfl ?_
            refine tt_getF C hok_68 jk_12 0 (by decide) jw_34eaf3ba8b (t := (2, 2, 0)) hk0 (by decide) rfl rfl hm.1 dX11_subscribeTo_290 ?_
            refine jj_iload C dX11_subscribeTo_293 rfl ?_
            refine jj_iconst (v := 2) C dX11_subscribeTo_295 (by decide) ?_
            refine jj_iadd (v := nI (18 + 5 * n_18)) C dX11_subscribeTo_296 (rl_addR (kn := 2) (by decide) (by omega)) ?_
            refine jj_dup2 C dX11_subscribeTo_297 rfl rfl ?_
            refine rl_lald C hok_68 (t := (1, (-9223372036854775808), 9223372036854775807)) hkw (by decide) rfl (k := 18 + 5 * n_18) (v := (g_15 (18 + 5 * n_18))) (vp_in_nI (by omega) (by decide)) hC_16 (nI_clamp (by omega)) (rl_ne (by omega) (rl_ne (by omega) (rl_ne (by omega) (rl_ne (by omega) (rl_ne (by omega) (rl_ne (by omega) (rl_ne (by omega) rfl))))))) dX11_subscribeTo_298 ?_
            refine jj_lload C dX11_subscribeTo_299 rfl ?_
            refine jj_ladd C dX11_subscribeTo_301 rfl ?_
            refine rl_last C hok_68 (t := (1, (-9223372036854775808), 9223372036854775807)) hkw (by decide) rfl (k := 18 + 5 * n_18) (vp_in_nI (by omega) (by decide)) (tt_ja _) (nI_clamp (by omega)) dX11_subscribeTo_302 (fun pl_69 hok_70 tr tl tw => ?_)
            replace hm := hm.arr tr
            replace hfr := hfr.arr tr
            replace hC_16 := tw _ hC_16
            replace hfa := hfa.wr hkw tl (by decide)
            refine jj_aload_n C dX11_subscribeTo_303 rfl ?_
            refine tt_getF C hok_70 jk_12 0 (by decide) jw_34eaf3ba8b (t := (2, 2, 0)) hk0 (by decide) rfl rfl hm.1 dX11_subscribeTo_304 ?_
            refine jj_iload C dX11_subscribeTo_307 rfl ?_
            refine jj_iconst (v := 3) C dX11_subscribeTo_309 (by decide) ?_
            refine jj_iadd (v := nI (19 + 5 * n_18)) C dX11_subscribeTo_310 (rl_addR (kn := 3) (by decide) (by omega)) ?_
            refine jj_dup2 C dX11_subscribeTo_311 rfl rfl ?_
            refine rl_lald C hok_70 (t := (1, (-9223372036854775808), 9223372036854775807)) hkw (by decide) rfl (k := 19 + 5 * n_18) (v := (g_15 (19 + 5 * n_18))) (vp_in_nI (by omega) (by decide)) hC_16 (nI_clamp (by omega)) (rl_ne (by omega) (rl_ne (by omega) (rl_ne (by omega) (rl_ne (by omega) (rl_ne (by omega) (rl_ne (by omega) (rl_ne (by omega) (rl_ne (by omega) rfl)))))))) dX11_subscribeTo_312 ?_
            refine jj_lload C dX11_subscribeTo_313 rfl ?_
            refine jj_ladd C dX11_subscribeTo_315 rfl ?_
            refine rl_last C hok_70 (t := (1, (-9223372036854775808), 9223372036854775807)) hkw (by decide) rfl (k := 19 + 5 * n_18) (vp_in_nI (by omega) (by decide)) (tt_ja _) (nI_clamp (by omega)) dX11_subscribeTo_316 (fun pl_71 hok_72 tr tl tw => ?_)
            replace hm := hm.arr tr
            replace hfr := hfr.arr tr
            replace hC_16 := tw _ hC_16
            replace hfa := hfa.wr hkw tl (by decide)
            refine jj_aload_n C dX11_subscribeTo_317 rfl ?_
            refine tt_getF C hok_72 jk_12 0 (by decide) jw_34eaf3ba8b (t := (2, 2, 0)) hk0 (by decide) rfl rfl hm.1 dX11_subscribeTo_318 ?_
            refine jj_bipush (v := 12) C dX11_subscribeTo_321 (by decide) ?_
            refine jj_dup2 C dX11_subscribeTo_323 rfl rfl ?_
            refine rl_lald C hok_72 (t := (1, (-9223372036854775808), 9223372036854775807)) hkw (by decide) rfl (k := 12) (v := (g_15 12)) (vp_in_iff.mpr (by decide)) hC_16 (by decide) (rl_ne (by omega) (rl_ne (by omega) (rl_ne (by omega) (rl_ne (by omega) (rl_ne (by omega) (rl_ne (by omega) (rl_ne (by omega) (rl_ne (by omega) (rl_ne (by omega) rfl))))))))) dX11_subscribeTo_324 ?_
            refine jj_lload C dX11_subscribeTo_325 rfl ?_
            refine jj_ladd C dX11_subscribeTo_327 rfl ?_
            refine rl_last C hok_72 (t := (1, (-9223372036854775808), 9223372036854775807)) hkw (by decide) rfl (k := 12) (vp_in_iff.mpr (by decide)) (tt_ja _) (by decide) dX11_subscribeTo_328 (fun pl_73 hok_74 tr tl tw => ?_)
            replace hm := hm.arr tr
            replace hfr := hfr.arr tr
            replace hC_16 := tw _ hC_16
            replace hfa := hfa.wr hkw tl (by decide)
            refine jj_iload C dX11_subscribeTo_329 rfl ?_
            exact jj_iret C ⟨[], pl_73, rfl, rfl, hok_74, hfr, hfa, (Or.inr (by have e7 := congrArg Int64.toInt (hq_21 7 (by decide) (by decide) (by omega)); have q9 := rl_subO hP hB (n := n_18) en_19 (by omega) hI_17 hq_20 hq_21 hq_22 hq_23 hq_24 hq_25 hq_26 hq_27 (by omega) (by omega) ham (by omega) (by omega) (Or.inr ⟨by rw [c_37]; decide, c_50, rfl⟩) hB1 (g := (vp_updL (vp_updL (vp_updL (vp_updL (vp_updL (vp_updL (vp_updL (vp_updL (vp_updL (vp_updL g_15 (46 + 6 * n_28) (g_15 (286 + 4 * q))) (47 + 6 * n_28) (g_15 (16 + 5 * n_18))) (48 + 6 * n_28) (((f (288 + 4 * q)) * (100000 : Int64)) / (1000000 : Int64))) (49 + 6 * n_28) (1000000 : Int64)) (50 + 6 * n_28) (((((((f (288 + 4 * q)) * (100000 : Int64)) / (1000000 : Int64)) * ((1000000 : Int64) - (g_15 (20 + 5 * n_18)))) * (g_15 3)) / (100 : Int64)) / (100000 : Int64))) (51 + 6 * n_28) (g_15 5)) 7 ((g_15 7) + (1 : Int64))) (18 + 5 * n_18) ((g_15 (18 + 5 * n_18)) + (f (288 + 4 * q)))) (19 + 5 * n_18) ((g_15 (19 + 5 * n_18)) + (((f (288 + 4 * q)) * (100000 : Int64)) / (1000000 : Int64)))) 12 ((g_15 12) + (f (288 + 4 * q))))) rfl; exact ⟨_, n_18, en_19, (by omega), hC_16, q9.1, q9.2.1, q9.2.2.1, q9.2.2.2.1, q9.2.2.2.2.1, q9.2.2.2.2.2.1, q9.2.2.2.2.2.2.1, q9.2.2.2.2.2.2.2, rfl⟩))⟩ dX11_subscribeTo_331 (jj_le rfl) (jj_le rfl)
      · have z_c_8 := jc_eqL (a := (f 6).toInt) (b := 6) c_8 rfl (by decide)
        refine jj_iconst (v := (-1)) C dX11_subscribeTo_111 (by decide) ?_
        exact jj_iret C ⟨[], pl0, rfl, rfl, hok, hfr, hfa, (Or.inl ⟨hC, rfl⟩)⟩ dX11_subscribeTo_112 (jj_le rfl) (jj_le rfl)

set_option maxHeartbeats 4000000 in
set_option maxRecDepth 100000 in
theorem rs_subIn {l : Launch} (hl : l.stackTraces = false) (D : va_G) (cA : Nat → ClassId) (ak : (Nat → Nat) × (Nat → Nat)) {Kd : Nat → Nat} {h0 aw aa at0 ai af ap : Nat} (k q : Nat) (B B1 : Int) (f : Nat → Int64) (hk0 : Kd h0 = 1) (hkw : Kd aw = 2) (hka : Kd aa = 3) (hkt : Kd at0 = 4) (hki : Kd ai = 5) (hkf : Kd af = 6) (hkp : Kd ap = 7) (hr : q < 12) (hI : rl_I B f) (hP : rl_P f) (hB : B ≤ 43920000000) (ham : 0 ≤ (f (288 + 4 * q)).toInt ∧ (f (288 + 4 * q)).toInt ≤ 10000000) (hB1 : rl_T f + 3 * (f (288 + 4 * q)).toInt ≤ B1) (hk : k < rnS f) (hm0 : (f 1).toInt = 0 → (f (20 + 5 * k)).toInt = 1000000 ∧ (f (18 + 5 * k)).toInt ≤ 110000000 ∧ (f (19 + 5 * k)).toInt ≤ 110000000) {pl0 : va_W} (hok : tt_ok rt_tk cA Kd pl0) (hm : rl_m pl0 h0 aw aa at0 ai af ap) (hC : tt_lc pl0 aw f) : jj_M l D cA ak yX11_subscribeTo (.code yX11_subscribeTo cX11_subscribeTo 14 (some .int)) 1 25 0 0 ([] ++ pl0) [.ref h0, .int (nI (16 + 5 * k)), .int (nI q)] (tt_O (fun rx pl1 r => rx = [] ∧ tt_ok rt_tk cA Kd pl1 ∧ tt_fr Kd [] pl0 pl1 ∧ tt_fa Kd [2] pl0 pl1 ∧ ((tt_lc pl1 aw f ∧ r = some (.int (-1))) ∨ (∃ g : Nat → Int64, tt_lc pl1 aw g ∧ rl_I B1 g ∧ rl_P g ∧ rl_T g ≤ rl_T f + 3 * (f (288 + 4 * q)).toInt ∧ (∀ i : Nat, i ≠ 7 → i ≠ 12 → ¬ (18 + 5 * k ≤ i ∧ i ≤ 19 + 5 * k) → (i < 46 ∨ 286 ≤ i) → g i = f i) ∧ (g (18 + 5 * k)).toInt ≤ (f (18 + 5 * k)).toInt + 10000000 ∧ (g (19 + 5 * k)).toInt ≤ (f (19 + 5 * k)).toInt + 10000000 ∧ r = some (.int (nI (16 + 5 * k))))))) (tt_OX (fun _ _ _ => False)) := by
  refine jj_start hl (by decide) jw_0bdec3858a (jj_le rfl) ?_
  intro p e s m args below meth c A hargs hA C hex hmn
  have hfr := tt_fr.refl (K := Kd) (WS := []) pl0
  have hfa := tt_fa.refl (K := Kd) (WA := [2]) pl0
  have hH := hI.1.1
  obtain ⟨⟨g0a, g0b⟩, ⟨g1a, g1b⟩, ⟨g6a, g6b⟩, ⟨g7a, g7b⟩, ⟨g8a, g8b⟩⟩ := hH
  have hu := rl_PU hP hk
  have hk6 : k < 6 := by unfold rnS at hk; omega
  refine jj_iload_n C dX11_subscribeTo_0 rfl ?_
  refine tt_call0S (rest := []) C (rn_requestAt hl D cA ak q (286 + 4 * q) (by omega)) jw_b399766b1e jw_c583cc9526 jw_f96c99f44d jw_595411e0f2 jn_X11_requestAt rfl (jj_le rfl) (jj_le rfl) (jj_le rfl) (jj_le rfl) (jj_le rfl) dX11_subscribeTo_1 rfl (fun w1 r hO => ?_)
  obtain ⟨-, rfl⟩ := hO
  refine jj_istore_n C dX11_subscribeTo_4 (by decide) rfl ?_
  refine jj_aload_n C dX11_subscribeTo_5 rfl ?_
  refine tt_getF C hok jk_12 0 (by decide) jw_34eaf3ba8b (t := (2, 2, 0)) hk0 (by decide) rfl rfl hm.1 dX11_subscribeTo_6 ?_
  refine jj_iload_n C dX11_subscribeTo_9 rfl ?_
  refine jj_iconst (v := 2) C dX11_subscribeTo_10 (by decide) ?_
  refine jj_iadd (v := nI (288 + 4 * q)) C dX11_subscribeTo_11 (rl_addR (kn := 2) (by decide) (by omega)) ?_
  refine rl_lald C hok (t := (1, (-9223372036854775808), 9223372036854775807)) hkw (by decide) rfl (k := 288 + 4 * q) (v := (f (288 + 4 * q))) (vp_in_nI (by omega) (by decide)) hC (nI_clamp (by omega)) rfl dX11_subscribeTo_12 ?_
  refine jj_lstore C dX11_subscribeTo_13 (by decide) rfl ?_
  refine jj_iload_n C dX11_subscribeTo_15 rfl ?_
  refine jj_iconst (v := (-1)) C dX11_subscribeTo_16 (by decide) ?_
  refine jj_icmp_eq (tgt := 31) C dX11_subscribeTo_17 (by decide) (fun c_1 => ?_) (fun c_1 => ?_)
  · have z_c_1 := jc_eq (a := ((16 + 5 * k : Nat) : Int)) (b := (-1)) c_1 (rl_ti (by omega)) (by decide)
    exfalso; omega
  · have z_c_1 := jc_neq (a := ((16 + 5 * k : Nat) : Int)) (b := (-1)) c_1 (rl_ti (by omega)) (by decide)
    refine jj_aload_n C dX11_subscribeTo_20 rfl ?_
    refine tt_getF C hok jk_12 0 (by decide) jw_34eaf3ba8b (t := (2, 2, 0)) hk0 (by decide) rfl rfl hm.1 dX11_subscribeTo_21 ?_
    refine jj_iconst (v := 1) C dX11_subscribeTo_24 (by decide) ?_
    refine rl_lald C hok (t := (1, (-9223372036854775808), 9223372036854775807)) hkw (by decide) rfl (k := 1) (v := (f 1)) (vp_in_iff.mpr (by decide)) hC (by decide) rfl dX11_subscribeTo_25 ?_
    refine jj_lconst (v := 0) C dX11_subscribeTo_26 (by decide) ?_
    refine jj_lcmp_ne (tgt := 37) C dX11_subscribeTo_27 dX11_subscribeTo_28 (by decide) (fun c_2 => ?_) (fun c_2 => ?_)
    · have z_c_2 := jc_neqL (a := (f 1).toInt) (b := 0) c_2 rfl (by decide)
      refine jj_aload_n C dX11_subscribeTo_37 rfl ?_
      refine jj_iload_n C dX11_subscribeTo_38 rfl ?_
      obtain ⟨qc, gs, hqc⟩ := tt_recv (cx := []) hok hk0 (by decide) rfl
      refine tt_callV (rest := []) C (rs_gross hl D cA ak k f hk0 hkw hka hkt hki hkf hkp (by omega) hu hok hm hC) [] [] rfl rfl (by decide) (by decide) (by decide) qc hqc rfl rfl jw_1edf99ea30 jw_400b60e050 jw_5647e6ad46 jw_f96c99f44d jw_5385d4d55b jn_X11_gross rfl (jj_le rfl) (jj_le rfl) (jj_le rfl) (jj_le rfl) (jj_le rfl) dX11_subscribeTo_39 rfl (fun _ _ _ hX => hX.elim) (fun rx pl_3 r O_7 => ?_)
      obtain ⟨rfl, hok_4, hr_5, ha_6, hR_8⟩ := O_7
      replace hC := ha_6.at hkw (by decide) (by decide) hC
      replace hm := hm.fr hr_5 hk0 rfl
      replace hfr := hfr.trans (hr_5.sub (by decide))
      replace hfa := hfa.trans (ha_6.sub (by decide))
      obtain rfl := hR_8
      refine jj_lstore C dX11_subscribeTo_42 (by decide) rfl ?_
      refine jj_lload C dX11_subscribeTo_44 rfl ?_
      refine jj_lconst (v := 0) C dX11_subscribeTo_46 (by decide) ?_
      refine jj_lcmp_ne (tgt := 55) C dX11_subscribeTo_47 dX11_subscribeTo_48 (by decide) (fun c_9 => ?_) (fun c_9 => ?_)
      · have z_c_9 := jc_neqL (a := (rg_gross f k).toInt) (b := 0) c_9 rfl (by decide)
        refine jj_lload C dX11_subscribeTo_55 rfl ?_
        refine jj_ldc2 (v := 100000) C dX11_subscribeTo_57 jw_759d064724 ?_
        refine jj_lmul C dX11_subscribeTo_60 rfl ?_
        refine jj_lload C dX11_subscribeTo_61 rfl ?_
        refine jj_ldiv C dX11_subscribeTo_63 c_9 rfl ?_
        refine jj_lstore C dX11_subscribeTo_64 (by decide) rfl ?_
        refine jj_lload C dX11_subscribeTo_66 rfl ?_
        refine jj_lconst (v := 1) C dX11_subscribeTo_68 (by decide) ?_
        refine jj_ldc2 (v := 10000000) C dX11_subscribeTo_69 jw_916d704b4e ?_
        refine tt_call0S (rest := []) C (ct_X11_in_s1 hl D cA ak (((f (288 + 4 * q)) * (100000 : Int64)) / (rg_gross f k))) jw_2a24feddee jw_12f28ccfda jw_f96c99f44d jw_e07c9ada56 jn_X11_in rfl (jj_le rfl) (jj_le rfl) (jj_le rfl) (jj_le rfl) (jj_le rfl) dX11_subscribeTo_72 rfl (fun w1 r O_10 => ?_)
        rcases O_10 with ⟨c_11, -, rfl⟩ | ⟨c_12, c_13, -, rfl⟩ | ⟨c_14, c_15, -, rfl⟩
        · have z_c_11 := jc_ltL (a := (((f (288 + 4 * q)) * (100000 : Int64)) / (rg_gross f k)).toInt) (b := 1) c_11 rfl (by decide)
          refine jj_if_eqT (tgt := 111) C dX11_subscribeTo_75 (by decide) (by decide) ?_
          refine jj_iconst (v := (-1)) C dX11_subscribeTo_111 (by decide) ?_
          exact jj_iret C ⟨[], pl_3, rfl, rfl, hok_4, hfr, hfa, (Or.inl ⟨hC, rfl⟩)⟩ dX11_subscribeTo_112 (jj_le rfl) (jj_le rfl)
        · have z_c_12 := jc_nltL (a := (((f (288 + 4 * q)) * (100000 : Int64)) / (rg_gross f k)).toInt) (b := 1) c_12 rfl (by decide)
          have z_c_13 := jc_ltL (a := 10000000) (b := (((f (288 + 4 * q)) * (100000 : Int64)) / (rg_gross f k)).toInt) c_13 (by decide) rfl
          refine jj_if_eqT (tgt := 111) C dX11_subscribeTo_75 (by decide) (by decide) ?_
          refine jj_iconst (v := (-1)) C dX11_subscribeTo_111 (by decide) ?_
          exact jj_iret C ⟨[], pl_3, rfl, rfl, hok_4, hfr, hfa, (Or.inl ⟨hC, rfl⟩)⟩ dX11_subscribeTo_112 (jj_le rfl) (jj_le rfl)
        · have z_c_14 := jc_nltL (a := (((f (288 + 4 * q)) * (100000 : Int64)) / (rg_gross f k)).toInt) (b := 1) c_14 rfl (by decide)
          have z_c_15 := jc_nltL (a := 10000000) (b := (((f (288 + 4 * q)) * (100000 : Int64)) / (rg_gross f k)).toInt) c_15 (by decide) rfl
          refine jj_if_eqF (tgt := 111) C dX11_subscribeTo_75 (by decide) (by decide) ?_
          refine jj_aload_n C dX11_subscribeTo_78 rfl ?_
          refine tt_getF C hok_4 jk_12 0 (by decide) jw_34eaf3ba8b (t := (2, 2, 0)) hk0 (by decide) rfl rfl hm.1 dX11_subscribeTo_79 ?_
          refine jj_bipush (v := 7) C dX11_subscribeTo_82 (by decide) ?_
          refine rl_lald C hok_4 (t := (1, (-9223372036854775808), 9223372036854775807)) hkw (by decide) rfl (k := 7) (v := (f 7)) (vp_in_iff.mpr (by decide)) hC (by decide) rfl dX11_subscribeTo_84 ?_
          refine jj_ldc2 (v := 40) C dX11_subscribeTo_85 jw_13decb34e5 ?_
          refine jj_lcmp_eq (tgt := 111) C dX11_subscribeTo_88 dX11_subscribeTo_89 (by decide) (fun c_16 => ?_) (fun c_16 => ?_)
          · have z_c_16 := jc_eqL (a := (f 7).toInt) (b := 40) c_16 rfl (by decide)
            refine jj_iconst (v := (-1)) C dX11_subscribeTo_111 (by decide) ?_
            exact jj_iret C ⟨[], pl_3, rfl, rfl, hok_4, hfr, hfa, (Or.inl ⟨hC, rfl⟩)⟩ dX11_subscribeTo_112 (jj_le rfl) (jj_le rfl)
          · have z_c_16 := jc_neqL (a := (f 7).toInt) (b := 40) c_16 rfl (by decide)
            refine jj_iload_n C dX11_subscribeTo_92 rfl ?_
            refine jj_iconst (v := (-1)) C dX11_subscribeTo_93 (by decide) ?_
            refine jj_icmp_ne (tgt := 113) C dX11_subscribeTo_94 (by decide) (fun c_17 => ?_) (fun c_17 => ?_)
            · have z_c_17 := jc_neq (a := ((16 + 5 * k : Nat) : Int)) (b := (-1)) c_17 (rl_ti (by omega)) (by decide)
              refine jj_iload_n C dX11_subscribeTo_113 rfl ?_
              refine jj_iconst (v := (-1)) C dX11_subscribeTo_114 (by decide) ?_
              refine jj_icmp_ne (tgt := 125) C dX11_subscribeTo_115 (by decide) (fun c_18 => ?_) (fun c_18 => ?_)
              · have z_c_18 := jc_neq (a := ((16 + 5 * k : Nat) : Int)) (b := (-1)) c_18 (rl_ti (by omega)) (by decide)
                refine jj_iload_n C dX11_subscribeTo_125 rfl ?_
                refine jj_istore C dX11_subscribeTo_126 (by decide) rfl ?_
                refine jj_lload C dX11_subscribeTo_128 rfl ?_
                refine jj_aload_n C dX11_subscribeTo_130 rfl ?_
                refine tt_getF C hok_4 jk_12 0 (by decide) jw_34eaf3ba8b (t := (2, 2, 0)) hk0 (by decide) rfl rfl hm.1 dX11_subscribeTo_131 ?_
                refine jj_iload C dX11_subscribeTo_134 rfl ?_
                refine jj_iconst (v := 4) C dX11_subscribeTo_136 (by decide) ?_
                refine jj_iadd (v := nI (20 + 5 * k)) C dX11_subscribeTo_137 (rl_addR (kn := 4) (by decide) (by omega)) ?_
                refine rl_lald C hok_4 (t := (1, (-9223372036854775808), 9223372036854775807)) hkw (by decide) rfl (k := 20 + 5 * k) (v := (f (20 + 5 * k))) (vp_in_nI (by omega) (by decide)) hC (nI_clamp (by omega)) rfl dX11_subscribeTo_138 ?_
                refine jj_lsub C dX11_subscribeTo_139 rfl ?_
                refine jj_lstore C dX11_subscribeTo_140 (by decide) rfl ?_
                refine jj_aload_n C dX11_subscribeTo_142 rfl ?_
                refine tt_getF C hok_4 jk_12 0 (by decide) jw_34eaf3ba8b (t := (2, 2, 0)) hk0 (by decide) rfl rfl hm.1 dX11_subscribeTo_143 ?_
                refine jj_bipush (v := 7) C dX11_subscribeTo_146 (by decide) ?_
                refine rl_lald C hok_4 (t := (1, (-9223372036854775808), 9223372036854775807)) hkw (by decide) rfl (k := 7) (v := (f 7)) (vp_in_iff.mpr (by decide)) hC (by decide) rfl dX11_subscribeTo_148 ?_
                obtain ⟨n_19, en_19, vn_19⟩ := rl_l2i (x := (f 7)) (by omega) (by omega)
                refine jj_l2i (v := nI n_19) C dX11_subscribeTo_149 en_19 ?_
                refine tt_call0S (rest := []) C (rn_lotAt hl D cA ak n_19 (46 + 6 * n_19) (by omega)) jw_4c8c4b88e2 jw_0fa3e2bccb jw_f96c99f44d jw_d540d98a1c jn_X11_lotAt rfl (jj_le rfl) (jj_le rfl) (jj_le rfl) (jj_le rfl) (jj_le rfl) dX11_subscribeTo_150 rfl (fun w1 r hO => ?_)
                obtain ⟨-, rfl⟩ := hO
                refine jj_istore C dX11_subscribeTo_153 (by decide) rfl ?_
                refine jj_aload_n C dX11_subscribeTo_155 rfl ?_
                refine tt_getF C hok_4 jk_12 0 (by decide) jw_34eaf3ba8b (t := (2, 2, 0)) hk0 (by decide) rfl rfl hm.1 dX11_subscribeTo_156 ?_
                refine jj_iload C dX11_subscribeTo_159 rfl ?_
                refine jj_iconst (v := 0) C dX11_subscribeTo_161 (by decide) ?_
                refine jj_iadd (v := nI (46 + 6 * n_19)) C dX11_subscribeTo_162 (rl_addR (kn := 0) (by decide) (by omega)) ?_
                refine jj_aload_n C dX11_subscribeTo_163 rfl ?_
                refine tt_getF C hok_4 jk_12 0 (by decide) jw_34eaf3ba8b (t := (2, 2, 0)) hk0 (by decide) rfl rfl hm.1 dX11_subscribeTo_164 ?_
                refine jj_iload_n C dX11_subscribeTo_167 rfl ?_
                refine jj_iconst (v := 0) C dX11_subscribeTo_168 (by decide) ?_
                refine jj_iadd (v := nI (286 + 4 * q)) C dX11_subscribeTo_169 (rl_addR (kn := 0) (by decide) (by omega)) ?_
                refine rl_lald C hok_4 (t := (1, (-9223372036854775808), 9223372036854775807)) hkw (by decide) rfl (k := 286 + 4 * q) (v := (f (286 + 4 * q))) (vp_in_nI (by omega) (by decide)) hC (nI_clamp (by omega)) rfl dX11_subscribeTo_170 ?_
                refine rl_last C hok_4 (t := (1, (-9223372036854775808), 9223372036854775807)) hkw (by decide) rfl (k := 46 + 6 * n_19) (vp_in_nI (by omega) (by decide)) (tt_ja _) (nI_clamp (by omega)) dX11_subscribeTo_171 (fun pl_20 hok_21 tr tl tw => ?_)
                replace hm := hm.arr tr
                replace hfr := hfr.arr tr
                replace hC := tw _ hC
                replace hfa := hfa.wr hkw tl (by decide)
                refine jj_aload_n C dX11_subscribeTo_172 rfl ?_
                refine tt_getF C hok_21 jk_12 0 (by decide) jw_34eaf3ba8b (t := (2, 2, 0)) hk0 (by decide) rfl rfl hm.1 dX11_subscribeTo_173 ?_
                refine jj_iload C dX11_subscribeTo_176 rfl ?_
                refine jj_iconst (v := 1) C dX11_subscribeTo_178 (by decide) ?_
                refine jj_iadd (v := nI (47 + 6 * n_19)) C dX11_subscribeTo_179 (rl_addR (kn := 1) (by decide) (by omega)) ?_
                refine jj_aload_n C dX11_subscribeTo_180 rfl ?_
                refine tt_getF C hok_21 jk_12 0 (by decide) jw_34eaf3ba8b (t := (2, 2, 0)) hk0 (by decide) rfl rfl hm.1 dX11_subscribeTo_181 ?_
                refine jj_iload C dX11_subscribeTo_184 rfl ?_
                refine jj_iconst (v := 0) C dX11_subscribeTo_186 (by decide) ?_
                refine jj_iadd (v := nI (16 + 5 * k)) C dX11_subscribeTo_187 (rl_addR (kn := 0) (by decide) (by omega)) ?_
                refine rl_lald C hok_21 (t := (1, (-9223372036854775808), 9223372036854775807)) hkw (by decide) rfl (k := 16 + 5 * k) (v := (f (16 + 5 * k))) (vp_in_nI (by omega) (by decide)) hC (nI_clamp (by omega)) (rl_ne (by omega) rfl) dX11_subscribeTo_188 ?_
                refine rl_last C hok_21 (t := (1, (-9223372036854775808), 9223372036854775807)) hkw (by decide) rfl (k := 47 + 6 * n_19) (vp_in_nI (by omega) (by decide)) (tt_ja _) (nI_clamp (by omega)) dX11_subscribeTo_189 (fun pl_22 hok_23 tr tl tw => ?_)
                replace hm := hm.arr tr
                replace hfr := hfr.arr tr
                replace hC := tw _ hC
                replace hfa := hfa.wr hkw tl (by decide)
                refine jj_aload_n C dX11_subscribeTo_190 rfl ?_
                refine tt_getF C hok_23 jk_12 0 (by decide) jw_34eaf3ba8b (t := (2, 2, 0)) hk0 (by decide) rfl rfl hm.1 dX11_subscribeTo_191 ?_
                refine jj_iload C dX11_subscribeTo_194 rfl ?_
                refine jj_iconst (v := 2) C dX11_subscribeTo_196 (by decide) ?_
                refine jj_iadd (v := nI (48 + 6 * n_19)) C dX11_subscribeTo_197 (rl_addR (kn := 2) (by decide) (by omega)) ?_
                refine jj_lload C dX11_subscribeTo_198 rfl ?_
                refine rl_last C hok_23 (t := (1, (-9223372036854775808), 9223372036854775807)) hkw (by decide) rfl (k := 48 + 6 * n_19) (vp_in_nI (by omega) (by decide)) (tt_ja _) (nI_clamp (by omega)) dX11_subscribeTo_200 (fun pl_24 hok_25 tr tl tw => ?_)
                replace hm := hm.arr tr
                replace hfr := hfr.arr tr
                replace hC := tw _ hC
                replace hfa := hfa.wr hkw tl (by decide)
                refine jj_aload_n C dX11_subscribeTo_201 rfl ?_
                refine tt_getF C hok_25 jk_12 0 (by decide) jw_34eaf3ba8b (t := (2, 2, 0)) hk0 (by decide) rfl rfl hm.1 dX11_subscribeTo_202 ?_
                refine jj_iload C dX11_subscribeTo_205 rfl ?_
                refine jj_iconst (v := 3) C dX11_subscribeTo_207 (by decide) ?_
                refine jj_iadd (v := nI (49 + 6 * n_19)) C dX11_subscribeTo_208 (rl_addR (kn := 3) (by decide) (by omega)) ?_
                refine jj_lload C dX11_subscribeTo_209 rfl ?_
                refine rl_last C hok_25 (t := (1, (-9223372036854775808), 9223372036854775807)) hkw (by decide) rfl (k := 49 + 6 * n_19) (vp_in_nI (by omega) (by decide)) (tt_ja _) (nI_clamp (by omega)) dX11_subscribeTo_211 (fun pl_26 hok_27 tr tl tw => ?_)
                replace hm := hm.arr tr
                replace hfr := hfr.arr tr
                replace hC := tw _ hC
                replace hfa := hfa.wr hkw tl (by decide)
                refine jj_aload_n C dX11_subscribeTo_212 rfl ?_
                refine tt_getF C hok_27 jk_12 0 (by decide) jw_34eaf3ba8b (t := (2, 2, 0)) hk0 (by decide) rfl rfl hm.1 dX11_subscribeTo_213 ?_
                refine jj_iload C dX11_subscribeTo_216 rfl ?_
                refine jj_iconst (v := 4) C dX11_subscribeTo_218 (by decide) ?_
                refine jj_iadd (v := nI (50 + 6 * n_19)) C dX11_subscribeTo_219 (rl_addR (kn := 4) (by decide) (by omega)) ?_
                refine jj_aload_n C dX11_subscribeTo_220 rfl ?_
                refine tt_getF C hok_27 jk_12 0 (by decide) jw_34eaf3ba8b (t := (2, 2, 0)) hk0 (by decide) rfl rfl hm.1 dX11_subscribeTo_221 ?_
                refine jj_iconst (v := 1) C dX11_subscribeTo_224 (by decide) ?_
                refine rl_lald C hok_27 (t := (1, (-9223372036854775808), 9223372036854775807)) hkw (by decide) rfl (k := 1) (v := (f 1)) (vp_in_iff.mpr (by decide)) hC (by decide) (rl_ne (by omega) (rl_ne (by omega) (rl_ne (by omega) (rl_ne (by omega) rfl)))) dX11_subscribeTo_225 ?_
                refine jj_lconst (v := 1) C dX11_subscribeTo_226 (by decide) ?_
                refine jj_lcmp_ne (tgt := 261) C dX11_subscribeTo_227 dX11_subscribeTo_228 (by decide) (fun c_28 => ?_) (fun c_28 => ?_)
                · have z_c_28 := jc_neqL (a := (f 1).toInt) (b := 1) c_28 rfl (by decide)
                  exfalso; omega
                · have z_c_28 := jc_eqL (a := (f 1).toInt) (b := 1) c_28 rfl (by decide)
                  refine jj_lload C dX11_subscribeTo_231 rfl ?_
                  refine jj_lconst (v := 0) C dX11_subscribeTo_233 (by decide) ?_
                  refine jj_lcmp_le (tgt := 261) C dX11_subscribeTo_234 dX11_subscribeTo_235 (by decide) (fun c_29 => ?_) (fun c_29 => ?_)
                  · have z_c_29 := jc_leL (a := ((rg_gross f k) - (f (20 + 5 * k))).toInt) (b := 0) c_29 rfl (by decide)
                    refine jj_lconst (v := 0) C dX11_subscribeTo_261 (by decide) ?_
                    refine rl_last C hok_27 (t := (1, (-9223372036854775808), 9223372036854775807)) hkw (by decide) rfl (k := 50 + 6 * n_19) (vp_in_nI (by omega) (by decide)) (tt_ja _) (nI_clamp (by omega)) dX11_subscribeTo_262 (fun pl_30 hok_31 tr tl tw => ?_)
                    replace hm := hm.arr tr
                    replace hfr := hfr.arr tr
                    replace hC := tw _ hC
                    replace hfa := hfa.wr hkw tl (by decide)
                    refine jj_aload_n C dX11_subscribeTo_263 rfl ?_
                    refine tt_getF C hok_31 jk_12 0 (by decide) jw_34eaf3ba8b (t := (2, 2, 0)) hk0 (by decide) rfl rfl hm.1 dX11_subscribeTo_264 ?_
                    refine jj_iload C dX11_subscribeTo_267 rfl ?_
                    refine jj_iconst (v := 5) C dX11_subscribeTo_269 (by decide) ?_
                    refine jj_iadd (v := nI (51 + 6 * n_19)) C dX11_subscribeTo_270 (rl_addR (kn := 5) (by decide) (by omega)) ?_
                    refine jj_aload_n C dX11_subscribeTo_271 rfl ?_
                    refine tt_getF C hok_31 jk_12 0 (by decide) jw_34eaf3ba8b (t := (2, 2, 0)) hk0 (by decide) rfl rfl hm.1 dX11_subscribeTo_272 ?_
                    refine jj_iconst (v := 5) C dX11_subscribeTo_275 (by decide) ?_
                    refine rl_lald C hok_31 (t := (1, (-9223372036854775808), 9223372036854775807)) hkw (by decide) rfl (k := 5) (v := (f 5)) (vp_in_iff.mpr (by decide)) hC (by decide) (rl_ne (by omega) (rl_ne (by omega) (rl_ne (by omega) (rl_ne (by omega) (rl_ne (by omega) rfl))))) dX11_subscribeTo_276 ?_
                    refine rl_last C hok_31 (t := (1, (-9223372036854775808), 9223372036854775807)) hkw (by decide) rfl (k := 51 + 6 * n_19) (vp_in_nI (by omega) (by decide)) (tt_ja _) (nI_clamp (by omega)) dX11_subscribeTo_277 (fun pl_32 hok_33 tr tl tw => ?_)
                    replace hm := hm.arr tr
                    replace hfr := hfr.arr tr
                    replace hC := tw _ hC
                    replace hfa := hfa.wr hkw tl (by decide)
                    refine jj_aload_n C dX11_subscribeTo_278 rfl ?_
                    refine tt_getF C hok_33 jk_12 0 (by decide) jw_34eaf3ba8b (t := (2, 2, 0)) hk0 (by decide) rfl rfl hm.1 dX11_subscribeTo_279 ?_
                    refine jj_bipush (v := 7) C dX11_subscribeTo_282 (by decide) ?_
                    refine jj_dup2 C dX11_subscribeTo_284 rfl rfl ?_
                    refine rl_lald C hok_33 (t := (1, (-9223372036854775808), 9223372036854775807)) hkw (by decide) rfl (k := 7) (v := (f 7)) (vp_in_iff.mpr (by decide)) hC (by decide) (rl_ne (by omega) (rl_ne (by omega) (rl_ne (by omega) (rl_ne (by omega) (rl_ne (by omega) (rl_ne (by omega) rfl)))))) dX11_subscribeTo_285 ?_
                    refine jj_lconst (v := 1) C dX11_subscribeTo_286 (by decide) ?_
                    refine jj_ladd C dX11_subscribeTo_287 rfl ?_
                    refine rl_last C hok_33 (t := (1, (-9223372036854775808), 9223372036854775807)) hkw (by decide) rfl (k := 7) (vp_in_iff.mpr (by decide)) (tt_ja _) (by decide) dX11_subscribeTo_288 (fun pl_34 hok_35 tr tl tw => ?_)
                    replace hm := hm.arr tr
                    replace hfr := hfr.arr tr
                    replace hC := tw _ hC
                    replace hfa := hfa.wr hkw tl (by decide)
                    refine jj_aload_n C dX11_subscribeTo_289 rfl ?_
                    refine tt_getF C hok_35 jk_12 0 (by decide) jw_34eaf3ba8b (t := (2, 2, 0)) hk0 (by decide) rfl rfl hm.1 dX11_subscribeTo_290 ?_
                    refine jj_iload C dX11_subscribeTo_293 rfl ?_
                    refine jj_iconst (v := 2) C dX11_subscribeTo_295 (by decide) ?_
                    refine jj_iadd (v := nI (18 + 5 * k)) C dX11_subscribeTo_296 (rl_addR (kn := 2) (by decide) (by omega)) ?_
                    refine jj_dup2 C dX11_subscribeTo_297 rfl rfl ?_
                    refine rl_lald C hok_35 (t := (1, (-9223372036854775808), 9223372036854775807)) hkw (by decide) rfl (k := 18 + 5 * k) (v := (f (18 + 5 * k))) (vp_in_nI (by omega) (by decide)) hC (nI_clamp (by omega)) (rl_ne (by omega) (rl_ne (by omega) (rl_ne (by omega) (rl_ne (by omega) (rl_ne (by omega) (rl_ne (by omega) (rl_ne (by omega) rfl))))))) dX11_subscribeTo_298 ?_
                    refine jj_lload C dX11_subscribeTo_299 rfl ?_
                    refine jj_ladd C dX11_subscribeTo_301 rfl ?_
                    refine rl_last C hok_35 (t := (1, (-9223372036854775808), 9223372036854775807)) hkw (by decide) rfl (k := 18 + 5 * k) (vp_in_nI (by omega) (by decide)) (tt_ja _) (nI_clamp (by omega)) dX11_subscribeTo_302 (fun pl_36 hok_37 tr tl tw => ?_)
                    replace hm := hm.arr tr
                    replace hfr := hfr.arr tr
                    replace hC := tw _ hC
                    replace hfa := hfa.wr hkw tl (by decide)
                    refine jj_aload_n C dX11_subscribeTo_303 rfl ?_
                    refine tt_getF C hok_37 jk_12 0 (by decide) jw_34eaf3ba8b (t := (2, 2, 0)) hk0 (by decide) rfl rfl hm.1 dX11_subscribeTo_304 ?_
                    refine jj_iload C dX11_subscribeTo_307 rfl ?_
                    refine jj_iconst (v := 3) C dX11_subscribeTo_309 (by decide) ?_
                    refine jj_iadd (v := nI (19 + 5 * k)) C dX11_subscribeTo_310 (rl_addR (kn := 3) (by decide) (by omega)) ?_
                    refine jj_dup2 C dX11_subscribeTo_311 rfl rfl ?_
                    refine rl_lald C hok_37 (t := (1, (-9223372036854775808), 9223372036854775807)) hkw (by decide) rfl (k := 19 + 5 * k) (v := (f (19 + 5 * k))) (vp_in_nI (by omega) (by decide)) hC (nI_clamp (by omega)) (rl_ne (by omega) (rl_ne (by omega) (rl_ne (by omega) (rl_ne (by omega) (rl_ne (by omega) (rl_ne (by omega) (rl_ne (by omega) (rl_ne (by omega) rfl)))))))) dX11_subscribeTo_312 ?_
                    refine jj_lload C dX11_subscribeTo_313 rfl ?_
                    refine jj_ladd C dX11_subscribeTo_315 rfl ?_
                    refine rl_last C hok_37 (t := (1, (-9223372036854775808), 9223372036854775807)) hkw (by decide) rfl (k := 19 + 5 * k) (vp_in_nI (by omega) (by decide)) (tt_ja _) (nI_clamp (by omega)) dX11_subscribeTo_316 (fun pl_38 hok_39 tr tl tw => ?_)
                    replace hm := hm.arr tr
                    replace hfr := hfr.arr tr
                    replace hC := tw _ hC
                    replace hfa := hfa.wr hkw tl (by decide)
                    refine jj_aload_n C dX11_subscribeTo_317 rfl ?_
                    refine tt_getF C hok_39 jk_12 0 (by decide) jw_34eaf3ba8b (t := (2, 2, 0)) hk0 (by decide) rfl rfl hm.1 dX11_subscribeTo_318 ?_
                    refine jj_bipush (v := 12) C dX11_subscribeTo_321 (by decide) ?_
                    refine jj_dup2 C dX11_subscribeTo_323 rfl rfl ?_
                    refine rl_lald C hok_39 (t := (1, (-9223372036854775808), 9223372036854775807)) hkw (by decide) rfl (k := 12) (v := (f 12)) (vp_in_iff.mpr (by decide)) hC (by decide) (rl_ne (by omega) (rl_ne (by omega) (rl_ne (by omega) (rl_ne (by omega) (rl_ne (by omega) (rl_ne (by omega) (rl_ne (by omega) (rl_ne (by omega) (rl_ne (by omega) rfl))))))))) dX11_subscribeTo_324 ?_
                    refine jj_lload C dX11_subscribeTo_325 rfl ?_
                    refine jj_ladd C dX11_subscribeTo_327 rfl ?_
                    refine rl_last C hok_39 (t := (1, (-9223372036854775808), 9223372036854775807)) hkw (by decide) rfl (k := 12) (vp_in_iff.mpr (by decide)) (tt_ja _) (by decide) dX11_subscribeTo_328 (fun pl_40 hok_41 tr tl tw => ?_)
                    replace hm := hm.arr tr
                    replace hfr := hfr.arr tr
                    replace hC := tw _ hC
                    replace hfa := hfa.wr hkw tl (by decide)
                    refine jj_iload C dX11_subscribeTo_329 rfl ?_
                    exact jj_iret C ⟨[], pl_40, rfl, rfl, hok_41, hfr, hfa, (Or.inr (by have q9 := rl_subA hI hB hk (by omega) (by omega) ham (hI.grossb hB hP hk) c_9 (by omega) (by omega) (Or.inl rfl) hm0 hB1 hP.1 (fun a ha _ => hP.2 a ha) (g := (vp_updL (vp_updL (vp_updL (vp_updL (vp_updL (vp_updL (vp_updL (vp_updL (vp_updL (vp_updL f (46 + 6 * n_19) (f (286 + 4 * q))) (47 + 6 * n_19) (f (16 + 5 * k))) (48 + 6 * n_19) (((f (288 + 4 * q)) * (100000 : Int64)) / (rg_gross f k))) (49 + 6 * n_19) (rg_gross f k)) (50 + 6 * n_19) (0 : Int64)) (51 + 6 * n_19) (f 5)) 7 ((f 7) + (1 : Int64))) (18 + 5 * k) ((f (18 + 5 * k)) + (f (288 + 4 * q)))) (19 + 5 * k) ((f (19 + 5 * k)) + (((f (288 + 4 * q)) * (100000 : Int64)) / (rg_gross f k)))) 12 ((f 12) + (f (288 + 4 * q))))) rfl; exact ⟨_, hC, q9.1, q9.2.1, q9.2.2.1, q9.2.2.2.1, q9.2.2.2.2.1, q9.2.2.2.2.2, rfl⟩))⟩ dX11_subscribeTo_331 (jj_le rfl) (jj_le rfl)
                  · have z_c_29 := jc_nleL (a := ((rg_gross f k) - (f (20 + 5 * k))).toInt) (b := 0) c_29 rfl (by decide)
                    refine jj_lload C dX11_subscribeTo_238 rfl ?_
                    refine jj_lload C dX11_subscribeTo_240 rfl ?_
                    refine jj_lmul C dX11_subscribeTo_242 rfl ?_
                    refine jj_aload_n C dX11_subscribeTo_243 rfl ?_
                    refine tt_getF C hok_27 jk_12 0 (by decide) jw_34eaf3ba8b (t := (2, 2, 0)) hk0 (by decide) rfl rfl hm.1 dX11_subscribeTo_244 ?_
                    refine jj_iconst (v := 3) C dX11_subscribeTo_247 (by decide) ?_
                    refine rl_lald C hok_27 (t := (1, (-9223372036854775808), 9223372036854775807)) hkw (by decide) rfl (k := 3) (v := (f 3)) (vp_in_iff.mpr (by decide)) hC (by decide) (rl_ne (by omega) (rl_ne (by omega) (rl_ne (by omega) (rl_ne (by omega) rfl)))) dX11_subscribeTo_248 ?_
                    refine jj_lmul C dX11_subscribeTo_249 rfl ?_
                    refine jj_ldc2 (v := 100) C dX11_subscribeTo_250 jw_0cface3231 ?_
                    refine jj_ldiv C dX11_subscribeTo_253 (by decide) rfl ?_
                    refine jj_ldc2 (v := 100000) C dX11_subscribeTo_254 jw_759d064724 ?_
                    refine jj_ldiv C dX11_subscribeTo_257 (by decide) rfl ?_
                    refine jj_goto (tgt := 262) C dX11_subscribeTo_258 (by decide) ?_
                    refine rl_last C hok_27 (t := (1, (-9223372036854775808), 9223372036854775807)) hkw (by decide) rfl (k := 50 + 6 * n_19) (vp_in_nI (by omega) (by decide)) (tt_ja _) (nI_clamp (by omega)) dX11_subscribeTo_262 (fun pl_42 hok_43 tr tl tw => ?_)
                    replace hm := hm.arr tr
                    replace hfr := hfr.arr tr
                    replace hC := tw _ hC
                    replace hfa := hfa.wr hkw tl (by decide)
                    refine jj_aload_n C dX11_subscribeTo_263 rfl ?_
                    refine tt_getF C hok_43 jk_12 0 (by decide) jw_34eaf3ba8b (t := (2, 2, 0)) hk0 (by decide) rfl rfl hm.1 dX11_subscribeTo_264 ?_
                    refine jj_iload C dX11_subscribeTo_267 rfl ?_
                    refine jj_iconst (v := 5) C dX11_subscribeTo_269 (by decide) ?_
                    refine jj_iadd (v := nI (51 + 6 * n_19)) C dX11_subscribeTo_270 (rl_addR (kn := 5) (by decide) (by omega)) ?_
                    refine jj_aload_n C dX11_subscribeTo_271 rfl ?_
                    refine tt_getF C hok_43 jk_12 0 (by decide) jw_34eaf3ba8b (t := (2, 2, 0)) hk0 (by decide) rfl rfl hm.1 dX11_subscribeTo_272 ?_
                    refine jj_iconst (v := 5) C dX11_subscribeTo_275 (by decide) ?_
                    refine rl_lald C hok_43 (t := (1, (-9223372036854775808), 9223372036854775807)) hkw (by decide) rfl (k := 5) (v := (f 5)) (vp_in_iff.mpr (by decide)) hC (by decide) (rl_ne (by omega) (rl_ne (by omega) (rl_ne (by omega) (rl_ne (by omega) (rl_ne (by omega) rfl))))) dX11_subscribeTo_276 ?_
                    refine rl_last C hok_43 (t := (1, (-9223372036854775808), 9223372036854775807)) hkw (by decide) rfl (k := 51 + 6 * n_19) (vp_in_nI (by omega) (by decide)) (tt_ja _) (nI_clamp (by omega)) dX11_subscribeTo_277 (fun pl_44 hok_45 tr tl tw => ?_)
                    replace hm := hm.arr tr
                    replace hfr := hfr.arr tr
                    replace hC := tw _ hC
                    replace hfa := hfa.wr hkw tl (by decide)
                    refine jj_aload_n C dX11_subscribeTo_278 rfl ?_
                    refine tt_getF C hok_45 jk_12 0 (by decide) jw_34eaf3ba8b (t := (2, 2, 0)) hk0 (by decide) rfl rfl hm.1 dX11_subscribeTo_279 ?_
                    refine jj_bipush (v := 7) C dX11_subscribeTo_282 (by decide) ?_
                    refine jj_dup2 C dX11_subscribeTo_284 rfl rfl ?_
                    refine rl_lald C hok_45 (t := (1, (-9223372036854775808), 9223372036854775807)) hkw (by decide) rfl (k := 7) (v := (f 7)) (vp_in_iff.mpr (by decide)) hC (by decide) (rl_ne (by omega) (rl_ne (by omega) (rl_ne (by omega) (rl_ne (by omega) (rl_ne (by omega) (rl_ne (by omega) rfl)))))) dX11_subscribeTo_285 ?_
                    refine jj_lconst (v := 1) C dX11_subscribeTo_286 (by decide) ?_
                    refine jj_ladd C dX11_subscribeTo_287 rfl ?_
                    refine rl_last C hok_45 (t := (1, (-9223372036854775808), 9223372036854775807)) hkw (by decide) rfl (k := 7) (vp_in_iff.mpr (by decide)) (tt_ja _) (by decide) dX11_subscribeTo_288 (fun pl_46 hok_47 tr tl tw => ?_)
                    replace hm := hm.arr tr
                    replace hfr := hfr.arr tr
                    replace hC := tw _ hC
                    replace hfa := hfa.wr hkw tl (by decide)
                    refine jj_aload_n C dX11_subscribeTo_289 rfl ?_
                    refine tt_getF C hok_47 jk_12 0 (by decide) jw_34eaf3ba8b (t := (2, 2, 0)) hk0 (by decide) rfl rfl hm.1 dX11_subscribeTo_290 ?_
                    refine jj_iload C dX11_subscribeTo_293 rfl ?_
                    refine jj_iconst (v := 2) C dX11_subscribeTo_295 (by decide) ?_
                    refine jj_iadd (v := nI (18 + 5 * k)) C dX11_subscribeTo_296 (rl_addR (kn := 2) (by decide) (by omega)) ?_
                    refine jj_dup2 C dX11_subscribeTo_297 rfl rfl ?_
                    refine rl_lald C hok_47 (t := (1, (-9223372036854775808), 9223372036854775807)) hkw (by decide) rfl (k := 18 + 5 * k) (v := (f (18 + 5 * k))) (vp_in_nI (by omega) (by decide)) hC (nI_clamp (by omega)) (rl_ne (by omega) (rl_ne (by omega) (rl_ne (by omega) (rl_ne (by omega) (rl_ne (by omega) (rl_ne (by omega) (rl_ne (by omega) rfl))))))) dX11_subscribeTo_298 ?_
                    refine jj_lload C dX11_subscribeTo_299 rfl ?_
                    refine jj_ladd C dX11_subscribeTo_301 rfl ?_
                    refine rl_last C hok_47 (t := (1, (-9223372036854775808), 9223372036854775807)) hkw (by decide) rfl (k := 18 + 5 * k) (vp_in_nI (by omega) (by decide)) (tt_ja _) (nI_clamp (by omega)) dX11_subscribeTo_302 (fun pl_48 hok_49 tr tl tw => ?_)
                    replace hm := hm.arr tr
                    replace hfr := hfr.arr tr
                    replace hC := tw _ hC
                    replace hfa := hfa.wr hkw tl (by decide)
                    refine jj_aload_n C dX11_subscribeTo_303 rfl ?_
                    refine tt_getF C hok_49 jk_12 0 (by decide) jw_34eaf3ba8b (t := (2, 2, 0)) hk0 (by decide) rfl rfl hm.1 dX11_subscribeTo_304 ?_
                    refine jj_iload C dX11_subscribeTo_307 rfl ?_
                    refine jj_iconst (v := 3) C dX11_subscribeTo_309 (by decide) ?_
                    refine jj_iadd (v := nI (19 + 5 * k)) C dX11_subscribeTo_310 (rl_addR (kn := 3) (by decide) (by omega)) ?_
                    refine jj_dup2 C dX11_subscribeTo_311 rfl rfl ?_
                    refine rl_lald C hok_49 (t := (1, (-9223372036854775808), 9223372036854775807)) hkw (by decide) rfl (k := 19 + 5 * k) (v := (f (19 + 5 * k))) (vp_in_nI (by omega) (by decide)) hC (nI_clamp (by omega)) (rl_ne (by omega) (rl_ne (by omega) (rl_ne (by omega) (rl_ne (by omega) (rl_ne (by omega) (rl_ne (by omega) (rl_ne (by omega) (rl_ne (by omega) rfl)))))))) dX11_subscribeTo_312 ?_
                    refine jj_lload C dX11_subscribeTo_313 rfl ?_
                    refine jj_ladd C dX11_subscribeTo_315 rfl ?_
                    refine rl_last C hok_49 (t := (1, (-9223372036854775808), 9223372036854775807)) hkw (by decide) rfl (k := 19 + 5 * k) (vp_in_nI (by omega) (by decide)) (tt_ja _) (nI_clamp (by omega)) dX11_subscribeTo_316 (fun pl_50 hok_51 tr tl tw => ?_)
                    replace hm := hm.arr tr
                    replace hfr := hfr.arr tr
                    replace hC := tw _ hC
                    replace hfa := hfa.wr hkw tl (by decide)
                    refine jj_aload_n C dX11_subscribeTo_317 rfl ?_
                    refine tt_getF C hok_51 jk_12 0 (by decide) jw_34eaf3ba8b (t := (2, 2, 0)) hk0 (by decide) rfl rfl hm.1 dX11_subscribeTo_318 ?_
                    refine jj_bipush (v := 12) C dX11_subscribeTo_321 (by decide) ?_
                    refine jj_dup2 C dX11_subscribeTo_323 rfl rfl ?_
                    refine rl_lald C hok_51 (t := (1, (-9223372036854775808), 9223372036854775807)) hkw (by decide) rfl (k := 12) (v := (f 12)) (vp_in_iff.mpr (by decide)) hC (by decide) (rl_ne (by omega) (rl_ne (by omega) (rl_ne (by omega) (rl_ne (by omega) (rl_ne (by omega) (rl_ne (by omega) (rl_ne (by omega) (rl_ne (by omega) (rl_ne (by omega) rfl))))))))) dX11_subscribeTo_324 ?_
                    refine jj_lload C dX11_subscribeTo_325 rfl ?_
                    refine jj_ladd C dX11_subscribeTo_327 rfl ?_
                    refine rl_last C hok_51 (t := (1, (-9223372036854775808), 9223372036854775807)) hkw (by decide) rfl (k := 12) (vp_in_iff.mpr (by decide)) (tt_ja _) (by decide) dX11_subscribeTo_328 (fun pl_52 hok_53 tr tl tw => ?_)
                    replace hm := hm.arr tr
                    replace hfr := hfr.arr tr
                    replace hC := tw _ hC
                    replace hfa := hfa.wr hkw tl (by decide)
                    refine jj_iload C dX11_subscribeTo_329 rfl ?_
                    exact jj_iret C ⟨[], pl_52, rfl, rfl, hok_53, hfr, hfa, (Or.inr (by have q9 := rl_subA hI hB hk (by omega) (by omega) ham (hI.grossb hB hP hk) c_9 (by omega) (by omega) (Or.inr ⟨by rw [c_28]; decide, c_29, rfl⟩) hm0 hB1 hP.1 (fun a ha _ => hP.2 a ha) (g := (vp_updL (vp_updL (vp_updL (vp_updL (vp_updL (vp_updL (vp_updL (vp_updL (vp_updL (vp_updL f (46 + 6 * n_19) (f (286 + 4 * q))) (47 + 6 * n_19) (f (16 + 5 * k))) (48 + 6 * n_19) (((f (288 + 4 * q)) * (100000 : Int64)) / (rg_gross f k))) (49 + 6 * n_19) (rg_gross f k)) (50 + 6 * n_19) (((((((f (288 + 4 * q)) * (100000 : Int64)) / (rg_gross f k)) * ((rg_gross f k) - (f (20 + 5 * k)))) * (f 3)) / (100 : Int64)) / (100000 : Int64))) (51 + 6 * n_19) (f 5)) 7 ((f 7) + (1 : Int64))) (18 + 5 * k) ((f (18 + 5 * k)) + (f (288 + 4 * q)))) (19 + 5 * k) ((f (19 + 5 * k)) + (((f (288 + 4 * q)) * (100000 : Int64)) / (rg_gross f k)))) 12 ((f 12) + (f (288 + 4 * q))))) rfl; exact ⟨_, hC, q9.1, q9.2.1, q9.2.2.1, q9.2.2.2.1, q9.2.2.2.2.1, q9.2.2.2.2.2, rfl⟩))⟩ dX11_subscribeTo_331 (jj_le rfl) (jj_le rfl)
              · have z_c_18 := jc_eq (a := ((16 + 5 * k : Nat) : Int)) (b := (-1)) c_18 (rl_ti (by omega)) (by decide)
                exfalso; omega
            · have z_c_17 := jc_eq (a := ((16 + 5 * k : Nat) : Int)) (b := (-1)) c_17 (rl_ti (by omega)) (by decide)
              exfalso; omega
      · have z_c_9 := jc_eqL (a := (rg_gross f k).toInt) (b := 0) c_9 rfl (by decide)
        refine jj_lconst (v := 0) C dX11_subscribeTo_51 (by decide) ?_
        refine jj_goto (tgt := 64) C dX11_subscribeTo_52 (by decide) ?_
        refine jj_lstore C dX11_subscribeTo_64 (by decide) rfl ?_
        refine jj_lload C dX11_subscribeTo_66 rfl ?_
        refine jj_lconst (v := 1) C dX11_subscribeTo_68 (by decide) ?_
        refine jj_ldc2 (v := 10000000) C dX11_subscribeTo_69 jw_916d704b4e ?_
        refine tt_call0S (rest := []) C (ct_X11_in_s2 hl D cA ak) jw_2a24feddee jw_12f28ccfda jw_f96c99f44d jw_e07c9ada56 jn_X11_in rfl (jj_le rfl) (jj_le rfl) (jj_le rfl) (jj_le rfl) (jj_le rfl) dX11_subscribeTo_72 rfl (fun w1 r O_54 => ?_)
        obtain ⟨-, rfl⟩ := O_54
        refine jj_if_eqT (tgt := 111) C dX11_subscribeTo_75 (by decide) (by decide) ?_
        refine jj_iconst (v := (-1)) C dX11_subscribeTo_111 (by decide) ?_
        exact jj_iret C ⟨[], pl_3, rfl, rfl, hok_4, hfr, hfa, (Or.inl ⟨hC, rfl⟩)⟩ dX11_subscribeTo_112 (jj_le rfl) (jj_le rfl)
    · have z_c_2 := jc_eqL (a := (f 1).toInt) (b := 0) c_2 rfl (by decide)
      refine jj_ldc2 (v := 1000000) C dX11_subscribeTo_31 jw_c832cf9acb ?_
      refine jj_goto (tgt := 42) C dX11_subscribeTo_34 (by decide) ?_
      refine jj_lstore C dX11_subscribeTo_42 (by decide) rfl ?_
      refine jj_lload C dX11_subscribeTo_44 rfl ?_
      refine jj_lconst (v := 0) C dX11_subscribeTo_46 (by decide) ?_
      refine jj_lcmp_neT (tgt := 55) C dX11_subscribeTo_47 dX11_subscribeTo_48 (by decide) (by decide) ?_
      refine jj_lload C dX11_subscribeTo_55 rfl ?_
      refine jj_ldc2 (v := 100000) C dX11_subscribeTo_57 jw_759d064724 ?_
      refine jj_lmul C dX11_subscribeTo_60 rfl ?_
      refine jj_lload C dX11_subscribeTo_61 rfl ?_
      refine jj_ldiv C dX11_subscribeTo_63 (by decide) rfl ?_
      refine jj_lstore C dX11_subscribeTo_64 (by decide) rfl ?_
      refine jj_lload C dX11_subscribeTo_66 rfl ?_
      refine jj_lconst (v := 1) C dX11_subscribeTo_68 (by decide) ?_
      refine jj_ldc2 (v := 10000000) C dX11_subscribeTo_69 jw_916d704b4e ?_
      refine tt_call0S (rest := []) C (ct_X11_in_s1 hl D cA ak (((f (288 + 4 * q)) * (100000 : Int64)) / (1000000 : Int64))) jw_2a24feddee jw_12f28ccfda jw_f96c99f44d jw_e07c9ada56 jn_X11_in rfl (jj_le rfl) (jj_le rfl) (jj_le rfl) (jj_le rfl) (jj_le rfl) dX11_subscribeTo_72 rfl (fun w1 r O_55 => ?_)
      rcases O_55 with ⟨c_56, -, rfl⟩ | ⟨c_57, c_58, -, rfl⟩ | ⟨c_59, c_60, -, rfl⟩
      · have z_c_56 := jc_ltL (a := (((f (288 + 4 * q)) * (100000 : Int64)) / (1000000 : Int64)).toInt) (b := 1) c_56 rfl (by decide)
        refine jj_if_eqT (tgt := 111) C dX11_subscribeTo_75 (by decide) (by decide) ?_
        refine jj_iconst (v := (-1)) C dX11_subscribeTo_111 (by decide) ?_
        exact jj_iret C ⟨[], pl0, rfl, rfl, hok, hfr, hfa, (Or.inl ⟨hC, rfl⟩)⟩ dX11_subscribeTo_112 (jj_le rfl) (jj_le rfl)
      · have z_c_57 := jc_nltL (a := (((f (288 + 4 * q)) * (100000 : Int64)) / (1000000 : Int64)).toInt) (b := 1) c_57 rfl (by decide)
        have z_c_58 := jc_ltL (a := 10000000) (b := (((f (288 + 4 * q)) * (100000 : Int64)) / (1000000 : Int64)).toInt) c_58 (by decide) rfl
        refine jj_if_eqT (tgt := 111) C dX11_subscribeTo_75 (by decide) (by decide) ?_
        refine jj_iconst (v := (-1)) C dX11_subscribeTo_111 (by decide) ?_
        exact jj_iret C ⟨[], pl0, rfl, rfl, hok, hfr, hfa, (Or.inl ⟨hC, rfl⟩)⟩ dX11_subscribeTo_112 (jj_le rfl) (jj_le rfl)
      · have z_c_59 := jc_nltL (a := (((f (288 + 4 * q)) * (100000 : Int64)) / (1000000 : Int64)).toInt) (b := 1) c_59 rfl (by decide)
        have z_c_60 := jc_nltL (a := 10000000) (b := (((f (288 + 4 * q)) * (100000 : Int64)) / (1000000 : Int64)).toInt) c_60 (by decide) rfl
        refine jj_if_eqF (tgt := 111) C dX11_subscribeTo_75 (by decide) (by decide) ?_
        refine jj_aload_n C dX11_subscribeTo_78 rfl ?_
        refine tt_getF C hok jk_12 0 (by decide) jw_34eaf3ba8b (t := (2, 2, 0)) hk0 (by decide) rfl rfl hm.1 dX11_subscribeTo_79 ?_
        refine jj_bipush (v := 7) C dX11_subscribeTo_82 (by decide) ?_
        refine rl_lald C hok (t := (1, (-9223372036854775808), 9223372036854775807)) hkw (by decide) rfl (k := 7) (v := (f 7)) (vp_in_iff.mpr (by decide)) hC (by decide) rfl dX11_subscribeTo_84 ?_
        refine jj_ldc2 (v := 40) C dX11_subscribeTo_85 jw_13decb34e5 ?_
        refine jj_lcmp_eq (tgt := 111) C dX11_subscribeTo_88 dX11_subscribeTo_89 (by decide) (fun c_61 => ?_) (fun c_61 => ?_)
        · have z_c_61 := jc_eqL (a := (f 7).toInt) (b := 40) c_61 rfl (by decide)
          refine jj_iconst (v := (-1)) C dX11_subscribeTo_111 (by decide) ?_
          exact jj_iret C ⟨[], pl0, rfl, rfl, hok, hfr, hfa, (Or.inl ⟨hC, rfl⟩)⟩ dX11_subscribeTo_112 (jj_le rfl) (jj_le rfl)
        · have z_c_61 := jc_neqL (a := (f 7).toInt) (b := 40) c_61 rfl (by decide)
          refine jj_iload_n C dX11_subscribeTo_92 rfl ?_
          refine jj_iconst (v := (-1)) C dX11_subscribeTo_93 (by decide) ?_
          refine jj_icmp_ne (tgt := 113) C dX11_subscribeTo_94 (by decide) (fun c_62 => ?_) (fun c_62 => ?_)
          · have z_c_62 := jc_neq (a := ((16 + 5 * k : Nat) : Int)) (b := (-1)) c_62 (rl_ti (by omega)) (by decide)
            refine jj_iload_n C dX11_subscribeTo_113 rfl ?_
            refine jj_iconst (v := (-1)) C dX11_subscribeTo_114 (by decide) ?_
            refine jj_icmp_ne (tgt := 125) C dX11_subscribeTo_115 (by decide) (fun c_63 => ?_) (fun c_63 => ?_)
            · have z_c_63 := jc_neq (a := ((16 + 5 * k : Nat) : Int)) (b := (-1)) c_63 (rl_ti (by omega)) (by decide)
              refine jj_iload_n C dX11_subscribeTo_125 rfl ?_
              refine jj_istore C dX11_subscribeTo_126 (by decide) rfl ?_
              refine jj_lload C dX11_subscribeTo_128 rfl ?_
              refine jj_aload_n C dX11_subscribeTo_130 rfl ?_
              refine tt_getF C hok jk_12 0 (by decide) jw_34eaf3ba8b (t := (2, 2, 0)) hk0 (by decide) rfl rfl hm.1 dX11_subscribeTo_131 ?_
              refine jj_iload C dX11_subscribeTo_134 rfl ?_
              refine jj_iconst (v := 4) C dX11_subscribeTo_136 (by decide) ?_
              refine jj_iadd (v := nI (20 + 5 * k)) C dX11_subscribeTo_137 (rl_addR (kn := 4) (by decide) (by omega)) ?_
              refine rl_lald C hok (t := (1, (-9223372036854775808), 9223372036854775807)) hkw (by decide) rfl (k := 20 + 5 * k) (v := (f (20 + 5 * k))) (vp_in_nI (by omega) (by decide)) hC (nI_clamp (by omega)) rfl dX11_subscribeTo_138 ?_
              refine jj_lsub C dX11_subscribeTo_139 rfl ?_
              refine jj_lstore C dX11_subscribeTo_140 (by decide) rfl ?_
              refine jj_aload_n C dX11_subscribeTo_142 rfl ?_
              refine tt_getF C hok jk_12 0 (by decide) jw_34eaf3ba8b (t := (2, 2, 0)) hk0 (by decide) rfl rfl hm.1 dX11_subscribeTo_143 ?_
              refine jj_bipush (v := 7) C dX11_subscribeTo_146 (by decide) ?_
              refine rl_lald C hok (t := (1, (-9223372036854775808), 9223372036854775807)) hkw (by decide) rfl (k := 7) (v := (f 7)) (vp_in_iff.mpr (by decide)) hC (by decide) rfl dX11_subscribeTo_148 ?_
              obtain ⟨n_64, en_64, vn_64⟩ := rl_l2i (x := (f 7)) (by omega) (by omega)
              refine jj_l2i (v := nI n_64) C dX11_subscribeTo_149 en_64 ?_
              refine tt_call0S (rest := []) C (rn_lotAt hl D cA ak n_64 (46 + 6 * n_64) (by omega)) jw_4c8c4b88e2 jw_0fa3e2bccb jw_f96c99f44d jw_d540d98a1c jn_X11_lotAt rfl (jj_le rfl) (jj_le rfl) (jj_le rfl) (jj_le rfl) (jj_le rfl) dX11_subscribeTo_150 rfl (fun w1 r hO => ?_)
              obtain ⟨-, rfl⟩ := hO
              refine jj_istore C dX11_subscribeTo_153 (by decide) rfl ?_
              refine jj_aload_n C dX11_subscribeTo_155 rfl ?_
              refine tt_getF C hok jk_12 0 (by decide) jw_34eaf3ba8b (t := (2, 2, 0)) hk0 (by decide) rfl rfl hm.1 dX11_subscribeTo_156 ?_
              refine jj_iload C dX11_subscribeTo_159 rfl ?_
              refine jj_iconst (v := 0) C dX11_subscribeTo_161 (by decide) ?_
              refine jj_iadd (v := nI (46 + 6 * n_64)) C dX11_subscribeTo_162 (rl_addR (kn := 0) (by decide) (by omega)) ?_
              refine jj_aload_n C dX11_subscribeTo_163 rfl ?_
              refine tt_getF C hok jk_12 0 (by decide) jw_34eaf3ba8b (t := (2, 2, 0)) hk0 (by decide) rfl rfl hm.1 dX11_subscribeTo_164 ?_
              refine jj_iload_n C dX11_subscribeTo_167 rfl ?_
              refine jj_iconst (v := 0) C dX11_subscribeTo_168 (by decide) ?_
              refine jj_iadd (v := nI (286 + 4 * q)) C dX11_subscribeTo_169 (rl_addR (kn := 0) (by decide) (by omega)) ?_
              refine rl_lald C hok (t := (1, (-9223372036854775808), 9223372036854775807)) hkw (by decide) rfl (k := 286 + 4 * q) (v := (f (286 + 4 * q))) (vp_in_nI (by omega) (by decide)) hC (nI_clamp (by omega)) rfl dX11_subscribeTo_170 ?_
              refine rl_last C hok (t := (1, (-9223372036854775808), 9223372036854775807)) hkw (by decide) rfl (k := 46 + 6 * n_64) (vp_in_nI (by omega) (by decide)) (tt_ja _) (nI_clamp (by omega)) dX11_subscribeTo_171 (fun pl_65 hok_66 tr tl tw => ?_)
              replace hm := hm.arr tr
              replace hfr := hfr.arr tr
              replace hC := tw _ hC
              replace hfa := hfa.wr hkw tl (by decide)
              refine jj_aload_n C dX11_subscribeTo_172 rfl ?_
              refine tt_getF C hok_66 jk_12 0 (by decide) jw_34eaf3ba8b (t := (2, 2, 0)) hk0 (by decide) rfl rfl hm.1 dX11_subscribeTo_173 ?_
              refine jj_iload C dX11_subscribeTo_176 rfl ?_
              refine jj_iconst (v := 1) C dX11_subscribeTo_178 (by decide) ?_
              refine jj_iadd (v := nI (47 + 6 * n_64)) C dX11_subscribeTo_179 (rl_addR (kn := 1) (by decide) (by omega)) ?_
              refine jj_aload_n C dX11_subscribeTo_180 rfl ?_
              refine tt_getF C hok_66 jk_12 0 (by decide) jw_34eaf3ba8b (t := (2, 2, 0)) hk0 (by decide) rfl rfl hm.1 dX11_subscribeTo_181 ?_
              refine jj_iload C dX11_subscribeTo_184 rfl ?_
              refine jj_iconst (v := 0) C dX11_subscribeTo_186 (by decide) ?_
              refine jj_iadd (v := nI (16 + 5 * k)) C dX11_subscribeTo_187 (rl_addR (kn := 0) (by decide) (by omega)) ?_
              refine rl_lald C hok_66 (t := (1, (-9223372036854775808), 9223372036854775807)) hkw (by decide) rfl (k := 16 + 5 * k) (v := (f (16 + 5 * k))) (vp_in_nI (by omega) (by decide)) hC (nI_clamp (by omega)) (rl_ne (by omega) rfl) dX11_subscribeTo_188 ?_
              refine rl_last C hok_66 (t := (1, (-9223372036854775808), 9223372036854775807)) hkw (by decide) rfl (k := 47 + 6 * n_64) (vp_in_nI (by omega) (by decide)) (tt_ja _) (nI_clamp (by omega)) dX11_subscribeTo_189 (fun pl_67 hok_68 tr tl tw => ?_)
              replace hm := hm.arr tr
              replace hfr := hfr.arr tr
              replace hC := tw _ hC
              replace hfa := hfa.wr hkw tl (by decide)
              refine jj_aload_n C dX11_subscribeTo_190 rfl ?_
              refine tt_getF C hok_68 jk_12 0 (by decide) jw_34eaf3ba8b (t := (2, 2, 0)) hk0 (by decide) rfl rfl hm.1 dX11_subscribeTo_191 ?_
              refine jj_iload C dX11_subscribeTo_194 rfl ?_
              refine jj_iconst (v := 2) C dX11_subscribeTo_196 (by decide) ?_
              refine jj_iadd (v := nI (48 + 6 * n_64)) C dX11_subscribeTo_197 (rl_addR (kn := 2) (by decide) (by omega)) ?_
              refine jj_lload C dX11_subscribeTo_198 rfl ?_
              refine rl_last C hok_68 (t := (1, (-9223372036854775808), 9223372036854775807)) hkw (by decide) rfl (k := 48 + 6 * n_64) (vp_in_nI (by omega) (by decide)) (tt_ja _) (nI_clamp (by omega)) dX11_subscribeTo_200 (fun pl_69 hok_70 tr tl tw => ?_)
              replace hm := hm.arr tr
              replace hfr := hfr.arr tr
              replace hC := tw _ hC
              replace hfa := hfa.wr hkw tl (by decide)
              refine jj_aload_n C dX11_subscribeTo_201 rfl ?_
              refine tt_getF C hok_70 jk_12 0 (by decide) jw_34eaf3ba8b (t := (2, 2, 0)) hk0 (by decide) rfl rfl hm.1 dX11_subscribeTo_202 ?_
              refine jj_iload C dX11_subscribeTo_205 rfl ?_
              refine jj_iconst (v := 3) C dX11_subscribeTo_207 (by decide) ?_
              refine jj_iadd (v := nI (49 + 6 * n_64)) C dX11_subscribeTo_208 (rl_addR (kn := 3) (by decide) (by omega)) ?_
              refine jj_lload C dX11_subscribeTo_209 rfl ?_
              refine rl_last C hok_70 (t := (1, (-9223372036854775808), 9223372036854775807)) hkw (by decide) rfl (k := 49 + 6 * n_64) (vp_in_nI (by omega) (by decide)) (tt_ja _) (nI_clamp (by omega)) dX11_subscribeTo_211 (fun pl_71 hok_72 tr tl tw => ?_)
              replace hm := hm.arr tr
              replace hfr := hfr.arr tr
              replace hC := tw _ hC
              replace hfa := hfa.wr hkw tl (by decide)
              refine jj_aload_n C dX11_subscribeTo_212 rfl ?_
              refine tt_getF C hok_72 jk_12 0 (by decide) jw_34eaf3ba8b (t := (2, 2, 0)) hk0 (by decide) rfl rfl hm.1 dX11_subscribeTo_213 ?_
              refine jj_iload C dX11_subscribeTo_216 rfl ?_
              refine jj_iconst (v := 4) C dX11_subscribeTo_218 (by decide) ?_
              refine jj_iadd (v := nI (50 + 6 * n_64)) C dX11_subscribeTo_219 (rl_addR (kn := 4) (by decide) (by omega)) ?_
              refine jj_aload_n C dX11_subscribeTo_220 rfl ?_
              refine tt_getF C hok_72 jk_12 0 (by decide) jw_34eaf3ba8b (t := (2, 2, 0)) hk0 (by decide) rfl rfl hm.1 dX11_subscribeTo_221 ?_
              refine jj_iconst (v := 1) C dX11_subscribeTo_224 (by decide) ?_
              refine rl_lald C hok_72 (t := (1, (-9223372036854775808), 9223372036854775807)) hkw (by decide) rfl (k := 1) (v := (f 1)) (vp_in_iff.mpr (by decide)) hC (by decide) (rl_ne (by omega) (rl_ne (by omega) (rl_ne (by omega) (rl_ne (by omega) rfl)))) dX11_subscribeTo_225 ?_
              refine jj_lconst (v := 1) C dX11_subscribeTo_226 (by decide) ?_
              refine jj_lcmp_ne (tgt := 261) C dX11_subscribeTo_227 dX11_subscribeTo_228 (by decide) (fun c_73 => ?_) (fun c_73 => ?_)
              · have z_c_73 := jc_neqL (a := (f 1).toInt) (b := 1) c_73 rfl (by decide)
                refine jj_lconst (v := 0) C dX11_subscribeTo_261 (by decide) ?_
                refine rl_last C hok_72 (t := (1, (-9223372036854775808), 9223372036854775807)) hkw (by decide) rfl (k := 50 + 6 * n_64) (vp_in_nI (by omega) (by decide)) (tt_ja _) (nI_clamp (by omega)) dX11_subscribeTo_262 (fun pl_74 hok_75 tr tl tw => ?_)
                replace hm := hm.arr tr
                replace hfr := hfr.arr tr
                replace hC := tw _ hC
                replace hfa := hfa.wr hkw tl (by decide)
                refine jj_aload_n C dX11_subscribeTo_263 rfl ?_
                refine tt_getF C hok_75 jk_12 0 (by decide) jw_34eaf3ba8b (t := (2, 2, 0)) hk0 (by decide) rfl rfl hm.1 dX11_subscribeTo_264 ?_
                refine jj_iload C dX11_subscribeTo_267 rfl ?_
                refine jj_iconst (v := 5) C dX11_subscribeTo_269 (by decide) ?_
                refine jj_iadd (v := nI (51 + 6 * n_64)) C dX11_subscribeTo_270 (rl_addR (kn := 5) (by decide) (by omega)) ?_
                refine jj_aload_n C dX11_subscribeTo_271 rfl ?_
                refine tt_getF C hok_75 jk_12 0 (by decide) jw_34eaf3ba8b (t := (2, 2, 0)) hk0 (by decide) rfl rfl hm.1 dX11_subscribeTo_272 ?_
                refine jj_iconst (v := 5) C dX11_subscribeTo_275 (by decide) ?_
                refine rl_lald C hok_75 (t := (1, (-9223372036854775808), 9223372036854775807)) hkw (by decide) rfl (k := 5) (v := (f 5)) (vp_in_iff.mpr (by decide)) hC (by decide) (rl_ne (by omega) (rl_ne (by omega) (rl_ne (by omega) (rl_ne (by omega) (rl_ne (by omega) rfl))))) dX11_subscribeTo_276 ?_
                refine rl_last C hok_75 (t := (1, (-9223372036854775808), 9223372036854775807)) hkw (by decide) rfl (k := 51 + 6 * n_64) (vp_in_nI (by omega) (by decide)) (tt_ja _) (nI_clamp (by omega)) dX11_subscribeTo_277 (fun pl_76 hok_77 tr tl tw => ?_)
                replace hm := hm.arr tr
                replace hfr := hfr.arr tr
                replace hC := tw _ hC
                replace hfa := hfa.wr hkw tl (by decide)
                refine jj_aload_n C dX11_subscribeTo_278 rfl ?_
                refine tt_getF C hok_77 jk_12 0 (by decide) jw_34eaf3ba8b (t := (2, 2, 0)) hk0 (by decide) rfl rfl hm.1 dX11_subscribeTo_279 ?_
                refine jj_bipush (v := 7) C dX11_subscribeTo_282 (by decide) ?_
                refine jj_dup2 C dX11_subscribeTo_284 rfl rfl ?_
                refine rl_lald C hok_77 (t := (1, (-9223372036854775808), 9223372036854775807)) hkw (by decide) rfl (k := 7) (v := (f 7)) (vp_in_iff.mpr (by decide)) hC (by decide) (rl_ne (by omega) (rl_ne (by omega) (rl_ne (by omega) (rl_ne (by omega) (rl_ne (by omega) (rl_ne (by omega) rfl)))))) dX11_subscribeTo_285 ?_
                refine jj_lconst (v := 1) C dX11_subscribeTo_286 (by decide) ?_
                refine jj_ladd C dX11_subscribeTo_287 rfl ?_
                refine rl_last C hok_77 (t := (1, (-9223372036854775808), 9223372036854775807)) hkw (by decide) rfl (k := 7) (vp_in_iff.mpr (by decide)) (tt_ja _) (by decide) dX11_subscribeTo_288 (fun pl_78 hok_79 tr tl tw => ?_)
                replace hm := hm.arr tr
                replace hfr := hfr.arr tr
                replace hC := tw _ hC
                replace hfa := hfa.wr hkw tl (by decide)
                refine jj_aload_n C dX11_subscribeTo_289 rfl ?_
                refine tt_getF C hok_79 jk_12 0 (by decide) jw_34eaf3ba8b (t := (2, 2, 0)) hk0 (by decide) rfl rfl hm.1 dX11_subscribeTo_290 ?_
                refine jj_iload C dX11_subscribeTo_293 rfl ?_
                refine jj_iconst (v := 2) C dX11_subscribeTo_295 (by decide) ?_
                refine jj_iadd (v := nI (18 + 5 * k)) C dX11_subscribeTo_296 (rl_addR (kn := 2) (by decide) (by omega)) ?_
                refine jj_dup2 C dX11_subscribeTo_297 rfl rfl ?_
                refine rl_lald C hok_79 (t := (1, (-9223372036854775808), 9223372036854775807)) hkw (by decide) rfl (k := 18 + 5 * k) (v := (f (18 + 5 * k))) (vp_in_nI (by omega) (by decide)) hC (nI_clamp (by omega)) (rl_ne (by omega) (rl_ne (by omega) (rl_ne (by omega) (rl_ne (by omega) (rl_ne (by omega) (rl_ne (by omega) (rl_ne (by omega) rfl))))))) dX11_subscribeTo_298 ?_
                refine jj_lload C dX11_subscribeTo_299 rfl ?_
                refine jj_ladd C dX11_subscribeTo_301 rfl ?_
                refine rl_last C hok_79 (t := (1, (-9223372036854775808), 9223372036854775807)) hkw (by decide) rfl (k := 18 + 5 * k) (vp_in_nI (by omega) (by decide)) (tt_ja _) (nI_clamp (by omega)) dX11_subscribeTo_302 (fun pl_80 hok_81 tr tl tw => ?_)
                replace hm := hm.arr tr
                replace hfr := hfr.arr tr
                replace hC := tw _ hC
                replace hfa := hfa.wr hkw tl (by decide)
                refine jj_aload_n C dX11_subscribeTo_303 rfl ?_
                refine tt_getF C hok_81 jk_12 0 (by decide) jw_34eaf3ba8b (t := (2, 2, 0)) hk0 (by decide) rfl rfl hm.1 dX11_subscribeTo_304 ?_
                refine jj_iload C dX11_subscribeTo_307 rfl ?_
                refine jj_iconst (v := 3) C dX11_subscribeTo_309 (by decide) ?_
                refine jj_iadd (v := nI (19 + 5 * k)) C dX11_subscribeTo_310 (rl_addR (kn := 3) (by decide) (by omega)) ?_
                refine jj_dup2 C dX11_subscribeTo_311 rfl rfl ?_
                refine rl_lald C hok_81 (t := (1, (-9223372036854775808), 9223372036854775807)) hkw (by decide) rfl (k := 19 + 5 * k) (v := (f (19 + 5 * k))) (vp_in_nI (by omega) (by decide)) hC (nI_clamp (by omega)) (rl_ne (by omega) (rl_ne (by omega) (rl_ne (by omega) (rl_ne (by omega) (rl_ne (by omega) (rl_ne (by omega) (rl_ne (by omega) (rl_ne (by omega) rfl)))))))) dX11_subscribeTo_312 ?_
                refine jj_lload C dX11_subscribeTo_313 rfl ?_
                refine jj_ladd C dX11_subscribeTo_315 rfl ?_
                refine rl_last C hok_81 (t := (1, (-9223372036854775808), 9223372036854775807)) hkw (by decide) rfl (k := 19 + 5 * k) (vp_in_nI (by omega) (by decide)) (tt_ja _) (nI_clamp (by omega)) dX11_subscribeTo_316 (fun pl_82 hok_83 tr tl tw => ?_)
                replace hm := hm.arr tr
                replace hfr := hfr.arr tr
                replace hC := tw _ hC
                replace hfa := hfa.wr hkw tl (by decide)
                refine jj_aload_n C dX11_subscribeTo_317 rfl ?_
                refine tt_getF C hok_83 jk_12 0 (by decide) jw_34eaf3ba8b (t := (2, 2, 0)) hk0 (by decide) rfl rfl hm.1 dX11_subscribeTo_318 ?_
                refine jj_bipush (v := 12) C dX11_subscribeTo_321 (by decide) ?_
                refine jj_dup2 C dX11_subscribeTo_323 rfl rfl ?_
                refine rl_lald C hok_83 (t := (1, (-9223372036854775808), 9223372036854775807)) hkw (by decide) rfl (k := 12) (v := (f 12)) (vp_in_iff.mpr (by decide)) hC (by decide) (rl_ne (by omega) (rl_ne (by omega) (rl_ne (by omega) (rl_ne (by omega) (rl_ne (by omega) (rl_ne (by omega) (rl_ne (by omega) (rl_ne (by omega) (rl_ne (by omega) rfl))))))))) dX11_subscribeTo_324 ?_
                refine jj_lload C dX11_subscribeTo_325 rfl ?_
                refine jj_ladd C dX11_subscribeTo_327 rfl ?_
                refine rl_last C hok_83 (t := (1, (-9223372036854775808), 9223372036854775807)) hkw (by decide) rfl (k := 12) (vp_in_iff.mpr (by decide)) (tt_ja _) (by decide) dX11_subscribeTo_328 (fun pl_84 hok_85 tr tl tw => ?_)
                replace hm := hm.arr tr
                replace hfr := hfr.arr tr
                replace hC := tw _ hC
                replace hfa := hfa.wr hkw tl (by decide)
                refine jj_iload C dX11_subscribeTo_329 rfl ?_
                exact jj_iret C ⟨[], pl_84, rfl, rfl, hok_85, hfr, hfa, (Or.inr (by have q9 := rl_subA hI hB hk (by omega) (by omega) ham ⟨by decide, by decide⟩ (by decide) (by omega) (by omega) (Or.inl rfl) hm0 hB1 hP.1 (fun a ha _ => hP.2 a ha) (g := (vp_updL (vp_updL (vp_updL (vp_updL (vp_updL (vp_updL (vp_updL (vp_updL (vp_updL (vp_updL f (46 + 6 * n_64) (f (286 + 4 * q))) (47 + 6 * n_64) (f (16 + 5 * k))) (48 + 6 * n_64) (((f (288 + 4 * q)) * (100000 : Int64)) / (1000000 : Int64))) (49 + 6 * n_64) (1000000 : Int64)) (50 + 6 * n_64) (0 : Int64)) (51 + 6 * n_64) (f 5)) 7 ((f 7) + (1 : Int64))) (18 + 5 * k) ((f (18 + 5 * k)) + (f (288 + 4 * q)))) (19 + 5 * k) ((f (19 + 5 * k)) + (((f (288 + 4 * q)) * (100000 : Int64)) / (1000000 : Int64)))) 12 ((f 12) + (f (288 + 4 * q))))) rfl; exact ⟨_, hC, q9.1, q9.2.1, q9.2.2.1, q9.2.2.2.1, q9.2.2.2.2.1, q9.2.2.2.2.2, rfl⟩))⟩ dX11_subscribeTo_331 (jj_le rfl) (jj_le rfl)
              · have z_c_73 := jc_eqL (a := (f 1).toInt) (b := 1) c_73 rfl (by decide)
                exfalso; omega
            · have z_c_63 := jc_eq (a := ((16 + 5 * k : Nat) : Int)) (b := (-1)) c_63 (rl_ti (by omega)) (by decide)
              exfalso; omega
          · have z_c_62 := jc_eq (a := ((16 + 5 * k : Nat) : Int)) (b := (-1)) c_62 (rl_ti (by omega)) (by decide)
            exfalso; omega
