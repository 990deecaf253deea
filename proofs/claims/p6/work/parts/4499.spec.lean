
set_option maxHeartbeats 4000000 in
set_option maxRecDepth 100000 in
theorem ct_X11_in_s16 {l : Launch} (hl : l.stackTraces = false) (D : va_G) (cA : Nat → ClassId) (ak : (Nat → Nat) × (Nat → Nat)) (b0 : Int64) : jj_M l D cA ak yX11_in (.code yX11_in cX11_in 6 (some .boolean)) 0 0 0 0 [] [.long b0, .long 0, .long 9] (fun (w : va_W) (r : Option Value) => (b0 < 0 ∧ w = [] ∧ r = some (.int 0)) ∨ (¬ b0 < 0 ∧ 9 < b0 ∧ w = [] ∧ r = some (.int 0)) ∨ (¬ b0 < 0 ∧ ¬ 9 < b0 ∧ w = [] ∧ r = some (.int 1))) jj_noX := by
  refine jj_start hl (by decide) jw_e07c9ada56 (jj_le rfl) ?_
  intro p e s m args below meth c A hargs hA C hex hmn
  refine jj_lload_n C dX11_in_0 rfl ?_
  refine jj_lload_n C dX11_in_1 rfl ?_
  refine jj_lcmp_lt (tgt := 17) C dX11_in_2 dX11_in_3 (by decide) (fun c_1 => ?_) (fun c_1 => ?_)
  · refine jj_iconst (v := 0) C dX11_in_17 (by decide) ?_
    exact jj_zret C rfl (Or.inl ⟨c_1, rfl, rfl⟩) dX11_in_18 (jj_le rfl) (jj_le rfl)
  · refine jj_lload_n C dX11_in_6 rfl ?_
    refine jj_lload C dX11_in_7 rfl ?_
    refine jj_lcmp_gt (tgt := 17) C dX11_in_9 dX11_in_10 (by decide) (fun c_2 => ?_) (fun c_2 => ?_)
    · refine jj_iconst (v := 0) C dX11_in_17 (by decide) ?_
      exact jj_zret C rfl (Or.inr (Or.inl ⟨c_1, c_2, rfl, rfl⟩)) dX11_in_18 (jj_le rfl) (jj_le rfl)
    · refine jj_iconst (v := 1) C dX11_in_13 (by decide) ?_
      refine jj_goto (tgt := 18) C dX11_in_14 (by decide) ?_
      exact jj_zret C rfl (Or.inr (Or.inr ⟨c_1, c_2, rfl, rfl⟩)) dX11_in_18 (jj_le rfl) (jj_le rfl)

set_option maxHeartbeats 4000000 in
set_option maxRecDepth 100000 in
theorem ct_X11_in_s17 {l : Launch} (hl : l.stackTraces = false) (D : va_G) (cA : Nat → ClassId) (ak : (Nat → Nat) × (Nat → Nat)) (b0 : Int64) : jj_M l D cA ak yX11_in (.code yX11_in cX11_in 6 (some .boolean)) 0 0 0 0 [] [.long b0, .long 0, .long 5] (fun (w : va_W) (r : Option Value) => (b0 < 0 ∧ w = [] ∧ r = some (.int 0)) ∨ (¬ b0 < 0 ∧ 5 < b0 ∧ w = [] ∧ r = some (.int 0)) ∨ (¬ b0 < 0 ∧ ¬ 5 < b0 ∧ w = [] ∧ r = some (.int 1))) jj_noX := by
  refine jj_start hl (by decide) jw_e07c9ada56 (jj_le rfl) ?_
  intro p e s m args below meth c A hargs hA C hex hmn
  refine jj_lload_n C dX11_in_0 rfl ?_
  refine jj_lload_n C dX11_in_1 rfl ?_
  refine jj_lcmp_lt (tgt := 17) C dX11_in_2 dX11_in_3 (by decide) (fun c_1 => ?_) (fun c_1 => ?_)
  · refine jj_iconst (v := 0) C dX11_in_17 (by decide) ?_
    exact jj_zret C rfl (Or.inl ⟨c_1, rfl, rfl⟩) dX11_in_18 (jj_le rfl) (jj_le rfl)
  · refine jj_lload_n C dX11_in_6 rfl ?_
    refine jj_lload C dX11_in_7 rfl ?_
    refine jj_lcmp_gt (tgt := 17) C dX11_in_9 dX11_in_10 (by decide) (fun c_2 => ?_) (fun c_2 => ?_)
    · refine jj_iconst (v := 0) C dX11_in_17 (by decide) ?_
      exact jj_zret C rfl (Or.inr (Or.inl ⟨c_1, c_2, rfl, rfl⟩)) dX11_in_18 (jj_le rfl) (jj_le rfl)
    · refine jj_iconst (v := 1) C dX11_in_13 (by decide) ?_
      refine jj_goto (tgt := 18) C dX11_in_14 (by decide) ?_
      exact jj_zret C rfl (Or.inr (Or.inr ⟨c_1, c_2, rfl, rfl⟩)) dX11_in_18 (jj_le rfl) (jj_le rfl)

set_option maxHeartbeats 4000000 in
set_option maxRecDepth 100000 in
theorem ct_X11_in_s18 {l : Launch} (hl : l.stackTraces = false) (D : va_G) (cA : Nat → ClassId) (ak : (Nat → Nat) × (Nat → Nat)) (b0 : Int64) : jj_M l D cA ak yX11_in (.code yX11_in cX11_in 6 (some .boolean)) 0 0 0 0 [] [.long b0, .long 0, .long 3] (fun (w : va_W) (r : Option Value) => (b0 < 0 ∧ w = [] ∧ r = some (.int 0)) ∨ (¬ b0 < 0 ∧ 3 < b0 ∧ w = [] ∧ r = some (.int 0)) ∨ (¬ b0 < 0 ∧ ¬ 3 < b0 ∧ w = [] ∧ r = some (.int 1))) jj_noX := by
  refine jj_start hl (by decide) jw_e07c9ada56 (jj_le rfl) ?_
  intro p e s m args below meth c A hargs hA C hex hmn
  refine jj_lload_n C dX11_in_0 rfl ?_
  refine jj_lload_n C dX11_in_1 rfl ?_
  refine jj_lcmp_lt (tgt := 17) C dX11_in_2 dX11_in_3 (by decide) (fun c_1 => ?_) (fun c_1 => ?_)
  · refine jj_iconst (v := 0) C dX11_in_17 (by decide) ?_
    exact jj_zret C rfl (Or.inl ⟨c_1, rfl, rfl⟩) dX11_in_18 (jj_le rfl) (jj_le rfl)
  · refine jj_lload_n C dX11_in_6 rfl ?_
    refine jj_lload C dX11_in_7 rfl ?_
    refine jj_lcmp_gt (tgt := 17) C dX11_in_9 dX11_in_10 (by decide) (fun c_2 => ?_) (fun c_2 => ?_)
    · refine jj_iconst (v := 0) C dX11_in_17 (by decide) ?_
      exact jj_zret C rfl (Or.inr (Or.inl ⟨c_1, c_2, rfl, rfl⟩)) dX11_in_18 (jj_le rfl) (jj_le rfl)
    · refine jj_iconst (v := 1) C dX11_in_13 (by decide) ?_
      refine jj_goto (tgt := 18) C dX11_in_14 (by decide) ?_
      exact jj_zret C rfl (Or.inr (Or.inr ⟨c_1, c_2, rfl, rfl⟩)) dX11_in_18 (jj_le rfl) (jj_le rfl)

set_option maxHeartbeats 4000000 in
set_option maxRecDepth 100000 in
theorem rs_count {l : Launch} (hl : l.stackTraces = false) (D : va_G) (cA : Nat → ClassId) (ak : (Nat → Nat) × (Nat → Nat)) {Kd : Nat → Nat} {h0 aw aa at0 ai af ap : Nat} (n6 : Nat) (p1 : Int32) (B C9 : Int) (f P : Nat → Int64) (hk0 : Kd h0 = 1) (hkw : Kd aw = 2) (hka : Kd aa = 3) (hkt : Kd at0 = 4) (hki : Kd ai = 5) (hkf : Kd af = 6) (hkp : Kd ap = 7) (ln6 : (0 : Int) ≤ (n6 : Int)) (un6 : (n6 : Int) ≤ 10) (hK : rl_K B C9 f) (hHP : rl_HP B C9 P n6) (hB5 : B ≤ 43520000000) (hB0 : 12760000000 ≤ B) (hC9 : 0 ≤ C9 ∧ C9 ≤ 4000000000000000000) {pl0 : va_W} (hok : tt_ok rt_tk cA Kd pl0) (hm : rl_m pl0 h0 aw aa at0 ai af ap) (hC : tt_lc pl0 aw f) (hCp : tt_lc pl0 ap P) (hs6 : tt_at pl0 h0 6 (.int (nI n6))) : jj_M l D cA ak yX11_count (.code yX11_count cX11_count 2 (some .int)) 1 25 0 0 ([] ++ pl0) [.ref h0, .int p1] (tt_O (fun rx pl1 r => rx = [] ∧ tt_ok rt_tk cA Kd pl1 ∧ tt_fr Kd [(1, 7)] pl0 pl1 ∧ tt_fa Kd [] pl0 pl1 ∧ ((rl_M (B + 30000000) (C9 + 2000) pl1 h0 aw ap ∧ ∃ v : Int32, r = some (.int v))))) (tt_OX (fun _ _ _ => False)) := by
  refine jj_start hl (by decide) jw_56287947ed (jj_le rfl) ?_
  intro p e s m args below meth c A hargs hA C hex hmn
  have hfr := tt_fr.refl (K := Kd) (WS := [(1, 7)]) pl0
  have hfa := tt_fa.refl (K := Kd) (WA := []) pl0
  have hI := hK.1
  have hP := hK.2.1
  have hH := hI.1.1
  obtain ⟨⟨g0a, g0b⟩, ⟨g1a, g1b⟩, ⟨g6a, g6b⟩, ⟨g7a, g7b⟩, ⟨g8a, g8b⟩⟩ := hH
  have hB : B ≤ 43920000000 := by omega
  have hB6 : B + 360000000 ≤ 43920000000 := by omega
  have h9a := hK.2.2.1
  have h9b := hK.2.2.2
  have h9 : 0 ≤ (f 9).toInt ∧ (f 9).toInt < 4611686018427387000 := ⟨h9a, by omega⟩
  have lp1 := tt_lo p1
  have up1 := tt_hi p1
  refine jj_aload_n C dX11_count_0 rfl ?_
  refine jj_iload_n C dX11_count_1 rfl ?_
  obtain ⟨y_1, ey_1, vy_1⟩ := tt_i2l p1
  refine jj_i2l (v := y_1) C dX11_count_2 ey_1 ?_
  refine jj_lconst (v := 0) C dX11_count_3 (by decide) ?_
  refine jj_ldc2 (v := 9) C dX11_count_4 jw_9a85c015b2 ?_
  refine tt_call0S (rest := [.ref h0]) C (ct_X11_in_s16 hl D cA ak y_1) jw_2a24feddee jw_12f28ccfda jw_f96c99f44d jw_e07c9ada56 jn_X11_in rfl (jj_le rfl) (jj_le rfl) (jj_le rfl) (jj_le rfl) (jj_le rfl) dX11_count_7 rfl (fun w1 r O_2 => ?_)
  rcases O_2 with ⟨c_3, -, rfl⟩ | ⟨c_4, c_5, -, rfl⟩ | ⟨c_6, c_7, -, rfl⟩
  · have z_c_3 := jc_ltL (a := y_1.toInt) (b := 0) c_3 rfl (by decide)
    refine jj_if_neF (tgt := 17) C dX11_count_10 (by decide) (by decide) ?_
    refine jj_iconst (v := 1) C dX11_count_13 (by decide) ?_
    refine jj_goto (tgt := 18) C dX11_count_14 (by decide) ?_
    refine jj_iconst (v := 1) C dX11_count_18 (by decide) ?_
    obtain ⟨qc, gs, hqc⟩ := tt_recv (cx := []) hok hk0 (by decide) rfl
    refine tt_callV (rest := []) C (rc_X11_fails_f00e4f hl D cA ak hk0 hkw hka hkt hki hkf hkp hok hm) [] [] rfl rfl (by decide) (by decide) (by decide) qc hqc rfl rfl jw_9c28fd2e32 jw_193b10eb43 jw_69bbe80566 jw_f96c99f44d jw_a520512e18 jn_X11_fails rfl (jj_le rfl) (jj_le rfl) (jj_le rfl) (jj_le rfl) (jj_le rfl) dX11_count_19 rfl (fun _ _ _ hX => hX.elim) (fun rx pl_8 r O_12 => ?_)
    obtain ⟨rfl, hok_9, hr_10, ha_11, hR_13⟩ := O_12
    replace hs6 := hr_10.at hk0 (by decide) (by decide) hs6
    replace hC := ha_11.at hkw (by decide) (by decide) hC
    replace hCp := ha_11.at hkp (by decide) (by decide) hCp
    replace hm := hm.fr hr_10 hk0 rfl
    replace hfr := hfr.trans (hr_10.sub (by decide))
    replace hfa := hfa.trans (ha_11.sub (by decide))
    obtain rfl := hR_13
    refine jj_if_eqF (tgt := 29) C dX11_count_22 (by decide) (by decide) ?_
    refine jj_iconst (v := 0) C dX11_count_25 (by decide) ?_
    refine jj_goto (tgt := 36) C dX11_count_26 (by decide) ?_
    exact jj_iret C ⟨[], pl_8, rfl, rfl, hok_9, hfr, hfa, ⟨⟨_, _, n6, hC, hCp, hs6, (by omega), (hK.mono (by omega) (by omega)), hHP.mono (by omega) (by omega)⟩, (0 : Int32), rfl⟩⟩ dX11_count_36 (jj_le rfl) (jj_le rfl)
  · have z_c_4 := jc_nltL (a := y_1.toInt) (b := 0) c_4 rfl (by decide)
    have z_c_5 := jc_ltL (a := 9) (b := y_1.toInt) c_5 (by decide) rfl
    refine jj_if_neF (tgt := 17) C dX11_count_10 (by decide) (by decide) ?_
    refine jj_iconst (v := 1) C dX11_count_13 (by decide) ?_
    refine jj_goto (tgt := 18) C dX11_count_14 (by decide) ?_
    refine jj_iconst (v := 1) C dX11_count_18 (by decide) ?_
    obtain ⟨qc, gs, hqc⟩ := tt_recv (cx := []) hok hk0 (by decide) rfl
    refine tt_callV (rest := []) C (rc_X11_fails_f00e4f hl D cA ak hk0 hkw hka hkt hki hkf hkp hok hm) [] [] rfl rfl (by decide) (by decide) (by decide) qc hqc rfl rfl jw_9c28fd2e32 jw_193b10eb43 jw_69bbe80566 jw_f96c99f44d jw_a520512e18 jn_X11_fails rfl (jj_le rfl) (jj_le rfl) (jj_le rfl) (jj_le rfl) (jj_le rfl) dX11_count_19 rfl (fun _ _ _ hX => hX.elim) (fun rx pl_14 r O_18 => ?_)
    obtain ⟨rfl, hok_15, hr_16, ha_17, hR_19⟩ := O_18
    replace hs6 := hr_16.at hk0 (by decide) (by decide) hs6
    replace hC := ha_17.at hkw (by decide) (by decide) hC
    replace hCp := ha_17.at hkp (by decide) (by decide) hCp
    replace hm := hm.fr hr_16 hk0 rfl
    replace hfr := hfr.trans (hr_16.sub (by decide))
    replace hfa := hfa.trans (ha_17.sub (by decide))
    obtain rfl := hR_19
    refine jj_if_eqF (tgt := 29) C dX11_count_22 (by decide) (by decide) ?_
    refine jj_iconst (v := 0) C dX11_count_25 (by decide) ?_
    refine jj_goto (tgt := 36) C dX11_count_26 (by decide) ?_
    exact jj_iret C ⟨[], pl_14, rfl, rfl, hok_15, hfr, hfa, ⟨⟨_, _, n6, hC, hCp, hs6, (by omega), (hK.mono (by omega) (by omega)), hHP.mono (by omega) (by omega)⟩, (0 : Int32), rfl⟩⟩ dX11_count_36 (jj_le rfl) (jj_le rfl)
  · have z_c_6 := jc_nltL (a := y_1.toInt) (b := 0) c_6 rfl (by decide)
    have z_c_7 := jc_nltL (a := 9) (b := y_1.toInt) c_7 (by decide) rfl
    refine jj_if_neT (tgt := 17) C dX11_count_10 (by decide) (by decide) ?_
    refine jj_iconst (v := 0) C dX11_count_17 (by decide) ?_
    refine jj_iconst (v := 1) C dX11_count_18 (by decide) ?_
    obtain ⟨qc, gs, hqc⟩ := tt_recv (cx := []) hok hk0 (by decide) rfl
    refine tt_callV (rest := []) C (rc_X11_fails_8f9520 hl D cA ak hk0 hkw hka hkt hki hkf hkp hok hm) [] [] rfl rfl (by decide) (by decide) (by decide) qc hqc rfl rfl jw_9c28fd2e32 jw_193b10eb43 jw_69bbe80566 jw_f96c99f44d jw_a520512e18 jn_X11_fails rfl (jj_le rfl) (jj_le rfl) (jj_le rfl) (jj_le rfl) (jj_le rfl) dX11_count_19 rfl (fun _ _ _ hX => hX.elim) (fun rx pl_20 r O_24 => ?_)
    obtain ⟨rfl, hok_21, hr_22, ha_23, hR_25⟩ := O_24
    replace hs6 := hr_22.at hk0 (by decide) (by decide) hs6
    replace hC := ha_23.at hkw (by decide) (by decide) hC
    replace hCp := ha_23.at hkp (by decide) (by decide) hCp
    replace hm := hm.fr hr_22 hk0 rfl
    replace hfr := hfr.trans (hr_22.sub (by decide))
    replace hfa := hfa.trans (ha_23.sub (by decide))
    obtain rfl := hR_25
    refine jj_if_eqT (tgt := 29) C dX11_count_22 (by decide) (by decide) ?_
    refine jj_aload_n C dX11_count_29 rfl ?_
    refine tt_getF C hok_21 jk_12 0 (by decide) jw_34eaf3ba8b (t := (2, 2, 0)) hk0 (by decide) rfl rfl hm.1 dX11_count_30 ?_
    refine jj_iload_n C dX11_count_33 rfl ?_
    obtain ⟨n_26, rfl, bn_26⟩ := rl_nat (x := p1) (by omega)
    have vn_26 := rl_ti bn_26
    refine rl_lald C hok_21 (t := (1, (-9223372036854775808), 9223372036854775807)) hkw (by decide) rfl (k := n_26) (v := (f n_26)) (vp_in_nI (by omega) (by decide)) hC (nI_clamp (by omega)) rfl dX11_count_34 ?_
    obtain ⟨x_27, ex_27⟩ : ∃ z : Int32, (f n_26).toInt32 = z := ⟨_, rfl⟩
    refine jj_l2i (v := x_27) C dX11_count_35 ex_27 ?_
    exact jj_iret C ⟨[], pl_20, rfl, rfl, hok_21, hfr, hfa, ⟨⟨_, _, n6, hC, hCp, hs6, (by omega), (hK.mono (by omega) (by omega)), hHP.mono (by omega) (by omega)⟩, x_27, rfl⟩⟩ dX11_count_36 (jj_le rfl) (jj_le rfl)

set_option maxHeartbeats 4000000 in
set_option maxRecDepth 100000 in
theorem rs_account {l : Launch} (hl : l.stackTraces = false) (D : va_G) (cA : Nat → ClassId) (ak : (Nat → Nat) × (Nat → Nat)) {Kd : Nat → Nat} {h0 aw aa at0 ai af ap : Nat} (n6 : Nat) (p1 : Int32) (B C9 : Int) (f P : Nat → Int64) (hk0 : Kd h0 = 1) (hkw : Kd aw = 2) (hka : Kd aa = 3) (hkt : Kd at0 = 4) (hki : Kd ai = 5) (hkf : Kd af = 6) (hkp : Kd ap = 7) (ln6 : (0 : Int) ≤ (n6 : Int)) (un6 : (n6 : Int) ≤ 10) (hK : rl_K B C9 f) (hHP : rl_HP B C9 P n6) (hB5 : B ≤ 43520000000) (hB0 : 12760000000 ≤ B) (hC9 : 0 ≤ C9 ∧ C9 ≤ 4000000000000000000) {pl0 : va_W} (hok : tt_ok rt_tk cA Kd pl0) (hm : rl_m pl0 h0 aw aa at0 ai af ap) (hC : tt_lc pl0 aw f) (hCp : tt_lc pl0 ap P) (hs6 : tt_at pl0 h0 6 (.int (nI n6))) : jj_M l D cA ak yX11_account (.code yX11_account cX11_account 2 (some .long)) 1 25 0 0 ([] ++ pl0) [.ref h0, .int p1] (tt_O (fun rx pl1 r => rx = [] ∧ tt_ok rt_tk cA Kd pl1 ∧ tt_fr Kd [(1, 7)] pl0 pl1 ∧ tt_fa Kd [] pl0 pl1 ∧ ((rl_M (B + 30000000) (C9 + 2000) pl1 h0 aw ap ∧ ∃ v : Int64, r = some (.long v))))) (tt_OX (fun _ _ _ => False)) := by
  refine jj_start hl (by decide) jw_3e9460b5de (jj_le rfl) ?_
  intro p e s m args below meth c A hargs hA C hex hmn
  have hfr := tt_fr.refl (K := Kd) (WS := [(1, 7)]) pl0
  have hfa := tt_fa.refl (K := Kd) (WA := []) pl0
  have hI := hK.1
  have hP := hK.2.1
  have hH := hI.1.1
  obtain ⟨⟨g0a, g0b⟩, ⟨g1a, g1b⟩, ⟨g6a, g6b⟩, ⟨g7a, g7b⟩, ⟨g8a, g8b⟩⟩ := hH
  have hB : B ≤ 43920000000 := by omega
  have hB6 : B + 360000000 ≤ 43920000000 := by omega
  have h9a := hK.2.2.1
  have h9b := hK.2.2.2
  have h9 : 0 ≤ (f 9).toInt ∧ (f 9).toInt < 4611686018427387000 := ⟨h9a, by omega⟩
  have lp1 := tt_lo p1
  have up1 := tt_hi p1
  refine jj_aload_n C dX11_account_0 rfl ?_
  refine jj_iload_n C dX11_account_1 rfl ?_
  obtain ⟨y_1, ey_1, vy_1⟩ := tt_i2l p1
  refine jj_i2l (v := y_1) C dX11_account_2 ey_1 ?_
  refine jj_lconst (v := 0) C dX11_account_3 (by decide) ?_
  refine jj_ldc2 (v := 5) C dX11_account_4 jw_5892650a06 ?_
  refine tt_call0S (rest := [.ref h0]) C (ct_X11_in_s17 hl D cA ak y_1) jw_2a24feddee jw_12f28ccfda jw_f96c99f44d jw_e07c9ada56 jn_X11_in rfl (jj_le rfl) (jj_le rfl) (jj_le rfl) (jj_le rfl) (jj_le rfl) dX11_account_7 rfl (fun w1 r O_2 => ?_)
  rcases O_2 with ⟨c_3, -, rfl⟩ | ⟨c_4, c_5, -, rfl⟩ | ⟨c_6, c_7, -, rfl⟩
  · have z_c_3 := jc_ltL (a := y_1.toInt) (b := 0) c_3 rfl (by decide)
    refine jj_if_neF (tgt := 17) C dX11_account_10 (by decide) (by decide) ?_
    refine jj_iconst (v := 1) C dX11_account_13 (by decide) ?_
    refine jj_goto (tgt := 18) C dX11_account_14 (by decide) ?_
    refine jj_iconst (v := 1) C dX11_account_18 (by decide) ?_
    obtain ⟨qc, gs, hqc⟩ := tt_recv (cx := []) hok hk0 (by decide) rfl
    refine tt_callV (rest := []) C (rc_X11_fails_f00e4f hl D cA ak hk0 hkw hka hkt hki hkf hkp hok hm) [] [] rfl rfl (by decide) (by decide) (by decide) qc hqc rfl rfl jw_9c28fd2e32 jw_193b10eb43 jw_69bbe80566 jw_f96c99f44d jw_a520512e18 jn_X11_fails rfl (jj_le rfl) (jj_le rfl) (jj_le rfl) (jj_le rfl) (jj_le rfl) dX11_account_19 rfl (fun _ _ _ hX => hX.elim) (fun rx pl_8 r O_12 => ?_)
    obtain ⟨rfl, hok_9, hr_10, ha_11, hR_13⟩ := O_12
    replace hs6 := hr_10.at hk0 (by decide) (by decide) hs6
    replace hC := ha_11.at hkw (by decide) (by decide) hC
    replace hCp := ha_11.at hkp (by decide) (by decide) hCp
    replace hm := hm.fr hr_10 hk0 rfl
    replace hfr := hfr.trans (hr_10.sub (by decide))
    replace hfa := hfa.trans (ha_11.sub (by decide))
    obtain rfl := hR_13
    refine jj_if_eqF (tgt := 29) C dX11_account_22 (by decide) (by decide) ?_
    refine jj_lconst (v := 0) C dX11_account_25 (by decide) ?_
    refine jj_goto (tgt := 38) C dX11_account_26 (by decide) ?_
    exact jj_lret C ⟨[], pl_8, rfl, rfl, hok_9, hfr, hfa, ⟨⟨_, _, n6, hC, hCp, hs6, (by omega), (hK.mono (by omega) (by omega)), hHP.mono (by omega) (by omega)⟩, (0 : Int64), rfl⟩⟩ dX11_account_38 (jj_le rfl) (jj_le rfl)
  · have z_c_4 := jc_nltL (a := y_1.toInt) (b := 0) c_4 rfl (by decide)
    have z_c_5 := jc_ltL (a := 5) (b := y_1.toInt) c_5 (by decide) rfl
    refine jj_if_neF (tgt := 17) C dX11_account_10 (by decide) (by decide) ?_
    refine jj_iconst (v := 1) C dX11_account_13 (by decide) ?_
    refine jj_goto (tgt := 18) C dX11_account_14 (by decide) ?_
    refine jj_iconst (v := 1) C dX11_account_18 (by decide) ?_
    obtain ⟨qc, gs, hqc⟩ := tt_recv (cx := []) hok hk0 (by decide) rfl
    refine tt_callV (rest := []) C (rc_X11_fails_f00e4f hl D cA ak hk0 hkw hka hkt hki hkf hkp hok hm) [] [] rfl rfl (by decide) (by decide) (by decide) qc hqc rfl rfl jw_9c28fd2e32 jw_193b10eb43 jw_69bbe80566 jw_f96c99f44d jw_a520512e18 jn_X11_fails rfl (jj_le rfl) (jj_le rfl) (jj_le rfl) (jj_le rfl) (jj_le rfl) dX11_account_19 rfl (fun _ _ _ hX => hX.elim) (fun rx pl_14 r O_18 => ?_)
    obtain ⟨rfl, hok_15, hr_16, ha_17, hR_19⟩ := O_18
    replace hs6 := hr_16.at hk0 (by decide) (by decide) hs6
    replace hC := ha_17.at hkw (by decide) (by decide) hC
    replace hCp := ha_17.at hkp (by decide) (by decide) hCp
    replace hm := hm.fr hr_16 hk0 rfl
    replace hfr := hfr.trans (hr_16.sub (by decide))
    replace hfa := hfa.trans (ha_17.sub (by decide))
    obtain rfl := hR_19
    refine jj_if_eqF (tgt := 29) C dX11_account_22 (by decide) (by decide) ?_
    refine jj_lconst (v := 0) C dX11_account_25 (by decide) ?_
    refine jj_goto (tgt := 38) C dX11_account_26 (by decide) ?_
    exact jj_lret C ⟨[], pl_14, rfl, rfl, hok_15, hfr, hfa, ⟨⟨_, _, n6, hC, hCp, hs6, (by omega), (hK.mono (by omega) (by omega)), hHP.mono (by omega) (by omega)⟩, (0 : Int64), rfl⟩⟩ dX11_account_38 (jj_le rfl) (jj_le rfl)
  · have z_c_6 := jc_nltL (a := y_1.toInt) (b := 0) c_6 rfl (by decide)
    have z_c_7 := jc_nltL (a := 5) (b := y_1.toInt) c_7 (by decide) rfl
    refine jj_if_neT (tgt := 17) C dX11_account_10 (by decide) (by decide) ?_
    refine jj_iconst (v := 0) C dX11_account_17 (by decide) ?_
    refine jj_iconst (v := 1) C dX11_account_18 (by decide) ?_
    obtain ⟨qc, gs, hqc⟩ := tt_recv (cx := []) hok hk0 (by decide) rfl
    refine tt_callV (rest := []) C (rc_X11_fails_8f9520 hl D cA ak hk0 hkw hka hkt hki hkf hkp hok hm) [] [] rfl rfl (by decide) (by decide) (by decide) qc hqc rfl rfl jw_9c28fd2e32 jw_193b10eb43 jw_69bbe80566 jw_f96c99f44d jw_a520512e18 jn_X11_fails rfl (jj_le rfl) (jj_le rfl) (jj_le rfl) (jj_le rfl) (jj_le rfl) dX11_account_19 rfl (fun _ _ _ hX => hX.elim) (fun rx pl_20 r O_24 => ?_)
    obtain ⟨rfl, hok_21, hr_22, ha_23, hR_25⟩ := O_24
    replace hs6 := hr_22.at hk0 (by decide) (by decide) hs6
    replace hC := ha_23.at hkw (by decide) (by decide) hC
    replace hCp := ha_23.at hkp (by decide) (by decide) hCp
    replace hm := hm.fr hr_22 hk0 rfl
    replace hfr := hfr.trans (hr_22.sub (by decide))
    replace hfa := hfa.trans (ha_23.sub (by decide))
    obtain rfl := hR_25
    refine jj_if_eqT (tgt := 29) C dX11_account_22 (by decide) (by decide) ?_
    refine jj_aload_n C dX11_account_29 rfl ?_
    refine tt_getF C hok_21 jk_12 0 (by decide) jw_34eaf3ba8b (t := (2, 2, 0)) hk0 (by decide) rfl rfl hm.1 dX11_account_30 ?_
    refine jj_bipush (v := 10) C dX11_account_33 (by decide) ?_
    refine jj_iload_n C dX11_account_35 rfl ?_
    obtain ⟨x_26, ex_26, vx_26⟩ := tt_iadd (x := (10 : Int32)) (y := p1) (a := 10) (by decide) (b := p1.toInt) rfl (by omega) (by omega)
    refine jj_iadd (v := x_26) C dX11_account_36 ex_26 ?_
    obtain ⟨n_27, rfl, bn_27⟩ := rl_nat (x := x_26) (by omega)
    have vn_27 := rl_ti bn_27
    refine rl_lald C hok_21 (t := (1, (-9223372036854775808), 9223372036854775807)) hkw (by decide) rfl (k := n_27) (v := (f n_27)) (vp_in_nI (by omega) (by decide)) hC (nI_clamp (by omega)) rfl dX11_account_37 ?_
    exact jj_lret C ⟨[], pl_20, rfl, rfl, hok_21, hfr, hfa, ⟨⟨_, _, n6, hC, hCp, hs6, (by omega), (hK.mono (by omega) (by omega)), hHP.mono (by omega) (by omega)⟩, (f n_27), rfl⟩⟩ dX11_account_38 (jj_le rfl) (jj_le rfl)

set_option maxHeartbeats 4000000 in
set_option maxRecDepth 100000 in
theorem rs_openSeries {l : Launch} (hl : l.stackTraces = false) (D : va_G) (cA : Nat → ClassId) (ak : (Nat → Nat) × (Nat → Nat)) {Kd : Nat → Nat} {h0 aw aa at0 ai af ap : Nat} (n6 : Nat) (p1 : Int32) (B C9 : Int) (f P : Nat → Int64) (hk0 : Kd h0 = 1) (hkw : Kd aw = 2) (hka : Kd aa = 3) (hkt : Kd at0 = 4) (hki : Kd ai = 5) (hkf : Kd af = 6) (hkp : Kd ap = 7) (ln6 : (0 : Int) ≤ (n6 : Int)) (un6 : (n6 : Int) ≤ 10) (hK : rl_K B C9 f) (hHP : rl_HP B C9 P n6) (hB5 : B ≤ 43520000000) (hB0 : 12760000000 ≤ B) (hC9 : 0 ≤ C9 ∧ C9 ≤ 4000000000000000000) {pl0 : va_W} (hok : tt_ok rt_tk cA Kd pl0) (hm : rl_m pl0 h0 aw aa at0 ai af ap) (hC : tt_lc pl0 aw f) (hCp : tt_lc pl0 ap P) (hs6 : tt_at pl0 h0 6 (.int (nI n6))) : jj_M l D cA ak yX11_openSeries (.code yX11_openSeries cX11_openSeries 2 (some .int)) 1 25 0 0 ([] ++ pl0) [.ref h0, .int p1] (tt_O (fun rx pl1 r => rx = [] ∧ tt_ok rt_tk cA Kd pl1 ∧ tt_fr Kd [(1, 7)] pl0 pl1 ∧ tt_fa Kd [] pl0 pl1 ∧ ((rl_M (B + 30000000) (C9 + 2000) pl1 h0 aw ap ∧ ∃ v : Int32, r = some (.int v))))) (tt_OX (fun _ _ _ => False)) := by
  refine jj_start hl (by decide) jw_5fffbc3722 (jj_le rfl) ?_
  intro p e s m args below meth c A hargs hA C hex hmn
  have hfr := tt_fr.refl (K := Kd) (WS := [(1, 7)]) pl0
  have hfa := tt_fa.refl (K := Kd) (WA := []) pl0
  have hI := hK.1
  have hP := hK.2.1
  have hH := hI.1.1
  obtain ⟨⟨g0a, g0b⟩, ⟨g1a, g1b⟩, ⟨g6a, g6b⟩, ⟨g7a, g7b⟩, ⟨g8a, g8b⟩⟩ := hH
  have hB : B ≤ 43920000000 := by omega
  have hB6 : B + 360000000 ≤ 43920000000 := by omega
  have h9a := hK.2.2.1
  have h9b := hK.2.2.2
  have h9 : 0 ≤ (f 9).toInt ∧ (f 9).toInt < 4611686018427387000 := ⟨h9a, by omega⟩
  have lp1 := tt_lo p1
  have up1 := tt_hi p1
  refine jj_aload_n C dX11_openSeries_0 rfl ?_
  refine jj_iload_n C dX11_openSeries_1 rfl ?_
  obtain ⟨y_1, ey_1, vy_1⟩ := tt_i2l p1
  refine jj_i2l (v := y_1) C dX11_openSeries_2 ey_1 ?_
  refine jj_lconst (v := 0) C dX11_openSeries_3 (by decide) ?_
  refine jj_aload_n C dX11_openSeries_4 rfl ?_
  refine tt_getF C hok jk_12 0 (by decide) jw_34eaf3ba8b (t := (2, 2, 0)) hk0 (by decide) rfl rfl hm.1 dX11_openSeries_5 ?_
  refine jj_bipush (v := 6) C dX11_openSeries_8 (by decide) ?_
  refine rl_lald C hok (t := (1, (-9223372036854775808), 9223372036854775807)) hkw (by decide) rfl (k := 6) (v := (f 6)) (vp_in_iff.mpr (by decide)) hC (by decide) rfl dX11_openSeries_10 ?_
  refine jj_lconst (v := 1) C dX11_openSeries_11 (by decide) ?_
  obtain ⟨y_2, ey_2, vy_2⟩ := tt_lsub (x := (f 6)) (y := (1 : Int64)) (a := (f 6).toInt) rfl (b := 1) (by decide) (by omega) (by omega)
  refine jj_lsub (v := y_2) C dX11_openSeries_12 ey_2 ?_
  refine tt_call0S (rest := [.ref h0]) C (ct_X11_in_s3 hl D cA ak y_1 y_2) jw_2a24feddee jw_12f28ccfda jw_f96c99f44d jw_e07c9ada56 jn_X11_in rfl (jj_le rfl) (jj_le rfl) (jj_le rfl) (jj_le rfl) (jj_le rfl) dX11_openSeries_13 rfl (fun w1 r O_3 => ?_)
  rcases O_3 with ⟨c_4, -, rfl⟩ | ⟨c_5, c_6, -, rfl⟩ | ⟨c_7, c_8, -, rfl⟩
  · have z_c_4 := jc_ltL (a := y_1.toInt) (b := 0) c_4 rfl (by decide)
    refine jj_if_neF (tgt := 23) C dX11_openSeries_16 (by decide) (by decide) ?_
    refine jj_iconst (v := 1) C dX11_openSeries_19 (by decide) ?_
    refine jj_goto (tgt := 24) C dX11_openSeries_20 (by decide) ?_
    refine jj_iconst (v := 1) C dX11_openSeries_24 (by decide) ?_
    obtain ⟨qc, gs, hqc⟩ := tt_recv (cx := []) hok hk0 (by decide) rfl
    refine tt_callV (rest := []) C (rc_X11_fails_f00e4f hl D cA ak hk0 hkw hka hkt hki hkf hkp hok hm) [] [] rfl rfl (by decide) (by decide) (by decide) qc hqc rfl rfl jw_9c28fd2e32 jw_193b10eb43 jw_69bbe80566 jw_f96c99f44d jw_a520512e18 jn_X11_fails rfl (jj_le rfl) (jj_le rfl) (jj_le rfl) (jj_le rfl) (jj_le rfl) dX11_openSeries_25 rfl (fun _ _ _ hX => hX.elim) (fun rx pl_9 r O_13 => ?_)
    obtain ⟨rfl, hok_10, hr_11, ha_12, hR_14⟩ := O_13
    replace hs6 := hr_11.at hk0 (by decide) (by decide) hs6
    replace hC := ha_12.at hkw (by decide) (by decide) hC
    replace hCp := ha_12.at hkp (by decide) (by decide) hCp
    replace hm := hm.fr hr_11 hk0 rfl
    replace hfr := hfr.trans (hr_11.sub (by decide))
    replace hfa := hfa.trans (ha_12.sub (by decide))
    obtain rfl := hR_14
    refine jj_if_eqF (tgt := 35) C dX11_openSeries_28 (by decide) (by decide) ?_
    refine jj_iconst (v := 0) C dX11_openSeries_31 (by decide) ?_
    refine jj_goto (tgt := 47) C dX11_openSeries_32 (by decide) ?_
    exact jj_iret C ⟨[], pl_9, rfl, rfl, hok_10, hfr, hfa, ⟨⟨_, _, n6, hC, hCp, hs6, (by omega), (hK.mono (by omega) (by omega)), hHP.mono (by omega) (by omega)⟩, (0 : Int32), rfl⟩⟩ dX11_openSeries_47 (jj_le rfl) (jj_le rfl)
  · have z_c_5 := jc_nltL (a := y_1.toInt) (b := 0) c_5 rfl (by decide)
    have z_c_6 := jc_ltL (a := y_2.toInt) (b := y_1.toInt) c_6 rfl rfl
    refine jj_if_neF (tgt := 23) C dX11_openSeries_16 (by decide) (by decide) ?_
    refine jj_iconst (v := 1) C dX11_openSeries_19 (by decide) ?_
    refine jj_goto (tgt := 24) C dX11_openSeries_20 (by decide) ?_
    refine jj_iconst (v := 1) C dX11_openSeries_24 (by decide) ?_
    obtain ⟨qc, gs, hqc⟩ := tt_recv (cx := []) hok hk0 (by decide) rfl
    refine tt_callV (rest := []) C (rc_X11_fails_f00e4f hl D cA ak hk0 hkw hka hkt hki hkf hkp hok hm) [] [] rfl rfl (by decide) (by decide) (by decide) qc hqc rfl rfl jw_9c28fd2e32 jw_193b10eb43 jw_69bbe80566 jw_f96c99f44d jw_a520512e18 jn_X11_fails rfl (jj_le rfl) (jj_le rfl) (jj_le rfl) (jj_le rfl) (jj_le rfl) dX11_openSeries_25 rfl (fun _ _ _ hX => hX.elim) (fun rx pl_15 r O_19 => ?_)
    obtain ⟨rfl, hok_16, hr_17, ha_18, hR_20⟩ := O_19
    replace hs6 := hr_17.at hk0 (by decide) (by decide) hs6
    replace hC := ha_18.at hkw (by decide) (by decide) hC
    replace hCp := ha_18.at hkp (by decide) (by decide) hCp
    replace hm := hm.fr hr_17 hk0 rfl
    replace hfr := hfr.trans (hr_17.sub (by decide))
    replace hfa := hfa.trans (ha_18.sub (by decide))
    obtain rfl := hR_20
    refine jj_if_eqF (tgt := 35) C dX11_openSeries_28 (by decide) (by decide) ?_
    refine jj_iconst (v := 0) C dX11_openSeries_31 (by decide) ?_
    refine jj_goto (tgt := 47) C dX11_openSeries_32 (by decide) ?_
    exact jj_iret C ⟨[], pl_15, rfl, rfl, hok_16, hfr, hfa, ⟨⟨_, _, n6, hC, hCp, hs6, (by omega), (hK.mono (by omega) (by omega)), hHP.mono (by omega) (by omega)⟩, (0 : Int32), rfl⟩⟩ dX11_openSeries_47 (jj_le rfl) (jj_le rfl)
  · have z_c_7 := jc_nltL (a := y_1.toInt) (b := 0) c_7 rfl (by decide)
    have z_c_8 := jc_nltL (a := y_2.toInt) (b := y_1.toInt) c_8 rfl rfl
    refine jj_if_neT (tgt := 23) C dX11_openSeries_16 (by decide) (by decide) ?_
    refine jj_iconst (v := 0) C dX11_openSeries_23 (by decide) ?_
    refine jj_iconst (v := 1) C dX11_openSeries_24 (by decide) ?_
    obtain ⟨qc, gs, hqc⟩ := tt_recv (cx := []) hok hk0 (by decide) rfl
    refine tt_callV (rest := []) C (rc_X11_fails_8f9520 hl D cA ak hk0 hkw hka hkt hki hkf hkp hok hm) [] [] rfl rfl (by decide) (by decide) (by decide) qc hqc rfl rfl jw_9c28fd2e32 jw_193b10eb43 jw_69bbe80566 jw_f96c99f44d jw_a520512e18 jn_X11_fails rfl (jj_le rfl) (jj_le rfl) (jj_le rfl) (jj_le rfl) (jj_le rfl) dX11_openSeries_25 rfl (fun _ _ _ hX => hX.elim) (fun rx pl_21 r O_25 => ?_)
    obtain ⟨rfl, hok_22, hr_23, ha_24, hR_26⟩ := O_25
    replace hs6 := hr_23.at hk0 (by decide) (by decide) hs6
    replace hC := ha_24.at hkw (by decide) (by decide) hC
    replace hCp := ha_24.at hkp (by decide) (by decide) hCp
    replace hm := hm.fr hr_23 hk0 rfl
    replace hfr := hfr.trans (hr_23.sub (by decide))
    replace hfa := hfa.trans (ha_24.sub (by decide))
    obtain rfl := hR_26
    refine jj_if_eqT (tgt := 35) C dX11_openSeries_28 (by decide) (by decide) ?_
    refine jj_aload_n C dX11_openSeries_35 rfl ?_
    refine tt_getF C hok_22 jk_12 0 (by decide) jw_34eaf3ba8b (t := (2, 2, 0)) hk0 (by decide) rfl rfl hm.1 dX11_openSeries_36 ?_
    refine jj_iload_n C dX11_openSeries_39 rfl ?_
    obtain ⟨n_27, rfl, bn_27⟩ := rl_nat (x := p1) (by omega)
    have vn_27 := rl_ti bn_27
    refine tt_call0S (rest := [.ref aw]) C (rn_seriesAt hl D cA ak n_27 (16 + 5 * n_27) (by omega)) jw_6251557f40 jw_b2cd40a13f jw_f96c99f44d jw_6245231363 jn_X11_seriesAt rfl (jj_le rfl) (jj_le rfl) (jj_le rfl) (jj_le rfl) (jj_le rfl) dX11_openSeries_40 rfl (fun w1 r hO => ?_)
    obtain ⟨-, rfl⟩ := hO
    refine jj_iconst (v := 0) C dX11_openSeries_43 (by decide) ?_
    refine jj_iadd (v := nI (16 + 5 * n_27)) C dX11_openSeries_44 (rl_addR (kn := 0) (by decide) (by omega)) ?_
    refine rl_lald C hok_22 (t := (1, (-9223372036854775808), 9223372036854775807)) hkw (by decide) rfl (k := 16 + 5 * n_27) (v := (f (16 + 5 * n_27))) (vp_in_nI (by omega) (by decide)) hC (nI_clamp (by omega)) rfl dX11_openSeries_45 ?_
    obtain ⟨x_28, ex_28⟩ : ∃ z : Int32, (f (16 + 5 * n_27)).toInt32 = z := ⟨_, rfl⟩
    refine jj_l2i (v := x_28) C dX11_openSeries_46 ex_28 ?_
    exact jj_iret C ⟨[], pl_21, rfl, rfl, hok_22, hfr, hfa, ⟨⟨_, _, n6, hC, hCp, hs6, (by omega), (hK.mono (by omega) (by omega)), hHP.mono (by omega) (by omega)⟩, x_28, rfl⟩⟩ dX11_openSeries_47 (jj_le rfl) (jj_le rfl)

set_option maxHeartbeats 4000000 in
set_option maxRecDepth 100000 in
theorem rs_lot {l : Launch} (hl : l.stackTraces = false) (D : va_G) (cA : Nat → ClassId) (ak : (Nat → Nat) × (Nat → Nat)) {Kd : Nat → Nat} {h0 aw aa at0 ai af ap : Nat} (n6 : Nat) (p1 : Int32) (p2 : Int32) (B C9 : Int) (f P : Nat → Int64) (hk0 : Kd h0 = 1) (hkw : Kd aw = 2) (hka : Kd aa = 3) (hkt : Kd at0 = 4) (hki : Kd ai = 5) (hkf : Kd af = 6) (hkp : Kd ap = 7) (ln6 : (0 : Int) ≤ (n6 : Int)) (un6 : (n6 : Int) ≤ 10) (hK : rl_K B C9 f) (hHP : rl_HP B C9 P n6) (hB5 : B ≤ 43520000000) (hB0 : 12760000000 ≤ B) (hC9 : 0 ≤ C9 ∧ C9 ≤ 4000000000000000000) {pl0 : va_W} (hok : tt_ok rt_tk cA Kd pl0) (hm : rl_m pl0 h0 aw aa at0 ai af ap) (hC : tt_lc pl0 aw f) (hCp : tt_lc pl0 ap P) (hs6 : tt_at pl0 h0 6 (.int (nI n6))) : jj_M l D cA ak yX11_lot (.code yX11_lot cX11_lot 3 (some .long)) 1 25 0 0 ([] ++ pl0) [.ref h0, .int p1, .int p2] (tt_O (fun rx pl1 r => rx = [] ∧ tt_ok rt_tk cA Kd pl1 ∧ tt_fr Kd [(1, 7)] pl0 pl1 ∧ tt_fa Kd [] pl0 pl1 ∧ ((rl_M (B + 30000000) (C9 + 2000) pl1 h0 aw ap ∧ ∃ v : Int64, r = some (.long v))))) (tt_OX (fun _ _ _ => False)) := by
  refine jj_start hl (by decide) jw_e3c1929b38 (jj_le rfl) ?_
  intro p e s m args below meth c A hargs hA C hex hmn
  have hfr := tt_fr.refl (K := Kd) (WS := [(1, 7)]) pl0
  have hfa := tt_fa.refl (K := Kd) (WA := []) pl0
  have hI := hK.1
  have hP := hK.2.1
  have hH := hI.1.1
  obtain ⟨⟨g0a, g0b⟩, ⟨g1a, g1b⟩, ⟨g6a, g6b⟩, ⟨g7a, g7b⟩, ⟨g8a, g8b⟩⟩ := hH
  have hB : B ≤ 43920000000 := by omega
  have hB6 : B + 360000000 ≤ 43920000000 := by omega
  have h9a := hK.2.2.1
  have h9b := hK.2.2.2
  have h9 : 0 ≤ (f 9).toInt ∧ (f 9).toInt < 4611686018427387000 := ⟨h9a, by omega⟩
  have lp1 := tt_lo p1
  have up1 := tt_hi p1
  have lp2 := tt_lo p2
  have up2 := tt_hi p2
  refine jj_aload_n C dX11_lot_0 rfl ?_
  refine jj_iload_n C dX11_lot_1 rfl ?_
  obtain ⟨y_1, ey_1, vy_1⟩ := tt_i2l p1
  refine jj_i2l (v := y_1) C dX11_lot_2 ey_1 ?_
  refine jj_lconst (v := 0) C dX11_lot_3 (by decide) ?_
  refine jj_aload_n C dX11_lot_4 rfl ?_
  refine tt_getF C hok jk_12 0 (by decide) jw_34eaf3ba8b (t := (2, 2, 0)) hk0 (by decide) rfl rfl hm.1 dX11_lot_5 ?_
  refine jj_bipush (v := 7) C dX11_lot_8 (by decide) ?_
  refine rl_lald C hok (t := (1, (-9223372036854775808), 9223372036854775807)) hkw (by decide) rfl (k := 7) (v := (f 7)) (vp_in_iff.mpr (by decide)) hC (by decide) rfl dX11_lot_10 ?_
  refine jj_lconst (v := 1) C dX11_lot_11 (by decide) ?_
  obtain ⟨y_2, ey_2, vy_2⟩ := tt_lsub (x := (f 7)) (y := (1 : Int64)) (a := (f 7).toInt) rfl (b := 1) (by decide) (by omega) (by omega)
  refine jj_lsub (v := y_2) C dX11_lot_12 ey_2 ?_
  refine tt_call0S (rest := [.ref h0]) C (ct_X11_in_s3 hl D cA ak y_1 y_2) jw_2a24feddee jw_12f28ccfda jw_f96c99f44d jw_e07c9ada56 jn_X11_in rfl (jj_le rfl) (jj_le rfl) (jj_le rfl) (jj_le rfl) (jj_le rfl) dX11_lot_13 rfl (fun w1 r O_3 => ?_)
  rcases O_3 with ⟨c_4, -, rfl⟩ | ⟨c_5, c_6, -, rfl⟩ | ⟨c_7, c_8, -, rfl⟩
  · have z_c_4 := jc_ltL (a := y_1.toInt) (b := 0) c_4 rfl (by decide)
    refine jj_if_neF (tgt := 23) C dX11_lot_16 (by decide) (by decide) ?_
    refine jj_iconst (v := 1) C dX11_lot_19 (by decide) ?_
    refine jj_goto (tgt := 24) C dX11_lot_20 (by decide) ?_
    refine jj_iconst (v := 1) C dX11_lot_24 (by decide) ?_
    obtain ⟨qc, gs, hqc⟩ := tt_recv (cx := []) hok hk0 (by decide) rfl
    refine tt_callV (rest := []) C (rc_X11_fails_f00e4f hl D cA ak hk0 hkw hka hkt hki hkf hkp hok hm) [] [] rfl rfl (by decide) (by decide) (by decide) qc hqc rfl rfl jw_9c28fd2e32 jw_193b10eb43 jw_69bbe80566 jw_f96c99f44d jw_a520512e18 jn_X11_fails rfl (jj_le rfl) (jj_le rfl) (jj_le rfl) (jj_le rfl) (jj_le rfl) dX11_lot_25 rfl (fun _ _ _ hX => hX.elim) (fun rx pl_9 r O_13 => ?_)
    obtain ⟨rfl, hok_10, hr_11, ha_12, hR_14⟩ := O_13
    replace hs6 := hr_11.at hk0 (by decide) (by decide) hs6
    replace hC := ha_12.at hkw (by decide) (by decide) hC
    replace hCp := ha_12.at hkp (by decide) (by decide) hCp
    replace hm := hm.fr hr_11 hk0 rfl
    replace hfr := hfr.trans (hr_11.sub (by decide))
    replace hfa := hfa.trans (ha_12.sub (by decide))
    obtain rfl := hR_14
    refine jj_if_neT (tgt := 56) C dX11_lot_28 (by decide) (by decide) ?_
    refine jj_lconst (v := 0) C dX11_lot_56 (by decide) ?_
    refine jj_goto (tgt := 71) C dX11_lot_57 (by decide) ?_
    exact jj_lret C ⟨[], pl_9, rfl, rfl, hok_10, hfr, hfa, ⟨⟨_, _, n6, hC, hCp, hs6, (by omega), (hK.mono (by omega) (by omega)), hHP.mono (by omega) (by omega)⟩, (0 : Int64), rfl⟩⟩ dX11_lot_71 (jj_le rfl) (jj_le rfl)
  · have z_c_5 := jc_nltL (a := y_1.toInt) (b := 0) c_5 rfl (by decide)
    have z_c_6 := jc_ltL (a := y_2.toInt) (b := y_1.toInt) c_6 rfl rfl
    refine jj_if_neF (tgt := 23) C dX11_lot_16 (by decide) (by decide) ?_
    refine jj_iconst (v := 1) C dX11_lot_19 (by decide) ?_
    refine jj_goto (tgt := 24) C dX11_lot_20 (by decide) ?_
    refine jj_iconst (v := 1) C dX11_lot_24 (by decide) ?_
    obtain ⟨qc, gs, hqc⟩ := tt_recv (cx := []) hok hk0 (by decide) rfl
    refine tt_callV (rest := []) C (rc_X11_fails_f00e4f hl D cA ak hk0 hkw hka hkt hki hkf hkp hok hm) [] [] rfl rfl (by decide) (by decide) (by decide) qc hqc rfl rfl jw_9c28fd2e32 jw_193b10eb43 jw_69bbe80566 jw_f96c99f44d jw_a520512e18 jn_X11_fails rfl (jj_le rfl) (jj_le rfl) (jj_le rfl) (jj_le rfl) (jj_le rfl) dX11_lot_25 rfl (fun _ _ _ hX => hX.elim) (fun rx pl_15 r O_19 => ?_)
    obtain ⟨rfl, hok_16, hr_17, ha_18, hR_20⟩ := O_19
    replace hs6 := hr_17.at hk0 (by decide) (by decide) hs6
    replace hC := ha_18.at hkw (by decide) (by decide) hC
    replace hCp := ha_18.at hkp (by decide) (by decide) hCp
    replace hm := hm.fr hr_17 hk0 rfl
    replace hfr := hfr.trans (hr_17.sub (by decide))
    replace hfa := hfa.trans (ha_18.sub (by decide))
    obtain rfl := hR_20
    refine jj_if_neT (tgt := 56) C dX11_lot_28 (by decide) (by decide) ?_
    refine jj_lconst (v := 0) C dX11_lot_56 (by decide) ?_
    refine jj_goto (tgt := 71) C dX11_lot_57 (by decide) ?_
    exact jj_lret C ⟨[], pl_15, rfl, rfl, hok_16, hfr, hfa, ⟨⟨_, _, n6, hC, hCp, hs6, (by omega), (hK.mono (by omega) (by omega)), hHP.mono (by omega) (by omega)⟩, (0 : Int64), rfl⟩⟩ dX11_lot_71 (jj_le rfl) (jj_le rfl)
  · have z_c_7 := jc_nltL (a := y_1.toInt) (b := 0) c_7 rfl (by decide)
    have z_c_8 := jc_nltL (a := y_2.toInt) (b := y_1.toInt) c_8 rfl rfl
    refine jj_if_neT (tgt := 23) C dX11_lot_16 (by decide) (by decide) ?_
    refine jj_iconst (v := 0) C dX11_lot_23 (by decide) ?_
    refine jj_iconst (v := 1) C dX11_lot_24 (by decide) ?_
    obtain ⟨qc, gs, hqc⟩ := tt_recv (cx := []) hok hk0 (by decide) rfl
    refine tt_callV (rest := []) C (rc_X11_fails_8f9520 hl D cA ak hk0 hkw hka hkt hki hkf hkp hok hm) [] [] rfl rfl (by decide) (by decide) (by decide) qc hqc rfl rfl jw_9c28fd2e32 jw_193b10eb43 jw_69bbe80566 jw_f96c99f44d jw_a520512e18 jn_X11_fails rfl (jj_le rfl) (jj_le rfl) (jj_le rfl) (jj_le rfl) (jj_le rfl) dX11_lot_25 rfl (fun _ _ _ hX => hX.elim) (fun rx pl_21 r O_25 => ?_)
    obtain ⟨rfl, hok_22, hr_23, ha_24, hR_26⟩ := O_25
    replace hs6 := hr_23.at hk0 (by decide) (by decide) hs6
    replace hC := ha_24.at hkw (by decide) (by decide) hC
    replace hCp := ha_24.at hkp (by decide) (by decide) hCp
    replace hm := hm.fr hr_23 hk0 rfl
    replace hfr := hfr.trans (hr_23.sub (by decide))
    replace hfa := hfa.trans (ha_24.sub (by decide))
    obtain rfl := hR_26
    refine jj_if_neF (tgt := 56) C dX11_lot_28 (by decide) (by decide) ?_
    refine jj_aload_n C dX11_lot_31 rfl ?_
    refine jj_iload_n C dX11_lot_32 rfl ?_
    obtain ⟨y_27, ey_27, vy_27⟩ := tt_i2l p2
    refine jj_i2l (v := y_27) C dX11_lot_33 ey_27 ?_
    refine jj_lconst (v := 0) C dX11_lot_34 (by decide) ?_
    refine jj_ldc2 (v := 5) C dX11_lot_35 jw_5892650a06 ?_
    refine tt_call0S (rest := [.ref h0]) C (ct_X11_in_s17 hl D cA ak y_27) jw_2a24feddee jw_12f28ccfda jw_f96c99f44d jw_e07c9ada56 jn_X11_in rfl (jj_le rfl) (jj_le rfl) (jj_le rfl) (jj_le rfl) (jj_le rfl) dX11_lot_38 rfl (fun w1 r O_28 => ?_)
    rcases O_28 with ⟨c_29, -, rfl⟩ | ⟨c_30, c_31, -, rfl⟩ | ⟨c_32, c_33, -, rfl⟩
    · have z_c_29 := jc_ltL (a := y_27.toInt) (b := 0) c_29 rfl (by decide)
      refine jj_if_neF (tgt := 48) C dX11_lot_41 (by decide) (by decide) ?_
      refine jj_iconst (v := 1) C dX11_lot_44 (by decide) ?_
      refine jj_goto (tgt := 49) C dX11_lot_45 (by decide) ?_
      refine jj_iconst (v := 2) C dX11_lot_49 (by decide) ?_
      obtain ⟨qc, gs, hqc⟩ := tt_recv (cx := []) hok_22 hk0 (by decide) rfl
      refine tt_callV (rest := []) C (rc_X11_fails_685228 hl D cA ak hk0 hkw hka hkt hki hkf hkp hok_22 hm) [] [] rfl rfl (by decide) (by decide) (by decide) qc hqc rfl rfl jw_9c28fd2e32 jw_193b10eb43 jw_69bbe80566 jw_f96c99f44d jw_a520512e18 jn_X11_fails rfl (jj_le rfl) (jj_le rfl) (jj_le rfl) (jj_le rfl) (jj_le rfl) dX11_lot_50 rfl (fun _ _ _ hX => hX.elim) (fun rx pl_34 r O_38 => ?_)
      obtain ⟨rfl, hok_35, hr_36, ha_37, hR_39⟩ := O_38
      replace hs6 := hr_36.at hk0 (by decide) (by decide) hs6
      replace hC := ha_37.at hkw (by decide) (by decide) hC
      replace hCp := ha_37.at hkp (by decide) (by decide) hCp
      replace hm := hm.fr hr_36 hk0 rfl
      replace hfr := hfr.trans (hr_36.sub (by decide))
      replace hfa := hfa.trans (ha_37.sub (by decide))
      obtain rfl := hR_39
      refine jj_if_eqF (tgt := 60) C dX11_lot_53 (by decide) (by decide) ?_
      refine jj_lconst (v := 0) C dX11_lot_56 (by decide) ?_
      refine jj_goto (tgt := 71) C dX11_lot_57 (by decide) ?_
      exact jj_lret C ⟨[], pl_34, rfl, rfl, hok_35, hfr, hfa, ⟨⟨_, _, n6, hC, hCp, hs6, (by omega), (hK.mono (by omega) (by omega)), hHP.mono (by omega) (by omega)⟩, (0 : Int64), rfl⟩⟩ dX11_lot_71 (jj_le rfl) (jj_le rfl)
    · have z_c_30 := jc_nltL (a := y_27.toInt) (b := 0) c_30 rfl (by decide)
      have z_c_31 := jc_ltL (a := 5) (b := y_27.toInt) c_31 (by decide) rfl
      refine jj_if_neF (tgt := 48) C dX11_lot_41 (by decide) (by decide) ?_
      refine jj_iconst (v := 1) C dX11_lot_44 (by decide) ?_
      refine jj_goto (tgt := 49) C dX11_lot_45 (by decide) ?_
      refine jj_iconst (v := 2) C dX11_lot_49 (by decide) ?_
      obtain ⟨qc, gs, hqc⟩ := tt_recv (cx := []) hok_22 hk0 (by decide) rfl
      refine tt_callV (rest := []) C (rc_X11_fails_685228 hl D cA ak hk0 hkw hka hkt hki hkf hkp hok_22 hm) [] [] rfl rfl (by decide) (by decide) (by decide) qc hqc rfl rfl jw_9c28fd2e32 jw_193b10eb43 jw_69bbe80566 jw_f96c99f44d jw_a520512e18 jn_X11_fails rfl (jj_le rfl) (jj_le rfl) (jj_le rfl) (jj_le rfl) (jj_le rfl) dX11_lot_50 rfl (fun _ _ _ hX => hX.elim) (fun rx pl_40 r O_44 => ?_)
      obtain ⟨rfl, hok_41, hr_42, ha_43, hR_45⟩ := O_44
      replace hs6 := hr_42.at hk0 (by decide) (by decide) hs6
      replace hC := ha_43.at hkw (by decide) (by decide) hC
      replace hCp := ha_43.at hkp (by decide) (by decide) hCp
      replace hm := hm.fr hr_42 hk0 rfl
      replace hfr := hfr.trans (hr_42.sub (by decide))
      replace hfa := hfa.trans (ha_43.sub (by decide))
      obtain rfl := hR_45
      refine jj_if_eqF (tgt := 60) C dX11_lot_53 (by decide) (by decide) ?_
      refine jj_lconst (v := 0) C dX11_lot_56 (by decide) ?_
      refine jj_goto (tgt := 71) C dX11_lot_57 (by decide) ?_
      exact jj_lret C ⟨[], pl_40, rfl, rfl, hok_41, hfr, hfa, ⟨⟨_, _, n6, hC, hCp, hs6, (by omega), (hK.mono (by omega) (by omega)), hHP.mono (by omega) (by omega)⟩, (0 : Int64), rfl⟩⟩ dX11_lot_71 (jj_le rfl) (jj_le rfl)
    · have z_c_32 := jc_nltL (a := y_27.toInt) (b := 0) c_32 rfl (by decide)
      have z_c_33 := jc_nltL (a := 5) (b := y_27.toInt) c_33 (by decide) rfl
      refine jj_if_neT (tgt := 48) C dX11_lot_41 (by decide) (by decide) ?_
      refine jj_iconst (v := 0) C dX11_lot_48 (by decide) ?_
      refine jj_iconst (v := 2) C dX11_lot_49 (by decide) ?_
      obtain ⟨qc, gs, hqc⟩ := tt_recv (cx := []) hok_22 hk0 (by decide) rfl
      refine tt_callV (rest := []) C (rc_X11_fails_a6808a hl D cA ak hk0 hkw hka hkt hki hkf hkp hok_22 hm) [] [] rfl rfl (by decide) (by decide) (by decide) qc hqc rfl rfl jw_9c28fd2e32 jw_193b10eb43 jw_69bbe80566 jw_f96c99f44d jw_a520512e18 jn_X11_fails rfl (jj_le rfl) (jj_le rfl) (jj_le rfl) (jj_le rfl) (jj_le rfl) dX11_lot_50 rfl (fun _ _ _ hX => hX.elim) (fun rx pl_46 r O_50 => ?_)
      obtain ⟨rfl, hok_47, hr_48, ha_49, hR_51⟩ := O_50
      replace hs6 := hr_48.at hk0 (by decide) (by decide) hs6
      replace hC := ha_49.at hkw (by decide) (by decide) hC
      replace hCp := ha_49.at hkp (by decide) (by decide) hCp
      replace hm := hm.fr hr_48 hk0 rfl
      replace hfr := hfr.trans (hr_48.sub (by decide))
      replace hfa := hfa.trans (ha_49.sub (by decide))
      obtain rfl := hR_51
      refine jj_if_eqT (tgt := 60) C dX11_lot_53 (by decide) (by decide) ?_
      refine jj_aload_n C dX11_lot_60 rfl ?_
      refine tt_getF C hok_47 jk_12 0 (by decide) jw_34eaf3ba8b (t := (2, 2, 0)) hk0 (by decide) rfl rfl hm.1 dX11_lot_61 ?_
      refine jj_iload_n C dX11_lot_64 rfl ?_
      obtain ⟨n_52, rfl, bn_52⟩ := rl_nat (x := p1) (by omega)
      have vn_52 := rl_ti bn_52
      refine tt_call0S (rest := [.ref aw]) C (rn_lotAt hl D cA ak n_52 (46 + 6 * n_52) (by omega)) jw_4c8c4b88e2 jw_0fa3e2bccb jw_f96c99f44d jw_d540d98a1c jn_X11_lotAt rfl (jj_le rfl) (jj_le rfl) (jj_le rfl) (jj_le rfl) (jj_le rfl) dX11_lot_65 rfl (fun w1 r hO => ?_)
      obtain ⟨-, rfl⟩ := hO
      refine jj_iload_n C dX11_lot_68 rfl ?_
      obtain ⟨n_53, rfl, bn_53⟩ := rl_nat (x := p2) (by omega)
      have vn_53 := rl_ti bn_53
      refine jj_iadd (v := nI (46 + 6 * n_52 + n_53)) C dX11_lot_69 (rl_add (by omega)) ?_
      refine rl_lald C hok_47 (t := (1, (-9223372036854775808), 9223372036854775807)) hkw (by decide) rfl (k := 46 + 6 * n_52 + n_53) (v := (f (46 + 6 * n_52 + n_53))) (vp_in_nI (by omega) (by decide)) hC (nI_clamp (by omega)) rfl dX11_lot_70 ?_
      exact jj_lret C ⟨[], pl_46, rfl, rfl, hok_47, hfr, hfa, ⟨⟨_, _, n6, hC, hCp, hs6, (by omega), (hK.mono (by omega) (by omega)), hHP.mono (by omega) (by omega)⟩, (f (46 + 6 * n_52 + n_53)), rfl⟩⟩ dX11_lot_71 (jj_le rfl) (jj_le rfl)

set_option maxHeartbeats 4000000 in
set_option maxRecDepth 100000 in
theorem rs_request {l : Launch} (hl : l.stackTraces = false) (D : va_G) (cA : Nat → ClassId) (ak : (Nat → Nat) × (Nat → Nat)) {Kd : Nat → Nat} {h0 aw aa at0 ai af ap : Nat} (n6 : Nat) (p1 : Int32) (p2 : Int32) (B C9 : Int) (f P : Nat → Int64) (hk0 : Kd h0 = 1) (hkw : Kd aw = 2) (hka : Kd aa = 3) (hkt : Kd at0 = 4) (hki : Kd ai = 5) (hkf : Kd af = 6) (hkp : Kd ap = 7) (ln6 : (0 : Int) ≤ (n6 : Int)) (un6 : (n6 : Int) ≤ 10) (hK : rl_K B C9 f) (hHP : rl_HP B C9 P n6) (hB5 : B ≤ 43520000000) (hB0 : 12760000000 ≤ B) (hC9 : 0 ≤ C9 ∧ C9 ≤ 4000000000000000000) {pl0 : va_W} (hok : tt_ok rt_tk cA Kd pl0) (hm : rl_m pl0 h0 aw aa at0 ai af ap) (hC : tt_lc pl0 aw f) (hCp : tt_lc pl0 ap P) (hs6 : tt_at pl0 h0 6 (.int (nI n6))) : jj_M l D cA ak yX11_request (.code yX11_request cX11_request 3 (some .long)) 2 46 0 0 ([] ++ pl0) [.ref h0, .int p1, .int p2] (tt_O (fun rx pl1 r => rx = [] ∧ tt_ok rt_tk cA Kd pl1 ∧ tt_fr Kd [(1, 7)] pl0 pl1 ∧ tt_fa Kd [] pl0 pl1 ∧ ((rl_M (B + 30000000) (C9 + 2000) pl1 h0 aw ap ∧ ∃ v : Int64, r = some (.long v))))) (tt_OX (fun _ _ _ => False)) := by
  refine jj_start hl (by decide) jw_0cd805615d (jj_le rfl) ?_
  intro p e s m args below meth c A hargs hA C hex hmn
  have hfr := tt_fr.refl (K := Kd) (WS := [(1, 7)]) pl0
  have hfa := tt_fa.refl (K := Kd) (WA := []) pl0
  have hI := hK.1
  have hP := hK.2.1
  have hH := hI.1.1
  obtain ⟨⟨g0a, g0b⟩, ⟨g1a, g1b⟩, ⟨g6a, g6b⟩, ⟨g7a, g7b⟩, ⟨g8a, g8b⟩⟩ := hH
  have hB : B ≤ 43920000000 := by omega
  have hB6 : B + 360000000 ≤ 43920000000 := by omega
  have h9a := hK.2.2.1
  have h9b := hK.2.2.2
  have h9 : 0 ≤ (f 9).toInt ∧ (f 9).toInt < 4611686018427387000 := ⟨h9a, by omega⟩
  have lp1 := tt_lo p1
  have up1 := tt_hi p1
  have lp2 := tt_lo p2
  have up2 := tt_hi p2
  refine jj_aload_n C dX11_request_0 rfl ?_
  refine jj_iload_n C dX11_request_1 rfl ?_
  obtain ⟨qc, gs, hqc⟩ := tt_recv (cx := []) hok hk0 (by decide) rfl
  refine tt_callV (rest := []) C (rs_isNoRequest hl D cA ak p1 f hk0 hkw hka hkt hki hkf hkp ⟨⟨g0a, g0b⟩, ⟨g1a, g1b⟩, ⟨g6a, g6b⟩, ⟨g7a, g7b⟩, ⟨g8a, g8b⟩⟩ hok hm hC) [] [] rfl rfl (by decide) (by decide) (by decide) qc hqc rfl rfl jw_1118ba758b jw_4c29d1d481 jw_f79fbf9a9e jw_f96c99f44d jw_c6d824393d jn_X11_isNoRequest rfl (jj_le rfl) (jj_le rfl) (jj_le rfl) (jj_le rfl) (jj_le rfl) dX11_request_2 rfl (fun _ _ _ hX => hX.elim) (fun rx pl_1 r O_5 => ?_)
  obtain ⟨rfl, hok_2, hr_3, ha_4, hR_6⟩ := O_5
  replace hs6 := hr_3.at hk0 (by decide) (by decide) hs6
  replace hC := ha_4.at hkw (by decide) (by decide) hC
  replace hCp := ha_4.at hkp (by decide) (by decide) hCp
  replace hm := hm.fr hr_3 hk0 rfl
  replace hfr := hfr.trans (hr_3.sub (by decide))
  replace hfa := hfa.trans (ha_4.sub (by decide))
  rcases hR_6 with rfl | ⟨hz_7, rfl⟩
  · refine jj_if_neT (tgt := 33) C dX11_request_5 (by decide) (by decide) ?_
    refine jj_lconst (v := 0) C dX11_request_33 (by decide) ?_
    refine jj_goto (tgt := 48) C dX11_request_34 (by decide) ?_
    exact jj_lret C ⟨[], pl_1, rfl, rfl, hok_2, hfr, hfa, ⟨⟨_, _, n6, hC, hCp, hs6, (by omega), (hK.mono (by omega) (by omega)), hHP.mono (by omega) (by omega)⟩, (0 : Int64), rfl⟩⟩ dX11_request_48 (jj_le rfl) (jj_le rfl)
  · have hz_71 := hz_7.1
    have hz_72 := hz_7.2
    refine jj_if_neF (tgt := 33) C dX11_request_5 (by decide) (by decide) ?_
    refine jj_aload_n C dX11_request_8 rfl ?_
    refine jj_iload_n C dX11_request_9 rfl ?_
    obtain ⟨y_8, ey_8, vy_8⟩ := tt_i2l p2
    refine jj_i2l (v := y_8) C dX11_request_10 ey_8 ?_
    refine jj_lconst (v := 0) C dX11_request_11 (by decide) ?_
    refine jj_ldc2 (v := 3) C dX11_request_12 jw_3ddeacbc7d ?_
    refine tt_call0S (rest := [.ref h0]) C (ct_X11_in_s18 hl D cA ak y_8) jw_2a24feddee jw_12f28ccfda jw_f96c99f44d jw_e07c9ada56 jn_X11_in rfl (jj_le rfl) (jj_le rfl) (jj_le rfl) (jj_le rfl) (jj_le rfl) dX11_request_15 rfl (fun w1 r O_9 => ?_)
    rcases O_9 with ⟨c_10, -, rfl⟩ | ⟨c_11, c_12, -, rfl⟩ | ⟨c_13, c_14, -, rfl⟩
    · have z_c_10 := jc_ltL (a := y_8.toInt) (b := 0) c_10 rfl (by decide)
      refine jj_if_neF (tgt := 25) C dX11_request_18 (by decide) (by decide) ?_
      refine jj_iconst (v := 1) C dX11_request_21 (by decide) ?_
      refine jj_goto (tgt := 26) C dX11_request_22 (by decide) ?_
      refine jj_iconst (v := 2) C dX11_request_26 (by decide) ?_
      obtain ⟨qc, gs, hqc⟩ := tt_recv (cx := []) hok_2 hk0 (by decide) rfl
      refine tt_callV (rest := []) C (rc_X11_fails_685228 hl D cA ak hk0 hkw hka hkt hki hkf hkp hok_2 hm) [] [] rfl rfl (by decide) (by decide) (by decide) qc hqc rfl rfl jw_9c28fd2e32 jw_193b10eb43 jw_69bbe80566 jw_f96c99f44d jw_a520512e18 jn_X11_fails rfl (jj_le rfl) (jj_le rfl) (jj_le rfl) (jj_le rfl) (jj_le rfl) dX11_request_27 rfl (fun _ _ _ hX => hX.elim) (fun rx pl_15 r O_19 => ?_)
      obtain ⟨rfl, hok_16, hr_17, ha_18, hR_20⟩ := O_19
      replace hs6 := hr_17.at hk0 (by decide) (by decide) hs6
      replace hC := ha_18.at hkw (by decide) (by decide) hC
      replace hCp := ha_18.at hkp (by decide) (by decide) hCp
      replace hm := hm.fr hr_17 hk0 rfl
      replace hfr := hfr.trans (hr_17.sub (by decide))
      replace hfa := hfa.trans (ha_18.sub (by decide))
      obtain rfl := hR_20
      refine jj_if_eqF (tgt := 37) C dX11_request_30 (by decide) (by decide) ?_
      refine jj_lconst (v := 0) C dX11_request_33 (by decide) ?_
      refine jj_goto (tgt := 48) C dX11_request_34 (by decide) ?_
      exact jj_lret C ⟨[], pl_15, rfl, rfl, hok_16, hfr, hfa, ⟨⟨_, _, n6, hC, hCp, hs6, (by omega), (hK.mono (by omega) (by omega)), hHP.mono (by omega) (by omega)⟩, (0 : Int64), rfl⟩⟩ dX11_request_48 (jj_le rfl) (jj_le rfl)
    · have z_c_11 := jc_nltL (a := y_8.toInt) (b := 0) c_11 rfl (by decide)
      have z_c_12 := jc_ltL (a := 3) (b := y_8.toInt) c_12 (by decide) rfl
      refine jj_if_neF (tgt := 25) C dX11_request_18 (by decide) (by decide) ?_
      refine jj_iconst (v := 1) C dX11_request_21 (by decide) ?_
      refine jj_goto (tgt := 26) C dX11_request_22 (by decide) ?_
      refine jj_iconst (v := 2) C dX11_request_26 (by decide) ?_
      obtain ⟨qc, gs, hqc⟩ := tt_recv (cx := []) hok_2 hk0 (by decide) rfl
      refine tt_callV (rest := []) C (rc_X11_fails_685228 hl D cA ak hk0 hkw hka hkt hki hkf hkp hok_2 hm) [] [] rfl rfl (by decide) (by decide) (by decide) qc hqc rfl rfl jw_9c28fd2e32 jw_193b10eb43 jw_69bbe80566 jw_f96c99f44d jw_a520512e18 jn_X11_fails rfl (jj_le rfl) (jj_le rfl) (jj_le rfl) (jj_le rfl) (jj_le rfl) dX11_request_27 rfl (fun _ _ _ hX => hX.elim) (fun rx pl_21 r O_25 => ?_)
      obtain ⟨rfl, hok_22, hr_23, ha_24, hR_26⟩ := O_25
      replace hs6 := hr_23.at hk0 (by decide) (by decide) hs6
      replace hC := ha_24.at hkw (by decide) (by decide) hC
      replace hCp := ha_24.at hkp (by decide) (by decide) hCp
      replace hm := hm.fr hr_23 hk0 rfl
      replace hfr := hfr.trans (hr_23.sub (by decide))
      replace hfa := hfa.trans (ha_24.sub (by decide))
      obtain rfl := hR_26
      refine jj_if_eqF (tgt := 37) C dX11_request_30 (by decide) (by decide) ?_
      refine jj_lconst (v := 0) C dX11_request_33 (by decide) ?_
      refine jj_goto (tgt := 48) C dX11_request_34 (by decide) ?_
      exact jj_lret C ⟨[], pl_21, rfl, rfl, hok_22, hfr, hfa, ⟨⟨_, _, n6, hC, hCp, hs6, (by omega), (hK.mono (by omega) (by omega)), hHP.mono (by omega) (by omega)⟩, (0 : Int64), rfl⟩⟩ dX11_request_48 (jj_le rfl) (jj_le rfl)
    · have z_c_13 := jc_nltL (a := y_8.toInt) (b := 0) c_13 rfl (by decide)
      have z_c_14 := jc_nltL (a := 3) (b := y_8.toInt) c_14 (by decide) rfl
      refine jj_if_neT (tgt := 25) C dX11_request_18 (by decide) (by decide) ?_
      refine jj_iconst (v := 0) C dX11_request_25 (by decide) ?_
      refine jj_iconst (v := 2) C dX11_request_26 (by decide) ?_
      obtain ⟨qc, gs, hqc⟩ := tt_recv (cx := []) hok_2 hk0 (by decide) rfl
      refine tt_callV (rest := []) C (rc_X11_fails_a6808a hl D cA ak hk0 hkw hka hkt hki hkf hkp hok_2 hm) [] [] rfl rfl (by decide) (by decide) (by decide) qc hqc rfl rfl jw_9c28fd2e32 jw_193b10eb43 jw_69bbe80566 jw_f96c99f44d jw_a520512e18 jn_X11_fails rfl (jj_le rfl) (jj_le rfl) (jj_le rfl) (jj_le rfl) (jj_le rfl) dX11_request_27 rfl (fun _ _ _ hX => hX.elim) (fun rx pl_27 r O_31 => ?_)
      obtain ⟨rfl, hok_28, hr_29, ha_30, hR_32⟩ := O_31
      replace hs6 := hr_29.at hk0 (by decide) (by decide) hs6
      replace hC := ha_30.at hkw (by decide) (by decide) hC
      replace hCp := ha_30.at hkp (by decide) (by decide) hCp
      replace hm := hm.fr hr_29 hk0 rfl
      replace hfr := hfr.trans (hr_29.sub (by decide))
      replace hfa := hfa.trans (ha_30.sub (by decide))
      obtain rfl := hR_32
      refine jj_if_eqT (tgt := 37) C dX11_request_30 (by decide) (by decide) ?_
      refine jj_aload_n C dX11_request_37 rfl ?_
      refine tt_getF C hok_28 jk_12 0 (by decide) jw_34eaf3ba8b (t := (2, 2, 0)) hk0 (by decide) rfl rfl hm.1 dX11_request_38 ?_
      refine jj_iload_n C dX11_request_41 rfl ?_
      obtain ⟨n_33, rfl, bn_33⟩ := rl_nat (x := p1) (by omega)
      have vn_33 := rl_ti bn_33
      refine tt_call0S (rest := [.ref aw]) C (rn_requestAt hl D cA ak n_33 (286 + 4 * n_33) (by omega)) jw_b399766b1e jw_c583cc9526 jw_f96c99f44d jw_595411e0f2 jn_X11_requestAt rfl (jj_le rfl) (jj_le rfl) (jj_le rfl) (jj_le rfl) (jj_le rfl) dX11_request_42 rfl (fun w1 r hO => ?_)
      obtain ⟨-, rfl⟩ := hO
      refine jj_iload_n C dX11_request_45 rfl ?_
      obtain ⟨n_34, rfl, bn_34⟩ := rl_nat (x := p2) (by omega)
      have vn_34 := rl_ti bn_34
      refine jj_iadd (v := nI (286 + 4 * n_33 + n_34)) C dX11_request_46 (rl_add (by omega)) ?_
      refine rl_lald C hok_28 (t := (1, (-9223372036854775808), 9223372036854775807)) hkw (by decide) rfl (k := 286 + 4 * n_33 + n_34) (v := (f (286 + 4 * n_33 + n_34))) (vp_in_nI (by omega) (by decide)) hC (nI_clamp (by omega)) rfl dX11_request_47 ?_
      exact jj_lret C ⟨[], pl_27, rfl, rfl, hok_28, hfr, hfa, ⟨⟨_, _, n6, hC, hCp, hs6, (by omega), (hK.mono (by omega) (by omega)), hHP.mono (by omega) (by omega)⟩, (f (286 + 4 * n_33 + n_34)), rfl⟩⟩ dX11_request_48 (jj_le rfl) (jj_le rfl)

set_option maxHeartbeats 4000000 in
set_option maxRecDepth 100000 in
theorem rs_unitsOf {l : Launch} (hl : l.stackTraces = false) (D : va_G) (cA : Nat → ClassId) (ak : (Nat → Nat) × (Nat → Nat)) {Kd : Nat → Nat} {h0 aw aa at0 ai af ap : Nat} (n6 : Nat) (p1 : Int32) (B C9 : Int) (f P : Nat → Int64) (hk0 : Kd h0 = 1) (hkw : Kd aw = 2) (hka : Kd aa = 3) (hkt : Kd at0 = 4) (hki : Kd ai = 5) (hkf : Kd af = 6) (hkp : Kd ap = 7) (ln6 : (0 : Int) ≤ (n6 : Int)) (un6 : (n6 : Int) ≤ 10) (hK : rl_K B C9 f) (hHP : rl_HP B C9 P n6) (hB5 : B ≤ 43520000000) (hB0 : 12760000000 ≤ B) (hC9 : 0 ≤ C9 ∧ C9 ≤ 4000000000000000000) {pl0 : va_W} (hok : tt_ok rt_tk cA Kd pl0) (hm : rl_m pl0 h0 aw aa at0 ai af ap) (hC : tt_lc pl0 aw f) (hCp : tt_lc pl0 ap P) (hs6 : tt_at pl0 h0 6 (.int (nI n6))) : jj_M l D cA ak yX11_unitsOf (.code yX11_unitsOf cX11_unitsOf 2 (some .long)) 3 67 0 0 ([] ++ pl0) [.ref h0, .int p1] (tt_O (fun rx pl1 r => rx = [] ∧ tt_ok rt_tk cA Kd pl1 ∧ tt_fr Kd [(1, 7)] pl0 pl1 ∧ tt_fa Kd [] pl0 pl1 ∧ ((rl_M (B + 30000000) (C9 + 2000) pl1 h0 aw ap ∧ ∃ v : Int64, r = some (.long v))))) (tt_OX (fun _ _ _ => False)) := by
  refine jj_start hl (by decide) jw_5d965a8869 (jj_le rfl) ?_
  intro p e s m args below meth c A hargs hA C hex hmn
  have hfr := tt_fr.refl (K := Kd) (WS := [(1, 7)]) pl0
  have hfa := tt_fa.refl (K := Kd) (WA := []) pl0
  have hI := hK.1
  have hP := hK.2.1
  have hH := hI.1.1
  obtain ⟨⟨g0a, g0b⟩, ⟨g1a, g1b⟩, ⟨g6a, g6b⟩, ⟨g7a, g7b⟩, ⟨g8a, g8b⟩⟩ := hH
  have hB : B ≤ 43920000000 := by omega
  have hB6 : B + 360000000 ≤ 43920000000 := by omega
  have h9a := hK.2.2.1
  have h9b := hK.2.2.2
  have h9 : 0 ≤ (f 9).toInt ∧ (f 9).toInt < 4611686018427387000 := ⟨h9a, by omega⟩
  have lp1 := tt_lo p1
  have up1 := tt_hi p1
  refine jj_aload_n C dX11_unitsOf_0 rfl ?_
  refine jj_iload_n C dX11_unitsOf_1 rfl ?_
  obtain ⟨qc, gs, hqc⟩ := tt_recv (cx := []) hok hk0 (by decide) rfl
  refine tt_callV (rest := []) C (rc_X11_isNoInvestor_d8d95c hl D cA ak p1 _ hk0 hkw hka hkt hki hkf hkp ⟨⟨g0a, g0b⟩, ⟨g1a, g1b⟩, ⟨g6a, g6b⟩, ⟨g7a, g7b⟩, ⟨g8a, g8b⟩⟩ hok hm hC) [] [] rfl rfl (by decide) (by decide) (by decide) qc hqc rfl rfl jw_daecd531da jw_4e28b3e206 jw_f3a40b16e4 jw_f96c99f44d jw_78c857bdda jn_X11_isNoInvestor rfl (jj_le rfl) (jj_le rfl) (jj_le rfl) (jj_le rfl) (jj_le rfl) dX11_unitsOf_2 rfl (fun _ _ _ hX => hX.elim) (fun rx pl_1 r O_5 => ?_)
  obtain ⟨rfl, hok_2, hr_3, ha_4, hR_6⟩ := O_5
  replace hs6 := hr_3.at hk0 (by decide) (by decide) hs6
  replace hC := ha_4.at hkw (by decide) (by decide) hC
  replace hCp := ha_4.at hkp (by decide) (by decide) hCp
  replace hm := hm.fr hr_3 hk0 rfl
  replace hfr := hfr.trans (hr_3.sub (by decide))
  replace hfa := hfa.trans (ha_4.sub (by decide))
  rcases hR_6 with rfl | ⟨l_7, u_8, rfl⟩
  · refine jj_if_eqF (tgt := 12) C dX11_unitsOf_5 (by decide) (by decide) ?_
    refine jj_lconst (v := 0) C dX11_unitsOf_8 (by decide) ?_
    refine jj_goto (tgt := 17) C dX11_unitsOf_9 (by decide) ?_
    exact jj_lret C ⟨[], pl_1, rfl, rfl, hok_2, hfr, hfa, ⟨⟨_, _, n6, hC, hCp, hs6, (by omega), (hK.mono (by omega) (by omega)), hHP.mono (by omega) (by omega)⟩, (0 : Int64), rfl⟩⟩ dX11_unitsOf_17 (jj_le rfl) (jj_le rfl)
  · refine jj_if_eqT (tgt := 12) C dX11_unitsOf_5 (by decide) (by decide) ?_
    refine jj_aload_n C dX11_unitsOf_12 rfl ?_
    refine jj_iload_n C dX11_unitsOf_13 rfl ?_
    obtain ⟨qc, gs, hqc⟩ := tt_recv (cx := []) hok_2 hk0 (by decide) rfl
    refine tt_callV (rest := []) C (rc_X11_unitsBy_d203db hl D cA ak p1 _ hk0 hkw hka hkt hki hkf hkp (by omega) (by omega) ⟨⟨g0a, g0b⟩, ⟨g1a, g1b⟩, ⟨g6a, g6b⟩, ⟨g7a, g7b⟩, ⟨g8a, g8b⟩⟩ hok_2 hm hC) [] [] rfl rfl (by decide) (by decide) (by decide) qc hqc rfl rfl jw_d258851c0a jw_53672f19d9 jw_faff4a546a jw_f96c99f44d jw_6f23c3bc30 jn_X11_unitsBy rfl (jj_le rfl) (jj_le rfl) (jj_le rfl) (jj_le rfl) (jj_le rfl) dX11_unitsOf_14 rfl (fun _ _ _ hX => hX.elim) (fun rx pl_9 r O_13 => ?_)
    obtain ⟨rfl, hok_10, hr_11, ha_12, hR_14⟩ := O_13
    replace hs6 := hr_11.at hk0 (by decide) (by decide) hs6
    replace hC := ha_12.at hkw (by decide) (by decide) hC
    replace hCp := ha_12.at hkp (by decide) (by decide) hCp
    replace hm := hm.fr hr_11 hk0 rfl
    replace hfr := hfr.trans (hr_11.sub (by decide))
    replace hfa := hfa.trans (ha_12.sub (by decide))
    obtain ⟨y_15, rfl⟩ := hR_14
    exact jj_lret C ⟨[], pl_9, rfl, rfl, hok_10, hfr, hfa, ⟨⟨_, _, n6, hC, hCp, hs6, (by omega), (hK.mono (by omega) (by omega)), hHP.mono (by omega) (by omega)⟩, y_15, rfl⟩⟩ dX11_unitsOf_17 (jj_le rfl) (jj_le rfl)

set_option maxHeartbeats 4000000 in
set_option maxRecDepth 100000 in
theorem rs_holding {l : Launch} (hl : l.stackTraces = false) (D : va_G) (cA : Nat → ClassId) (ak : (Nat → Nat) × (Nat → Nat)) {Kd : Nat → Nat} {h0 aw aa at0 ai af ap : Nat} (n6 : Nat) (p1 : Int32) (p2 : Int32) (B C9 : Int) (f P : Nat → Int64) (hk0 : Kd h0 = 1) (hkw : Kd aw = 2) (hka : Kd aa = 3) (hkt : Kd at0 = 4) (hki : Kd ai = 5) (hkf : Kd af = 6) (hkp : Kd ap = 7) (ln6 : (0 : Int) ≤ (n6 : Int)) (un6 : (n6 : Int) ≤ 10) (hK : rl_K B C9 f) (hHP : rl_HP B C9 P n6) (hB5 : B ≤ 43520000000) (hB0 : 12760000000 ≤ B) (hC9 : 0 ≤ C9 ∧ C9 ≤ 4000000000000000000) {pl0 : va_W} (hok : tt_ok rt_tk cA Kd pl0) (hm : rl_m pl0 h0 aw aa at0 ai af ap) (hC : tt_lc pl0 aw f) (hCp : tt_lc pl0 ap P) (hs6 : tt_at pl0 h0 6 (.int (nI n6))) : jj_M l D cA ak yX11_holding (.code yX11_holding cX11_holding 3 (some .long)) 2 47 0 0 ([] ++ pl0) [.ref h0, .int p1, .int p2] (tt_O (fun rx pl1 r => rx = [] ∧ tt_ok rt_tk cA Kd pl1 ∧ tt_fr Kd [(1, 7)] pl0 pl1 ∧ tt_fa Kd [] pl0 pl1 ∧ ((rl_M (B + 30000000) (C9 + 2000) pl1 h0 aw ap ∧ ∃ v : Int64, r = some (.long v))))) (tt_OX (fun _ _ _ => False)) := by
  refine jj_start hl (by decide) jw_34d9bcb912 (jj_le rfl) ?_
  intro p e s m args below meth c A hargs hA C hex hmn
  have hfr := tt_fr.refl (K := Kd) (WS := [(1, 7)]) pl0
  have hfa := tt_fa.refl (K := Kd) (WA := []) pl0
  have hI := hK.1
  have hP := hK.2.1
  have hH := hI.1.1
  obtain ⟨⟨g0a, g0b⟩, ⟨g1a, g1b⟩, ⟨g6a, g6b⟩, ⟨g7a, g7b⟩, ⟨g8a, g8b⟩⟩ := hH
  have hB : B ≤ 43920000000 := by omega
  have hB6 : B + 360000000 ≤ 43920000000 := by omega
  have h9a := hK.2.2.1
  have h9b := hK.2.2.2
  have h9 : 0 ≤ (f 9).toInt ∧ (f 9).toInt < 4611686018427387000 := ⟨h9a, by omega⟩
  have lp1 := tt_lo p1
  have up1 := tt_hi p1
  have lp2 := tt_lo p2
  have up2 := tt_hi p2
  refine jj_aload_n C dX11_holding_0 rfl ?_
  refine jj_aload_n C dX11_holding_1 rfl ?_
  refine jj_iload_n C dX11_holding_2 rfl ?_
  obtain ⟨qc, gs, hqc⟩ := tt_recv (cx := []) hok hk0 (by decide) rfl
  refine tt_callV (rest := [.ref h0]) C (rc_X11_isInvestor_d8d95c hl D cA ak p1 _ hk0 hkw hka hkt hki hkf hkp ⟨⟨g0a, g0b⟩, ⟨g1a, g1b⟩, ⟨g6a, g6b⟩, ⟨g7a, g7b⟩, ⟨g8a, g8b⟩⟩ hok hm hC) [] [] rfl rfl (by decide) (by decide) (by decide) qc hqc rfl rfl jw_7ef37939ff jw_26aeef849b jw_c47596b272 jw_f96c99f44d jw_eb28ea56ae jn_X11_isInvestor rfl (jj_le rfl) (jj_le rfl) (jj_le rfl) (jj_le rfl) (jj_le rfl) dX11_holding_3 rfl (fun _ _ _ hX => hX.elim) (fun rx pl_1 r O_5 => ?_)
  obtain ⟨rfl, hok_2, hr_3, ha_4, hR_6⟩ := O_5
  replace hs6 := hr_3.at hk0 (by decide) (by decide) hs6
  replace hC := ha_4.at hkw (by decide) (by decide) hC
  replace hCp := ha_4.at hkp (by decide) (by decide) hCp
  replace hm := hm.fr hr_3 hk0 rfl
  replace hfr := hfr.trans (hr_3.sub (by decide))
  replace hfa := hfa.trans (ha_4.sub (by decide))
  rcases hR_6 with rfl | ⟨l_7, u_8, rfl⟩
  · refine jj_if_eqT (tgt := 19) C dX11_holding_6 (by decide) (by decide) ?_
    refine jj_iconst (v := 1) C dX11_holding_19 (by decide) ?_
    refine jj_goto (tgt := 24) C dX11_holding_20 (by decide) ?_
    refine jj_iconst (v := 1) C dX11_holding_24 (by decide) ?_
    obtain ⟨qc, gs, hqc⟩ := tt_recv (cx := []) hok_2 hk0 (by decide) rfl
    refine tt_callV (rest := []) C (rc_X11_fails_f00e4f hl D cA ak hk0 hkw hka hkt hki hkf hkp hok_2 hm) [] [] rfl rfl (by decide) (by decide) (by decide) qc hqc rfl rfl jw_9c28fd2e32 jw_193b10eb43 jw_69bbe80566 jw_f96c99f44d jw_a520512e18 jn_X11_fails rfl (jj_le rfl) (jj_le rfl) (jj_le rfl) (jj_le rfl) (jj_le rfl) dX11_holding_25 rfl (fun _ _ _ hX => hX.elim) (fun rx pl_9 r O_13 => ?_)
    obtain ⟨rfl, hok_10, hr_11, ha_12, hR_14⟩ := O_13
    replace hs6 := hr_11.at hk0 (by decide) (by decide) hs6
    replace hC := ha_12.at hkw (by decide) (by decide) hC
    replace hCp := ha_12.at hkp (by decide) (by decide) hCp
    replace hm := hm.fr hr_11 hk0 rfl
    replace hfr := hfr.trans (hr_11.sub (by decide))
    replace hfa := hfa.trans (ha_12.sub (by decide))
    obtain rfl := hR_14
    refine jj_if_eqF (tgt := 35) C dX11_holding_28 (by decide) (by decide) ?_
    refine jj_lconst (v := 0) C dX11_holding_31 (by decide) ?_
    refine jj_goto (tgt := 42) C dX11_holding_32 (by decide) ?_
    exact jj_lret C ⟨[], pl_9, rfl, rfl, hok_10, hfr, hfa, ⟨⟨_, _, n6, hC, hCp, hs6, (by omega), (hK.mono (by omega) (by omega)), hHP.mono (by omega) (by omega)⟩, (0 : Int64), rfl⟩⟩ dX11_holding_42 (jj_le rfl) (jj_le rfl)
  · refine jj_if_eqF (tgt := 19) C dX11_holding_6 (by decide) (by decide) ?_
    refine jj_aload_n C dX11_holding_9 rfl ?_
    refine jj_iload_n C dX11_holding_10 rfl ?_
    obtain ⟨y_15, ey_15, vy_15⟩ := tt_i2l p2
    refine jj_i2l (v := y_15) C dX11_holding_11 ey_15 ?_
    obtain ⟨qc, gs, hqc⟩ := tt_recv (cx := []) hok_2 hk0 (by decide) rfl
    refine tt_callV (rest := [.ref h0]) C (rs_placeOf hl D cA ak y_15 f hk0 hkw hka hkt hki hkf hkp ⟨⟨g0a, g0b⟩, ⟨g1a, g1b⟩, ⟨g6a, g6b⟩, ⟨g7a, g7b⟩, ⟨g8a, g8b⟩⟩ hok_2 hm hC) [] [] rfl rfl (by decide) (by decide) (by decide) qc hqc rfl rfl jw_6d1eccde8c jw_a9a05b64d9 jw_ee32d85331 jw_f96c99f44d jw_d7a6daa34b jn_X11_placeOf rfl (jj_le rfl) (jj_le rfl) (jj_le rfl) (jj_le rfl) (jj_le rfl) dX11_holding_12 rfl (fun _ _ _ hX => hX.elim) (fun rx pl_16 r O_20 => ?_)
    obtain ⟨rfl, hok_17, hr_18, ha_19, hR_21⟩ := O_20
    replace hs6 := hr_18.at hk0 (by decide) (by decide) hs6
    replace hC := ha_19.at hkw (by decide) (by decide) hC
    replace hCp := ha_19.at hkp (by decide) (by decide) hCp
    replace hm := hm.fr hr_18 hk0 rfl
    replace hfr := hfr.trans (hr_18.sub (by decide))
    replace hfa := hfa.trans (ha_19.sub (by decide))
    rcases hR_21 with ⟨hno_22, rfl⟩ | ⟨n_23, hn_23, qn_23, rfl⟩
    · refine jj_iconst (v := (-1)) C dX11_holding_15 (by decide) ?_
      refine jj_icmp_neF (tgt := 23) C dX11_holding_16 (by decide) (by decide) ?_
      refine jj_iconst (v := 1) C dX11_holding_19 (by decide) ?_
      refine jj_goto (tgt := 24) C dX11_holding_20 (by decide) ?_
      refine jj_iconst (v := 1) C dX11_holding_24 (by decide) ?_
      obtain ⟨qc, gs, hqc⟩ := tt_recv (cx := []) hok_17 hk0 (by decide) rfl
      refine tt_callV (rest := []) C (rc_X11_fails_f00e4f hl D cA ak hk0 hkw hka hkt hki hkf hkp hok_17 hm) [] [] rfl rfl (by decide) (by decide) (by decide) qc hqc rfl rfl jw_9c28fd2e32 jw_193b10eb43 jw_69bbe80566 jw_f96c99f44d jw_a520512e18 jn_X11_fails rfl (jj_le rfl) (jj_le rfl) (jj_le rfl) (jj_le rfl) (jj_le rfl) dX11_holding_25 rfl (fun _ _ _ hX => hX.elim) (fun rx pl_24 r O_28 => ?_)
      obtain ⟨rfl, hok_25, hr_26, ha_27, hR_29⟩ := O_28
      replace hs6 := hr_26.at hk0 (by decide) (by decide) hs6
      replace hC := ha_27.at hkw (by decide) (by decide) hC
      replace hCp := ha_27.at hkp (by decide) (by decide) hCp
      replace hm := hm.fr hr_26 hk0 rfl
      replace hfr := hfr.trans (hr_26.sub (by decide))
      replace hfa := hfa.trans (ha_27.sub (by decide))
      obtain rfl := hR_29
      refine jj_if_eqF (tgt := 35) C dX11_holding_28 (by decide) (by decide) ?_
      refine jj_lconst (v := 0) C dX11_holding_31 (by decide) ?_
      refine jj_goto (tgt := 42) C dX11_holding_32 (by decide) ?_
      exact jj_lret C ⟨[], pl_24, rfl, rfl, hok_25, hfr, hfa, ⟨⟨_, _, n6, hC, hCp, hs6, (by omega), (hK.mono (by omega) (by omega)), hHP.mono (by omega) (by omega)⟩, (0 : Int64), rfl⟩⟩ dX11_holding_42 (jj_le rfl) (jj_le rfl)
    · unfold rnS at hn_23
      refine jj_iconst (v := (-1)) C dX11_holding_15 (by decide) ?_
      refine jj_icmp_ne (tgt := 23) C dX11_holding_16 (by decide) (fun c_30 => ?_) (fun c_30 => ?_)
      · have z_c_30 := jc_neq (a := ((16 + 5 * n_23 : Nat) : Int)) (b := (-1)) c_30 (rl_ti (by omega)) (by decide)
        refine jj_iconst (v := 0) C dX11_holding_23 (by decide) ?_
        refine jj_iconst (v := 1) C dX11_holding_24 (by decide) ?_
        obtain ⟨qc, gs, hqc⟩ := tt_recv (cx := []) hok_17 hk0 (by decide) rfl
        refine tt_callV (rest := []) C (rc_X11_fails_8f9520 hl D cA ak hk0 hkw hka hkt hki hkf hkp hok_17 hm) [] [] rfl rfl (by decide) (by decide) (by decide) qc hqc rfl rfl jw_9c28fd2e32 jw_193b10eb43 jw_69bbe80566 jw_f96c99f44d jw_a520512e18 jn_X11_fails rfl (jj_le rfl) (jj_le rfl) (jj_le rfl) (jj_le rfl) (jj_le rfl) dX11_holding_25 rfl (fun _ _ _ hX => hX.elim) (fun rx pl_31 r O_35 => ?_)
        obtain ⟨rfl, hok_32, hr_33, ha_34, hR_36⟩ := O_35
        replace hs6 := hr_33.at hk0 (by decide) (by decide) hs6
        replace hC := ha_34.at hkw (by decide) (by decide) hC
        replace hCp := ha_34.at hkp (by decide) (by decide) hCp
        replace hm := hm.fr hr_33 hk0 rfl
        replace hfr := hfr.trans (hr_33.sub (by decide))
        replace hfa := hfa.trans (ha_34.sub (by decide))
        obtain rfl := hR_36
        refine jj_if_eqT (tgt := 35) C dX11_holding_28 (by decide) (by decide) ?_
        refine jj_aload_n C dX11_holding_35 rfl ?_
        refine jj_iload_n C dX11_holding_36 rfl ?_
        refine jj_iload_n C dX11_holding_37 rfl ?_
        obtain ⟨y_37, ey_37, vy_37⟩ := tt_i2l p2
        refine jj_i2l (v := y_37) C dX11_holding_38 ey_37 ?_
        obtain ⟨qc, gs, hqc⟩ := tt_recv (cx := []) hok_32 hk0 (by decide) rfl
        refine tt_callV (rest := []) C (rc_X11_heldIn_886b3e hl D cA ak p1 y_37 _ hk0 hkw hka hkt hki hkf hkp (by omega) (by omega) ⟨⟨g0a, g0b⟩, ⟨g1a, g1b⟩, ⟨g6a, g6b⟩, ⟨g7a, g7b⟩, ⟨g8a, g8b⟩⟩ hok_32 hm hC) [] [] rfl rfl (by decide) (by decide) (by decide) qc hqc rfl rfl jw_f36a3aef63 jw_ab1c8caae0 jw_683bed708f jw_f96c99f44d jw_f6a1ea64f5 jn_X11_heldIn rfl (jj_le rfl) (jj_le rfl) (jj_le rfl) (jj_le rfl) (jj_le rfl) dX11_holding_39 rfl (fun _ _ _ hX => hX.elim) (fun rx pl_38 r O_42 => ?_)
        obtain ⟨rfl, hok_39, hr_40, ha_41, hR_43⟩ := O_42
        replace hs6 := hr_40.at hk0 (by decide) (by decide) hs6
        replace hC := ha_41.at hkw (by decide) (by decide) hC
        replace hCp := ha_41.at hkp (by decide) (by decide) hCp
        replace hm := hm.fr hr_40 hk0 rfl
        replace hfr := hfr.trans (hr_40.sub (by decide))
        replace hfa := hfa.trans (ha_41.sub (by decide))
        obtain ⟨y_44, rfl⟩ := hR_43
        exact jj_lret C ⟨[], pl_38, rfl, rfl, hok_39, hfr, hfa, ⟨⟨_, _, n6, hC, hCp, hs6, (by omega), (hK.mono (by omega) (by omega)), hHP.mono (by omega) (by omega)⟩, y_44, rfl⟩⟩ dX11_holding_42 (jj_le rfl) (jj_le rfl)
      · have z_c_30 := jc_eq (a := ((16 + 5 * n_23 : Nat) : Int)) (b := (-1)) c_30 (rl_ti (by omega)) (by decide)
        exfalso; omega

set_option maxHeartbeats 4000000 in
set_option maxRecDepth 100000 in
theorem rs_reportByte {l : Launch} (hl : l.stackTraces = false) (D : va_G) (cA : Nat → ClassId) (ak : (Nat → Nat) × (Nat → Nat)) {Kd : Nat → Nat} {h0 aw aa at0 ai af ap : Nat} (n6 : Nat) (p1 : Int32) (B C9 : Int) (f P : Nat → Int64) (hk0 : Kd h0 = 1) (hkw : Kd aw = 2) (hka : Kd aa = 3) (hkt : Kd at0 = 4) (hki : Kd ai = 5) (hkf : Kd af = 6) (hkp : Kd ap = 7) (ln6 : (0 : Int) ≤ (n6 : Int)) (un6 : (n6 : Int) ≤ 10) (hK : rl_K B C9 f) (hHP : rl_HP B C9 P n6) (hB5 : B ≤ 43520000000) (hB0 : 12760000000 ≤ B) (hC9 : 0 ≤ C9 ∧ C9 ≤ 4000000000000000000) {pl0 : va_W} (hok : tt_ok rt_tk cA Kd pl0) (hm : rl_m pl0 h0 aw aa at0 ai af ap) (hC : tt_lc pl0 aw f) (hCp : tt_lc pl0 ap P) (hs6 : tt_at pl0 h0 6 (.int (nI n6))) : jj_M l D cA ak yX11_reportByte (.code yX11_reportByte cX11_reportByte 2 (some .int)) 1 25 0 0 ([] ++ pl0) [.ref h0, .int p1] (tt_O (fun rx pl1 r => rx = [] ∧ tt_ok rt_tk cA Kd pl1 ∧ tt_fr Kd [(1, 7)] pl0 pl1 ∧ tt_fa Kd [] pl0 pl1 ∧ ((rl_M (B + 30000000) (C9 + 2000) pl1 h0 aw ap ∧ ∃ v : Int32, r = some (.int v))))) (tt_OX (fun _ _ _ => False)) := by
  refine jj_start hl (by decide) jw_fd723a2e27 (jj_le rfl) ?_
  intro p e s m args below meth c A hargs hA C hex hmn
  have hfr := tt_fr.refl (K := Kd) (WS := [(1, 7)]) pl0
  have hfa := tt_fa.refl (K := Kd) (WA := []) pl0
  have hI := hK.1
  have hP := hK.2.1
  have hH := hI.1.1
  obtain ⟨⟨g0a, g0b⟩, ⟨g1a, g1b⟩, ⟨g6a, g6b⟩, ⟨g7a, g7b⟩, ⟨g8a, g8b⟩⟩ := hH
  have hB : B ≤ 43920000000 := by omega
  have hB6 : B + 360000000 ≤ 43920000000 := by omega
  have h9a := hK.2.2.1
  have h9b := hK.2.2.2
  have h9 : 0 ≤ (f 9).toInt ∧ (f 9).toInt < 4611686018427387000 := ⟨h9a, by omega⟩
  have lp1 := tt_lo p1
  have up1 := tt_hi p1
  refine jj_aload_n C dX11_reportByte_0 rfl ?_
  refine jj_iload_n C dX11_reportByte_1 rfl ?_
  obtain ⟨y_1, ey_1, vy_1⟩ := tt_i2l p1
  refine jj_i2l (v := y_1) C dX11_reportByte_2 ey_1 ?_
  refine jj_lconst (v := 0) C dX11_reportByte_3 (by decide) ?_
  refine jj_aload_n C dX11_reportByte_4 rfl ?_
  refine tt_get C hok jk_12 24 (by decide) jw_51c009b58c (t := (0, 0, 2400)) hk0 (by decide) rfl rfl dX11_reportByte_5 (fun v_2 hv_2 hf_3 => ?_)
  obtain ⟨x_4, rfl, lx_4, ux_4⟩ := tt_vi hv_2
  refine jj_iconst (v := 1) C dX11_reportByte_8 (by decide) ?_
  obtain ⟨x_5, ex_5, vx_5⟩ := tt_isub (x := x_4) (y := (1 : Int32)) (a := x_4.toInt) rfl (b := 1) (by decide) (by omega) (by omega)
  refine jj_isub (v := x_5) C dX11_reportByte_9 ex_5 ?_
  obtain ⟨y_6, ey_6, vy_6⟩ := tt_i2l x_5
  refine jj_i2l (v := y_6) C dX11_reportByte_10 ey_6 ?_
  refine tt_call0S (rest := [.ref h0]) C (ct_X11_in_s3 hl D cA ak y_1 y_6) jw_2a24feddee jw_12f28ccfda jw_f96c99f44d jw_e07c9ada56 jn_X11_in rfl (jj_le rfl) (jj_le rfl) (jj_le rfl) (jj_le rfl) (jj_le rfl) dX11_reportByte_11 rfl (fun w1 r O_7 => ?_)
  rcases O_7 with ⟨c_8, -, rfl⟩ | ⟨c_9, c_10, -, rfl⟩ | ⟨c_11, c_12, -, rfl⟩
  · have z_c_8 := jc_ltL (a := y_1.toInt) (b := 0) c_8 rfl (by decide)
    refine jj_if_neF (tgt := 21) C dX11_reportByte_14 (by decide) (by decide) ?_
    refine jj_iconst (v := 1) C dX11_reportByte_17 (by decide) ?_
    refine jj_goto (tgt := 22) C dX11_reportByte_18 (by decide) ?_
    refine jj_iconst (v := 1) C dX11_reportByte_22 (by decide) ?_
    obtain ⟨qc, gs, hqc⟩ := tt_recv (cx := []) hok hk0 (by decide) rfl
    refine tt_callV (rest := []) C (rc_X11_fails_f00e4f hl D cA ak hk0 hkw hka hkt hki hkf hkp hok hm) [] [] rfl rfl (by decide) (by decide) (by decide) qc hqc rfl rfl jw_9c28fd2e32 jw_193b10eb43 jw_69bbe80566 jw_f96c99f44d jw_a520512e18 jn_X11_fails rfl (jj_le rfl) (jj_le rfl) (jj_le rfl) (jj_le rfl) (jj_le rfl) dX11_reportByte_23 rfl (fun _ _ _ hX => hX.elim) (fun rx pl_13 r O_17 => ?_)
    obtain ⟨rfl, hok_14, hr_15, ha_16, hR_18⟩ := O_17
    replace hs6 := hr_15.at hk0 (by decide) (by decide) hs6
    replace hf_3 := hr_15.at hk0 (by decide) (by decide) hf_3
    replace hC := ha_16.at hkw (by decide) (by decide) hC
    replace hCp := ha_16.at hkp (by decide) (by decide) hCp
    replace hm := hm.fr hr_15 hk0 rfl
    replace hfr := hfr.trans (hr_15.sub (by decide))
    replace hfa := hfa.trans (ha_16.sub (by decide))
    obtain rfl := hR_18
    refine jj_if_eqF (tgt := 33) C dX11_reportByte_26 (by decide) (by decide) ?_
    refine jj_iconst (v := 0) C dX11_reportByte_29 (by decide) ?_
    refine jj_goto (tgt := 39) C dX11_reportByte_30 (by decide) ?_
    exact jj_iret C ⟨[], pl_13, rfl, rfl, hok_14, hfr, hfa, ⟨⟨_, _, n6, hC, hCp, hs6, (by omega), (hK.mono (by omega) (by omega)), hHP.mono (by omega) (by omega)⟩, (0 : Int32), rfl⟩⟩ dX11_reportByte_39 (jj_le rfl) (jj_le rfl)
  · have z_c_9 := jc_nltL (a := y_1.toInt) (b := 0) c_9 rfl (by decide)
    have z_c_10 := jc_ltL (a := y_6.toInt) (b := y_1.toInt) c_10 rfl rfl
    refine jj_if_neF (tgt := 21) C dX11_reportByte_14 (by decide) (by decide) ?_
    refine jj_iconst (v := 1) C dX11_reportByte_17 (by decide) ?_
    refine jj_goto (tgt := 22) C dX11_reportByte_18 (by decide) ?_
    refine jj_iconst (v := 1) C dX11_reportByte_22 (by decide) ?_
    obtain ⟨qc, gs, hqc⟩ := tt_recv (cx := []) hok hk0 (by decide) rfl
    refine tt_callV (rest := []) C (rc_X11_fails_f00e4f hl D cA ak hk0 hkw hka hkt hki hkf hkp hok hm) [] [] rfl rfl (by decide) (by decide) (by decide) qc hqc rfl rfl jw_9c28fd2e32 jw_193b10eb43 jw_69bbe80566 jw_f96c99f44d jw_a520512e18 jn_X11_fails rfl (jj_le rfl) (jj_le rfl) (jj_le rfl) (jj_le rfl) (jj_le rfl) dX11_reportByte_23 rfl (fun _ _ _ hX => hX.elim) (fun rx pl_19 r O_23 => ?_)
    obtain ⟨rfl, hok_20, hr_21, ha_22, hR_24⟩ := O_23
    replace hs6 := hr_21.at hk0 (by decide) (by decide) hs6
    replace hf_3 := hr_21.at hk0 (by decide) (by decide) hf_3
    replace hC := ha_22.at hkw (by decide) (by decide) hC
    replace hCp := ha_22.at hkp (by decide) (by decide) hCp
    replace hm := hm.fr hr_21 hk0 rfl
    replace hfr := hfr.trans (hr_21.sub (by decide))
    replace hfa := hfa.trans (ha_22.sub (by decide))
    obtain rfl := hR_24
    refine jj_if_eqF (tgt := 33) C dX11_reportByte_26 (by decide) (by decide) ?_
    refine jj_iconst (v := 0) C dX11_reportByte_29 (by decide) ?_
    refine jj_goto (tgt := 39) C dX11_reportByte_30 (by decide) ?_
    exact jj_iret C ⟨[], pl_19, rfl, rfl, hok_20, hfr, hfa, ⟨⟨_, _, n6, hC, hCp, hs6, (by omega), (hK.mono (by omega) (by omega)), hHP.mono (by omega) (by omega)⟩, (0 : Int32), rfl⟩⟩ dX11_reportByte_39 (jj_le rfl) (jj_le rfl)
  · have z_c_11 := jc_nltL (a := y_1.toInt) (b := 0) c_11 rfl (by decide)
    have z_c_12 := jc_nltL (a := y_6.toInt) (b := y_1.toInt) c_12 rfl rfl
    refine jj_if_neT (tgt := 21) C dX11_reportByte_14 (by decide) (by decide) ?_
    refine jj_iconst (v := 0) C dX11_reportByte_21 (by decide) ?_
    refine jj_iconst (v := 1) C dX11_reportByte_22 (by decide) ?_
    obtain ⟨qc, gs, hqc⟩ := tt_recv (cx := []) hok hk0 (by decide) rfl
    refine tt_callV (rest := []) C (rc_X11_fails_8f9520 hl D cA ak hk0 hkw hka hkt hki hkf hkp hok hm) [] [] rfl rfl (by decide) (by decide) (by decide) qc hqc rfl rfl jw_9c28fd2e32 jw_193b10eb43 jw_69bbe80566 jw_f96c99f44d jw_a520512e18 jn_X11_fails rfl (jj_le rfl) (jj_le rfl) (jj_le rfl) (jj_le rfl) (jj_le rfl) dX11_reportByte_23 rfl (fun _ _ _ hX => hX.elim) (fun rx pl_25 r O_29 => ?_)
    obtain ⟨rfl, hok_26, hr_27, ha_28, hR_30⟩ := O_29
    replace hs6 := hr_27.at hk0 (by decide) (by decide) hs6
    replace hf_3 := hr_27.at hk0 (by decide) (by decide) hf_3
    replace hC := ha_28.at hkw (by decide) (by decide) hC
    replace hCp := ha_28.at hkp (by decide) (by decide) hCp
    replace hm := hm.fr hr_27 hk0 rfl
    replace hfr := hfr.trans (hr_27.sub (by decide))
    replace hfa := hfa.trans (ha_28.sub (by decide))
    obtain rfl := hR_30
    refine jj_if_eqT (tgt := 33) C dX11_reportByte_26 (by decide) (by decide) ?_
    refine jj_aload_n C dX11_reportByte_33 rfl ?_
    refine tt_get C hok_26 jk_12 23 (by decide) jw_31f1259aa4 (t := (2, 13, 0)) hk0 (by decide) rfl rfl dX11_reportByte_34 (fun v_31 hv_31 hf_32 => ?_)
    obtain ⟨a_33, rfl, ka_33⟩ := tt_vr hv_31
    refine jj_iload_n C dX11_reportByte_37 rfl ?_
    refine tt_bald C hok_26 (t := (0, (-2147483648), 2147483647)) ka_33 (by decide) rfl (vp_in_iff.mpr ⟨by omega, by omega⟩) dX11_reportByte_38 (fun v_34 hv_34 => ?_)
    exact jj_iret C ⟨[], pl_25, rfl, rfl, hok_26, hfr, hfa, ⟨⟨_, _, n6, hC, hCp, hs6, (by omega), (hK.mono (by omega) (by omega)), hHP.mono (by omega) (by omega)⟩, v_34, rfl⟩⟩ dX11_reportByte_39 (jj_le rfl) (jj_le rfl)

set_option maxHeartbeats 4000000 in
set_option maxRecDepth 100000 in
theorem rs_undoDepth {l : Launch} (hl : l.stackTraces = false) (D : va_G) (cA : Nat → ClassId) (ak : (Nat → Nat) × (Nat → Nat)) {Kd : Nat → Nat} {h0 aw aa at0 ai af ap : Nat} (n6 : Nat) (B C9 : Int) (f P : Nat → Int64) (hk0 : Kd h0 = 1) (hkw : Kd aw = 2) (hka : Kd aa = 3) (hkt : Kd at0 = 4) (hki : Kd ai = 5) (hkf : Kd af = 6) (hkp : Kd ap = 7) (ln6 : (0 : Int) ≤ (n6 : Int)) (un6 : (n6 : Int) ≤ 10) (hK : rl_K B C9 f) (hHP : rl_HP B C9 P n6) (hB5 : B ≤ 43520000000) (hB0 : 12760000000 ≤ B) (hC9 : 0 ≤ C9 ∧ C9 ≤ 4000000000000000000) {pl0 : va_W} (hok : tt_ok rt_tk cA Kd pl0) (hm : rl_m pl0 h0 aw aa at0 ai af ap) (hC : tt_lc pl0 aw f) (hCp : tt_lc pl0 ap P) (hs6 : tt_at pl0 h0 6 (.int (nI n6))) : jj_M l D cA ak yX11_undoDepth (.code yX11_undoDepth cX11_undoDepth 1 (some .int)) 0 0 0 0 ([] ++ pl0) [.ref h0] (tt_O (fun rx pl1 r => rx = [] ∧ tt_ok rt_tk cA Kd pl1 ∧ tt_fr Kd [(1, 7)] pl0 pl1 ∧ tt_fa Kd [] pl0 pl1 ∧ ((rl_M (B + 30000000) (C9 + 2000) pl1 h0 aw ap ∧ ∃ v : Int32, r = some (.int v))))) (tt_OX (fun _ _ _ => False)) := by
  refine jj_start hl (by decide) jw_b89e52f8b9 (jj_le rfl) ?_
  intro p e s m args below meth c A hargs hA C hex hmn
  have hfr := tt_fr.refl (K := Kd) (WS := [(1, 7)]) pl0
  have hfa := tt_fa.refl (K := Kd) (WA := []) pl0
  have hI := hK.1
  have hP := hK.2.1
  have hH := hI.1.1
  obtain ⟨⟨g0a, g0b⟩, ⟨g1a, g1b⟩, ⟨g6a, g6b⟩, ⟨g7a, g7b⟩, ⟨g8a, g8b⟩⟩ := hH
  have hB : B ≤ 43920000000 := by omega
  have hB6 : B + 360000000 ≤ 43920000000 := by omega
  have h9a := hK.2.2.1
  have h9b := hK.2.2.2
  have h9 : 0 ≤ (f 9).toInt ∧ (f 9).toInt < 4611686018427387000 := ⟨h9a, by omega⟩
  refine jj_aload_n C dX11_undoDepth_0 rfl ?_
  refine jj_iconst (v := 0) C dX11_undoDepth_1 (by decide) ?_
  refine rl_put C hok jk_12 7 (by decide) jw_0a65e3738e (t := (0, (-2147483648), 2147483647)) hk0 (by decide) rfl rfl rfl (tt_ia (0 : Int32)) rfl rfl dX11_undoDepth_2 (fun pl_1 hok_2 tr hn tl => ?_)
  replace hs6 := tr _ _ _ (Or.inr (by decide)) hs6
  have hf_3 := hn
  replace hm := hm.put tr (by decide)
  replace hfr := hfr.put hk0 tr (by decide)
  replace hC := tl _ _ hC
  replace hCp := tl _ _ hCp
  replace hfa := hfa.all tl
  refine jj_aload_n C dX11_undoDepth_5 rfl ?_
  refine tt_getF C hok_2 jk_12 6 (by decide) jw_39db7f12ad (t := (0, 0, 10)) hk0 (by decide) rfl rfl hs6 dX11_undoDepth_6 ?_
  exact jj_iret C ⟨[], pl_1, rfl, rfl, hok_2, hfr, hfa, ⟨⟨_, _, n6, hC, hCp, hs6, (by omega), (hK.mono (by omega) (by omega)), hHP.mono (by omega) (by omega)⟩, (nI n6), rfl⟩⟩ dX11_undoDepth_9 (jj_le rfl) (jj_le rfl)

set_option maxHeartbeats 4000000 in
set_option maxRecDepth 100000 in
theorem rs_errorCode {l : Launch} (hl : l.stackTraces = false) (D : va_G) (cA : Nat → ClassId) (ak : (Nat → Nat) × (Nat → Nat)) {Kd : Nat → Nat} {h0 aw aa at0 ai af ap : Nat} (n6 : Nat) (B C9 : Int) (f P : Nat → Int64) (hk0 : Kd h0 = 1) (hkw : Kd aw = 2) (hka : Kd aa = 3) (hkt : Kd at0 = 4) (hki : Kd ai = 5) (hkf : Kd af = 6) (hkp : Kd ap = 7) (ln6 : (0 : Int) ≤ (n6 : Int)) (un6 : (n6 : Int) ≤ 10) (hK : rl_K B C9 f) (hHP : rl_HP B C9 P n6) (hB5 : B ≤ 43520000000) (hB0 : 12760000000 ≤ B) (hC9 : 0 ≤ C9 ∧ C9 ≤ 4000000000000000000) {pl0 : va_W} (hok : tt_ok rt_tk cA Kd pl0) (hm : rl_m pl0 h0 aw aa at0 ai af ap) (hC : tt_lc pl0 aw f) (hCp : tt_lc pl0 ap P) (hs6 : tt_at pl0 h0 6 (.int (nI n6))) : jj_M l D cA ak yX11_errorCode (.code yX11_errorCode cX11_errorCode 1 (some .int)) 0 0 0 0 ([] ++ pl0) [.ref h0] (tt_O (fun rx pl1 r => rx = [] ∧ tt_ok rt_tk cA Kd pl1 ∧ tt_fr Kd [(1, 7)] pl0 pl1 ∧ tt_fa Kd [] pl0 pl1 ∧ ((rl_M (B + 30000000) (C9 + 2000) pl1 h0 aw ap ∧ ∃ v : Int32, r = some (.int v))))) (tt_OX (fun _ _ _ => False)) := by
  refine jj_start hl (by decide) jw_120a4e68f7 (jj_le rfl) ?_
  intro p e s m args below meth c A hargs hA C hex hmn
  have hfr := tt_fr.refl (K := Kd) (WS := [(1, 7)]) pl0
  have hfa := tt_fa.refl (K := Kd) (WA := []) pl0
  have hI := hK.1
  have hP := hK.2.1
  have hH := hI.1.1
  obtain ⟨⟨g0a, g0b⟩, ⟨g1a, g1b⟩, ⟨g6a, g6b⟩, ⟨g7a, g7b⟩, ⟨g8a, g8b⟩⟩ := hH
  have hB : B ≤ 43920000000 := by omega
  have hB6 : B + 360000000 ≤ 43920000000 := by omega
  have h9a := hK.2.2.1
  have h9b := hK.2.2.2
  have h9 : 0 ≤ (f 9).toInt ∧ (f 9).toInt < 4611686018427387000 := ⟨h9a, by omega⟩
  refine jj_aload_n C dX11_errorCode_0 rfl ?_
  refine jj_iconst (v := 0) C dX11_errorCode_1 (by decide) ?_
  refine rl_put C hok jk_12 7 (by decide) jw_0a65e3738e (t := (0, (-2147483648), 2147483647)) hk0 (by decide) rfl rfl rfl (tt_ia (0 : Int32)) rfl rfl dX11_errorCode_2 (fun pl_1 hok_2 tr hn tl => ?_)
  replace hs6 := tr _ _ _ (Or.inr (by decide)) hs6
  have hf_3 := hn
  replace hm := hm.put tr (by decide)
  replace hfr := hfr.put hk0 tr (by decide)
  replace hC := tl _ _ hC
  replace hCp := tl _ _ hCp
  replace hfa := hfa.all tl
  refine jj_aload_n C dX11_errorCode_5 rfl ?_
  refine tt_get C hok_2 jk_12 17 (by decide) jw_17e99f0710 (t := (0, (-2147483648), 2147483647)) hk0 (by decide) rfl rfl dX11_errorCode_6 (fun v_4 hv_4 hf_5 => ?_)
  obtain ⟨x_6, rfl, lx_6, ux_6⟩ := tt_vi hv_4
  exact jj_iret C ⟨[], pl_1, rfl, rfl, hok_2, hfr, hfa, ⟨⟨_, _, n6, hC, hCp, hs6, (by omega), (hK.mono (by omega) (by omega)), hHP.mono (by omega) (by omega)⟩, x_6, rfl⟩⟩ dX11_errorCode_9 (jj_le rfl) (jj_le rfl)

set_option maxHeartbeats 4000000 in
set_option maxRecDepth 100000 in
theorem rs_errorPosition {l : Launch} (hl : l.stackTraces = false) (D : va_G) (cA : Nat → ClassId) (ak : (Nat → Nat) × (Nat → Nat)) {Kd : Nat → Nat} {h0 aw aa at0 ai af ap : Nat} (n6 : Nat) (B C9 : Int) (f P : Nat → Int64) (hk0 : Kd h0 = 1) (hkw : Kd aw = 2) (hka : Kd aa = 3) (hkt : Kd at0 = 4) (hki : Kd ai = 5) (hkf : Kd af = 6) (hkp : Kd ap = 7) (ln6 : (0 : Int) ≤ (n6 : Int)) (un6 : (n6 : Int) ≤ 10) (hK : rl_K B C9 f) (hHP : rl_HP B C9 P n6) (hB5 : B ≤ 43520000000) (hB0 : 12760000000 ≤ B) (hC9 : 0 ≤ C9 ∧ C9 ≤ 4000000000000000000) {pl0 : va_W} (hok : tt_ok rt_tk cA Kd pl0) (hm : rl_m pl0 h0 aw aa at0 ai af ap) (hC : tt_lc pl0 aw f) (hCp : tt_lc pl0 ap P) (hs6 : tt_at pl0 h0 6 (.int (nI n6))) : jj_M l D cA ak yX11_errorPosition (.code yX11_errorPosition cX11_errorPosition 1 (some .int)) 0 0 0 0 ([] ++ pl0) [.ref h0] (tt_O (fun rx pl1 r => rx = [] ∧ tt_ok rt_tk cA Kd pl1 ∧ tt_fr Kd [(1, 7)] pl0 pl1 ∧ tt_fa Kd [] pl0 pl1 ∧ ((rl_M (B + 30000000) (C9 + 2000) pl1 h0 aw ap ∧ ∃ v : Int32, r = some (.int v))))) (tt_OX (fun _ _ _ => False)) := by
  refine jj_start hl (by decide) jw_89585a2ded (jj_le rfl) ?_
  intro p e s m args below meth c A hargs hA C hex hmn
  have hfr := tt_fr.refl (K := Kd) (WS := [(1, 7)]) pl0
  have hfa := tt_fa.refl (K := Kd) (WA := []) pl0
  have hI := hK.1
  have hP := hK.2.1
  have hH := hI.1.1
  obtain ⟨⟨g0a, g0b⟩, ⟨g1a, g1b⟩, ⟨g6a, g6b⟩, ⟨g7a, g7b⟩, ⟨g8a, g8b⟩⟩ := hH
  have hB : B ≤ 43920000000 := by omega
  have hB6 : B + 360000000 ≤ 43920000000 := by omega
  have h9a := hK.2.2.1
  have h9b := hK.2.2.2
  have h9 : 0 ≤ (f 9).toInt ∧ (f 9).toInt < 4611686018427387000 := ⟨h9a, by omega⟩
  refine jj_aload_n C dX11_errorPosition_0 rfl ?_
  refine jj_iconst (v := 0) C dX11_errorPosition_1 (by decide) ?_
  refine rl_put C hok jk_12 7 (by decide) jw_0a65e3738e (t := (0, (-2147483648), 2147483647)) hk0 (by decide) rfl rfl rfl (tt_ia (0 : Int32)) rfl rfl dX11_errorPosition_2 (fun pl_1 hok_2 tr hn tl => ?_)
  replace hs6 := tr _ _ _ (Or.inr (by decide)) hs6
  have hf_3 := hn
  replace hm := hm.put tr (by decide)
  replace hfr := hfr.put hk0 tr (by decide)
  replace hC := tl _ _ hC
  replace hCp := tl _ _ hCp
  replace hfa := hfa.all tl
  refine jj_aload_n C dX11_errorPosition_5 rfl ?_
  refine tt_get C hok_2 jk_12 18 (by decide) jw_a8ef26b797 (t := (0, (-2147483648), 2147483647)) hk0 (by decide) rfl rfl dX11_errorPosition_6 (fun v_4 hv_4 hf_5 => ?_)
  obtain ⟨x_6, rfl, lx_6, ux_6⟩ := tt_vi hv_4
  exact jj_iret C ⟨[], pl_1, rfl, rfl, hok_2, hfr, hfa, ⟨⟨_, _, n6, hC, hCp, hs6, (by omega), (hK.mono (by omega) (by omega)), hHP.mono (by omega) (by omega)⟩, x_6, rfl⟩⟩ dX11_errorPosition_9 (jj_le rfl) (jj_le rfl)
