theorem rg_accN {f : Nat → Int64} {k : Nat} (h : f (18 + 5 * k) - rg_worth (f (20 + 5 * k)) (f (19 + 5 * k)) ≤ 0) : rg_acc f k = 0 := if_neg (Int64.not_lt.mpr h)
theorem rg_accP {f : Nat → Int64} {k : Nat} (h : ¬ f (18 + 5 * k) - rg_worth (f (20 + 5 * k)) (f (19 + 5 * k)) ≤ 0) : rg_acc f k = (f (18 + 5 * k) - rg_worth (f (20 + 5 * k)) (f (19 + 5 * k))) * f 3 / 100 := if_pos (Int64.not_le.mp h)
theorem jw_759d064724 : Cond.constantLong RX11 94 (100000) ∈ jj_G := jj_t7 (List.mem_of_getElem? (i := 79) (by decide +kernel)) rfl
theorem jw_5385d4d55b : Cond.code yX11_gross cX11_gross 2 (some .long) ∈ jj_G := jj_t7 (List.mem_of_getElem? (i := 87) (by decide +kernel)) rfl
theorem jw_2d6c35a821 : Cond.methodLink RX11 98 yX11_worthAt ∈ jj_G := jj_t7 (List.mem_of_getElem? (i := 76) (by decide +kernel)) rfl
theorem jw_1259b4e227 : Cond.code yX11_worthAt cX11_worthAt 4 (some .long) ∈ jj_G := jj_t7 (List.mem_of_getElem? (i := 78) (by decide +kernel)) rfl
theorem jw_81064de76c : Cond.static yX11_worthAt ∈ jj_G := jj_t7 (List.mem_of_getElem? (i := 77) (by decide +kernel)) rfl
theorem jn_X11_worthAt : jj_N yX11_worthAt 2 := by unfold jj_N; decide +kernel
theorem jw_0cface3231 : Cond.constantLong RX11 56 (100) ∈ jj_G := jj_t6 (List.mem_of_getElem? (i := 153) (by decide +kernel)) rfl
theorem jw_3e876c9b97 : Cond.code yX11_accrued cX11_accrued 4 (some .long) ∈ jj_G := jj_t7 (List.mem_of_getElem? (i := 75) (by decide +kernel)) rfl
theorem jw_2b94ab0b2c : Cond.methodLink RX11 102 yX11_accrued ∈ jj_G := jj_t7 (List.mem_of_getElem? (i := 72) (by decide +kernel)) rfl
theorem jw_fa756eb8b8 : Cond.instanceMethod yX11_accrued ∈ jj_G := jj_t7 (List.mem_of_getElem? (i := 74) (by decide +kernel)) rfl
theorem jw_81537d461f : Cond.selects RX11 yX11_accrued yX11_accrued ∈ jj_G := jj_pv (q := (yX11_accrued, 25)) (by decide +kernel)
theorem jn_X11_accrued : jj_N yX11_accrued 1 := by unfold jj_N; decide +kernel
theorem jw_02915e3ff9 : Cond.code yX11_net cX11_net 2 (some .long) ∈ jj_G := jj_t7 (List.mem_of_getElem? (i := 71) (by decide +kernel)) rfl
theorem jw_a26e9314b3 : Cond.code yX11_seriesOf cX11_seriesOf 2 (some .int) ∈ jj_G := jj_t7 (List.mem_of_getElem? (i := 60) (by decide +kernel)) rfl
set_option maxHeartbeats 4000000 in
set_option maxRecDepth 100000 in
theorem ct_X11_worthAt_1 {l : Launch} (hl : l.stackTraces = false) (D : va_G) (cA : Nat → ClassId) (ak : (Nat → Nat) × (Nat → Nat)) (b0 : Int64) (b1 : Int64) : jj_M l D cA ak yX11_worthAt (.code yX11_worthAt cX11_worthAt 4 (some .long)) 0 0 0 0 [] [.long b0, .long b1] (fun (w : va_W) (r : Option Value) => (w = [] ∧ r = some (.long (((b0 / 100000) * b1) + (((b0 - b0 / 100000 * 100000) * b1) / 100000))))) jj_noX := by
  refine jj_start hl (by decide) jw_1259b4e227 (jj_le rfl) ?_
  intro p e s m args below meth c A hargs hA C hex hmn
  refine jj_lload_n C dX11_worthAt_0 rfl ?_
  refine jj_ldc2 (v := 100000) C dX11_worthAt_1 jw_759d064724 ?_
  refine jj_ldiv C dX11_worthAt_4 (by decide) rfl ?_
  refine jj_lload_n C dX11_worthAt_5 rfl ?_
  refine jj_lmul C dX11_worthAt_6 rfl ?_
  refine jj_lload_n C dX11_worthAt_7 rfl ?_
  refine jj_ldc2 (v := 100000) C dX11_worthAt_8 jw_759d064724 ?_
  refine jj_lrem C dX11_worthAt_11 (by decide) rfl ?_
  refine jj_lload_n C dX11_worthAt_12 rfl ?_
  refine jj_lmul C dX11_worthAt_13 rfl ?_
  refine jj_ldc2 (v := 100000) C dX11_worthAt_14 jw_759d064724 ?_
  refine jj_ldiv C dX11_worthAt_17 (by decide) rfl ?_
  refine jj_ladd C dX11_worthAt_18 rfl ?_
  exact jj_lret C ⟨rfl, rfl⟩ dX11_worthAt_19 (jj_le rfl) (jj_le rfl)

set_option maxHeartbeats 4000000 in
set_option maxRecDepth 100000 in
theorem rs_gross {l : Launch} (hl : l.stackTraces = false) (D : va_G) (cA : Nat → ClassId) (ak : (Nat → Nat) × (Nat → Nat)) {Kd : Nat → Nat} {h0 aw aa at0 ai af ap : Nat} (k : Nat) (f : Nat → Int64) (hk0 : Kd h0 = 1) (hkw : Kd aw = 2) (hka : Kd aa = 3) (hkt : Kd at0 = 4) (hki : Kd ai = 5) (hkf : Kd af = 6) (hkp : Kd ap = 7) (hk : k < 6) (hu : ¬ f (19 + 5 * k) = 0) {pl0 : va_W} (hok : tt_ok rt_tk cA Kd pl0) (hm : rl_m pl0 h0 aw aa at0 ai af ap) (hC : tt_lc pl0 aw f) : jj_M l D cA ak yX11_gross (.code yX11_gross cX11_gross 2 (some .long)) 0 0 0 0 ([] ++ pl0) [.ref h0, .int (nI (16 + 5 * k))] (tt_O (fun rx pl1 r => rx = [] ∧ tt_ok rt_tk cA Kd pl1 ∧ tt_fr Kd [] pl0 pl1 ∧ tt_fa Kd [] pl0 pl1 ∧ ((r = some (.long (rg_gross f k)))))) (tt_OX (fun _ _ _ => False)) := by
  refine jj_start hl (by decide) jw_5385d4d55b (jj_le rfl) ?_
  intro p e s m args below meth c A hargs hA C hex hmn
  have hfr := tt_fr.refl (K := Kd) (WS := []) pl0
  have hfa := tt_fa.refl (K := Kd) (WA := []) pl0
  refine jj_aload_n C dX11_gross_0 rfl ?_
  refine tt_getF C hok jk_12 0 (by decide) jw_34eaf3ba8b (t := (2, 2, 0)) hk0 (by decide) rfl rfl hm.1 dX11_gross_1 ?_
  refine jj_iload_n C dX11_gross_4 rfl ?_
  refine jj_iconst (v := 2) C dX11_gross_5 (by decide) ?_
  refine jj_iadd (v := nI (18 + 5 * k)) C dX11_gross_6 (rl_addR (kn := 2) (by decide) (by omega)) ?_
  refine rl_lald C hok (t := (1, (-9223372036854775808), 9223372036854775807)) hkw (by decide) rfl (k := 18 + 5 * k) (v := (f (18 + 5 * k))) (vp_in_nI (by omega) (by decide)) hC (nI_clamp (by omega)) rfl dX11_gross_7 ?_
  refine jj_ldc2 (v := 100000) C dX11_gross_8 jw_759d064724 ?_
  refine jj_lmul C dX11_gross_11 rfl ?_
  refine jj_aload_n C dX11_gross_12 rfl ?_
  refine tt_getF C hok jk_12 0 (by decide) jw_34eaf3ba8b (t := (2, 2, 0)) hk0 (by decide) rfl rfl hm.1 dX11_gross_13 ?_
  refine jj_iload_n C dX11_gross_16 rfl ?_
  refine jj_iconst (v := 3) C dX11_gross_17 (by decide) ?_
  refine jj_iadd (v := nI (19 + 5 * k)) C dX11_gross_18 (rl_addR (kn := 3) (by decide) (by omega)) ?_
  refine rl_lald C hok (t := (1, (-9223372036854775808), 9223372036854775807)) hkw (by decide) rfl (k := 19 + 5 * k) (v := (f (19 + 5 * k))) (vp_in_nI (by omega) (by decide)) hC (nI_clamp (by omega)) rfl dX11_gross_19 ?_
  refine jj_ldiv C dX11_gross_20 hu rfl ?_
  exact jj_lret C ⟨[], pl0, rfl, rfl, hok, hfr, hfa, rfl⟩ dX11_gross_21 (jj_le rfl) (jj_le rfl)

set_option maxHeartbeats 4000000 in
set_option maxRecDepth 100000 in
theorem rs_accrued {l : Launch} (hl : l.stackTraces = false) (D : va_G) (cA : Nat → ClassId) (ak : (Nat → Nat) × (Nat → Nat)) {Kd : Nat → Nat} {h0 aw aa at0 ai af ap : Nat} (k : Nat) (f : Nat → Int64) (hk0 : Kd h0 = 1) (hkw : Kd aw = 2) (hka : Kd aa = 3) (hkt : Kd at0 = 4) (hki : Kd ai = 5) (hkf : Kd af = 6) (hkp : Kd ap = 7) (hk : k < 6) {pl0 : va_W} (hok : tt_ok rt_tk cA Kd pl0) (hm : rl_m pl0 h0 aw aa at0 ai af ap) (hC : tt_lc pl0 aw f) : jj_M l D cA ak yX11_accrued (.code yX11_accrued cX11_accrued 4 (some .long)) 1 23 0 0 ([] ++ pl0) [.ref h0, .int (nI (16 + 5 * k))] (tt_O (fun rx pl1 r => rx = [] ∧ tt_ok rt_tk cA Kd pl1 ∧ tt_fr Kd [] pl0 pl1 ∧ tt_fa Kd [] pl0 pl1 ∧ ((r = some (.long (rg_acc f k)))))) (tt_OX (fun _ _ _ => False)) := by
  refine jj_start hl (by decide) jw_3e876c9b97 (jj_le rfl) ?_
  intro p e s m args below meth c A hargs hA C hex hmn
  have hfr := tt_fr.refl (K := Kd) (WS := []) pl0
  have hfa := tt_fa.refl (K := Kd) (WA := []) pl0
  refine jj_aload_n C dX11_accrued_0 rfl ?_
  refine tt_getF C hok jk_12 0 (by decide) jw_34eaf3ba8b (t := (2, 2, 0)) hk0 (by decide) rfl rfl hm.1 dX11_accrued_1 ?_
  refine jj_iload_n C dX11_accrued_4 rfl ?_
  refine jj_iconst (v := 2) C dX11_accrued_5 (by decide) ?_
  refine jj_iadd (v := nI (18 + 5 * k)) C dX11_accrued_6 (rl_addR (kn := 2) (by decide) (by omega)) ?_
  refine rl_lald C hok (t := (1, (-9223372036854775808), 9223372036854775807)) hkw (by decide) rfl (k := 18 + 5 * k) (v := (f (18 + 5 * k))) (vp_in_nI (by omega) (by decide)) hC (nI_clamp (by omega)) rfl dX11_accrued_7 ?_
  refine jj_aload_n C dX11_accrued_8 rfl ?_
  refine tt_getF C hok jk_12 0 (by decide) jw_34eaf3ba8b (t := (2, 2, 0)) hk0 (by decide) rfl rfl hm.1 dX11_accrued_9 ?_
  refine jj_iload_n C dX11_accrued_12 rfl ?_
  refine jj_iconst (v := 4) C dX11_accrued_13 (by decide) ?_
  refine jj_iadd (v := nI (20 + 5 * k)) C dX11_accrued_14 (rl_addR (kn := 4) (by decide) (by omega)) ?_
  refine rl_lald C hok (t := (1, (-9223372036854775808), 9223372036854775807)) hkw (by decide) rfl (k := 20 + 5 * k) (v := (f (20 + 5 * k))) (vp_in_nI (by omega) (by decide)) hC (nI_clamp (by omega)) rfl dX11_accrued_15 ?_
  refine jj_aload_n C dX11_accrued_16 rfl ?_
  refine tt_getF C hok jk_12 0 (by decide) jw_34eaf3ba8b (t := (2, 2, 0)) hk0 (by decide) rfl rfl hm.1 dX11_accrued_17 ?_
  refine jj_iload_n C dX11_accrued_20 rfl ?_
  refine jj_iconst (v := 3) C dX11_accrued_21 (by decide) ?_
  refine jj_iadd (v := nI (19 + 5 * k)) C dX11_accrued_22 (rl_addR (kn := 3) (by decide) (by omega)) ?_
  refine rl_lald C hok (t := (1, (-9223372036854775808), 9223372036854775807)) hkw (by decide) rfl (k := 19 + 5 * k) (v := (f (19 + 5 * k))) (vp_in_nI (by omega) (by decide)) hC (nI_clamp (by omega)) rfl dX11_accrued_23 ?_
  refine tt_call0S (rest := [.long (f (18 + 5 * k))]) C (ct_X11_worthAt_1 hl D cA ak (f (20 + 5 * k)) (f (19 + 5 * k))) jw_2d6c35a821 jw_81064de76c jw_f96c99f44d jw_1259b4e227 jn_X11_worthAt rfl (jj_le rfl) (jj_le rfl) (jj_le rfl) (jj_le rfl) (jj_le rfl) dX11_accrued_24 rfl (fun w1 r O_1 => ?_)
  obtain ⟨-, rfl⟩ := O_1
  refine jj_lsub C dX11_accrued_27 rfl ?_
  refine jj_lstore_n C dX11_accrued_28 (by decide) rfl ?_
  refine jj_lload_n C dX11_accrued_29 rfl ?_
  refine jj_lconst (v := 0) C dX11_accrued_30 (by decide) ?_
  refine jj_lcmp_le (tgt := 50) C dX11_accrued_31 dX11_accrued_32 (by decide) (fun c_2 => ?_) (fun c_2 => ?_)
  · have z_c_2 := jc_leL (a := ((f (18 + 5 * k)) - ((((f (20 + 5 * k)) / 100000) * (f (19 + 5 * k))) + ((((f (20 + 5 * k)) - (f (20 + 5 * k)) / 100000 * 100000) * (f (19 + 5 * k))) / 100000))).toInt) (b := 0) c_2 rfl (by decide)
    refine jj_lconst (v := 0) C dX11_accrued_50 (by decide) ?_
    exact jj_lret C ⟨[], pl0, rfl, rfl, hok, hfr, hfa, (congrArg (fun z => some (Value.long z)) (rg_accN c_2).symm)⟩ dX11_accrued_51 (jj_le rfl) (jj_le rfl)
  · have z_c_2 := jc_nleL (a := ((f (18 + 5 * k)) - ((((f (20 + 5 * k)) / 100000) * (f (19 + 5 * k))) + ((((f (20 + 5 * k)) - (f (20 + 5 * k)) / 100000 * 100000) * (f (19 + 5 * k))) / 100000))).toInt) (b := 0) c_2 rfl (by decide)
    refine jj_lload_n C dX11_accrued_35 rfl ?_
    refine jj_aload_n C dX11_accrued_36 rfl ?_
    refine tt_getF C hok jk_12 0 (by decide) jw_34eaf3ba8b (t := (2, 2, 0)) hk0 (by decide) rfl rfl hm.1 dX11_accrued_37 ?_
    refine jj_iconst (v := 3) C dX11_accrued_40 (by decide) ?_
    refine rl_lald C hok (t := (1, (-9223372036854775808), 9223372036854775807)) hkw (by decide) rfl (k := 3) (v := (f 3)) (vp_in_iff.mpr (by decide)) hC (by decide) rfl dX11_accrued_41 ?_
    refine jj_lmul C dX11_accrued_42 rfl ?_
    refine jj_ldc2 (v := 100) C dX11_accrued_43 jw_0cface3231 ?_
    refine jj_ldiv C dX11_accrued_46 (by decide) rfl ?_
    refine jj_goto (tgt := 51) C dX11_accrued_47 (by decide) ?_
    exact jj_lret C ⟨[], pl0, rfl, rfl, hok, hfr, hfa, (congrArg (fun z => some (Value.long z)) (rg_accP c_2).symm)⟩ dX11_accrued_51 (jj_le rfl) (jj_le rfl)

set_option maxHeartbeats 4000000 in
set_option maxRecDepth 100000 in
theorem rs_net {l : Launch} (hl : l.stackTraces = false) (D : va_G) (cA : Nat → ClassId) (ak : (Nat → Nat) × (Nat → Nat)) {Kd : Nat → Nat} {h0 aw aa at0 ai af ap : Nat} (k : Nat) (f : Nat → Int64) (hk0 : Kd h0 = 1) (hkw : Kd aw = 2) (hka : Kd aa = 3) (hkt : Kd at0 = 4) (hki : Kd ai = 5) (hkf : Kd af = 6) (hkp : Kd ap = 7) (hk : k < 6) {pl0 : va_W} (hok : tt_ok rt_tk cA Kd pl0) (hm : rl_m pl0 h0 aw aa at0 ai af ap) (hC : tt_lc pl0 aw f) : jj_M l D cA ak yX11_net (.code yX11_net cX11_net 2 (some .long)) 2 46 0 0 ([] ++ pl0) [.ref h0, .int (nI (16 + 5 * k))] (tt_O (fun rx pl1 r => rx = [] ∧ tt_ok rt_tk cA Kd pl1 ∧ tt_fr Kd [] pl0 pl1 ∧ tt_fa Kd [] pl0 pl1 ∧ ((r = some (.long (f (18 + 5 * k) - rg_acc f k)))))) (tt_OX (fun _ _ _ => False)) := by
  refine jj_start hl (by decide) jw_02915e3ff9 (jj_le rfl) ?_
  intro p e s m args below meth c A hargs hA C hex hmn
  have hfr := tt_fr.refl (K := Kd) (WS := []) pl0
  have hfa := tt_fa.refl (K := Kd) (WA := []) pl0
  refine jj_aload_n C dX11_net_0 rfl ?_
  refine tt_getF C hok jk_12 0 (by decide) jw_34eaf3ba8b (t := (2, 2, 0)) hk0 (by decide) rfl rfl hm.1 dX11_net_1 ?_
  refine jj_iload_n C dX11_net_4 rfl ?_
  refine jj_iconst (v := 2) C dX11_net_5 (by decide) ?_
  refine jj_iadd (v := nI (18 + 5 * k)) C dX11_net_6 (rl_addR (kn := 2) (by decide) (by omega)) ?_
  refine rl_lald C hok (t := (1, (-9223372036854775808), 9223372036854775807)) hkw (by decide) rfl (k := 18 + 5 * k) (v := (f (18 + 5 * k))) (vp_in_nI (by omega) (by decide)) hC (nI_clamp (by omega)) rfl dX11_net_7 ?_
  refine jj_aload_n C dX11_net_8 rfl ?_
  refine jj_iload_n C dX11_net_9 rfl ?_
  obtain ⟨qc, gs, hqc⟩ := tt_recv (cx := []) hok hk0 (by decide) rfl
  refine tt_callV (rest := [.long (f (18 + 5 * k))]) C (rs_accrued hl D cA ak k f hk0 hkw hka hkt hki hkf hkp (by omega) hok hm hC) [] [] rfl rfl (by decide) (by decide) (by decide) qc hqc rfl rfl jw_2b94ab0b2c jw_fa756eb8b8 jw_81537d461f jw_f96c99f44d jw_3e876c9b97 jn_X11_accrued rfl (jj_le rfl) (jj_le rfl) (jj_le rfl) (jj_le rfl) (jj_le rfl) dX11_net_10 rfl (fun _ _ _ hX => hX.elim) (fun rx pl_1 r O_5 => ?_)
  obtain ⟨rfl, hok_2, hr_3, ha_4, hR_6⟩ := O_5
  replace hC := ha_4.at hkw (by decide) (by decide) hC
  replace hm := hm.fr hr_3 hk0 rfl
  replace hfr := hfr.trans (hr_3.sub (by decide))
  replace hfa := hfa.trans (ha_4.sub (by decide))
  obtain rfl := hR_6
  refine jj_lsub C dX11_net_13 rfl ?_
  exact jj_lret C ⟨[], pl_1, rfl, rfl, hok_2, hfr, hfa, rfl⟩ dX11_net_14 (jj_le rfl) (jj_le rfl)

set_option maxHeartbeats 4000000 in
set_option maxRecDepth 100000 in
theorem rs_placeOf {l : Launch} (hl : l.stackTraces = false) (D : va_G) (cA : Nat → ClassId) (ak : (Nat → Nat) × (Nat → Nat)) {Kd : Nat → Nat} {h0 aw aa at0 ai af ap : Nat} (p1 : Int64) (f : Nat → Int64) (hk0 : Kd h0 = 1) (hkw : Kd aw = 2) (hka : Kd aa = 3) (hkt : Kd at0 = 4) (hki : Kd ai = 5) (hkf : Kd af = 6) (hkp : Kd ap = 7) (hH : rl_h f) {pl0 : va_W} (hok : tt_ok rt_tk cA Kd pl0) (hm : rl_m pl0 h0 aw aa at0 ai af ap) (hC : tt_lc pl0 aw f) : jj_M l D cA ak yX11_placeOf (.code yX11_placeOf cX11_placeOf 4 (some .int)) 1 20 0 0 ([] ++ pl0) [.ref h0, .long p1] (tt_O (fun rx pl1 r => rx = [] ∧ tt_ok rt_tk cA Kd pl1 ∧ tt_fr Kd [] pl0 pl1 ∧ tt_fa Kd [] pl0 pl1 ∧ (((∀ q : Nat, q < rnS f → ¬ f (16 + 5 * q) = p1) ∧ r = some (.int (-1))) ∨ (∃ k : Nat, k < rnS f ∧ f (16 + 5 * k) = p1 ∧ r = some (.int (nI (16 + 5 * k))))))) (tt_OX (fun _ _ _ => False)) := by
  refine jj_start hl (by decide) jw_d7a6daa34b (jj_le rfl) ?_
  intro p e s m args below meth c A hargs hA C hex hmn
  have hfr := tt_fr.refl (K := Kd) (WS := []) pl0
  have hfa := tt_fa.refl (K := Kd) (WA := []) pl0
  obtain ⟨⟨g0a, g0b⟩, ⟨g1a, g1b⟩, ⟨g6a, g6b⟩, ⟨g7a, g7b⟩, ⟨g8a, g8b⟩⟩ := hH
  refine jj_iconst (v := 0) C dX11_placeOf_0 (by decide) ?_
  refine jj_istore_n C dX11_placeOf_1 (by decide) rfl ?_
  have hL_1 : ∀ (N : Nat) (pl : va_W) (k_2 : Nat), True → tt_ok rt_tk cA Kd pl → tt_fr Kd [] pl0 pl → tt_fa Kd [] pl0 pl → rl_m pl h0 aw aa at0 ai af ap → tt_lc pl aw f → (0 : Int) ≤ (k_2 : Int) → (k_2 : Int) ≤ 6 → (∀ q : Nat, q < k_2 → ¬ f (16 + 5 * q) = p1) → (2147483648 - (k_2 : Int) ≤ (N : Int)) → jj_J p l e (jj_rm 1 20 0 0) s m args below meth c 4 A (vx_MQ below (jj_q D A (tt_O (fun rx pl1 r => rx = [] ∧ tt_ok rt_tk cA Kd pl1 ∧ tt_fr Kd [] pl0 pl1 ∧ tt_fa Kd [] pl0 pl1 ∧ (((∀ q : Nat, q < rnS f → ¬ f (16 + 5 * q) = p1) ∧ r = some (.int (-1))) ∨ (∃ k : Nat, k < rnS f ∧ f (16 + 5 * k) = p1 ∧ r = some (.int (nI (16 + 5 * k)))))))) (jj_x D A (tt_OX (fun _ _ _ => False))) args s 0 0 A) (jj_X D A ([] ++ pl)) 0 0 2 [(3, .int (nI k_2)), (0, .ref h0), (1, .long p1)] [] := by
    intro NL_1
    induction NL_1 with
    | zero => intro pl k_2 _ hok hfr hfa hm hC lk_2 uk_2 hI hNL_1; exfalso; omega
    | succ NL_1 ihL_1 =>
      intro pl k_2 _ hok hfr hfa hm hC lk_2 uk_2 hI hNL_1
      replace ihL_1 := fun pl k_2 h1 => ihL_1 pl k_2 trivial h1
      refine jj_iload_n C dX11_placeOf_2 rfl ?_
      refine jj_i2l C dX11_placeOf_3 rfl ?_
      refine jj_aload_n C dX11_placeOf_4 rfl ?_
      refine tt_getF C hok jk_12 0 (by decide) jw_34eaf3ba8b (t := (2, 2, 0)) hk0 (by decide) rfl rfl hm.1 dX11_placeOf_5 ?_
      refine jj_bipush (v := 6) C dX11_placeOf_8 (by decide) ?_
      refine rl_lald C hok (t := (1, (-9223372036854775808), 9223372036854775807)) hkw (by decide) rfl (k := 6) (v := (f 6)) (vp_in_iff.mpr (by decide)) hC (by decide) rfl dX11_placeOf_10 ?_
      refine jj_lcmp_ge (tgt := 42) C dX11_placeOf_11 dX11_placeOf_12 (by decide) (fun c_3 => ?_) (fun c_3 => ?_)
      · have z_c_3 := jc_leL (a := (f 6).toInt) (b := ((k_2 : Nat) : Int)) c_3 rfl (rl_tl (by omega))
        refine jj_iconst (v := (-1)) C dX11_placeOf_42 (by decide) ?_
        exact jj_iret C ⟨[], pl, rfl, rfl, hok, hfr, hfa, (Or.inl ⟨fun q hq => hI q (by unfold rnS at hq; omega), rfl⟩)⟩ dX11_placeOf_43 (jj_le rfl) (jj_le rfl)
      · have z_c_3 := jc_nleL (a := (f 6).toInt) (b := ((k_2 : Nat) : Int)) c_3 rfl (rl_tl (by omega))
        refine jj_aload_n C dX11_placeOf_15 rfl ?_
        refine tt_getF C hok jk_12 0 (by decide) jw_34eaf3ba8b (t := (2, 2, 0)) hk0 (by decide) rfl rfl hm.1 dX11_placeOf_16 ?_
        refine jj_iload_n C dX11_placeOf_19 rfl ?_
        refine tt_call0S (rest := [.ref aw]) C (rn_seriesAt hl D cA ak k_2 (16 + 5 * k_2) (by omega)) jw_6251557f40 jw_b2cd40a13f jw_f96c99f44d jw_6245231363 jn_X11_seriesAt rfl (jj_le rfl) (jj_le rfl) (jj_le rfl) (jj_le rfl) (jj_le rfl) dX11_placeOf_20 rfl (fun w1 r hO => ?_)
        obtain ⟨-, rfl⟩ := hO
        refine jj_iconst (v := 0) C dX11_placeOf_23 (by decide) ?_
        refine jj_iadd (v := nI (16 + 5 * k_2)) C dX11_placeOf_24 (rl_addR (kn := 0) (by decide) (by omega)) ?_
        refine rl_lald C hok (t := (1, (-9223372036854775808), 9223372036854775807)) hkw (by decide) rfl (k := 16 + 5 * k_2) (v := (f (16 + 5 * k_2))) (vp_in_nI (by omega) (by decide)) hC (nI_clamp (by omega)) rfl dX11_placeOf_25 ?_
        refine jj_lload_n C dX11_placeOf_26 rfl ?_
        refine jj_lcmp_ne (tgt := 36) C dX11_placeOf_27 dX11_placeOf_28 (by decide) (fun c_4 => ?_) (fun c_4 => ?_)
        · have z_c_4 := jc_neqL (a := (f (16 + 5 * k_2)).toInt) (b := p1.toInt) c_4 rfl rfl
          refine jj_iinc (v := nI (1 + k_2)) C dX11_placeOf_36 rfl (rl_addR (kn := 1) (by decide) (by omega)) (by decide) rfl ?_
          refine jj_goto (tgt := 2) C dX11_placeOf_39 (by decide) ?_
          exact ihL_1 pl (1 + k_2) hok hfr hfa hm hC (by first | omega | decide | exact tt_lo _ | exact tt_hi _) (by first | omega | decide | exact tt_lo _ | exact tt_hi _) (fun q hq => (Nat.lt_succ_iff_lt_or_eq.mp (by omega : q < k_2 + 1)).elim (hI q) (fun z => by rw [z]; exact c_4)) (by first | omega | decide | exact tt_lo _ | exact tt_hi _)
        · have z_c_4 := jc_eqL (a := (f (16 + 5 * k_2)).toInt) (b := p1.toInt) c_4 rfl rfl
          refine jj_iload_n C dX11_placeOf_31 rfl ?_
          refine tt_call0S (rest := []) C (rn_seriesAt hl D cA ak k_2 (16 + 5 * k_2) (by omega)) jw_6251557f40 jw_b2cd40a13f jw_f96c99f44d jw_6245231363 jn_X11_seriesAt rfl (jj_le rfl) (jj_le rfl) (jj_le rfl) (jj_le rfl) (jj_le rfl) dX11_placeOf_32 rfl (fun w1 r hO => ?_)
          obtain ⟨-, rfl⟩ := hO
          exact jj_iret C ⟨[], pl, rfl, rfl, hok, hfr, hfa, (Or.inr ⟨k_2, by unfold rnS; omega, c_4, rfl⟩)⟩ dX11_placeOf_35 (jj_le rfl) (jj_le rfl)
  exact hL_1 _ pl0 0 trivial hok hfr hfa hm hC (by first | omega | decide | exact tt_lo _ | exact tt_hi _) (by first | omega | decide | exact tt_lo _ | exact tt_hi _) (fun q hq => absurd hq (Nat.not_lt_zero _)) (Int.self_le_toNat _)

set_option maxHeartbeats 4000000 in
set_option maxRecDepth 100000 in
theorem rs_seriesOf {l : Launch} (hl : l.stackTraces = false) (D : va_G) (cA : Nat → ClassId) (ak : (Nat → Nat) × (Nat → Nat)) {Kd : Nat → Nat} {h0 aw aa at0 ai af ap : Nat} (j : Nat) (B : Int) (f : Nat → Int64) (hk0 : Kd h0 = 1) (hkw : Kd aw = 2) (hka : Kd aa = 3) (hkt : Kd at0 = 4) (hki : Kd ai = 5) (hkf : Kd af = 6) (hkp : Kd ap = 7) (hj : j < rnL f) (hI : rl_I B f) {pl0 : va_W} (hok : tt_ok rt_tk cA Kd pl0) (hm : rl_m pl0 h0 aw aa at0 ai af ap) (hC : tt_lc pl0 aw f) : jj_M l D cA ak yX11_seriesOf (.code yX11_seriesOf cX11_seriesOf 2 (some .int)) 2 43 0 0 ([] ++ pl0) [.ref h0, .int (nI (46 + 6 * j))] (tt_O (fun rx pl1 r => rx = [] ∧ tt_ok rt_tk cA Kd pl1 ∧ tt_fr Kd [] pl0 pl1 ∧ tt_fa Kd [] pl0 pl1 ∧ ((∃ k : Nat, k < rnS f ∧ (f (16 + 5 * k)).toInt = (f (47 + 6 * j)).toInt ∧ r = some (.int (nI (16 + 5 * k))))))) (tt_OX (fun _ _ _ => False)) := by
  refine jj_start hl (by decide) jw_a26e9314b3 (jj_le rfl) ?_
  intro p e s m args below meth c A hargs hA C hex hmn
  have hfr := tt_fr.refl (K := Kd) (WS := []) pl0
  have hfa := tt_fa.refl (K := Kd) (WA := []) pl0
  have hH := hI.1.1
  obtain ⟨⟨g0a, g0b⟩, ⟨g1a, g1b⟩, ⟨g6a, g6b⟩, ⟨g7a, g7b⟩, ⟨g8a, g8b⟩⟩ := hH
  have hj0 : (j : Int) < (f 7).toInt := by unfold rnL at hj; omega
  obtain ⟨kx, hkx, hke⟩ := hI.2.2.2.2.1 j hj
  refine jj_aload_n C dX11_seriesOf_0 rfl ?_
  refine jj_aload_n C dX11_seriesOf_1 rfl ?_
  refine tt_getF C hok jk_12 0 (by decide) jw_34eaf3ba8b (t := (2, 2, 0)) hk0 (by decide) rfl rfl hm.1 dX11_seriesOf_2 ?_
  refine jj_iload_n C dX11_seriesOf_5 rfl ?_
  refine jj_iconst (v := 1) C dX11_seriesOf_6 (by decide) ?_
  refine jj_iadd (v := nI (47 + 6 * j)) C dX11_seriesOf_7 (rl_addR (kn := 1) (by decide) (by omega)) ?_
  refine rl_lald C hok (t := (1, (-9223372036854775808), 9223372036854775807)) hkw (by decide) rfl (k := 47 + 6 * j) (v := (f (47 + 6 * j))) (vp_in_nI (by omega) (by decide)) hC (nI_clamp (by omega)) rfl dX11_seriesOf_8 ?_
  obtain ⟨qc, gs, hqc⟩ := tt_recv (cx := []) hok hk0 (by decide) rfl
  refine tt_callV (rest := []) C (rs_placeOf hl D cA ak (f (47 + 6 * j)) f hk0 hkw hka hkt hki hkf hkp ⟨⟨g0a, g0b⟩, ⟨g1a, g1b⟩, ⟨g6a, g6b⟩, ⟨g7a, g7b⟩, ⟨g8a, g8b⟩⟩ hok hm hC) [] [] rfl rfl (by decide) (by decide) (by decide) qc hqc rfl rfl jw_6d1eccde8c jw_a9a05b64d9 jw_ee32d85331 jw_f96c99f44d jw_d7a6daa34b jn_X11_placeOf rfl (jj_le rfl) (jj_le rfl) (jj_le rfl) (jj_le rfl) (jj_le rfl) dX11_seriesOf_9 rfl (fun _ _ _ hX => hX.elim) (fun rx pl_1 r O_5 => ?_)
  obtain ⟨rfl, hok_2, hr_3, ha_4, hR_6⟩ := O_5
  replace hC := ha_4.at hkw (by decide) (by decide) hC
  replace hm := hm.fr hr_3 hk0 rfl
  replace hfr := hfr.trans (hr_3.sub (by decide))
  replace hfa := hfa.trans (ha_4.sub (by decide))
  rcases hR_6 with ⟨hno_7, rfl⟩ | ⟨n_8, hn_8, qn_8, rfl⟩
  · exact absurd (Int64.toInt_inj.mp hke) (hno_7 kx hkx)
  · unfold rnS at hn_8
    exact jj_iret C ⟨[], pl_1, rfl, rfl, hok_2, hfr, hfa, ⟨n_8, by unfold rnS; omega, by rw [qn_8], rfl⟩⟩ dX11_seriesOf_12 (jj_le rfl) (jj_le rfl)
