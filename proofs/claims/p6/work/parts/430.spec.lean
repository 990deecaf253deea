theorem rg_accN {f : Nat → Int64} {k : Nat} (h : f (18 + 5 * k) - rg_worth (f (20 + 5 * k)) (f (19 + 5 * k)) ≤ 0) : rg_acc f k = 0 := if_neg (Int64.not_lt.mpr h)
theorem rg_accP {f : Nat → Int64} {k : Nat} (h : ¬ f (18 + 5 * k) - rg_worth (f (20 + 5 * k)) (f (19 + 5 * k)) ≤ 0) : rg_acc f k = (f (18 + 5 * k) - rg_worth (f (20 + 5 * k)) (f (19 + 5 * k))) * f 3 / 100 := if_pos (Int64.not_le.mp h)
theorem rg_shT (f : Nat → Int64) {a d k : Nat} (h : a ≤ k) (hd : 0 < d) : vp_updL (rg_sh f a d k) k (rg_sh f a d k (d + k)) = rg_sh f a d (1 + k) := by rw [Nat.add_comm 1 k]; exact rg_shS f h hd
theorem rl_U1 {B : Int} {f : Nat → Int64} (h : rl_I B f) {k j : Nat} (hk : k < rnS f) (hj : j < rnL f) (e : (f (16 + 5 * k)).toInt = (f (47 + 6 * j)).toInt) (hl : 1 ≤ (f (48 + 6 * j)).toInt) : ¬ f (19 + 5 * k) = 0 := fun z => by
  have h1 := h.uj hk hj e.symm
  have h2 : (0 : Int64).toInt = 0 := by decide
  rw [z, h2] at h1
  omega
theorem rl_N0 {y : Int64} (h : 1 ≤ y.toInt) : ¬ y = 0 := fun z => by rw [z] at h; exact absurd h (by decide)
theorem jw_759d064724 : Cond.constantLong RX11 94 (100000) ∈ jj_G := jj_t7 (List.mem_of_getElem? (i := 75) (by decide +kernel)) rfl
theorem jw_5385d4d55b : Cond.code yX11_gross cX11_gross 2 (some .long) ∈ jj_G := jj_t7 (List.mem_of_getElem? (i := 83) (by decide +kernel)) rfl
theorem jw_2d6c35a821 : Cond.methodLink RX11 98 yX11_worthAt ∈ jj_G := jj_t7 (List.mem_of_getElem? (i := 72) (by decide +kernel)) rfl
theorem jw_1259b4e227 : Cond.code yX11_worthAt cX11_worthAt 4 (some .long) ∈ jj_G := jj_t7 (List.mem_of_getElem? (i := 74) (by decide +kernel)) rfl
theorem jw_81064de76c : Cond.static yX11_worthAt ∈ jj_G := jj_t7 (List.mem_of_getElem? (i := 73) (by decide +kernel)) rfl
theorem jn_X11_worthAt : jj_N yX11_worthAt 2 := by unfold jj_N; decide +kernel
theorem jw_0cface3231 : Cond.constantLong RX11 56 (100) ∈ jj_G := jj_t6 (List.mem_of_getElem? (i := 153) (by decide +kernel)) rfl
theorem jw_3e876c9b97 : Cond.code yX11_accrued cX11_accrued 4 (some .long) ∈ jj_G := jj_t7 (List.mem_of_getElem? (i := 71) (by decide +kernel)) rfl
theorem jw_2b94ab0b2c : Cond.methodLink RX11 102 yX11_accrued ∈ jj_G := jj_t7 (List.mem_of_getElem? (i := 68) (by decide +kernel)) rfl
theorem jw_fa756eb8b8 : Cond.instanceMethod yX11_accrued ∈ jj_G := jj_t7 (List.mem_of_getElem? (i := 70) (by decide +kernel)) rfl
theorem jw_81537d461f : Cond.selects RX11 yX11_accrued yX11_accrued ∈ jj_G := jj_pv (q := (yX11_accrued, 25)) (by decide +kernel)
theorem jn_X11_accrued : jj_N yX11_accrued 1 := by unfold jj_N; decide +kernel
theorem jw_02915e3ff9 : Cond.code yX11_net cX11_net 2 (some .long) ∈ jj_G := jj_t7 (List.mem_of_getElem? (i := 67) (by decide +kernel)) rfl
theorem jw_a26e9314b3 : Cond.code yX11_seriesOf cX11_seriesOf 2 (some .int) ∈ jj_G := jj_t7 (List.mem_of_getElem? (i := 56) (by decide +kernel)) rfl
theorem jw_1edf99ea30 : Cond.methodLink RX11 121 yX11_gross ∈ jj_G := jj_t7 (List.mem_of_getElem? (i := 80) (by decide +kernel)) rfl
theorem jw_400b60e050 : Cond.instanceMethod yX11_gross ∈ jj_G := jj_t7 (List.mem_of_getElem? (i := 82) (by decide +kernel)) rfl
theorem jw_5647e6ad46 : Cond.selects RX11 yX11_gross yX11_gross ∈ jj_G := jj_pv (q := (yX11_gross, 25)) (by decide +kernel)
theorem jn_X11_gross : jj_N yX11_gross 1 := by unfold jj_N; decide +kernel
theorem jw_43e83b8e67 : Cond.methodLink RX11 124 yJ9_min_f86c9 ∈ jj_G := jj_t7 (List.mem_of_getElem? (i := 48) (by decide +kernel)) rfl
theorem jw_dd6c33de8b : Cond.code yX11_dueOf cX11_dueOf 7 (some .long) ∈ jj_G := jj_t7 (List.mem_of_getElem? (i := 79) (by decide +kernel)) rfl
theorem jw_a1dea5fe42 : Cond.code yX11_dropLot cX11_dropLot 3 none ∈ jj_G := jj_t7 (List.mem_of_getElem? (i := 91) (by decide +kernel)) rfl
theorem jw_1bc5a547f3 : Cond.code yX11_dropSeries cX11_dropSeries 3 none ∈ jj_G := jj_t7 (List.mem_of_getElem? (i := 99) (by decide +kernel)) rfl
theorem jw_563f13149e : Cond.code yX11_dropRequest cX11_dropRequest 3 none ∈ jj_G := jj_t7 (List.mem_of_getElem? (i := 134) (by decide +kernel)) rfl
theorem jw_d65a5bc022 : Cond.methodLink RX11 129 yX11_seriesOf ∈ jj_G := jj_t7 (List.mem_of_getElem? (i := 53) (by decide +kernel)) rfl
theorem jw_1dec1c43e7 : Cond.instanceMethod yX11_seriesOf ∈ jj_G := jj_t7 (List.mem_of_getElem? (i := 55) (by decide +kernel)) rfl
theorem jw_b10eba75a5 : Cond.selects RX11 yX11_seriesOf yX11_seriesOf ∈ jj_G := jj_pv (q := (yX11_seriesOf, 25)) (by decide +kernel)
theorem jn_X11_seriesOf : jj_N yX11_seriesOf 1 := by unfold jj_N; decide +kernel
theorem jw_097701ac65 : Cond.methodLink RX11 106 yX11_net ∈ jj_G := jj_t7 (List.mem_of_getElem? (i := 64) (by decide +kernel)) rfl
theorem jw_3078c54111 : Cond.instanceMethod yX11_net ∈ jj_G := jj_t7 (List.mem_of_getElem? (i := 66) (by decide +kernel)) rfl
theorem jw_c9e42407ff : Cond.selects RX11 yX11_net yX11_net ∈ jj_G := jj_pv (q := (yX11_net, 25)) (by decide +kernel)
theorem jn_X11_net : jj_N yX11_net 1 := by unfold jj_N; decide +kernel
theorem jw_4cb1fbd902 : Cond.methodLink RX11 132 yX11_dueOf ∈ jj_G := jj_t7 (List.mem_of_getElem? (i := 76) (by decide +kernel)) rfl
theorem jw_03d3ef9ef3 : Cond.instanceMethod yX11_dueOf ∈ jj_G := jj_t7 (List.mem_of_getElem? (i := 78) (by decide +kernel)) rfl
theorem jw_c125768d0a : Cond.selects RX11 yX11_dueOf yX11_dueOf ∈ jj_G := jj_pv (q := (yX11_dueOf, 25)) (by decide +kernel)
theorem jn_X11_dueOf : jj_N yX11_dueOf 3 := by unfold jj_N; decide +kernel
theorem jw_57bd70d95d : Cond.fieldLink RX11 136 "SeriesFundModel" "bases" "J" ∈ jj_G := jj_t6 (List.mem_of_getElem? (i := 162) (by decide +kernel)) rfl
theorem jw_f657bbcfa1 : Cond.fieldLink RX11 140 "SeriesFundModel" "payments" "J" ∈ jj_G := jj_t6 (List.mem_of_getElem? (i := 163) (by decide +kernel)) rfl
theorem jw_fb0beaaae0 : Cond.code yX11_use cX11_use 15 none ∈ jj_G := jj_t7 (List.mem_of_getElem? (i := 52) (by decide +kernel)) rfl
set_option maxHeartbeats 4000000 in
set_option maxRecDepth 100000 in
theorem ct_X11_worthAt_1 {l : Launch} (hl : l.stackTraces = false) (D : va_G) (cA : Nat → ClassId) (ak : (Nat → Nat) × (Nat → Nat)) (b0 : Int64) (b1 : Int64) : jj_M l D cA ak yX11_worthAt (.code yX11_worthAt cX11_worthAt 4 (some .long)) 0 0 0 0 [] [.long b0, .long b1] (fun (w : va_W) (r : Option Value) => (w = [] ∧ r = some (.long (((b0 / 100000) * b1) + (((b0 - b0 / 100000 * 100000) * b1) / 100000))))) jj_noX := by
  refine jj_start hl (by decide) jw_1259b4e227 (jj_le rfl) ?_
  intro p e s m args below meth c A hargs hA C hex hmn
  refine jj_lload_n C dX11_worthAt_0 rfl ?_
  refine jj_ldc2 (v := 100000) C dX11_worthAt_1 jw_759d064724 ?_
  refine jj_ldiv C dX11_worthAt_4 (by decide) rfl ?_
  refine jj_lload_n C dX11_worthAt_5 rfl ?_
  refine jj_lmul C dX11_worthAt_6 rfl ?_
  refine jj_lload_n C dX11_worthAt_7 rfl ?_
  refine jj_ldc2 (v := 100000) C dX11_worthAt_8 jw_759d064724 ?_
  refine jj_lrem C dX11_worthAt_11 (by decide) rfl ?_
  refine jj_lload_n C dX11_worthAt_12 rfl ?_
  refine jj_lmul C dX11_worthAt_13 rfl ?_
  refine jj_ldc2 (v := 100000) C dX11_worthAt_14 jw_759d064724 ?_
  refine jj_ldiv C dX11_worthAt_17 (by decide) rfl ?_
  refine jj_ladd C dX11_worthAt_18 rfl ?_
  exact jj_lret C ⟨rfl, rfl⟩ dX11_worthAt_19 (jj_le rfl) (jj_le rfl)

set_option maxHeartbeats 4000000 in
set_option maxRecDepth 100000 in
theorem rs_gross {l : Launch} (hl : l.stackTraces = false) (D : va_G) (cA : Nat → ClassId) (ak : (Nat → Nat) × (Nat → Nat)) {Kd : Nat → Nat} {h0 aw aa at0 ai af ap : Nat} (k : Nat) (f : Nat → Int64) (hk0 : Kd h0 = 1) (hkw : Kd aw = 2) (hka : Kd aa = 3) (hkt : Kd at0 = 4) (hki : Kd ai = 5) (hkf : Kd af = 6) (hkp : Kd ap = 7) (hk : k < 6) (hu : ¬ f (19 + 5 * k) = 0) {pl0 : va_W} (hok : tt_ok rt_tk cA Kd pl0) (hm : rl_m pl0 h0 aw aa at0 ai af ap) (hC : tt_lc pl0 aw f) : jj_M l D cA ak yX11_gross (.code yX11_gross cX11_gross 2 (some .long)) 0 0 0 0 ([] ++ pl0) [.ref h0, .int (nI (16 + 5 * k))] (tt_O (fun rx pl1 r => rx = [] ∧ tt_ok rt_tk cA Kd pl1 ∧ tt_fr Kd [] pl0 pl1 ∧ tt_fa Kd [] pl0 pl1 ∧ ((r = some (.long (rg_gross f k)))))) (tt_OX (fun _ _ _ => False)) := by
  refine jj_start hl (by decide) jw_5385d4d55b (jj_le rfl) ?_
  intro p e s m args below meth c A hargs hA C hex hmn
  have hfr := tt_fr.refl (K := Kd) (WS := []) pl0
  have hfa := tt_fa.refl (K := Kd) (WA := []) pl0
  refine jj_aload_n C dX11_gross_0 rfl ?_
  refine tt_getF C hok jk_12 0 (by decide) jw_34eaf3ba8b (t := (2, 2, 0)) hk0 (by decide) rfl rfl hm.1 dX11_gross_1 ?_
  refine jj_iload_n C dX11_gross_4 rfl ?_
  refine jj_iconst (v := 2) C dX11_gross_5 (by decide) ?_
  refine jj_iadd (v := nI (18 + 5 * k)) C dX11_gross_6 (rl_addR (kn := 2) (by decide) (by omega)) ?_
  refine rl_lald C hok (t := (1, (-9223372036854775808), 9223372036854775807)) hkw (by decide) rfl (k := 18 + 5 * k) (v := (f (18 + 5 * k))) (vp_in_nI (by omega) (by decide)) hC (nI_clamp (by omega)) rfl dX11_gross_7 ?_
  refine jj_ldc2 (v := 100000) C dX11_gross_8 jw_759d064724 ?_
  refine jj_lmul C dX11_gross_11 rfl ?_
  refine jj_aload_n C dX11_gross_12 rfl ?_
  refine tt_getF C hok jk_12 0 (by decide) jw_34eaf3ba8b (t := (2, 2, 0)) hk0 (by decide) rfl rfl hm.1 dX11_gross_13 ?_
  refine jj_iload_n C dX11_gross_16 rfl ?_
  refine jj_iconst (v := 3) C dX11_gross_17 (by decide) ?_
  refine jj_iadd (v := nI (19 + 5 * k)) C dX11_gross_18 (rl_addR (kn := 3) (by decide) (by omega)) ?_
  refine rl_lald C hok (t := (1, (-9223372036854775808), 9223372036854775807)) hkw (by decide) rfl (k := 19 + 5 * k) (v := (f (19 + 5 * k))) (vp_in_nI (by omega) (by decide)) hC (nI_clamp (by omega)) rfl dX11_gross_19 ?_
  refine jj_ldiv C dX11_gross_20 hu rfl ?_
  exact jj_lret C ⟨[], pl0, rfl, rfl, hok, hfr, hfa, rfl⟩ dX11_gross_21 (jj_le rfl) (jj_le rfl)

set_option maxHeartbeats 4000000 in
set_option maxRecDepth 100000 in
theorem rs_accrued {l : Launch} (hl : l.stackTraces = false) (D : va_G) (cA : Nat → ClassId) (ak : (Nat → Nat) × (Nat → Nat)) {Kd : Nat → Nat} {h0 aw aa at0 ai af ap : Nat} (k : Nat) (f : Nat → Int64) (hk0 : Kd h0 = 1) (hkw : Kd aw = 2) (hka : Kd aa = 3) (hkt : Kd at0 = 4) (hki : Kd ai = 5) (hkf : Kd af = 6) (hkp : Kd ap = 7) (hk : k < 6) {pl0 : va_W} (hok : tt_ok rt_tk cA Kd pl0) (hm : rl_m pl0 h0 aw aa at0 ai af ap) (hC : tt_lc pl0 aw f) : jj_M l D cA ak yX11_accrued (.code yX11_accrued cX11_accrued 4 (some .long)) 1 23 0 0 ([] ++ pl0) [.ref h0, .int (nI (16 + 5 * k))] (tt_O (fun rx pl1 r => rx = [] ∧ tt_ok rt_tk cA Kd pl1 ∧ tt_fr Kd [] pl0 pl1 ∧ tt_fa Kd [] pl0 pl1 ∧ ((r = some (.long (rg_acc f k)))))) (tt_OX (fun _ _ _ => False)) := by
  refine jj_start hl (by decide) jw_3e876c9b97 (jj_le rfl) ?_
  intro p e s m args below meth c A hargs hA C hex hmn
  have hfr := tt_fr.refl (K := Kd) (WS := []) pl0
  have hfa := tt_fa.refl (K := Kd) (WA := []) pl0
  refine jj_aload_n C dX11_accrued_0 rfl ?_
  refine tt_getF C hok jk_12 0 (by decide) jw_34eaf3ba8b (t := (2, 2, 0)) hk0 (by decide) rfl rfl hm.1 dX11_accrued_1 ?_
  refine jj_iload_n C dX11_accrued_4 rfl ?_
  refine jj_iconst (v := 2) C dX11_accrued_5 (by decide) ?_
  refine jj_iadd (v := nI (18 + 5 * k)) C dX11_accrued_6 (rl_addR (kn := 2) (by decide) (by omega)) ?_
  refine rl_lald C hok (t := (1, (-9223372036854775808), 9223372036854775807)) hkw (by decide) rfl (k := 18 + 5 * k) (v := (f (18 + 5 * k))) (vp_in_nI (by omega) (by decide)) hC (nI_clamp (by omega)) rfl dX11_accrued_7 ?_
  refine jj_aload_n C dX11_accrued_8 rfl ?_
  refine tt_getF C hok jk_12 0 (by decide) jw_34eaf3ba8b (t := (2, 2, 0)) hk0 (by decide) rfl rfl hm.1 dX11_accrued_9 ?_
  refine jj_iload_n C dX11_accrued_12 rfl ?_
  refine jj_iconst (v := 4) C dX11_accrued_13 (by decide) ?_
  refine jj_iadd (v := nI (20 + 5 * k)) C dX11_accrued_14 (rl_addR (kn := 4) (by decide) (by omega)) ?_
  refine rl_lald C hok (t := (1, (-9223372036854775808), 9223372036854775807)) hkw (by decide) rfl (k := 20 + 5 * k) (v := (f (20 + 5 * k))) (vp_in_nI (by omega) (by decide)) hC (nI_clamp (by omega)) rfl dX11_accrued_15 ?_
  refine jj_aload_n C dX11_accrued_16 rfl ?_
  refine tt_getF C hok jk_12 0 (by decide) jw_34eaf3ba8b (t := (2, 2, 0)) hk0 (by decide) rfl rfl hm.1 dX11_accrued_17 ?_
  refine jj_iload_n C dX11_accrued_20 rfl ?_
  refine jj_iconst (v := 3) C dX11_accrued_21 (by decide) ?_
  refine jj_iadd (v := nI (19 + 5 * k)) C dX11_accrued_22 (rl_addR (kn := 3) (by decide) (by omega)) ?_
  refine rl_lald C hok (t := (1, (-9223372036854775808), 9223372036854775807)) hkw (by decide) rfl (k := 19 + 5 * k) (v := (f (19 + 5 * k))) (vp_in_nI (by omega) (by decide)) hC (nI_clamp (by omega)) rfl dX11_accrued_23 ?_
  refine tt_call0S (rest := [.long (f (18 + 5 * k))]) C (ct_X11_worthAt_1 hl D cA ak (f (20 + 5 * k)) (f (19 + 5 * k))) jw_2d6c35a821 jw_81064de76c jw_f96c99f44d jw_1259b4e227 jn_X11_worthAt rfl (jj_le rfl) (jj_le rfl) (jj_le rfl) (jj_le rfl) (jj_le rfl) dX11_accrued_24 rfl (fun w1 r O_1 => ?_)
  obtain ⟨-, rfl⟩ := O_1
  refine jj_lsub C dX11_accrued_27 rfl ?_
  refine jj_lstore_n C dX11_accrued_28 (by decide) rfl ?_
  refine jj_lload_n C dX11_accrued_29 rfl ?_
  refine jj_lconst (v := 0) C dX11_accrued_30 (by decide) ?_
  refine jj_lcmp_le (tgt := 50) C dX11_accrued_31 dX11_accrued_32 (by decide) (fun c_2 => ?_) (fun c_2 => ?_)
  · have z_c_2 := jc_leL (a := ((f (18 + 5 * k)) - ((((f (20 + 5 * k)) / 100000) * (f (19 + 5 * k))) + ((((f (20 + 5 * k)) - (f (20 + 5 * k)) / 100000 * 100000) * (f (19 + 5 * k))) / 100000))).toInt) (b := 0) c_2 rfl (by decide)
    refine jj_lconst (v := 0) C dX11_accrued_50 (by decide) ?_
    exact jj_lret C ⟨[], pl0, rfl, rfl, hok, hfr, hfa, (congrArg (fun z => some (Value.long z)) (rg_accN c_2).symm)⟩ dX11_accrued_51 (jj_le rfl) (jj_le rfl)
  · have z_c_2 := jc_nleL (a := ((f (18 + 5 * k)) - ((((f (20 + 5 * k)) / 100000) * (f (19 + 5 * k))) + ((((f (20 + 5 * k)) - (f (20 + 5 * k)) / 100000 * 100000) * (f (19 + 5 * k))) / 100000))).toInt) (b := 0) c_2 rfl (by decide)
    refine jj_lload_n C dX11_accrued_35 rfl ?_
    refine jj_aload_n C dX11_accrued_36 rfl ?_
    refine tt_getF C hok jk_12 0 (by decide) jw_34eaf3ba8b (t := (2, 2, 0)) hk0 (by decide) rfl rfl hm.1 dX11_accrued_37 ?_
    refine jj_iconst (v := 3) C dX11_accrued_40 (by decide) ?_
    refine rl_lald C hok (t := (1, (-9223372036854775808), 9223372036854775807)) hkw (by decide) rfl (k := 3) (v := (f 3)) (vp_in_iff.mpr (by decide)) hC (by decide) rfl dX11_accrued_41 ?_
    refine jj_lmul C dX11_accrued_42 rfl ?_
    refine jj_ldc2 (v := 100) C dX11_accrued_43 jw_0cface3231 ?_
    refine jj_ldiv C dX11_accrued_46 (by decide) rfl ?_
    refine jj_goto (tgt := 51) C dX11_accrued_47 (by decide) ?_
    exact jj_lret C ⟨[], pl0, rfl, rfl, hok, hfr, hfa, (congrArg (fun z => some (Value.long z)) (rg_accP c_2).symm)⟩ dX11_accrued_51 (jj_le rfl) (jj_le rfl)

set_option maxHeartbeats 4000000 in
set_option maxRecDepth 100000 in
theorem rs_net {l : Launch} (hl : l.stackTraces = false) (D : va_G) (cA : Nat → ClassId) (ak : (Nat → Nat) × (Nat → Nat)) {Kd : Nat → Nat} {h0 aw aa at0 ai af ap : Nat} (k : Nat) (f : Nat → Int64) (hk0 : Kd h0 = 1) (hkw : Kd aw = 2) (hka : Kd aa = 3) (hkt : Kd at0 = 4) (hki : Kd ai = 5) (hkf : Kd af = 6) (hkp : Kd ap = 7) (hk : k < 6) {pl0 : va_W} (hok : tt_ok rt_tk cA Kd pl0) (hm : rl_m pl0 h0 aw aa at0 ai af ap) (hC : tt_lc pl0 aw f) : jj_M l D cA ak yX11_net (.code yX11_net cX11_net 2 (some .long)) 2 46 0 0 ([] ++ pl0) [.ref h0, .int (nI (16 + 5 * k))] (tt_O (fun rx pl1 r => rx = [] ∧ tt_ok rt_tk cA Kd pl1 ∧ tt_fr Kd [] pl0 pl1 ∧ tt_fa Kd [] pl0 pl1 ∧ ((r = some (.long (f (18 + 5 * k) - rg_acc f k)))))) (tt_OX (fun _ _ _ => False)) := by
  refine jj_start hl (by decide) jw_02915e3ff9 (jj_le rfl) ?_
  intro p e s m args below meth c A hargs hA C hex hmn
  have hfr := tt_fr.refl (K := Kd) (WS := []) pl0
  have hfa := tt_fa.refl (K := Kd) (WA := []) pl0
  refine jj_aload_n C dX11_net_0 rfl ?_
  refine tt_getF C hok jk_12 0 (by decide) jw_34eaf3ba8b (t := (2, 2, 0)) hk0 (by decide) rfl rfl hm.1 dX11_net_1 ?_
  refine jj_iload_n C dX11_net_4 rfl ?_
  refine jj_iconst (v := 2) C dX11_net_5 (by decide) ?_
  refine jj_iadd (v := nI (18 + 5 * k)) C dX11_net_6 (rl_addR (kn := 2) (by decide) (by omega)) ?_
  refine rl_lald C hok (t := (1, (-9223372036854775808), 9223372036854775807)) hkw (by decide) rfl (k := 18 + 5 * k) (v := (f (18 + 5 * k))) (vp_in_nI (by omega) (by decide)) hC (nI_clamp (by omega)) rfl dX11_net_7 ?_
  refine jj_aload_n C dX11_net_8 rfl ?_
  refine jj_iload_n C dX11_net_9 rfl ?_
  obtain ⟨qc, gs, hqc⟩ := tt_recv (cx := []) hok hk0 (by decide) rfl
  refine tt_callV (rest := [.long (f (18 + 5 * k))]) C (rs_accrued hl D cA ak k f hk0 hkw hka hkt hki hkf hkp (by omega) hok hm hC) [] [] rfl rfl (by decide) (by decide) (by decide) qc hqc rfl rfl jw_2b94ab0b2c jw_fa756eb8b8 jw_81537d461f jw_f96c99f44d jw_3e876c9b97 jn_X11_accrued rfl (jj_le rfl) (jj_le rfl) (jj_le rfl) (jj_le rfl) (jj_le rfl) dX11_net_10 rfl (fun _ _ _ hX => hX.elim) (fun rx pl_1 r O_5 => ?_)
  obtain ⟨rfl, hok_2, hr_3, ha_4, hR_6⟩ := O_5
  replace hC := ha_4.at hkw (by decide) (by decide) hC
  replace hm := hm.fr hr_3 hk0 rfl
  replace hfr := hfr.trans (hr_3.sub (by decide))
  replace hfa := hfa.trans (ha_4.sub (by decide))
  obtain rfl := hR_6
  refine jj_lsub C dX11_net_13 rfl ?_
  exact jj_lret C ⟨[], pl_1, rfl, rfl, hok_2, hfr, hfa, rfl⟩ dX11_net_14 (jj_le rfl) (jj_le rfl)

set_option maxHeartbeats 4000000 in
set_option maxRecDepth 100000 in
theorem rs_placeOf {l : Launch} (hl : l.stackTraces = false) (D : va_G) (cA : Nat → ClassId) (ak : (Nat → Nat) × (Nat → Nat)) {Kd : Nat → Nat} {h0 aw aa at0 ai af ap : Nat} (p1 : Int64) (f : Nat → Int64) (hk0 : Kd h0 = 1) (hkw : Kd aw = 2) (hka : Kd aa = 3) (hkt : Kd at0 = 4) (hki : Kd ai = 5) (hkf : Kd af = 6) (hkp : Kd ap = 7) (hH : rl_h f) {pl0 : va_W} (hok : tt_ok rt_tk cA Kd pl0) (hm : rl_m pl0 h0 aw aa at0 ai af ap) (hC : tt_lc pl0 aw f) : jj_M l D cA ak yX11_placeOf (.code yX11_placeOf cX11_placeOf 4 (some .int)) 1 20 0 0 ([] ++ pl0) [.ref h0, .long p1] (tt_O (fun rx pl1 r => rx = [] ∧ tt_ok rt_tk cA Kd pl1 ∧ tt_fr Kd [] pl0 pl1 ∧ tt_fa Kd [] pl0 pl1 ∧ (((∀ q : Nat, q < rnS f → ¬ f (16 + 5 * q) = p1) ∧ r = some (.int (-1))) ∨ (∃ k : Nat, k < rnS f ∧ f (16 + 5 * k) = p1 ∧ r = some (.int (nI (16 + 5 * k))))))) (tt_OX (fun _ _ _ => False)) := by
  refine jj_start hl (by decide) jw_d7a6daa34b (jj_le rfl) ?_
  intro p e s m args below meth c A hargs hA C hex hmn
  have hfr := tt_fr.refl (K := Kd) (WS := []) pl0
  have hfa := tt_fa.refl (K := Kd) (WA := []) pl0
  obtain ⟨⟨g0a, g0b⟩, ⟨g1a, g1b⟩, ⟨g6a, g6b⟩, ⟨g7a, g7b⟩, ⟨g8a, g8b⟩⟩ := hH
  refine jj_iconst (v := 0) C dX11_placeOf_0 (by decide) ?_
  refine jj_istore_n C dX11_placeOf_1 (by decide) rfl ?_
  have hL_1 : ∀ (N : Nat) (pl : va_W) (k_2 : Nat), True → tt_ok rt_tk cA Kd pl → tt_fr Kd [] pl0 pl → tt_fa Kd [] pl0 pl → rl_m pl h0 aw aa at0 ai af ap → tt_lc pl aw f → (0 : Int) ≤ (k_2 : Int) → (k_2 : Int) ≤ 6 → (∀ q : Nat, q < k_2 → ¬ f (16 + 5 * q) = p1) → (2147483648 - (k_2 : Int) ≤ (N : Int)) → jj_J p l e (jj_rm 1 20 0 0) s m args below meth c 4 A (vx_MQ below (jj_q D A (tt_O (fun rx pl1 r => rx = [] ∧ tt_ok rt_tk cA Kd pl1 ∧ tt_fr Kd [] pl0 pl1 ∧ tt_fa Kd [] pl0 pl1 ∧ (((∀ q : Nat, q < rnS f → ¬ f (16 + 5 * q) = p1) ∧ r = some (.int (-1))) ∨ (∃ k : Nat, k < rnS f ∧ f (16 + 5 * k) = p1 ∧ r = some (.int (nI (16 + 5 * k)))))))) (jj_x D A (tt_OX (fun _ _ _ => False))) args s 0 0 A) (jj_X D A ([] ++ pl)) 0 0 2 [(3, .int (nI k_2)), (0, .ref h0), (1, .long p1)] [] := by
    intro NL_1
    induction NL_1 with
    | zero => intro pl k_2 _ hok hfr hfa hm hC lk_2 uk_2 hI hNL_1; exfalso; omega
    | succ NL_1 ihL_1 =>
      intro pl k_2 _ hok hfr hfa hm hC lk_2 uk_2 hI hNL_1
      replace ihL_1 := fun pl k_2 h1 => ihL_1 pl k_2 trivial h1
      refine jj_iload_n C dX11_placeOf_2 rfl ?_
      refine jj_i2l C dX11_placeOf_3 rfl ?_
      refine jj_aload_n C dX11_placeOf_4 rfl ?_
      refine tt_getF C hok jk_12 0 (by decide) jw_34eaf3ba8b (t := (2, 2, 0)) hk0 (by decide) rfl rfl hm.1 dX11_placeOf_5 ?_
      refine jj_bipush (v := 6) C dX11_placeOf_8 (by decide) ?_
      refine rl_lald C hok (t := (1, (-9223372036854775808), 9223372036854775807)) hkw (by decide) rfl (k := 6) (v := (f 6)) (vp_in_iff.mpr (by decide)) hC (by decide) rfl dX11_placeOf_10 ?_
      refine jj_lcmp_ge (tgt := 42) C dX11_placeOf_11 dX11_placeOf_12 (by decide) (fun c_3 => ?_) (fun c_3 => ?_)
      · have z_c_3 := jc_leL (a := (f 6).toInt) (b := ((k_2 : Nat) : Int)) c_3 rfl (rl_tl (by omega))
        refine jj_iconst (v := (-1)) C dX11_placeOf_42 (by decide) ?_
        exact jj_iret C ⟨[], pl, rfl, rfl, hok, hfr, hfa, (Or.inl ⟨fun q hq => hI q (by unfold rnS at hq; omega), rfl⟩)⟩ dX11_placeOf_43 (jj_le rfl) (jj_le rfl)
      · have z_c_3 := jc_nleL (a := (f 6).toInt) (b := ((k_2 : Nat) : Int)) c_3 rfl (rl_tl (by omega))
        refine jj_aload_n C dX11_placeOf_15 rfl ?_
        refine tt_getF C hok jk_12 0 (by decide) jw_34eaf3ba8b (t := (2, 2, 0)) hk0 (by decide) rfl rfl hm.1 dX11_placeOf_16 ?_
        refine jj_iload_n C dX11_placeOf_19 rfl ?_
        refine tt_call0S (rest := [.ref aw]) C (rn_seriesAt hl D cA ak k_2 (16 + 5 * k_2) (by omega)) jw_6251557f40 jw_b2cd40a13f jw_f96c99f44d jw_6245231363 jn_X11_seriesAt rfl (jj_le rfl) (jj_le rfl) (jj_le rfl) (jj_le rfl) (jj_le rfl) dX11_placeOf_20 rfl (fun w1 r hO => ?_)
        obtain ⟨-, rfl⟩ := hO
        refine jj_iconst (v := 0) C dX11_placeOf_23 (by decide) ?_
        refine jj_iadd (v := nI (16 + 5 * k_2)) C dX11_placeOf_24 (rl_addR (kn := 0) (by decide) (by omega)) ?_
        refine rl_lald C hok (t := (1, (-9223372036854775808), 9223372036854775807)) hkw (by decide) rfl (k := 16 + 5 * k_2) (v := (f (16 + 5 * k_2))) (vp_in_nI (by omega) (by decide)) hC (nI_clamp (by omega)) rfl dX11_placeOf_25 ?_
        refine jj_lload_n C dX11_placeOf_26 rfl ?_
        refine jj_lcmp_ne (tgt := 36) C dX11_placeOf_27 dX11_placeOf_28 (by decide) (fun c_4 => ?_) (fun c_4 => ?_)
        · have z_c_4 := jc_neqL (a := (f (16 + 5 * k_2)).toInt) (b := p1.toInt) c_4 rfl rfl
          refine jj_iinc (v := nI (1 + k_2)) C dX11_placeOf_36 rfl (rl_addR (kn := 1) (by decide) (by omega)) (by decide) rfl ?_
          refine jj_goto (tgt := 2) C dX11_placeOf_39 (by decide) ?_
          exact ihL_1 pl (1 + k_2) hok hfr hfa hm hC (by first | omega | decide | exact tt_lo _ | exact tt_hi _) (by first | omega | decide | exact tt_lo _ | exact tt_hi _) (fun q hq => (Nat.lt_succ_iff_lt_or_eq.mp (by omega : q < k_2 + 1)).elim (hI q) (fun z => by rw [z]; exact c_4)) (by first | omega | decide | exact tt_lo _ | exact tt_hi _)
        · have z_c_4 := jc_eqL (a := (f (16 + 5 * k_2)).toInt) (b := p1.toInt) c_4 rfl rfl
          refine jj_iload_n C dX11_placeOf_31 rfl ?_
          refine tt_call0S (rest := []) C (rn_seriesAt hl D cA ak k_2 (16 + 5 * k_2) (by omega)) jw_6251557f40 jw_b2cd40a13f jw_f96c99f44d jw_6245231363 jn_X11_seriesAt rfl (jj_le rfl) (jj_le rfl) (jj_le rfl) (jj_le rfl) (jj_le rfl) dX11_placeOf_32 rfl (fun w1 r hO => ?_)
          obtain ⟨-, rfl⟩ := hO
          exact jj_iret C ⟨[], pl, rfl, rfl, hok, hfr, hfa, (Or.inr ⟨k_2, by unfold rnS; omega, c_4, rfl⟩)⟩ dX11_placeOf_35 (jj_le rfl) (jj_le rfl)
  exact hL_1 _ pl0 0 trivial hok hfr hfa hm hC (by first | omega | decide | exact tt_lo _ | exact tt_hi _) (by first | omega | decide | exact tt_lo _ | exact tt_hi _) (fun q hq => absurd hq (Nat.not_lt_zero _)) (Int.self_le_toNat _)

set_option maxHeartbeats 4000000 in
set_option maxRecDepth 100000 in
theorem rs_seriesOf {l : Launch} (hl : l.stackTraces = false) (D : va_G) (cA : Nat → ClassId) (ak : (Nat → Nat) × (Nat → Nat)) {Kd : Nat → Nat} {h0 aw aa at0 ai af ap : Nat} (j : Nat) (B : Int) (f : Nat → Int64) (hk0 : Kd h0 = 1) (hkw : Kd aw = 2) (hka : Kd aa = 3) (hkt : Kd at0 = 4) (hki : Kd ai = 5) (hkf : Kd af = 6) (hkp : Kd ap = 7) (hj : j < rnL f) (hI : rl_I B f) {pl0 : va_W} (hok : tt_ok rt_tk cA Kd pl0) (hm : rl_m pl0 h0 aw aa at0 ai af ap) (hC : tt_lc pl0 aw f) : jj_M l D cA ak yX11_seriesOf (.code yX11_seriesOf cX11_seriesOf 2 (some .int)) 2 43 0 0 ([] ++ pl0) [.ref h0, .int (nI (46 + 6 * j))] (tt_O (fun rx pl1 r => rx = [] ∧ tt_ok rt_tk cA Kd pl1 ∧ tt_fr Kd [] pl0 pl1 ∧ tt_fa Kd [] pl0 pl1 ∧ ((∃ k : Nat, k < rnS f ∧ (f (16 + 5 * k)).toInt = (f (47 + 6 * j)).toInt ∧ r = some (.int (nI (16 + 5 * k))))))) (tt_OX (fun _ _ _ => False)) := by
  refine jj_start hl (by decide) jw_a26e9314b3 (jj_le rfl) ?_
  intro p e s m args below meth c A hargs hA C hex hmn
  have hfr := tt_fr.refl (K := Kd) (WS := []) pl0
  have hfa := tt_fa.refl (K := Kd) (WA := []) pl0
  have hH := hI.1.1
  obtain ⟨⟨g0a, g0b⟩, ⟨g1a, g1b⟩, ⟨g6a, g6b⟩, ⟨g7a, g7b⟩, ⟨g8a, g8b⟩⟩ := hH
  have hj0 : (j : Int) < (f 7).toInt := by unfold rnL at hj; omega
  obtain ⟨kx, hkx, hke⟩ := hI.2.2.2.2.1 j hj
  refine jj_aload_n C dX11_seriesOf_0 rfl ?_
  refine jj_aload_n C dX11_seriesOf_1 rfl ?_
  refine tt_getF C hok jk_12 0 (by decide) jw_34eaf3ba8b (t := (2, 2, 0)) hk0 (by decide) rfl rfl hm.1 dX11_seriesOf_2 ?_
  refine jj_iload_n C dX11_seriesOf_5 rfl ?_
  refine jj_iconst (v := 1) C dX11_seriesOf_6 (by decide) ?_
  refine jj_iadd (v := nI (47 + 6 * j)) C dX11_seriesOf_7 (rl_addR (kn := 1) (by decide) (by omega)) ?_
  refine rl_lald C hok (t := (1, (-9223372036854775808), 9223372036854775807)) hkw (by decide) rfl (k := 47 + 6 * j) (v := (f (47 + 6 * j))) (vp_in_nI (by omega) (by decide)) hC (nI_clamp (by omega)) rfl dX11_seriesOf_8 ?_
  obtain ⟨qc, gs, hqc⟩ := tt_recv (cx := []) hok hk0 (by decide) rfl
  refine tt_callV (rest := []) C (rs_placeOf hl D cA ak (f (47 + 6 * j)) f hk0 hkw hka hkt hki hkf hkp ⟨⟨g0a, g0b⟩, ⟨g1a, g1b⟩, ⟨g6a, g6b⟩, ⟨g7a, g7b⟩, ⟨g8a, g8b⟩⟩ hok hm hC) [] [] rfl rfl (by decide) (by decide) (by decide) qc hqc rfl rfl jw_6d1eccde8c jw_a9a05b64d9 jw_ee32d85331 jw_f96c99f44d jw_d7a6daa34b jn_X11_placeOf rfl (jj_le rfl) (jj_le rfl) (jj_le rfl) (jj_le rfl) (jj_le rfl) dX11_seriesOf_9 rfl (fun _ _ _ hX => hX.elim) (fun rx pl_1 r O_5 => ?_)
  obtain ⟨rfl, hok_2, hr_3, ha_4, hR_6⟩ := O_5
  replace hC := ha_4.at hkw (by decide) (by decide) hC
  replace hm := hm.fr hr_3 hk0 rfl
  replace hfr := hfr.trans (hr_3.sub (by decide))
  replace hfa := hfa.trans (ha_4.sub (by decide))
  rcases hR_6 with ⟨hno_7, rfl⟩ | ⟨n_8, hn_8, qn_8, rfl⟩
  · exact absurd (Int64.toInt_inj.mp hke) (hno_7 kx hkx)
  · unfold rnS at hn_8
    exact jj_iret C ⟨[], pl_1, rfl, rfl, hok_2, hfr, hfa, ⟨n_8, by unfold rnS; omega, by rw [qn_8], rfl⟩⟩ dX11_seriesOf_12 (jj_le rfl) (jj_le rfl)

set_option maxHeartbeats 4000000 in
set_option maxRecDepth 100000 in
theorem rs_dueOf {l : Launch} (hl : l.stackTraces = false) (D : va_G) (cA : Nat → ClassId) (ak : (Nat → Nat) × (Nat → Nat)) {Kd : Nat → Nat} {h0 aw aa at0 ai af ap : Nat} (k j : Nat) (p3 : Int64) (f : Nat → Int64) (hk0 : Kd h0 = 1) (hkw : Kd aw = 2) (hka : Kd aa = 3) (hkt : Kd at0 = 4) (hki : Kd ai = 5) (hkf : Kd af = 6) (hkp : Kd ap = 7) (hk : k < 6) (hj : j < 40) (hu : ¬ f (19 + 5 * k) = 0) {pl0 : va_W} (hok : tt_ok rt_tk cA Kd pl0) (hm : rl_m pl0 h0 aw aa at0 ai af ap) (hC : tt_lc pl0 aw f) : jj_M l D cA ak yX11_dueOf (.code yX11_dueOf cX11_dueOf 7 (some .long)) 1 23 0 0 ([] ++ pl0) [.ref h0, .int (nI (16 + 5 * k)), .int (nI (46 + 6 * j)), .long p3] (tt_O (fun rx pl1 r => rx = [] ∧ tt_ok rt_tk cA Kd pl1 ∧ tt_fr Kd [] pl0 pl1 ∧ tt_fa Kd [] pl0 pl1 ∧ ((∃ v : Int64, r = some (.long v))))) (tt_OX (fun _ _ _ => False)) := by
  refine jj_start hl (by decide) jw_dd6c33de8b (jj_le rfl) ?_
  intro p e s m args below meth c A hargs hA C hex hmn
  have hfr := tt_fr.refl (K := Kd) (WS := []) pl0
  have hfa := tt_fa.refl (K := Kd) (WA := []) pl0
  refine jj_aload_n C dX11_dueOf_0 rfl ?_
  refine jj_iload_n C dX11_dueOf_1 rfl ?_
  obtain ⟨qc, gs, hqc⟩ := tt_recv (cx := []) hok hk0 (by decide) rfl
  refine tt_callV (rest := []) C (rs_gross hl D cA ak k f hk0 hkw hka hkt hki hkf hkp (by omega) hu hok hm hC) [] [] rfl rfl (by decide) (by decide) (by decide) qc hqc rfl rfl jw_1edf99ea30 jw_400b60e050 jw_5647e6ad46 jw_f96c99f44d jw_5385d4d55b jn_X11_gross rfl (jj_le rfl) (jj_le rfl) (jj_le rfl) (jj_le rfl) (jj_le rfl) dX11_dueOf_2 rfl (fun _ _ _ hX => hX.elim) (fun rx pl_1 r O_5 => ?_)
  obtain ⟨rfl, hok_2, hr_3, ha_4, hR_6⟩ := O_5
  replace hC := ha_4.at hkw (by decide) (by decide) hC
  replace hm := hm.fr hr_3 hk0 rfl
  replace hfr := hfr.trans (hr_3.sub (by decide))
  replace hfa := hfa.trans (ha_4.sub (by decide))
  obtain rfl := hR_6
  refine jj_aload_n C dX11_dueOf_5 rfl ?_
  refine tt_getF C hok_2 jk_12 0 (by decide) jw_34eaf3ba8b (t := (2, 2, 0)) hk0 (by decide) rfl rfl hm.1 dX11_dueOf_6 ?_
  refine jj_iload_n C dX11_dueOf_9 rfl ?_
  refine jj_iconst (v := 4) C dX11_dueOf_10 (by decide) ?_
  refine jj_iadd (v := nI (20 + 5 * k)) C dX11_dueOf_11 (rl_addR (kn := 4) (by decide) (by omega)) ?_
  refine rl_lald C hok_2 (t := (1, (-9223372036854775808), 9223372036854775807)) hkw (by decide) rfl (k := 20 + 5 * k) (v := (f (20 + 5 * k))) (vp_in_nI (by omega) (by decide)) hC (nI_clamp (by omega)) rfl dX11_dueOf_12 ?_
  refine tt_call0S (rest := []) C (ct_J9_min_f86c9_1 hl D cA ak (rg_gross f k) (f (20 + 5 * k))) jw_43e83b8e67 jw_a0cddbe894 jw_a731c8553d jw_e0e7ffaaeb jn_J9_min_f86c9 rfl (jj_le rfl) (jj_le rfl) (jj_le rfl) (jj_le rfl) (jj_le rfl) dX11_dueOf_13 rfl (fun w1 r O_7 => ?_)
  rcases O_7 with ⟨c_8, -, rfl⟩ | ⟨c_9, -, rfl⟩
  · have z_c_8 := jc_ltL (a := (f (20 + 5 * k)).toInt) (b := (rg_gross f k).toInt) c_8 rfl rfl
    refine jj_aload_n C dX11_dueOf_16 rfl ?_
    refine tt_getF C hok_2 jk_12 0 (by decide) jw_34eaf3ba8b (t := (2, 2, 0)) hk0 (by decide) rfl rfl hm.1 dX11_dueOf_17 ?_
    refine jj_iload_n C dX11_dueOf_20 rfl ?_
    refine jj_iconst (v := 3) C dX11_dueOf_21 (by decide) ?_
    refine jj_iadd (v := nI (49 + 6 * j)) C dX11_dueOf_22 (rl_addR (kn := 3) (by decide) (by omega)) ?_
    refine rl_lald C hok_2 (t := (1, (-9223372036854775808), 9223372036854775807)) hkw (by decide) rfl (k := 49 + 6 * j) (v := (f (49 + 6 * j))) (vp_in_nI (by omega) (by decide)) hC (nI_clamp (by omega)) rfl dX11_dueOf_23 ?_
    obtain ⟨y_10, ey_10⟩ : ∃ z : Int64, (f (20 + 5 * k)) - (f (49 + 6 * j)) = z := ⟨_, rfl⟩
    refine jj_lsub (v := y_10) C dX11_dueOf_24 ey_10 ?_
    refine jj_lstore C dX11_dueOf_25 (by decide) rfl ?_
    refine jj_aload_n C dX11_dueOf_27 rfl ?_
    refine tt_getF C hok_2 jk_12 0 (by decide) jw_34eaf3ba8b (t := (2, 2, 0)) hk0 (by decide) rfl rfl hm.1 dX11_dueOf_28 ?_
    refine jj_iconst (v := 1) C dX11_dueOf_31 (by decide) ?_
    refine rl_lald C hok_2 (t := (1, (-9223372036854775808), 9223372036854775807)) hkw (by decide) rfl (k := 1) (v := (f 1)) (vp_in_iff.mpr (by decide)) hC (by decide) rfl dX11_dueOf_32 ?_
    refine jj_lconst (v := 0) C dX11_dueOf_33 (by decide) ?_
    refine jj_lcmp_eq (tgt := 45) C dX11_dueOf_34 dX11_dueOf_35 (by decide) (fun c_11 => ?_) (fun c_11 => ?_)
    · have z_c_11 := jc_eqL (a := (f 1).toInt) (b := 0) c_11 rfl (by decide)
      refine jj_lconst (v := 0) C dX11_dueOf_45 (by decide) ?_
      refine jj_goto (tgt := 68) C dX11_dueOf_46 (by decide) ?_
      exact jj_lret C ⟨[], pl_1, rfl, rfl, hok_2, hfr, hfa, ⟨(0 : Int64), rfl⟩⟩ dX11_dueOf_68 (jj_le rfl) (jj_le rfl)
    · have z_c_11 := jc_neqL (a := (f 1).toInt) (b := 0) c_11 rfl (by decide)
      refine jj_lload C dX11_dueOf_38 rfl ?_
      refine jj_lconst (v := 0) C dX11_dueOf_40 (by decide) ?_
      refine jj_lcmp_gt (tgt := 49) C dX11_dueOf_41 dX11_dueOf_42 (by decide) (fun c_12 => ?_) (fun c_12 => ?_)
      · have z_c_12 := jc_ltL (a := 0) (b := y_10.toInt) c_12 (by decide) rfl
        refine jj_lload_n C dX11_dueOf_49 rfl ?_
        refine jj_lload C dX11_dueOf_50 rfl ?_
        obtain ⟨y_13, ey_13⟩ : ∃ z : Int64, p3 * y_10 = z := ⟨_, rfl⟩
        refine jj_lmul (v := y_13) C dX11_dueOf_52 ey_13 ?_
        refine jj_aload_n C dX11_dueOf_53 rfl ?_
        refine tt_getF C hok_2 jk_12 0 (by decide) jw_34eaf3ba8b (t := (2, 2, 0)) hk0 (by decide) rfl rfl hm.1 dX11_dueOf_54 ?_
        refine jj_iconst (v := 3) C dX11_dueOf_57 (by decide) ?_
        refine rl_lald C hok_2 (t := (1, (-9223372036854775808), 9223372036854775807)) hkw (by decide) rfl (k := 3) (v := (f 3)) (vp_in_iff.mpr (by decide)) hC (by decide) rfl dX11_dueOf_58 ?_
        obtain ⟨y_14, ey_14⟩ : ∃ z : Int64, y_13 * (f 3) = z := ⟨_, rfl⟩
        refine jj_lmul (v := y_14) C dX11_dueOf_59 ey_14 ?_
        refine jj_ldc2 (v := 100) C dX11_dueOf_60 jw_0cface3231 ?_
        obtain ⟨y_15, ey_15⟩ : ∃ z : Int64, y_14 / (100 : Int64) = z := ⟨_, rfl⟩
        refine jj_ldiv (v := y_15) C dX11_dueOf_63 (by decide) ey_15 ?_
        refine jj_ldc2 (v := 100000) C dX11_dueOf_64 jw_759d064724 ?_
        obtain ⟨y_16, ey_16⟩ : ∃ z : Int64, y_15 / (100000 : Int64) = z := ⟨_, rfl⟩
        refine jj_ldiv (v := y_16) C dX11_dueOf_67 (by decide) ey_16 ?_
        exact jj_lret C ⟨[], pl_1, rfl, rfl, hok_2, hfr, hfa, ⟨y_16, rfl⟩⟩ dX11_dueOf_68 (jj_le rfl) (jj_le rfl)
      · have z_c_12 := jc_nltL (a := 0) (b := y_10.toInt) c_12 (by decide) rfl
        refine jj_lconst (v := 0) C dX11_dueOf_45 (by decide) ?_
        refine jj_goto (tgt := 68) C dX11_dueOf_46 (by decide) ?_
        exact jj_lret C ⟨[], pl_1, rfl, rfl, hok_2, hfr, hfa, ⟨(0 : Int64), rfl⟩⟩ dX11_dueOf_68 (jj_le rfl) (jj_le rfl)
  · have z_c_9 := jc_nltL (a := (f (20 + 5 * k)).toInt) (b := (rg_gross f k).toInt) c_9 rfl rfl
    refine jj_aload_n C dX11_dueOf_16 rfl ?_
    refine tt_getF C hok_2 jk_12 0 (by decide) jw_34eaf3ba8b (t := (2, 2, 0)) hk0 (by decide) rfl rfl hm.1 dX11_dueOf_17 ?_
    refine jj_iload_n C dX11_dueOf_20 rfl ?_
    refine jj_iconst (v := 3) C dX11_dueOf_21 (by decide) ?_
    refine jj_iadd (v := nI (49 + 6 * j)) C dX11_dueOf_22 (rl_addR (kn := 3) (by decide) (by omega)) ?_
    refine rl_lald C hok_2 (t := (1, (-9223372036854775808), 9223372036854775807)) hkw (by decide) rfl (k := 49 + 6 * j) (v := (f (49 + 6 * j))) (vp_in_nI (by omega) (by decide)) hC (nI_clamp (by omega)) rfl dX11_dueOf_23 ?_
    obtain ⟨y_17, ey_17⟩ : ∃ z : Int64, (rg_gross f k) - (f (49 + 6 * j)) = z := ⟨_, rfl⟩
    refine jj_lsub (v := y_17) C dX11_dueOf_24 ey_17 ?_
    refine jj_lstore C dX11_dueOf_25 (by decide) rfl ?_
    refine jj_aload_n C dX11_dueOf_27 rfl ?_
    refine tt_getF C hok_2 jk_12 0 (by decide) jw_34eaf3ba8b (t := (2, 2, 0)) hk0 (by decide) rfl rfl hm.1 dX11_dueOf_28 ?_
    refine jj_iconst (v := 1) C dX11_dueOf_31 (by decide) ?_
    refine rl_lald C hok_2 (t := (1, (-9223372036854775808), 9223372036854775807)) hkw (by decide) rfl (k := 1) (v := (f 1)) (vp_in_iff.mpr (by decide)) hC (by decide) rfl dX11_dueOf_32 ?_
    refine jj_lconst (v := 0) C dX11_dueOf_33 (by decide) ?_
    refine jj_lcmp_eq (tgt := 45) C dX11_dueOf_34 dX11_dueOf_35 (by decide) (fun c_18 => ?_) (fun c_18 => ?_)
    · have z_c_18 := jc_eqL (a := (f 1).toInt) (b := 0) c_18 rfl (by decide)
      refine jj_lconst (v := 0) C dX11_dueOf_45 (by decide) ?_
      refine jj_goto (tgt := 68) C dX11_dueOf_46 (by decide) ?_
      exact jj_lret C ⟨[], pl_1, rfl, rfl, hok_2, hfr, hfa, ⟨(0 : Int64), rfl⟩⟩ dX11_dueOf_68 (jj_le rfl) (jj_le rfl)
    · have z_c_18 := jc_neqL (a := (f 1).toInt) (b := 0) c_18 rfl (by decide)
      refine jj_lload C dX11_dueOf_38 rfl ?_
      refine jj_lconst (v := 0) C dX11_dueOf_40 (by decide) ?_
      refine jj_lcmp_gt (tgt := 49) C dX11_dueOf_41 dX11_dueOf_42 (by decide) (fun c_19 => ?_) (fun c_19 => ?_)
      · have z_c_19 := jc_ltL (a := 0) (b := y_17.toInt) c_19 (by decide) rfl
        refine jj_lload_n C dX11_dueOf_49 rfl ?_
        refine jj_lload C dX11_dueOf_50 rfl ?_
        obtain ⟨y_20, ey_20⟩ : ∃ z : Int64, p3 * y_17 = z := ⟨_, rfl⟩
        refine jj_lmul (v := y_20) C dX11_dueOf_52 ey_20 ?_
        refine jj_aload_n C dX11_dueOf_53 rfl ?_
        refine tt_getF C hok_2 jk_12 0 (by decide) jw_34eaf3ba8b (t := (2, 2, 0)) hk0 (by decide) rfl rfl hm.1 dX11_dueOf_54 ?_
        refine jj_iconst (v := 3) C dX11_dueOf_57 (by decide) ?_
        refine rl_lald C hok_2 (t := (1, (-9223372036854775808), 9223372036854775807)) hkw (by decide) rfl (k := 3) (v := (f 3)) (vp_in_iff.mpr (by decide)) hC (by decide) rfl dX11_dueOf_58 ?_
        obtain ⟨y_21, ey_21⟩ : ∃ z : Int64, y_20 * (f 3) = z := ⟨_, rfl⟩
        refine jj_lmul (v := y_21) C dX11_dueOf_59 ey_21 ?_
        refine jj_ldc2 (v := 100) C dX11_dueOf_60 jw_0cface3231 ?_
        obtain ⟨y_22, ey_22⟩ : ∃ z : Int64, y_21 / (100 : Int64) = z := ⟨_, rfl⟩
        refine jj_ldiv (v := y_22) C dX11_dueOf_63 (by decide) ey_22 ?_
        refine jj_ldc2 (v := 100000) C dX11_dueOf_64 jw_759d064724 ?_
        obtain ⟨y_23, ey_23⟩ : ∃ z : Int64, y_22 / (100000 : Int64) = z := ⟨_, rfl⟩
        refine jj_ldiv (v := y_23) C dX11_dueOf_67 (by decide) ey_23 ?_
        exact jj_lret C ⟨[], pl_1, rfl, rfl, hok_2, hfr, hfa, ⟨y_23, rfl⟩⟩ dX11_dueOf_68 (jj_le rfl) (jj_le rfl)
      · have z_c_19 := jc_nltL (a := 0) (b := y_17.toInt) c_19 (by decide) rfl
        refine jj_lconst (v := 0) C dX11_dueOf_45 (by decide) ?_
        refine jj_goto (tgt := 68) C dX11_dueOf_46 (by decide) ?_
        exact jj_lret C ⟨[], pl_1, rfl, rfl, hok_2, hfr, hfa, ⟨(0 : Int64), rfl⟩⟩ dX11_dueOf_68 (jj_le rfl) (jj_le rfl)

set_option maxHeartbeats 4000000 in
set_option maxRecDepth 100000 in
theorem rs_dropLot {l : Launch} (hl : l.stackTraces = false) (D : va_G) (cA : Nat → ClassId) (ak : (Nat → Nat) × (Nat → Nat)) {Kd : Nat → Nat} {h0 aw aa at0 ai af ap : Nat} (q : Nat) (f : Nat → Int64) (hk0 : Kd h0 = 1) (hkw : Kd aw = 2) (hka : Kd aa = 3) (hkt : Kd at0 = 4) (hki : Kd ai = 5) (hkf : Kd af = 6) (hkp : Kd ap = 7) (hq : q < 40) {pl0 : va_W} (hok : tt_ok rt_tk cA Kd pl0) (hm : rl_m pl0 h0 aw aa at0 ai af ap) (hC : tt_lc pl0 aw f) : jj_M l D cA ak yX11_dropLot (.code yX11_dropLot cX11_dropLot 3 none) 0 0 0 0 ([] ++ pl0) [.ref h0, .int (nI (46 + 6 * q))] (tt_O (fun rx pl1 r => rx = [] ∧ tt_ok rt_tk cA Kd pl1 ∧ tt_fr Kd [] pl0 pl1 ∧ tt_fa Kd [2] pl0 pl1 ∧ ((tt_lc pl1 aw (rg_dL f q) ∧ r = none)))) (tt_OX (fun _ _ _ => False)) := by
  refine jj_start hl (by decide) jw_a1dea5fe42 (jj_le rfl) ?_
  intro p e s m args below meth c A hargs hA C hex hmn
  have hfr := tt_fr.refl (K := Kd) (WS := []) pl0
  have hfa := tt_fa.refl (K := Kd) (WA := [2]) pl0
  refine jj_iload_n C dX11_dropLot_0 rfl ?_
  refine jj_istore_n C dX11_dropLot_1 (by decide) rfl ?_
  have hL_1 : ∀ (N : Nat) (pl : va_W) (k_2 : Nat), True → tt_ok rt_tk cA Kd pl → tt_fr Kd [] pl0 pl → tt_fa Kd [2] pl0 pl → rl_m pl h0 aw aa at0 ai af ap → tt_lc pl aw (rg_sh f (46 + 6 * q) 6 k_2) → (46 : Int) ≤ (k_2 : Int) → (k_2 : Int) ≤ 280 → (46 + 6 * q ≤ k_2) → (2147483648 - (k_2 : Int) ≤ (N : Int)) → jj_J p l e (jj_rm 0 0 0 0) s m args below meth c 3 A (vx_MQ below (jj_q D A (tt_O (fun rx pl1 r => rx = [] ∧ tt_ok rt_tk cA Kd pl1 ∧ tt_fr Kd [] pl0 pl1 ∧ tt_fa Kd [2] pl0 pl1 ∧ ((tt_lc pl1 aw (rg_dL f q) ∧ r = none))))) (jj_x D A (tt_OX (fun _ _ _ => False))) args s 0 0 A) (jj_X D A ([] ++ pl)) 0 0 2 [(2, .int (nI k_2)), (0, .ref h0), (1, .int (nI (46 + 6 * q)))] [] := by
    intro NL_1
    induction NL_1 with
    | zero => intro pl k_2 _ hok hfr hfa hm hC lk_2 uk_2 hI0 hNL_1; exfalso; omega
    | succ NL_1 ihL_1 =>
      intro pl k_2 _ hok hfr hfa hm hC lk_2 uk_2 hI0 hNL_1
      replace ihL_1 := fun pl k_2 h1 => ihL_1 pl k_2 trivial h1
      refine jj_iload_n C dX11_dropLot_2 rfl ?_
      refine jj_bipush (v := 6) C dX11_dropLot_3 (by decide) ?_
      refine jj_iadd (v := nI (6 + k_2)) C dX11_dropLot_5 (rl_addR (kn := 6) (by decide) (by omega)) ?_
      refine jj_sipush (v := 286) C dX11_dropLot_6 (by decide) ?_
      refine jj_icmp_ge (tgt := 33) C dX11_dropLot_9 (by decide) (fun c_3 => ?_) (fun c_3 => ?_)
      · have z_c_3 := jc_le (a := 286) (b := ((6 + k_2 : Nat) : Int)) c_3 (by decide) (rl_ti (by omega))
        refine jj_aload_n C dX11_dropLot_33 rfl ?_
        refine tt_getF C hok jk_12 0 (by decide) jw_34eaf3ba8b (t := (2, 2, 0)) hk0 (by decide) rfl rfl hm.1 dX11_dropLot_34 ?_
        refine jj_bipush (v := 7) C dX11_dropLot_37 (by decide) ?_
        refine jj_dup2 C dX11_dropLot_39 rfl rfl ?_
        refine rl_lald C hok (t := (1, (-9223372036854775808), 9223372036854775807)) hkw (by decide) rfl (k := 7) (v := ((rg_sh f (46 + 6 * q) 6 k_2) 7)) (vp_in_iff.mpr (by decide)) hC (by decide) rfl dX11_dropLot_40 ?_
        refine jj_lconst (v := 1) C dX11_dropLot_41 (by decide) ?_
        refine jj_lsub C dX11_dropLot_42 rfl ?_
        refine rl_last C hok (t := (1, (-9223372036854775808), 9223372036854775807)) hkw (by decide) rfl (k := 7) (vp_in_iff.mpr (by decide)) (tt_ja _) (by decide) dX11_dropLot_43 (fun pl_4 hok_5 tr tl tw => ?_)
        replace hm := hm.arr tr
        replace hfr := hfr.arr tr
        replace hC := tw _ hC
        replace hfa := hfa.wr hkw tl (by decide)
        exact jj_vret C ⟨[], pl_4, rfl, rfl, hok_5, hfr, hfa, (by have z9 : k_2 = 280 := (by omega); subst z9; exact ⟨hC, rfl⟩)⟩ dX11_dropLot_44 (jj_le rfl) (jj_le rfl)
      · have z_c_3 := jc_nle (a := 286) (b := ((6 + k_2 : Nat) : Int)) c_3 (by decide) (rl_ti (by omega))
        refine jj_aload_n C dX11_dropLot_12 rfl ?_
        refine tt_getF C hok jk_12 0 (by decide) jw_34eaf3ba8b (t := (2, 2, 0)) hk0 (by decide) rfl rfl hm.1 dX11_dropLot_13 ?_
        refine jj_iload_n C dX11_dropLot_16 rfl ?_
        refine jj_aload_n C dX11_dropLot_17 rfl ?_
        refine tt_getF C hok jk_12 0 (by decide) jw_34eaf3ba8b (t := (2, 2, 0)) hk0 (by decide) rfl rfl hm.1 dX11_dropLot_18 ?_
        refine jj_iload_n C dX11_dropLot_21 rfl ?_
        refine jj_bipush (v := 6) C dX11_dropLot_22 (by decide) ?_
        refine jj_iadd (v := nI (6 + k_2)) C dX11_dropLot_24 (rl_addR (kn := 6) (by decide) (by omega)) ?_
        refine rl_lald C hok (t := (1, (-9223372036854775808), 9223372036854775807)) hkw (by decide) rfl (k := 6 + k_2) (v := ((rg_sh f (46 + 6 * q) 6 k_2) (6 + k_2))) (vp_in_nI (by omega) (by decide)) hC (nI_clamp (by omega)) rfl dX11_dropLot_25 ?_
        refine rl_last C hok (t := (1, (-9223372036854775808), 9223372036854775807)) hkw (by decide) rfl (k := k_2) (vp_in_nI (by omega) (by decide)) (tt_ja _) (nI_clamp (by omega)) dX11_dropLot_26 (fun pl_6 hok_7 tr tl tw => ?_)
        replace hm := hm.arr tr
        replace hfr := hfr.arr tr
        replace hC := tw _ hC
        replace hfa := hfa.wr hkw tl (by decide)
        refine jj_iinc (v := nI (1 + k_2)) C dX11_dropLot_27 rfl (rl_addR (kn := 1) (by decide) (by omega)) (by decide) rfl ?_
        refine jj_goto (tgt := 2) C dX11_dropLot_30 (by decide) ?_
        exact ihL_1 pl_6 (1 + k_2) hok_7 hfr hfa hm (Eq.subst (motive := fun z => tt_lc pl_6 aw z) (rg_shT f (a := (46 + 6 * q)) (d := 6) (k := k_2) (by omega) (by decide)) hC) (by first | omega | decide | exact tt_lo _ | exact tt_hi _) (by first | omega | decide | exact tt_lo _ | exact tt_hi _) (by omega) (by first | omega | decide | exact tt_lo _ | exact tt_hi _)
  exact hL_1 _ pl0 (46 + 6 * q) trivial hok hfr hfa hm (Eq.subst (motive := fun z => tt_lc pl0 aw z) (rg_sh0 f (46 + 6 * q) 6).symm hC) (by first | omega | decide | exact tt_lo _ | exact tt_hi _) (by first | omega | decide | exact tt_lo _ | exact tt_hi _) (by omega) (Int.self_le_toNat _)

set_option maxHeartbeats 4000000 in
set_option maxRecDepth 100000 in
theorem rs_dropSeries {l : Launch} (hl : l.stackTraces = false) (D : va_G) (cA : Nat → ClassId) (ak : (Nat → Nat) × (Nat → Nat)) {Kd : Nat → Nat} {h0 aw aa at0 ai af ap : Nat} (q : Nat) (f : Nat → Int64) (hk0 : Kd h0 = 1) (hkw : Kd aw = 2) (hka : Kd aa = 3) (hkt : Kd at0 = 4) (hki : Kd ai = 5) (hkf : Kd af = 6) (hkp : Kd ap = 7) (hq : q < 6) {pl0 : va_W} (hok : tt_ok rt_tk cA Kd pl0) (hm : rl_m pl0 h0 aw aa at0 ai af ap) (hC : tt_lc pl0 aw f) : jj_M l D cA ak yX11_dropSeries (.code yX11_dropSeries cX11_dropSeries 3 none) 0 0 0 0 ([] ++ pl0) [.ref h0, .int (nI (16 + 5 * q))] (tt_O (fun rx pl1 r => rx = [] ∧ tt_ok rt_tk cA Kd pl1 ∧ tt_fr Kd [] pl0 pl1 ∧ tt_fa Kd [2] pl0 pl1 ∧ ((tt_lc pl1 aw (rg_dS f q) ∧ r = none)))) (tt_OX (fun _ _ _ => False)) := by
  refine jj_start hl (by decide) jw_1bc5a547f3 (jj_le rfl) ?_
  intro p e s m args below meth c A hargs hA C hex hmn
  have hfr := tt_fr.refl (K := Kd) (WS := []) pl0
  have hfa := tt_fa.refl (K := Kd) (WA := [2]) pl0
  refine jj_iload_n C dX11_dropSeries_0 rfl ?_
  refine jj_istore_n C dX11_dropSeries_1 (by decide) rfl ?_
  have hL_1 : ∀ (N : Nat) (pl : va_W) (k_2 : Nat), True → tt_ok rt_tk cA Kd pl → tt_fr Kd [] pl0 pl → tt_fa Kd [2] pl0 pl → rl_m pl h0 aw aa at0 ai af ap → tt_lc pl aw (rg_sh f (16 + 5 * q) 5 k_2) → (16 : Int) ≤ (k_2 : Int) → (k_2 : Int) ≤ 41 → (16 + 5 * q ≤ k_2) → (2147483648 - (k_2 : Int) ≤ (N : Int)) → jj_J p l e (jj_rm 0 0 0 0) s m args below meth c 3 A (vx_MQ below (jj_q D A (tt_O (fun rx pl1 r => rx = [] ∧ tt_ok rt_tk cA Kd pl1 ∧ tt_fr Kd [] pl0 pl1 ∧ tt_fa Kd [2] pl0 pl1 ∧ ((tt_lc pl1 aw (rg_dS f q) ∧ r = none))))) (jj_x D A (tt_OX (fun _ _ _ => False))) args s 0 0 A) (jj_X D A ([] ++ pl)) 0 0 2 [(2, .int (nI k_2)), (0, .ref h0), (1, .int (nI (16 + 5 * q)))] [] := by
    intro NL_1
    induction NL_1 with
    | zero => intro pl k_2 _ hok hfr hfa hm hC lk_2 uk_2 hI0 hNL_1; exfalso; omega
    | succ NL_1 ihL_1 =>
      intro pl k_2 _ hok hfr hfa hm hC lk_2 uk_2 hI0 hNL_1
      replace ihL_1 := fun pl k_2 h1 => ihL_1 pl k_2 trivial h1
      refine jj_iload_n C dX11_dropSeries_2 rfl ?_
      refine jj_iconst (v := 5) C dX11_dropSeries_3 (by decide) ?_
      refine jj_iadd (v := nI (5 + k_2)) C dX11_dropSeries_4 (rl_addR (kn := 5) (by decide) (by omega)) ?_
      refine jj_bipush (v := 46) C dX11_dropSeries_5 (by decide) ?_
      refine jj_icmp_ge (tgt := 30) C dX11_dropSeries_7 (by decide) (fun c_3 => ?_) (fun c_3 => ?_)
      · have z_c_3 := jc_le (a := 46) (b := ((5 + k_2 : Nat) : Int)) c_3 (by decide) (rl_ti (by omega))
        refine jj_aload_n C dX11_dropSeries_30 rfl ?_
        refine tt_getF C hok jk_12 0 (by decide) jw_34eaf3ba8b (t := (2, 2, 0)) hk0 (by decide) rfl rfl hm.1 dX11_dropSeries_31 ?_
        refine jj_bipush (v := 6) C dX11_dropSeries_34 (by decide) ?_
        refine jj_dup2 C dX11_dropSeries_36 rfl rfl ?_
        refine rl_lald C hok (t := (1, (-9223372036854775808), 9223372036854775807)) hkw (by decide) rfl (k := 6) (v := ((rg_sh f (16 + 5 * q) 5 k_2) 6)) (vp_in_iff.mpr (by decide)) hC (by decide) rfl dX11_dropSeries_37 ?_
        refine jj_lconst (v := 1) C dX11_dropSeries_38 (by decide) ?_
        refine jj_lsub C dX11_dropSeries_39 rfl ?_
        refine rl_last C hok (t := (1, (-9223372036854775808), 9223372036854775807)) hkw (by decide) rfl (k := 6) (vp_in_iff.mpr (by decide)) (tt_ja _) (by decide) dX11_dropSeries_40 (fun pl_4 hok_5 tr tl tw => ?_)
        replace hm := hm.arr tr
        replace hfr := hfr.arr tr
        replace hC := tw _ hC
        replace hfa := hfa.wr hkw tl (by decide)
        exact jj_vret C ⟨[], pl_4, rfl, rfl, hok_5, hfr, hfa, (by have z9 : k_2 = 41 := (by omega); subst z9; exact ⟨hC, rfl⟩)⟩ dX11_dropSeries_41 (jj_le rfl) (jj_le rfl)
      · have z_c_3 := jc_nle (a := 46) (b := ((5 + k_2 : Nat) : Int)) c_3 (by decide) (rl_ti (by omega))
        refine jj_aload_n C dX11_dropSeries_10 rfl ?_
        refine tt_getF C hok jk_12 0 (by decide) jw_34eaf3ba8b (t := (2, 2, 0)) hk0 (by decide) rfl rfl hm.1 dX11_dropSeries_11 ?_
        refine jj_iload_n C dX11_dropSeries_14 rfl ?_
        refine jj_aload_n C dX11_dropSeries_15 rfl ?_
        refine tt_getF C hok jk_12 0 (by decide) jw_34eaf3ba8b (t := (2, 2, 0)) hk0 (by decide) rfl rfl hm.1 dX11_dropSeries_16 ?_
        refine jj_iload_n C dX11_dropSeries_19 rfl ?_
        refine jj_iconst (v := 5) C dX11_dropSeries_20 (by decide) ?_
        refine jj_iadd (v := nI (5 + k_2)) C dX11_dropSeries_21 (rl_addR (kn := 5) (by decide) (by omega)) ?_
        refine rl_lald C hok (t := (1, (-9223372036854775808), 9223372036854775807)) hkw (by decide) rfl (k := 5 + k_2) (v := ((rg_sh f (16 + 5 * q) 5 k_2) (5 + k_2))) (vp_in_nI (by omega) (by decide)) hC (nI_clamp (by omega)) rfl dX11_dropSeries_22 ?_
        refine rl_last C hok (t := (1, (-9223372036854775808), 9223372036854775807)) hkw (by decide) rfl (k := k_2) (vp_in_nI (by omega) (by decide)) (tt_ja _) (nI_clamp (by omega)) dX11_dropSeries_23 (fun pl_6 hok_7 tr tl tw => ?_)
        replace hm := hm.arr tr
        replace hfr := hfr.arr tr
        replace hC := tw _ hC
        replace hfa := hfa.wr hkw tl (by decide)
        refine jj_iinc (v := nI (1 + k_2)) C dX11_dropSeries_24 rfl (rl_addR (kn := 1) (by decide) (by omega)) (by decide) rfl ?_
        refine jj_goto (tgt := 2) C dX11_dropSeries_27 (by decide) ?_
        exact ihL_1 pl_6 (1 + k_2) hok_7 hfr hfa hm (Eq.subst (motive := fun z => tt_lc pl_6 aw z) (rg_shT f (a := (16 + 5 * q)) (d := 5) (k := k_2) (by omega) (by decide)) hC) (by first | omega | decide | exact tt_lo _ | exact tt_hi _) (by first | omega | decide | exact tt_lo _ | exact tt_hi _) (by omega) (by first | omega | decide | exact tt_lo _ | exact tt_hi _)
  exact hL_1 _ pl0 (16 + 5 * q) trivial hok hfr hfa hm (Eq.subst (motive := fun z => tt_lc pl0 aw z) (rg_sh0 f (16 + 5 * q) 5).symm hC) (by first | omega | decide | exact tt_lo _ | exact tt_hi _) (by first | omega | decide | exact tt_lo _ | exact tt_hi _) (by omega) (Int.self_le_toNat _)

set_option maxHeartbeats 4000000 in
set_option maxRecDepth 100000 in
theorem rs_dropRequest {l : Launch} (hl : l.stackTraces = false) (D : va_G) (cA : Nat → ClassId) (ak : (Nat → Nat) × (Nat → Nat)) {Kd : Nat → Nat} {h0 aw aa at0 ai af ap : Nat} (q : Nat) (f : Nat → Int64) (hk0 : Kd h0 = 1) (hkw : Kd aw = 2) (hka : Kd aa = 3) (hkt : Kd at0 = 4) (hki : Kd ai = 5) (hkf : Kd af = 6) (hkp : Kd ap = 7) (hq : q < 12) {pl0 : va_W} (hok : tt_ok rt_tk cA Kd pl0) (hm : rl_m pl0 h0 aw aa at0 ai af ap) (hC : tt_lc pl0 aw f) : jj_M l D cA ak yX11_dropRequest (.code yX11_dropRequest cX11_dropRequest 3 none) 1 20 0 0 ([] ++ pl0) [.ref h0, .int (nI q)] (tt_O (fun rx pl1 r => rx = [] ∧ tt_ok rt_tk cA Kd pl1 ∧ tt_fr Kd [] pl0 pl1 ∧ tt_fa Kd [2] pl0 pl1 ∧ ((tt_lc pl1 aw (rg_dQ f q) ∧ r = none)))) (tt_OX (fun _ _ _ => False)) := by
  refine jj_start hl (by decide) jw_563f13149e (jj_le rfl) ?_
  intro p e s m args below meth c A hargs hA C hex hmn
  have hfr := tt_fr.refl (K := Kd) (WS := []) pl0
  have hfa := tt_fa.refl (K := Kd) (WA := [2]) pl0
  refine jj_iload_n C dX11_dropRequest_0 rfl ?_
  refine tt_call0S (rest := []) C (rn_requestAt hl D cA ak q (286 + 4 * q) (by omega)) jw_b399766b1e jw_c583cc9526 jw_f96c99f44d jw_595411e0f2 jn_X11_requestAt rfl (jj_le rfl) (jj_le rfl) (jj_le rfl) (jj_le rfl) (jj_le rfl) dX11_dropRequest_1 rfl (fun w1 r hO => ?_)
  obtain ⟨-, rfl⟩ := hO
  refine jj_istore_n C dX11_dropRequest_4 (by decide) rfl ?_
  have hL_1 : ∀ (N : Nat) (pl : va_W) (k_2 : Nat), True → tt_ok rt_tk cA Kd pl → tt_fr Kd [] pl0 pl → tt_fa Kd [2] pl0 pl → rl_m pl h0 aw aa at0 ai af ap → tt_lc pl aw (rg_sh f (286 + 4 * q) 4 k_2) → (286 : Int) ≤ (k_2 : Int) → (k_2 : Int) ≤ 330 → (286 + 4 * q ≤ k_2) → (2147483648 - (k_2 : Int) ≤ (N : Int)) → jj_J p l e (jj_rm 1 20 0 0) s m args below meth c 3 A (vx_MQ below (jj_q D A (tt_O (fun rx pl1 r => rx = [] ∧ tt_ok rt_tk cA Kd pl1 ∧ tt_fr Kd [] pl0 pl1 ∧ tt_fa Kd [2] pl0 pl1 ∧ ((tt_lc pl1 aw (rg_dQ f q) ∧ r = none))))) (jj_x D A (tt_OX (fun _ _ _ => False))) args s 0 0 A) (jj_X D A ([] ++ pl)) 0 0 5 [(2, .int (nI k_2)), (0, .ref h0), (1, .int (nI q))] [] := by
    intro NL_1
    induction NL_1 with
    | zero => intro pl k_2 _ hok hfr hfa hm hC lk_2 uk_2 hI0 hNL_1; exfalso; omega
    | succ NL_1 ihL_1 =>
      intro pl k_2 _ hok hfr hfa hm hC lk_2 uk_2 hI0 hNL_1
      replace ihL_1 := fun pl k_2 h1 => ihL_1 pl k_2 trivial h1
      refine jj_iload_n C dX11_dropRequest_5 rfl ?_
      refine jj_iconst (v := 4) C dX11_dropRequest_6 (by decide) ?_
      refine jj_iadd (v := nI (4 + k_2)) C dX11_dropRequest_7 (rl_addR (kn := 4) (by decide) (by omega)) ?_
      refine jj_sipush (v := 334) C dX11_dropRequest_8 (by decide) ?_
      refine jj_icmp_ge (tgt := 34) C dX11_dropRequest_11 (by decide) (fun c_3 => ?_) (fun c_3 => ?_)
      · have z_c_3 := jc_le (a := 334) (b := ((4 + k_2 : Nat) : Int)) c_3 (by decide) (rl_ti (by omega))
        refine jj_aload_n C dX11_dropRequest_34 rfl ?_
        refine tt_getF C hok jk_12 0 (by decide) jw_34eaf3ba8b (t := (2, 2, 0)) hk0 (by decide) rfl rfl hm.1 dX11_dropRequest_35 ?_
        refine jj_bipush (v := 8) C dX11_dropRequest_38 (by decide) ?_
        refine jj_dup2 C dX11_dropRequest_40 rfl rfl ?_
        refine rl_lald C hok (t := (1, (-9223372036854775808), 9223372036854775807)) hkw (by decide) rfl (k := 8) (v := ((rg_sh f (286 + 4 * q) 4 k_2) 8)) (vp_in_iff.mpr (by decide)) hC (by decide) rfl dX11_dropRequest_41 ?_
        refine jj_lconst (v := 1) C dX11_dropRequest_42 (by decide) ?_
        refine jj_lsub C dX11_dropRequest_43 rfl ?_
        refine rl_last C hok (t := (1, (-9223372036854775808), 9223372036854775807)) hkw (by decide) rfl (k := 8) (vp_in_iff.mpr (by decide)) (tt_ja _) (by decide) dX11_dropRequest_44 (fun pl_4 hok_5 tr tl tw => ?_)
        replace hm := hm.arr tr
        replace hfr := hfr.arr tr
        replace hC := tw _ hC
        replace hfa := hfa.wr hkw tl (by decide)
        exact jj_vret C ⟨[], pl_4, rfl, rfl, hok_5, hfr, hfa, (by have z9 : k_2 = 330 := (by omega); subst z9; exact ⟨hC, rfl⟩)⟩ dX11_dropRequest_45 (jj_le rfl) (jj_le rfl)
      · have z_c_3 := jc_nle (a := 334) (b := ((4 + k_2 : Nat) : Int)) c_3 (by decide) (rl_ti (by omega))
        refine jj_aload_n C dX11_dropRequest_14 rfl ?_
        refine tt_getF C hok jk_12 0 (by decide) jw_34eaf3ba8b (t := (2, 2, 0)) hk0 (by decide) rfl rfl hm.1 dX11_dropRequest_15 ?_
        refine jj_iload_n C dX11_dropRequest_18 rfl ?_
        refine jj_aload_n C dX11_dropRequest_19 rfl ?_
        refine tt_getF C hok jk_12 0 (by decide) jw_34eaf3ba8b (t := (2, 2, 0)) hk0 (by decide) rfl rfl hm.1 dX11_dropRequest_20 ?_
        refine jj_iload_n C dX11_dropRequest_23 rfl ?_
        refine jj_iconst (v := 4) C dX11_dropRequest_24 (by decide) ?_
        refine jj_iadd (v := nI (4 + k_2)) C dX11_dropRequest_25 (rl_addR (kn := 4) (by decide) (by omega)) ?_
        refine rl_lald C hok (t := (1, (-9223372036854775808), 9223372036854775807)) hkw (by decide) rfl (k := 4 + k_2) (v := ((rg_sh f (286 + 4 * q) 4 k_2) (4 + k_2))) (vp_in_nI (by omega) (by decide)) hC (nI_clamp (by omega)) rfl dX11_dropRequest_26 ?_
        refine rl_last C hok (t := (1, (-9223372036854775808), 9223372036854775807)) hkw (by decide) rfl (k := k_2) (vp_in_nI (by omega) (by decide)) (tt_ja _) (nI_clamp (by omega)) dX11_dropRequest_27 (fun pl_6 hok_7 tr tl tw => ?_)
        replace hm := hm.arr tr
        replace hfr := hfr.arr tr
        replace hC := tw _ hC
        replace hfa := hfa.wr hkw tl (by decide)
        refine jj_iinc (v := nI (1 + k_2)) C dX11_dropRequest_28 rfl (rl_addR (kn := 1) (by decide) (by omega)) (by decide) rfl ?_
        refine jj_goto (tgt := 5) C dX11_dropRequest_31 (by decide) ?_
        exact ihL_1 pl_6 (1 + k_2) hok_7 hfr hfa hm (Eq.subst (motive := fun z => tt_lc pl_6 aw z) (rg_shT f (a := (286 + 4 * q)) (d := 4) (k := k_2) (by omega) (by decide)) hC) (by first | omega | decide | exact tt_lo _ | exact tt_hi _) (by first | omega | decide | exact tt_lo _ | exact tt_hi _) (by omega) (by first | omega | decide | exact tt_lo _ | exact tt_hi _)
  exact hL_1 _ pl0 (286 + 4 * q) trivial hok hfr hfa hm (Eq.subst (motive := fun z => tt_lc pl0 aw z) (rg_sh0 f (286 + 4 * q) 4).symm hC) (by first | omega | decide | exact tt_lo _ | exact tt_hi _) (by first | omega | decide | exact tt_lo _ | exact tt_hi _) (by omega) (Int.self_le_toNat _)

set_option maxHeartbeats 4000000 in
set_option maxRecDepth 100000 in
theorem rs_use {l : Launch} (hl : l.stackTraces = false) (D : va_G) (cA : Nat → ClassId) (ak : (Nat → Nat) × (Nat → Nat)) {Kd : Nat → Nat} {h0 aw aa at0 ai af ap : Nat} (j : Nat) (p2 : Int64) (B : Int) (f : Nat → Int64) (hk0 : Kd h0 = 1) (hkw : Kd aw = 2) (hka : Kd aa = 3) (hkt : Kd at0 = 4) (hki : Kd ai = 5) (hkf : Kd af = 6) (hkp : Kd ap = 7) (hj : j < rnL f) (hx1 : 1 ≤ p2.toInt) (hx2 : p2.toInt ≤ (f (48 + 6 * j)).toInt) (hI : rl_I B f) (hB : B ≤ 43920000000) {pl0 : va_W} (hok : tt_ok rt_tk cA Kd pl0) (hm : rl_m pl0 h0 aw aa at0 ai af ap) (hC : tt_lc pl0 aw f) : jj_M l D cA ak yX11_use (.code yX11_use cX11_use 15 none) 3 67 0 0 ([] ++ pl0) [.ref h0, .int (nI (46 + 6 * j)), .long p2] (tt_O (fun rx pl1 r => rx = [] ∧ tt_ok rt_tk cA Kd pl1 ∧ tt_fr Kd [(1, 8), (1, 9)] pl0 pl1 ∧ tt_fa Kd [2] pl0 pl1 ∧ ((∃ g : Nat → Int64, tt_lc pl1 aw g ∧ rl_I B g ∧ rl_T g ≤ rl_T f ∧ (∀ i : Nat, ¬ (10 ≤ i ∧ i ≤ 15) → (i < 16 ∨ 46 ≤ i) → i ≠ 48 + 6 * j → i ≠ 50 + 6 * j → g i = f i) ∧ g (48 + 6 * j) = f (48 + 6 * j) - p2 ∧ r = none)))) (tt_OX (fun _ _ _ => False)) := by
  refine jj_start hl (by decide) jw_fb0beaaae0 (jj_le rfl) ?_
  intro p e s m args below meth c A hargs hA C hex hmn
  have hfr := tt_fr.refl (K := Kd) (WS := [(1, 8), (1, 9)]) pl0
  have hfa := tt_fa.refl (K := Kd) (WA := [2]) pl0
  have hH := hI.1.1
  obtain ⟨⟨g0a, g0b⟩, ⟨g1a, g1b⟩, ⟨g6a, g6b⟩, ⟨g7a, g7b⟩, ⟨g8a, g8b⟩⟩ := hH
  have hj0 : (j : Int) < (f 7).toInt := by unfold rnL at hj; omega
  have hl0 : ¬ f (48 + 6 * j) = 0 := rl_N0 (by omega)
  refine jj_aload_n C dX11_use_0 rfl ?_
  refine jj_iload_n C dX11_use_1 rfl ?_
  obtain ⟨qc, gs, hqc⟩ := tt_recv (cx := []) hok hk0 (by decide) rfl
  refine tt_callV (rest := []) C (rs_seriesOf hl D cA ak j B f hk0 hkw hka hkt hki hkf hkp (by unfold rnL; omega) hI hok hm hC) [] [] rfl rfl (by decide) (by decide) (by decide) qc hqc rfl rfl jw_d65a5bc022 jw_1dec1c43e7 jw_b10eba75a5 jw_f96c99f44d jw_a26e9314b3 jn_X11_seriesOf rfl (jj_le rfl) (jj_le rfl) (jj_le rfl) (jj_le rfl) (jj_le rfl) dX11_use_2 rfl (fun _ _ _ hX => hX.elim) (fun rx pl_1 r O_5 => ?_)
  obtain ⟨rfl, hok_2, hr_3, ha_4, hR_6⟩ := O_5
  replace hC := ha_4.at hkw (by decide) (by decide) hC
  replace hm := hm.fr hr_3 hk0 rfl
  replace hfr := hfr.trans (hr_3.sub (by decide))
  replace hfa := hfa.trans (ha_4.sub (by decide))
  obtain ⟨n_7, hn_7, qn_7, rfl⟩ := hR_6
  have hhn_7 : (n_7 : Int) < (f 6).toInt := by unfold rnS at hn_7; omega
  have un_7 := rl_U1 hI hn_7 hj qn_7 (by omega)
  refine jj_istore C dX11_use_5 (by decide) rfl ?_
  refine jj_aload_n C dX11_use_7 rfl ?_
  refine jj_iload C dX11_use_8 rfl ?_
  obtain ⟨qc, gs, hqc⟩ := tt_recv (cx := []) hok_2 hk0 (by decide) rfl
  refine tt_callV (rest := []) C (rs_net hl D cA ak n_7 f hk0 hkw hka hkt hki hkf hkp (by omega) hok_2 hm hC) [] [] rfl rfl (by decide) (by decide) (by decide) qc hqc rfl rfl jw_097701ac65 jw_3078c54111 jw_c9e42407ff jw_f96c99f44d jw_02915e3ff9 jn_X11_net rfl (jj_le rfl) (jj_le rfl) (jj_le rfl) (jj_le rfl) (jj_le rfl) dX11_use_10 rfl (fun _ _ _ hX => hX.elim) (fun rx pl_8 r O_12 => ?_)
  obtain ⟨rfl, hok_9, hr_10, ha_11, hR_13⟩ := O_12
  replace hC := ha_11.at hkw (by decide) (by decide) hC
  replace hm := hm.fr hr_10 hk0 rfl
  replace hfr := hfr.trans (hr_10.sub (by decide))
  replace hfa := hfa.trans (ha_11.sub (by decide))
  obtain rfl := hR_13
  refine jj_lload_n C dX11_use_13 rfl ?_
  refine jj_lmul C dX11_use_14 rfl ?_
  refine jj_aload_n C dX11_use_15 rfl ?_
  refine tt_getF C hok_9 jk_12 0 (by decide) jw_34eaf3ba8b (t := (2, 2, 0)) hk0 (by decide) rfl rfl hm.1 dX11_use_16 ?_
  refine jj_iload C dX11_use_19 rfl ?_
  refine jj_iconst (v := 3) C dX11_use_21 (by decide) ?_
  refine jj_iadd (v := nI (19 + 5 * n_7)) C dX11_use_22 (rl_addR (kn := 3) (by decide) (by omega)) ?_
  refine rl_lald C hok_9 (t := (1, (-9223372036854775808), 9223372036854775807)) hkw (by decide) rfl (k := 19 + 5 * n_7) (v := (f (19 + 5 * n_7))) (vp_in_nI (by omega) (by decide)) hC (nI_clamp (by omega)) rfl dX11_use_23 ?_
  refine jj_ldiv C dX11_use_24 un_7 rfl ?_
  refine jj_lstore C dX11_use_25 (by decide) rfl ?_
  refine jj_aload_n C dX11_use_27 rfl ?_
  refine jj_iload C dX11_use_28 rfl ?_
  obtain ⟨qc, gs, hqc⟩ := tt_recv (cx := []) hok_9 hk0 (by decide) rfl
  refine tt_callV (rest := []) C (rs_accrued hl D cA ak n_7 f hk0 hkw hka hkt hki hkf hkp (by omega) hok_9 hm hC) [] [] rfl rfl (by decide) (by decide) (by decide) qc hqc rfl rfl jw_2b94ab0b2c jw_fa756eb8b8 jw_81537d461f jw_f96c99f44d jw_3e876c9b97 jn_X11_accrued rfl (jj_le rfl) (jj_le rfl) (jj_le rfl) (jj_le rfl) (jj_le rfl) dX11_use_30 rfl (fun _ _ _ hX => hX.elim) (fun rx pl_14 r O_18 => ?_)
  obtain ⟨rfl, hok_15, hr_16, ha_17, hR_19⟩ := O_18
  replace hC := ha_17.at hkw (by decide) (by decide) hC
  replace hm := hm.fr hr_16 hk0 rfl
  replace hfr := hfr.trans (hr_16.sub (by decide))
  replace hfa := hfa.trans (ha_17.sub (by decide))
  obtain rfl := hR_19
  refine jj_lload_n C dX11_use_33 rfl ?_
  refine jj_lmul C dX11_use_34 rfl ?_
  refine jj_aload_n C dX11_use_35 rfl ?_
  refine tt_getF C hok_15 jk_12 0 (by decide) jw_34eaf3ba8b (t := (2, 2, 0)) hk0 (by decide) rfl rfl hm.1 dX11_use_36 ?_
  refine jj_iload C dX11_use_39 rfl ?_
  refine jj_iconst (v := 3) C dX11_use_41 (by decide) ?_
  refine jj_iadd (v := nI (19 + 5 * n_7)) C dX11_use_42 (rl_addR (kn := 3) (by decide) (by omega)) ?_
  refine rl_lald C hok_15 (t := (1, (-9223372036854775808), 9223372036854775807)) hkw (by decide) rfl (k := 19 + 5 * n_7) (v := (f (19 + 5 * n_7))) (vp_in_nI (by omega) (by decide)) hC (nI_clamp (by omega)) rfl dX11_use_43 ?_
  refine jj_ldiv C dX11_use_44 un_7 rfl ?_
  refine jj_lstore C dX11_use_45 (by decide) rfl ?_
  refine jj_aload_n C dX11_use_47 rfl ?_
  refine tt_getF C hok_15 jk_12 0 (by decide) jw_34eaf3ba8b (t := (2, 2, 0)) hk0 (by decide) rfl rfl hm.1 dX11_use_48 ?_
  refine jj_iload_n C dX11_use_51 rfl ?_
  refine jj_iconst (v := 4) C dX11_use_52 (by decide) ?_
  refine jj_iadd (v := nI (50 + 6 * j)) C dX11_use_53 (rl_addR (kn := 4) (by decide) (by omega)) ?_
  refine rl_lald C hok_15 (t := (1, (-9223372036854775808), 9223372036854775807)) hkw (by decide) rfl (k := 50 + 6 * j) (v := (f (50 + 6 * j))) (vp_in_nI (by omega) (by decide)) hC (nI_clamp (by omega)) rfl dX11_use_54 ?_
  refine jj_lload_n C dX11_use_55 rfl ?_
  refine jj_lmul C dX11_use_56 rfl ?_
  refine jj_aload_n C dX11_use_57 rfl ?_
  refine tt_getF C hok_15 jk_12 0 (by decide) jw_34eaf3ba8b (t := (2, 2, 0)) hk0 (by decide) rfl rfl hm.1 dX11_use_58 ?_
  refine jj_iload_n C dX11_use_61 rfl ?_
  refine jj_iconst (v := 2) C dX11_use_62 (by decide) ?_
  refine jj_iadd (v := nI (48 + 6 * j)) C dX11_use_63 (rl_addR (kn := 2) (by decide) (by omega)) ?_
  refine rl_lald C hok_15 (t := (1, (-9223372036854775808), 9223372036854775807)) hkw (by decide) rfl (k := 48 + 6 * j) (v := (f (48 + 6 * j))) (vp_in_nI (by omega) (by decide)) hC (nI_clamp (by omega)) rfl dX11_use_64 ?_
  refine jj_ldiv C dX11_use_65 hl0 rfl ?_
  refine jj_lstore C dX11_use_66 (by decide) rfl ?_
  refine jj_lload C dX11_use_68 rfl ?_
  refine jj_lload C dX11_use_70 rfl ?_
  refine tt_call0S (rest := []) C (ct_J9_min_f86c9_1 hl D cA ak (((rg_acc f n_7) * p2) / (f (19 + 5 * n_7))) (((f (50 + 6 * j)) * p2) / (f (48 + 6 * j)))) jw_43e83b8e67 jw_a0cddbe894 jw_a731c8553d jw_e0e7ffaaeb jn_J9_min_f86c9 rfl (jj_le rfl) (jj_le rfl) (jj_le rfl) (jj_le rfl) (jj_le rfl) dX11_use_72 rfl (fun w1 r O_20 => ?_)
  rcases O_20 with ⟨c_21, -, rfl⟩ | ⟨c_22, -, rfl⟩
  · have z_c_21 := jc_ltL (a := (((f (50 + 6 * j)) * p2) / (f (48 + 6 * j))).toInt) (b := (((rg_acc f n_7) * p2) / (f (19 + 5 * n_7))).toInt) c_21 rfl rfl
    refine jj_lstore C dX11_use_75 (by decide) rfl ?_
    refine jj_aload_n C dX11_use_77 rfl ?_
    refine jj_iload C dX11_use_78 rfl ?_
    refine jj_iload_n C dX11_use_80 rfl ?_
    refine jj_lload_n C dX11_use_81 rfl ?_
    obtain ⟨qc, gs, hqc⟩ := tt_recv (cx := []) hok_15 hk0 (by decide) rfl
    refine tt_callV (rest := []) C (rs_dueOf hl D cA ak n_7 j p2 f hk0 hkw hka hkt hki hkf hkp (by omega) (by omega) un_7 hok_15 hm hC) [] [] rfl rfl (by decide) (by decide) (by decide) qc hqc rfl rfl jw_4cb1fbd902 jw_03d3ef9ef3 jw_c125768d0a jw_f96c99f44d jw_dd6c33de8b jn_X11_dueOf rfl (jj_le rfl) (jj_le rfl) (jj_le rfl) (jj_le rfl) (jj_le rfl) dX11_use_82 rfl (fun _ _ _ hX => hX.elim) (fun rx pl_23 r O_27 => ?_)
    obtain ⟨rfl, hok_24, hr_25, ha_26, hR_28⟩ := O_27
    replace hC := ha_26.at hkw (by decide) (by decide) hC
    replace hm := hm.fr hr_25 hk0 rfl
    replace hfr := hfr.trans (hr_25.sub (by decide))
    replace hfa := hfa.trans (ha_26.sub (by decide))
    obtain ⟨y_29, rfl⟩ := hR_28
    refine jj_lstore C dX11_use_85 (by decide) rfl ?_
    refine jj_aload_n C dX11_use_87 rfl ?_
    refine jj_dup C dX11_use_88 rfl ?_
    refine tt_get C hok_24 jk_12 8 (by decide) jw_57bd70d95d (t := (1, (-9223372036854775808), 9223372036854775807)) hk0 (by decide) rfl rfl dX11_use_89 (fun v_30 hv_30 hf_31 => ?_)
    obtain ⟨y_32, rfl, -, -⟩ := tt_vj hv_30
    refine jj_lload C dX11_use_92 rfl ?_
    refine jj_ladd C dX11_use_94 rfl ?_
    refine rl_put C hok_24 jk_12 8 (by decide) jw_57bd70d95d (t := (1, (-9223372036854775808), 9223372036854775807)) hk0 (by decide) rfl rfl rfl (tt_ja (y_32 + (((f (18 + 5 * n_7) - rg_acc f n_7) * p2) / (f (19 + 5 * n_7))))) rfl rfl dX11_use_95 (fun pl_33 hok_34 tr hn tl => ?_)
    have hf_35 := hn
    replace hm := hm.put tr (by decide)
    replace hfr := hfr.put hk0 tr (by decide)
    replace hC := tl _ _ hC
    replace hfa := hfa.all tl
    refine jj_aload_n C dX11_use_98 rfl ?_
    refine jj_dup C dX11_use_99 rfl ?_
    refine tt_get C hok_34 jk_12 9 (by decide) jw_f657bbcfa1 (t := (1, (-9223372036854775808), 9223372036854775807)) hk0 (by decide) rfl rfl dX11_use_100 (fun v_36 hv_36 hf_37 => ?_)
    obtain ⟨y_38, rfl, -, -⟩ := tt_vj hv_36
    refine jj_lload C dX11_use_103 rfl ?_
    refine jj_lload C dX11_use_105 rfl ?_
    refine jj_ladd C dX11_use_107 rfl ?_
    refine jj_lload C dX11_use_108 rfl ?_
    refine jj_lsub C dX11_use_110 rfl ?_
    refine jj_ladd C dX11_use_111 rfl ?_
    refine rl_put C hok_34 jk_12 9 (by decide) jw_f657bbcfa1 (t := (1, (-9223372036854775808), 9223372036854775807)) hk0 (by decide) rfl rfl rfl (tt_ja (y_38 + (((((f (18 + 5 * n_7) - rg_acc f n_7) * p2) / (f (19 + 5 * n_7))) + (((f (50 + 6 * j)) * p2) / (f (48 + 6 * j)))) - y_29))) rfl rfl dX11_use_112 (fun pl_39 hok_40 tr hn tl => ?_)
    replace hf_35 := tr _ _ _ (Or.inr (by decide)) hf_35
    have hf_41 := hn
    replace hm := hm.put tr (by decide)
    replace hfr := hfr.put hk0 tr (by decide)
    replace hC := tl _ _ hC
    replace hfa := hfa.all tl
    refine jj_aload_n C dX11_use_115 rfl ?_
    refine tt_getF C hok_40 jk_12 0 (by decide) jw_34eaf3ba8b (t := (2, 2, 0)) hk0 (by decide) rfl rfl hm.1 dX11_use_116 ?_
    refine jj_bipush (v := 13) C dX11_use_119 (by decide) ?_
    refine jj_dup2 C dX11_use_121 rfl rfl ?_
    refine rl_lald C hok_40 (t := (1, (-9223372036854775808), 9223372036854775807)) hkw (by decide) rfl (k := 13) (v := (f 13)) (vp_in_iff.mpr (by decide)) hC (by decide) rfl dX11_use_122 ?_
    refine jj_lload C dX11_use_123 rfl ?_
    refine jj_lload C dX11_use_125 rfl ?_
    refine jj_ladd C dX11_use_127 rfl ?_
    refine jj_lload C dX11_use_128 rfl ?_
    refine jj_lsub C dX11_use_130 rfl ?_
    refine jj_ladd C dX11_use_131 rfl ?_
    refine rl_last C hok_40 (t := (1, (-9223372036854775808), 9223372036854775807)) hkw (by decide) rfl (k := 13) (vp_in_iff.mpr (by decide)) (tt_ja _) (by decide) dX11_use_132 (fun pl_42 hok_43 tr tl tw => ?_)
    replace hf_35 := tr _ _ _ hf_35
    replace hf_41 := tr _ _ _ hf_41
    replace hm := hm.arr tr
    replace hfr := hfr.arr tr
    replace hC := tw _ hC
    replace hfa := hfa.wr hkw tl (by decide)
    refine jj_aload_n C dX11_use_133 rfl ?_
    refine tt_getF C hok_43 jk_12 0 (by decide) jw_34eaf3ba8b (t := (2, 2, 0)) hk0 (by decide) rfl rfl hm.1 dX11_use_134 ?_
    refine jj_bipush (v := 10) C dX11_use_137 (by decide) ?_
    refine jj_dup2 C dX11_use_139 rfl rfl ?_
    refine rl_lald C hok_43 (t := (1, (-9223372036854775808), 9223372036854775807)) hkw (by decide) rfl (k := 10) (v := (f 10)) (vp_in_iff.mpr (by decide)) hC (by decide) (rl_ne (by omega) rfl) dX11_use_140 ?_
    refine jj_lload C dX11_use_141 rfl ?_
    refine jj_lload C dX11_use_143 rfl ?_
    refine jj_lsub C dX11_use_145 rfl ?_
    refine jj_lload C dX11_use_146 rfl ?_
    refine jj_ladd C dX11_use_148 rfl ?_
    refine jj_ladd C dX11_use_149 rfl ?_
    refine rl_last C hok_43 (t := (1, (-9223372036854775808), 9223372036854775807)) hkw (by decide) rfl (k := 10) (vp_in_iff.mpr (by decide)) (tt_ja _) (by decide) dX11_use_150 (fun pl_44 hok_45 tr tl tw => ?_)
    replace hf_35 := tr _ _ _ hf_35
    replace hf_41 := tr _ _ _ hf_41
    replace hm := hm.arr tr
    replace hfr := hfr.arr tr
    replace hC := tw _ hC
    replace hfa := hfa.wr hkw tl (by decide)
    refine jj_aload_n C dX11_use_151 rfl ?_
    refine tt_getF C hok_45 jk_12 0 (by decide) jw_34eaf3ba8b (t := (2, 2, 0)) hk0 (by decide) rfl rfl hm.1 dX11_use_152 ?_
    refine jj_iload C dX11_use_155 rfl ?_
    refine jj_iconst (v := 2) C dX11_use_157 (by decide) ?_
    refine jj_iadd (v := nI (18 + 5 * n_7)) C dX11_use_158 (rl_addR (kn := 2) (by decide) (by omega)) ?_
    refine jj_dup2 C dX11_use_159 rfl rfl ?_
    refine rl_lald C hok_45 (t := (1, (-9223372036854775808), 9223372036854775807)) hkw (by decide) rfl (k := 18 + 5 * n_7) (v := (f (18 + 5 * n_7))) (vp_in_nI (by omega) (by decide)) hC (nI_clamp (by omega)) (rl_ne (by omega) (rl_ne (by omega) rfl)) dX11_use_160 ?_
    refine jj_lload C dX11_use_161 rfl ?_
    refine jj_lload C dX11_use_163 rfl ?_
    refine jj_ladd C dX11_use_165 rfl ?_
    refine jj_lsub C dX11_use_166 rfl ?_
    refine rl_last C hok_45 (t := (1, (-9223372036854775808), 9223372036854775807)) hkw (by decide) rfl (k := 18 + 5 * n_7) (vp_in_nI (by omega) (by decide)) (tt_ja _) (nI_clamp (by omega)) dX11_use_167 (fun pl_46 hok_47 tr tl tw => ?_)
    replace hf_35 := tr _ _ _ hf_35
    replace hf_41 := tr _ _ _ hf_41
    replace hm := hm.arr tr
    replace hfr := hfr.arr tr
    replace hC := tw _ hC
    replace hfa := hfa.wr hkw tl (by decide)
    refine jj_aload_n C dX11_use_168 rfl ?_
    refine tt_getF C hok_47 jk_12 0 (by decide) jw_34eaf3ba8b (t := (2, 2, 0)) hk0 (by decide) rfl rfl hm.1 dX11_use_169 ?_
    refine jj_iload C dX11_use_172 rfl ?_
    refine jj_iconst (v := 3) C dX11_use_174 (by decide) ?_
    refine jj_iadd (v := nI (19 + 5 * n_7)) C dX11_use_175 (rl_addR (kn := 3) (by decide) (by omega)) ?_
    refine jj_dup2 C dX11_use_176 rfl rfl ?_
    refine rl_lald C hok_47 (t := (1, (-9223372036854775808), 9223372036854775807)) hkw (by decide) rfl (k := 19 + 5 * n_7) (v := (f (19 + 5 * n_7))) (vp_in_nI (by omega) (by decide)) hC (nI_clamp (by omega)) (rl_ne (by omega) (rl_ne (by omega) (rl_ne (by omega) rfl))) dX11_use_177 ?_
    refine jj_lload_n C dX11_use_178 rfl ?_
    refine jj_lsub C dX11_use_179 rfl ?_
    refine rl_last C hok_47 (t := (1, (-9223372036854775808), 9223372036854775807)) hkw (by decide) rfl (k := 19 + 5 * n_7) (vp_in_nI (by omega) (by decide)) (tt_ja _) (nI_clamp (by omega)) dX11_use_180 (fun pl_48 hok_49 tr tl tw => ?_)
    replace hf_35 := tr _ _ _ hf_35
    replace hf_41 := tr _ _ _ hf_41
    replace hm := hm.arr tr
    replace hfr := hfr.arr tr
    replace hC := tw _ hC
    replace hfa := hfa.wr hkw tl (by decide)
    refine jj_aload_n C dX11_use_181 rfl ?_
    refine tt_getF C hok_49 jk_12 0 (by decide) jw_34eaf3ba8b (t := (2, 2, 0)) hk0 (by decide) rfl rfl hm.1 dX11_use_182 ?_
    refine jj_iload_n C dX11_use_185 rfl ?_
    refine jj_iconst (v := 2) C dX11_use_186 (by decide) ?_
    refine jj_iadd (v := nI (48 + 6 * j)) C dX11_use_187 (rl_addR (kn := 2) (by decide) (by omega)) ?_
    refine jj_dup2 C dX11_use_188 rfl rfl ?_
    refine rl_lald C hok_49 (t := (1, (-9223372036854775808), 9223372036854775807)) hkw (by decide) rfl (k := 48 + 6 * j) (v := (f (48 + 6 * j))) (vp_in_nI (by omega) (by decide)) hC (nI_clamp (by omega)) (rl_ne (by omega) (rl_ne (by omega) (rl_ne (by omega) (rl_ne (by omega) rfl)))) dX11_use_189 ?_
    refine jj_lload_n C dX11_use_190 rfl ?_
    refine jj_lsub C dX11_use_191 rfl ?_
    refine rl_last C hok_49 (t := (1, (-9223372036854775808), 9223372036854775807)) hkw (by decide) rfl (k := 48 + 6 * j) (vp_in_nI (by omega) (by decide)) (tt_ja _) (nI_clamp (by omega)) dX11_use_192 (fun pl_50 hok_51 tr tl tw => ?_)
    replace hf_35 := tr _ _ _ hf_35
    replace hf_41 := tr _ _ _ hf_41
    replace hm := hm.arr tr
    replace hfr := hfr.arr tr
    replace hC := tw _ hC
    replace hfa := hfa.wr hkw tl (by decide)
    refine jj_aload_n C dX11_use_193 rfl ?_
    refine tt_getF C hok_51 jk_12 0 (by decide) jw_34eaf3ba8b (t := (2, 2, 0)) hk0 (by decide) rfl rfl hm.1 dX11_use_194 ?_
    refine jj_iload_n C dX11_use_197 rfl ?_
    refine jj_iconst (v := 4) C dX11_use_198 (by decide) ?_
    refine jj_iadd (v := nI (50 + 6 * j)) C dX11_use_199 (rl_addR (kn := 4) (by decide) (by omega)) ?_
    refine jj_dup2 C dX11_use_200 rfl rfl ?_
    refine rl_lald C hok_51 (t := (1, (-9223372036854775808), 9223372036854775807)) hkw (by decide) rfl (k := 50 + 6 * j) (v := (f (50 + 6 * j))) (vp_in_nI (by omega) (by decide)) hC (nI_clamp (by omega)) (rl_ne (by omega) (rl_ne (by omega) (rl_ne (by omega) (rl_ne (by omega) (rl_ne (by omega) rfl))))) dX11_use_201 ?_
    refine jj_lload C dX11_use_202 rfl ?_
    refine jj_lsub C dX11_use_204 rfl ?_
    refine rl_last C hok_51 (t := (1, (-9223372036854775808), 9223372036854775807)) hkw (by decide) rfl (k := 50 + 6 * j) (vp_in_nI (by omega) (by decide)) (tt_ja _) (nI_clamp (by omega)) dX11_use_205 (fun pl_52 hok_53 tr tl tw => ?_)
    replace hf_35 := tr _ _ _ hf_35
    replace hf_41 := tr _ _ _ hf_41
    replace hm := hm.arr tr
    replace hfr := hfr.arr tr
    replace hC := tw _ hC
    replace hfa := hfa.wr hkw tl (by decide)
    exact jj_vret C ⟨[], pl_52, rfl, rfl, hok_53, hfr, hfa, (by have q9 := rl_use (g := (vp_updL (vp_updL (vp_updL (vp_updL (vp_updL (vp_updL f 13 ((f 13) + (((((f (18 + 5 * n_7) - rg_acc f n_7) * p2) / (f (19 + 5 * n_7))) + (((f (50 + 6 * j)) * p2) / (f (48 + 6 * j)))) - y_29))) 10 ((f 10) + (((((rg_acc f n_7) * p2) / (f (19 + 5 * n_7))) - (((f (50 + 6 * j)) * p2) / (f (48 + 6 * j)))) + y_29))) (18 + 5 * n_7) ((f (18 + 5 * n_7)) - ((((f (18 + 5 * n_7) - rg_acc f n_7) * p2) / (f (19 + 5 * n_7))) + (((rg_acc f n_7) * p2) / (f (19 + 5 * n_7)))))) (19 + 5 * n_7) ((f (19 + 5 * n_7)) - p2)) (48 + 6 * j) ((f (48 + 6 * j)) - p2)) (50 + 6 * j) ((f (50 + 6 * j)) - (((f (50 + 6 * j)) * p2) / (f (48 + 6 * j)))))) hI hB hn_7 hj qn_7.symm hx1 hx2 (fun i a1 a2 a3 a4 a5 => (rl_ne a5 (rl_ne a4 (rl_ne a3 (rl_ne a2 (rl_ne (by omega) (rl_ne (by omega) rfl))))))) (rl_ne (by omega) (rl_ne (by omega) (rl_ne (by omega) (rl_eq (by omega))))) (rl_ne (by omega) (rl_ne (by omega) (rl_eq (by omega)))) (rl_ne (by omega) (rl_eq (by omega))) (rl_eq (by omega)); exact ⟨_, hC, q9.1, q9.2, (fun i a1 a2 a4 a5 => (rl_ne a5 (rl_ne a4 (rl_ne (by omega) (rl_ne (by omega) (rl_ne (by omega) (rl_ne (by omega) rfl))))))), (rl_ne (by omega) (rl_eq (by omega))), rfl⟩)⟩ dX11_use_206 (jj_le rfl) (jj_le rfl)
  · have z_c_22 := jc_nltL (a := (((f (50 + 6 * j)) * p2) / (f (48 + 6 * j))).toInt) (b := (((rg_acc f n_7) * p2) / (f (19 + 5 * n_7))).toInt) c_22 rfl rfl
    refine jj_lstore C dX11_use_75 (by decide) rfl ?_
    refine jj_aload_n C dX11_use_77 rfl ?_
    refine jj_iload C dX11_use_78 rfl ?_
    refine jj_iload_n C dX11_use_80 rfl ?_
    refine jj_lload_n C dX11_use_81 rfl ?_
    obtain ⟨qc, gs, hqc⟩ := tt_recv (cx := []) hok_15 hk0 (by decide) rfl
    refine tt_callV (rest := []) C (rs_dueOf hl D cA ak n_7 j p2 f hk0 hkw hka hkt hki hkf hkp (by omega) (by omega) un_7 hok_15 hm hC) [] [] rfl rfl (by decide) (by decide) (by decide) qc hqc rfl rfl jw_4cb1fbd902 jw_03d3ef9ef3 jw_c125768d0a jw_f96c99f44d jw_dd6c33de8b jn_X11_dueOf rfl (jj_le rfl) (jj_le rfl) (jj_le rfl) (jj_le rfl) (jj_le rfl) dX11_use_82 rfl (fun _ _ _ hX => hX.elim) (fun rx pl_54 r O_58 => ?_)
    obtain ⟨rfl, hok_55, hr_56, ha_57, hR_59⟩ := O_58
    replace hC := ha_57.at hkw (by decide) (by decide) hC
    replace hm := hm.fr hr_56 hk0 rfl
    replace hfr := hfr.trans (hr_56.sub (by decide))
    replace hfa := hfa.trans (ha_57.sub (by decide))
    obtain ⟨y_60, rfl⟩ := hR_59
    refine jj_lstore C dX11_use_85 (by decide) rfl ?_
    refine jj_aload_n C dX11_use_87 rfl ?_
    refine jj_dup C dX11_use_88 rfl ?_
    refine tt_get C hok_55 jk_12 8 (by decide) jw_57bd70d95d (t := (1, (-9223372036854775808), 9223372036854775807)) hk0 (by decide) rfl rfl dX11_use_89 (fun v_61 hv_61 hf_62 => ?_)
    obtain ⟨y_63, rfl, -, -⟩ := tt_vj hv_61
    refine jj_lload C dX11_use_92 rfl ?_
    refine jj_ladd C dX11_use_94 rfl ?_
    refine rl_put C hok_55 jk_12 8 (by decide) jw_57bd70d95d (t := (1, (-9223372036854775808), 9223372036854775807)) hk0 (by decide) rfl rfl rfl (tt_ja (y_63 + (((f (18 + 5 * n_7) - rg_acc f n_7) * p2) / (f (19 + 5 * n_7))))) rfl rfl dX11_use_95 (fun pl_64 hok_65 tr hn tl => ?_)
    have hf_66 := hn
    replace hm := hm.put tr (by decide)
    replace hfr := hfr.put hk0 tr (by decide)
    replace hC := tl _ _ hC
    replace hfa := hfa.all tl
    refine jj_aload_n C dX11_use_98 rfl ?_
    refine jj_dup C dX11_use_99 rfl ?_
    refine tt_get C hok_65 jk_12 9 (by decide) jw_f657bbcfa1 (t := (1, (-9223372036854775808), 9223372036854775807)) hk0 (by decide) rfl rfl dX11_use_100 (fun v_67 hv_67 hf_68 => ?_)
    obtain ⟨y_69, rfl, -, -⟩ := tt_vj hv_67
    refine jj_lload C dX11_use_103 rfl ?_
    refine jj_lload C dX11_use_105 rfl ?_
    refine jj_ladd C dX11_use_107 rfl ?_
    refine jj_lload C dX11_use_108 rfl ?_
    refine jj_lsub C dX11_use_110 rfl ?_
    refine jj_ladd C dX11_use_111 rfl ?_
    refine rl_put C hok_65 jk_12 9 (by decide) jw_f657bbcfa1 (t := (1, (-9223372036854775808), 9223372036854775807)) hk0 (by decide) rfl rfl rfl (tt_ja (y_69 + (((((f (18 + 5 * n_7) - rg_acc f n_7) * p2) / (f (19 + 5 * n_7))) + (((rg_acc f n_7) * p2) / (f (19 + 5 * n_7)))) - y_60))) rfl rfl dX11_use_112 (fun pl_70 hok_71 tr hn tl => ?_)
    replace hf_66 := tr _ _ _ (Or.inr (by decide)) hf_66
    have hf_72 := hn
    replace hm := hm.put tr (by decide)
    replace hfr := hfr.put hk0 tr (by decide)
    replace hC := tl _ _ hC
    replace hfa := hfa.all tl
    refine jj_aload_n C dX11_use_115 rfl ?_
    refine tt_getF C hok_71 jk_12 0 (by decide) jw_34eaf3ba8b (t := (2, 2, 0)) hk0 (by decide) rfl rfl hm.1 dX11_use_116 ?_
    refine jj_bipush (v := 13) C dX11_use_119 (by decide) ?_
    refine jj_dup2 C dX11_use_121 rfl rfl ?_
    refine rl_lald C hok_71 (t := (1, (-9223372036854775808), 9223372036854775807)) hkw (by decide) rfl (k := 13) (v := (f 13)) (vp_in_iff.mpr (by decide)) hC (by decide) rfl dX11_use_122 ?_
    refine jj_lload C dX11_use_123 rfl ?_
    refine jj_lload C dX11_use_125 rfl ?_
    refine jj_ladd C dX11_use_127 rfl ?_
    refine jj_lload C dX11_use_128 rfl ?_
    refine jj_lsub C dX11_use_130 rfl ?_
    refine jj_ladd C dX11_use_131 rfl ?_
    refine rl_last C hok_71 (t := (1, (-9223372036854775808), 9223372036854775807)) hkw (by decide) rfl (k := 13) (vp_in_iff.mpr (by decide)) (tt_ja _) (by decide) dX11_use_132 (fun pl_73 hok_74 tr tl tw => ?_)
    replace hf_66 := tr _ _ _ hf_66
    replace hf_72 := tr _ _ _ hf_72
    replace hm := hm.arr tr
    replace hfr := hfr.arr tr
    replace hC := tw _ hC
    replace hfa := hfa.wr hkw tl (by decide)
    refine jj_aload_n C dX11_use_133 rfl ?_
    refine tt_getF C hok_74 jk_12 0 (by decide) jw_34eaf3ba8b (t := (2, 2, 0)) hk0 (by decide) rfl rfl hm.1 dX11_use_134 ?_
    refine jj_bipush (v := 10) C dX11_use_137 (by decide) ?_
    refine jj_dup2 C dX11_use_139 rfl rfl ?_
    refine rl_lald C hok_74 (t := (1, (-9223372036854775808), 9223372036854775807)) hkw (by decide) rfl (k := 10) (v := (f 10)) (vp_in_iff.mpr (by decide)) hC (by decide) (rl_ne (by omega) rfl) dX11_use_140 ?_
    refine jj_lload C dX11_use_141 rfl ?_
    refine jj_lload C dX11_use_143 rfl ?_
    refine jj_lsub C dX11_use_145 rfl ?_
    refine jj_lload C dX11_use_146 rfl ?_
    refine jj_ladd C dX11_use_148 rfl ?_
    refine jj_ladd C dX11_use_149 rfl ?_
    refine rl_last C hok_74 (t := (1, (-9223372036854775808), 9223372036854775807)) hkw (by decide) rfl (k := 10) (vp_in_iff.mpr (by decide)) (tt_ja _) (by decide) dX11_use_150 (fun pl_75 hok_76 tr tl tw => ?_)
    replace hf_66 := tr _ _ _ hf_66
    replace hf_72 := tr _ _ _ hf_72
    replace hm := hm.arr tr
    replace hfr := hfr.arr tr
    replace hC := tw _ hC
    replace hfa := hfa.wr hkw tl (by decide)
    refine jj_aload_n C dX11_use_151 rfl ?_
    refine tt_getF C hok_76 jk_12 0 (by decide) jw_34eaf3ba8b (t := (2, 2, 0)) hk0 (by decide) rfl rfl hm.1 dX11_use_152 ?_
    refine jj_iload C dX11_use_155 rfl ?_
    refine jj_iconst (v := 2) C dX11_use_157 (by decide) ?_
    refine jj_iadd (v := nI (18 + 5 * n_7)) C dX11_use_158 (rl_addR (kn := 2) (by decide) (by omega)) ?_
    refine jj_dup2 C dX11_use_159 rfl rfl ?_
    refine rl_lald C hok_76 (t := (1, (-9223372036854775808), 9223372036854775807)) hkw (by decide) rfl (k := 18 + 5 * n_7) (v := (f (18 + 5 * n_7))) (vp_in_nI (by omega) (by decide)) hC (nI_clamp (by omega)) (rl_ne (by omega) (rl_ne (by omega) rfl)) dX11_use_160 ?_
    refine jj_lload C dX11_use_161 rfl ?_
    refine jj_lload C dX11_use_163 rfl ?_
    refine jj_ladd C dX11_use_165 rfl ?_
    refine jj_lsub C dX11_use_166 rfl ?_
    refine rl_last C hok_76 (t := (1, (-9223372036854775808), 9223372036854775807)) hkw (by decide) rfl (k := 18 + 5 * n_7) (vp_in_nI (by omega) (by decide)) (tt_ja _) (nI_clamp (by omega)) dX11_use_167 (fun pl_77 hok_78 tr tl tw => ?_)
    replace hf_66 := tr _ _ _ hf_66
    replace hf_72 := tr _ _ _ hf_72
    replace hm := hm.arr tr
    replace hfr := hfr.arr tr
    replace hC := tw _ hC
    replace hfa := hfa.wr hkw tl (by decide)
    refine jj_aload_n C dX11_use_168 rfl ?_
    refine tt_getF C hok_78 jk_12 0 (by decide) jw_34eaf3ba8b (t := (2, 2, 0)) hk0 (by decide) rfl rfl hm.1 dX11_use_169 ?_
    refine jj_iload C dX11_use_172 rfl ?_
    refine jj_iconst (v := 3) C dX11_use_174 (by decide) ?_
    refine jj_iadd (v := nI (19 + 5 * n_7)) C dX11_use_175 (rl_addR (kn := 3) (by decide) (by omega)) ?_
    refine jj_dup2 C dX11_use_176 rfl rfl ?_
    refine rl_lald C hok_78 (t := (1, (-9223372036854775808), 9223372036854775807)) hkw (by decide) rfl (k := 19 + 5 * n_7) (v := (f (19 + 5 * n_7))) (vp_in_nI (by omega) (by decide)) hC (nI_clamp (by omega)) (rl_ne (by omega) (rl_ne (by omega) (rl_ne (by omega) rfl))) dX11_use_177 ?_
    refine jj_lload_n C dX11_use_178 rfl ?_
    refine jj_lsub C dX11_use_179 rfl ?_
    refine rl_last C hok_78 (t := (1, (-9223372036854775808), 9223372036854775807)) hkw (by decide) rfl (k := 19 + 5 * n_7) (vp_in_nI (by omega) (by decide)) (tt_ja _) (nI_clamp (by omega)) dX11_use_180 (fun pl_79 hok_80 tr tl tw => ?_)
    replace hf_66 := tr _ _ _ hf_66
    replace hf_72 := tr _ _ _ hf_72
    replace hm := hm.arr tr
    replace hfr := hfr.arr tr
    replace hC := tw _ hC
    replace hfa := hfa.wr hkw tl (by decide)
    refine jj_aload_n C dX11_use_181 rfl ?_
    refine tt_getF C hok_80 jk_12 0 (by decide) jw_34eaf3ba8b (t := (2, 2, 0)) hk0 (by decide) rfl rfl hm.1 dX11_use_182 ?_
    refine jj_iload_n C dX11_use_185 rfl ?_
    refine jj_iconst (v := 2) C dX11_use_186 (by decide) ?_
    refine jj_iadd (v := nI (48 + 6 * j)) C dX11_use_187 (rl_addR (kn := 2) (by decide) (by omega)) ?_
    refine jj_dup2 C dX11_use_188 rfl rfl ?_
    refine rl_lald C hok_80 (t := (1, (-9223372036854775808), 9223372036854775807)) hkw (by decide) rfl (k := 48 + 6 * j) (v := (f (48 + 6 * j))) (vp_in_nI (by omega) (by decide)) hC (nI_clamp (by omega)) (rl_ne (by omega) (rl_ne (by omega) (rl_ne (by omega) (rl_ne (by omega) rfl)))) dX11_use_189 ?_
    refine jj_lload_n C dX11_use_190 rfl ?_
    refine jj_lsub C dX11_use_191 rfl ?_
    refine rl_last C hok_80 (t := (1, (-9223372036854775808), 9223372036854775807)) hkw (by decide) rfl (k := 48 + 6 * j) (vp_in_nI (by omega) (by decide)) (tt_ja _) (nI_clamp (by omega)) dX11_use_192 (fun pl_81 hok_82 tr tl tw => ?_)
    replace hf_66 := tr _ _ _ hf_66
    replace hf_72 := tr _ _ _ hf_72
    replace hm := hm.arr tr
    replace hfr := hfr.arr tr
    replace hC := tw _ hC
    replace hfa := hfa.wr hkw tl (by decide)
    refine jj_aload_n C dX11_use_193 rfl ?_
    refine tt_getF C hok_82 jk_12 0 (by decide) jw_34eaf3ba8b (t := (2, 2, 0)) hk0 (by decide) rfl rfl hm.1 dX11_use_194 ?_
    refine jj_iload_n C dX11_use_197 rfl ?_
    refine jj_iconst (v := 4) C dX11_use_198 (by decide) ?_
    refine jj_iadd (v := nI (50 + 6 * j)) C dX11_use_199 (rl_addR (kn := 4) (by decide) (by omega)) ?_
    refine jj_dup2 C dX11_use_200 rfl rfl ?_
    refine rl_lald C hok_82 (t := (1, (-9223372036854775808), 9223372036854775807)) hkw (by decide) rfl (k := 50 + 6 * j) (v := (f (50 + 6 * j))) (vp_in_nI (by omega) (by decide)) hC (nI_clamp (by omega)) (rl_ne (by omega) (rl_ne (by omega) (rl_ne (by omega) (rl_ne (by omega) (rl_ne (by omega) rfl))))) dX11_use_201 ?_
    refine jj_lload C dX11_use_202 rfl ?_
    refine jj_lsub C dX11_use_204 rfl ?_
    refine rl_last C hok_82 (t := (1, (-9223372036854775808), 9223372036854775807)) hkw (by decide) rfl (k := 50 + 6 * j) (vp_in_nI (by omega) (by decide)) (tt_ja _) (nI_clamp (by omega)) dX11_use_205 (fun pl_83 hok_84 tr tl tw => ?_)
    replace hf_66 := tr _ _ _ hf_66
    replace hf_72 := tr _ _ _ hf_72
    replace hm := hm.arr tr
    replace hfr := hfr.arr tr
    replace hC := tw _ hC
    replace hfa := hfa.wr hkw tl (by decide)
    exact jj_vret C ⟨[], pl_83, rfl, rfl, hok_84, hfr, hfa, (by have q9 := rl_use (g := (vp_updL (vp_updL (vp_updL (vp_updL (vp_updL (vp_updL f 13 ((f 13) + (((((f (18 + 5 * n_7) - rg_acc f n_7) * p2) / (f (19 + 5 * n_7))) + (((rg_acc f n_7) * p2) / (f (19 + 5 * n_7)))) - y_60))) 10 ((f 10) + (((((rg_acc f n_7) * p2) / (f (19 + 5 * n_7))) - (((rg_acc f n_7) * p2) / (f (19 + 5 * n_7)))) + y_60))) (18 + 5 * n_7) ((f (18 + 5 * n_7)) - ((((f (18 + 5 * n_7) - rg_acc f n_7) * p2) / (f (19 + 5 * n_7))) + (((rg_acc f n_7) * p2) / (f (19 + 5 * n_7)))))) (19 + 5 * n_7) ((f (19 + 5 * n_7)) - p2)) (48 + 6 * j) ((f (48 + 6 * j)) - p2)) (50 + 6 * j) ((f (50 + 6 * j)) - (((f (50 + 6 * j)) * p2) / (f (48 + 6 * j)))))) hI hB hn_7 hj qn_7.symm hx1 hx2 (fun i a1 a2 a3 a4 a5 => (rl_ne a5 (rl_ne a4 (rl_ne a3 (rl_ne a2 (rl_ne (by omega) (rl_ne (by omega) rfl))))))) (rl_ne (by omega) (rl_ne (by omega) (rl_ne (by omega) (rl_eq (by omega))))) (rl_ne (by omega) (rl_ne (by omega) (rl_eq (by omega)))) (rl_ne (by omega) (rl_eq (by omega))) (rl_eq (by omega)); exact ⟨_, hC, q9.1, q9.2, (fun i a1 a2 a4 a5 => (rl_ne a5 (rl_ne a4 (rl_ne (by omega) (rl_ne (by omega) (rl_ne (by omega) (rl_ne (by omega) rfl))))))), (rl_ne (by omega) (rl_eq (by omega))), rfl⟩)⟩ dX11_use_206 (jj_le rfl) (jj_le rfl)
