theorem jw_fa9e5a17f3 : Cond.code yX11_netAssets cX11_netAssets 1 (some .long) ∈ jj_G := jj_t8 (List.mem_of_getElem? (i := 153) (by decide +kernel)) rfl
theorem jw_9b6bfecdbd : Cond.code yX11_gateLimit cX11_gateLimit 1 (some .long) ∈ jj_G := jj_t8 (List.mem_of_getElem? (i := 214) (by decide +kernel)) rfl
theorem jw_5a25ee769b : Cond.code yX11_requestedValue cX11_requestedValue 1 (some .long) ∈ jj_G := jj_t8 (List.mem_of_getElem? (i := 210) (by decide +kernel)) rfl
theorem jw_9fa4c801a5 : Cond.methodLink RX11 434 yX11_worthOf ∈ jj_G := jj_t8 (List.mem_of_getElem? (i := 195) (by decide +kernel)) rfl
theorem jw_c71c7fca8c : Cond.instanceMethod yX11_worthOf ∈ jj_G := jj_t8 (List.mem_of_getElem? (i := 197) (by decide +kernel)) rfl
theorem jw_dc921e0fbd : Cond.selects RX11 yX11_worthOf yX11_worthOf ∈ jj_G := jj_pv (q := (yX11_worthOf, 25)) (by decide +kernel)
theorem jn_X11_worthOf : jj_N yX11_worthOf 1 := by unfold jj_N; decide +kernel
theorem jw_037a127c4d : Cond.code yX11_valueOf cX11_valueOf 2 (some .long) ∈ jj_G := jj_t8 (List.mem_of_getElem? (i := 194) (by decide +kernel)) rfl
theorem jw_fe6d989a04 : Cond.code yX11_richest cX11_richest 9 (some .int) ∈ jj_G := jj_t8 (List.mem_of_getElem? (i := 202) (by decide +kernel)) rfl
theorem jw_a47774e71a : Cond.code yX11_share cX11_share 5 (some .double) ∈ jj_G := jj_t8 (List.mem_of_getElem? (i := 206) (by decide +kernel)) rfl
theorem jw_bca200ef97 : Cond.fieldLink RX11 16 "SeriesFundModel" "thought" "[J" ∈ jj_G := jj_t6 (List.mem_of_getElem? (i := 156) (by decide +kernel)) rfl
theorem jw_4c909afefb : Cond.code yX11_wouldRedeem cX11_wouldRedeem 2 (some .long) ∈ jj_G := jj_t8 (List.mem_of_getElem? (i := 218) (by decide +kernel)) rfl
theorem jw_69dfefb26d : Cond.code yX11_dealBy cX11_dealBy 6 (some .int) ∈ jj_G := jj_t8 (List.mem_of_getElem? (i := 226) (by decide +kernel)) rfl
theorem jw_f4bdb14a0d : Cond.methodLink RX11 437 yX11_dealBy ∈ jj_G := jj_t8 (List.mem_of_getElem? (i := 223) (by decide +kernel)) rfl
theorem jw_7f2ee23b91 : Cond.instanceMethod yX11_dealBy ∈ jj_G := jj_t8 (List.mem_of_getElem? (i := 225) (by decide +kernel)) rfl
theorem jw_7f49857b5e : Cond.selects RX11 yX11_dealBy yX11_dealBy ∈ jj_G := jj_pv (q := (yX11_dealBy, 25)) (by decide +kernel)
theorem jn_X11_dealBy : jj_N yX11_dealBy 1 := by unfold jj_N; decide +kernel
theorem jw_30e5bbf5a4 : Cond.code yX11_dealsUntilDone cX11_dealsUntilDone 4 (some .int) ∈ jj_G := jj_t8 (List.mem_of_getElem? (i := 222) (by decide +kernel)) rfl
theorem jw_6eb59ab4f4 : Cond.methodLink RX11 440 yX11_accruedAll ∈ jj_G := jj_t8 (List.mem_of_getElem? (i := 231) (by decide +kernel)) rfl
theorem jw_8caa2b6f9a : Cond.code yX11_accruedAll cX11_accruedAll 4 (some .long) ∈ jj_G := jj_t8 (List.mem_of_getElem? (i := 234) (by decide +kernel)) rfl
theorem jw_6e5febcdb2 : Cond.instanceMethod yX11_accruedAll ∈ jj_G := jj_t8 (List.mem_of_getElem? (i := 233) (by decide +kernel)) rfl
theorem jw_0dcf716a66 : Cond.selects RX11 yX11_accruedAll yX11_accruedAll ∈ jj_G := jj_pv (q := (yX11_accruedAll, 25)) (by decide +kernel)
theorem jn_X11_accruedAll : jj_N yX11_accruedAll 0 := by unfold jj_N; decide +kernel
theorem jw_c07f5da8d0 : Cond.code yX11_feesIf cX11_feesIf 6 (some .long) ∈ jj_G := jj_t8 (List.mem_of_getElem? (i := 230) (by decide +kernel)) rfl
theorem jw_1f748e3716 : Cond.code yX11_breakEven cX11_breakEven 6 (some .int) ∈ jj_G := jj_t8 (List.mem_of_getElem? (i := 238) (by decide +kernel)) rfl
theorem jw_6daa31c804 : Cond.code yX11_daysUntil cX11_daysUntil 6 (some .int) ∈ jj_G := jj_t9 (List.mem_of_getElem? (i := 14) (by decide +kernel)) rfl
theorem jw_a12432dd52 : Cond.code yX11_wouldCrystallize cX11_wouldCrystallize 3 (some .long) ∈ jj_G := jj_t9 (List.mem_of_getElem? (i := 18) (by decide +kernel)) rfl
theorem jw_9860a95e59 : Cond.code yX11_wouldMerge cX11_wouldMerge 4 (some .int) ∈ jj_G := jj_t9 (List.mem_of_getElem? (i := 22) (by decide +kernel)) rfl
theorem jw_a9ad4e3931 : Cond.code yX11_bestGate cX11_bestGate 3 (some .int) ∈ jj_G := jj_t9 (List.mem_of_getElem? (i := 26) (by decide +kernel)) rfl
theorem jw_38335a65cd : Cond.constantLong RX11 426 (7) ∈ jj_G := jj_t8 (List.mem_of_getElem? (i := 166) (by decide +kernel)) rfl
theorem jw_5888c07221 : Cond.methodLink RX11 428 yX11_lotsIn ∈ jj_G := jj_t8 (List.mem_of_getElem? (i := 167) (by decide +kernel)) rfl
theorem jw_5e13fa7447 : Cond.instanceMethod yX11_lotsIn ∈ jj_G := jj_t8 (List.mem_of_getElem? (i := 169) (by decide +kernel)) rfl
theorem jw_85e2da3b35 : Cond.selects RX11 yX11_lotsIn yX11_lotsIn ∈ jj_G := jj_pv (q := (yX11_lotsIn, 25)) (by decide +kernel)
theorem jn_X11_lotsIn : jj_N yX11_lotsIn 1 := by unfold jj_N; decide +kernel
theorem jw_7101a3ef5e : Cond.code yX11_seriesValue cX11_seriesValue 4 (some .long) ∈ jj_G := jj_t8 (List.mem_of_getElem? (i := 165) (by decide +kernel)) rfl
set_option maxHeartbeats 4000000 in
set_option maxRecDepth 100000 in
theorem ct_X11_in_s9 {l : Launch} (hl : l.stackTraces = false) (D : va_G) (cA : Nat → ClassId) (ak : (Nat → Nat) × (Nat → Nat)) (b0 : Int64) : jj_M l D cA ak yX11_in (.code yX11_in cX11_in 6 (some .boolean)) 0 0 0 0 [] [.long b0, .long 0, .long 7] (fun (w : va_W) (r : Option Value) => (b0 < 0 ∧ w = [] ∧ r = some (.int 0)) ∨ (¬ b0 < 0 ∧ 7 < b0 ∧ w = [] ∧ r = some (.int 0)) ∨ (¬ b0 < 0 ∧ ¬ 7 < b0 ∧ w = [] ∧ r = some (.int 1))) jj_noX := by
  refine jj_start hl (by decide) jw_e07c9ada56 (jj_le rfl) ?_
  intro p e s m args below meth c A hargs hA C hex hmn
  refine jj_lload_n C dX11_in_0 rfl ?_
  refine jj_lload_n C dX11_in_1 rfl ?_
  refine jj_lcmp_lt (tgt := 17) C dX11_in_2 dX11_in_3 (by decide) (fun c_1 => ?_) (fun c_1 => ?_)
  · refine jj_iconst (v := 0) C dX11_in_17 (by decide) ?_
    exact jj_zret C rfl (Or.inl ⟨c_1, rfl, rfl⟩) dX11_in_18 (jj_le rfl) (jj_le rfl)
  · refine jj_lload_n C dX11_in_6 rfl ?_
    refine jj_lload C dX11_in_7 rfl ?_
    refine jj_lcmp_gt (tgt := 17) C dX11_in_9 dX11_in_10 (by decide) (fun c_2 => ?_) (fun c_2 => ?_)
    · refine jj_iconst (v := 0) C dX11_in_17 (by decide) ?_
      exact jj_zret C rfl (Or.inr (Or.inl ⟨c_1, c_2, rfl, rfl⟩)) dX11_in_18 (jj_le rfl) (jj_le rfl)
    · refine jj_iconst (v := 1) C dX11_in_13 (by decide) ?_
      refine jj_goto (tgt := 18) C dX11_in_14 (by decide) ?_
      exact jj_zret C rfl (Or.inr (Or.inr ⟨c_1, c_2, rfl, rfl⟩)) dX11_in_18 (jj_le rfl) (jj_le rfl)

set_option maxHeartbeats 4000000 in
set_option maxRecDepth 100000 in
theorem rc_X11_accruedAll_9a6f36 {l : Launch} (hl : l.stackTraces = false) (D : va_G) (cA : Nat → ClassId) (ak : (Nat → Nat) × (Nat → Nat)) {Kd : Nat → Nat} {h0 aw aa at0 ai af ap : Nat} (f : Nat → Int64) (hk0 : Kd h0 = 1) (hkw : Kd aw = 2) (hka : Kd aa = 3) (hkt : Kd at0 = 4) (hki : Kd ai = 5) (hkf : Kd af = 6) (hkp : Kd ap = 7) (hH : rl_h f) {pl0 : va_W} (hok : tt_ok rt_tk cA Kd pl0) (hm : rl_m pl0 h0 aw aa at0 ai af ap) (hC : tt_lc pl0 aw f) : jj_M l D cA ak yX11_accruedAll (.code yX11_accruedAll cX11_accruedAll 4 (some .long)) 2 46 0 0 ([] ++ pl0) [.ref h0] (tt_O (fun rx pl1 r => rx = [] ∧ tt_ok rt_tk cA Kd pl1 ∧ tt_fr Kd [] pl0 pl1 ∧ tt_fa Kd [] pl0 pl1 ∧ ((∃ v : Int64, r = some (.long v))))) (tt_OX (fun _ _ _ => False)) := by
  refine jj_start hl (by decide) jw_8caa2b6f9a (jj_le rfl) ?_
  intro p e s m args below meth c A hargs hA C hex hmn
  have hfr := tt_fr.refl (K := Kd) (WS := []) pl0
  have hfa := tt_fa.refl (K := Kd) (WA := []) pl0
  obtain ⟨⟨g0a, g0b⟩, ⟨g1a, g1b⟩, ⟨g6a, g6b⟩, ⟨g7a, g7b⟩, ⟨g8a, g8b⟩⟩ := hH
  refine jj_lconst (v := 0) C dX11_accruedAll_0 (by decide) ?_
  refine jj_lstore_n C dX11_accruedAll_1 (by decide) rfl ?_
  refine jj_iconst (v := 0) C dX11_accruedAll_2 (by decide) ?_
  refine jj_istore_n C dX11_accruedAll_3 (by decide) rfl ?_
  have hL_1 : ∀ (N : Nat) (pl : va_W) (k_2 : Nat) (y_3 : Int64), True → tt_ok rt_tk cA Kd pl → tt_fr Kd [] pl0 pl → tt_fa Kd [] pl0 pl → rl_m pl h0 aw aa at0 ai af ap → tt_lc pl aw f → (0 : Int) ≤ (k_2 : Int) → (k_2 : Int) ≤ 6 → (2147483648 - (k_2 : Int) ≤ (N : Int)) → jj_J p l e (jj_rm 2 46 0 0) s m args below meth c 4 A (vx_MQ below (jj_q D A (tt_O (fun rx pl1 r => rx = [] ∧ tt_ok rt_tk cA Kd pl1 ∧ tt_fr Kd [] pl0 pl1 ∧ tt_fa Kd [] pl0 pl1 ∧ ((∃ v : Int64, r = some (.long v)))))) (jj_x D A (tt_OX (fun _ _ _ => False))) args s 0 0 A) (jj_X D A ([] ++ pl)) 0 0 4 [(3, .int (nI k_2)), (1, .long y_3), (0, .ref h0)] [] := by
    intro NL_1
    induction NL_1 with
    | zero => intro pl k_2 y_3 _ hok hfr hfa hm hC lk_2 uk_2 hNL_1; exfalso; omega
    | succ NL_1 ihL_1 =>
      intro pl k_2 y_3 _ hok hfr hfa hm hC lk_2 uk_2 hNL_1
      replace ihL_1 := fun pl k_2 y_3 h1 => ihL_1 pl k_2 y_3 trivial h1
      refine jj_iload_n C dX11_accruedAll_4 rfl ?_
      refine jj_i2l C dX11_accruedAll_5 rfl ?_
      refine jj_aload_n C dX11_accruedAll_6 rfl ?_
      refine tt_getF C hok jk_12 0 (by decide) jw_34eaf3ba8b (t := (2, 2, 0)) hk0 (by decide) rfl rfl hm.1 dX11_accruedAll_7 ?_
      refine jj_bipush (v := 6) C dX11_accruedAll_10 (by decide) ?_
      refine rl_lald C hok (t := (1, (-9223372036854775808), 9223372036854775807)) hkw (by decide) rfl (k := 6) (v := (f 6)) (vp_in_iff.mpr (by decide)) hC (by decide) rfl dX11_accruedAll_12 ?_
      refine jj_lcmp_ge (tgt := 34) C dX11_accruedAll_13 dX11_accruedAll_14 (by decide) (fun c_4 => ?_) (fun c_4 => ?_)
      · have z_c_4 := jc_leL (a := (f 6).toInt) (b := ((k_2 : Nat) : Int)) c_4 rfl (rl_tl (by omega))
        refine jj_lload_n C dX11_accruedAll_34 rfl ?_
        exact jj_lret C ⟨[], pl, rfl, rfl, hok, hfr, hfa, ⟨y_3, rfl⟩⟩ dX11_accruedAll_35 (jj_le rfl) (jj_le rfl)
      · have z_c_4 := jc_nleL (a := (f 6).toInt) (b := ((k_2 : Nat) : Int)) c_4 rfl (rl_tl (by omega))
        refine jj_lload_n C dX11_accruedAll_17 rfl ?_
        refine jj_aload_n C dX11_accruedAll_18 rfl ?_
        refine jj_iload_n C dX11_accruedAll_19 rfl ?_
        refine tt_call0S (rest := [.ref h0, .long y_3]) C (rn_seriesAt hl D cA ak k_2 (16 + 5 * k_2) (by omega)) jw_6251557f40 jw_b2cd40a13f jw_f96c99f44d jw_6245231363 jn_X11_seriesAt rfl (jj_le rfl) (jj_le rfl) (jj_le rfl) (jj_le rfl) (jj_le rfl) dX11_accruedAll_20 rfl (fun w1 r hO => ?_)
        obtain ⟨-, rfl⟩ := hO
        obtain ⟨qc, gs, hqc⟩ := tt_recv (cx := []) hok hk0 (by decide) rfl
        refine tt_callV (rest := [.long y_3]) C (rs_accrued hl D cA ak k_2 f hk0 hkw hka hkt hki hkf hkp (by omega) hok hm hC) [] [] rfl rfl (by decide) (by decide) (by decide) qc hqc rfl rfl jw_2b94ab0b2c jw_fa756eb8b8 jw_81537d461f jw_f96c99f44d jw_3e876c9b97 jn_X11_accrued rfl (jj_le rfl) (jj_le rfl) (jj_le rfl) (jj_le rfl) (jj_le rfl) dX11_accruedAll_23 rfl (fun _ _ _ hX => hX.elim) (fun rx pl_5 r O_9 => ?_)
        obtain ⟨rfl, hok_6, hr_7, ha_8, hR_10⟩ := O_9
        replace hC := ha_8.at hkw (by decide) (by decide) hC
        replace hm := hm.fr hr_7 hk0 rfl
        replace hfr := hfr.trans (hr_7.sub (by decide))
        replace hfa := hfa.trans (ha_8.sub (by decide))
        obtain rfl := hR_10
        obtain ⟨y_11, ey_11⟩ : ∃ z : Int64, y_3 + (rg_acc f k_2) = z := ⟨_, rfl⟩
        refine jj_ladd (v := y_11) C dX11_accruedAll_26 ey_11 ?_
        refine jj_lstore_n C dX11_accruedAll_27 (by decide) rfl ?_
        refine jj_iinc (v := nI (1 + k_2)) C dX11_accruedAll_28 rfl (rl_addR (kn := 1) (by decide) (by omega)) (by decide) rfl ?_
        refine jj_goto (tgt := 4) C dX11_accruedAll_31 (by decide) ?_
        exact ihL_1 pl_5 (1 + k_2) y_11 hok_6 hfr hfa hm hC (by first | omega | decide | exact tt_lo _ | exact tt_hi _) (by first | omega | decide | exact tt_lo _ | exact tt_hi _) (by first | omega | decide | exact tt_lo _ | exact tt_hi _)
  exact hL_1 _ pl0 0 (0 : Int64) trivial hok hfr hfa hm hC (by first | omega | decide | exact tt_lo _ | exact tt_hi _) (by first | omega | decide | exact tt_lo _ | exact tt_hi _) (Int.self_le_toNat _)

set_option maxHeartbeats 4000000 in
set_option maxRecDepth 100000 in
theorem rc_X11_no_9c0c2f {l : Launch} (hl : l.stackTraces = false) (D : va_G) (cA : Nat → ClassId) (ak : (Nat → Nat) × (Nat → Nat)) {Kd : Nat → Nat} {h0 aw aa at0 ai af ap : Nat} (hk0 : Kd h0 = 1) (hkw : Kd aw = 2) (hka : Kd aa = 3) (hkt : Kd at0 = 4) (hki : Kd ai = 5) (hkf : Kd af = 6) (hkp : Kd ap = 7) {pl0 : va_W} (hok : tt_ok rt_tk cA Kd pl0) (hm : rl_m pl0 h0 aw aa at0 ai af ap) : jj_M l D cA ak yX11_no (.code yX11_no cX11_no 2 (some .int)) 0 0 0 0 ([] ++ pl0) [.ref h0, .int 2] (tt_O (fun rx pl1 r => rx = [] ∧ tt_ok rt_tk cA Kd pl1 ∧ tt_fr Kd [(1, 7)] pl0 pl1 ∧ tt_fa Kd [] pl0 pl1 ∧ ((r = some (.int 0))))) (tt_OX (fun _ _ _ => False)) := by
  refine jj_start hl (by decide) jw_db0108e47b (jj_le rfl) ?_
  intro p e s m args below meth c A hargs hA C hex hmn
  have hfr := tt_fr.refl (K := Kd) (WS := [(1, 7)]) pl0
  have hfa := tt_fa.refl (K := Kd) (WA := []) pl0
  refine jj_aload_n C dX11_no_0 rfl ?_
  refine jj_iload_n C dX11_no_1 rfl ?_
  refine rl_put C hok jk_12 7 (by decide) jw_0a65e3738e (t := (0, (-2147483648), 2147483647)) hk0 (by decide) rfl rfl rfl (tt_ia (2 : Int32)) rfl rfl dX11_no_2 (fun pl_1 hok_2 tr hn tl => ?_)
  have hf_3 := hn
  replace hm := hm.put tr (by decide)
  replace hfr := hfr.put hk0 tr (by decide)
  replace hfa := hfa.all tl
  refine jj_iconst (v := 0) C dX11_no_5 (by decide) ?_
  exact jj_iret C ⟨[], pl_1, rfl, rfl, hok_2, hfr, hfa, rfl⟩ dX11_no_6 (jj_le rfl) (jj_le rfl)

set_option maxHeartbeats 4000000 in
set_option maxRecDepth 100000 in
theorem rs_netAssets {l : Launch} (hl : l.stackTraces = false) (D : va_G) (cA : Nat → ClassId) (ak : (Nat → Nat) × (Nat → Nat)) {Kd : Nat → Nat} {h0 aw aa at0 ai af ap : Nat} (n6 : Nat) (B C9 : Int) (f P : Nat → Int64) (hk0 : Kd h0 = 1) (hkw : Kd aw = 2) (hka : Kd aa = 3) (hkt : Kd at0 = 4) (hki : Kd ai = 5) (hkf : Kd af = 6) (hkp : Kd ap = 7) (ln6 : (0 : Int) ≤ (n6 : Int)) (un6 : (n6 : Int) ≤ 10) (hK : rl_K B C9 f) (hHP : rl_HP B C9 P n6) (hB5 : B ≤ 43520000000) (hB0 : 12760000000 ≤ B) (hC9 : 0 ≤ C9 ∧ C9 ≤ 4000000000000000000) {pl0 : va_W} (hok : tt_ok rt_tk cA Kd pl0) (hm : rl_m pl0 h0 aw aa at0 ai af ap) (hC : tt_lc pl0 aw f) (hCp : tt_lc pl0 ap P) (hs6 : tt_at pl0 h0 6 (.int (nI n6))) : jj_M l D cA ak yX11_netAssets (.code yX11_netAssets cX11_netAssets 1 (some .long)) 4 90 0 0 ([] ++ pl0) [.ref h0] (tt_O (fun rx pl1 r => rx = [] ∧ tt_ok rt_tk cA Kd pl1 ∧ tt_fr Kd [(1, 7)] pl0 pl1 ∧ tt_fa Kd [] pl0 pl1 ∧ ((rl_M (B + 30000000) (C9 + 2000) pl1 h0 aw ap ∧ ∃ v : Int64, r = some (.long v))))) (tt_OX (fun _ _ _ => False)) := by
  refine jj_start hl (by decide) jw_fa9e5a17f3 (jj_le rfl) ?_
  intro p e s m args below meth c A hargs hA C hex hmn
  have hfr := tt_fr.refl (K := Kd) (WS := [(1, 7)]) pl0
  have hfa := tt_fa.refl (K := Kd) (WA := []) pl0
  have hI := hK.1
  have hP := hK.2.1
  have hH := hI.1.1
  obtain ⟨⟨g0a, g0b⟩, ⟨g1a, g1b⟩, ⟨g6a, g6b⟩, ⟨g7a, g7b⟩, ⟨g8a, g8b⟩⟩ := hH
  have hB : B ≤ 43920000000 := by omega
  have hB6 : B + 360000000 ≤ 43920000000 := by omega
  have h9a := hK.2.2.1
  have h9b := hK.2.2.2
  have h9 : 0 ≤ (f 9).toInt ∧ (f 9).toInt < 4611686018427387000 := ⟨h9a, by omega⟩
  refine jj_aload_n C dX11_netAssets_0 rfl ?_
  refine jj_iconst (v := 0) C dX11_netAssets_1 (by decide) ?_
  refine rl_put C hok jk_12 7 (by decide) jw_0a65e3738e (t := (0, (-2147483648), 2147483647)) hk0 (by decide) rfl rfl rfl (tt_ia (0 : Int32)) rfl rfl dX11_netAssets_2 (fun pl_1 hok_2 tr hn tl => ?_)
  replace hs6 := tr _ _ _ (Or.inr (by decide)) hs6
  have hf_3 := hn
  replace hm := hm.put tr (by decide)
  replace hfr := hfr.put hk0 tr (by decide)
  replace hC := tl _ _ hC
  replace hCp := tl _ _ hCp
  replace hfa := hfa.all tl
  refine jj_aload_n C dX11_netAssets_5 rfl ?_
  obtain ⟨qc, gs, hqc⟩ := tt_recv (cx := []) hok_2 hk0 (by decide) rfl
  refine tt_callV (rest := []) C (rs_netAll hl D cA ak B f hk0 hkw hka hkt hki hkf hkp hI hB hok_2 hm hC) [] [] rfl rfl (by decide) (by decide) (by decide) qc hqc rfl rfl jw_2839123437 jw_0539aa951d jw_9a758300b1 jw_f96c99f44d jw_8369135f54 jn_X11_netAll rfl (jj_le rfl) (jj_le rfl) (jj_le rfl) (jj_le rfl) (jj_le rfl) dX11_netAssets_6 rfl (fun _ _ _ hX => hX.elim) (fun rx pl_4 r O_8 => ?_)
  obtain ⟨rfl, hok_5, hr_6, ha_7, hR_9⟩ := O_8
  replace hs6 := hr_6.at hk0 (by decide) (by decide) hs6
  replace hf_3 := hr_6.at hk0 (by decide) (by decide) hf_3
  replace hC := ha_7.at hkw (by decide) (by decide) hC
  replace hCp := ha_7.at hkp (by decide) (by decide) hCp
  replace hm := hm.fr hr_6 hk0 rfl
  replace hfr := hfr.trans (hr_6.sub (by decide))
  replace hfa := hfa.trans (ha_7.sub (by decide))
  obtain ⟨y_10, ly_10, uy_10, rfl⟩ := hR_9
  exact jj_lret C ⟨[], pl_4, rfl, rfl, hok_5, hfr, hfa, ⟨⟨_, _, n6, hC, hCp, hs6, (by omega), (hK.mono (by omega) (by omega)), hHP.mono (by omega) (by omega)⟩, y_10, rfl⟩⟩ dX11_netAssets_9 (jj_le rfl) (jj_le rfl)

set_option maxHeartbeats 4000000 in
set_option maxRecDepth 100000 in
theorem rs_gateLimit {l : Launch} (hl : l.stackTraces = false) (D : va_G) (cA : Nat → ClassId) (ak : (Nat → Nat) × (Nat → Nat)) {Kd : Nat → Nat} {h0 aw aa at0 ai af ap : Nat} (n6 : Nat) (B C9 : Int) (f P : Nat → Int64) (hk0 : Kd h0 = 1) (hkw : Kd aw = 2) (hka : Kd aa = 3) (hkt : Kd at0 = 4) (hki : Kd ai = 5) (hkf : Kd af = 6) (hkp : Kd ap = 7) (ln6 : (0 : Int) ≤ (n6 : Int)) (un6 : (n6 : Int) ≤ 10) (hK : rl_K B C9 f) (hHP : rl_HP B C9 P n6) (hB5 : B ≤ 43520000000) (hB0 : 12760000000 ≤ B) (hC9 : 0 ≤ C9 ∧ C9 ≤ 4000000000000000000) {pl0 : va_W} (hok : tt_ok rt_tk cA Kd pl0) (hm : rl_m pl0 h0 aw aa at0 ai af ap) (hC : tt_lc pl0 aw f) (hCp : tt_lc pl0 ap P) (hs6 : tt_at pl0 h0 6 (.int (nI n6))) : jj_M l D cA ak yX11_gateLimit (.code yX11_gateLimit cX11_gateLimit 1 (some .long)) 5 110 0 0 ([] ++ pl0) [.ref h0] (tt_O (fun rx pl1 r => rx = [] ∧ tt_ok rt_tk cA Kd pl1 ∧ tt_fr Kd [(1, 7)] pl0 pl1 ∧ tt_fa Kd [] pl0 pl1 ∧ ((rl_M (B + 30000000) (C9 + 2000) pl1 h0 aw ap ∧ ∃ v : Int64, r = some (.long v))))) (tt_OX (fun _ _ _ => False)) := by
  refine jj_start hl (by decide) jw_9b6bfecdbd (jj_le rfl) ?_
  intro p e s m args below meth c A hargs hA C hex hmn
  have hfr := tt_fr.refl (K := Kd) (WS := [(1, 7)]) pl0
  have hfa := tt_fa.refl (K := Kd) (WA := []) pl0
  have hI := hK.1
  have hP := hK.2.1
  have hH := hI.1.1
  obtain ⟨⟨g0a, g0b⟩, ⟨g1a, g1b⟩, ⟨g6a, g6b⟩, ⟨g7a, g7b⟩, ⟨g8a, g8b⟩⟩ := hH
  have hB : B ≤ 43920000000 := by omega
  have hB6 : B + 360000000 ≤ 43920000000 := by omega
  have h9a := hK.2.2.1
  have h9b := hK.2.2.2
  have h9 : 0 ≤ (f 9).toInt ∧ (f 9).toInt < 4611686018427387000 := ⟨h9a, by omega⟩
  refine jj_aload_n C dX11_gateLimit_0 rfl ?_
  refine jj_iconst (v := 0) C dX11_gateLimit_1 (by decide) ?_
  refine rl_put C hok jk_12 7 (by decide) jw_0a65e3738e (t := (0, (-2147483648), 2147483647)) hk0 (by decide) rfl rfl rfl (tt_ia (0 : Int32)) rfl rfl dX11_gateLimit_2 (fun pl_1 hok_2 tr hn tl => ?_)
  replace hs6 := tr _ _ _ (Or.inr (by decide)) hs6
  have hf_3 := hn
  replace hm := hm.put tr (by decide)
  replace hfr := hfr.put hk0 tr (by decide)
  replace hC := tl _ _ hC
  replace hCp := tl _ _ hCp
  replace hfa := hfa.all tl
  refine jj_aload_n C dX11_gateLimit_5 rfl ?_
  obtain ⟨qc, gs, hqc⟩ := tt_recv (cx := []) hok_2 hk0 (by decide) rfl
  refine tt_callV (rest := []) C (rs_limit hl D cA ak B f hk0 hkw hka hkt hki hkf hkp hI hB hok_2 hm hC) [] [] rfl rfl (by decide) (by decide) (by decide) qc hqc rfl rfl jw_e423d91bed jw_fbd39cd6b2 jw_2e025a1da9 jw_f96c99f44d jw_a61f223924 jn_X11_limit rfl (jj_le rfl) (jj_le rfl) (jj_le rfl) (jj_le rfl) (jj_le rfl) dX11_gateLimit_6 rfl (fun _ _ _ hX => hX.elim) (fun rx pl_4 r O_8 => ?_)
  obtain ⟨rfl, hok_5, hr_6, ha_7, hR_9⟩ := O_8
  replace hs6 := hr_6.at hk0 (by decide) (by decide) hs6
  replace hf_3 := hr_6.at hk0 (by decide) (by decide) hf_3
  replace hC := ha_7.at hkw (by decide) (by decide) hC
  replace hCp := ha_7.at hkp (by decide) (by decide) hCp
  replace hm := hm.fr hr_6 hk0 rfl
  replace hfr := hfr.trans (hr_6.sub (by decide))
  replace hfa := hfa.trans (ha_7.sub (by decide))
  obtain ⟨y_10, ly_10, uy_10, rfl⟩ := hR_9
  exact jj_lret C ⟨[], pl_4, rfl, rfl, hok_5, hfr, hfa, ⟨⟨_, _, n6, hC, hCp, hs6, (by omega), (hK.mono (by omega) (by omega)), hHP.mono (by omega) (by omega)⟩, y_10, rfl⟩⟩ dX11_gateLimit_9 (jj_le rfl) (jj_le rfl)

set_option maxHeartbeats 4000000 in
set_option maxRecDepth 100000 in
theorem rs_requestedValue {l : Launch} (hl : l.stackTraces = false) (D : va_G) (cA : Nat → ClassId) (ak : (Nat → Nat) × (Nat → Nat)) {Kd : Nat → Nat} {h0 aw aa at0 ai af ap : Nat} (n6 : Nat) (B C9 : Int) (f P : Nat → Int64) (hk0 : Kd h0 = 1) (hkw : Kd aw = 2) (hka : Kd aa = 3) (hkt : Kd at0 = 4) (hki : Kd ai = 5) (hkf : Kd af = 6) (hkp : Kd ap = 7) (ln6 : (0 : Int) ≤ (n6 : Int)) (un6 : (n6 : Int) ≤ 10) (hK : rl_K B C9 f) (hHP : rl_HP B C9 P n6) (hB5 : B ≤ 43520000000) (hB0 : 12760000000 ≤ B) (hC9 : 0 ≤ C9 ∧ C9 ≤ 4000000000000000000) {pl0 : va_W} (hok : tt_ok rt_tk cA Kd pl0) (hm : rl_m pl0 h0 aw aa at0 ai af ap) (hC : tt_lc pl0 aw f) (hCp : tt_lc pl0 ap P) (hs6 : tt_at pl0 h0 6 (.int (nI n6))) : jj_M l D cA ak yX11_requestedValue (.code yX11_requestedValue cX11_requestedValue 1 (some .long)) 7 176 0 0 ([] ++ pl0) [.ref h0] (tt_O (fun rx pl1 r => rx = [] ∧ tt_ok rt_tk cA Kd pl1 ∧ tt_fr Kd [(1, 7), (1, 8), (1, 9)] pl0 pl1 ∧ tt_fa Kd [2, 5] pl0 pl1 ∧ ((rl_M (B + 30000000) (C9 + 2000) pl1 h0 aw ap ∧ ∃ v : Int64, r = some (.long v))))) (tt_OX (fun _ _ _ => False)) := by
  refine jj_start hl (by decide) jw_5a25ee769b (jj_le rfl) ?_
  intro p e s m args below meth c A hargs hA C hex hmn
  have hfr := tt_fr.refl (K := Kd) (WS := [(1, 7), (1, 8), (1, 9)]) pl0
  have hfa := tt_fa.refl (K := Kd) (WA := [2, 5]) pl0
  have hI := hK.1
  have hP := hK.2.1
  have hH := hI.1.1
  obtain ⟨⟨g0a, g0b⟩, ⟨g1a, g1b⟩, ⟨g6a, g6b⟩, ⟨g7a, g7b⟩, ⟨g8a, g8b⟩⟩ := hH
  have hB : B ≤ 43920000000 := by omega
  have hB6 : B + 360000000 ≤ 43920000000 := by omega
  have h9a := hK.2.2.1
  have h9b := hK.2.2.2
  have h9 : 0 ≤ (f 9).toInt ∧ (f 9).toInt < 4611686018427387000 := ⟨h9a, by omega⟩
  refine jj_aload_n C dX11_requestedValue_0 rfl ?_
  refine jj_iconst (v := 0) C dX11_requestedValue_1 (by decide) ?_
  refine rl_put C hok jk_12 7 (by decide) jw_0a65e3738e (t := (0, (-2147483648), 2147483647)) hk0 (by decide) rfl rfl rfl (tt_ia (0 : Int32)) rfl rfl dX11_requestedValue_2 (fun pl_1 hok_2 tr hn tl => ?_)
  replace hs6 := tr _ _ _ (Or.inr (by decide)) hs6
  have hf_3 := hn
  replace hm := hm.put tr (by decide)
  replace hfr := hfr.put hk0 tr (by decide)
  replace hC := tl _ _ hC
  replace hCp := tl _ _ hCp
  replace hfa := hfa.all tl
  refine jj_aload_n C dX11_requestedValue_5 rfl ?_
  obtain ⟨qc, gs, hqc⟩ := tt_recv (cx := []) hok_2 hk0 (by decide) rfl
  refine tt_callV (rest := []) C (rs_requested hl D cA ak B f hk0 hkw hka hkt hki hkf hkp hI hP hB hok_2 hm hC) [] [] rfl rfl (by decide) (by decide) (by decide) qc hqc rfl rfl jw_e086273944 jw_c5ca42d231 jw_3f94af15e0 jw_f96c99f44d jw_a76c2ff852 jn_X11_requested rfl (jj_le rfl) (jj_le rfl) (jj_le rfl) (jj_le rfl) (jj_le rfl) dX11_requestedValue_6 rfl (fun _ _ _ hX => hX.elim) (fun rx pl_4 r O_8 => ?_)
  obtain ⟨rfl, hok_5, hr_6, ha_7, hR_9⟩ := O_8
  replace hs6 := hr_6.at hk0 (by decide) (by decide) hs6
  replace hf_3 := hr_6.at hk0 (by decide) (by decide) hf_3
  replace hCp := ha_7.at hkp (by decide) (by decide) hCp
  replace hm := hm.fr hr_6 hk0 rfl
  replace hfr := hfr.trans (hr_6.sub (by decide))
  replace hfa := hfa.trans (ha_7.sub (by decide))
  obtain ⟨g_10, hC_11, he_12, y_13, rfl⟩ := hR_9
  obtain ⟨⟨g0ag_10, g0bg_10⟩, ⟨g1ag_10, g1bg_10⟩, ⟨g6ag_10, g6bg_10⟩, ⟨g7ag_10, g7bg_10⟩, ⟨g8ag_10, g8bg_10⟩⟩ := (rl_I.cong hI he_12).1.1.1
  exact jj_lret C ⟨[], pl_4, rfl, rfl, hok_5, hfr, hfa, ⟨⟨_, _, n6, hC_11, hCp, hs6, (by omega), ((hK.cong he_12).mono (by omega) (by omega)), hHP.mono (by omega) (by omega)⟩, y_13, rfl⟩⟩ dX11_requestedValue_9 (jj_le rfl) (jj_le rfl)

set_option maxHeartbeats 4000000 in
set_option maxRecDepth 100000 in
theorem rs_valueOf {l : Launch} (hl : l.stackTraces = false) (D : va_G) (cA : Nat → ClassId) (ak : (Nat → Nat) × (Nat → Nat)) {Kd : Nat → Nat} {h0 aw aa at0 ai af ap : Nat} (n6 : Nat) (p1 : Int32) (B C9 : Int) (f P : Nat → Int64) (hk0 : Kd h0 = 1) (hkw : Kd aw = 2) (hka : Kd aa = 3) (hkt : Kd at0 = 4) (hki : Kd ai = 5) (hkf : Kd af = 6) (hkp : Kd ap = 7) (ln6 : (0 : Int) ≤ (n6 : Int)) (un6 : (n6 : Int) ≤ 10) (hK : rl_K B C9 f) (hHP : rl_HP B C9 P n6) (hB5 : B ≤ 43520000000) (hB0 : 12760000000 ≤ B) (hC9 : 0 ≤ C9 ∧ C9 ≤ 4000000000000000000) {pl0 : va_W} (hok : tt_ok rt_tk cA Kd pl0) (hm : rl_m pl0 h0 aw aa at0 ai af ap) (hC : tt_lc pl0 aw f) (hCp : tt_lc pl0 ap P) (hs6 : tt_at pl0 h0 6 (.int (nI n6))) : jj_M l D cA ak yX11_valueOf (.code yX11_valueOf cX11_valueOf 2 (some .long)) 6 153 0 0 ([] ++ pl0) [.ref h0, .int p1] (tt_O (fun rx pl1 r => rx = [] ∧ tt_ok rt_tk cA Kd pl1 ∧ tt_fr Kd [(1, 7), (1, 8), (1, 9)] pl0 pl1 ∧ tt_fa Kd [2, 5] pl0 pl1 ∧ ((rl_M (B + 30000000) (C9 + 2000) pl1 h0 aw ap ∧ ∃ v : Int64, r = some (.long v))))) (tt_OX (fun _ _ _ => False)) := by
  refine jj_start hl (by decide) jw_037a127c4d (jj_le rfl) ?_
  intro p e s m args below meth c A hargs hA C hex hmn
  have hfr := tt_fr.refl (K := Kd) (WS := [(1, 7), (1, 8), (1, 9)]) pl0
  have hfa := tt_fa.refl (K := Kd) (WA := [2, 5]) pl0
  have hI := hK.1
  have hP := hK.2.1
  have hH := hI.1.1
  obtain ⟨⟨g0a, g0b⟩, ⟨g1a, g1b⟩, ⟨g6a, g6b⟩, ⟨g7a, g7b⟩, ⟨g8a, g8b⟩⟩ := hH
  have hB : B ≤ 43920000000 := by omega
  have hB6 : B + 360000000 ≤ 43920000000 := by omega
  have h9a := hK.2.2.1
  have h9b := hK.2.2.2
  have h9 : 0 ≤ (f 9).toInt ∧ (f 9).toInt < 4611686018427387000 := ⟨h9a, by omega⟩
  have lp1 := tt_lo p1
  have up1 := tt_hi p1
  refine jj_aload_n C dX11_valueOf_0 rfl ?_
  refine jj_iload_n C dX11_valueOf_1 rfl ?_
  obtain ⟨qc, gs, hqc⟩ := tt_recv (cx := []) hok hk0 (by decide) rfl
  refine tt_callV (rest := []) C (rc_X11_isNoInvestor_d8d95c hl D cA ak p1 _ hk0 hkw hka hkt hki hkf hkp ⟨⟨g0a, g0b⟩, ⟨g1a, g1b⟩, ⟨g6a, g6b⟩, ⟨g7a, g7b⟩, ⟨g8a, g8b⟩⟩ hok hm hC) [] [] rfl rfl (by decide) (by decide) (by decide) qc hqc rfl rfl jw_daecd531da jw_4e28b3e206 jw_f3a40b16e4 jw_f96c99f44d jw_78c857bdda jn_X11_isNoInvestor rfl (jj_le rfl) (jj_le rfl) (jj_le rfl) (jj_le rfl) (jj_le rfl) dX11_valueOf_2 rfl (fun _ _ _ hX => hX.elim) (fun rx pl_1 r O_5 => ?_)
  obtain ⟨rfl, hok_2, hr_3, ha_4, hR_6⟩ := O_5
  replace hs6 := hr_3.at hk0 (by decide) (by decide) hs6
  replace hC := ha_4.at hkw (by decide) (by decide) hC
  replace hCp := ha_4.at hkp (by decide) (by decide) hCp
  replace hm := hm.fr hr_3 hk0 rfl
  replace hfr := hfr.trans (hr_3.sub (by decide))
  replace hfa := hfa.trans (ha_4.sub (by decide))
  rcases hR_6 with rfl | ⟨l_7, u_8, rfl⟩
  · refine jj_if_eqF (tgt := 12) C dX11_valueOf_5 (by decide) (by decide) ?_
    refine jj_lconst (v := 0) C dX11_valueOf_8 (by decide) ?_
    refine jj_goto (tgt := 17) C dX11_valueOf_9 (by decide) ?_
    exact jj_lret C ⟨[], pl_1, rfl, rfl, hok_2, hfr, hfa, ⟨⟨_, _, n6, hC, hCp, hs6, (by omega), (hK.mono (by omega) (by omega)), hHP.mono (by omega) (by omega)⟩, (0 : Int64), rfl⟩⟩ dX11_valueOf_17 (jj_le rfl) (jj_le rfl)
  · refine jj_if_eqT (tgt := 12) C dX11_valueOf_5 (by decide) (by decide) ?_
    refine jj_aload_n C dX11_valueOf_12 rfl ?_
    refine jj_iload_n C dX11_valueOf_13 rfl ?_
    obtain ⟨qc, gs, hqc⟩ := tt_recv (cx := []) hok_2 hk0 (by decide) rfl
    refine tt_callV (rest := []) C (rs_worthOf hl D cA ak p1 B f hk0 hkw hka hkt hki hkf hkp hI hP hB hok_2 hm hC) [] [] rfl rfl (by decide) (by decide) (by decide) qc hqc rfl rfl jw_9fa4c801a5 jw_c71c7fca8c jw_dc921e0fbd jw_f96c99f44d jw_5d049cb902 jn_X11_worthOf rfl (jj_le rfl) (jj_le rfl) (jj_le rfl) (jj_le rfl) (jj_le rfl) dX11_valueOf_14 rfl (fun _ _ _ hX => hX.elim) (fun rx pl_9 r O_13 => ?_)
    obtain ⟨rfl, hok_10, hr_11, ha_12, hR_14⟩ := O_13
    replace hs6 := hr_11.at hk0 (by decide) (by decide) hs6
    replace hCp := ha_12.at hkp (by decide) (by decide) hCp
    replace hm := hm.fr hr_11 hk0 rfl
    replace hfr := hfr.trans (hr_11.sub (by decide))
    replace hfa := hfa.trans (ha_12.sub (by decide))
    obtain ⟨g_15, hC_16, he_17, y_18, rfl⟩ := hR_14
    obtain ⟨⟨g0ag_15, g0bg_15⟩, ⟨g1ag_15, g1bg_15⟩, ⟨g6ag_15, g6bg_15⟩, ⟨g7ag_15, g7bg_15⟩, ⟨g8ag_15, g8bg_15⟩⟩ := (rl_I.cong hI he_17).1.1.1
    exact jj_lret C ⟨[], pl_9, rfl, rfl, hok_10, hfr, hfa, ⟨⟨_, _, n6, hC_16, hCp, hs6, (by omega), ((hK.cong he_17).mono (by omega) (by omega)), hHP.mono (by omega) (by omega)⟩, y_18, rfl⟩⟩ dX11_valueOf_17 (jj_le rfl) (jj_le rfl)

set_option maxHeartbeats 4000000 in
set_option maxRecDepth 100000 in
theorem rs_richest {l : Launch} (hl : l.stackTraces = false) (D : va_G) (cA : Nat → ClassId) (ak : (Nat → Nat) × (Nat → Nat)) {Kd : Nat → Nat} {h0 aw aa at0 ai af ap : Nat} (n6 : Nat) (p1 : Int32) (B C9 : Int) (f P : Nat → Int64) (hk0 : Kd h0 = 1) (hkw : Kd aw = 2) (hka : Kd aa = 3) (hkt : Kd at0 = 4) (hki : Kd ai = 5) (hkf : Kd af = 6) (hkp : Kd ap = 7) (ln6 : (0 : Int) ≤ (n6 : Int)) (un6 : (n6 : Int) ≤ 10) (hK : rl_K B C9 f) (hHP : rl_HP B C9 P n6) (hB5 : B ≤ 43520000000) (hB0 : 12760000000 ≤ B) (hC9 : 0 ≤ C9 ∧ C9 ≤ 4000000000000000000) {pl0 : va_W} (hok : tt_ok rt_tk cA Kd pl0) (hm : rl_m pl0 h0 aw aa at0 ai af ap) (hC : tt_lc pl0 aw f) (hCp : tt_lc pl0 ap P) (hs6 : tt_at pl0 h0 6 (.int (nI n6))) : jj_M l D cA ak yX11_richest (.code yX11_richest cX11_richest 9 (some .int)) 6 153 0 0 ([] ++ pl0) [.ref h0, .int p1] (tt_O (fun rx pl1 r => rx = [] ∧ tt_ok rt_tk cA Kd pl1 ∧ tt_fr Kd [(1, 7), (1, 8), (1, 9)] pl0 pl1 ∧ tt_fa Kd [2, 5] pl0 pl1 ∧ ((rl_M (B + 30000000) (C9 + 2000) pl1 h0 aw ap ∧ ∃ v : Int32, r = some (.int v))))) (tt_OX (fun _ _ _ => False)) := by
  refine jj_start hl (by decide) jw_fe6d989a04 (jj_le rfl) ?_
  intro p e s m args below meth c A hargs hA C hex hmn
  have hfr := tt_fr.refl (K := Kd) (WS := [(1, 7), (1, 8), (1, 9)]) pl0
  have hfa := tt_fa.refl (K := Kd) (WA := [2, 5]) pl0
  have hI := hK.1
  have hP := hK.2.1
  have hH := hI.1.1
  obtain ⟨⟨g0a, g0b⟩, ⟨g1a, g1b⟩, ⟨g6a, g6b⟩, ⟨g7a, g7b⟩, ⟨g8a, g8b⟩⟩ := hH
  have hB : B ≤ 43920000000 := by omega
  have hB6 : B + 360000000 ≤ 43920000000 := by omega
  have h9a := hK.2.2.1
  have h9b := hK.2.2.2
  have h9 : 0 ≤ (f 9).toInt ∧ (f 9).toInt < 4611686018427387000 := ⟨h9a, by omega⟩
  have lp1 := tt_lo p1
  have up1 := tt_hi p1
  refine jj_aload_n C dX11_richest_0 rfl ?_
  refine jj_iconst (v := 0) C dX11_richest_1 (by decide) ?_
  refine rl_put C hok jk_12 7 (by decide) jw_0a65e3738e (t := (0, (-2147483648), 2147483647)) hk0 (by decide) rfl rfl rfl (tt_ia (0 : Int32)) rfl rfl dX11_richest_2 (fun pl_1 hok_2 tr hn tl => ?_)
  replace hs6 := tr _ _ _ (Or.inr (by decide)) hs6
  have hf_3 := hn
  replace hm := hm.put tr (by decide)
  replace hfr := hfr.put hk0 tr (by decide)
  replace hC := tl _ _ hC
  replace hCp := tl _ _ hCp
  replace hfa := hfa.all tl
  refine jj_iconst (v := 0) C dX11_richest_5 (by decide) ?_
  refine jj_istore_n C dX11_richest_6 (by decide) rfl ?_
  have hL_4 : ∀ (N : Nat) (pl : va_W) (k_5 : Nat) (g_6 : Nat → Int64), True → tt_ok rt_tk cA Kd pl → tt_fr Kd [(1, 7), (1, 8), (1, 9)] pl0 pl → tt_fa Kd [2, 5] pl0 pl → rl_m pl h0 aw aa at0 ai af ap → tt_at pl h0 6 (.int (nI n6)) → tt_lc pl ap P → tt_lc pl aw g_6 → (∀ i : Nat, i < 334 → g_6 i = f i) → (0 : Int) ≤ (k_5 : Int) → (k_5 : Int) ≤ 6 → (2147483648 - (k_5 : Int) ≤ (N : Int)) → jj_J p l e (jj_rm 6 153 0 0) s m args below meth c 9 A (vx_MQ below (jj_q D A (tt_O (fun rx pl1 r => rx = [] ∧ tt_ok rt_tk cA Kd pl1 ∧ tt_fr Kd [(1, 7), (1, 8), (1, 9)] pl0 pl1 ∧ tt_fa Kd [2, 5] pl0 pl1 ∧ ((rl_M (B + 30000000) (C9 + 2000) pl1 h0 aw ap ∧ ∃ v : Int32, r = some (.int v)))))) (jj_x D A (tt_OX (fun _ _ _ => False))) args s 0 0 A) (jj_X D A ([] ++ pl)) 0 0 7 [(2, .int (nI k_5)), (0, .ref h0), (1, .int p1)] [] := by
    intro NL_4
    induction NL_4 with
    | zero => intro pl k_5 g_6 _ hok hfr hfa hm hf_7 hCp hC_8 hD_9 lk_5 uk_5 hNL_4; exfalso; omega
    | succ NL_4 ihL_4 =>
      intro pl k_5 g_6 _ hok hfr hfa hm hf_7 hCp hC_8 hD_9 lk_5 uk_5 hNL_4
      replace ihL_4 := fun pl k_5 g_6 h1 => ihL_4 pl k_5 g_6 trivial h1
      obtain ⟨⟨g0ag_6, g0bg_6⟩, ⟨g1ag_6, g1bg_6⟩, ⟨g6ag_6, g6bg_6⟩, ⟨g7ag_6, g7bg_6⟩, ⟨g8ag_6, g8bg_6⟩⟩ := ((rl_I.cong hI hD_9).1).1.1
      refine jj_iload_n C dX11_richest_7 rfl ?_
      refine jj_i2l C dX11_richest_8 rfl ?_
      refine jj_aload_n C dX11_richest_9 rfl ?_
      refine tt_getF C hok jk_12 0 (by decide) jw_34eaf3ba8b (t := (2, 2, 0)) hk0 (by decide) rfl rfl hm.1 dX11_richest_10 ?_
      refine jj_iconst (v := 0) C dX11_richest_13 (by decide) ?_
      refine rl_lald C hok (t := (1, (-9223372036854775808), 9223372036854775807)) hkw (by decide) rfl (k := 0) (v := (g_6 0)) (vp_in_iff.mpr (by decide)) hC_8 (by decide) rfl dX11_richest_14 ?_
      refine jj_lcmp_ge (tgt := 101) C dX11_richest_15 dX11_richest_16 (by decide) (fun c_10 => ?_) (fun c_10 => ?_)
      · have z_c_10 := jc_leL (a := (g_6 0).toInt) (b := ((k_5 : Nat) : Int)) c_10 rfl (rl_tl (by omega))
        refine jj_aload_n C dX11_richest_101 rfl ?_
        refine jj_iconst (v := 1) C dX11_richest_102 (by decide) ?_
        obtain ⟨qc, gs, hqc⟩ := tt_recv (cx := []) hok hk0 (by decide) rfl
        refine tt_callV (rest := []) C (rc_X11_no_e1d97a hl D cA ak hk0 hkw hka hkt hki hkf hkp hok hm) [] [] rfl rfl (by decide) (by decide) (by decide) qc hqc rfl rfl jw_d1b9c9bc08 jw_0a7e47b48e jw_ae3979bf43 jw_f96c99f44d jw_db0108e47b jn_X11_no rfl (jj_le rfl) (jj_le rfl) (jj_le rfl) (jj_le rfl) (jj_le rfl) dX11_richest_103 rfl (fun _ _ _ hX => hX.elim) (fun rx pl_11 r O_15 => ?_)
        obtain ⟨rfl, hok_12, hr_13, ha_14, hR_16⟩ := O_15
        replace hf_7 := hr_13.at hk0 (by decide) (by decide) hf_7
        replace hCp := ha_14.at hkp (by decide) (by decide) hCp
        replace hC_8 := ha_14.at hkw (by decide) (by decide) hC_8
        replace hm := hm.fr hr_13 hk0 rfl
        replace hfr := hfr.trans (hr_13.sub (by decide))
        replace hfa := hfa.trans (ha_14.sub (by decide))
        obtain rfl := hR_16
        exact jj_iret C ⟨[], pl_11, rfl, rfl, hok_12, hfr, hfa, ⟨⟨_, _, n6, hC_8, hCp, hf_7, (by omega), ((hK.cong hD_9).mono (by omega) (by omega)), hHP.mono (by omega) (by omega)⟩, (0 : Int32), rfl⟩⟩ dX11_richest_106 (jj_le rfl) (jj_le rfl)
      · have z_c_10 := jc_nleL (a := (g_6 0).toInt) (b := ((k_5 : Nat) : Int)) c_10 rfl (rl_tl (by omega))
        refine jj_iconst (v := 0) C dX11_richest_19 (by decide) ?_
        refine jj_istore_n C dX11_richest_20 (by decide) rfl ?_
        refine jj_aload_n C dX11_richest_21 rfl ?_
        refine jj_iload_n C dX11_richest_22 rfl ?_
        obtain ⟨qc, gs, hqc⟩ := tt_recv (cx := []) hok hk0 (by decide) rfl
        refine tt_callV (rest := []) C (rs_worthOf hl D cA ak (nI k_5) B g_6 hk0 hkw hka hkt hki hkf hkp (rl_I.cong hI hD_9).1 (hP.cong hI hD_9) hB hok hm hC_8) [] [] rfl rfl (by decide) (by decide) (by decide) qc hqc rfl rfl jw_9fa4c801a5 jw_c71c7fca8c jw_dc921e0fbd jw_f96c99f44d jw_5d049cb902 jn_X11_worthOf rfl (jj_le rfl) (jj_le rfl) (jj_le rfl) (jj_le rfl) (jj_le rfl) dX11_richest_23 rfl (fun _ _ _ hX => hX.elim) (fun rx pl_17 r O_21 => ?_)
        obtain ⟨rfl, hok_18, hr_19, ha_20, hR_22⟩ := O_21
        replace hf_7 := hr_19.at hk0 (by decide) (by decide) hf_7
        replace hCp := ha_20.at hkp (by decide) (by decide) hCp
        replace hm := hm.fr hr_19 hk0 rfl
        replace hfr := hfr.trans (hr_19.sub (by decide))
        replace hfa := hfa.trans (ha_20.sub (by decide))
        obtain ⟨g_23, hC_24, he_25, y_26, rfl⟩ := hR_22
        obtain ⟨⟨g0ag_23, g0bg_23⟩, ⟨g1ag_23, g1bg_23⟩, ⟨g6ag_23, g6bg_23⟩, ⟨g7ag_23, g7bg_23⟩, ⟨g8ag_23, g8bg_23⟩⟩ := (rl_I.cong (rl_I.cong hI hD_9).1 he_25).1.1.1
        refine jj_lstore C dX11_richest_26 (by decide) rfl ?_
        refine jj_iconst (v := 0) C dX11_richest_28 (by decide) ?_
        refine jj_istore C dX11_richest_29 (by decide) rfl ?_
        have hL_27 : ∀ (N : Nat) (pl : va_W) (k_28 : Nat) (x_29 : Int32) (g_30 : Nat → Int64), True → tt_ok rt_tk cA Kd pl → tt_fr Kd [(1, 7), (1, 8), (1, 9)] pl0 pl → tt_fa Kd [2, 5] pl0 pl → rl_m pl h0 aw aa at0 ai af ap → tt_at pl h0 6 (.int (nI n6)) → tt_lc pl ap P → tt_lc pl aw g_30 → (∀ i : Nat, i < 334 → g_30 i = f i) → (0 : Int) ≤ (k_28 : Int) → (k_28 : Int) ≤ 6 → (-2147483648 : Int) ≤ x_29.toInt → x_29.toInt ≤ 2147483647 → (2147483648 - (k_28 : Int) ≤ (N : Int)) → jj_J p l e (jj_rm 6 153 0 0) s m args below meth c 9 A (vx_MQ below (jj_q D A (tt_O (fun rx pl1 r => rx = [] ∧ tt_ok rt_tk cA Kd pl1 ∧ tt_fr Kd [(1, 7), (1, 8), (1, 9)] pl0 pl1 ∧ tt_fa Kd [2, 5] pl0 pl1 ∧ ((rl_M (B + 30000000) (C9 + 2000) pl1 h0 aw ap ∧ ∃ v : Int32, r = some (.int v)))))) (jj_x D A (tt_OX (fun _ _ _ => False))) args s 0 0 A) (jj_X D A ([] ++ pl)) 0 0 31 [(6, .int (nI k_28)), (4, .long y_26), (3, .int x_29), (2, .int (nI k_5)), (0, .ref h0), (1, .int p1)] [] := by
          intro NL_27
          induction NL_27 with
          | zero => intro pl k_28 x_29 g_30 _ hok hfr hfa hm hf_31 hCp hC_32 hD_33 lk_28 uk_28 lx_29 ux_29 hNL_27; exfalso; omega
          | succ NL_27 ihL_27 =>
            intro pl k_28 x_29 g_30 _ hok hfr hfa hm hf_31 hCp hC_32 hD_33 lk_28 uk_28 lx_29 ux_29 hNL_27
            replace ihL_27 := fun pl k_28 x_29 g_30 h1 => ihL_27 pl k_28 x_29 g_30 trivial h1
            obtain ⟨⟨g0ag_30, g0bg_30⟩, ⟨g1ag_30, g1bg_30⟩, ⟨g6ag_30, g6bg_30⟩, ⟨g7ag_30, g7bg_30⟩, ⟨g8ag_30, g8bg_30⟩⟩ := ((rl_I.cong hI hD_33).1).1.1
            refine jj_iload C dX11_richest_31 rfl ?_
            refine jj_i2l C dX11_richest_33 rfl ?_
            refine jj_aload_n C dX11_richest_34 rfl ?_
            refine tt_getF C hok jk_12 0 (by decide) jw_34eaf3ba8b (t := (2, 2, 0)) hk0 (by decide) rfl rfl hm.1 dX11_richest_35 ?_
            refine jj_iconst (v := 0) C dX11_richest_38 (by decide) ?_
            refine rl_lald C hok (t := (1, (-9223372036854775808), 9223372036854775807)) hkw (by decide) rfl (k := 0) (v := (g_30 0)) (vp_in_iff.mpr (by decide)) hC_32 (by decide) rfl dX11_richest_39 ?_
            refine jj_lcmp_ge (tgt := 88) C dX11_richest_40 dX11_richest_41 (by decide) (fun c_34 => ?_) (fun c_34 => ?_)
            · have z_c_34 := jc_leL (a := (g_30 0).toInt) (b := ((k_28 : Nat) : Int)) c_34 rfl (rl_tl (by omega))
              refine jj_iload_n C dX11_richest_88 rfl ?_
              refine jj_iload_n C dX11_richest_89 rfl ?_
              refine jj_icmp_ne (tgt := 95) C dX11_richest_90 (by decide) (fun c_35 => ?_) (fun c_35 => ?_)
              · have z_c_35 := jc_neq (a := x_29.toInt) (b := p1.toInt) c_35 rfl rfl
                refine jj_iinc (v := nI (1 + k_5)) C dX11_richest_95 rfl (rl_addR (kn := 1) (by decide) (by omega)) (by decide) rfl ?_
                refine jj_goto (tgt := 7) C dX11_richest_98 (by decide) ?_
                refine jj_loc [0, 4, 5] rfl ?_
                exact ihL_4 pl (1 + k_5) g_30 hok hfr hfa hm hf_31 hCp hC_32 hD_33 (by first | omega | decide | exact tt_lo _ | exact tt_hi _) (by first | omega | decide | exact tt_lo _ | exact tt_hi _) (by first | omega | decide | exact tt_lo _ | exact tt_hi _)
              · have z_c_35 := jc_eq (a := x_29.toInt) (b := p1.toInt) c_35 rfl rfl
                refine jj_iload_n C dX11_richest_93 rfl ?_
                exact jj_iret C ⟨[], pl, rfl, rfl, hok, hfr, hfa, ⟨⟨_, _, n6, hC_32, hCp, hf_31, (by omega), ((hK.cong hD_33).mono (by omega) (by omega)), hHP.mono (by omega) (by omega)⟩, (nI k_5), rfl⟩⟩ dX11_richest_94 (jj_le rfl) (jj_le rfl)
            · have z_c_34 := jc_nleL (a := (g_30 0).toInt) (b := ((k_28 : Nat) : Int)) c_34 rfl (rl_tl (by omega))
              refine jj_aload_n C dX11_richest_44 rfl ?_
              refine jj_iload C dX11_richest_45 rfl ?_
              obtain ⟨qc, gs, hqc⟩ := tt_recv (cx := []) hok hk0 (by decide) rfl
              refine tt_callV (rest := []) C (rs_worthOf hl D cA ak (nI k_28) B g_30 hk0 hkw hka hkt hki hkf hkp (rl_I.cong hI hD_33).1 (hP.cong hI hD_33) hB hok hm hC_32) [] [] rfl rfl (by decide) (by decide) (by decide) qc hqc rfl rfl jw_9fa4c801a5 jw_c71c7fca8c jw_dc921e0fbd jw_f96c99f44d jw_5d049cb902 jn_X11_worthOf rfl (jj_le rfl) (jj_le rfl) (jj_le rfl) (jj_le rfl) (jj_le rfl) dX11_richest_47 rfl (fun _ _ _ hX => hX.elim) (fun rx pl_36 r O_40 => ?_)
              obtain ⟨rfl, hok_37, hr_38, ha_39, hR_41⟩ := O_40
              replace hf_31 := hr_38.at hk0 (by decide) (by decide) hf_31
              replace hCp := ha_39.at hkp (by decide) (by decide) hCp
              replace hm := hm.fr hr_38 hk0 rfl
              replace hfr := hfr.trans (hr_38.sub (by decide))
              replace hfa := hfa.trans (ha_39.sub (by decide))
              obtain ⟨g_42, hC_43, he_44, y_45, rfl⟩ := hR_41
              obtain ⟨⟨g0ag_42, g0bg_42⟩, ⟨g1ag_42, g1bg_42⟩, ⟨g6ag_42, g6bg_42⟩, ⟨g7ag_42, g7bg_42⟩, ⟨g8ag_42, g8bg_42⟩⟩ := (rl_I.cong (rl_I.cong hI hD_33).1 he_44).1.1.1
              refine jj_lstore C dX11_richest_50 (by decide) rfl ?_
              refine jj_iload_n C dX11_richest_52 rfl ?_
              refine jj_lload C dX11_richest_53 rfl ?_
              refine jj_lload C dX11_richest_55 rfl ?_
              refine jj_lcmp_gt (tgt := 75) C dX11_richest_57 dX11_richest_58 (by decide) (fun c_46 => ?_) (fun c_46 => ?_)
              · have z_c_46 := jc_ltL (a := y_26.toInt) (b := y_45.toInt) c_46 rfl rfl
                refine jj_iconst (v := 1) C dX11_richest_75 (by decide) ?_
                refine jj_goto (tgt := 80) C dX11_richest_76 (by decide) ?_
                obtain ⟨x_47, ex_47⟩ : ∃ z : Int32, x_29 + (1 : Int32) = z := ⟨_, rfl⟩
                refine jj_iadd (v := x_47) C dX11_richest_80 ex_47 ?_
                refine jj_istore_n C dX11_richest_81 (by decide) rfl ?_
                refine jj_iinc (v := nI (1 + k_28)) C dX11_richest_82 rfl (rl_addR (kn := 1) (by decide) (by omega)) (by decide) rfl ?_
                refine jj_goto (tgt := 31) C dX11_richest_85 (by decide) ?_
                refine jj_loc [0, 3, 1, 4, 5, 6] rfl ?_
                exact ihL_27 pl_36 (1 + k_28) x_47 g_42 hok_37 hfr hfa hm hf_31 hCp hC_43 (fun i hi => (he_44 i hi).trans (hD_33 i hi)) (by first | omega | decide | exact tt_lo _ | exact tt_hi _) (by first | omega | decide | exact tt_lo _ | exact tt_hi _) (by first | omega | decide | exact tt_lo _ | exact tt_hi _) (by first | omega | decide | exact tt_lo _ | exact tt_hi _) (by first | omega | decide | exact tt_lo _ | exact tt_hi _)
              · have z_c_46 := jc_nltL (a := y_26.toInt) (b := y_45.toInt) c_46 rfl rfl
                refine jj_lload C dX11_richest_61 rfl ?_
                refine jj_lload C dX11_richest_63 rfl ?_
                refine jj_lcmp_ne (tgt := 79) C dX11_richest_65 dX11_richest_66 (by decide) (fun c_48 => ?_) (fun c_48 => ?_)
                · have z_c_48 := jc_neqL (a := y_45.toInt) (b := y_26.toInt) c_48 rfl rfl
                  refine jj_iconst (v := 0) C dX11_richest_79 (by decide) ?_
                  obtain ⟨x_49, ex_49⟩ : ∃ z : Int32, x_29 + (0 : Int32) = z := ⟨_, rfl⟩
                  refine jj_iadd (v := x_49) C dX11_richest_80 ex_49 ?_
                  refine jj_istore_n C dX11_richest_81 (by decide) rfl ?_
                  refine jj_iinc (v := nI (1 + k_28)) C dX11_richest_82 rfl (rl_addR (kn := 1) (by decide) (by omega)) (by decide) rfl ?_
                  refine jj_goto (tgt := 31) C dX11_richest_85 (by decide) ?_
                  refine jj_loc [0, 3, 1, 4, 5, 6] rfl ?_
                  exact ihL_27 pl_36 (1 + k_28) x_49 g_42 hok_37 hfr hfa hm hf_31 hCp hC_43 (fun i hi => (he_44 i hi).trans (hD_33 i hi)) (by first | omega | decide | exact tt_lo _ | exact tt_hi _) (by first | omega | decide | exact tt_lo _ | exact tt_hi _) (by first | omega | decide | exact tt_lo _ | exact tt_hi _) (by first | omega | decide | exact tt_lo _ | exact tt_hi _) (by first | omega | decide | exact tt_lo _ | exact tt_hi _)
                · have z_c_48 := jc_eqL (a := y_45.toInt) (b := y_26.toInt) c_48 rfl rfl
                  refine jj_iload C dX11_richest_69 rfl ?_
                  refine jj_iload_n C dX11_richest_71 rfl ?_
                  refine jj_icmp_ge (tgt := 79) C dX11_richest_72 (by decide) (fun c_50 => ?_) (fun c_50 => ?_)
                  · have z_c_50 := jc_le (a := ((k_5 : Nat) : Int)) (b := ((k_28 : Nat) : Int)) c_50 (rl_ti (by omega)) (rl_ti (by omega))
                    refine jj_iconst (v := 0) C dX11_richest_79 (by decide) ?_
                    obtain ⟨x_51, ex_51⟩ : ∃ z : Int32, x_29 + (0 : Int32) = z := ⟨_, rfl⟩
                    refine jj_iadd (v := x_51) C dX11_richest_80 ex_51 ?_
                    refine jj_istore_n C dX11_richest_81 (by decide) rfl ?_
                    refine jj_iinc (v := nI (1 + k_28)) C dX11_richest_82 rfl (rl_addR (kn := 1) (by decide) (by omega)) (by decide) rfl ?_
                    refine jj_goto (tgt := 31) C dX11_richest_85 (by decide) ?_
                    refine jj_loc [0, 3, 1, 4, 5, 6] rfl ?_
                    exact ihL_27 pl_36 (1 + k_28) x_51 g_42 hok_37 hfr hfa hm hf_31 hCp hC_43 (fun i hi => (he_44 i hi).trans (hD_33 i hi)) (by first | omega | decide | exact tt_lo _ | exact tt_hi _) (by first | omega | decide | exact tt_lo _ | exact tt_hi _) (by first | omega | decide | exact tt_lo _ | exact tt_hi _) (by first | omega | decide | exact tt_lo _ | exact tt_hi _) (by first | omega | decide | exact tt_lo _ | exact tt_hi _)
                  · have z_c_50 := jc_nle (a := ((k_5 : Nat) : Int)) (b := ((k_28 : Nat) : Int)) c_50 (rl_ti (by omega)) (rl_ti (by omega))
                    refine jj_iconst (v := 1) C dX11_richest_75 (by decide) ?_
                    refine jj_goto (tgt := 80) C dX11_richest_76 (by decide) ?_
                    obtain ⟨x_52, ex_52⟩ : ∃ z : Int32, x_29 + (1 : Int32) = z := ⟨_, rfl⟩
                    refine jj_iadd (v := x_52) C dX11_richest_80 ex_52 ?_
                    refine jj_istore_n C dX11_richest_81 (by decide) rfl ?_
                    refine jj_iinc (v := nI (1 + k_28)) C dX11_richest_82 rfl (rl_addR (kn := 1) (by decide) (by omega)) (by decide) rfl ?_
                    refine jj_goto (tgt := 31) C dX11_richest_85 (by decide) ?_
                    refine jj_loc [0, 3, 1, 4, 5, 6] rfl ?_
                    exact ihL_27 pl_36 (1 + k_28) x_52 g_42 hok_37 hfr hfa hm hf_31 hCp hC_43 (fun i hi => (he_44 i hi).trans (hD_33 i hi)) (by first | omega | decide | exact tt_lo _ | exact tt_hi _) (by first | omega | decide | exact tt_lo _ | exact tt_hi _) (by first | omega | decide | exact tt_lo _ | exact tt_hi _) (by first | omega | decide | exact tt_lo _ | exact tt_hi _) (by first | omega | decide | exact tt_lo _ | exact tt_hi _)
        exact hL_27 _ pl_17 0 (0 : Int32) g_23 trivial hok_18 hfr hfa hm hf_7 hCp hC_24 (fun i hi => (he_25 i hi).trans (hD_9 i hi)) (by first | omega | decide | exact tt_lo _ | exact tt_hi _) (by first | omega | decide | exact tt_lo _ | exact tt_hi _) (by first | omega | decide | exact tt_lo _ | exact tt_hi _) (by first | omega | decide | exact tt_lo _ | exact tt_hi _) (Int.self_le_toNat _)
  exact hL_4 _ pl_1 0 f trivial hok_2 hfr hfa hm hs6 hCp hC (fun _ _ => rfl) (by first | omega | decide | exact tt_lo _ | exact tt_hi _) (by first | omega | decide | exact tt_lo _ | exact tt_hi _) (Int.self_le_toNat _)

set_option maxHeartbeats 4000000 in
set_option maxRecDepth 100000 in
theorem rs_share {l : Launch} (hl : l.stackTraces = false) (D : va_G) (cA : Nat → ClassId) (ak : (Nat → Nat) × (Nat → Nat)) {Kd : Nat → Nat} {h0 aw aa at0 ai af ap : Nat} (n6 : Nat) (p1 : Int32) (B C9 : Int) (f P : Nat → Int64) (hk0 : Kd h0 = 1) (hkw : Kd aw = 2) (hka : Kd aa = 3) (hkt : Kd at0 = 4) (hki : Kd ai = 5) (hkf : Kd af = 6) (hkp : Kd ap = 7) (ln6 : (0 : Int) ≤ (n6 : Int)) (un6 : (n6 : Int) ≤ 10) (hK : rl_K B C9 f) (hHP : rl_HP B C9 P n6) (hB5 : B ≤ 43520000000) (hB0 : 12760000000 ≤ B) (hC9 : 0 ≤ C9 ∧ C9 ≤ 4000000000000000000) {pl0 : va_W} (hok : tt_ok rt_tk cA Kd pl0) (hm : rl_m pl0 h0 aw aa at0 ai af ap) (hC : tt_lc pl0 aw f) (hCp : tt_lc pl0 ap P) (hs6 : tt_at pl0 h0 6 (.int (nI n6))) : jj_M l D cA ak yX11_share (.code yX11_share cX11_share 5 (some .double)) 6 153 0 0 ([] ++ pl0) [.ref h0, .int p1] (tt_O (fun rx pl1 r => rx = [] ∧ tt_ok rt_tk cA Kd pl1 ∧ tt_fr Kd [(1, 7), (1, 8), (1, 9)] pl0 pl1 ∧ tt_fa Kd [2, 5] pl0 pl1 ∧ ((rl_M (B + 30000000) (C9 + 2000) pl1 h0 aw ap ∧ ∃ v : UInt64, r = some (.double v))))) (tt_OX (fun _ _ _ => False)) := by
  refine jj_start hl (by decide) jw_a47774e71a (jj_le rfl) ?_
  intro p e s m args below meth c A hargs hA C hex hmn
  have hfr := tt_fr.refl (K := Kd) (WS := [(1, 7), (1, 8), (1, 9)]) pl0
  have hfa := tt_fa.refl (K := Kd) (WA := [2, 5]) pl0
  have hI := hK.1
  have hP := hK.2.1
  have hH := hI.1.1
  obtain ⟨⟨g0a, g0b⟩, ⟨g1a, g1b⟩, ⟨g6a, g6b⟩, ⟨g7a, g7b⟩, ⟨g8a, g8b⟩⟩ := hH
  have hB : B ≤ 43920000000 := by omega
  have hB6 : B + 360000000 ≤ 43920000000 := by omega
  have h9a := hK.2.2.1
  have h9b := hK.2.2.2
  have h9 : 0 ≤ (f 9).toInt ∧ (f 9).toInt < 4611686018427387000 := ⟨h9a, by omega⟩
  have lp1 := tt_lo p1
  have up1 := tt_hi p1
  refine jj_aload_n C dX11_share_0 rfl ?_
  refine jj_iload_n C dX11_share_1 rfl ?_
  obtain ⟨qc, gs, hqc⟩ := tt_recv (cx := []) hok hk0 (by decide) rfl
  refine tt_callV (rest := []) C (rc_X11_isNoInvestor_d8d95c hl D cA ak p1 _ hk0 hkw hka hkt hki hkf hkp ⟨⟨g0a, g0b⟩, ⟨g1a, g1b⟩, ⟨g6a, g6b⟩, ⟨g7a, g7b⟩, ⟨g8a, g8b⟩⟩ hok hm hC) [] [] rfl rfl (by decide) (by decide) (by decide) qc hqc rfl rfl jw_daecd531da jw_4e28b3e206 jw_f3a40b16e4 jw_f96c99f44d jw_78c857bdda jn_X11_isNoInvestor rfl (jj_le rfl) (jj_le rfl) (jj_le rfl) (jj_le rfl) (jj_le rfl) dX11_share_2 rfl (fun _ _ _ hX => hX.elim) (fun rx pl_1 r O_5 => ?_)
  obtain ⟨rfl, hok_2, hr_3, ha_4, hR_6⟩ := O_5
  replace hs6 := hr_3.at hk0 (by decide) (by decide) hs6
  replace hC := ha_4.at hkw (by decide) (by decide) hC
  replace hCp := ha_4.at hkp (by decide) (by decide) hCp
  replace hm := hm.fr hr_3 hk0 rfl
  replace hfr := hfr.trans (hr_3.sub (by decide))
  replace hfa := hfa.trans (ha_4.sub (by decide))
  rcases hR_6 with rfl | ⟨l_7, u_8, rfl⟩
  · refine jj_if_eqF (tgt := 10) C dX11_share_5 (by decide) (by decide) ?_
    refine jj_dconst0 C dX11_share_8 ?_
    exact jj_dret C ⟨[], pl_1, rfl, rfl, hok_2, hfr, hfa, ⟨⟨_, _, n6, hC, hCp, hs6, (by omega), (hK.mono (by omega) (by omega)), hHP.mono (by omega) (by omega)⟩, FP.dconst0, rfl⟩⟩ dX11_share_9 (jj_le rfl) (jj_le rfl)
  · refine jj_if_eqT (tgt := 10) C dX11_share_5 (by decide) (by decide) ?_
    refine jj_lconst (v := 0) C dX11_share_10 (by decide) ?_
    refine jj_lstore_n C dX11_share_11 (by decide) rfl ?_
    refine jj_iconst (v := 0) C dX11_share_12 (by decide) ?_
    refine jj_istore C dX11_share_13 (by decide) rfl ?_
    have hL_9 : ∀ (N : Nat) (pl : va_W) (k_10 : Nat) (y_11 : Int64) (g_12 : Nat → Int64), True → tt_ok rt_tk cA Kd pl → tt_fr Kd [(1, 7), (1, 8), (1, 9)] pl0 pl → tt_fa Kd [2, 5] pl0 pl → rl_m pl h0 aw aa at0 ai af ap → tt_at pl h0 6 (.int (nI n6)) → tt_lc pl ap P → tt_lc pl aw g_12 → (∀ i : Nat, i < 334 → g_12 i = f i) → (0 : Int) ≤ (k_10 : Int) → (k_10 : Int) ≤ 6 → (2147483648 - (k_10 : Int) ≤ (N : Int)) → jj_J p l e (jj_rm 6 153 0 0) s m args below meth c 5 A (vx_MQ below (jj_q D A (tt_O (fun rx pl1 r => rx = [] ∧ tt_ok rt_tk cA Kd pl1 ∧ tt_fr Kd [(1, 7), (1, 8), (1, 9)] pl0 pl1 ∧ tt_fa Kd [2, 5] pl0 pl1 ∧ ((rl_M (B + 30000000) (C9 + 2000) pl1 h0 aw ap ∧ ∃ v : UInt64, r = some (.double v)))))) (jj_x D A (tt_OX (fun _ _ _ => False))) args s 0 0 A) (jj_X D A ([] ++ pl)) 0 0 15 [(4, .int (nI k_10)), (2, .long y_11), (0, .ref h0), (1, .int p1)] [] := by
      intro NL_9
      induction NL_9 with
      | zero => intro pl k_10 y_11 g_12 _ hok hfr hfa hm hf_13 hCp hC_14 hD_15 lk_10 uk_10 hNL_9; exfalso; omega
      | succ NL_9 ihL_9 =>
        intro pl k_10 y_11 g_12 _ hok hfr hfa hm hf_13 hCp hC_14 hD_15 lk_10 uk_10 hNL_9
        replace ihL_9 := fun pl k_10 y_11 g_12 h1 => ihL_9 pl k_10 y_11 g_12 trivial h1
        obtain ⟨⟨g0ag_12, g0bg_12⟩, ⟨g1ag_12, g1bg_12⟩, ⟨g6ag_12, g6bg_12⟩, ⟨g7ag_12, g7bg_12⟩, ⟨g8ag_12, g8bg_12⟩⟩ := ((rl_I.cong hI hD_15).1).1.1
        refine jj_iload C dX11_share_15 rfl ?_
        refine jj_i2l C dX11_share_17 rfl ?_
        refine jj_aload_n C dX11_share_18 rfl ?_
        refine tt_getF C hok jk_12 0 (by decide) jw_34eaf3ba8b (t := (2, 2, 0)) hk0 (by decide) rfl rfl hm.1 dX11_share_19 ?_
        refine jj_iconst (v := 0) C dX11_share_22 (by decide) ?_
        refine rl_lald C hok (t := (1, (-9223372036854775808), 9223372036854775807)) hkw (by decide) rfl (k := 0) (v := (g_12 0)) (vp_in_iff.mpr (by decide)) hC_14 (by decide) rfl dX11_share_23 ?_
        refine jj_lcmp_ge (tgt := 43) C dX11_share_24 dX11_share_25 (by decide) (fun c_16 => ?_) (fun c_16 => ?_)
        · have z_c_16 := jc_leL (a := (g_12 0).toInt) (b := ((k_10 : Nat) : Int)) c_16 rfl (rl_tl (by omega))
          refine jj_aload_n C dX11_share_43 rfl ?_
          refine jj_lload_n C dX11_share_44 rfl ?_
          refine jj_lconst (v := 0) C dX11_share_45 (by decide) ?_
          refine jj_lcmp_ne (tgt := 54) C dX11_share_46 dX11_share_47 (by decide) (fun c_17 => ?_) (fun c_17 => ?_)
          · have z_c_17 := jc_neqL (a := y_11.toInt) (b := 0) c_17 rfl (by decide)
            refine jj_iconst (v := 0) C dX11_share_54 (by decide) ?_
            refine jj_iconst (v := 2) C dX11_share_55 (by decide) ?_
            obtain ⟨qc, gs, hqc⟩ := tt_recv (cx := []) hok hk0 (by decide) rfl
            refine tt_callV (rest := []) C (rc_X11_fails_a6808a hl D cA ak hk0 hkw hka hkt hki hkf hkp hok hm) [] [] rfl rfl (by decide) (by decide) (by decide) qc hqc rfl rfl jw_9c28fd2e32 jw_193b10eb43 jw_69bbe80566 jw_f96c99f44d jw_a520512e18 jn_X11_fails rfl (jj_le rfl) (jj_le rfl) (jj_le rfl) (jj_le rfl) (jj_le rfl) dX11_share_56 rfl (fun _ _ _ hX => hX.elim) (fun rx pl_18 r O_22 => ?_)
            obtain ⟨rfl, hok_19, hr_20, ha_21, hR_23⟩ := O_22
            replace hf_13 := hr_20.at hk0 (by decide) (by decide) hf_13
            replace hCp := ha_21.at hkp (by decide) (by decide) hCp
            replace hC_14 := ha_21.at hkw (by decide) (by decide) hC_14
            replace hm := hm.fr hr_20 hk0 rfl
            replace hfr := hfr.trans (hr_20.sub (by decide))
            replace hfa := hfa.trans (ha_21.sub (by decide))
            obtain rfl := hR_23
            refine jj_if_eqT (tgt := 66) C dX11_share_59 (by decide) (by decide) ?_
            refine jj_aload_n C dX11_share_66 rfl ?_
            refine jj_iload_n C dX11_share_67 rfl ?_
            obtain ⟨qc, gs, hqc⟩ := tt_recv (cx := []) hok_19 hk0 (by decide) rfl
            refine tt_callV (rest := []) C (rs_worthOf hl D cA ak p1 B g_12 hk0 hkw hka hkt hki hkf hkp (rl_I.cong hI hD_15).1 (hP.cong hI hD_15) hB hok_19 hm hC_14) [] [] rfl rfl (by decide) (by decide) (by decide) qc hqc rfl rfl jw_9fa4c801a5 jw_c71c7fca8c jw_dc921e0fbd jw_f96c99f44d jw_5d049cb902 jn_X11_worthOf rfl (jj_le rfl) (jj_le rfl) (jj_le rfl) (jj_le rfl) (jj_le rfl) dX11_share_68 rfl (fun _ _ _ hX => hX.elim) (fun rx pl_24 r O_28 => ?_)
            obtain ⟨rfl, hok_25, hr_26, ha_27, hR_29⟩ := O_28
            replace hf_13 := hr_26.at hk0 (by decide) (by decide) hf_13
            replace hCp := ha_27.at hkp (by decide) (by decide) hCp
            replace hm := hm.fr hr_26 hk0 rfl
            replace hfr := hfr.trans (hr_26.sub (by decide))
            replace hfa := hfa.trans (ha_27.sub (by decide))
            obtain ⟨g_30, hC_31, he_32, y_33, rfl⟩ := hR_29
            obtain ⟨⟨g0ag_30, g0bg_30⟩, ⟨g1ag_30, g1bg_30⟩, ⟨g6ag_30, g6bg_30⟩, ⟨g7ag_30, g7bg_30⟩, ⟨g8ag_30, g8bg_30⟩⟩ := (rl_I.cong (rl_I.cong hI hD_15).1 he_32).1.1.1
            refine jt_l2d C dX11_share_71 ?_
            refine jj_lload_n C dX11_share_72 rfl ?_
            refine jt_l2d C dX11_share_73 ?_
            refine jt_ddiv C c_17 dX11_share_74 (fun w_34 => ?_)
            exact jj_dret C ⟨[], pl_24, rfl, rfl, hok_25, hfr, hfa, ⟨⟨_, _, n6, hC_31, hCp, hf_13, (by omega), (((hK.cong hD_15).cong he_32).mono (by omega) (by omega)), hHP.mono (by omega) (by omega)⟩, w_34, rfl⟩⟩ dX11_share_75 (jj_le rfl) (jj_le rfl)
          · have z_c_17 := jc_eqL (a := y_11.toInt) (b := 0) c_17 rfl (by decide)
            refine jj_iconst (v := 1) C dX11_share_50 (by decide) ?_
            refine jj_goto (tgt := 55) C dX11_share_51 (by decide) ?_
            refine jj_iconst (v := 2) C dX11_share_55 (by decide) ?_
            obtain ⟨qc, gs, hqc⟩ := tt_recv (cx := []) hok hk0 (by decide) rfl
            refine tt_callV (rest := []) C (rc_X11_fails_685228 hl D cA ak hk0 hkw hka hkt hki hkf hkp hok hm) [] [] rfl rfl (by decide) (by decide) (by decide) qc hqc rfl rfl jw_9c28fd2e32 jw_193b10eb43 jw_69bbe80566 jw_f96c99f44d jw_a520512e18 jn_X11_fails rfl (jj_le rfl) (jj_le rfl) (jj_le rfl) (jj_le rfl) (jj_le rfl) dX11_share_56 rfl (fun _ _ _ hX => hX.elim) (fun rx pl_35 r O_39 => ?_)
            obtain ⟨rfl, hok_36, hr_37, ha_38, hR_40⟩ := O_39
            replace hf_13 := hr_37.at hk0 (by decide) (by decide) hf_13
            replace hCp := ha_38.at hkp (by decide) (by decide) hCp
            replace hC_14 := ha_38.at hkw (by decide) (by decide) hC_14
            replace hm := hm.fr hr_37 hk0 rfl
            replace hfr := hfr.trans (hr_37.sub (by decide))
            replace hfa := hfa.trans (ha_38.sub (by decide))
            obtain rfl := hR_40
            refine jj_if_eqF (tgt := 66) C dX11_share_59 (by decide) (by decide) ?_
            refine jj_dconst0 C dX11_share_62 ?_
            refine jj_goto (tgt := 75) C dX11_share_63 (by decide) ?_
            exact jj_dret C ⟨[], pl_35, rfl, rfl, hok_36, hfr, hfa, ⟨⟨_, _, n6, hC_14, hCp, hf_13, (by omega), ((hK.cong hD_15).mono (by omega) (by omega)), hHP.mono (by omega) (by omega)⟩, FP.dconst0, rfl⟩⟩ dX11_share_75 (jj_le rfl) (jj_le rfl)
        · have z_c_16 := jc_nleL (a := (g_12 0).toInt) (b := ((k_10 : Nat) : Int)) c_16 rfl (rl_tl (by omega))
          refine jj_lload_n C dX11_share_28 rfl ?_
          refine jj_aload_n C dX11_share_29 rfl ?_
          refine jj_iload C dX11_share_30 rfl ?_
          obtain ⟨qc, gs, hqc⟩ := tt_recv (cx := []) hok hk0 (by decide) rfl
          refine tt_callV (rest := [.long y_11]) C (rs_worthOf hl D cA ak (nI k_10) B g_12 hk0 hkw hka hkt hki hkf hkp (rl_I.cong hI hD_15).1 (hP.cong hI hD_15) hB hok hm hC_14) [] [] rfl rfl (by decide) (by decide) (by decide) qc hqc rfl rfl jw_9fa4c801a5 jw_c71c7fca8c jw_dc921e0fbd jw_f96c99f44d jw_5d049cb902 jn_X11_worthOf rfl (jj_le rfl) (jj_le rfl) (jj_le rfl) (jj_le rfl) (jj_le rfl) dX11_share_32 rfl (fun _ _ _ hX => hX.elim) (fun rx pl_41 r O_45 => ?_)
          obtain ⟨rfl, hok_42, hr_43, ha_44, hR_46⟩ := O_45
          replace hf_13 := hr_43.at hk0 (by decide) (by decide) hf_13
          replace hCp := ha_44.at hkp (by decide) (by decide) hCp
          replace hm := hm.fr hr_43 hk0 rfl
          replace hfr := hfr.trans (hr_43.sub (by decide))
          replace hfa := hfa.trans (ha_44.sub (by decide))
          obtain ⟨g_47, hC_48, he_49, y_50, rfl⟩ := hR_46
          obtain ⟨⟨g0ag_47, g0bg_47⟩, ⟨g1ag_47, g1bg_47⟩, ⟨g6ag_47, g6bg_47⟩, ⟨g7ag_47, g7bg_47⟩, ⟨g8ag_47, g8bg_47⟩⟩ := (rl_I.cong (rl_I.cong hI hD_15).1 he_49).1.1.1
          refine jj_ladd C dX11_share_35 rfl ?_
          refine jj_lstore_n C dX11_share_36 (by decide) rfl ?_
          refine jj_iinc (v := nI (1 + k_10)) C dX11_share_37 rfl (rl_addR (kn := 1) (by decide) (by omega)) (by decide) rfl ?_
          refine jj_goto (tgt := 15) C dX11_share_40 (by decide) ?_
          exact ihL_9 pl_41 (1 + k_10) (y_11 + y_50) g_47 hok_42 hfr hfa hm hf_13 hCp hC_48 (fun i hi => (he_49 i hi).trans (hD_15 i hi)) (by first | omega | decide | exact tt_lo _ | exact tt_hi _) (by first | omega | decide | exact tt_lo _ | exact tt_hi _) (by first | omega | decide | exact tt_lo _ | exact tt_hi _)
    exact hL_9 _ pl_1 0 (0 : Int64) f trivial hok_2 hfr hfa hm hs6 hCp hC (fun _ _ => rfl) (by first | omega | decide | exact tt_lo _ | exact tt_hi _) (by first | omega | decide | exact tt_lo _ | exact tt_hi _) (Int.self_le_toNat _)

set_option maxHeartbeats 4000000 in
set_option maxRecDepth 100000 in
theorem rs_wouldRedeem {l : Launch} (hl : l.stackTraces = false) (D : va_G) (cA : Nat → ClassId) (ak : (Nat → Nat) × (Nat → Nat)) {Kd : Nat → Nat} {h0 aw aa at0 ai af ap : Nat} (n6 : Nat) (p1 : Int32) (B C9 : Int) (f P : Nat → Int64) (hk0 : Kd h0 = 1) (hkw : Kd aw = 2) (hka : Kd aa = 3) (hkt : Kd at0 = 4) (hki : Kd ai = 5) (hkf : Kd af = 6) (hkp : Kd ap = 7) (ln6 : (0 : Int) ≤ (n6 : Int)) (un6 : (n6 : Int) ≤ 10) (hK : rl_K B C9 f) (hHP : rl_HP B C9 P n6) (hB5 : B ≤ 43520000000) (hB0 : 12760000000 ≤ B) (hC9 : 0 ≤ C9 ∧ C9 ≤ 4000000000000000000) {pl0 : va_W} (hok : tt_ok rt_tk cA Kd pl0) (hm : rl_m pl0 h0 aw aa at0 ai af ap) (hC : tt_lc pl0 aw f) (hCp : tt_lc pl0 ap P) (hs6 : tt_at pl0 h0 6 (.int (nI n6))) : jj_M l D cA ak yX11_wouldRedeem (.code yX11_wouldRedeem cX11_wouldRedeem 2 (some .long)) 8 206 0 0 ([] ++ pl0) [.ref h0, .int p1] (tt_O (fun rx pl1 r => rx = [] ∧ tt_ok rt_tk cA Kd pl1 ∧ tt_fr Kd [(1, 7), (1, 8), (1, 9)] pl0 pl1 ∧ tt_fa Kd [2, 4, 5, 8, 9] pl0 pl1 ∧ ((rl_M (B + 30000000) (C9 + 2000) pl1 h0 aw ap ∧ ∃ v : Int64, r = some (.long v))))) (tt_OX (fun _ _ _ => False)) := by
  refine jj_start hl (by decide) jw_4c909afefb (jj_le rfl) ?_
  intro p e s m args below meth c A hargs hA C hex hmn
  have hfr := tt_fr.refl (K := Kd) (WS := [(1, 7), (1, 8), (1, 9)]) pl0
  have hfa := tt_fa.refl (K := Kd) (WA := [2, 4, 5, 8, 9]) pl0
  have hI := hK.1
  have hP := hK.2.1
  have hH := hI.1.1
  obtain ⟨⟨g0a, g0b⟩, ⟨g1a, g1b⟩, ⟨g6a, g6b⟩, ⟨g7a, g7b⟩, ⟨g8a, g8b⟩⟩ := hH
  have hB : B ≤ 43920000000 := by omega
  have hB6 : B + 360000000 ≤ 43920000000 := by omega
  have h9a := hK.2.2.1
  have h9b := hK.2.2.2
  have h9 : 0 ≤ (f 9).toInt ∧ (f 9).toInt < 4611686018427387000 := ⟨h9a, by omega⟩
  have lp1 := tt_lo p1
  have up1 := tt_hi p1
  obtain ⟨ad, fd, hkd, hd, hdc⟩ := rl_done hok hk0
  refine jj_aload_n C dX11_wouldRedeem_0 rfl ?_
  refine jj_iload_n C dX11_wouldRedeem_1 rfl ?_
  obtain ⟨qc, gs, hqc⟩ := tt_recv (cx := []) hok hk0 (by decide) rfl
  refine tt_callV (rest := []) C (rs_isNoRequest hl D cA ak p1 f hk0 hkw hka hkt hki hkf hkp ⟨⟨g0a, g0b⟩, ⟨g1a, g1b⟩, ⟨g6a, g6b⟩, ⟨g7a, g7b⟩, ⟨g8a, g8b⟩⟩ hok hm hC) [] [] rfl rfl (by decide) (by decide) (by decide) qc hqc rfl rfl jw_1118ba758b jw_4c29d1d481 jw_f79fbf9a9e jw_f96c99f44d jw_c6d824393d jn_X11_isNoRequest rfl (jj_le rfl) (jj_le rfl) (jj_le rfl) (jj_le rfl) (jj_le rfl) dX11_wouldRedeem_2 rfl (fun _ _ _ hX => hX.elim) (fun rx pl_1 r O_5 => ?_)
  obtain ⟨rfl, hok_2, hr_3, ha_4, hR_6⟩ := O_5
  replace hd := hr_3.at hk0 (by decide) (by decide) hd
  replace hs6 := hr_3.at hk0 (by decide) (by decide) hs6
  replace hC := ha_4.at hkw (by decide) (by decide) hC
  replace hCp := ha_4.at hkp (by decide) (by decide) hCp
  replace hdc := ha_4.at hkd (by decide) (by decide) hdc
  replace hm := hm.fr hr_3 hk0 rfl
  replace hfr := hfr.trans (hr_3.sub (by decide))
  replace hfa := hfa.trans (ha_4.sub (by decide))
  rcases hR_6 with rfl | ⟨hz_7, rfl⟩
  · refine jj_if_eqF (tgt := 10) C dX11_wouldRedeem_5 (by decide) (by decide) ?_
    refine jj_lconst (v := 0) C dX11_wouldRedeem_8 (by decide) ?_
    exact jj_lret C ⟨[], pl_1, rfl, rfl, hok_2, hfr, hfa, ⟨⟨_, _, n6, hC, hCp, hs6, (by omega), (hK.mono (by omega) (by omega)), hHP.mono (by omega) (by omega)⟩, (0 : Int64), rfl⟩⟩ dX11_wouldRedeem_9 (jj_le rfl) (jj_le rfl)
  · have hz_71 := hz_7.1
    have hz_72 := hz_7.2
    refine jj_if_eqT (tgt := 10) C dX11_wouldRedeem_5 (by decide) (by decide) ?_
    refine jj_aload_n C dX11_wouldRedeem_10 rfl ?_
    refine tt_getF C hok_2 jk_12 0 (by decide) jw_34eaf3ba8b (t := (2, 2, 0)) hk0 (by decide) rfl rfl hm.1 dX11_wouldRedeem_11 ?_
    refine jj_aload_n C dX11_wouldRedeem_14 rfl ?_
    refine tt_getF C hok_2 jk_12 2 (by decide) jw_bca200ef97 (t := (2, 4, 0)) hk0 (by decide) rfl rfl hm.2.2.1 dX11_wouldRedeem_15 ?_
    refine tt_callS (rest := []) C (rs_copy_aw_at0 hl D cA ak f hk0 hkw hka hkt hki hkf hkp hok_2 hm hC) [] [] rfl rfl (by decide) (by decide) (by decide) jw_b2f7d68e03 jw_8cf8ac8b0e jw_f96c99f44d jw_1431b790b8 jn_X11_copy rfl (jj_le rfl) (jj_le rfl) (jj_le rfl) (jj_le rfl) (jj_le rfl) dX11_wouldRedeem_18 rfl (fun _ _ _ hX => hX.elim) (fun rx pl_8 r O_12 => ?_)
    obtain ⟨rfl, hok_9, hr_10, ha_11, hR_13⟩ := O_12
    replace hd := hr_10.at hk0 (by decide) (by decide) hd
    replace hs6 := hr_10.at hk0 (by decide) (by decide) hs6
    replace hC := ha_11.at hkw (by decide) (by decide) hC
    replace hCp := ha_11.at hkp (by decide) (by decide) hCp
    replace hdc := ha_11.at hkd (by decide) (by decide) hdc
    replace hm := hm.fr hr_10 hk0 rfl
    replace hfr := hfr.trans (hr_10.sub (by decide))
    replace hfa := hfa.trans (ha_11.sub (by decide))
    obtain ⟨g_14, hC_15, he_16, rfl⟩ := hR_13
    refine jj_aload_n C dX11_wouldRedeem_21 rfl ?_
    obtain ⟨qc, gs, hqc⟩ := tt_recv (cx := []) hok_9 hk0 (by decide) rfl
    refine tt_callV (rest := []) C (rs_redeemAll hl D cA ak ad fd B f hk0 hkw hka hkt hki hkf hkp hkd hI hP hB hok_9 hm hC hd hdc) [] [] rfl rfl (by decide) (by decide) (by decide) qc hqc rfl rfl jw_b04c4238b0 jw_f6874b993a jw_9f698d72df jw_f96c99f44d jw_0bfdd14151 jn_X11_redeemAll rfl (jj_le rfl) (jj_le rfl) (jj_le rfl) (jj_le rfl) (jj_le rfl) dX11_wouldRedeem_22 rfl (fun _ _ _ hX => hX.elim) (fun rx pl_17 r O_21 => ?_)
    obtain ⟨rfl, hok_18, hr_19, ha_20, hR_22⟩ := O_21
    replace hd := hr_19.at hk0 (by decide) (by decide) hd
    replace hs6 := hr_19.at hk0 (by decide) (by decide) hs6
    replace hCp := ha_20.at hkp (by decide) (by decide) hCp
    replace hC_15 := ha_20.at hkt (by decide) (by decide) hC_15
    replace hm := hm.fr hr_19 hk0 rfl
    replace hfr := hfr.trans (hr_19.sub (by decide))
    replace hfa := hfa.trans (ha_20.sub (by decide))
    obtain ⟨g_23, gd_24, hC_25, hf_26, hG_27, hR_28, hn_29, rfl⟩ := hR_22
    obtain ⟨⟨g0ag_23, g0bg_23⟩, ⟨g1ag_23, g1bg_23⟩, ⟨g6ag_23, g6bg_23⟩, ⟨g7ag_23, g7bg_23⟩, ⟨g8ag_23, g8bg_23⟩⟩ := hR_28.1.1.1
    refine jj_aload_n C dX11_wouldRedeem_25 rfl ?_
    refine tt_getF C hok_18 jk_12 2 (by decide) jw_bca200ef97 (t := (2, 4, 0)) hk0 (by decide) rfl rfl hm.2.2.1 dX11_wouldRedeem_26 ?_
    refine jj_aload_n C dX11_wouldRedeem_29 rfl ?_
    refine tt_getF C hok_18 jk_12 0 (by decide) jw_34eaf3ba8b (t := (2, 2, 0)) hk0 (by decide) rfl rfl hm.1 dX11_wouldRedeem_30 ?_
    refine tt_callS (rest := []) C (rs_copy_at0_aw hl D cA ak g_14 hk0 hkw hka hkt hki hkf hkp hok_18 hm hC_15) [] [] rfl rfl (by decide) (by decide) (by decide) jw_b2f7d68e03 jw_8cf8ac8b0e jw_f96c99f44d jw_1431b790b8 jn_X11_copy rfl (jj_le rfl) (jj_le rfl) (jj_le rfl) (jj_le rfl) (jj_le rfl) dX11_wouldRedeem_33 rfl (fun _ _ _ hX => hX.elim) (fun rx pl_30 r O_34 => ?_)
    obtain ⟨rfl, hok_31, hr_32, ha_33, hR_35⟩ := O_34
    replace hf_26 := hr_32.at hk0 (by decide) (by decide) hf_26
    replace hs6 := hr_32.at hk0 (by decide) (by decide) hs6
    replace hCp := ha_33.at hkp (by decide) (by decide) hCp
    replace hC_15 := ha_33.at hkt (by decide) (by decide) hC_15
    replace hG_27 := ha_33.at hkd (by decide) (by decide) hG_27
    replace hm := hm.fr hr_32 hk0 rfl
    replace hfr := hfr.trans (hr_32.sub (by decide))
    replace hfa := hfa.trans (ha_33.sub (by decide))
    obtain ⟨g_36, hC_37, he_38, rfl⟩ := hR_35
    obtain ⟨⟨g0ag_36, g0bg_36⟩, ⟨g1ag_36, g1bg_36⟩, ⟨g6ag_36, g6bg_36⟩, ⟨g7ag_36, g7bg_36⟩, ⟨g8ag_36, g8bg_36⟩⟩ := (rl_I.cong (rl_I.cong hI he_16).1 he_38).1.1.1
    refine jj_aload_n C dX11_wouldRedeem_36 rfl ?_
    refine tt_get C hok_31 jk_12 10 (by decide) jw_72d4a0d46a (t := (2, 8, 0)) hk0 (by decide) rfl rfl dX11_wouldRedeem_37 (fun v_39 hv_39 hf_40 => ?_)
    obtain ⟨a_41, rfl, ka_41⟩ := tt_vr hv_39
    refine jj_iload_n C dX11_wouldRedeem_40 rfl ?_
    refine tt_lald C hok_31 (t := (1, (-9223372036854775808), 9223372036854775807)) ka_41 (by decide) rfl (vp_in_iff.mpr ⟨by omega, by omega⟩) dX11_wouldRedeem_41 (fun v_42 hv_42 => ?_)
    exact jj_lret C ⟨[], pl_30, rfl, rfl, hok_31, hfr, hfa, ⟨⟨_, _, n6, hC_37, hCp, hs6, (by omega), (((hK.cong he_16).cong he_38).mono (by omega) (by omega)), hHP.mono (by omega) (by omega)⟩, v_42, rfl⟩⟩ dX11_wouldRedeem_42 (jj_le rfl) (jj_le rfl)

set_option maxHeartbeats 4000000 in
set_option maxRecDepth 100000 in
theorem rs_dealBy {l : Launch} (hl : l.stackTraces = false) (D : va_G) (cA : Nat → ClassId) (ak : (Nat → Nat) × (Nat → Nat)) {Kd : Nat → Nat} {h0 aw aa at0 ai af ap : Nat} (p1 : Int32) (B C9 : Int) (f : Nat → Int64) (hk0 : Kd h0 = 1) (hkw : Kd aw = 2) (hka : Kd aa = 3) (hkt : Kd at0 = 4) (hki : Kd ai = 5) (hkf : Kd af = 6) (hkp : Kd ap = 7) (lp1 : 0 ≤ p1.toInt) (up1 : p1.toInt ≤ 11) (hK : rl_K B C9 f) (hB5 : B ≤ 43520000000) (hC9 : C9 ≤ 4611686018427380000) {pl0 : va_W} (hok : tt_ok rt_tk cA Kd pl0) (hm : rl_m pl0 h0 aw aa at0 ai af ap) (hC : tt_lc pl0 aw f) : jj_M l D cA ak yX11_dealBy (.code yX11_dealBy cX11_dealBy 6 (some .int)) 9 228 0 0 ([] ++ pl0) [.ref h0, .int p1] (tt_O (fun rx pl1 r => rx = [] ∧ tt_ok rt_tk cA Kd pl1 ∧ tt_fr Kd [(1, 8), (1, 9)] pl0 pl1 ∧ tt_fa Kd [2, 5, 8, 9] pl0 pl1 ∧ ((∃ g : Nat → Int64, tt_lc pl1 aw g ∧ rl_K B (C9 + 12) g ∧ r = some (.int (-1))) ∨ (∃ g : Nat → Int64, tt_lc pl1 aw g ∧ rl_K B (C9 + 12) g ∧ ∃ v : Int32, 0 ≤ v.toInt ∧ v.toInt ≤ 11 ∧ r = some (.int v))))) (tt_OX (fun _ _ _ => False)) := by
  refine jj_start hl (by decide) jw_69dfefb26d (jj_le rfl) ?_
  intro p e s m args below meth c A hargs hA C hex hmn
  have hfr := tt_fr.refl (K := Kd) (WS := [(1, 8), (1, 9)]) pl0
  have hfa := tt_fa.refl (K := Kd) (WA := [2, 5, 8, 9]) pl0
  have hI := hK.1
  have hP := hK.2.1
  have hH := hI.1.1
  obtain ⟨⟨g0a, g0b⟩, ⟨g1a, g1b⟩, ⟨g6a, g6b⟩, ⟨g7a, g7b⟩, ⟨g8a, g8b⟩⟩ := hH
  have hB : B ≤ 43920000000 := by omega
  have hB6 : B + 360000000 ≤ 43920000000 := by omega
  have h9a := hK.2.2.1
  have h9b := hK.2.2.2
  have h9 := hK.h9 hC9
  refine jj_aload_n C dX11_dealBy_0 rfl ?_
  refine tt_getF C hok jk_12 0 (by decide) jw_34eaf3ba8b (t := (2, 2, 0)) hk0 (by decide) rfl rfl hm.1 dX11_dealBy_1 ?_
  refine jj_bipush (v := 8) C dX11_dealBy_4 (by decide) ?_
  refine rl_lald C hok (t := (1, (-9223372036854775808), 9223372036854775807)) hkw (by decide) rfl (k := 8) (v := (f 8)) (vp_in_iff.mpr (by decide)) hC (by decide) rfl dX11_dealBy_6 ?_
  obtain ⟨n_1, en_1, vn_1⟩ := rl_l2i (x := (f 8)) (by omega) (by omega)
  refine jj_l2i (v := nI n_1) C dX11_dealBy_7 en_1 ?_
  refine jj_istore_n C dX11_dealBy_8 (by decide) rfl ?_
  refine jj_aload_n C dX11_dealBy_9 rfl ?_
  obtain ⟨qc, gs, hqc⟩ := tt_recv (cx := []) hok hk0 (by decide) rfl
  refine tt_callV (rest := []) C (rs_dealNow hl D cA ak B f hk0 hkw hka hkt hki hkf hkp hI hP hB6 h9 hok hm hC) [] [] rfl rfl (by decide) (by decide) (by decide) qc hqc rfl rfl jw_10d6ffe387 jw_c13a582434 jw_c2b73db722 jw_f96c99f44d jw_fad3683772 jn_X11_dealNow rfl (jj_le rfl) (jj_le rfl) (jj_le rfl) (jj_le rfl) (jj_le rfl) dX11_dealBy_10 rfl (fun _ _ _ hX => hX.elim) (fun rx pl_2 r O_6 => ?_)
  obtain ⟨rfl, hok_3, hr_4, ha_5, hR_7⟩ := O_6
  replace hm := hm.fr hr_4 hk0 rfl
  replace hfr := hfr.trans (hr_4.sub (by decide))
  replace hfa := hfa.trans (ha_5.sub (by decide))
  obtain ⟨g_8, hC_9, hI_10, hP_11, hq_12, hq_13, hq_14, x_15, rfl⟩ := hR_7
  obtain ⟨⟨g0ag_8, g0bg_8⟩, ⟨g1ag_8, g1bg_8⟩, ⟨g6ag_8, g6bg_8⟩, ⟨g7ag_8, g7bg_8⟩, ⟨g8ag_8, g8bg_8⟩⟩ := hI_10.1.1
  refine jj_istore_n C dX11_dealBy_13 (by decide) rfl ?_
  refine jj_aload_n C dX11_dealBy_14 rfl ?_
  refine tt_get C hok_3 jk_12 11 (by decide) jw_dca952cae2 (t := (2, 9, 0)) hk0 (by decide) rfl rfl dX11_dealBy_15 (fun v_16 hv_16 hf_17 => ?_)
  obtain ⟨a_18, rfl, ka_18⟩ := tt_vr hv_16
  refine jj_iload_n C dX11_dealBy_18 rfl ?_
  refine tt_zald C hok_3 (t := (0, (-2147483648), 2147483647)) ka_18 (by decide) rfl (vp_in_iff.mpr ⟨by omega, by omega⟩) dX11_dealBy_19 (fun v_19 hv_19 => ?_)
  refine jj_if_eq (tgt := 25) C dX11_dealBy_20 (by decide) (fun c_20 => ?_) (fun c_20 => ?_)
  · have z_c_20 := jc_eq (a := v_19.toInt) (b := 0) c_20 rfl (by decide)
    refine jj_iload_n C dX11_dealBy_25 rfl ?_
    refine jj_istore C dX11_dealBy_26 (by decide) rfl ?_
    refine jj_iconst (v := 0) C dX11_dealBy_28 (by decide) ?_
    refine jj_istore C dX11_dealBy_29 (by decide) rfl ?_
    have hL_21 : ∀ (N : Nat) (pl : va_W) (k_22 : Nat) (x_23 : Int32), True → tt_ok rt_tk cA Kd pl → tt_fr Kd [(1, 8), (1, 9)] pl0 pl → tt_fa Kd [2, 5, 8, 9] pl0 pl → rl_m pl h0 aw aa at0 ai af ap → tt_at pl h0 11 (.ref a_18) → tt_lc pl aw g_8 → (0 : Int) ≤ (k_22 : Int) → (k_22 : Int) ≤ 11 → (0 : Int) ≤ x_23.toInt → x_23.toInt ≤ 11 → (p1.toInt - ((k_22 : Nat) : Int) ≤ x_23.toInt ∧ x_23.toInt ≤ 11 ∧ ((k_22 : Nat) : Int) ≤ p1.toInt) → (2147483648 - (k_22 : Int) ≤ (N : Int)) → jj_J p l e (jj_rm 9 228 0 0) s m args below meth c 6 A (vx_MQ below (jj_q D A (tt_O (fun rx pl1 r => rx = [] ∧ tt_ok rt_tk cA Kd pl1 ∧ tt_fr Kd [(1, 8), (1, 9)] pl0 pl1 ∧ tt_fa Kd [2, 5, 8, 9] pl0 pl1 ∧ ((∃ g : Nat → Int64, tt_lc pl1 aw g ∧ rl_K B (C9 + 12) g ∧ r = some (.int (-1))) ∨ (∃ g : Nat → Int64, tt_lc pl1 aw g ∧ rl_K B (C9 + 12) g ∧ ∃ v : Int32, 0 ≤ v.toInt ∧ v.toInt ≤ 11 ∧ r = some (.int v)))))) (jj_x D A (tt_OX (fun _ _ _ => False))) args s 0 0 A) (jj_X D A ([] ++ pl)) 0 0 31 [(5, .int (nI k_22)), (4, .int x_23), (3, .int x_15), (2, .int (nI n_1)), (0, .ref h0), (1, .int p1)] [] := by
      intro NL_21
      induction NL_21 with
      | zero => intro pl k_22 x_23 _ hok hfr hfa hm hf_24 hC_9 lk_22 uk_22 lx_23 ux_23 hS9 hNL_21; exfalso; omega
      | succ NL_21 ihL_21 =>
        intro pl k_22 x_23 _ hok hfr hfa hm hf_24 hC_9 lk_22 uk_22 lx_23 ux_23 hS9 hNL_21
        replace ihL_21 := fun pl k_22 x_23 h1 => ihL_21 pl k_22 x_23 trivial h1
        refine jj_iload C dX11_dealBy_31 rfl ?_
        refine jj_iload_n C dX11_dealBy_33 rfl ?_
        refine jj_icmp_ge (tgt := 63) C dX11_dealBy_34 (by decide) (fun c_25 => ?_) (fun c_25 => ?_)
        · have z_c_25 := jc_le (a := p1.toInt) (b := ((k_22 : Nat) : Int)) c_25 rfl (rl_ti (by omega))
          refine jj_iload_n C dX11_dealBy_63 rfl ?_
          refine jj_iload_n C dX11_dealBy_64 rfl ?_
          obtain ⟨x_26, ex_26⟩ : ∃ z : Int32, (nI n_1) - x_15 = z := ⟨_, rfl⟩
          refine jj_isub (v := x_26) C dX11_dealBy_65 ex_26 ?_
          refine jj_iload C dX11_dealBy_66 rfl ?_
          refine jj_icmp_le (tgt := 76) C dX11_dealBy_68 (by decide) (fun c_27 => ?_) (fun c_27 => ?_)
          · have z_c_27 := jc_le (a := x_26.toInt) (b := x_23.toInt) c_27 rfl rfl
            refine jj_iconst (v := (-1)) C dX11_dealBy_76 (by decide) ?_
            exact jj_iret C ⟨[], pl, rfl, rfl, hok, hfr, hfa, (Or.inl ⟨_, hC_9, ⟨hI_10, hP_11, (by have q9 := hq_14; omega)⟩, rfl⟩)⟩ dX11_dealBy_77 (jj_le rfl) (jj_le rfl)
          · have z_c_27 := jc_nle (a := x_26.toInt) (b := x_23.toInt) c_27 rfl rfl
            refine jj_iload C dX11_dealBy_71 rfl ?_
            refine jj_goto (tgt := 77) C dX11_dealBy_73 (by decide) ?_
            exact jj_iret C ⟨[], pl, rfl, rfl, hok, hfr, hfa, (Or.inr ⟨_, hC_9, ⟨hI_10, hP_11, (by have q9 := hq_14; omega)⟩, x_23, (by omega), (by omega), rfl⟩)⟩ dX11_dealBy_77 (jj_le rfl) (jj_le rfl)
        · have z_c_25 := jc_nle (a := p1.toInt) (b := ((k_22 : Nat) : Int)) c_25 rfl (rl_ti (by omega))
          refine jj_iload C dX11_dealBy_37 rfl ?_
          refine jj_aload_n C dX11_dealBy_39 rfl ?_
          refine tt_getF C hok jk_12 11 (by decide) jw_dca952cae2 (t := (2, 9, 0)) hk0 (by decide) rfl rfl hf_24 dX11_dealBy_40 ?_
          refine jj_iload C dX11_dealBy_43 rfl ?_
          refine tt_zald C hok (t := (0, (-2147483648), 2147483647)) ka_18 (by decide) rfl (vp_in_nI (by omega) (by decide)) dX11_dealBy_45 (fun v_28 hv_28 => ?_)
          refine jj_if_eq (tgt := 53) C dX11_dealBy_46 (by decide) (fun c_29 => ?_) (fun c_29 => ?_)
          · have z_c_29 := jc_eq (a := v_28.toInt) (b := 0) c_29 rfl (by decide)
            refine jj_iconst (v := 0) C dX11_dealBy_53 (by decide) ?_
            obtain ⟨x_30, ex_30, vx_30⟩ := tt_isub (x := x_23) (y := (0 : Int32)) (a := x_23.toInt) rfl (b := 0) (by decide) (by omega) (by omega)
            refine jj_isub (v := x_30) C dX11_dealBy_54 ex_30 ?_
            refine jj_istore C dX11_dealBy_55 (by decide) rfl ?_
            refine jj_iinc (v := nI (1 + k_22)) C dX11_dealBy_57 rfl (rl_addR (kn := 1) (by decide) (by omega)) (by decide) rfl ?_
            refine jj_goto (tgt := 31) C dX11_dealBy_60 (by decide) ?_
            exact ihL_21 pl (1 + k_22) x_30 hok hfr hfa hm hf_24 hC_9 (by first | omega | decide | exact tt_lo _ | exact tt_hi _) (by first | omega | decide | exact tt_lo _ | exact tt_hi _) (by first | omega | decide | exact tt_lo _ | exact tt_hi _) (by first | omega | decide | exact tt_lo _ | exact tt_hi _) ⟨by omega, by omega, by omega⟩ (by first | omega | decide | exact tt_lo _ | exact tt_hi _)
          · have z_c_29 := jc_neq (a := v_28.toInt) (b := 0) c_29 rfl (by decide)
            refine jj_iconst (v := 1) C dX11_dealBy_49 (by decide) ?_
            refine jj_goto (tgt := 54) C dX11_dealBy_50 (by decide) ?_
            obtain ⟨x_31, ex_31, vx_31⟩ := tt_isub (x := x_23) (y := (1 : Int32)) (a := x_23.toInt) rfl (b := 1) (by decide) (by omega) (by omega)
            refine jj_isub (v := x_31) C dX11_dealBy_54 ex_31 ?_
            refine jj_istore C dX11_dealBy_55 (by decide) rfl ?_
            refine jj_iinc (v := nI (1 + k_22)) C dX11_dealBy_57 rfl (rl_addR (kn := 1) (by decide) (by omega)) (by decide) rfl ?_
            refine jj_goto (tgt := 31) C dX11_dealBy_60 (by decide) ?_
            exact ihL_21 pl (1 + k_22) x_31 hok hfr hfa hm hf_24 hC_9 (by first | omega | decide | exact tt_lo _ | exact tt_hi _) (by first | omega | decide | exact tt_lo _ | exact tt_hi _) (by first | omega | decide | exact tt_lo _ | exact tt_hi _) (by first | omega | decide | exact tt_lo _ | exact tt_hi _) ⟨by omega, by omega, by omega⟩ (by first | omega | decide | exact tt_lo _ | exact tt_hi _)
    exact hL_21 _ pl_2 0 p1 trivial hok_3 hfr hfa hm hf_17 hC_9 (by first | omega | decide | exact tt_lo _ | exact tt_hi _) (by first | omega | decide | exact tt_lo _ | exact tt_hi _) (by first | omega | decide | exact tt_lo _ | exact tt_hi _) (by first | omega | decide | exact tt_lo _ | exact tt_hi _) ⟨by omega, by omega, by omega⟩ (Int.self_le_toNat _)
  · have z_c_20 := jc_neq (a := v_19.toInt) (b := 0) c_20 rfl (by decide)
    refine jj_iconst (v := (-1)) C dX11_dealBy_23 (by decide) ?_
    exact jj_iret C ⟨[], pl_2, rfl, rfl, hok_3, hfr, hfa, (Or.inl ⟨_, hC_9, ⟨hI_10, hP_11, (by have q9 := hq_14; omega)⟩, rfl⟩)⟩ dX11_dealBy_24 (jj_le rfl) (jj_le rfl)

set_option maxHeartbeats 4000000 in
set_option maxRecDepth 100000 in
theorem rs_dealsUntilDone {l : Launch} (hl : l.stackTraces = false) (D : va_G) (cA : Nat → ClassId) (ak : (Nat → Nat) × (Nat → Nat)) {Kd : Nat → Nat} {h0 aw aa at0 ai af ap : Nat} (n6 : Nat) (p1 : Int32) (B C9 : Int) (f P : Nat → Int64) (hk0 : Kd h0 = 1) (hkw : Kd aw = 2) (hka : Kd aa = 3) (hkt : Kd at0 = 4) (hki : Kd ai = 5) (hkf : Kd af = 6) (hkp : Kd ap = 7) (ln6 : (0 : Int) ≤ (n6 : Int)) (un6 : (n6 : Int) ≤ 10) (hK : rl_K B C9 f) (hHP : rl_HP B C9 P n6) (hB5 : B ≤ 43520000000) (hB0 : 12760000000 ≤ B) (hC9 : 0 ≤ C9 ∧ C9 ≤ 4000000000000000000) {pl0 : va_W} (hok : tt_ok rt_tk cA Kd pl0) (hm : rl_m pl0 h0 aw aa at0 ai af ap) (hC : tt_lc pl0 aw f) (hCp : tt_lc pl0 ap P) (hs6 : tt_at pl0 h0 6 (.int (nI n6))) : jj_M l D cA ak yX11_dealsUntilDone (.code yX11_dealsUntilDone cX11_dealsUntilDone 4 (some .int)) 10 253 0 0 ([] ++ pl0) [.ref h0, .int p1] (tt_O (fun rx pl1 r => rx = [] ∧ tt_ok rt_tk cA Kd pl1 ∧ tt_fr Kd [(1, 7), (1, 8), (1, 9)] pl0 pl1 ∧ tt_fa Kd [2, 4, 5, 8, 9] pl0 pl1 ∧ ((rl_M (B + 30000000) (C9 + 2000) pl1 h0 aw ap ∧ ∃ v : Int32, r = some (.int v))))) (tt_OX (fun _ _ _ => False)) := by
  refine jj_start hl (by decide) jw_30e5bbf5a4 (jj_le rfl) ?_
  intro p e s m args below meth c A hargs hA C hex hmn
  have hfr := tt_fr.refl (K := Kd) (WS := [(1, 7), (1, 8), (1, 9)]) pl0
  have hfa := tt_fa.refl (K := Kd) (WA := [2, 4, 5, 8, 9]) pl0
  have hI := hK.1
  have hP := hK.2.1
  have hH := hI.1.1
  obtain ⟨⟨g0a, g0b⟩, ⟨g1a, g1b⟩, ⟨g6a, g6b⟩, ⟨g7a, g7b⟩, ⟨g8a, g8b⟩⟩ := hH
  have hB : B ≤ 43920000000 := by omega
  have hB6 : B + 360000000 ≤ 43920000000 := by omega
  have h9a := hK.2.2.1
  have h9b := hK.2.2.2
  have h9 : 0 ≤ (f 9).toInt ∧ (f 9).toInt < 4611686018427387000 := ⟨h9a, by omega⟩
  have lp1 := tt_lo p1
  have up1 := tt_hi p1
  refine jj_aload_n C dX11_dealsUntilDone_0 rfl ?_
  refine jj_iload_n C dX11_dealsUntilDone_1 rfl ?_
  obtain ⟨qc, gs, hqc⟩ := tt_recv (cx := []) hok hk0 (by decide) rfl
  refine tt_callV (rest := []) C (rs_isNoRequest hl D cA ak p1 f hk0 hkw hka hkt hki hkf hkp ⟨⟨g0a, g0b⟩, ⟨g1a, g1b⟩, ⟨g6a, g6b⟩, ⟨g7a, g7b⟩, ⟨g8a, g8b⟩⟩ hok hm hC) [] [] rfl rfl (by decide) (by decide) (by decide) qc hqc rfl rfl jw_1118ba758b jw_4c29d1d481 jw_f79fbf9a9e jw_f96c99f44d jw_c6d824393d jn_X11_isNoRequest rfl (jj_le rfl) (jj_le rfl) (jj_le rfl) (jj_le rfl) (jj_le rfl) dX11_dealsUntilDone_2 rfl (fun _ _ _ hX => hX.elim) (fun rx pl_1 r O_5 => ?_)
  obtain ⟨rfl, hok_2, hr_3, ha_4, hR_6⟩ := O_5
  replace hs6 := hr_3.at hk0 (by decide) (by decide) hs6
  replace hC := ha_4.at hkw (by decide) (by decide) hC
  replace hCp := ha_4.at hkp (by decide) (by decide) hCp
  replace hm := hm.fr hr_3 hk0 rfl
  replace hfr := hfr.trans (hr_3.sub (by decide))
  replace hfa := hfa.trans (ha_4.sub (by decide))
  rcases hR_6 with rfl | ⟨hz_7, rfl⟩
  · refine jj_if_eqF (tgt := 10) C dX11_dealsUntilDone_5 (by decide) (by decide) ?_
    refine jj_iconst (v := 0) C dX11_dealsUntilDone_8 (by decide) ?_
    exact jj_iret C ⟨[], pl_1, rfl, rfl, hok_2, hfr, hfa, ⟨⟨_, _, n6, hC, hCp, hs6, (by omega), (hK.mono (by omega) (by omega)), hHP.mono (by omega) (by omega)⟩, (0 : Int32), rfl⟩⟩ dX11_dealsUntilDone_9 (jj_le rfl) (jj_le rfl)
  · have hz_71 := hz_7.1
    have hz_72 := hz_7.2
    refine jj_if_eqT (tgt := 10) C dX11_dealsUntilDone_5 (by decide) (by decide) ?_
    refine jj_aload_n C dX11_dealsUntilDone_10 rfl ?_
    refine tt_getF C hok_2 jk_12 0 (by decide) jw_34eaf3ba8b (t := (2, 2, 0)) hk0 (by decide) rfl rfl hm.1 dX11_dealsUntilDone_11 ?_
    refine jj_aload_n C dX11_dealsUntilDone_14 rfl ?_
    refine tt_getF C hok_2 jk_12 2 (by decide) jw_bca200ef97 (t := (2, 4, 0)) hk0 (by decide) rfl rfl hm.2.2.1 dX11_dealsUntilDone_15 ?_
    refine tt_callS (rest := []) C (rs_copy_aw_at0 hl D cA ak f hk0 hkw hka hkt hki hkf hkp hok_2 hm hC) [] [] rfl rfl (by decide) (by decide) (by decide) jw_b2f7d68e03 jw_8cf8ac8b0e jw_f96c99f44d jw_1431b790b8 jn_X11_copy rfl (jj_le rfl) (jj_le rfl) (jj_le rfl) (jj_le rfl) (jj_le rfl) dX11_dealsUntilDone_18 rfl (fun _ _ _ hX => hX.elim) (fun rx pl_8 r O_12 => ?_)
    obtain ⟨rfl, hok_9, hr_10, ha_11, hR_13⟩ := O_12
    replace hs6 := hr_10.at hk0 (by decide) (by decide) hs6
    replace hC := ha_11.at hkw (by decide) (by decide) hC
    replace hCp := ha_11.at hkp (by decide) (by decide) hCp
    replace hm := hm.fr hr_10 hk0 rfl
    replace hfr := hfr.trans (hr_10.sub (by decide))
    replace hfa := hfa.trans (ha_11.sub (by decide))
    obtain ⟨g_14, hC_15, he_16, rfl⟩ := hR_13
    refine jj_iconst (v := 0) C dX11_dealsUntilDone_21 (by decide) ?_
    refine jj_istore_n C dX11_dealsUntilDone_22 (by decide) rfl ?_
    refine jj_iload_n C dX11_dealsUntilDone_23 rfl ?_
    refine jj_istore_n C dX11_dealsUntilDone_24 (by decide) rfl ?_
    have hL_17 : ∀ (N : Nat) (pl : va_W) (x_18 : Int32) (k_19 : Nat) (g_20 : Nat → Int64), True → tt_ok rt_tk cA Kd pl → tt_fr Kd [(1, 7), (1, 8), (1, 9)] pl0 pl → tt_fa Kd [2, 4, 5, 8, 9] pl0 pl → rl_m pl h0 aw aa at0 ai af ap → tt_at pl h0 6 (.int (nI n6)) → tt_lc pl ap P → tt_lc pl at0 g_14 → tt_lc pl aw g_20 → rl_K B (C9 + 12 * ((k_19 : Nat) : Int)) g_20 → (-1 : Int) ≤ x_18.toInt → x_18.toInt ≤ 11 → (0 : Int) ≤ (k_19 : Int) → (k_19 : Int) ≤ 399 → (2147483648 - (k_19 : Int) ≤ (N : Int)) → jj_J p l e (jj_rm 10 253 0 0) s m args below meth c 4 A (vx_MQ below (jj_q D A (tt_O (fun rx pl1 r => rx = [] ∧ tt_ok rt_tk cA Kd pl1 ∧ tt_fr Kd [(1, 7), (1, 8), (1, 9)] pl0 pl1 ∧ tt_fa Kd [2, 4, 5, 8, 9] pl0 pl1 ∧ ((rl_M (B + 30000000) (C9 + 2000) pl1 h0 aw ap ∧ ∃ v : Int32, r = some (.int v)))))) (jj_x D A (tt_OX (fun _ _ _ => False))) args s 0 0 A) (jj_X D A ([] ++ pl)) 0 0 25 [(3, .int x_18), (2, .int (nI k_19)), (0, .ref h0), (1, .int p1)] [] := by
      intro NL_17
      induction NL_17 with
      | zero => intro pl x_18 k_19 g_20 _ hok hfr hfa hm hf_21 hCp hC_15 hC_22 hD_23 lx_18 ux_18 lk_19 uk_19 hNL_17; exfalso; omega
      | succ NL_17 ihL_17 =>
        intro pl x_18 k_19 g_20 _ hok hfr hfa hm hf_21 hCp hC_15 hC_22 hD_23 lx_18 ux_18 lk_19 uk_19 hNL_17
        replace ihL_17 := fun pl x_18 k_19 g_20 h1 => ihL_17 pl x_18 k_19 g_20 trivial h1
        obtain ⟨⟨g0ag_20, g0bg_20⟩, ⟨g1ag_20, g1bg_20⟩, ⟨g6ag_20, g6bg_20⟩, ⟨g7ag_20, g7bg_20⟩, ⟨g8ag_20, g8bg_20⟩⟩ := (hD_23.1).1.1
        refine jj_iload_n C dX11_dealsUntilDone_25 rfl ?_
        refine jj_iconst (v := (-1)) C dX11_dealsUntilDone_26 (by decide) ?_
        refine jj_icmp_eq (tgt := 48) C dX11_dealsUntilDone_27 (by decide) (fun c_24 => ?_) (fun c_24 => ?_)
        · have z_c_24 := jc_eq (a := x_18.toInt) (b := (-1)) c_24 rfl (by decide)
          refine jj_aload_n C dX11_dealsUntilDone_48 rfl ?_
          refine tt_getF C hok jk_12 2 (by decide) jw_bca200ef97 (t := (2, 4, 0)) hk0 (by decide) rfl rfl hm.2.2.1 dX11_dealsUntilDone_49 ?_
          refine jj_aload_n C dX11_dealsUntilDone_52 rfl ?_
          refine tt_getF C hok jk_12 0 (by decide) jw_34eaf3ba8b (t := (2, 2, 0)) hk0 (by decide) rfl rfl hm.1 dX11_dealsUntilDone_53 ?_
          refine tt_callS (rest := []) C (rs_copy_at0_aw hl D cA ak g_14 hk0 hkw hka hkt hki hkf hkp hok hm hC_15) [] [] rfl rfl (by decide) (by decide) (by decide) jw_b2f7d68e03 jw_8cf8ac8b0e jw_f96c99f44d jw_1431b790b8 jn_X11_copy rfl (jj_le rfl) (jj_le rfl) (jj_le rfl) (jj_le rfl) (jj_le rfl) dX11_dealsUntilDone_56 rfl (fun _ _ _ hX => hX.elim) (fun rx pl_25 r O_29 => ?_)
          obtain ⟨rfl, hok_26, hr_27, ha_28, hR_30⟩ := O_29
          replace hf_21 := hr_27.at hk0 (by decide) (by decide) hf_21
          replace hCp := ha_28.at hkp (by decide) (by decide) hCp
          replace hC_15 := ha_28.at hkt (by decide) (by decide) hC_15
          replace hm := hm.fr hr_27 hk0 rfl
          replace hfr := hfr.trans (hr_27.sub (by decide))
          replace hfa := hfa.trans (ha_28.sub (by decide))
          obtain ⟨g_31, hC_32, he_33, rfl⟩ := hR_30
          obtain ⟨⟨g0ag_31, g0bg_31⟩, ⟨g1ag_31, g1bg_31⟩, ⟨g6ag_31, g6bg_31⟩, ⟨g7ag_31, g7bg_31⟩, ⟨g8ag_31, g8bg_31⟩⟩ := (rl_I.cong (rl_I.cong hI he_16).1 he_33).1.1.1
          refine jj_iload_n C dX11_dealsUntilDone_59 rfl ?_
          refine jj_bipush (v := 100) C dX11_dealsUntilDone_60 (by decide) ?_
          refine jj_icmp_le (tgt := 69) C dX11_dealsUntilDone_62 (by decide) (fun c_34 => ?_) (fun c_34 => ?_)
          · have z_c_34 := jc_le (a := ((k_19 : Nat) : Int)) (b := 100) c_34 (rl_ti (by omega)) (by decide)
            refine jj_iload_n C dX11_dealsUntilDone_69 rfl ?_
            exact jj_iret C ⟨[], pl_25, rfl, rfl, hok_26, hfr, hfa, ⟨⟨_, _, n6, hC_32, hCp, hf_21, (by omega), (((hK.cong he_16).cong he_33).mono (by omega) (by omega)), hHP.mono (by omega) (by omega)⟩, (nI k_19), rfl⟩⟩ dX11_dealsUntilDone_70 (jj_le rfl) (jj_le rfl)
          · have z_c_34 := jc_nle (a := ((k_19 : Nat) : Int)) (b := 100) c_34 (rl_ti (by omega)) (by decide)
            refine jj_iconst (v := (-1)) C dX11_dealsUntilDone_65 (by decide) ?_
            refine jj_goto (tgt := 70) C dX11_dealsUntilDone_66 (by decide) ?_
            exact jj_iret C ⟨[], pl_25, rfl, rfl, hok_26, hfr, hfa, ⟨⟨_, _, n6, hC_32, hCp, hf_21, (by omega), (((hK.cong he_16).cong he_33).mono (by omega) (by omega)), hHP.mono (by omega) (by omega)⟩, ((-1) : Int32), rfl⟩⟩ dX11_dealsUntilDone_70 (jj_le rfl) (jj_le rfl)
        · have z_c_24 := jc_neq (a := x_18.toInt) (b := (-1)) c_24 rfl (by decide)
          refine jj_iload_n C dX11_dealsUntilDone_30 rfl ?_
          refine jj_bipush (v := 100) C dX11_dealsUntilDone_31 (by decide) ?_
          refine jj_icmp_gt (tgt := 48) C dX11_dealsUntilDone_33 (by decide) (fun c_35 => ?_) (fun c_35 => ?_)
          · have z_c_35 := jc_lt (a := 100) (b := ((k_19 : Nat) : Int)) c_35 (by decide) (rl_ti (by omega))
            refine jj_aload_n C dX11_dealsUntilDone_48 rfl ?_
            refine tt_getF C hok jk_12 2 (by decide) jw_bca200ef97 (t := (2, 4, 0)) hk0 (by decide) rfl rfl hm.2.2.1 dX11_dealsUntilDone_49 ?_
            refine jj_aload_n C dX11_dealsUntilDone_52 rfl ?_
            refine tt_getF C hok jk_12 0 (by decide) jw_34eaf3ba8b (t := (2, 2, 0)) hk0 (by decide) rfl rfl hm.1 dX11_dealsUntilDone_53 ?_
            refine tt_callS (rest := []) C (rs_copy_at0_aw hl D cA ak g_14 hk0 hkw hka hkt hki hkf hkp hok hm hC_15) [] [] rfl rfl (by decide) (by decide) (by decide) jw_b2f7d68e03 jw_8cf8ac8b0e jw_f96c99f44d jw_1431b790b8 jn_X11_copy rfl (jj_le rfl) (jj_le rfl) (jj_le rfl) (jj_le rfl) (jj_le rfl) dX11_dealsUntilDone_56 rfl (fun _ _ _ hX => hX.elim) (fun rx pl_36 r O_40 => ?_)
            obtain ⟨rfl, hok_37, hr_38, ha_39, hR_41⟩ := O_40
            replace hf_21 := hr_38.at hk0 (by decide) (by decide) hf_21
            replace hCp := ha_39.at hkp (by decide) (by decide) hCp
            replace hC_15 := ha_39.at hkt (by decide) (by decide) hC_15
            replace hm := hm.fr hr_38 hk0 rfl
            replace hfr := hfr.trans (hr_38.sub (by decide))
            replace hfa := hfa.trans (ha_39.sub (by decide))
            obtain ⟨g_42, hC_43, he_44, rfl⟩ := hR_41
            obtain ⟨⟨g0ag_42, g0bg_42⟩, ⟨g1ag_42, g1bg_42⟩, ⟨g6ag_42, g6bg_42⟩, ⟨g7ag_42, g7bg_42⟩, ⟨g8ag_42, g8bg_42⟩⟩ := (rl_I.cong (rl_I.cong hI he_16).1 he_44).1.1.1
            refine jj_iload_n C dX11_dealsUntilDone_59 rfl ?_
            refine jj_bipush (v := 100) C dX11_dealsUntilDone_60 (by decide) ?_
            refine jj_icmp_le (tgt := 69) C dX11_dealsUntilDone_62 (by decide) (fun c_45 => ?_) (fun c_45 => ?_)
            · have z_c_45 := jc_le (a := ((k_19 : Nat) : Int)) (b := 100) c_45 (rl_ti (by omega)) (by decide)
              exfalso; omega
            · have z_c_45 := jc_nle (a := ((k_19 : Nat) : Int)) (b := 100) c_45 (rl_ti (by omega)) (by decide)
              refine jj_iconst (v := (-1)) C dX11_dealsUntilDone_65 (by decide) ?_
              refine jj_goto (tgt := 70) C dX11_dealsUntilDone_66 (by decide) ?_
              exact jj_iret C ⟨[], pl_36, rfl, rfl, hok_37, hfr, hfa, ⟨⟨_, _, n6, hC_43, hCp, hf_21, (by omega), (((hK.cong he_16).cong he_44).mono (by omega) (by omega)), hHP.mono (by omega) (by omega)⟩, ((-1) : Int32), rfl⟩⟩ dX11_dealsUntilDone_70 (jj_le rfl) (jj_le rfl)
          · have z_c_35 := jc_nlt (a := 100) (b := ((k_19 : Nat) : Int)) c_35 (by decide) (rl_ti (by omega))
            refine jj_aload_n C dX11_dealsUntilDone_36 rfl ?_
            refine jj_iload_n C dX11_dealsUntilDone_37 rfl ?_
            obtain ⟨qc, gs, hqc⟩ := tt_recv (cx := []) hok hk0 (by decide) rfl
            refine tt_callV (rest := []) C (rs_dealBy hl D cA ak x_18 B (C9 + 12 * ((k_19 : Nat) : Int)) g_20 hk0 hkw hka hkt hki hkf hkp (by omega) (by omega) hD_23 hB5 (by omega) hok hm hC_22) [] [] rfl rfl (by decide) (by decide) (by decide) qc hqc rfl rfl jw_f4bdb14a0d jw_7f2ee23b91 jw_7f49857b5e jw_f96c99f44d jw_69dfefb26d jn_X11_dealBy rfl (jj_le rfl) (jj_le rfl) (jj_le rfl) (jj_le rfl) (jj_le rfl) dX11_dealsUntilDone_38 rfl (fun _ _ _ hX => hX.elim) (fun rx pl_46 r O_50 => ?_)
            obtain ⟨rfl, hok_47, hr_48, ha_49, hR_51⟩ := O_50
            replace hf_21 := hr_48.at hk0 (by decide) (by decide) hf_21
            replace hCp := ha_49.at hkp (by decide) (by decide) hCp
            replace hC_15 := ha_49.at hkt (by decide) (by decide) hC_15
            replace hm := hm.fr hr_48 hk0 rfl
            replace hfr := hfr.trans (hr_48.sub (by decide))
            replace hfa := hfa.trans (ha_49.sub (by decide))
            rcases hR_51 with ⟨g_52, hC_53, hK_54, rfl⟩ | ⟨g_55, hC_56, hK_57, x_58, lx_58, ux_58, rfl⟩
            · obtain ⟨⟨g0ag_52, g0bg_52⟩, ⟨g1ag_52, g1bg_52⟩, ⟨g6ag_52, g6bg_52⟩, ⟨g7ag_52, g7bg_52⟩, ⟨g8ag_52, g8bg_52⟩⟩ := hK_54.1.1.1
              refine jj_istore_n C dX11_dealsUntilDone_41 (by decide) rfl ?_
              refine jj_iinc (v := nI (1 + k_19)) C dX11_dealsUntilDone_42 rfl (rl_addR (kn := 1) (by decide) (by omega)) (by decide) rfl ?_
              refine jj_goto (tgt := 25) C dX11_dealsUntilDone_45 (by decide) ?_
              refine jj_loc [1, 0, 2, 3] rfl ?_
              exact ihL_17 pl_46 ((-1) : Int32) (1 + k_19) g_52 hok_47 hfr hfa hm hf_21 hCp hC_15 hC_53 (hK_54.mono (by omega) (by omega)) (by first | omega | decide | exact tt_lo _ | exact tt_hi _) (by first | omega | decide | exact tt_lo _ | exact tt_hi _) (by first | omega | decide | exact tt_lo _ | exact tt_hi _) (by first | omega | decide | exact tt_lo _ | exact tt_hi _) (by first | omega | decide | exact tt_lo _ | exact tt_hi _)
            · obtain ⟨⟨g0ag_55, g0bg_55⟩, ⟨g1ag_55, g1bg_55⟩, ⟨g6ag_55, g6bg_55⟩, ⟨g7ag_55, g7bg_55⟩, ⟨g8ag_55, g8bg_55⟩⟩ := hK_57.1.1.1
              refine jj_istore_n C dX11_dealsUntilDone_41 (by decide) rfl ?_
              refine jj_iinc (v := nI (1 + k_19)) C dX11_dealsUntilDone_42 rfl (rl_addR (kn := 1) (by decide) (by omega)) (by decide) rfl ?_
              refine jj_goto (tgt := 25) C dX11_dealsUntilDone_45 (by decide) ?_
              refine jj_loc [1, 0, 2, 3] rfl ?_
              exact ihL_17 pl_46 x_58 (1 + k_19) g_55 hok_47 hfr hfa hm hf_21 hCp hC_15 hC_56 (hK_57.mono (by omega) (by omega)) (by first | omega | decide | exact tt_lo _ | exact tt_hi _) (by first | omega | decide | exact tt_lo _ | exact tt_hi _) (by first | omega | decide | exact tt_lo _ | exact tt_hi _) (by first | omega | decide | exact tt_lo _ | exact tt_hi _) (by first | omega | decide | exact tt_lo _ | exact tt_hi _)
    exact hL_17 _ pl_8 p1 0 f trivial hok_9 hfr hfa hm hs6 hCp hC_15 hC (hK.mono (by omega) (by omega)) (by first | omega | decide | exact tt_lo _ | exact tt_hi _) (by first | omega | decide | exact tt_lo _ | exact tt_hi _) (by first | omega | decide | exact tt_lo _ | exact tt_hi _) (by first | omega | decide | exact tt_lo _ | exact tt_hi _) (Int.self_le_toNat _)

set_option maxHeartbeats 4000000 in
set_option maxRecDepth 100000 in
theorem rs_gainH {l : Launch} (hl : l.stackTraces = false) (D : va_G) (cA : Nat → ClassId) (ak : (Nat → Nat) × (Nat → Nat)) {Kd : Nat → Nat} {h0 aw aa at0 ai af ap : Nat} (p1 : Int32) (f : Nat → Int64) (hk0 : Kd h0 = 1) (hkw : Kd aw = 2) (hka : Kd aa = 3) (hkt : Kd at0 = 4) (hki : Kd ai = 5) (hkf : Kd af = 6) (hkp : Kd ap = 7) (hH : rl_h f) {pl0 : va_W} (hok : tt_ok rt_tk cA Kd pl0) (hm : rl_m pl0 h0 aw aa at0 ai af ap) (hC : tt_lc pl0 aw f) : jj_M l D cA ak yX11_gain (.code yX11_gain cX11_gain 8 (some .long)) 1 20 0 0 ([] ++ pl0) [.ref h0, .int p1] (tt_O (fun rx pl1 r => rx = [] ∧ tt_ok rt_tk cA Kd pl1 ∧ tt_fr Kd [] pl0 pl1 ∧ tt_fa Kd [2] pl0 pl1 ∧ ((∃ g : Nat → Int64, tt_lc pl1 aw g ∧ (∀ i : Nat, i < 10 → g i = f i) ∧ ∃ v : Int64, r = some (.long v))))) (tt_OX (fun _ _ _ => False)) := by
  refine jj_start hl (by decide) jw_7b130daeac (jj_le rfl) ?_
  intro p e s m args below meth c A hargs hA C hex hmn
  have hfr := tt_fr.refl (K := Kd) (WS := []) pl0
  have hfa := tt_fa.refl (K := Kd) (WA := [2]) pl0
  have hH0 := hH
  obtain ⟨⟨g0a, g0b⟩, ⟨g1a, g1b⟩, ⟨g6a, g6b⟩, ⟨g7a, g7b⟩, ⟨g8a, g8b⟩⟩ := hH
  have lp1 := tt_lo p1
  have up1 := tt_hi p1
  refine jj_lconst (v := 0) C dX11_gain_0 (by decide) ?_
  refine jj_lstore_n C dX11_gain_1 (by decide) rfl ?_
  refine jj_iconst (v := 0) C dX11_gain_2 (by decide) ?_
  refine jj_istore C dX11_gain_3 (by decide) rfl ?_
  have hL_1 : ∀ (N : Nat) (pl : va_W) (k_2 : Nat) (y_3 : Int64) (g_4 : Nat → Int64), True → tt_ok rt_tk cA Kd pl → tt_fr Kd [] pl0 pl → tt_fa Kd [2] pl0 pl → rl_m pl h0 aw aa at0 ai af ap → tt_lc pl aw g_4 → (∀ i : Nat, i < 10 → g_4 i = f i) → (0 : Int) ≤ (k_2 : Int) → (k_2 : Int) ≤ 6 → (2147483648 - (k_2 : Int) ≤ (N : Int)) → jj_J p l e (jj_rm 1 20 0 0) s m args below meth c 8 A (vx_MQ below (jj_q D A (tt_O (fun rx pl1 r => rx = [] ∧ tt_ok rt_tk cA Kd pl1 ∧ tt_fr Kd [] pl0 pl1 ∧ tt_fa Kd [2] pl0 pl1 ∧ ((∃ g : Nat → Int64, tt_lc pl1 aw g ∧ (∀ i : Nat, i < 10 → g i = f i) ∧ ∃ v : Int64, r = some (.long v)))))) (jj_x D A (tt_OX (fun _ _ _ => False))) args s 0 0 A) (jj_X D A ([] ++ pl)) 0 0 5 [(4, .int (nI k_2)), (2, .long y_3), (0, .ref h0), (1, .int p1)] [] := by
    intro NL_1
    induction NL_1 with
    | zero => intro pl k_2 y_3 g_4 _ hok hfr hfa hm hC_5 hD_6 lk_2 uk_2 hNL_1; exfalso; omega
    | succ NL_1 ihL_1 =>
      intro pl k_2 y_3 g_4 _ hok hfr hfa hm hC_5 hD_6 lk_2 uk_2 hNL_1
      replace ihL_1 := fun pl k_2 y_3 g_4 h1 => ihL_1 pl k_2 y_3 g_4 trivial h1
      obtain ⟨⟨g0ag_4, g0bg_4⟩, ⟨g1ag_4, g1bg_4⟩, ⟨g6ag_4, g6bg_4⟩, ⟨g7ag_4, g7bg_4⟩, ⟨g8ag_4, g8bg_4⟩⟩ := (rl_h.cong hH0 hD_6)
      refine jj_iload C dX11_gain_5 rfl ?_
      refine jj_i2l C dX11_gain_7 rfl ?_
      refine jj_aload_n C dX11_gain_8 rfl ?_
      refine tt_getF C hok jk_12 0 (by decide) jw_34eaf3ba8b (t := (2, 2, 0)) hk0 (by decide) rfl rfl hm.1 dX11_gain_9 ?_
      refine jj_bipush (v := 6) C dX11_gain_12 (by decide) ?_
      refine rl_lald C hok (t := (1, (-9223372036854775808), 9223372036854775807)) hkw (by decide) rfl (k := 6) (v := (g_4 6)) (vp_in_iff.mpr (by decide)) hC_5 (by decide) rfl dX11_gain_14 ?_
      refine jj_lcmp_ge (tgt := 69) C dX11_gain_15 dX11_gain_16 (by decide) (fun c_7 => ?_) (fun c_7 => ?_)
      · have z_c_7 := jc_leL (a := (g_4 6).toInt) (b := ((k_2 : Nat) : Int)) c_7 rfl (rl_tl (by omega))
        refine jj_aload_n C dX11_gain_69 rfl ?_
        refine tt_getF C hok jk_12 0 (by decide) jw_34eaf3ba8b (t := (2, 2, 0)) hk0 (by decide) rfl rfl hm.1 dX11_gain_70 ?_
        refine jj_bipush (v := 14) C dX11_gain_73 (by decide) ?_
        refine jj_dup2 C dX11_gain_75 rfl rfl ?_
        refine rl_lald C hok (t := (1, (-9223372036854775808), 9223372036854775807)) hkw (by decide) rfl (k := 14) (v := (g_4 14)) (vp_in_iff.mpr (by decide)) hC_5 (by decide) rfl dX11_gain_76 ?_
        refine jj_lload_n C dX11_gain_77 rfl ?_
        refine jj_ladd C dX11_gain_78 rfl ?_
        refine rl_last C hok (t := (1, (-9223372036854775808), 9223372036854775807)) hkw (by decide) rfl (k := 14) (vp_in_iff.mpr (by decide)) (tt_ja _) (by decide) dX11_gain_79 (fun pl_8 hok_9 tr tl tw => ?_)
        replace hm := hm.arr tr
        replace hfr := hfr.arr tr
        replace hC_5 := tw _ hC_5
        replace hfa := hfa.wr hkw tl (by decide)
        refine jj_lload_n C dX11_gain_80 rfl ?_
        exact jj_lret C ⟨[], pl_8, rfl, rfl, hok_9, hfr, hfa, ⟨_, hC_5, (fun i hi => (rl_ne (by omega) (hD_6 i hi))), _, rfl⟩⟩ dX11_gain_81 (jj_le rfl) (jj_le rfl)
      · have z_c_7 := jc_nleL (a := (g_4 6).toInt) (b := ((k_2 : Nat) : Int)) c_7 rfl (rl_tl (by omega))
        refine jj_iload C dX11_gain_19 rfl ?_
        refine tt_call0S (rest := []) C (rn_seriesAt hl D cA ak k_2 (16 + 5 * k_2) (by omega)) jw_6251557f40 jw_b2cd40a13f jw_f96c99f44d jw_6245231363 jn_X11_seriesAt rfl (jj_le rfl) (jj_le rfl) (jj_le rfl) (jj_le rfl) (jj_le rfl) dX11_gain_21 rfl (fun w1 r hO => ?_)
        obtain ⟨-, rfl⟩ := hO
        refine jj_istore C dX11_gain_24 (by decide) rfl ?_
        refine jj_aload_n C dX11_gain_26 rfl ?_
        refine tt_getF C hok jk_12 0 (by decide) jw_34eaf3ba8b (t := (2, 2, 0)) hk0 (by decide) rfl rfl hm.1 dX11_gain_27 ?_
        refine jj_iload C dX11_gain_30 rfl ?_
        refine jj_iconst (v := 2) C dX11_gain_32 (by decide) ?_
        refine jj_iadd (v := nI (18 + 5 * k_2)) C dX11_gain_33 (rl_addR (kn := 2) (by decide) (by omega)) ?_
        refine rl_lald C hok (t := (1, (-9223372036854775808), 9223372036854775807)) hkw (by decide) rfl (k := 18 + 5 * k_2) (v := (g_4 (18 + 5 * k_2))) (vp_in_nI (by omega) (by decide)) hC_5 (nI_clamp (by omega)) rfl dX11_gain_34 ?_
        refine jj_iload_n C dX11_gain_35 rfl ?_
        obtain ⟨y_10, ey_10, vy_10⟩ := tt_i2l p1
        refine jj_i2l (v := y_10) C dX11_gain_36 ey_10 ?_
        refine jj_lmul C dX11_gain_37 rfl ?_
        refine jj_ldc2 (v := 10000) C dX11_gain_38 jw_d680bb70d7 ?_
        refine jj_ldiv C dX11_gain_41 (by decide) rfl ?_
        refine jj_lstore C dX11_gain_42 (by decide) rfl ?_
        refine jj_aload_n C dX11_gain_44 rfl ?_
        refine tt_getF C hok jk_12 0 (by decide) jw_34eaf3ba8b (t := (2, 2, 0)) hk0 (by decide) rfl rfl hm.1 dX11_gain_45 ?_
        refine jj_iload C dX11_gain_48 rfl ?_
        refine jj_iconst (v := 2) C dX11_gain_50 (by decide) ?_
        refine jj_iadd (v := nI (18 + 5 * k_2)) C dX11_gain_51 (rl_addR (kn := 2) (by decide) (by omega)) ?_
        refine jj_dup2 C dX11_gain_52 rfl rfl ?_
        refine rl_lald C hok (t := (1, (-9223372036854775808), 9223372036854775807)) hkw (by decide) rfl (k := 18 + 5 * k_2) (v := (g_4 (18 + 5 * k_2))) (vp_in_nI (by omega) (by decide)) hC_5 (nI_clamp (by omega)) rfl dX11_gain_53 ?_
        refine jj_lload C dX11_gain_54 rfl ?_
        refine jj_ladd C dX11_gain_56 rfl ?_
        refine rl_last C hok (t := (1, (-9223372036854775808), 9223372036854775807)) hkw (by decide) rfl (k := 18 + 5 * k_2) (vp_in_nI (by omega) (by decide)) (tt_ja _) (nI_clamp (by omega)) dX11_gain_57 (fun pl_11 hok_12 tr tl tw => ?_)
        replace hm := hm.arr tr
        replace hfr := hfr.arr tr
        replace hC_5 := tw _ hC_5
        replace hfa := hfa.wr hkw tl (by decide)
        refine jj_lload_n C dX11_gain_58 rfl ?_
        refine jj_lload C dX11_gain_59 rfl ?_
        refine jj_ladd C dX11_gain_61 rfl ?_
        refine jj_lstore_n C dX11_gain_62 (by decide) rfl ?_
        refine jj_iinc (v := nI (1 + k_2)) C dX11_gain_63 rfl (rl_addR (kn := 1) (by decide) (by omega)) (by decide) rfl ?_
        refine jj_goto (tgt := 5) C dX11_gain_66 (by decide) ?_
        refine jj_loc [0, 1, 4, 5] rfl ?_
        exact ihL_1 pl_11 (1 + k_2) (y_3 + (((g_4 (18 + 5 * k_2)) * y_10) / (10000 : Int64))) (vp_updL g_4 (18 + 5 * k_2) ((g_4 (18 + 5 * k_2)) + (((g_4 (18 + 5 * k_2)) * y_10) / (10000 : Int64)))) hok_12 hfr hfa hm hC_5 (fun i hi => rl_ne (by omega) (hD_6 i hi)) (by first | omega | decide | exact tt_lo _ | exact tt_hi _) (by first | omega | decide | exact tt_lo _ | exact tt_hi _) (by first | omega | decide | exact tt_lo _ | exact tt_hi _)
  exact hL_1 _ pl0 0 (0 : Int64) f trivial hok hfr hfa hm hC (fun _ _ => rfl) (by first | omega | decide | exact tt_lo _ | exact tt_hi _) (by first | omega | decide | exact tt_lo _ | exact tt_hi _) (Int.self_le_toNat _)

set_option maxHeartbeats 4000000 in
set_option maxRecDepth 100000 in
theorem rs_feesIf {l : Launch} (hl : l.stackTraces = false) (D : va_G) (cA : Nat → ClassId) (ak : (Nat → Nat) × (Nat → Nat)) {Kd : Nat → Nat} {h0 aw aa at0 ai af ap : Nat} (n6 : Nat) (p1 : Int32) (B C9 : Int) (f P : Nat → Int64) (hk0 : Kd h0 = 1) (hkw : Kd aw = 2) (hka : Kd aa = 3) (hkt : Kd at0 = 4) (hki : Kd ai = 5) (hkf : Kd af = 6) (hkp : Kd ap = 7) (ln6 : (0 : Int) ≤ (n6 : Int)) (un6 : (n6 : Int) ≤ 10) (hK : rl_K B C9 f) (hHP : rl_HP B C9 P n6) (hB5 : B ≤ 43520000000) (hB0 : 12760000000 ≤ B) (hC9 : 0 ≤ C9 ∧ C9 ≤ 4000000000000000000) {pl0 : va_W} (hok : tt_ok rt_tk cA Kd pl0) (hm : rl_m pl0 h0 aw aa at0 ai af ap) (hC : tt_lc pl0 aw f) (hCp : tt_lc pl0 ap P) (hs6 : tt_at pl0 h0 6 (.int (nI n6))) : jj_M l D cA ak yX11_feesIf (.code yX11_feesIf cX11_feesIf 6 (some .long)) 3 69 0 0 ([] ++ pl0) [.ref h0, .int p1] (tt_O (fun rx pl1 r => rx = [] ∧ tt_ok rt_tk cA Kd pl1 ∧ tt_fr Kd [(1, 7)] pl0 pl1 ∧ tt_fa Kd [2, 4] pl0 pl1 ∧ ((rl_M (B + 30000000) (C9 + 2000) pl1 h0 aw ap ∧ ∃ v : Int64, r = some (.long v))))) (tt_OX (fun _ _ _ => False)) := by
  refine jj_start hl (by decide) jw_c07f5da8d0 (jj_le rfl) ?_
  intro p e s m args below meth c A hargs hA C hex hmn
  have hfr := tt_fr.refl (K := Kd) (WS := [(1, 7)]) pl0
  have hfa := tt_fa.refl (K := Kd) (WA := [2, 4]) pl0
  have hI := hK.1
  have hP := hK.2.1
  have hH := hI.1.1
  obtain ⟨⟨g0a, g0b⟩, ⟨g1a, g1b⟩, ⟨g6a, g6b⟩, ⟨g7a, g7b⟩, ⟨g8a, g8b⟩⟩ := hH
  have hB : B ≤ 43920000000 := by omega
  have hB6 : B + 360000000 ≤ 43920000000 := by omega
  have h9a := hK.2.2.1
  have h9b := hK.2.2.2
  have h9 : 0 ≤ (f 9).toInt ∧ (f 9).toInt < 4611686018427387000 := ⟨h9a, by omega⟩
  have lp1 := tt_lo p1
  have up1 := tt_hi p1
  refine jj_aload_n C dX11_feesIf_0 rfl ?_
  refine jj_iload_n C dX11_feesIf_1 rfl ?_
  refine tt_call0S (rest := [.ref h0]) C (ct_X11_isRate_s1 hl D cA ak p1) jw_52be377752 jw_cfa2869052 jw_f96c99f44d jw_adf3c6b06d jn_X11_isRate rfl (jj_le rfl) (jj_le rfl) (jj_le rfl) (jj_le rfl) (jj_le rfl) dX11_feesIf_2 rfl (fun w1 r O_1 => ?_)
  rcases O_1 with ⟨c_2, -, rfl⟩ | ⟨c_3, c_4, -, rfl⟩ | ⟨c_5, c_6, -, rfl⟩
  · have z_c_2 := jc_ltL (a := p1.toInt) (b := (-9000)) c_2 (Int32.toInt_toInt64 p1) (by decide)
    refine jj_if_neF (tgt := 12) C dX11_feesIf_5 (by decide) (by decide) ?_
    refine jj_iconst (v := 1) C dX11_feesIf_8 (by decide) ?_
    refine jj_goto (tgt := 13) C dX11_feesIf_9 (by decide) ?_
    refine jj_iconst (v := 1) C dX11_feesIf_13 (by decide) ?_
    obtain ⟨qc, gs, hqc⟩ := tt_recv (cx := []) hok hk0 (by decide) rfl
    refine tt_callV (rest := []) C (rc_X11_fails_f00e4f hl D cA ak hk0 hkw hka hkt hki hkf hkp hok hm) [] [] rfl rfl (by decide) (by decide) (by decide) qc hqc rfl rfl jw_9c28fd2e32 jw_193b10eb43 jw_69bbe80566 jw_f96c99f44d jw_a520512e18 jn_X11_fails rfl (jj_le rfl) (jj_le rfl) (jj_le rfl) (jj_le rfl) (jj_le rfl) dX11_feesIf_14 rfl (fun _ _ _ hX => hX.elim) (fun rx pl_7 r O_11 => ?_)
    obtain ⟨rfl, hok_8, hr_9, ha_10, hR_12⟩ := O_11
    replace hs6 := hr_9.at hk0 (by decide) (by decide) hs6
    replace hC := ha_10.at hkw (by decide) (by decide) hC
    replace hCp := ha_10.at hkp (by decide) (by decide) hCp
    replace hm := hm.fr hr_9 hk0 rfl
    replace hfr := hfr.trans (hr_9.sub (by decide))
    replace hfa := hfa.trans (ha_10.sub (by decide))
    obtain rfl := hR_12
    refine jj_if_eqF (tgt := 22) C dX11_feesIf_17 (by decide) (by decide) ?_
    refine jj_lconst (v := 0) C dX11_feesIf_20 (by decide) ?_
    exact jj_lret C ⟨[], pl_7, rfl, rfl, hok_8, hfr, hfa, ⟨⟨_, _, n6, hC, hCp, hs6, (by omega), (hK.mono (by omega) (by omega)), hHP.mono (by omega) (by omega)⟩, (0 : Int64), rfl⟩⟩ dX11_feesIf_21 (jj_le rfl) (jj_le rfl)
  · have z_c_3 := jc_nltL (a := p1.toInt) (b := (-9000)) c_3 (Int32.toInt_toInt64 p1) (by decide)
    have z_c_4 := jc_ltL (a := 9999) (b := p1.toInt) c_4 (by decide) (Int32.toInt_toInt64 p1)
    refine jj_if_neF (tgt := 12) C dX11_feesIf_5 (by decide) (by decide) ?_
    refine jj_iconst (v := 1) C dX11_feesIf_8 (by decide) ?_
    refine jj_goto (tgt := 13) C dX11_feesIf_9 (by decide) ?_
    refine jj_iconst (v := 1) C dX11_feesIf_13 (by decide) ?_
    obtain ⟨qc, gs, hqc⟩ := tt_recv (cx := []) hok hk0 (by decide) rfl
    refine tt_callV (rest := []) C (rc_X11_fails_f00e4f hl D cA ak hk0 hkw hka hkt hki hkf hkp hok hm) [] [] rfl rfl (by decide) (by decide) (by decide) qc hqc rfl rfl jw_9c28fd2e32 jw_193b10eb43 jw_69bbe80566 jw_f96c99f44d jw_a520512e18 jn_X11_fails rfl (jj_le rfl) (jj_le rfl) (jj_le rfl) (jj_le rfl) (jj_le rfl) dX11_feesIf_14 rfl (fun _ _ _ hX => hX.elim) (fun rx pl_13 r O_17 => ?_)
    obtain ⟨rfl, hok_14, hr_15, ha_16, hR_18⟩ := O_17
    replace hs6 := hr_15.at hk0 (by decide) (by decide) hs6
    replace hC := ha_16.at hkw (by decide) (by decide) hC
    replace hCp := ha_16.at hkp (by decide) (by decide) hCp
    replace hm := hm.fr hr_15 hk0 rfl
    replace hfr := hfr.trans (hr_15.sub (by decide))
    replace hfa := hfa.trans (ha_16.sub (by decide))
    obtain rfl := hR_18
    refine jj_if_eqF (tgt := 22) C dX11_feesIf_17 (by decide) (by decide) ?_
    refine jj_lconst (v := 0) C dX11_feesIf_20 (by decide) ?_
    exact jj_lret C ⟨[], pl_13, rfl, rfl, hok_14, hfr, hfa, ⟨⟨_, _, n6, hC, hCp, hs6, (by omega), (hK.mono (by omega) (by omega)), hHP.mono (by omega) (by omega)⟩, (0 : Int64), rfl⟩⟩ dX11_feesIf_21 (jj_le rfl) (jj_le rfl)
  · have z_c_5 := jc_nltL (a := p1.toInt) (b := (-9000)) c_5 (Int32.toInt_toInt64 p1) (by decide)
    have z_c_6 := jc_nltL (a := 9999) (b := p1.toInt) c_6 (by decide) (Int32.toInt_toInt64 p1)
    refine jj_if_neT (tgt := 12) C dX11_feesIf_5 (by decide) (by decide) ?_
    refine jj_iconst (v := 0) C dX11_feesIf_12 (by decide) ?_
    refine jj_iconst (v := 1) C dX11_feesIf_13 (by decide) ?_
    obtain ⟨qc, gs, hqc⟩ := tt_recv (cx := []) hok hk0 (by decide) rfl
    refine tt_callV (rest := []) C (rc_X11_fails_8f9520 hl D cA ak hk0 hkw hka hkt hki hkf hkp hok hm) [] [] rfl rfl (by decide) (by decide) (by decide) qc hqc rfl rfl jw_9c28fd2e32 jw_193b10eb43 jw_69bbe80566 jw_f96c99f44d jw_a520512e18 jn_X11_fails rfl (jj_le rfl) (jj_le rfl) (jj_le rfl) (jj_le rfl) (jj_le rfl) dX11_feesIf_14 rfl (fun _ _ _ hX => hX.elim) (fun rx pl_19 r O_23 => ?_)
    obtain ⟨rfl, hok_20, hr_21, ha_22, hR_24⟩ := O_23
    replace hs6 := hr_21.at hk0 (by decide) (by decide) hs6
    replace hC := ha_22.at hkw (by decide) (by decide) hC
    replace hCp := ha_22.at hkp (by decide) (by decide) hCp
    replace hm := hm.fr hr_21 hk0 rfl
    replace hfr := hfr.trans (hr_21.sub (by decide))
    replace hfa := hfa.trans (ha_22.sub (by decide))
    obtain rfl := hR_24
    refine jj_if_eqT (tgt := 22) C dX11_feesIf_17 (by decide) (by decide) ?_
    refine jj_aload_n C dX11_feesIf_22 rfl ?_
    refine tt_getF C hok_20 jk_12 0 (by decide) jw_34eaf3ba8b (t := (2, 2, 0)) hk0 (by decide) rfl rfl hm.1 dX11_feesIf_23 ?_
    refine jj_aload_n C dX11_feesIf_26 rfl ?_
    refine tt_getF C hok_20 jk_12 2 (by decide) jw_bca200ef97 (t := (2, 4, 0)) hk0 (by decide) rfl rfl hm.2.2.1 dX11_feesIf_27 ?_
    refine tt_callS (rest := []) C (rs_copy_aw_at0 hl D cA ak f hk0 hkw hka hkt hki hkf hkp hok_20 hm hC) [] [] rfl rfl (by decide) (by decide) (by decide) jw_b2f7d68e03 jw_8cf8ac8b0e jw_f96c99f44d jw_1431b790b8 jn_X11_copy rfl (jj_le rfl) (jj_le rfl) (jj_le rfl) (jj_le rfl) (jj_le rfl) dX11_feesIf_30 rfl (fun _ _ _ hX => hX.elim) (fun rx pl_25 r O_29 => ?_)
    obtain ⟨rfl, hok_26, hr_27, ha_28, hR_30⟩ := O_29
    replace hs6 := hr_27.at hk0 (by decide) (by decide) hs6
    replace hC := ha_28.at hkw (by decide) (by decide) hC
    replace hCp := ha_28.at hkp (by decide) (by decide) hCp
    replace hm := hm.fr hr_27 hk0 rfl
    replace hfr := hfr.trans (hr_27.sub (by decide))
    replace hfa := hfa.trans (ha_28.sub (by decide))
    obtain ⟨g_31, hC_32, he_33, rfl⟩ := hR_30
    refine jj_aload_n C dX11_feesIf_33 rfl ?_
    refine jj_iload_n C dX11_feesIf_34 rfl ?_
    obtain ⟨qc, gs, hqc⟩ := tt_recv (cx := []) hok_26 hk0 (by decide) rfl
    refine tt_callV (rest := []) C (rs_gainH hl D cA ak p1 f hk0 hkw hka hkt hki hkf hkp hI.1.1 hok_26 hm hC) [] [] rfl rfl (by decide) (by decide) (by decide) qc hqc rfl rfl jw_1b925bbf22 jw_7e5865b4ef jw_63e88411c2 jw_f96c99f44d jw_7b130daeac jn_X11_gain rfl (jj_le rfl) (jj_le rfl) (jj_le rfl) (jj_le rfl) (jj_le rfl) dX11_feesIf_35 rfl (fun _ _ _ hX => hX.elim) (fun rx pl_34 r O_38 => ?_)
    obtain ⟨rfl, hok_35, hr_36, ha_37, hR_39⟩ := O_38
    replace hs6 := hr_36.at hk0 (by decide) (by decide) hs6
    replace hCp := ha_37.at hkp (by decide) (by decide) hCp
    replace hC_32 := ha_37.at hkt (by decide) (by decide) hC_32
    replace hm := hm.fr hr_36 hk0 rfl
    replace hfr := hfr.trans (hr_36.sub (by decide))
    replace hfa := hfa.trans (ha_37.sub (by decide))
    obtain ⟨g_40, hC_41, he_42, y_43, rfl⟩ := hR_39
    have hH_44 := rl_h.cong hI.1.1 he_42
    obtain ⟨⟨g0ag_40, g0bg_40⟩, ⟨g1ag_40, g1bg_40⟩, ⟨g6ag_40, g6bg_40⟩, ⟨g7ag_40, g7bg_40⟩, ⟨g8ag_40, g8bg_40⟩⟩ := id hH_44
    refine jj_lstore_n C dX11_feesIf_38 (by decide) rfl ?_
    refine jj_aload_n C dX11_feesIf_39 rfl ?_
    obtain ⟨qc, gs, hqc⟩ := tt_recv (cx := []) hok_35 hk0 (by decide) rfl
    refine tt_callV (rest := []) C (rc_X11_accruedAll_9a6f36 hl D cA ak _ hk0 hkw hka hkt hki hkf hkp hH_44 hok_35 hm hC_41) [] [] rfl rfl (by decide) (by decide) (by decide) qc hqc rfl rfl jw_6eb59ab4f4 jw_6e5febcdb2 jw_0dcf716a66 jw_f96c99f44d jw_8caa2b6f9a jn_X11_accruedAll rfl (jj_le rfl) (jj_le rfl) (jj_le rfl) (jj_le rfl) (jj_le rfl) dX11_feesIf_40 rfl (fun _ _ _ hX => hX.elim) (fun rx pl_45 r O_49 => ?_)
    obtain ⟨rfl, hok_46, hr_47, ha_48, hR_50⟩ := O_49
    replace hs6 := hr_47.at hk0 (by decide) (by decide) hs6
    replace hCp := ha_48.at hkp (by decide) (by decide) hCp
    replace hC_32 := ha_48.at hkt (by decide) (by decide) hC_32
    replace hC_41 := ha_48.at hkw (by decide) (by decide) hC_41
    replace hm := hm.fr hr_47 hk0 rfl
    replace hfr := hfr.trans (hr_47.sub (by decide))
    replace hfa := hfa.trans (ha_48.sub (by decide))
    obtain ⟨y_51, rfl⟩ := hR_50
    refine jj_lstore C dX11_feesIf_43 (by decide) rfl ?_
    refine jj_aload_n C dX11_feesIf_45 rfl ?_
    refine tt_getF C hok_46 jk_12 2 (by decide) jw_bca200ef97 (t := (2, 4, 0)) hk0 (by decide) rfl rfl hm.2.2.1 dX11_feesIf_46 ?_
    refine jj_aload_n C dX11_feesIf_49 rfl ?_
    refine tt_getF C hok_46 jk_12 0 (by decide) jw_34eaf3ba8b (t := (2, 2, 0)) hk0 (by decide) rfl rfl hm.1 dX11_feesIf_50 ?_
    refine tt_callS (rest := []) C (rs_copy_at0_aw hl D cA ak g_31 hk0 hkw hka hkt hki hkf hkp hok_46 hm hC_32) [] [] rfl rfl (by decide) (by decide) (by decide) jw_b2f7d68e03 jw_8cf8ac8b0e jw_f96c99f44d jw_1431b790b8 jn_X11_copy rfl (jj_le rfl) (jj_le rfl) (jj_le rfl) (jj_le rfl) (jj_le rfl) dX11_feesIf_53 rfl (fun _ _ _ hX => hX.elim) (fun rx pl_52 r O_56 => ?_)
    obtain ⟨rfl, hok_53, hr_54, ha_55, hR_57⟩ := O_56
    replace hs6 := hr_54.at hk0 (by decide) (by decide) hs6
    replace hCp := ha_55.at hkp (by decide) (by decide) hCp
    replace hC_32 := ha_55.at hkt (by decide) (by decide) hC_32
    replace hm := hm.fr hr_54 hk0 rfl
    replace hfr := hfr.trans (hr_54.sub (by decide))
    replace hfa := hfa.trans (ha_55.sub (by decide))
    obtain ⟨g_58, hC_59, he_60, rfl⟩ := hR_57
    obtain ⟨⟨g0ag_58, g0bg_58⟩, ⟨g1ag_58, g1bg_58⟩, ⟨g6ag_58, g6bg_58⟩, ⟨g7ag_58, g7bg_58⟩, ⟨g8ag_58, g8bg_58⟩⟩ := (rl_I.cong (rl_I.cong hI he_33).1 he_60).1.1.1
    refine jj_lload C dX11_feesIf_56 rfl ?_
    exact jj_lret C ⟨[], pl_52, rfl, rfl, hok_53, hfr, hfa, ⟨⟨_, _, n6, hC_59, hCp, hs6, (by omega), (((hK.cong he_33).cong he_60).mono (by omega) (by omega)), hHP.mono (by omega) (by omega)⟩, y_51, rfl⟩⟩ dX11_feesIf_58 (jj_le rfl) (jj_le rfl)

set_option maxHeartbeats 4000000 in
set_option maxRecDepth 100000 in
theorem rs_breakEven {l : Launch} (hl : l.stackTraces = false) (D : va_G) (cA : Nat → ClassId) (ak : (Nat → Nat) × (Nat → Nat)) {Kd : Nat → Nat} {h0 aw aa at0 ai af ap : Nat} (n6 : Nat) (p1 : Int32) (B C9 : Int) (f P : Nat → Int64) (hk0 : Kd h0 = 1) (hkw : Kd aw = 2) (hka : Kd aa = 3) (hkt : Kd at0 = 4) (hki : Kd ai = 5) (hkf : Kd af = 6) (hkp : Kd ap = 7) (ln6 : (0 : Int) ≤ (n6 : Int)) (un6 : (n6 : Int) ≤ 10) (hK : rl_K B C9 f) (hHP : rl_HP B C9 P n6) (hB5 : B ≤ 43520000000) (hB0 : 12760000000 ≤ B) (hC9 : 0 ≤ C9 ∧ C9 ≤ 4000000000000000000) {pl0 : va_W} (hok : tt_ok rt_tk cA Kd pl0) (hm : rl_m pl0 h0 aw aa at0 ai af ap) (hC : tt_lc pl0 aw f) (hCp : tt_lc pl0 ap P) (hs6 : tt_at pl0 h0 6 (.int (nI n6))) : jj_M l D cA ak yX11_breakEven (.code yX11_breakEven cX11_breakEven 6 (some .int)) 2 43 0 0 ([] ++ pl0) [.ref h0, .int p1] (tt_O (fun rx pl1 r => rx = [] ∧ tt_ok rt_tk cA Kd pl1 ∧ tt_fr Kd [(1, 7)] pl0 pl1 ∧ tt_fa Kd [] pl0 pl1 ∧ ((rl_M (B + 30000000) (C9 + 2000) pl1 h0 aw ap ∧ ∃ v : Int32, r = some (.int v))))) (tt_OX (fun _ _ _ => False)) := by
  refine jj_start hl (by decide) jw_1f748e3716 (jj_le rfl) ?_
  intro p e s m args below meth c A hargs hA C hex hmn
  have hfr := tt_fr.refl (K := Kd) (WS := [(1, 7)]) pl0
  have hfa := tt_fa.refl (K := Kd) (WA := []) pl0
  have hI := hK.1
  have hP := hK.2.1
  have hH := hI.1.1
  obtain ⟨⟨g0a, g0b⟩, ⟨g1a, g1b⟩, ⟨g6a, g6b⟩, ⟨g7a, g7b⟩, ⟨g8a, g8b⟩⟩ := hH
  have hB : B ≤ 43920000000 := by omega
  have hB6 : B + 360000000 ≤ 43920000000 := by omega
  have h9a := hK.2.2.1
  have h9b := hK.2.2.2
  have h9 : 0 ≤ (f 9).toInt ∧ (f 9).toInt < 4611686018427387000 := ⟨h9a, by omega⟩
  have lp1 := tt_lo p1
  have up1 := tt_hi p1
  refine jj_aload_n C dX11_breakEven_0 rfl ?_
  refine jj_iload_n C dX11_breakEven_1 rfl ?_
  obtain ⟨y_1, ey_1, vy_1⟩ := tt_i2l p1
  refine jj_i2l (v := y_1) C dX11_breakEven_2 ey_1 ?_
  obtain ⟨qc, gs, hqc⟩ := tt_recv (cx := []) hok hk0 (by decide) rfl
  refine tt_callV (rest := []) C (rs_placeOf hl D cA ak y_1 f hk0 hkw hka hkt hki hkf hkp ⟨⟨g0a, g0b⟩, ⟨g1a, g1b⟩, ⟨g6a, g6b⟩, ⟨g7a, g7b⟩, ⟨g8a, g8b⟩⟩ hok hm hC) [] [] rfl rfl (by decide) (by decide) (by decide) qc hqc rfl rfl jw_6d1eccde8c jw_a9a05b64d9 jw_ee32d85331 jw_f96c99f44d jw_d7a6daa34b jn_X11_placeOf rfl (jj_le rfl) (jj_le rfl) (jj_le rfl) (jj_le rfl) (jj_le rfl) dX11_breakEven_3 rfl (fun _ _ _ hX => hX.elim) (fun rx pl_2 r O_6 => ?_)
  obtain ⟨rfl, hok_3, hr_4, ha_5, hR_7⟩ := O_6
  replace hs6 := hr_4.at hk0 (by decide) (by decide) hs6
  replace hC := ha_5.at hkw (by decide) (by decide) hC
  replace hCp := ha_5.at hkp (by decide) (by decide) hCp
  replace hm := hm.fr hr_4 hk0 rfl
  replace hfr := hfr.trans (hr_4.sub (by decide))
  replace hfa := hfa.trans (ha_5.sub (by decide))
  rcases hR_7 with ⟨hno_8, rfl⟩ | ⟨n_9, hn_9, qn_9, rfl⟩
  · refine jj_istore_n C dX11_breakEven_6 (by decide) rfl ?_
    refine jj_aload_n C dX11_breakEven_7 rfl ?_
    refine jj_iload_n C dX11_breakEven_8 rfl ?_
    refine jj_iconst (v := (-1)) C dX11_breakEven_9 (by decide) ?_
    refine jj_icmp_neF (tgt := 17) C dX11_breakEven_10 (by decide) (by decide) ?_
    refine jj_iconst (v := 1) C dX11_breakEven_13 (by decide) ?_
    refine jj_goto (tgt := 18) C dX11_breakEven_14 (by decide) ?_
    refine jj_iconst (v := 1) C dX11_breakEven_18 (by decide) ?_
    obtain ⟨qc, gs, hqc⟩ := tt_recv (cx := []) hok_3 hk0 (by decide) rfl
    refine tt_callV (rest := []) C (rc_X11_fails_f00e4f hl D cA ak hk0 hkw hka hkt hki hkf hkp hok_3 hm) [] [] rfl rfl (by decide) (by decide) (by decide) qc hqc rfl rfl jw_9c28fd2e32 jw_193b10eb43 jw_69bbe80566 jw_f96c99f44d jw_a520512e18 jn_X11_fails rfl (jj_le rfl) (jj_le rfl) (jj_le rfl) (jj_le rfl) (jj_le rfl) dX11_breakEven_19 rfl (fun _ _ _ hX => hX.elim) (fun rx pl_10 r O_14 => ?_)
    obtain ⟨rfl, hok_11, hr_12, ha_13, hR_15⟩ := O_14
    replace hs6 := hr_12.at hk0 (by decide) (by decide) hs6
    replace hC := ha_13.at hkw (by decide) (by decide) hC
    replace hCp := ha_13.at hkp (by decide) (by decide) hCp
    replace hm := hm.fr hr_12 hk0 rfl
    replace hfr := hfr.trans (hr_12.sub (by decide))
    replace hfa := hfa.trans (ha_13.sub (by decide))
    obtain rfl := hR_15
    refine jj_if_eqF (tgt := 27) C dX11_breakEven_22 (by decide) (by decide) ?_
    refine jj_iconst (v := 0) C dX11_breakEven_25 (by decide) ?_
    exact jj_iret C ⟨[], pl_10, rfl, rfl, hok_11, hfr, hfa, ⟨⟨_, _, n6, hC, hCp, hs6, (by omega), (hK.mono (by omega) (by omega)), hHP.mono (by omega) (by omega)⟩, (0 : Int32), rfl⟩⟩ dX11_breakEven_26 (jj_le rfl) (jj_le rfl)
  · unfold rnS at hn_9
    refine jj_istore_n C dX11_breakEven_6 (by decide) rfl ?_
    refine jj_aload_n C dX11_breakEven_7 rfl ?_
    refine jj_iload_n C dX11_breakEven_8 rfl ?_
    refine jj_iconst (v := (-1)) C dX11_breakEven_9 (by decide) ?_
    refine jj_icmp_ne (tgt := 17) C dX11_breakEven_10 (by decide) (fun c_16 => ?_) (fun c_16 => ?_)
    · have z_c_16 := jc_neq (a := ((16 + 5 * n_9 : Nat) : Int)) (b := (-1)) c_16 (rl_ti (by omega)) (by decide)
      refine jj_iconst (v := 0) C dX11_breakEven_17 (by decide) ?_
      refine jj_iconst (v := 1) C dX11_breakEven_18 (by decide) ?_
      obtain ⟨qc, gs, hqc⟩ := tt_recv (cx := []) hok_3 hk0 (by decide) rfl
      refine tt_callV (rest := []) C (rc_X11_fails_8f9520 hl D cA ak hk0 hkw hka hkt hki hkf hkp hok_3 hm) [] [] rfl rfl (by decide) (by decide) (by decide) qc hqc rfl rfl jw_9c28fd2e32 jw_193b10eb43 jw_69bbe80566 jw_f96c99f44d jw_a520512e18 jn_X11_fails rfl (jj_le rfl) (jj_le rfl) (jj_le rfl) (jj_le rfl) (jj_le rfl) dX11_breakEven_19 rfl (fun _ _ _ hX => hX.elim) (fun rx pl_17 r O_21 => ?_)
      obtain ⟨rfl, hok_18, hr_19, ha_20, hR_22⟩ := O_21
      replace hs6 := hr_19.at hk0 (by decide) (by decide) hs6
      replace hC := ha_20.at hkw (by decide) (by decide) hC
      replace hCp := ha_20.at hkp (by decide) (by decide) hCp
      replace hm := hm.fr hr_19 hk0 rfl
      replace hfr := hfr.trans (hr_19.sub (by decide))
      replace hfa := hfa.trans (ha_20.sub (by decide))
      obtain rfl := hR_22
      refine jj_if_eqT (tgt := 27) C dX11_breakEven_22 (by decide) (by decide) ?_
      refine jj_sipush (v := (-9000)) C dX11_breakEven_27 (by decide) ?_
      refine jj_istore_n C dX11_breakEven_30 (by decide) rfl ?_
      have hL_23 : ∀ (N : Nat) (pl : va_W) (x_24 : Int32), True → tt_ok rt_tk cA Kd pl → tt_fr Kd [(1, 7)] pl0 pl → tt_fa Kd [] pl0 pl → rl_m pl h0 aw aa at0 ai af ap → tt_at pl h0 6 (.int (nI n6)) → tt_lc pl aw f → tt_lc pl ap P → (-9000 : Int) ≤ x_24.toInt → x_24.toInt ≤ 2147483647 → (2147483648 - x_24.toInt ≤ (N : Int)) → jj_J p l e (jj_rm 2 43 0 0) s m args below meth c 6 A (vx_MQ below (jj_q D A (tt_O (fun rx pl1 r => rx = [] ∧ tt_ok rt_tk cA Kd pl1 ∧ tt_fr Kd [(1, 7)] pl0 pl1 ∧ tt_fa Kd [] pl0 pl1 ∧ ((rl_M (B + 30000000) (C9 + 2000) pl1 h0 aw ap ∧ ∃ v : Int32, r = some (.int v)))))) (jj_x D A (tt_OX (fun _ _ _ => False))) args s 0 0 A) (jj_X D A ([] ++ pl)) 0 0 31 [(3, .int x_24), (2, .int (nI (16 + 5 * n_9))), (0, .ref h0), (1, .int p1)] [] := by
        intro NL_23
        induction NL_23 with
        | zero => intro pl x_24 _ hok hfr hfa hm hf_25 hC hCp lx_24 ux_24 hNL_23; exfalso; omega
        | succ NL_23 ihL_23 =>
          intro pl x_24 _ hok hfr hfa hm hf_25 hC hCp lx_24 ux_24 hNL_23
          replace ihL_23 := fun pl x_24 h1 => ihL_23 pl x_24 trivial h1
          refine jj_iload_n C dX11_breakEven_31 rfl ?_
          refine jj_sipush (v := 9999) C dX11_breakEven_32 (by decide) ?_
          refine jj_icmp_gt (tgt := 99) C dX11_breakEven_35 (by decide) (fun c_26 => ?_) (fun c_26 => ?_)
          · have z_c_26 := jc_lt (a := 9999) (b := x_24.toInt) c_26 (by decide) rfl
            refine jj_aload_n C dX11_breakEven_99 rfl ?_
            refine jj_iconst (v := 2) C dX11_breakEven_100 (by decide) ?_
            obtain ⟨qc, gs, hqc⟩ := tt_recv (cx := []) hok hk0 (by decide) rfl
            refine tt_callV (rest := []) C (rc_X11_no_9c0c2f hl D cA ak hk0 hkw hka hkt hki hkf hkp hok hm) [] [] rfl rfl (by decide) (by decide) (by decide) qc hqc rfl rfl jw_d1b9c9bc08 jw_0a7e47b48e jw_ae3979bf43 jw_f96c99f44d jw_db0108e47b jn_X11_no rfl (jj_le rfl) (jj_le rfl) (jj_le rfl) (jj_le rfl) (jj_le rfl) dX11_breakEven_101 rfl (fun _ _ _ hX => hX.elim) (fun rx pl_27 r O_31 => ?_)
            obtain ⟨rfl, hok_28, hr_29, ha_30, hR_32⟩ := O_31
            replace hf_25 := hr_29.at hk0 (by decide) (by decide) hf_25
            replace hC := ha_30.at hkw (by decide) (by decide) hC
            replace hCp := ha_30.at hkp (by decide) (by decide) hCp
            replace hm := hm.fr hr_29 hk0 rfl
            replace hfr := hfr.trans (hr_29.sub (by decide))
            replace hfa := hfa.trans (ha_30.sub (by decide))
            obtain rfl := hR_32
            exact jj_iret C ⟨[], pl_27, rfl, rfl, hok_28, hfr, hfa, ⟨⟨_, _, n6, hC, hCp, hf_25, (by omega), (hK.mono (by omega) (by omega)), hHP.mono (by omega) (by omega)⟩, (0 : Int32), rfl⟩⟩ dX11_breakEven_104 (jj_le rfl) (jj_le rfl)
          · have z_c_26 := jc_nlt (a := 9999) (b := x_24.toInt) c_26 (by decide) rfl
            refine jj_aload_n C dX11_breakEven_38 rfl ?_
            refine tt_getF C hok jk_12 0 (by decide) jw_34eaf3ba8b (t := (2, 2, 0)) hk0 (by decide) rfl rfl hm.1 dX11_breakEven_39 ?_
            refine jj_iload_n C dX11_breakEven_42 rfl ?_
            refine jj_iconst (v := 2) C dX11_breakEven_43 (by decide) ?_
            refine jj_iadd (v := nI (18 + 5 * n_9)) C dX11_breakEven_44 (rl_addR (kn := 2) (by decide) (by omega)) ?_
            refine rl_lald C hok (t := (1, (-9223372036854775808), 9223372036854775807)) hkw (by decide) rfl (k := 18 + 5 * n_9) (v := (f (18 + 5 * n_9))) (vp_in_nI (by omega) (by decide)) hC (nI_clamp (by omega)) rfl dX11_breakEven_45 ?_
            refine jj_aload_n C dX11_breakEven_46 rfl ?_
            refine tt_getF C hok jk_12 0 (by decide) jw_34eaf3ba8b (t := (2, 2, 0)) hk0 (by decide) rfl rfl hm.1 dX11_breakEven_47 ?_
            refine jj_iload_n C dX11_breakEven_50 rfl ?_
            refine jj_iconst (v := 2) C dX11_breakEven_51 (by decide) ?_
            refine jj_iadd (v := nI (18 + 5 * n_9)) C dX11_breakEven_52 (rl_addR (kn := 2) (by decide) (by omega)) ?_
            refine rl_lald C hok (t := (1, (-9223372036854775808), 9223372036854775807)) hkw (by decide) rfl (k := 18 + 5 * n_9) (v := (f (18 + 5 * n_9))) (vp_in_nI (by omega) (by decide)) hC (nI_clamp (by omega)) rfl dX11_breakEven_53 ?_
            refine jj_iload_n C dX11_breakEven_54 rfl ?_
            obtain ⟨y_33, ey_33, vy_33⟩ := tt_i2l x_24
            refine jj_i2l (v := y_33) C dX11_breakEven_55 ey_33 ?_
            refine jj_lmul C dX11_breakEven_56 rfl ?_
            refine jj_ldc2 (v := 10000) C dX11_breakEven_57 jw_d680bb70d7 ?_
            refine jj_ldiv C dX11_breakEven_60 (by decide) rfl ?_
            refine jj_ladd C dX11_breakEven_61 rfl ?_
            refine jj_lstore C dX11_breakEven_62 (by decide) rfl ?_
            refine jj_lload C dX11_breakEven_64 rfl ?_
            refine jj_ldc2 (v := 100000) C dX11_breakEven_66 jw_759d064724 ?_
            refine jj_lmul C dX11_breakEven_69 rfl ?_
            refine jj_aload_n C dX11_breakEven_70 rfl ?_
            refine tt_getF C hok jk_12 0 (by decide) jw_34eaf3ba8b (t := (2, 2, 0)) hk0 (by decide) rfl rfl hm.1 dX11_breakEven_71 ?_
            refine jj_iload_n C dX11_breakEven_74 rfl ?_
            refine jj_iconst (v := 3) C dX11_breakEven_75 (by decide) ?_
            refine jj_iadd (v := nI (19 + 5 * n_9)) C dX11_breakEven_76 (rl_addR (kn := 3) (by decide) (by omega)) ?_
            refine rl_lald C hok (t := (1, (-9223372036854775808), 9223372036854775807)) hkw (by decide) rfl (k := 19 + 5 * n_9) (v := (f (19 + 5 * n_9))) (vp_in_nI (by omega) (by decide)) hC (nI_clamp (by omega)) rfl dX11_breakEven_77 ?_
            refine jj_ldiv C dX11_breakEven_78 (rl_PU hP (k := n_9) (by unfold rnS; omega)) rfl ?_
            refine jj_aload_n C dX11_breakEven_79 rfl ?_
            refine tt_getF C hok jk_12 0 (by decide) jw_34eaf3ba8b (t := (2, 2, 0)) hk0 (by decide) rfl rfl hm.1 dX11_breakEven_80 ?_
            refine jj_iload_n C dX11_breakEven_83 rfl ?_
            refine jj_iconst (v := 4) C dX11_breakEven_84 (by decide) ?_
            refine jj_iadd (v := nI (20 + 5 * n_9)) C dX11_breakEven_85 (rl_addR (kn := 4) (by decide) (by omega)) ?_
            refine rl_lald C hok (t := (1, (-9223372036854775808), 9223372036854775807)) hkw (by decide) rfl (k := 20 + 5 * n_9) (v := (f (20 + 5 * n_9))) (vp_in_nI (by omega) (by decide)) hC (nI_clamp (by omega)) rfl dX11_breakEven_86 ?_
            refine jj_lcmp_lt (tgt := 93) C dX11_breakEven_87 dX11_breakEven_88 (by decide) (fun c_34 => ?_) (fun c_34 => ?_)
            · have z_c_34 := jc_ltL (a := ((((f (18 + 5 * n_9)) + (((f (18 + 5 * n_9)) * y_33) / (10000 : Int64))) * (100000 : Int64)) / (f (19 + 5 * n_9))).toInt) (b := (f (20 + 5 * n_9)).toInt) c_34 rfl rfl
              obtain ⟨x_35, ex_35, vx_35⟩ := tt_inc (x := x_24) (n := 1) (by omega) (by omega)
              refine jj_iinc (v := x_35) C dX11_breakEven_93 rfl ex_35 (by decide) rfl ?_
              refine jj_goto (tgt := 31) C dX11_breakEven_96 (by decide) ?_
              refine jj_loc [0, 2, 3, 4] rfl ?_
              exact ihL_23 pl x_35 hok hfr hfa hm hf_25 hC hCp (by first | omega | decide | exact tt_lo _ | exact tt_hi _) (by first | omega | decide | exact tt_lo _ | exact tt_hi _) (by first | omega | decide | exact tt_lo _ | exact tt_hi _)
            · have z_c_34 := jc_nltL (a := ((((f (18 + 5 * n_9)) + (((f (18 + 5 * n_9)) * y_33) / (10000 : Int64))) * (100000 : Int64)) / (f (19 + 5 * n_9))).toInt) (b := (f (20 + 5 * n_9)).toInt) c_34 rfl rfl
              refine jj_iload_n C dX11_breakEven_91 rfl ?_
              exact jj_iret C ⟨[], pl, rfl, rfl, hok, hfr, hfa, ⟨⟨_, _, n6, hC, hCp, hf_25, (by omega), (hK.mono (by omega) (by omega)), hHP.mono (by omega) (by omega)⟩, x_24, rfl⟩⟩ dX11_breakEven_92 (jj_le rfl) (jj_le rfl)
      exact hL_23 _ pl_17 ((-9000) : Int32) trivial hok_18 hfr hfa hm hs6 hC hCp (by first | omega | decide | exact tt_lo _ | exact tt_hi _) (by first | omega | decide | exact tt_lo _ | exact tt_hi _) (Int.self_le_toNat _)
    · have z_c_16 := jc_eq (a := ((16 + 5 * n_9 : Nat) : Int)) (b := (-1)) c_16 (rl_ti (by omega)) (by decide)
      exfalso; omega

set_option maxHeartbeats 4000000 in
set_option maxRecDepth 100000 in
theorem rs_daysUntil {l : Launch} (hl : l.stackTraces = false) (D : va_G) (cA : Nat → ClassId) (ak : (Nat → Nat) × (Nat → Nat)) {Kd : Nat → Nat} {h0 aw aa at0 ai af ap : Nat} (n6 : Nat) (p1 : Int64) (B C9 : Int) (f P : Nat → Int64) (hk0 : Kd h0 = 1) (hkw : Kd aw = 2) (hka : Kd aa = 3) (hkt : Kd at0 = 4) (hki : Kd ai = 5) (hkf : Kd af = 6) (hkp : Kd ap = 7) (ln6 : (0 : Int) ≤ (n6 : Int)) (un6 : (n6 : Int) ≤ 10) (hK : rl_K B C9 f) (hHP : rl_HP B C9 P n6) (hB5 : B ≤ 43520000000) (hB0 : 12760000000 ≤ B) (hC9 : 0 ≤ C9 ∧ C9 ≤ 4000000000000000000) {pl0 : va_W} (hok : tt_ok rt_tk cA Kd pl0) (hm : rl_m pl0 h0 aw aa at0 ai af ap) (hC : tt_lc pl0 aw f) (hCp : tt_lc pl0 ap P) (hs6 : tt_at pl0 h0 6 (.int (nI n6))) : jj_M l D cA ak yX11_daysUntil (.code yX11_daysUntil cX11_daysUntil 6 (some .int)) 4 90 0 0 ([] ++ pl0) [.ref h0, .long p1] (tt_O (fun rx pl1 r => rx = [] ∧ tt_ok rt_tk cA Kd pl1 ∧ tt_fr Kd [(1, 7)] pl0 pl1 ∧ tt_fa Kd [2, 4] pl0 pl1 ∧ ((rl_M (B + 30000000) (C9 + 2000) pl1 h0 aw ap ∧ ∃ v : Int32, r = some (.int v))))) (tt_OX (fun _ _ _ => False)) := by
  refine jj_start hl (by decide) jw_6daa31c804 (jj_le rfl) ?_
  intro p e s m args below meth c A hargs hA C hex hmn
  have hfr := tt_fr.refl (K := Kd) (WS := [(1, 7)]) pl0
  have hfa := tt_fa.refl (K := Kd) (WA := [2, 4]) pl0
  have hI := hK.1
  have hP := hK.2.1
  have hH := hI.1.1
  obtain ⟨⟨g0a, g0b⟩, ⟨g1a, g1b⟩, ⟨g6a, g6b⟩, ⟨g7a, g7b⟩, ⟨g8a, g8b⟩⟩ := hH
  have hB : B ≤ 43920000000 := by omega
  have hB6 : B + 360000000 ≤ 43920000000 := by omega
  have h9a := hK.2.2.1
  have h9b := hK.2.2.2
  have h9 : 0 ≤ (f 9).toInt ∧ (f 9).toInt < 4611686018427387000 := ⟨h9a, by omega⟩
  refine jj_aload_n C dX11_daysUntil_0 rfl ?_
  refine jj_lload_n C dX11_daysUntil_1 rfl ?_
  refine jj_lconst (v := 0) C dX11_daysUntil_2 (by decide) ?_
  refine jj_lcmp_ge (tgt := 11) C dX11_daysUntil_3 dX11_daysUntil_4 (by decide) (fun c_1 => ?_) (fun c_1 => ?_)
  · have z_c_1 := jc_leL (a := 0) (b := p1.toInt) c_1 (by decide) rfl
    refine jj_iconst (v := 0) C dX11_daysUntil_11 (by decide) ?_
    refine jj_iconst (v := 1) C dX11_daysUntil_12 (by decide) ?_
    obtain ⟨qc, gs, hqc⟩ := tt_recv (cx := []) hok hk0 (by decide) rfl
    refine tt_callV (rest := []) C (rc_X11_fails_8f9520 hl D cA ak hk0 hkw hka hkt hki hkf hkp hok hm) [] [] rfl rfl (by decide) (by decide) (by decide) qc hqc rfl rfl jw_9c28fd2e32 jw_193b10eb43 jw_69bbe80566 jw_f96c99f44d jw_a520512e18 jn_X11_fails rfl (jj_le rfl) (jj_le rfl) (jj_le rfl) (jj_le rfl) (jj_le rfl) dX11_daysUntil_13 rfl (fun _ _ _ hX => hX.elim) (fun rx pl_2 r O_6 => ?_)
    obtain ⟨rfl, hok_3, hr_4, ha_5, hR_7⟩ := O_6
    replace hs6 := hr_4.at hk0 (by decide) (by decide) hs6
    replace hC := ha_5.at hkw (by decide) (by decide) hC
    replace hCp := ha_5.at hkp (by decide) (by decide) hCp
    replace hm := hm.fr hr_4 hk0 rfl
    replace hfr := hfr.trans (hr_4.sub (by decide))
    replace hfa := hfa.trans (ha_5.sub (by decide))
    obtain rfl := hR_7
    refine jj_if_eqT (tgt := 21) C dX11_daysUntil_16 (by decide) (by decide) ?_
    refine jj_aload_n C dX11_daysUntil_21 rfl ?_
    refine tt_getF C hok_3 jk_12 0 (by decide) jw_34eaf3ba8b (t := (2, 2, 0)) hk0 (by decide) rfl rfl hm.1 dX11_daysUntil_22 ?_
    refine jj_aload_n C dX11_daysUntil_25 rfl ?_
    refine tt_getF C hok_3 jk_12 2 (by decide) jw_bca200ef97 (t := (2, 4, 0)) hk0 (by decide) rfl rfl hm.2.2.1 dX11_daysUntil_26 ?_
    refine tt_callS (rest := []) C (rs_copy_aw_at0 hl D cA ak f hk0 hkw hka hkt hki hkf hkp hok_3 hm hC) [] [] rfl rfl (by decide) (by decide) (by decide) jw_b2f7d68e03 jw_8cf8ac8b0e jw_f96c99f44d jw_1431b790b8 jn_X11_copy rfl (jj_le rfl) (jj_le rfl) (jj_le rfl) (jj_le rfl) (jj_le rfl) dX11_daysUntil_29 rfl (fun _ _ _ hX => hX.elim) (fun rx pl_8 r O_12 => ?_)
    obtain ⟨rfl, hok_9, hr_10, ha_11, hR_13⟩ := O_12
    replace hs6 := hr_10.at hk0 (by decide) (by decide) hs6
    replace hC := ha_11.at hkw (by decide) (by decide) hC
    replace hCp := ha_11.at hkp (by decide) (by decide) hCp
    replace hm := hm.fr hr_10 hk0 rfl
    replace hfr := hfr.trans (hr_10.sub (by decide))
    replace hfa := hfa.trans (ha_11.sub (by decide))
    obtain ⟨g_14, hC_15, he_16, rfl⟩ := hR_13
    refine jj_iconst (v := 0) C dX11_daysUntil_32 (by decide) ?_
    refine jj_istore_n C dX11_daysUntil_33 (by decide) rfl ?_
    have hL_17 : ∀ (N : Nat) (pl : va_W) (k_18 : Nat) (g_19 : Nat → Int64), True → tt_ok rt_tk cA Kd pl → tt_fr Kd [(1, 7)] pl0 pl → tt_fa Kd [2, 4] pl0 pl → rl_m pl h0 aw aa at0 ai af ap → tt_at pl h0 6 (.int (nI n6)) → tt_lc pl ap P → tt_lc pl at0 g_14 → tt_lc pl aw g_19 → rl_G B f g_19 → (0 : Int) ≤ (k_18 : Int) → (k_18 : Int) ≤ 1300 → (2147483648 - (k_18 : Int) ≤ (N : Int)) → jj_J p l e (jj_rm 4 90 0 0) s m args below meth c 6 A (vx_MQ below (jj_q D A (tt_O (fun rx pl1 r => rx = [] ∧ tt_ok rt_tk cA Kd pl1 ∧ tt_fr Kd [(1, 7)] pl0 pl1 ∧ tt_fa Kd [2, 4] pl0 pl1 ∧ ((rl_M (B + 30000000) (C9 + 2000) pl1 h0 aw ap ∧ ∃ v : Int32, r = some (.int v)))))) (jj_x D A (tt_OX (fun _ _ _ => False))) args s 0 0 A) (jj_X D A ([] ++ pl)) 0 0 34 [(3, .int (nI k_18)), (0, .ref h0), (1, .long p1)] [] := by
      intro NL_17
      induction NL_17 with
      | zero => intro pl k_18 g_19 _ hok hfr hfa hm hf_20 hCp hC_15 hC_21 hD_22 lk_18 uk_18 hNL_17; exfalso; omega
      | succ NL_17 ihL_17 =>
        intro pl k_18 g_19 _ hok hfr hfa hm hf_20 hCp hC_15 hC_21 hD_22 lk_18 uk_18 hNL_17
        replace ihL_17 := fun pl k_18 g_19 h1 => ihL_17 pl k_18 g_19 trivial h1
        obtain ⟨⟨g0ag_19, g0bg_19⟩, ⟨g1ag_19, g1bg_19⟩, ⟨g6ag_19, g6bg_19⟩, ⟨g7ag_19, g7bg_19⟩, ⟨g8ag_19, g8bg_19⟩⟩ := (hD_22.1).1.1
        refine jj_iload_n C dX11_daysUntil_34 rfl ?_
        refine jj_sipush (v := 400) C dX11_daysUntil_35 (by decide) ?_
        refine jj_icmp_gt (tgt := 63) C dX11_daysUntil_38 (by decide) (fun c_23 => ?_) (fun c_23 => ?_)
        · have z_c_23 := jc_lt (a := 400) (b := ((k_18 : Nat) : Int)) c_23 (by decide) (rl_ti (by omega))
          refine jj_aload_n C dX11_daysUntil_63 rfl ?_
          refine tt_getF C hok jk_12 2 (by decide) jw_bca200ef97 (t := (2, 4, 0)) hk0 (by decide) rfl rfl hm.2.2.1 dX11_daysUntil_64 ?_
          refine jj_aload_n C dX11_daysUntil_67 rfl ?_
          refine tt_getF C hok jk_12 0 (by decide) jw_34eaf3ba8b (t := (2, 2, 0)) hk0 (by decide) rfl rfl hm.1 dX11_daysUntil_68 ?_
          refine tt_callS (rest := []) C (rs_copy_at0_aw hl D cA ak g_14 hk0 hkw hka hkt hki hkf hkp hok hm hC_15) [] [] rfl rfl (by decide) (by decide) (by decide) jw_b2f7d68e03 jw_8cf8ac8b0e jw_f96c99f44d jw_1431b790b8 jn_X11_copy rfl (jj_le rfl) (jj_le rfl) (jj_le rfl) (jj_le rfl) (jj_le rfl) dX11_daysUntil_71 rfl (fun _ _ _ hX => hX.elim) (fun rx pl_24 r O_28 => ?_)
          obtain ⟨rfl, hok_25, hr_26, ha_27, hR_29⟩ := O_28
          replace hf_20 := hr_26.at hk0 (by decide) (by decide) hf_20
          replace hCp := ha_27.at hkp (by decide) (by decide) hCp
          replace hC_15 := ha_27.at hkt (by decide) (by decide) hC_15
          replace hm := hm.fr hr_26 hk0 rfl
          replace hfr := hfr.trans (hr_26.sub (by decide))
          replace hfa := hfa.trans (ha_27.sub (by decide))
          obtain ⟨g_30, hC_31, he_32, rfl⟩ := hR_29
          obtain ⟨⟨g0ag_30, g0bg_30⟩, ⟨g1ag_30, g1bg_30⟩, ⟨g6ag_30, g6bg_30⟩, ⟨g7ag_30, g7bg_30⟩, ⟨g8ag_30, g8bg_30⟩⟩ := (rl_I.cong (rl_I.cong hI he_16).1 he_32).1.1.1
          refine jj_iload_n C dX11_daysUntil_74 rfl ?_
          refine jj_sipush (v := 400) C dX11_daysUntil_75 (by decide) ?_
          refine jj_icmp_le (tgt := 85) C dX11_daysUntil_78 (by decide) (fun c_33 => ?_) (fun c_33 => ?_)
          · have z_c_33 := jc_le (a := ((k_18 : Nat) : Int)) (b := 400) c_33 (rl_ti (by omega)) (by decide)
            exfalso; omega
          · have z_c_33 := jc_nle (a := ((k_18 : Nat) : Int)) (b := 400) c_33 (rl_ti (by omega)) (by decide)
            refine jj_iconst (v := (-1)) C dX11_daysUntil_81 (by decide) ?_
            refine jj_goto (tgt := 86) C dX11_daysUntil_82 (by decide) ?_
            exact jj_iret C ⟨[], pl_24, rfl, rfl, hok_25, hfr, hfa, ⟨⟨_, _, n6, hC_31, hCp, hf_20, (by omega), (((hK.cong he_16).cong he_32).mono (by omega) (by omega)), hHP.mono (by omega) (by omega)⟩, ((-1) : Int32), rfl⟩⟩ dX11_daysUntil_86 (jj_le rfl) (jj_le rfl)
        · have z_c_23 := jc_nlt (a := 400) (b := ((k_18 : Nat) : Int)) c_23 (by decide) (rl_ti (by omega))
          refine jj_aload_n C dX11_daysUntil_41 rfl ?_
          obtain ⟨qc, gs, hqc⟩ := tt_recv (cx := []) hok hk0 (by decide) rfl
          refine tt_callV (rest := []) C (rs_netAll hl D cA ak B g_19 hk0 hkw hka hkt hki hkf hkp hD_22.1 hB hok hm hC_21) [] [] rfl rfl (by decide) (by decide) (by decide) qc hqc rfl rfl jw_2839123437 jw_0539aa951d jw_9a758300b1 jw_f96c99f44d jw_8369135f54 jn_X11_netAll rfl (jj_le rfl) (jj_le rfl) (jj_le rfl) (jj_le rfl) (jj_le rfl) dX11_daysUntil_42 rfl (fun _ _ _ hX => hX.elim) (fun rx pl_34 r O_38 => ?_)
          obtain ⟨rfl, hok_35, hr_36, ha_37, hR_39⟩ := O_38
          replace hf_20 := hr_36.at hk0 (by decide) (by decide) hf_20
          replace hCp := ha_37.at hkp (by decide) (by decide) hCp
          replace hC_15 := ha_37.at hkt (by decide) (by decide) hC_15
          replace hC_21 := ha_37.at hkw (by decide) (by decide) hC_21
          replace hm := hm.fr hr_36 hk0 rfl
          replace hfr := hfr.trans (hr_36.sub (by decide))
          replace hfa := hfa.trans (ha_37.sub (by decide))
          obtain ⟨y_40, ly_40, uy_40, rfl⟩ := hR_39
          refine jj_lload_n C dX11_daysUntil_45 rfl ?_
          refine jj_lcmp_le (tgt := 63) C dX11_daysUntil_46 dX11_daysUntil_47 (by decide) (fun c_41 => ?_) (fun c_41 => ?_)
          · have z_c_41 := jc_leL (a := y_40.toInt) (b := p1.toInt) c_41 rfl rfl
            refine jj_aload_n C dX11_daysUntil_63 rfl ?_
            refine tt_getF C hok_35 jk_12 2 (by decide) jw_bca200ef97 (t := (2, 4, 0)) hk0 (by decide) rfl rfl hm.2.2.1 dX11_daysUntil_64 ?_
            refine jj_aload_n C dX11_daysUntil_67 rfl ?_
            refine tt_getF C hok_35 jk_12 0 (by decide) jw_34eaf3ba8b (t := (2, 2, 0)) hk0 (by decide) rfl rfl hm.1 dX11_daysUntil_68 ?_
            refine tt_callS (rest := []) C (rs_copy_at0_aw hl D cA ak g_14 hk0 hkw hka hkt hki hkf hkp hok_35 hm hC_15) [] [] rfl rfl (by decide) (by decide) (by decide) jw_b2f7d68e03 jw_8cf8ac8b0e jw_f96c99f44d jw_1431b790b8 jn_X11_copy rfl (jj_le rfl) (jj_le rfl) (jj_le rfl) (jj_le rfl) (jj_le rfl) dX11_daysUntil_71 rfl (fun _ _ _ hX => hX.elim) (fun rx pl_42 r O_46 => ?_)
            obtain ⟨rfl, hok_43, hr_44, ha_45, hR_47⟩ := O_46
            replace hf_20 := hr_44.at hk0 (by decide) (by decide) hf_20
            replace hCp := ha_45.at hkp (by decide) (by decide) hCp
            replace hC_15 := ha_45.at hkt (by decide) (by decide) hC_15
            replace hm := hm.fr hr_44 hk0 rfl
            replace hfr := hfr.trans (hr_44.sub (by decide))
            replace hfa := hfa.trans (ha_45.sub (by decide))
            obtain ⟨g_48, hC_49, he_50, rfl⟩ := hR_47
            obtain ⟨⟨g0ag_48, g0bg_48⟩, ⟨g1ag_48, g1bg_48⟩, ⟨g6ag_48, g6bg_48⟩, ⟨g7ag_48, g7bg_48⟩, ⟨g8ag_48, g8bg_48⟩⟩ := (rl_I.cong (rl_I.cong hI he_16).1 he_50).1.1.1
            refine jj_iload_n C dX11_daysUntil_74 rfl ?_
            refine jj_sipush (v := 400) C dX11_daysUntil_75 (by decide) ?_
            refine jj_icmp_le (tgt := 85) C dX11_daysUntil_78 (by decide) (fun c_51 => ?_) (fun c_51 => ?_)
            · have z_c_51 := jc_le (a := ((k_18 : Nat) : Int)) (b := 400) c_51 (rl_ti (by omega)) (by decide)
              refine jj_iload_n C dX11_daysUntil_85 rfl ?_
              exact jj_iret C ⟨[], pl_42, rfl, rfl, hok_43, hfr, hfa, ⟨⟨_, _, n6, hC_49, hCp, hf_20, (by omega), (((hK.cong he_16).cong he_50).mono (by omega) (by omega)), hHP.mono (by omega) (by omega)⟩, (nI k_18), rfl⟩⟩ dX11_daysUntil_86 (jj_le rfl) (jj_le rfl)
            · have z_c_51 := jc_nle (a := ((k_18 : Nat) : Int)) (b := 400) c_51 (rl_ti (by omega)) (by decide)
              exfalso; omega
          · have z_c_41 := jc_nleL (a := y_40.toInt) (b := p1.toInt) c_41 rfl rfl
            refine jj_aload_n C dX11_daysUntil_50 rfl ?_
            refine jj_iconst (v := 1) C dX11_daysUntil_51 (by decide) ?_
            obtain ⟨qc, gs, hqc⟩ := tt_recv (cx := []) hok_35 hk0 (by decide) rfl
            refine tt_callV (rest := []) C (rs_goDays hl D cA ak (1 : Int32) B g_19 hk0 hkw hka hkt hki hkf hkp hD_22.1 hD_22.2.1 hB hok_35 hm hC_21) [] [] rfl rfl (by decide) (by decide) (by decide) qc hqc rfl rfl jw_6a0cf12fa5 jw_e5eaade289 jw_28c5f3477c jw_f96c99f44d jw_09fd61e7f6 jn_X11_goDays rfl (jj_le rfl) (jj_le rfl) (jj_le rfl) (jj_le rfl) (jj_le rfl) dX11_daysUntil_52 rfl (fun _ _ _ hX => hX.elim) (fun rx pl_52 r O_56 => ?_)
            obtain ⟨rfl, hok_53, hr_54, ha_55, hR_57⟩ := O_56
            replace hf_20 := hr_54.at hk0 (by decide) (by decide) hf_20
            replace hCp := ha_55.at hkp (by decide) (by decide) hCp
            replace hC_15 := ha_55.at hkt (by decide) (by decide) hC_15
            replace hm := hm.fr hr_54 hk0 rfl
            replace hfr := hfr.trans (hr_54.sub (by decide))
            replace hfa := hfa.trans (ha_55.sub (by decide))
            obtain ⟨g_58, hC_59, hG_60, y_61, rfl⟩ := hR_57
            obtain ⟨⟨g0ag_58, g0bg_58⟩, ⟨g1ag_58, g1bg_58⟩, ⟨g6ag_58, g6bg_58⟩, ⟨g7ag_58, g7bg_58⟩, ⟨g8ag_58, g8bg_58⟩⟩ := hG_60.1.1.1
            refine jj_lstore C dX11_daysUntil_55 (by decide) rfl ?_
            refine jj_iinc (v := nI (1 + k_18)) C dX11_daysUntil_57 rfl (rl_addR (kn := 1) (by decide) (by omega)) (by decide) rfl ?_
            refine jj_goto (tgt := 34) C dX11_daysUntil_60 (by decide) ?_
            refine jj_loc [0, 2, 3] rfl ?_
            exact ihL_17 pl_52 (1 + k_18) g_58 hok_53 hfr hfa hm hf_20 hCp hC_15 hC_59 (hD_22.trans hG_60) (by first | omega | decide | exact tt_lo _ | exact tt_hi _) (by first | omega | decide | exact tt_lo _ | exact tt_hi _) (by first | omega | decide | exact tt_lo _ | exact tt_hi _)
    exact hL_17 _ pl_8 0 f trivial hok_9 hfr hfa hm hs6 hCp hC_15 hC (rl_G.init hI hP) (by first | omega | decide | exact tt_lo _ | exact tt_hi _) (by first | omega | decide | exact tt_lo _ | exact tt_hi _) (Int.self_le_toNat _)
  · have z_c_1 := jc_nleL (a := 0) (b := p1.toInt) c_1 (by decide) rfl
    refine jj_iconst (v := 1) C dX11_daysUntil_7 (by decide) ?_
    refine jj_goto (tgt := 12) C dX11_daysUntil_8 (by decide) ?_
    refine jj_iconst (v := 1) C dX11_daysUntil_12 (by decide) ?_
    obtain ⟨qc, gs, hqc⟩ := tt_recv (cx := []) hok hk0 (by decide) rfl
    refine tt_callV (rest := []) C (rc_X11_fails_f00e4f hl D cA ak hk0 hkw hka hkt hki hkf hkp hok hm) [] [] rfl rfl (by decide) (by decide) (by decide) qc hqc rfl rfl jw_9c28fd2e32 jw_193b10eb43 jw_69bbe80566 jw_f96c99f44d jw_a520512e18 jn_X11_fails rfl (jj_le rfl) (jj_le rfl) (jj_le rfl) (jj_le rfl) (jj_le rfl) dX11_daysUntil_13 rfl (fun _ _ _ hX => hX.elim) (fun rx pl_62 r O_66 => ?_)
    obtain ⟨rfl, hok_63, hr_64, ha_65, hR_67⟩ := O_66
    replace hs6 := hr_64.at hk0 (by decide) (by decide) hs6
    replace hC := ha_65.at hkw (by decide) (by decide) hC
    replace hCp := ha_65.at hkp (by decide) (by decide) hCp
    replace hm := hm.fr hr_64 hk0 rfl
    replace hfr := hfr.trans (hr_64.sub (by decide))
    replace hfa := hfa.trans (ha_65.sub (by decide))
    obtain rfl := hR_67
    refine jj_if_eqF (tgt := 21) C dX11_daysUntil_16 (by decide) (by decide) ?_
    refine jj_iconst (v := 0) C dX11_daysUntil_19 (by decide) ?_
    exact jj_iret C ⟨[], pl_62, rfl, rfl, hok_63, hfr, hfa, ⟨⟨_, _, n6, hC, hCp, hs6, (by omega), (hK.mono (by omega) (by omega)), hHP.mono (by omega) (by omega)⟩, (0 : Int32), rfl⟩⟩ dX11_daysUntil_20 (jj_le rfl) (jj_le rfl)

set_option maxHeartbeats 4000000 in
set_option maxRecDepth 100000 in
theorem rs_wouldCrystallize {l : Launch} (hl : l.stackTraces = false) (D : va_G) (cA : Nat → ClassId) (ak : (Nat → Nat) × (Nat → Nat)) {Kd : Nat → Nat} {h0 aw aa at0 ai af ap : Nat} (n6 : Nat) (B C9 : Int) (f P : Nat → Int64) (hk0 : Kd h0 = 1) (hkw : Kd aw = 2) (hka : Kd aa = 3) (hkt : Kd at0 = 4) (hki : Kd ai = 5) (hkf : Kd af = 6) (hkp : Kd ap = 7) (ln6 : (0 : Int) ≤ (n6 : Int)) (un6 : (n6 : Int) ≤ 10) (hK : rl_K B C9 f) (hHP : rl_HP B C9 P n6) (hB5 : B ≤ 43520000000) (hB0 : 12760000000 ≤ B) (hC9 : 0 ≤ C9 ∧ C9 ≤ 4000000000000000000) {pl0 : va_W} (hok : tt_ok rt_tk cA Kd pl0) (hm : rl_m pl0 h0 aw aa at0 ai af ap) (hC : tt_lc pl0 aw f) (hCp : tt_lc pl0 ap P) (hs6 : tt_at pl0 h0 6 (.int (nI n6))) : jj_M l D cA ak yX11_wouldCrystallize (.code yX11_wouldCrystallize cX11_wouldCrystallize 3 (some .long)) 4 114 0 0 ([] ++ pl0) [.ref h0] (tt_O (fun rx pl1 r => rx = [] ∧ tt_ok rt_tk cA Kd pl1 ∧ tt_fr Kd [(1, 7)] pl0 pl1 ∧ tt_fa Kd [2, 4] pl0 pl1 ∧ ((rl_M (B + 30000000) (C9 + 2000) pl1 h0 aw ap ∧ ∃ v : Int64, r = some (.long v))))) (tt_OX (fun _ _ _ => False)) := by
  refine jj_start hl (by decide) jw_a12432dd52 (jj_le rfl) ?_
  intro p e s m args below meth c A hargs hA C hex hmn
  have hfr := tt_fr.refl (K := Kd) (WS := [(1, 7)]) pl0
  have hfa := tt_fa.refl (K := Kd) (WA := [2, 4]) pl0
  have hI := hK.1
  have hP := hK.2.1
  have hH := hI.1.1
  obtain ⟨⟨g0a, g0b⟩, ⟨g1a, g1b⟩, ⟨g6a, g6b⟩, ⟨g7a, g7b⟩, ⟨g8a, g8b⟩⟩ := hH
  have hB : B ≤ 43920000000 := by omega
  have hB6 : B + 360000000 ≤ 43920000000 := by omega
  have h9a := hK.2.2.1
  have h9b := hK.2.2.2
  have h9 : 0 ≤ (f 9).toInt ∧ (f 9).toInt < 4611686018427387000 := ⟨h9a, by omega⟩
  refine jj_aload_n C dX11_wouldCrystallize_0 rfl ?_
  refine jj_iconst (v := 0) C dX11_wouldCrystallize_1 (by decide) ?_
  refine rl_put C hok jk_12 7 (by decide) jw_0a65e3738e (t := (0, (-2147483648), 2147483647)) hk0 (by decide) rfl rfl rfl (tt_ia (0 : Int32)) rfl rfl dX11_wouldCrystallize_2 (fun pl_1 hok_2 tr hn tl => ?_)
  replace hs6 := tr _ _ _ (Or.inr (by decide)) hs6
  have hf_3 := hn
  replace hm := hm.put tr (by decide)
  replace hfr := hfr.put hk0 tr (by decide)
  replace hC := tl _ _ hC
  replace hCp := tl _ _ hCp
  replace hfa := hfa.all tl
  refine jj_aload_n C dX11_wouldCrystallize_5 rfl ?_
  refine tt_getF C hok_2 jk_12 0 (by decide) jw_34eaf3ba8b (t := (2, 2, 0)) hk0 (by decide) rfl rfl hm.1 dX11_wouldCrystallize_6 ?_
  refine jj_aload_n C dX11_wouldCrystallize_9 rfl ?_
  refine tt_getF C hok_2 jk_12 2 (by decide) jw_bca200ef97 (t := (2, 4, 0)) hk0 (by decide) rfl rfl hm.2.2.1 dX11_wouldCrystallize_10 ?_
  refine tt_callS (rest := []) C (rs_copy_aw_at0 hl D cA ak f hk0 hkw hka hkt hki hkf hkp hok_2 hm hC) [] [] rfl rfl (by decide) (by decide) (by decide) jw_b2f7d68e03 jw_8cf8ac8b0e jw_f96c99f44d jw_1431b790b8 jn_X11_copy rfl (jj_le rfl) (jj_le rfl) (jj_le rfl) (jj_le rfl) (jj_le rfl) dX11_wouldCrystallize_13 rfl (fun _ _ _ hX => hX.elim) (fun rx pl_4 r O_8 => ?_)
  obtain ⟨rfl, hok_5, hr_6, ha_7, hR_9⟩ := O_8
  replace hs6 := hr_6.at hk0 (by decide) (by decide) hs6
  replace hf_3 := hr_6.at hk0 (by decide) (by decide) hf_3
  replace hC := ha_7.at hkw (by decide) (by decide) hC
  replace hCp := ha_7.at hkp (by decide) (by decide) hCp
  replace hm := hm.fr hr_6 hk0 rfl
  replace hfr := hfr.trans (hr_6.sub (by decide))
  replace hfa := hfa.trans (ha_7.sub (by decide))
  obtain ⟨g_10, hC_11, he_12, rfl⟩ := hR_9
  refine jj_aload_n C dX11_wouldCrystallize_16 rfl ?_
  obtain ⟨qc, gs, hqc⟩ := tt_recv (cx := []) hok_5 hk0 (by decide) rfl
  refine tt_callV (rest := []) C (rs_crystallizeAll hl D cA ak B f hk0 hkw hka hkt hki hkf hkp hI hP (by omega) hok_5 hm hC) [] [] rfl rfl (by decide) (by decide) (by decide) qc hqc rfl rfl jw_fc6cc84c3a jw_5814701839 jw_09f413f815 jw_f96c99f44d jw_cb826cdb82 jn_X11_crystallizeAll rfl (jj_le rfl) (jj_le rfl) (jj_le rfl) (jj_le rfl) (jj_le rfl) dX11_wouldCrystallize_17 rfl (fun _ _ _ hX => hX.elim) (fun rx pl_13 r O_17 => ?_)
  obtain ⟨rfl, hok_14, hr_15, ha_16, hR_18⟩ := O_17
  replace hs6 := hr_15.at hk0 (by decide) (by decide) hs6
  replace hf_3 := hr_15.at hk0 (by decide) (by decide) hf_3
  replace hCp := ha_16.at hkp (by decide) (by decide) hCp
  replace hC_11 := ha_16.at hkt (by decide) (by decide) hC_11
  replace hm := hm.fr hr_15 hk0 rfl
  replace hfr := hfr.trans (hr_15.sub (by decide))
  replace hfa := hfa.trans (ha_16.sub (by decide))
  obtain ⟨g_19, hC_20, hI_21, hP_22, hq_23, hq_24, y_25, rfl⟩ := hR_18
  obtain ⟨⟨g0ag_19, g0bg_19⟩, ⟨g1ag_19, g1bg_19⟩, ⟨g6ag_19, g6bg_19⟩, ⟨g7ag_19, g7bg_19⟩, ⟨g8ag_19, g8bg_19⟩⟩ := hI_21.1.1
  refine jj_lstore_n C dX11_wouldCrystallize_20 (by decide) rfl ?_
  refine jj_aload_n C dX11_wouldCrystallize_21 rfl ?_
  refine tt_getF C hok_14 jk_12 2 (by decide) jw_bca200ef97 (t := (2, 4, 0)) hk0 (by decide) rfl rfl hm.2.2.1 dX11_wouldCrystallize_22 ?_
  refine jj_aload_n C dX11_wouldCrystallize_25 rfl ?_
  refine tt_getF C hok_14 jk_12 0 (by decide) jw_34eaf3ba8b (t := (2, 2, 0)) hk0 (by decide) rfl rfl hm.1 dX11_wouldCrystallize_26 ?_
  refine tt_callS (rest := []) C (rs_copy_at0_aw hl D cA ak g_10 hk0 hkw hka hkt hki hkf hkp hok_14 hm hC_11) [] [] rfl rfl (by decide) (by decide) (by decide) jw_b2f7d68e03 jw_8cf8ac8b0e jw_f96c99f44d jw_1431b790b8 jn_X11_copy rfl (jj_le rfl) (jj_le rfl) (jj_le rfl) (jj_le rfl) (jj_le rfl) dX11_wouldCrystallize_29 rfl (fun _ _ _ hX => hX.elim) (fun rx pl_26 r O_30 => ?_)
  obtain ⟨rfl, hok_27, hr_28, ha_29, hR_31⟩ := O_30
  replace hs6 := hr_28.at hk0 (by decide) (by decide) hs6
  replace hf_3 := hr_28.at hk0 (by decide) (by decide) hf_3
  replace hCp := ha_29.at hkp (by decide) (by decide) hCp
  replace hC_11 := ha_29.at hkt (by decide) (by decide) hC_11
  replace hm := hm.fr hr_28 hk0 rfl
  replace hfr := hfr.trans (hr_28.sub (by decide))
  replace hfa := hfa.trans (ha_29.sub (by decide))
  obtain ⟨g_32, hC_33, he_34, rfl⟩ := hR_31
  obtain ⟨⟨g0ag_32, g0bg_32⟩, ⟨g1ag_32, g1bg_32⟩, ⟨g6ag_32, g6bg_32⟩, ⟨g7ag_32, g7bg_32⟩, ⟨g8ag_32, g8bg_32⟩⟩ := (rl_I.cong (rl_I.cong hI he_12).1 he_34).1.1.1
  refine jj_lload_n C dX11_wouldCrystallize_32 rfl ?_
  exact jj_lret C ⟨[], pl_26, rfl, rfl, hok_27, hfr, hfa, ⟨⟨_, _, n6, hC_33, hCp, hs6, (by omega), (((hK.cong he_12).cong he_34).mono (by omega) (by omega)), hHP.mono (by omega) (by omega)⟩, y_25, rfl⟩⟩ dX11_wouldCrystallize_33 (jj_le rfl) (jj_le rfl)

set_option maxHeartbeats 4000000 in
set_option maxRecDepth 100000 in
theorem rs_wouldMerge {l : Launch} (hl : l.stackTraces = false) (D : va_G) (cA : Nat → ClassId) (ak : (Nat → Nat) × (Nat → Nat)) {Kd : Nat → Nat} {h0 aw aa at0 ai af ap : Nat} (n6 : Nat) (B C9 : Int) (f P : Nat → Int64) (hk0 : Kd h0 = 1) (hkw : Kd aw = 2) (hka : Kd aa = 3) (hkt : Kd at0 = 4) (hki : Kd ai = 5) (hkf : Kd af = 6) (hkp : Kd ap = 7) (ln6 : (0 : Int) ≤ (n6 : Int)) (un6 : (n6 : Int) ≤ 10) (hK : rl_K B C9 f) (hHP : rl_HP B C9 P n6) (hB5 : B ≤ 43520000000) (hB0 : 12760000000 ≤ B) (hC9 : 0 ≤ C9 ∧ C9 ≤ 4000000000000000000) {pl0 : va_W} (hok : tt_ok rt_tk cA Kd pl0) (hm : rl_m pl0 h0 aw aa at0 ai af ap) (hC : tt_lc pl0 aw f) (hCp : tt_lc pl0 ap P) (hs6 : tt_at pl0 h0 6 (.int (nI n6))) : jj_M l D cA ak yX11_wouldMerge (.code yX11_wouldMerge cX11_wouldMerge 4 (some .int)) 4 114 0 0 ([] ++ pl0) [.ref h0] (tt_O (fun rx pl1 r => rx = [] ∧ tt_ok rt_tk cA Kd pl1 ∧ tt_fr Kd [(1, 7)] pl0 pl1 ∧ tt_fa Kd [2, 4] pl0 pl1 ∧ ((rl_M (B + 30000000) (C9 + 2000) pl1 h0 aw ap ∧ ∃ v : Int32, r = some (.int v))))) (tt_OX (fun _ _ _ => False)) := by
  refine jj_start hl (by decide) jw_9860a95e59 (jj_le rfl) ?_
  intro p e s m args below meth c A hargs hA C hex hmn
  have hfr := tt_fr.refl (K := Kd) (WS := [(1, 7)]) pl0
  have hfa := tt_fa.refl (K := Kd) (WA := [2, 4]) pl0
  have hI := hK.1
  have hP := hK.2.1
  have hH := hI.1.1
  obtain ⟨⟨g0a, g0b⟩, ⟨g1a, g1b⟩, ⟨g6a, g6b⟩, ⟨g7a, g7b⟩, ⟨g8a, g8b⟩⟩ := hH
  have hB : B ≤ 43920000000 := by omega
  have hB6 : B + 360000000 ≤ 43920000000 := by omega
  have h9a := hK.2.2.1
  have h9b := hK.2.2.2
  have h9 : 0 ≤ (f 9).toInt ∧ (f 9).toInt < 4611686018427387000 := ⟨h9a, by omega⟩
  refine jj_aload_n C dX11_wouldMerge_0 rfl ?_
  refine jj_iconst (v := 0) C dX11_wouldMerge_1 (by decide) ?_
  refine rl_put C hok jk_12 7 (by decide) jw_0a65e3738e (t := (0, (-2147483648), 2147483647)) hk0 (by decide) rfl rfl rfl (tt_ia (0 : Int32)) rfl rfl dX11_wouldMerge_2 (fun pl_1 hok_2 tr hn tl => ?_)
  replace hs6 := tr _ _ _ (Or.inr (by decide)) hs6
  have hf_3 := hn
  replace hm := hm.put tr (by decide)
  replace hfr := hfr.put hk0 tr (by decide)
  replace hC := tl _ _ hC
  replace hCp := tl _ _ hCp
  replace hfa := hfa.all tl
  refine jj_aload_n C dX11_wouldMerge_5 rfl ?_
  refine tt_getF C hok_2 jk_12 0 (by decide) jw_34eaf3ba8b (t := (2, 2, 0)) hk0 (by decide) rfl rfl hm.1 dX11_wouldMerge_6 ?_
  refine jj_aload_n C dX11_wouldMerge_9 rfl ?_
  refine tt_getF C hok_2 jk_12 2 (by decide) jw_bca200ef97 (t := (2, 4, 0)) hk0 (by decide) rfl rfl hm.2.2.1 dX11_wouldMerge_10 ?_
  refine tt_callS (rest := []) C (rs_copy_aw_at0 hl D cA ak f hk0 hkw hka hkt hki hkf hkp hok_2 hm hC) [] [] rfl rfl (by decide) (by decide) (by decide) jw_b2f7d68e03 jw_8cf8ac8b0e jw_f96c99f44d jw_1431b790b8 jn_X11_copy rfl (jj_le rfl) (jj_le rfl) (jj_le rfl) (jj_le rfl) (jj_le rfl) dX11_wouldMerge_13 rfl (fun _ _ _ hX => hX.elim) (fun rx pl_4 r O_8 => ?_)
  obtain ⟨rfl, hok_5, hr_6, ha_7, hR_9⟩ := O_8
  replace hs6 := hr_6.at hk0 (by decide) (by decide) hs6
  replace hf_3 := hr_6.at hk0 (by decide) (by decide) hf_3
  replace hC := ha_7.at hkw (by decide) (by decide) hC
  replace hCp := ha_7.at hkp (by decide) (by decide) hCp
  replace hm := hm.fr hr_6 hk0 rfl
  replace hfr := hfr.trans (hr_6.sub (by decide))
  replace hfa := hfa.trans (ha_7.sub (by decide))
  obtain ⟨g_10, hC_11, he_12, rfl⟩ := hR_9
  refine jj_aload_n C dX11_wouldMerge_16 rfl ?_
  obtain ⟨qc, gs, hqc⟩ := tt_recv (cx := []) hok_5 hk0 (by decide) rfl
  refine tt_callV (rest := []) C (rs_crystallizeAll hl D cA ak B f hk0 hkw hka hkt hki hkf hkp hI hP (by omega) hok_5 hm hC) [] [] rfl rfl (by decide) (by decide) (by decide) qc hqc rfl rfl jw_fc6cc84c3a jw_5814701839 jw_09f413f815 jw_f96c99f44d jw_cb826cdb82 jn_X11_crystallizeAll rfl (jj_le rfl) (jj_le rfl) (jj_le rfl) (jj_le rfl) (jj_le rfl) dX11_wouldMerge_17 rfl (fun _ _ _ hX => hX.elim) (fun rx pl_13 r O_17 => ?_)
  obtain ⟨rfl, hok_14, hr_15, ha_16, hR_18⟩ := O_17
  replace hs6 := hr_15.at hk0 (by decide) (by decide) hs6
  replace hf_3 := hr_15.at hk0 (by decide) (by decide) hf_3
  replace hCp := ha_16.at hkp (by decide) (by decide) hCp
  replace hC_11 := ha_16.at hkt (by decide) (by decide) hC_11
  replace hm := hm.fr hr_15 hk0 rfl
  replace hfr := hfr.trans (hr_15.sub (by decide))
  replace hfa := hfa.trans (ha_16.sub (by decide))
  obtain ⟨g_19, hC_20, hI_21, hP_22, hq_23, hq_24, y_25, rfl⟩ := hR_18
  obtain ⟨⟨g0ag_19, g0bg_19⟩, ⟨g1ag_19, g1bg_19⟩, ⟨g6ag_19, g6bg_19⟩, ⟨g7ag_19, g7bg_19⟩, ⟨g8ag_19, g8bg_19⟩⟩ := hI_21.1.1
  refine jj_lstore_n C dX11_wouldMerge_20 (by decide) rfl ?_
  refine jj_aload_n C dX11_wouldMerge_21 rfl ?_
  obtain ⟨qc, gs, hqc⟩ := tt_recv (cx := []) hok_14 hk0 (by decide) rfl
  refine tt_callV (rest := []) C (rs_mergeAll hl D cA ak B g_19 hk0 hkw hka hkt hki hkf hkp hI_21 hP_22 (by omega) hok_14 hm hC_20) [] [] rfl rfl (by decide) (by decide) (by decide) qc hqc rfl rfl jw_c2961d41c3 jw_cba6ce7d79 jw_ec77e1d55c jw_f96c99f44d jw_2b00fc14d7 jn_X11_mergeAll rfl (jj_le rfl) (jj_le rfl) (jj_le rfl) (jj_le rfl) (jj_le rfl) dX11_wouldMerge_22 rfl (fun _ _ _ hX => hX.elim) (fun rx pl_26 r O_30 => ?_)
  obtain ⟨rfl, hok_27, hr_28, ha_29, hR_31⟩ := O_30
  replace hs6 := hr_28.at hk0 (by decide) (by decide) hs6
  replace hf_3 := hr_28.at hk0 (by decide) (by decide) hf_3
  replace hCp := ha_29.at hkp (by decide) (by decide) hCp
  replace hC_11 := ha_29.at hkt (by decide) (by decide) hC_11
  replace hm := hm.fr hr_28 hk0 rfl
  replace hfr := hfr.trans (hr_28.sub (by decide))
  replace hfa := hfa.trans (ha_29.sub (by decide))
  obtain ⟨g_32, hC_33, hI_34, hP_35, hq_36, hq_37, x_38, rfl⟩ := hR_31
  obtain ⟨⟨g0ag_32, g0bg_32⟩, ⟨g1ag_32, g1bg_32⟩, ⟨g6ag_32, g6bg_32⟩, ⟨g7ag_32, g7bg_32⟩, ⟨g8ag_32, g8bg_32⟩⟩ := hI_34.1.1
  refine jj_istore_n C dX11_wouldMerge_25 (by decide) rfl ?_
  refine jj_aload_n C dX11_wouldMerge_26 rfl ?_
  refine tt_getF C hok_27 jk_12 2 (by decide) jw_bca200ef97 (t := (2, 4, 0)) hk0 (by decide) rfl rfl hm.2.2.1 dX11_wouldMerge_27 ?_
  refine jj_aload_n C dX11_wouldMerge_30 rfl ?_
  refine tt_getF C hok_27 jk_12 0 (by decide) jw_34eaf3ba8b (t := (2, 2, 0)) hk0 (by decide) rfl rfl hm.1 dX11_wouldMerge_31 ?_
  refine tt_callS (rest := []) C (rs_copy_at0_aw hl D cA ak g_10 hk0 hkw hka hkt hki hkf hkp hok_27 hm hC_11) [] [] rfl rfl (by decide) (by decide) (by decide) jw_b2f7d68e03 jw_8cf8ac8b0e jw_f96c99f44d jw_1431b790b8 jn_X11_copy rfl (jj_le rfl) (jj_le rfl) (jj_le rfl) (jj_le rfl) (jj_le rfl) dX11_wouldMerge_34 rfl (fun _ _ _ hX => hX.elim) (fun rx pl_39 r O_43 => ?_)
  obtain ⟨rfl, hok_40, hr_41, ha_42, hR_44⟩ := O_43
  replace hs6 := hr_41.at hk0 (by decide) (by decide) hs6
  replace hf_3 := hr_41.at hk0 (by decide) (by decide) hf_3
  replace hCp := ha_42.at hkp (by decide) (by decide) hCp
  replace hC_11 := ha_42.at hkt (by decide) (by decide) hC_11
  replace hm := hm.fr hr_41 hk0 rfl
  replace hfr := hfr.trans (hr_41.sub (by decide))
  replace hfa := hfa.trans (ha_42.sub (by decide))
  obtain ⟨g_45, hC_46, he_47, rfl⟩ := hR_44
  obtain ⟨⟨g0ag_45, g0bg_45⟩, ⟨g1ag_45, g1bg_45⟩, ⟨g6ag_45, g6bg_45⟩, ⟨g7ag_45, g7bg_45⟩, ⟨g8ag_45, g8bg_45⟩⟩ := (rl_I.cong (rl_I.cong hI he_12).1 he_47).1.1.1
  refine jj_iload_n C dX11_wouldMerge_37 rfl ?_
  exact jj_iret C ⟨[], pl_39, rfl, rfl, hok_40, hfr, hfa, ⟨⟨_, _, n6, hC_46, hCp, hs6, (by omega), (((hK.cong he_12).cong he_47).mono (by omega) (by omega)), hHP.mono (by omega) (by omega)⟩, x_38, rfl⟩⟩ dX11_wouldMerge_38 (jj_le rfl) (jj_le rfl)

set_option maxHeartbeats 4000000 in
set_option maxRecDepth 100000 in
theorem rs_bestGate {l : Launch} (hl : l.stackTraces = false) (D : va_G) (cA : Nat → ClassId) (ak : (Nat → Nat) × (Nat → Nat)) {Kd : Nat → Nat} {h0 aw aa at0 ai af ap : Nat} (n6 : Nat) (p1 : Int32) (B C9 : Int) (f P : Nat → Int64) (hk0 : Kd h0 = 1) (hkw : Kd aw = 2) (hka : Kd aa = 3) (hkt : Kd at0 = 4) (hki : Kd ai = 5) (hkf : Kd af = 6) (hkp : Kd ap = 7) (ln6 : (0 : Int) ≤ (n6 : Int)) (un6 : (n6 : Int) ≤ 10) (hK : rl_K B C9 f) (hHP : rl_HP B C9 P n6) (hB5 : B ≤ 43520000000) (hB0 : 12760000000 ≤ B) (hC9 : 0 ≤ C9 ∧ C9 ≤ 4000000000000000000) {pl0 : va_W} (hok : tt_ok rt_tk cA Kd pl0) (hm : rl_m pl0 h0 aw aa at0 ai af ap) (hC : tt_lc pl0 aw f) (hCp : tt_lc pl0 ap P) (hs6 : tt_at pl0 h0 6 (.int (nI n6))) : jj_M l D cA ak yX11_bestGate (.code yX11_bestGate cX11_bestGate 3 (some .int)) 8 206 0 0 ([] ++ pl0) [.ref h0, .int p1] (tt_O (fun rx pl1 r => rx = [] ∧ tt_ok rt_tk cA Kd pl1 ∧ tt_fr Kd [(1, 7), (1, 8), (1, 9)] pl0 pl1 ∧ tt_fa Kd [2, 4, 5, 8, 9] pl0 pl1 ∧ ((rl_M (B + 30000000) (C9 + 2000) pl1 h0 aw ap ∧ ∃ v : Int32, r = some (.int v))))) (tt_OX (fun _ _ _ => False)) := by
  refine jj_start hl (by decide) jw_a9ad4e3931 (jj_le rfl) ?_
  intro p e s m args below meth c A hargs hA C hex hmn
  have hfr := tt_fr.refl (K := Kd) (WS := [(1, 7), (1, 8), (1, 9)]) pl0
  have hfa := tt_fa.refl (K := Kd) (WA := [2, 4, 5, 8, 9]) pl0
  have hI := hK.1
  have hP := hK.2.1
  have hH := hI.1.1
  obtain ⟨⟨g0a, g0b⟩, ⟨g1a, g1b⟩, ⟨g6a, g6b⟩, ⟨g7a, g7b⟩, ⟨g8a, g8b⟩⟩ := hH
  have hB : B ≤ 43920000000 := by omega
  have hB6 : B + 360000000 ≤ 43920000000 := by omega
  have h9a := hK.2.2.1
  have h9b := hK.2.2.2
  have h9 : 0 ≤ (f 9).toInt ∧ (f 9).toInt < 4611686018427387000 := ⟨h9a, by omega⟩
  have lp1 := tt_lo p1
  have up1 := tt_hi p1
  obtain ⟨ad, fd, hkd, hd, hdc⟩ := rl_done hok hk0
  refine jj_aload_n C dX11_bestGate_0 rfl ?_
  refine jj_iload_n C dX11_bestGate_1 rfl ?_
  obtain ⟨qc, gs, hqc⟩ := tt_recv (cx := []) hok hk0 (by decide) rfl
  refine tt_callV (rest := []) C (rs_isNoRequest hl D cA ak p1 f hk0 hkw hka hkt hki hkf hkp ⟨⟨g0a, g0b⟩, ⟨g1a, g1b⟩, ⟨g6a, g6b⟩, ⟨g7a, g7b⟩, ⟨g8a, g8b⟩⟩ hok hm hC) [] [] rfl rfl (by decide) (by decide) (by decide) qc hqc rfl rfl jw_1118ba758b jw_4c29d1d481 jw_f79fbf9a9e jw_f96c99f44d jw_c6d824393d jn_X11_isNoRequest rfl (jj_le rfl) (jj_le rfl) (jj_le rfl) (jj_le rfl) (jj_le rfl) dX11_bestGate_2 rfl (fun _ _ _ hX => hX.elim) (fun rx pl_1 r O_5 => ?_)
  obtain ⟨rfl, hok_2, hr_3, ha_4, hR_6⟩ := O_5
  replace hd := hr_3.at hk0 (by decide) (by decide) hd
  replace hs6 := hr_3.at hk0 (by decide) (by decide) hs6
  replace hC := ha_4.at hkw (by decide) (by decide) hC
  replace hCp := ha_4.at hkp (by decide) (by decide) hCp
  replace hdc := ha_4.at hkd (by decide) (by decide) hdc
  replace hm := hm.fr hr_3 hk0 rfl
  replace hfr := hfr.trans (hr_3.sub (by decide))
  replace hfa := hfa.trans (ha_4.sub (by decide))
  rcases hR_6 with rfl | ⟨hz_7, rfl⟩
  · refine jj_if_eqF (tgt := 10) C dX11_bestGate_5 (by decide) (by decide) ?_
    refine jj_iconst (v := 0) C dX11_bestGate_8 (by decide) ?_
    exact jj_iret C ⟨[], pl_1, rfl, rfl, hok_2, hfr, hfa, ⟨⟨_, _, n6, hC, hCp, hs6, (by omega), (hK.mono (by omega) (by omega)), hHP.mono (by omega) (by omega)⟩, (0 : Int32), rfl⟩⟩ dX11_bestGate_9 (jj_le rfl) (jj_le rfl)
  · have hz_71 := hz_7.1
    have hz_72 := hz_7.2
    refine jj_if_eqT (tgt := 10) C dX11_bestGate_5 (by decide) (by decide) ?_
    obtain ⟨n_8, rfl, bn_8⟩ := rl_nat (x := p1) (by omega)
    have vn_8 := rl_ti bn_8
    refine jj_aload_n C dX11_bestGate_10 rfl ?_
    refine jj_iload_n C dX11_bestGate_11 rfl ?_
    obtain ⟨qc, gs, hqc⟩ := tt_recv (cx := []) hok_2 hk0 (by decide) rfl
    refine tt_callV (rest := []) C (rs_isRedemption hl D cA ak n_8 f hk0 hkw hka hkt hki hkf hkp (by omega) hok_2 hm hC) [] [] rfl rfl (by decide) (by decide) (by decide) qc hqc rfl rfl jw_4afadc9e32 jw_d8b192ed60 jw_21f07d63b9 jw_f96c99f44d jw_978e8f4c07 jn_X11_isRedemption rfl (jj_le rfl) (jj_le rfl) (jj_le rfl) (jj_le rfl) (jj_le rfl) dX11_bestGate_12 rfl (fun _ _ _ hX => hX.elim) (fun rx pl_9 r O_13 => ?_)
    obtain ⟨rfl, hok_10, hr_11, ha_12, hR_14⟩ := O_13
    replace hd := hr_11.at hk0 (by decide) (by decide) hd
    replace hs6 := hr_11.at hk0 (by decide) (by decide) hs6
    replace hC := ha_12.at hkw (by decide) (by decide) hC
    replace hCp := ha_12.at hkp (by decide) (by decide) hCp
    replace hdc := ha_12.at hkd (by decide) (by decide) hdc
    replace hm := hm.fr hr_11 hk0 rfl
    replace hfr := hfr.trans (hr_11.sub (by decide))
    replace hfa := hfa.trans (ha_12.sub (by decide))
    rcases hR_14 with ⟨c_15, rfl⟩ | ⟨c_16, rfl⟩
    · refine jj_if_neF (tgt := 20) C dX11_bestGate_15 (by decide) (by decide) ?_
      refine jj_iconst (v := (-1)) C dX11_bestGate_18 (by decide) ?_
      exact jj_iret C ⟨[], pl_9, rfl, rfl, hok_10, hfr, hfa, ⟨⟨_, _, n6, hC, hCp, hs6, (by omega), (hK.mono (by omega) (by omega)), hHP.mono (by omega) (by omega)⟩, ((-1) : Int32), rfl⟩⟩ dX11_bestGate_19 (jj_le rfl) (jj_le rfl)
    · refine jj_if_neT (tgt := 20) C dX11_bestGate_15 (by decide) (by decide) ?_
      refine jj_aload_n C dX11_bestGate_20 rfl ?_
      refine tt_getF C hok_10 jk_12 0 (by decide) jw_34eaf3ba8b (t := (2, 2, 0)) hk0 (by decide) rfl rfl hm.1 dX11_bestGate_21 ?_
      refine jj_aload_n C dX11_bestGate_24 rfl ?_
      refine tt_getF C hok_10 jk_12 2 (by decide) jw_bca200ef97 (t := (2, 4, 0)) hk0 (by decide) rfl rfl hm.2.2.1 dX11_bestGate_25 ?_
      refine tt_callS (rest := []) C (rs_copy_aw_at0 hl D cA ak f hk0 hkw hka hkt hki hkf hkp hok_10 hm hC) [] [] rfl rfl (by decide) (by decide) (by decide) jw_b2f7d68e03 jw_8cf8ac8b0e jw_f96c99f44d jw_1431b790b8 jn_X11_copy rfl (jj_le rfl) (jj_le rfl) (jj_le rfl) (jj_le rfl) (jj_le rfl) dX11_bestGate_28 rfl (fun _ _ _ hX => hX.elim) (fun rx pl_17 r O_21 => ?_)
      obtain ⟨rfl, hok_18, hr_19, ha_20, hR_22⟩ := O_21
      replace hd := hr_19.at hk0 (by decide) (by decide) hd
      replace hs6 := hr_19.at hk0 (by decide) (by decide) hs6
      replace hC := ha_20.at hkw (by decide) (by decide) hC
      replace hCp := ha_20.at hkp (by decide) (by decide) hCp
      replace hdc := ha_20.at hkd (by decide) (by decide) hdc
      replace hm := hm.fr hr_19 hk0 rfl
      replace hfr := hfr.trans (hr_19.sub (by decide))
      replace hfa := hfa.trans (ha_20.sub (by decide))
      obtain ⟨g_23, hC_24, he_25, rfl⟩ := hR_22
      refine jj_iconst (v := 1) C dX11_bestGate_31 (by decide) ?_
      refine jj_istore_n C dX11_bestGate_32 (by decide) rfl ?_
      have hL_26 : ∀ (N : Nat) (pl : va_W) (k_27 : Nat) (fd_28 : Nat → Int32) (g_29 : Nat → Int64), True → tt_ok rt_tk cA Kd pl → tt_fr Kd [(1, 7), (1, 8), (1, 9)] pl0 pl → tt_fa Kd [2, 4, 5, 8, 9] pl0 pl → rl_m pl h0 aw aa at0 ai af ap → tt_at pl h0 11 (.ref ad) → tt_at pl h0 6 (.int (nI n6)) → tt_lc pl ap P → tt_lc pl at0 g_23 → tt_ic pl ad fd_28 → True → tt_lc pl aw g_29 → (∀ i : Nat, i < 334 → g_29 i = f i) → (1 : Int) ≤ (k_27 : Int) → (k_27 : Int) ≤ 399 → (2147483648 - (k_27 : Int) ≤ (N : Int)) → jj_J p l e (jj_rm 8 206 0 0) s m args below meth c 3 A (vx_MQ below (jj_q D A (tt_O (fun rx pl1 r => rx = [] ∧ tt_ok rt_tk cA Kd pl1 ∧ tt_fr Kd [(1, 7), (1, 8), (1, 9)] pl0 pl1 ∧ tt_fa Kd [2, 4, 5, 8, 9] pl0 pl1 ∧ ((rl_M (B + 30000000) (C9 + 2000) pl1 h0 aw ap ∧ ∃ v : Int32, r = some (.int v)))))) (jj_x D A (tt_OX (fun _ _ _ => False))) args s 0 0 A) (jj_X D A ([] ++ pl)) 0 0 33 [(2, .int (nI k_27)), (0, .ref h0), (1, .int (nI n_8))] [] := by
        intro NL_26
        induction NL_26 with
        | zero => intro pl k_27 fd_28 g_29 _ hok hfr hfa hm hf_30 hf_31 hCp hC_24 hG_32 hE_33 hC_34 hD_35 lk_27 uk_27 hNL_26; exfalso; omega
        | succ NL_26 ihL_26 =>
          intro pl k_27 fd_28 g_29 _ hok hfr hfa hm hf_30 hf_31 hCp hC_24 hG_32 hE_33 hC_34 hD_35 lk_27 uk_27 hNL_26
          replace ihL_26 := fun pl k_27 fd_28 g_29 h1 => ihL_26 pl k_27 fd_28 g_29 trivial h1
          obtain ⟨⟨g0ag_29, g0bg_29⟩, ⟨g1ag_29, g1bg_29⟩, ⟨g6ag_29, g6bg_29⟩, ⟨g7ag_29, g7bg_29⟩, ⟨g8ag_29, g8bg_29⟩⟩ := ((rl_I.cong hI hD_35).1).1.1
          refine jj_iload_n C dX11_bestGate_33 rfl ?_
          refine jj_bipush (v := 100) C dX11_bestGate_34 (by decide) ?_
          refine jj_icmp_gt (tgt := 79) C dX11_bestGate_36 (by decide) (fun c_36 => ?_) (fun c_36 => ?_)
          · have z_c_36 := jc_lt (a := 100) (b := ((k_27 : Nat) : Int)) c_36 (by decide) (rl_ti (by omega))
            refine jj_iconst (v := (-1)) C dX11_bestGate_79 (by decide) ?_
            exact jj_iret C ⟨[], pl, rfl, rfl, hok, hfr, hfa, ⟨⟨_, _, n6, hC_34, hCp, hf_31, (by omega), ((hK.cong hD_35).mono (by omega) (by omega)), hHP.mono (by omega) (by omega)⟩, ((-1) : Int32), rfl⟩⟩ dX11_bestGate_80 (jj_le rfl) (jj_le rfl)
          · have z_c_36 := jc_nlt (a := 100) (b := ((k_27 : Nat) : Int)) c_36 (by decide) (rl_ti (by omega))
            refine jj_aload_n C dX11_bestGate_39 rfl ?_
            refine tt_getF C hok jk_12 0 (by decide) jw_34eaf3ba8b (t := (2, 2, 0)) hk0 (by decide) rfl rfl hm.1 dX11_bestGate_40 ?_
            refine jj_iconst (v := 4) C dX11_bestGate_43 (by decide) ?_
            refine jj_iload_n C dX11_bestGate_44 rfl ?_
            refine jj_i2l C dX11_bestGate_45 rfl ?_
            refine rl_last C hok (t := (1, (-9223372036854775808), 9223372036854775807)) hkw (by decide) rfl (k := 4) (vp_in_iff.mpr (by decide)) (tt_ja _) (by decide) dX11_bestGate_46 (fun pl_37 hok_38 tr tl tw => ?_)
            replace hf_30 := tr _ _ _ hf_30
            replace hf_31 := tr _ _ _ hf_31
            replace hm := hm.arr tr
            replace hfr := hfr.arr tr
            replace hCp := tl _ _ (tt_ne hkp hkw (by decide)) hCp
            replace hC_24 := tl _ _ (tt_ne hkt hkw (by decide)) hC_24
            replace hC_34 := tw _ hC_34
            replace hG_32 := tl _ _ (tt_ne hkd hkw (by decide)) hG_32
            replace hfa := hfa.wr hkw tl (by decide)
            have hK_39 : rl_K B C9 (vp_updL g_29 4 ((nI k_27).toInt64)) := (hK.cong hD_35).gate (by rw [rl_tl (by omega)]; omega)
            refine jj_aload_n C dX11_bestGate_47 rfl ?_
            obtain ⟨qc, gs, hqc⟩ := tt_recv (cx := []) hok_38 hk0 (by decide) rfl
            refine tt_callV (rest := []) C (rs_redeemAll hl D cA ak ad fd_28 B (vp_updL g_29 4 ((nI k_27).toInt64)) hk0 hkw hka hkt hki hkf hkp hkd hK_39.1 hK_39.2.1 hB hok_38 hm hC_34 hf_30 hG_32) [] [] rfl rfl (by decide) (by decide) (by decide) qc hqc rfl rfl jw_b04c4238b0 jw_f6874b993a jw_9f698d72df jw_f96c99f44d jw_0bfdd14151 jn_X11_redeemAll rfl (jj_le rfl) (jj_le rfl) (jj_le rfl) (jj_le rfl) (jj_le rfl) dX11_bestGate_48 rfl (fun _ _ _ hX => hX.elim) (fun rx pl_40 r O_44 => ?_)
            obtain ⟨rfl, hok_41, hr_42, ha_43, hR_45⟩ := O_44
            replace hf_30 := hr_42.at hk0 (by decide) (by decide) hf_30
            replace hf_31 := hr_42.at hk0 (by decide) (by decide) hf_31
            replace hCp := ha_43.at hkp (by decide) (by decide) hCp
            replace hC_24 := ha_43.at hkt (by decide) (by decide) hC_24
            replace hm := hm.fr hr_42 hk0 rfl
            replace hfr := hfr.trans (hr_42.sub (by decide))
            replace hfa := hfa.trans (ha_43.sub (by decide))
            obtain ⟨g_46, gd_47, hC_48, hf_49, hG_50, hR_51, hn_52, rfl⟩ := hR_45
            obtain ⟨⟨g0ag_46, g0bg_46⟩, ⟨g1ag_46, g1bg_46⟩, ⟨g6ag_46, g6bg_46⟩, ⟨g7ag_46, g7bg_46⟩, ⟨g8ag_46, g8bg_46⟩⟩ := hR_51.1.1.1
            refine jj_aload_n C dX11_bestGate_51 rfl ?_
            refine tt_getF C hok_41 jk_12 2 (by decide) jw_bca200ef97 (t := (2, 4, 0)) hk0 (by decide) rfl rfl hm.2.2.1 dX11_bestGate_52 ?_
            refine jj_aload_n C dX11_bestGate_55 rfl ?_
            refine tt_getF C hok_41 jk_12 0 (by decide) jw_34eaf3ba8b (t := (2, 2, 0)) hk0 (by decide) rfl rfl hm.1 dX11_bestGate_56 ?_
            refine tt_callS (rest := []) C (rs_copy_at0_aw hl D cA ak g_23 hk0 hkw hka hkt hki hkf hkp hok_41 hm hC_24) [] [] rfl rfl (by decide) (by decide) (by decide) jw_b2f7d68e03 jw_8cf8ac8b0e jw_f96c99f44d jw_1431b790b8 jn_X11_copy rfl (jj_le rfl) (jj_le rfl) (jj_le rfl) (jj_le rfl) (jj_le rfl) dX11_bestGate_59 rfl (fun _ _ _ hX => hX.elim) (fun rx pl_53 r O_57 => ?_)
            obtain ⟨rfl, hok_54, hr_55, ha_56, hR_58⟩ := O_57
            replace hf_49 := hr_55.at hk0 (by decide) (by decide) hf_49
            replace hf_31 := hr_55.at hk0 (by decide) (by decide) hf_31
            replace hCp := ha_56.at hkp (by decide) (by decide) hCp
            replace hC_24 := ha_56.at hkt (by decide) (by decide) hC_24
            replace hG_50 := ha_56.at hkd (by decide) (by decide) hG_50
            replace hm := hm.fr hr_55 hk0 rfl
            replace hfr := hfr.trans (hr_55.sub (by decide))
            replace hfa := hfa.trans (ha_56.sub (by decide))
            obtain ⟨g_59, hC_60, he_61, rfl⟩ := hR_58
            obtain ⟨⟨g0ag_59, g0bg_59⟩, ⟨g1ag_59, g1bg_59⟩, ⟨g6ag_59, g6bg_59⟩, ⟨g7ag_59, g7bg_59⟩, ⟨g8ag_59, g8bg_59⟩⟩ := (rl_I.cong (rl_I.cong hI he_25).1 he_61).1.1.1
            refine jj_aload_n C dX11_bestGate_62 rfl ?_
            refine tt_getF C hok_54 jk_12 11 (by decide) jw_dca952cae2 (t := (2, 9, 0)) hk0 (by decide) rfl rfl hf_49 dX11_bestGate_63 ?_
            refine jj_iload_n C dX11_bestGate_66 rfl ?_
            refine rl_zald C hok_54 (t := (0, (-2147483648), 2147483647)) hkd (by decide) rfl (k := n_8) (vp_in_nI (by omega) (by decide)) hG_50 (nI_clamp (by omega)) dX11_bestGate_67 ?_
            refine jj_if_eq (tgt := 73) C dX11_bestGate_68 (by decide) (fun c_62 => ?_) (fun c_62 => ?_)
            · have z_c_62 := jc_eq (a := (gd_47 n_8).toInt) (b := 0) c_62 rfl (by decide)
              refine jj_iinc (v := nI (1 + k_27)) C dX11_bestGate_73 rfl (rl_addR (kn := 1) (by decide) (by omega)) (by decide) rfl ?_
              refine jj_goto (tgt := 33) C dX11_bestGate_76 (by decide) ?_
              exact ihL_26 pl_53 (1 + k_27) gd_47 g_59 hok_54 hfr hfa hm hf_49 hf_31 hCp hC_24 hG_50 trivial hC_60 (fun i hi => (he_61 i hi).trans ((fun i hi => (he_25 i hi).trans ((fun _ _ => rfl) i hi)) i hi)) (by first | omega | decide | exact tt_lo _ | exact tt_hi _) (by first | omega | decide | exact tt_lo _ | exact tt_hi _) (by first | omega | decide | exact tt_lo _ | exact tt_hi _)
            · have z_c_62 := jc_neq (a := (gd_47 n_8).toInt) (b := 0) c_62 rfl (by decide)
              refine jj_iload_n C dX11_bestGate_71 rfl ?_
              exact jj_iret C ⟨[], pl_53, rfl, rfl, hok_54, hfr, hfa, ⟨⟨_, _, n6, hC_60, hCp, hf_31, (by omega), (((hK.cong he_25).cong he_61).mono (by omega) (by omega)), hHP.mono (by omega) (by omega)⟩, (nI k_27), rfl⟩⟩ dX11_bestGate_72 (jj_le rfl) (jj_le rfl)
      exact hL_26 _ pl_17 1 fd f trivial hok_18 hfr hfa hm hd hs6 hCp hC_24 hdc trivial hC (fun _ _ => rfl) (by first | omega | decide | exact tt_lo _ | exact tt_hi _) (by first | omega | decide | exact tt_lo _ | exact tt_hi _) (Int.self_le_toNat _)

set_option maxHeartbeats 4000000 in
set_option maxRecDepth 100000 in
theorem rs_seriesValue {l : Launch} (hl : l.stackTraces = false) (D : va_G) (cA : Nat → ClassId) (ak : (Nat → Nat) × (Nat → Nat)) {Kd : Nat → Nat} {h0 aw aa at0 ai af ap : Nat} (n6 : Nat) (p1 : Int32) (p2 : Int32) (B C9 : Int) (f P : Nat → Int64) (hk0 : Kd h0 = 1) (hkw : Kd aw = 2) (hka : Kd aa = 3) (hkt : Kd at0 = 4) (hki : Kd ai = 5) (hkf : Kd af = 6) (hkp : Kd ap = 7) (ln6 : (0 : Int) ≤ (n6 : Int)) (un6 : (n6 : Int) ≤ 10) (hK : rl_K B C9 f) (hHP : rl_HP B C9 P n6) (hB5 : B ≤ 43520000000) (hB0 : 12760000000 ≤ B) (hC9 : 0 ≤ C9 ∧ C9 ≤ 4000000000000000000) {pl0 : va_W} (hok : tt_ok rt_tk cA Kd pl0) (hm : rl_m pl0 h0 aw aa at0 ai af ap) (hC : tt_lc pl0 aw f) (hCp : tt_lc pl0 ap P) (hs6 : tt_at pl0 h0 6 (.int (nI n6))) : jj_M l D cA ak yX11_seriesValue (.code yX11_seriesValue cX11_seriesValue 4 (some .long)) 3 67 0 0 ([] ++ pl0) [.ref h0, .int p1, .int p2] (tt_O (fun rx pl1 r => rx = [] ∧ tt_ok rt_tk cA Kd pl1 ∧ tt_fr Kd [(1, 7)] pl0 pl1 ∧ tt_fa Kd [] pl0 pl1 ∧ ((rl_M (B + 30000000) (C9 + 2000) pl1 h0 aw ap ∧ ∃ v : Int64, r = some (.long v))))) (tt_OX (fun _ _ _ => False)) := by
  refine jj_start hl (by decide) jw_7101a3ef5e (jj_le rfl) ?_
  intro p e s m args below meth c A hargs hA C hex hmn
  have hfr := tt_fr.refl (K := Kd) (WS := [(1, 7)]) pl0
  have hfa := tt_fa.refl (K := Kd) (WA := []) pl0
  have hI := hK.1
  have hP := hK.2.1
  have hH := hI.1.1
  obtain ⟨⟨g0a, g0b⟩, ⟨g1a, g1b⟩, ⟨g6a, g6b⟩, ⟨g7a, g7b⟩, ⟨g8a, g8b⟩⟩ := hH
  have hB : B ≤ 43920000000 := by omega
  have hB6 : B + 360000000 ≤ 43920000000 := by omega
  have h9a := hK.2.2.1
  have h9b := hK.2.2.2
  have h9 : 0 ≤ (f 9).toInt ∧ (f 9).toInt < 4611686018427387000 := ⟨h9a, by omega⟩
  have lp1 := tt_lo p1
  have up1 := tt_hi p1
  have lp2 := tt_lo p2
  have up2 := tt_hi p2
  refine jj_aload_n C dX11_seriesValue_0 rfl ?_
  refine jj_iload_n C dX11_seriesValue_1 rfl ?_
  obtain ⟨y_1, ey_1, vy_1⟩ := tt_i2l p1
  refine jj_i2l (v := y_1) C dX11_seriesValue_2 ey_1 ?_
  obtain ⟨qc, gs, hqc⟩ := tt_recv (cx := []) hok hk0 (by decide) rfl
  refine tt_callV (rest := []) C (rs_placeOf hl D cA ak y_1 f hk0 hkw hka hkt hki hkf hkp ⟨⟨g0a, g0b⟩, ⟨g1a, g1b⟩, ⟨g6a, g6b⟩, ⟨g7a, g7b⟩, ⟨g8a, g8b⟩⟩ hok hm hC) [] [] rfl rfl (by decide) (by decide) (by decide) qc hqc rfl rfl jw_6d1eccde8c jw_a9a05b64d9 jw_ee32d85331 jw_f96c99f44d jw_d7a6daa34b jn_X11_placeOf rfl (jj_le rfl) (jj_le rfl) (jj_le rfl) (jj_le rfl) (jj_le rfl) dX11_seriesValue_3 rfl (fun _ _ _ hX => hX.elim) (fun rx pl_2 r O_6 => ?_)
  obtain ⟨rfl, hok_3, hr_4, ha_5, hR_7⟩ := O_6
  replace hs6 := hr_4.at hk0 (by decide) (by decide) hs6
  replace hC := ha_5.at hkw (by decide) (by decide) hC
  replace hCp := ha_5.at hkp (by decide) (by decide) hCp
  replace hm := hm.fr hr_4 hk0 rfl
  replace hfr := hfr.trans (hr_4.sub (by decide))
  replace hfa := hfa.trans (ha_5.sub (by decide))
  rcases hR_7 with ⟨hno_8, rfl⟩ | ⟨n_9, hn_9, qn_9, rfl⟩
  · refine jj_istore_n C dX11_seriesValue_6 (by decide) rfl ?_
    refine jj_aload_n C dX11_seriesValue_7 rfl ?_
    refine jj_iload_n C dX11_seriesValue_8 rfl ?_
    refine jj_iconst (v := (-1)) C dX11_seriesValue_9 (by decide) ?_
    refine jj_icmp_neF (tgt := 17) C dX11_seriesValue_10 (by decide) (by decide) ?_
    refine jj_iconst (v := 1) C dX11_seriesValue_13 (by decide) ?_
    refine jj_goto (tgt := 18) C dX11_seriesValue_14 (by decide) ?_
    refine jj_iconst (v := 1) C dX11_seriesValue_18 (by decide) ?_
    obtain ⟨qc, gs, hqc⟩ := tt_recv (cx := []) hok_3 hk0 (by decide) rfl
    refine tt_callV (rest := []) C (rc_X11_fails_f00e4f hl D cA ak hk0 hkw hka hkt hki hkf hkp hok_3 hm) [] [] rfl rfl (by decide) (by decide) (by decide) qc hqc rfl rfl jw_9c28fd2e32 jw_193b10eb43 jw_69bbe80566 jw_f96c99f44d jw_a520512e18 jn_X11_fails rfl (jj_le rfl) (jj_le rfl) (jj_le rfl) (jj_le rfl) (jj_le rfl) dX11_seriesValue_19 rfl (fun _ _ _ hX => hX.elim) (fun rx pl_10 r O_14 => ?_)
    obtain ⟨rfl, hok_11, hr_12, ha_13, hR_15⟩ := O_14
    replace hs6 := hr_12.at hk0 (by decide) (by decide) hs6
    replace hC := ha_13.at hkw (by decide) (by decide) hC
    replace hCp := ha_13.at hkp (by decide) (by decide) hCp
    replace hm := hm.fr hr_12 hk0 rfl
    replace hfr := hfr.trans (hr_12.sub (by decide))
    replace hfa := hfa.trans (ha_13.sub (by decide))
    obtain rfl := hR_15
    refine jj_if_neT (tgt := 50) C dX11_seriesValue_22 (by decide) (by decide) ?_
    refine jj_lconst (v := 0) C dX11_seriesValue_50 (by decide) ?_
    exact jj_lret C ⟨[], pl_10, rfl, rfl, hok_11, hfr, hfa, ⟨⟨_, _, n6, hC, hCp, hs6, (by omega), (hK.mono (by omega) (by omega)), hHP.mono (by omega) (by omega)⟩, (0 : Int64), rfl⟩⟩ dX11_seriesValue_51 (jj_le rfl) (jj_le rfl)
  · unfold rnS at hn_9
    refine jj_istore_n C dX11_seriesValue_6 (by decide) rfl ?_
    refine jj_aload_n C dX11_seriesValue_7 rfl ?_
    refine jj_iload_n C dX11_seriesValue_8 rfl ?_
    refine jj_iconst (v := (-1)) C dX11_seriesValue_9 (by decide) ?_
    refine jj_icmp_ne (tgt := 17) C dX11_seriesValue_10 (by decide) (fun c_16 => ?_) (fun c_16 => ?_)
    · have z_c_16 := jc_neq (a := ((16 + 5 * n_9 : Nat) : Int)) (b := (-1)) c_16 (rl_ti (by omega)) (by decide)
      refine jj_iconst (v := 0) C dX11_seriesValue_17 (by decide) ?_
      refine jj_iconst (v := 1) C dX11_seriesValue_18 (by decide) ?_
      obtain ⟨qc, gs, hqc⟩ := tt_recv (cx := []) hok_3 hk0 (by decide) rfl
      refine tt_callV (rest := []) C (rc_X11_fails_8f9520 hl D cA ak hk0 hkw hka hkt hki hkf hkp hok_3 hm) [] [] rfl rfl (by decide) (by decide) (by decide) qc hqc rfl rfl jw_9c28fd2e32 jw_193b10eb43 jw_69bbe80566 jw_f96c99f44d jw_a520512e18 jn_X11_fails rfl (jj_le rfl) (jj_le rfl) (jj_le rfl) (jj_le rfl) (jj_le rfl) dX11_seriesValue_19 rfl (fun _ _ _ hX => hX.elim) (fun rx pl_17 r O_21 => ?_)
      obtain ⟨rfl, hok_18, hr_19, ha_20, hR_22⟩ := O_21
      replace hs6 := hr_19.at hk0 (by decide) (by decide) hs6
      replace hC := ha_20.at hkw (by decide) (by decide) hC
      replace hCp := ha_20.at hkp (by decide) (by decide) hCp
      replace hm := hm.fr hr_19 hk0 rfl
      replace hfr := hfr.trans (hr_19.sub (by decide))
      replace hfa := hfa.trans (ha_20.sub (by decide))
      obtain rfl := hR_22
      refine jj_if_neF (tgt := 50) C dX11_seriesValue_22 (by decide) (by decide) ?_
      refine jj_aload_n C dX11_seriesValue_25 rfl ?_
      refine jj_iload_n C dX11_seriesValue_26 rfl ?_
      obtain ⟨y_23, ey_23, vy_23⟩ := tt_i2l p2
      refine jj_i2l (v := y_23) C dX11_seriesValue_27 ey_23 ?_
      refine jj_lconst (v := 0) C dX11_seriesValue_28 (by decide) ?_
      refine jj_ldc2 (v := 7) C dX11_seriesValue_29 jw_38335a65cd ?_
      refine tt_call0S (rest := [.ref h0]) C (ct_X11_in_s9 hl D cA ak y_23) jw_2a24feddee jw_12f28ccfda jw_f96c99f44d jw_e07c9ada56 jn_X11_in rfl (jj_le rfl) (jj_le rfl) (jj_le rfl) (jj_le rfl) (jj_le rfl) dX11_seriesValue_32 rfl (fun w1 r O_24 => ?_)
      rcases O_24 with ⟨c_25, -, rfl⟩ | ⟨c_26, c_27, -, rfl⟩ | ⟨c_28, c_29, -, rfl⟩
      · have z_c_25 := jc_ltL (a := y_23.toInt) (b := 0) c_25 rfl (by decide)
        refine jj_if_neF (tgt := 42) C dX11_seriesValue_35 (by decide) (by decide) ?_
        refine jj_iconst (v := 1) C dX11_seriesValue_38 (by decide) ?_
        refine jj_goto (tgt := 43) C dX11_seriesValue_39 (by decide) ?_
        refine jj_iconst (v := 2) C dX11_seriesValue_43 (by decide) ?_
        obtain ⟨qc, gs, hqc⟩ := tt_recv (cx := []) hok_18 hk0 (by decide) rfl
        refine tt_callV (rest := []) C (rc_X11_fails_685228 hl D cA ak hk0 hkw hka hkt hki hkf hkp hok_18 hm) [] [] rfl rfl (by decide) (by decide) (by decide) qc hqc rfl rfl jw_9c28fd2e32 jw_193b10eb43 jw_69bbe80566 jw_f96c99f44d jw_a520512e18 jn_X11_fails rfl (jj_le rfl) (jj_le rfl) (jj_le rfl) (jj_le rfl) (jj_le rfl) dX11_seriesValue_44 rfl (fun _ _ _ hX => hX.elim) (fun rx pl_30 r O_34 => ?_)
        obtain ⟨rfl, hok_31, hr_32, ha_33, hR_35⟩ := O_34
        replace hs6 := hr_32.at hk0 (by decide) (by decide) hs6
        replace hC := ha_33.at hkw (by decide) (by decide) hC
        replace hCp := ha_33.at hkp (by decide) (by decide) hCp
        replace hm := hm.fr hr_32 hk0 rfl
        replace hfr := hfr.trans (hr_32.sub (by decide))
        replace hfa := hfa.trans (ha_33.sub (by decide))
        obtain rfl := hR_35
        refine jj_if_eqF (tgt := 52) C dX11_seriesValue_47 (by decide) (by decide) ?_
        refine jj_lconst (v := 0) C dX11_seriesValue_50 (by decide) ?_
        exact jj_lret C ⟨[], pl_30, rfl, rfl, hok_31, hfr, hfa, ⟨⟨_, _, n6, hC, hCp, hs6, (by omega), (hK.mono (by omega) (by omega)), hHP.mono (by omega) (by omega)⟩, (0 : Int64), rfl⟩⟩ dX11_seriesValue_51 (jj_le rfl) (jj_le rfl)
      · have z_c_26 := jc_nltL (a := y_23.toInt) (b := 0) c_26 rfl (by decide)
        have z_c_27 := jc_ltL (a := 7) (b := y_23.toInt) c_27 (by decide) rfl
        refine jj_if_neF (tgt := 42) C dX11_seriesValue_35 (by decide) (by decide) ?_
        refine jj_iconst (v := 1) C dX11_seriesValue_38 (by decide) ?_
        refine jj_goto (tgt := 43) C dX11_seriesValue_39 (by decide) ?_
        refine jj_iconst (v := 2) C dX11_seriesValue_43 (by decide) ?_
        obtain ⟨qc, gs, hqc⟩ := tt_recv (cx := []) hok_18 hk0 (by decide) rfl
        refine tt_callV (rest := []) C (rc_X11_fails_685228 hl D cA ak hk0 hkw hka hkt hki hkf hkp hok_18 hm) [] [] rfl rfl (by decide) (by decide) (by decide) qc hqc rfl rfl jw_9c28fd2e32 jw_193b10eb43 jw_69bbe80566 jw_f96c99f44d jw_a520512e18 jn_X11_fails rfl (jj_le rfl) (jj_le rfl) (jj_le rfl) (jj_le rfl) (jj_le rfl) dX11_seriesValue_44 rfl (fun _ _ _ hX => hX.elim) (fun rx pl_36 r O_40 => ?_)
        obtain ⟨rfl, hok_37, hr_38, ha_39, hR_41⟩ := O_40
        replace hs6 := hr_38.at hk0 (by decide) (by decide) hs6
        replace hC := ha_39.at hkw (by decide) (by decide) hC
        replace hCp := ha_39.at hkp (by decide) (by decide) hCp
        replace hm := hm.fr hr_38 hk0 rfl
        replace hfr := hfr.trans (hr_38.sub (by decide))
        replace hfa := hfa.trans (ha_39.sub (by decide))
        obtain rfl := hR_41
        refine jj_if_eqF (tgt := 52) C dX11_seriesValue_47 (by decide) (by decide) ?_
        refine jj_lconst (v := 0) C dX11_seriesValue_50 (by decide) ?_
        exact jj_lret C ⟨[], pl_36, rfl, rfl, hok_37, hfr, hfa, ⟨⟨_, _, n6, hC, hCp, hs6, (by omega), (hK.mono (by omega) (by omega)), hHP.mono (by omega) (by omega)⟩, (0 : Int64), rfl⟩⟩ dX11_seriesValue_51 (jj_le rfl) (jj_le rfl)
      · have z_c_28 := jc_nltL (a := y_23.toInt) (b := 0) c_28 rfl (by decide)
        have z_c_29 := jc_nltL (a := 7) (b := y_23.toInt) c_29 (by decide) rfl
        refine jj_if_neT (tgt := 42) C dX11_seriesValue_35 (by decide) (by decide) ?_
        refine jj_iconst (v := 0) C dX11_seriesValue_42 (by decide) ?_
        refine jj_iconst (v := 2) C dX11_seriesValue_43 (by decide) ?_
        obtain ⟨qc, gs, hqc⟩ := tt_recv (cx := []) hok_18 hk0 (by decide) rfl
        refine tt_callV (rest := []) C (rc_X11_fails_a6808a hl D cA ak hk0 hkw hka hkt hki hkf hkp hok_18 hm) [] [] rfl rfl (by decide) (by decide) (by decide) qc hqc rfl rfl jw_9c28fd2e32 jw_193b10eb43 jw_69bbe80566 jw_f96c99f44d jw_a520512e18 jn_X11_fails rfl (jj_le rfl) (jj_le rfl) (jj_le rfl) (jj_le rfl) (jj_le rfl) dX11_seriesValue_44 rfl (fun _ _ _ hX => hX.elim) (fun rx pl_42 r O_46 => ?_)
        obtain ⟨rfl, hok_43, hr_44, ha_45, hR_47⟩ := O_46
        replace hs6 := hr_44.at hk0 (by decide) (by decide) hs6
        replace hC := ha_45.at hkw (by decide) (by decide) hC
        replace hCp := ha_45.at hkp (by decide) (by decide) hCp
        replace hm := hm.fr hr_44 hk0 rfl
        replace hfr := hfr.trans (hr_44.sub (by decide))
        replace hfa := hfa.trans (ha_45.sub (by decide))
        obtain rfl := hR_47
        refine jj_if_eqT (tgt := 52) C dX11_seriesValue_47 (by decide) (by decide) ?_
        refine jj_iload_n C dX11_seriesValue_52 rfl ?_
        rcases jj_em (p2 = 0) with c_48 | c_48
        · refine jj_tableIn (tgt := 96) C dX11_seriesValue_53 (by rw [c_48]; decide) (by rw [c_48]; decide) (by rw [c_48]; rfl) (by decide) ?_
          refine jj_aload_n C dX11_seriesValue_96 rfl ?_
          refine tt_getF C hok_43 jk_12 0 (by decide) jw_34eaf3ba8b (t := (2, 2, 0)) hk0 (by decide) rfl rfl hm.1 dX11_seriesValue_97 ?_
          refine jj_iload_n C dX11_seriesValue_100 rfl ?_
          refine jj_iconst (v := 2) C dX11_seriesValue_101 (by decide) ?_
          refine jj_iadd (v := nI (18 + 5 * n_9)) C dX11_seriesValue_102 (rl_addR (kn := 2) (by decide) (by omega)) ?_
          refine rl_lald C hok_43 (t := (1, (-9223372036854775808), 9223372036854775807)) hkw (by decide) rfl (k := 18 + 5 * n_9) (v := (f (18 + 5 * n_9))) (vp_in_nI (by omega) (by decide)) hC (nI_clamp (by omega)) rfl dX11_seriesValue_103 ?_
          exact jj_lret C ⟨[], pl_42, rfl, rfl, hok_43, hfr, hfa, ⟨⟨_, _, n6, hC, hCp, hs6, (by omega), (hK.mono (by omega) (by omega)), hHP.mono (by omega) (by omega)⟩, (f (18 + 5 * n_9)), rfl⟩⟩ dX11_seriesValue_104 (jj_le rfl) (jj_le rfl)
        rcases jj_em (p2 = 1) with c_49 | c_49
        · refine jj_tableIn (tgt := 105) C dX11_seriesValue_53 (by rw [c_49]; decide) (by rw [c_49]; decide) (by rw [c_49]; rfl) (by decide) ?_
          refine jj_aload_n C dX11_seriesValue_105 rfl ?_
          refine tt_getF C hok_43 jk_12 0 (by decide) jw_34eaf3ba8b (t := (2, 2, 0)) hk0 (by decide) rfl rfl hm.1 dX11_seriesValue_106 ?_
          refine jj_iload_n C dX11_seriesValue_109 rfl ?_
          refine jj_iconst (v := 3) C dX11_seriesValue_110 (by decide) ?_
          refine jj_iadd (v := nI (19 + 5 * n_9)) C dX11_seriesValue_111 (rl_addR (kn := 3) (by decide) (by omega)) ?_
          refine rl_lald C hok_43 (t := (1, (-9223372036854775808), 9223372036854775807)) hkw (by decide) rfl (k := 19 + 5 * n_9) (v := (f (19 + 5 * n_9))) (vp_in_nI (by omega) (by decide)) hC (nI_clamp (by omega)) rfl dX11_seriesValue_112 ?_
          exact jj_lret C ⟨[], pl_42, rfl, rfl, hok_43, hfr, hfa, ⟨⟨_, _, n6, hC, hCp, hs6, (by omega), (hK.mono (by omega) (by omega)), hHP.mono (by omega) (by omega)⟩, (f (19 + 5 * n_9)), rfl⟩⟩ dX11_seriesValue_113 (jj_le rfl) (jj_le rfl)
        rcases jj_em (p2 = 2) with c_50 | c_50
        · refine jj_tableIn (tgt := 114) C dX11_seriesValue_53 (by rw [c_50]; decide) (by rw [c_50]; decide) (by rw [c_50]; rfl) (by decide) ?_
          refine jj_aload_n C dX11_seriesValue_114 rfl ?_
          refine tt_getF C hok_43 jk_12 0 (by decide) jw_34eaf3ba8b (t := (2, 2, 0)) hk0 (by decide) rfl rfl hm.1 dX11_seriesValue_115 ?_
          refine jj_iload_n C dX11_seriesValue_118 rfl ?_
          refine jj_iconst (v := 4) C dX11_seriesValue_119 (by decide) ?_
          refine jj_iadd (v := nI (20 + 5 * n_9)) C dX11_seriesValue_120 (rl_addR (kn := 4) (by decide) (by omega)) ?_
          refine rl_lald C hok_43 (t := (1, (-9223372036854775808), 9223372036854775807)) hkw (by decide) rfl (k := 20 + 5 * n_9) (v := (f (20 + 5 * n_9))) (vp_in_nI (by omega) (by decide)) hC (nI_clamp (by omega)) rfl dX11_seriesValue_121 ?_
          exact jj_lret C ⟨[], pl_42, rfl, rfl, hok_43, hfr, hfa, ⟨⟨_, _, n6, hC, hCp, hs6, (by omega), (hK.mono (by omega) (by omega)), hHP.mono (by omega) (by omega)⟩, (f (20 + 5 * n_9)), rfl⟩⟩ dX11_seriesValue_122 (jj_le rfl) (jj_le rfl)
        rcases jj_em (p2 = 3) with c_51 | c_51
        · refine jj_tableIn (tgt := 123) C dX11_seriesValue_53 (by rw [c_51]; decide) (by rw [c_51]; decide) (by rw [c_51]; rfl) (by decide) ?_
          refine jj_aload_n C dX11_seriesValue_123 rfl ?_
          refine jj_iload_n C dX11_seriesValue_124 rfl ?_
          obtain ⟨qc, gs, hqc⟩ := tt_recv (cx := []) hok_43 hk0 (by decide) rfl
          refine tt_callV (rest := []) C (rs_accrued hl D cA ak n_9 f hk0 hkw hka hkt hki hkf hkp (by omega) hok_43 hm hC) [] [] rfl rfl (by decide) (by decide) (by decide) qc hqc rfl rfl jw_2b94ab0b2c jw_fa756eb8b8 jw_81537d461f jw_f96c99f44d jw_3e876c9b97 jn_X11_accrued rfl (jj_le rfl) (jj_le rfl) (jj_le rfl) (jj_le rfl) (jj_le rfl) dX11_seriesValue_125 rfl (fun _ _ _ hX => hX.elim) (fun rx pl_52 r O_56 => ?_)
          obtain ⟨rfl, hok_53, hr_54, ha_55, hR_57⟩ := O_56
          replace hs6 := hr_54.at hk0 (by decide) (by decide) hs6
          replace hC := ha_55.at hkw (by decide) (by decide) hC
          replace hCp := ha_55.at hkp (by decide) (by decide) hCp
          replace hm := hm.fr hr_54 hk0 rfl
          replace hfr := hfr.trans (hr_54.sub (by decide))
          replace hfa := hfa.trans (ha_55.sub (by decide))
          obtain rfl := hR_57
          exact jj_lret C ⟨[], pl_52, rfl, rfl, hok_53, hfr, hfa, ⟨⟨_, _, n6, hC, hCp, hs6, (by omega), (hK.mono (by omega) (by omega)), hHP.mono (by omega) (by omega)⟩, (rg_acc f n_9), rfl⟩⟩ dX11_seriesValue_128 (jj_le rfl) (jj_le rfl)
        rcases jj_em (p2 = 4) with c_58 | c_58
        · refine jj_tableIn (tgt := 129) C dX11_seriesValue_53 (by rw [c_58]; decide) (by rw [c_58]; decide) (by rw [c_58]; rfl) (by decide) ?_
          refine jj_aload_n C dX11_seriesValue_129 rfl ?_
          refine jj_iload_n C dX11_seriesValue_130 rfl ?_
          obtain ⟨qc, gs, hqc⟩ := tt_recv (cx := []) hok_43 hk0 (by decide) rfl
          refine tt_callV (rest := []) C (rs_gross hl D cA ak n_9 f hk0 hkw hka hkt hki hkf hkp (by omega) (rl_PU hP (k := n_9) (by unfold rnS; omega)) hok_43 hm hC) [] [] rfl rfl (by decide) (by decide) (by decide) qc hqc rfl rfl jw_1edf99ea30 jw_400b60e050 jw_5647e6ad46 jw_f96c99f44d jw_5385d4d55b jn_X11_gross rfl (jj_le rfl) (jj_le rfl) (jj_le rfl) (jj_le rfl) (jj_le rfl) dX11_seriesValue_131 rfl (fun _ _ _ hX => hX.elim) (fun rx pl_59 r O_63 => ?_)
          obtain ⟨rfl, hok_60, hr_61, ha_62, hR_64⟩ := O_63
          replace hs6 := hr_61.at hk0 (by decide) (by decide) hs6
          replace hC := ha_62.at hkw (by decide) (by decide) hC
          replace hCp := ha_62.at hkp (by decide) (by decide) hCp
          replace hm := hm.fr hr_61 hk0 rfl
          replace hfr := hfr.trans (hr_61.sub (by decide))
          replace hfa := hfa.trans (ha_62.sub (by decide))
          obtain rfl := hR_64
          exact jj_lret C ⟨[], pl_59, rfl, rfl, hok_60, hfr, hfa, ⟨⟨_, _, n6, hC, hCp, hs6, (by omega), (hK.mono (by omega) (by omega)), hHP.mono (by omega) (by omega)⟩, (rg_gross f n_9), rfl⟩⟩ dX11_seriesValue_134 (jj_le rfl) (jj_le rfl)
        rcases jj_em (p2 = 5) with c_65 | c_65
        · refine jj_tableIn (tgt := 135) C dX11_seriesValue_53 (by rw [c_65]; decide) (by rw [c_65]; decide) (by rw [c_65]; rfl) (by decide) ?_
          refine jj_aload_n C dX11_seriesValue_135 rfl ?_
          refine jj_iload_n C dX11_seriesValue_136 rfl ?_
          obtain ⟨qc, gs, hqc⟩ := tt_recv (cx := []) hok_43 hk0 (by decide) rfl
          refine tt_callV (rest := []) C (rs_net hl D cA ak n_9 f hk0 hkw hka hkt hki hkf hkp (by omega) hok_43 hm hC) [] [] rfl rfl (by decide) (by decide) (by decide) qc hqc rfl rfl jw_097701ac65 jw_3078c54111 jw_c9e42407ff jw_f96c99f44d jw_02915e3ff9 jn_X11_net rfl (jj_le rfl) (jj_le rfl) (jj_le rfl) (jj_le rfl) (jj_le rfl) dX11_seriesValue_137 rfl (fun _ _ _ hX => hX.elim) (fun rx pl_66 r O_70 => ?_)
          obtain ⟨rfl, hok_67, hr_68, ha_69, hR_71⟩ := O_70
          replace hs6 := hr_68.at hk0 (by decide) (by decide) hs6
          replace hC := ha_69.at hkw (by decide) (by decide) hC
          replace hCp := ha_69.at hkp (by decide) (by decide) hCp
          replace hm := hm.fr hr_68 hk0 rfl
          replace hfr := hfr.trans (hr_68.sub (by decide))
          replace hfa := hfa.trans (ha_69.sub (by decide))
          obtain rfl := hR_71
          refine jj_ldc2 (v := 100000) C dX11_seriesValue_140 jw_759d064724 ?_
          refine jj_lmul C dX11_seriesValue_143 rfl ?_
          refine jj_aload_n C dX11_seriesValue_144 rfl ?_
          refine tt_getF C hok_67 jk_12 0 (by decide) jw_34eaf3ba8b (t := (2, 2, 0)) hk0 (by decide) rfl rfl hm.1 dX11_seriesValue_145 ?_
          refine jj_iload_n C dX11_seriesValue_148 rfl ?_
          refine jj_iconst (v := 3) C dX11_seriesValue_149 (by decide) ?_
          refine jj_iadd (v := nI (19 + 5 * n_9)) C dX11_seriesValue_150 (rl_addR (kn := 3) (by decide) (by omega)) ?_
          refine rl_lald C hok_67 (t := (1, (-9223372036854775808), 9223372036854775807)) hkw (by decide) rfl (k := 19 + 5 * n_9) (v := (f (19 + 5 * n_9))) (vp_in_nI (by omega) (by decide)) hC (nI_clamp (by omega)) rfl dX11_seriesValue_151 ?_
          refine jj_ldiv C dX11_seriesValue_152 (rl_PU hP (k := n_9) (by unfold rnS; omega)) rfl ?_
          exact jj_lret C ⟨[], pl_66, rfl, rfl, hok_67, hfr, hfa, ⟨⟨_, _, n6, hC, hCp, hs6, (by omega), (hK.mono (by omega) (by omega)), hHP.mono (by omega) (by omega)⟩, (((f (18 + 5 * n_9) - rg_acc f n_9) * (100000 : Int64)) / (f (19 + 5 * n_9))), rfl⟩⟩ dX11_seriesValue_153 (jj_le rfl) (jj_le rfl)
        rcases jj_em (p2 = 6) with c_72 | c_72
        · refine jj_tableIn (tgt := 154) C dX11_seriesValue_53 (by rw [c_72]; decide) (by rw [c_72]; decide) (by rw [c_72]; rfl) (by decide) ?_
          refine jj_aload_n C dX11_seriesValue_154 rfl ?_
          refine tt_getF C hok_43 jk_12 0 (by decide) jw_34eaf3ba8b (t := (2, 2, 0)) hk0 (by decide) rfl rfl hm.1 dX11_seriesValue_155 ?_
          refine jj_iload_n C dX11_seriesValue_158 rfl ?_
          refine jj_iconst (v := 1) C dX11_seriesValue_159 (by decide) ?_
          refine jj_iadd (v := nI (17 + 5 * n_9)) C dX11_seriesValue_160 (rl_addR (kn := 1) (by decide) (by omega)) ?_
          refine rl_lald C hok_43 (t := (1, (-9223372036854775808), 9223372036854775807)) hkw (by decide) rfl (k := 17 + 5 * n_9) (v := (f (17 + 5 * n_9))) (vp_in_nI (by omega) (by decide)) hC (nI_clamp (by omega)) rfl dX11_seriesValue_161 ?_
          exact jj_lret C ⟨[], pl_42, rfl, rfl, hok_43, hfr, hfa, ⟨⟨_, _, n6, hC, hCp, hs6, (by omega), (hK.mono (by omega) (by omega)), hHP.mono (by omega) (by omega)⟩, (f (17 + 5 * n_9)), rfl⟩⟩ dX11_seriesValue_162 (jj_le rfl) (jj_le rfl)
        refine jj_tableOut (tgt := 163) C dX11_seriesValue_53 (by have zc_48 := lv_neT (a := 0) c_48 (by decide); have zc_49 := lv_neT (a := 1) c_49 (by decide); have zc_50 := lv_neT (a := 2) c_50 (by decide); have zc_51 := lv_neT (a := 3) c_51 (by decide); have zc_58 := lv_neT (a := 4) c_58 (by decide); have zc_65 := lv_neT (a := 5) c_65 (by decide); have zc_72 := lv_neT (a := 6) c_72 (by decide); omega) (by decide) ?_
        refine jj_aload_n C dX11_seriesValue_163 rfl ?_
        refine jj_iload_n C dX11_seriesValue_164 rfl ?_
        obtain ⟨qc, gs, hqc⟩ := tt_recv (cx := []) hok_43 hk0 (by decide) rfl
        refine tt_callV (rest := []) C (rc_X11_lotsIn_2d6a5c hl D cA ak (16 + 5 * n_9) _ hk0 hkw hka hkt hki hkf hkp (by omega) (by omega) ⟨⟨g0a, g0b⟩, ⟨g1a, g1b⟩, ⟨g6a, g6b⟩, ⟨g7a, g7b⟩, ⟨g8a, g8b⟩⟩ hok_43 hm hC) [] [] rfl rfl (by decide) (by decide) (by decide) qc hqc rfl rfl jw_5888c07221 jw_5e13fa7447 jw_85e2da3b35 jw_f96c99f44d jw_0c87120cfc jn_X11_lotsIn rfl (jj_le rfl) (jj_le rfl) (jj_le rfl) (jj_le rfl) (jj_le rfl) dX11_seriesValue_165 rfl (fun _ _ _ hX => hX.elim) (fun rx pl_73 r O_77 => ?_)
        obtain ⟨rfl, hok_74, hr_75, ha_76, hR_78⟩ := O_77
        replace hs6 := hr_75.at hk0 (by decide) (by decide) hs6
        replace hC := ha_76.at hkw (by decide) (by decide) hC
        replace hCp := ha_76.at hkp (by decide) (by decide) hCp
        replace hm := hm.fr hr_75 hk0 rfl
        replace hfr := hfr.trans (hr_75.sub (by decide))
        replace hfa := hfa.trans (ha_76.sub (by decide))
        obtain ⟨y_79, rfl⟩ := hR_78
        exact jj_lret C ⟨[], pl_73, rfl, rfl, hok_74, hfr, hfa, ⟨⟨_, _, n6, hC, hCp, hs6, (by omega), (hK.mono (by omega) (by omega)), hHP.mono (by omega) (by omega)⟩, y_79, rfl⟩⟩ dX11_seriesValue_168 (jj_le rfl) (jj_le rfl)
    · have z_c_16 := jc_eq (a := ((16 + 5 * n_9 : Nat) : Int)) (b := (-1)) c_16 (rl_ti (by omega)) (by decide)
      exfalso; omega
