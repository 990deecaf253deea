theorem jw_62f637beca : Cond.code yX11_lay cX11_lay 2 none ∈ jj_G := jj_t6 (List.mem_of_getElem? (i := 152) (by decide +kernel)) rfl
theorem jw_567bcddfb2 : Cond.methodLink RX11 353 yX11_must ∈ jj_G := jj_t8 (List.mem_of_getElem? (i := 71) (by decide +kernel)) rfl
theorem jw_5c84fa4094 : Cond.instanceMethod yX11_must ∈ jj_G := jj_t8 (List.mem_of_getElem? (i := 73) (by decide +kernel)) rfl
theorem jw_52b545b3e3 : Cond.selects RX11 yX11_must yX11_must ∈ jj_G := jj_pv (q := (yX11_must, 25)) (by decide +kernel)
theorem jn_X11_must : jj_N yX11_must 1 := by unfold jj_N; decide +kernel
theorem jw_69cfdf3f6e : Cond.fieldLink RX11 22 "SeriesFundModel" "fresh" "[J" ∈ jj_G := jj_t6 (List.mem_of_getElem? (i := 158) (by decide +kernel)) rfl
theorem jw_adb570a667 : Cond.methodLink RX11 361 yX11_number ∈ jj_G := jj_t8 (List.mem_of_getElem? (i := 91) (by decide +kernel)) rfl
theorem jw_970096b033 : Cond.instanceMethod yX11_number ∈ jj_G := jj_t8 (List.mem_of_getElem? (i := 93) (by decide +kernel)) rfl
theorem jw_c6bab24534 : Cond.selects RX11 yX11_number yX11_number ∈ jj_G := jj_pv (q := (yX11_number, 25)) (by decide +kernel)
theorem jn_X11_number : jj_N yX11_number 2 := by unfold jj_N; decide +kernel
theorem jw_5d90e8e74a : Cond.constantLong RX11 365 (50) ∈ jj_G := jj_t8 (List.mem_of_getElem? (i := 95) (by decide +kernel)) rfl
theorem jw_753a64c668 : Cond.code yX11_readHead cX11_readHead 1 none ∈ jj_G := jj_t8 (List.mem_of_getElem? (i := 69) (by decide +kernel)) rfl
theorem jw_da8ec0ee3d : Cond.code yX11_readSubscription cX11_readSubscription 3 none ∈ jj_G := jj_t8 (List.mem_of_getElem? (i := 101) (by decide +kernel)) rfl
theorem jw_3b8ecbdfcd : Cond.methodLink RX11 52 yX11_lay ∈ jj_G := jj_t6 (List.mem_of_getElem? (i := 150) (by decide +kernel)) rfl
theorem jw_d4f8e1a641 : Cond.static yX11_lay ∈ jj_G := jj_t6 (List.mem_of_getElem? (i := 151) (by decide +kernel)) rfl
theorem jn_X11_lay : jj_N yX11_lay 1 := by unfold jj_N; decide +kernel
theorem jw_1025d8fa7d : Cond.methodLink RX11 373 yX11_begin ∈ jj_G := jj_t8 (List.mem_of_getElem? (i := 50) (by decide +kernel)) rfl
theorem jw_5db37f4e19 : Cond.instanceMethod yX11_begin ∈ jj_G := jj_t8 (List.mem_of_getElem? (i := 52) (by decide +kernel)) rfl
theorem jw_57740f6cb0 : Cond.selects RX11 yX11_begin yX11_begin ∈ jj_G := jj_pv (q := (yX11_begin, 25)) (by decide +kernel)
theorem jn_X11_begin : jj_N yX11_begin 0 := by unfold jj_N; decide +kernel
theorem jw_39f982543e : Cond.methodLink RX11 376 yX11_readHead ∈ jj_G := jj_t8 (List.mem_of_getElem? (i := 66) (by decide +kernel)) rfl
theorem jw_9a3148fb7a : Cond.instanceMethod yX11_readHead ∈ jj_G := jj_t8 (List.mem_of_getElem? (i := 68) (by decide +kernel)) rfl
theorem jw_68f7188653 : Cond.selects RX11 yX11_readHead yX11_readHead ∈ jj_G := jj_pv (q := (yX11_readHead, 25)) (by decide +kernel)
theorem jn_X11_readHead : jj_N yX11_readHead 0 := by unfold jj_N; decide +kernel
theorem jw_2b71fe6d67 : Cond.methodLink RX11 379 yX11_readSubscription ∈ jj_G := jj_t8 (List.mem_of_getElem? (i := 98) (by decide +kernel)) rfl
theorem jw_0bfb84ee11 : Cond.instanceMethod yX11_readSubscription ∈ jj_G := jj_t8 (List.mem_of_getElem? (i := 100) (by decide +kernel)) rfl
theorem jw_aba2f4e372 : Cond.selects RX11 yX11_readSubscription yX11_readSubscription ∈ jj_G := jj_pv (q := (yX11_readSubscription, 25)) (by decide +kernel)
theorem jn_X11_readSubscription : jj_N yX11_readSubscription 0 := by unfold jj_N; decide +kernel
theorem jw_00b8c50085 : Cond.code yX11_parseFund cX11_parseFund 3 (some .int) ∈ jj_G := jj_t8 (List.mem_of_getElem? (i := 49) (by decide +kernel)) rfl
theorem jw_9e00105889 : Cond.code yX11_operation cX11_operation 1 (some .int) ∈ jj_G := jj_t8 (List.mem_of_getElem? (i := 122) (by decide +kernel)) rfl
theorem jw_96430aa277 : Cond.constantLong RX11 396 (9223372036854775807) ∈ jj_G := jj_t8 (List.mem_of_getElem? (i := 144) (by decide +kernel)) rfl
theorem jw_ed4d54a1b4 : Cond.code yX11_doesEarn cX11_doesEarn 2 (some .boolean) ∈ jj_G := jj_t8 (List.mem_of_getElem? (i := 143) (by decide +kernel)) rfl
theorem jw_bf324c0fa3 : Cond.fieldLink RX11 398 "SeriesFundModel" "first" "I" ∈ jj_G := jj_t6 (List.mem_of_getElem? (i := 173) (by decide +kernel)) rfl
theorem jw_c1fef1305f : Cond.fieldLink RX11 401 "SeriesFundModel" "second" "I" ∈ jj_G := jj_t6 (List.mem_of_getElem? (i := 174) (by decide +kernel)) rfl
theorem jw_568b9d28b7 : Cond.code yX11_doesAsk cX11_doesAsk 3 (some .boolean) ∈ jj_G := jj_t8 (List.mem_of_getElem? (i := 139) (by decide +kernel)) rfl
theorem jw_f1a846eebf : Cond.methodLink RX11 404 yX11_doesAsk ∈ jj_G := jj_t8 (List.mem_of_getElem? (i := 136) (by decide +kernel)) rfl
theorem jw_ac52b6b397 : Cond.instanceMethod yX11_doesAsk ∈ jj_G := jj_t8 (List.mem_of_getElem? (i := 138) (by decide +kernel)) rfl
theorem jw_87336ac79a : Cond.selects RX11 yX11_doesAsk yX11_doesAsk ∈ jj_G := jj_pv (q := (yX11_doesAsk, 25)) (by decide +kernel)
theorem jn_X11_doesAsk : jj_N yX11_doesAsk 1 := by unfold jj_N; decide +kernel
theorem jw_eebb003ba4 : Cond.code yX11_does cX11_does 4 (some .boolean) ∈ jj_G := jj_t8 (List.mem_of_getElem? (i := 135) (by decide +kernel)) rfl
theorem jw_ec8565f4cb : Cond.methodLink RX11 408 yX11_doesEarn ∈ jj_G := jj_t8 (List.mem_of_getElem? (i := 140) (by decide +kernel)) rfl
theorem jw_fbe0846c3c : Cond.instanceMethod yX11_doesEarn ∈ jj_G := jj_t8 (List.mem_of_getElem? (i := 142) (by decide +kernel)) rfl
theorem jw_0b0a6efb47 : Cond.selects RX11 yX11_doesEarn yX11_doesEarn ∈ jj_G := jj_pv (q := (yX11_doesEarn, 25)) (by decide +kernel)
theorem jn_X11_doesEarn : jj_N yX11_doesEarn 1 := by unfold jj_N; decide +kernel
theorem jw_3f7591dd59 : Cond.methodLink RX11 411 yX11_operation ∈ jj_G := jj_t8 (List.mem_of_getElem? (i := 119) (by decide +kernel)) rfl
theorem jw_0ec80222c9 : Cond.instanceMethod yX11_operation ∈ jj_G := jj_t8 (List.mem_of_getElem? (i := 121) (by decide +kernel)) rfl
theorem jw_f5dd885430 : Cond.selects RX11 yX11_operation yX11_operation ∈ jj_G := jj_pv (q := (yX11_operation, 25)) (by decide +kernel)
theorem jn_X11_operation : jj_N yX11_operation 0 := by unfold jj_N; decide +kernel
theorem jw_af539af08c : Cond.methodLink RX11 418 yX11_does ∈ jj_G := jj_t8 (List.mem_of_getElem? (i := 132) (by decide +kernel)) rfl
theorem jw_bce25f0700 : Cond.instanceMethod yX11_does ∈ jj_G := jj_t8 (List.mem_of_getElem? (i := 134) (by decide +kernel)) rfl
theorem jw_0f699256b3 : Cond.selects RX11 yX11_does yX11_does ∈ jj_G := jj_pv (q := (yX11_does, 25)) (by decide +kernel)
theorem jn_X11_does : jj_N yX11_does 1 := by unfold jj_N; decide +kernel
theorem jw_7bdeb2db1f : Cond.code yX11_goesThrough cX11_goesThrough 3 none ∈ jj_G := jj_t8 (List.mem_of_getElem? (i := 118) (by decide +kernel)) rfl
theorem jw_b62f4a35d5 : Cond.methodLink RX11 421 yX11_goesThrough ∈ jj_G := jj_t8 (List.mem_of_getElem? (i := 115) (by decide +kernel)) rfl
theorem jw_531f8b3049 : Cond.instanceMethod yX11_goesThrough ∈ jj_G := jj_t8 (List.mem_of_getElem? (i := 117) (by decide +kernel)) rfl
theorem jw_8b3ca5a371 : Cond.selects RX11 yX11_goesThrough yX11_goesThrough ∈ jj_G := jj_pv (q := (yX11_goesThrough, 25)) (by decide +kernel)
theorem jn_X11_goesThrough : jj_N yX11_goesThrough 0 := by unfold jj_N; decide +kernel
theorem jw_e962e6245a : Cond.code yX11_runScript cX11_runScript 5 (some .int) ∈ jj_G := jj_t8 (List.mem_of_getElem? (i := 114) (by decide +kernel)) rfl
theorem jw_6cee2b55dc : Cond.code yX11_bring cX11_bring 3 none ∈ jj_G := jj_t8 (List.mem_of_getElem? (i := 41) (by decide +kernel)) rfl
theorem jw_02ef8376e2 : Cond.methodLink RX11 304 yX11_bring ∈ jj_G := jj_t8 (List.mem_of_getElem? (i := 38) (by decide +kernel)) rfl
theorem jw_4078efbb51 : Cond.instanceMethod yX11_bring ∈ jj_G := jj_t8 (List.mem_of_getElem? (i := 40) (by decide +kernel)) rfl
theorem jw_c999e79975 : Cond.selects RX11 yX11_bring yX11_bring ∈ jj_G := jj_pv (q := (yX11_bring, 25)) (by decide +kernel)
theorem jn_X11_bring : jj_N yX11_bring 1 := by unfold jj_N; decide +kernel
theorem jw_650770dc87 : Cond.code yX11_appendText cX11_appendText 6 (some .int) ∈ jj_G := jj_t8 (List.mem_of_getElem? (i := 37) (by decide +kernel)) rfl
set_option maxHeartbeats 4000000 in
set_option maxRecDepth 100000 in
theorem ct_X11_in_s15 {l : Launch} (hl : l.stackTraces = false) (D : va_G) (cA : Nat → ClassId) (ak : (Nat → Nat) × (Nat → Nat)) (b0 : Int64) : jj_M l D cA ak yX11_in (.code yX11_in cX11_in 6 (some .boolean)) 0 0 0 0 [] [.long b0, .long 3, .long 5] (fun (w : va_W) (r : Option Value) => (b0 < 3 ∧ w = [] ∧ r = some (.int 0)) ∨ (¬ b0 < 3 ∧ 5 < b0 ∧ w = [] ∧ r = some (.int 0)) ∨ (¬ b0 < 3 ∧ ¬ 5 < b0 ∧ w = [] ∧ r = some (.int 1))) jj_noX := by
  refine jj_start hl (by decide) jw_e07c9ada56 (jj_le rfl) ?_
  intro p e s m args below meth c A hargs hA C hex hmn
  refine jj_lload_n C dX11_in_0 rfl ?_
  refine jj_lload_n C dX11_in_1 rfl ?_
  refine jj_lcmp_lt (tgt := 17) C dX11_in_2 dX11_in_3 (by decide) (fun c_1 => ?_) (fun c_1 => ?_)
  · refine jj_iconst (v := 0) C dX11_in_17 (by decide) ?_
    exact jj_zret C rfl (Or.inl ⟨c_1, rfl, rfl⟩) dX11_in_18 (jj_le rfl) (jj_le rfl)
  · refine jj_lload_n C dX11_in_6 rfl ?_
    refine jj_lload C dX11_in_7 rfl ?_
    refine jj_lcmp_gt (tgt := 17) C dX11_in_9 dX11_in_10 (by decide) (fun c_2 => ?_) (fun c_2 => ?_)
    · refine jj_iconst (v := 0) C dX11_in_17 (by decide) ?_
      exact jj_zret C rfl (Or.inr (Or.inl ⟨c_1, c_2, rfl, rfl⟩)) dX11_in_18 (jj_le rfl) (jj_le rfl)
    · refine jj_iconst (v := 1) C dX11_in_13 (by decide) ?_
      refine jj_goto (tgt := 18) C dX11_in_14 (by decide) ?_
      exact jj_zret C rfl (Or.inr (Or.inr ⟨c_1, c_2, rfl, rfl⟩)) dX11_in_18 (jj_le rfl) (jj_le rfl)

set_option maxHeartbeats 4000000 in
set_option maxRecDepth 100000 in
theorem rs_lay_aw {l : Launch} (hl : l.stackTraces = false) (D : va_G) (cA : Nat → ClassId) (ak : (Nat → Nat) × (Nat → Nat)) {Kd : Nat → Nat} {h0 aw aa at0 ai af ap : Nat} (hk0 : Kd h0 = 1) (hkw : Kd aw = 2) (hka : Kd aa = 3) (hkt : Kd at0 = 4) (hki : Kd ai = 5) (hkf : Kd af = 6) (hkp : Kd ap = 7) {pl0 : va_W} (hok : tt_ok rt_tk cA Kd pl0) (hm : rl_m pl0 h0 aw aa at0 ai af ap) : jj_M l D cA ak yX11_lay (.code yX11_lay cX11_lay 2 none) 0 0 0 0 ([] ++ pl0) [.ref aw] (tt_O (fun rx pl1 r => rx = [] ∧ tt_ok rt_tk cA Kd pl1 ∧ tt_fr Kd [] pl0 pl1 ∧ tt_fa Kd [2] pl0 pl1 ∧ ((∃ g : Nat → Int64, tt_lc pl1 aw g ∧ rl_Z g ∧ r = none)))) (tt_OX (fun _ _ _ => False)) := by
  refine jj_start hl (by decide) jw_62f637beca (jj_le rfl) ?_
  intro p e s m args below meth c A hargs hA C hex hmn
  have hfr := tt_fr.refl (K := Kd) (WS := []) pl0
  have hfa := tt_fa.refl (K := Kd) (WA := [2]) pl0
  obtain ⟨g0, hG⟩ := rl_lcx hok hkw (by decide) rfl
  refine jj_iconst (v := 0) C dX11_lay_0 (by decide) ?_
  refine jj_istore_n C dX11_lay_1 (by decide) rfl ?_
  have hL_1 : ∀ (N : Nat) (pl : va_W) (k_2 : Nat) (g_3 : Nat → Int64), True → tt_ok rt_tk cA Kd pl → tt_fr Kd [] pl0 pl → tt_fa Kd [2] pl0 pl → rl_m pl h0 aw aa at0 ai af ap → tt_lc pl aw g_3 → (∀ i : Nat, i < k_2 → g_3 i = 0) → (0 : Int) ≤ (k_2 : Int) → (k_2 : Int) ≤ 399 → (2147483648 - (k_2 : Int) ≤ (N : Int)) → jj_J p l e (jj_rm 0 0 0 0) s m args below meth c 2 A (vx_MQ below (jj_q D A (tt_O (fun rx pl1 r => rx = [] ∧ tt_ok rt_tk cA Kd pl1 ∧ tt_fr Kd [] pl0 pl1 ∧ tt_fa Kd [2] pl0 pl1 ∧ ((∃ g : Nat → Int64, tt_lc pl1 aw g ∧ rl_Z g ∧ r = none))))) (jj_x D A (tt_OX (fun _ _ _ => False))) args s 0 0 A) (jj_X D A ([] ++ pl)) 0 0 2 [(1, .int (nI k_2)), (0, .ref aw)] [] := by
    intro NL_1
    induction NL_1 with
    | zero => intro pl k_2 g_3 _ hok hfr hfa hm hC_4 hD_5 lk_2 uk_2 hNL_1; exfalso; omega
    | succ NL_1 ihL_1 =>
      intro pl k_2 g_3 _ hok hfr hfa hm hC_4 hD_5 lk_2 uk_2 hNL_1
      replace ihL_1 := fun pl k_2 g_3 h1 => ihL_1 pl k_2 g_3 trivial h1
      refine jj_iload_n C dX11_lay_2 rfl ?_
      refine jj_sipush (v := 334) C dX11_lay_3 (by decide) ?_
      refine jj_icmp_ge (tgt := 19) C dX11_lay_6 (by decide) (fun c_6 => ?_) (fun c_6 => ?_)
      · have z_c_6 := jc_le (a := 334) (b := ((k_2 : Nat) : Int)) c_6 (by decide) (rl_ti (by omega))
        refine jj_aload_n C dX11_lay_19 rfl ?_
        refine jj_iconst (v := 0) C dX11_lay_20 (by decide) ?_
        refine jj_lconst (v := 1) C dX11_lay_21 (by decide) ?_
        refine rl_last C hok (t := (1, (-9223372036854775808), 9223372036854775807)) hkw (by decide) rfl (k := 0) (vp_in_iff.mpr (by decide)) (tt_ja _) (by decide) dX11_lay_22 (fun pl_7 hok_8 tr tl tw => ?_)
        replace hm := hm.arr tr
        replace hfr := hfr.arr tr
        replace hC_4 := tw _ hC_4
        replace hfa := hfa.wr hkw tl (by decide)
        refine jj_aload_n C dX11_lay_23 rfl ?_
        refine jj_iconst (v := 4) C dX11_lay_24 (by decide) ?_
        refine jj_ldc2 (v := 100) C dX11_lay_25 jw_0cface3231 ?_
        refine rl_last C hok_8 (t := (1, (-9223372036854775808), 9223372036854775807)) hkw (by decide) rfl (k := 4) (vp_in_iff.mpr (by decide)) (tt_ja _) (by decide) dX11_lay_28 (fun pl_9 hok_10 tr tl tw => ?_)
        replace hm := hm.arr tr
        replace hfr := hfr.arr tr
        replace hC_4 := tw _ hC_4
        replace hfa := hfa.wr hkw tl (by decide)
        exact jj_vret C ⟨[], pl_9, rfl, rfl, hok_10, hfr, hfa, ⟨_, hC_4, rl_Z.of hD_5 (by omega), rfl⟩⟩ dX11_lay_29 (jj_le rfl) (jj_le rfl)
      · have z_c_6 := jc_nle (a := 334) (b := ((k_2 : Nat) : Int)) c_6 (by decide) (rl_ti (by omega))
        refine jj_aload_n C dX11_lay_9 rfl ?_
        refine jj_iload_n C dX11_lay_10 rfl ?_
        refine jj_lconst (v := 0) C dX11_lay_11 (by decide) ?_
        refine rl_last C hok (t := (1, (-9223372036854775808), 9223372036854775807)) hkw (by decide) rfl (k := k_2) (vp_in_nI (by omega) (by decide)) (tt_ja _) (nI_clamp (by omega)) dX11_lay_12 (fun pl_11 hok_12 tr tl tw => ?_)
        replace hm := hm.arr tr
        replace hfr := hfr.arr tr
        replace hC_4 := tw _ hC_4
        replace hfa := hfa.wr hkw tl (by decide)
        refine jj_iinc (v := nI (1 + k_2)) C dX11_lay_13 rfl (rl_addR (kn := 1) (by decide) (by omega)) (by decide) rfl ?_
        refine jj_goto (tgt := 2) C dX11_lay_16 (by decide) ?_
        exact ihL_1 pl_11 (1 + k_2) (vp_updL g_3 k_2 (0 : Int64)) hok_12 hfr hfa hm hC_4 (rl_fillz hD_5) (by first | omega | decide | exact tt_lo _ | exact tt_hi _) (by first | omega | decide | exact tt_lo _ | exact tt_hi _) (by first | omega | decide | exact tt_lo _ | exact tt_hi _)
  exact hL_1 _ pl0 0 g0 trivial hok hfr hfa hm hG (fun i hi => absurd hi (Nat.not_lt_zero _)) (by first | omega | decide | exact tt_lo _ | exact tt_hi _) (by first | omega | decide | exact tt_lo _ | exact tt_hi _) (Int.self_le_toNat _)

set_option maxHeartbeats 4000000 in
set_option maxRecDepth 100000 in
theorem rs_lay_af {l : Launch} (hl : l.stackTraces = false) (D : va_G) (cA : Nat → ClassId) (ak : (Nat → Nat) × (Nat → Nat)) {Kd : Nat → Nat} {h0 aw aa at0 ai af ap : Nat} (hk0 : Kd h0 = 1) (hkw : Kd aw = 2) (hka : Kd aa = 3) (hkt : Kd at0 = 4) (hki : Kd ai = 5) (hkf : Kd af = 6) (hkp : Kd ap = 7) {pl0 : va_W} (hok : tt_ok rt_tk cA Kd pl0) (hm : rl_m pl0 h0 aw aa at0 ai af ap) : jj_M l D cA ak yX11_lay (.code yX11_lay cX11_lay 2 none) 0 0 0 0 ([] ++ pl0) [.ref af] (tt_O (fun rx pl1 r => rx = [] ∧ tt_ok rt_tk cA Kd pl1 ∧ tt_fr Kd [] pl0 pl1 ∧ tt_fa Kd [6] pl0 pl1 ∧ ((∃ g : Nat → Int64, tt_lc pl1 af g ∧ rl_Z g ∧ r = none)))) (tt_OX (fun _ _ _ => False)) := by
  refine jj_start hl (by decide) jw_62f637beca (jj_le rfl) ?_
  intro p e s m args below meth c A hargs hA C hex hmn
  have hfr := tt_fr.refl (K := Kd) (WS := []) pl0
  have hfa := tt_fa.refl (K := Kd) (WA := [6]) pl0
  obtain ⟨g0, hG⟩ := rl_lcx hok hkf (by decide) rfl
  refine jj_iconst (v := 0) C dX11_lay_0 (by decide) ?_
  refine jj_istore_n C dX11_lay_1 (by decide) rfl ?_
  have hL_1 : ∀ (N : Nat) (pl : va_W) (k_2 : Nat) (g_3 : Nat → Int64), True → tt_ok rt_tk cA Kd pl → tt_fr Kd [] pl0 pl → tt_fa Kd [6] pl0 pl → rl_m pl h0 aw aa at0 ai af ap → tt_lc pl af g_3 → (∀ i : Nat, i < k_2 → g_3 i = 0) → (0 : Int) ≤ (k_2 : Int) → (k_2 : Int) ≤ 399 → (2147483648 - (k_2 : Int) ≤ (N : Int)) → jj_J p l e (jj_rm 0 0 0 0) s m args below meth c 2 A (vx_MQ below (jj_q D A (tt_O (fun rx pl1 r => rx = [] ∧ tt_ok rt_tk cA Kd pl1 ∧ tt_fr Kd [] pl0 pl1 ∧ tt_fa Kd [6] pl0 pl1 ∧ ((∃ g : Nat → Int64, tt_lc pl1 af g ∧ rl_Z g ∧ r = none))))) (jj_x D A (tt_OX (fun _ _ _ => False))) args s 0 0 A) (jj_X D A ([] ++ pl)) 0 0 2 [(1, .int (nI k_2)), (0, .ref af)] [] := by
    intro NL_1
    induction NL_1 with
    | zero => intro pl k_2 g_3 _ hok hfr hfa hm hC_4 hD_5 lk_2 uk_2 hNL_1; exfalso; omega
    | succ NL_1 ihL_1 =>
      intro pl k_2 g_3 _ hok hfr hfa hm hC_4 hD_5 lk_2 uk_2 hNL_1
      replace ihL_1 := fun pl k_2 g_3 h1 => ihL_1 pl k_2 g_3 trivial h1
      refine jj_iload_n C dX11_lay_2 rfl ?_
      refine jj_sipush (v := 334) C dX11_lay_3 (by decide) ?_
      refine jj_icmp_ge (tgt := 19) C dX11_lay_6 (by decide) (fun c_6 => ?_) (fun c_6 => ?_)
      · have z_c_6 := jc_le (a := 334) (b := ((k_2 : Nat) : Int)) c_6 (by decide) (rl_ti (by omega))
        refine jj_aload_n C dX11_lay_19 rfl ?_
        refine jj_iconst (v := 0) C dX11_lay_20 (by decide) ?_
        refine jj_lconst (v := 1) C dX11_lay_21 (by decide) ?_
        refine rl_last C hok (t := (1, (-9223372036854775808), 9223372036854775807)) hkf (by decide) rfl (k := 0) (vp_in_iff.mpr (by decide)) (tt_ja _) (by decide) dX11_lay_22 (fun pl_7 hok_8 tr tl tw => ?_)
        replace hm := hm.arr tr
        replace hfr := hfr.arr tr
        replace hC_4 := tw _ hC_4
        replace hfa := hfa.wr hkf tl (by decide)
        refine jj_aload_n C dX11_lay_23 rfl ?_
        refine jj_iconst (v := 4) C dX11_lay_24 (by decide) ?_
        refine jj_ldc2 (v := 100) C dX11_lay_25 jw_0cface3231 ?_
        refine rl_last C hok_8 (t := (1, (-9223372036854775808), 9223372036854775807)) hkf (by decide) rfl (k := 4) (vp_in_iff.mpr (by decide)) (tt_ja _) (by decide) dX11_lay_28 (fun pl_9 hok_10 tr tl tw => ?_)
        replace hm := hm.arr tr
        replace hfr := hfr.arr tr
        replace hC_4 := tw _ hC_4
        replace hfa := hfa.wr hkf tl (by decide)
        exact jj_vret C ⟨[], pl_9, rfl, rfl, hok_10, hfr, hfa, ⟨_, hC_4, rl_Z.of hD_5 (by omega), rfl⟩⟩ dX11_lay_29 (jj_le rfl) (jj_le rfl)
      · have z_c_6 := jc_nle (a := 334) (b := ((k_2 : Nat) : Int)) c_6 (by decide) (rl_ti (by omega))
        refine jj_aload_n C dX11_lay_9 rfl ?_
        refine jj_iload_n C dX11_lay_10 rfl ?_
        refine jj_lconst (v := 0) C dX11_lay_11 (by decide) ?_
        refine rl_last C hok (t := (1, (-9223372036854775808), 9223372036854775807)) hkf (by decide) rfl (k := k_2) (vp_in_nI (by omega) (by decide)) (tt_ja _) (nI_clamp (by omega)) dX11_lay_12 (fun pl_11 hok_12 tr tl tw => ?_)
        replace hm := hm.arr tr
        replace hfr := hfr.arr tr
        replace hC_4 := tw _ hC_4
        replace hfa := hfa.wr hkf tl (by decide)
        refine jj_iinc (v := nI (1 + k_2)) C dX11_lay_13 rfl (rl_addR (kn := 1) (by decide) (by omega)) (by decide) rfl ?_
        refine jj_goto (tgt := 2) C dX11_lay_16 (by decide) ?_
        exact ihL_1 pl_11 (1 + k_2) (vp_updL g_3 k_2 (0 : Int64)) hok_12 hfr hfa hm hC_4 (rl_fillz hD_5) (by first | omega | decide | exact tt_lo _ | exact tt_hi _) (by first | omega | decide | exact tt_lo _ | exact tt_hi _) (by first | omega | decide | exact tt_lo _ | exact tt_hi _)
  exact hL_1 _ pl0 0 g0 trivial hok hfr hfa hm hG (fun i hi => absurd hi (Nat.not_lt_zero _)) (by first | omega | decide | exact tt_lo _ | exact tt_hi _) (by first | omega | decide | exact tt_lo _ | exact tt_hi _) (Int.self_le_toNat _)

set_option maxHeartbeats 4000000 in
set_option maxRecDepth 100000 in
theorem rs_readHead {l : Launch} (hl : l.stackTraces = false) (D : va_G) (cA : Nat → ClassId) (ak : (Nat → Nat) × (Nat → Nat)) {Kd : Nat → Nat} {h0 aw aa at0 ai af ap : Nat} (n17 : Nat) (n16 : Nat) (n15 : Nat) (n14 : Nat) (f : Nat → Int64) (hk0 : Kd h0 = 1) (hkw : Kd aw = 2) (hka : Kd aa = 3) (hkt : Kd at0 = 4) (hki : Kd ai = 5) (hkf : Kd af = 6) (hkp : Kd ap = 7) (ln17 : (0 : Int) ≤ (n17 : Int)) (un17 : (n17 : Int) ≤ 3) (ln16 : (0 : Int) ≤ (n16 : Int)) (un16 : (n16 : Int) ≤ 400) (ln15 : (0 : Int) ≤ (n15 : Int)) (un15 : (n15 : Int) ≤ 400) (ln14 : (0 : Int) ≤ (n14 : Int)) (un14 : (n14 : Int) ≤ 400) (h45 : n14 ≤ n15) (h56 : n15 ≤ n16) (hZ : rl_Z f) {pl0 : va_W} (hok : tt_ok rt_tk cA Kd pl0) (hm : rl_m pl0 h0 aw aa at0 ai af ap) (hCf : tt_lc pl0 af f) (hs14 : tt_at pl0 h0 14 (.int (nI n14))) (hs15 : tt_at pl0 h0 15 (.int (nI n15))) (hs16 : tt_at pl0 h0 16 (.int (nI n16))) (hs17 : tt_at pl0 h0 17 (.int (nI n17))) : jj_M l D cA ak yX11_readHead (.code yX11_readHead cX11_readHead 1 none) 6 129 0 0 ([] ++ pl0) [.ref h0] (tt_O (fun rx pl1 r => rx = [] ∧ tt_ok rt_tk cA Kd pl1 ∧ tt_fr Kd [(1, 14), (1, 15), (1, 17), (1, 18)] pl0 pl1 ∧ tt_fa Kd [6] pl0 pl1 ∧ ((∃ (g : Nat → Int64) (a b m : Nat), tt_lc pl1 af g ∧ tt_at pl1 h0 14 (.int (nI a)) ∧ tt_at pl1 h0 15 (.int (nI b)) ∧ tt_at pl1 h0 17 (.int (nI m)) ∧ a ≤ b ∧ b ≤ n16 ∧ m ≤ 3 ∧ (m = 0 → rl_FR g) ∧ r = none)))) (tt_OX (fun _ _ _ => False)) := by
  refine jj_start hl (by decide) jw_753a64c668 (jj_le rfl) ?_
  intro p e s m args below meth c A hargs hA C hex hmn
  have hfr := tt_fr.refl (K := Kd) (WS := [(1, 14), (1, 15), (1, 17), (1, 18)]) pl0
  have hfa := tt_fa.refl (K := Kd) (WA := [6]) pl0
  refine jj_aload_n C dX11_readHead_0 rfl ?_
  refine jj_ldcsw (k := 20) (tx := "fund") C dX11_readHead_1 (by decide +kernel) ?_
  obtain ⟨qc, gs, hqc⟩ := tt_recv (cx := []) hok hk0 (by decide) rfl
  refine tt_callV (rest := []) C (rs_must_fund hl D cA ak n17 n16 n15 n14 hk0 hkw hka hkt hki hkf hkp (by first | omega | decide) (by first | omega | decide) (by first | omega | decide) (by first | omega | decide) (by first | omega | decide) (by first | omega | decide) (by first | omega | decide) (by first | omega | decide) (by omega) (by omega) hok hm hs14 hs15 hs16 hs17) [] [] rfl rfl (by decide) (by decide) (by decide) qc hqc rfl rfl jw_567bcddfb2 jw_5c84fa4094 jw_52b545b3e3 jw_f96c99f44d jw_84234b4b1a jn_X11_must rfl (jj_le rfl) (jj_le rfl) (jj_le rfl) (jj_le rfl) (jj_le rfl) dX11_readHead_4 rfl (fun _ _ _ hX => hX.elim) (fun rx pl_1 r O_5 => ?_)
  obtain ⟨rfl, hok_2, hr_3, ha_4, hR_6⟩ := O_5
  replace hs16 := hr_3.at hk0 (by decide) (by decide) hs16
  replace hCf := ha_4.at hkf (by decide) (by decide) hCf
  replace hm := hm.fr hr_3 hk0 rfl
  replace hfr := hfr.trans (hr_3.sub (by decide))
  replace hfa := hfa.trans (ha_4.sub (by decide))
  obtain ⟨n_7, n_8, n_9, hf_10, hf_11, hf_12, hq_13, hq_14, hq_15, hq_16, hq_17, rfl⟩ := hR_6
  refine jj_aload_n C dX11_readHead_7 rfl ?_
  refine jj_ldcsw (k := 21) (tx := "equal") C dX11_readHead_8 (by decide +kernel) ?_
  obtain ⟨qc, gs, hqc⟩ := tt_recv (cx := []) hok_2 hk0 (by decide) rfl
  refine tt_callV (rest := []) C (rs_isWord_equal hl D cA ak n16 n_8 n_7 hk0 hkw hka hkt hki hkf hkp (by first | omega | decide) (by first | omega | decide) (by first | omega | decide) (by first | omega | decide) (by first | omega | decide) (by first | omega | decide) (by omega) (by omega) hok_2 hm hf_10 hf_11 hs16) [] [] rfl rfl (by decide) (by decide) (by decide) qc hqc rfl rfl jw_04296bb1c5 jw_2d2d3dccfc jw_f04e1767ef jw_f96c99f44d jw_f54d9c537b jn_X11_isWord rfl (jj_le rfl) (jj_le rfl) (jj_le rfl) (jj_le rfl) (jj_le rfl) dX11_readHead_11 rfl (fun _ _ _ hX => hX.elim) (fun rx pl_18 r O_22 => ?_)
  obtain ⟨rfl, hok_19, hr_20, ha_21, hR_23⟩ := O_22
  replace hs16 := hr_20.at hk0 (by decide) (by decide) hs16
  replace hf_10 := hr_20.at hk0 (by decide) (by decide) hf_10
  replace hf_11 := hr_20.at hk0 (by decide) (by decide) hf_11
  replace hf_12 := hr_20.at hk0 (by decide) (by decide) hf_12
  replace hCf := ha_21.at hkf (by decide) (by decide) hCf
  replace hm := hm.fr hr_20 hk0 rfl
  replace hfr := hfr.trans (hr_20.sub (by decide))
  replace hfa := hfa.trans (ha_21.sub (by decide))
  rcases hR_23 with rfl | ⟨hw_24, rfl⟩
  · refine jj_if_eqT (tgt := 27) C dX11_readHead_14 (by decide) (by decide) ?_
    refine jj_aload_n C dX11_readHead_27 rfl ?_
    refine jj_ldcsw (k := 22) (tx := "series") C dX11_readHead_28 (by decide +kernel) ?_
    obtain ⟨qc, gs, hqc⟩ := tt_recv (cx := []) hok_19 hk0 (by decide) rfl
    refine tt_callV (rest := []) C (rs_isWord_series hl D cA ak n16 n_8 n_7 hk0 hkw hka hkt hki hkf hkp (by first | omega | decide) (by first | omega | decide) (by first | omega | decide) (by first | omega | decide) (by first | omega | decide) (by first | omega | decide) (by omega) (by omega) hok_19 hm hf_10 hf_11 hs16) [] [] rfl rfl (by decide) (by decide) (by decide) qc hqc rfl rfl jw_04296bb1c5 jw_2d2d3dccfc jw_f04e1767ef jw_f96c99f44d jw_f54d9c537b jn_X11_isWord rfl (jj_le rfl) (jj_le rfl) (jj_le rfl) (jj_le rfl) (jj_le rfl) dX11_readHead_31 rfl (fun _ _ _ hX => hX.elim) (fun rx pl_25 r O_29 => ?_)
    obtain ⟨rfl, hok_26, hr_27, ha_28, hR_30⟩ := O_29
    replace hs16 := hr_27.at hk0 (by decide) (by decide) hs16
    replace hf_10 := hr_27.at hk0 (by decide) (by decide) hf_10
    replace hf_11 := hr_27.at hk0 (by decide) (by decide) hf_11
    replace hf_12 := hr_27.at hk0 (by decide) (by decide) hf_12
    replace hCf := ha_28.at hkf (by decide) (by decide) hCf
    replace hm := hm.fr hr_27 hk0 rfl
    replace hfr := hfr.trans (hr_27.sub (by decide))
    replace hfa := hfa.trans (ha_28.sub (by decide))
    rcases hR_30 with rfl | ⟨hw_31, rfl⟩
    · refine jj_if_neF (tgt := 42) C dX11_readHead_34 (by decide) (by decide) ?_
      refine jj_aload_n C dX11_readHead_37 rfl ?_
      refine jj_iconst (v := 1) C dX11_readHead_38 (by decide) ?_
      obtain ⟨qc, gs, hqc⟩ := tt_recv (cx := []) hok_26 hk0 (by decide) rfl
      refine tt_callV (rest := []) C (rs_wrong_1 hl D cA ak n_9 hk0 hkw hka hkt hki hkf hkp (by first | omega | decide) (by first | omega | decide) hok_26 hm hf_12) [] [] rfl rfl (by decide) (by decide) (by decide) qc hqc rfl rfl jw_e206642f3f jw_6f17e07a53 jw_400f18f3e9 jw_f96c99f44d jw_6b1a6dabbc jn_X11_wrong rfl (jj_le rfl) (jj_le rfl) (jj_le rfl) (jj_le rfl) (jj_le rfl) dX11_readHead_39 rfl (fun _ _ _ hX => hX.elim) (fun rx pl_32 r O_36 => ?_)
      obtain ⟨rfl, hok_33, hr_34, ha_35, hR_37⟩ := O_36
      replace hs16 := hr_34.at hk0 (by decide) (by decide) hs16
      replace hf_10 := hr_34.at hk0 (by decide) (by decide) hf_10
      replace hf_11 := hr_34.at hk0 (by decide) (by decide) hf_11
      replace hCf := ha_35.at hkf (by decide) (by decide) hCf
      replace hm := hm.fr hr_34 hk0 rfl
      replace hfr := hfr.trans (hr_34.sub (by decide))
      replace hfa := hfa.trans (ha_35.sub (by decide))
      obtain ⟨n_38, hf_39, ln_38, un_38, rfl⟩ := hR_37
      refine jj_aload_n C dX11_readHead_42 rfl ?_
      obtain ⟨qc, gs, hqc⟩ := tt_recv (cx := []) hok_33 hk0 (by decide) rfl
      refine tt_callV (rest := []) C (rs_pass hl D cA ak n_38 n16 n_8 n_7 hk0 hkw hka hkt hki hkf hkp (by first | omega | decide) (by first | omega | decide) (by first | omega | decide) (by first | omega | decide) (by first | omega | decide) (by first | omega | decide) (by first | omega | decide) (by first | omega | decide) (by omega) (by omega) hok_33 hm hf_10 hf_11 hs16 hf_39) [] [] rfl rfl (by decide) (by decide) (by decide) qc hqc rfl rfl jw_b8e803331f jw_409849e3da jw_7cfaf31817 jw_f96c99f44d jw_3d0e41f30f jn_X11_pass rfl (jj_le rfl) (jj_le rfl) (jj_le rfl) (jj_le rfl) (jj_le rfl) dX11_readHead_43 rfl (fun _ _ _ hX => hX.elim) (fun rx pl_40 r O_44 => ?_)
      obtain ⟨rfl, hok_41, hr_42, ha_43, hR_45⟩ := O_44
      replace hs16 := hr_42.at hk0 (by decide) (by decide) hs16
      replace hf_39 := hr_42.at hk0 (by decide) (by decide) hf_39
      replace hCf := ha_43.at hkf (by decide) (by decide) hCf
      replace hm := hm.fr hr_42 hk0 rfl
      replace hfr := hfr.trans (hr_42.sub (by decide))
      replace hfa := hfa.trans (ha_43.sub (by decide))
      obtain ⟨n_46, n_47, hf_48, hf_49, hq_50, hq_51, hq_52, hq_53, rfl⟩ := hR_45
      refine jj_aload_n C dX11_readHead_46 rfl ?_
      refine tt_getF C hok_41 jk_12 4 (by decide) jw_69cfdf3f6e (t := (2, 6, 0)) hk0 (by decide) rfl rfl hm.2.2.2.2.1 dX11_readHead_47 ?_
      refine jj_iconst (v := 2) C dX11_readHead_50 (by decide) ?_
      refine jj_aload_n C dX11_readHead_51 rfl ?_
      refine jj_lconst (v := 0) C dX11_readHead_52 (by decide) ?_
      refine jj_ldc2 (v := 9999) C dX11_readHead_53 jw_79cc7664b1 ?_
      obtain ⟨qc, gs, hqc⟩ := tt_recv (cx := []) hok_41 hk0 (by decide) rfl
      refine tt_callV (rest := [.int 2, .ref af]) C (rs_number hl D cA ak n_38 n16 n_47 n_46 (0 : Int64) (9999 : Int64) hk0 hkw hka hkt hki hkf hkp (by first | omega | decide) (by first | omega | decide) (by first | omega | decide) (by first | omega | decide) (by first | omega | decide) (by first | omega | decide) (by first | omega | decide) (by first | omega | decide) (by omega) (by omega) hok_41 hm hf_48 hf_49 hs16 hf_39) [] [] rfl rfl (by decide) (by decide) (by decide) qc hqc rfl rfl jw_adb570a667 jw_970096b033 jw_c6bab24534 jw_f96c99f44d jw_2d66378959 jn_X11_number rfl (jj_le rfl) (jj_le rfl) (jj_le rfl) (jj_le rfl) (jj_le rfl) dX11_readHead_56 rfl (fun _ _ _ hX => hX.elim) (fun rx pl_54 r O_58 => ?_)
      obtain ⟨rfl, hok_55, hr_56, ha_57, hR_59⟩ := O_58
      replace hs16 := hr_56.at hk0 (by decide) (by decide) hs16
      replace hCf := ha_57.at hkf (by decide) (by decide) hCf
      replace hm := hm.fr hr_56 hk0 rfl
      replace hfr := hfr.trans (hr_56.sub (by decide))
      replace hfa := hfa.trans (ha_57.sub (by decide))
      obtain ⟨n_60, n_61, n_62, x_63, hf_64, hf_65, hf_66, hq_67, hq_68, hq_69, hq_70, hq_71, rfl⟩ := hR_59
      have lx_63 := tt_lo x_63
      have ux_63 := tt_hi x_63
      have p1x_63 : (0 : Int64).toInt = 0 := by decide
      have p2x_63 : (9999 : Int64).toInt = 9999 := by decide
      obtain ⟨y_72, ey_72, vy_72⟩ := tt_i2l x_63
      refine jj_i2l (v := y_72) C dX11_readHead_59 ey_72 ?_
      refine rl_last C hok_55 (t := (1, (-9223372036854775808), 9223372036854775807)) hkf (by decide) rfl (k := 2) (vp_in_iff.mpr (by decide)) (tt_ja _) (by decide) dX11_readHead_60 (fun pl_73 hok_74 tr tl tw => ?_)
      replace hs16 := tr _ _ _ hs16
      replace hf_64 := tr _ _ _ hf_64
      replace hf_65 := tr _ _ _ hf_65
      replace hf_66 := tr _ _ _ hf_66
      replace hm := hm.arr tr
      replace hfr := hfr.arr tr
      replace hCf := tw _ hCf
      replace hfa := hfa.wr hkf tl (by decide)
      refine jj_aload_n C dX11_readHead_61 rfl ?_
      refine tt_getF C hok_74 jk_12 4 (by decide) jw_69cfdf3f6e (t := (2, 6, 0)) hk0 (by decide) rfl rfl hm.2.2.2.2.1 dX11_readHead_62 ?_
      refine jj_iconst (v := 3) C dX11_readHead_65 (by decide) ?_
      refine jj_aload_n C dX11_readHead_66 rfl ?_
      refine jj_lconst (v := 0) C dX11_readHead_67 (by decide) ?_
      refine jj_ldc2 (v := 50) C dX11_readHead_68 jw_5d90e8e74a ?_
      obtain ⟨qc, gs, hqc⟩ := tt_recv (cx := []) hok_74 hk0 (by decide) rfl
      refine tt_callV (rest := [.int 3, .ref af]) C (rs_number hl D cA ak n_62 n16 n_61 n_60 (0 : Int64) (50 : Int64) hk0 hkw hka hkt hki hkf hkp (by first | omega | decide) (by first | omega | decide) (by first | omega | decide) (by first | omega | decide) (by first | omega | decide) (by first | omega | decide) (by first | omega | decide) (by first | omega | decide) (by omega) (by omega) hok_74 hm hf_64 hf_65 hs16 hf_66) [] [] rfl rfl (by decide) (by decide) (by decide) qc hqc rfl rfl jw_adb570a667 jw_970096b033 jw_c6bab24534 jw_f96c99f44d jw_2d66378959 jn_X11_number rfl (jj_le rfl) (jj_le rfl) (jj_le rfl) (jj_le rfl) (jj_le rfl) dX11_readHead_71 rfl (fun _ _ _ hX => hX.elim) (fun rx pl_75 r O_79 => ?_)
      obtain ⟨rfl, hok_76, hr_77, ha_78, hR_80⟩ := O_79
      replace hs16 := hr_77.at hk0 (by decide) (by decide) hs16
      replace hCf := ha_78.at hkf (by decide) (by decide) hCf
      replace hm := hm.fr hr_77 hk0 rfl
      replace hfr := hfr.trans (hr_77.sub (by decide))
      replace hfa := hfa.trans (ha_78.sub (by decide))
      obtain ⟨n_81, n_82, n_83, x_84, hf_85, hf_86, hf_87, hq_88, hq_89, hq_90, hq_91, hq_92, rfl⟩ := hR_80
      have lx_84 := tt_lo x_84
      have ux_84 := tt_hi x_84
      have p1x_84 : (0 : Int64).toInt = 0 := by decide
      have p2x_84 : (50 : Int64).toInt = 50 := by decide
      obtain ⟨y_93, ey_93, vy_93⟩ := tt_i2l x_84
      refine jj_i2l (v := y_93) C dX11_readHead_74 ey_93 ?_
      refine rl_last C hok_76 (t := (1, (-9223372036854775808), 9223372036854775807)) hkf (by decide) rfl (k := 3) (vp_in_iff.mpr (by decide)) (tt_ja _) (by decide) dX11_readHead_75 (fun pl_94 hok_95 tr tl tw => ?_)
      replace hs16 := tr _ _ _ hs16
      replace hf_85 := tr _ _ _ hf_85
      replace hf_86 := tr _ _ _ hf_86
      replace hf_87 := tr _ _ _ hf_87
      replace hm := hm.arr tr
      replace hfr := hfr.arr tr
      replace hCf := tw _ hCf
      replace hfa := hfa.wr hkf tl (by decide)
      refine jj_aload_n C dX11_readHead_76 rfl ?_
      refine tt_getF C hok_95 jk_12 4 (by decide) jw_69cfdf3f6e (t := (2, 6, 0)) hk0 (by decide) rfl rfl hm.2.2.2.2.1 dX11_readHead_77 ?_
      refine jj_iconst (v := 4) C dX11_readHead_80 (by decide) ?_
      refine jj_aload_n C dX11_readHead_81 rfl ?_
      refine jj_lconst (v := 1) C dX11_readHead_82 (by decide) ?_
      refine jj_ldc2 (v := 100) C dX11_readHead_83 jw_0cface3231 ?_
      obtain ⟨qc, gs, hqc⟩ := tt_recv (cx := []) hok_95 hk0 (by decide) rfl
      refine tt_callV (rest := [.int 4, .ref af]) C (rs_number hl D cA ak n_83 n16 n_82 n_81 (1 : Int64) (100 : Int64) hk0 hkw hka hkt hki hkf hkp (by first | omega | decide) (by first | omega | decide) (by first | omega | decide) (by first | omega | decide) (by first | omega | decide) (by first | omega | decide) (by first | omega | decide) (by first | omega | decide) (by omega) (by omega) hok_95 hm hf_85 hf_86 hs16 hf_87) [] [] rfl rfl (by decide) (by decide) (by decide) qc hqc rfl rfl jw_adb570a667 jw_970096b033 jw_c6bab24534 jw_f96c99f44d jw_2d66378959 jn_X11_number rfl (jj_le rfl) (jj_le rfl) (jj_le rfl) (jj_le rfl) (jj_le rfl) dX11_readHead_86 rfl (fun _ _ _ hX => hX.elim) (fun rx pl_96 r O_100 => ?_)
      obtain ⟨rfl, hok_97, hr_98, ha_99, hR_101⟩ := O_100
      replace hs16 := hr_98.at hk0 (by decide) (by decide) hs16
      replace hCf := ha_99.at hkf (by decide) (by decide) hCf
      replace hm := hm.fr hr_98 hk0 rfl
      replace hfr := hfr.trans (hr_98.sub (by decide))
      replace hfa := hfa.trans (ha_99.sub (by decide))
      obtain ⟨n_102, n_103, n_104, x_105, hf_106, hf_107, hf_108, hq_109, hq_110, hq_111, hq_112, hq_113, rfl⟩ := hR_101
      have lx_105 := tt_lo x_105
      have ux_105 := tt_hi x_105
      have p1x_105 : (1 : Int64).toInt = 1 := by decide
      have p2x_105 : (100 : Int64).toInt = 100 := by decide
      obtain ⟨y_114, ey_114, vy_114⟩ := tt_i2l x_105
      refine jj_i2l (v := y_114) C dX11_readHead_89 ey_114 ?_
      refine rl_last C hok_97 (t := (1, (-9223372036854775808), 9223372036854775807)) hkf (by decide) rfl (k := 4) (vp_in_iff.mpr (by decide)) (tt_ja _) (by decide) dX11_readHead_90 (fun pl_115 hok_116 tr tl tw => ?_)
      replace hs16 := tr _ _ _ hs16
      replace hf_106 := tr _ _ _ hf_106
      replace hf_107 := tr _ _ _ hf_107
      replace hf_108 := tr _ _ _ hf_108
      replace hm := hm.arr tr
      replace hfr := hfr.arr tr
      replace hCf := tw _ hCf
      replace hfa := hfa.wr hkf tl (by decide)
      refine jj_aload_n C dX11_readHead_91 rfl ?_
      refine jj_ldcsw (k := 23) (tx := ";") C dX11_readHead_92 (by decide +kernel) ?_
      obtain ⟨qc, gs, hqc⟩ := tt_recv (cx := []) hok_116 hk0 (by decide) rfl
      refine tt_callV (rest := []) C (rs_must_semi hl D cA ak n_104 n16 n_103 n_102 hk0 hkw hka hkt hki hkf hkp (by first | omega | decide) (by first | omega | decide) (by first | omega | decide) (by first | omega | decide) (by first | omega | decide) (by first | omega | decide) (by first | omega | decide) (by first | omega | decide) (by omega) (by omega) hok_116 hm hf_106 hf_107 hs16 hf_108) [] [] rfl rfl (by decide) (by decide) (by decide) qc hqc rfl rfl jw_567bcddfb2 jw_5c84fa4094 jw_52b545b3e3 jw_f96c99f44d jw_84234b4b1a jn_X11_must rfl (jj_le rfl) (jj_le rfl) (jj_le rfl) (jj_le rfl) (jj_le rfl) dX11_readHead_95 rfl (fun _ _ _ hX => hX.elim) (fun rx pl_117 r O_121 => ?_)
      obtain ⟨rfl, hok_118, hr_119, ha_120, hR_122⟩ := O_121
      replace hs16 := hr_119.at hk0 (by decide) (by decide) hs16
      replace hCf := ha_120.at hkf (by decide) (by decide) hCf
      replace hm := hm.fr hr_119 hk0 rfl
      replace hfr := hfr.trans (hr_119.sub (by decide))
      replace hfa := hfa.trans (ha_120.sub (by decide))
      obtain ⟨n_123, n_124, n_125, hf_126, hf_127, hf_128, hq_129, hq_130, hq_131, hq_132, hq_133, rfl⟩ := hR_122
      refine jj_aload_n C dX11_readHead_98 rfl ?_
      refine jj_ldcsw (k := 24) (tx := "investors") C dX11_readHead_99 (by decide +kernel) ?_
      obtain ⟨qc, gs, hqc⟩ := tt_recv (cx := []) hok_118 hk0 (by decide) rfl
      refine tt_callV (rest := []) C (rs_must_investors hl D cA ak n_125 n16 n_124 n_123 hk0 hkw hka hkt hki hkf hkp (by first | omega | decide) (by first | omega | decide) (by first | omega | decide) (by first | omega | decide) (by first | omega | decide) (by first | omega | decide) (by first | omega | decide) (by first | omega | decide) (by omega) (by omega) hok_118 hm hf_126 hf_127 hs16 hf_128) [] [] rfl rfl (by decide) (by decide) (by decide) qc hqc rfl rfl jw_567bcddfb2 jw_5c84fa4094 jw_52b545b3e3 jw_f96c99f44d jw_84234b4b1a jn_X11_must rfl (jj_le rfl) (jj_le rfl) (jj_le rfl) (jj_le rfl) (jj_le rfl) dX11_readHead_102 rfl (fun _ _ _ hX => hX.elim) (fun rx pl_134 r O_138 => ?_)
      obtain ⟨rfl, hok_135, hr_136, ha_137, hR_139⟩ := O_138
      replace hs16 := hr_136.at hk0 (by decide) (by decide) hs16
      replace hCf := ha_137.at hkf (by decide) (by decide) hCf
      replace hm := hm.fr hr_136 hk0 rfl
      replace hfr := hfr.trans (hr_136.sub (by decide))
      replace hfa := hfa.trans (ha_137.sub (by decide))
      obtain ⟨n_140, n_141, n_142, hf_143, hf_144, hf_145, hq_146, hq_147, hq_148, hq_149, hq_150, rfl⟩ := hR_139
      refine jj_aload_n C dX11_readHead_105 rfl ?_
      refine tt_getF C hok_135 jk_12 4 (by decide) jw_69cfdf3f6e (t := (2, 6, 0)) hk0 (by decide) rfl rfl hm.2.2.2.2.1 dX11_readHead_106 ?_
      refine jj_iconst (v := 0) C dX11_readHead_109 (by decide) ?_
      refine jj_aload_n C dX11_readHead_110 rfl ?_
      refine jj_lconst (v := 1) C dX11_readHead_111 (by decide) ?_
      refine jj_ldc2 (v := 6) C dX11_readHead_112 jw_f454e46fa4 ?_
      obtain ⟨qc, gs, hqc⟩ := tt_recv (cx := []) hok_135 hk0 (by decide) rfl
      refine tt_callV (rest := [.int 0, .ref af]) C (rs_number hl D cA ak n_142 n16 n_141 n_140 (1 : Int64) (6 : Int64) hk0 hkw hka hkt hki hkf hkp (by first | omega | decide) (by first | omega | decide) (by first | omega | decide) (by first | omega | decide) (by first | omega | decide) (by first | omega | decide) (by first | omega | decide) (by first | omega | decide) (by omega) (by omega) hok_135 hm hf_143 hf_144 hs16 hf_145) [] [] rfl rfl (by decide) (by decide) (by decide) qc hqc rfl rfl jw_adb570a667 jw_970096b033 jw_c6bab24534 jw_f96c99f44d jw_2d66378959 jn_X11_number rfl (jj_le rfl) (jj_le rfl) (jj_le rfl) (jj_le rfl) (jj_le rfl) dX11_readHead_115 rfl (fun _ _ _ hX => hX.elim) (fun rx pl_151 r O_155 => ?_)
      obtain ⟨rfl, hok_152, hr_153, ha_154, hR_156⟩ := O_155
      replace hs16 := hr_153.at hk0 (by decide) (by decide) hs16
      replace hCf := ha_154.at hkf (by decide) (by decide) hCf
      replace hm := hm.fr hr_153 hk0 rfl
      replace hfr := hfr.trans (hr_153.sub (by decide))
      replace hfa := hfa.trans (ha_154.sub (by decide))
      obtain ⟨n_157, n_158, n_159, x_160, hf_161, hf_162, hf_163, hq_164, hq_165, hq_166, hq_167, hq_168, rfl⟩ := hR_156
      have lx_160 := tt_lo x_160
      have ux_160 := tt_hi x_160
      have p1x_160 : (1 : Int64).toInt = 1 := by decide
      have p2x_160 : (6 : Int64).toInt = 6 := by decide
      obtain ⟨y_169, ey_169, vy_169⟩ := tt_i2l x_160
      refine jj_i2l (v := y_169) C dX11_readHead_118 ey_169 ?_
      refine rl_last C hok_152 (t := (1, (-9223372036854775808), 9223372036854775807)) hkf (by decide) rfl (k := 0) (vp_in_iff.mpr (by decide)) (tt_ja _) (by decide) dX11_readHead_119 (fun pl_170 hok_171 tr tl tw => ?_)
      replace hs16 := tr _ _ _ hs16
      replace hf_161 := tr _ _ _ hf_161
      replace hf_162 := tr _ _ _ hf_162
      replace hf_163 := tr _ _ _ hf_163
      replace hm := hm.arr tr
      replace hfr := hfr.arr tr
      replace hCf := tw _ hCf
      replace hfa := hfa.wr hkf tl (by decide)
      refine jj_aload_n C dX11_readHead_120 rfl ?_
      refine jj_ldcsw (k := 23) (tx := ";") C dX11_readHead_121 (by decide +kernel) ?_
      obtain ⟨qc, gs, hqc⟩ := tt_recv (cx := []) hok_171 hk0 (by decide) rfl
      refine tt_callV (rest := []) C (rs_must_semi hl D cA ak n_159 n16 n_158 n_157 hk0 hkw hka hkt hki hkf hkp (by first | omega | decide) (by first | omega | decide) (by first | omega | decide) (by first | omega | decide) (by first | omega | decide) (by first | omega | decide) (by first | omega | decide) (by first | omega | decide) (by omega) (by omega) hok_171 hm hf_161 hf_162 hs16 hf_163) [] [] rfl rfl (by decide) (by decide) (by decide) qc hqc rfl rfl jw_567bcddfb2 jw_5c84fa4094 jw_52b545b3e3 jw_f96c99f44d jw_84234b4b1a jn_X11_must rfl (jj_le rfl) (jj_le rfl) (jj_le rfl) (jj_le rfl) (jj_le rfl) dX11_readHead_124 rfl (fun _ _ _ hX => hX.elim) (fun rx pl_172 r O_176 => ?_)
      obtain ⟨rfl, hok_173, hr_174, ha_175, hR_177⟩ := O_176
      replace hs16 := hr_174.at hk0 (by decide) (by decide) hs16
      replace hCf := ha_175.at hkf (by decide) (by decide) hCf
      replace hm := hm.fr hr_174 hk0 rfl
      replace hfr := hfr.trans (hr_174.sub (by decide))
      replace hfa := hfa.trans (ha_175.sub (by decide))
      obtain ⟨n_178, n_179, n_180, hf_181, hf_182, hf_183, hq_184, hq_185, hq_186, hq_187, hq_188, rfl⟩ := hR_177
      exact jj_vret C ⟨[], pl_172, rfl, rfl, hok_173, hfr, hfa, ⟨_, n_178, n_179, n_180, hCf, hf_181, hf_182, hf_183, (by omega), (by omega), (by omega), (fun z9 => rl_FR.head (by rw [show (vp_updL (vp_updL (vp_updL (vp_updL f 2 y_72) 3 y_93) 4 y_114) 0 y_169) 0 = y_169 from (rl_eq rfl)]; omega) (by rw [show (vp_updL (vp_updL (vp_updL (vp_updL f 2 y_72) 3 y_93) 4 y_114) 0 y_169) 1 = f 1 from (rl_ne (by decide) (rl_ne (by decide) (rl_ne (by decide) (rl_ne (by decide) rfl))))]; have := hZ.2.2 1 (by decide) (by decide) (by decide); omega) (by rw [show (vp_updL (vp_updL (vp_updL (vp_updL f 2 y_72) 3 y_93) 4 y_114) 0 y_169) 2 = y_72 from (rl_ne (by decide) (rl_ne (by decide) (rl_ne (by decide) (rl_eq rfl))))]; omega) (by rw [show (vp_updL (vp_updL (vp_updL (vp_updL f 2 y_72) 3 y_93) 4 y_114) 0 y_169) 3 = y_93 from (rl_ne (by decide) (rl_ne (by decide) (rl_eq rfl)))]; omega) (by rw [show (vp_updL (vp_updL (vp_updL (vp_updL f 2 y_72) 3 y_93) 4 y_114) 0 y_169) 4 = y_114 from (rl_ne (by decide) (rl_eq rfl))]; omega) ⟨(by rw [show (vp_updL (vp_updL (vp_updL (vp_updL f 2 y_72) 3 y_93) 4 y_114) 0 y_169) 6 = f 6 from (rl_ne (by decide) (rl_ne (by decide) (rl_ne (by decide) (rl_ne (by decide) rfl))))]; exact hZ.2.2 6 (by decide) (by decide) (by decide)), (by rw [show (vp_updL (vp_updL (vp_updL (vp_updL f 2 y_72) 3 y_93) 4 y_114) 0 y_169) 7 = f 7 from (rl_ne (by decide) (rl_ne (by decide) (rl_ne (by decide) (rl_ne (by decide) rfl))))]; exact hZ.2.2 7 (by decide) (by decide) (by decide)), (by rw [show (vp_updL (vp_updL (vp_updL (vp_updL f 2 y_72) 3 y_93) 4 y_114) 0 y_169) 8 = f 8 from (rl_ne (by decide) (rl_ne (by decide) (rl_ne (by decide) (rl_ne (by decide) rfl))))]; exact hZ.2.2 8 (by decide) (by decide) (by decide)), (by rw [show (vp_updL (vp_updL (vp_updL (vp_updL f 2 y_72) 3 y_93) 4 y_114) 0 y_169) 9 = f 9 from (rl_ne (by decide) (rl_ne (by decide) (rl_ne (by decide) (rl_ne (by decide) rfl))))]; exact hZ.2.2 9 (by decide) (by decide) (by decide))⟩), rfl⟩⟩ dX11_readHead_127 (jj_le rfl) (jj_le rfl)
    · refine jj_if_neT (tgt := 42) C dX11_readHead_34 (by decide) (by decide) ?_
      refine jj_aload_n C dX11_readHead_42 rfl ?_
      obtain ⟨qc, gs, hqc⟩ := tt_recv (cx := []) hok_26 hk0 (by decide) rfl
      refine tt_callV (rest := []) C (rs_pass hl D cA ak n_9 n16 n_8 n_7 hk0 hkw hka hkt hki hkf hkp (by first | omega | decide) (by first | omega | decide) (by first | omega | decide) (by first | omega | decide) (by first | omega | decide) (by first | omega | decide) (by first | omega | decide) (by first | omega | decide) (by omega) (by omega) hok_26 hm hf_10 hf_11 hs16 hf_12) [] [] rfl rfl (by decide) (by decide) (by decide) qc hqc rfl rfl jw_b8e803331f jw_409849e3da jw_7cfaf31817 jw_f96c99f44d jw_3d0e41f30f jn_X11_pass rfl (jj_le rfl) (jj_le rfl) (jj_le rfl) (jj_le rfl) (jj_le rfl) dX11_readHead_43 rfl (fun _ _ _ hX => hX.elim) (fun rx pl_189 r O_193 => ?_)
      obtain ⟨rfl, hok_190, hr_191, ha_192, hR_194⟩ := O_193
      replace hs16 := hr_191.at hk0 (by decide) (by decide) hs16
      replace hf_12 := hr_191.at hk0 (by decide) (by decide) hf_12
      replace hCf := ha_192.at hkf (by decide) (by decide) hCf
      replace hm := hm.fr hr_191 hk0 rfl
      replace hfr := hfr.trans (hr_191.sub (by decide))
      replace hfa := hfa.trans (ha_192.sub (by decide))
      obtain ⟨n_195, n_196, hf_197, hf_198, hq_199, hq_200, hq_201, hq_202, rfl⟩ := hR_194
      refine jj_aload_n C dX11_readHead_46 rfl ?_
      refine tt_getF C hok_190 jk_12 4 (by decide) jw_69cfdf3f6e (t := (2, 6, 0)) hk0 (by decide) rfl rfl hm.2.2.2.2.1 dX11_readHead_47 ?_
      refine jj_iconst (v := 2) C dX11_readHead_50 (by decide) ?_
      refine jj_aload_n C dX11_readHead_51 rfl ?_
      refine jj_lconst (v := 0) C dX11_readHead_52 (by decide) ?_
      refine jj_ldc2 (v := 9999) C dX11_readHead_53 jw_79cc7664b1 ?_
      obtain ⟨qc, gs, hqc⟩ := tt_recv (cx := []) hok_190 hk0 (by decide) rfl
      refine tt_callV (rest := [.int 2, .ref af]) C (rs_number hl D cA ak n_9 n16 n_196 n_195 (0 : Int64) (9999 : Int64) hk0 hkw hka hkt hki hkf hkp (by first | omega | decide) (by first | omega | decide) (by first | omega | decide) (by first | omega | decide) (by first | omega | decide) (by first | omega | decide) (by first | omega | decide) (by first | omega | decide) (by omega) (by omega) hok_190 hm hf_197 hf_198 hs16 hf_12) [] [] rfl rfl (by decide) (by decide) (by decide) qc hqc rfl rfl jw_adb570a667 jw_970096b033 jw_c6bab24534 jw_f96c99f44d jw_2d66378959 jn_X11_number rfl (jj_le rfl) (jj_le rfl) (jj_le rfl) (jj_le rfl) (jj_le rfl) dX11_readHead_56 rfl (fun _ _ _ hX => hX.elim) (fun rx pl_203 r O_207 => ?_)
      obtain ⟨rfl, hok_204, hr_205, ha_206, hR_208⟩ := O_207
      replace hs16 := hr_205.at hk0 (by decide) (by decide) hs16
      replace hCf := ha_206.at hkf (by decide) (by decide) hCf
      replace hm := hm.fr hr_205 hk0 rfl
      replace hfr := hfr.trans (hr_205.sub (by decide))
      replace hfa := hfa.trans (ha_206.sub (by decide))
      obtain ⟨n_209, n_210, n_211, x_212, hf_213, hf_214, hf_215, hq_216, hq_217, hq_218, hq_219, hq_220, rfl⟩ := hR_208
      have lx_212 := tt_lo x_212
      have ux_212 := tt_hi x_212
      have p1x_212 : (0 : Int64).toInt = 0 := by decide
      have p2x_212 : (9999 : Int64).toInt = 9999 := by decide
      obtain ⟨y_221, ey_221, vy_221⟩ := tt_i2l x_212
      refine jj_i2l (v := y_221) C dX11_readHead_59 ey_221 ?_
      refine rl_last C hok_204 (t := (1, (-9223372036854775808), 9223372036854775807)) hkf (by decide) rfl (k := 2) (vp_in_iff.mpr (by decide)) (tt_ja _) (by decide) dX11_readHead_60 (fun pl_222 hok_223 tr tl tw => ?_)
      replace hs16 := tr _ _ _ hs16
      replace hf_213 := tr _ _ _ hf_213
      replace hf_214 := tr _ _ _ hf_214
      replace hf_215 := tr _ _ _ hf_215
      replace hm := hm.arr tr
      replace hfr := hfr.arr tr
      replace hCf := tw _ hCf
      replace hfa := hfa.wr hkf tl (by decide)
      refine jj_aload_n C dX11_readHead_61 rfl ?_
      refine tt_getF C hok_223 jk_12 4 (by decide) jw_69cfdf3f6e (t := (2, 6, 0)) hk0 (by decide) rfl rfl hm.2.2.2.2.1 dX11_readHead_62 ?_
      refine jj_iconst (v := 3) C dX11_readHead_65 (by decide) ?_
      refine jj_aload_n C dX11_readHead_66 rfl ?_
      refine jj_lconst (v := 0) C dX11_readHead_67 (by decide) ?_
      refine jj_ldc2 (v := 50) C dX11_readHead_68 jw_5d90e8e74a ?_
      obtain ⟨qc, gs, hqc⟩ := tt_recv (cx := []) hok_223 hk0 (by decide) rfl
      refine tt_callV (rest := [.int 3, .ref af]) C (rs_number hl D cA ak n_211 n16 n_210 n_209 (0 : Int64) (50 : Int64) hk0 hkw hka hkt hki hkf hkp (by first | omega | decide) (by first | omega | decide) (by first | omega | decide) (by first | omega | decide) (by first | omega | decide) (by first | omega | decide) (by first | omega | decide) (by first | omega | decide) (by omega) (by omega) hok_223 hm hf_213 hf_214 hs16 hf_215) [] [] rfl rfl (by decide) (by decide) (by decide) qc hqc rfl rfl jw_adb570a667 jw_970096b033 jw_c6bab24534 jw_f96c99f44d jw_2d66378959 jn_X11_number rfl (jj_le rfl) (jj_le rfl) (jj_le rfl) (jj_le rfl) (jj_le rfl) dX11_readHead_71 rfl (fun _ _ _ hX => hX.elim) (fun rx pl_224 r O_228 => ?_)
      obtain ⟨rfl, hok_225, hr_226, ha_227, hR_229⟩ := O_228
      replace hs16 := hr_226.at hk0 (by decide) (by decide) hs16
      replace hCf := ha_227.at hkf (by decide) (by decide) hCf
      replace hm := hm.fr hr_226 hk0 rfl
      replace hfr := hfr.trans (hr_226.sub (by decide))
      replace hfa := hfa.trans (ha_227.sub (by decide))
      obtain ⟨n_230, n_231, n_232, x_233, hf_234, hf_235, hf_236, hq_237, hq_238, hq_239, hq_240, hq_241, rfl⟩ := hR_229
      have lx_233 := tt_lo x_233
      have ux_233 := tt_hi x_233
      have p1x_233 : (0 : Int64).toInt = 0 := by decide
      have p2x_233 : (50 : Int64).toInt = 50 := by decide
      obtain ⟨y_242, ey_242, vy_242⟩ := tt_i2l x_233
      refine jj_i2l (v := y_242) C dX11_readHead_74 ey_242 ?_
      refine rl_last C hok_225 (t := (1, (-9223372036854775808), 9223372036854775807)) hkf (by decide) rfl (k := 3) (vp_in_iff.mpr (by decide)) (tt_ja _) (by decide) dX11_readHead_75 (fun pl_243 hok_244 tr tl tw => ?_)
      replace hs16 := tr _ _ _ hs16
      replace hf_234 := tr _ _ _ hf_234
      replace hf_235 := tr _ _ _ hf_235
      replace hf_236 := tr _ _ _ hf_236
      replace hm := hm.arr tr
      replace hfr := hfr.arr tr
      replace hCf := tw _ hCf
      replace hfa := hfa.wr hkf tl (by decide)
      refine jj_aload_n C dX11_readHead_76 rfl ?_
      refine tt_getF C hok_244 jk_12 4 (by decide) jw_69cfdf3f6e (t := (2, 6, 0)) hk0 (by decide) rfl rfl hm.2.2.2.2.1 dX11_readHead_77 ?_
      refine jj_iconst (v := 4) C dX11_readHead_80 (by decide) ?_
      refine jj_aload_n C dX11_readHead_81 rfl ?_
      refine jj_lconst (v := 1) C dX11_readHead_82 (by decide) ?_
      refine jj_ldc2 (v := 100) C dX11_readHead_83 jw_0cface3231 ?_
      obtain ⟨qc, gs, hqc⟩ := tt_recv (cx := []) hok_244 hk0 (by decide) rfl
      refine tt_callV (rest := [.int 4, .ref af]) C (rs_number hl D cA ak n_232 n16 n_231 n_230 (1 : Int64) (100 : Int64) hk0 hkw hka hkt hki hkf hkp (by first | omega | decide) (by first | omega | decide) (by first | omega | decide) (by first | omega | decide) (by first | omega | decide) (by first | omega | decide) (by first | omega | decide) (by first | omega | decide) (by omega) (by omega) hok_244 hm hf_234 hf_235 hs16 hf_236) [] [] rfl rfl (by decide) (by decide) (by decide) qc hqc rfl rfl jw_adb570a667 jw_970096b033 jw_c6bab24534 jw_f96c99f44d jw_2d66378959 jn_X11_number rfl (jj_le rfl) (jj_le rfl) (jj_le rfl) (jj_le rfl) (jj_le rfl) dX11_readHead_86 rfl (fun _ _ _ hX => hX.elim) (fun rx pl_245 r O_249 => ?_)
      obtain ⟨rfl, hok_246, hr_247, ha_248, hR_250⟩ := O_249
      replace hs16 := hr_247.at hk0 (by decide) (by decide) hs16
      replace hCf := ha_248.at hkf (by decide) (by decide) hCf
      replace hm := hm.fr hr_247 hk0 rfl
      replace hfr := hfr.trans (hr_247.sub (by decide))
      replace hfa := hfa.trans (ha_248.sub (by decide))
      obtain ⟨n_251, n_252, n_253, x_254, hf_255, hf_256, hf_257, hq_258, hq_259, hq_260, hq_261, hq_262, rfl⟩ := hR_250
      have lx_254 := tt_lo x_254
      have ux_254 := tt_hi x_254
      have p1x_254 : (1 : Int64).toInt = 1 := by decide
      have p2x_254 : (100 : Int64).toInt = 100 := by decide
      obtain ⟨y_263, ey_263, vy_263⟩ := tt_i2l x_254
      refine jj_i2l (v := y_263) C dX11_readHead_89 ey_263 ?_
      refine rl_last C hok_246 (t := (1, (-9223372036854775808), 9223372036854775807)) hkf (by decide) rfl (k := 4) (vp_in_iff.mpr (by decide)) (tt_ja _) (by decide) dX11_readHead_90 (fun pl_264 hok_265 tr tl tw => ?_)
      replace hs16 := tr _ _ _ hs16
      replace hf_255 := tr _ _ _ hf_255
      replace hf_256 := tr _ _ _ hf_256
      replace hf_257 := tr _ _ _ hf_257
      replace hm := hm.arr tr
      replace hfr := hfr.arr tr
      replace hCf := tw _ hCf
      replace hfa := hfa.wr hkf tl (by decide)
      refine jj_aload_n C dX11_readHead_91 rfl ?_
      refine jj_ldcsw (k := 23) (tx := ";") C dX11_readHead_92 (by decide +kernel) ?_
      obtain ⟨qc, gs, hqc⟩ := tt_recv (cx := []) hok_265 hk0 (by decide) rfl
      refine tt_callV (rest := []) C (rs_must_semi hl D cA ak n_253 n16 n_252 n_251 hk0 hkw hka hkt hki hkf hkp (by first | omega | decide) (by first | omega | decide) (by first | omega | decide) (by first | omega | decide) (by first | omega | decide) (by first | omega | decide) (by first | omega | decide) (by first | omega | decide) (by omega) (by omega) hok_265 hm hf_255 hf_256 hs16 hf_257) [] [] rfl rfl (by decide) (by decide) (by decide) qc hqc rfl rfl jw_567bcddfb2 jw_5c84fa4094 jw_52b545b3e3 jw_f96c99f44d jw_84234b4b1a jn_X11_must rfl (jj_le rfl) (jj_le rfl) (jj_le rfl) (jj_le rfl) (jj_le rfl) dX11_readHead_95 rfl (fun _ _ _ hX => hX.elim) (fun rx pl_266 r O_270 => ?_)
      obtain ⟨rfl, hok_267, hr_268, ha_269, hR_271⟩ := O_270
      replace hs16 := hr_268.at hk0 (by decide) (by decide) hs16
      replace hCf := ha_269.at hkf (by decide) (by decide) hCf
      replace hm := hm.fr hr_268 hk0 rfl
      replace hfr := hfr.trans (hr_268.sub (by decide))
      replace hfa := hfa.trans (ha_269.sub (by decide))
      obtain ⟨n_272, n_273, n_274, hf_275, hf_276, hf_277, hq_278, hq_279, hq_280, hq_281, hq_282, rfl⟩ := hR_271
      refine jj_aload_n C dX11_readHead_98 rfl ?_
      refine jj_ldcsw (k := 24) (tx := "investors") C dX11_readHead_99 (by decide +kernel) ?_
      obtain ⟨qc, gs, hqc⟩ := tt_recv (cx := []) hok_267 hk0 (by decide) rfl
      refine tt_callV (rest := []) C (rs_must_investors hl D cA ak n_274 n16 n_273 n_272 hk0 hkw hka hkt hki hkf hkp (by first | omega | decide) (by first | omega | decide) (by first | omega | decide) (by first | omega | decide) (by first | omega | decide) (by first | omega | decide) (by first | omega | decide) (by first | omega | decide) (by omega) (by omega) hok_267 hm hf_275 hf_276 hs16 hf_277) [] [] rfl rfl (by decide) (by decide) (by decide) qc hqc rfl rfl jw_567bcddfb2 jw_5c84fa4094 jw_52b545b3e3 jw_f96c99f44d jw_84234b4b1a jn_X11_must rfl (jj_le rfl) (jj_le rfl) (jj_le rfl) (jj_le rfl) (jj_le rfl) dX11_readHead_102 rfl (fun _ _ _ hX => hX.elim) (fun rx pl_283 r O_287 => ?_)
      obtain ⟨rfl, hok_284, hr_285, ha_286, hR_288⟩ := O_287
      replace hs16 := hr_285.at hk0 (by decide) (by decide) hs16
      replace hCf := ha_286.at hkf (by decide) (by decide) hCf
      replace hm := hm.fr hr_285 hk0 rfl
      replace hfr := hfr.trans (hr_285.sub (by decide))
      replace hfa := hfa.trans (ha_286.sub (by decide))
      obtain ⟨n_289, n_290, n_291, hf_292, hf_293, hf_294, hq_295, hq_296, hq_297, hq_298, hq_299, rfl⟩ := hR_288
      refine jj_aload_n C dX11_readHead_105 rfl ?_
      refine tt_getF C hok_284 jk_12 4 (by decide) jw_69cfdf3f6e (t := (2, 6, 0)) hk0 (by decide) rfl rfl hm.2.2.2.2.1 dX11_readHead_106 ?_
      refine jj_iconst (v := 0) C dX11_readHead_109 (by decide) ?_
      refine jj_aload_n C dX11_readHead_110 rfl ?_
      refine jj_lconst (v := 1) C dX11_readHead_111 (by decide) ?_
      refine jj_ldc2 (v := 6) C dX11_readHead_112 jw_f454e46fa4 ?_
      obtain ⟨qc, gs, hqc⟩ := tt_recv (cx := []) hok_284 hk0 (by decide) rfl
      refine tt_callV (rest := [.int 0, .ref af]) C (rs_number hl D cA ak n_291 n16 n_290 n_289 (1 : Int64) (6 : Int64) hk0 hkw hka hkt hki hkf hkp (by first | omega | decide) (by first | omega | decide) (by first | omega | decide) (by first | omega | decide) (by first | omega | decide) (by first | omega | decide) (by first | omega | decide) (by first | omega | decide) (by omega) (by omega) hok_284 hm hf_292 hf_293 hs16 hf_294) [] [] rfl rfl (by decide) (by decide) (by decide) qc hqc rfl rfl jw_adb570a667 jw_970096b033 jw_c6bab24534 jw_f96c99f44d jw_2d66378959 jn_X11_number rfl (jj_le rfl) (jj_le rfl) (jj_le rfl) (jj_le rfl) (jj_le rfl) dX11_readHead_115 rfl (fun _ _ _ hX => hX.elim) (fun rx pl_300 r O_304 => ?_)
      obtain ⟨rfl, hok_301, hr_302, ha_303, hR_305⟩ := O_304
      replace hs16 := hr_302.at hk0 (by decide) (by decide) hs16
      replace hCf := ha_303.at hkf (by decide) (by decide) hCf
      replace hm := hm.fr hr_302 hk0 rfl
      replace hfr := hfr.trans (hr_302.sub (by decide))
      replace hfa := hfa.trans (ha_303.sub (by decide))
      obtain ⟨n_306, n_307, n_308, x_309, hf_310, hf_311, hf_312, hq_313, hq_314, hq_315, hq_316, hq_317, rfl⟩ := hR_305
      have lx_309 := tt_lo x_309
      have ux_309 := tt_hi x_309
      have p1x_309 : (1 : Int64).toInt = 1 := by decide
      have p2x_309 : (6 : Int64).toInt = 6 := by decide
      obtain ⟨y_318, ey_318, vy_318⟩ := tt_i2l x_309
      refine jj_i2l (v := y_318) C dX11_readHead_118 ey_318 ?_
      refine rl_last C hok_301 (t := (1, (-9223372036854775808), 9223372036854775807)) hkf (by decide) rfl (k := 0) (vp_in_iff.mpr (by decide)) (tt_ja _) (by decide) dX11_readHead_119 (fun pl_319 hok_320 tr tl tw => ?_)
      replace hs16 := tr _ _ _ hs16
      replace hf_310 := tr _ _ _ hf_310
      replace hf_311 := tr _ _ _ hf_311
      replace hf_312 := tr _ _ _ hf_312
      replace hm := hm.arr tr
      replace hfr := hfr.arr tr
      replace hCf := tw _ hCf
      replace hfa := hfa.wr hkf tl (by decide)
      refine jj_aload_n C dX11_readHead_120 rfl ?_
      refine jj_ldcsw (k := 23) (tx := ";") C dX11_readHead_121 (by decide +kernel) ?_
      obtain ⟨qc, gs, hqc⟩ := tt_recv (cx := []) hok_320 hk0 (by decide) rfl
      refine tt_callV (rest := []) C (rs_must_semi hl D cA ak n_308 n16 n_307 n_306 hk0 hkw hka hkt hki hkf hkp (by first | omega | decide) (by first | omega | decide) (by first | omega | decide) (by first | omega | decide) (by first | omega | decide) (by first | omega | decide) (by first | omega | decide) (by first | omega | decide) (by omega) (by omega) hok_320 hm hf_310 hf_311 hs16 hf_312) [] [] rfl rfl (by decide) (by decide) (by decide) qc hqc rfl rfl jw_567bcddfb2 jw_5c84fa4094 jw_52b545b3e3 jw_f96c99f44d jw_84234b4b1a jn_X11_must rfl (jj_le rfl) (jj_le rfl) (jj_le rfl) (jj_le rfl) (jj_le rfl) dX11_readHead_124 rfl (fun _ _ _ hX => hX.elim) (fun rx pl_321 r O_325 => ?_)
      obtain ⟨rfl, hok_322, hr_323, ha_324, hR_326⟩ := O_325
      replace hs16 := hr_323.at hk0 (by decide) (by decide) hs16
      replace hCf := ha_324.at hkf (by decide) (by decide) hCf
      replace hm := hm.fr hr_323 hk0 rfl
      replace hfr := hfr.trans (hr_323.sub (by decide))
      replace hfa := hfa.trans (ha_324.sub (by decide))
      obtain ⟨n_327, n_328, n_329, hf_330, hf_331, hf_332, hq_333, hq_334, hq_335, hq_336, hq_337, rfl⟩ := hR_326
      exact jj_vret C ⟨[], pl_321, rfl, rfl, hok_322, hfr, hfa, ⟨_, n_327, n_328, n_329, hCf, hf_330, hf_331, hf_332, (by omega), (by omega), (by omega), (fun z9 => rl_FR.head (by rw [show (vp_updL (vp_updL (vp_updL (vp_updL f 2 y_221) 3 y_242) 4 y_263) 0 y_318) 0 = y_318 from (rl_eq rfl)]; omega) (by rw [show (vp_updL (vp_updL (vp_updL (vp_updL f 2 y_221) 3 y_242) 4 y_263) 0 y_318) 1 = f 1 from (rl_ne (by decide) (rl_ne (by decide) (rl_ne (by decide) (rl_ne (by decide) rfl))))]; have := hZ.2.2 1 (by decide) (by decide) (by decide); omega) (by rw [show (vp_updL (vp_updL (vp_updL (vp_updL f 2 y_221) 3 y_242) 4 y_263) 0 y_318) 2 = y_221 from (rl_ne (by decide) (rl_ne (by decide) (rl_ne (by decide) (rl_eq rfl))))]; omega) (by rw [show (vp_updL (vp_updL (vp_updL (vp_updL f 2 y_221) 3 y_242) 4 y_263) 0 y_318) 3 = y_242 from (rl_ne (by decide) (rl_ne (by decide) (rl_eq rfl)))]; omega) (by rw [show (vp_updL (vp_updL (vp_updL (vp_updL f 2 y_221) 3 y_242) 4 y_263) 0 y_318) 4 = y_263 from (rl_ne (by decide) (rl_eq rfl))]; omega) ⟨(by rw [show (vp_updL (vp_updL (vp_updL (vp_updL f 2 y_221) 3 y_242) 4 y_263) 0 y_318) 6 = f 6 from (rl_ne (by decide) (rl_ne (by decide) (rl_ne (by decide) (rl_ne (by decide) rfl))))]; exact hZ.2.2 6 (by decide) (by decide) (by decide)), (by rw [show (vp_updL (vp_updL (vp_updL (vp_updL f 2 y_221) 3 y_242) 4 y_263) 0 y_318) 7 = f 7 from (rl_ne (by decide) (rl_ne (by decide) (rl_ne (by decide) (rl_ne (by decide) rfl))))]; exact hZ.2.2 7 (by decide) (by decide) (by decide)), (by rw [show (vp_updL (vp_updL (vp_updL (vp_updL f 2 y_221) 3 y_242) 4 y_263) 0 y_318) 8 = f 8 from (rl_ne (by decide) (rl_ne (by decide) (rl_ne (by decide) (rl_ne (by decide) rfl))))]; exact hZ.2.2 8 (by decide) (by decide) (by decide)), (by rw [show (vp_updL (vp_updL (vp_updL (vp_updL f 2 y_221) 3 y_242) 4 y_263) 0 y_318) 9 = f 9 from (rl_ne (by decide) (rl_ne (by decide) (rl_ne (by decide) (rl_ne (by decide) rfl))))]; exact hZ.2.2 9 (by decide) (by decide) (by decide))⟩), rfl⟩⟩ dX11_readHead_127 (jj_le rfl) (jj_le rfl)
  · refine jj_if_eqF (tgt := 27) C dX11_readHead_14 (by decide) (by decide) ?_
    refine jj_aload_n C dX11_readHead_17 rfl ?_
    refine tt_getF C hok_19 jk_12 4 (by decide) jw_69cfdf3f6e (t := (2, 6, 0)) hk0 (by decide) rfl rfl hm.2.2.2.2.1 dX11_readHead_18 ?_
    refine jj_iconst (v := 1) C dX11_readHead_21 (by decide) ?_
    refine jj_lconst (v := 1) C dX11_readHead_22 (by decide) ?_
    refine rl_last C hok_19 (t := (1, (-9223372036854775808), 9223372036854775807)) hkf (by decide) rfl (k := 1) (vp_in_iff.mpr (by decide)) (tt_ja _) (by decide) dX11_readHead_23 (fun pl_338 hok_339 tr tl tw => ?_)
    replace hs16 := tr _ _ _ hs16
    replace hf_10 := tr _ _ _ hf_10
    replace hf_11 := tr _ _ _ hf_11
    replace hf_12 := tr _ _ _ hf_12
    replace hm := hm.arr tr
    replace hfr := hfr.arr tr
    replace hCf := tw _ hCf
    replace hfa := hfa.wr hkf tl (by decide)
    refine jj_goto (tgt := 42) C dX11_readHead_24 (by decide) ?_
    refine jj_aload_n C dX11_readHead_42 rfl ?_
    obtain ⟨qc, gs, hqc⟩ := tt_recv (cx := []) hok_339 hk0 (by decide) rfl
    refine tt_callV (rest := []) C (rs_pass hl D cA ak n_9 n16 n_8 n_7 hk0 hkw hka hkt hki hkf hkp (by first | omega | decide) (by first | omega | decide) (by first | omega | decide) (by first | omega | decide) (by first | omega | decide) (by first | omega | decide) (by first | omega | decide) (by first | omega | decide) (by omega) (by omega) hok_339 hm hf_10 hf_11 hs16 hf_12) [] [] rfl rfl (by decide) (by decide) (by decide) qc hqc rfl rfl jw_b8e803331f jw_409849e3da jw_7cfaf31817 jw_f96c99f44d jw_3d0e41f30f jn_X11_pass rfl (jj_le rfl) (jj_le rfl) (jj_le rfl) (jj_le rfl) (jj_le rfl) dX11_readHead_43 rfl (fun _ _ _ hX => hX.elim) (fun rx pl_340 r O_344 => ?_)
    obtain ⟨rfl, hok_341, hr_342, ha_343, hR_345⟩ := O_344
    replace hs16 := hr_342.at hk0 (by decide) (by decide) hs16
    replace hf_12 := hr_342.at hk0 (by decide) (by decide) hf_12
    replace hCf := ha_343.at hkf (by decide) (by decide) hCf
    replace hm := hm.fr hr_342 hk0 rfl
    replace hfr := hfr.trans (hr_342.sub (by decide))
    replace hfa := hfa.trans (ha_343.sub (by decide))
    obtain ⟨n_346, n_347, hf_348, hf_349, hq_350, hq_351, hq_352, hq_353, rfl⟩ := hR_345
    refine jj_aload_n C dX11_readHead_46 rfl ?_
    refine tt_getF C hok_341 jk_12 4 (by decide) jw_69cfdf3f6e (t := (2, 6, 0)) hk0 (by decide) rfl rfl hm.2.2.2.2.1 dX11_readHead_47 ?_
    refine jj_iconst (v := 2) C dX11_readHead_50 (by decide) ?_
    refine jj_aload_n C dX11_readHead_51 rfl ?_
    refine jj_lconst (v := 0) C dX11_readHead_52 (by decide) ?_
    refine jj_ldc2 (v := 9999) C dX11_readHead_53 jw_79cc7664b1 ?_
    obtain ⟨qc, gs, hqc⟩ := tt_recv (cx := []) hok_341 hk0 (by decide) rfl
    refine tt_callV (rest := [.int 2, .ref af]) C (rs_number hl D cA ak n_9 n16 n_347 n_346 (0 : Int64) (9999 : Int64) hk0 hkw hka hkt hki hkf hkp (by first | omega | decide) (by first | omega | decide) (by first | omega | decide) (by first | omega | decide) (by first | omega | decide) (by first | omega | decide) (by first | omega | decide) (by first | omega | decide) (by omega) (by omega) hok_341 hm hf_348 hf_349 hs16 hf_12) [] [] rfl rfl (by decide) (by decide) (by decide) qc hqc rfl rfl jw_adb570a667 jw_970096b033 jw_c6bab24534 jw_f96c99f44d jw_2d66378959 jn_X11_number rfl (jj_le rfl) (jj_le rfl) (jj_le rfl) (jj_le rfl) (jj_le rfl) dX11_readHead_56 rfl (fun _ _ _ hX => hX.elim) (fun rx pl_354 r O_358 => ?_)
    obtain ⟨rfl, hok_355, hr_356, ha_357, hR_359⟩ := O_358
    replace hs16 := hr_356.at hk0 (by decide) (by decide) hs16
    replace hCf := ha_357.at hkf (by decide) (by decide) hCf
    replace hm := hm.fr hr_356 hk0 rfl
    replace hfr := hfr.trans (hr_356.sub (by decide))
    replace hfa := hfa.trans (ha_357.sub (by decide))
    obtain ⟨n_360, n_361, n_362, x_363, hf_364, hf_365, hf_366, hq_367, hq_368, hq_369, hq_370, hq_371, rfl⟩ := hR_359
    have lx_363 := tt_lo x_363
    have ux_363 := tt_hi x_363
    have p1x_363 : (0 : Int64).toInt = 0 := by decide
    have p2x_363 : (9999 : Int64).toInt = 9999 := by decide
    obtain ⟨y_372, ey_372, vy_372⟩ := tt_i2l x_363
    refine jj_i2l (v := y_372) C dX11_readHead_59 ey_372 ?_
    refine rl_last C hok_355 (t := (1, (-9223372036854775808), 9223372036854775807)) hkf (by decide) rfl (k := 2) (vp_in_iff.mpr (by decide)) (tt_ja _) (by decide) dX11_readHead_60 (fun pl_373 hok_374 tr tl tw => ?_)
    replace hs16 := tr _ _ _ hs16
    replace hf_364 := tr _ _ _ hf_364
    replace hf_365 := tr _ _ _ hf_365
    replace hf_366 := tr _ _ _ hf_366
    replace hm := hm.arr tr
    replace hfr := hfr.arr tr
    replace hCf := tw _ hCf
    replace hfa := hfa.wr hkf tl (by decide)
    refine jj_aload_n C dX11_readHead_61 rfl ?_
    refine tt_getF C hok_374 jk_12 4 (by decide) jw_69cfdf3f6e (t := (2, 6, 0)) hk0 (by decide) rfl rfl hm.2.2.2.2.1 dX11_readHead_62 ?_
    refine jj_iconst (v := 3) C dX11_readHead_65 (by decide) ?_
    refine jj_aload_n C dX11_readHead_66 rfl ?_
    refine jj_lconst (v := 0) C dX11_readHead_67 (by decide) ?_
    refine jj_ldc2 (v := 50) C dX11_readHead_68 jw_5d90e8e74a ?_
    obtain ⟨qc, gs, hqc⟩ := tt_recv (cx := []) hok_374 hk0 (by decide) rfl
    refine tt_callV (rest := [.int 3, .ref af]) C (rs_number hl D cA ak n_362 n16 n_361 n_360 (0 : Int64) (50 : Int64) hk0 hkw hka hkt hki hkf hkp (by first | omega | decide) (by first | omega | decide) (by first | omega | decide) (by first | omega | decide) (by first | omega | decide) (by first | omega | decide) (by first | omega | decide) (by first | omega | decide) (by omega) (by omega) hok_374 hm hf_364 hf_365 hs16 hf_366) [] [] rfl rfl (by decide) (by decide) (by decide) qc hqc rfl rfl jw_adb570a667 jw_970096b033 jw_c6bab24534 jw_f96c99f44d jw_2d66378959 jn_X11_number rfl (jj_le rfl) (jj_le rfl) (jj_le rfl) (jj_le rfl) (jj_le rfl) dX11_readHead_71 rfl (fun _ _ _ hX => hX.elim) (fun rx pl_375 r O_379 => ?_)
    obtain ⟨rfl, hok_376, hr_377, ha_378, hR_380⟩ := O_379
    replace hs16 := hr_377.at hk0 (by decide) (by decide) hs16
    replace hCf := ha_378.at hkf (by decide) (by decide) hCf
    replace hm := hm.fr hr_377 hk0 rfl
    replace hfr := hfr.trans (hr_377.sub (by decide))
    replace hfa := hfa.trans (ha_378.sub (by decide))
    obtain ⟨n_381, n_382, n_383, x_384, hf_385, hf_386, hf_387, hq_388, hq_389, hq_390, hq_391, hq_392, rfl⟩ := hR_380
    have lx_384 := tt_lo x_384
    have ux_384 := tt_hi x_384
    have p1x_384 : (0 : Int64).toInt = 0 := by decide
    have p2x_384 : (50 : Int64).toInt = 50 := by decide
    obtain ⟨y_393, ey_393, vy_393⟩ := tt_i2l x_384
    refine jj_i2l (v := y_393) C dX11_readHead_74 ey_393 ?_
    refine rl_last C hok_376 (t := (1, (-9223372036854775808), 9223372036854775807)) hkf (by decide) rfl (k := 3) (vp_in_iff.mpr (by decide)) (tt_ja _) (by decide) dX11_readHead_75 (fun pl_394 hok_395 tr tl tw => ?_)
    replace hs16 := tr _ _ _ hs16
    replace hf_385 := tr _ _ _ hf_385
    replace hf_386 := tr _ _ _ hf_386
    replace hf_387 := tr _ _ _ hf_387
    replace hm := hm.arr tr
    replace hfr := hfr.arr tr
    replace hCf := tw _ hCf
    replace hfa := hfa.wr hkf tl (by decide)
    refine jj_aload_n C dX11_readHead_76 rfl ?_
    refine tt_getF C hok_395 jk_12 4 (by decide) jw_69cfdf3f6e (t := (2, 6, 0)) hk0 (by decide) rfl rfl hm.2.2.2.2.1 dX11_readHead_77 ?_
    refine jj_iconst (v := 4) C dX11_readHead_80 (by decide) ?_
    refine jj_aload_n C dX11_readHead_81 rfl ?_
    refine jj_lconst (v := 1) C dX11_readHead_82 (by decide) ?_
    refine jj_ldc2 (v := 100) C dX11_readHead_83 jw_0cface3231 ?_
    obtain ⟨qc, gs, hqc⟩ := tt_recv (cx := []) hok_395 hk0 (by decide) rfl
    refine tt_callV (rest := [.int 4, .ref af]) C (rs_number hl D cA ak n_383 n16 n_382 n_381 (1 : Int64) (100 : Int64) hk0 hkw hka hkt hki hkf hkp (by first | omega | decide) (by first | omega | decide) (by first | omega | decide) (by first | omega | decide) (by first | omega | decide) (by first | omega | decide) (by first | omega | decide) (by first | omega | decide) (by omega) (by omega) hok_395 hm hf_385 hf_386 hs16 hf_387) [] [] rfl rfl (by decide) (by decide) (by decide) qc hqc rfl rfl jw_adb570a667 jw_970096b033 jw_c6bab24534 jw_f96c99f44d jw_2d66378959 jn_X11_number rfl (jj_le rfl) (jj_le rfl) (jj_le rfl) (jj_le rfl) (jj_le rfl) dX11_readHead_86 rfl (fun _ _ _ hX => hX.elim) (fun rx pl_396 r O_400 => ?_)
    obtain ⟨rfl, hok_397, hr_398, ha_399, hR_401⟩ := O_400
    replace hs16 := hr_398.at hk0 (by decide) (by decide) hs16
    replace hCf := ha_399.at hkf (by decide) (by decide) hCf
    replace hm := hm.fr hr_398 hk0 rfl
    replace hfr := hfr.trans (hr_398.sub (by decide))
    replace hfa := hfa.trans (ha_399.sub (by decide))
    obtain ⟨n_402, n_403, n_404, x_405, hf_406, hf_407, hf_408, hq_409, hq_410, hq_411, hq_412, hq_413, rfl⟩ := hR_401
    have lx_405 := tt_lo x_405
    have ux_405 := tt_hi x_405
    have p1x_405 : (1 : Int64).toInt = 1 := by decide
    have p2x_405 : (100 : Int64).toInt = 100 := by decide
    obtain ⟨y_414, ey_414, vy_414⟩ := tt_i2l x_405
    refine jj_i2l (v := y_414) C dX11_readHead_89 ey_414 ?_
    refine rl_last C hok_397 (t := (1, (-9223372036854775808), 9223372036854775807)) hkf (by decide) rfl (k := 4) (vp_in_iff.mpr (by decide)) (tt_ja _) (by decide) dX11_readHead_90 (fun pl_415 hok_416 tr tl tw => ?_)
    replace hs16 := tr _ _ _ hs16
    replace hf_406 := tr _ _ _ hf_406
    replace hf_407 := tr _ _ _ hf_407
    replace hf_408 := tr _ _ _ hf_408
    replace hm := hm.arr tr
    replace hfr := hfr.arr tr
    replace hCf := tw _ hCf
    replace hfa := hfa.wr hkf tl (by decide)
    refine jj_aload_n C dX11_readHead_91 rfl ?_
    refine jj_ldcsw (k := 23) (tx := ";") C dX11_readHead_92 (by decide +kernel) ?_
    obtain ⟨qc, gs, hqc⟩ := tt_recv (cx := []) hok_416 hk0 (by decide) rfl
    refine tt_callV (rest := []) C (rs_must_semi hl D cA ak n_404 n16 n_403 n_402 hk0 hkw hka hkt hki hkf hkp (by first | omega | decide) (by first | omega | decide) (by first | omega | decide) (by first | omega | decide) (by first | omega | decide) (by first | omega | decide) (by first | omega | decide) (by first | omega | decide) (by omega) (by omega) hok_416 hm hf_406 hf_407 hs16 hf_408) [] [] rfl rfl (by decide) (by decide) (by decide) qc hqc rfl rfl jw_567bcddfb2 jw_5c84fa4094 jw_52b545b3e3 jw_f96c99f44d jw_84234b4b1a jn_X11_must rfl (jj_le rfl) (jj_le rfl) (jj_le rfl) (jj_le rfl) (jj_le rfl) dX11_readHead_95 rfl (fun _ _ _ hX => hX.elim) (fun rx pl_417 r O_421 => ?_)
    obtain ⟨rfl, hok_418, hr_419, ha_420, hR_422⟩ := O_421
    replace hs16 := hr_419.at hk0 (by decide) (by decide) hs16
    replace hCf := ha_420.at hkf (by decide) (by decide) hCf
    replace hm := hm.fr hr_419 hk0 rfl
    replace hfr := hfr.trans (hr_419.sub (by decide))
    replace hfa := hfa.trans (ha_420.sub (by decide))
    obtain ⟨n_423, n_424, n_425, hf_426, hf_427, hf_428, hq_429, hq_430, hq_431, hq_432, hq_433, rfl⟩ := hR_422
    refine jj_aload_n C dX11_readHead_98 rfl ?_
    refine jj_ldcsw (k := 24) (tx := "investors") C dX11_readHead_99 (by decide +kernel) ?_
    obtain ⟨qc, gs, hqc⟩ := tt_recv (cx := []) hok_418 hk0 (by decide) rfl
    refine tt_callV (rest := []) C (rs_must_investors hl D cA ak n_425 n16 n_424 n_423 hk0 hkw hka hkt hki hkf hkp (by first | omega | decide) (by first | omega | decide) (by first | omega | decide) (by first | omega | decide) (by first | omega | decide) (by first | omega | decide) (by first | omega | decide) (by first | omega | decide) (by omega) (by omega) hok_418 hm hf_426 hf_427 hs16 hf_428) [] [] rfl rfl (by decide) (by decide) (by decide) qc hqc rfl rfl jw_567bcddfb2 jw_5c84fa4094 jw_52b545b3e3 jw_f96c99f44d jw_84234b4b1a jn_X11_must rfl (jj_le rfl) (jj_le rfl) (jj_le rfl) (jj_le rfl) (jj_le rfl) dX11_readHead_102 rfl (fun _ _ _ hX => hX.elim) (fun rx pl_434 r O_438 => ?_)
    obtain ⟨rfl, hok_435, hr_436, ha_437, hR_439⟩ := O_438
    replace hs16 := hr_436.at hk0 (by decide) (by decide) hs16
    replace hCf := ha_437.at hkf (by decide) (by decide) hCf
    replace hm := hm.fr hr_436 hk0 rfl
    replace hfr := hfr.trans (hr_436.sub (by decide))
    replace hfa := hfa.trans (ha_437.sub (by decide))
    obtain ⟨n_440, n_441, n_442, hf_443, hf_444, hf_445, hq_446, hq_447, hq_448, hq_449, hq_450, rfl⟩ := hR_439
    refine jj_aload_n C dX11_readHead_105 rfl ?_
    refine tt_getF C hok_435 jk_12 4 (by decide) jw_69cfdf3f6e (t := (2, 6, 0)) hk0 (by decide) rfl rfl hm.2.2.2.2.1 dX11_readHead_106 ?_
    refine jj_iconst (v := 0) C dX11_readHead_109 (by decide) ?_
    refine jj_aload_n C dX11_readHead_110 rfl ?_
    refine jj_lconst (v := 1) C dX11_readHead_111 (by decide) ?_
    refine jj_ldc2 (v := 6) C dX11_readHead_112 jw_f454e46fa4 ?_
    obtain ⟨qc, gs, hqc⟩ := tt_recv (cx := []) hok_435 hk0 (by decide) rfl
    refine tt_callV (rest := [.int 0, .ref af]) C (rs_number hl D cA ak n_442 n16 n_441 n_440 (1 : Int64) (6 : Int64) hk0 hkw hka hkt hki hkf hkp (by first | omega | decide) (by first | omega | decide) (by first | omega | decide) (by first | omega | decide) (by first | omega | decide) (by first | omega | decide) (by first | omega | decide) (by first | omega | decide) (by omega) (by omega) hok_435 hm hf_443 hf_444 hs16 hf_445) [] [] rfl rfl (by decide) (by decide) (by decide) qc hqc rfl rfl jw_adb570a667 jw_970096b033 jw_c6bab24534 jw_f96c99f44d jw_2d66378959 jn_X11_number rfl (jj_le rfl) (jj_le rfl) (jj_le rfl) (jj_le rfl) (jj_le rfl) dX11_readHead_115 rfl (fun _ _ _ hX => hX.elim) (fun rx pl_451 r O_455 => ?_)
    obtain ⟨rfl, hok_452, hr_453, ha_454, hR_456⟩ := O_455
    replace hs16 := hr_453.at hk0 (by decide) (by decide) hs16
    replace hCf := ha_454.at hkf (by decide) (by decide) hCf
    replace hm := hm.fr hr_453 hk0 rfl
    replace hfr := hfr.trans (hr_453.sub (by decide))
    replace hfa := hfa.trans (ha_454.sub (by decide))
    obtain ⟨n_457, n_458, n_459, x_460, hf_461, hf_462, hf_463, hq_464, hq_465, hq_466, hq_467, hq_468, rfl⟩ := hR_456
    have lx_460 := tt_lo x_460
    have ux_460 := tt_hi x_460
    have p1x_460 : (1 : Int64).toInt = 1 := by decide
    have p2x_460 : (6 : Int64).toInt = 6 := by decide
    obtain ⟨y_469, ey_469, vy_469⟩ := tt_i2l x_460
    refine jj_i2l (v := y_469) C dX11_readHead_118 ey_469 ?_
    refine rl_last C hok_452 (t := (1, (-9223372036854775808), 9223372036854775807)) hkf (by decide) rfl (k := 0) (vp_in_iff.mpr (by decide)) (tt_ja _) (by decide) dX11_readHead_119 (fun pl_470 hok_471 tr tl tw => ?_)
    replace hs16 := tr _ _ _ hs16
    replace hf_461 := tr _ _ _ hf_461
    replace hf_462 := tr _ _ _ hf_462
    replace hf_463 := tr _ _ _ hf_463
    replace hm := hm.arr tr
    replace hfr := hfr.arr tr
    replace hCf := tw _ hCf
    replace hfa := hfa.wr hkf tl (by decide)
    refine jj_aload_n C dX11_readHead_120 rfl ?_
    refine jj_ldcsw (k := 23) (tx := ";") C dX11_readHead_121 (by decide +kernel) ?_
    obtain ⟨qc, gs, hqc⟩ := tt_recv (cx := []) hok_471 hk0 (by decide) rfl
    refine tt_callV (rest := []) C (rs_must_semi hl D cA ak n_459 n16 n_458 n_457 hk0 hkw hka hkt hki hkf hkp (by first | omega | decide) (by first | omega | decide) (by first | omega | decide) (by first | omega | decide) (by first | omega | decide) (by first | omega | decide) (by first | omega | decide) (by first | omega | decide) (by omega) (by omega) hok_471 hm hf_461 hf_462 hs16 hf_463) [] [] rfl rfl (by decide) (by decide) (by decide) qc hqc rfl rfl jw_567bcddfb2 jw_5c84fa4094 jw_52b545b3e3 jw_f96c99f44d jw_84234b4b1a jn_X11_must rfl (jj_le rfl) (jj_le rfl) (jj_le rfl) (jj_le rfl) (jj_le rfl) dX11_readHead_124 rfl (fun _ _ _ hX => hX.elim) (fun rx pl_472 r O_476 => ?_)
    obtain ⟨rfl, hok_473, hr_474, ha_475, hR_477⟩ := O_476
    replace hs16 := hr_474.at hk0 (by decide) (by decide) hs16
    replace hCf := ha_475.at hkf (by decide) (by decide) hCf
    replace hm := hm.fr hr_474 hk0 rfl
    replace hfr := hfr.trans (hr_474.sub (by decide))
    replace hfa := hfa.trans (ha_475.sub (by decide))
    obtain ⟨n_478, n_479, n_480, hf_481, hf_482, hf_483, hq_484, hq_485, hq_486, hq_487, hq_488, rfl⟩ := hR_477
    exact jj_vret C ⟨[], pl_472, rfl, rfl, hok_473, hfr, hfa, ⟨_, n_478, n_479, n_480, hCf, hf_481, hf_482, hf_483, (by omega), (by omega), (by omega), (fun z9 => rl_FR.head (by rw [show (vp_updL (vp_updL (vp_updL (vp_updL (vp_updL f 1 (1 : Int64)) 2 y_372) 3 y_393) 4 y_414) 0 y_469) 0 = y_469 from (rl_eq rfl)]; omega) (by rw [show (vp_updL (vp_updL (vp_updL (vp_updL (vp_updL f 1 (1 : Int64)) 2 y_372) 3 y_393) 4 y_414) 0 y_469) 1 = (1 : Int64) from (rl_ne (by decide) (rl_ne (by decide) (rl_ne (by decide) (rl_ne (by decide) (rl_eq rfl)))))]; decide) (by rw [show (vp_updL (vp_updL (vp_updL (vp_updL (vp_updL f 1 (1 : Int64)) 2 y_372) 3 y_393) 4 y_414) 0 y_469) 2 = y_372 from (rl_ne (by decide) (rl_ne (by decide) (rl_ne (by decide) (rl_eq rfl))))]; omega) (by rw [show (vp_updL (vp_updL (vp_updL (vp_updL (vp_updL f 1 (1 : Int64)) 2 y_372) 3 y_393) 4 y_414) 0 y_469) 3 = y_393 from (rl_ne (by decide) (rl_ne (by decide) (rl_eq rfl)))]; omega) (by rw [show (vp_updL (vp_updL (vp_updL (vp_updL (vp_updL f 1 (1 : Int64)) 2 y_372) 3 y_393) 4 y_414) 0 y_469) 4 = y_414 from (rl_ne (by decide) (rl_eq rfl))]; omega) ⟨(by rw [show (vp_updL (vp_updL (vp_updL (vp_updL (vp_updL f 1 (1 : Int64)) 2 y_372) 3 y_393) 4 y_414) 0 y_469) 6 = f 6 from (rl_ne (by decide) (rl_ne (by decide) (rl_ne (by decide) (rl_ne (by decide) (rl_ne (by decide) rfl)))))]; exact hZ.2.2 6 (by decide) (by decide) (by decide)), (by rw [show (vp_updL (vp_updL (vp_updL (vp_updL (vp_updL f 1 (1 : Int64)) 2 y_372) 3 y_393) 4 y_414) 0 y_469) 7 = f 7 from (rl_ne (by decide) (rl_ne (by decide) (rl_ne (by decide) (rl_ne (by decide) (rl_ne (by decide) rfl)))))]; exact hZ.2.2 7 (by decide) (by decide) (by decide)), (by rw [show (vp_updL (vp_updL (vp_updL (vp_updL (vp_updL f 1 (1 : Int64)) 2 y_372) 3 y_393) 4 y_414) 0 y_469) 8 = f 8 from (rl_ne (by decide) (rl_ne (by decide) (rl_ne (by decide) (rl_ne (by decide) (rl_ne (by decide) rfl)))))]; exact hZ.2.2 8 (by decide) (by decide) (by decide)), (by rw [show (vp_updL (vp_updL (vp_updL (vp_updL (vp_updL f 1 (1 : Int64)) 2 y_372) 3 y_393) 4 y_414) 0 y_469) 9 = f 9 from (rl_ne (by decide) (rl_ne (by decide) (rl_ne (by decide) (rl_ne (by decide) (rl_ne (by decide) rfl)))))]; exact hZ.2.2 9 (by decide) (by decide) (by decide))⟩), rfl⟩⟩ dX11_readHead_127 (jj_le rfl) (jj_le rfl)

set_option maxHeartbeats 4000000 in
set_option maxRecDepth 100000 in
theorem rs_readSubscription {l : Launch} (hl : l.stackTraces = false) (D : va_G) (cA : Nat → ClassId) (ak : (Nat → Nat) × (Nat → Nat)) {Kd : Nat → Nat} {h0 aw aa at0 ai af ap : Nat} (n17 : Nat) (n16 : Nat) (n15 : Nat) (n14 : Nat) (f : Nat → Int64) (hk0 : Kd h0 = 1) (hkw : Kd aw = 2) (hka : Kd aa = 3) (hkt : Kd at0 = 4) (hki : Kd ai = 5) (hkf : Kd af = 6) (hkp : Kd ap = 7) (ln17 : (0 : Int) ≤ (n17 : Int)) (un17 : (n17 : Int) ≤ 3) (ln16 : (0 : Int) ≤ (n16 : Int)) (un16 : (n16 : Int) ≤ 400) (ln15 : (0 : Int) ≤ (n15 : Int)) (un15 : (n15 : Int) ≤ 400) (ln14 : (0 : Int) ≤ (n14 : Int)) (un14 : (n14 : Int) ≤ 400) (h45 : n14 ≤ n15) (h56 : n15 ≤ n16) (h7 : n17 = 0) (hF : rl_FR f) {pl0 : va_W} (hok : tt_ok rt_tk cA Kd pl0) (hm : rl_m pl0 h0 aw aa at0 ai af ap) (hCf : tt_lc pl0 af f) (hs14 : tt_at pl0 h0 14 (.int (nI n14))) (hs15 : tt_at pl0 h0 15 (.int (nI n15))) (hs16 : tt_at pl0 h0 16 (.int (nI n16))) (hs17 : tt_at pl0 h0 17 (.int (nI n17))) : jj_M l D cA ak yX11_readSubscription (.code yX11_readSubscription cX11_readSubscription 3 none) 6 129 0 0 ([] ++ pl0) [.ref h0] (tt_O (fun rx pl1 r => rx = [] ∧ tt_ok rt_tk cA Kd pl1 ∧ tt_fr Kd [(1, 14), (1, 15), (1, 17), (1, 18)] pl0 pl1 ∧ tt_fa Kd [6] pl0 pl1 ∧ ((∃ (g : Nat → Int64) (a b m : Nat), tt_lc pl1 af g ∧ tt_at pl1 h0 14 (.int (nI a)) ∧ tt_at pl1 h0 15 (.int (nI b)) ∧ tt_at pl1 h0 17 (.int (nI m)) ∧ n14 ≤ a ∧ a ≤ b ∧ b ≤ n16 ∧ m ≤ 3 ∧ (m = 0 → n14 + 1 ≤ a) ∧ (m = 0 → rl_FR g) ∧ r = none)))) (tt_OX (fun _ _ _ => False)) := by
  refine jj_start hl (by decide) jw_da8ec0ee3d (jj_le rfl) ?_
  intro p e s m args below meth c A hargs hA C hex hmn
  have hfr := tt_fr.refl (K := Kd) (WS := [(1, 14), (1, 15), (1, 17), (1, 18)]) pl0
  have hfa := tt_fa.refl (K := Kd) (WA := [6]) pl0
  have hH := hF.1.1.1
  obtain ⟨⟨g0a, g0b⟩, ⟨g1a, g1b⟩, ⟨g6a, g6b⟩, ⟨g7a, g7b⟩, ⟨g8a, g8b⟩⟩ := hH
  refine jj_aload_n C dX11_readSubscription_0 rfl ?_
  refine jj_ldcsw (k := 25) (tx := "subscribe") C dX11_readSubscription_1 (by decide +kernel) ?_
  obtain ⟨qc, gs, hqc⟩ := tt_recv (cx := []) hok hk0 (by decide) rfl
  refine tt_callV (rest := []) C (rs_isWord_subscribe hl D cA ak n16 n15 n14 hk0 hkw hka hkt hki hkf hkp (by first | omega | decide) (by first | omega | decide) (by first | omega | decide) (by first | omega | decide) (by first | omega | decide) (by first | omega | decide) (by omega) (by omega) hok hm hs14 hs15 hs16) [] [] rfl rfl (by decide) (by decide) (by decide) qc hqc rfl rfl jw_04296bb1c5 jw_2d2d3dccfc jw_f04e1767ef jw_f96c99f44d jw_f54d9c537b jn_X11_isWord rfl (jj_le rfl) (jj_le rfl) (jj_le rfl) (jj_le rfl) (jj_le rfl) dX11_readSubscription_4 rfl (fun _ _ _ hX => hX.elim) (fun rx pl_1 r O_5 => ?_)
  obtain ⟨rfl, hok_2, hr_3, ha_4, hR_6⟩ := O_5
  replace hs14 := hr_3.at hk0 (by decide) (by decide) hs14
  replace hs15 := hr_3.at hk0 (by decide) (by decide) hs15
  replace hs16 := hr_3.at hk0 (by decide) (by decide) hs16
  replace hs17 := hr_3.at hk0 (by decide) (by decide) hs17
  replace hCf := ha_4.at hkf (by decide) (by decide) hCf
  replace hm := hm.fr hr_3 hk0 rfl
  replace hfr := hfr.trans (hr_3.sub (by decide))
  replace hfa := hfa.trans (ha_4.sub (by decide))
  rcases hR_6 with rfl | ⟨hw_7, rfl⟩
  · refine jj_if_neF (tgt := 15) C dX11_readSubscription_7 (by decide) (by decide) ?_
    refine jj_aload_n C dX11_readSubscription_10 rfl ?_
    refine jj_iconst (v := 1) C dX11_readSubscription_11 (by decide) ?_
    obtain ⟨qc, gs, hqc⟩ := tt_recv (cx := []) hok_2 hk0 (by decide) rfl
    refine tt_callV (rest := []) C (rs_wrong_1 hl D cA ak n17 hk0 hkw hka hkt hki hkf hkp (by first | omega | decide) (by first | omega | decide) hok_2 hm hs17) [] [] rfl rfl (by decide) (by decide) (by decide) qc hqc rfl rfl jw_e206642f3f jw_6f17e07a53 jw_400f18f3e9 jw_f96c99f44d jw_6b1a6dabbc jn_X11_wrong rfl (jj_le rfl) (jj_le rfl) (jj_le rfl) (jj_le rfl) (jj_le rfl) dX11_readSubscription_12 rfl (fun _ _ _ hX => hX.elim) (fun rx pl_8 r O_12 => ?_)
    obtain ⟨rfl, hok_9, hr_10, ha_11, hR_13⟩ := O_12
    replace hs14 := hr_10.at hk0 (by decide) (by decide) hs14
    replace hs15 := hr_10.at hk0 (by decide) (by decide) hs15
    replace hs16 := hr_10.at hk0 (by decide) (by decide) hs16
    replace hCf := ha_11.at hkf (by decide) (by decide) hCf
    replace hm := hm.fr hr_10 hk0 rfl
    replace hfr := hfr.trans (hr_10.sub (by decide))
    replace hfa := hfa.trans (ha_11.sub (by decide))
    obtain ⟨n_14, hf_15, ln_14, un_14, rfl⟩ := hR_13
    refine jj_aload_n C dX11_readSubscription_15 rfl ?_
    refine tt_getF C hok_9 jk_12 4 (by decide) jw_69cfdf3f6e (t := (2, 6, 0)) hk0 (by decide) rfl rfl hm.2.2.2.2.1 dX11_readSubscription_16 ?_
    refine jj_bipush (v := 8) C dX11_readSubscription_19 (by decide) ?_
    refine rl_lald C hok_9 (t := (1, (-9223372036854775808), 9223372036854775807)) hkf (by decide) rfl (k := 8) (v := (f 8)) (vp_in_iff.mpr (by decide)) hCf (by decide) rfl dX11_readSubscription_21 ?_
    refine jj_ldc2 (v := 12) C dX11_readSubscription_22 jw_f3ff61ad3e ?_
    refine jj_lcmp_ne (tgt := 34) C dX11_readSubscription_25 dX11_readSubscription_26 (by decide) (fun c_16 => ?_) (fun c_16 => ?_)
    · have z_c_16 := jc_neqL (a := (f 8).toInt) (b := 12) c_16 rfl (by decide)
      refine jj_aload_n C dX11_readSubscription_34 rfl ?_
      obtain ⟨qc, gs, hqc⟩ := tt_recv (cx := []) hok_9 hk0 (by decide) rfl
      refine tt_callV (rest := []) C (rs_pass hl D cA ak n_14 n16 n15 n14 hk0 hkw hka hkt hki hkf hkp (by first | omega | decide) (by first | omega | decide) (by first | omega | decide) (by first | omega | decide) (by first | omega | decide) (by first | omega | decide) (by first | omega | decide) (by first | omega | decide) (by omega) (by omega) hok_9 hm hs14 hs15 hs16 hf_15) [] [] rfl rfl (by decide) (by decide) (by decide) qc hqc rfl rfl jw_b8e803331f jw_409849e3da jw_7cfaf31817 jw_f96c99f44d jw_3d0e41f30f jn_X11_pass rfl (jj_le rfl) (jj_le rfl) (jj_le rfl) (jj_le rfl) (jj_le rfl) dX11_readSubscription_35 rfl (fun _ _ _ hX => hX.elim) (fun rx pl_17 r O_21 => ?_)
      obtain ⟨rfl, hok_18, hr_19, ha_20, hR_22⟩ := O_21
      replace hs16 := hr_19.at hk0 (by decide) (by decide) hs16
      replace hf_15 := hr_19.at hk0 (by decide) (by decide) hf_15
      replace hCf := ha_20.at hkf (by decide) (by decide) hCf
      replace hm := hm.fr hr_19 hk0 rfl
      replace hfr := hfr.trans (hr_19.sub (by decide))
      replace hfa := hfa.trans (ha_20.sub (by decide))
      obtain ⟨n_23, n_24, hf_25, hf_26, hq_27, hq_28, hq_29, hq_30, rfl⟩ := hR_22
      refine jj_aload_n C dX11_readSubscription_38 rfl ?_
      refine jj_lconst (v := 0) C dX11_readSubscription_39 (by decide) ?_
      refine jj_aload_n C dX11_readSubscription_40 rfl ?_
      refine tt_getF C hok_18 jk_12 4 (by decide) jw_69cfdf3f6e (t := (2, 6, 0)) hk0 (by decide) rfl rfl hm.2.2.2.2.1 dX11_readSubscription_41 ?_
      refine jj_iconst (v := 0) C dX11_readSubscription_44 (by decide) ?_
      refine rl_lald C hok_18 (t := (1, (-9223372036854775808), 9223372036854775807)) hkf (by decide) rfl (k := 0) (v := (f 0)) (vp_in_iff.mpr (by decide)) hCf (by decide) rfl dX11_readSubscription_45 ?_
      refine jj_lconst (v := 1) C dX11_readSubscription_46 (by decide) ?_
      refine jj_lsub C dX11_readSubscription_47 rfl ?_
      obtain ⟨qc, gs, hqc⟩ := tt_recv (cx := []) hok_18 hk0 (by decide) rfl
      refine tt_callV (rest := []) C (rs_number hl D cA ak n_14 n16 n_24 n_23 (0 : Int64) ((f 0) - (1 : Int64)) hk0 hkw hka hkt hki hkf hkp (by first | omega | decide) (by first | omega | decide) (by first | omega | decide) (by first | omega | decide) (by first | omega | decide) (by first | omega | decide) (by first | omega | decide) (by first | omega | decide) (by omega) (by omega) hok_18 hm hf_25 hf_26 hs16 hf_15) [] [] rfl rfl (by decide) (by decide) (by decide) qc hqc rfl rfl jw_adb570a667 jw_970096b033 jw_c6bab24534 jw_f96c99f44d jw_2d66378959 jn_X11_number rfl (jj_le rfl) (jj_le rfl) (jj_le rfl) (jj_le rfl) (jj_le rfl) dX11_readSubscription_48 rfl (fun _ _ _ hX => hX.elim) (fun rx pl_31 r O_35 => ?_)
      obtain ⟨rfl, hok_32, hr_33, ha_34, hR_36⟩ := O_35
      replace hs16 := hr_33.at hk0 (by decide) (by decide) hs16
      replace hCf := ha_34.at hkf (by decide) (by decide) hCf
      replace hm := hm.fr hr_33 hk0 rfl
      replace hfr := hfr.trans (hr_33.sub (by decide))
      replace hfa := hfa.trans (ha_34.sub (by decide))
      obtain ⟨n_37, n_38, n_39, x_40, hf_41, hf_42, hf_43, hq_44, hq_45, hq_46, hq_47, hq_48, rfl⟩ := hR_36
      have lx_40 := tt_lo x_40
      have ux_40 := tt_hi x_40
      have p1x_40 : (0 : Int64).toInt = 0 := by decide
      refine jj_istore_n C dX11_readSubscription_51 (by decide) rfl ?_
      refine jj_aload_n C dX11_readSubscription_52 rfl ?_
      refine jj_lconst (v := 1) C dX11_readSubscription_53 (by decide) ?_
      refine jj_ldc2 (v := 9999999) C dX11_readSubscription_54 jw_ee60e309b3 ?_
      obtain ⟨qc, gs, hqc⟩ := tt_recv (cx := []) hok_32 hk0 (by decide) rfl
      refine tt_callV (rest := []) C (rs_number hl D cA ak n_39 n16 n_38 n_37 (1 : Int64) (9999999 : Int64) hk0 hkw hka hkt hki hkf hkp (by first | omega | decide) (by first | omega | decide) (by first | omega | decide) (by first | omega | decide) (by first | omega | decide) (by first | omega | decide) (by first | omega | decide) (by first | omega | decide) (by omega) (by omega) hok_32 hm hf_41 hf_42 hs16 hf_43) [] [] rfl rfl (by decide) (by decide) (by decide) qc hqc rfl rfl jw_adb570a667 jw_970096b033 jw_c6bab24534 jw_f96c99f44d jw_2d66378959 jn_X11_number rfl (jj_le rfl) (jj_le rfl) (jj_le rfl) (jj_le rfl) (jj_le rfl) dX11_readSubscription_57 rfl (fun _ _ _ hX => hX.elim) (fun rx pl_49 r O_53 => ?_)
      obtain ⟨rfl, hok_50, hr_51, ha_52, hR_54⟩ := O_53
      replace hs16 := hr_51.at hk0 (by decide) (by decide) hs16
      replace hCf := ha_52.at hkf (by decide) (by decide) hCf
      replace hm := hm.fr hr_51 hk0 rfl
      replace hfr := hfr.trans (hr_51.sub (by decide))
      replace hfa := hfa.trans (ha_52.sub (by decide))
      obtain ⟨n_55, n_56, n_57, x_58, hf_59, hf_60, hf_61, hq_62, hq_63, hq_64, hq_65, hq_66, rfl⟩ := hR_54
      have lx_58 := tt_lo x_58
      have ux_58 := tt_hi x_58
      have p1x_58 : (1 : Int64).toInt = 1 := by decide
      have p2x_58 : (9999999 : Int64).toInt = 9999999 := by decide
      refine jj_istore_n C dX11_readSubscription_60 (by decide) rfl ?_
      refine jj_aload_n C dX11_readSubscription_61 rfl ?_
      refine jj_ldcsw (k := 23) (tx := ";") C dX11_readSubscription_62 (by decide +kernel) ?_
      obtain ⟨qc, gs, hqc⟩ := tt_recv (cx := []) hok_50 hk0 (by decide) rfl
      refine tt_callV (rest := []) C (rs_must_semi hl D cA ak n_57 n16 n_56 n_55 hk0 hkw hka hkt hki hkf hkp (by first | omega | decide) (by first | omega | decide) (by first | omega | decide) (by first | omega | decide) (by first | omega | decide) (by first | omega | decide) (by first | omega | decide) (by first | omega | decide) (by omega) (by omega) hok_50 hm hf_59 hf_60 hs16 hf_61) [] [] rfl rfl (by decide) (by decide) (by decide) qc hqc rfl rfl jw_567bcddfb2 jw_5c84fa4094 jw_52b545b3e3 jw_f96c99f44d jw_84234b4b1a jn_X11_must rfl (jj_le rfl) (jj_le rfl) (jj_le rfl) (jj_le rfl) (jj_le rfl) dX11_readSubscription_65 rfl (fun _ _ _ hX => hX.elim) (fun rx pl_67 r O_71 => ?_)
      obtain ⟨rfl, hok_68, hr_69, ha_70, hR_72⟩ := O_71
      replace hs16 := hr_69.at hk0 (by decide) (by decide) hs16
      replace hCf := ha_70.at hkf (by decide) (by decide) hCf
      replace hm := hm.fr hr_69 hk0 rfl
      replace hfr := hfr.trans (hr_69.sub (by decide))
      replace hfa := hfa.trans (ha_70.sub (by decide))
      obtain ⟨n_73, n_74, n_75, hf_76, hf_77, hf_78, hq_79, hq_80, hq_81, hq_82, hq_83, rfl⟩ := hR_72
      refine jj_aload_n C dX11_readSubscription_68 rfl ?_
      refine tt_getF C hok_68 jk_12 17 (by decide) jw_17e99f0710 (t := (0, (-2147483648), 2147483647)) hk0 (by decide) rfl rfl hf_78 dX11_readSubscription_69 ?_
      refine jj_if_ne (tgt := 87) C dX11_readSubscription_72 (by decide) (fun c_84 => ?_) (fun c_84 => ?_)
      · have z_c_84 := jc_neq (a := ((n_75 : Nat) : Int)) (b := 0) c_84 (rl_ti (by omega)) (by decide)
        exact jj_vret C ⟨[], pl_67, rfl, rfl, hok_68, hfr, hfa, ⟨_, n_73, n_74, n_75, hCf, hf_76, hf_77, hf_78, (by omega), (by omega), (by omega), (by omega), (by omega), (fun z9 => by exfalso; omega), rfl⟩⟩ dX11_readSubscription_87 (jj_le rfl) (jj_le rfl)
      · have z_c_84 := jc_eq (a := ((n_75 : Nat) : Int)) (b := 0) c_84 (rl_ti (by omega)) (by decide)
        refine jj_aload_n C dX11_readSubscription_75 rfl ?_
        refine jj_aload_n C dX11_readSubscription_76 rfl ?_
        refine tt_getF C hok_68 jk_12 4 (by decide) jw_69cfdf3f6e (t := (2, 6, 0)) hk0 (by decide) rfl rfl hm.2.2.2.2.1 dX11_readSubscription_77 ?_
        refine jj_iload_n C dX11_readSubscription_80 rfl ?_
        refine jj_lconst (v := 0) C dX11_readSubscription_81 (by decide) ?_
        refine jj_iload_n C dX11_readSubscription_82 rfl ?_
        obtain ⟨y_85, ey_85, vy_85⟩ := tt_i2l x_58
        refine jj_i2l (v := y_85) C dX11_readSubscription_83 ey_85 ?_
        obtain ⟨qc, gs, hqc⟩ := tt_recv (cx := []) hok_68 hk0 (by decide) rfl
        refine tt_callV (rest := []) C (rs_ask_af hl D cA ak x_40 (0 : Int64) y_85 400000000 400000000 f hk0 hkw hka hkt hki hkf hkp hF.1 (by omega) (Or.inl rfl) (fun _ => ⟨by omega, by omega⟩) (by rw [if_pos rfl]; have := hF.2.2.2; omega) hok_68 hm hCf) [] [] rfl rfl (by decide) (by decide) (by decide) qc hqc rfl rfl jw_5aa504ca27 jw_8305b013c0 jw_b768ebc9da jw_f96c99f44d jw_244fd0acfd jn_X11_ask rfl (jj_le rfl) (jj_le rfl) (jj_le rfl) (jj_le rfl) (jj_le rfl) dX11_readSubscription_84 rfl (fun _ _ _ hX => hX.elim) (fun rx pl_86 r O_90 => ?_)
        obtain ⟨rfl, hok_87, hr_88, ha_89, hR_91⟩ := O_90
        replace hs16 := hr_88.at hk0 (by decide) (by decide) hs16
        replace hf_76 := hr_88.at hk0 (by decide) (by decide) hf_76
        replace hf_77 := hr_88.at hk0 (by decide) (by decide) hf_77
        replace hf_78 := hr_88.at hk0 (by decide) (by decide) hf_78
        replace hm := hm.fr hr_88 hk0 rfl
        replace hfr := hfr.trans (hr_88.sub (by decide))
        replace hfa := hfa.trans (ha_89.sub (by decide))
        obtain ⟨g_92, hC_93, hI_94, hq_95, hq_96, hq_97, hq_98, rfl⟩ := hR_91
        exact jj_vret C ⟨[], pl_86, rfl, rfl, hok_87, hfr, hfa, ⟨_, n_73, n_74, n_75, hC_93, hf_76, hf_77, hf_78, (by omega), (by omega), (by omega), (by omega), (by omega), (fun _ => rl_FR.ask (a := y_85.toInt) hF hI_94 (by have q9 := hq_95; rw [if_pos rfl] at q9; exact q9) (by omega) hq_96 (hq_97 9 (by decide) (by decide)) hq_98), rfl⟩⟩ dX11_readSubscription_87 (jj_le rfl) (jj_le rfl)
    · have z_c_16 := jc_eqL (a := (f 8).toInt) (b := 12) c_16 rfl (by decide)
      refine jj_aload_n C dX11_readSubscription_29 rfl ?_
      refine jj_iconst (v := 3) C dX11_readSubscription_30 (by decide) ?_
      obtain ⟨qc, gs, hqc⟩ := tt_recv (cx := []) hok_9 hk0 (by decide) rfl
      refine tt_callV (rest := []) C (rs_wrong_3 hl D cA ak n_14 hk0 hkw hka hkt hki hkf hkp (by first | omega | decide) (by first | omega | decide) hok_9 hm hf_15) [] [] rfl rfl (by decide) (by decide) (by decide) qc hqc rfl rfl jw_e206642f3f jw_6f17e07a53 jw_400f18f3e9 jw_f96c99f44d jw_6b1a6dabbc jn_X11_wrong rfl (jj_le rfl) (jj_le rfl) (jj_le rfl) (jj_le rfl) (jj_le rfl) dX11_readSubscription_31 rfl (fun _ _ _ hX => hX.elim) (fun rx pl_99 r O_103 => ?_)
      obtain ⟨rfl, hok_100, hr_101, ha_102, hR_104⟩ := O_103
      replace hs14 := hr_101.at hk0 (by decide) (by decide) hs14
      replace hs15 := hr_101.at hk0 (by decide) (by decide) hs15
      replace hs16 := hr_101.at hk0 (by decide) (by decide) hs16
      replace hCf := ha_102.at hkf (by decide) (by decide) hCf
      replace hm := hm.fr hr_101 hk0 rfl
      replace hfr := hfr.trans (hr_101.sub (by decide))
      replace hfa := hfa.trans (ha_102.sub (by decide))
      obtain ⟨n_105, hf_106, ln_105, un_105, rfl⟩ := hR_104
      refine jj_aload_n C dX11_readSubscription_34 rfl ?_
      obtain ⟨qc, gs, hqc⟩ := tt_recv (cx := []) hok_100 hk0 (by decide) rfl
      refine tt_callV (rest := []) C (rs_pass hl D cA ak n_105 n16 n15 n14 hk0 hkw hka hkt hki hkf hkp (by first | omega | decide) (by first | omega | decide) (by first | omega | decide) (by first | omega | decide) (by first | omega | decide) (by first | omega | decide) (by first | omega | decide) (by first | omega | decide) (by omega) (by omega) hok_100 hm hs14 hs15 hs16 hf_106) [] [] rfl rfl (by decide) (by decide) (by decide) qc hqc rfl rfl jw_b8e803331f jw_409849e3da jw_7cfaf31817 jw_f96c99f44d jw_3d0e41f30f jn_X11_pass rfl (jj_le rfl) (jj_le rfl) (jj_le rfl) (jj_le rfl) (jj_le rfl) dX11_readSubscription_35 rfl (fun _ _ _ hX => hX.elim) (fun rx pl_107 r O_111 => ?_)
      obtain ⟨rfl, hok_108, hr_109, ha_110, hR_112⟩ := O_111
      replace hs16 := hr_109.at hk0 (by decide) (by decide) hs16
      replace hf_106 := hr_109.at hk0 (by decide) (by decide) hf_106
      replace hCf := ha_110.at hkf (by decide) (by decide) hCf
      replace hm := hm.fr hr_109 hk0 rfl
      replace hfr := hfr.trans (hr_109.sub (by decide))
      replace hfa := hfa.trans (ha_110.sub (by decide))
      obtain ⟨n_113, n_114, hf_115, hf_116, hq_117, hq_118, hq_119, hq_120, rfl⟩ := hR_112
      refine jj_aload_n C dX11_readSubscription_38 rfl ?_
      refine jj_lconst (v := 0) C dX11_readSubscription_39 (by decide) ?_
      refine jj_aload_n C dX11_readSubscription_40 rfl ?_
      refine tt_getF C hok_108 jk_12 4 (by decide) jw_69cfdf3f6e (t := (2, 6, 0)) hk0 (by decide) rfl rfl hm.2.2.2.2.1 dX11_readSubscription_41 ?_
      refine jj_iconst (v := 0) C dX11_readSubscription_44 (by decide) ?_
      refine rl_lald C hok_108 (t := (1, (-9223372036854775808), 9223372036854775807)) hkf (by decide) rfl (k := 0) (v := (f 0)) (vp_in_iff.mpr (by decide)) hCf (by decide) rfl dX11_readSubscription_45 ?_
      refine jj_lconst (v := 1) C dX11_readSubscription_46 (by decide) ?_
      refine jj_lsub C dX11_readSubscription_47 rfl ?_
      obtain ⟨qc, gs, hqc⟩ := tt_recv (cx := []) hok_108 hk0 (by decide) rfl
      refine tt_callV (rest := []) C (rs_number hl D cA ak n_105 n16 n_114 n_113 (0 : Int64) ((f 0) - (1 : Int64)) hk0 hkw hka hkt hki hkf hkp (by first | omega | decide) (by first | omega | decide) (by first | omega | decide) (by first | omega | decide) (by first | omega | decide) (by first | omega | decide) (by first | omega | decide) (by first | omega | decide) (by omega) (by omega) hok_108 hm hf_115 hf_116 hs16 hf_106) [] [] rfl rfl (by decide) (by decide) (by decide) qc hqc rfl rfl jw_adb570a667 jw_970096b033 jw_c6bab24534 jw_f96c99f44d jw_2d66378959 jn_X11_number rfl (jj_le rfl) (jj_le rfl) (jj_le rfl) (jj_le rfl) (jj_le rfl) dX11_readSubscription_48 rfl (fun _ _ _ hX => hX.elim) (fun rx pl_121 r O_125 => ?_)
      obtain ⟨rfl, hok_122, hr_123, ha_124, hR_126⟩ := O_125
      replace hs16 := hr_123.at hk0 (by decide) (by decide) hs16
      replace hCf := ha_124.at hkf (by decide) (by decide) hCf
      replace hm := hm.fr hr_123 hk0 rfl
      replace hfr := hfr.trans (hr_123.sub (by decide))
      replace hfa := hfa.trans (ha_124.sub (by decide))
      obtain ⟨n_127, n_128, n_129, x_130, hf_131, hf_132, hf_133, hq_134, hq_135, hq_136, hq_137, hq_138, rfl⟩ := hR_126
      have lx_130 := tt_lo x_130
      have ux_130 := tt_hi x_130
      have p1x_130 : (0 : Int64).toInt = 0 := by decide
      refine jj_istore_n C dX11_readSubscription_51 (by decide) rfl ?_
      refine jj_aload_n C dX11_readSubscription_52 rfl ?_
      refine jj_lconst (v := 1) C dX11_readSubscription_53 (by decide) ?_
      refine jj_ldc2 (v := 9999999) C dX11_readSubscription_54 jw_ee60e309b3 ?_
      obtain ⟨qc, gs, hqc⟩ := tt_recv (cx := []) hok_122 hk0 (by decide) rfl
      refine tt_callV (rest := []) C (rs_number hl D cA ak n_129 n16 n_128 n_127 (1 : Int64) (9999999 : Int64) hk0 hkw hka hkt hki hkf hkp (by first | omega | decide) (by first | omega | decide) (by first | omega | decide) (by first | omega | decide) (by first | omega | decide) (by first | omega | decide) (by first | omega | decide) (by first | omega | decide) (by omega) (by omega) hok_122 hm hf_131 hf_132 hs16 hf_133) [] [] rfl rfl (by decide) (by decide) (by decide) qc hqc rfl rfl jw_adb570a667 jw_970096b033 jw_c6bab24534 jw_f96c99f44d jw_2d66378959 jn_X11_number rfl (jj_le rfl) (jj_le rfl) (jj_le rfl) (jj_le rfl) (jj_le rfl) dX11_readSubscription_57 rfl (fun _ _ _ hX => hX.elim) (fun rx pl_139 r O_143 => ?_)
      obtain ⟨rfl, hok_140, hr_141, ha_142, hR_144⟩ := O_143
      replace hs16 := hr_141.at hk0 (by decide) (by decide) hs16
      replace hCf := ha_142.at hkf (by decide) (by decide) hCf
      replace hm := hm.fr hr_141 hk0 rfl
      replace hfr := hfr.trans (hr_141.sub (by decide))
      replace hfa := hfa.trans (ha_142.sub (by decide))
      obtain ⟨n_145, n_146, n_147, x_148, hf_149, hf_150, hf_151, hq_152, hq_153, hq_154, hq_155, hq_156, rfl⟩ := hR_144
      have lx_148 := tt_lo x_148
      have ux_148 := tt_hi x_148
      have p1x_148 : (1 : Int64).toInt = 1 := by decide
      have p2x_148 : (9999999 : Int64).toInt = 9999999 := by decide
      refine jj_istore_n C dX11_readSubscription_60 (by decide) rfl ?_
      refine jj_aload_n C dX11_readSubscription_61 rfl ?_
      refine jj_ldcsw (k := 23) (tx := ";") C dX11_readSubscription_62 (by decide +kernel) ?_
      obtain ⟨qc, gs, hqc⟩ := tt_recv (cx := []) hok_140 hk0 (by decide) rfl
      refine tt_callV (rest := []) C (rs_must_semi hl D cA ak n_147 n16 n_146 n_145 hk0 hkw hka hkt hki hkf hkp (by first | omega | decide) (by first | omega | decide) (by first | omega | decide) (by first | omega | decide) (by first | omega | decide) (by first | omega | decide) (by first | omega | decide) (by first | omega | decide) (by omega) (by omega) hok_140 hm hf_149 hf_150 hs16 hf_151) [] [] rfl rfl (by decide) (by decide) (by decide) qc hqc rfl rfl jw_567bcddfb2 jw_5c84fa4094 jw_52b545b3e3 jw_f96c99f44d jw_84234b4b1a jn_X11_must rfl (jj_le rfl) (jj_le rfl) (jj_le rfl) (jj_le rfl) (jj_le rfl) dX11_readSubscription_65 rfl (fun _ _ _ hX => hX.elim) (fun rx pl_157 r O_161 => ?_)
      obtain ⟨rfl, hok_158, hr_159, ha_160, hR_162⟩ := O_161
      replace hs16 := hr_159.at hk0 (by decide) (by decide) hs16
      replace hCf := ha_160.at hkf (by decide) (by decide) hCf
      replace hm := hm.fr hr_159 hk0 rfl
      replace hfr := hfr.trans (hr_159.sub (by decide))
      replace hfa := hfa.trans (ha_160.sub (by decide))
      obtain ⟨n_163, n_164, n_165, hf_166, hf_167, hf_168, hq_169, hq_170, hq_171, hq_172, hq_173, rfl⟩ := hR_162
      refine jj_aload_n C dX11_readSubscription_68 rfl ?_
      refine tt_getF C hok_158 jk_12 17 (by decide) jw_17e99f0710 (t := (0, (-2147483648), 2147483647)) hk0 (by decide) rfl rfl hf_168 dX11_readSubscription_69 ?_
      refine jj_if_ne (tgt := 87) C dX11_readSubscription_72 (by decide) (fun c_174 => ?_) (fun c_174 => ?_)
      · have z_c_174 := jc_neq (a := ((n_165 : Nat) : Int)) (b := 0) c_174 (rl_ti (by omega)) (by decide)
        exact jj_vret C ⟨[], pl_157, rfl, rfl, hok_158, hfr, hfa, ⟨_, n_163, n_164, n_165, hCf, hf_166, hf_167, hf_168, (by omega), (by omega), (by omega), (by omega), (by omega), (fun z9 => by exfalso; omega), rfl⟩⟩ dX11_readSubscription_87 (jj_le rfl) (jj_le rfl)
      · have z_c_174 := jc_eq (a := ((n_165 : Nat) : Int)) (b := 0) c_174 (rl_ti (by omega)) (by decide)
        refine jj_aload_n C dX11_readSubscription_75 rfl ?_
        refine jj_aload_n C dX11_readSubscription_76 rfl ?_
        refine tt_getF C hok_158 jk_12 4 (by decide) jw_69cfdf3f6e (t := (2, 6, 0)) hk0 (by decide) rfl rfl hm.2.2.2.2.1 dX11_readSubscription_77 ?_
        refine jj_iload_n C dX11_readSubscription_80 rfl ?_
        refine jj_lconst (v := 0) C dX11_readSubscription_81 (by decide) ?_
        refine jj_iload_n C dX11_readSubscription_82 rfl ?_
        obtain ⟨y_175, ey_175, vy_175⟩ := tt_i2l x_148
        refine jj_i2l (v := y_175) C dX11_readSubscription_83 ey_175 ?_
        obtain ⟨qc, gs, hqc⟩ := tt_recv (cx := []) hok_158 hk0 (by decide) rfl
        refine tt_callV (rest := []) C (rs_ask_af hl D cA ak x_130 (0 : Int64) y_175 400000000 400000000 f hk0 hkw hka hkt hki hkf hkp hF.1 (by omega) (Or.inl rfl) (fun _ => ⟨by omega, by omega⟩) (by rw [if_pos rfl]; have := hF.2.2.2; omega) hok_158 hm hCf) [] [] rfl rfl (by decide) (by decide) (by decide) qc hqc rfl rfl jw_5aa504ca27 jw_8305b013c0 jw_b768ebc9da jw_f96c99f44d jw_244fd0acfd jn_X11_ask rfl (jj_le rfl) (jj_le rfl) (jj_le rfl) (jj_le rfl) (jj_le rfl) dX11_readSubscription_84 rfl (fun _ _ _ hX => hX.elim) (fun rx pl_176 r O_180 => ?_)
        obtain ⟨rfl, hok_177, hr_178, ha_179, hR_181⟩ := O_180
        replace hs16 := hr_178.at hk0 (by decide) (by decide) hs16
        replace hf_166 := hr_178.at hk0 (by decide) (by decide) hf_166
        replace hf_167 := hr_178.at hk0 (by decide) (by decide) hf_167
        replace hf_168 := hr_178.at hk0 (by decide) (by decide) hf_168
        replace hm := hm.fr hr_178 hk0 rfl
        replace hfr := hfr.trans (hr_178.sub (by decide))
        replace hfa := hfa.trans (ha_179.sub (by decide))
        obtain ⟨g_182, hC_183, hI_184, hq_185, hq_186, hq_187, hq_188, rfl⟩ := hR_181
        exact jj_vret C ⟨[], pl_176, rfl, rfl, hok_177, hfr, hfa, ⟨_, n_163, n_164, n_165, hC_183, hf_166, hf_167, hf_168, (by omega), (by omega), (by omega), (by omega), (by omega), (fun _ => rl_FR.ask (a := y_175.toInt) hF hI_184 (by have q9 := hq_185; rw [if_pos rfl] at q9; exact q9) (by omega) hq_186 (hq_187 9 (by decide) (by decide)) hq_188), rfl⟩⟩ dX11_readSubscription_87 (jj_le rfl) (jj_le rfl)
  · refine jj_if_neT (tgt := 15) C dX11_readSubscription_7 (by decide) (by decide) ?_
    refine jj_aload_n C dX11_readSubscription_15 rfl ?_
    refine tt_getF C hok_2 jk_12 4 (by decide) jw_69cfdf3f6e (t := (2, 6, 0)) hk0 (by decide) rfl rfl hm.2.2.2.2.1 dX11_readSubscription_16 ?_
    refine jj_bipush (v := 8) C dX11_readSubscription_19 (by decide) ?_
    refine rl_lald C hok_2 (t := (1, (-9223372036854775808), 9223372036854775807)) hkf (by decide) rfl (k := 8) (v := (f 8)) (vp_in_iff.mpr (by decide)) hCf (by decide) rfl dX11_readSubscription_21 ?_
    refine jj_ldc2 (v := 12) C dX11_readSubscription_22 jw_f3ff61ad3e ?_
    refine jj_lcmp_ne (tgt := 34) C dX11_readSubscription_25 dX11_readSubscription_26 (by decide) (fun c_189 => ?_) (fun c_189 => ?_)
    · have z_c_189 := jc_neqL (a := (f 8).toInt) (b := 12) c_189 rfl (by decide)
      refine jj_aload_n C dX11_readSubscription_34 rfl ?_
      obtain ⟨qc, gs, hqc⟩ := tt_recv (cx := []) hok_2 hk0 (by decide) rfl
      refine tt_callV (rest := []) C (rs_pass hl D cA ak n17 n16 n15 n14 hk0 hkw hka hkt hki hkf hkp (by first | omega | decide) (by first | omega | decide) (by first | omega | decide) (by first | omega | decide) (by first | omega | decide) (by first | omega | decide) (by first | omega | decide) (by first | omega | decide) (by omega) (by omega) hok_2 hm hs14 hs15 hs16 hs17) [] [] rfl rfl (by decide) (by decide) (by decide) qc hqc rfl rfl jw_b8e803331f jw_409849e3da jw_7cfaf31817 jw_f96c99f44d jw_3d0e41f30f jn_X11_pass rfl (jj_le rfl) (jj_le rfl) (jj_le rfl) (jj_le rfl) (jj_le rfl) dX11_readSubscription_35 rfl (fun _ _ _ hX => hX.elim) (fun rx pl_190 r O_194 => ?_)
      obtain ⟨rfl, hok_191, hr_192, ha_193, hR_195⟩ := O_194
      replace hs16 := hr_192.at hk0 (by decide) (by decide) hs16
      replace hs17 := hr_192.at hk0 (by decide) (by decide) hs17
      replace hCf := ha_193.at hkf (by decide) (by decide) hCf
      replace hm := hm.fr hr_192 hk0 rfl
      replace hfr := hfr.trans (hr_192.sub (by decide))
      replace hfa := hfa.trans (ha_193.sub (by decide))
      obtain ⟨n_196, n_197, hf_198, hf_199, hq_200, hq_201, hq_202, hq_203, rfl⟩ := hR_195
      refine jj_aload_n C dX11_readSubscription_38 rfl ?_
      refine jj_lconst (v := 0) C dX11_readSubscription_39 (by decide) ?_
      refine jj_aload_n C dX11_readSubscription_40 rfl ?_
      refine tt_getF C hok_191 jk_12 4 (by decide) jw_69cfdf3f6e (t := (2, 6, 0)) hk0 (by decide) rfl rfl hm.2.2.2.2.1 dX11_readSubscription_41 ?_
      refine jj_iconst (v := 0) C dX11_readSubscription_44 (by decide) ?_
      refine rl_lald C hok_191 (t := (1, (-9223372036854775808), 9223372036854775807)) hkf (by decide) rfl (k := 0) (v := (f 0)) (vp_in_iff.mpr (by decide)) hCf (by decide) rfl dX11_readSubscription_45 ?_
      refine jj_lconst (v := 1) C dX11_readSubscription_46 (by decide) ?_
      refine jj_lsub C dX11_readSubscription_47 rfl ?_
      obtain ⟨qc, gs, hqc⟩ := tt_recv (cx := []) hok_191 hk0 (by decide) rfl
      refine tt_callV (rest := []) C (rs_number hl D cA ak n17 n16 n_197 n_196 (0 : Int64) ((f 0) - (1 : Int64)) hk0 hkw hka hkt hki hkf hkp (by first | omega | decide) (by first | omega | decide) (by first | omega | decide) (by first | omega | decide) (by first | omega | decide) (by first | omega | decide) (by first | omega | decide) (by first | omega | decide) (by omega) (by omega) hok_191 hm hf_198 hf_199 hs16 hs17) [] [] rfl rfl (by decide) (by decide) (by decide) qc hqc rfl rfl jw_adb570a667 jw_970096b033 jw_c6bab24534 jw_f96c99f44d jw_2d66378959 jn_X11_number rfl (jj_le rfl) (jj_le rfl) (jj_le rfl) (jj_le rfl) (jj_le rfl) dX11_readSubscription_48 rfl (fun _ _ _ hX => hX.elim) (fun rx pl_204 r O_208 => ?_)
      obtain ⟨rfl, hok_205, hr_206, ha_207, hR_209⟩ := O_208
      replace hs16 := hr_206.at hk0 (by decide) (by decide) hs16
      replace hCf := ha_207.at hkf (by decide) (by decide) hCf
      replace hm := hm.fr hr_206 hk0 rfl
      replace hfr := hfr.trans (hr_206.sub (by decide))
      replace hfa := hfa.trans (ha_207.sub (by decide))
      obtain ⟨n_210, n_211, n_212, x_213, hf_214, hf_215, hf_216, hq_217, hq_218, hq_219, hq_220, hq_221, rfl⟩ := hR_209
      have lx_213 := tt_lo x_213
      have ux_213 := tt_hi x_213
      have p1x_213 : (0 : Int64).toInt = 0 := by decide
      refine jj_istore_n C dX11_readSubscription_51 (by decide) rfl ?_
      refine jj_aload_n C dX11_readSubscription_52 rfl ?_
      refine jj_lconst (v := 1) C dX11_readSubscription_53 (by decide) ?_
      refine jj_ldc2 (v := 9999999) C dX11_readSubscription_54 jw_ee60e309b3 ?_
      obtain ⟨qc, gs, hqc⟩ := tt_recv (cx := []) hok_205 hk0 (by decide) rfl
      refine tt_callV (rest := []) C (rs_number hl D cA ak n_212 n16 n_211 n_210 (1 : Int64) (9999999 : Int64) hk0 hkw hka hkt hki hkf hkp (by first | omega | decide) (by first | omega | decide) (by first | omega | decide) (by first | omega | decide) (by first | omega | decide) (by first | omega | decide) (by first | omega | decide) (by first | omega | decide) (by omega) (by omega) hok_205 hm hf_214 hf_215 hs16 hf_216) [] [] rfl rfl (by decide) (by decide) (by decide) qc hqc rfl rfl jw_adb570a667 jw_970096b033 jw_c6bab24534 jw_f96c99f44d jw_2d66378959 jn_X11_number rfl (jj_le rfl) (jj_le rfl) (jj_le rfl) (jj_le rfl) (jj_le rfl) dX11_readSubscription_57 rfl (fun _ _ _ hX => hX.elim) (fun rx pl_222 r O_226 => ?_)
      obtain ⟨rfl, hok_223, hr_224, ha_225, hR_227⟩ := O_226
      replace hs16 := hr_224.at hk0 (by decide) (by decide) hs16
      replace hCf := ha_225.at hkf (by decide) (by decide) hCf
      replace hm := hm.fr hr_224 hk0 rfl
      replace hfr := hfr.trans (hr_224.sub (by decide))
      replace hfa := hfa.trans (ha_225.sub (by decide))
      obtain ⟨n_228, n_229, n_230, x_231, hf_232, hf_233, hf_234, hq_235, hq_236, hq_237, hq_238, hq_239, rfl⟩ := hR_227
      have lx_231 := tt_lo x_231
      have ux_231 := tt_hi x_231
      have p1x_231 : (1 : Int64).toInt = 1 := by decide
      have p2x_231 : (9999999 : Int64).toInt = 9999999 := by decide
      refine jj_istore_n C dX11_readSubscription_60 (by decide) rfl ?_
      refine jj_aload_n C dX11_readSubscription_61 rfl ?_
      refine jj_ldcsw (k := 23) (tx := ";") C dX11_readSubscription_62 (by decide +kernel) ?_
      obtain ⟨qc, gs, hqc⟩ := tt_recv (cx := []) hok_223 hk0 (by decide) rfl
      refine tt_callV (rest := []) C (rs_must_semi hl D cA ak n_230 n16 n_229 n_228 hk0 hkw hka hkt hki hkf hkp (by first | omega | decide) (by first | omega | decide) (by first | omega | decide) (by first | omega | decide) (by first | omega | decide) (by first | omega | decide) (by first | omega | decide) (by first | omega | decide) (by omega) (by omega) hok_223 hm hf_232 hf_233 hs16 hf_234) [] [] rfl rfl (by decide) (by decide) (by decide) qc hqc rfl rfl jw_567bcddfb2 jw_5c84fa4094 jw_52b545b3e3 jw_f96c99f44d jw_84234b4b1a jn_X11_must rfl (jj_le rfl) (jj_le rfl) (jj_le rfl) (jj_le rfl) (jj_le rfl) dX11_readSubscription_65 rfl (fun _ _ _ hX => hX.elim) (fun rx pl_240 r O_244 => ?_)
      obtain ⟨rfl, hok_241, hr_242, ha_243, hR_245⟩ := O_244
      replace hs16 := hr_242.at hk0 (by decide) (by decide) hs16
      replace hCf := ha_243.at hkf (by decide) (by decide) hCf
      replace hm := hm.fr hr_242 hk0 rfl
      replace hfr := hfr.trans (hr_242.sub (by decide))
      replace hfa := hfa.trans (ha_243.sub (by decide))
      obtain ⟨n_246, n_247, n_248, hf_249, hf_250, hf_251, hq_252, hq_253, hq_254, hq_255, hq_256, rfl⟩ := hR_245
      refine jj_aload_n C dX11_readSubscription_68 rfl ?_
      refine tt_getF C hok_241 jk_12 17 (by decide) jw_17e99f0710 (t := (0, (-2147483648), 2147483647)) hk0 (by decide) rfl rfl hf_251 dX11_readSubscription_69 ?_
      refine jj_if_ne (tgt := 87) C dX11_readSubscription_72 (by decide) (fun c_257 => ?_) (fun c_257 => ?_)
      · have z_c_257 := jc_neq (a := ((n_248 : Nat) : Int)) (b := 0) c_257 (rl_ti (by omega)) (by decide)
        exact jj_vret C ⟨[], pl_240, rfl, rfl, hok_241, hfr, hfa, ⟨_, n_246, n_247, n_248, hCf, hf_249, hf_250, hf_251, (by omega), (by omega), (by omega), (by omega), (by omega), (fun z9 => by exfalso; omega), rfl⟩⟩ dX11_readSubscription_87 (jj_le rfl) (jj_le rfl)
      · have z_c_257 := jc_eq (a := ((n_248 : Nat) : Int)) (b := 0) c_257 (rl_ti (by omega)) (by decide)
        refine jj_aload_n C dX11_readSubscription_75 rfl ?_
        refine jj_aload_n C dX11_readSubscription_76 rfl ?_
        refine tt_getF C hok_241 jk_12 4 (by decide) jw_69cfdf3f6e (t := (2, 6, 0)) hk0 (by decide) rfl rfl hm.2.2.2.2.1 dX11_readSubscription_77 ?_
        refine jj_iload_n C dX11_readSubscription_80 rfl ?_
        refine jj_lconst (v := 0) C dX11_readSubscription_81 (by decide) ?_
        refine jj_iload_n C dX11_readSubscription_82 rfl ?_
        obtain ⟨y_258, ey_258, vy_258⟩ := tt_i2l x_231
        refine jj_i2l (v := y_258) C dX11_readSubscription_83 ey_258 ?_
        obtain ⟨qc, gs, hqc⟩ := tt_recv (cx := []) hok_241 hk0 (by decide) rfl
        refine tt_callV (rest := []) C (rs_ask_af hl D cA ak x_213 (0 : Int64) y_258 400000000 400000000 f hk0 hkw hka hkt hki hkf hkp hF.1 (by omega) (Or.inl rfl) (fun _ => ⟨by omega, by omega⟩) (by rw [if_pos rfl]; have := hF.2.2.2; omega) hok_241 hm hCf) [] [] rfl rfl (by decide) (by decide) (by decide) qc hqc rfl rfl jw_5aa504ca27 jw_8305b013c0 jw_b768ebc9da jw_f96c99f44d jw_244fd0acfd jn_X11_ask rfl (jj_le rfl) (jj_le rfl) (jj_le rfl) (jj_le rfl) (jj_le rfl) dX11_readSubscription_84 rfl (fun _ _ _ hX => hX.elim) (fun rx pl_259 r O_263 => ?_)
        obtain ⟨rfl, hok_260, hr_261, ha_262, hR_264⟩ := O_263
        replace hs16 := hr_261.at hk0 (by decide) (by decide) hs16
        replace hf_249 := hr_261.at hk0 (by decide) (by decide) hf_249
        replace hf_250 := hr_261.at hk0 (by decide) (by decide) hf_250
        replace hf_251 := hr_261.at hk0 (by decide) (by decide) hf_251
        replace hm := hm.fr hr_261 hk0 rfl
        replace hfr := hfr.trans (hr_261.sub (by decide))
        replace hfa := hfa.trans (ha_262.sub (by decide))
        obtain ⟨g_265, hC_266, hI_267, hq_268, hq_269, hq_270, hq_271, rfl⟩ := hR_264
        exact jj_vret C ⟨[], pl_259, rfl, rfl, hok_260, hfr, hfa, ⟨_, n_246, n_247, n_248, hC_266, hf_249, hf_250, hf_251, (by omega), (by omega), (by omega), (by omega), (by omega), (fun _ => rl_FR.ask (a := y_258.toInt) hF hI_267 (by have q9 := hq_268; rw [if_pos rfl] at q9; exact q9) (by omega) hq_269 (hq_270 9 (by decide) (by decide)) hq_271), rfl⟩⟩ dX11_readSubscription_87 (jj_le rfl) (jj_le rfl)
    · have z_c_189 := jc_eqL (a := (f 8).toInt) (b := 12) c_189 rfl (by decide)
      refine jj_aload_n C dX11_readSubscription_29 rfl ?_
      refine jj_iconst (v := 3) C dX11_readSubscription_30 (by decide) ?_
      obtain ⟨qc, gs, hqc⟩ := tt_recv (cx := []) hok_2 hk0 (by decide) rfl
      refine tt_callV (rest := []) C (rs_wrong_3 hl D cA ak n17 hk0 hkw hka hkt hki hkf hkp (by first | omega | decide) (by first | omega | decide) hok_2 hm hs17) [] [] rfl rfl (by decide) (by decide) (by decide) qc hqc rfl rfl jw_e206642f3f jw_6f17e07a53 jw_400f18f3e9 jw_f96c99f44d jw_6b1a6dabbc jn_X11_wrong rfl (jj_le rfl) (jj_le rfl) (jj_le rfl) (jj_le rfl) (jj_le rfl) dX11_readSubscription_31 rfl (fun _ _ _ hX => hX.elim) (fun rx pl_272 r O_276 => ?_)
      obtain ⟨rfl, hok_273, hr_274, ha_275, hR_277⟩ := O_276
      replace hs14 := hr_274.at hk0 (by decide) (by decide) hs14
      replace hs15 := hr_274.at hk0 (by decide) (by decide) hs15
      replace hs16 := hr_274.at hk0 (by decide) (by decide) hs16
      replace hCf := ha_275.at hkf (by decide) (by decide) hCf
      replace hm := hm.fr hr_274 hk0 rfl
      replace hfr := hfr.trans (hr_274.sub (by decide))
      replace hfa := hfa.trans (ha_275.sub (by decide))
      obtain ⟨n_278, hf_279, ln_278, un_278, rfl⟩ := hR_277
      refine jj_aload_n C dX11_readSubscription_34 rfl ?_
      obtain ⟨qc, gs, hqc⟩ := tt_recv (cx := []) hok_273 hk0 (by decide) rfl
      refine tt_callV (rest := []) C (rs_pass hl D cA ak n_278 n16 n15 n14 hk0 hkw hka hkt hki hkf hkp (by first | omega | decide) (by first | omega | decide) (by first | omega | decide) (by first | omega | decide) (by first | omega | decide) (by first | omega | decide) (by first | omega | decide) (by first | omega | decide) (by omega) (by omega) hok_273 hm hs14 hs15 hs16 hf_279) [] [] rfl rfl (by decide) (by decide) (by decide) qc hqc rfl rfl jw_b8e803331f jw_409849e3da jw_7cfaf31817 jw_f96c99f44d jw_3d0e41f30f jn_X11_pass rfl (jj_le rfl) (jj_le rfl) (jj_le rfl) (jj_le rfl) (jj_le rfl) dX11_readSubscription_35 rfl (fun _ _ _ hX => hX.elim) (fun rx pl_280 r O_284 => ?_)
      obtain ⟨rfl, hok_281, hr_282, ha_283, hR_285⟩ := O_284
      replace hs16 := hr_282.at hk0 (by decide) (by decide) hs16
      replace hf_279 := hr_282.at hk0 (by decide) (by decide) hf_279
      replace hCf := ha_283.at hkf (by decide) (by decide) hCf
      replace hm := hm.fr hr_282 hk0 rfl
      replace hfr := hfr.trans (hr_282.sub (by decide))
      replace hfa := hfa.trans (ha_283.sub (by decide))
      obtain ⟨n_286, n_287, hf_288, hf_289, hq_290, hq_291, hq_292, hq_293, rfl⟩ := hR_285
      refine jj_aload_n C dX11_readSubscription_38 rfl ?_
      refine jj_lconst (v := 0) C dX11_readSubscription_39 (by decide) ?_
      refine jj_aload_n C dX11_readSubscription_40 rfl ?_
      refine tt_getF C hok_281 jk_12 4 (by decide) jw_69cfdf3f6e (t := (2, 6, 0)) hk0 (by decide) rfl rfl hm.2.2.2.2.1 dX11_readSubscription_41 ?_
      refine jj_iconst (v := 0) C dX11_readSubscription_44 (by decide) ?_
      refine rl_lald C hok_281 (t := (1, (-9223372036854775808), 9223372036854775807)) hkf (by decide) rfl (k := 0) (v := (f 0)) (vp_in_iff.mpr (by decide)) hCf (by decide) rfl dX11_readSubscription_45 ?_
      refine jj_lconst (v := 1) C dX11_readSubscription_46 (by decide) ?_
      refine jj_lsub C dX11_readSubscription_47 rfl ?_
      obtain ⟨qc, gs, hqc⟩ := tt_recv (cx := []) hok_281 hk0 (by decide) rfl
      refine tt_callV (rest := []) C (rs_number hl D cA ak n_278 n16 n_287 n_286 (0 : Int64) ((f 0) - (1 : Int64)) hk0 hkw hka hkt hki hkf hkp (by first | omega | decide) (by first | omega | decide) (by first | omega | decide) (by first | omega | decide) (by first | omega | decide) (by first | omega | decide) (by first | omega | decide) (by first | omega | decide) (by omega) (by omega) hok_281 hm hf_288 hf_289 hs16 hf_279) [] [] rfl rfl (by decide) (by decide) (by decide) qc hqc rfl rfl jw_adb570a667 jw_970096b033 jw_c6bab24534 jw_f96c99f44d jw_2d66378959 jn_X11_number rfl (jj_le rfl) (jj_le rfl) (jj_le rfl) (jj_le rfl) (jj_le rfl) dX11_readSubscription_48 rfl (fun _ _ _ hX => hX.elim) (fun rx pl_294 r O_298 => ?_)
      obtain ⟨rfl, hok_295, hr_296, ha_297, hR_299⟩ := O_298
      replace hs16 := hr_296.at hk0 (by decide) (by decide) hs16
      replace hCf := ha_297.at hkf (by decide) (by decide) hCf
      replace hm := hm.fr hr_296 hk0 rfl
      replace hfr := hfr.trans (hr_296.sub (by decide))
      replace hfa := hfa.trans (ha_297.sub (by decide))
      obtain ⟨n_300, n_301, n_302, x_303, hf_304, hf_305, hf_306, hq_307, hq_308, hq_309, hq_310, hq_311, rfl⟩ := hR_299
      have lx_303 := tt_lo x_303
      have ux_303 := tt_hi x_303
      have p1x_303 : (0 : Int64).toInt = 0 := by decide
      refine jj_istore_n C dX11_readSubscription_51 (by decide) rfl ?_
      refine jj_aload_n C dX11_readSubscription_52 rfl ?_
      refine jj_lconst (v := 1) C dX11_readSubscription_53 (by decide) ?_
      refine jj_ldc2 (v := 9999999) C dX11_readSubscription_54 jw_ee60e309b3 ?_
      obtain ⟨qc, gs, hqc⟩ := tt_recv (cx := []) hok_295 hk0 (by decide) rfl
      refine tt_callV (rest := []) C (rs_number hl D cA ak n_302 n16 n_301 n_300 (1 : Int64) (9999999 : Int64) hk0 hkw hka hkt hki hkf hkp (by first | omega | decide) (by first | omega | decide) (by first | omega | decide) (by first | omega | decide) (by first | omega | decide) (by first | omega | decide) (by first | omega | decide) (by first | omega | decide) (by omega) (by omega) hok_295 hm hf_304 hf_305 hs16 hf_306) [] [] rfl rfl (by decide) (by decide) (by decide) qc hqc rfl rfl jw_adb570a667 jw_970096b033 jw_c6bab24534 jw_f96c99f44d jw_2d66378959 jn_X11_number rfl (jj_le rfl) (jj_le rfl) (jj_le rfl) (jj_le rfl) (jj_le rfl) dX11_readSubscription_57 rfl (fun _ _ _ hX => hX.elim) (fun rx pl_312 r O_316 => ?_)
      obtain ⟨rfl, hok_313, hr_314, ha_315, hR_317⟩ := O_316
      replace hs16 := hr_314.at hk0 (by decide) (by decide) hs16
      replace hCf := ha_315.at hkf (by decide) (by decide) hCf
      replace hm := hm.fr hr_314 hk0 rfl
      replace hfr := hfr.trans (hr_314.sub (by decide))
      replace hfa := hfa.trans (ha_315.sub (by decide))
      obtain ⟨n_318, n_319, n_320, x_321, hf_322, hf_323, hf_324, hq_325, hq_326, hq_327, hq_328, hq_329, rfl⟩ := hR_317
      have lx_321 := tt_lo x_321
      have ux_321 := tt_hi x_321
      have p1x_321 : (1 : Int64).toInt = 1 := by decide
      have p2x_321 : (9999999 : Int64).toInt = 9999999 := by decide
      refine jj_istore_n C dX11_readSubscription_60 (by decide) rfl ?_
      refine jj_aload_n C dX11_readSubscription_61 rfl ?_
      refine jj_ldcsw (k := 23) (tx := ";") C dX11_readSubscription_62 (by decide +kernel) ?_
      obtain ⟨qc, gs, hqc⟩ := tt_recv (cx := []) hok_313 hk0 (by decide) rfl
      refine tt_callV (rest := []) C (rs_must_semi hl D cA ak n_320 n16 n_319 n_318 hk0 hkw hka hkt hki hkf hkp (by first | omega | decide) (by first | omega | decide) (by first | omega | decide) (by first | omega | decide) (by first | omega | decide) (by first | omega | decide) (by first | omega | decide) (by first | omega | decide) (by omega) (by omega) hok_313 hm hf_322 hf_323 hs16 hf_324) [] [] rfl rfl (by decide) (by decide) (by decide) qc hqc rfl rfl jw_567bcddfb2 jw_5c84fa4094 jw_52b545b3e3 jw_f96c99f44d jw_84234b4b1a jn_X11_must rfl (jj_le rfl) (jj_le rfl) (jj_le rfl) (jj_le rfl) (jj_le rfl) dX11_readSubscription_65 rfl (fun _ _ _ hX => hX.elim) (fun rx pl_330 r O_334 => ?_)
      obtain ⟨rfl, hok_331, hr_332, ha_333, hR_335⟩ := O_334
      replace hs16 := hr_332.at hk0 (by decide) (by decide) hs16
      replace hCf := ha_333.at hkf (by decide) (by decide) hCf
      replace hm := hm.fr hr_332 hk0 rfl
      replace hfr := hfr.trans (hr_332.sub (by decide))
      replace hfa := hfa.trans (ha_333.sub (by decide))
      obtain ⟨n_336, n_337, n_338, hf_339, hf_340, hf_341, hq_342, hq_343, hq_344, hq_345, hq_346, rfl⟩ := hR_335
      refine jj_aload_n C dX11_readSubscription_68 rfl ?_
      refine tt_getF C hok_331 jk_12 17 (by decide) jw_17e99f0710 (t := (0, (-2147483648), 2147483647)) hk0 (by decide) rfl rfl hf_341 dX11_readSubscription_69 ?_
      refine jj_if_ne (tgt := 87) C dX11_readSubscription_72 (by decide) (fun c_347 => ?_) (fun c_347 => ?_)
      · have z_c_347 := jc_neq (a := ((n_338 : Nat) : Int)) (b := 0) c_347 (rl_ti (by omega)) (by decide)
        exact jj_vret C ⟨[], pl_330, rfl, rfl, hok_331, hfr, hfa, ⟨_, n_336, n_337, n_338, hCf, hf_339, hf_340, hf_341, (by omega), (by omega), (by omega), (by omega), (by omega), (fun z9 => by exfalso; omega), rfl⟩⟩ dX11_readSubscription_87 (jj_le rfl) (jj_le rfl)
      · have z_c_347 := jc_eq (a := ((n_338 : Nat) : Int)) (b := 0) c_347 (rl_ti (by omega)) (by decide)
        refine jj_aload_n C dX11_readSubscription_75 rfl ?_
        refine jj_aload_n C dX11_readSubscription_76 rfl ?_
        refine tt_getF C hok_331 jk_12 4 (by decide) jw_69cfdf3f6e (t := (2, 6, 0)) hk0 (by decide) rfl rfl hm.2.2.2.2.1 dX11_readSubscription_77 ?_
        refine jj_iload_n C dX11_readSubscription_80 rfl ?_
        refine jj_lconst (v := 0) C dX11_readSubscription_81 (by decide) ?_
        refine jj_iload_n C dX11_readSubscription_82 rfl ?_
        obtain ⟨y_348, ey_348, vy_348⟩ := tt_i2l x_321
        refine jj_i2l (v := y_348) C dX11_readSubscription_83 ey_348 ?_
        obtain ⟨qc, gs, hqc⟩ := tt_recv (cx := []) hok_331 hk0 (by decide) rfl
        refine tt_callV (rest := []) C (rs_ask_af hl D cA ak x_303 (0 : Int64) y_348 400000000 400000000 f hk0 hkw hka hkt hki hkf hkp hF.1 (by omega) (Or.inl rfl) (fun _ => ⟨by omega, by omega⟩) (by rw [if_pos rfl]; have := hF.2.2.2; omega) hok_331 hm hCf) [] [] rfl rfl (by decide) (by decide) (by decide) qc hqc rfl rfl jw_5aa504ca27 jw_8305b013c0 jw_b768ebc9da jw_f96c99f44d jw_244fd0acfd jn_X11_ask rfl (jj_le rfl) (jj_le rfl) (jj_le rfl) (jj_le rfl) (jj_le rfl) dX11_readSubscription_84 rfl (fun _ _ _ hX => hX.elim) (fun rx pl_349 r O_353 => ?_)
        obtain ⟨rfl, hok_350, hr_351, ha_352, hR_354⟩ := O_353
        replace hs16 := hr_351.at hk0 (by decide) (by decide) hs16
        replace hf_339 := hr_351.at hk0 (by decide) (by decide) hf_339
        replace hf_340 := hr_351.at hk0 (by decide) (by decide) hf_340
        replace hf_341 := hr_351.at hk0 (by decide) (by decide) hf_341
        replace hm := hm.fr hr_351 hk0 rfl
        replace hfr := hfr.trans (hr_351.sub (by decide))
        replace hfa := hfa.trans (ha_352.sub (by decide))
        obtain ⟨g_355, hC_356, hI_357, hq_358, hq_359, hq_360, hq_361, rfl⟩ := hR_354
        exact jj_vret C ⟨[], pl_349, rfl, rfl, hok_350, hfr, hfa, ⟨_, n_336, n_337, n_338, hC_356, hf_339, hf_340, hf_341, (by omega), (by omega), (by omega), (by omega), (by omega), (fun _ => rl_FR.ask (a := y_348.toInt) hF hI_357 (by have q9 := hq_358; rw [if_pos rfl] at q9; exact q9) (by omega) hq_359 (hq_360 9 (by decide) (by decide)) hq_361), rfl⟩⟩ dX11_readSubscription_87 (jj_le rfl) (jj_le rfl)

set_option maxHeartbeats 4000000 in
set_option maxRecDepth 100000 in
theorem rs_parseFund {l : Launch} (hl : l.stackTraces = false) (D : va_G) (cA : Nat → ClassId) (ak : (Nat → Nat) × (Nat → Nat)) {Kd : Nat → Nat} {h0 aw aa at0 ai af ap : Nat} (n13 : Nat) (n6 : Nat) (B C9 : Int) (f P : Nat → Int64) (hk0 : Kd h0 = 1) (hkw : Kd aw = 2) (hka : Kd aa = 3) (hkt : Kd at0 = 4) (hki : Kd ai = 5) (hkf : Kd af = 6) (hkp : Kd ap = 7) (ln13 : (0 : Int) ≤ (n13 : Int)) (un13 : (n13 : Int) ≤ 400) (ln6 : (0 : Int) ≤ (n6 : Int)) (un6 : (n6 : Int) ≤ 10) (hK : rl_K B C9 f) (hHP : rl_HP B C9 P n6) (hB5 : B ≤ 43520000000) (hB0 : 12760000000 ≤ B) (hC9 : 0 ≤ C9 ∧ C9 ≤ 4000000000000000000) {pl0 : va_W} (hok : tt_ok rt_tk cA Kd pl0) (hm : rl_m pl0 h0 aw aa at0 ai af ap) (hC : tt_lc pl0 aw f) (hCp : tt_lc pl0 ap P) (hs6 : tt_at pl0 h0 6 (.int (nI n6))) (hs13 : tt_at pl0 h0 13 (.int (nI n13))) : jj_M l D cA ak yX11_parseFund (.code yX11_parseFund cX11_parseFund 3 (some .int)) 9 228 0 0 ([] ++ pl0) [.ref h0] (tt_O (fun rx pl1 r => rx = [] ∧ tt_ok rt_tk cA Kd pl1 ∧ tt_fr Kd [(1, 6), (1, 7), (1, 8), (1, 9), (1, 13), (1, 14), (1, 15), (1, 16), (1, 17), (1, 18)] pl0 pl1 ∧ tt_fa Kd [2, 5, 6, 8, 9] pl0 pl1 ∧ ((rl_M (B + 30000000) (C9 + 2000) pl1 h0 aw ap ∧ tt_at pl1 h0 13 (.int 0) ∧ ∃ v : Int32, r = some (.int v))))) (tt_OX (fun _ _ _ => False)) := by
  refine jj_start hl (by decide) jw_00b8c50085 (jj_le rfl) ?_
  intro p e s m args below meth c A hargs hA C hex hmn
  have hfr := tt_fr.refl (K := Kd) (WS := [(1, 6), (1, 7), (1, 8), (1, 9), (1, 13), (1, 14), (1, 15), (1, 16), (1, 17), (1, 18)]) pl0
  have hfa := tt_fa.refl (K := Kd) (WA := [2, 5, 6, 8, 9]) pl0
  have hI := hK.1
  have hP := hK.2.1
  have hH := hI.1.1
  obtain ⟨⟨g0a, g0b⟩, ⟨g1a, g1b⟩, ⟨g6a, g6b⟩, ⟨g7a, g7b⟩, ⟨g8a, g8b⟩⟩ := hH
  have hB : B ≤ 43920000000 := by omega
  have hB6 : B + 360000000 ≤ 43920000000 := by omega
  have h9 := hK.h9 (by omega)
  refine jj_aload_n C dX11_parseFund_0 rfl ?_
  refine jj_iconst (v := 0) C dX11_parseFund_1 (by decide) ?_
  refine rl_put C hok jk_12 7 (by decide) jw_0a65e3738e (t := (0, (-2147483648), 2147483647)) hk0 (by decide) rfl rfl rfl (tt_ia (0 : Int32)) rfl rfl dX11_parseFund_2 (fun pl_1 hok_2 tr hn tl => ?_)
  replace hs6 := tr _ _ _ (Or.inr (by decide)) hs6
  replace hs13 := tr _ _ _ (Or.inr (by decide)) hs13
  have hf_3 := hn
  replace hm := hm.put tr (by decide)
  replace hfr := hfr.put hk0 tr (by decide)
  replace hC := tl _ _ hC
  replace hCp := tl _ _ hCp
  replace hfa := hfa.all tl
  refine jj_aload_n C dX11_parseFund_5 rfl ?_
  refine jj_iconst (v := (-1)) C dX11_parseFund_6 (by decide) ?_
  refine rl_put C hok_2 jk_12 18 (by decide) jw_a8ef26b797 (t := (0, (-2147483648), 2147483647)) hk0 (by decide) rfl rfl rfl (tt_ia ((-1) : Int32)) rfl rfl dX11_parseFund_7 (fun pl_4 hok_5 tr hn tl => ?_)
  replace hs6 := tr _ _ _ (Or.inr (by decide)) hs6
  replace hs13 := tr _ _ _ (Or.inr (by decide)) hs13
  replace hf_3 := tr _ _ _ (Or.inr (by decide)) hf_3
  have hf_6 := hn
  replace hm := hm.put tr (by decide)
  replace hfr := hfr.put hk0 tr (by decide)
  replace hC := tl _ _ hC
  replace hCp := tl _ _ hCp
  replace hfa := hfa.all tl
  refine jj_aload_n C dX11_parseFund_10 rfl ?_
  refine tt_getF C hok_5 jk_12 4 (by decide) jw_69cfdf3f6e (t := (2, 6, 0)) hk0 (by decide) rfl rfl hm.2.2.2.2.1 dX11_parseFund_11 ?_
  refine tt_callS (rest := []) C (rs_lay_af hl D cA ak hk0 hkw hka hkt hki hkf hkp hok_5 hm) [] [] rfl rfl (by decide) (by decide) (by decide) jw_3b8ecbdfcd jw_d4f8e1a641 jw_f96c99f44d jw_62f637beca jn_X11_lay rfl (jj_le rfl) (jj_le rfl) (jj_le rfl) (jj_le rfl) (jj_le rfl) dX11_parseFund_14 rfl (fun _ _ _ hX => hX.elim) (fun rx pl_7 r O_11 => ?_)
  obtain ⟨rfl, hok_8, hr_9, ha_10, hR_12⟩ := O_11
  replace hs6 := hr_9.at hk0 (by decide) (by decide) hs6
  replace hs13 := hr_9.at hk0 (by decide) (by decide) hs13
  replace hf_3 := hr_9.at hk0 (by decide) (by decide) hf_3
  replace hf_6 := hr_9.at hk0 (by decide) (by decide) hf_6
  replace hC := ha_10.at hkw (by decide) (by decide) hC
  replace hCp := ha_10.at hkp (by decide) (by decide) hCp
  replace hm := hm.fr hr_9 hk0 rfl
  replace hfr := hfr.trans (hr_9.sub (by decide))
  replace hfa := hfa.trans (ha_10.sub (by decide))
  obtain ⟨g_13, hC_14, hZ_15, rfl⟩ := hR_12
  refine jj_aload_n C dX11_parseFund_17 rfl ?_
  obtain ⟨qc, gs, hqc⟩ := tt_recv (cx := []) hok_8 hk0 (by decide) rfl
  refine tt_callV (rest := []) C (rs_begin hl D cA ak n13 hk0 hkw hka hkt hki hkf hkp (by first | omega | decide) (by first | omega | decide) hok_8 hm hs13) [] [] rfl rfl (by decide) (by decide) (by decide) qc hqc rfl rfl jw_1025d8fa7d jw_5db37f4e19 jw_57740f6cb0 jw_f96c99f44d jw_10a65a4ad6 jn_X11_begin rfl (jj_le rfl) (jj_le rfl) (jj_le rfl) (jj_le rfl) (jj_le rfl) dX11_parseFund_18 rfl (fun _ _ _ hX => hX.elim) (fun rx pl_16 r O_20 => ?_)
  obtain ⟨rfl, hok_17, hr_18, ha_19, hR_21⟩ := O_20
  replace hs6 := hr_18.at hk0 (by decide) (by decide) hs6
  replace hf_3 := hr_18.at hk0 (by decide) (by decide) hf_3
  replace hf_6 := hr_18.at hk0 (by decide) (by decide) hf_6
  replace hC := ha_19.at hkw (by decide) (by decide) hC
  replace hCp := ha_19.at hkp (by decide) (by decide) hCp
  replace hC_14 := ha_19.at hkf (by decide) (by decide) hC_14
  replace hm := hm.fr hr_18 hk0 rfl
  replace hfr := hfr.trans (hr_18.sub (by decide))
  replace hfa := hfa.trans (ha_19.sub (by decide))
  obtain ⟨n_22, n_23, hf_24, hf_25, hf_26, hf_27, hf_28, hq_29, hq_30, rfl⟩ := hR_21
  refine jj_aload_n C dX11_parseFund_21 rfl ?_
  obtain ⟨qc, gs, hqc⟩ := tt_recv (cx := []) hok_17 hk0 (by decide) rfl
  refine tt_callV (rest := []) C (rs_readHead hl D cA ak 0 n13 n_23 n_22 g_13 hk0 hkw hka hkt hki hkf hkp (by first | omega | decide) (by first | omega | decide) (by first | omega | decide) (by first | omega | decide) (by first | omega | decide) (by first | omega | decide) (by first | omega | decide) (by first | omega | decide) (by omega) (by omega) hZ_15 hok_17 hm hC_14 hf_25 hf_26 hf_27 hf_28) [] [] rfl rfl (by decide) (by decide) (by decide) qc hqc rfl rfl jw_39f982543e jw_9a3148fb7a jw_68f7188653 jw_f96c99f44d jw_753a64c668 jn_X11_readHead rfl (jj_le rfl) (jj_le rfl) (jj_le rfl) (jj_le rfl) (jj_le rfl) dX11_parseFund_22 rfl (fun _ _ _ hX => hX.elim) (fun rx pl_31 r O_35 => ?_)
  obtain ⟨rfl, hok_32, hr_33, ha_34, hR_36⟩ := O_35
  replace hs6 := hr_33.at hk0 (by decide) (by decide) hs6
  replace hf_3 := hr_33.at hk0 (by decide) (by decide) hf_3
  replace hf_27 := hr_33.at hk0 (by decide) (by decide) hf_27
  replace hf_24 := hr_33.at hk0 (by decide) (by decide) hf_24
  replace hC := ha_34.at hkw (by decide) (by decide) hC
  replace hCp := ha_34.at hkp (by decide) (by decide) hCp
  replace hm := hm.fr hr_33 hk0 rfl
  replace hfr := hfr.trans (hr_33.sub (by decide))
  replace hfa := hfa.trans (ha_34.sub (by decide))
  obtain ⟨g_37, n_39, n_40, n_41, hC_38, hf_42, hf_43, hf_44, hq_45, hq_46, hq_47, hq_48, rfl⟩ := hR_36
  have hL_49 : ∀ (N : Nat) (pl : va_W) (g_50 : Nat → Int64) (n_54 : Nat) (n_55 : Nat) (n_56 : Nat), True → tt_ok rt_tk cA Kd pl → tt_fr Kd [(1, 6), (1, 7), (1, 8), (1, 9), (1, 13), (1, 14), (1, 15), (1, 16), (1, 17), (1, 18)] pl0 pl → tt_fa Kd [2, 5, 6, 8, 9] pl0 pl → rl_m pl h0 aw aa at0 ai af ap → tt_at pl h0 6 (.int (nI n6)) → tt_at pl h0 16 (.int (nI n13)) → tt_at pl h0 13 (.int 0) → tt_lc pl aw f → tt_lc pl ap P → tt_lc pl af g_50 → (n_56 = 0 → rl_FR g_50) → tt_at pl h0 14 (.int (nI n_54)) → tt_at pl h0 15 (.int (nI n_55)) → tt_at pl h0 17 (.int (nI n_56)) → (0 : Int) ≤ (n_54 : Int) → (n_54 : Int) ≤ 400 → (0 : Int) ≤ (n_55 : Int) → (n_55 : Int) ≤ 400 → (0 : Int) ≤ (n_56 : Int) → (n_56 : Int) ≤ 3 → (((n_54 : Nat) : Int) ≤ ((n_55 : Nat) : Int) ∧ ((n_55 : Nat) : Int) ≤ ((n13 : Nat) : Int)) → (1000 * (3 - ((n_56 : Nat) : Int)) + (((n13 : Nat) : Int) - ((n_54 : Nat) : Int)) + 1 ≤ (N : Int)) → jj_J p l e (jj_rm 9 228 0 0) s m args below meth c 3 A (vx_MQ below (jj_q D A (tt_O (fun rx pl1 r => rx = [] ∧ tt_ok rt_tk cA Kd pl1 ∧ tt_fr Kd [(1, 6), (1, 7), (1, 8), (1, 9), (1, 13), (1, 14), (1, 15), (1, 16), (1, 17), (1, 18)] pl0 pl1 ∧ tt_fa Kd [2, 5, 6, 8, 9] pl0 pl1 ∧ ((rl_M (B + 30000000) (C9 + 2000) pl1 h0 aw ap ∧ tt_at pl1 h0 13 (.int 0) ∧ ∃ v : Int32, r = some (.int v)))))) (jj_x D A (tt_OX (fun _ _ _ => False))) args s 0 0 A) (jj_X D A ([] ++ pl)) 0 0 25 [(0, .ref h0)] [] := by
    intro NL_49
    induction NL_49 with
    | zero => intro pl g_50 n_54 n_55 n_56 _ hok hfr hfa hm hf_51 hf_52 hf_53 hC hCp hC_57 hD_58 hf_59 hf_60 hf_61 ln_54 un_54 ln_55 un_55 ln_56 un_56 hS9 hNL_49; exfalso; omega
    | succ NL_49 ihL_49 =>
      intro pl g_50 n_54 n_55 n_56 _ hok hfr hfa hm hf_51 hf_52 hf_53 hC hCp hC_57 hD_58 hf_59 hf_60 hf_61 ln_54 un_54 ln_55 un_55 ln_56 un_56 hS9 hNL_49
      replace ihL_49 := fun pl g_50 n_54 n_55 n_56 h1 => ihL_49 pl g_50 n_54 n_55 n_56 trivial h1
      refine jj_aload_n C dX11_parseFund_25 rfl ?_
      refine tt_getF C hok jk_12 17 (by decide) jw_17e99f0710 (t := (0, (-2147483648), 2147483647)) hk0 (by decide) rfl rfl hf_61 dX11_parseFund_26 ?_
      refine jj_if_ne (tgt := 50) C dX11_parseFund_29 (by decide) (fun c_62 => ?_) (fun c_62 => ?_)
      · have z_c_62 := jc_neq (a := ((n_56 : Nat) : Int)) (b := 0) c_62 (rl_ti (by omega)) (by decide)
        refine jj_aload_n C dX11_parseFund_50 rfl ?_
        refine tt_getF C hok jk_12 17 (by decide) jw_17e99f0710 (t := (0, (-2147483648), 2147483647)) hk0 (by decide) rfl rfl hf_61 dX11_parseFund_51 ?_
        refine jj_if_le (tgt := 59) C dX11_parseFund_54 (by decide) (fun c_63 => ?_) (fun c_63 => ?_)
        · have z_c_63 := jc_le (a := ((n_56 : Nat) : Int)) (b := 0) c_63 (rl_ti (by omega)) (by decide)
          exfalso; omega
        · have z_c_63 := jc_nle (a := ((n_56 : Nat) : Int)) (b := 0) c_63 (rl_ti (by omega)) (by decide)
          refine jj_iconst (v := (-1)) C dX11_parseFund_57 (by decide) ?_
          exact jj_iret C ⟨[], pl, rfl, rfl, hok, hfr, hfa, ⟨⟨f, P, n6, hC, hCp, hf_51, (by omega), hK.mono (by omega) (by omega), hHP.mono (by omega) (by omega)⟩, hf_53, ((-1) : Int32), rfl⟩⟩ dX11_parseFund_58 (jj_le rfl) (jj_le rfl)
      · have z_c_62 := jc_eq (a := ((n_56 : Nat) : Int)) (b := 0) c_62 (rl_ti (by omega)) (by decide)
        refine jj_aload_n C dX11_parseFund_32 rfl ?_
        refine tt_getF C hok jk_12 14 (by decide) jw_6446e1fd81 (t := (0, 0, 400)) hk0 (by decide) rfl rfl hf_59 dX11_parseFund_33 ?_
        refine jj_aload_n C dX11_parseFund_36 rfl ?_
        refine tt_getF C hok jk_12 16 (by decide) jw_28b46cb90c (t := (0, 0, 400)) hk0 (by decide) rfl rfl hf_52 dX11_parseFund_37 ?_
        refine jj_icmp_ge (tgt := 50) C dX11_parseFund_40 (by decide) (fun c_64 => ?_) (fun c_64 => ?_)
        · have z_c_64 := jc_le (a := ((n13 : Nat) : Int)) (b := ((n_54 : Nat) : Int)) c_64 (rl_ti (by omega)) (rl_ti (by omega))
          refine jj_aload_n C dX11_parseFund_50 rfl ?_
          refine tt_getF C hok jk_12 17 (by decide) jw_17e99f0710 (t := (0, (-2147483648), 2147483647)) hk0 (by decide) rfl rfl hf_61 dX11_parseFund_51 ?_
          refine jj_if_le (tgt := 59) C dX11_parseFund_54 (by decide) (fun c_65 => ?_) (fun c_65 => ?_)
          · have z_c_65 := jc_le (a := ((n_56 : Nat) : Int)) (b := 0) c_65 (rl_ti (by omega)) (by decide)
            have hK_66 : rl_K B C9 g_50 := (hD_58 (by omega)).K (by omega) (by omega)
            refine jj_aload_n C dX11_parseFund_59 rfl ?_
            refine tt_getF C hok jk_12 4 (by decide) jw_69cfdf3f6e (t := (2, 6, 0)) hk0 (by decide) rfl rfl hm.2.2.2.2.1 dX11_parseFund_60 ?_
            refine jj_aload_n C dX11_parseFund_63 rfl ?_
            refine tt_getF C hok jk_12 0 (by decide) jw_34eaf3ba8b (t := (2, 2, 0)) hk0 (by decide) rfl rfl hm.1 dX11_parseFund_64 ?_
            refine tt_callS (rest := []) C (rs_copy_af_aw hl D cA ak g_50 hk0 hkw hka hkt hki hkf hkp hok hm hC_57) [] [] rfl rfl (by decide) (by decide) (by decide) jw_b2f7d68e03 jw_8cf8ac8b0e jw_f96c99f44d jw_1431b790b8 jn_X11_copy rfl (jj_le rfl) (jj_le rfl) (jj_le rfl) (jj_le rfl) (jj_le rfl) dX11_parseFund_67 rfl (fun _ _ _ hX => hX.elim) (fun rx pl_67 r O_71 => ?_)
            obtain ⟨rfl, hok_68, hr_69, ha_70, hR_72⟩ := O_71
            replace hf_51 := hr_69.at hk0 (by decide) (by decide) hf_51
            replace hf_52 := hr_69.at hk0 (by decide) (by decide) hf_52
            replace hf_53 := hr_69.at hk0 (by decide) (by decide) hf_53
            replace hf_59 := hr_69.at hk0 (by decide) (by decide) hf_59
            replace hf_60 := hr_69.at hk0 (by decide) (by decide) hf_60
            replace hf_61 := hr_69.at hk0 (by decide) (by decide) hf_61
            replace hCp := ha_70.at hkp (by decide) (by decide) hCp
            replace hC_57 := ha_70.at hkf (by decide) (by decide) hC_57
            replace hm := hm.fr hr_69 hk0 rfl
            replace hfr := hfr.trans (hr_69.sub (by decide))
            replace hfa := hfa.trans (ha_70.sub (by decide))
            obtain ⟨g_73, hC_74, he_75, rfl⟩ := hR_72
            obtain ⟨⟨g0ag_73, g0bg_73⟩, ⟨g1ag_73, g1bg_73⟩, ⟨g6ag_73, g6bg_73⟩, ⟨g7ag_73, g7bg_73⟩, ⟨g8ag_73, g8bg_73⟩⟩ := (rl_I.cong hK_66.1 he_75).1.1.1
            refine jj_aload_n C dX11_parseFund_70 rfl ?_
            refine jj_iconst (v := 0) C dX11_parseFund_71 (by decide) ?_
            refine rl_put C hok_68 jk_12 6 (by decide) jw_39db7f12ad (t := (0, 0, 10)) hk0 (by decide) rfl rfl rfl (tt_iv (by decide) (by decide)) rfl rfl dX11_parseFund_72 (fun pl_76 hok_77 tr hn tl => ?_)
            replace hf_52 := tr _ _ _ (Or.inr (by decide)) hf_52
            replace hf_53 := tr _ _ _ (Or.inr (by decide)) hf_53
            replace hf_59 := tr _ _ _ (Or.inr (by decide)) hf_59
            replace hf_60 := tr _ _ _ (Or.inr (by decide)) hf_60
            replace hf_61 := tr _ _ _ (Or.inr (by decide)) hf_61
            have hf_78 := hn
            replace hm := hm.put tr (by decide)
            replace hfr := hfr.put hk0 tr (by decide)
            replace hCp := tl _ _ hCp
            replace hC_57 := tl _ _ hC_57
            replace hC_74 := tl _ _ hC_74
            replace hfa := hfa.all tl
            refine jj_aload_n C dX11_parseFund_75 rfl ?_
            refine tt_getF C hok_77 jk_12 0 (by decide) jw_34eaf3ba8b (t := (2, 2, 0)) hk0 (by decide) rfl rfl hm.1 dX11_parseFund_76 ?_
            refine jj_bipush (v := 8) C dX11_parseFund_79 (by decide) ?_
            refine rl_lald C hok_77 (t := (1, (-9223372036854775808), 9223372036854775807)) hkw (by decide) rfl (k := 8) (v := (g_73 8)) (vp_in_iff.mpr (by decide)) hC_74 (by decide) rfl dX11_parseFund_81 ?_
            obtain ⟨n_79, en_79, vn_79⟩ := rl_l2i (x := (g_73 8)) (by omega) (by omega)
            refine jj_l2i (v := nI n_79) C dX11_parseFund_82 en_79 ?_
            refine jj_istore_n C dX11_parseFund_83 (by decide) rfl ?_
            refine jj_aload_n C dX11_parseFund_84 rfl ?_
            obtain ⟨qc, gs, hqc⟩ := tt_recv (cx := []) hok_77 hk0 (by decide) rfl
            refine tt_callV (rest := []) C (rs_dealNow hl D cA ak B g_73 hk0 hkw hka hkt hki hkf hkp (rl_I.cong hK_66.1 he_75).1 (hK_66.2.1.cong hK_66.1 he_75) hB6 ((hK_66.cong he_75).h9 (by omega)) hok_77 hm hC_74) [] [] rfl rfl (by decide) (by decide) (by decide) qc hqc rfl rfl jw_10d6ffe387 jw_c13a582434 jw_c2b73db722 jw_f96c99f44d jw_fad3683772 jn_X11_dealNow rfl (jj_le rfl) (jj_le rfl) (jj_le rfl) (jj_le rfl) (jj_le rfl) dX11_parseFund_85 rfl (fun _ _ _ hX => hX.elim) (fun rx pl_80 r O_84 => ?_)
            obtain ⟨rfl, hok_81, hr_82, ha_83, hR_85⟩ := O_84
            replace hf_52 := hr_82.at hk0 (by decide) (by decide) hf_52
            replace hf_53 := hr_82.at hk0 (by decide) (by decide) hf_53
            replace hf_59 := hr_82.at hk0 (by decide) (by decide) hf_59
            replace hf_60 := hr_82.at hk0 (by decide) (by decide) hf_60
            replace hf_61 := hr_82.at hk0 (by decide) (by decide) hf_61
            replace hf_78 := hr_82.at hk0 (by decide) (by decide) hf_78
            replace hCp := ha_83.at hkp (by decide) (by decide) hCp
            replace hC_57 := ha_83.at hkf (by decide) (by decide) hC_57
            replace hm := hm.fr hr_82 hk0 rfl
            replace hfr := hfr.trans (hr_82.sub (by decide))
            replace hfa := hfa.trans (ha_83.sub (by decide))
            obtain ⟨g_86, hC_87, hI_88, hP_89, hq_90, hq_91, hq_92, x_93, rfl⟩ := hR_85
            obtain ⟨⟨g0ag_86, g0bg_86⟩, ⟨g1ag_86, g1bg_86⟩, ⟨g6ag_86, g6bg_86⟩, ⟨g7ag_86, g7bg_86⟩, ⟨g8ag_86, g8bg_86⟩⟩ := hI_88.1.1
            refine jj_istore_n C dX11_parseFund_88 (by decide) rfl ?_
            refine jj_iload_n C dX11_parseFund_89 rfl ?_
            exact jj_iret C ⟨[], pl_80, rfl, rfl, hok_81, hfr, hfa, ⟨⟨_, P, 0, hC_87, hCp, hf_78, (by omega), ⟨hI_88.mono (by omega), hP_89, (by have q9 := hq_92; have q8 := (hK_66.cong he_75).2.2; omega)⟩, rl_HP.zero _ _ _⟩, hf_53, (nI n_79), rfl⟩⟩ dX11_parseFund_90 (jj_le rfl) (jj_le rfl)
          · have z_c_65 := jc_nle (a := ((n_56 : Nat) : Int)) (b := 0) c_65 (rl_ti (by omega)) (by decide)
            exfalso; omega
        · have z_c_64 := jc_nle (a := ((n13 : Nat) : Int)) (b := ((n_54 : Nat) : Int)) c_64 (rl_ti (by omega)) (rl_ti (by omega))
          refine jj_aload_n C dX11_parseFund_43 rfl ?_
          obtain ⟨qc, gs, hqc⟩ := tt_recv (cx := []) hok hk0 (by decide) rfl
          refine tt_callV (rest := []) C (rs_readSubscription hl D cA ak n_56 n13 n_55 n_54 g_50 hk0 hkw hka hkt hki hkf hkp (by first | omega | decide) (by first | omega | decide) (by first | omega | decide) (by first | omega | decide) (by first | omega | decide) (by first | omega | decide) (by first | omega | decide) (by first | omega | decide) (by omega) (by omega) (by omega) (hD_58 (by omega)) hok hm hC_57 hf_59 hf_60 hf_52 hf_61) [] [] rfl rfl (by decide) (by decide) (by decide) qc hqc rfl rfl jw_2b71fe6d67 jw_0bfb84ee11 jw_aba2f4e372 jw_f96c99f44d jw_da8ec0ee3d jn_X11_readSubscription rfl (jj_le rfl) (jj_le rfl) (jj_le rfl) (jj_le rfl) (jj_le rfl) dX11_parseFund_44 rfl (fun _ _ _ hX => hX.elim) (fun rx pl_94 r O_98 => ?_)
          obtain ⟨rfl, hok_95, hr_96, ha_97, hR_99⟩ := O_98
          replace hf_51 := hr_96.at hk0 (by decide) (by decide) hf_51
          replace hf_52 := hr_96.at hk0 (by decide) (by decide) hf_52
          replace hf_53 := hr_96.at hk0 (by decide) (by decide) hf_53
          replace hC := ha_97.at hkw (by decide) (by decide) hC
          replace hCp := ha_97.at hkp (by decide) (by decide) hCp
          replace hm := hm.fr hr_96 hk0 rfl
          replace hfr := hfr.trans (hr_96.sub (by decide))
          replace hfa := hfa.trans (ha_97.sub (by decide))
          obtain ⟨g_100, n_102, n_103, n_104, hC_101, hf_105, hf_106, hf_107, hq_108, hq_109, hq_110, hq_111, hq_112, hq_113, rfl⟩ := hR_99
          refine jj_goto (tgt := 25) C dX11_parseFund_47 (by decide) ?_
          exact ihL_49 pl_94 g_100 n_102 n_103 n_104 hok_95 hfr hfa hm hf_51 hf_52 hf_53 hC hCp hC_101 hq_113 hf_105 hf_106 hf_107 (by first | omega | decide | exact tt_lo _ | exact tt_hi _) (by first | omega | decide | exact tt_lo _ | exact tt_hi _) (by first | omega | decide | exact tt_lo _ | exact tt_hi _) (by first | omega | decide | exact tt_lo _ | exact tt_hi _) (by first | omega | decide | exact tt_lo _ | exact tt_hi _) (by first | omega | decide | exact tt_lo _ | exact tt_hi _) ⟨by omega, by omega⟩ (by first | omega | decide | exact tt_lo _ | exact tt_hi _)
  exact hL_49 _ pl_31 g_37 n_39 n_40 n_41 trivial hok_32 hfr hfa hm hs6 hf_27 hf_24 hC hCp hC_38 hq_48 hf_42 hf_43 hf_44 (by first | omega | decide | exact tt_lo _ | exact tt_hi _) (by first | omega | decide | exact tt_lo _ | exact tt_hi _) (by first | omega | decide | exact tt_lo _ | exact tt_hi _) (by first | omega | decide | exact tt_lo _ | exact tt_hi _) (by first | omega | decide | exact tt_lo _ | exact tt_hi _) (by first | omega | decide | exact tt_lo _ | exact tt_hi _) ⟨by omega, by omega⟩ (Int.self_le_toNat _)

set_option maxHeartbeats 4000000 in
set_option maxRecDepth 100000 in
theorem rs_operation {l : Launch} (hl : l.stackTraces = false) (D : va_G) (cA : Nat → ClassId) (ak : (Nat → Nat) × (Nat → Nat)) {Kd : Nat → Nat} {h0 aw aa at0 ai af ap : Nat} (n16 : Nat) (n15 : Nat) (n14 : Nat) (hk0 : Kd h0 = 1) (hkw : Kd aw = 2) (hka : Kd aa = 3) (hkt : Kd at0 = 4) (hki : Kd ai = 5) (hkf : Kd af = 6) (hkp : Kd ap = 7) (ln16 : (0 : Int) ≤ (n16 : Int)) (un16 : (n16 : Int) ≤ 400) (ln15 : (0 : Int) ≤ (n15 : Int)) (un15 : (n15 : Int) ≤ 400) (ln14 : (0 : Int) ≤ (n14 : Int)) (un14 : (n14 : Int) ≤ 400) (h45 : n14 ≤ n15) (h56 : n15 ≤ n16) {pl0 : va_W} (hok : tt_ok rt_tk cA Kd pl0) (hm : rl_m pl0 h0 aw aa at0 ai af ap) (hs14 : tt_at pl0 h0 14 (.int (nI n14))) (hs15 : tt_at pl0 h0 15 (.int (nI n15))) (hs16 : tt_at pl0 h0 16 (.int (nI n16))) : jj_M l D cA ak yX11_operation (.code yX11_operation cX11_operation 1 (some .int)) 5 108 0 0 ([] ++ pl0) [.ref h0] (tt_O (fun rx pl1 r => rx = [] ∧ tt_ok rt_tk cA Kd pl1 ∧ tt_fr Kd [] pl0 pl1 ∧ tt_fa Kd [] pl0 pl1 ∧ ((r = some (.int (-1))) ∨ (∃ v : Int32, 1 ≤ v.toInt ∧ v.toInt ≤ 7 ∧ r = some (.int v)) ∨ (n15 = n14 + 9 ∧ r = some (.int 0))))) (tt_OX (fun _ _ _ => False)) := by
  refine jj_start hl (by decide) jw_9e00105889 (jj_le rfl) ?_
  intro p e s m args below meth c A hargs hA C hex hmn
  have hfr := tt_fr.refl (K := Kd) (WS := []) pl0
  have hfa := tt_fa.refl (K := Kd) (WA := []) pl0
  refine jj_aload_n C dX11_operation_0 rfl ?_
  refine jj_ldcsw (k := 25) (tx := "subscribe") C dX11_operation_1 (by decide +kernel) ?_
  obtain ⟨qc, gs, hqc⟩ := tt_recv (cx := []) hok hk0 (by decide) rfl
  refine tt_callV (rest := []) C (rs_isWord_subscribe hl D cA ak n16 n15 n14 hk0 hkw hka hkt hki hkf hkp (by first | omega | decide) (by first | omega | decide) (by first | omega | decide) (by first | omega | decide) (by first | omega | decide) (by first | omega | decide) (by omega) (by omega) hok hm hs14 hs15 hs16) [] [] rfl rfl (by decide) (by decide) (by decide) qc hqc rfl rfl jw_04296bb1c5 jw_2d2d3dccfc jw_f04e1767ef jw_f96c99f44d jw_f54d9c537b jn_X11_isWord rfl (jj_le rfl) (jj_le rfl) (jj_le rfl) (jj_le rfl) (jj_le rfl) dX11_operation_4 rfl (fun _ _ _ hX => hX.elim) (fun rx pl_1 r O_5 => ?_)
  obtain ⟨rfl, hok_2, hr_3, ha_4, hR_6⟩ := O_5
  replace hs14 := hr_3.at hk0 (by decide) (by decide) hs14
  replace hs15 := hr_3.at hk0 (by decide) (by decide) hs15
  replace hs16 := hr_3.at hk0 (by decide) (by decide) hs16
  replace hm := hm.fr hr_3 hk0 rfl
  replace hfr := hfr.trans (hr_3.sub (by decide))
  replace hfa := hfa.trans (ha_4.sub (by decide))
  rcases hR_6 with rfl | ⟨hw_7, rfl⟩
  · refine jj_if_eqT (tgt := 12) C dX11_operation_7 (by decide) (by decide) ?_
    refine jj_aload_n C dX11_operation_12 rfl ?_
    refine jj_ldcsw (k := 26) (tx := "redeem") C dX11_operation_13 (by decide +kernel) ?_
    obtain ⟨qc, gs, hqc⟩ := tt_recv (cx := []) hok_2 hk0 (by decide) rfl
    refine tt_callV (rest := []) C (rs_isWord_redeem hl D cA ak n16 n15 n14 hk0 hkw hka hkt hki hkf hkp (by first | omega | decide) (by first | omega | decide) (by first | omega | decide) (by first | omega | decide) (by first | omega | decide) (by first | omega | decide) (by omega) (by omega) hok_2 hm hs14 hs15 hs16) [] [] rfl rfl (by decide) (by decide) (by decide) qc hqc rfl rfl jw_04296bb1c5 jw_2d2d3dccfc jw_f04e1767ef jw_f96c99f44d jw_f54d9c537b jn_X11_isWord rfl (jj_le rfl) (jj_le rfl) (jj_le rfl) (jj_le rfl) (jj_le rfl) dX11_operation_16 rfl (fun _ _ _ hX => hX.elim) (fun rx pl_8 r O_12 => ?_)
    obtain ⟨rfl, hok_9, hr_10, ha_11, hR_13⟩ := O_12
    replace hs14 := hr_10.at hk0 (by decide) (by decide) hs14
    replace hs15 := hr_10.at hk0 (by decide) (by decide) hs15
    replace hs16 := hr_10.at hk0 (by decide) (by decide) hs16
    replace hm := hm.fr hr_10 hk0 rfl
    replace hfr := hfr.trans (hr_10.sub (by decide))
    replace hfa := hfa.trans (ha_11.sub (by decide))
    rcases hR_13 with rfl | ⟨hw_14, rfl⟩
    · refine jj_if_eqT (tgt := 24) C dX11_operation_19 (by decide) (by decide) ?_
      refine jj_aload_n C dX11_operation_24 rfl ?_
      refine jj_ldcsw (k := 27) (tx := "deal") C dX11_operation_25 (by decide +kernel) ?_
      obtain ⟨qc, gs, hqc⟩ := tt_recv (cx := []) hok_9 hk0 (by decide) rfl
      refine tt_callV (rest := []) C (rs_isWord_deal hl D cA ak n16 n15 n14 hk0 hkw hka hkt hki hkf hkp (by first | omega | decide) (by first | omega | decide) (by first | omega | decide) (by first | omega | decide) (by first | omega | decide) (by first | omega | decide) (by omega) (by omega) hok_9 hm hs14 hs15 hs16) [] [] rfl rfl (by decide) (by decide) (by decide) qc hqc rfl rfl jw_04296bb1c5 jw_2d2d3dccfc jw_f04e1767ef jw_f96c99f44d jw_f54d9c537b jn_X11_isWord rfl (jj_le rfl) (jj_le rfl) (jj_le rfl) (jj_le rfl) (jj_le rfl) dX11_operation_28 rfl (fun _ _ _ hX => hX.elim) (fun rx pl_15 r O_19 => ?_)
      obtain ⟨rfl, hok_16, hr_17, ha_18, hR_20⟩ := O_19
      replace hs14 := hr_17.at hk0 (by decide) (by decide) hs14
      replace hs15 := hr_17.at hk0 (by decide) (by decide) hs15
      replace hs16 := hr_17.at hk0 (by decide) (by decide) hs16
      replace hm := hm.fr hr_17 hk0 rfl
      replace hfr := hfr.trans (hr_17.sub (by decide))
      replace hfa := hfa.trans (ha_18.sub (by decide))
      rcases hR_20 with rfl | ⟨hw_21, rfl⟩
      · refine jj_if_eqT (tgt := 36) C dX11_operation_31 (by decide) (by decide) ?_
        refine jj_aload_n C dX11_operation_36 rfl ?_
        refine jj_ldcsw (k := 28) (tx := "gain") C dX11_operation_37 (by decide +kernel) ?_
        obtain ⟨qc, gs, hqc⟩ := tt_recv (cx := []) hok_16 hk0 (by decide) rfl
        refine tt_callV (rest := []) C (rs_isWord_gain hl D cA ak n16 n15 n14 hk0 hkw hka hkt hki hkf hkp (by first | omega | decide) (by first | omega | decide) (by first | omega | decide) (by first | omega | decide) (by first | omega | decide) (by first | omega | decide) (by omega) (by omega) hok_16 hm hs14 hs15 hs16) [] [] rfl rfl (by decide) (by decide) (by decide) qc hqc rfl rfl jw_04296bb1c5 jw_2d2d3dccfc jw_f04e1767ef jw_f96c99f44d jw_f54d9c537b jn_X11_isWord rfl (jj_le rfl) (jj_le rfl) (jj_le rfl) (jj_le rfl) (jj_le rfl) dX11_operation_40 rfl (fun _ _ _ hX => hX.elim) (fun rx pl_22 r O_26 => ?_)
        obtain ⟨rfl, hok_23, hr_24, ha_25, hR_27⟩ := O_26
        replace hs14 := hr_24.at hk0 (by decide) (by decide) hs14
        replace hs15 := hr_24.at hk0 (by decide) (by decide) hs15
        replace hs16 := hr_24.at hk0 (by decide) (by decide) hs16
        replace hm := hm.fr hr_24 hk0 rfl
        replace hfr := hfr.trans (hr_24.sub (by decide))
        replace hfa := hfa.trans (ha_25.sub (by decide))
        rcases hR_27 with rfl | ⟨hw_28, rfl⟩
        · refine jj_if_eqT (tgt := 48) C dX11_operation_43 (by decide) (by decide) ?_
          refine jj_aload_n C dX11_operation_48 rfl ?_
          refine jj_ldcsw (k := 29) (tx := "lose") C dX11_operation_49 (by decide +kernel) ?_
          obtain ⟨qc, gs, hqc⟩ := tt_recv (cx := []) hok_23 hk0 (by decide) rfl
          refine tt_callV (rest := []) C (rs_isWord_lose hl D cA ak n16 n15 n14 hk0 hkw hka hkt hki hkf hkp (by first | omega | decide) (by first | omega | decide) (by first | omega | decide) (by first | omega | decide) (by first | omega | decide) (by first | omega | decide) (by omega) (by omega) hok_23 hm hs14 hs15 hs16) [] [] rfl rfl (by decide) (by decide) (by decide) qc hqc rfl rfl jw_04296bb1c5 jw_2d2d3dccfc jw_f04e1767ef jw_f96c99f44d jw_f54d9c537b jn_X11_isWord rfl (jj_le rfl) (jj_le rfl) (jj_le rfl) (jj_le rfl) (jj_le rfl) dX11_operation_52 rfl (fun _ _ _ hX => hX.elim) (fun rx pl_29 r O_33 => ?_)
          obtain ⟨rfl, hok_30, hr_31, ha_32, hR_34⟩ := O_33
          replace hs14 := hr_31.at hk0 (by decide) (by decide) hs14
          replace hs15 := hr_31.at hk0 (by decide) (by decide) hs15
          replace hs16 := hr_31.at hk0 (by decide) (by decide) hs16
          replace hm := hm.fr hr_31 hk0 rfl
          replace hfr := hfr.trans (hr_31.sub (by decide))
          replace hfa := hfa.trans (ha_32.sub (by decide))
          rcases hR_34 with rfl | ⟨hw_35, rfl⟩
          · refine jj_if_eqT (tgt := 60) C dX11_operation_55 (by decide) (by decide) ?_
            refine jj_aload_n C dX11_operation_60 rfl ?_
            refine jj_ldcsw (k := 30) (tx := "pass") C dX11_operation_61 (by decide +kernel) ?_
            obtain ⟨qc, gs, hqc⟩ := tt_recv (cx := []) hok_30 hk0 (by decide) rfl
            refine tt_callV (rest := []) C (rs_isWord_pass hl D cA ak n16 n15 n14 hk0 hkw hka hkt hki hkf hkp (by first | omega | decide) (by first | omega | decide) (by first | omega | decide) (by first | omega | decide) (by first | omega | decide) (by first | omega | decide) (by omega) (by omega) hok_30 hm hs14 hs15 hs16) [] [] rfl rfl (by decide) (by decide) (by decide) qc hqc rfl rfl jw_04296bb1c5 jw_2d2d3dccfc jw_f04e1767ef jw_f96c99f44d jw_f54d9c537b jn_X11_isWord rfl (jj_le rfl) (jj_le rfl) (jj_le rfl) (jj_le rfl) (jj_le rfl) dX11_operation_64 rfl (fun _ _ _ hX => hX.elim) (fun rx pl_36 r O_40 => ?_)
            obtain ⟨rfl, hok_37, hr_38, ha_39, hR_41⟩ := O_40
            replace hs14 := hr_38.at hk0 (by decide) (by decide) hs14
            replace hs15 := hr_38.at hk0 (by decide) (by decide) hs15
            replace hs16 := hr_38.at hk0 (by decide) (by decide) hs16
            replace hm := hm.fr hr_38 hk0 rfl
            replace hfr := hfr.trans (hr_38.sub (by decide))
            replace hfa := hfa.trans (ha_39.sub (by decide))
            rcases hR_41 with rfl | ⟨hw_42, rfl⟩
            · refine jj_if_eqT (tgt := 72) C dX11_operation_67 (by decide) (by decide) ?_
              refine jj_aload_n C dX11_operation_72 rfl ?_
              refine jj_ldcsw (k := 31) (tx := "crystallize") C dX11_operation_73 (by decide +kernel) ?_
              obtain ⟨qc, gs, hqc⟩ := tt_recv (cx := []) hok_37 hk0 (by decide) rfl
              refine tt_callV (rest := []) C (rs_isWord_crystallize hl D cA ak n16 n15 n14 hk0 hkw hka hkt hki hkf hkp (by first | omega | decide) (by first | omega | decide) (by first | omega | decide) (by first | omega | decide) (by first | omega | decide) (by first | omega | decide) (by omega) (by omega) hok_37 hm hs14 hs15 hs16) [] [] rfl rfl (by decide) (by decide) (by decide) qc hqc rfl rfl jw_04296bb1c5 jw_2d2d3dccfc jw_f04e1767ef jw_f96c99f44d jw_f54d9c537b jn_X11_isWord rfl (jj_le rfl) (jj_le rfl) (jj_le rfl) (jj_le rfl) (jj_le rfl) dX11_operation_76 rfl (fun _ _ _ hX => hX.elim) (fun rx pl_43 r O_47 => ?_)
              obtain ⟨rfl, hok_44, hr_45, ha_46, hR_48⟩ := O_47
              replace hs14 := hr_45.at hk0 (by decide) (by decide) hs14
              replace hs15 := hr_45.at hk0 (by decide) (by decide) hs15
              replace hs16 := hr_45.at hk0 (by decide) (by decide) hs16
              replace hm := hm.fr hr_45 hk0 rfl
              replace hfr := hfr.trans (hr_45.sub (by decide))
              replace hfa := hfa.trans (ha_46.sub (by decide))
              rcases hR_48 with rfl | ⟨hw_49, rfl⟩
              · refine jj_if_eqT (tgt := 87) C dX11_operation_79 (by decide) (by decide) ?_
                refine jj_aload_n C dX11_operation_87 rfl ?_
                refine jj_ldcsw (k := 32) (tx := "merge") C dX11_operation_88 (by decide +kernel) ?_
                obtain ⟨qc, gs, hqc⟩ := tt_recv (cx := []) hok_44 hk0 (by decide) rfl
                refine tt_callV (rest := []) C (rs_isWord_merge hl D cA ak n16 n15 n14 hk0 hkw hka hkt hki hkf hkp (by first | omega | decide) (by first | omega | decide) (by first | omega | decide) (by first | omega | decide) (by first | omega | decide) (by first | omega | decide) (by omega) (by omega) hok_44 hm hs14 hs15 hs16) [] [] rfl rfl (by decide) (by decide) (by decide) qc hqc rfl rfl jw_04296bb1c5 jw_2d2d3dccfc jw_f04e1767ef jw_f96c99f44d jw_f54d9c537b jn_X11_isWord rfl (jj_le rfl) (jj_le rfl) (jj_le rfl) (jj_le rfl) (jj_le rfl) dX11_operation_91 rfl (fun _ _ _ hX => hX.elim) (fun rx pl_50 r O_54 => ?_)
                obtain ⟨rfl, hok_51, hr_52, ha_53, hR_55⟩ := O_54
                replace hs14 := hr_52.at hk0 (by decide) (by decide) hs14
                replace hs15 := hr_52.at hk0 (by decide) (by decide) hs15
                replace hs16 := hr_52.at hk0 (by decide) (by decide) hs16
                replace hm := hm.fr hr_52 hk0 rfl
                replace hfr := hfr.trans (hr_52.sub (by decide))
                replace hfa := hfa.trans (ha_53.sub (by decide))
                rcases hR_55 with rfl | ⟨hw_56, rfl⟩
                · refine jj_if_eqT (tgt := 102) C dX11_operation_94 (by decide) (by decide) ?_
                  refine jj_iconst (v := (-1)) C dX11_operation_102 (by decide) ?_
                  exact jj_iret C ⟨[], pl_50, rfl, rfl, hok_51, hfr, hfa, (Or.inl rfl)⟩ dX11_operation_103 (jj_le rfl) (jj_le rfl)
                · refine jj_if_eqF (tgt := 102) C dX11_operation_94 (by decide) (by decide) ?_
                  refine jj_bipush (v := 7) C dX11_operation_97 (by decide) ?_
                  refine jj_goto (tgt := 103) C dX11_operation_99 (by decide) ?_
                  exact jj_iret C ⟨[], pl_50, rfl, rfl, hok_51, hfr, hfa, (Or.inr (Or.inl ⟨(7 : Int32), (by decide), (by decide), rfl⟩))⟩ dX11_operation_103 (jj_le rfl) (jj_le rfl)
              · refine jj_if_eqF (tgt := 87) C dX11_operation_79 (by decide) (by decide) ?_
                refine jj_bipush (v := 6) C dX11_operation_82 (by decide) ?_
                refine jj_goto (tgt := 103) C dX11_operation_84 (by decide) ?_
                exact jj_iret C ⟨[], pl_43, rfl, rfl, hok_44, hfr, hfa, (Or.inr (Or.inl ⟨(6 : Int32), (by decide), (by decide), rfl⟩))⟩ dX11_operation_103 (jj_le rfl) (jj_le rfl)
            · refine jj_if_eqF (tgt := 72) C dX11_operation_67 (by decide) (by decide) ?_
              refine jj_iconst (v := 5) C dX11_operation_70 (by decide) ?_
              exact jj_iret C ⟨[], pl_36, rfl, rfl, hok_37, hfr, hfa, (Or.inr (Or.inl ⟨(5 : Int32), (by decide), (by decide), rfl⟩))⟩ dX11_operation_71 (jj_le rfl) (jj_le rfl)
          · refine jj_if_eqF (tgt := 60) C dX11_operation_55 (by decide) (by decide) ?_
            refine jj_iconst (v := 4) C dX11_operation_58 (by decide) ?_
            exact jj_iret C ⟨[], pl_29, rfl, rfl, hok_30, hfr, hfa, (Or.inr (Or.inl ⟨(4 : Int32), (by decide), (by decide), rfl⟩))⟩ dX11_operation_59 (jj_le rfl) (jj_le rfl)
        · refine jj_if_eqF (tgt := 48) C dX11_operation_43 (by decide) (by decide) ?_
          refine jj_iconst (v := 3) C dX11_operation_46 (by decide) ?_
          exact jj_iret C ⟨[], pl_22, rfl, rfl, hok_23, hfr, hfa, (Or.inr (Or.inl ⟨(3 : Int32), (by decide), (by decide), rfl⟩))⟩ dX11_operation_47 (jj_le rfl) (jj_le rfl)
      · refine jj_if_eqF (tgt := 36) C dX11_operation_31 (by decide) (by decide) ?_
        refine jj_iconst (v := 2) C dX11_operation_34 (by decide) ?_
        exact jj_iret C ⟨[], pl_15, rfl, rfl, hok_16, hfr, hfa, (Or.inr (Or.inl ⟨(2 : Int32), (by decide), (by decide), rfl⟩))⟩ dX11_operation_35 (jj_le rfl) (jj_le rfl)
    · refine jj_if_eqF (tgt := 24) C dX11_operation_19 (by decide) (by decide) ?_
      refine jj_iconst (v := 1) C dX11_operation_22 (by decide) ?_
      exact jj_iret C ⟨[], pl_8, rfl, rfl, hok_9, hfr, hfa, (Or.inr (Or.inl ⟨(1 : Int32), (by decide), (by decide), rfl⟩))⟩ dX11_operation_23 (jj_le rfl) (jj_le rfl)
  · refine jj_if_eqF (tgt := 12) C dX11_operation_7 (by decide) (by decide) ?_
    refine jj_iconst (v := 0) C dX11_operation_10 (by decide) ?_
    exact jj_iret C ⟨[], pl_1, rfl, rfl, hok_2, hfr, hfa, (Or.inr (Or.inr ⟨by omega, rfl⟩))⟩ dX11_operation_11 (jj_le rfl) (jj_le rfl)

set_option maxHeartbeats 4000000 in
set_option maxRecDepth 100000 in
theorem rs_doesEarn {l : Launch} (hl : l.stackTraces = false) (D : va_G) (cA : Nat → ClassId) (ak : (Nat → Nat) × (Nat → Nat)) {Kd : Nat → Nat} {h0 aw aa at0 ai af ap : Nat} (p1 : Int32) (B C9 : Int) (f : Nat → Int64) (hk0 : Kd h0 = 1) (hkw : Kd aw = 2) (hka : Kd aa = 3) (hkt : Kd at0 = 4) (hki : Kd ai = 5) (hkf : Kd af = 6) (hkp : Kd ap = 7) (hK : rl_K B C9 f) (hB5 : B ≤ 43520000000) (hB0 : 12760000000 ≤ B) (hC9 : C9 ≤ 4611686018427380000) {pl0 : va_W} (hok : tt_ok rt_tk cA Kd pl0) (hm : rl_m pl0 h0 aw aa at0 ai af ap) (hC : tt_lc pl0 aw f) : jj_M l D cA ak yX11_doesEarn (.code yX11_doesEarn cX11_doesEarn 2 (some .boolean)) 2 47 0 0 ([] ++ pl0) [.ref h0, .int p1] (tt_O (fun rx pl1 r => rx = [] ∧ tt_ok rt_tk cA Kd pl1 ∧ tt_fr Kd [] pl0 pl1 ∧ tt_fa Kd [2] pl0 pl1 ∧ ((∃ g : Nat → Int64, tt_lc pl1 aw g ∧ rl_K (B + 0) (C9 + 0) g ∧ ∃ v : Int32, 0 ≤ v.toInt ∧ v.toInt ≤ 1 ∧ r = some (.int v))))) (tt_OX (fun _ _ _ => False)) := by
  refine jj_start hl (by decide) jw_ed4d54a1b4 (jj_le rfl) ?_
  intro p e s m args below meth c A hargs hA C hex hmn
  have hfr := tt_fr.refl (K := Kd) (WS := []) pl0
  have hfa := tt_fa.refl (K := Kd) (WA := [2]) pl0
  have hI := hK.1
  have hP := hK.2.1
  have hH := hI.1.1
  obtain ⟨⟨g0a, g0b⟩, ⟨g1a, g1b⟩, ⟨g6a, g6b⟩, ⟨g7a, g7b⟩, ⟨g8a, g8b⟩⟩ := hH
  have hB : B ≤ 43920000000 := by omega
  have hB6 : B + 360000000 ≤ 43920000000 := by omega
  have h9 := hK.h9 (by omega)
  have h9a := hK.2.2.1
  have h9b := hK.2.2.2
  have lp1 := tt_lo p1
  have up1 := tt_hi p1
  refine jj_iload_n C dX11_doesEarn_0 rfl ?_
  refine tt_call0S (rest := []) C (ct_X11_isRate_s1 hl D cA ak p1) jw_52be377752 jw_cfa2869052 jw_f96c99f44d jw_adf3c6b06d jn_X11_isRate rfl (jj_le rfl) (jj_le rfl) (jj_le rfl) (jj_le rfl) (jj_le rfl) dX11_doesEarn_1 rfl (fun w1 r O_1 => ?_)
  rcases O_1 with ⟨c_2, -, rfl⟩ | ⟨c_3, c_4, -, rfl⟩ | ⟨c_5, c_6, -, rfl⟩
  · have z_c_2 := jc_ltL (a := p1.toInt) (b := (-9000)) c_2 (Int32.toInt_toInt64 p1) (by decide)
    refine jj_if_eqT (tgt := 31) C dX11_doesEarn_4 (by decide) (by decide) ?_
    refine jj_iconst (v := 0) C dX11_doesEarn_31 (by decide) ?_
    exact jj_zret C rfl ⟨[], pl0, rfl, rfl, hok, hfr, hfa, ⟨_, hC, (hK.mono (by omega) (by omega)), (0 : Int32), (by decide), (by decide), rfl⟩⟩ dX11_doesEarn_32 (jj_le rfl) (jj_le rfl)
  · have z_c_3 := jc_nltL (a := p1.toInt) (b := (-9000)) c_3 (Int32.toInt_toInt64 p1) (by decide)
    have z_c_4 := jc_ltL (a := 9999) (b := p1.toInt) c_4 (by decide) (Int32.toInt_toInt64 p1)
    refine jj_if_eqT (tgt := 31) C dX11_doesEarn_4 (by decide) (by decide) ?_
    refine jj_iconst (v := 0) C dX11_doesEarn_31 (by decide) ?_
    exact jj_zret C rfl ⟨[], pl0, rfl, rfl, hok, hfr, hfa, ⟨_, hC, (hK.mono (by omega) (by omega)), (0 : Int32), (by decide), (by decide), rfl⟩⟩ dX11_doesEarn_32 (jj_le rfl) (jj_le rfl)
  · have z_c_5 := jc_nltL (a := p1.toInt) (b := (-9000)) c_5 (Int32.toInt_toInt64 p1) (by decide)
    have z_c_6 := jc_nltL (a := 9999) (b := p1.toInt) c_6 (by decide) (Int32.toInt_toInt64 p1)
    refine jj_if_eqF (tgt := 31) C dX11_doesEarn_4 (by decide) (by decide) ?_
    refine jj_aload_n C dX11_doesEarn_7 rfl ?_
    refine jj_iload_n C dX11_doesEarn_8 rfl ?_
    obtain ⟨qc, gs, hqc⟩ := tt_recv (cx := []) hok hk0 (by decide) rfl
    refine tt_callV (rest := []) C (rs_isTooMuch hl D cA ak p1 B f hk0 hkw hka hkt hki hkf hkp hI hP hok hm hC) [] [] rfl rfl (by decide) (by decide) (by decide) qc hqc rfl rfl jw_8034c90ff2 jw_6aca30fbe1 jw_cc8ed5caa5 jw_f96c99f44d jw_1f97d6c9c0 jn_X11_isTooMuch rfl (jj_le rfl) (jj_le rfl) (jj_le rfl) (jj_le rfl) (jj_le rfl) dX11_doesEarn_9 rfl (fun _ _ _ hX => hX.elim) (fun rx pl_7 r O_11 => ?_)
    obtain ⟨rfl, hok_8, hr_9, ha_10, hR_12⟩ := O_11
    replace hC := ha_10.at hkw (by decide) (by decide) hC
    replace hm := hm.fr hr_9 hk0 rfl
    replace hfr := hfr.trans (hr_9.sub (by decide))
    replace hfa := hfa.trans (ha_10.sub (by decide))
    rcases hR_12 with ⟨hG_13, rfl⟩ | rfl
    · refine jj_if_neF (tgt := 31) C dX11_doesEarn_12 (by decide) (by decide) ?_
      refine jj_aload_n C dX11_doesEarn_15 rfl ?_
      refine jj_iload_n C dX11_doesEarn_16 rfl ?_
      obtain ⟨qc, gs, hqc⟩ := tt_recv (cx := []) hok_8 hk0 (by decide) rfl
      refine tt_callV (rest := []) C (rs_gain hl D cA ak p1 B f hk0 hkw hka hkt hki hkf hkp hI hP hB hB0 ⟨by omega, by omega⟩ hG_13 hok_8 hm hC) [] [] rfl rfl (by decide) (by decide) (by decide) qc hqc rfl rfl jw_1b925bbf22 jw_7e5865b4ef jw_63e88411c2 jw_f96c99f44d jw_7b130daeac jn_X11_gain rfl (jj_le rfl) (jj_le rfl) (jj_le rfl) (jj_le rfl) (jj_le rfl) dX11_doesEarn_17 rfl (fun _ _ _ hX => hX.elim) (fun rx pl_14 r O_18 => ?_)
      obtain ⟨rfl, hok_15, hr_16, ha_17, hR_19⟩ := O_18
      replace hm := hm.fr hr_16 hk0 rfl
      replace hfr := hfr.trans (hr_16.sub (by decide))
      replace hfa := hfa.trans (ha_17.sub (by decide))
      obtain ⟨g_20, hC_21, hI_22, hq_23, hq_24, hq_25, hq_26, y_27, rfl⟩ := hR_19
      obtain ⟨⟨g0ag_20, g0bg_20⟩, ⟨g1ag_20, g1bg_20⟩, ⟨g6ag_20, g6bg_20⟩, ⟨g7ag_20, g7bg_20⟩, ⟨g8ag_20, g8bg_20⟩⟩ := hI_22.1.1
      refine jj_ldc2 (v := 9223372036854775807) C dX11_doesEarn_20 jw_96430aa277 ?_
      refine jj_lcmp_ge (tgt := 31) C dX11_doesEarn_23 dX11_doesEarn_24 (by decide) (fun c_28 => ?_) (fun c_28 => ?_)
      · have z_c_28 := jc_leL (a := 9223372036854775807) (b := y_27.toInt) c_28 (by decide) rfl
        refine jj_iconst (v := 0) C dX11_doesEarn_31 (by decide) ?_
        exact jj_zret C rfl ⟨[], pl_14, rfl, rfl, hok_15, hfr, hfa, ⟨_, hC_21, ⟨hI_22.mono (by omega), hq_23, (by have q9 := congrArg Int64.toInt (hq_26 9 (by omega)); omega)⟩, (0 : Int32), (by decide), (by decide), rfl⟩⟩ dX11_doesEarn_32 (jj_le rfl) (jj_le rfl)
      · have z_c_28 := jc_nleL (a := 9223372036854775807) (b := y_27.toInt) c_28 (by decide) rfl
        refine jj_iconst (v := 1) C dX11_doesEarn_27 (by decide) ?_
        refine jj_goto (tgt := 32) C dX11_doesEarn_28 (by decide) ?_
        exact jj_zret C rfl ⟨[], pl_14, rfl, rfl, hok_15, hfr, hfa, ⟨_, hC_21, ⟨hI_22.mono (by omega), hq_23, (by have q9 := congrArg Int64.toInt (hq_26 9 (by omega)); omega)⟩, (1 : Int32), (by decide), (by decide), rfl⟩⟩ dX11_doesEarn_32 (jj_le rfl) (jj_le rfl)
    · refine jj_if_neT (tgt := 31) C dX11_doesEarn_12 (by decide) (by decide) ?_
      refine jj_iconst (v := 0) C dX11_doesEarn_31 (by decide) ?_
      exact jj_zret C rfl ⟨[], pl_7, rfl, rfl, hok_8, hfr, hfa, ⟨_, hC, (hK.mono (by omega) (by omega)), (0 : Int32), (by decide), (by decide), rfl⟩⟩ dX11_doesEarn_32 (jj_le rfl) (jj_le rfl)

set_option maxHeartbeats 4000000 in
set_option maxRecDepth 100000 in
theorem rs_doesAsk_0 {l : Launch} (hl : l.stackTraces = false) (D : va_G) (cA : Nat → ClassId) (ak : (Nat → Nat) × (Nat → Nat)) {Kd : Nat → Nat} {h0 aw aa at0 ai af ap : Nat} (B C9 : Int) (f : Nat → Int64) (hk0 : Kd h0 = 1) (hkw : Kd aw = 2) (hka : Kd aa = 3) (hkt : Kd at0 = 4) (hki : Kd ai = 5) (hkf : Kd af = 6) (hkp : Kd ap = 7) (hK : rl_K B C9 f) (hB5 : B ≤ 43520000000) (hB0 : 12760000000 ≤ B) (hC9 : C9 ≤ 4611686018427380000) {pl0 : va_W} (hok : tt_ok rt_tk cA Kd pl0) (hm : rl_m pl0 h0 aw aa at0 ai af ap) (hC : tt_lc pl0 aw f) : jj_M l D cA ak yX11_doesAsk (.code yX11_doesAsk cX11_doesAsk 3 (some .boolean)) 2 47 0 0 ([] ++ pl0) [.ref h0, .int 0] (tt_O (fun rx pl1 r => rx = [] ∧ tt_ok rt_tk cA Kd pl1 ∧ tt_fr Kd [] pl0 pl1 ∧ tt_fa Kd [2] pl0 pl1 ∧ ((∃ g : Nat → Int64, tt_lc pl1 aw g ∧ rl_K (B + 30000000) (C9 + 0) g ∧ ∃ v : Int32, 0 ≤ v.toInt ∧ v.toInt ≤ 1 ∧ r = some (.int v))))) (tt_OX (fun _ _ _ => False)) := by
  refine jj_start hl (by decide) jw_568b9d28b7 (jj_le rfl) ?_
  intro p e s m args below meth c A hargs hA C hex hmn
  have hfr := tt_fr.refl (K := Kd) (WS := []) pl0
  have hfa := tt_fa.refl (K := Kd) (WA := [2]) pl0
  have hI := hK.1
  have hP := hK.2.1
  have hH := hI.1.1
  obtain ⟨⟨g0a, g0b⟩, ⟨g1a, g1b⟩, ⟨g6a, g6b⟩, ⟨g7a, g7b⟩, ⟨g8a, g8b⟩⟩ := hH
  have hB : B ≤ 43920000000 := by omega
  have hB6 : B + 360000000 ≤ 43920000000 := by omega
  have h9 := hK.h9 (by omega)
  have h9a := hK.2.2.1
  have h9b := hK.2.2.2
  refine jj_aload_n C dX11_doesAsk_0 rfl ?_
  refine jj_aload_n C dX11_doesAsk_1 rfl ?_
  refine tt_get C hok jk_12 19 (by decide) jw_bf324c0fa3 (t := (0, (-2147483648), 2147483647)) hk0 (by decide) rfl rfl dX11_doesAsk_2 (fun v_1 hv_1 hf_2 => ?_)
  obtain ⟨x_3, rfl, lx_3, ux_3⟩ := tt_vi hv_1
  obtain ⟨qc, gs, hqc⟩ := tt_recv (cx := []) hok hk0 (by decide) rfl
  refine tt_callV (rest := []) C (rc_X11_isInvestor_d8d95c hl D cA ak x_3 _ hk0 hkw hka hkt hki hkf hkp ⟨⟨g0a, g0b⟩, ⟨g1a, g1b⟩, ⟨g6a, g6b⟩, ⟨g7a, g7b⟩, ⟨g8a, g8b⟩⟩ hok hm hC) [] [] rfl rfl (by decide) (by decide) (by decide) qc hqc rfl rfl jw_7ef37939ff jw_26aeef849b jw_c47596b272 jw_f96c99f44d jw_eb28ea56ae jn_X11_isInvestor rfl (jj_le rfl) (jj_le rfl) (jj_le rfl) (jj_le rfl) (jj_le rfl) dX11_doesAsk_5 rfl (fun _ _ _ hX => hX.elim) (fun rx pl_4 r O_8 => ?_)
  obtain ⟨rfl, hok_5, hr_6, ha_7, hR_9⟩ := O_8
  replace hf_2 := hr_6.at hk0 (by decide) (by decide) hf_2
  replace hC := ha_7.at hkw (by decide) (by decide) hC
  replace hm := hm.fr hr_6 hk0 rfl
  replace hfr := hfr.trans (hr_6.sub (by decide))
  replace hfa := hfa.trans (ha_7.sub (by decide))
  rcases hR_9 with rfl | ⟨l_10, u_11, rfl⟩
  · refine jj_if_eqT (tgt := 64) C dX11_doesAsk_8 (by decide) (by decide) ?_
    refine jj_iconst (v := 0) C dX11_doesAsk_64 (by decide) ?_
    refine jj_istore_n C dX11_doesAsk_65 (by decide) rfl ?_
    refine jj_iload_n C dX11_doesAsk_66 rfl ?_
    refine jj_if_eqT (tgt := 96) C dX11_doesAsk_67 (by decide) (by decide) ?_
    refine jj_iload_n C dX11_doesAsk_96 rfl ?_
    exact jj_zret C rfl ⟨[], pl_4, rfl, rfl, hok_5, hfr, hfa, ⟨_, hC, (hK.mono (by omega) (by omega)), (0 : Int32), (by decide), (by decide), rfl⟩⟩ dX11_doesAsk_97 (jj_le rfl) (jj_le rfl)
  · refine jj_if_eqF (tgt := 64) C dX11_doesAsk_8 (by decide) (by decide) ?_
    refine jj_iload_n C dX11_doesAsk_11 rfl ?_
    refine jj_if_eqT (tgt := 43) C dX11_doesAsk_12 (by decide) (by decide) ?_
    refine jj_aload_n C dX11_doesAsk_43 rfl ?_
    refine tt_get C hok_5 jk_12 20 (by decide) jw_c1fef1305f (t := (0, (-2147483648), 2147483647)) hk0 (by decide) rfl rfl dX11_doesAsk_44 (fun v_12 hv_12 hf_13 => ?_)
    obtain ⟨x_14, rfl, lx_14, ux_14⟩ := tt_vi hv_12
    refine tt_call0S (rest := []) C (ct_X11_isAmount_s1 hl D cA ak x_14) jw_5528f553d9 jw_2fe9b26ec1 jw_f96c99f44d jw_8ebf3e5748 jn_X11_isAmount rfl (jj_le rfl) (jj_le rfl) (jj_le rfl) (jj_le rfl) (jj_le rfl) dX11_doesAsk_47 rfl (fun w1 r O_15 => ?_)
    rcases O_15 with ⟨c_16, -, rfl⟩ | ⟨c_17, c_18, -, rfl⟩ | ⟨c_19, c_20, -, rfl⟩
    · have z_c_16 := jc_ltL (a := x_14.toInt) (b := 1) c_16 (Int32.toInt_toInt64 x_14) (by decide)
      refine jj_if_eqT (tgt := 64) C dX11_doesAsk_50 (by decide) (by decide) ?_
      refine jj_iconst (v := 0) C dX11_doesAsk_64 (by decide) ?_
      refine jj_istore_n C dX11_doesAsk_65 (by decide) rfl ?_
      refine jj_iload_n C dX11_doesAsk_66 rfl ?_
      refine jj_if_eqT (tgt := 96) C dX11_doesAsk_67 (by decide) (by decide) ?_
      refine jj_iload_n C dX11_doesAsk_96 rfl ?_
      exact jj_zret C rfl ⟨[], pl_4, rfl, rfl, hok_5, hfr, hfa, ⟨_, hC, (hK.mono (by omega) (by omega)), (0 : Int32), (by decide), (by decide), rfl⟩⟩ dX11_doesAsk_97 (jj_le rfl) (jj_le rfl)
    · have z_c_17 := jc_nltL (a := x_14.toInt) (b := 1) c_17 (Int32.toInt_toInt64 x_14) (by decide)
      have z_c_18 := jc_ltL (a := 9999999) (b := x_14.toInt) c_18 (by decide) (Int32.toInt_toInt64 x_14)
      refine jj_if_eqT (tgt := 64) C dX11_doesAsk_50 (by decide) (by decide) ?_
      refine jj_iconst (v := 0) C dX11_doesAsk_64 (by decide) ?_
      refine jj_istore_n C dX11_doesAsk_65 (by decide) rfl ?_
      refine jj_iload_n C dX11_doesAsk_66 rfl ?_
      refine jj_if_eqT (tgt := 96) C dX11_doesAsk_67 (by decide) (by decide) ?_
      refine jj_iload_n C dX11_doesAsk_96 rfl ?_
      exact jj_zret C rfl ⟨[], pl_4, rfl, rfl, hok_5, hfr, hfa, ⟨_, hC, (hK.mono (by omega) (by omega)), (0 : Int32), (by decide), (by decide), rfl⟩⟩ dX11_doesAsk_97 (jj_le rfl) (jj_le rfl)
    · have z_c_19 := jc_nltL (a := x_14.toInt) (b := 1) c_19 (Int32.toInt_toInt64 x_14) (by decide)
      have z_c_20 := jc_nltL (a := 9999999) (b := x_14.toInt) c_20 (by decide) (Int32.toInt_toInt64 x_14)
      refine jj_if_eqF (tgt := 64) C dX11_doesAsk_50 (by decide) (by decide) ?_
      refine jj_aload_n C dX11_doesAsk_53 rfl ?_
      obtain ⟨qc, gs, hqc⟩ := tt_recv (cx := []) hok_5 hk0 (by decide) rfl
      refine tt_callV (rest := []) C (rs_isFull hl D cA ak f hk0 hkw hka hkt hki hkf hkp ⟨⟨g0a, g0b⟩, ⟨g1a, g1b⟩, ⟨g6a, g6b⟩, ⟨g7a, g7b⟩, ⟨g8a, g8b⟩⟩ hok_5 hm hC) [] [] rfl rfl (by decide) (by decide) (by decide) qc hqc rfl rfl jw_295437ea71 jw_d3b21ae075 jw_9b870e1ec6 jw_f96c99f44d jw_6b82d6ccbb jn_X11_isFull rfl (jj_le rfl) (jj_le rfl) (jj_le rfl) (jj_le rfl) (jj_le rfl) dX11_doesAsk_54 rfl (fun _ _ _ hX => hX.elim) (fun rx pl_21 r O_25 => ?_)
      obtain ⟨rfl, hok_22, hr_23, ha_24, hR_26⟩ := O_25
      replace hf_2 := hr_23.at hk0 (by decide) (by decide) hf_2
      replace hf_13 := hr_23.at hk0 (by decide) (by decide) hf_13
      replace hC := ha_24.at hkw (by decide) (by decide) hC
      replace hm := hm.fr hr_23 hk0 rfl
      replace hfr := hfr.trans (hr_23.sub (by decide))
      replace hfa := hfa.trans (ha_24.sub (by decide))
      rcases hR_26 with ⟨hz_27, rfl⟩ | ⟨hz_28, rfl⟩
      · refine jj_if_neF (tgt := 64) C dX11_doesAsk_57 (by decide) (by decide) ?_
        refine jj_iconst (v := 1) C dX11_doesAsk_60 (by decide) ?_
        refine jj_goto (tgt := 65) C dX11_doesAsk_61 (by decide) ?_
        refine jj_istore_n C dX11_doesAsk_65 (by decide) rfl ?_
        refine jj_iload_n C dX11_doesAsk_66 rfl ?_
        refine jj_if_eqF (tgt := 96) C dX11_doesAsk_67 (by decide) (by decide) ?_
        refine jj_aload_n C dX11_doesAsk_70 rfl ?_
        refine jj_aload_n C dX11_doesAsk_71 rfl ?_
        refine tt_getF C hok_22 jk_12 0 (by decide) jw_34eaf3ba8b (t := (2, 2, 0)) hk0 (by decide) rfl rfl hm.1 dX11_doesAsk_72 ?_
        refine jj_aload_n C dX11_doesAsk_75 rfl ?_
        refine tt_getF C hok_22 jk_12 19 (by decide) jw_bf324c0fa3 (t := (0, (-2147483648), 2147483647)) hk0 (by decide) rfl rfl hf_2 dX11_doesAsk_76 ?_
        refine jj_iload_n C dX11_doesAsk_79 rfl ?_
        refine jj_if_eqT (tgt := 87) C dX11_doesAsk_80 (by decide) (by decide) ?_
        refine jj_lconst (v := 0) C dX11_doesAsk_87 (by decide) ?_
        refine jj_aload_n C dX11_doesAsk_88 rfl ?_
        refine tt_getF C hok_22 jk_12 20 (by decide) jw_c1fef1305f (t := (0, (-2147483648), 2147483647)) hk0 (by decide) rfl rfl hf_13 dX11_doesAsk_89 ?_
        obtain ⟨y_29, ey_29, vy_29⟩ := tt_i2l x_14
        refine jj_i2l (v := y_29) C dX11_doesAsk_92 ey_29 ?_
        obtain ⟨qc, gs, hqc⟩ := tt_recv (cx := []) hok_22 hk0 (by decide) rfl
        refine tt_callV (rest := []) C (rs_ask_aw hl D cA ak x_3 (0 : Int64) y_29 B (B + 30000000) f hk0 hkw hka hkt hki hkf hkp hI (by omega) (Or.inl rfl) (fun _ => ⟨by omega, by omega⟩) (by rw [if_pos rfl]; have := hI.2.2.2.2.2.2.2; omega) hok_22 hm hC) [] [] rfl rfl (by decide) (by decide) (by decide) qc hqc rfl rfl jw_5aa504ca27 jw_8305b013c0 jw_b768ebc9da jw_f96c99f44d jw_244fd0acfd jn_X11_ask rfl (jj_le rfl) (jj_le rfl) (jj_le rfl) (jj_le rfl) (jj_le rfl) dX11_doesAsk_93 rfl (fun _ _ _ hX => hX.elim) (fun rx pl_30 r O_34 => ?_)
        obtain ⟨rfl, hok_31, hr_32, ha_33, hR_35⟩ := O_34
        replace hf_2 := hr_32.at hk0 (by decide) (by decide) hf_2
        replace hf_13 := hr_32.at hk0 (by decide) (by decide) hf_13
        replace hm := hm.fr hr_32 hk0 rfl
        replace hfr := hfr.trans (hr_32.sub (by decide))
        replace hfa := hfa.trans (ha_33.sub (by decide))
        obtain ⟨g_36, hC_37, hI_38, hq_39, hq_40, hq_41, hq_42, rfl⟩ := hR_35
        obtain ⟨⟨g0ag_36, g0bg_36⟩, ⟨g1ag_36, g1bg_36⟩, ⟨g6ag_36, g6bg_36⟩, ⟨g7ag_36, g7bg_36⟩, ⟨g8ag_36, g8bg_36⟩⟩ := hI_38.1.1
        refine jj_iload_n C dX11_doesAsk_96 rfl ?_
        exact jj_zret C rfl ⟨[], pl_30, rfl, rfl, hok_31, hfr, hfa, ⟨_, hC_37, ⟨hI_38, (hq_40 hP), (by have q9 := congrArg Int64.toInt (hq_41 9 (by decide) (by decide)); omega)⟩, (1 : Int32), (by decide), (by decide), rfl⟩⟩ dX11_doesAsk_97 (jj_le rfl) (jj_le rfl)
      · refine jj_if_neT (tgt := 64) C dX11_doesAsk_57 (by decide) (by decide) ?_
        refine jj_iconst (v := 0) C dX11_doesAsk_64 (by decide) ?_
        refine jj_istore_n C dX11_doesAsk_65 (by decide) rfl ?_
        refine jj_iload_n C dX11_doesAsk_66 rfl ?_
        refine jj_if_eqT (tgt := 96) C dX11_doesAsk_67 (by decide) (by decide) ?_
        refine jj_iload_n C dX11_doesAsk_96 rfl ?_
        exact jj_zret C rfl ⟨[], pl_21, rfl, rfl, hok_22, hfr, hfa, ⟨_, hC, (hK.mono (by omega) (by omega)), (0 : Int32), (by decide), (by decide), rfl⟩⟩ dX11_doesAsk_97 (jj_le rfl) (jj_le rfl)

set_option maxHeartbeats 4000000 in
set_option maxRecDepth 100000 in
theorem rs_doesAsk_1 {l : Launch} (hl : l.stackTraces = false) (D : va_G) (cA : Nat → ClassId) (ak : (Nat → Nat) × (Nat → Nat)) {Kd : Nat → Nat} {h0 aw aa at0 ai af ap : Nat} (B C9 : Int) (f : Nat → Int64) (hk0 : Kd h0 = 1) (hkw : Kd aw = 2) (hka : Kd aa = 3) (hkt : Kd at0 = 4) (hki : Kd ai = 5) (hkf : Kd af = 6) (hkp : Kd ap = 7) (hK : rl_K B C9 f) (hB5 : B ≤ 43520000000) (hB0 : 12760000000 ≤ B) (hC9 : C9 ≤ 4611686018427380000) {pl0 : va_W} (hok : tt_ok rt_tk cA Kd pl0) (hm : rl_m pl0 h0 aw aa at0 ai af ap) (hC : tt_lc pl0 aw f) : jj_M l D cA ak yX11_doesAsk (.code yX11_doesAsk cX11_doesAsk 3 (some .boolean)) 4 87 0 0 ([] ++ pl0) [.ref h0, .int 1] (tt_O (fun rx pl1 r => rx = [] ∧ tt_ok rt_tk cA Kd pl1 ∧ tt_fr Kd [] pl0 pl1 ∧ tt_fa Kd [2] pl0 pl1 ∧ ((∃ g : Nat → Int64, tt_lc pl1 aw g ∧ rl_K (B + 0) (C9 + 0) g ∧ ∃ v : Int32, 0 ≤ v.toInt ∧ v.toInt ≤ 1 ∧ r = some (.int v))))) (tt_OX (fun _ _ _ => False)) := by
  refine jj_start hl (by decide) jw_568b9d28b7 (jj_le rfl) ?_
  intro p e s m args below meth c A hargs hA C hex hmn
  have hfr := tt_fr.refl (K := Kd) (WS := []) pl0
  have hfa := tt_fa.refl (K := Kd) (WA := [2]) pl0
  have hI := hK.1
  have hP := hK.2.1
  have hH := hI.1.1
  obtain ⟨⟨g0a, g0b⟩, ⟨g1a, g1b⟩, ⟨g6a, g6b⟩, ⟨g7a, g7b⟩, ⟨g8a, g8b⟩⟩ := hH
  have hB : B ≤ 43920000000 := by omega
  have hB6 : B + 360000000 ≤ 43920000000 := by omega
  have h9 := hK.h9 (by omega)
  have h9a := hK.2.2.1
  have h9b := hK.2.2.2
  refine jj_aload_n C dX11_doesAsk_0 rfl ?_
  refine jj_aload_n C dX11_doesAsk_1 rfl ?_
  refine tt_get C hok jk_12 19 (by decide) jw_bf324c0fa3 (t := (0, (-2147483648), 2147483647)) hk0 (by decide) rfl rfl dX11_doesAsk_2 (fun v_1 hv_1 hf_2 => ?_)
  obtain ⟨x_3, rfl, lx_3, ux_3⟩ := tt_vi hv_1
  obtain ⟨qc, gs, hqc⟩ := tt_recv (cx := []) hok hk0 (by decide) rfl
  refine tt_callV (rest := []) C (rc_X11_isInvestor_d8d95c hl D cA ak x_3 _ hk0 hkw hka hkt hki hkf hkp ⟨⟨g0a, g0b⟩, ⟨g1a, g1b⟩, ⟨g6a, g6b⟩, ⟨g7a, g7b⟩, ⟨g8a, g8b⟩⟩ hok hm hC) [] [] rfl rfl (by decide) (by decide) (by decide) qc hqc rfl rfl jw_7ef37939ff jw_26aeef849b jw_c47596b272 jw_f96c99f44d jw_eb28ea56ae jn_X11_isInvestor rfl (jj_le rfl) (jj_le rfl) (jj_le rfl) (jj_le rfl) (jj_le rfl) dX11_doesAsk_5 rfl (fun _ _ _ hX => hX.elim) (fun rx pl_4 r O_8 => ?_)
  obtain ⟨rfl, hok_5, hr_6, ha_7, hR_9⟩ := O_8
  replace hf_2 := hr_6.at hk0 (by decide) (by decide) hf_2
  replace hC := ha_7.at hkw (by decide) (by decide) hC
  replace hm := hm.fr hr_6 hk0 rfl
  replace hfr := hfr.trans (hr_6.sub (by decide))
  replace hfa := hfa.trans (ha_7.sub (by decide))
  rcases hR_9 with rfl | ⟨l_10, u_11, rfl⟩
  · refine jj_if_eqT (tgt := 64) C dX11_doesAsk_8 (by decide) (by decide) ?_
    refine jj_iconst (v := 0) C dX11_doesAsk_64 (by decide) ?_
    refine jj_istore_n C dX11_doesAsk_65 (by decide) rfl ?_
    refine jj_iload_n C dX11_doesAsk_66 rfl ?_
    refine jj_if_eqT (tgt := 96) C dX11_doesAsk_67 (by decide) (by decide) ?_
    refine jj_iload_n C dX11_doesAsk_96 rfl ?_
    exact jj_zret C rfl ⟨[], pl_4, rfl, rfl, hok_5, hfr, hfa, ⟨_, hC, (hK.mono (by omega) (by omega)), (0 : Int32), (by decide), (by decide), rfl⟩⟩ dX11_doesAsk_97 (jj_le rfl) (jj_le rfl)
  · refine jj_if_eqF (tgt := 64) C dX11_doesAsk_8 (by decide) (by decide) ?_
    refine jj_iload_n C dX11_doesAsk_11 rfl ?_
    refine jj_if_eqF (tgt := 43) C dX11_doesAsk_12 (by decide) (by decide) ?_
    refine jj_aload_n C dX11_doesAsk_15 rfl ?_
    refine tt_get C hok_5 jk_12 20 (by decide) jw_c1fef1305f (t := (0, (-2147483648), 2147483647)) hk0 (by decide) rfl rfl dX11_doesAsk_16 (fun v_12 hv_12 hf_13 => ?_)
    obtain ⟨x_14, rfl, lx_14, ux_14⟩ := tt_vi hv_12
    refine tt_call0S (rest := []) C (ct_X11_isUnits_s1 hl D cA ak x_14) jw_f563dbedcf jw_df0ae9c2de jw_f96c99f44d jw_65c6480382 jn_X11_isUnits rfl (jj_le rfl) (jj_le rfl) (jj_le rfl) (jj_le rfl) (jj_le rfl) dX11_doesAsk_19 rfl (fun w1 r O_15 => ?_)
    rcases O_15 with ⟨c_16, -, rfl⟩ | ⟨c_17, c_18, -, rfl⟩ | ⟨c_19, c_20, -, rfl⟩
    · have z_c_16 := jc_ltL (a := x_14.toInt) (b := 1) c_16 (Int32.toInt_toInt64 x_14) (by decide)
      refine jj_if_eqT (tgt := 64) C dX11_doesAsk_22 (by decide) (by decide) ?_
      refine jj_iconst (v := 0) C dX11_doesAsk_64 (by decide) ?_
      refine jj_istore_n C dX11_doesAsk_65 (by decide) rfl ?_
      refine jj_iload_n C dX11_doesAsk_66 rfl ?_
      refine jj_if_eqT (tgt := 96) C dX11_doesAsk_67 (by decide) (by decide) ?_
      refine jj_iload_n C dX11_doesAsk_96 rfl ?_
      exact jj_zret C rfl ⟨[], pl_4, rfl, rfl, hok_5, hfr, hfa, ⟨_, hC, (hK.mono (by omega) (by omega)), (0 : Int32), (by decide), (by decide), rfl⟩⟩ dX11_doesAsk_97 (jj_le rfl) (jj_le rfl)
    · have z_c_17 := jc_nltL (a := x_14.toInt) (b := 1) c_17 (Int32.toInt_toInt64 x_14) (by decide)
      have z_c_18 := jc_ltL (a := 99999999) (b := x_14.toInt) c_18 (by decide) (Int32.toInt_toInt64 x_14)
      refine jj_if_eqT (tgt := 64) C dX11_doesAsk_22 (by decide) (by decide) ?_
      refine jj_iconst (v := 0) C dX11_doesAsk_64 (by decide) ?_
      refine jj_istore_n C dX11_doesAsk_65 (by decide) rfl ?_
      refine jj_iload_n C dX11_doesAsk_66 rfl ?_
      refine jj_if_eqT (tgt := 96) C dX11_doesAsk_67 (by decide) (by decide) ?_
      refine jj_iload_n C dX11_doesAsk_96 rfl ?_
      exact jj_zret C rfl ⟨[], pl_4, rfl, rfl, hok_5, hfr, hfa, ⟨_, hC, (hK.mono (by omega) (by omega)), (0 : Int32), (by decide), (by decide), rfl⟩⟩ dX11_doesAsk_97 (jj_le rfl) (jj_le rfl)
    · have z_c_19 := jc_nltL (a := x_14.toInt) (b := 1) c_19 (Int32.toInt_toInt64 x_14) (by decide)
      have z_c_20 := jc_nltL (a := 99999999) (b := x_14.toInt) c_20 (by decide) (Int32.toInt_toInt64 x_14)
      refine jj_if_eqF (tgt := 64) C dX11_doesAsk_22 (by decide) (by decide) ?_
      refine jj_aload_n C dX11_doesAsk_25 rfl ?_
      refine jj_aload_n C dX11_doesAsk_26 rfl ?_
      refine tt_getF C hok_5 jk_12 19 (by decide) jw_bf324c0fa3 (t := (0, (-2147483648), 2147483647)) hk0 (by decide) rfl rfl hf_2 dX11_doesAsk_27 ?_
      refine jj_aload_n C dX11_doesAsk_30 rfl ?_
      refine tt_getF C hok_5 jk_12 20 (by decide) jw_c1fef1305f (t := (0, (-2147483648), 2147483647)) hk0 (by decide) rfl rfl hf_13 dX11_doesAsk_31 ?_
      obtain ⟨qc, gs, hqc⟩ := tt_recv (cx := []) hok_5 hk0 (by decide) rfl
      refine tt_callV (rest := []) C (rs_canRedeem hl D cA ak x_3 x_14 f hk0 hkw hka hkt hki hkf hkp ⟨⟨g0a, g0b⟩, ⟨g1a, g1b⟩, ⟨g6a, g6b⟩, ⟨g7a, g7b⟩, ⟨g8a, g8b⟩⟩ hok_5 hm hC) [] [] rfl rfl (by decide) (by decide) (by decide) qc hqc rfl rfl jw_a2621153eb jw_7e6b4e1834 jw_327fafc04d jw_f96c99f44d jw_e82ca6f874 jn_X11_canRedeem rfl (jj_le rfl) (jj_le rfl) (jj_le rfl) (jj_le rfl) (jj_le rfl) dX11_doesAsk_34 rfl (fun _ _ _ hX => hX.elim) (fun rx pl_21 r O_25 => ?_)
      obtain ⟨rfl, hok_22, hr_23, ha_24, hR_26⟩ := O_25
      replace hf_2 := hr_23.at hk0 (by decide) (by decide) hf_2
      replace hf_13 := hr_23.at hk0 (by decide) (by decide) hf_13
      replace hC := ha_24.at hkw (by decide) (by decide) hC
      replace hm := hm.fr hr_23 hk0 rfl
      replace hfr := hfr.trans (hr_23.sub (by decide))
      replace hfa := hfa.trans (ha_24.sub (by decide))
      rcases hR_26 with rfl | ⟨hz_27, rfl⟩
      · refine jj_if_eqT (tgt := 64) C dX11_doesAsk_37 (by decide) (by decide) ?_
        refine jj_iconst (v := 0) C dX11_doesAsk_64 (by decide) ?_
        refine jj_istore_n C dX11_doesAsk_65 (by decide) rfl ?_
        refine jj_iload_n C dX11_doesAsk_66 rfl ?_
        refine jj_if_eqT (tgt := 96) C dX11_doesAsk_67 (by decide) (by decide) ?_
        refine jj_iload_n C dX11_doesAsk_96 rfl ?_
        exact jj_zret C rfl ⟨[], pl_21, rfl, rfl, hok_22, hfr, hfa, ⟨_, hC, (hK.mono (by omega) (by omega)), (0 : Int32), (by decide), (by decide), rfl⟩⟩ dX11_doesAsk_97 (jj_le rfl) (jj_le rfl)
      · refine jj_if_eqF (tgt := 64) C dX11_doesAsk_37 (by decide) (by decide) ?_
        refine jj_goto (tgt := 60) C dX11_doesAsk_40 (by decide) ?_
        refine jj_iconst (v := 1) C dX11_doesAsk_60 (by decide) ?_
        refine jj_goto (tgt := 65) C dX11_doesAsk_61 (by decide) ?_
        refine jj_istore_n C dX11_doesAsk_65 (by decide) rfl ?_
        refine jj_iload_n C dX11_doesAsk_66 rfl ?_
        refine jj_if_eqF (tgt := 96) C dX11_doesAsk_67 (by decide) (by decide) ?_
        refine jj_aload_n C dX11_doesAsk_70 rfl ?_
        refine jj_aload_n C dX11_doesAsk_71 rfl ?_
        refine tt_getF C hok_22 jk_12 0 (by decide) jw_34eaf3ba8b (t := (2, 2, 0)) hk0 (by decide) rfl rfl hm.1 dX11_doesAsk_72 ?_
        refine jj_aload_n C dX11_doesAsk_75 rfl ?_
        refine tt_getF C hok_22 jk_12 19 (by decide) jw_bf324c0fa3 (t := (0, (-2147483648), 2147483647)) hk0 (by decide) rfl rfl hf_2 dX11_doesAsk_76 ?_
        refine jj_iload_n C dX11_doesAsk_79 rfl ?_
        refine jj_if_eqF (tgt := 87) C dX11_doesAsk_80 (by decide) (by decide) ?_
        refine jj_lconst (v := 1) C dX11_doesAsk_83 (by decide) ?_
        refine jj_goto (tgt := 88) C dX11_doesAsk_84 (by decide) ?_
        refine jj_aload_n C dX11_doesAsk_88 rfl ?_
        refine tt_getF C hok_22 jk_12 20 (by decide) jw_c1fef1305f (t := (0, (-2147483648), 2147483647)) hk0 (by decide) rfl rfl hf_13 dX11_doesAsk_89 ?_
        obtain ⟨y_28, ey_28, vy_28⟩ := tt_i2l x_14
        refine jj_i2l (v := y_28) C dX11_doesAsk_92 ey_28 ?_
        obtain ⟨qc, gs, hqc⟩ := tt_recv (cx := []) hok_22 hk0 (by decide) rfl
        refine tt_callV (rest := []) C (rs_ask_aw hl D cA ak x_3 (1 : Int64) y_28 B (B + 0) f hk0 hkw hka hkt hki hkf hkp hI (by omega) (Or.inr rfl) (fun z => absurd z (by decide)) (by rw [if_neg (by decide)]; have := hI.2.2.2.2.2.2.2; omega) hok_22 hm hC) [] [] rfl rfl (by decide) (by decide) (by decide) qc hqc rfl rfl jw_5aa504ca27 jw_8305b013c0 jw_b768ebc9da jw_f96c99f44d jw_244fd0acfd jn_X11_ask rfl (jj_le rfl) (jj_le rfl) (jj_le rfl) (jj_le rfl) (jj_le rfl) dX11_doesAsk_93 rfl (fun _ _ _ hX => hX.elim) (fun rx pl_29 r O_33 => ?_)
        obtain ⟨rfl, hok_30, hr_31, ha_32, hR_34⟩ := O_33
        replace hf_2 := hr_31.at hk0 (by decide) (by decide) hf_2
        replace hf_13 := hr_31.at hk0 (by decide) (by decide) hf_13
        replace hm := hm.fr hr_31 hk0 rfl
        replace hfr := hfr.trans (hr_31.sub (by decide))
        replace hfa := hfa.trans (ha_32.sub (by decide))
        obtain ⟨g_35, hC_36, hI_37, hq_38, hq_39, hq_40, hq_41, rfl⟩ := hR_34
        obtain ⟨⟨g0ag_35, g0bg_35⟩, ⟨g1ag_35, g1bg_35⟩, ⟨g6ag_35, g6bg_35⟩, ⟨g7ag_35, g7bg_35⟩, ⟨g8ag_35, g8bg_35⟩⟩ := hI_37.1.1
        refine jj_iload_n C dX11_doesAsk_96 rfl ?_
        exact jj_zret C rfl ⟨[], pl_29, rfl, rfl, hok_30, hfr, hfa, ⟨_, hC_36, ⟨hI_37, (hq_39 hP), (by have q9 := congrArg Int64.toInt (hq_40 9 (by decide) (by decide)); omega)⟩, (1 : Int32), (by decide), (by decide), rfl⟩⟩ dX11_doesAsk_97 (jj_le rfl) (jj_le rfl)

set_option maxHeartbeats 4000000 in
set_option maxRecDepth 100000 in
theorem rs_does_0 {l : Launch} (hl : l.stackTraces = false) (D : va_G) (cA : Nat → ClassId) (ak : (Nat → Nat) × (Nat → Nat)) {Kd : Nat → Nat} {h0 aw aa at0 ai af ap : Nat} (B C9 : Int) (f : Nat → Int64) (hk0 : Kd h0 = 1) (hkw : Kd aw = 2) (hka : Kd aa = 3) (hkt : Kd at0 = 4) (hki : Kd ai = 5) (hkf : Kd af = 6) (hkp : Kd ap = 7) (hK : rl_K B C9 f) (hB5 : B ≤ 43520000000) (hB0 : 12760000000 ≤ B) (hC9 : C9 ≤ 4611686018427380000) {pl0 : va_W} (hok : tt_ok rt_tk cA Kd pl0) (hm : rl_m pl0 h0 aw aa at0 ai af ap) (hC : tt_lc pl0 aw f) : jj_M l D cA ak yX11_does (.code yX11_does cX11_does 4 (some .boolean)) 3 69 0 0 ([] ++ pl0) [.ref h0, .int 0] (tt_O (fun rx pl1 r => rx = [] ∧ tt_ok rt_tk cA Kd pl1 ∧ tt_fr Kd [] pl0 pl1 ∧ tt_fa Kd [2] pl0 pl1 ∧ ((∃ g : Nat → Int64, tt_lc pl1 aw g ∧ rl_K (B + 30000000) (C9 + 0) g ∧ ∃ v : Int32, 0 ≤ v.toInt ∧ v.toInt ≤ 1 ∧ r = some (.int v))))) (tt_OX (fun _ _ _ => False)) := by
  refine jj_start hl (by decide) jw_eebb003ba4 (jj_le rfl) ?_
  intro p e s m args below meth c A hargs hA C hex hmn
  have hfr := tt_fr.refl (K := Kd) (WS := []) pl0
  have hfa := tt_fa.refl (K := Kd) (WA := [2]) pl0
  have hI := hK.1
  have hP := hK.2.1
  have hH := hI.1.1
  obtain ⟨⟨g0a, g0b⟩, ⟨g1a, g1b⟩, ⟨g6a, g6b⟩, ⟨g7a, g7b⟩, ⟨g8a, g8b⟩⟩ := hH
  have hB : B ≤ 43920000000 := by omega
  have hB6 : B + 360000000 ≤ 43920000000 := by omega
  have h9 := hK.h9 (by omega)
  have h9a := hK.2.2.1
  have h9b := hK.2.2.2
  refine jj_iload_n C dX11_does_0 rfl ?_
  refine jj_tableIn (tgt := 44) C dX11_does_1 (by decide) (by decide) rfl (by decide) ?_
  refine jj_aload_n C dX11_does_44 rfl ?_
  refine jj_iconst (v := 0) C dX11_does_45 (by decide) ?_
  obtain ⟨qc, gs, hqc⟩ := tt_recv (cx := []) hok hk0 (by decide) rfl
  refine tt_callV (rest := []) C (rs_doesAsk_0 hl D cA ak B C9 f hk0 hkw hka hkt hki hkf hkp hK (by omega) (by omega) (by omega) hok hm hC) [] [] rfl rfl (by decide) (by decide) (by decide) qc hqc rfl rfl jw_f1a846eebf jw_ac52b6b397 jw_87336ac79a jw_f96c99f44d jw_568b9d28b7 jn_X11_doesAsk rfl (jj_le rfl) (jj_le rfl) (jj_le rfl) (jj_le rfl) (jj_le rfl) dX11_does_46 rfl (fun _ _ _ hX => hX.elim) (fun rx pl_1 r O_5 => ?_)
  obtain ⟨rfl, hok_2, hr_3, ha_4, hR_6⟩ := O_5
  replace hm := hm.fr hr_3 hk0 rfl
  replace hfr := hfr.trans (hr_3.sub (by decide))
  replace hfa := hfa.trans (ha_4.sub (by decide))
  obtain ⟨g_7, hC_8, hK_9, x_10, lx_10, ux_10, rfl⟩ := hR_6
  obtain ⟨⟨g0ag_7, g0bg_7⟩, ⟨g1ag_7, g1bg_7⟩, ⟨g6ag_7, g6bg_7⟩, ⟨g7ag_7, g7bg_7⟩, ⟨g8ag_7, g8bg_7⟩⟩ := hK_9.1.1.1
  exact jj_zret C (tt_narZ (by omega) (by omega)) ⟨[], pl_1, rfl, rfl, hok_2, hfr, hfa, ⟨_, hC_8, (hK_9.mono (by omega) (by omega)), x_10, (by omega), (by omega), rfl⟩⟩ dX11_does_49 (jj_le rfl) (jj_le rfl)

set_option maxHeartbeats 4000000 in
set_option maxRecDepth 100000 in
theorem rs_does_1 {l : Launch} (hl : l.stackTraces = false) (D : va_G) (cA : Nat → ClassId) (ak : (Nat → Nat) × (Nat → Nat)) {Kd : Nat → Nat} {h0 aw aa at0 ai af ap : Nat} (p1 : Int32) (B C9 : Int) (f : Nat → Int64) (hk0 : Kd h0 = 1) (hkw : Kd aw = 2) (hka : Kd aa = 3) (hkt : Kd at0 = 4) (hki : Kd ai = 5) (hkf : Kd af = 6) (hkp : Kd ap = 7) (lp1 : 1 ≤ p1.toInt) (up1 : p1.toInt ≤ 7) (hK : rl_K B C9 f) (hB5 : B ≤ 43520000000) (hB0 : 12760000000 ≤ B) (hC9 : C9 ≤ 4611686018427380000) {pl0 : va_W} (hok : tt_ok rt_tk cA Kd pl0) (hm : rl_m pl0 h0 aw aa at0 ai af ap) (hC : tt_lc pl0 aw f) : jj_M l D cA ak yX11_does (.code yX11_does cX11_does 4 (some .boolean)) 9 228 0 0 ([] ++ pl0) [.ref h0, .int p1] (tt_O (fun rx pl1 r => rx = [] ∧ tt_ok rt_tk cA Kd pl1 ∧ tt_fr Kd [(1, 8), (1, 9)] pl0 pl1 ∧ tt_fa Kd [2, 5, 8, 9] pl0 pl1 ∧ ((∃ g : Nat → Int64, tt_lc pl1 aw g ∧ rl_K (B + 0) (C9 + 12) g ∧ ∃ v : Int32, 0 ≤ v.toInt ∧ v.toInt ≤ 1 ∧ r = some (.int v))))) (tt_OX (fun _ _ _ => False)) := by
  refine jj_start hl (by decide) jw_eebb003ba4 (jj_le rfl) ?_
  intro p e s m args below meth c A hargs hA C hex hmn
  have hfr := tt_fr.refl (K := Kd) (WS := [(1, 8), (1, 9)]) pl0
  have hfa := tt_fa.refl (K := Kd) (WA := [2, 5, 8, 9]) pl0
  have hI := hK.1
  have hP := hK.2.1
  have hH := hI.1.1
  obtain ⟨⟨g0a, g0b⟩, ⟨g1a, g1b⟩, ⟨g6a, g6b⟩, ⟨g7a, g7b⟩, ⟨g8a, g8b⟩⟩ := hH
  have hB : B ≤ 43920000000 := by omega
  have hB6 : B + 360000000 ≤ 43920000000 := by omega
  have h9 := hK.h9 (by omega)
  have h9a := hK.2.2.1
  have h9b := hK.2.2.2
  refine jj_iload_n C dX11_does_0 rfl ?_
  rcases jj_em (p1 = 0) with c_1 | c_1
  · refine jj_tableIn (tgt := 44) C dX11_does_1 (by rw [c_1]; decide) (by rw [c_1]; decide) (by rw [c_1]; rfl) (by decide) ?_
    exfalso; rw [c_1] at lp1; exact absurd lp1 (by decide)
  rcases jj_em (p1 = 1) with c_2 | c_2
  · refine jj_tableIn (tgt := 50) C dX11_does_1 (by rw [c_2]; decide) (by rw [c_2]; decide) (by rw [c_2]; rfl) (by decide) ?_
    refine jj_aload_n C dX11_does_50 rfl ?_
    refine jj_iconst (v := 1) C dX11_does_51 (by decide) ?_
    obtain ⟨qc, gs, hqc⟩ := tt_recv (cx := []) hok hk0 (by decide) rfl
    refine tt_callV (rest := []) C (rs_doesAsk_1 hl D cA ak B C9 f hk0 hkw hka hkt hki hkf hkp hK (by omega) (by omega) (by omega) hok hm hC) [] [] rfl rfl (by decide) (by decide) (by decide) qc hqc rfl rfl jw_f1a846eebf jw_ac52b6b397 jw_87336ac79a jw_f96c99f44d jw_568b9d28b7 jn_X11_doesAsk rfl (jj_le rfl) (jj_le rfl) (jj_le rfl) (jj_le rfl) (jj_le rfl) dX11_does_52 rfl (fun _ _ _ hX => hX.elim) (fun rx pl_3 r O_7 => ?_)
    obtain ⟨rfl, hok_4, hr_5, ha_6, hR_8⟩ := O_7
    replace hm := hm.fr hr_5 hk0 rfl
    replace hfr := hfr.trans (hr_5.sub (by decide))
    replace hfa := hfa.trans (ha_6.sub (by decide))
    obtain ⟨g_9, hC_10, hK_11, x_12, lx_12, ux_12, rfl⟩ := hR_8
    obtain ⟨⟨g0ag_9, g0bg_9⟩, ⟨g1ag_9, g1bg_9⟩, ⟨g6ag_9, g6bg_9⟩, ⟨g7ag_9, g7bg_9⟩, ⟨g8ag_9, g8bg_9⟩⟩ := hK_11.1.1.1
    exact jj_zret C (tt_narZ (by omega) (by omega)) ⟨[], pl_3, rfl, rfl, hok_4, hfr, hfa, ⟨_, hC_10, (hK_11.mono (by omega) (by omega)), x_12, (by omega), (by omega), rfl⟩⟩ dX11_does_55 (jj_le rfl) (jj_le rfl)
  rcases jj_em (p1 = 2) with c_13 | c_13
  · refine jj_tableIn (tgt := 56) C dX11_does_1 (by rw [c_13]; decide) (by rw [c_13]; decide) (by rw [c_13]; rfl) (by decide) ?_
    refine jj_aload_n C dX11_does_56 rfl ?_
    obtain ⟨qc, gs, hqc⟩ := tt_recv (cx := []) hok hk0 (by decide) rfl
    refine tt_callV (rest := []) C (rs_dealNow hl D cA ak B f hk0 hkw hka hkt hki hkf hkp hI hP hB6 h9 hok hm hC) [] [] rfl rfl (by decide) (by decide) (by decide) qc hqc rfl rfl jw_10d6ffe387 jw_c13a582434 jw_c2b73db722 jw_f96c99f44d jw_fad3683772 jn_X11_dealNow rfl (jj_le rfl) (jj_le rfl) (jj_le rfl) (jj_le rfl) (jj_le rfl) dX11_does_57 rfl (fun _ _ _ hX => hX.elim) (fun rx pl_14 r O_18 => ?_)
    obtain ⟨rfl, hok_15, hr_16, ha_17, hR_19⟩ := O_18
    replace hm := hm.fr hr_16 hk0 rfl
    replace hfr := hfr.trans (hr_16.sub (by decide))
    replace hfa := hfa.trans (ha_17.sub (by decide))
    obtain ⟨g_20, hC_21, hI_22, hP_23, hq_24, hq_25, hq_26, x_27, rfl⟩ := hR_19
    obtain ⟨⟨g0ag_20, g0bg_20⟩, ⟨g1ag_20, g1bg_20⟩, ⟨g6ag_20, g6bg_20⟩, ⟨g7ag_20, g7bg_20⟩, ⟨g8ag_20, g8bg_20⟩⟩ := hI_22.1.1
    refine jj_if_lt (tgt := 67) C dX11_does_60 (by decide) (fun c_28 => ?_) (fun c_28 => ?_)
    · have z_c_28 := jc_lt (a := x_27.toInt) (b := 0) c_28 rfl (by decide)
      refine jj_iconst (v := 0) C dX11_does_67 (by decide) ?_
      exact jj_zret C rfl ⟨[], pl_14, rfl, rfl, hok_15, hfr, hfa, ⟨_, hC_21, ⟨hI_22.mono (by omega), hP_23, (by have q9 := hq_26; omega)⟩, (0 : Int32), (by decide), (by decide), rfl⟩⟩ dX11_does_68 (jj_le rfl) (jj_le rfl)
    · have z_c_28 := jc_nlt (a := x_27.toInt) (b := 0) c_28 rfl (by decide)
      refine jj_iconst (v := 1) C dX11_does_63 (by decide) ?_
      refine jj_goto (tgt := 68) C dX11_does_64 (by decide) ?_
      exact jj_zret C rfl ⟨[], pl_14, rfl, rfl, hok_15, hfr, hfa, ⟨_, hC_21, ⟨hI_22.mono (by omega), hP_23, (by have q9 := hq_26; omega)⟩, (1 : Int32), (by decide), (by decide), rfl⟩⟩ dX11_does_68 (jj_le rfl) (jj_le rfl)
  rcases jj_em (p1 = 3) with c_29 | c_29
  · refine jj_tableIn (tgt := 69) C dX11_does_1 (by rw [c_29]; decide) (by rw [c_29]; decide) (by rw [c_29]; rfl) (by decide) ?_
    refine jj_aload_n C dX11_does_69 rfl ?_
    refine jj_aload_n C dX11_does_70 rfl ?_
    refine tt_get C hok jk_12 19 (by decide) jw_bf324c0fa3 (t := (0, (-2147483648), 2147483647)) hk0 (by decide) rfl rfl dX11_does_71 (fun v_30 hv_30 hf_31 => ?_)
    obtain ⟨x_32, rfl, lx_32, ux_32⟩ := tt_vi hv_30
    obtain ⟨qc, gs, hqc⟩ := tt_recv (cx := []) hok hk0 (by decide) rfl
    refine tt_callV (rest := []) C (rs_doesEarn hl D cA ak x_32 B C9 f hk0 hkw hka hkt hki hkf hkp hK (by omega) (by omega) (by omega) hok hm hC) [] [] rfl rfl (by decide) (by decide) (by decide) qc hqc rfl rfl jw_ec8565f4cb jw_fbe0846c3c jw_0b0a6efb47 jw_f96c99f44d jw_ed4d54a1b4 jn_X11_doesEarn rfl (jj_le rfl) (jj_le rfl) (jj_le rfl) (jj_le rfl) (jj_le rfl) dX11_does_74 rfl (fun _ _ _ hX => hX.elim) (fun rx pl_33 r O_37 => ?_)
    obtain ⟨rfl, hok_34, hr_35, ha_36, hR_38⟩ := O_37
    replace hf_31 := hr_35.at hk0 (by decide) (by decide) hf_31
    replace hm := hm.fr hr_35 hk0 rfl
    replace hfr := hfr.trans (hr_35.sub (by decide))
    replace hfa := hfa.trans (ha_36.sub (by decide))
    obtain ⟨g_39, hC_40, hK_41, x_42, lx_42, ux_42, rfl⟩ := hR_38
    obtain ⟨⟨g0ag_39, g0bg_39⟩, ⟨g1ag_39, g1bg_39⟩, ⟨g6ag_39, g6bg_39⟩, ⟨g7ag_39, g7bg_39⟩, ⟨g8ag_39, g8bg_39⟩⟩ := hK_41.1.1.1
    exact jj_zret C (tt_narZ (by omega) (by omega)) ⟨[], pl_33, rfl, rfl, hok_34, hfr, hfa, ⟨_, hC_40, (hK_41.mono (by omega) (by omega)), x_42, (by omega), (by omega), rfl⟩⟩ dX11_does_77 (jj_le rfl) (jj_le rfl)
  rcases jj_em (p1 = 4) with c_43 | c_43
  · refine jj_tableIn (tgt := 78) C dX11_does_1 (by rw [c_43]; decide) (by rw [c_43]; decide) (by rw [c_43]; rfl) (by decide) ?_
    refine jj_aload_n C dX11_does_78 rfl ?_
    refine jj_aload_n C dX11_does_79 rfl ?_
    refine tt_get C hok jk_12 19 (by decide) jw_bf324c0fa3 (t := (0, (-2147483648), 2147483647)) hk0 (by decide) rfl rfl dX11_does_80 (fun v_44 hv_44 hf_45 => ?_)
    obtain ⟨x_46, rfl, lx_46, ux_46⟩ := tt_vi hv_44
    obtain ⟨x_47, ex_47⟩ : ∃ z : Int32, -x_46 = z := ⟨_, rfl⟩
    refine jj_ineg (v := x_47) C dX11_does_83 ex_47 ?_
    obtain ⟨qc, gs, hqc⟩ := tt_recv (cx := []) hok hk0 (by decide) rfl
    refine tt_callV (rest := []) C (rs_doesEarn hl D cA ak x_47 B C9 f hk0 hkw hka hkt hki hkf hkp hK (by omega) (by omega) (by omega) hok hm hC) [] [] rfl rfl (by decide) (by decide) (by decide) qc hqc rfl rfl jw_ec8565f4cb jw_fbe0846c3c jw_0b0a6efb47 jw_f96c99f44d jw_ed4d54a1b4 jn_X11_doesEarn rfl (jj_le rfl) (jj_le rfl) (jj_le rfl) (jj_le rfl) (jj_le rfl) dX11_does_84 rfl (fun _ _ _ hX => hX.elim) (fun rx pl_48 r O_52 => ?_)
    obtain ⟨rfl, hok_49, hr_50, ha_51, hR_53⟩ := O_52
    replace hf_45 := hr_50.at hk0 (by decide) (by decide) hf_45
    replace hm := hm.fr hr_50 hk0 rfl
    replace hfr := hfr.trans (hr_50.sub (by decide))
    replace hfa := hfa.trans (ha_51.sub (by decide))
    obtain ⟨g_54, hC_55, hK_56, x_57, lx_57, ux_57, rfl⟩ := hR_53
    obtain ⟨⟨g0ag_54, g0bg_54⟩, ⟨g1ag_54, g1bg_54⟩, ⟨g6ag_54, g6bg_54⟩, ⟨g7ag_54, g7bg_54⟩, ⟨g8ag_54, g8bg_54⟩⟩ := hK_56.1.1.1
    exact jj_zret C (tt_narZ (by omega) (by omega)) ⟨[], pl_48, rfl, rfl, hok_49, hfr, hfa, ⟨_, hC_55, (hK_56.mono (by omega) (by omega)), x_57, (by omega), (by omega), rfl⟩⟩ dX11_does_87 (jj_le rfl) (jj_le rfl)
  rcases jj_em (p1 = 5) with c_58 | c_58
  · refine jj_tableIn (tgt := 88) C dX11_does_1 (by rw [c_58]; decide) (by rw [c_58]; decide) (by rw [c_58]; rfl) (by decide) ?_
    refine jj_aload_n C dX11_does_88 rfl ?_
    refine tt_get C hok jk_12 19 (by decide) jw_bf324c0fa3 (t := (0, (-2147483648), 2147483647)) hk0 (by decide) rfl rfl dX11_does_89 (fun v_59 hv_59 hf_60 => ?_)
    obtain ⟨x_61, rfl, lx_61, ux_61⟩ := tt_vi hv_59
    obtain ⟨y_62, ey_62, vy_62⟩ := tt_i2l x_61
    refine jj_i2l (v := y_62) C dX11_does_92 ey_62 ?_
    refine jj_lconst (v := 1) C dX11_does_93 (by decide) ?_
    refine jj_ldc2 (v := 400) C dX11_does_94 jw_80863873a1 ?_
    refine tt_call0S (rest := []) C (ct_X11_in_s7 hl D cA ak y_62) jw_2a24feddee jw_12f28ccfda jw_f96c99f44d jw_e07c9ada56 jn_X11_in rfl (jj_le rfl) (jj_le rfl) (jj_le rfl) (jj_le rfl) (jj_le rfl) dX11_does_97 rfl (fun w1 r O_63 => ?_)
    rcases O_63 with ⟨c_64, -, rfl⟩ | ⟨c_65, c_66, -, rfl⟩ | ⟨c_67, c_68, -, rfl⟩
    · have z_c_64 := jc_ltL (a := y_62.toInt) (b := 1) c_64 rfl (by decide)
      refine jj_if_eqT (tgt := 120) C dX11_does_100 (by decide) (by decide) ?_
      refine jj_iconst (v := 0) C dX11_does_120 (by decide) ?_
      exact jj_zret C rfl ⟨[], pl0, rfl, rfl, hok, hfr, hfa, ⟨_, hC, (hK.mono (by omega) (by omega)), (0 : Int32), (by decide), (by decide), rfl⟩⟩ dX11_does_121 (jj_le rfl) (jj_le rfl)
    · have z_c_65 := jc_nltL (a := y_62.toInt) (b := 1) c_65 rfl (by decide)
      have z_c_66 := jc_ltL (a := 400) (b := y_62.toInt) c_66 (by decide) rfl
      refine jj_if_eqT (tgt := 120) C dX11_does_100 (by decide) (by decide) ?_
      refine jj_iconst (v := 0) C dX11_does_120 (by decide) ?_
      exact jj_zret C rfl ⟨[], pl0, rfl, rfl, hok, hfr, hfa, ⟨_, hC, (hK.mono (by omega) (by omega)), (0 : Int32), (by decide), (by decide), rfl⟩⟩ dX11_does_121 (jj_le rfl) (jj_le rfl)
    · have z_c_67 := jc_nltL (a := y_62.toInt) (b := 1) c_67 rfl (by decide)
      have z_c_68 := jc_nltL (a := 400) (b := y_62.toInt) c_68 (by decide) rfl
      refine jj_if_eqF (tgt := 120) C dX11_does_100 (by decide) (by decide) ?_
      refine jj_aload_n C dX11_does_103 rfl ?_
      refine jj_aload_n C dX11_does_104 rfl ?_
      refine tt_getF C hok jk_12 19 (by decide) jw_bf324c0fa3 (t := (0, (-2147483648), 2147483647)) hk0 (by decide) rfl rfl hf_60 dX11_does_105 ?_
      obtain ⟨qc, gs, hqc⟩ := tt_recv (cx := []) hok hk0 (by decide) rfl
      refine tt_callV (rest := []) C (rs_goDays hl D cA ak x_61 B f hk0 hkw hka hkt hki hkf hkp hI hP hB hok hm hC) [] [] rfl rfl (by decide) (by decide) (by decide) qc hqc rfl rfl jw_6a0cf12fa5 jw_e5eaade289 jw_28c5f3477c jw_f96c99f44d jw_09fd61e7f6 jn_X11_goDays rfl (jj_le rfl) (jj_le rfl) (jj_le rfl) (jj_le rfl) (jj_le rfl) dX11_does_108 rfl (fun _ _ _ hX => hX.elim) (fun rx pl_69 r O_73 => ?_)
      obtain ⟨rfl, hok_70, hr_71, ha_72, hR_74⟩ := O_73
      replace hf_60 := hr_71.at hk0 (by decide) (by decide) hf_60
      replace hm := hm.fr hr_71 hk0 rfl
      replace hfr := hfr.trans (hr_71.sub (by decide))
      replace hfa := hfa.trans (ha_72.sub (by decide))
      obtain ⟨g_75, hC_76, hG_77, y_78, rfl⟩ := hR_74
      obtain ⟨⟨g0ag_75, g0bg_75⟩, ⟨g1ag_75, g1bg_75⟩, ⟨g6ag_75, g6bg_75⟩, ⟨g7ag_75, g7bg_75⟩, ⟨g8ag_75, g8bg_75⟩⟩ := hG_77.1.1.1
      refine jj_lconst (v := 0) C dX11_does_111 (by decide) ?_
      refine jj_lcmp_lt (tgt := 120) C dX11_does_112 dX11_does_113 (by decide) (fun c_79 => ?_) (fun c_79 => ?_)
      · have z_c_79 := jc_ltL (a := y_78.toInt) (b := 0) c_79 rfl (by decide)
        refine jj_iconst (v := 0) C dX11_does_120 (by decide) ?_
        exact jj_zret C rfl ⟨[], pl_69, rfl, rfl, hok_70, hfr, hfa, ⟨_, hC_76, ⟨hG_77.1.mono (by omega), hG_77.2.1, (by have q9 := congrArg Int64.toInt (hG_77.2.2.2 9 (by omega)); omega)⟩, (0 : Int32), (by decide), (by decide), rfl⟩⟩ dX11_does_121 (jj_le rfl) (jj_le rfl)
      · have z_c_79 := jc_nltL (a := y_78.toInt) (b := 0) c_79 rfl (by decide)
        refine jj_iconst (v := 1) C dX11_does_116 (by decide) ?_
        refine jj_goto (tgt := 121) C dX11_does_117 (by decide) ?_
        exact jj_zret C rfl ⟨[], pl_69, rfl, rfl, hok_70, hfr, hfa, ⟨_, hC_76, ⟨hG_77.1.mono (by omega), hG_77.2.1, (by have q9 := congrArg Int64.toInt (hG_77.2.2.2 9 (by omega)); omega)⟩, (1 : Int32), (by decide), (by decide), rfl⟩⟩ dX11_does_121 (jj_le rfl) (jj_le rfl)
  rcases jj_em (p1 = 6) with c_80 | c_80
  · refine jj_tableIn (tgt := 122) C dX11_does_1 (by rw [c_80]; decide) (by rw [c_80]; decide) (by rw [c_80]; rfl) (by decide) ?_
    refine jj_aload_n C dX11_does_122 rfl ?_
    obtain ⟨qc, gs, hqc⟩ := tt_recv (cx := []) hok hk0 (by decide) rfl
    refine tt_callV (rest := []) C (rs_crystallizeAll hl D cA ak B f hk0 hkw hka hkt hki hkf hkp hI hP (by omega) hok hm hC) [] [] rfl rfl (by decide) (by decide) (by decide) qc hqc rfl rfl jw_fc6cc84c3a jw_5814701839 jw_09f413f815 jw_f96c99f44d jw_cb826cdb82 jn_X11_crystallizeAll rfl (jj_le rfl) (jj_le rfl) (jj_le rfl) (jj_le rfl) (jj_le rfl) dX11_does_123 rfl (fun _ _ _ hX => hX.elim) (fun rx pl_81 r O_85 => ?_)
    obtain ⟨rfl, hok_82, hr_83, ha_84, hR_86⟩ := O_85
    replace hm := hm.fr hr_83 hk0 rfl
    replace hfr := hfr.trans (hr_83.sub (by decide))
    replace hfa := hfa.trans (ha_84.sub (by decide))
    obtain ⟨g_87, hC_88, hI_89, hP_90, hq_91, hq_92, y_93, rfl⟩ := hR_86
    obtain ⟨⟨g0ag_87, g0bg_87⟩, ⟨g1ag_87, g1bg_87⟩, ⟨g6ag_87, g6bg_87⟩, ⟨g7ag_87, g7bg_87⟩, ⟨g8ag_87, g8bg_87⟩⟩ := hI_89.1.1
    refine jj_lstore_n C dX11_does_126 (by decide) rfl ?_
    refine jj_iconst (v := 1) C dX11_does_127 (by decide) ?_
    exact jj_zret C rfl ⟨[], pl_81, rfl, rfl, hok_82, hfr, hfa, ⟨_, hC_88, ⟨hI_89.mono (by omega), hP_90, (by have q9 := congrArg Int64.toInt (hq_92 9 (by omega)); omega)⟩, (1 : Int32), (by decide), (by decide), rfl⟩⟩ dX11_does_128 (jj_le rfl) (jj_le rfl)
  refine jj_tableOut (tgt := 129) C dX11_does_1 (by have zc_1 := lv_neT (a := 0) c_1 (by decide); have zc_2 := lv_neT (a := 1) c_2 (by decide); have zc_13 := lv_neT (a := 2) c_13 (by decide); have zc_29 := lv_neT (a := 3) c_29 (by decide); have zc_43 := lv_neT (a := 4) c_43 (by decide); have zc_58 := lv_neT (a := 5) c_58 (by decide); have zc_80 := lv_neT (a := 6) c_80 (by decide); omega) (by decide) ?_
  refine jj_aload_n C dX11_does_129 rfl ?_
  obtain ⟨qc, gs, hqc⟩ := tt_recv (cx := []) hok hk0 (by decide) rfl
  refine tt_callV (rest := []) C (rs_mergeAll hl D cA ak B f hk0 hkw hka hkt hki hkf hkp hI hP (by omega) hok hm hC) [] [] rfl rfl (by decide) (by decide) (by decide) qc hqc rfl rfl jw_c2961d41c3 jw_cba6ce7d79 jw_ec77e1d55c jw_f96c99f44d jw_2b00fc14d7 jn_X11_mergeAll rfl (jj_le rfl) (jj_le rfl) (jj_le rfl) (jj_le rfl) (jj_le rfl) dX11_does_130 rfl (fun _ _ _ hX => hX.elim) (fun rx pl_94 r O_98 => ?_)
  obtain ⟨rfl, hok_95, hr_96, ha_97, hR_99⟩ := O_98
  replace hm := hm.fr hr_96 hk0 rfl
  replace hfr := hfr.trans (hr_96.sub (by decide))
  replace hfa := hfa.trans (ha_97.sub (by decide))
  obtain ⟨g_100, hC_101, hI_102, hP_103, hq_104, hq_105, x_106, rfl⟩ := hR_99
  obtain ⟨⟨g0ag_100, g0bg_100⟩, ⟨g1ag_100, g1bg_100⟩, ⟨g6ag_100, g6bg_100⟩, ⟨g7ag_100, g7bg_100⟩, ⟨g8ag_100, g8bg_100⟩⟩ := hI_102.1.1
  refine jj_if_lt (tgt := 140) C dX11_does_133 (by decide) (fun c_107 => ?_) (fun c_107 => ?_)
  · have z_c_107 := jc_lt (a := x_106.toInt) (b := 0) c_107 rfl (by decide)
    refine jj_iconst (v := 0) C dX11_does_140 (by decide) ?_
    exact jj_zret C rfl ⟨[], pl_94, rfl, rfl, hok_95, hfr, hfa, ⟨_, hC_101, ⟨hI_102.mono (by omega), hP_103, (by have q9 := congrArg Int64.toInt (hq_105 9 (by omega)); omega)⟩, (0 : Int32), (by decide), (by decide), rfl⟩⟩ dX11_does_141 (jj_le rfl) (jj_le rfl)
  · have z_c_107 := jc_nlt (a := x_106.toInt) (b := 0) c_107 rfl (by decide)
    refine jj_iconst (v := 1) C dX11_does_136 (by decide) ?_
    refine jj_goto (tgt := 141) C dX11_does_137 (by decide) ?_
    exact jj_zret C rfl ⟨[], pl_94, rfl, rfl, hok_95, hfr, hfa, ⟨_, hC_101, ⟨hI_102.mono (by omega), hP_103, (by have q9 := congrArg Int64.toInt (hq_105 9 (by omega)); omega)⟩, (1 : Int32), (by decide), (by decide), rfl⟩⟩ dX11_does_141 (jj_le rfl) (jj_le rfl)

set_option maxHeartbeats 4000000 in
set_option maxRecDepth 100000 in
theorem rs_goesThrough {l : Launch} (hl : l.stackTraces = false) (D : va_G) (cA : Nat → ClassId) (ak : (Nat → Nat) × (Nat → Nat)) {Kd : Nat → Nat} {h0 aw aa at0 ai af ap : Nat} (n17 : Nat) (n16 : Nat) (n15 : Nat) (n14 : Nat) (B C9 : Int) (f : Nat → Int64) (hk0 : Kd h0 = 1) (hkw : Kd aw = 2) (hka : Kd aa = 3) (hkt : Kd at0 = 4) (hki : Kd ai = 5) (hkf : Kd af = 6) (hkp : Kd ap = 7) (ln17 : (0 : Int) ≤ (n17 : Int)) (un17 : (n17 : Int) ≤ 3) (ln16 : (0 : Int) ≤ (n16 : Int)) (un16 : (n16 : Int) ≤ 400) (ln15 : (0 : Int) ≤ (n15 : Int)) (un15 : (n15 : Int) ≤ 400) (ln14 : (0 : Int) ≤ (n14 : Int)) (un14 : (n14 : Int) ≤ 400) (h45 : n14 ≤ n15) (h56 : n15 ≤ n16) (h7 : n17 = 0) (hK : rl_K (B + 3000000 * (n14 : Int)) (C9 + 12 * (n14 : Int)) f) (hB5 : B + 3000000 * (n16 : Int) ≤ 43520000000) (hB0 : 12760000000 ≤ B) (hC9 : 0 ≤ C9 ∧ C9 ≤ 4611686018427300000) {pl0 : va_W} (hok : tt_ok rt_tk cA Kd pl0) (hm : rl_m pl0 h0 aw aa at0 ai af ap) (hC : tt_lc pl0 aw f) (hs14 : tt_at pl0 h0 14 (.int (nI n14))) (hs15 : tt_at pl0 h0 15 (.int (nI n15))) (hs16 : tt_at pl0 h0 16 (.int (nI n16))) (hs17 : tt_at pl0 h0 17 (.int (nI n17))) : jj_M l D cA ak yX11_goesThrough (.code yX11_goesThrough cX11_goesThrough 3 none) 10 251 0 0 ([] ++ pl0) [.ref h0] (tt_O (fun rx pl1 r => rx = [] ∧ tt_ok rt_tk cA Kd pl1 ∧ tt_fr Kd [(1, 8), (1, 9), (1, 14), (1, 15), (1, 17), (1, 18), (1, 19), (1, 20)] pl0 pl1 ∧ tt_fa Kd [2, 5, 8, 9] pl0 pl1 ∧ ((∃ (g : Nat → Int64) (a b m : Nat), tt_lc pl1 aw g ∧ tt_at pl1 h0 14 (.int (nI a)) ∧ tt_at pl1 h0 15 (.int (nI b)) ∧ tt_at pl1 h0 17 (.int (nI m)) ∧ n14 ≤ a ∧ a ≤ b ∧ b ≤ n16 ∧ m ≤ 3 ∧ (m = 0 → n14 + 1 ≤ b) ∧ (m = 0 → rl_K (B + 3000000 * (b : Int)) (C9 + 12 * (b : Int)) g) ∧ r = none)))) (tt_OX (fun _ _ _ => False)) := by
  refine jj_start hl (by decide) jw_7bdeb2db1f (jj_le rfl) ?_
  intro p e s m args below meth c A hargs hA C hex hmn
  have hfr := tt_fr.refl (K := Kd) (WS := [(1, 8), (1, 9), (1, 14), (1, 15), (1, 17), (1, 18), (1, 19), (1, 20)]) pl0
  have hfa := tt_fa.refl (K := Kd) (WA := [2, 5, 8, 9]) pl0
  have hI := hK.1
  have hP := hK.2.1
  have hH := hI.1.1
  obtain ⟨⟨g0a, g0b⟩, ⟨g1a, g1b⟩, ⟨g6a, g6b⟩, ⟨g7a, g7b⟩, ⟨g8a, g8b⟩⟩ := hH
  refine jj_aload_n C dX11_goesThrough_0 rfl ?_
  refine tt_getF C hok jk_12 14 (by decide) jw_6446e1fd81 (t := (0, 0, 400)) hk0 (by decide) rfl rfl hs14 dX11_goesThrough_1 ?_
  refine jj_istore_n C dX11_goesThrough_4 (by decide) rfl ?_
  refine jj_aload_n C dX11_goesThrough_5 rfl ?_
  obtain ⟨qc, gs, hqc⟩ := tt_recv (cx := []) hok hk0 (by decide) rfl
  refine tt_callV (rest := []) C (rs_operation hl D cA ak n16 n15 n14 hk0 hkw hka hkt hki hkf hkp (by first | omega | decide) (by first | omega | decide) (by first | omega | decide) (by first | omega | decide) (by first | omega | decide) (by first | omega | decide) (by omega) (by omega) hok hm hs14 hs15 hs16) [] [] rfl rfl (by decide) (by decide) (by decide) qc hqc rfl rfl jw_3f7591dd59 jw_0ec80222c9 jw_f5dd885430 jw_f96c99f44d jw_9e00105889 jn_X11_operation rfl (jj_le rfl) (jj_le rfl) (jj_le rfl) (jj_le rfl) (jj_le rfl) dX11_goesThrough_6 rfl (fun _ _ _ hX => hX.elim) (fun rx pl_1 r O_5 => ?_)
  obtain ⟨rfl, hok_2, hr_3, ha_4, hR_6⟩ := O_5
  replace hs14 := hr_3.at hk0 (by decide) (by decide) hs14
  replace hs15 := hr_3.at hk0 (by decide) (by decide) hs15
  replace hs16 := hr_3.at hk0 (by decide) (by decide) hs16
  replace hs17 := hr_3.at hk0 (by decide) (by decide) hs17
  replace hC := ha_4.at hkw (by decide) (by decide) hC
  replace hm := hm.fr hr_3 hk0 rfl
  replace hfr := hfr.trans (hr_3.sub (by decide))
  replace hfa := hfa.trans (ha_4.sub (by decide))
  rcases hR_6 with rfl | ⟨x_7, lx_7, ux_7, rfl⟩ | ⟨hw_8, rfl⟩
  · refine jj_istore_n C dX11_goesThrough_9 (by decide) rfl ?_
    refine jj_iload_n C dX11_goesThrough_10 rfl ?_
    refine jj_iconst (v := (-1)) C dX11_goesThrough_11 (by decide) ?_
    refine jj_icmp_neF (tgt := 20) C dX11_goesThrough_12 (by decide) (by decide) ?_
    refine jj_aload_n C dX11_goesThrough_15 rfl ?_
    refine jj_iconst (v := 1) C dX11_goesThrough_16 (by decide) ?_
    obtain ⟨qc, gs, hqc⟩ := tt_recv (cx := []) hok_2 hk0 (by decide) rfl
    refine tt_callV (rest := []) C (rs_wrong_1 hl D cA ak n17 hk0 hkw hka hkt hki hkf hkp (by first | omega | decide) (by first | omega | decide) hok_2 hm hs17) [] [] rfl rfl (by decide) (by decide) (by decide) qc hqc rfl rfl jw_e206642f3f jw_6f17e07a53 jw_400f18f3e9 jw_f96c99f44d jw_6b1a6dabbc jn_X11_wrong rfl (jj_le rfl) (jj_le rfl) (jj_le rfl) (jj_le rfl) (jj_le rfl) dX11_goesThrough_17 rfl (fun _ _ _ hX => hX.elim) (fun rx pl_9 r O_13 => ?_)
    obtain ⟨rfl, hok_10, hr_11, ha_12, hR_14⟩ := O_13
    replace hs14 := hr_11.at hk0 (by decide) (by decide) hs14
    replace hs15 := hr_11.at hk0 (by decide) (by decide) hs15
    replace hs16 := hr_11.at hk0 (by decide) (by decide) hs16
    replace hC := ha_12.at hkw (by decide) (by decide) hC
    replace hm := hm.fr hr_11 hk0 rfl
    replace hfr := hfr.trans (hr_11.sub (by decide))
    replace hfa := hfa.trans (ha_12.sub (by decide))
    obtain ⟨n_15, hf_16, ln_15, un_15, rfl⟩ := hR_14
    refine jj_aload_n C dX11_goesThrough_20 rfl ?_
    obtain ⟨qc, gs, hqc⟩ := tt_recv (cx := []) hok_10 hk0 (by decide) rfl
    refine tt_callV (rest := []) C (rs_pass hl D cA ak n_15 n16 n15 n14 hk0 hkw hka hkt hki hkf hkp (by first | omega | decide) (by first | omega | decide) (by first | omega | decide) (by first | omega | decide) (by first | omega | decide) (by first | omega | decide) (by first | omega | decide) (by first | omega | decide) (by omega) (by omega) hok_10 hm hs14 hs15 hs16 hf_16) [] [] rfl rfl (by decide) (by decide) (by decide) qc hqc rfl rfl jw_b8e803331f jw_409849e3da jw_7cfaf31817 jw_f96c99f44d jw_3d0e41f30f jn_X11_pass rfl (jj_le rfl) (jj_le rfl) (jj_le rfl) (jj_le rfl) (jj_le rfl) dX11_goesThrough_21 rfl (fun _ _ _ hX => hX.elim) (fun rx pl_17 r O_21 => ?_)
    obtain ⟨rfl, hok_18, hr_19, ha_20, hR_22⟩ := O_21
    replace hs16 := hr_19.at hk0 (by decide) (by decide) hs16
    replace hf_16 := hr_19.at hk0 (by decide) (by decide) hf_16
    replace hC := ha_20.at hkw (by decide) (by decide) hC
    replace hm := hm.fr hr_19 hk0 rfl
    replace hfr := hfr.trans (hr_19.sub (by decide))
    replace hfa := hfa.trans (ha_20.sub (by decide))
    obtain ⟨n_23, n_24, hf_25, hf_26, hq_27, hq_28, hq_29, hq_30, rfl⟩ := hR_22
    refine jj_iload_n C dX11_goesThrough_24 rfl ?_
    refine jj_iconst (v := 1) C dX11_goesThrough_25 (by decide) ?_
    refine jj_icmp_leT (tgt := 43) C dX11_goesThrough_26 (by decide) (by decide) ?_
    refine jj_aload_n C dX11_goesThrough_43 rfl ?_
    refine jj_aload_n C dX11_goesThrough_44 rfl ?_
    refine jj_lconst (v := 0) C dX11_goesThrough_45 (by decide) ?_
    refine jj_ldc2 (v := 9999999) C dX11_goesThrough_46 jw_ee60e309b3 ?_
    obtain ⟨qc, gs, hqc⟩ := tt_recv (cx := []) hok_18 hk0 (by decide) rfl
    refine tt_callV (rest := [.ref h0]) C (rs_number hl D cA ak n_15 n16 n_24 n_23 (0 : Int64) (9999999 : Int64) hk0 hkw hka hkt hki hkf hkp (by first | omega | decide) (by first | omega | decide) (by first | omega | decide) (by first | omega | decide) (by first | omega | decide) (by first | omega | decide) (by first | omega | decide) (by first | omega | decide) (by omega) (by omega) hok_18 hm hf_25 hf_26 hs16 hf_16) [] [] rfl rfl (by decide) (by decide) (by decide) qc hqc rfl rfl jw_adb570a667 jw_970096b033 jw_c6bab24534 jw_f96c99f44d jw_2d66378959 jn_X11_number rfl (jj_le rfl) (jj_le rfl) (jj_le rfl) (jj_le rfl) (jj_le rfl) dX11_goesThrough_49 rfl (fun _ _ _ hX => hX.elim) (fun rx pl_31 r O_35 => ?_)
    obtain ⟨rfl, hok_32, hr_33, ha_34, hR_36⟩ := O_35
    replace hs16 := hr_33.at hk0 (by decide) (by decide) hs16
    replace hC := ha_34.at hkw (by decide) (by decide) hC
    replace hm := hm.fr hr_33 hk0 rfl
    replace hfr := hfr.trans (hr_33.sub (by decide))
    replace hfa := hfa.trans (ha_34.sub (by decide))
    obtain ⟨n_37, n_38, n_39, x_40, hf_41, hf_42, hf_43, hq_44, hq_45, hq_46, hq_47, hq_48, rfl⟩ := hR_36
    have lx_40 := tt_lo x_40
    have ux_40 := tt_hi x_40
    have p1x_40 : (0 : Int64).toInt = 0 := by decide
    have p2x_40 : (9999999 : Int64).toInt = 9999999 := by decide
    refine rl_put C hok_32 jk_12 19 (by decide) jw_bf324c0fa3 (t := (0, (-2147483648), 2147483647)) hk0 (by decide) rfl rfl rfl (tt_ia x_40) rfl rfl dX11_goesThrough_52 (fun pl_49 hok_50 tr hn tl => ?_)
    replace hs16 := tr _ _ _ (Or.inr (by decide)) hs16
    replace hf_41 := tr _ _ _ (Or.inr (by decide)) hf_41
    replace hf_42 := tr _ _ _ (Or.inr (by decide)) hf_42
    replace hf_43 := tr _ _ _ (Or.inr (by decide)) hf_43
    have hf_51 := hn
    replace hm := hm.put tr (by decide)
    replace hfr := hfr.put hk0 tr (by decide)
    replace hC := tl _ _ hC
    replace hfa := hfa.all tl
    refine jj_iload_n C dX11_goesThrough_55 rfl ?_
    refine jj_iconst (v := 1) C dX11_goesThrough_56 (by decide) ?_
    refine jj_icmp_gtF (tgt := 72) C dX11_goesThrough_57 (by decide) (by decide) ?_
    refine jj_aload_n C dX11_goesThrough_60 rfl ?_
    refine jj_aload_n C dX11_goesThrough_61 rfl ?_
    refine jj_lconst (v := 0) C dX11_goesThrough_62 (by decide) ?_
    refine jj_ldc2 (v := 9999999) C dX11_goesThrough_63 jw_ee60e309b3 ?_
    obtain ⟨qc, gs, hqc⟩ := tt_recv (cx := []) hok_50 hk0 (by decide) rfl
    refine tt_callV (rest := [.ref h0]) C (rs_number hl D cA ak n_39 n16 n_38 n_37 (0 : Int64) (9999999 : Int64) hk0 hkw hka hkt hki hkf hkp (by first | omega | decide) (by first | omega | decide) (by first | omega | decide) (by first | omega | decide) (by first | omega | decide) (by first | omega | decide) (by first | omega | decide) (by first | omega | decide) (by omega) (by omega) hok_50 hm hf_41 hf_42 hs16 hf_43) [] [] rfl rfl (by decide) (by decide) (by decide) qc hqc rfl rfl jw_adb570a667 jw_970096b033 jw_c6bab24534 jw_f96c99f44d jw_2d66378959 jn_X11_number rfl (jj_le rfl) (jj_le rfl) (jj_le rfl) (jj_le rfl) (jj_le rfl) dX11_goesThrough_66 rfl (fun _ _ _ hX => hX.elim) (fun rx pl_52 r O_56 => ?_)
    obtain ⟨rfl, hok_53, hr_54, ha_55, hR_57⟩ := O_56
    replace hs16 := hr_54.at hk0 (by decide) (by decide) hs16
    replace hf_51 := hr_54.at hk0 (by decide) (by decide) hf_51
    replace hC := ha_55.at hkw (by decide) (by decide) hC
    replace hm := hm.fr hr_54 hk0 rfl
    replace hfr := hfr.trans (hr_54.sub (by decide))
    replace hfa := hfa.trans (ha_55.sub (by decide))
    obtain ⟨n_58, n_59, n_60, x_61, hf_62, hf_63, hf_64, hq_65, hq_66, hq_67, hq_68, hq_69, rfl⟩ := hR_57
    have lx_61 := tt_lo x_61
    have ux_61 := tt_hi x_61
    have p1x_61 : (0 : Int64).toInt = 0 := by decide
    have p2x_61 : (9999999 : Int64).toInt = 9999999 := by decide
    refine rl_put C hok_53 jk_12 20 (by decide) jw_c1fef1305f (t := (0, (-2147483648), 2147483647)) hk0 (by decide) rfl rfl rfl (tt_ia x_61) rfl rfl dX11_goesThrough_69 (fun pl_70 hok_71 tr hn tl => ?_)
    replace hs16 := tr _ _ _ (Or.inr (by decide)) hs16
    replace hf_51 := tr _ _ _ (Or.inr (by decide)) hf_51
    replace hf_62 := tr _ _ _ (Or.inr (by decide)) hf_62
    replace hf_63 := tr _ _ _ (Or.inr (by decide)) hf_63
    replace hf_64 := tr _ _ _ (Or.inr (by decide)) hf_64
    have hf_72 := hn
    replace hm := hm.put tr (by decide)
    replace hfr := hfr.put hk0 tr (by decide)
    replace hC := tl _ _ hC
    replace hfa := hfa.all tl
    refine jj_aload_n C dX11_goesThrough_72 rfl ?_
    refine tt_getF C hok_71 jk_12 17 (by decide) jw_17e99f0710 (t := (0, (-2147483648), 2147483647)) hk0 (by decide) rfl rfl hf_64 dX11_goesThrough_73 ?_
    refine jj_if_ne (tgt := 94) C dX11_goesThrough_76 (by decide) (fun c_73 => ?_) (fun c_73 => ?_)
    · have z_c_73 := jc_neq (a := ((n_60 : Nat) : Int)) (b := 0) c_73 (rl_ti (by omega)) (by decide)
      refine jj_aload_n C dX11_goesThrough_94 rfl ?_
      refine tt_getF C hok_71 jk_12 17 (by decide) jw_17e99f0710 (t := (0, (-2147483648), 2147483647)) hk0 (by decide) rfl rfl hf_64 dX11_goesThrough_95 ?_
      refine jj_if_gt (tgt := 109) C dX11_goesThrough_98 (by decide) (fun c_74 => ?_) (fun c_74 => ?_)
      · have z_c_74 := jc_lt (a := 0) (b := ((n_60 : Nat) : Int)) c_74 (by decide) (rl_ti (by omega))
        exact jj_vret C ⟨[], pl_70, rfl, rfl, hok_71, hfr, hfa, ⟨_, n_58, n_59, n_60, hC, hf_62, hf_63, hf_64, (by omega), (by omega), (by omega), (by omega), (by omega), (fun z9 => by exfalso; omega), rfl⟩⟩ dX11_goesThrough_109 (jj_le rfl) (jj_le rfl)
      · have z_c_74 := jc_nlt (a := 0) (b := ((n_60 : Nat) : Int)) c_74 (by decide) (rl_ti (by omega))
        exfalso; omega
    · have z_c_73 := jc_eq (a := ((n_60 : Nat) : Int)) (b := 0) c_73 (rl_ti (by omega)) (by decide)
      refine jj_aload_n C dX11_goesThrough_79 rfl ?_
      refine jj_ldcsw (k := 23) (tx := ";") C dX11_goesThrough_80 (by decide +kernel) ?_
      obtain ⟨qc, gs, hqc⟩ := tt_recv (cx := []) hok_71 hk0 (by decide) rfl
      refine tt_callV (rest := []) C (rs_isWord_semi hl D cA ak n16 n_59 n_58 hk0 hkw hka hkt hki hkf hkp (by first | omega | decide) (by first | omega | decide) (by first | omega | decide) (by first | omega | decide) (by first | omega | decide) (by first | omega | decide) (by omega) (by omega) hok_71 hm hf_62 hf_63 hs16) [] [] rfl rfl (by decide) (by decide) (by decide) qc hqc rfl rfl jw_04296bb1c5 jw_2d2d3dccfc jw_f04e1767ef jw_f96c99f44d jw_f54d9c537b jn_X11_isWord rfl (jj_le rfl) (jj_le rfl) (jj_le rfl) (jj_le rfl) (jj_le rfl) dX11_goesThrough_83 rfl (fun _ _ _ hX => hX.elim) (fun rx pl_75 r O_79 => ?_)
      obtain ⟨rfl, hok_76, hr_77, ha_78, hR_80⟩ := O_79
      replace hs16 := hr_77.at hk0 (by decide) (by decide) hs16
      replace hf_51 := hr_77.at hk0 (by decide) (by decide) hf_51
      replace hf_62 := hr_77.at hk0 (by decide) (by decide) hf_62
      replace hf_63 := hr_77.at hk0 (by decide) (by decide) hf_63
      replace hf_64 := hr_77.at hk0 (by decide) (by decide) hf_64
      replace hf_72 := hr_77.at hk0 (by decide) (by decide) hf_72
      replace hC := ha_78.at hkw (by decide) (by decide) hC
      replace hm := hm.fr hr_77 hk0 rfl
      replace hfr := hfr.trans (hr_77.sub (by decide))
      replace hfa := hfa.trans (ha_78.sub (by decide))
      rcases hR_80 with rfl | ⟨hw_81, rfl⟩
      · refine jj_if_neF (tgt := 94) C dX11_goesThrough_86 (by decide) (by decide) ?_
        refine jj_aload_n C dX11_goesThrough_89 rfl ?_
        refine jj_iconst (v := 1) C dX11_goesThrough_90 (by decide) ?_
        obtain ⟨qc, gs, hqc⟩ := tt_recv (cx := []) hok_76 hk0 (by decide) rfl
        refine tt_callV (rest := []) C (rs_wrong_1 hl D cA ak n_60 hk0 hkw hka hkt hki hkf hkp (by first | omega | decide) (by first | omega | decide) hok_76 hm hf_64) [] [] rfl rfl (by decide) (by decide) (by decide) qc hqc rfl rfl jw_e206642f3f jw_6f17e07a53 jw_400f18f3e9 jw_f96c99f44d jw_6b1a6dabbc jn_X11_wrong rfl (jj_le rfl) (jj_le rfl) (jj_le rfl) (jj_le rfl) (jj_le rfl) dX11_goesThrough_91 rfl (fun _ _ _ hX => hX.elim) (fun rx pl_82 r O_86 => ?_)
        obtain ⟨rfl, hok_83, hr_84, ha_85, hR_87⟩ := O_86
        replace hs16 := hr_84.at hk0 (by decide) (by decide) hs16
        replace hf_51 := hr_84.at hk0 (by decide) (by decide) hf_51
        replace hf_62 := hr_84.at hk0 (by decide) (by decide) hf_62
        replace hf_63 := hr_84.at hk0 (by decide) (by decide) hf_63
        replace hf_72 := hr_84.at hk0 (by decide) (by decide) hf_72
        replace hC := ha_85.at hkw (by decide) (by decide) hC
        replace hm := hm.fr hr_84 hk0 rfl
        replace hfr := hfr.trans (hr_84.sub (by decide))
        replace hfa := hfa.trans (ha_85.sub (by decide))
        obtain ⟨n_88, hf_89, ln_88, un_88, rfl⟩ := hR_87
        refine jj_aload_n C dX11_goesThrough_94 rfl ?_
        refine tt_getF C hok_83 jk_12 17 (by decide) jw_17e99f0710 (t := (0, (-2147483648), 2147483647)) hk0 (by decide) rfl rfl hf_89 dX11_goesThrough_95 ?_
        refine jj_if_gt (tgt := 109) C dX11_goesThrough_98 (by decide) (fun c_90 => ?_) (fun c_90 => ?_)
        · have z_c_90 := jc_lt (a := 0) (b := ((n_88 : Nat) : Int)) c_90 (by decide) (rl_ti (by omega))
          exact jj_vret C ⟨[], pl_82, rfl, rfl, hok_83, hfr, hfa, ⟨_, n_58, n_59, n_88, hC, hf_62, hf_63, hf_89, (by omega), (by omega), (by omega), (by omega), (by omega), (fun z9 => by exfalso; omega), rfl⟩⟩ dX11_goesThrough_109 (jj_le rfl) (jj_le rfl)
        · have z_c_90 := jc_nlt (a := 0) (b := ((n_88 : Nat) : Int)) c_90 (by decide) (rl_ti (by omega))
          exfalso; omega
      · refine jj_if_neT (tgt := 94) C dX11_goesThrough_86 (by decide) (by decide) ?_
        refine jj_aload_n C dX11_goesThrough_94 rfl ?_
        refine tt_getF C hok_76 jk_12 17 (by decide) jw_17e99f0710 (t := (0, (-2147483648), 2147483647)) hk0 (by decide) rfl rfl hf_64 dX11_goesThrough_95 ?_
        refine jj_if_gt (tgt := 109) C dX11_goesThrough_98 (by decide) (fun c_91 => ?_) (fun c_91 => ?_)
        · have z_c_91 := jc_lt (a := 0) (b := ((n_60 : Nat) : Int)) c_91 (by decide) (rl_ti (by omega))
          exfalso; omega
        · have z_c_91 := jc_nlt (a := 0) (b := ((n_60 : Nat) : Int)) c_91 (by decide) (rl_ti (by omega))
          refine jj_aload_n C dX11_goesThrough_101 rfl ?_
          refine jj_iload_n C dX11_goesThrough_102 rfl ?_
          obtain ⟨qc, gs, hqc⟩ := tt_recv (cx := []) hok_76 hk0 (by decide) rfl
          refine tt_callV (rest := []) C (rs_does_1 hl D cA ak ((-1) : Int32) (B + 3000000 * (n14 : Int)) (C9 + 12 * (n14 : Int)) f hk0 hkw hka hkt hki hkf hkp (by omega) (by omega) hK (by omega) (by omega) (by omega) hok_76 hm hC) [] [] rfl rfl (by decide) (by decide) (by decide) qc hqc rfl rfl jw_af539af08c jw_bce25f0700 jw_0f699256b3 jw_f96c99f44d jw_eebb003ba4 jn_X11_does rfl (jj_le rfl) (jj_le rfl) (jj_le rfl) (jj_le rfl) (jj_le rfl) dX11_goesThrough_103 rfl (fun _ _ _ hX => hX.elim) (fun rx pl_92 r O_96 => ?_)
          obtain ⟨rfl, hok_93, hr_94, ha_95, hR_97⟩ := O_96
          replace hs16 := hr_94.at hk0 (by decide) (by decide) hs16
          replace hf_51 := hr_94.at hk0 (by decide) (by decide) hf_51
          replace hf_62 := hr_94.at hk0 (by decide) (by decide) hf_62
          replace hf_63 := hr_94.at hk0 (by decide) (by decide) hf_63
          replace hf_64 := hr_94.at hk0 (by decide) (by decide) hf_64
          replace hf_72 := hr_94.at hk0 (by decide) (by decide) hf_72
          replace hm := hm.fr hr_94 hk0 rfl
          replace hfr := hfr.trans (hr_94.sub (by decide))
          replace hfa := hfa.trans (ha_95.sub (by decide))
          obtain ⟨g_98, hC_99, hK_100, x_101, lx_101, ux_101, rfl⟩ := hR_97
          obtain ⟨⟨g0ag_98, g0bg_98⟩, ⟨g1ag_98, g1bg_98⟩, ⟨g6ag_98, g6bg_98⟩, ⟨g7ag_98, g7bg_98⟩, ⟨g8ag_98, g8bg_98⟩⟩ := hK_100.1.1.1
          refine jj_if_eq (tgt := 110) C dX11_goesThrough_106 (by decide) (fun c_102 => ?_) (fun c_102 => ?_)
          · have z_c_102 := jc_eq (a := x_101.toInt) (b := 0) c_102 rfl (by decide)
            refine jj_aload_n C dX11_goesThrough_110 rfl ?_
            refine jj_iconst (v := 1) C dX11_goesThrough_111 (by decide) ?_
            refine rl_put C hok_93 jk_12 17 (by decide) jw_17e99f0710 (t := (0, (-2147483648), 2147483647)) hk0 (by decide) rfl rfl rfl (tt_ia (1 : Int32)) rfl rfl dX11_goesThrough_112 (fun pl_103 hok_104 tr hn tl => ?_)
            replace hs16 := tr _ _ _ (Or.inr (by decide)) hs16
            replace hf_51 := tr _ _ _ (Or.inr (by decide)) hf_51
            replace hf_62 := tr _ _ _ (Or.inr (by decide)) hf_62
            replace hf_63 := tr _ _ _ (Or.inr (by decide)) hf_63
            replace hf_72 := tr _ _ _ (Or.inr (by decide)) hf_72
            have hf_105 := hn
            replace hm := hm.put tr (by decide)
            replace hfr := hfr.put hk0 tr (by decide)
            replace hC_99 := tl _ _ hC_99
            replace hfa := hfa.all tl
            refine jj_aload_n C dX11_goesThrough_115 rfl ?_
            refine jj_iload_n C dX11_goesThrough_116 rfl ?_
            refine rl_put C hok_104 jk_12 18 (by decide) jw_a8ef26b797 (t := (0, (-2147483648), 2147483647)) hk0 (by decide) rfl rfl rfl (tt_ia (nI n14)) rfl rfl dX11_goesThrough_117 (fun pl_106 hok_107 tr hn tl => ?_)
            replace hs16 := tr _ _ _ (Or.inr (by decide)) hs16
            replace hf_51 := tr _ _ _ (Or.inr (by decide)) hf_51
            replace hf_62 := tr _ _ _ (Or.inr (by decide)) hf_62
            replace hf_63 := tr _ _ _ (Or.inr (by decide)) hf_63
            replace hf_72 := tr _ _ _ (Or.inr (by decide)) hf_72
            replace hf_105 := tr _ _ _ (Or.inr (by decide)) hf_105
            have hf_108 := hn
            replace hm := hm.put tr (by decide)
            replace hfr := hfr.put hk0 tr (by decide)
            replace hC_99 := tl _ _ hC_99
            replace hfa := hfa.all tl
            exact jj_vret C ⟨[], pl_106, rfl, rfl, hok_107, hfr, hfa, ⟨_, n_58, n_59, 1, hC_99, hf_62, hf_63, hf_105, (by omega), (by omega), (by omega), (by omega), (by omega), (fun z9 => by exfalso; omega), rfl⟩⟩ dX11_goesThrough_120 (jj_le rfl) (jj_le rfl)
          · have z_c_102 := jc_neq (a := x_101.toInt) (b := 0) c_102 rfl (by decide)
            exact jj_vret C ⟨[], pl_92, rfl, rfl, hok_93, hfr, hfa, ⟨_, n_58, n_59, n_60, hC_99, hf_62, hf_63, hf_64, (by omega), (by omega), (by omega), (by omega), (by omega), (fun _ => hK_100.mono (by omega) (by omega)), rfl⟩⟩ dX11_goesThrough_109 (jj_le rfl) (jj_le rfl)
  · refine jj_istore_n C dX11_goesThrough_9 (by decide) rfl ?_
    refine jj_iload_n C dX11_goesThrough_10 rfl ?_
    refine jj_iconst (v := (-1)) C dX11_goesThrough_11 (by decide) ?_
    refine jj_icmp_ne (tgt := 20) C dX11_goesThrough_12 (by decide) (fun c_109 => ?_) (fun c_109 => ?_)
    · have z_c_109 := jc_neq (a := x_7.toInt) (b := (-1)) c_109 rfl (by decide)
      refine jj_aload_n C dX11_goesThrough_20 rfl ?_
      obtain ⟨qc, gs, hqc⟩ := tt_recv (cx := []) hok_2 hk0 (by decide) rfl
      refine tt_callV (rest := []) C (rs_pass hl D cA ak n17 n16 n15 n14 hk0 hkw hka hkt hki hkf hkp (by first | omega | decide) (by first | omega | decide) (by first | omega | decide) (by first | omega | decide) (by first | omega | decide) (by first | omega | decide) (by first | omega | decide) (by first | omega | decide) (by omega) (by omega) hok_2 hm hs14 hs15 hs16 hs17) [] [] rfl rfl (by decide) (by decide) (by decide) qc hqc rfl rfl jw_b8e803331f jw_409849e3da jw_7cfaf31817 jw_f96c99f44d jw_3d0e41f30f jn_X11_pass rfl (jj_le rfl) (jj_le rfl) (jj_le rfl) (jj_le rfl) (jj_le rfl) dX11_goesThrough_21 rfl (fun _ _ _ hX => hX.elim) (fun rx pl_110 r O_114 => ?_)
      obtain ⟨rfl, hok_111, hr_112, ha_113, hR_115⟩ := O_114
      replace hs16 := hr_112.at hk0 (by decide) (by decide) hs16
      replace hs17 := hr_112.at hk0 (by decide) (by decide) hs17
      replace hC := ha_113.at hkw (by decide) (by decide) hC
      replace hm := hm.fr hr_112 hk0 rfl
      replace hfr := hfr.trans (hr_112.sub (by decide))
      replace hfa := hfa.trans (ha_113.sub (by decide))
      obtain ⟨n_116, n_117, hf_118, hf_119, hq_120, hq_121, hq_122, hq_123, rfl⟩ := hR_115
      refine jj_iload_n C dX11_goesThrough_24 rfl ?_
      refine jj_iconst (v := 1) C dX11_goesThrough_25 (by decide) ?_
      refine jj_icmp_le (tgt := 43) C dX11_goesThrough_26 (by decide) (fun c_124 => ?_) (fun c_124 => ?_)
      · have z_c_124 := jc_le (a := x_7.toInt) (b := 1) c_124 rfl (by decide)
        refine jj_aload_n C dX11_goesThrough_43 rfl ?_
        refine jj_aload_n C dX11_goesThrough_44 rfl ?_
        refine jj_lconst (v := 0) C dX11_goesThrough_45 (by decide) ?_
        refine jj_ldc2 (v := 9999999) C dX11_goesThrough_46 jw_ee60e309b3 ?_
        obtain ⟨qc, gs, hqc⟩ := tt_recv (cx := []) hok_111 hk0 (by decide) rfl
        refine tt_callV (rest := [.ref h0]) C (rs_number hl D cA ak n17 n16 n_117 n_116 (0 : Int64) (9999999 : Int64) hk0 hkw hka hkt hki hkf hkp (by first | omega | decide) (by first | omega | decide) (by first | omega | decide) (by first | omega | decide) (by first | omega | decide) (by first | omega | decide) (by first | omega | decide) (by first | omega | decide) (by omega) (by omega) hok_111 hm hf_118 hf_119 hs16 hs17) [] [] rfl rfl (by decide) (by decide) (by decide) qc hqc rfl rfl jw_adb570a667 jw_970096b033 jw_c6bab24534 jw_f96c99f44d jw_2d66378959 jn_X11_number rfl (jj_le rfl) (jj_le rfl) (jj_le rfl) (jj_le rfl) (jj_le rfl) dX11_goesThrough_49 rfl (fun _ _ _ hX => hX.elim) (fun rx pl_125 r O_129 => ?_)
        obtain ⟨rfl, hok_126, hr_127, ha_128, hR_130⟩ := O_129
        replace hs16 := hr_127.at hk0 (by decide) (by decide) hs16
        replace hC := ha_128.at hkw (by decide) (by decide) hC
        replace hm := hm.fr hr_127 hk0 rfl
        replace hfr := hfr.trans (hr_127.sub (by decide))
        replace hfa := hfa.trans (ha_128.sub (by decide))
        obtain ⟨n_131, n_132, n_133, x_134, hf_135, hf_136, hf_137, hq_138, hq_139, hq_140, hq_141, hq_142, rfl⟩ := hR_130
        have lx_134 := tt_lo x_134
        have ux_134 := tt_hi x_134
        have p1x_134 : (0 : Int64).toInt = 0 := by decide
        have p2x_134 : (9999999 : Int64).toInt = 9999999 := by decide
        refine rl_put C hok_126 jk_12 19 (by decide) jw_bf324c0fa3 (t := (0, (-2147483648), 2147483647)) hk0 (by decide) rfl rfl rfl (tt_ia x_134) rfl rfl dX11_goesThrough_52 (fun pl_143 hok_144 tr hn tl => ?_)
        replace hs16 := tr _ _ _ (Or.inr (by decide)) hs16
        replace hf_135 := tr _ _ _ (Or.inr (by decide)) hf_135
        replace hf_136 := tr _ _ _ (Or.inr (by decide)) hf_136
        replace hf_137 := tr _ _ _ (Or.inr (by decide)) hf_137
        have hf_145 := hn
        replace hm := hm.put tr (by decide)
        replace hfr := hfr.put hk0 tr (by decide)
        replace hC := tl _ _ hC
        replace hfa := hfa.all tl
        refine jj_iload_n C dX11_goesThrough_55 rfl ?_
        refine jj_iconst (v := 1) C dX11_goesThrough_56 (by decide) ?_
        refine jj_icmp_gt (tgt := 72) C dX11_goesThrough_57 (by decide) (fun c_146 => ?_) (fun c_146 => ?_)
        · have z_c_146 := jc_lt (a := 1) (b := x_7.toInt) c_146 (by decide) rfl
          exfalso; omega
        · have z_c_146 := jc_nlt (a := 1) (b := x_7.toInt) c_146 (by decide) rfl
          refine jj_aload_n C dX11_goesThrough_60 rfl ?_
          refine jj_aload_n C dX11_goesThrough_61 rfl ?_
          refine jj_lconst (v := 0) C dX11_goesThrough_62 (by decide) ?_
          refine jj_ldc2 (v := 9999999) C dX11_goesThrough_63 jw_ee60e309b3 ?_
          obtain ⟨qc, gs, hqc⟩ := tt_recv (cx := []) hok_144 hk0 (by decide) rfl
          refine tt_callV (rest := [.ref h0]) C (rs_number hl D cA ak n_133 n16 n_132 n_131 (0 : Int64) (9999999 : Int64) hk0 hkw hka hkt hki hkf hkp (by first | omega | decide) (by first | omega | decide) (by first | omega | decide) (by first | omega | decide) (by first | omega | decide) (by first | omega | decide) (by first | omega | decide) (by first | omega | decide) (by omega) (by omega) hok_144 hm hf_135 hf_136 hs16 hf_137) [] [] rfl rfl (by decide) (by decide) (by decide) qc hqc rfl rfl jw_adb570a667 jw_970096b033 jw_c6bab24534 jw_f96c99f44d jw_2d66378959 jn_X11_number rfl (jj_le rfl) (jj_le rfl) (jj_le rfl) (jj_le rfl) (jj_le rfl) dX11_goesThrough_66 rfl (fun _ _ _ hX => hX.elim) (fun rx pl_147 r O_151 => ?_)
          obtain ⟨rfl, hok_148, hr_149, ha_150, hR_152⟩ := O_151
          replace hs16 := hr_149.at hk0 (by decide) (by decide) hs16
          replace hf_145 := hr_149.at hk0 (by decide) (by decide) hf_145
          replace hC := ha_150.at hkw (by decide) (by decide) hC
          replace hm := hm.fr hr_149 hk0 rfl
          replace hfr := hfr.trans (hr_149.sub (by decide))
          replace hfa := hfa.trans (ha_150.sub (by decide))
          obtain ⟨n_153, n_154, n_155, x_156, hf_157, hf_158, hf_159, hq_160, hq_161, hq_162, hq_163, hq_164, rfl⟩ := hR_152
          have lx_156 := tt_lo x_156
          have ux_156 := tt_hi x_156
          have p1x_156 : (0 : Int64).toInt = 0 := by decide
          have p2x_156 : (9999999 : Int64).toInt = 9999999 := by decide
          refine rl_put C hok_148 jk_12 20 (by decide) jw_c1fef1305f (t := (0, (-2147483648), 2147483647)) hk0 (by decide) rfl rfl rfl (tt_ia x_156) rfl rfl dX11_goesThrough_69 (fun pl_165 hok_166 tr hn tl => ?_)
          replace hs16 := tr _ _ _ (Or.inr (by decide)) hs16
          replace hf_145 := tr _ _ _ (Or.inr (by decide)) hf_145
          replace hf_157 := tr _ _ _ (Or.inr (by decide)) hf_157
          replace hf_158 := tr _ _ _ (Or.inr (by decide)) hf_158
          replace hf_159 := tr _ _ _ (Or.inr (by decide)) hf_159
          have hf_167 := hn
          replace hm := hm.put tr (by decide)
          replace hfr := hfr.put hk0 tr (by decide)
          replace hC := tl _ _ hC
          replace hfa := hfa.all tl
          refine jj_aload_n C dX11_goesThrough_72 rfl ?_
          refine tt_getF C hok_166 jk_12 17 (by decide) jw_17e99f0710 (t := (0, (-2147483648), 2147483647)) hk0 (by decide) rfl rfl hf_159 dX11_goesThrough_73 ?_
          refine jj_if_ne (tgt := 94) C dX11_goesThrough_76 (by decide) (fun c_168 => ?_) (fun c_168 => ?_)
          · have z_c_168 := jc_neq (a := ((n_155 : Nat) : Int)) (b := 0) c_168 (rl_ti (by omega)) (by decide)
            refine jj_aload_n C dX11_goesThrough_94 rfl ?_
            refine tt_getF C hok_166 jk_12 17 (by decide) jw_17e99f0710 (t := (0, (-2147483648), 2147483647)) hk0 (by decide) rfl rfl hf_159 dX11_goesThrough_95 ?_
            refine jj_if_gt (tgt := 109) C dX11_goesThrough_98 (by decide) (fun c_169 => ?_) (fun c_169 => ?_)
            · have z_c_169 := jc_lt (a := 0) (b := ((n_155 : Nat) : Int)) c_169 (by decide) (rl_ti (by omega))
              exact jj_vret C ⟨[], pl_165, rfl, rfl, hok_166, hfr, hfa, ⟨_, n_153, n_154, n_155, hC, hf_157, hf_158, hf_159, (by omega), (by omega), (by omega), (by omega), (by omega), (fun z9 => by exfalso; omega), rfl⟩⟩ dX11_goesThrough_109 (jj_le rfl) (jj_le rfl)
            · have z_c_169 := jc_nlt (a := 0) (b := ((n_155 : Nat) : Int)) c_169 (by decide) (rl_ti (by omega))
              exfalso; omega
          · have z_c_168 := jc_eq (a := ((n_155 : Nat) : Int)) (b := 0) c_168 (rl_ti (by omega)) (by decide)
            refine jj_aload_n C dX11_goesThrough_79 rfl ?_
            refine jj_ldcsw (k := 23) (tx := ";") C dX11_goesThrough_80 (by decide +kernel) ?_
            obtain ⟨qc, gs, hqc⟩ := tt_recv (cx := []) hok_166 hk0 (by decide) rfl
            refine tt_callV (rest := []) C (rs_isWord_semi hl D cA ak n16 n_154 n_153 hk0 hkw hka hkt hki hkf hkp (by first | omega | decide) (by first | omega | decide) (by first | omega | decide) (by first | omega | decide) (by first | omega | decide) (by first | omega | decide) (by omega) (by omega) hok_166 hm hf_157 hf_158 hs16) [] [] rfl rfl (by decide) (by decide) (by decide) qc hqc rfl rfl jw_04296bb1c5 jw_2d2d3dccfc jw_f04e1767ef jw_f96c99f44d jw_f54d9c537b jn_X11_isWord rfl (jj_le rfl) (jj_le rfl) (jj_le rfl) (jj_le rfl) (jj_le rfl) dX11_goesThrough_83 rfl (fun _ _ _ hX => hX.elim) (fun rx pl_170 r O_174 => ?_)
            obtain ⟨rfl, hok_171, hr_172, ha_173, hR_175⟩ := O_174
            replace hs16 := hr_172.at hk0 (by decide) (by decide) hs16
            replace hf_145 := hr_172.at hk0 (by decide) (by decide) hf_145
            replace hf_157 := hr_172.at hk0 (by decide) (by decide) hf_157
            replace hf_158 := hr_172.at hk0 (by decide) (by decide) hf_158
            replace hf_159 := hr_172.at hk0 (by decide) (by decide) hf_159
            replace hf_167 := hr_172.at hk0 (by decide) (by decide) hf_167
            replace hC := ha_173.at hkw (by decide) (by decide) hC
            replace hm := hm.fr hr_172 hk0 rfl
            replace hfr := hfr.trans (hr_172.sub (by decide))
            replace hfa := hfa.trans (ha_173.sub (by decide))
            rcases hR_175 with rfl | ⟨hw_176, rfl⟩
            · refine jj_if_neF (tgt := 94) C dX11_goesThrough_86 (by decide) (by decide) ?_
              refine jj_aload_n C dX11_goesThrough_89 rfl ?_
              refine jj_iconst (v := 1) C dX11_goesThrough_90 (by decide) ?_
              obtain ⟨qc, gs, hqc⟩ := tt_recv (cx := []) hok_171 hk0 (by decide) rfl
              refine tt_callV (rest := []) C (rs_wrong_1 hl D cA ak n_155 hk0 hkw hka hkt hki hkf hkp (by first | omega | decide) (by first | omega | decide) hok_171 hm hf_159) [] [] rfl rfl (by decide) (by decide) (by decide) qc hqc rfl rfl jw_e206642f3f jw_6f17e07a53 jw_400f18f3e9 jw_f96c99f44d jw_6b1a6dabbc jn_X11_wrong rfl (jj_le rfl) (jj_le rfl) (jj_le rfl) (jj_le rfl) (jj_le rfl) dX11_goesThrough_91 rfl (fun _ _ _ hX => hX.elim) (fun rx pl_177 r O_181 => ?_)
              obtain ⟨rfl, hok_178, hr_179, ha_180, hR_182⟩ := O_181
              replace hs16 := hr_179.at hk0 (by decide) (by decide) hs16
              replace hf_145 := hr_179.at hk0 (by decide) (by decide) hf_145
              replace hf_157 := hr_179.at hk0 (by decide) (by decide) hf_157
              replace hf_158 := hr_179.at hk0 (by decide) (by decide) hf_158
              replace hf_167 := hr_179.at hk0 (by decide) (by decide) hf_167
              replace hC := ha_180.at hkw (by decide) (by decide) hC
              replace hm := hm.fr hr_179 hk0 rfl
              replace hfr := hfr.trans (hr_179.sub (by decide))
              replace hfa := hfa.trans (ha_180.sub (by decide))
              obtain ⟨n_183, hf_184, ln_183, un_183, rfl⟩ := hR_182
              refine jj_aload_n C dX11_goesThrough_94 rfl ?_
              refine tt_getF C hok_178 jk_12 17 (by decide) jw_17e99f0710 (t := (0, (-2147483648), 2147483647)) hk0 (by decide) rfl rfl hf_184 dX11_goesThrough_95 ?_
              refine jj_if_gt (tgt := 109) C dX11_goesThrough_98 (by decide) (fun c_185 => ?_) (fun c_185 => ?_)
              · have z_c_185 := jc_lt (a := 0) (b := ((n_183 : Nat) : Int)) c_185 (by decide) (rl_ti (by omega))
                exact jj_vret C ⟨[], pl_177, rfl, rfl, hok_178, hfr, hfa, ⟨_, n_153, n_154, n_183, hC, hf_157, hf_158, hf_184, (by omega), (by omega), (by omega), (by omega), (by omega), (fun z9 => by exfalso; omega), rfl⟩⟩ dX11_goesThrough_109 (jj_le rfl) (jj_le rfl)
              · have z_c_185 := jc_nlt (a := 0) (b := ((n_183 : Nat) : Int)) c_185 (by decide) (rl_ti (by omega))
                exfalso; omega
            · refine jj_if_neT (tgt := 94) C dX11_goesThrough_86 (by decide) (by decide) ?_
              refine jj_aload_n C dX11_goesThrough_94 rfl ?_
              refine tt_getF C hok_171 jk_12 17 (by decide) jw_17e99f0710 (t := (0, (-2147483648), 2147483647)) hk0 (by decide) rfl rfl hf_159 dX11_goesThrough_95 ?_
              refine jj_if_gt (tgt := 109) C dX11_goesThrough_98 (by decide) (fun c_186 => ?_) (fun c_186 => ?_)
              · have z_c_186 := jc_lt (a := 0) (b := ((n_155 : Nat) : Int)) c_186 (by decide) (rl_ti (by omega))
                exfalso; omega
              · have z_c_186 := jc_nlt (a := 0) (b := ((n_155 : Nat) : Int)) c_186 (by decide) (rl_ti (by omega))
                refine jj_aload_n C dX11_goesThrough_101 rfl ?_
                refine jj_iload_n C dX11_goesThrough_102 rfl ?_
                obtain ⟨qc, gs, hqc⟩ := tt_recv (cx := []) hok_171 hk0 (by decide) rfl
                refine tt_callV (rest := []) C (rs_does_1 hl D cA ak x_7 (B + 3000000 * (n14 : Int)) (C9 + 12 * (n14 : Int)) f hk0 hkw hka hkt hki hkf hkp (by omega) (by omega) hK (by omega) (by omega) (by omega) hok_171 hm hC) [] [] rfl rfl (by decide) (by decide) (by decide) qc hqc rfl rfl jw_af539af08c jw_bce25f0700 jw_0f699256b3 jw_f96c99f44d jw_eebb003ba4 jn_X11_does rfl (jj_le rfl) (jj_le rfl) (jj_le rfl) (jj_le rfl) (jj_le rfl) dX11_goesThrough_103 rfl (fun _ _ _ hX => hX.elim) (fun rx pl_187 r O_191 => ?_)
                obtain ⟨rfl, hok_188, hr_189, ha_190, hR_192⟩ := O_191
                replace hs16 := hr_189.at hk0 (by decide) (by decide) hs16
                replace hf_145 := hr_189.at hk0 (by decide) (by decide) hf_145
                replace hf_157 := hr_189.at hk0 (by decide) (by decide) hf_157
                replace hf_158 := hr_189.at hk0 (by decide) (by decide) hf_158
                replace hf_159 := hr_189.at hk0 (by decide) (by decide) hf_159
                replace hf_167 := hr_189.at hk0 (by decide) (by decide) hf_167
                replace hm := hm.fr hr_189 hk0 rfl
                replace hfr := hfr.trans (hr_189.sub (by decide))
                replace hfa := hfa.trans (ha_190.sub (by decide))
                obtain ⟨g_193, hC_194, hK_195, x_196, lx_196, ux_196, rfl⟩ := hR_192
                obtain ⟨⟨g0ag_193, g0bg_193⟩, ⟨g1ag_193, g1bg_193⟩, ⟨g6ag_193, g6bg_193⟩, ⟨g7ag_193, g7bg_193⟩, ⟨g8ag_193, g8bg_193⟩⟩ := hK_195.1.1.1
                refine jj_if_eq (tgt := 110) C dX11_goesThrough_106 (by decide) (fun c_197 => ?_) (fun c_197 => ?_)
                · have z_c_197 := jc_eq (a := x_196.toInt) (b := 0) c_197 rfl (by decide)
                  refine jj_aload_n C dX11_goesThrough_110 rfl ?_
                  refine jj_iconst (v := 1) C dX11_goesThrough_111 (by decide) ?_
                  refine rl_put C hok_188 jk_12 17 (by decide) jw_17e99f0710 (t := (0, (-2147483648), 2147483647)) hk0 (by decide) rfl rfl rfl (tt_ia (1 : Int32)) rfl rfl dX11_goesThrough_112 (fun pl_198 hok_199 tr hn tl => ?_)
                  replace hs16 := tr _ _ _ (Or.inr (by decide)) hs16
                  replace hf_145 := tr _ _ _ (Or.inr (by decide)) hf_145
                  replace hf_157 := tr _ _ _ (Or.inr (by decide)) hf_157
                  replace hf_158 := tr _ _ _ (Or.inr (by decide)) hf_158
                  replace hf_167 := tr _ _ _ (Or.inr (by decide)) hf_167
                  have hf_200 := hn
                  replace hm := hm.put tr (by decide)
                  replace hfr := hfr.put hk0 tr (by decide)
                  replace hC_194 := tl _ _ hC_194
                  replace hfa := hfa.all tl
                  refine jj_aload_n C dX11_goesThrough_115 rfl ?_
                  refine jj_iload_n C dX11_goesThrough_116 rfl ?_
                  refine rl_put C hok_199 jk_12 18 (by decide) jw_a8ef26b797 (t := (0, (-2147483648), 2147483647)) hk0 (by decide) rfl rfl rfl (tt_ia (nI n14)) rfl rfl dX11_goesThrough_117 (fun pl_201 hok_202 tr hn tl => ?_)
                  replace hs16 := tr _ _ _ (Or.inr (by decide)) hs16
                  replace hf_145 := tr _ _ _ (Or.inr (by decide)) hf_145
                  replace hf_157 := tr _ _ _ (Or.inr (by decide)) hf_157
                  replace hf_158 := tr _ _ _ (Or.inr (by decide)) hf_158
                  replace hf_167 := tr _ _ _ (Or.inr (by decide)) hf_167
                  replace hf_200 := tr _ _ _ (Or.inr (by decide)) hf_200
                  have hf_203 := hn
                  replace hm := hm.put tr (by decide)
                  replace hfr := hfr.put hk0 tr (by decide)
                  replace hC_194 := tl _ _ hC_194
                  replace hfa := hfa.all tl
                  exact jj_vret C ⟨[], pl_201, rfl, rfl, hok_202, hfr, hfa, ⟨_, n_153, n_154, 1, hC_194, hf_157, hf_158, hf_200, (by omega), (by omega), (by omega), (by omega), (by omega), (fun z9 => by exfalso; omega), rfl⟩⟩ dX11_goesThrough_120 (jj_le rfl) (jj_le rfl)
                · have z_c_197 := jc_neq (a := x_196.toInt) (b := 0) c_197 rfl (by decide)
                  exact jj_vret C ⟨[], pl_187, rfl, rfl, hok_188, hfr, hfa, ⟨_, n_153, n_154, n_155, hC_194, hf_157, hf_158, hf_159, (by omega), (by omega), (by omega), (by omega), (by omega), (fun _ => hK_195.mono (by omega) (by omega)), rfl⟩⟩ dX11_goesThrough_109 (jj_le rfl) (jj_le rfl)
      · have z_c_124 := jc_nle (a := x_7.toInt) (b := 1) c_124 rfl (by decide)
        refine jj_iload_n C dX11_goesThrough_29 rfl ?_
        obtain ⟨y_204, ey_204, vy_204⟩ := tt_i2l x_7
        refine jj_i2l (v := y_204) C dX11_goesThrough_30 ey_204 ?_
        refine jj_ldc2 (v := 3) C dX11_goesThrough_31 jw_3ddeacbc7d ?_
        refine jj_ldc2 (v := 5) C dX11_goesThrough_34 jw_5892650a06 ?_
        refine tt_call0S (rest := []) C (ct_X11_in_s15 hl D cA ak y_204) jw_2a24feddee jw_12f28ccfda jw_f96c99f44d jw_e07c9ada56 jn_X11_in rfl (jj_le rfl) (jj_le rfl) (jj_le rfl) (jj_le rfl) (jj_le rfl) dX11_goesThrough_37 rfl (fun w1 r O_205 => ?_)
        rcases O_205 with ⟨c_206, -, rfl⟩ | ⟨c_207, c_208, -, rfl⟩ | ⟨c_209, c_210, -, rfl⟩
        · have z_c_206 := jc_ltL (a := y_204.toInt) (b := 3) c_206 rfl (by decide)
          refine jj_if_eqT (tgt := 55) C dX11_goesThrough_40 (by decide) (by decide) ?_
          refine jj_iload_n C dX11_goesThrough_55 rfl ?_
          refine jj_iconst (v := 1) C dX11_goesThrough_56 (by decide) ?_
          refine jj_icmp_gt (tgt := 72) C dX11_goesThrough_57 (by decide) (fun c_211 => ?_) (fun c_211 => ?_)
          · have z_c_211 := jc_lt (a := 1) (b := x_7.toInt) c_211 (by decide) rfl
            refine jj_aload_n C dX11_goesThrough_72 rfl ?_
            refine tt_getF C hok_111 jk_12 17 (by decide) jw_17e99f0710 (t := (0, (-2147483648), 2147483647)) hk0 (by decide) rfl rfl hs17 dX11_goesThrough_73 ?_
            refine jj_if_ne (tgt := 94) C dX11_goesThrough_76 (by decide) (fun c_212 => ?_) (fun c_212 => ?_)
            · have z_c_212 := jc_neq (a := ((n17 : Nat) : Int)) (b := 0) c_212 (rl_ti (by omega)) (by decide)
              refine jj_aload_n C dX11_goesThrough_94 rfl ?_
              refine tt_getF C hok_111 jk_12 17 (by decide) jw_17e99f0710 (t := (0, (-2147483648), 2147483647)) hk0 (by decide) rfl rfl hs17 dX11_goesThrough_95 ?_
              refine jj_if_gt (tgt := 109) C dX11_goesThrough_98 (by decide) (fun c_213 => ?_) (fun c_213 => ?_)
              · have z_c_213 := jc_lt (a := 0) (b := ((n17 : Nat) : Int)) c_213 (by decide) (rl_ti (by omega))
                exact jj_vret C ⟨[], pl_110, rfl, rfl, hok_111, hfr, hfa, ⟨_, n_116, n_117, n17, hC, hf_118, hf_119, hs17, (by omega), (by omega), (by omega), (by omega), (by omega), (fun z9 => by exfalso; omega), rfl⟩⟩ dX11_goesThrough_109 (jj_le rfl) (jj_le rfl)
              · have z_c_213 := jc_nlt (a := 0) (b := ((n17 : Nat) : Int)) c_213 (by decide) (rl_ti (by omega))
                exfalso; omega
            · have z_c_212 := jc_eq (a := ((n17 : Nat) : Int)) (b := 0) c_212 (rl_ti (by omega)) (by decide)
              refine jj_aload_n C dX11_goesThrough_79 rfl ?_
              refine jj_ldcsw (k := 23) (tx := ";") C dX11_goesThrough_80 (by decide +kernel) ?_
              obtain ⟨qc, gs, hqc⟩ := tt_recv (cx := []) hok_111 hk0 (by decide) rfl
              refine tt_callV (rest := []) C (rs_isWord_semi hl D cA ak n16 n_117 n_116 hk0 hkw hka hkt hki hkf hkp (by first | omega | decide) (by first | omega | decide) (by first | omega | decide) (by first | omega | decide) (by first | omega | decide) (by first | omega | decide) (by omega) (by omega) hok_111 hm hf_118 hf_119 hs16) [] [] rfl rfl (by decide) (by decide) (by decide) qc hqc rfl rfl jw_04296bb1c5 jw_2d2d3dccfc jw_f04e1767ef jw_f96c99f44d jw_f54d9c537b jn_X11_isWord rfl (jj_le rfl) (jj_le rfl) (jj_le rfl) (jj_le rfl) (jj_le rfl) dX11_goesThrough_83 rfl (fun _ _ _ hX => hX.elim) (fun rx pl_214 r O_218 => ?_)
              obtain ⟨rfl, hok_215, hr_216, ha_217, hR_219⟩ := O_218
              replace hs16 := hr_216.at hk0 (by decide) (by decide) hs16
              replace hs17 := hr_216.at hk0 (by decide) (by decide) hs17
              replace hf_118 := hr_216.at hk0 (by decide) (by decide) hf_118
              replace hf_119 := hr_216.at hk0 (by decide) (by decide) hf_119
              replace hC := ha_217.at hkw (by decide) (by decide) hC
              replace hm := hm.fr hr_216 hk0 rfl
              replace hfr := hfr.trans (hr_216.sub (by decide))
              replace hfa := hfa.trans (ha_217.sub (by decide))
              rcases hR_219 with rfl | ⟨hw_220, rfl⟩
              · refine jj_if_neF (tgt := 94) C dX11_goesThrough_86 (by decide) (by decide) ?_
                refine jj_aload_n C dX11_goesThrough_89 rfl ?_
                refine jj_iconst (v := 1) C dX11_goesThrough_90 (by decide) ?_
                obtain ⟨qc, gs, hqc⟩ := tt_recv (cx := []) hok_215 hk0 (by decide) rfl
                refine tt_callV (rest := []) C (rs_wrong_1 hl D cA ak n17 hk0 hkw hka hkt hki hkf hkp (by first | omega | decide) (by first | omega | decide) hok_215 hm hs17) [] [] rfl rfl (by decide) (by decide) (by decide) qc hqc rfl rfl jw_e206642f3f jw_6f17e07a53 jw_400f18f3e9 jw_f96c99f44d jw_6b1a6dabbc jn_X11_wrong rfl (jj_le rfl) (jj_le rfl) (jj_le rfl) (jj_le rfl) (jj_le rfl) dX11_goesThrough_91 rfl (fun _ _ _ hX => hX.elim) (fun rx pl_221 r O_225 => ?_)
                obtain ⟨rfl, hok_222, hr_223, ha_224, hR_226⟩ := O_225
                replace hs16 := hr_223.at hk0 (by decide) (by decide) hs16
                replace hf_118 := hr_223.at hk0 (by decide) (by decide) hf_118
                replace hf_119 := hr_223.at hk0 (by decide) (by decide) hf_119
                replace hC := ha_224.at hkw (by decide) (by decide) hC
                replace hm := hm.fr hr_223 hk0 rfl
                replace hfr := hfr.trans (hr_223.sub (by decide))
                replace hfa := hfa.trans (ha_224.sub (by decide))
                obtain ⟨n_227, hf_228, ln_227, un_227, rfl⟩ := hR_226
                refine jj_aload_n C dX11_goesThrough_94 rfl ?_
                refine tt_getF C hok_222 jk_12 17 (by decide) jw_17e99f0710 (t := (0, (-2147483648), 2147483647)) hk0 (by decide) rfl rfl hf_228 dX11_goesThrough_95 ?_
                refine jj_if_gt (tgt := 109) C dX11_goesThrough_98 (by decide) (fun c_229 => ?_) (fun c_229 => ?_)
                · have z_c_229 := jc_lt (a := 0) (b := ((n_227 : Nat) : Int)) c_229 (by decide) (rl_ti (by omega))
                  exact jj_vret C ⟨[], pl_221, rfl, rfl, hok_222, hfr, hfa, ⟨_, n_116, n_117, n_227, hC, hf_118, hf_119, hf_228, (by omega), (by omega), (by omega), (by omega), (by omega), (fun z9 => by exfalso; omega), rfl⟩⟩ dX11_goesThrough_109 (jj_le rfl) (jj_le rfl)
                · have z_c_229 := jc_nlt (a := 0) (b := ((n_227 : Nat) : Int)) c_229 (by decide) (rl_ti (by omega))
                  exfalso; omega
              · refine jj_if_neT (tgt := 94) C dX11_goesThrough_86 (by decide) (by decide) ?_
                refine jj_aload_n C dX11_goesThrough_94 rfl ?_
                refine tt_getF C hok_215 jk_12 17 (by decide) jw_17e99f0710 (t := (0, (-2147483648), 2147483647)) hk0 (by decide) rfl rfl hs17 dX11_goesThrough_95 ?_
                refine jj_if_gt (tgt := 109) C dX11_goesThrough_98 (by decide) (fun c_230 => ?_) (fun c_230 => ?_)
                · have z_c_230 := jc_lt (a := 0) (b := ((n17 : Nat) : Int)) c_230 (by decide) (rl_ti (by omega))
                  exfalso; omega
                · have z_c_230 := jc_nlt (a := 0) (b := ((n17 : Nat) : Int)) c_230 (by decide) (rl_ti (by omega))
                  refine jj_aload_n C dX11_goesThrough_101 rfl ?_
                  refine jj_iload_n C dX11_goesThrough_102 rfl ?_
                  obtain ⟨qc, gs, hqc⟩ := tt_recv (cx := []) hok_215 hk0 (by decide) rfl
                  refine tt_callV (rest := []) C (rs_does_1 hl D cA ak x_7 (B + 3000000 * (n14 : Int)) (C9 + 12 * (n14 : Int)) f hk0 hkw hka hkt hki hkf hkp (by omega) (by omega) hK (by omega) (by omega) (by omega) hok_215 hm hC) [] [] rfl rfl (by decide) (by decide) (by decide) qc hqc rfl rfl jw_af539af08c jw_bce25f0700 jw_0f699256b3 jw_f96c99f44d jw_eebb003ba4 jn_X11_does rfl (jj_le rfl) (jj_le rfl) (jj_le rfl) (jj_le rfl) (jj_le rfl) dX11_goesThrough_103 rfl (fun _ _ _ hX => hX.elim) (fun rx pl_231 r O_235 => ?_)
                  obtain ⟨rfl, hok_232, hr_233, ha_234, hR_236⟩ := O_235
                  replace hs16 := hr_233.at hk0 (by decide) (by decide) hs16
                  replace hs17 := hr_233.at hk0 (by decide) (by decide) hs17
                  replace hf_118 := hr_233.at hk0 (by decide) (by decide) hf_118
                  replace hf_119 := hr_233.at hk0 (by decide) (by decide) hf_119
                  replace hm := hm.fr hr_233 hk0 rfl
                  replace hfr := hfr.trans (hr_233.sub (by decide))
                  replace hfa := hfa.trans (ha_234.sub (by decide))
                  obtain ⟨g_237, hC_238, hK_239, x_240, lx_240, ux_240, rfl⟩ := hR_236
                  obtain ⟨⟨g0ag_237, g0bg_237⟩, ⟨g1ag_237, g1bg_237⟩, ⟨g6ag_237, g6bg_237⟩, ⟨g7ag_237, g7bg_237⟩, ⟨g8ag_237, g8bg_237⟩⟩ := hK_239.1.1.1
                  refine jj_if_eq (tgt := 110) C dX11_goesThrough_106 (by decide) (fun c_241 => ?_) (fun c_241 => ?_)
                  · have z_c_241 := jc_eq (a := x_240.toInt) (b := 0) c_241 rfl (by decide)
                    refine jj_aload_n C dX11_goesThrough_110 rfl ?_
                    refine jj_iconst (v := 1) C dX11_goesThrough_111 (by decide) ?_
                    refine rl_put C hok_232 jk_12 17 (by decide) jw_17e99f0710 (t := (0, (-2147483648), 2147483647)) hk0 (by decide) rfl rfl rfl (tt_ia (1 : Int32)) rfl rfl dX11_goesThrough_112 (fun pl_242 hok_243 tr hn tl => ?_)
                    replace hs16 := tr _ _ _ (Or.inr (by decide)) hs16
                    replace hf_118 := tr _ _ _ (Or.inr (by decide)) hf_118
                    replace hf_119 := tr _ _ _ (Or.inr (by decide)) hf_119
                    have hf_244 := hn
                    replace hm := hm.put tr (by decide)
                    replace hfr := hfr.put hk0 tr (by decide)
                    replace hC_238 := tl _ _ hC_238
                    replace hfa := hfa.all tl
                    refine jj_aload_n C dX11_goesThrough_115 rfl ?_
                    refine jj_iload_n C dX11_goesThrough_116 rfl ?_
                    refine rl_put C hok_243 jk_12 18 (by decide) jw_a8ef26b797 (t := (0, (-2147483648), 2147483647)) hk0 (by decide) rfl rfl rfl (tt_ia (nI n14)) rfl rfl dX11_goesThrough_117 (fun pl_245 hok_246 tr hn tl => ?_)
                    replace hs16 := tr _ _ _ (Or.inr (by decide)) hs16
                    replace hf_118 := tr _ _ _ (Or.inr (by decide)) hf_118
                    replace hf_119 := tr _ _ _ (Or.inr (by decide)) hf_119
                    replace hf_244 := tr _ _ _ (Or.inr (by decide)) hf_244
                    have hf_247 := hn
                    replace hm := hm.put tr (by decide)
                    replace hfr := hfr.put hk0 tr (by decide)
                    replace hC_238 := tl _ _ hC_238
                    replace hfa := hfa.all tl
                    exact jj_vret C ⟨[], pl_245, rfl, rfl, hok_246, hfr, hfa, ⟨_, n_116, n_117, 1, hC_238, hf_118, hf_119, hf_244, (by omega), (by omega), (by omega), (by omega), (by omega), (fun z9 => by exfalso; omega), rfl⟩⟩ dX11_goesThrough_120 (jj_le rfl) (jj_le rfl)
                  · have z_c_241 := jc_neq (a := x_240.toInt) (b := 0) c_241 rfl (by decide)
                    exact jj_vret C ⟨[], pl_231, rfl, rfl, hok_232, hfr, hfa, ⟨_, n_116, n_117, n17, hC_238, hf_118, hf_119, hs17, (by omega), (by omega), (by omega), (by omega), (by omega), (fun _ => hK_239.mono (by omega) (by omega)), rfl⟩⟩ dX11_goesThrough_109 (jj_le rfl) (jj_le rfl)
          · have z_c_211 := jc_nlt (a := 1) (b := x_7.toInt) c_211 (by decide) rfl
            exfalso; omega
        · have z_c_207 := jc_nltL (a := y_204.toInt) (b := 3) c_207 rfl (by decide)
          have z_c_208 := jc_ltL (a := 5) (b := y_204.toInt) c_208 (by decide) rfl
          refine jj_if_eqT (tgt := 55) C dX11_goesThrough_40 (by decide) (by decide) ?_
          refine jj_iload_n C dX11_goesThrough_55 rfl ?_
          refine jj_iconst (v := 1) C dX11_goesThrough_56 (by decide) ?_
          refine jj_icmp_gt (tgt := 72) C dX11_goesThrough_57 (by decide) (fun c_248 => ?_) (fun c_248 => ?_)
          · have z_c_248 := jc_lt (a := 1) (b := x_7.toInt) c_248 (by decide) rfl
            refine jj_aload_n C dX11_goesThrough_72 rfl ?_
            refine tt_getF C hok_111 jk_12 17 (by decide) jw_17e99f0710 (t := (0, (-2147483648), 2147483647)) hk0 (by decide) rfl rfl hs17 dX11_goesThrough_73 ?_
            refine jj_if_ne (tgt := 94) C dX11_goesThrough_76 (by decide) (fun c_249 => ?_) (fun c_249 => ?_)
            · have z_c_249 := jc_neq (a := ((n17 : Nat) : Int)) (b := 0) c_249 (rl_ti (by omega)) (by decide)
              refine jj_aload_n C dX11_goesThrough_94 rfl ?_
              refine tt_getF C hok_111 jk_12 17 (by decide) jw_17e99f0710 (t := (0, (-2147483648), 2147483647)) hk0 (by decide) rfl rfl hs17 dX11_goesThrough_95 ?_
              refine jj_if_gt (tgt := 109) C dX11_goesThrough_98 (by decide) (fun c_250 => ?_) (fun c_250 => ?_)
              · have z_c_250 := jc_lt (a := 0) (b := ((n17 : Nat) : Int)) c_250 (by decide) (rl_ti (by omega))
                exact jj_vret C ⟨[], pl_110, rfl, rfl, hok_111, hfr, hfa, ⟨_, n_116, n_117, n17, hC, hf_118, hf_119, hs17, (by omega), (by omega), (by omega), (by omega), (by omega), (fun z9 => by exfalso; omega), rfl⟩⟩ dX11_goesThrough_109 (jj_le rfl) (jj_le rfl)
              · have z_c_250 := jc_nlt (a := 0) (b := ((n17 : Nat) : Int)) c_250 (by decide) (rl_ti (by omega))
                exfalso; omega
            · have z_c_249 := jc_eq (a := ((n17 : Nat) : Int)) (b := 0) c_249 (rl_ti (by omega)) (by decide)
              refine jj_aload_n C dX11_goesThrough_79 rfl ?_
              refine jj_ldcsw (k := 23) (tx := ";") C dX11_goesThrough_80 (by decide +kernel) ?_
              obtain ⟨qc, gs, hqc⟩ := tt_recv (cx := []) hok_111 hk0 (by decide) rfl
              refine tt_callV (rest := []) C (rs_isWord_semi hl D cA ak n16 n_117 n_116 hk0 hkw hka hkt hki hkf hkp (by first | omega | decide) (by first | omega | decide) (by first | omega | decide) (by first | omega | decide) (by first | omega | decide) (by first | omega | decide) (by omega) (by omega) hok_111 hm hf_118 hf_119 hs16) [] [] rfl rfl (by decide) (by decide) (by decide) qc hqc rfl rfl jw_04296bb1c5 jw_2d2d3dccfc jw_f04e1767ef jw_f96c99f44d jw_f54d9c537b jn_X11_isWord rfl (jj_le rfl) (jj_le rfl) (jj_le rfl) (jj_le rfl) (jj_le rfl) dX11_goesThrough_83 rfl (fun _ _ _ hX => hX.elim) (fun rx pl_251 r O_255 => ?_)
              obtain ⟨rfl, hok_252, hr_253, ha_254, hR_256⟩ := O_255
              replace hs16 := hr_253.at hk0 (by decide) (by decide) hs16
              replace hs17 := hr_253.at hk0 (by decide) (by decide) hs17
              replace hf_118 := hr_253.at hk0 (by decide) (by decide) hf_118
              replace hf_119 := hr_253.at hk0 (by decide) (by decide) hf_119
              replace hC := ha_254.at hkw (by decide) (by decide) hC
              replace hm := hm.fr hr_253 hk0 rfl
              replace hfr := hfr.trans (hr_253.sub (by decide))
              replace hfa := hfa.trans (ha_254.sub (by decide))
              rcases hR_256 with rfl | ⟨hw_257, rfl⟩
              · refine jj_if_neF (tgt := 94) C dX11_goesThrough_86 (by decide) (by decide) ?_
                refine jj_aload_n C dX11_goesThrough_89 rfl ?_
                refine jj_iconst (v := 1) C dX11_goesThrough_90 (by decide) ?_
                obtain ⟨qc, gs, hqc⟩ := tt_recv (cx := []) hok_252 hk0 (by decide) rfl
                refine tt_callV (rest := []) C (rs_wrong_1 hl D cA ak n17 hk0 hkw hka hkt hki hkf hkp (by first | omega | decide) (by first | omega | decide) hok_252 hm hs17) [] [] rfl rfl (by decide) (by decide) (by decide) qc hqc rfl rfl jw_e206642f3f jw_6f17e07a53 jw_400f18f3e9 jw_f96c99f44d jw_6b1a6dabbc jn_X11_wrong rfl (jj_le rfl) (jj_le rfl) (jj_le rfl) (jj_le rfl) (jj_le rfl) dX11_goesThrough_91 rfl (fun _ _ _ hX => hX.elim) (fun rx pl_258 r O_262 => ?_)
                obtain ⟨rfl, hok_259, hr_260, ha_261, hR_263⟩ := O_262
                replace hs16 := hr_260.at hk0 (by decide) (by decide) hs16
                replace hf_118 := hr_260.at hk0 (by decide) (by decide) hf_118
                replace hf_119 := hr_260.at hk0 (by decide) (by decide) hf_119
                replace hC := ha_261.at hkw (by decide) (by decide) hC
                replace hm := hm.fr hr_260 hk0 rfl
                replace hfr := hfr.trans (hr_260.sub (by decide))
                replace hfa := hfa.trans (ha_261.sub (by decide))
                obtain ⟨n_264, hf_265, ln_264, un_264, rfl⟩ := hR_263
                refine jj_aload_n C dX11_goesThrough_94 rfl ?_
                refine tt_getF C hok_259 jk_12 17 (by decide) jw_17e99f0710 (t := (0, (-2147483648), 2147483647)) hk0 (by decide) rfl rfl hf_265 dX11_goesThrough_95 ?_
                refine jj_if_gt (tgt := 109) C dX11_goesThrough_98 (by decide) (fun c_266 => ?_) (fun c_266 => ?_)
                · have z_c_266 := jc_lt (a := 0) (b := ((n_264 : Nat) : Int)) c_266 (by decide) (rl_ti (by omega))
                  exact jj_vret C ⟨[], pl_258, rfl, rfl, hok_259, hfr, hfa, ⟨_, n_116, n_117, n_264, hC, hf_118, hf_119, hf_265, (by omega), (by omega), (by omega), (by omega), (by omega), (fun z9 => by exfalso; omega), rfl⟩⟩ dX11_goesThrough_109 (jj_le rfl) (jj_le rfl)
                · have z_c_266 := jc_nlt (a := 0) (b := ((n_264 : Nat) : Int)) c_266 (by decide) (rl_ti (by omega))
                  exfalso; omega
              · refine jj_if_neT (tgt := 94) C dX11_goesThrough_86 (by decide) (by decide) ?_
                refine jj_aload_n C dX11_goesThrough_94 rfl ?_
                refine tt_getF C hok_252 jk_12 17 (by decide) jw_17e99f0710 (t := (0, (-2147483648), 2147483647)) hk0 (by decide) rfl rfl hs17 dX11_goesThrough_95 ?_
                refine jj_if_gt (tgt := 109) C dX11_goesThrough_98 (by decide) (fun c_267 => ?_) (fun c_267 => ?_)
                · have z_c_267 := jc_lt (a := 0) (b := ((n17 : Nat) : Int)) c_267 (by decide) (rl_ti (by omega))
                  exfalso; omega
                · have z_c_267 := jc_nlt (a := 0) (b := ((n17 : Nat) : Int)) c_267 (by decide) (rl_ti (by omega))
                  refine jj_aload_n C dX11_goesThrough_101 rfl ?_
                  refine jj_iload_n C dX11_goesThrough_102 rfl ?_
                  obtain ⟨qc, gs, hqc⟩ := tt_recv (cx := []) hok_252 hk0 (by decide) rfl
                  refine tt_callV (rest := []) C (rs_does_1 hl D cA ak x_7 (B + 3000000 * (n14 : Int)) (C9 + 12 * (n14 : Int)) f hk0 hkw hka hkt hki hkf hkp (by omega) (by omega) hK (by omega) (by omega) (by omega) hok_252 hm hC) [] [] rfl rfl (by decide) (by decide) (by decide) qc hqc rfl rfl jw_af539af08c jw_bce25f0700 jw_0f699256b3 jw_f96c99f44d jw_eebb003ba4 jn_X11_does rfl (jj_le rfl) (jj_le rfl) (jj_le rfl) (jj_le rfl) (jj_le rfl) dX11_goesThrough_103 rfl (fun _ _ _ hX => hX.elim) (fun rx pl_268 r O_272 => ?_)
                  obtain ⟨rfl, hok_269, hr_270, ha_271, hR_273⟩ := O_272
                  replace hs16 := hr_270.at hk0 (by decide) (by decide) hs16
                  replace hs17 := hr_270.at hk0 (by decide) (by decide) hs17
                  replace hf_118 := hr_270.at hk0 (by decide) (by decide) hf_118
                  replace hf_119 := hr_270.at hk0 (by decide) (by decide) hf_119
                  replace hm := hm.fr hr_270 hk0 rfl
                  replace hfr := hfr.trans (hr_270.sub (by decide))
                  replace hfa := hfa.trans (ha_271.sub (by decide))
                  obtain ⟨g_274, hC_275, hK_276, x_277, lx_277, ux_277, rfl⟩ := hR_273
                  obtain ⟨⟨g0ag_274, g0bg_274⟩, ⟨g1ag_274, g1bg_274⟩, ⟨g6ag_274, g6bg_274⟩, ⟨g7ag_274, g7bg_274⟩, ⟨g8ag_274, g8bg_274⟩⟩ := hK_276.1.1.1
                  refine jj_if_eq (tgt := 110) C dX11_goesThrough_106 (by decide) (fun c_278 => ?_) (fun c_278 => ?_)
                  · have z_c_278 := jc_eq (a := x_277.toInt) (b := 0) c_278 rfl (by decide)
                    refine jj_aload_n C dX11_goesThrough_110 rfl ?_
                    refine jj_iconst (v := 1) C dX11_goesThrough_111 (by decide) ?_
                    refine rl_put C hok_269 jk_12 17 (by decide) jw_17e99f0710 (t := (0, (-2147483648), 2147483647)) hk0 (by decide) rfl rfl rfl (tt_ia (1 : Int32)) rfl rfl dX11_goesThrough_112 (fun pl_279 hok_280 tr hn tl => ?_)
                    replace hs16 := tr _ _ _ (Or.inr (by decide)) hs16
                    replace hf_118 := tr _ _ _ (Or.inr (by decide)) hf_118
                    replace hf_119 := tr _ _ _ (Or.inr (by decide)) hf_119
                    have hf_281 := hn
                    replace hm := hm.put tr (by decide)
                    replace hfr := hfr.put hk0 tr (by decide)
                    replace hC_275 := tl _ _ hC_275
                    replace hfa := hfa.all tl
                    refine jj_aload_n C dX11_goesThrough_115 rfl ?_
                    refine jj_iload_n C dX11_goesThrough_116 rfl ?_
                    refine rl_put C hok_280 jk_12 18 (by decide) jw_a8ef26b797 (t := (0, (-2147483648), 2147483647)) hk0 (by decide) rfl rfl rfl (tt_ia (nI n14)) rfl rfl dX11_goesThrough_117 (fun pl_282 hok_283 tr hn tl => ?_)
                    replace hs16 := tr _ _ _ (Or.inr (by decide)) hs16
                    replace hf_118 := tr _ _ _ (Or.inr (by decide)) hf_118
                    replace hf_119 := tr _ _ _ (Or.inr (by decide)) hf_119
                    replace hf_281 := tr _ _ _ (Or.inr (by decide)) hf_281
                    have hf_284 := hn
                    replace hm := hm.put tr (by decide)
                    replace hfr := hfr.put hk0 tr (by decide)
                    replace hC_275 := tl _ _ hC_275
                    replace hfa := hfa.all tl
                    exact jj_vret C ⟨[], pl_282, rfl, rfl, hok_283, hfr, hfa, ⟨_, n_116, n_117, 1, hC_275, hf_118, hf_119, hf_281, (by omega), (by omega), (by omega), (by omega), (by omega), (fun z9 => by exfalso; omega), rfl⟩⟩ dX11_goesThrough_120 (jj_le rfl) (jj_le rfl)
                  · have z_c_278 := jc_neq (a := x_277.toInt) (b := 0) c_278 rfl (by decide)
                    exact jj_vret C ⟨[], pl_268, rfl, rfl, hok_269, hfr, hfa, ⟨_, n_116, n_117, n17, hC_275, hf_118, hf_119, hs17, (by omega), (by omega), (by omega), (by omega), (by omega), (fun _ => hK_276.mono (by omega) (by omega)), rfl⟩⟩ dX11_goesThrough_109 (jj_le rfl) (jj_le rfl)
          · have z_c_248 := jc_nlt (a := 1) (b := x_7.toInt) c_248 (by decide) rfl
            exfalso; omega
        · have z_c_209 := jc_nltL (a := y_204.toInt) (b := 3) c_209 rfl (by decide)
          have z_c_210 := jc_nltL (a := 5) (b := y_204.toInt) c_210 (by decide) rfl
          refine jj_if_eqF (tgt := 55) C dX11_goesThrough_40 (by decide) (by decide) ?_
          refine jj_aload_n C dX11_goesThrough_43 rfl ?_
          refine jj_aload_n C dX11_goesThrough_44 rfl ?_
          refine jj_lconst (v := 0) C dX11_goesThrough_45 (by decide) ?_
          refine jj_ldc2 (v := 9999999) C dX11_goesThrough_46 jw_ee60e309b3 ?_
          obtain ⟨qc, gs, hqc⟩ := tt_recv (cx := []) hok_111 hk0 (by decide) rfl
          refine tt_callV (rest := [.ref h0]) C (rs_number hl D cA ak n17 n16 n_117 n_116 (0 : Int64) (9999999 : Int64) hk0 hkw hka hkt hki hkf hkp (by first | omega | decide) (by first | omega | decide) (by first | omega | decide) (by first | omega | decide) (by first | omega | decide) (by first | omega | decide) (by first | omega | decide) (by first | omega | decide) (by omega) (by omega) hok_111 hm hf_118 hf_119 hs16 hs17) [] [] rfl rfl (by decide) (by decide) (by decide) qc hqc rfl rfl jw_adb570a667 jw_970096b033 jw_c6bab24534 jw_f96c99f44d jw_2d66378959 jn_X11_number rfl (jj_le rfl) (jj_le rfl) (jj_le rfl) (jj_le rfl) (jj_le rfl) dX11_goesThrough_49 rfl (fun _ _ _ hX => hX.elim) (fun rx pl_285 r O_289 => ?_)
          obtain ⟨rfl, hok_286, hr_287, ha_288, hR_290⟩ := O_289
          replace hs16 := hr_287.at hk0 (by decide) (by decide) hs16
          replace hC := ha_288.at hkw (by decide) (by decide) hC
          replace hm := hm.fr hr_287 hk0 rfl
          replace hfr := hfr.trans (hr_287.sub (by decide))
          replace hfa := hfa.trans (ha_288.sub (by decide))
          obtain ⟨n_291, n_292, n_293, x_294, hf_295, hf_296, hf_297, hq_298, hq_299, hq_300, hq_301, hq_302, rfl⟩ := hR_290
          have lx_294 := tt_lo x_294
          have ux_294 := tt_hi x_294
          have p1x_294 : (0 : Int64).toInt = 0 := by decide
          have p2x_294 : (9999999 : Int64).toInt = 9999999 := by decide
          refine rl_put C hok_286 jk_12 19 (by decide) jw_bf324c0fa3 (t := (0, (-2147483648), 2147483647)) hk0 (by decide) rfl rfl rfl (tt_ia x_294) rfl rfl dX11_goesThrough_52 (fun pl_303 hok_304 tr hn tl => ?_)
          replace hs16 := tr _ _ _ (Or.inr (by decide)) hs16
          replace hf_295 := tr _ _ _ (Or.inr (by decide)) hf_295
          replace hf_296 := tr _ _ _ (Or.inr (by decide)) hf_296
          replace hf_297 := tr _ _ _ (Or.inr (by decide)) hf_297
          have hf_305 := hn
          replace hm := hm.put tr (by decide)
          replace hfr := hfr.put hk0 tr (by decide)
          replace hC := tl _ _ hC
          replace hfa := hfa.all tl
          refine jj_iload_n C dX11_goesThrough_55 rfl ?_
          refine jj_iconst (v := 1) C dX11_goesThrough_56 (by decide) ?_
          refine jj_icmp_gt (tgt := 72) C dX11_goesThrough_57 (by decide) (fun c_306 => ?_) (fun c_306 => ?_)
          · have z_c_306 := jc_lt (a := 1) (b := x_7.toInt) c_306 (by decide) rfl
            refine jj_aload_n C dX11_goesThrough_72 rfl ?_
            refine tt_getF C hok_304 jk_12 17 (by decide) jw_17e99f0710 (t := (0, (-2147483648), 2147483647)) hk0 (by decide) rfl rfl hf_297 dX11_goesThrough_73 ?_
            refine jj_if_ne (tgt := 94) C dX11_goesThrough_76 (by decide) (fun c_307 => ?_) (fun c_307 => ?_)
            · have z_c_307 := jc_neq (a := ((n_293 : Nat) : Int)) (b := 0) c_307 (rl_ti (by omega)) (by decide)
              refine jj_aload_n C dX11_goesThrough_94 rfl ?_
              refine tt_getF C hok_304 jk_12 17 (by decide) jw_17e99f0710 (t := (0, (-2147483648), 2147483647)) hk0 (by decide) rfl rfl hf_297 dX11_goesThrough_95 ?_
              refine jj_if_gt (tgt := 109) C dX11_goesThrough_98 (by decide) (fun c_308 => ?_) (fun c_308 => ?_)
              · have z_c_308 := jc_lt (a := 0) (b := ((n_293 : Nat) : Int)) c_308 (by decide) (rl_ti (by omega))
                exact jj_vret C ⟨[], pl_303, rfl, rfl, hok_304, hfr, hfa, ⟨_, n_291, n_292, n_293, hC, hf_295, hf_296, hf_297, (by omega), (by omega), (by omega), (by omega), (by omega), (fun z9 => by exfalso; omega), rfl⟩⟩ dX11_goesThrough_109 (jj_le rfl) (jj_le rfl)
              · have z_c_308 := jc_nlt (a := 0) (b := ((n_293 : Nat) : Int)) c_308 (by decide) (rl_ti (by omega))
                exfalso; omega
            · have z_c_307 := jc_eq (a := ((n_293 : Nat) : Int)) (b := 0) c_307 (rl_ti (by omega)) (by decide)
              refine jj_aload_n C dX11_goesThrough_79 rfl ?_
              refine jj_ldcsw (k := 23) (tx := ";") C dX11_goesThrough_80 (by decide +kernel) ?_
              obtain ⟨qc, gs, hqc⟩ := tt_recv (cx := []) hok_304 hk0 (by decide) rfl
              refine tt_callV (rest := []) C (rs_isWord_semi hl D cA ak n16 n_292 n_291 hk0 hkw hka hkt hki hkf hkp (by first | omega | decide) (by first | omega | decide) (by first | omega | decide) (by first | omega | decide) (by first | omega | decide) (by first | omega | decide) (by omega) (by omega) hok_304 hm hf_295 hf_296 hs16) [] [] rfl rfl (by decide) (by decide) (by decide) qc hqc rfl rfl jw_04296bb1c5 jw_2d2d3dccfc jw_f04e1767ef jw_f96c99f44d jw_f54d9c537b jn_X11_isWord rfl (jj_le rfl) (jj_le rfl) (jj_le rfl) (jj_le rfl) (jj_le rfl) dX11_goesThrough_83 rfl (fun _ _ _ hX => hX.elim) (fun rx pl_309 r O_313 => ?_)
              obtain ⟨rfl, hok_310, hr_311, ha_312, hR_314⟩ := O_313
              replace hs16 := hr_311.at hk0 (by decide) (by decide) hs16
              replace hf_295 := hr_311.at hk0 (by decide) (by decide) hf_295
              replace hf_296 := hr_311.at hk0 (by decide) (by decide) hf_296
              replace hf_297 := hr_311.at hk0 (by decide) (by decide) hf_297
              replace hf_305 := hr_311.at hk0 (by decide) (by decide) hf_305
              replace hC := ha_312.at hkw (by decide) (by decide) hC
              replace hm := hm.fr hr_311 hk0 rfl
              replace hfr := hfr.trans (hr_311.sub (by decide))
              replace hfa := hfa.trans (ha_312.sub (by decide))
              rcases hR_314 with rfl | ⟨hw_315, rfl⟩
              · refine jj_if_neF (tgt := 94) C dX11_goesThrough_86 (by decide) (by decide) ?_
                refine jj_aload_n C dX11_goesThrough_89 rfl ?_
                refine jj_iconst (v := 1) C dX11_goesThrough_90 (by decide) ?_
                obtain ⟨qc, gs, hqc⟩ := tt_recv (cx := []) hok_310 hk0 (by decide) rfl
                refine tt_callV (rest := []) C (rs_wrong_1 hl D cA ak n_293 hk0 hkw hka hkt hki hkf hkp (by first | omega | decide) (by first | omega | decide) hok_310 hm hf_297) [] [] rfl rfl (by decide) (by decide) (by decide) qc hqc rfl rfl jw_e206642f3f jw_6f17e07a53 jw_400f18f3e9 jw_f96c99f44d jw_6b1a6dabbc jn_X11_wrong rfl (jj_le rfl) (jj_le rfl) (jj_le rfl) (jj_le rfl) (jj_le rfl) dX11_goesThrough_91 rfl (fun _ _ _ hX => hX.elim) (fun rx pl_316 r O_320 => ?_)
                obtain ⟨rfl, hok_317, hr_318, ha_319, hR_321⟩ := O_320
                replace hs16 := hr_318.at hk0 (by decide) (by decide) hs16
                replace hf_295 := hr_318.at hk0 (by decide) (by decide) hf_295
                replace hf_296 := hr_318.at hk0 (by decide) (by decide) hf_296
                replace hf_305 := hr_318.at hk0 (by decide) (by decide) hf_305
                replace hC := ha_319.at hkw (by decide) (by decide) hC
                replace hm := hm.fr hr_318 hk0 rfl
                replace hfr := hfr.trans (hr_318.sub (by decide))
                replace hfa := hfa.trans (ha_319.sub (by decide))
                obtain ⟨n_322, hf_323, ln_322, un_322, rfl⟩ := hR_321
                refine jj_aload_n C dX11_goesThrough_94 rfl ?_
                refine tt_getF C hok_317 jk_12 17 (by decide) jw_17e99f0710 (t := (0, (-2147483648), 2147483647)) hk0 (by decide) rfl rfl hf_323 dX11_goesThrough_95 ?_
                refine jj_if_gt (tgt := 109) C dX11_goesThrough_98 (by decide) (fun c_324 => ?_) (fun c_324 => ?_)
                · have z_c_324 := jc_lt (a := 0) (b := ((n_322 : Nat) : Int)) c_324 (by decide) (rl_ti (by omega))
                  exact jj_vret C ⟨[], pl_316, rfl, rfl, hok_317, hfr, hfa, ⟨_, n_291, n_292, n_322, hC, hf_295, hf_296, hf_323, (by omega), (by omega), (by omega), (by omega), (by omega), (fun z9 => by exfalso; omega), rfl⟩⟩ dX11_goesThrough_109 (jj_le rfl) (jj_le rfl)
                · have z_c_324 := jc_nlt (a := 0) (b := ((n_322 : Nat) : Int)) c_324 (by decide) (rl_ti (by omega))
                  exfalso; omega
              · refine jj_if_neT (tgt := 94) C dX11_goesThrough_86 (by decide) (by decide) ?_
                refine jj_aload_n C dX11_goesThrough_94 rfl ?_
                refine tt_getF C hok_310 jk_12 17 (by decide) jw_17e99f0710 (t := (0, (-2147483648), 2147483647)) hk0 (by decide) rfl rfl hf_297 dX11_goesThrough_95 ?_
                refine jj_if_gt (tgt := 109) C dX11_goesThrough_98 (by decide) (fun c_325 => ?_) (fun c_325 => ?_)
                · have z_c_325 := jc_lt (a := 0) (b := ((n_293 : Nat) : Int)) c_325 (by decide) (rl_ti (by omega))
                  exfalso; omega
                · have z_c_325 := jc_nlt (a := 0) (b := ((n_293 : Nat) : Int)) c_325 (by decide) (rl_ti (by omega))
                  refine jj_aload_n C dX11_goesThrough_101 rfl ?_
                  refine jj_iload_n C dX11_goesThrough_102 rfl ?_
                  obtain ⟨qc, gs, hqc⟩ := tt_recv (cx := []) hok_310 hk0 (by decide) rfl
                  refine tt_callV (rest := []) C (rs_does_1 hl D cA ak x_7 (B + 3000000 * (n14 : Int)) (C9 + 12 * (n14 : Int)) f hk0 hkw hka hkt hki hkf hkp (by omega) (by omega) hK (by omega) (by omega) (by omega) hok_310 hm hC) [] [] rfl rfl (by decide) (by decide) (by decide) qc hqc rfl rfl jw_af539af08c jw_bce25f0700 jw_0f699256b3 jw_f96c99f44d jw_eebb003ba4 jn_X11_does rfl (jj_le rfl) (jj_le rfl) (jj_le rfl) (jj_le rfl) (jj_le rfl) dX11_goesThrough_103 rfl (fun _ _ _ hX => hX.elim) (fun rx pl_326 r O_330 => ?_)
                  obtain ⟨rfl, hok_327, hr_328, ha_329, hR_331⟩ := O_330
                  replace hs16 := hr_328.at hk0 (by decide) (by decide) hs16
                  replace hf_295 := hr_328.at hk0 (by decide) (by decide) hf_295
                  replace hf_296 := hr_328.at hk0 (by decide) (by decide) hf_296
                  replace hf_297 := hr_328.at hk0 (by decide) (by decide) hf_297
                  replace hf_305 := hr_328.at hk0 (by decide) (by decide) hf_305
                  replace hm := hm.fr hr_328 hk0 rfl
                  replace hfr := hfr.trans (hr_328.sub (by decide))
                  replace hfa := hfa.trans (ha_329.sub (by decide))
                  obtain ⟨g_332, hC_333, hK_334, x_335, lx_335, ux_335, rfl⟩ := hR_331
                  obtain ⟨⟨g0ag_332, g0bg_332⟩, ⟨g1ag_332, g1bg_332⟩, ⟨g6ag_332, g6bg_332⟩, ⟨g7ag_332, g7bg_332⟩, ⟨g8ag_332, g8bg_332⟩⟩ := hK_334.1.1.1
                  refine jj_if_eq (tgt := 110) C dX11_goesThrough_106 (by decide) (fun c_336 => ?_) (fun c_336 => ?_)
                  · have z_c_336 := jc_eq (a := x_335.toInt) (b := 0) c_336 rfl (by decide)
                    refine jj_aload_n C dX11_goesThrough_110 rfl ?_
                    refine jj_iconst (v := 1) C dX11_goesThrough_111 (by decide) ?_
                    refine rl_put C hok_327 jk_12 17 (by decide) jw_17e99f0710 (t := (0, (-2147483648), 2147483647)) hk0 (by decide) rfl rfl rfl (tt_ia (1 : Int32)) rfl rfl dX11_goesThrough_112 (fun pl_337 hok_338 tr hn tl => ?_)
                    replace hs16 := tr _ _ _ (Or.inr (by decide)) hs16
                    replace hf_295 := tr _ _ _ (Or.inr (by decide)) hf_295
                    replace hf_296 := tr _ _ _ (Or.inr (by decide)) hf_296
                    replace hf_305 := tr _ _ _ (Or.inr (by decide)) hf_305
                    have hf_339 := hn
                    replace hm := hm.put tr (by decide)
                    replace hfr := hfr.put hk0 tr (by decide)
                    replace hC_333 := tl _ _ hC_333
                    replace hfa := hfa.all tl
                    refine jj_aload_n C dX11_goesThrough_115 rfl ?_
                    refine jj_iload_n C dX11_goesThrough_116 rfl ?_
                    refine rl_put C hok_338 jk_12 18 (by decide) jw_a8ef26b797 (t := (0, (-2147483648), 2147483647)) hk0 (by decide) rfl rfl rfl (tt_ia (nI n14)) rfl rfl dX11_goesThrough_117 (fun pl_340 hok_341 tr hn tl => ?_)
                    replace hs16 := tr _ _ _ (Or.inr (by decide)) hs16
                    replace hf_295 := tr _ _ _ (Or.inr (by decide)) hf_295
                    replace hf_296 := tr _ _ _ (Or.inr (by decide)) hf_296
                    replace hf_305 := tr _ _ _ (Or.inr (by decide)) hf_305
                    replace hf_339 := tr _ _ _ (Or.inr (by decide)) hf_339
                    have hf_342 := hn
                    replace hm := hm.put tr (by decide)
                    replace hfr := hfr.put hk0 tr (by decide)
                    replace hC_333 := tl _ _ hC_333
                    replace hfa := hfa.all tl
                    exact jj_vret C ⟨[], pl_340, rfl, rfl, hok_341, hfr, hfa, ⟨_, n_291, n_292, 1, hC_333, hf_295, hf_296, hf_339, (by omega), (by omega), (by omega), (by omega), (by omega), (fun z9 => by exfalso; omega), rfl⟩⟩ dX11_goesThrough_120 (jj_le rfl) (jj_le rfl)
                  · have z_c_336 := jc_neq (a := x_335.toInt) (b := 0) c_336 rfl (by decide)
                    exact jj_vret C ⟨[], pl_326, rfl, rfl, hok_327, hfr, hfa, ⟨_, n_291, n_292, n_293, hC_333, hf_295, hf_296, hf_297, (by omega), (by omega), (by omega), (by omega), (by omega), (fun _ => hK_334.mono (by omega) (by omega)), rfl⟩⟩ dX11_goesThrough_109 (jj_le rfl) (jj_le rfl)
          · have z_c_306 := jc_nlt (a := 1) (b := x_7.toInt) c_306 (by decide) rfl
            exfalso; omega
    · have z_c_109 := jc_eq (a := x_7.toInt) (b := (-1)) c_109 rfl (by decide)
      exfalso; omega
  · refine jj_istore_n C dX11_goesThrough_9 (by decide) rfl ?_
    refine jj_iload_n C dX11_goesThrough_10 rfl ?_
    refine jj_iconst (v := (-1)) C dX11_goesThrough_11 (by decide) ?_
    refine jj_icmp_neT (tgt := 20) C dX11_goesThrough_12 (by decide) (by decide) ?_
    refine jj_aload_n C dX11_goesThrough_20 rfl ?_
    obtain ⟨qc, gs, hqc⟩ := tt_recv (cx := []) hok_2 hk0 (by decide) rfl
    refine tt_callV (rest := []) C (rs_pass hl D cA ak n17 n16 n15 n14 hk0 hkw hka hkt hki hkf hkp (by first | omega | decide) (by first | omega | decide) (by first | omega | decide) (by first | omega | decide) (by first | omega | decide) (by first | omega | decide) (by first | omega | decide) (by first | omega | decide) (by omega) (by omega) hok_2 hm hs14 hs15 hs16 hs17) [] [] rfl rfl (by decide) (by decide) (by decide) qc hqc rfl rfl jw_b8e803331f jw_409849e3da jw_7cfaf31817 jw_f96c99f44d jw_3d0e41f30f jn_X11_pass rfl (jj_le rfl) (jj_le rfl) (jj_le rfl) (jj_le rfl) (jj_le rfl) dX11_goesThrough_21 rfl (fun _ _ _ hX => hX.elim) (fun rx pl_343 r O_347 => ?_)
    obtain ⟨rfl, hok_344, hr_345, ha_346, hR_348⟩ := O_347
    replace hs16 := hr_345.at hk0 (by decide) (by decide) hs16
    replace hs17 := hr_345.at hk0 (by decide) (by decide) hs17
    replace hC := ha_346.at hkw (by decide) (by decide) hC
    replace hm := hm.fr hr_345 hk0 rfl
    replace hfr := hfr.trans (hr_345.sub (by decide))
    replace hfa := hfa.trans (ha_346.sub (by decide))
    obtain ⟨n_349, n_350, hf_351, hf_352, hq_353, hq_354, hq_355, hq_356, rfl⟩ := hR_348
    refine jj_iload_n C dX11_goesThrough_24 rfl ?_
    refine jj_iconst (v := 1) C dX11_goesThrough_25 (by decide) ?_
    refine jj_icmp_leT (tgt := 43) C dX11_goesThrough_26 (by decide) (by decide) ?_
    refine jj_aload_n C dX11_goesThrough_43 rfl ?_
    refine jj_aload_n C dX11_goesThrough_44 rfl ?_
    refine jj_lconst (v := 0) C dX11_goesThrough_45 (by decide) ?_
    refine jj_ldc2 (v := 9999999) C dX11_goesThrough_46 jw_ee60e309b3 ?_
    obtain ⟨qc, gs, hqc⟩ := tt_recv (cx := []) hok_344 hk0 (by decide) rfl
    refine tt_callV (rest := [.ref h0]) C (rs_number hl D cA ak n17 n16 n_350 n_349 (0 : Int64) (9999999 : Int64) hk0 hkw hka hkt hki hkf hkp (by first | omega | decide) (by first | omega | decide) (by first | omega | decide) (by first | omega | decide) (by first | omega | decide) (by first | omega | decide) (by first | omega | decide) (by first | omega | decide) (by omega) (by omega) hok_344 hm hf_351 hf_352 hs16 hs17) [] [] rfl rfl (by decide) (by decide) (by decide) qc hqc rfl rfl jw_adb570a667 jw_970096b033 jw_c6bab24534 jw_f96c99f44d jw_2d66378959 jn_X11_number rfl (jj_le rfl) (jj_le rfl) (jj_le rfl) (jj_le rfl) (jj_le rfl) dX11_goesThrough_49 rfl (fun _ _ _ hX => hX.elim) (fun rx pl_357 r O_361 => ?_)
    obtain ⟨rfl, hok_358, hr_359, ha_360, hR_362⟩ := O_361
    replace hs16 := hr_359.at hk0 (by decide) (by decide) hs16
    replace hC := ha_360.at hkw (by decide) (by decide) hC
    replace hm := hm.fr hr_359 hk0 rfl
    replace hfr := hfr.trans (hr_359.sub (by decide))
    replace hfa := hfa.trans (ha_360.sub (by decide))
    obtain ⟨n_363, n_364, n_365, x_366, hf_367, hf_368, hf_369, hq_370, hq_371, hq_372, hq_373, hq_374, rfl⟩ := hR_362
    have lx_366 := tt_lo x_366
    have ux_366 := tt_hi x_366
    have p1x_366 : (0 : Int64).toInt = 0 := by decide
    have p2x_366 : (9999999 : Int64).toInt = 9999999 := by decide
    refine rl_put C hok_358 jk_12 19 (by decide) jw_bf324c0fa3 (t := (0, (-2147483648), 2147483647)) hk0 (by decide) rfl rfl rfl (tt_ia x_366) rfl rfl dX11_goesThrough_52 (fun pl_375 hok_376 tr hn tl => ?_)
    replace hs16 := tr _ _ _ (Or.inr (by decide)) hs16
    replace hf_367 := tr _ _ _ (Or.inr (by decide)) hf_367
    replace hf_368 := tr _ _ _ (Or.inr (by decide)) hf_368
    replace hf_369 := tr _ _ _ (Or.inr (by decide)) hf_369
    have hf_377 := hn
    replace hm := hm.put tr (by decide)
    replace hfr := hfr.put hk0 tr (by decide)
    replace hC := tl _ _ hC
    replace hfa := hfa.all tl
    refine jj_iload_n C dX11_goesThrough_55 rfl ?_
    refine jj_iconst (v := 1) C dX11_goesThrough_56 (by decide) ?_
    refine jj_icmp_gtF (tgt := 72) C dX11_goesThrough_57 (by decide) (by decide) ?_
    refine jj_aload_n C dX11_goesThrough_60 rfl ?_
    refine jj_aload_n C dX11_goesThrough_61 rfl ?_
    refine jj_lconst (v := 0) C dX11_goesThrough_62 (by decide) ?_
    refine jj_ldc2 (v := 9999999) C dX11_goesThrough_63 jw_ee60e309b3 ?_
    obtain ⟨qc, gs, hqc⟩ := tt_recv (cx := []) hok_376 hk0 (by decide) rfl
    refine tt_callV (rest := [.ref h0]) C (rs_number hl D cA ak n_365 n16 n_364 n_363 (0 : Int64) (9999999 : Int64) hk0 hkw hka hkt hki hkf hkp (by first | omega | decide) (by first | omega | decide) (by first | omega | decide) (by first | omega | decide) (by first | omega | decide) (by first | omega | decide) (by first | omega | decide) (by first | omega | decide) (by omega) (by omega) hok_376 hm hf_367 hf_368 hs16 hf_369) [] [] rfl rfl (by decide) (by decide) (by decide) qc hqc rfl rfl jw_adb570a667 jw_970096b033 jw_c6bab24534 jw_f96c99f44d jw_2d66378959 jn_X11_number rfl (jj_le rfl) (jj_le rfl) (jj_le rfl) (jj_le rfl) (jj_le rfl) dX11_goesThrough_66 rfl (fun _ _ _ hX => hX.elim) (fun rx pl_378 r O_382 => ?_)
    obtain ⟨rfl, hok_379, hr_380, ha_381, hR_383⟩ := O_382
    replace hs16 := hr_380.at hk0 (by decide) (by decide) hs16
    replace hf_377 := hr_380.at hk0 (by decide) (by decide) hf_377
    replace hC := ha_381.at hkw (by decide) (by decide) hC
    replace hm := hm.fr hr_380 hk0 rfl
    replace hfr := hfr.trans (hr_380.sub (by decide))
    replace hfa := hfa.trans (ha_381.sub (by decide))
    obtain ⟨n_384, n_385, n_386, x_387, hf_388, hf_389, hf_390, hq_391, hq_392, hq_393, hq_394, hq_395, rfl⟩ := hR_383
    have lx_387 := tt_lo x_387
    have ux_387 := tt_hi x_387
    have p1x_387 : (0 : Int64).toInt = 0 := by decide
    have p2x_387 : (9999999 : Int64).toInt = 9999999 := by decide
    refine rl_put C hok_379 jk_12 20 (by decide) jw_c1fef1305f (t := (0, (-2147483648), 2147483647)) hk0 (by decide) rfl rfl rfl (tt_ia x_387) rfl rfl dX11_goesThrough_69 (fun pl_396 hok_397 tr hn tl => ?_)
    replace hs16 := tr _ _ _ (Or.inr (by decide)) hs16
    replace hf_377 := tr _ _ _ (Or.inr (by decide)) hf_377
    replace hf_388 := tr _ _ _ (Or.inr (by decide)) hf_388
    replace hf_389 := tr _ _ _ (Or.inr (by decide)) hf_389
    replace hf_390 := tr _ _ _ (Or.inr (by decide)) hf_390
    have hf_398 := hn
    replace hm := hm.put tr (by decide)
    replace hfr := hfr.put hk0 tr (by decide)
    replace hC := tl _ _ hC
    replace hfa := hfa.all tl
    refine jj_aload_n C dX11_goesThrough_72 rfl ?_
    refine tt_getF C hok_397 jk_12 17 (by decide) jw_17e99f0710 (t := (0, (-2147483648), 2147483647)) hk0 (by decide) rfl rfl hf_390 dX11_goesThrough_73 ?_
    refine jj_if_ne (tgt := 94) C dX11_goesThrough_76 (by decide) (fun c_399 => ?_) (fun c_399 => ?_)
    · have z_c_399 := jc_neq (a := ((n_386 : Nat) : Int)) (b := 0) c_399 (rl_ti (by omega)) (by decide)
      refine jj_aload_n C dX11_goesThrough_94 rfl ?_
      refine tt_getF C hok_397 jk_12 17 (by decide) jw_17e99f0710 (t := (0, (-2147483648), 2147483647)) hk0 (by decide) rfl rfl hf_390 dX11_goesThrough_95 ?_
      refine jj_if_gt (tgt := 109) C dX11_goesThrough_98 (by decide) (fun c_400 => ?_) (fun c_400 => ?_)
      · have z_c_400 := jc_lt (a := 0) (b := ((n_386 : Nat) : Int)) c_400 (by decide) (rl_ti (by omega))
        exact jj_vret C ⟨[], pl_396, rfl, rfl, hok_397, hfr, hfa, ⟨_, n_384, n_385, n_386, hC, hf_388, hf_389, hf_390, (by omega), (by omega), (by omega), (by omega), (by omega), (fun z9 => by exfalso; omega), rfl⟩⟩ dX11_goesThrough_109 (jj_le rfl) (jj_le rfl)
      · have z_c_400 := jc_nlt (a := 0) (b := ((n_386 : Nat) : Int)) c_400 (by decide) (rl_ti (by omega))
        exfalso; omega
    · have z_c_399 := jc_eq (a := ((n_386 : Nat) : Int)) (b := 0) c_399 (rl_ti (by omega)) (by decide)
      refine jj_aload_n C dX11_goesThrough_79 rfl ?_
      refine jj_ldcsw (k := 23) (tx := ";") C dX11_goesThrough_80 (by decide +kernel) ?_
      obtain ⟨qc, gs, hqc⟩ := tt_recv (cx := []) hok_397 hk0 (by decide) rfl
      refine tt_callV (rest := []) C (rs_isWord_semi hl D cA ak n16 n_385 n_384 hk0 hkw hka hkt hki hkf hkp (by first | omega | decide) (by first | omega | decide) (by first | omega | decide) (by first | omega | decide) (by first | omega | decide) (by first | omega | decide) (by omega) (by omega) hok_397 hm hf_388 hf_389 hs16) [] [] rfl rfl (by decide) (by decide) (by decide) qc hqc rfl rfl jw_04296bb1c5 jw_2d2d3dccfc jw_f04e1767ef jw_f96c99f44d jw_f54d9c537b jn_X11_isWord rfl (jj_le rfl) (jj_le rfl) (jj_le rfl) (jj_le rfl) (jj_le rfl) dX11_goesThrough_83 rfl (fun _ _ _ hX => hX.elim) (fun rx pl_401 r O_405 => ?_)
      obtain ⟨rfl, hok_402, hr_403, ha_404, hR_406⟩ := O_405
      replace hs16 := hr_403.at hk0 (by decide) (by decide) hs16
      replace hf_377 := hr_403.at hk0 (by decide) (by decide) hf_377
      replace hf_388 := hr_403.at hk0 (by decide) (by decide) hf_388
      replace hf_389 := hr_403.at hk0 (by decide) (by decide) hf_389
      replace hf_390 := hr_403.at hk0 (by decide) (by decide) hf_390
      replace hf_398 := hr_403.at hk0 (by decide) (by decide) hf_398
      replace hC := ha_404.at hkw (by decide) (by decide) hC
      replace hm := hm.fr hr_403 hk0 rfl
      replace hfr := hfr.trans (hr_403.sub (by decide))
      replace hfa := hfa.trans (ha_404.sub (by decide))
      rcases hR_406 with rfl | ⟨hw_407, rfl⟩
      · refine jj_if_neF (tgt := 94) C dX11_goesThrough_86 (by decide) (by decide) ?_
        refine jj_aload_n C dX11_goesThrough_89 rfl ?_
        refine jj_iconst (v := 1) C dX11_goesThrough_90 (by decide) ?_
        obtain ⟨qc, gs, hqc⟩ := tt_recv (cx := []) hok_402 hk0 (by decide) rfl
        refine tt_callV (rest := []) C (rs_wrong_1 hl D cA ak n_386 hk0 hkw hka hkt hki hkf hkp (by first | omega | decide) (by first | omega | decide) hok_402 hm hf_390) [] [] rfl rfl (by decide) (by decide) (by decide) qc hqc rfl rfl jw_e206642f3f jw_6f17e07a53 jw_400f18f3e9 jw_f96c99f44d jw_6b1a6dabbc jn_X11_wrong rfl (jj_le rfl) (jj_le rfl) (jj_le rfl) (jj_le rfl) (jj_le rfl) dX11_goesThrough_91 rfl (fun _ _ _ hX => hX.elim) (fun rx pl_408 r O_412 => ?_)
        obtain ⟨rfl, hok_409, hr_410, ha_411, hR_413⟩ := O_412
        replace hs16 := hr_410.at hk0 (by decide) (by decide) hs16
        replace hf_377 := hr_410.at hk0 (by decide) (by decide) hf_377
        replace hf_388 := hr_410.at hk0 (by decide) (by decide) hf_388
        replace hf_389 := hr_410.at hk0 (by decide) (by decide) hf_389
        replace hf_398 := hr_410.at hk0 (by decide) (by decide) hf_398
        replace hC := ha_411.at hkw (by decide) (by decide) hC
        replace hm := hm.fr hr_410 hk0 rfl
        replace hfr := hfr.trans (hr_410.sub (by decide))
        replace hfa := hfa.trans (ha_411.sub (by decide))
        obtain ⟨n_414, hf_415, ln_414, un_414, rfl⟩ := hR_413
        refine jj_aload_n C dX11_goesThrough_94 rfl ?_
        refine tt_getF C hok_409 jk_12 17 (by decide) jw_17e99f0710 (t := (0, (-2147483648), 2147483647)) hk0 (by decide) rfl rfl hf_415 dX11_goesThrough_95 ?_
        refine jj_if_gt (tgt := 109) C dX11_goesThrough_98 (by decide) (fun c_416 => ?_) (fun c_416 => ?_)
        · have z_c_416 := jc_lt (a := 0) (b := ((n_414 : Nat) : Int)) c_416 (by decide) (rl_ti (by omega))
          exact jj_vret C ⟨[], pl_408, rfl, rfl, hok_409, hfr, hfa, ⟨_, n_384, n_385, n_414, hC, hf_388, hf_389, hf_415, (by omega), (by omega), (by omega), (by omega), (by omega), (fun z9 => by exfalso; omega), rfl⟩⟩ dX11_goesThrough_109 (jj_le rfl) (jj_le rfl)
        · have z_c_416 := jc_nlt (a := 0) (b := ((n_414 : Nat) : Int)) c_416 (by decide) (rl_ti (by omega))
          exfalso; omega
      · refine jj_if_neT (tgt := 94) C dX11_goesThrough_86 (by decide) (by decide) ?_
        refine jj_aload_n C dX11_goesThrough_94 rfl ?_
        refine tt_getF C hok_402 jk_12 17 (by decide) jw_17e99f0710 (t := (0, (-2147483648), 2147483647)) hk0 (by decide) rfl rfl hf_390 dX11_goesThrough_95 ?_
        refine jj_if_gt (tgt := 109) C dX11_goesThrough_98 (by decide) (fun c_417 => ?_) (fun c_417 => ?_)
        · have z_c_417 := jc_lt (a := 0) (b := ((n_386 : Nat) : Int)) c_417 (by decide) (rl_ti (by omega))
          exfalso; omega
        · have z_c_417 := jc_nlt (a := 0) (b := ((n_386 : Nat) : Int)) c_417 (by decide) (rl_ti (by omega))
          refine jj_aload_n C dX11_goesThrough_101 rfl ?_
          refine jj_iload_n C dX11_goesThrough_102 rfl ?_
          obtain ⟨qc, gs, hqc⟩ := tt_recv (cx := []) hok_402 hk0 (by decide) rfl
          refine tt_callV (rest := []) C (rs_does_0 hl D cA ak (B + 3000000 * (n14 : Int)) (C9 + 12 * (n14 : Int)) f hk0 hkw hka hkt hki hkf hkp hK (by omega) (by omega) (by omega) hok_402 hm hC) [] [] rfl rfl (by decide) (by decide) (by decide) qc hqc rfl rfl jw_af539af08c jw_bce25f0700 jw_0f699256b3 jw_f96c99f44d jw_eebb003ba4 jn_X11_does rfl (jj_le rfl) (jj_le rfl) (jj_le rfl) (jj_le rfl) (jj_le rfl) dX11_goesThrough_103 rfl (fun _ _ _ hX => hX.elim) (fun rx pl_418 r O_422 => ?_)
          obtain ⟨rfl, hok_419, hr_420, ha_421, hR_423⟩ := O_422
          replace hs16 := hr_420.at hk0 (by decide) (by decide) hs16
          replace hf_377 := hr_420.at hk0 (by decide) (by decide) hf_377
          replace hf_388 := hr_420.at hk0 (by decide) (by decide) hf_388
          replace hf_389 := hr_420.at hk0 (by decide) (by decide) hf_389
          replace hf_390 := hr_420.at hk0 (by decide) (by decide) hf_390
          replace hf_398 := hr_420.at hk0 (by decide) (by decide) hf_398
          replace hm := hm.fr hr_420 hk0 rfl
          replace hfr := hfr.trans (hr_420.sub (by decide))
          replace hfa := hfa.trans (ha_421.sub (by decide))
          obtain ⟨g_424, hC_425, hK_426, x_427, lx_427, ux_427, rfl⟩ := hR_423
          obtain ⟨⟨g0ag_424, g0bg_424⟩, ⟨g1ag_424, g1bg_424⟩, ⟨g6ag_424, g6bg_424⟩, ⟨g7ag_424, g7bg_424⟩, ⟨g8ag_424, g8bg_424⟩⟩ := hK_426.1.1.1
          refine jj_if_eq (tgt := 110) C dX11_goesThrough_106 (by decide) (fun c_428 => ?_) (fun c_428 => ?_)
          · have z_c_428 := jc_eq (a := x_427.toInt) (b := 0) c_428 rfl (by decide)
            refine jj_aload_n C dX11_goesThrough_110 rfl ?_
            refine jj_iconst (v := 1) C dX11_goesThrough_111 (by decide) ?_
            refine rl_put C hok_419 jk_12 17 (by decide) jw_17e99f0710 (t := (0, (-2147483648), 2147483647)) hk0 (by decide) rfl rfl rfl (tt_ia (1 : Int32)) rfl rfl dX11_goesThrough_112 (fun pl_429 hok_430 tr hn tl => ?_)
            replace hs16 := tr _ _ _ (Or.inr (by decide)) hs16
            replace hf_377 := tr _ _ _ (Or.inr (by decide)) hf_377
            replace hf_388 := tr _ _ _ (Or.inr (by decide)) hf_388
            replace hf_389 := tr _ _ _ (Or.inr (by decide)) hf_389
            replace hf_398 := tr _ _ _ (Or.inr (by decide)) hf_398
            have hf_431 := hn
            replace hm := hm.put tr (by decide)
            replace hfr := hfr.put hk0 tr (by decide)
            replace hC_425 := tl _ _ hC_425
            replace hfa := hfa.all tl
            refine jj_aload_n C dX11_goesThrough_115 rfl ?_
            refine jj_iload_n C dX11_goesThrough_116 rfl ?_
            refine rl_put C hok_430 jk_12 18 (by decide) jw_a8ef26b797 (t := (0, (-2147483648), 2147483647)) hk0 (by decide) rfl rfl rfl (tt_ia (nI n14)) rfl rfl dX11_goesThrough_117 (fun pl_432 hok_433 tr hn tl => ?_)
            replace hs16 := tr _ _ _ (Or.inr (by decide)) hs16
            replace hf_377 := tr _ _ _ (Or.inr (by decide)) hf_377
            replace hf_388 := tr _ _ _ (Or.inr (by decide)) hf_388
            replace hf_389 := tr _ _ _ (Or.inr (by decide)) hf_389
            replace hf_398 := tr _ _ _ (Or.inr (by decide)) hf_398
            replace hf_431 := tr _ _ _ (Or.inr (by decide)) hf_431
            have hf_434 := hn
            replace hm := hm.put tr (by decide)
            replace hfr := hfr.put hk0 tr (by decide)
            replace hC_425 := tl _ _ hC_425
            replace hfa := hfa.all tl
            exact jj_vret C ⟨[], pl_432, rfl, rfl, hok_433, hfr, hfa, ⟨_, n_384, n_385, 1, hC_425, hf_388, hf_389, hf_431, (by omega), (by omega), (by omega), (by omega), (by omega), (fun z9 => by exfalso; omega), rfl⟩⟩ dX11_goesThrough_120 (jj_le rfl) (jj_le rfl)
          · have z_c_428 := jc_neq (a := x_427.toInt) (b := 0) c_428 rfl (by decide)
            exact jj_vret C ⟨[], pl_418, rfl, rfl, hok_419, hfr, hfa, ⟨_, n_384, n_385, n_386, hC_425, hf_388, hf_389, hf_390, (by omega), (by omega), (by omega), (by omega), (by omega), (fun _ => hK_426.mono (by omega) (by omega)), rfl⟩⟩ dX11_goesThrough_109 (jj_le rfl) (jj_le rfl)

set_option maxHeartbeats 4000000 in
set_option maxRecDepth 100000 in
theorem rs_runScript {l : Launch} (hl : l.stackTraces = false) (D : va_G) (cA : Nat → ClassId) (ak : (Nat → Nat) × (Nat → Nat)) {Kd : Nat → Nat} {h0 aw aa at0 ai af ap : Nat} (n13 : Nat) (n6 : Nat) (B C9 : Int) (f P : Nat → Int64) (hk0 : Kd h0 = 1) (hkw : Kd aw = 2) (hka : Kd aa = 3) (hkt : Kd at0 = 4) (hki : Kd ai = 5) (hkf : Kd af = 6) (hkp : Kd ap = 7) (ln13 : (0 : Int) ≤ (n13 : Int)) (un13 : (n13 : Int) ≤ 400) (ln6 : (0 : Int) ≤ (n6 : Int)) (un6 : (n6 : Int) ≤ 10) (hK : rl_K B C9 f) (hHP : rl_HP B C9 P n6) (hB5 : B + 3000000 * (n13 : Int) ≤ 43520000000) (hB0 : 12760000000 ≤ B) (hC9 : 0 ≤ C9 ∧ C9 ≤ 4000000000000000000) {pl0 : va_W} (hok : tt_ok rt_tk cA Kd pl0) (hm : rl_m pl0 h0 aw aa at0 ai af ap) (hC : tt_lc pl0 aw f) (hCp : tt_lc pl0 ap P) (hs6 : tt_at pl0 h0 6 (.int (nI n6))) (hs13 : tt_at pl0 h0 13 (.int (nI n13))) : jj_M l D cA ak yX11_runScript (.code yX11_runScript cX11_runScript 5 (some .int)) 11 273 0 0 ([] ++ pl0) [.ref h0] (tt_O (fun rx pl1 r => rx = [] ∧ tt_ok rt_tk cA Kd pl1 ∧ tt_fr Kd [(1, 6), (1, 7), (1, 8), (1, 9), (1, 13), (1, 14), (1, 15), (1, 16), (1, 17), (1, 18), (1, 19), (1, 20)] pl0 pl1 ∧ tt_fa Kd [2, 3, 5, 7, 8, 9] pl0 pl1 ∧ ((rl_M (B + 3000000 * (n13 : Int)) (C9 + 5000) pl1 h0 aw ap ∧ tt_at pl1 h0 13 (.int 0) ∧ ∃ v : Int32, r = some (.int v))))) (tt_OX (fun _ _ _ => False)) := by
  refine jj_start hl (by decide) jw_e962e6245a (jj_le rfl) ?_
  intro p e s m args below meth c A hargs hA C hex hmn
  have hfr := tt_fr.refl (K := Kd) (WS := [(1, 6), (1, 7), (1, 8), (1, 9), (1, 13), (1, 14), (1, 15), (1, 16), (1, 17), (1, 18), (1, 19), (1, 20)]) pl0
  have hfa := tt_fa.refl (K := Kd) (WA := [2, 3, 5, 7, 8, 9]) pl0
  have hI := hK.1
  have hP := hK.2.1
  have hH := hI.1.1
  obtain ⟨⟨g0a, g0b⟩, ⟨g1a, g1b⟩, ⟨g6a, g6b⟩, ⟨g7a, g7b⟩, ⟨g8a, g8b⟩⟩ := hH
  refine jj_aload_n C dX11_runScript_0 rfl ?_
  refine jj_iconst (v := 0) C dX11_runScript_1 (by decide) ?_
  refine rl_put C hok jk_12 7 (by decide) jw_0a65e3738e (t := (0, (-2147483648), 2147483647)) hk0 (by decide) rfl rfl rfl (tt_ia (0 : Int32)) rfl rfl dX11_runScript_2 (fun pl_1 hok_2 tr hn tl => ?_)
  replace hs6 := tr _ _ _ (Or.inr (by decide)) hs6
  replace hs13 := tr _ _ _ (Or.inr (by decide)) hs13
  have hf_3 := hn
  replace hm := hm.put tr (by decide)
  replace hfr := hfr.put hk0 tr (by decide)
  replace hC := tl _ _ hC
  replace hCp := tl _ _ hCp
  replace hfa := hfa.all tl
  refine jj_aload_n C dX11_runScript_5 rfl ?_
  refine tt_get C hok_2 jk_12 17 (by decide) jw_17e99f0710 (t := (0, (-2147483648), 2147483647)) hk0 (by decide) rfl rfl dX11_runScript_6 (fun v_4 hv_4 hf_5 => ?_)
  obtain ⟨x_6, rfl, lx_6, ux_6⟩ := tt_vi hv_4
  refine jj_istore_n C dX11_runScript_9 (by decide) rfl ?_
  refine jj_aload_n C dX11_runScript_10 rfl ?_
  refine tt_get C hok_2 jk_12 18 (by decide) jw_a8ef26b797 (t := (0, (-2147483648), 2147483647)) hk0 (by decide) rfl rfl dX11_runScript_11 (fun v_7 hv_7 hf_8 => ?_)
  obtain ⟨x_9, rfl, lx_9, ux_9⟩ := tt_vi hv_7
  refine jj_istore_n C dX11_runScript_14 (by decide) rfl ?_
  refine jj_aload_n C dX11_runScript_15 rfl ?_
  refine tt_getF C hok_2 jk_12 0 (by decide) jw_34eaf3ba8b (t := (2, 2, 0)) hk0 (by decide) rfl rfl hm.1 dX11_runScript_16 ?_
  refine jj_aload_n C dX11_runScript_19 rfl ?_
  refine tt_getF C hok_2 jk_12 1 (by decide) jw_25762f0b98 (t := (2, 3, 0)) hk0 (by decide) rfl rfl hm.2.1 dX11_runScript_20 ?_
  refine tt_callS (rest := []) C (rs_copy_aw_aa hl D cA ak f hk0 hkw hka hkt hki hkf hkp hok_2 hm hC) [] [] rfl rfl (by decide) (by decide) (by decide) jw_b2f7d68e03 jw_8cf8ac8b0e jw_f96c99f44d jw_1431b790b8 jn_X11_copy rfl (jj_le rfl) (jj_le rfl) (jj_le rfl) (jj_le rfl) (jj_le rfl) dX11_runScript_23 rfl (fun _ _ _ hX => hX.elim) (fun rx pl_10 r O_14 => ?_)
  obtain ⟨rfl, hok_11, hr_12, ha_13, hR_15⟩ := O_14
  replace hs6 := hr_12.at hk0 (by decide) (by decide) hs6
  replace hs13 := hr_12.at hk0 (by decide) (by decide) hs13
  replace hf_3 := hr_12.at hk0 (by decide) (by decide) hf_3
  replace hf_5 := hr_12.at hk0 (by decide) (by decide) hf_5
  replace hf_8 := hr_12.at hk0 (by decide) (by decide) hf_8
  replace hC := ha_13.at hkw (by decide) (by decide) hC
  replace hCp := ha_13.at hkp (by decide) (by decide) hCp
  replace hm := hm.fr hr_12 hk0 rfl
  replace hfr := hfr.trans (hr_12.sub (by decide))
  replace hfa := hfa.trans (ha_13.sub (by decide))
  obtain ⟨g_16, hC_17, he_18, rfl⟩ := hR_15
  refine jj_aload_n C dX11_runScript_26 rfl ?_
  obtain ⟨qc, gs, hqc⟩ := tt_recv (cx := []) hok_11 hk0 (by decide) rfl
  refine tt_callV (rest := []) C (rs_begin hl D cA ak n13 hk0 hkw hka hkt hki hkf hkp (by first | omega | decide) (by first | omega | decide) hok_11 hm hs13) [] [] rfl rfl (by decide) (by decide) (by decide) qc hqc rfl rfl jw_1025d8fa7d jw_5db37f4e19 jw_57740f6cb0 jw_f96c99f44d jw_10a65a4ad6 jn_X11_begin rfl (jj_le rfl) (jj_le rfl) (jj_le rfl) (jj_le rfl) (jj_le rfl) dX11_runScript_27 rfl (fun _ _ _ hX => hX.elim) (fun rx pl_19 r O_23 => ?_)
  obtain ⟨rfl, hok_20, hr_21, ha_22, hR_24⟩ := O_23
  replace hs6 := hr_21.at hk0 (by decide) (by decide) hs6
  replace hf_3 := hr_21.at hk0 (by decide) (by decide) hf_3
  replace hf_8 := hr_21.at hk0 (by decide) (by decide) hf_8
  replace hC := ha_22.at hkw (by decide) (by decide) hC
  replace hCp := ha_22.at hkp (by decide) (by decide) hCp
  replace hC_17 := ha_22.at hka (by decide) (by decide) hC_17
  replace hm := hm.fr hr_21 hk0 rfl
  replace hfr := hfr.trans (hr_21.sub (by decide))
  replace hfa := hfa.trans (ha_22.sub (by decide))
  obtain ⟨n_25, n_26, hf_27, hf_28, hf_29, hf_30, hf_31, hq_32, hq_33, rfl⟩ := hR_24
  refine jj_iconst (v := 0) C dX11_runScript_30 (by decide) ?_
  refine jj_istore_n C dX11_runScript_31 (by decide) rfl ?_
  have hL_34 : ∀ (N : Nat) (pl : va_W) (x_35 : Int32) (g_36 : Nat → Int64) (n_40 : Nat) (n_41 : Nat) (n_42 : Nat), True → tt_ok rt_tk cA Kd pl → tt_fr Kd [(1, 6), (1, 7), (1, 8), (1, 9), (1, 13), (1, 14), (1, 15), (1, 16), (1, 17), (1, 18), (1, 19), (1, 20)] pl0 pl → tt_fa Kd [2, 3, 5, 7, 8, 9] pl0 pl → rl_m pl h0 aw aa at0 ai af ap → tt_at pl h0 6 (.int (nI n6)) → tt_at pl h0 16 (.int (nI n13)) → tt_at pl h0 13 (.int 0) → tt_lc pl ap P → tt_lc pl aa g_16 → tt_lc pl aw g_36 → (n_42 = 0 → rl_K (B + 3000000 * (n_40 : Int)) (C9 + 12 * (n_40 : Int)) g_36) → tt_at pl h0 14 (.int (nI n_40)) → tt_at pl h0 15 (.int (nI n_41)) → tt_at pl h0 17 (.int (nI n_42)) → (-2147483648 : Int) ≤ x_35.toInt → x_35.toInt ≤ 2147483647 → (0 : Int) ≤ (n_40 : Int) → (n_40 : Int) ≤ 400 → (0 : Int) ≤ (n_41 : Int) → (n_41 : Int) ≤ 400 → (0 : Int) ≤ (n_42 : Int) → (n_42 : Int) ≤ 3 → (((n_40 : Nat) : Int) ≤ ((n_41 : Nat) : Int) ∧ ((n_41 : Nat) : Int) ≤ ((n13 : Nat) : Int)) → (1000 * (3 - ((n_42 : Nat) : Int)) + (((n13 : Nat) : Int) - ((n_40 : Nat) : Int)) + 1 ≤ (N : Int)) → jj_J p l e (jj_rm 11 273 0 0) s m args below meth c 5 A (vx_MQ below (jj_q D A (tt_O (fun rx pl1 r => rx = [] ∧ tt_ok rt_tk cA Kd pl1 ∧ tt_fr Kd [(1, 6), (1, 7), (1, 8), (1, 9), (1, 13), (1, 14), (1, 15), (1, 16), (1, 17), (1, 18), (1, 19), (1, 20)] pl0 pl1 ∧ tt_fa Kd [2, 3, 5, 7, 8, 9] pl0 pl1 ∧ ((rl_M (B + 3000000 * (n13 : Int)) (C9 + 5000) pl1 h0 aw ap ∧ tt_at pl1 h0 13 (.int 0) ∧ ∃ v : Int32, r = some (.int v)))))) (jj_x D A (tt_OX (fun _ _ _ => False))) args s 0 0 A) (jj_X D A ([] ++ pl)) 0 0 32 [(3, .int x_35), (2, .int x_9), (1, .int x_6), (0, .ref h0)] [] := by
    intro NL_34
    induction NL_34 with
    | zero => intro pl x_35 g_36 n_40 n_41 n_42 _ hok hfr hfa hm hf_37 hf_38 hf_39 hCp hC_17 hC_43 hD_44 hf_45 hf_46 hf_47 lx_35 ux_35 ln_40 un_40 ln_41 un_41 ln_42 un_42 hS9 hNL_34; exfalso; omega
    | succ NL_34 ihL_34 =>
      intro pl x_35 g_36 n_40 n_41 n_42 _ hok hfr hfa hm hf_37 hf_38 hf_39 hCp hC_17 hC_43 hD_44 hf_45 hf_46 hf_47 lx_35 ux_35 ln_40 un_40 ln_41 un_41 ln_42 un_42 hS9 hNL_34
      replace ihL_34 := fun pl x_35 g_36 n_40 n_41 n_42 h1 => ihL_34 pl x_35 g_36 n_40 n_41 n_42 trivial h1
      refine jj_aload_n C dX11_runScript_32 rfl ?_
      refine tt_getF C hok jk_12 17 (by decide) jw_17e99f0710 (t := (0, (-2147483648), 2147483647)) hk0 (by decide) rfl rfl hf_47 dX11_runScript_33 ?_
      refine jj_if_ne (tgt := 64) C dX11_runScript_36 (by decide) (fun c_48 => ?_) (fun c_48 => ?_)
      · have z_c_48 := jc_neq (a := ((n_42 : Nat) : Int)) (b := 0) c_48 (rl_ti (by omega)) (by decide)
        refine jj_aload_n C dX11_runScript_64 rfl ?_
        refine tt_getF C hok jk_12 17 (by decide) jw_17e99f0710 (t := (0, (-2147483648), 2147483647)) hk0 (by decide) rfl rfl hf_47 dX11_runScript_65 ?_
        refine jj_if_ne (tgt := 75) C dX11_runScript_68 (by decide) (fun c_49 => ?_) (fun c_49 => ?_)
        · have z_c_49 := jc_neq (a := ((n_42 : Nat) : Int)) (b := 0) c_49 (rl_ti (by omega)) (by decide)
          refine jj_iconst (v := (-1)) C dX11_runScript_75 (by decide) ?_
          refine jj_aload_n C dX11_runScript_76 rfl ?_
          refine tt_get C hok jk_12 18 (by decide) jw_a8ef26b797 (t := (0, (-2147483648), 2147483647)) hk0 (by decide) rfl rfl dX11_runScript_77 (fun v_50 hv_50 hf_51 => ?_)
          obtain ⟨x_52, rfl, lx_52, ux_52⟩ := tt_vi hv_50
          obtain ⟨x_53, ex_53⟩ : ∃ z : Int32, ((-1) : Int32) - x_52 = z := ⟨_, rfl⟩
          refine jj_isub (v := x_53) C dX11_runScript_80 ex_53 ?_
          refine jj_istore C dX11_runScript_81 (by decide) rfl ?_
          refine jj_aload_n C dX11_runScript_83 rfl ?_
          refine tt_getF C hok jk_12 17 (by decide) jw_17e99f0710 (t := (0, (-2147483648), 2147483647)) hk0 (by decide) rfl rfl hf_47 dX11_runScript_84 ?_
          refine jj_if_ne (tgt := 97) C dX11_runScript_87 (by decide) (fun c_54 => ?_) (fun c_54 => ?_)
          · have z_c_54 := jc_neq (a := ((n_42 : Nat) : Int)) (b := 0) c_54 (rl_ti (by omega)) (by decide)
            refine jj_aload_n C dX11_runScript_97 rfl ?_
            refine tt_getF C hok jk_12 1 (by decide) jw_25762f0b98 (t := (2, 3, 0)) hk0 (by decide) rfl rfl hm.2.1 dX11_runScript_98 ?_
            refine jj_aload_n C dX11_runScript_101 rfl ?_
            refine tt_getF C hok jk_12 0 (by decide) jw_34eaf3ba8b (t := (2, 2, 0)) hk0 (by decide) rfl rfl hm.1 dX11_runScript_102 ?_
            refine tt_callS (rest := []) C (rs_copy_aa_aw hl D cA ak g_16 hk0 hkw hka hkt hki hkf hkp hok hm hC_17) [] [] rfl rfl (by decide) (by decide) (by decide) jw_b2f7d68e03 jw_8cf8ac8b0e jw_f96c99f44d jw_1431b790b8 jn_X11_copy rfl (jj_le rfl) (jj_le rfl) (jj_le rfl) (jj_le rfl) (jj_le rfl) dX11_runScript_105 rfl (fun _ _ _ hX => hX.elim) (fun rx pl_55 r O_59 => ?_)
            obtain ⟨rfl, hok_56, hr_57, ha_58, hR_60⟩ := O_59
            replace hf_37 := hr_57.at hk0 (by decide) (by decide) hf_37
            replace hf_38 := hr_57.at hk0 (by decide) (by decide) hf_38
            replace hf_39 := hr_57.at hk0 (by decide) (by decide) hf_39
            replace hf_45 := hr_57.at hk0 (by decide) (by decide) hf_45
            replace hf_46 := hr_57.at hk0 (by decide) (by decide) hf_46
            replace hf_47 := hr_57.at hk0 (by decide) (by decide) hf_47
            replace hf_51 := hr_57.at hk0 (by decide) (by decide) hf_51
            replace hCp := ha_58.at hkp (by decide) (by decide) hCp
            replace hC_17 := ha_58.at hka (by decide) (by decide) hC_17
            replace hm := hm.fr hr_57 hk0 rfl
            replace hfr := hfr.trans (hr_57.sub (by decide))
            replace hfa := hfa.trans (ha_58.sub (by decide))
            obtain ⟨g_61, hC_62, he_63, rfl⟩ := hR_60
            obtain ⟨⟨g0ag_61, g0bg_61⟩, ⟨g1ag_61, g1bg_61⟩, ⟨g6ag_61, g6bg_61⟩, ⟨g7ag_61, g7bg_61⟩, ⟨g8ag_61, g8bg_61⟩⟩ := (rl_I.cong (rl_I.cong hI he_18).1 he_63).1.1.1
            refine jj_aload_n C dX11_runScript_108 rfl ?_
            refine jj_iload_n C dX11_runScript_109 rfl ?_
            refine rl_put C hok_56 jk_12 17 (by decide) jw_17e99f0710 (t := (0, (-2147483648), 2147483647)) hk0 (by decide) rfl rfl rfl (tt_ia x_6) rfl rfl dX11_runScript_110 (fun pl_64 hok_65 tr hn tl => ?_)
            replace hf_37 := tr _ _ _ (Or.inr (by decide)) hf_37
            replace hf_38 := tr _ _ _ (Or.inr (by decide)) hf_38
            replace hf_39 := tr _ _ _ (Or.inr (by decide)) hf_39
            replace hf_45 := tr _ _ _ (Or.inr (by decide)) hf_45
            replace hf_46 := tr _ _ _ (Or.inr (by decide)) hf_46
            replace hf_51 := tr _ _ _ (Or.inr (by decide)) hf_51
            have hf_66 := hn
            replace hm := hm.put tr (by decide)
            replace hfr := hfr.put hk0 tr (by decide)
            replace hCp := tl _ _ hCp
            replace hC_17 := tl _ _ hC_17
            replace hC_62 := tl _ _ hC_62
            replace hfa := hfa.all tl
            refine jj_aload_n C dX11_runScript_113 rfl ?_
            refine jj_iload_n C dX11_runScript_114 rfl ?_
            refine rl_put C hok_65 jk_12 18 (by decide) jw_a8ef26b797 (t := (0, (-2147483648), 2147483647)) hk0 (by decide) rfl rfl rfl (tt_ia x_9) rfl rfl dX11_runScript_115 (fun pl_67 hok_68 tr hn tl => ?_)
            replace hf_37 := tr _ _ _ (Or.inr (by decide)) hf_37
            replace hf_38 := tr _ _ _ (Or.inr (by decide)) hf_38
            replace hf_39 := tr _ _ _ (Or.inr (by decide)) hf_39
            replace hf_45 := tr _ _ _ (Or.inr (by decide)) hf_45
            replace hf_46 := tr _ _ _ (Or.inr (by decide)) hf_46
            replace hf_66 := tr _ _ _ (Or.inr (by decide)) hf_66
            have hf_69 := hn
            replace hm := hm.put tr (by decide)
            replace hfr := hfr.put hk0 tr (by decide)
            replace hCp := tl _ _ hCp
            replace hC_17 := tl _ _ hC_17
            replace hC_62 := tl _ _ hC_62
            replace hfa := hfa.all tl
            refine jj_iload C dX11_runScript_118 rfl ?_
            exact jj_iret C ⟨[], pl_67, rfl, rfl, hok_68, hfr, hfa, ⟨⟨_, _, n6, hC_62, hCp, hf_37, (by omega), (((hK.cong he_18).cong he_63).mono (by omega) (by omega)), hHP.mono (by omega) (by omega)⟩, hf_39, x_53, rfl⟩⟩ dX11_runScript_120 (jj_le rfl) (jj_le rfl)
          · have z_c_54 := jc_eq (a := ((n_42 : Nat) : Int)) (b := 0) c_54 (rl_ti (by omega)) (by decide)
            exfalso; omega
        · have z_c_49 := jc_eq (a := ((n_42 : Nat) : Int)) (b := 0) c_49 (rl_ti (by omega)) (by decide)
          exfalso; omega
      · have z_c_48 := jc_eq (a := ((n_42 : Nat) : Int)) (b := 0) c_48 (rl_ti (by omega)) (by decide)
        refine jj_aload_n C dX11_runScript_39 rfl ?_
        refine tt_getF C hok jk_12 14 (by decide) jw_6446e1fd81 (t := (0, 0, 400)) hk0 (by decide) rfl rfl hf_45 dX11_runScript_40 ?_
        refine jj_aload_n C dX11_runScript_43 rfl ?_
        refine tt_getF C hok jk_12 16 (by decide) jw_28b46cb90c (t := (0, 0, 400)) hk0 (by decide) rfl rfl hf_38 dX11_runScript_44 ?_
        refine jj_icmp_ge (tgt := 64) C dX11_runScript_47 (by decide) (fun c_70 => ?_) (fun c_70 => ?_)
        · have z_c_70 := jc_le (a := ((n13 : Nat) : Int)) (b := ((n_40 : Nat) : Int)) c_70 (rl_ti (by omega)) (rl_ti (by omega))
          refine jj_aload_n C dX11_runScript_64 rfl ?_
          refine tt_getF C hok jk_12 17 (by decide) jw_17e99f0710 (t := (0, (-2147483648), 2147483647)) hk0 (by decide) rfl rfl hf_47 dX11_runScript_65 ?_
          refine jj_if_ne (tgt := 75) C dX11_runScript_68 (by decide) (fun c_71 => ?_) (fun c_71 => ?_)
          · have z_c_71 := jc_neq (a := ((n_42 : Nat) : Int)) (b := 0) c_71 (rl_ti (by omega)) (by decide)
            exfalso; omega
          · have z_c_71 := jc_eq (a := ((n_42 : Nat) : Int)) (b := 0) c_71 (rl_ti (by omega)) (by decide)
            refine jj_iload_n C dX11_runScript_71 rfl ?_
            refine jj_goto (tgt := 81) C dX11_runScript_72 (by decide) ?_
            refine jj_istore C dX11_runScript_81 (by decide) rfl ?_
            refine jj_aload_n C dX11_runScript_83 rfl ?_
            refine tt_getF C hok jk_12 17 (by decide) jw_17e99f0710 (t := (0, (-2147483648), 2147483647)) hk0 (by decide) rfl rfl hf_47 dX11_runScript_84 ?_
            refine jj_if_ne (tgt := 97) C dX11_runScript_87 (by decide) (fun c_72 => ?_) (fun c_72 => ?_)
            · have z_c_72 := jc_neq (a := ((n_42 : Nat) : Int)) (b := 0) c_72 (rl_ti (by omega)) (by decide)
              exfalso; omega
            · have z_c_72 := jc_eq (a := ((n_42 : Nat) : Int)) (b := 0) c_72 (rl_ti (by omega)) (by decide)
              refine jj_aload_n C dX11_runScript_90 rfl ?_
              obtain ⟨qc, gs, hqc⟩ := tt_recv (cx := []) hok hk0 (by decide) rfl
              refine tt_callV (rest := []) C (rs_push hl D cA ak n6 B C9 g_16 P hk0 hkw hka hkt hki hkf hkp (by first | omega | decide) (by first | omega | decide) hHP (hK.cong he_18) hok hm hC_17 hCp hf_37) [] [] rfl rfl (by decide) (by decide) (by decide) qc hqc rfl rfl jw_c80a63daf0 jw_785b532b41 jw_195b7eab6b jw_f96c99f44d jw_74a0b28c12 jn_X11_push rfl (jj_le rfl) (jj_le rfl) (jj_le rfl) (jj_le rfl) (jj_le rfl) dX11_runScript_91 rfl (fun _ _ _ hX => hX.elim) (fun rx pl_73 r O_77 => ?_)
              obtain ⟨rfl, hok_74, hr_75, ha_76, hR_78⟩ := O_77
              replace hf_38 := hr_75.at hk0 (by decide) (by decide) hf_38
              replace hf_39 := hr_75.at hk0 (by decide) (by decide) hf_39
              replace hf_45 := hr_75.at hk0 (by decide) (by decide) hf_45
              replace hf_46 := hr_75.at hk0 (by decide) (by decide) hf_46
              replace hf_47 := hr_75.at hk0 (by decide) (by decide) hf_47
              replace hC_17 := ha_76.at hka (by decide) (by decide) hC_17
              replace hC_43 := ha_76.at hkw (by decide) (by decide) hC_43
              replace hm := hm.fr hr_75 hk0 rfl
              replace hfr := hfr.trans (hr_75.sub (by decide))
              replace hfa := hfa.trans (ha_76.sub (by decide))
              obtain ⟨g_79, n_80, hC_81, hf_82, hn_83, hQ_84, rfl⟩ := hR_78
              refine jj_goto (tgt := 108) C dX11_runScript_94 (by decide) ?_
              refine jj_aload_n C dX11_runScript_108 rfl ?_
              refine jj_iload_n C dX11_runScript_109 rfl ?_
              refine rl_put C hok_74 jk_12 17 (by decide) jw_17e99f0710 (t := (0, (-2147483648), 2147483647)) hk0 (by decide) rfl rfl rfl (tt_ia x_6) rfl rfl dX11_runScript_110 (fun pl_85 hok_86 tr hn tl => ?_)
              replace hf_38 := tr _ _ _ (Or.inr (by decide)) hf_38
              replace hf_39 := tr _ _ _ (Or.inr (by decide)) hf_39
              replace hf_45 := tr _ _ _ (Or.inr (by decide)) hf_45
              replace hf_46 := tr _ _ _ (Or.inr (by decide)) hf_46
              replace hf_82 := tr _ _ _ (Or.inr (by decide)) hf_82
              have hf_87 := hn
              replace hm := hm.put tr (by decide)
              replace hfr := hfr.put hk0 tr (by decide)
              replace hC_17 := tl _ _ hC_17
              replace hC_43 := tl _ _ hC_43
              replace hC_81 := tl _ _ hC_81
              replace hfa := hfa.all tl
              refine jj_aload_n C dX11_runScript_113 rfl ?_
              refine jj_iload_n C dX11_runScript_114 rfl ?_
              refine rl_put C hok_86 jk_12 18 (by decide) jw_a8ef26b797 (t := (0, (-2147483648), 2147483647)) hk0 (by decide) rfl rfl rfl (tt_ia x_9) rfl rfl dX11_runScript_115 (fun pl_88 hok_89 tr hn tl => ?_)
              replace hf_38 := tr _ _ _ (Or.inr (by decide)) hf_38
              replace hf_39 := tr _ _ _ (Or.inr (by decide)) hf_39
              replace hf_45 := tr _ _ _ (Or.inr (by decide)) hf_45
              replace hf_46 := tr _ _ _ (Or.inr (by decide)) hf_46
              replace hf_82 := tr _ _ _ (Or.inr (by decide)) hf_82
              replace hf_87 := tr _ _ _ (Or.inr (by decide)) hf_87
              have hf_90 := hn
              replace hm := hm.put tr (by decide)
              replace hfr := hfr.put hk0 tr (by decide)
              replace hC_17 := tl _ _ hC_17
              replace hC_43 := tl _ _ hC_43
              replace hC_81 := tl _ _ hC_81
              replace hfa := hfa.all tl
              refine jj_iload C dX11_runScript_118 rfl ?_
              exact jj_iret C ⟨[], pl_88, rfl, rfl, hok_89, hfr, hfa, ⟨⟨_, _, n_80, hC_43, hC_81, hf_82, (by omega), ((hD_44 (by omega)).mono (by omega) (by omega)), hQ_84.mono (by omega) (by omega)⟩, hf_39, x_35, rfl⟩⟩ dX11_runScript_120 (jj_le rfl) (jj_le rfl)
        · have z_c_70 := jc_nle (a := ((n13 : Nat) : Int)) (b := ((n_40 : Nat) : Int)) c_70 (rl_ti (by omega)) (rl_ti (by omega))
          refine jj_aload_n C dX11_runScript_50 rfl ?_
          obtain ⟨qc, gs, hqc⟩ := tt_recv (cx := []) hok hk0 (by decide) rfl
          refine tt_callV (rest := []) C (rs_goesThrough hl D cA ak n_42 n13 n_41 n_40 B C9 g_36 hk0 hkw hka hkt hki hkf hkp (by first | omega | decide) (by first | omega | decide) (by first | omega | decide) (by first | omega | decide) (by first | omega | decide) (by first | omega | decide) (by first | omega | decide) (by first | omega | decide) (by omega) (by omega) (by omega) (hD_44 (by omega)) hB5 hB0 ⟨hC9.1, by omega⟩ hok hm hC_43 hf_45 hf_46 hf_38 hf_47) [] [] rfl rfl (by decide) (by decide) (by decide) qc hqc rfl rfl jw_b62f4a35d5 jw_531f8b3049 jw_8b3ca5a371 jw_f96c99f44d jw_7bdeb2db1f jn_X11_goesThrough rfl (jj_le rfl) (jj_le rfl) (jj_le rfl) (jj_le rfl) (jj_le rfl) dX11_runScript_51 rfl (fun _ _ _ hX => hX.elim) (fun rx pl_91 r O_95 => ?_)
          obtain ⟨rfl, hok_92, hr_93, ha_94, hR_96⟩ := O_95
          replace hf_37 := hr_93.at hk0 (by decide) (by decide) hf_37
          replace hf_38 := hr_93.at hk0 (by decide) (by decide) hf_38
          replace hf_39 := hr_93.at hk0 (by decide) (by decide) hf_39
          replace hCp := ha_94.at hkp (by decide) (by decide) hCp
          replace hC_17 := ha_94.at hka (by decide) (by decide) hC_17
          replace hm := hm.fr hr_93 hk0 rfl
          replace hfr := hfr.trans (hr_93.sub (by decide))
          replace hfa := hfa.trans (ha_94.sub (by decide))
          obtain ⟨g_97, n_99, n_100, n_101, hC_98, hf_102, hf_103, hf_104, hq_105, hq_106, hq_107, hq_108, hq_109, hq_110, rfl⟩ := hR_96
          refine jj_aload_n C dX11_runScript_54 rfl ?_
          obtain ⟨qc, gs, hqc⟩ := tt_recv (cx := []) hok_92 hk0 (by decide) rfl
          refine tt_callV (rest := []) C (rs_pass hl D cA ak n_101 n13 n_100 n_99 hk0 hkw hka hkt hki hkf hkp (by first | omega | decide) (by first | omega | decide) (by first | omega | decide) (by first | omega | decide) (by first | omega | decide) (by first | omega | decide) (by first | omega | decide) (by first | omega | decide) (by omega) (by omega) hok_92 hm hf_102 hf_103 hf_38 hf_104) [] [] rfl rfl (by decide) (by decide) (by decide) qc hqc rfl rfl jw_b8e803331f jw_409849e3da jw_7cfaf31817 jw_f96c99f44d jw_3d0e41f30f jn_X11_pass rfl (jj_le rfl) (jj_le rfl) (jj_le rfl) (jj_le rfl) (jj_le rfl) dX11_runScript_55 rfl (fun _ _ _ hX => hX.elim) (fun rx pl_111 r O_115 => ?_)
          obtain ⟨rfl, hok_112, hr_113, ha_114, hR_116⟩ := O_115
          replace hf_37 := hr_113.at hk0 (by decide) (by decide) hf_37
          replace hf_38 := hr_113.at hk0 (by decide) (by decide) hf_38
          replace hf_39 := hr_113.at hk0 (by decide) (by decide) hf_39
          replace hf_104 := hr_113.at hk0 (by decide) (by decide) hf_104
          replace hCp := ha_114.at hkp (by decide) (by decide) hCp
          replace hC_17 := ha_114.at hka (by decide) (by decide) hC_17
          replace hC_98 := ha_114.at hkw (by decide) (by decide) hC_98
          replace hm := hm.fr hr_113 hk0 rfl
          replace hfr := hfr.trans (hr_113.sub (by decide))
          replace hfa := hfa.trans (ha_114.sub (by decide))
          obtain ⟨n_117, n_118, hf_119, hf_120, hq_121, hq_122, hq_123, hq_124, rfl⟩ := hR_116
          obtain ⟨x_125, ex_125⟩ : ∃ z : Int32, x_35 + Int32.ofInt 1 = z := ⟨_, rfl⟩
          refine jj_iinc (v := x_125) C dX11_runScript_58 rfl ex_125 (by decide) rfl ?_
          refine jj_goto (tgt := 32) C dX11_runScript_61 (by decide) ?_
          exact ihL_34 pl_111 x_125 g_97 n_117 n_118 n_101 hok_112 hfr hfa hm hf_37 hf_38 hf_39 hCp hC_17 hC_98 (fun z9 => (hq_110 (by omega)).mono (by omega) (by omega)) hf_119 hf_120 hf_104 (by first | omega | decide | exact tt_lo _ | exact tt_hi _) (by first | omega | decide | exact tt_lo _ | exact tt_hi _) (by first | omega | decide | exact tt_lo _ | exact tt_hi _) (by first | omega | decide | exact tt_lo _ | exact tt_hi _) (by first | omega | decide | exact tt_lo _ | exact tt_hi _) (by first | omega | decide | exact tt_lo _ | exact tt_hi _) (by first | omega | decide | exact tt_lo _ | exact tt_hi _) (by first | omega | decide | exact tt_lo _ | exact tt_hi _) ⟨by omega, by omega⟩ (by first | omega | decide | exact tt_lo _ | exact tt_hi _)
  exact hL_34 _ pl_19 (0 : Int32) f n_25 n_26 0 trivial hok_20 hfr hfa hm hs6 hf_30 hf_27 hCp hC_17 hC (fun _ => hK.mono (by omega) (by omega)) hf_28 hf_29 hf_31 (by first | omega | decide | exact tt_lo _ | exact tt_hi _) (by first | omega | decide | exact tt_lo _ | exact tt_hi _) (by first | omega | decide | exact tt_lo _ | exact tt_hi _) (by first | omega | decide | exact tt_lo _ | exact tt_hi _) (by first | omega | decide | exact tt_lo _ | exact tt_hi _) (by first | omega | decide | exact tt_lo _ | exact tt_hi _) (by first | omega | decide | exact tt_lo _ | exact tt_hi _) (by first | omega | decide | exact tt_lo _ | exact tt_hi _) ⟨by omega, by omega⟩ (Int.self_le_toNat _)

set_option maxHeartbeats 4000000 in
set_option maxRecDepth 100000 in
theorem rs_bring {l : Launch} (hl : l.stackTraces = false) (D : va_G) (cA : Nat → ClassId) (ak : (Nat → Nat) × (Nat → Nat)) {Kd : Nat → Nat} {h0 aw aa at0 ai af ap : Nat} (n13 : Nat) (p1 : Int32) (hk0 : Kd h0 = 1) (hkw : Kd aw = 2) (hka : Kd aa = 3) (hkt : Kd at0 = 4) (hki : Kd ai = 5) (hkf : Kd af = 6) (hkp : Kd ap = 7) (ln13 : (0 : Int) ≤ (n13 : Int)) (un13 : (n13 : Int) ≤ 396) {pl0 : va_W} (hok : tt_ok rt_tk cA Kd pl0) (hm : rl_m pl0 h0 aw aa at0 ai af ap) (hs13 : tt_at pl0 h0 13 (.int (nI n13))) : jj_M l D cA ak yX11_bring (.code yX11_bring cX11_bring 3 none) 0 0 0 0 ([] ++ pl0) [.ref h0, .int p1] (tt_O (fun rx pl1 r => rx = [] ∧ tt_ok rt_tk cA Kd pl1 ∧ tt_fr Kd [(1, 13)] pl0 pl1 ∧ tt_fa Kd [10] pl0 pl1 ∧ ((∃ m : Nat, tt_at pl1 h0 13 (.int (nI m)) ∧ m = n13 + 4 ∧ r = none)))) (tt_OX (fun _ _ _ => False)) := by
  refine jj_start hl (by decide) jw_6cee2b55dc (jj_le rfl) ?_
  intro p e s m args below meth c A hargs hA C hex hmn
  have hfr := tt_fr.refl (K := Kd) (WS := [(1, 13)]) pl0
  have hfa := tt_fa.refl (K := Kd) (WA := [10]) pl0
  have lp1 := tt_lo p1
  have up1 := tt_hi p1
  refine jj_iconst (v := 3) C dX11_bring_0 (by decide) ?_
  refine jj_istore_n C dX11_bring_1 (by decide) rfl ?_
  have hL_1 : ∀ (N : Nat) (pl : va_W) (x_2 : Int32) (n_3 : Nat), True → tt_ok rt_tk cA Kd pl → tt_fr Kd [(1, 13)] pl0 pl → tt_fa Kd [10] pl0 pl → rl_m pl h0 aw aa at0 ai af ap → tt_at pl h0 13 (.int (nI n_3)) → (-1 : Int) ≤ x_2.toInt → x_2.toInt ≤ 3 → (0 : Int) ≤ (n_3 : Int) → (n_3 : Int) ≤ 400 → (((n_3 : Nat) : Int) + x_2.toInt = ((n13 : Nat) : Int) + 3) → (x_2.toInt + 2147483649 ≤ (N : Int)) → jj_J p l e (jj_rm 0 0 0 0) s m args below meth c 3 A (vx_MQ below (jj_q D A (tt_O (fun rx pl1 r => rx = [] ∧ tt_ok rt_tk cA Kd pl1 ∧ tt_fr Kd [(1, 13)] pl0 pl1 ∧ tt_fa Kd [10] pl0 pl1 ∧ ((∃ m : Nat, tt_at pl1 h0 13 (.int (nI m)) ∧ m = n13 + 4 ∧ r = none))))) (jj_x D A (tt_OX (fun _ _ _ => False))) args s 0 0 A) (jj_X D A ([] ++ pl)) 0 0 2 [(2, .int x_2), (0, .ref h0), (1, .int p1)] [] := by
    intro NL_1
    induction NL_1 with
    | zero => intro pl x_2 n_3 _ hok hfr hfa hm hf_4 lx_2 ux_2 ln_3 un_3 hS9 hNL_1; exfalso; omega
    | succ NL_1 ihL_1 =>
      intro pl x_2 n_3 _ hok hfr hfa hm hf_4 lx_2 ux_2 ln_3 un_3 hS9 hNL_1
      replace ihL_1 := fun pl x_2 n_3 h1 => ihL_1 pl x_2 n_3 trivial h1
      refine jj_iload_n C dX11_bring_2 rfl ?_
      refine jj_if_lt (tgt := 35) C dX11_bring_3 (by decide) (fun c_5 => ?_) (fun c_5 => ?_)
      · have z_c_5 := jc_lt (a := x_2.toInt) (b := 0) c_5 rfl (by decide)
        exact jj_vret C ⟨[], pl, rfl, rfl, hok, hfr, hfa, ⟨n_3, hf_4, (by omega), rfl⟩⟩ dX11_bring_35 (jj_le rfl) (jj_le rfl)
      · have z_c_5 := jc_nlt (a := x_2.toInt) (b := 0) c_5 rfl (by decide)
        refine jj_aload_n C dX11_bring_6 rfl ?_
        refine tt_get C hok jk_12 12 (by decide) jw_a4b356c796 (t := (2, 10, 0)) hk0 (by decide) rfl rfl dX11_bring_7 (fun v_6 hv_6 hf_7 => ?_)
        obtain ⟨a_8, rfl, ka_8⟩ := tt_vr hv_6
        refine jj_aload_n C dX11_bring_10 rfl ?_
        refine jj_dup C dX11_bring_11 rfl ?_
        refine tt_getF C hok jk_12 13 (by decide) jw_fabf3762b1 (t := (0, 0, 400)) hk0 (by decide) rfl rfl hf_4 dX11_bring_12 ?_
        refine jj_dup_x1 C dX11_bring_15 rfl rfl ?_
        refine jj_iconst (v := 1) C dX11_bring_16 (by decide) ?_
        refine jj_iadd (v := nI (1 + n_3)) C dX11_bring_17 (rl_addR (kn := 1) (by decide) (by omega)) ?_
        refine rl_put C hok jk_12 13 (by decide) jw_fabf3762b1 (t := (0, 0, 400)) hk0 (by decide) rfl rfl rfl (rl_iv (by omega) (by omega)) rfl rfl dX11_bring_18 (fun pl_9 hok_10 tr hn tl => ?_)
        replace hf_7 := tr _ _ _ (Or.inr (by decide)) hf_7
        have hf_11 := hn
        replace hm := hm.put tr (by decide)
        replace hfr := hfr.put hk0 tr (by decide)
        replace hfa := hfa.all tl
        refine jj_iload_n C dX11_bring_21 rfl ?_
        refine jj_bipush (v := 8) C dX11_bring_22 (by decide) ?_
        refine jj_iload_n C dX11_bring_24 rfl ?_
        obtain ⟨x_12, ex_12⟩ : ∃ z : Int32, (8 : Int32) * x_2 = z := ⟨_, rfl⟩
        refine jj_imul (v := x_12) C dX11_bring_25 ex_12 ?_
        obtain ⟨x_13, ex_13⟩ : ∃ z : Int32, p1 >>> (x_12 &&& 31) = z := ⟨_, rfl⟩
        refine jj_ishr (v := x_13) C dX11_bring_26 ex_13 ?_
        obtain ⟨x_14, ex_14⟩ : ∃ z : Int32, x_13.toInt8.toInt32 = z := ⟨_, rfl⟩
        refine jj_i2b (v := x_14) C dX11_bring_27 ex_14 ?_
        refine rl_bast C hok_10 (t := (0, (-2147483648), 2147483647)) ka_8 (by decide) rfl (vp_in_nI (by omega) (by decide)) (tt_ia _) dX11_bring_28 (fun pl_15 hok_16 tr tl tw => ?_)
        replace hf_7 := tr _ _ _ hf_7
        replace hf_11 := tr _ _ _ hf_11
        replace hm := hm.arr tr
        replace hfr := hfr.arr tr
        replace hfa := hfa.wr ka_8 tl (by decide)
        obtain ⟨x_17, ex_17, vx_17⟩ := tt_inc (x := x_2) (n := (-1)) (by omega) (by omega)
        refine jj_iinc (v := x_17) C dX11_bring_29 rfl ex_17 (by decide) rfl ?_
        refine jj_goto (tgt := 2) C dX11_bring_32 (by decide) ?_
        exact ihL_1 pl_15 x_17 (1 + n_3) hok_16 hfr hfa hm hf_11 (by first | omega | decide | exact tt_lo _ | exact tt_hi _) (by first | omega | decide | exact tt_lo _ | exact tt_hi _) (by first | omega | decide | exact tt_lo _ | exact tt_hi _) (by first | omega | decide | exact tt_lo _ | exact tt_hi _) (by omega) (by first | omega | decide | exact tt_lo _ | exact tt_hi _)
  exact hL_1 _ pl0 (3 : Int32) n13 trivial hok hfr hfa hm hs13 (by first | omega | decide | exact tt_lo _ | exact tt_hi _) (by first | omega | decide | exact tt_lo _ | exact tt_hi _) (by first | omega | decide | exact tt_lo _ | exact tt_hi _) (by first | omega | decide | exact tt_lo _ | exact tt_hi _) (by first | omega | (have : (3 : Int32).toInt = 3 := by decide); omega) (Int.self_le_toNat _)

set_option maxHeartbeats 4000000 in
set_option maxRecDepth 100000 in
theorem rs_no1 {l : Launch} (hl : l.stackTraces = false) (D : va_G) (cA : Nat → ClassId) (ak : (Nat → Nat) × (Nat → Nat)) {Kd : Nat → Nat} {h0 aw aa at0 ai af ap : Nat} (hk0 : Kd h0 = 1) (hkw : Kd aw = 2) (hka : Kd aa = 3) (hkt : Kd at0 = 4) (hki : Kd ai = 5) (hkf : Kd af = 6) (hkp : Kd ap = 7) {pl0 : va_W} (hok : tt_ok rt_tk cA Kd pl0) (hm : rl_m pl0 h0 aw aa at0 ai af ap) : jj_M l D cA ak yX11_no (.code yX11_no cX11_no 2 (some .int)) 0 0 0 0 ([] ++ pl0) [.ref h0, .int 1] (tt_O (fun rx pl1 r => rx = [] ∧ tt_ok rt_tk cA Kd pl1 ∧ tt_fr Kd [(1, 7)] pl0 pl1 ∧ tt_fa Kd [] pl0 pl1 ∧ ((tt_at pl1 h0 7 (.int 1) ∧ r = some (.int 0))))) (tt_OX (fun _ _ _ => False)) := by
  refine jj_start hl (by decide) jw_db0108e47b (jj_le rfl) ?_
  intro p e s m args below meth c A hargs hA C hex hmn
  have hfr := tt_fr.refl (K := Kd) (WS := [(1, 7)]) pl0
  have hfa := tt_fa.refl (K := Kd) (WA := []) pl0
  refine jj_aload_n C dX11_no_0 rfl ?_
  refine jj_iload_n C dX11_no_1 rfl ?_
  refine rl_put C hok jk_12 7 (by decide) jw_0a65e3738e (t := (0, (-2147483648), 2147483647)) hk0 (by decide) rfl rfl rfl (tt_ia (1 : Int32)) rfl rfl dX11_no_2 (fun pl_1 hok_2 tr hn tl => ?_)
  have hf_3 := hn
  replace hm := hm.put tr (by decide)
  replace hfr := hfr.put hk0 tr (by decide)
  replace hfa := hfa.all tl
  refine jj_iconst (v := 0) C dX11_no_5 (by decide) ?_
  exact jj_iret C ⟨[], pl_1, rfl, rfl, hok_2, hfr, hfa, ⟨hf_3, rfl⟩⟩ dX11_no_6 (jj_le rfl) (jj_le rfl)

set_option maxHeartbeats 4000000 in
set_option maxRecDepth 100000 in
theorem rs_appendText {l : Launch} (hl : l.stackTraces = false) (D : va_G) (cA : Nat → ClassId) (ak : (Nat → Nat) × (Nat → Nat)) {Kd : Nat → Nat} {h0 aw aa at0 ai af ap : Nat} (n13 : Nat) (p1 : Int32) (p2 : Int32) (p3 : Int32) (p4 : Int32) (p5 : Int32) (hk0 : Kd h0 = 1) (hkw : Kd aw = 2) (hka : Kd aa = 3) (hkt : Kd at0 = 4) (hki : Kd ai = 5) (hkf : Kd af = 6) (hkp : Kd ap = 7) (ln13 : (0 : Int) ≤ (n13 : Int)) (un13 : (n13 : Int) ≤ 400) {pl0 : va_W} (hok : tt_ok rt_tk cA Kd pl0) (hm : rl_m pl0 h0 aw aa at0 ai af ap) (hs13 : tt_at pl0 h0 13 (.int (nI n13))) : jj_M l D cA ak yX11_appendText (.code yX11_appendText cX11_appendText 6 (some .int)) 1 22 0 0 ([] ++ pl0) [.ref h0, .int p1, .int p2, .int p3, .int p4, .int p5] (tt_O (fun rx pl1 r => rx = [] ∧ tt_ok rt_tk cA Kd pl1 ∧ tt_fr Kd [(1, 7), (1, 13)] pl0 pl1 ∧ tt_fa Kd [10] pl0 pl1 ∧ ((n13 ≤ 380 ∧ tt_at pl1 h0 7 (.int 0) ∧ tt_at pl1 h0 13 (.int (nI (n13 + 20))) ∧ r = some (.int (nI (n13 + 20)))) ∨ (380 < n13 ∧ tt_at pl1 h0 7 (.int 1) ∧ tt_at pl1 h0 13 (.int (nI n13)) ∧ r = some (.int 0))))) (tt_OX (fun _ _ _ => False)) := by
  refine jj_start hl (by decide) jw_650770dc87 (jj_le rfl) ?_
  intro p e s m args below meth c A hargs hA C hex hmn
  have hfr := tt_fr.refl (K := Kd) (WS := [(1, 7), (1, 13)]) pl0
  have hfa := tt_fa.refl (K := Kd) (WA := [10]) pl0
  have lp1 := tt_lo p1
  have up1 := tt_hi p1
  have lp2 := tt_lo p2
  have up2 := tt_hi p2
  have lp3 := tt_lo p3
  have up3 := tt_hi p3
  have lp4 := tt_lo p4
  have up4 := tt_hi p4
  have lp5 := tt_lo p5
  have up5 := tt_hi p5
  refine jj_aload_n C dX11_appendText_0 rfl ?_
  refine tt_getF C hok jk_12 13 (by decide) jw_fabf3762b1 (t := (0, 0, 400)) hk0 (by decide) rfl rfl hs13 dX11_appendText_1 ?_
  refine jj_bipush (v := 20) C dX11_appendText_4 (by decide) ?_
  refine jj_iadd (v := nI (20 + n13)) C dX11_appendText_6 (rl_addR (kn := 20) (by decide) (by omega)) ?_
  refine jj_sipush (v := 400) C dX11_appendText_7 (by decide) ?_
  refine jj_icmp_le (tgt := 19) C dX11_appendText_10 (by decide) (fun c_1 => ?_) (fun c_1 => ?_)
  · have z_c_1 := jc_le (a := ((20 + n13 : Nat) : Int)) (b := 400) c_1 (rl_ti (by omega)) (by decide)
    refine jj_aload_n C dX11_appendText_19 rfl ?_
    refine jj_iconst (v := 0) C dX11_appendText_20 (by decide) ?_
    refine rl_put C hok jk_12 7 (by decide) jw_0a65e3738e (t := (0, (-2147483648), 2147483647)) hk0 (by decide) rfl rfl rfl (tt_ia (0 : Int32)) rfl rfl dX11_appendText_21 (fun pl_2 hok_3 tr hn tl => ?_)
    replace hs13 := tr _ _ _ (Or.inr (by decide)) hs13
    have hf_4 := hn
    replace hm := hm.put tr (by decide)
    replace hfr := hfr.put hk0 tr (by decide)
    replace hfa := hfa.all tl
    refine jj_aload_n C dX11_appendText_24 rfl ?_
    refine jj_iload_n C dX11_appendText_25 rfl ?_
    obtain ⟨qc, gs, hqc⟩ := tt_recv (cx := []) hok_3 hk0 (by decide) rfl
    refine tt_callV (rest := []) C (rs_bring hl D cA ak n13 p1 hk0 hkw hka hkt hki hkf hkp (by first | omega | decide) (by first | omega | decide) hok_3 hm hs13) [] [] rfl rfl (by decide) (by decide) (by decide) qc hqc rfl rfl jw_02ef8376e2 jw_4078efbb51 jw_c999e79975 jw_f96c99f44d jw_6cee2b55dc jn_X11_bring rfl (jj_le rfl) (jj_le rfl) (jj_le rfl) (jj_le rfl) (jj_le rfl) dX11_appendText_26 rfl (fun _ _ _ hX => hX.elim) (fun rx pl_5 r O_9 => ?_)
    obtain ⟨rfl, hok_6, hr_7, ha_8, hR_10⟩ := O_9
    replace hf_4 := hr_7.at hk0 (by decide) (by decide) hf_4
    replace hm := hm.fr hr_7 hk0 rfl
    replace hfr := hfr.trans (hr_7.sub (by decide))
    replace hfa := hfa.trans (ha_8.sub (by decide))
    obtain ⟨n_11, hf_12, hq_13, rfl⟩ := hR_10
    refine jj_aload_n C dX11_appendText_29 rfl ?_
    refine jj_iload_n C dX11_appendText_30 rfl ?_
    obtain ⟨qc, gs, hqc⟩ := tt_recv (cx := []) hok_6 hk0 (by decide) rfl
    refine tt_callV (rest := []) C (rs_bring hl D cA ak n_11 p2 hk0 hkw hka hkt hki hkf hkp (by first | omega | decide) (by first | omega | decide) hok_6 hm hf_12) [] [] rfl rfl (by decide) (by decide) (by decide) qc hqc rfl rfl jw_02ef8376e2 jw_4078efbb51 jw_c999e79975 jw_f96c99f44d jw_6cee2b55dc jn_X11_bring rfl (jj_le rfl) (jj_le rfl) (jj_le rfl) (jj_le rfl) (jj_le rfl) dX11_appendText_31 rfl (fun _ _ _ hX => hX.elim) (fun rx pl_14 r O_18 => ?_)
    obtain ⟨rfl, hok_15, hr_16, ha_17, hR_19⟩ := O_18
    replace hf_4 := hr_16.at hk0 (by decide) (by decide) hf_4
    replace hm := hm.fr hr_16 hk0 rfl
    replace hfr := hfr.trans (hr_16.sub (by decide))
    replace hfa := hfa.trans (ha_17.sub (by decide))
    obtain ⟨n_20, hf_21, hq_22, rfl⟩ := hR_19
    refine jj_aload_n C dX11_appendText_34 rfl ?_
    refine jj_iload_n C dX11_appendText_35 rfl ?_
    obtain ⟨qc, gs, hqc⟩ := tt_recv (cx := []) hok_15 hk0 (by decide) rfl
    refine tt_callV (rest := []) C (rs_bring hl D cA ak n_20 p3 hk0 hkw hka hkt hki hkf hkp (by first | omega | decide) (by first | omega | decide) hok_15 hm hf_21) [] [] rfl rfl (by decide) (by decide) (by decide) qc hqc rfl rfl jw_02ef8376e2 jw_4078efbb51 jw_c999e79975 jw_f96c99f44d jw_6cee2b55dc jn_X11_bring rfl (jj_le rfl) (jj_le rfl) (jj_le rfl) (jj_le rfl) (jj_le rfl) dX11_appendText_36 rfl (fun _ _ _ hX => hX.elim) (fun rx pl_23 r O_27 => ?_)
    obtain ⟨rfl, hok_24, hr_25, ha_26, hR_28⟩ := O_27
    replace hf_4 := hr_25.at hk0 (by decide) (by decide) hf_4
    replace hm := hm.fr hr_25 hk0 rfl
    replace hfr := hfr.trans (hr_25.sub (by decide))
    replace hfa := hfa.trans (ha_26.sub (by decide))
    obtain ⟨n_29, hf_30, hq_31, rfl⟩ := hR_28
    refine jj_aload_n C dX11_appendText_39 rfl ?_
    refine jj_iload C dX11_appendText_40 rfl ?_
    obtain ⟨qc, gs, hqc⟩ := tt_recv (cx := []) hok_24 hk0 (by decide) rfl
    refine tt_callV (rest := []) C (rs_bring hl D cA ak n_29 p4 hk0 hkw hka hkt hki hkf hkp (by first | omega | decide) (by first | omega | decide) hok_24 hm hf_30) [] [] rfl rfl (by decide) (by decide) (by decide) qc hqc rfl rfl jw_02ef8376e2 jw_4078efbb51 jw_c999e79975 jw_f96c99f44d jw_6cee2b55dc jn_X11_bring rfl (jj_le rfl) (jj_le rfl) (jj_le rfl) (jj_le rfl) (jj_le rfl) dX11_appendText_42 rfl (fun _ _ _ hX => hX.elim) (fun rx pl_32 r O_36 => ?_)
    obtain ⟨rfl, hok_33, hr_34, ha_35, hR_37⟩ := O_36
    replace hf_4 := hr_34.at hk0 (by decide) (by decide) hf_4
    replace hm := hm.fr hr_34 hk0 rfl
    replace hfr := hfr.trans (hr_34.sub (by decide))
    replace hfa := hfa.trans (ha_35.sub (by decide))
    obtain ⟨n_38, hf_39, hq_40, rfl⟩ := hR_37
    refine jj_aload_n C dX11_appendText_45 rfl ?_
    refine jj_iload C dX11_appendText_46 rfl ?_
    obtain ⟨qc, gs, hqc⟩ := tt_recv (cx := []) hok_33 hk0 (by decide) rfl
    refine tt_callV (rest := []) C (rs_bring hl D cA ak n_38 p5 hk0 hkw hka hkt hki hkf hkp (by first | omega | decide) (by first | omega | decide) hok_33 hm hf_39) [] [] rfl rfl (by decide) (by decide) (by decide) qc hqc rfl rfl jw_02ef8376e2 jw_4078efbb51 jw_c999e79975 jw_f96c99f44d jw_6cee2b55dc jn_X11_bring rfl (jj_le rfl) (jj_le rfl) (jj_le rfl) (jj_le rfl) (jj_le rfl) dX11_appendText_48 rfl (fun _ _ _ hX => hX.elim) (fun rx pl_41 r O_45 => ?_)
    obtain ⟨rfl, hok_42, hr_43, ha_44, hR_46⟩ := O_45
    replace hf_4 := hr_43.at hk0 (by decide) (by decide) hf_4
    replace hm := hm.fr hr_43 hk0 rfl
    replace hfr := hfr.trans (hr_43.sub (by decide))
    replace hfa := hfa.trans (ha_44.sub (by decide))
    obtain ⟨n_47, hf_48, hq_49, rfl⟩ := hR_46
    refine jj_aload_n C dX11_appendText_51 rfl ?_
    refine tt_getF C hok_42 jk_12 13 (by decide) jw_fabf3762b1 (t := (0, 0, 400)) hk0 (by decide) rfl rfl hf_48 dX11_appendText_52 ?_
    exact jj_iret C ⟨[], pl_41, rfl, rfl, hok_42, hfr, hfa, (Or.inl (by have e9 : n_47 = n13 + 20 := (by omega); subst e9; exact ⟨by omega, hf_4, hf_48, rfl⟩))⟩ dX11_appendText_55 (jj_le rfl) (jj_le rfl)
  · have z_c_1 := jc_nle (a := ((20 + n13 : Nat) : Int)) (b := 400) c_1 (rl_ti (by omega)) (by decide)
    refine jj_aload_n C dX11_appendText_13 rfl ?_
    refine jj_iconst (v := 1) C dX11_appendText_14 (by decide) ?_
    obtain ⟨qc, gs, hqc⟩ := tt_recv (cx := []) hok hk0 (by decide) rfl
    refine tt_callV (rest := []) C (rs_no1 hl D cA ak hk0 hkw hka hkt hki hkf hkp hok hm) [] [] rfl rfl (by decide) (by decide) (by decide) qc hqc rfl rfl jw_d1b9c9bc08 jw_0a7e47b48e jw_ae3979bf43 jw_f96c99f44d jw_db0108e47b jn_X11_no rfl (jj_le rfl) (jj_le rfl) (jj_le rfl) (jj_le rfl) (jj_le rfl) dX11_appendText_15 rfl (fun _ _ _ hX => hX.elim) (fun rx pl_50 r O_54 => ?_)
    obtain ⟨rfl, hok_51, hr_52, ha_53, hR_55⟩ := O_54
    replace hs13 := hr_52.at hk0 (by decide) (by decide) hs13
    replace hm := hm.fr hr_52 hk0 rfl
    replace hfr := hfr.trans (hr_52.sub (by decide))
    replace hfa := hfa.trans (ha_53.sub (by decide))
    obtain ⟨hf_56, rfl⟩ := hR_55
    exact jj_iret C ⟨[], pl_50, rfl, rfl, hok_51, hfr, hfa, (Or.inr ⟨by omega, hf_56, hs13, rfl⟩)⟩ dX11_appendText_18 (jj_le rfl) (jj_le rfl)

set_option maxHeartbeats 4000000 in
set_option maxRecDepth 100000 in
theorem rs_truncateText {l : Launch} (hl : l.stackTraces = false) (D : va_G) (cA : Nat → ClassId) (ak : (Nat → Nat) × (Nat → Nat)) {Kd : Nat → Nat} {h0 aw aa at0 ai af ap : Nat} (n13 : Nat) (p1 : Int32) (hk0 : Kd h0 = 1) (hkw : Kd aw = 2) (hka : Kd aa = 3) (hkt : Kd at0 = 4) (hki : Kd ai = 5) (hkf : Kd af = 6) (hkp : Kd ap = 7) (ln13 : (0 : Int) ≤ (n13 : Int)) (un13 : (n13 : Int) ≤ 400) {pl0 : va_W} (hok : tt_ok rt_tk cA Kd pl0) (hm : rl_m pl0 h0 aw aa at0 ai af ap) (hs13 : tt_at pl0 h0 13 (.int (nI n13))) : jj_M l D cA ak yX11_truncateText (.code yX11_truncateText cX11_truncateText 2 (some .int)) 1 25 0 0 ([] ++ pl0) [.ref h0, .int p1] (tt_O (fun rx pl1 r => rx = [] ∧ tt_ok rt_tk cA Kd pl1 ∧ tt_fr Kd [(1, 7), (1, 13)] pl0 pl1 ∧ tt_fa Kd [] pl0 pl1 ∧ (((p1.toInt < 0 ∨ (n13 : Int) < p1.toInt) ∧ tt_at pl1 h0 7 (.int 1) ∧ tt_at pl1 h0 13 (.int (nI n13)) ∧ r = some (.int 0)) ∨ (0 ≤ p1.toInt ∧ p1.toInt ≤ (n13 : Int) ∧ tt_at pl1 h0 7 (.int 0) ∧ tt_at pl1 h0 13 (.int p1) ∧ r = some (.int p1))))) (tt_OX (fun _ _ _ => False)) := by
  refine jj_start hl (by decide) jw_5f822bde56 (jj_le rfl) ?_
  intro p e s m args below meth c A hargs hA C hex hmn
  have hfr := tt_fr.refl (K := Kd) (WS := [(1, 7), (1, 13)]) pl0
  have hfa := tt_fa.refl (K := Kd) (WA := []) pl0
  have lp1 := tt_lo p1
  have up1 := tt_hi p1
  refine jj_iload_n C dX11_truncateText_0 rfl ?_
  obtain ⟨y_1, ey_1, vy_1⟩ := tt_i2l p1
  refine jj_i2l (v := y_1) C dX11_truncateText_1 ey_1 ?_
  refine jj_lconst (v := 0) C dX11_truncateText_2 (by decide) ?_
  refine jj_aload_n C dX11_truncateText_3 rfl ?_
  refine tt_getF C hok jk_12 13 (by decide) jw_fabf3762b1 (t := (0, 0, 400)) hk0 (by decide) rfl rfl hs13 dX11_truncateText_4 ?_
  refine jj_i2l C dX11_truncateText_7 rfl ?_
  refine tt_call0S (rest := []) C (ct_X11_in_s3 hl D cA ak y_1 ((nI n13).toInt64)) jw_2a24feddee jw_12f28ccfda jw_f96c99f44d jw_e07c9ada56 jn_X11_in rfl (jj_le rfl) (jj_le rfl) (jj_le rfl) (jj_le rfl) (jj_le rfl) dX11_truncateText_8 rfl (fun w1 r O_2 => ?_)
  rcases O_2 with ⟨c_3, -, rfl⟩ | ⟨c_4, c_5, -, rfl⟩ | ⟨c_6, c_7, -, rfl⟩
  · have z_c_3 := jc_ltL (a := y_1.toInt) (b := 0) c_3 rfl (by decide)
    refine jj_if_neF (tgt := 20) C dX11_truncateText_11 (by decide) (by decide) ?_
    refine jj_aload_n C dX11_truncateText_14 rfl ?_
    refine jj_iconst (v := 1) C dX11_truncateText_15 (by decide) ?_
    obtain ⟨qc, gs, hqc⟩ := tt_recv (cx := []) hok hk0 (by decide) rfl
    refine tt_callV (rest := []) C (rs_no1 hl D cA ak hk0 hkw hka hkt hki hkf hkp hok hm) [] [] rfl rfl (by decide) (by decide) (by decide) qc hqc rfl rfl jw_d1b9c9bc08 jw_0a7e47b48e jw_ae3979bf43 jw_f96c99f44d jw_db0108e47b jn_X11_no rfl (jj_le rfl) (jj_le rfl) (jj_le rfl) (jj_le rfl) (jj_le rfl) dX11_truncateText_16 rfl (fun _ _ _ hX => hX.elim) (fun rx pl_8 r O_12 => ?_)
    obtain ⟨rfl, hok_9, hr_10, ha_11, hR_13⟩ := O_12
    replace hs13 := hr_10.at hk0 (by decide) (by decide) hs13
    replace hm := hm.fr hr_10 hk0 rfl
    replace hfr := hfr.trans (hr_10.sub (by decide))
    replace hfa := hfa.trans (ha_11.sub (by decide))
    obtain ⟨hf_14, rfl⟩ := hR_13
    exact jj_iret C ⟨[], pl_8, rfl, rfl, hok_9, hfr, hfa, (Or.inl ⟨by omega, hf_14, hs13, rfl⟩)⟩ dX11_truncateText_19 (jj_le rfl) (jj_le rfl)
  · have z_c_4 := jc_nltL (a := y_1.toInt) (b := 0) c_4 rfl (by decide)
    have z_c_5 := jc_ltL (a := ((n13 : Nat) : Int)) (b := y_1.toInt) c_5 (rl_tl (by omega)) rfl
    refine jj_if_neF (tgt := 20) C dX11_truncateText_11 (by decide) (by decide) ?_
    refine jj_aload_n C dX11_truncateText_14 rfl ?_
    refine jj_iconst (v := 1) C dX11_truncateText_15 (by decide) ?_
    obtain ⟨qc, gs, hqc⟩ := tt_recv (cx := []) hok hk0 (by decide) rfl
    refine tt_callV (rest := []) C (rs_no1 hl D cA ak hk0 hkw hka hkt hki hkf hkp hok hm) [] [] rfl rfl (by decide) (by decide) (by decide) qc hqc rfl rfl jw_d1b9c9bc08 jw_0a7e47b48e jw_ae3979bf43 jw_f96c99f44d jw_db0108e47b jn_X11_no rfl (jj_le rfl) (jj_le rfl) (jj_le rfl) (jj_le rfl) (jj_le rfl) dX11_truncateText_16 rfl (fun _ _ _ hX => hX.elim) (fun rx pl_15 r O_19 => ?_)
    obtain ⟨rfl, hok_16, hr_17, ha_18, hR_20⟩ := O_19
    replace hs13 := hr_17.at hk0 (by decide) (by decide) hs13
    replace hm := hm.fr hr_17 hk0 rfl
    replace hfr := hfr.trans (hr_17.sub (by decide))
    replace hfa := hfa.trans (ha_18.sub (by decide))
    obtain ⟨hf_21, rfl⟩ := hR_20
    exact jj_iret C ⟨[], pl_15, rfl, rfl, hok_16, hfr, hfa, (Or.inl ⟨by omega, hf_21, hs13, rfl⟩)⟩ dX11_truncateText_19 (jj_le rfl) (jj_le rfl)
  · have z_c_6 := jc_nltL (a := y_1.toInt) (b := 0) c_6 rfl (by decide)
    have z_c_7 := jc_nltL (a := ((n13 : Nat) : Int)) (b := y_1.toInt) c_7 (rl_tl (by omega)) rfl
    refine jj_if_neT (tgt := 20) C dX11_truncateText_11 (by decide) (by decide) ?_
    refine jj_aload_n C dX11_truncateText_20 rfl ?_
    refine jj_iconst (v := 0) C dX11_truncateText_21 (by decide) ?_
    refine rl_put C hok jk_12 7 (by decide) jw_0a65e3738e (t := (0, (-2147483648), 2147483647)) hk0 (by decide) rfl rfl rfl (tt_ia (0 : Int32)) rfl rfl dX11_truncateText_22 (fun pl_22 hok_23 tr hn tl => ?_)
    replace hs13 := tr _ _ _ (Or.inr (by decide)) hs13
    have hf_24 := hn
    replace hm := hm.put tr (by decide)
    replace hfr := hfr.put hk0 tr (by decide)
    replace hfa := hfa.all tl
    refine jj_aload_n C dX11_truncateText_25 rfl ?_
    refine jj_iload_n C dX11_truncateText_26 rfl ?_
    refine rl_put C hok_23 jk_12 13 (by decide) jw_fabf3762b1 (t := (0, 0, 400)) hk0 (by decide) rfl rfl rfl (tt_iv (by omega) (by omega)) rfl rfl dX11_truncateText_27 (fun pl_25 hok_26 tr hn tl => ?_)
    replace hf_24 := tr _ _ _ (Or.inr (by decide)) hf_24
    have hf_27 := hn
    replace hm := hm.put tr (by decide)
    replace hfr := hfr.put hk0 tr (by decide)
    replace hfa := hfa.all tl
    refine jj_iload_n C dX11_truncateText_30 rfl ?_
    exact jj_iret C ⟨[], pl_25, rfl, rfl, hok_26, hfr, hfa, (Or.inr ⟨by omega, by omega, hf_24, hf_27, rfl⟩)⟩ dX11_truncateText_31 (jj_le rfl) (jj_le rfl)
