
set_option maxHeartbeats 4000000 in
set_option maxRecDepth 100000 in
theorem te_empty {l : Launch} (hl : l.stackTraces = false) (D : va_G) (cA : Nat → ClassId) (ak : (Nat → Nat) × (Nat → Nat)) {Kd : Nat → Nat} (h0 : Nat) (hk0 : Kd h0 = 1) {pl0 : va_W} (hok : tt_ok tt_tk cA Kd pl0) : jj_M l D cA ak yX0_empty (.code yX0_empty cX0_empty 2 none) 0 0 0 0 ([] ++ pl0) [.ref h0] (tt_O (fun rx pl1 r => rx = [] ∧ tt_ok tt_tk cA Kd pl1 ∧ tt_fr Kd [(1, 5), (1, 6), (1, 7), (1, 8), (1, 9)] pl0 pl1 ∧ tt_fa Kd [5] pl0 pl1 ∧ ((tt_at pl1 h0 9 (.int 0) ∧ r = none)))) (tt_OX (fun _ _ _ => False)) := by
  refine jj_start hl (by decide) jw_3b60f34034 (jj_le rfl) ?_
  intro p e s m args below meth c9 A hargs hA C hex hmn
  have hfr := tt_fr.refl (K := Kd) (WS := [(1, 5), (1, 6), (1, 7), (1, 8), (1, 9)]) pl0
  have hfa := tt_fa.refl (K := Kd) (WA := [5]) pl0
  refine jj_aload_n C dX0_empty_0 rfl ?_
  refine jj_iconst (v := 0) C dX0_empty_1 (by decide) ?_
  refine rl_put C hok jk_2 5 (by decide) jw_cd8f4320e7 (t := (0, (-2147483648), 2147483647)) hk0 (by decide) rfl rfl rfl (tt_ia (0 : Int32)) rfl rfl dX0_empty_2 (fun pl_1 hok_2 tr hn tl => ?_)
  have hf_3 := hn
  replace hfr := hfr.put hk0 tr (by decide)
  replace hfa := hfa.all tl
  refine jj_aload_n C dX0_empty_5 rfl ?_
  refine jj_iconst (v := 0) C dX0_empty_6 (by decide) ?_
  refine rl_put C hok_2 jk_2 6 (by decide) jw_cb51088522 (t := (0, (-2147483648), 2147483647)) hk0 (by decide) rfl rfl rfl (tt_ia (0 : Int32)) rfl rfl dX0_empty_7 (fun pl_4 hok_5 tr hn tl => ?_)
  replace hf_3 := tr _ _ _ (Or.inr (by decide)) hf_3
  have hf_6 := hn
  replace hfr := hfr.put hk0 tr (by decide)
  replace hfa := hfa.all tl
  refine jj_aload_n C dX0_empty_10 rfl ?_
  refine jj_iconst (v := 0) C dX0_empty_11 (by decide) ?_
  refine rl_put C hok_5 jk_2 7 (by decide) jw_4839b30b4b (t := (0, 0, 6)) hk0 (by decide) rfl rfl rfl (tt_iv (by decide) (by decide)) rfl rfl dX0_empty_12 (fun pl_7 hok_8 tr hn tl => ?_)
  replace hf_3 := tr _ _ _ (Or.inr (by decide)) hf_3
  replace hf_6 := tr _ _ _ (Or.inr (by decide)) hf_6
  have hf_9 := hn
  replace hfr := hfr.put hk0 tr (by decide)
  replace hfa := hfa.all tl
  refine jj_aload_n C dX0_empty_15 rfl ?_
  refine jj_iconst (v := 0) C dX0_empty_16 (by decide) ?_
  refine rl_put C hok_8 jk_2 8 (by decide) jw_9d0ccd4490 (t := (0, 0, 40)) hk0 (by decide) rfl rfl rfl (tt_iv (by decide) (by decide)) rfl rfl dX0_empty_17 (fun pl_10 hok_11 tr hn tl => ?_)
  replace hf_3 := tr _ _ _ (Or.inr (by decide)) hf_3
  replace hf_6 := tr _ _ _ (Or.inr (by decide)) hf_6
  replace hf_9 := tr _ _ _ (Or.inr (by decide)) hf_9
  have hf_12 := hn
  replace hfr := hfr.put hk0 tr (by decide)
  replace hfa := hfa.all tl
  refine jj_aload_n C dX0_empty_20 rfl ?_
  refine jj_iconst (v := 0) C dX0_empty_21 (by decide) ?_
  refine rl_put C hok_11 jk_2 9 (by decide) jw_a6a6052378 (t := (0, 0, 12)) hk0 (by decide) rfl rfl rfl (tt_iv (by decide) (by decide)) rfl rfl dX0_empty_22 (fun pl_13 hok_14 tr hn tl => ?_)
  replace hf_3 := tr _ _ _ (Or.inr (by decide)) hf_3
  replace hf_6 := tr _ _ _ (Or.inr (by decide)) hf_6
  replace hf_9 := tr _ _ _ (Or.inr (by decide)) hf_9
  replace hf_12 := tr _ _ _ (Or.inr (by decide)) hf_12
  have hf_15 := hn
  replace hfr := hfr.put hk0 tr (by decide)
  replace hfa := hfa.all tl
  refine jj_iconst (v := 0) C dX0_empty_25 (by decide) ?_
  refine jj_istore_n C dX0_empty_26 (by decide) rfl ?_
  have hL_16 : ∀ (N : Nat) (pl : va_W) (k_17 : Nat), True → tt_ok tt_tk cA Kd pl → tt_fr Kd [(1, 5), (1, 6), (1, 7), (1, 8), (1, 9)] pl0 pl → tt_fa Kd [5] pl0 pl → tt_at pl h0 9 (.int 0) → (0 : Int) ≤ (k_17 : Int) → (k_17 : Int) ≤ 6 → (2147483648 - (k_17 : Int) ≤ (N : Int)) → jj_J p l e (jj_rm 0 0 0 0) s m args below meth c9 2 A (vx_MQ below (jj_q D A (tt_O (fun rx pl1 r => rx = [] ∧ tt_ok tt_tk cA Kd pl1 ∧ tt_fr Kd [(1, 5), (1, 6), (1, 7), (1, 8), (1, 9)] pl0 pl1 ∧ tt_fa Kd [5] pl0 pl1 ∧ ((tt_at pl1 h0 9 (.int 0) ∧ r = none))))) (jj_x D A (tt_OX (fun _ _ _ => False))) args s 0 0 A) (jj_X D A ([] ++ pl)) 0 0 27 [(1, .int (nI k_17)), (0, .ref h0)] [] := by
    intro NL_16
    induction NL_16 with
    | zero => intro pl k_17 _ hok hfr hfa hf_18 lk_17 uk_17 hNL_16; exfalso; omega
    | succ NL_16 ihL_16 =>
      intro pl k_17 _ hok hfr hfa hf_18 lk_17 uk_17 hNL_16
      replace ihL_16 := fun pl k_17 h1 => ihL_16 pl k_17 trivial h1
      refine jj_iload_n C dX0_empty_27 rfl ?_
      refine jj_bipush (v := 6) C dX0_empty_28 (by decide) ?_
      refine jj_icmp_ge (tgt := 46) C dX0_empty_30 (by decide) (fun c_19 => ?_) (fun c_19 => ?_)
      · have z_c_19 := jc_le (a := 6) (b := ((k_17 : Nat) : Int)) c_19 (by decide) (rl_ti (by omega))
        exact jj_vret C ⟨[], pl, rfl, rfl, hok, hfr, hfa, ⟨hf_18, rfl⟩⟩ dX0_empty_46 (jj_le rfl) (jj_le rfl)
      · have z_c_19 := jc_nle (a := 6) (b := ((k_17 : Nat) : Int)) c_19 (by decide) (rl_ti (by omega))
        refine jj_aload_n C dX0_empty_33 rfl ?_
        refine tt_get C hok jk_2 10 (by decide) jw_10b3e82d95 (t := (2, 5, 0)) hk0 (by decide) rfl rfl dX0_empty_34 (fun v_20 hv_20 hf_21 => ?_)
        obtain ⟨a_22, rfl, ka_22⟩ := tt_vr hv_20
        refine jj_iload_n C dX0_empty_37 rfl ?_
        refine jj_lconst (v := 0) C dX0_empty_38 (by decide) ?_
        refine rl_last C hok (t := (1, (-9223372036854775808), 9223372036854775807)) ka_22 (by decide) rfl (k := k_17) (vp_in_nI (by omega) (by decide)) (tt_ja _) (nI_clamp (by omega)) dX0_empty_39 (fun pl_23 hok_24 tr tl tw => ?_)
        replace hf_18 := tr _ _ _ hf_18
        replace hf_21 := tr _ _ _ hf_21
        replace hfr := hfr.arr tr
        replace hfa := hfa.wr ka_22 tl (by decide)
        refine jj_iinc (v := nI (1 + k_17)) C dX0_empty_40 rfl (rl_addR (kn := 1) (by decide) (by omega)) (by decide) rfl ?_
        refine jj_goto (tgt := 27) C dX0_empty_43 (by decide) ?_
        exact ihL_16 pl_23 (1 + k_17) hok_24 hfr hfa hf_18 (by first | omega | decide | exact tt_lo _ | exact tt_hi _) (by first | omega | decide | exact tt_lo _ | exact tt_hi _) (by first | omega | decide | exact tt_lo _ | exact tt_hi _)
  exact hL_16 _ pl_13 0 trivial hok_14 hfr hfa hf_15 (by first | omega | decide | exact tt_lo _ | exact tt_hi _) (by first | omega | decide | exact tt_lo _ | exact tt_hi _) (Int.self_le_toNat _)

set_option maxHeartbeats 4000000 in
set_option maxRecDepth 100000 in
theorem te_readAll {l : Launch} (hl : l.stackTraces = false) (D : va_G) (cA : Nat → ClassId) (ak : (Nat → Nat) × (Nat → Nat)) {Kd : Nat → Nat} (h0 tk a9 bk : Nat) (n2 : Nat) (u : Nat → Int32) (c : Nat → Int) (hk0 : Kd h0 = 17) (hkt : Kd tk = 10) (hk9 : Kd a9 = 11) (hkb : Kd bk = 1) (l2 : n2 ≤ 400) (hc : ∀ k : Nat, k < n2 → c k = (u k).toInt) {pl0 : va_W} (hok : tt_ok tt_tk cA Kd pl0) (hs0 : tt_at pl0 h0 0 (.ref tk)) (hx0 : tt_at pl0 tk 0 (.ref a9)) (hx2 : tt_at pl0 tk 2 (.int (nI n2))) (hx3 : tt_at pl0 tk 3 (.int 0)) (hs1 : tt_at pl0 h0 1 (.ref bk)) (hu : tt_ic pl0 a9 u) : jj_M l D cA ak yX3_readAll (.code yX3_readAll cX3_readAll 1 (some .boolean)) 7 148 0 0 ([] ++ pl0) [.ref h0] (tt_O (fun rx pl1 r => rx = [] ∧ tt_ok tt_tk cA Kd pl1 ∧ tt_fr Kd [(1, 0), (1, 1), (1, 2), (1, 3), (1, 4), (1, 5), (1, 6), (1, 7), (1, 8), (1, 9), (4, 0), (4, 1), (4, 2), (4, 3), (4, 4), (10, 3), (10, 4), (10, 5), (10, 6), (17, 2)] pl0 pl1 ∧ tt_fa Kd [5] pl0 pl1 ∧ ((∃ k s : Nat, k ≠ 0 ∧ tt_at pl1 tk 4 (.int (nI s)) ∧ tt_at pl1 h0 2 (.int (nI k)) ∧ ps_all c n2 (k, s, 0) ∧ r = some (.int 0)) ∨ (∃ j : Nat, j ≤ 12 ∧ tt_at pl1 bk 9 (.int (nI j)) ∧ ps_all c n2 (0, 0, j) ∧ r = some (.int 1))))) (tt_OX (fun _ _ _ => False)) := by
  refine jj_start hl (by decide) jw_48ef172467 (jj_le rfl) ?_
  intro p e s m args below meth c9 A hargs hA C hex hmn
  have hfr := tt_fr.refl (K := Kd) (WS := [(1, 0), (1, 1), (1, 2), (1, 3), (1, 4), (1, 5), (1, 6), (1, 7), (1, 8), (1, 9), (4, 0), (4, 1), (4, 2), (4, 3), (4, 4), (10, 3), (10, 4), (10, 5), (10, 6), (17, 2)]) pl0
  have hfa := tt_fa.refl (K := Kd) (WA := [5]) pl0
  refine jj_aload_n C dX3_readAll_0 rfl ?_
  refine tt_getF C hok jk_4 1 (by decide) jw_bdf52ddf93 (t := (2, 1, 0)) hk0 (by decide) rfl rfl hs1 dX3_readAll_1 ?_
  obtain ⟨qc, gs, hqc⟩ := tt_recv (cx := []) hok hkb (by decide) rfl
  refine tt_callV (rest := []) C (te_empty hl D cA ak bk hkb hok) [] [] rfl rfl (by decide) (by decide) (by decide) qc hqc rfl rfl jw_70774646a3 jw_1f85beb0ee jw_766e918565 jw_7d25d4fd32 jw_3b60f34034 jn_X0_empty rfl (jj_le rfl) (jj_le rfl) (jj_le rfl) (jj_le rfl) (jj_le rfl) dX3_readAll_4 rfl (fun _ _ _ hX => hX.elim) (fun rx pl_1 r O_5 => ?_)
  obtain ⟨rfl, hok_2, hr_3, ha_4, hR_6⟩ := O_5
  replace hs0 := hr_3.at hk0 (by decide) (by decide) hs0
  replace hx0 := hr_3.at hkt (by decide) (by decide) hx0
  replace hx2 := hr_3.at hkt (by decide) (by decide) hx2
  replace hx3 := hr_3.at hkt (by decide) (by decide) hx3
  replace hs1 := hr_3.at hk0 (by decide) (by decide) hs1
  replace hu := ha_4.at hk9 (by decide) (by decide) hu
  replace hfr := hfr.trans (hr_3.sub (by decide))
  replace hfa := hfa.trans (ha_4.sub (by decide))
  obtain ⟨hf_7, rfl⟩ := hR_6
  refine jj_aload_n C dX3_readAll_7 rfl ?_
  obtain ⟨qc, gs, hqc⟩ := tt_recv (cx := []) hok_2 hk0 (by decide) rfl
  refine tt_callV (rest := []) C (te_readFund hl D cA ak h0 tk a9 bk n2 0 u c hk0 hkt hk9 hkb (by omega) (by omega) hc hok_2 hs0 hx0 hx2 hx3 hs1 hu) [] [] rfl rfl (by decide) (by decide) (by decide) qc hqc rfl rfl jw_326a050c34 jw_0ff5f51df1 jw_d507058dac jw_9d546d0b6f jw_1a1c8b71c4 jn_X3_readFund rfl (jj_le rfl) (jj_le rfl) (jj_le rfl) (jj_le rfl) (jj_le rfl) dX3_readAll_8 rfl (fun _ _ _ hX => hX.elim) (fun rx pl_8 r O_12 => ?_)
  obtain ⟨rfl, hok_9, hr_10, ha_11, hR_13⟩ := O_12
  replace hs0 := hr_10.at hk0 (by decide) (by decide) hs0
  replace hx0 := hr_10.at hkt (by decide) (by decide) hx0
  replace hx2 := hr_10.at hkt (by decide) (by decide) hx2
  replace hs1 := hr_10.at hk0 (by decide) (by decide) hs1
  replace hf_7 := hr_10.at hkb (by decide) (by decide) hf_7
  replace hu := ha_11.at hk9 (by decide) (by decide) hu
  replace hfr := hfr.trans (hr_10.sub (by decide))
  replace hfa := hfa.trans (ha_11.sub (by decide))
  rcases hR_13 with ⟨n_15, n_14, hn_19, hf_16, hf_17, hq_18, rfl⟩ | ⟨n_20, hle_23, hf_21, hq_22, rfl⟩
  · refine jj_if_eqT (tgt := 32) C dX3_readAll_11 (by decide) (by decide) ?_
    refine jj_iconst (v := 0) C dX3_readAll_32 (by decide) ?_
    exact jj_zret C rfl ⟨[], pl_8, rfl, rfl, hok_9, hfr, hfa, (Or.inl ⟨n_15, n_14, hn_19, hf_16, hf_17, ⟨_, 0, 1, ps_head.of hq_18 (ps_in.st hn_19), ps_subs.er hn_19⟩, rfl⟩)⟩ dX3_readAll_33 (jj_le rfl) (jj_le rfl)
  · refine jj_if_eqF (tgt := 32) C dX3_readAll_11 (by decide) (by decide) ?_
    refine jj_aload_n C dX3_readAll_14 rfl ?_
    obtain ⟨qc, gs, hqc⟩ := tt_recv (cx := []) hok_9 hk0 (by decide) rfl
    refine tt_callV (rest := []) C (te_readInvestors hl D cA ak h0 tk a9 bk n2 n_20 u c hk0 hkt hk9 hkb (by omega) (by omega) hc hok_9 hs0 hx0 hx2 hf_21 hs1 hu) [] [] rfl rfl (by decide) (by decide) (by decide) qc hqc rfl rfl jw_297b72aa01 jw_aa69f86581 jw_7bc51c19f8 jw_9d546d0b6f jw_a68ab282d7 jn_X3_readInvestors rfl (jj_le rfl) (jj_le rfl) (jj_le rfl) (jj_le rfl) (jj_le rfl) dX3_readAll_15 rfl (fun _ _ _ hX => hX.elim) (fun rx pl_24 r O_28 => ?_)
    obtain ⟨rfl, hok_25, hr_26, ha_27, hR_29⟩ := O_28
    replace hs0 := hr_26.at hk0 (by decide) (by decide) hs0
    replace hx0 := hr_26.at hkt (by decide) (by decide) hx0
    replace hx2 := hr_26.at hkt (by decide) (by decide) hx2
    replace hs1 := hr_26.at hk0 (by decide) (by decide) hs1
    replace hf_7 := hr_26.at hkb (by decide) (by decide) hf_7
    replace hu := ha_27.at hk9 (by decide) (by decide) hu
    replace hfr := hfr.trans (hr_26.sub (by decide))
    replace hfa := hfa.trans (ha_27.sub (by decide))
    rcases hR_29 with ⟨n_31, n_30, hn_35, hf_32, hf_33, hq_34, rfl⟩ | ⟨n_36, hle_39, hf_37, ⟨x_40, hf_41, lx_40, ux_40, hq_38⟩, rfl⟩
    · refine jj_if_eqT (tgt := 32) C dX3_readAll_18 (by decide) (by decide) ?_
      refine jj_iconst (v := 0) C dX3_readAll_32 (by decide) ?_
      exact jj_zret C rfl ⟨[], pl_24, rfl, rfl, hok_25, hfr, hfa, (Or.inl ⟨n_31, n_30, hn_35, hf_32, hf_33, ⟨_, hq_34.choose, 1, ps_head.of hq_22 hq_34.choose_spec, ps_subs.er hn_35⟩, rfl⟩)⟩ dX3_readAll_33 (jj_le rfl) (jj_le rfl)
    · refine jj_if_eqF (tgt := 32) C dX3_readAll_18 (by decide) (by decide) ?_
      refine jj_aload_n C dX3_readAll_21 rfl ?_
      obtain ⟨qc, gs, hqc⟩ := tt_recv (cx := []) hok_25 hk0 (by decide) rfl
      refine tt_callV (rest := []) C (te_readSubscriptions hl D cA ak h0 tk a9 bk n2 n_36 u c x_40 hk0 hkt hk9 hkb (by omega) (by omega) hc (by omega) (by omega) hok_25 hs0 hx0 hx2 hf_37 hs1 hf_41 hf_7 hu) [] [] rfl rfl (by decide) (by decide) (by decide) qc hqc rfl rfl jw_0d491b8015 jw_da6629b5a3 jw_c7b5efd6ac jw_9d546d0b6f jw_66b02ab29d jn_X3_readSubscriptions rfl (jj_le rfl) (jj_le rfl) (jj_le rfl) (jj_le rfl) (jj_le rfl) dX3_readAll_22 rfl (fun _ _ _ hX => hX.elim) (fun rx pl_42 r O_46 => ?_)
      obtain ⟨rfl, hok_43, hr_44, ha_45, hR_47⟩ := O_46
      replace hs0 := hr_44.at hk0 (by decide) (by decide) hs0
      replace hx0 := hr_44.at hkt (by decide) (by decide) hx0
      replace hx2 := hr_44.at hkt (by decide) (by decide) hx2
      replace hs1 := hr_44.at hk0 (by decide) (by decide) hs1
      replace hf_41 := hr_44.at hkb (by decide) (by decide) hf_41
      replace hu := ha_45.at hk9 (by decide) (by decide) hu
      replace hfr := hfr.trans (hr_44.sub (by decide))
      replace hfa := hfa.trans (ha_45.sub (by decide))
      rcases hR_47 with ⟨n_49, n_48, n_50, hn_54, hf_51, hf_52, hq_53, rfl⟩ | ⟨n_55, n_56, hle_59, hf_57, hq_58, rfl⟩
      · refine jj_if_eqT (tgt := 32) C dX3_readAll_25 (by decide) (by decide) ?_
        refine jj_iconst (v := 0) C dX3_readAll_32 (by decide) ?_
        exact jj_zret C rfl ⟨[], pl_42, rfl, rfl, hok_43, hfr, hfa, (Or.inl ⟨n_49, n_48, hn_54, hf_51, hf_52, ⟨_, _, _, ps_head.of hq_22 hq_38, hq_53⟩, rfl⟩)⟩ dX3_readAll_33 (jj_le rfl) (jj_le rfl)
      · refine jj_if_eqF (tgt := 32) C dX3_readAll_25 (by decide) (by decide) ?_
        refine jj_iconst (v := 1) C dX3_readAll_28 (by decide) ?_
        refine jj_goto (tgt := 33) C dX3_readAll_29 (by decide) ?_
        exact jj_zret C rfl ⟨[], pl_42, rfl, rfl, hok_43, hfr, hfa, (Or.inr ⟨n_55, (by omega), hf_57, ⟨_, _, _, ps_head.of hq_22 hq_38, hq_58⟩, rfl⟩)⟩ dX3_readAll_33 (jj_le rfl) (jj_le rfl)

set_option maxHeartbeats 4000000 in
set_option maxRecDepth 100000 in
theorem te_takeBuffer {l : Launch} (hl : l.stackTraces = false) (D : va_G) (cA : Nat → ClassId) (ak : (Nat → Nat) × (Nat → Nat)) {Kd : Nat → Nat} (h0 : Nat) (n1 : Nat) (hk0 : Kd h0 = 10) (l1 : n1 ≤ 400) {pl0 : va_W} (hok : tt_ok tt_tk cA Kd pl0) (hs1 : tt_at pl0 h0 1 (.int (nI n1))) : jj_M l D cA ak yX9_takeBuffer (.code yX9_takeBuffer cX9_takeBuffer 1 none) 0 0 0 0 ([] ++ pl0) [.ref h0] (tt_O (fun rx pl1 r => rx = [] ∧ tt_ok tt_tk cA Kd pl1 ∧ tt_fr Kd [(10, 1), (10, 2), (10, 3), (10, 4), (10, 5)] pl0 pl1 ∧ tt_fa Kd [] pl0 pl1 ∧ ((tt_at pl1 h0 1 (.int 0) ∧ tt_at pl1 h0 2 (.int (nI n1)) ∧ tt_at pl1 h0 3 (.int 0) ∧ r = none)))) (tt_OX (fun _ _ _ => False)) := by
  refine jj_start hl (by decide) jw_e4fa8c07c9 (jj_le rfl) ?_
  intro p e s m args below meth c9 A hargs hA C hex hmn
  have hfr := tt_fr.refl (K := Kd) (WS := [(10, 1), (10, 2), (10, 3), (10, 4), (10, 5)]) pl0
  have hfa := tt_fa.refl (K := Kd) (WA := []) pl0
  refine jj_aload_n C dX9_takeBuffer_0 rfl ?_
  refine jj_aload_n C dX9_takeBuffer_1 rfl ?_
  refine tt_getF C hok jk_10 1 (by decide) jw_133bcadae3 (t := (0, 0, 400)) hk0 (by decide) rfl rfl hs1 dX9_takeBuffer_2 ?_
  refine rl_put C hok jk_10 2 (by decide) jw_bc3c1a7c51 (t := (0, 0, 400)) hk0 (by decide) rfl rfl rfl (rl_iv (by omega) (by omega)) rfl rfl dX9_takeBuffer_5 (fun pl_1 hok_2 tr hn tl => ?_)
  replace hs1 := tr _ _ _ (Or.inr (by decide)) hs1
  have hf_3 := hn
  replace hfr := hfr.put hk0 tr (by decide)
  replace hfa := hfa.all tl
  refine jj_aload_n C dX9_takeBuffer_8 rfl ?_
  refine jj_iconst (v := 0) C dX9_takeBuffer_9 (by decide) ?_
  refine rl_put C hok_2 jk_10 1 (by decide) jw_133bcadae3 (t := (0, 0, 400)) hk0 (by decide) rfl rfl rfl (tt_iv (by decide) (by decide)) rfl rfl dX9_takeBuffer_10 (fun pl_4 hok_5 tr hn tl => ?_)
  replace hf_3 := tr _ _ _ (Or.inr (by decide)) hf_3
  have hf_6 := hn
  replace hfr := hfr.put hk0 tr (by decide)
  replace hfa := hfa.all tl
  refine jj_aload_n C dX9_takeBuffer_13 rfl ?_
  refine jj_iconst (v := 0) C dX9_takeBuffer_14 (by decide) ?_
  refine rl_put C hok_5 jk_10 4 (by decide) jw_66bda6962a (t := (0, 0, 400)) hk0 (by decide) rfl rfl rfl (tt_iv (by decide) (by decide)) rfl rfl dX9_takeBuffer_15 (fun pl_7 hok_8 tr hn tl => ?_)
  replace hf_3 := tr _ _ _ (Or.inr (by decide)) hf_3
  replace hf_6 := tr _ _ _ (Or.inr (by decide)) hf_6
  have hf_9 := hn
  replace hfr := hfr.put hk0 tr (by decide)
  replace hfa := hfa.all tl
  refine jj_aload_n C dX9_takeBuffer_18 rfl ?_
  refine jj_iconst (v := 0) C dX9_takeBuffer_19 (by decide) ?_
  refine rl_put C hok_8 jk_10 3 (by decide) jw_f99bd0ca2b (t := (0, 0, 400)) hk0 (by decide) rfl rfl rfl (tt_iv (by decide) (by decide)) rfl rfl dX9_takeBuffer_20 (fun pl_10 hok_11 tr hn tl => ?_)
  replace hf_3 := tr _ _ _ (Or.inr (by decide)) hf_3
  replace hf_6 := tr _ _ _ (Or.inr (by decide)) hf_6
  replace hf_9 := tr _ _ _ (Or.inr (by decide)) hf_9
  have hf_12 := hn
  replace hfr := hfr.put hk0 tr (by decide)
  replace hfa := hfa.all tl
  refine jj_aload_n C dX9_takeBuffer_23 rfl ?_
  refine jj_iconst (v := 0) C dX9_takeBuffer_24 (by decide) ?_
  refine rl_put C hok_11 jk_10 5 (by decide) jw_bde5c0d1a5 (t := (0, (-2147483648), 2147483647)) hk0 (by decide) rfl rfl rfl (tt_ia (0 : Int32)) rfl rfl dX9_takeBuffer_25 (fun pl_13 hok_14 tr hn tl => ?_)
  replace hf_3 := tr _ _ _ (Or.inr (by decide)) hf_3
  replace hf_6 := tr _ _ _ (Or.inr (by decide)) hf_6
  replace hf_9 := tr _ _ _ (Or.inr (by decide)) hf_9
  replace hf_12 := tr _ _ _ (Or.inr (by decide)) hf_12
  have hf_15 := hn
  replace hfr := hfr.put hk0 tr (by decide)
  replace hfa := hfa.all tl
  exact jj_vret C ⟨[], pl_13, rfl, rfl, hok_14, hfr, hfa, ⟨hf_6, hf_3, hf_12, rfl⟩⟩ dX9_takeBuffer_28 (jj_le rfl) (jj_le rfl)

set_option maxHeartbeats 4000000 in
set_option maxRecDepth 100000 in
theorem te_parseFund {l : Launch} (hl : l.stackTraces = false) (D : va_G) (cA : Nat → ClassId) (ak : (Nat → Nat) × (Nat → Nat)) {Kd : Nat → Nat} (h0 tk a9 : Nat) (n1 : Nat) (u : Nat → Int32) (c : Nat → Int) (hk0 : Kd h0 = 15) (hkt : Kd tk = 10) (hk9 : Kd a9 = 11) (l1 : n1 ≤ 400) (hc : ∀ k : Nat, k < n1 → c k = (u k).toInt) {pl0 : va_W} (hok : tt_ok tt_tk cA Kd pl0) (hs0 : tt_at pl0 h0 0 (.ref tk)) (hx0 : tt_at pl0 tk 0 (.ref a9)) (hx1 : tt_at pl0 tk 1 (.int (nI n1))) (hu : tt_ic pl0 a9 u) : jj_M l D cA ak yX10_parseFund (.code yX10_parseFund cX10_parseFund 3 (some .int)) 8 168 1 3 ([] ++ pl0) [.ref h0] (tt_O (fun rx pl1 r => ∃ K1 : Nat → Nat, tt_ex Kd K1 ∧ rx = [] ∧ tt_ok tt_tk cA K1 pl1 ∧ tt_fr Kd [(1, 0), (1, 1), (1, 2), (1, 3), (1, 4), (1, 5), (1, 6), (1, 7), (1, 8), (1, 9), (2, 0), (2, 1), (2, 2), (2, 3), (2, 4), (3, 0), (3, 1), (3, 2), (3, 3), (3, 4), (3, 5), (4, 0), (4, 1), (4, 2), (4, 3), (4, 4), (9, 1), (9, 2), (9, 3), (9, 4), (9, 5), (10, 1), (10, 2), (10, 3), (10, 4), (10, 5), (10, 6), (15, 1), (15, 2), (15, 8), (17, 2)] pl0 pl1 ∧ tt_fa Kd [5] pl0 pl1 ∧ ((∃ k s : Nat, k ≠ 0 ∧ ps_all c n1 (k, s, 0) ∧ tt_at pl1 h0 1 (.int (nI k)) ∧ tt_at pl1 h0 2 (.int (nI s)) ∧ tt_at pl1 tk 1 (.int 0) ∧ r = some (.int (-1))) ∨ (∃ j : Nat, ps_all c n1 (0, 0, j) ∧ tt_at pl1 h0 1 (.int 0) ∧ tt_at pl1 h0 2 (.int (-1)) ∧ tt_at pl1 tk 1 (.int 0) ∧ r = some (.int (nI j)))))) (tt_OX (fun _ _ _ => False)) := by
  refine jj_start hl (by decide) jw_1f123082b6 (jj_le rfl) ?_
  intro p e s m args below meth c9 A hargs hA C hex hmn
  have hfr := tt_fr.refl (K := Kd) (WS := [(1, 0), (1, 1), (1, 2), (1, 3), (1, 4), (1, 5), (1, 6), (1, 7), (1, 8), (1, 9), (2, 0), (2, 1), (2, 2), (2, 3), (2, 4), (3, 0), (3, 1), (3, 2), (3, 3), (3, 4), (3, 5), (4, 0), (4, 1), (4, 2), (4, 3), (4, 4), (9, 1), (9, 2), (9, 3), (9, 4), (9, 5), (10, 1), (10, 2), (10, 3), (10, 4), (10, 5), (10, 6), (15, 1), (15, 2), (15, 8), (17, 2)]) pl0
  have hfa := tt_fa.refl (K := Kd) (WA := [5]) pl0
  refine jj_aload_n C dX10_parseFund_0 rfl ?_
  refine tt_getF C hok jk_11 0 (by decide) jw_4836d4133c (t := (2, 10, 0)) hk0 (by decide) rfl rfl hs0 dX10_parseFund_1 ?_
  obtain ⟨qc, gs, hqc⟩ := tt_recv (cx := []) hok hkt (by decide) rfl
  refine tt_callV (rest := []) C (te_takeBuffer hl D cA ak tk n1 hkt (by omega) hok hx1) [] [] rfl rfl (by decide) (by decide) (by decide) qc hqc rfl rfl jw_5efda3794a jw_30b807515b jw_13e4836c11 jw_a9e7b602dc jw_e4fa8c07c9 jn_X9_takeBuffer rfl (jj_le rfl) (jj_le rfl) (jj_le rfl) (jj_le rfl) (jj_le rfl) dX10_parseFund_4 rfl (fun _ _ _ hX => hX.elim) (fun rx pl_1 r O_5 => ?_)
  obtain ⟨rfl, hok_2, hr_3, ha_4, hR_6⟩ := O_5
  replace hs0 := hr_3.at hk0 (by decide) (by decide) hs0
  replace hx0 := hr_3.at hkt (by decide) (by decide) hx0
  replace hu := ha_4.at hk9 (by decide) (by decide) hu
  replace hfr := hfr.trans (hr_3.sub (by decide))
  replace hfa := hfa.trans (ha_4.sub (by decide))
  obtain ⟨hf_7, hf_8, hf_9, rfl⟩ := hR_6
  refine jj_new (wt := []) C jk_4 jw_0cf788dab0 jw_a522655315 jw_9d546d0b6f jd_4 (jj_le rfl) (jj_le rfl) dX10_parseFund_7 (fun q_10 => ?_)
  refine tt_swp rfl ?_
  refine jj_dup C dX10_parseFund_10 rfl ?_
  refine jj_aload_n C dX10_parseFund_11 rfl ?_
  refine tt_getF C hok_2 jk_11 0 (by decide) jw_4836d4133c (t := (2, 10, 0)) hk0 (by decide) rfl rfl hs0 dX10_parseFund_12 ?_
  refine jj_aload_n C dX10_parseFund_15 rfl ?_
  refine tt_get C hok_2 jk_11 4 (by decide) jw_a0e4d790fa (t := (2, 1, 0)) hk0 (by decide) rfl rfl dX10_parseFund_16 (fun v_11 hv_11 hf_12 => ?_)
  obtain ⟨a_13, rfl, ka_13⟩ := tt_vr hv_11
  refine tt_callI0 (rest := [.ref q_10]) C (ct_X3_init_1 hl D cA ak q_10 tk a_13) [0] [] rfl rfl (by decide) (by decide) (by decide) jw_d39ed87e8d jw_a345980fa4 jw_9d546d0b6f jw_815a5635de rfl jn_X3_init rfl (jj_le rfl) (jj_le rfl) (jj_le rfl) (jj_le rfl) (jj_le rfl) dX10_parseFund_19 rfl (fun w1 r hO => ?_)
  obtain ⟨rfl, rfl⟩ := hO
  refine tt_apd rfl ?_
  refine tl_prom (k := 17) [] rfl hok_2 (fun K1 hz _ => tt_Eo (fts := [(2, 10, 0), (2, 1, 0), (0, (-2147483648), 2147483647)]) rfl ⟨tt_rv (hz.kd hkt (by decide)), tt_rv (hz.kd ka_13 (by decide)), (tt_ia _), trivial⟩) (fun K_14 pl_15 hok_16 hx_18 kq_10 tr tr2 tl => ?_)
  replace hs0 := tr _ _ _ hs0
  replace hx0 := tr _ _ _ hx0
  replace hf_7 := tr _ _ _ hf_7
  replace hf_8 := tr _ _ _ hf_8
  replace hf_9 := tr _ _ _ hf_9
  replace hf_12 := tr _ _ _ hf_12
  replace hfr := hfr.arr tr
  replace hfa := hfa.all tl
  replace hu := tl _ _ hu
  have hk0 := hx_18.kd hk0 (by decide)
  have hkt := hx_18.kd hkt (by decide)
  have hk9 := hx_18.kd hk9 (by decide)
  have ka_13 := hx_18.kd ka_13 (by decide)
  have hx_17 := hx_18
  have hf_19 := tr2 _ 0 _ _ rfl rfl
  have hf_20 := tr2 _ 1 _ _ rfl rfl
  have hf_21 := tr2 _ 2 _ _ rfl rfl
  refine jj_astore_n C dX10_parseFund_22 (by decide) rfl ?_
  refine jj_aload_n C dX10_parseFund_23 rfl ?_
  obtain ⟨qc, gs, hqc⟩ := tt_recv (cx := []) hok_16 kq_10 (by decide) rfl
  refine tt_callV (rest := []) C (te_readAll hl D cA ak q_10 tk a9 a_13 n1 u c kq_10 hkt hk9 ka_13 (by omega) hc hok_16 hf_19 hx0 hf_8 hf_9 hf_20 hu) [] [] rfl rfl (by decide) (by decide) (by decide) qc hqc rfl rfl jw_3aa8a9688c jw_7a91a56686 jw_1f44e8e425 jw_9d546d0b6f jw_48ef172467 jn_X3_readAll rfl (jj_le rfl) (jj_le rfl) (jj_le rfl) (jj_le rfl) (jj_le rfl) dX10_parseFund_24 rfl (fun _ _ _ hX => hX.elim) (fun rx pl_22 r O_26 => ?_)
  obtain ⟨rfl, hok_23, hr_24, ha_25, hR_27⟩ := O_26
  replace hs0 := hr_24.at hk0 (by decide) (by decide) hs0
  replace hx0 := hr_24.at hkt (by decide) (by decide) hx0
  replace hf_7 := hr_24.at hkt (by decide) (by decide) hf_7
  replace hf_8 := hr_24.at hkt (by decide) (by decide) hf_8
  replace hf_12 := hr_24.at hk0 (by decide) (by decide) hf_12
  replace hf_19 := hr_24.at kq_10 (by decide) (by decide) hf_19
  replace hf_20 := hr_24.at kq_10 (by decide) (by decide) hf_20
  replace hu := ha_25.at hk9 (by decide) (by decide) hu
  replace hfr := hfr.transX hx_17 (hr_24.sub (by decide))
  replace hfa := hfa.transX hx_17 (ha_25.sub (by decide))
  rcases hR_27 with ⟨n_29, n_28, hn_33, hf_30, hf_31, hq_32, rfl⟩ | ⟨n_34, hle_37, hf_35, hq_36, rfl⟩
  · refine jj_if_neF (tgt := 51) C dX10_parseFund_27 (by decide) (by decide) ?_
    refine jj_aload_n C dX10_parseFund_30 rfl ?_
    refine jj_aload_n C dX10_parseFund_31 rfl ?_
    refine tt_getF C hok_23 jk_4 2 (by decide) jw_14f27d9163 (t := (0, (-2147483648), 2147483647)) kq_10 (by decide) rfl rfl hf_31 dX10_parseFund_32 ?_
    refine rl_put C hok_23 jk_11 1 (by decide) jw_1eeb46a090 (t := (0, (-2147483648), 2147483647)) hk0 (by decide) rfl rfl rfl (tt_ia (nI n_29)) rfl rfl dX10_parseFund_35 (fun pl_38 hok_39 tr hn tl => ?_)
    replace hs0 := tr _ _ _ (Or.inr (by decide)) hs0
    replace hx0 := tr _ _ _ (Or.inl (tt_ne hkt hk0 (by decide))) hx0
    replace hf_7 := tr _ _ _ (Or.inl (tt_ne hkt hk0 (by decide))) hf_7
    replace hf_8 := tr _ _ _ (Or.inl (tt_ne hkt hk0 (by decide))) hf_8
    replace hf_12 := tr _ _ _ (Or.inr (by decide)) hf_12
    replace hf_19 := tr _ _ _ (Or.inl (tt_ne kq_10 hk0 (by decide))) hf_19
    replace hf_20 := tr _ _ _ (Or.inl (tt_ne kq_10 hk0 (by decide))) hf_20
    replace hf_30 := tr _ _ _ (Or.inl (tt_ne hkt hk0 (by decide))) hf_30
    replace hf_31 := tr _ _ _ (Or.inl (tt_ne kq_10 hk0 (by decide))) hf_31
    have hf_40 := hn
    replace hfr := hfr.putX hx_17 hk0 tr (by decide)
    replace hu := tl _ _ hu
    replace hfa := hfa.all tl
    refine jj_aload_n C dX10_parseFund_38 rfl ?_
    refine jj_aload_n C dX10_parseFund_39 rfl ?_
    refine tt_getF C hok_39 jk_11 0 (by decide) jw_4836d4133c (t := (2, 10, 0)) hk0 (by decide) rfl rfl hs0 dX10_parseFund_40 ?_
    refine tt_getF C hok_39 jk_10 4 (by decide) jw_26ab74fd32 (t := (0, 0, 400)) hkt (by decide) rfl rfl hf_30 dX10_parseFund_43 ?_
    refine rl_put C hok_39 jk_11 2 (by decide) jw_e0c9868424 (t := (0, (-2147483648), 2147483647)) hk0 (by decide) rfl rfl rfl (tt_ia (nI n_28)) rfl rfl dX10_parseFund_46 (fun pl_41 hok_42 tr hn tl => ?_)
    replace hs0 := tr _ _ _ (Or.inr (by decide)) hs0
    replace hx0 := tr _ _ _ (Or.inl (tt_ne hkt hk0 (by decide))) hx0
    replace hf_7 := tr _ _ _ (Or.inl (tt_ne hkt hk0 (by decide))) hf_7
    replace hf_8 := tr _ _ _ (Or.inl (tt_ne hkt hk0 (by decide))) hf_8
    replace hf_12 := tr _ _ _ (Or.inr (by decide)) hf_12
    replace hf_19 := tr _ _ _ (Or.inl (tt_ne kq_10 hk0 (by decide))) hf_19
    replace hf_20 := tr _ _ _ (Or.inl (tt_ne kq_10 hk0 (by decide))) hf_20
    replace hf_30 := tr _ _ _ (Or.inl (tt_ne hkt hk0 (by decide))) hf_30
    replace hf_31 := tr _ _ _ (Or.inl (tt_ne kq_10 hk0 (by decide))) hf_31
    replace hf_40 := tr _ _ _ (Or.inr (by decide)) hf_40
    have hf_43 := hn
    replace hfr := hfr.putX hx_17 hk0 tr (by decide)
    replace hu := tl _ _ hu
    replace hfa := hfa.all tl
    refine jj_iconst (v := (-1)) C dX10_parseFund_49 (by decide) ?_
    exact jj_iret C ⟨[], pl_41, rfl, K_14, hx_17, rfl, hok_42, hfr, hfa, (Or.inl ⟨n_29, n_28, hn_33, hq_32, hf_40, hf_43, hf_7, rfl⟩)⟩ dX10_parseFund_50 (jj_le rfl) (jj_le rfl)
  · refine jj_if_neT (tgt := 51) C dX10_parseFund_27 (by decide) (by decide) ?_
    refine jj_aload_n C dX10_parseFund_51 rfl ?_
    refine jj_iconst (v := 0) C dX10_parseFund_52 (by decide) ?_
    refine rl_put C hok_23 jk_11 1 (by decide) jw_1eeb46a090 (t := (0, (-2147483648), 2147483647)) hk0 (by decide) rfl rfl rfl (tt_ia (0 : Int32)) rfl rfl dX10_parseFund_53 (fun pl_44 hok_45 tr hn tl => ?_)
    replace hs0 := tr _ _ _ (Or.inr (by decide)) hs0
    replace hx0 := tr _ _ _ (Or.inl (tt_ne hkt hk0 (by decide))) hx0
    replace hf_7 := tr _ _ _ (Or.inl (tt_ne hkt hk0 (by decide))) hf_7
    replace hf_8 := tr _ _ _ (Or.inl (tt_ne hkt hk0 (by decide))) hf_8
    replace hf_12 := tr _ _ _ (Or.inr (by decide)) hf_12
    replace hf_19 := tr _ _ _ (Or.inl (tt_ne kq_10 hk0 (by decide))) hf_19
    replace hf_20 := tr _ _ _ (Or.inl (tt_ne kq_10 hk0 (by decide))) hf_20
    replace hf_35 := tr _ _ _ (Or.inl (tt_ne ka_13 hk0 (by decide))) hf_35
    have hf_46 := hn
    replace hfr := hfr.putX hx_17 hk0 tr (by decide)
    replace hu := tl _ _ hu
    replace hfa := hfa.all tl
    refine jj_aload_n C dX10_parseFund_56 rfl ?_
    refine jj_iconst (v := (-1)) C dX10_parseFund_57 (by decide) ?_
    refine rl_put C hok_45 jk_11 2 (by decide) jw_e0c9868424 (t := (0, (-2147483648), 2147483647)) hk0 (by decide) rfl rfl rfl (tt_ia ((-1) : Int32)) rfl rfl dX10_parseFund_58 (fun pl_47 hok_48 tr hn tl => ?_)
    replace hs0 := tr _ _ _ (Or.inr (by decide)) hs0
    replace hx0 := tr _ _ _ (Or.inl (tt_ne hkt hk0 (by decide))) hx0
    replace hf_7 := tr _ _ _ (Or.inl (tt_ne hkt hk0 (by decide))) hf_7
    replace hf_8 := tr _ _ _ (Or.inl (tt_ne hkt hk0 (by decide))) hf_8
    replace hf_12 := tr _ _ _ (Or.inr (by decide)) hf_12
    replace hf_19 := tr _ _ _ (Or.inl (tt_ne kq_10 hk0 (by decide))) hf_19
    replace hf_20 := tr _ _ _ (Or.inl (tt_ne kq_10 hk0 (by decide))) hf_20
    replace hf_35 := tr _ _ _ (Or.inl (tt_ne ka_13 hk0 (by decide))) hf_35
    replace hf_46 := tr _ _ _ (Or.inr (by decide)) hf_46
    have hf_49 := hn
    replace hfr := hfr.putX hx_17 hk0 tr (by decide)
    replace hu := tl _ _ hu
    replace hfa := hfa.all tl
    refine jj_aload_n C dX10_parseFund_61 rfl ?_
    refine tt_getF C hok_48 jk_11 4 (by decide) jw_a0e4d790fa (t := (2, 1, 0)) hk0 (by decide) rfl rfl hf_12 dX10_parseFund_62 ?_
    refine tt_getF C hok_48 jk_2 9 (by decide) jw_e1b9780688 (t := (0, 0, 12)) ka_13 (by decide) rfl rfl hf_35 dX10_parseFund_65 ?_
    refine jj_istore_n C dX10_parseFund_68 (by decide) rfl ?_
    refine jj_aload_n C dX10_parseFund_69 rfl ?_
    refine tt_get C hok_48 jk_11 5 (by decide) jw_34b8702fe2 (t := (2, 9, 0)) hk0 (by decide) rfl rfl dX10_parseFund_70 (fun v_50 hv_50 hf_51 => ?_)
    obtain ⟨a_52, rfl, ka_52⟩ := tt_vr hv_50
    refine jj_aload_n C dX10_parseFund_73 rfl ?_
    refine tt_getF C hok_48 jk_11 4 (by decide) jw_a0e4d790fa (t := (2, 1, 0)) hk0 (by decide) rfl rfl hf_12 dX10_parseFund_74 ?_
    obtain ⟨qc, gs, hqc⟩ := tt_recv (cx := []) hok_48 ka_52 (by decide) rfl
    refine tt_callV (rest := []) C (tc_X1_holdDealing_1 hl D cA ak a_52 a_13 ka_52 ka_13 hok_48) [] [] rfl rfl (by decide) (by decide) (by decide) qc hqc rfl rfl jw_3c4052a5f5 jw_9492be7750 jw_6c693009b5 jw_944cf9c3ab jw_cb08e29005 jn_X1_holdDealing rfl (jj_le rfl) (jj_le rfl) (jj_le rfl) (jj_le rfl) (jj_le rfl) dX10_parseFund_77 rfl (fun _ _ _ hX => hX.elim) (fun rx pl_53 r O_56 => ?_)
    obtain ⟨rfl, hok_54, hr_55, hfa9, hR_58⟩ := O_56
    replace hs0 := hr_55.at hk0 (by decide) (by decide) hs0
    replace hx0 := hr_55.at hkt (by decide) (by decide) hx0
    replace hf_7 := hr_55.at hkt (by decide) (by decide) hf_7
    replace hf_8 := hr_55.at hkt (by decide) (by decide) hf_8
    replace hf_12 := hr_55.at hk0 (by decide) (by decide) hf_12
    replace hf_19 := hr_55.at kq_10 (by decide) (by decide) hf_19
    replace hf_20 := hr_55.at kq_10 (by decide) (by decide) hf_20
    replace hf_46 := hr_55.at hk0 (by decide) (by decide) hf_46
    replace hf_49 := hr_55.at hk0 (by decide) (by decide) hf_49
    replace hf_51 := hr_55.at hk0 (by decide) (by decide) hf_51
    replace hfr := hfr.transX hx_17 (hr_55.sub (by decide))
    replace hfa := hfa.transX hx_17 (hfa9.sub (by decide))
    replace hu := hfa9.at hk9 (by decide) (by decide) hu
    obtain ⟨x_61, lx_61, ux_61, rfl⟩ := hR_58
    refine jj_pop C dX10_parseFund_80 rfl ?_
    refine jj_aload_n C dX10_parseFund_81 rfl ?_
    refine tt_get C hok_54 jk_11 3 (by decide) jw_f82a97e333 (t := (2, 1, 0)) hk0 (by decide) rfl rfl dX10_parseFund_82 (fun v_62 hv_62 hf_63 => ?_)
    obtain ⟨a_64, rfl, ka_64⟩ := tt_vr hv_62
    refine jj_aload_n C dX10_parseFund_85 rfl ?_
    refine tt_getF C hok_54 jk_11 4 (by decide) jw_a0e4d790fa (t := (2, 1, 0)) hk0 (by decide) rfl rfl hf_12 dX10_parseFund_86 ?_
    obtain ⟨qc, gs, hqc⟩ := tt_recv (cx := []) hok_54 ka_64 (by decide) rfl
    refine tt_callV (rest := []) C (tc_X0_copyFrom_1 hl D cA ak a_64 a_13 ka_64 ka_13 hok_54) [] [] rfl rfl (by decide) (by decide) (by decide) qc hqc rfl rfl jw_4d0cb05860 jw_8aa1bdb2cc jw_ac98d74d03 jw_7d25d4fd32 jw_58241735d3 jn_X0_copyFrom rfl (jj_le rfl) (jj_le rfl) (jj_le rfl) (jj_le rfl) (jj_le rfl) dX10_parseFund_89 rfl (fun _ _ _ hX => hX.elim) (fun rx pl_65 r O_68 => ?_)
    obtain ⟨rfl, hok_66, hr_67, hfa9, hR_70⟩ := O_68
    replace hs0 := hr_67.at hk0 (by decide) (by decide) hs0
    replace hx0 := hr_67.at hkt (by decide) (by decide) hx0
    replace hf_7 := hr_67.at hkt (by decide) (by decide) hf_7
    replace hf_8 := hr_67.at hkt (by decide) (by decide) hf_8
    replace hf_12 := hr_67.at hk0 (by decide) (by decide) hf_12
    replace hf_19 := hr_67.at kq_10 (by decide) (by decide) hf_19
    replace hf_20 := hr_67.at kq_10 (by decide) (by decide) hf_20
    replace hf_46 := hr_67.at hk0 (by decide) (by decide) hf_46
    replace hf_49 := hr_67.at hk0 (by decide) (by decide) hf_49
    replace hf_51 := hr_67.at hk0 (by decide) (by decide) hf_51
    replace hf_63 := hr_67.at hk0 (by decide) (by decide) hf_63
    replace hfr := hfr.transX hx_17 (hr_67.sub (by decide))
    replace hfa := hfa.transX hx_17 (hfa9.sub (by decide))
    replace hu := hfa9.at hk9 (by decide) (by decide) hu
    obtain rfl := hR_70
    refine jj_aload_n C dX10_parseFund_92 rfl ?_
    refine jj_iconst (v := 0) C dX10_parseFund_93 (by decide) ?_
    refine rl_put C hok_66 jk_11 8 (by decide) jw_427985f7c9 (t := (0, 0, 10)) hk0 (by decide) rfl rfl rfl (tt_iv (by decide) (by decide)) rfl rfl dX10_parseFund_94 (fun pl_73 hok_74 tr hn tl => ?_)
    replace hs0 := tr _ _ _ (Or.inr (by decide)) hs0
    replace hx0 := tr _ _ _ (Or.inl (tt_ne hkt hk0 (by decide))) hx0
    replace hf_7 := tr _ _ _ (Or.inl (tt_ne hkt hk0 (by decide))) hf_7
    replace hf_8 := tr _ _ _ (Or.inl (tt_ne hkt hk0 (by decide))) hf_8
    replace hf_12 := tr _ _ _ (Or.inr (by decide)) hf_12
    replace hf_19 := tr _ _ _ (Or.inl (tt_ne kq_10 hk0 (by decide))) hf_19
    replace hf_20 := tr _ _ _ (Or.inl (tt_ne kq_10 hk0 (by decide))) hf_20
    replace hf_46 := tr _ _ _ (Or.inr (by decide)) hf_46
    replace hf_49 := tr _ _ _ (Or.inr (by decide)) hf_49
    replace hf_51 := tr _ _ _ (Or.inr (by decide)) hf_51
    replace hf_63 := tr _ _ _ (Or.inr (by decide)) hf_63
    have hf_75 := hn
    replace hfr := hfr.putX hx_17 hk0 tr (by decide)
    replace hu := tl _ _ hu
    replace hfa := hfa.all tl
    refine jj_iload_n C dX10_parseFund_97 rfl ?_
    exact jj_iret C ⟨[], pl_73, rfl, K_14, hx_17, rfl, hok_74, hfr, hfa, (Or.inr ⟨n_34, hq_36, hf_46, hf_49, hf_7, rfl⟩)⟩ dX10_parseFund_98 (jj_le rfl) (jj_le rfl)

set_option maxHeartbeats 4000000 in
set_option maxRecDepth 100000 in
theorem te_putFour {l : Launch} (hl : l.stackTraces = false) (D : va_G) (cA : Nat → ClassId) (ak : (Nat → Nat) × (Nat → Nat)) {Kd : Nat → Nat} (h0 a9 : Nat) (n1 : Nat) (u : Nat → Int32) (p1 : Int32) (hk0 : Kd h0 = 10) (hk9 : Kd a9 = 11) (l1 : n1 ≤ 396) {pl0 : va_W} (hok : tt_ok tt_tk cA Kd pl0) (hs0 : tt_at pl0 h0 0 (.ref a9)) (hs1 : tt_at pl0 h0 1 (.int (nI n1))) (hu : tt_ic pl0 a9 u) : jj_M l D cA ak yX9_putFour (.code yX9_putFour cX9_putFour 3 none) 0 0 0 0 ([] ++ pl0) [.ref h0, .int p1] (tt_O (fun rx pl1 r => rx = [] ∧ tt_ok tt_tk cA Kd pl1 ∧ tt_fr Kd [(10, 1)] pl0 pl1 ∧ tt_fa Kd [11] pl0 pl1 ∧ ((tt_at pl1 h0 1 (.int (nI (4 + n1))) ∧ (∃ v : Nat → Int32, tt_ic pl1 a9 v ∧ (∀ k : Nat, k < n1 → v k = u k) ∧ v (n1) = te_c p1 24 ∧ v (1 + n1) = te_c p1 16 ∧ v (2 + n1) = te_c p1 8 ∧ v (3 + n1) = te_c p1 0) ∧ r = none)))) (tt_OX (fun _ _ _ => False)) := by
  refine jj_start hl (by decide) jw_7315f2d416 (jj_le rfl) ?_
  intro p e s m args below meth c9 A hargs hA C hex hmn
  have hfr := tt_fr.refl (K := Kd) (WS := [(10, 1)]) pl0
  have hfa := tt_fa.refl (K := Kd) (WA := [11]) pl0
  refine jj_bipush (v := 24) C dX9_putFour_0 (by decide) ?_
  refine jj_istore_n C dX9_putFour_2 (by decide) rfl ?_
  refine jj_iload_n C dX9_putFour_3 rfl ?_
  refine jj_if_ltF (tgt := 50) C dX9_putFour_4 (by decide) (by decide) ?_
  refine jj_aload_n C dX9_putFour_7 rfl ?_
  refine tt_getF C hok jk_10 1 (by decide) jw_133bcadae3 (t := (0, 0, 400)) hk0 (by decide) rfl rfl hs1 dX9_putFour_8 ?_
  refine jj_sipush (v := 400) C dX9_putFour_11 (by decide) ?_
  refine jj_icmp_ge (tgt := 50) C dX9_putFour_14 (by decide) (fun c_1 => ?_) (fun c_1 => ?_)
  · have z_c_1 := jc_le (a := 400) (b := ((n1 : Nat) : Int)) c_1 (by decide) (rl_ti (by omega))
    exfalso; omega
  · have z_c_1 := jc_nle (a := 400) (b := ((n1 : Nat) : Int)) c_1 (by decide) (rl_ti (by omega))
    refine jj_aload_n C dX9_putFour_17 rfl ?_
    refine tt_getF C hok jk_10 0 (by decide) jw_0664e1e086 (t := (2, 11, 0)) hk0 (by decide) rfl rfl hs0 dX9_putFour_18 ?_
    refine jj_aload_n C dX9_putFour_21 rfl ?_
    refine tt_getF C hok jk_10 1 (by decide) jw_133bcadae3 (t := (0, 0, 400)) hk0 (by decide) rfl rfl hs1 dX9_putFour_22 ?_
    refine jj_iload_n C dX9_putFour_25 rfl ?_
    refine jj_iload_n C dX9_putFour_26 rfl ?_
    obtain ⟨x_2, ex_2⟩ : ∃ z : Int32, (p1.toUInt32 >>> ((24 : Int32).toUInt32 &&& Int32.toUInt32 31)).toInt32 = z := ⟨_, rfl⟩
    refine jj_iushr (v := x_2) C dX9_putFour_27 ex_2 ?_
    refine jj_sipush (v := 255) C dX9_putFour_28 (by decide) ?_
    obtain ⟨x_3, ex_3⟩ : ∃ z : Int32, x_2 &&& (255 : Int32) = z := ⟨_, rfl⟩
    refine jj_iand (v := x_3) C dX9_putFour_31 ex_3 ?_
    obtain ⟨x_4, ex_4⟩ : ∃ z : Int32, (x_3.toUInt32 % 65536).toInt32 = z := ⟨_, rfl⟩
    refine jj_i2c (v := x_4) C dX9_putFour_32 ex_4 ?_
    refine tl_castF C hok (t := (0, (-2147483648), 2147483647)) hk9 (by decide) rfl (k0 := n1) (vp_in_nI (by omega) (by decide)) (nI_clamp (by omega)) (tt_ia _) dX9_putFour_33 (fun pl_5 hok_6 tr tl tw => ?_)
    replace hs0 := tr _ _ _ hs0
    replace hs1 := tr _ _ _ hs1
    replace hfr := hfr.arr tr
    replace hu := tw _ hu
    replace hfa := hfa.wr hk9 tl (by decide)
    refine jj_aload_n C dX9_putFour_34 rfl ?_
    refine jj_dup C dX9_putFour_35 rfl ?_
    refine tt_getF C hok_6 jk_10 1 (by decide) jw_133bcadae3 (t := (0, 0, 400)) hk0 (by decide) rfl rfl hs1 dX9_putFour_36 ?_
    refine jj_iconst (v := 1) C dX9_putFour_39 (by decide) ?_
    refine jj_iadd (v := nI (1 + n1)) C dX9_putFour_40 (rl_addR (kn := 1) (by decide) (by omega)) ?_
    refine rl_put C hok_6 jk_10 1 (by decide) jw_133bcadae3 (t := (0, 0, 400)) hk0 (by decide) rfl rfl rfl (rl_iv (by omega) (by omega)) rfl rfl dX9_putFour_41 (fun pl_7 hok_8 tr hn tl => ?_)
    replace hs0 := tr _ _ _ (Or.inr (by decide)) hs0
    have hf_9 := hn
    replace hfr := hfr.put hk0 tr (by decide)
    replace hu := tl _ _ hu
    replace hfa := hfa.all tl
    refine jj_iinc (v := 16) C dX9_putFour_44 rfl (by decide) (by decide) rfl ?_
    refine jj_goto (tgt := 3) C dX9_putFour_47 (by decide) ?_
    refine jj_iload_n C dX9_putFour_3 rfl ?_
    refine jj_if_ltF (tgt := 50) C dX9_putFour_4 (by decide) (by decide) ?_
    refine jj_aload_n C dX9_putFour_7 rfl ?_
    refine tt_getF C hok_8 jk_10 1 (by decide) jw_133bcadae3 (t := (0, 0, 400)) hk0 (by decide) rfl rfl hf_9 dX9_putFour_8 ?_
    refine jj_sipush (v := 400) C dX9_putFour_11 (by decide) ?_
    refine jj_icmp_ge (tgt := 50) C dX9_putFour_14 (by decide) (fun c_10 => ?_) (fun c_10 => ?_)
    · have z_c_10 := jc_le (a := 400) (b := ((1 + n1 : Nat) : Int)) c_10 (by decide) (rl_ti (by omega))
      exfalso; omega
    · have z_c_10 := jc_nle (a := 400) (b := ((1 + n1 : Nat) : Int)) c_10 (by decide) (rl_ti (by omega))
      refine jj_aload_n C dX9_putFour_17 rfl ?_
      refine tt_getF C hok_8 jk_10 0 (by decide) jw_0664e1e086 (t := (2, 11, 0)) hk0 (by decide) rfl rfl hs0 dX9_putFour_18 ?_
      refine jj_aload_n C dX9_putFour_21 rfl ?_
      refine tt_getF C hok_8 jk_10 1 (by decide) jw_133bcadae3 (t := (0, 0, 400)) hk0 (by decide) rfl rfl hf_9 dX9_putFour_22 ?_
      refine jj_iload_n C dX9_putFour_25 rfl ?_
      refine jj_iload_n C dX9_putFour_26 rfl ?_
      obtain ⟨x_11, ex_11⟩ : ∃ z : Int32, (p1.toUInt32 >>> ((16 : Int32).toUInt32 &&& Int32.toUInt32 31)).toInt32 = z := ⟨_, rfl⟩
      refine jj_iushr (v := x_11) C dX9_putFour_27 ex_11 ?_
      refine jj_sipush (v := 255) C dX9_putFour_28 (by decide) ?_
      obtain ⟨x_12, ex_12⟩ : ∃ z : Int32, x_11 &&& (255 : Int32) = z := ⟨_, rfl⟩
      refine jj_iand (v := x_12) C dX9_putFour_31 ex_12 ?_
      obtain ⟨x_13, ex_13⟩ : ∃ z : Int32, (x_12.toUInt32 % 65536).toInt32 = z := ⟨_, rfl⟩
      refine jj_i2c (v := x_13) C dX9_putFour_32 ex_13 ?_
      refine tl_castF C hok_8 (t := (0, (-2147483648), 2147483647)) hk9 (by decide) rfl (k0 := 1 + n1) (vp_in_nI (by omega) (by decide)) (nI_clamp (by omega)) (tt_ia _) dX9_putFour_33 (fun pl_14 hok_15 tr tl tw => ?_)
      replace hs0 := tr _ _ _ hs0
      replace hf_9 := tr _ _ _ hf_9
      replace hfr := hfr.arr tr
      replace hu := tw _ hu
      replace hfa := hfa.wr hk9 tl (by decide)
      refine jj_aload_n C dX9_putFour_34 rfl ?_
      refine jj_dup C dX9_putFour_35 rfl ?_
      refine tt_getF C hok_15 jk_10 1 (by decide) jw_133bcadae3 (t := (0, 0, 400)) hk0 (by decide) rfl rfl hf_9 dX9_putFour_36 ?_
      refine jj_iconst (v := 1) C dX9_putFour_39 (by decide) ?_
      refine jj_iadd (v := nI (2 + n1)) C dX9_putFour_40 (rl_addR (kn := 1) (by decide) (by omega)) ?_
      refine rl_put C hok_15 jk_10 1 (by decide) jw_133bcadae3 (t := (0, 0, 400)) hk0 (by decide) rfl rfl rfl (rl_iv (by omega) (by omega)) rfl rfl dX9_putFour_41 (fun pl_16 hok_17 tr hn tl => ?_)
      replace hs0 := tr _ _ _ (Or.inr (by decide)) hs0
      have hf_18 := hn
      replace hfr := hfr.put hk0 tr (by decide)
      replace hu := tl _ _ hu
      replace hfa := hfa.all tl
      refine jj_iinc (v := 8) C dX9_putFour_44 rfl (by decide) (by decide) rfl ?_
      refine jj_goto (tgt := 3) C dX9_putFour_47 (by decide) ?_
      refine jj_iload_n C dX9_putFour_3 rfl ?_
      refine jj_if_ltF (tgt := 50) C dX9_putFour_4 (by decide) (by decide) ?_
      refine jj_aload_n C dX9_putFour_7 rfl ?_
      refine tt_getF C hok_17 jk_10 1 (by decide) jw_133bcadae3 (t := (0, 0, 400)) hk0 (by decide) rfl rfl hf_18 dX9_putFour_8 ?_
      refine jj_sipush (v := 400) C dX9_putFour_11 (by decide) ?_
      refine jj_icmp_ge (tgt := 50) C dX9_putFour_14 (by decide) (fun c_19 => ?_) (fun c_19 => ?_)
      · have z_c_19 := jc_le (a := 400) (b := ((2 + n1 : Nat) : Int)) c_19 (by decide) (rl_ti (by omega))
        exfalso; omega
      · have z_c_19 := jc_nle (a := 400) (b := ((2 + n1 : Nat) : Int)) c_19 (by decide) (rl_ti (by omega))
        refine jj_aload_n C dX9_putFour_17 rfl ?_
        refine tt_getF C hok_17 jk_10 0 (by decide) jw_0664e1e086 (t := (2, 11, 0)) hk0 (by decide) rfl rfl hs0 dX9_putFour_18 ?_
        refine jj_aload_n C dX9_putFour_21 rfl ?_
        refine tt_getF C hok_17 jk_10 1 (by decide) jw_133bcadae3 (t := (0, 0, 400)) hk0 (by decide) rfl rfl hf_18 dX9_putFour_22 ?_
        refine jj_iload_n C dX9_putFour_25 rfl ?_
        refine jj_iload_n C dX9_putFour_26 rfl ?_
        obtain ⟨x_20, ex_20⟩ : ∃ z : Int32, (p1.toUInt32 >>> ((8 : Int32).toUInt32 &&& Int32.toUInt32 31)).toInt32 = z := ⟨_, rfl⟩
        refine jj_iushr (v := x_20) C dX9_putFour_27 ex_20 ?_
        refine jj_sipush (v := 255) C dX9_putFour_28 (by decide) ?_
        obtain ⟨x_21, ex_21⟩ : ∃ z : Int32, x_20 &&& (255 : Int32) = z := ⟨_, rfl⟩
        refine jj_iand (v := x_21) C dX9_putFour_31 ex_21 ?_
        obtain ⟨x_22, ex_22⟩ : ∃ z : Int32, (x_21.toUInt32 % 65536).toInt32 = z := ⟨_, rfl⟩
        refine jj_i2c (v := x_22) C dX9_putFour_32 ex_22 ?_
        refine tl_castF C hok_17 (t := (0, (-2147483648), 2147483647)) hk9 (by decide) rfl (k0 := 2 + n1) (vp_in_nI (by omega) (by decide)) (nI_clamp (by omega)) (tt_ia _) dX9_putFour_33 (fun pl_23 hok_24 tr tl tw => ?_)
        replace hs0 := tr _ _ _ hs0
        replace hf_18 := tr _ _ _ hf_18
        replace hfr := hfr.arr tr
        replace hu := tw _ hu
        replace hfa := hfa.wr hk9 tl (by decide)
        refine jj_aload_n C dX9_putFour_34 rfl ?_
        refine jj_dup C dX9_putFour_35 rfl ?_
        refine tt_getF C hok_24 jk_10 1 (by decide) jw_133bcadae3 (t := (0, 0, 400)) hk0 (by decide) rfl rfl hf_18 dX9_putFour_36 ?_
        refine jj_iconst (v := 1) C dX9_putFour_39 (by decide) ?_
        refine jj_iadd (v := nI (3 + n1)) C dX9_putFour_40 (rl_addR (kn := 1) (by decide) (by omega)) ?_
        refine rl_put C hok_24 jk_10 1 (by decide) jw_133bcadae3 (t := (0, 0, 400)) hk0 (by decide) rfl rfl rfl (rl_iv (by omega) (by omega)) rfl rfl dX9_putFour_41 (fun pl_25 hok_26 tr hn tl => ?_)
        replace hs0 := tr _ _ _ (Or.inr (by decide)) hs0
        have hf_27 := hn
        replace hfr := hfr.put hk0 tr (by decide)
        replace hu := tl _ _ hu
        replace hfa := hfa.all tl
        refine jj_iinc (v := 0) C dX9_putFour_44 rfl (by decide) (by decide) rfl ?_
        refine jj_goto (tgt := 3) C dX9_putFour_47 (by decide) ?_
        refine jj_iload_n C dX9_putFour_3 rfl ?_
        refine jj_if_ltF (tgt := 50) C dX9_putFour_4 (by decide) (by decide) ?_
        refine jj_aload_n C dX9_putFour_7 rfl ?_
        refine tt_getF C hok_26 jk_10 1 (by decide) jw_133bcadae3 (t := (0, 0, 400)) hk0 (by decide) rfl rfl hf_27 dX9_putFour_8 ?_
        refine jj_sipush (v := 400) C dX9_putFour_11 (by decide) ?_
        refine jj_icmp_ge (tgt := 50) C dX9_putFour_14 (by decide) (fun c_28 => ?_) (fun c_28 => ?_)
        · have z_c_28 := jc_le (a := 400) (b := ((3 + n1 : Nat) : Int)) c_28 (by decide) (rl_ti (by omega))
          exfalso; omega
        · have z_c_28 := jc_nle (a := 400) (b := ((3 + n1 : Nat) : Int)) c_28 (by decide) (rl_ti (by omega))
          refine jj_aload_n C dX9_putFour_17 rfl ?_
          refine tt_getF C hok_26 jk_10 0 (by decide) jw_0664e1e086 (t := (2, 11, 0)) hk0 (by decide) rfl rfl hs0 dX9_putFour_18 ?_
          refine jj_aload_n C dX9_putFour_21 rfl ?_
          refine tt_getF C hok_26 jk_10 1 (by decide) jw_133bcadae3 (t := (0, 0, 400)) hk0 (by decide) rfl rfl hf_27 dX9_putFour_22 ?_
          refine jj_iload_n C dX9_putFour_25 rfl ?_
          refine jj_iload_n C dX9_putFour_26 rfl ?_
          obtain ⟨x_29, ex_29⟩ : ∃ z : Int32, (p1.toUInt32 >>> ((0 : Int32).toUInt32 &&& Int32.toUInt32 31)).toInt32 = z := ⟨_, rfl⟩
          refine jj_iushr (v := x_29) C dX9_putFour_27 ex_29 ?_
          refine jj_sipush (v := 255) C dX9_putFour_28 (by decide) ?_
          obtain ⟨x_30, ex_30⟩ : ∃ z : Int32, x_29 &&& (255 : Int32) = z := ⟨_, rfl⟩
          refine jj_iand (v := x_30) C dX9_putFour_31 ex_30 ?_
          obtain ⟨x_31, ex_31⟩ : ∃ z : Int32, (x_30.toUInt32 % 65536).toInt32 = z := ⟨_, rfl⟩
          refine jj_i2c (v := x_31) C dX9_putFour_32 ex_31 ?_
          refine tl_castF C hok_26 (t := (0, (-2147483648), 2147483647)) hk9 (by decide) rfl (k0 := 3 + n1) (vp_in_nI (by omega) (by decide)) (nI_clamp (by omega)) (tt_ia _) dX9_putFour_33 (fun pl_32 hok_33 tr tl tw => ?_)
          replace hs0 := tr _ _ _ hs0
          replace hf_27 := tr _ _ _ hf_27
          replace hfr := hfr.arr tr
          replace hu := tw _ hu
          replace hfa := hfa.wr hk9 tl (by decide)
          refine jj_aload_n C dX9_putFour_34 rfl ?_
          refine jj_dup C dX9_putFour_35 rfl ?_
          refine tt_getF C hok_33 jk_10 1 (by decide) jw_133bcadae3 (t := (0, 0, 400)) hk0 (by decide) rfl rfl hf_27 dX9_putFour_36 ?_
          refine jj_iconst (v := 1) C dX9_putFour_39 (by decide) ?_
          refine jj_iadd (v := nI (4 + n1)) C dX9_putFour_40 (rl_addR (kn := 1) (by decide) (by omega)) ?_
          refine rl_put C hok_33 jk_10 1 (by decide) jw_133bcadae3 (t := (0, 0, 400)) hk0 (by decide) rfl rfl rfl (rl_iv (by omega) (by omega)) rfl rfl dX9_putFour_41 (fun pl_34 hok_35 tr hn tl => ?_)
          replace hs0 := tr _ _ _ (Or.inr (by decide)) hs0
          have hf_36 := hn
          replace hfr := hfr.put hk0 tr (by decide)
          replace hu := tl _ _ hu
          replace hfa := hfa.all tl
          refine jj_iinc (v := (-8)) C dX9_putFour_44 rfl (by decide) (by decide) rfl ?_
          refine jj_goto (tgt := 3) C dX9_putFour_47 (by decide) ?_
          refine jj_iload_n C dX9_putFour_3 rfl ?_
          refine jj_if_ltT (tgt := 50) C dX9_putFour_4 (by decide) (by decide) ?_
          exact jj_vret C ⟨[], pl_34, rfl, rfl, hok_35, hfr, hfa, ⟨(by have e9 : 4 + n1 = 4 + n1 := (by omega); rw [← e9]; exact hf_36), ⟨_, hu, (fun k hk => by rw [te_upN (by omega), te_upN (by omega), te_upN (by omega), te_upN (by omega)]), (by rw [te_upN (by omega), te_upN (by omega), te_upN (by omega), te_upS]; exact te_chr ex_2 ex_3 ex_4), (by rw [te_upN (by omega), te_upN (by omega), te_upS]; exact te_chr ex_11 ex_12 ex_13), (by rw [te_upN (by omega), te_upS]; exact te_chr ex_20 ex_21 ex_22), (by rw [te_upS]; exact te_chr ex_29 ex_30 ex_31)⟩, rfl⟩⟩ dX9_putFour_50 (jj_le rfl) (jj_le rfl)

set_option maxHeartbeats 4000000 in
set_option maxRecDepth 100000 in
theorem te_appendText {l : Launch} (hl : l.stackTraces = false) (D : va_G) (cA : Nat → ClassId) (ak : (Nat → Nat) × (Nat → Nat)) {Kd : Nat → Nat} (h0 tk a9 : Nat) (n1 : Nat) (u : Nat → Int32) (p1 : Int32) (p2 : Int32) (p3 : Int32) (p4 : Int32) (p5 : Int32) (hk0 : Kd h0 = 15) (hkt : Kd tk = 10) (hk9 : Kd a9 = 11) (l1 : n1 ≤ 400) {pl0 : va_W} (hok : tt_ok tt_tk cA Kd pl0) (hs0 : tt_at pl0 h0 0 (.ref tk)) (hx0 : tt_at pl0 tk 0 (.ref a9)) (hx1 : tt_at pl0 tk 1 (.int (nI n1))) (hu : tt_ic pl0 a9 u) : jj_M l D cA ak yX10_appendText (.code yX10_appendText cX10_appendText 6 (some .int)) 6 82 1 6 ([] ++ pl0) [.ref h0, .int p1, .int p2, .int p3, .int p4, .int p5] (tt_O (fun rx pl1 r => rx = [] ∧ tt_ok tt_tk cA Kd pl1 ∧ tt_fr Kd [(10, 1)] pl0 pl1 ∧ tt_fa Kd [11] pl0 pl1 ∧ ((n1 ≤ 380 ∧ tt_at pl1 tk 1 (.int (nI (20 + n1))) ∧ (∃ v : Nat → Int32, tt_ic pl1 a9 v ∧ (∀ k : Nat, k < n1 → v k = u k) ∧ v (n1) = te_c p1 24 ∧ v (1 + n1) = te_c p1 16 ∧ v (2 + n1) = te_c p1 8 ∧ v (3 + n1) = te_c p1 0 ∧ v (4 + n1) = te_c p2 24 ∧ v (5 + n1) = te_c p2 16 ∧ v (6 + n1) = te_c p2 8 ∧ v (7 + n1) = te_c p2 0 ∧ v (8 + n1) = te_c p3 24 ∧ v (9 + n1) = te_c p3 16 ∧ v (10 + n1) = te_c p3 8 ∧ v (11 + n1) = te_c p3 0 ∧ v (12 + n1) = te_c p4 24 ∧ v (13 + n1) = te_c p4 16 ∧ v (14 + n1) = te_c p4 8 ∧ v (15 + n1) = te_c p4 0 ∧ v (16 + n1) = te_c p5 24 ∧ v (17 + n1) = te_c p5 16 ∧ v (18 + n1) = te_c p5 8 ∧ v (19 + n1) = te_c p5 0) ∧ r = some (.int (nI (20 + n1))))))) (tt_OX (fun E rx pl1 => rx = [] ∧ tt_ok tt_tk cA Kd pl1 ∧ tt_fr Kd [(10, 1)] pl0 pl1 ∧ tt_fa Kd [11] pl0 pl1 ∧ 380 < n1 ∧ E = "java/lang/IllegalStateException" ∧ tt_at pl1 tk 1 (.int (nI n1)) ∧ tt_ic pl1 a9 u)) := by
  refine jj_start hl (by decide) jw_632226b39c (jj_le rfl) ?_
  intro p e s m args below meth c9 A hargs hA C hex hmn
  have hfr := tt_fr.refl (K := Kd) (WS := [(10, 1)]) pl0
  have hfa := tt_fa.refl (K := Kd) (WA := [11]) pl0
  refine jj_aload_n C dX10_appendText_0 rfl ?_
  refine tt_getF C hok jk_11 0 (by decide) jw_4836d4133c (t := (2, 10, 0)) hk0 (by decide) rfl rfl hs0 dX10_appendText_1 ?_
  refine tt_getF C hok jk_10 1 (by decide) jw_73b0a985ca (t := (0, 0, 400)) hkt (by decide) rfl rfl hx1 dX10_appendText_4 ?_
  refine jj_bipush (v := 20) C dX10_appendText_7 (by decide) ?_
  refine jj_iadd (v := nI (20 + n1)) C dX10_appendText_9 (rl_addR (kn := 20) (by decide) (by omega)) ?_
  refine jj_sipush (v := 400) C dX10_appendText_10 (by decide) ?_
  refine jj_icmp_le (tgt := 26) C dX10_appendText_13 (by decide) (fun c_1 => ?_) (fun c_1 => ?_)
  · have z_c_1 := jc_le (a := ((20 + n1 : Nat) : Int)) (b := 400) c_1 (rl_ti (by omega)) (by decide)
    refine jj_aload_n C dX10_appendText_26 rfl ?_
    refine tt_getF C hok jk_11 0 (by decide) jw_4836d4133c (t := (2, 10, 0)) hk0 (by decide) rfl rfl hs0 dX10_appendText_27 ?_
    refine jj_iload_n C dX10_appendText_30 rfl ?_
    obtain ⟨qc, gs, hqc⟩ := tt_recv (cx := []) hok hkt (by decide) rfl
    refine tt_callV (rest := []) C (te_putFour hl D cA ak tk a9 n1 u p1 hkt hk9 (by omega) hok hx0 hx1 hu) [] [] rfl rfl (by decide) (by decide) (by decide) qc hqc rfl rfl jw_2c6a0579ce jw_465aad3f08 jw_9200269c04 jw_a9e7b602dc jw_7315f2d416 jn_X9_putFour rfl (jj_le rfl) (jj_le rfl) (jj_le rfl) (jj_le rfl) (jj_le rfl) dX10_appendText_31 rfl (fun _ _ _ hX => hX.elim) (fun rx pl_2 r O_6 => ?_)
    obtain ⟨rfl, hok_3, hr_4, ha_5, hR_7⟩ := O_6
    replace hs0 := hr_4.at hk0 (by decide) (by decide) hs0
    replace hx0 := hr_4.at hkt (by decide) (by decide) hx0
    replace hfr := hfr.trans (hr_4.sub (by decide))
    replace hfa := hfa.trans (ha_5.sub (by decide))
    obtain ⟨hf_8, ⟨u_9, hu_10, hk_11, hb_12, hb_13, hb_14, hb_15⟩, rfl⟩ := hR_7
    refine jj_aload_n C dX10_appendText_34 rfl ?_
    refine tt_getF C hok_3 jk_11 0 (by decide) jw_4836d4133c (t := (2, 10, 0)) hk0 (by decide) rfl rfl hs0 dX10_appendText_35 ?_
    refine jj_iload_n C dX10_appendText_38 rfl ?_
    obtain ⟨qc, gs, hqc⟩ := tt_recv (cx := []) hok_3 hkt (by decide) rfl
    refine tt_callV (rest := []) C (te_putFour hl D cA ak tk a9 (4 + n1) u_9 p2 hkt hk9 (by omega) hok_3 hx0 hf_8 hu_10) [] [] rfl rfl (by decide) (by decide) (by decide) qc hqc rfl rfl jw_2c6a0579ce jw_465aad3f08 jw_9200269c04 jw_a9e7b602dc jw_7315f2d416 jn_X9_putFour rfl (jj_le rfl) (jj_le rfl) (jj_le rfl) (jj_le rfl) (jj_le rfl) dX10_appendText_39 rfl (fun _ _ _ hX => hX.elim) (fun rx pl_16 r O_20 => ?_)
    obtain ⟨rfl, hok_17, hr_18, ha_19, hR_21⟩ := O_20
    replace hs0 := hr_18.at hk0 (by decide) (by decide) hs0
    replace hx0 := hr_18.at hkt (by decide) (by decide) hx0
    replace hfr := hfr.trans (hr_18.sub (by decide))
    replace hfa := hfa.trans (ha_19.sub (by decide))
    obtain ⟨hf_22, ⟨u_23, hu_24, hk_25, hb_26, hb_27, hb_28, hb_29⟩, rfl⟩ := hR_21
    rw [show 4 + (4 + n1) = 8 + n1 from by omega] at hf_22
    refine jj_aload_n C dX10_appendText_42 rfl ?_
    refine tt_getF C hok_17 jk_11 0 (by decide) jw_4836d4133c (t := (2, 10, 0)) hk0 (by decide) rfl rfl hs0 dX10_appendText_43 ?_
    refine jj_iload_n C dX10_appendText_46 rfl ?_
    obtain ⟨qc, gs, hqc⟩ := tt_recv (cx := []) hok_17 hkt (by decide) rfl
    refine tt_callV (rest := []) C (te_putFour hl D cA ak tk a9 (8 + n1) u_23 p3 hkt hk9 (by omega) hok_17 hx0 hf_22 hu_24) [] [] rfl rfl (by decide) (by decide) (by decide) qc hqc rfl rfl jw_2c6a0579ce jw_465aad3f08 jw_9200269c04 jw_a9e7b602dc jw_7315f2d416 jn_X9_putFour rfl (jj_le rfl) (jj_le rfl) (jj_le rfl) (jj_le rfl) (jj_le rfl) dX10_appendText_47 rfl (fun _ _ _ hX => hX.elim) (fun rx pl_30 r O_34 => ?_)
    obtain ⟨rfl, hok_31, hr_32, ha_33, hR_35⟩ := O_34
    replace hs0 := hr_32.at hk0 (by decide) (by decide) hs0
    replace hx0 := hr_32.at hkt (by decide) (by decide) hx0
    replace hfr := hfr.trans (hr_32.sub (by decide))
    replace hfa := hfa.trans (ha_33.sub (by decide))
    obtain ⟨hf_36, ⟨u_37, hu_38, hk_39, hb_40, hb_41, hb_42, hb_43⟩, rfl⟩ := hR_35
    rw [show 4 + (8 + n1) = 12 + n1 from by omega] at hf_36
    refine jj_aload_n C dX10_appendText_50 rfl ?_
    refine tt_getF C hok_31 jk_11 0 (by decide) jw_4836d4133c (t := (2, 10, 0)) hk0 (by decide) rfl rfl hs0 dX10_appendText_51 ?_
    refine jj_iload C dX10_appendText_54 rfl ?_
    obtain ⟨qc, gs, hqc⟩ := tt_recv (cx := []) hok_31 hkt (by decide) rfl
    refine tt_callV (rest := []) C (te_putFour hl D cA ak tk a9 (12 + n1) u_37 p4 hkt hk9 (by omega) hok_31 hx0 hf_36 hu_38) [] [] rfl rfl (by decide) (by decide) (by decide) qc hqc rfl rfl jw_2c6a0579ce jw_465aad3f08 jw_9200269c04 jw_a9e7b602dc jw_7315f2d416 jn_X9_putFour rfl (jj_le rfl) (jj_le rfl) (jj_le rfl) (jj_le rfl) (jj_le rfl) dX10_appendText_56 rfl (fun _ _ _ hX => hX.elim) (fun rx pl_44 r O_48 => ?_)
    obtain ⟨rfl, hok_45, hr_46, ha_47, hR_49⟩ := O_48
    replace hs0 := hr_46.at hk0 (by decide) (by decide) hs0
    replace hx0 := hr_46.at hkt (by decide) (by decide) hx0
    replace hfr := hfr.trans (hr_46.sub (by decide))
    replace hfa := hfa.trans (ha_47.sub (by decide))
    obtain ⟨hf_50, ⟨u_51, hu_52, hk_53, hb_54, hb_55, hb_56, hb_57⟩, rfl⟩ := hR_49
    rw [show 4 + (12 + n1) = 16 + n1 from by omega] at hf_50
    refine jj_aload_n C dX10_appendText_59 rfl ?_
    refine tt_getF C hok_45 jk_11 0 (by decide) jw_4836d4133c (t := (2, 10, 0)) hk0 (by decide) rfl rfl hs0 dX10_appendText_60 ?_
    refine jj_iload C dX10_appendText_63 rfl ?_
    obtain ⟨qc, gs, hqc⟩ := tt_recv (cx := []) hok_45 hkt (by decide) rfl
    refine tt_callV (rest := []) C (te_putFour hl D cA ak tk a9 (16 + n1) u_51 p5 hkt hk9 (by omega) hok_45 hx0 hf_50 hu_52) [] [] rfl rfl (by decide) (by decide) (by decide) qc hqc rfl rfl jw_2c6a0579ce jw_465aad3f08 jw_9200269c04 jw_a9e7b602dc jw_7315f2d416 jn_X9_putFour rfl (jj_le rfl) (jj_le rfl) (jj_le rfl) (jj_le rfl) (jj_le rfl) dX10_appendText_65 rfl (fun _ _ _ hX => hX.elim) (fun rx pl_58 r O_62 => ?_)
    obtain ⟨rfl, hok_59, hr_60, ha_61, hR_63⟩ := O_62
    replace hs0 := hr_60.at hk0 (by decide) (by decide) hs0
    replace hx0 := hr_60.at hkt (by decide) (by decide) hx0
    replace hfr := hfr.trans (hr_60.sub (by decide))
    replace hfa := hfa.trans (ha_61.sub (by decide))
    obtain ⟨hf_64, ⟨u_65, hu_66, hk_67, hb_68, hb_69, hb_70, hb_71⟩, rfl⟩ := hR_63
    rw [show 4 + (16 + n1) = 20 + n1 from by omega] at hf_64
    refine jj_aload_n C dX10_appendText_68 rfl ?_
    refine tt_getF C hok_59 jk_11 0 (by decide) jw_4836d4133c (t := (2, 10, 0)) hk0 (by decide) rfl rfl hs0 dX10_appendText_69 ?_
    refine tt_getF C hok_59 jk_10 1 (by decide) jw_73b0a985ca (t := (0, 0, 400)) hkt (by decide) rfl rfl hf_64 dX10_appendText_72 ?_
    exact jj_iret C ⟨[], pl_58, rfl, rfl, hok_59, hfr, hfa, (by have e9 : 20 + n1 = 20 + n1 := (by omega); exact ⟨by omega, (by rw [← e9]; exact hf_64), ⟨_, hu_66, (fun k hk => (hk_67 k (by omega)).trans ((hk_53 k (by omega)).trans ((hk_39 k (by omega)).trans ((hk_25 k (by omega)).trans (hk_11 k (by omega)))))), ((hk_67 _ (by omega)).trans ((hk_53 _ (by omega)).trans ((hk_39 _ (by omega)).trans ((hk_25 _ (by omega)).trans hb_12)))), ((hk_67 _ (by omega)).trans ((hk_53 _ (by omega)).trans ((hk_39 _ (by omega)).trans ((hk_25 _ (by omega)).trans hb_13)))), ((hk_67 _ (by omega)).trans ((hk_53 _ (by omega)).trans ((hk_39 _ (by omega)).trans ((hk_25 _ (by omega)).trans hb_14)))), ((hk_67 _ (by omega)).trans ((hk_53 _ (by omega)).trans ((hk_39 _ (by omega)).trans ((hk_25 _ (by omega)).trans hb_15)))), (by rw [show 4 + n1 = (4 + n1) from by omega]; exact ((hk_67 _ (by omega)).trans ((hk_53 _ (by omega)).trans ((hk_39 _ (by omega)).trans hb_26)))), (by rw [show 5 + n1 = 1 + (4 + n1) from by omega]; exact ((hk_67 _ (by omega)).trans ((hk_53 _ (by omega)).trans ((hk_39 _ (by omega)).trans hb_27)))), (by rw [show 6 + n1 = 2 + (4 + n1) from by omega]; exact ((hk_67 _ (by omega)).trans ((hk_53 _ (by omega)).trans ((hk_39 _ (by omega)).trans hb_28)))), (by rw [show 7 + n1 = 3 + (4 + n1) from by omega]; exact ((hk_67 _ (by omega)).trans ((hk_53 _ (by omega)).trans ((hk_39 _ (by omega)).trans hb_29)))), (by rw [show 8 + n1 = (8 + n1) from by omega]; exact ((hk_67 _ (by omega)).trans ((hk_53 _ (by omega)).trans hb_40))), (by rw [show 9 + n1 = 1 + (8 + n1) from by omega]; exact ((hk_67 _ (by omega)).trans ((hk_53 _ (by omega)).trans hb_41))), (by rw [show 10 + n1 = 2 + (8 + n1) from by omega]; exact ((hk_67 _ (by omega)).trans ((hk_53 _ (by omega)).trans hb_42))), (by rw [show 11 + n1 = 3 + (8 + n1) from by omega]; exact ((hk_67 _ (by omega)).trans ((hk_53 _ (by omega)).trans hb_43))), (by rw [show 12 + n1 = (12 + n1) from by omega]; exact ((hk_67 _ (by omega)).trans hb_54)), (by rw [show 13 + n1 = 1 + (12 + n1) from by omega]; exact ((hk_67 _ (by omega)).trans hb_55)), (by rw [show 14 + n1 = 2 + (12 + n1) from by omega]; exact ((hk_67 _ (by omega)).trans hb_56)), (by rw [show 15 + n1 = 3 + (12 + n1) from by omega]; exact ((hk_67 _ (by omega)).trans hb_57)), (by rw [show 16 + n1 = (16 + n1) from by omega]; exact hb_68), (by rw [show 17 + n1 = 1 + (16 + n1) from by omega]; exact hb_69), (by rw [show 18 + n1 = 2 + (16 + n1) from by omega]; exact hb_70), (by rw [show 19 + n1 = 3 + (16 + n1) from by omega]; exact hb_71)⟩, (by rw [← e9])⟩)⟩ dX10_appendText_75 (jj_le rfl) (jj_le rfl)
  · have z_c_1 := jc_nle (a := ((20 + n1 : Nat) : Int)) (b := 400) c_1 (rl_ti (by omega)) (by decide)
    exact jj_throw (k := 36) (text := "the text buffer is full") C jt_RX10_64 jw_2e653062aa (by decide +kernel) dX10_appendText_16 dX10_appendText_19 dX10_appendText_20 dX10_appendText_22 dX10_appendText_25 hex (jj_le rfl) (jj_le rfl) (jj_le rfl) (jj_le rfl) ⟨[], pl0, rfl, rfl, hok, hfr, hfa, (by omega), rfl, hx1, hu⟩ (jj_le rfl) (jj_le rfl)

set_option maxHeartbeats 4000000 in
set_option maxRecDepth 100000 in
theorem te_errorCode {l : Launch} (hl : l.stackTraces = false) (D : va_G) (cA : Nat → ClassId) (ak : (Nat → Nat) × (Nat → Nat)) {Kd : Nat → Nat} (h0 : Nat) (x : Int32) (hk0 : Kd h0 = 15) {pl0 : va_W} (hok : tt_ok tt_tk cA Kd pl0) (hsx : tt_at pl0 h0 1 (.int x)) : jj_M l D cA ak yX10_errorCode (.code yX10_errorCode cX10_errorCode 1 (some .int)) 0 0 0 0 ([] ++ pl0) [.ref h0] (tt_O (fun rx pl1 r => rx = [] ∧ tt_ok tt_tk cA Kd pl1 ∧ tt_fr Kd [] pl0 pl1 ∧ tt_fa Kd [] pl0 pl1 ∧ ((r = some (.int x))))) (tt_OX (fun _ _ _ => False)) := by
  refine jj_start hl (by decide) jw_84c9e32d1d (jj_le rfl) ?_
  intro p e s m args below meth c9 A hargs hA C hex hmn
  have hfr := tt_fr.refl (K := Kd) (WS := []) pl0
  have hfa := tt_fa.refl (K := Kd) (WA := []) pl0
  refine jj_aload_n C dX10_errorCode_0 rfl ?_
  refine tt_getF C hok jk_11 1 (by decide) jw_1eeb46a090 (t := (0, (-2147483648), 2147483647)) hk0 (by decide) rfl rfl hsx dX10_errorCode_1 ?_
  exact jj_iret C ⟨[], pl0, rfl, rfl, hok, hfr, hfa, rfl⟩ dX10_errorCode_4 (jj_le rfl) (jj_le rfl)

set_option maxHeartbeats 4000000 in
set_option maxRecDepth 100000 in
theorem te_errorPosition {l : Launch} (hl : l.stackTraces = false) (D : va_G) (cA : Nat → ClassId) (ak : (Nat → Nat) × (Nat → Nat)) {Kd : Nat → Nat} (h0 : Nat) (x : Int32) (hk0 : Kd h0 = 15) {pl0 : va_W} (hok : tt_ok tt_tk cA Kd pl0) (hsx : tt_at pl0 h0 2 (.int x)) : jj_M l D cA ak yX10_errorPosition (.code yX10_errorPosition cX10_errorPosition 1 (some .int)) 0 0 0 0 ([] ++ pl0) [.ref h0] (tt_O (fun rx pl1 r => rx = [] ∧ tt_ok tt_tk cA Kd pl1 ∧ tt_fr Kd [] pl0 pl1 ∧ tt_fa Kd [] pl0 pl1 ∧ ((r = some (.int x))))) (tt_OX (fun _ _ _ => False)) := by
  refine jj_start hl (by decide) jw_f6366bab80 (jj_le rfl) ?_
  intro p e s m args below meth c9 A hargs hA C hex hmn
  have hfr := tt_fr.refl (K := Kd) (WS := []) pl0
  have hfa := tt_fa.refl (K := Kd) (WA := []) pl0
  refine jj_aload_n C dX10_errorPosition_0 rfl ?_
  refine tt_getF C hok jk_11 2 (by decide) jw_e0c9868424 (t := (0, (-2147483648), 2147483647)) hk0 (by decide) rfl rfl hsx dX10_errorPosition_1 ?_
  exact jj_iret C ⟨[], pl0, rfl, rfl, hok, hfr, hfa, rfl⟩ dX10_errorPosition_4 (jj_le rfl) (jj_le rfl)
