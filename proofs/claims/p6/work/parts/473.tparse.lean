
set_option maxHeartbeats 4000000 in
set_option maxRecDepth 100000 in
theorem te_readMethod {l : Launch} (hl : l.stackTraces = false) (D : va_G) (cA : Nat → ClassId) (ak : (Nat → Nat) × (Nat → Nat)) {Kd : Nat → Nat} (h0 tk a9 bk : Nat) (n2 n3 : Nat) (u : Nat → Int32) (c : Nat → Int) (hk0 : Kd h0 = 17) (hkt : Kd tk = 10) (hk9 : Kd a9 = 11) (hkb : Kd bk = 1) (l2 : n2 ≤ 400) (h32 : n3 ≤ n2) (hc : ∀ k : Nat, k < n2 → c k = (u k).toInt) {pl0 : va_W} (hok : tt_ok tt_tk cA Kd pl0) (hs0 : tt_at pl0 h0 0 (.ref tk)) (hx0 : tt_at pl0 tk 0 (.ref a9)) (hx2 : tt_at pl0 tk 2 (.int (nI n2))) (hx3 : tt_at pl0 tk 3 (.int (nI n3))) (hs1 : tt_at pl0 h0 1 (.ref bk)) (hu : tt_ic pl0 a9 u) : jj_M l D cA ak yX3_readMethod (.code yX3_readMethod cX3_readMethod 1 (some .boolean)) 5 107 0 0 ([] ++ pl0) [.ref h0] (tt_O (fun rx pl1 r => rx = [] ∧ tt_ok tt_tk cA Kd pl1 ∧ tt_fr Kd [(1, 1), (10, 3), (10, 4), (10, 5), (10, 6), (17, 2)] pl0 pl1 ∧ tt_fa Kd [] pl0 pl1 ∧ ((∃ s t : Nat, tt_at pl1 tk 4 (.int (nI s)) ∧ tt_at pl1 h0 2 (.int 1) ∧ ps_tok c n2 n3 s t ∧ ¬ (ps_isw c s t ps_equal ∨ ps_isw c s t ps_series) ∧ r = some (.int 0)) ∨ (∃ s t : Nat, tt_at pl1 tk 3 (.int (nI t)) ∧ ps_tok c n2 n3 s t ∧ (ps_isw c s t ps_equal ∨ ps_isw c s t ps_series) ∧ r = some (.int 1))))) (tt_OX (fun _ _ _ => False)) := by
  refine jj_start hl (by decide) jw_fe37aa9023 (jj_le rfl) ?_
  intro p e s m args below meth c9 A hargs hA C hex hmn
  have hfr := tt_fr.refl (K := Kd) (WS := [(1, 1), (10, 3), (10, 4), (10, 5), (10, 6), (17, 2)]) pl0
  have hfa := tt_fa.refl (K := Kd) (WA := []) pl0
  refine jj_aload_n C dX3_readMethod_0 rfl ?_
  refine tt_getF C hok jk_4 0 (by decide) jw_70cd29f103 (t := (2, 10, 0)) hk0 (by decide) rfl rfl hs0 dX3_readMethod_1 ?_
  obtain ⟨qc, gs, hqc⟩ := tt_recv (cx := []) hok hkt (by decide) rfl
  refine tt_callV (rest := []) C (te_advance hl D cA ak tk a9 n2 n3 u c hkt hk9 (by omega) (by omega) hc hok hx0 hx2 hx3 hu) [] [] rfl rfl (by decide) (by decide) (by decide) qc hqc rfl rfl jw_97c023d194 jw_37f6ee43e0 jw_46baf1fc7b jw_a9e7b602dc jw_0d4db63612 jn_X9_advance rfl (jj_le rfl) (jj_le rfl) (jj_le rfl) (jj_le rfl) (jj_le rfl) dX3_readMethod_4 rfl (fun _ _ _ hX => hX.elim) (fun rx pl_1 r O_5 => ?_)
  obtain ⟨rfl, hok_2, hr_3, ha_4, hR_6⟩ := O_5
  replace hs0 := hr_3.at hk0 (by decide) (by decide) hs0
  replace hx0 := hr_3.at hkt (by decide) (by decide) hx0
  replace hx2 := hr_3.at hkt (by decide) (by decide) hx2
  replace hs1 := hr_3.at hk0 (by decide) (by decide) hs1
  replace hu := ha_4.at hk9 (by decide) (by decide) hu
  replace hfr := hfr.trans (hr_3.sub (by decide))
  replace hfa := hfa.trans (ha_4.sub (by decide))
  rcases hR_6 with ⟨n_7, n_8, hf_9, hf_10, hf_11, ht_12, hkd_13, rfl⟩ | ⟨n_14, n_15, hf_16, hf_17, hf_18, ht_19, hkd_20, rfl⟩ | ⟨n_21, n_22, hf_23, hf_24, hf_25, ht_26, hkd_27, ⟨x_28, hf_29, hq_30, hq_31⟩, rfl⟩ | ⟨n_32, n_33, hf_34, hf_35, hf_36, ht_37, hkd_38, rfl⟩ | ⟨n_39, n_40, hf_41, hf_42, hf_43, ht_44, hkd_45, rfl⟩
  · have hzn_7 := ht_12.le (by omega)
    refine jj_aload_n C dX3_readMethod_7 rfl ?_
    refine tt_getF C hok_2 jk_4 1 (by decide) jw_bdf52ddf93 (t := (2, 1, 0)) hk0 (by decide) rfl rfl hs1 dX3_readMethod_8 ?_
    refine jj_aload_n C dX3_readMethod_11 rfl ?_
    refine tt_getF C hok_2 jk_4 0 (by decide) jw_70cd29f103 (t := (2, 10, 0)) hk0 (by decide) rfl rfl hs0 dX3_readMethod_12 ?_
    refine jj_ldcs (k := 1) (tx := "equal") C dX3_readMethod_15 (by decide +kernel) ?_
    obtain ⟨qc, gs, hqc⟩ := tt_recv (cx := []) hok_2 hkt (by decide) rfl
    refine tt_callV (rest := [.ref bk]) C (te_isWord_equal hl D cA ak tk a9 n2 n_8 n_7 (4 : Int32) u c hkt hk9 (by omega) (by omega) (by omega) hc ⟨fun q => absurd q (by decide), fun q => absurd q.2 hkd_13.2.1⟩ hok_2 hx0 hf_10 hf_9 hf_11 hu) [] [] rfl rfl (by decide) (by decide) (by decide) qc hqc rfl rfl jw_b0fe72c6f4 jw_5e9522a00c jw_73cf9edcb7 jw_a9e7b602dc jw_ce1c1f12e9 jn_X9_isWord rfl (jj_le rfl) (jj_le rfl) (jj_le rfl) (jj_le rfl) (jj_le rfl) dX3_readMethod_17 rfl (fun _ _ _ hX => hX.elim) (fun rx pl_46 r O_50 => ?_)
    obtain ⟨rfl, hok_47, hr_48, ha_49, hR_51⟩ := O_50
    replace hs0 := hr_48.at hk0 (by decide) (by decide) hs0
    replace hx0 := hr_48.at hkt (by decide) (by decide) hx0
    replace hx2 := hr_48.at hkt (by decide) (by decide) hx2
    replace hs1 := hr_48.at hk0 (by decide) (by decide) hs1
    replace hf_9 := hr_48.at hkt (by decide) (by decide) hf_9
    replace hf_10 := hr_48.at hkt (by decide) (by decide) hf_10
    replace hf_11 := hr_48.at hkt (by decide) (by decide) hf_11
    replace hu := ha_49.at hk9 (by decide) (by decide) hu
    replace hfr := hfr.trans (hr_48.sub (by decide))
    replace hfa := hfa.trans (ha_49.sub (by decide))
    rcases hR_51 with ⟨hw_52, rfl⟩ | ⟨hw_53, rfl⟩
    · refine jj_if_eqT (tgt := 27) C dX3_readMethod_20 (by decide) (by decide) ?_
      refine jj_iconst (v := 0) C dX3_readMethod_27 (by decide) ?_
      refine rl_put C hok_47 jk_2 1 (by decide) jw_f222fdc0b2 (t := (0, (-2147483648), 2147483647)) hkb (by decide) rfl rfl rfl (tt_ia (0 : Int32)) rfl rfl dX3_readMethod_28 (fun pl_54 hok_55 tr hn tl => ?_)
      replace hs0 := tr _ _ _ (Or.inl (tt_ne hk0 hkb (by decide))) hs0
      replace hx0 := tr _ _ _ (Or.inl (tt_ne hkt hkb (by decide))) hx0
      replace hx2 := tr _ _ _ (Or.inl (tt_ne hkt hkb (by decide))) hx2
      replace hs1 := tr _ _ _ (Or.inl (tt_ne hk0 hkb (by decide))) hs1
      replace hf_9 := tr _ _ _ (Or.inl (tt_ne hkt hkb (by decide))) hf_9
      replace hf_10 := tr _ _ _ (Or.inl (tt_ne hkt hkb (by decide))) hf_10
      replace hf_11 := tr _ _ _ (Or.inl (tt_ne hkt hkb (by decide))) hf_11
      have hf_56 := hn
      replace hfr := hfr.put hkb tr (by decide)
      replace hu := tl _ _ hu
      replace hfa := hfa.all tl
      refine jj_aload_n C dX3_readMethod_31 rfl ?_
      refine jj_aload_n C dX3_readMethod_32 rfl ?_
      refine tt_getF C hok_55 jk_4 1 (by decide) jw_bdf52ddf93 (t := (2, 1, 0)) hk0 (by decide) rfl rfl hs1 dX3_readMethod_33 ?_
      refine tt_getF C hok_55 jk_2 1 (by decide) jw_f222fdc0b2 (t := (0, (-2147483648), 2147483647)) hkb (by decide) rfl rfl hf_56 dX3_readMethod_36 ?_
      refine jj_iconst (v := 1) C dX3_readMethod_39 (by decide) ?_
      refine jj_icmp_eqF (tgt := 55) C dX3_readMethod_40 (by decide) (by decide) ?_
      refine jj_aload_n C dX3_readMethod_43 rfl ?_
      refine tt_getF C hok_55 jk_4 0 (by decide) jw_70cd29f103 (t := (2, 10, 0)) hk0 (by decide) rfl rfl hs0 dX3_readMethod_44 ?_
      refine jj_ldcs (k := 2) (tx := "series") C dX3_readMethod_47 (by decide +kernel) ?_
      obtain ⟨qc, gs, hqc⟩ := tt_recv (cx := []) hok_55 hkt (by decide) rfl
      refine tt_callV (rest := [.ref h0]) C (te_isWord_series hl D cA ak tk a9 n2 n_8 n_7 (4 : Int32) u c hkt hk9 (by omega) (by omega) (by omega) hc ⟨fun q => absurd q (by decide), fun q => absurd q.2 hkd_13.2.1⟩ hok_55 hx0 hf_10 hf_9 hf_11 hu) [] [] rfl rfl (by decide) (by decide) (by decide) qc hqc rfl rfl jw_b0fe72c6f4 jw_5e9522a00c jw_73cf9edcb7 jw_a9e7b602dc jw_ce1c1f12e9 jn_X9_isWord rfl (jj_le rfl) (jj_le rfl) (jj_le rfl) (jj_le rfl) (jj_le rfl) dX3_readMethod_49 rfl (fun _ _ _ hX => hX.elim) (fun rx pl_57 r O_61 => ?_)
      obtain ⟨rfl, hok_58, hr_59, ha_60, hR_62⟩ := O_61
      replace hs0 := hr_59.at hk0 (by decide) (by decide) hs0
      replace hx0 := hr_59.at hkt (by decide) (by decide) hx0
      replace hx2 := hr_59.at hkt (by decide) (by decide) hx2
      replace hs1 := hr_59.at hk0 (by decide) (by decide) hs1
      replace hf_9 := hr_59.at hkt (by decide) (by decide) hf_9
      replace hf_10 := hr_59.at hkt (by decide) (by decide) hf_10
      replace hf_11 := hr_59.at hkt (by decide) (by decide) hf_11
      replace hf_56 := hr_59.at hkb (by decide) (by decide) hf_56
      replace hu := ha_60.at hk9 (by decide) (by decide) hu
      replace hfr := hfr.trans (hr_59.sub (by decide))
      replace hfa := hfa.trans (ha_60.sub (by decide))
      rcases hR_62 with ⟨hw_63, rfl⟩ | ⟨hw_64, rfl⟩
      · refine jj_if_eqT (tgt := 59) C dX3_readMethod_52 (by decide) (by decide) ?_
        refine jj_iconst (v := 0) C dX3_readMethod_59 (by decide) ?_
        refine jj_iconst (v := 1) C dX3_readMethod_60 (by decide) ?_
        obtain ⟨qc, gs, hqc⟩ := tt_recv (cx := []) hok_58 hk0 (by decide) rfl
        refine tt_callV (rest := []) C (te_accept_01 hl D cA ak h0 hk0 hok_58) [] [] rfl rfl (by decide) (by decide) (by decide) qc hqc rfl rfl jw_713f4d2af1 jw_b3e457240a jw_58c48ce796 jw_9d546d0b6f jw_0001e2e84f jn_X3_accept rfl (jj_le rfl) (jj_le rfl) (jj_le rfl) (jj_le rfl) (jj_le rfl) dX3_readMethod_61 rfl (fun _ _ _ hX => hX.elim) (fun rx pl_65 r O_69 => ?_)
        obtain ⟨rfl, hok_66, hr_67, ha_68, hR_70⟩ := O_69
        replace hs0 := hr_67.at hk0 (by decide) (by decide) hs0
        replace hx0 := hr_67.at hkt (by decide) (by decide) hx0
        replace hx2 := hr_67.at hkt (by decide) (by decide) hx2
        replace hs1 := hr_67.at hk0 (by decide) (by decide) hs1
        replace hf_9 := hr_67.at hkt (by decide) (by decide) hf_9
        replace hf_10 := hr_67.at hkt (by decide) (by decide) hf_10
        replace hf_11 := hr_67.at hkt (by decide) (by decide) hf_11
        replace hf_56 := hr_67.at hkb (by decide) (by decide) hf_56
        replace hu := ha_68.at hk9 (by decide) (by decide) hu
        replace hfr := hfr.trans (hr_67.sub (by decide))
        replace hfa := hfa.trans (ha_68.sub (by decide))
        obtain ⟨hf_71, rfl⟩ := hR_70
        exact jj_zret C rfl ⟨[], pl_65, rfl, rfl, hok_66, hfr, hfa, (Or.inl ⟨n_7, n_8, hf_9, hf_71, ht_12, (fun q => q.elim hw_52 hw_63), rfl⟩)⟩ dX3_readMethod_64 (jj_le rfl) (jj_le rfl)
      · exact absurd (hw_64.one (n := n2) (by decide) (by unfold ps_le; decide) (by omega)).2 hkd_13.2.1
    · exact absurd (hw_53.one (n := n2) (by decide) (by unfold ps_le; decide) (by omega)).2 hkd_13.2.1
  · have hzn_14 := ht_19.le (by omega)
    refine jj_aload_n C dX3_readMethod_7 rfl ?_
    refine tt_getF C hok_2 jk_4 1 (by decide) jw_bdf52ddf93 (t := (2, 1, 0)) hk0 (by decide) rfl rfl hs1 dX3_readMethod_8 ?_
    refine jj_aload_n C dX3_readMethod_11 rfl ?_
    refine tt_getF C hok_2 jk_4 0 (by decide) jw_70cd29f103 (t := (2, 10, 0)) hk0 (by decide) rfl rfl hs0 dX3_readMethod_12 ?_
    refine jj_ldcs (k := 1) (tx := "equal") C dX3_readMethod_15 (by decide +kernel) ?_
    obtain ⟨qc, gs, hqc⟩ := tt_recv (cx := []) hok_2 hkt (by decide) rfl
    refine tt_callV (rest := [.ref bk]) C (te_isWord_equal hl D cA ak tk a9 n2 n_15 n_14 (3 : Int32) u c hkt hk9 (by omega) (by omega) (by omega) hc ⟨fun q => absurd q (by decide), fun q => absurd q.2 hkd_20.2.1⟩ hok_2 hx0 hf_17 hf_16 hf_18 hu) [] [] rfl rfl (by decide) (by decide) (by decide) qc hqc rfl rfl jw_b0fe72c6f4 jw_5e9522a00c jw_73cf9edcb7 jw_a9e7b602dc jw_ce1c1f12e9 jn_X9_isWord rfl (jj_le rfl) (jj_le rfl) (jj_le rfl) (jj_le rfl) (jj_le rfl) dX3_readMethod_17 rfl (fun _ _ _ hX => hX.elim) (fun rx pl_72 r O_76 => ?_)
    obtain ⟨rfl, hok_73, hr_74, ha_75, hR_77⟩ := O_76
    replace hs0 := hr_74.at hk0 (by decide) (by decide) hs0
    replace hx0 := hr_74.at hkt (by decide) (by decide) hx0
    replace hx2 := hr_74.at hkt (by decide) (by decide) hx2
    replace hs1 := hr_74.at hk0 (by decide) (by decide) hs1
    replace hf_16 := hr_74.at hkt (by decide) (by decide) hf_16
    replace hf_17 := hr_74.at hkt (by decide) (by decide) hf_17
    replace hf_18 := hr_74.at hkt (by decide) (by decide) hf_18
    replace hu := ha_75.at hk9 (by decide) (by decide) hu
    replace hfr := hfr.trans (hr_74.sub (by decide))
    replace hfa := hfa.trans (ha_75.sub (by decide))
    rcases hR_77 with ⟨hw_78, rfl⟩ | ⟨hw_79, rfl⟩
    · refine jj_if_eqT (tgt := 27) C dX3_readMethod_20 (by decide) (by decide) ?_
      refine jj_iconst (v := 0) C dX3_readMethod_27 (by decide) ?_
      refine rl_put C hok_73 jk_2 1 (by decide) jw_f222fdc0b2 (t := (0, (-2147483648), 2147483647)) hkb (by decide) rfl rfl rfl (tt_ia (0 : Int32)) rfl rfl dX3_readMethod_28 (fun pl_80 hok_81 tr hn tl => ?_)
      replace hs0 := tr _ _ _ (Or.inl (tt_ne hk0 hkb (by decide))) hs0
      replace hx0 := tr _ _ _ (Or.inl (tt_ne hkt hkb (by decide))) hx0
      replace hx2 := tr _ _ _ (Or.inl (tt_ne hkt hkb (by decide))) hx2
      replace hs1 := tr _ _ _ (Or.inl (tt_ne hk0 hkb (by decide))) hs1
      replace hf_16 := tr _ _ _ (Or.inl (tt_ne hkt hkb (by decide))) hf_16
      replace hf_17 := tr _ _ _ (Or.inl (tt_ne hkt hkb (by decide))) hf_17
      replace hf_18 := tr _ _ _ (Or.inl (tt_ne hkt hkb (by decide))) hf_18
      have hf_82 := hn
      replace hfr := hfr.put hkb tr (by decide)
      replace hu := tl _ _ hu
      replace hfa := hfa.all tl
      refine jj_aload_n C dX3_readMethod_31 rfl ?_
      refine jj_aload_n C dX3_readMethod_32 rfl ?_
      refine tt_getF C hok_81 jk_4 1 (by decide) jw_bdf52ddf93 (t := (2, 1, 0)) hk0 (by decide) rfl rfl hs1 dX3_readMethod_33 ?_
      refine tt_getF C hok_81 jk_2 1 (by decide) jw_f222fdc0b2 (t := (0, (-2147483648), 2147483647)) hkb (by decide) rfl rfl hf_82 dX3_readMethod_36 ?_
      refine jj_iconst (v := 1) C dX3_readMethod_39 (by decide) ?_
      refine jj_icmp_eqF (tgt := 55) C dX3_readMethod_40 (by decide) (by decide) ?_
      refine jj_aload_n C dX3_readMethod_43 rfl ?_
      refine tt_getF C hok_81 jk_4 0 (by decide) jw_70cd29f103 (t := (2, 10, 0)) hk0 (by decide) rfl rfl hs0 dX3_readMethod_44 ?_
      refine jj_ldcs (k := 2) (tx := "series") C dX3_readMethod_47 (by decide +kernel) ?_
      obtain ⟨qc, gs, hqc⟩ := tt_recv (cx := []) hok_81 hkt (by decide) rfl
      refine tt_callV (rest := [.ref h0]) C (te_isWord_series hl D cA ak tk a9 n2 n_15 n_14 (3 : Int32) u c hkt hk9 (by omega) (by omega) (by omega) hc ⟨fun q => absurd q (by decide), fun q => absurd q.2 hkd_20.2.1⟩ hok_81 hx0 hf_17 hf_16 hf_18 hu) [] [] rfl rfl (by decide) (by decide) (by decide) qc hqc rfl rfl jw_b0fe72c6f4 jw_5e9522a00c jw_73cf9edcb7 jw_a9e7b602dc jw_ce1c1f12e9 jn_X9_isWord rfl (jj_le rfl) (jj_le rfl) (jj_le rfl) (jj_le rfl) (jj_le rfl) dX3_readMethod_49 rfl (fun _ _ _ hX => hX.elim) (fun rx pl_83 r O_87 => ?_)
      obtain ⟨rfl, hok_84, hr_85, ha_86, hR_88⟩ := O_87
      replace hs0 := hr_85.at hk0 (by decide) (by decide) hs0
      replace hx0 := hr_85.at hkt (by decide) (by decide) hx0
      replace hx2 := hr_85.at hkt (by decide) (by decide) hx2
      replace hs1 := hr_85.at hk0 (by decide) (by decide) hs1
      replace hf_16 := hr_85.at hkt (by decide) (by decide) hf_16
      replace hf_17 := hr_85.at hkt (by decide) (by decide) hf_17
      replace hf_18 := hr_85.at hkt (by decide) (by decide) hf_18
      replace hf_82 := hr_85.at hkb (by decide) (by decide) hf_82
      replace hu := ha_86.at hk9 (by decide) (by decide) hu
      replace hfr := hfr.trans (hr_85.sub (by decide))
      replace hfa := hfa.trans (ha_86.sub (by decide))
      rcases hR_88 with ⟨hw_89, rfl⟩ | ⟨hw_90, rfl⟩
      · refine jj_if_eqT (tgt := 59) C dX3_readMethod_52 (by decide) (by decide) ?_
        refine jj_iconst (v := 0) C dX3_readMethod_59 (by decide) ?_
        refine jj_iconst (v := 1) C dX3_readMethod_60 (by decide) ?_
        obtain ⟨qc, gs, hqc⟩ := tt_recv (cx := []) hok_84 hk0 (by decide) rfl
        refine tt_callV (rest := []) C (te_accept_01 hl D cA ak h0 hk0 hok_84) [] [] rfl rfl (by decide) (by decide) (by decide) qc hqc rfl rfl jw_713f4d2af1 jw_b3e457240a jw_58c48ce796 jw_9d546d0b6f jw_0001e2e84f jn_X3_accept rfl (jj_le rfl) (jj_le rfl) (jj_le rfl) (jj_le rfl) (jj_le rfl) dX3_readMethod_61 rfl (fun _ _ _ hX => hX.elim) (fun rx pl_91 r O_95 => ?_)
        obtain ⟨rfl, hok_92, hr_93, ha_94, hR_96⟩ := O_95
        replace hs0 := hr_93.at hk0 (by decide) (by decide) hs0
        replace hx0 := hr_93.at hkt (by decide) (by decide) hx0
        replace hx2 := hr_93.at hkt (by decide) (by decide) hx2
        replace hs1 := hr_93.at hk0 (by decide) (by decide) hs1
        replace hf_16 := hr_93.at hkt (by decide) (by decide) hf_16
        replace hf_17 := hr_93.at hkt (by decide) (by decide) hf_17
        replace hf_18 := hr_93.at hkt (by decide) (by decide) hf_18
        replace hf_82 := hr_93.at hkb (by decide) (by decide) hf_82
        replace hu := ha_94.at hk9 (by decide) (by decide) hu
        replace hfr := hfr.trans (hr_93.sub (by decide))
        replace hfa := hfa.trans (ha_94.sub (by decide))
        obtain ⟨hf_97, rfl⟩ := hR_96
        exact jj_zret C rfl ⟨[], pl_91, rfl, rfl, hok_92, hfr, hfa, (Or.inl ⟨n_14, n_15, hf_16, hf_97, ht_19, (fun q => q.elim hw_78 hw_89), rfl⟩)⟩ dX3_readMethod_64 (jj_le rfl) (jj_le rfl)
      · exact absurd (hw_90.one (n := n2) (by decide) (by unfold ps_le; decide) (by omega)).2 hkd_20.2.1
    · exact absurd (hw_79.one (n := n2) (by decide) (by unfold ps_le; decide) (by omega)).2 hkd_20.2.1
  · have hzn_21 := ht_26.le (by omega)
    have lx_28 := tt_lo x_28
    have ux_28 := tt_hi x_28
    refine jj_aload_n C dX3_readMethod_7 rfl ?_
    refine tt_getF C hok_2 jk_4 1 (by decide) jw_bdf52ddf93 (t := (2, 1, 0)) hk0 (by decide) rfl rfl hs1 dX3_readMethod_8 ?_
    refine jj_aload_n C dX3_readMethod_11 rfl ?_
    refine tt_getF C hok_2 jk_4 0 (by decide) jw_70cd29f103 (t := (2, 10, 0)) hk0 (by decide) rfl rfl hs0 dX3_readMethod_12 ?_
    refine jj_ldcs (k := 1) (tx := "equal") C dX3_readMethod_15 (by decide +kernel) ?_
    obtain ⟨qc, gs, hqc⟩ := tt_recv (cx := []) hok_2 hkt (by decide) rfl
    refine tt_callV (rest := [.ref bk]) C (te_isWord_equal hl D cA ak tk a9 n2 n_22 n_21 (2 : Int32) u c hkt hk9 (by omega) (by omega) (by omega) hc ⟨fun q => absurd q (by decide), fun q => absurd q.2 hkd_27.2.1⟩ hok_2 hx0 hf_24 hf_23 hf_25 hu) [] [] rfl rfl (by decide) (by decide) (by decide) qc hqc rfl rfl jw_b0fe72c6f4 jw_5e9522a00c jw_73cf9edcb7 jw_a9e7b602dc jw_ce1c1f12e9 jn_X9_isWord rfl (jj_le rfl) (jj_le rfl) (jj_le rfl) (jj_le rfl) (jj_le rfl) dX3_readMethod_17 rfl (fun _ _ _ hX => hX.elim) (fun rx pl_98 r O_102 => ?_)
    obtain ⟨rfl, hok_99, hr_100, ha_101, hR_103⟩ := O_102
    replace hs0 := hr_100.at hk0 (by decide) (by decide) hs0
    replace hx0 := hr_100.at hkt (by decide) (by decide) hx0
    replace hx2 := hr_100.at hkt (by decide) (by decide) hx2
    replace hs1 := hr_100.at hk0 (by decide) (by decide) hs1
    replace hf_23 := hr_100.at hkt (by decide) (by decide) hf_23
    replace hf_24 := hr_100.at hkt (by decide) (by decide) hf_24
    replace hf_25 := hr_100.at hkt (by decide) (by decide) hf_25
    replace hf_29 := hr_100.at hkt (by decide) (by decide) hf_29
    replace hu := ha_101.at hk9 (by decide) (by decide) hu
    replace hfr := hfr.trans (hr_100.sub (by decide))
    replace hfa := hfa.trans (ha_101.sub (by decide))
    rcases hR_103 with ⟨hw_104, rfl⟩ | ⟨hw_105, rfl⟩
    · refine jj_if_eqT (tgt := 27) C dX3_readMethod_20 (by decide) (by decide) ?_
      refine jj_iconst (v := 0) C dX3_readMethod_27 (by decide) ?_
      refine rl_put C hok_99 jk_2 1 (by decide) jw_f222fdc0b2 (t := (0, (-2147483648), 2147483647)) hkb (by decide) rfl rfl rfl (tt_ia (0 : Int32)) rfl rfl dX3_readMethod_28 (fun pl_106 hok_107 tr hn tl => ?_)
      replace hs0 := tr _ _ _ (Or.inl (tt_ne hk0 hkb (by decide))) hs0
      replace hx0 := tr _ _ _ (Or.inl (tt_ne hkt hkb (by decide))) hx0
      replace hx2 := tr _ _ _ (Or.inl (tt_ne hkt hkb (by decide))) hx2
      replace hs1 := tr _ _ _ (Or.inl (tt_ne hk0 hkb (by decide))) hs1
      replace hf_23 := tr _ _ _ (Or.inl (tt_ne hkt hkb (by decide))) hf_23
      replace hf_24 := tr _ _ _ (Or.inl (tt_ne hkt hkb (by decide))) hf_24
      replace hf_25 := tr _ _ _ (Or.inl (tt_ne hkt hkb (by decide))) hf_25
      replace hf_29 := tr _ _ _ (Or.inl (tt_ne hkt hkb (by decide))) hf_29
      have hf_108 := hn
      replace hfr := hfr.put hkb tr (by decide)
      replace hu := tl _ _ hu
      replace hfa := hfa.all tl
      refine jj_aload_n C dX3_readMethod_31 rfl ?_
      refine jj_aload_n C dX3_readMethod_32 rfl ?_
      refine tt_getF C hok_107 jk_4 1 (by decide) jw_bdf52ddf93 (t := (2, 1, 0)) hk0 (by decide) rfl rfl hs1 dX3_readMethod_33 ?_
      refine tt_getF C hok_107 jk_2 1 (by decide) jw_f222fdc0b2 (t := (0, (-2147483648), 2147483647)) hkb (by decide) rfl rfl hf_108 dX3_readMethod_36 ?_
      refine jj_iconst (v := 1) C dX3_readMethod_39 (by decide) ?_
      refine jj_icmp_eqF (tgt := 55) C dX3_readMethod_40 (by decide) (by decide) ?_
      refine jj_aload_n C dX3_readMethod_43 rfl ?_
      refine tt_getF C hok_107 jk_4 0 (by decide) jw_70cd29f103 (t := (2, 10, 0)) hk0 (by decide) rfl rfl hs0 dX3_readMethod_44 ?_
      refine jj_ldcs (k := 2) (tx := "series") C dX3_readMethod_47 (by decide +kernel) ?_
      obtain ⟨qc, gs, hqc⟩ := tt_recv (cx := []) hok_107 hkt (by decide) rfl
      refine tt_callV (rest := [.ref h0]) C (te_isWord_series hl D cA ak tk a9 n2 n_22 n_21 (2 : Int32) u c hkt hk9 (by omega) (by omega) (by omega) hc ⟨fun q => absurd q (by decide), fun q => absurd q.2 hkd_27.2.1⟩ hok_107 hx0 hf_24 hf_23 hf_25 hu) [] [] rfl rfl (by decide) (by decide) (by decide) qc hqc rfl rfl jw_b0fe72c6f4 jw_5e9522a00c jw_73cf9edcb7 jw_a9e7b602dc jw_ce1c1f12e9 jn_X9_isWord rfl (jj_le rfl) (jj_le rfl) (jj_le rfl) (jj_le rfl) (jj_le rfl) dX3_readMethod_49 rfl (fun _ _ _ hX => hX.elim) (fun rx pl_109 r O_113 => ?_)
      obtain ⟨rfl, hok_110, hr_111, ha_112, hR_114⟩ := O_113
      replace hs0 := hr_111.at hk0 (by decide) (by decide) hs0
      replace hx0 := hr_111.at hkt (by decide) (by decide) hx0
      replace hx2 := hr_111.at hkt (by decide) (by decide) hx2
      replace hs1 := hr_111.at hk0 (by decide) (by decide) hs1
      replace hf_23 := hr_111.at hkt (by decide) (by decide) hf_23
      replace hf_24 := hr_111.at hkt (by decide) (by decide) hf_24
      replace hf_25 := hr_111.at hkt (by decide) (by decide) hf_25
      replace hf_29 := hr_111.at hkt (by decide) (by decide) hf_29
      replace hf_108 := hr_111.at hkb (by decide) (by decide) hf_108
      replace hu := ha_112.at hk9 (by decide) (by decide) hu
      replace hfr := hfr.trans (hr_111.sub (by decide))
      replace hfa := hfa.trans (ha_112.sub (by decide))
      rcases hR_114 with ⟨hw_115, rfl⟩ | ⟨hw_116, rfl⟩
      · refine jj_if_eqT (tgt := 59) C dX3_readMethod_52 (by decide) (by decide) ?_
        refine jj_iconst (v := 0) C dX3_readMethod_59 (by decide) ?_
        refine jj_iconst (v := 1) C dX3_readMethod_60 (by decide) ?_
        obtain ⟨qc, gs, hqc⟩ := tt_recv (cx := []) hok_110 hk0 (by decide) rfl
        refine tt_callV (rest := []) C (te_accept_01 hl D cA ak h0 hk0 hok_110) [] [] rfl rfl (by decide) (by decide) (by decide) qc hqc rfl rfl jw_713f4d2af1 jw_b3e457240a jw_58c48ce796 jw_9d546d0b6f jw_0001e2e84f jn_X3_accept rfl (jj_le rfl) (jj_le rfl) (jj_le rfl) (jj_le rfl) (jj_le rfl) dX3_readMethod_61 rfl (fun _ _ _ hX => hX.elim) (fun rx pl_117 r O_121 => ?_)
        obtain ⟨rfl, hok_118, hr_119, ha_120, hR_122⟩ := O_121
        replace hs0 := hr_119.at hk0 (by decide) (by decide) hs0
        replace hx0 := hr_119.at hkt (by decide) (by decide) hx0
        replace hx2 := hr_119.at hkt (by decide) (by decide) hx2
        replace hs1 := hr_119.at hk0 (by decide) (by decide) hs1
        replace hf_23 := hr_119.at hkt (by decide) (by decide) hf_23
        replace hf_24 := hr_119.at hkt (by decide) (by decide) hf_24
        replace hf_25 := hr_119.at hkt (by decide) (by decide) hf_25
        replace hf_29 := hr_119.at hkt (by decide) (by decide) hf_29
        replace hf_108 := hr_119.at hkb (by decide) (by decide) hf_108
        replace hu := ha_120.at hk9 (by decide) (by decide) hu
        replace hfr := hfr.trans (hr_119.sub (by decide))
        replace hfa := hfa.trans (ha_120.sub (by decide))
        obtain ⟨hf_123, rfl⟩ := hR_122
        exact jj_zret C rfl ⟨[], pl_117, rfl, rfl, hok_118, hfr, hfa, (Or.inl ⟨n_21, n_22, hf_23, hf_123, ht_26, (fun q => q.elim hw_104 hw_115), rfl⟩)⟩ dX3_readMethod_64 (jj_le rfl) (jj_le rfl)
      · exact absurd (hw_116.one (n := n2) (by decide) (by unfold ps_le; decide) (by omega)).2 hkd_27.2.1
    · exact absurd (hw_105.one (n := n2) (by decide) (by unfold ps_le; decide) (by omega)).2 hkd_27.2.1
  · have hzn_32 := ht_37.le (by omega)
    refine jj_aload_n C dX3_readMethod_7 rfl ?_
    refine tt_getF C hok_2 jk_4 1 (by decide) jw_bdf52ddf93 (t := (2, 1, 0)) hk0 (by decide) rfl rfl hs1 dX3_readMethod_8 ?_
    refine jj_aload_n C dX3_readMethod_11 rfl ?_
    refine tt_getF C hok_2 jk_4 0 (by decide) jw_70cd29f103 (t := (2, 10, 0)) hk0 (by decide) rfl rfl hs0 dX3_readMethod_12 ?_
    refine jj_ldcs (k := 1) (tx := "equal") C dX3_readMethod_15 (by decide +kernel) ?_
    obtain ⟨qc, gs, hqc⟩ := tt_recv (cx := []) hok_2 hkt (by decide) rfl
    refine tt_callV (rest := [.ref bk]) C (te_isWord_equal hl D cA ak tk a9 n2 n_33 n_32 (1 : Int32) u c hkt hk9 (by omega) (by omega) (by omega) hc ⟨fun _ => hkd_38, fun _ => rfl⟩ hok_2 hx0 hf_35 hf_34 hf_36 hu) [] [] rfl rfl (by decide) (by decide) (by decide) qc hqc rfl rfl jw_b0fe72c6f4 jw_5e9522a00c jw_73cf9edcb7 jw_a9e7b602dc jw_ce1c1f12e9 jn_X9_isWord rfl (jj_le rfl) (jj_le rfl) (jj_le rfl) (jj_le rfl) (jj_le rfl) dX3_readMethod_17 rfl (fun _ _ _ hX => hX.elim) (fun rx pl_124 r O_128 => ?_)
    obtain ⟨rfl, hok_125, hr_126, ha_127, hR_129⟩ := O_128
    replace hs0 := hr_126.at hk0 (by decide) (by decide) hs0
    replace hx0 := hr_126.at hkt (by decide) (by decide) hx0
    replace hx2 := hr_126.at hkt (by decide) (by decide) hx2
    replace hs1 := hr_126.at hk0 (by decide) (by decide) hs1
    replace hf_34 := hr_126.at hkt (by decide) (by decide) hf_34
    replace hf_35 := hr_126.at hkt (by decide) (by decide) hf_35
    replace hf_36 := hr_126.at hkt (by decide) (by decide) hf_36
    replace hu := ha_127.at hk9 (by decide) (by decide) hu
    replace hfr := hfr.trans (hr_126.sub (by decide))
    replace hfa := hfa.trans (ha_127.sub (by decide))
    rcases hR_129 with ⟨hw_130, rfl⟩ | ⟨hw_131, rfl⟩
    · refine jj_if_eqT (tgt := 27) C dX3_readMethod_20 (by decide) (by decide) ?_
      refine jj_iconst (v := 0) C dX3_readMethod_27 (by decide) ?_
      refine rl_put C hok_125 jk_2 1 (by decide) jw_f222fdc0b2 (t := (0, (-2147483648), 2147483647)) hkb (by decide) rfl rfl rfl (tt_ia (0 : Int32)) rfl rfl dX3_readMethod_28 (fun pl_132 hok_133 tr hn tl => ?_)
      replace hs0 := tr _ _ _ (Or.inl (tt_ne hk0 hkb (by decide))) hs0
      replace hx0 := tr _ _ _ (Or.inl (tt_ne hkt hkb (by decide))) hx0
      replace hx2 := tr _ _ _ (Or.inl (tt_ne hkt hkb (by decide))) hx2
      replace hs1 := tr _ _ _ (Or.inl (tt_ne hk0 hkb (by decide))) hs1
      replace hf_34 := tr _ _ _ (Or.inl (tt_ne hkt hkb (by decide))) hf_34
      replace hf_35 := tr _ _ _ (Or.inl (tt_ne hkt hkb (by decide))) hf_35
      replace hf_36 := tr _ _ _ (Or.inl (tt_ne hkt hkb (by decide))) hf_36
      have hf_134 := hn
      replace hfr := hfr.put hkb tr (by decide)
      replace hu := tl _ _ hu
      replace hfa := hfa.all tl
      refine jj_aload_n C dX3_readMethod_31 rfl ?_
      refine jj_aload_n C dX3_readMethod_32 rfl ?_
      refine tt_getF C hok_133 jk_4 1 (by decide) jw_bdf52ddf93 (t := (2, 1, 0)) hk0 (by decide) rfl rfl hs1 dX3_readMethod_33 ?_
      refine tt_getF C hok_133 jk_2 1 (by decide) jw_f222fdc0b2 (t := (0, (-2147483648), 2147483647)) hkb (by decide) rfl rfl hf_134 dX3_readMethod_36 ?_
      refine jj_iconst (v := 1) C dX3_readMethod_39 (by decide) ?_
      refine jj_icmp_eqF (tgt := 55) C dX3_readMethod_40 (by decide) (by decide) ?_
      refine jj_aload_n C dX3_readMethod_43 rfl ?_
      refine tt_getF C hok_133 jk_4 0 (by decide) jw_70cd29f103 (t := (2, 10, 0)) hk0 (by decide) rfl rfl hs0 dX3_readMethod_44 ?_
      refine jj_ldcs (k := 2) (tx := "series") C dX3_readMethod_47 (by decide +kernel) ?_
      obtain ⟨qc, gs, hqc⟩ := tt_recv (cx := []) hok_133 hkt (by decide) rfl
      refine tt_callV (rest := [.ref h0]) C (te_isWord_series hl D cA ak tk a9 n2 n_33 n_32 (1 : Int32) u c hkt hk9 (by omega) (by omega) (by omega) hc ⟨fun _ => hkd_38, fun _ => rfl⟩ hok_133 hx0 hf_35 hf_34 hf_36 hu) [] [] rfl rfl (by decide) (by decide) (by decide) qc hqc rfl rfl jw_b0fe72c6f4 jw_5e9522a00c jw_73cf9edcb7 jw_a9e7b602dc jw_ce1c1f12e9 jn_X9_isWord rfl (jj_le rfl) (jj_le rfl) (jj_le rfl) (jj_le rfl) (jj_le rfl) dX3_readMethod_49 rfl (fun _ _ _ hX => hX.elim) (fun rx pl_135 r O_139 => ?_)
      obtain ⟨rfl, hok_136, hr_137, ha_138, hR_140⟩ := O_139
      replace hs0 := hr_137.at hk0 (by decide) (by decide) hs0
      replace hx0 := hr_137.at hkt (by decide) (by decide) hx0
      replace hx2 := hr_137.at hkt (by decide) (by decide) hx2
      replace hs1 := hr_137.at hk0 (by decide) (by decide) hs1
      replace hf_34 := hr_137.at hkt (by decide) (by decide) hf_34
      replace hf_35 := hr_137.at hkt (by decide) (by decide) hf_35
      replace hf_36 := hr_137.at hkt (by decide) (by decide) hf_36
      replace hf_134 := hr_137.at hkb (by decide) (by decide) hf_134
      replace hu := ha_138.at hk9 (by decide) (by decide) hu
      replace hfr := hfr.trans (hr_137.sub (by decide))
      replace hfa := hfa.trans (ha_138.sub (by decide))
      rcases hR_140 with ⟨hw_141, rfl⟩ | ⟨hw_142, rfl⟩
      · refine jj_if_eqT (tgt := 59) C dX3_readMethod_52 (by decide) (by decide) ?_
        refine jj_iconst (v := 0) C dX3_readMethod_59 (by decide) ?_
        refine jj_iconst (v := 1) C dX3_readMethod_60 (by decide) ?_
        obtain ⟨qc, gs, hqc⟩ := tt_recv (cx := []) hok_136 hk0 (by decide) rfl
        refine tt_callV (rest := []) C (te_accept_01 hl D cA ak h0 hk0 hok_136) [] [] rfl rfl (by decide) (by decide) (by decide) qc hqc rfl rfl jw_713f4d2af1 jw_b3e457240a jw_58c48ce796 jw_9d546d0b6f jw_0001e2e84f jn_X3_accept rfl (jj_le rfl) (jj_le rfl) (jj_le rfl) (jj_le rfl) (jj_le rfl) dX3_readMethod_61 rfl (fun _ _ _ hX => hX.elim) (fun rx pl_143 r O_147 => ?_)
        obtain ⟨rfl, hok_144, hr_145, ha_146, hR_148⟩ := O_147
        replace hs0 := hr_145.at hk0 (by decide) (by decide) hs0
        replace hx0 := hr_145.at hkt (by decide) (by decide) hx0
        replace hx2 := hr_145.at hkt (by decide) (by decide) hx2
        replace hs1 := hr_145.at hk0 (by decide) (by decide) hs1
        replace hf_34 := hr_145.at hkt (by decide) (by decide) hf_34
        replace hf_35 := hr_145.at hkt (by decide) (by decide) hf_35
        replace hf_36 := hr_145.at hkt (by decide) (by decide) hf_36
        replace hf_134 := hr_145.at hkb (by decide) (by decide) hf_134
        replace hu := ha_146.at hk9 (by decide) (by decide) hu
        replace hfr := hfr.trans (hr_145.sub (by decide))
        replace hfa := hfa.trans (ha_146.sub (by decide))
        obtain ⟨hf_149, rfl⟩ := hR_148
        exact jj_zret C rfl ⟨[], pl_143, rfl, rfl, hok_144, hfr, hfa, (Or.inl ⟨n_32, n_33, hf_34, hf_149, ht_37, (fun q => q.elim hw_130 hw_141), rfl⟩)⟩ dX3_readMethod_64 (jj_le rfl) (jj_le rfl)
      · refine jj_if_eqF (tgt := 59) C dX3_readMethod_52 (by decide) (by decide) ?_
        refine jj_iconst (v := 1) C dX3_readMethod_55 (by decide) ?_
        refine jj_goto (tgt := 60) C dX3_readMethod_56 (by decide) ?_
        refine jj_iconst (v := 1) C dX3_readMethod_60 (by decide) ?_
        obtain ⟨qc, gs, hqc⟩ := tt_recv (cx := []) hok_136 hk0 (by decide) rfl
        refine tt_callV (rest := []) C (te_accept_11 hl D cA ak h0 hk0 hok_136) [] [] rfl rfl (by decide) (by decide) (by decide) qc hqc rfl rfl jw_713f4d2af1 jw_b3e457240a jw_58c48ce796 jw_9d546d0b6f jw_0001e2e84f jn_X3_accept rfl (jj_le rfl) (jj_le rfl) (jj_le rfl) (jj_le rfl) (jj_le rfl) dX3_readMethod_61 rfl (fun _ _ _ hX => hX.elim) (fun rx pl_150 r O_154 => ?_)
        obtain ⟨rfl, hok_151, hr_152, ha_153, hR_155⟩ := O_154
        replace hs0 := hr_152.at hk0 (by decide) (by decide) hs0
        replace hx0 := hr_152.at hkt (by decide) (by decide) hx0
        replace hx2 := hr_152.at hkt (by decide) (by decide) hx2
        replace hs1 := hr_152.at hk0 (by decide) (by decide) hs1
        replace hf_34 := hr_152.at hkt (by decide) (by decide) hf_34
        replace hf_35 := hr_152.at hkt (by decide) (by decide) hf_35
        replace hf_36 := hr_152.at hkt (by decide) (by decide) hf_36
        replace hf_134 := hr_152.at hkb (by decide) (by decide) hf_134
        replace hu := ha_153.at hk9 (by decide) (by decide) hu
        replace hfr := hfr.trans (hr_152.sub (by decide))
        replace hfa := hfa.trans (ha_153.sub (by decide))
        obtain rfl := hR_155
        exact jj_zret C rfl ⟨[], pl_150, rfl, rfl, hok_151, hfr, hfa, (Or.inr ⟨n_32, n_33, hf_35, ht_37, Or.inr hw_142, rfl⟩)⟩ dX3_readMethod_64 (jj_le rfl) (jj_le rfl)
    · refine jj_if_eqF (tgt := 27) C dX3_readMethod_20 (by decide) (by decide) ?_
      refine jj_iconst (v := 1) C dX3_readMethod_23 (by decide) ?_
      refine jj_goto (tgt := 28) C dX3_readMethod_24 (by decide) ?_
      refine rl_put C hok_125 jk_2 1 (by decide) jw_f222fdc0b2 (t := (0, (-2147483648), 2147483647)) hkb (by decide) rfl rfl rfl (tt_ia (1 : Int32)) rfl rfl dX3_readMethod_28 (fun pl_156 hok_157 tr hn tl => ?_)
      replace hs0 := tr _ _ _ (Or.inl (tt_ne hk0 hkb (by decide))) hs0
      replace hx0 := tr _ _ _ (Or.inl (tt_ne hkt hkb (by decide))) hx0
      replace hx2 := tr _ _ _ (Or.inl (tt_ne hkt hkb (by decide))) hx2
      replace hs1 := tr _ _ _ (Or.inl (tt_ne hk0 hkb (by decide))) hs1
      replace hf_34 := tr _ _ _ (Or.inl (tt_ne hkt hkb (by decide))) hf_34
      replace hf_35 := tr _ _ _ (Or.inl (tt_ne hkt hkb (by decide))) hf_35
      replace hf_36 := tr _ _ _ (Or.inl (tt_ne hkt hkb (by decide))) hf_36
      have hf_158 := hn
      replace hfr := hfr.put hkb tr (by decide)
      replace hu := tl _ _ hu
      replace hfa := hfa.all tl
      refine jj_aload_n C dX3_readMethod_31 rfl ?_
      refine jj_aload_n C dX3_readMethod_32 rfl ?_
      refine tt_getF C hok_157 jk_4 1 (by decide) jw_bdf52ddf93 (t := (2, 1, 0)) hk0 (by decide) rfl rfl hs1 dX3_readMethod_33 ?_
      refine tt_getF C hok_157 jk_2 1 (by decide) jw_f222fdc0b2 (t := (0, (-2147483648), 2147483647)) hkb (by decide) rfl rfl hf_158 dX3_readMethod_36 ?_
      refine jj_iconst (v := 1) C dX3_readMethod_39 (by decide) ?_
      refine jj_icmp_eqT (tgt := 55) C dX3_readMethod_40 (by decide) (by decide) ?_
      refine jj_iconst (v := 1) C dX3_readMethod_55 (by decide) ?_
      refine jj_goto (tgt := 60) C dX3_readMethod_56 (by decide) ?_
      refine jj_iconst (v := 1) C dX3_readMethod_60 (by decide) ?_
      obtain ⟨qc, gs, hqc⟩ := tt_recv (cx := []) hok_157 hk0 (by decide) rfl
      refine tt_callV (rest := []) C (te_accept_11 hl D cA ak h0 hk0 hok_157) [] [] rfl rfl (by decide) (by decide) (by decide) qc hqc rfl rfl jw_713f4d2af1 jw_b3e457240a jw_58c48ce796 jw_9d546d0b6f jw_0001e2e84f jn_X3_accept rfl (jj_le rfl) (jj_le rfl) (jj_le rfl) (jj_le rfl) (jj_le rfl) dX3_readMethod_61 rfl (fun _ _ _ hX => hX.elim) (fun rx pl_159 r O_163 => ?_)
      obtain ⟨rfl, hok_160, hr_161, ha_162, hR_164⟩ := O_163
      replace hs0 := hr_161.at hk0 (by decide) (by decide) hs0
      replace hx0 := hr_161.at hkt (by decide) (by decide) hx0
      replace hx2 := hr_161.at hkt (by decide) (by decide) hx2
      replace hs1 := hr_161.at hk0 (by decide) (by decide) hs1
      replace hf_34 := hr_161.at hkt (by decide) (by decide) hf_34
      replace hf_35 := hr_161.at hkt (by decide) (by decide) hf_35
      replace hf_36 := hr_161.at hkt (by decide) (by decide) hf_36
      replace hf_158 := hr_161.at hkb (by decide) (by decide) hf_158
      replace hu := ha_162.at hk9 (by decide) (by decide) hu
      replace hfr := hfr.trans (hr_161.sub (by decide))
      replace hfa := hfa.trans (ha_162.sub (by decide))
      obtain rfl := hR_164
      exact jj_zret C rfl ⟨[], pl_159, rfl, rfl, hok_160, hfr, hfa, (Or.inr ⟨n_32, n_33, hf_35, ht_37, Or.inl hw_131, rfl⟩)⟩ dX3_readMethod_64 (jj_le rfl) (jj_le rfl)
  · have hzn_39 := ht_44.le (by omega)
    refine jj_aload_n C dX3_readMethod_7 rfl ?_
    refine tt_getF C hok_2 jk_4 1 (by decide) jw_bdf52ddf93 (t := (2, 1, 0)) hk0 (by decide) rfl rfl hs1 dX3_readMethod_8 ?_
    refine jj_aload_n C dX3_readMethod_11 rfl ?_
    refine tt_getF C hok_2 jk_4 0 (by decide) jw_70cd29f103 (t := (2, 10, 0)) hk0 (by decide) rfl rfl hs0 dX3_readMethod_12 ?_
    refine jj_ldcs (k := 1) (tx := "equal") C dX3_readMethod_15 (by decide +kernel) ?_
    obtain ⟨qc, gs, hqc⟩ := tt_recv (cx := []) hok_2 hkt (by decide) rfl
    refine tt_callV (rest := [.ref bk]) C (te_isWord_equal hl D cA ak tk a9 n2 n_40 n_39 (0 : Int32) u c hkt hk9 (by omega) (by omega) (by omega) hc ⟨fun q => absurd q (by decide), fun q => absurd q.1 (by omega)⟩ hok_2 hx0 hf_42 hf_41 hf_43 hu) [] [] rfl rfl (by decide) (by decide) (by decide) qc hqc rfl rfl jw_b0fe72c6f4 jw_5e9522a00c jw_73cf9edcb7 jw_a9e7b602dc jw_ce1c1f12e9 jn_X9_isWord rfl (jj_le rfl) (jj_le rfl) (jj_le rfl) (jj_le rfl) (jj_le rfl) dX3_readMethod_17 rfl (fun _ _ _ hX => hX.elim) (fun rx pl_165 r O_169 => ?_)
    obtain ⟨rfl, hok_166, hr_167, ha_168, hR_170⟩ := O_169
    replace hs0 := hr_167.at hk0 (by decide) (by decide) hs0
    replace hx0 := hr_167.at hkt (by decide) (by decide) hx0
    replace hx2 := hr_167.at hkt (by decide) (by decide) hx2
    replace hs1 := hr_167.at hk0 (by decide) (by decide) hs1
    replace hf_41 := hr_167.at hkt (by decide) (by decide) hf_41
    replace hf_42 := hr_167.at hkt (by decide) (by decide) hf_42
    replace hf_43 := hr_167.at hkt (by decide) (by decide) hf_43
    replace hu := ha_168.at hk9 (by decide) (by decide) hu
    replace hfr := hfr.trans (hr_167.sub (by decide))
    replace hfa := hfa.trans (ha_168.sub (by decide))
    rcases hR_170 with ⟨hw_171, rfl⟩ | ⟨hw_172, rfl⟩
    · refine jj_if_eqT (tgt := 27) C dX3_readMethod_20 (by decide) (by decide) ?_
      refine jj_iconst (v := 0) C dX3_readMethod_27 (by decide) ?_
      refine rl_put C hok_166 jk_2 1 (by decide) jw_f222fdc0b2 (t := (0, (-2147483648), 2147483647)) hkb (by decide) rfl rfl rfl (tt_ia (0 : Int32)) rfl rfl dX3_readMethod_28 (fun pl_173 hok_174 tr hn tl => ?_)
      replace hs0 := tr _ _ _ (Or.inl (tt_ne hk0 hkb (by decide))) hs0
      replace hx0 := tr _ _ _ (Or.inl (tt_ne hkt hkb (by decide))) hx0
      replace hx2 := tr _ _ _ (Or.inl (tt_ne hkt hkb (by decide))) hx2
      replace hs1 := tr _ _ _ (Or.inl (tt_ne hk0 hkb (by decide))) hs1
      replace hf_41 := tr _ _ _ (Or.inl (tt_ne hkt hkb (by decide))) hf_41
      replace hf_42 := tr _ _ _ (Or.inl (tt_ne hkt hkb (by decide))) hf_42
      replace hf_43 := tr _ _ _ (Or.inl (tt_ne hkt hkb (by decide))) hf_43
      have hf_175 := hn
      replace hfr := hfr.put hkb tr (by decide)
      replace hu := tl _ _ hu
      replace hfa := hfa.all tl
      refine jj_aload_n C dX3_readMethod_31 rfl ?_
      refine jj_aload_n C dX3_readMethod_32 rfl ?_
      refine tt_getF C hok_174 jk_4 1 (by decide) jw_bdf52ddf93 (t := (2, 1, 0)) hk0 (by decide) rfl rfl hs1 dX3_readMethod_33 ?_
      refine tt_getF C hok_174 jk_2 1 (by decide) jw_f222fdc0b2 (t := (0, (-2147483648), 2147483647)) hkb (by decide) rfl rfl hf_175 dX3_readMethod_36 ?_
      refine jj_iconst (v := 1) C dX3_readMethod_39 (by decide) ?_
      refine jj_icmp_eqF (tgt := 55) C dX3_readMethod_40 (by decide) (by decide) ?_
      refine jj_aload_n C dX3_readMethod_43 rfl ?_
      refine tt_getF C hok_174 jk_4 0 (by decide) jw_70cd29f103 (t := (2, 10, 0)) hk0 (by decide) rfl rfl hs0 dX3_readMethod_44 ?_
      refine jj_ldcs (k := 2) (tx := "series") C dX3_readMethod_47 (by decide +kernel) ?_
      obtain ⟨qc, gs, hqc⟩ := tt_recv (cx := []) hok_174 hkt (by decide) rfl
      refine tt_callV (rest := [.ref h0]) C (te_isWord_series hl D cA ak tk a9 n2 n_40 n_39 (0 : Int32) u c hkt hk9 (by omega) (by omega) (by omega) hc ⟨fun q => absurd q (by decide), fun q => absurd q.1 (by omega)⟩ hok_174 hx0 hf_42 hf_41 hf_43 hu) [] [] rfl rfl (by decide) (by decide) (by decide) qc hqc rfl rfl jw_b0fe72c6f4 jw_5e9522a00c jw_73cf9edcb7 jw_a9e7b602dc jw_ce1c1f12e9 jn_X9_isWord rfl (jj_le rfl) (jj_le rfl) (jj_le rfl) (jj_le rfl) (jj_le rfl) dX3_readMethod_49 rfl (fun _ _ _ hX => hX.elim) (fun rx pl_176 r O_180 => ?_)
      obtain ⟨rfl, hok_177, hr_178, ha_179, hR_181⟩ := O_180
      replace hs0 := hr_178.at hk0 (by decide) (by decide) hs0
      replace hx0 := hr_178.at hkt (by decide) (by decide) hx0
      replace hx2 := hr_178.at hkt (by decide) (by decide) hx2
      replace hs1 := hr_178.at hk0 (by decide) (by decide) hs1
      replace hf_41 := hr_178.at hkt (by decide) (by decide) hf_41
      replace hf_42 := hr_178.at hkt (by decide) (by decide) hf_42
      replace hf_43 := hr_178.at hkt (by decide) (by decide) hf_43
      replace hf_175 := hr_178.at hkb (by decide) (by decide) hf_175
      replace hu := ha_179.at hk9 (by decide) (by decide) hu
      replace hfr := hfr.trans (hr_178.sub (by decide))
      replace hfa := hfa.trans (ha_179.sub (by decide))
      rcases hR_181 with ⟨hw_182, rfl⟩ | ⟨hw_183, rfl⟩
      · refine jj_if_eqT (tgt := 59) C dX3_readMethod_52 (by decide) (by decide) ?_
        refine jj_iconst (v := 0) C dX3_readMethod_59 (by decide) ?_
        refine jj_iconst (v := 1) C dX3_readMethod_60 (by decide) ?_
        obtain ⟨qc, gs, hqc⟩ := tt_recv (cx := []) hok_177 hk0 (by decide) rfl
        refine tt_callV (rest := []) C (te_accept_01 hl D cA ak h0 hk0 hok_177) [] [] rfl rfl (by decide) (by decide) (by decide) qc hqc rfl rfl jw_713f4d2af1 jw_b3e457240a jw_58c48ce796 jw_9d546d0b6f jw_0001e2e84f jn_X3_accept rfl (jj_le rfl) (jj_le rfl) (jj_le rfl) (jj_le rfl) (jj_le rfl) dX3_readMethod_61 rfl (fun _ _ _ hX => hX.elim) (fun rx pl_184 r O_188 => ?_)
        obtain ⟨rfl, hok_185, hr_186, ha_187, hR_189⟩ := O_188
        replace hs0 := hr_186.at hk0 (by decide) (by decide) hs0
        replace hx0 := hr_186.at hkt (by decide) (by decide) hx0
        replace hx2 := hr_186.at hkt (by decide) (by decide) hx2
        replace hs1 := hr_186.at hk0 (by decide) (by decide) hs1
        replace hf_41 := hr_186.at hkt (by decide) (by decide) hf_41
        replace hf_42 := hr_186.at hkt (by decide) (by decide) hf_42
        replace hf_43 := hr_186.at hkt (by decide) (by decide) hf_43
        replace hf_175 := hr_186.at hkb (by decide) (by decide) hf_175
        replace hu := ha_187.at hk9 (by decide) (by decide) hu
        replace hfr := hfr.trans (hr_186.sub (by decide))
        replace hfa := hfa.trans (ha_187.sub (by decide))
        obtain ⟨hf_190, rfl⟩ := hR_189
        exact jj_zret C rfl ⟨[], pl_184, rfl, rfl, hok_185, hfr, hfa, (Or.inl ⟨n_39, n_40, hf_41, hf_190, ht_44, (fun q => q.elim hw_171 hw_182), rfl⟩)⟩ dX3_readMethod_64 (jj_le rfl) (jj_le rfl)
      · exact absurd (hw_183.one (n := n2) (by decide) (by unfold ps_le; decide) (by omega)).1 (by omega)
    · exact absurd (hw_172.one (n := n2) (by decide) (by unfold ps_le; decide) (by omega)).1 (by omega)

set_option maxHeartbeats 4000000 in
set_option maxRecDepth 100000 in
theorem te_readFund {l : Launch} (hl : l.stackTraces = false) (D : va_G) (cA : Nat → ClassId) (ak : (Nat → Nat) × (Nat → Nat)) {Kd : Nat → Nat} (h0 tk a9 bk : Nat) (n2 n3 : Nat) (u : Nat → Int32) (c : Nat → Int) (hk0 : Kd h0 = 17) (hkt : Kd tk = 10) (hk9 : Kd a9 = 11) (hkb : Kd bk = 1) (l2 : n2 ≤ 400) (h32 : n3 ≤ n2) (hc : ∀ k : Nat, k < n2 → c k = (u k).toInt) {pl0 : va_W} (hok : tt_ok tt_tk cA Kd pl0) (hs0 : tt_at pl0 h0 0 (.ref tk)) (hx0 : tt_at pl0 tk 0 (.ref a9)) (hx2 : tt_at pl0 tk 2 (.int (nI n2))) (hx3 : tt_at pl0 tk 3 (.int (nI n3))) (hs1 : tt_at pl0 h0 1 (.ref bk)) (hu : tt_ic pl0 a9 u) : jj_M l D cA ak yX3_readFund (.code yX3_readFund cX3_readFund 1 (some .boolean)) 6 128 0 0 ([] ++ pl0) [.ref h0] (tt_O (fun rx pl1 r => rx = [] ∧ tt_ok tt_tk cA Kd pl1 ∧ tt_fr Kd [(1, 1), (1, 2), (1, 3), (1, 4), (10, 3), (10, 4), (10, 5), (10, 6), (17, 2)] pl0 pl1 ∧ tt_fa Kd [] pl0 pl1 ∧ ((∃ k s : Nat, k ≠ 0 ∧ tt_at pl1 tk 4 (.int (nI s)) ∧ tt_at pl1 h0 2 (.int (nI k)) ∧ ps_fu c n2 (0, 0, n3) (k, s, 0) ∧ r = some (.int 0)) ∨ (∃ t : Nat, t ≤ n2 ∧ tt_at pl1 tk 3 (.int (nI t)) ∧ ps_fu c n2 (0, 0, n3) (0, 0, t) ∧ r = some (.int 1))))) (tt_OX (fun _ _ _ => False)) := by
  refine jj_start hl (by decide) jw_1a1c8b71c4 (jj_le rfl) ?_
  intro p e s m args below meth c9 A hargs hA C hex hmn
  have hfr := tt_fr.refl (K := Kd) (WS := [(1, 1), (1, 2), (1, 3), (1, 4), (10, 3), (10, 4), (10, 5), (10, 6), (17, 2)]) pl0
  have hfa := tt_fa.refl (K := Kd) (WA := []) pl0
  refine jj_aload_n C dX3_readFund_0 rfl ?_
  refine jj_ldcs (k := 0) (tx := "fund") C dX3_readFund_1 (by decide +kernel) ?_
  obtain ⟨qc, gs, hqc⟩ := tt_recv (cx := []) hok hk0 (by decide) rfl
  refine tt_callV (rest := []) C (te_readWord_fund hl D cA ak h0 tk a9 n2 n3 u c hk0 hkt hk9 (by omega) (by omega) hc hok hs0 hx0 hx2 hx3 hu) [] [] rfl rfl (by decide) (by decide) (by decide) qc hqc rfl rfl jw_35f0a2113e jw_2bd777f4eb jw_3ef85e294d jw_9d546d0b6f jw_e40f0ddd13 jn_X3_readWord rfl (jj_le rfl) (jj_le rfl) (jj_le rfl) (jj_le rfl) (jj_le rfl) dX3_readFund_3 rfl (fun _ _ _ hX => hX.elim) (fun rx pl_1 r O_5 => ?_)
  obtain ⟨rfl, hok_2, hr_3, ha_4, hR_6⟩ := O_5
  replace hs0 := hr_3.at hk0 (by decide) (by decide) hs0
  replace hx0 := hr_3.at hkt (by decide) (by decide) hx0
  replace hx2 := hr_3.at hkt (by decide) (by decide) hx2
  replace hs1 := hr_3.at hk0 (by decide) (by decide) hs1
  replace hu := ha_4.at hk9 (by decide) (by decide) hu
  replace hfr := hfr.trans (hr_3.sub (by decide))
  replace hfa := hfa.trans (ha_4.sub (by decide))
  rcases hR_6 with ⟨n_7, n_8, hf_9, hf_10, ht_11, hq_12, rfl⟩ | ⟨n_13, n_14, hf_15, ht_16, hq_17, rfl⟩
  · refine jj_if_eqT (tgt := 27) C dX3_readFund_6 (by decide) (by decide) ?_
    refine jj_iconst (v := 0) C dX3_readFund_27 (by decide) ?_
    exact jj_zret C rfl ⟨[], pl_1, rfl, rfl, hok_2, hfr, hfa, (Or.inl ⟨1, n_7, (by decide), hf_9, hf_10, ⟨(1, n_7, 0), (1, n_7, 0), (1, n_7, 0), (1, n_7, 0), (1, n_7, 0), (ps_step.no ht_11 (Or.inr ⟨hq_12, rfl⟩) (by decide)), (ps_step.st (show (1 : Nat) ≠ 0 by decide)), (ps_step.st (show (1 : Nat) ≠ 0 by decide)), (ps_step.st (show (1 : Nat) ≠ 0 by decide)), (ps_step.st (show (1 : Nat) ≠ 0 by decide)), (ps_step.st (show (1 : Nat) ≠ 0 by decide))⟩, rfl⟩)⟩ dX3_readFund_28 (jj_le rfl) (jj_le rfl)
  · have hzn_13 := ht_16.le (by omega)
    refine jj_if_eqF (tgt := 27) C dX3_readFund_6 (by decide) (by decide) ?_
    refine jj_aload_n C dX3_readFund_9 rfl ?_
    obtain ⟨qc, gs, hqc⟩ := tt_recv (cx := []) hok_2 hk0 (by decide) rfl
    refine tt_callV (rest := []) C (te_readMethod hl D cA ak h0 tk a9 bk n2 n_14 u c hk0 hkt hk9 hkb (by omega) (by omega) hc hok_2 hs0 hx0 hx2 hf_15 hs1 hu) [] [] rfl rfl (by decide) (by decide) (by decide) qc hqc rfl rfl jw_929d8e5787 jw_a38d2932de jw_290a4b4fac jw_9d546d0b6f jw_fe37aa9023 jn_X3_readMethod rfl (jj_le rfl) (jj_le rfl) (jj_le rfl) (jj_le rfl) (jj_le rfl) dX3_readFund_10 rfl (fun _ _ _ hX => hX.elim) (fun rx pl_18 r O_22 => ?_)
    obtain ⟨rfl, hok_19, hr_20, ha_21, hR_23⟩ := O_22
    replace hs0 := hr_20.at hk0 (by decide) (by decide) hs0
    replace hx0 := hr_20.at hkt (by decide) (by decide) hx0
    replace hx2 := hr_20.at hkt (by decide) (by decide) hx2
    replace hs1 := hr_20.at hk0 (by decide) (by decide) hs1
    replace hu := ha_21.at hk9 (by decide) (by decide) hu
    replace hfr := hfr.trans (hr_20.sub (by decide))
    replace hfa := hfa.trans (ha_21.sub (by decide))
    rcases hR_23 with ⟨n_24, n_25, hf_26, hf_27, ht_28, hq_29, rfl⟩ | ⟨n_30, n_31, hf_32, ht_33, hq_34, rfl⟩
    · refine jj_if_eqT (tgt := 27) C dX3_readFund_13 (by decide) (by decide) ?_
      refine jj_iconst (v := 0) C dX3_readFund_27 (by decide) ?_
      exact jj_zret C rfl ⟨[], pl_18, rfl, rfl, hok_19, hfr, hfa, (Or.inl ⟨1, n_24, (by decide), hf_26, hf_27, ⟨(0, 0, n_14), (1, n_24, 0), (1, n_24, 0), (1, n_24, 0), (1, n_24, 0), (ps_step.ok ht_16 (Or.inl ⟨hq_17, rfl⟩)), (ps_step.no ht_28 (Or.inr ⟨hq_29, rfl⟩) (by decide)), (ps_step.st (show (1 : Nat) ≠ 0 by decide)), (ps_step.st (show (1 : Nat) ≠ 0 by decide)), (ps_step.st (show (1 : Nat) ≠ 0 by decide)), (ps_step.st (show (1 : Nat) ≠ 0 by decide))⟩, rfl⟩)⟩ dX3_readFund_28 (jj_le rfl) (jj_le rfl)
    · have hzn_30 := ht_33.le (by omega)
      refine jj_if_eqF (tgt := 27) C dX3_readFund_13 (by decide) (by decide) ?_
      refine jj_aload_n C dX3_readFund_16 rfl ?_
      refine jj_iconst (v := 0) C dX3_readFund_17 (by decide) ?_
      refine jj_sipush (v := 9999) C dX3_readFund_18 (by decide) ?_
      obtain ⟨qc, gs, hqc⟩ := tt_recv (cx := []) hok_19 hk0 (by decide) rfl
      refine tt_callV (rest := []) C (te_readNumber hl D cA ak h0 tk a9 n2 n_31 u c (0 : Int32) (9999 : Int32) 0 9999 hk0 hkt hk9 (by omega) (by omega) hc (by decide) (by decide) (by omega) hok_19 hs0 hx0 hx2 hf_32 hu) [] [] rfl rfl (by decide) (by decide) (by decide) qc hqc rfl rfl jw_012f0d7bd3 jw_3c1e5a080b jw_1f143bff8b jw_9d546d0b6f jw_ad178c7ce3 jn_X3_readNumber rfl (jj_le rfl) (jj_le rfl) (jj_le rfl) (jj_le rfl) (jj_le rfl) dX3_readFund_21 rfl (fun _ _ _ hX => hX.elim) (fun rx pl_35 r O_39 => ?_)
      obtain ⟨rfl, hok_36, hr_37, ha_38, hR_40⟩ := O_39
      replace hs0 := hr_37.at hk0 (by decide) (by decide) hs0
      replace hx0 := hr_37.at hkt (by decide) (by decide) hx0
      replace hx2 := hr_37.at hkt (by decide) (by decide) hx2
      replace hs1 := hr_37.at hk0 (by decide) (by decide) hs1
      replace hu := ha_38.at hk9 (by decide) (by decide) hu
      replace hfr := hfr.trans (hr_37.sub (by decide))
      replace hfa := hfa.trans (ha_38.sub (by decide))
      rcases hR_40 with ⟨n_41, n_42, hf_43, hf_44, ht_45, hq_46, rfl⟩ | ⟨n_47, n_48, hf_49, hf_50, ht_51, hq_52, rfl⟩ | ⟨n_53, n_54, hf_55, ht_56, hq_60, hq_57, ⟨x_58, hf_59, hq_61⟩, rfl⟩
      · refine jj_if_neF (tgt := 29) C dX3_readFund_24 (by decide) (by decide) ?_
        refine jj_iconst (v := 0) C dX3_readFund_27 (by decide) ?_
        exact jj_zret C rfl ⟨[], pl_35, rfl, rfl, hok_36, hfr, hfa, (Or.inl ⟨1, n_41, (by decide), hf_43, hf_44, ⟨(0, 0, n_14), (0, 0, n_31), (1, n_41, 0), (1, n_41, 0), (1, n_41, 0), (ps_step.ok ht_16 (Or.inl ⟨hq_17, rfl⟩)), (ps_step.ok ht_33 (Or.inl ⟨hq_34, rfl⟩)), (ps_step.no ht_45 (Or.inl ⟨hq_46, rfl⟩) (by decide)), (ps_step.st (show (1 : Nat) ≠ 0 by decide)), (ps_step.st (show (1 : Nat) ≠ 0 by decide)), (ps_step.st (show (1 : Nat) ≠ 0 by decide))⟩, rfl⟩)⟩ dX3_readFund_28 (jj_le rfl) (jj_le rfl)
      · refine jj_if_neF (tgt := 29) C dX3_readFund_24 (by decide) (by decide) ?_
        refine jj_iconst (v := 0) C dX3_readFund_27 (by decide) ?_
        exact jj_zret C rfl ⟨[], pl_35, rfl, rfl, hok_36, hfr, hfa, (Or.inl ⟨2, n_47, (by decide), hf_49, hf_50, ⟨(0, 0, n_14), (0, 0, n_31), (2, n_47, 0), (2, n_47, 0), (2, n_47, 0), (ps_step.ok ht_16 (Or.inl ⟨hq_17, rfl⟩)), (ps_step.ok ht_33 (Or.inl ⟨hq_34, rfl⟩)), (ps_step.no ht_51 (Or.inr (Or.inl ⟨hq_52.1, hq_52.2, rfl⟩)) (by decide)), (ps_step.st (show (2 : Nat) ≠ 0 by decide)), (ps_step.st (show (2 : Nat) ≠ 0 by decide)), (ps_step.st (show (2 : Nat) ≠ 0 by decide))⟩, rfl⟩)⟩ dX3_readFund_28 (jj_le rfl) (jj_le rfl)
      · have hzn_53 := ht_56.le (by omega)
        have lx_58 := hq_57.2.1
        have ux_58 := hq_57.2.2
        rw [← hq_61] at lx_58 ux_58
        refine jj_if_neT (tgt := 29) C dX3_readFund_24 (by decide) (by decide) ?_
        refine jj_aload_n C dX3_readFund_29 rfl ?_
        refine tt_getF C hok_36 jk_4 1 (by decide) jw_bdf52ddf93 (t := (2, 1, 0)) hk0 (by decide) rfl rfl hs1 dX3_readFund_30 ?_
        refine jj_aload_n C dX3_readFund_33 rfl ?_
        refine tt_getF C hok_36 jk_4 0 (by decide) jw_70cd29f103 (t := (2, 10, 0)) hk0 (by decide) rfl rfl hs0 dX3_readFund_34 ?_
        refine tt_getF C hok_36 jk_10 6 (by decide) jw_c96d139a1d (t := (0, (-2147483648), 2147483647)) hkt (by decide) rfl rfl hf_59 dX3_readFund_37 ?_
        refine rl_put C hok_36 jk_2 2 (by decide) jw_9d51789d75 (t := (0, (-2147483648), 2147483647)) hkb (by decide) rfl rfl rfl (tt_ia x_58) rfl rfl dX3_readFund_40 (fun pl_62 hok_63 tr hn tl => ?_)
        replace hs0 := tr _ _ _ (Or.inl (tt_ne hk0 hkb (by decide))) hs0
        replace hx0 := tr _ _ _ (Or.inl (tt_ne hkt hkb (by decide))) hx0
        replace hx2 := tr _ _ _ (Or.inl (tt_ne hkt hkb (by decide))) hx2
        replace hs1 := tr _ _ _ (Or.inl (tt_ne hk0 hkb (by decide))) hs1
        replace hf_55 := tr _ _ _ (Or.inl (tt_ne hkt hkb (by decide))) hf_55
        replace hf_59 := tr _ _ _ (Or.inl (tt_ne hkt hkb (by decide))) hf_59
        have hf_64 := hn
        replace hfr := hfr.put hkb tr (by decide)
        replace hu := tl _ _ hu
        replace hfa := hfa.all tl
        refine jj_aload_n C dX3_readFund_43 rfl ?_
        refine jj_iconst (v := 0) C dX3_readFund_44 (by decide) ?_
        refine jj_bipush (v := 50) C dX3_readFund_45 (by decide) ?_
        obtain ⟨qc, gs, hqc⟩ := tt_recv (cx := []) hok_63 hk0 (by decide) rfl
        refine tt_callV (rest := []) C (te_readNumber hl D cA ak h0 tk a9 n2 n_54 u c (0 : Int32) (50 : Int32) 0 50 hk0 hkt hk9 (by omega) (by omega) hc (by decide) (by decide) (by omega) hok_63 hs0 hx0 hx2 hf_55 hu) [] [] rfl rfl (by decide) (by decide) (by decide) qc hqc rfl rfl jw_012f0d7bd3 jw_3c1e5a080b jw_1f143bff8b jw_9d546d0b6f jw_ad178c7ce3 jn_X3_readNumber rfl (jj_le rfl) (jj_le rfl) (jj_le rfl) (jj_le rfl) (jj_le rfl) dX3_readFund_47 rfl (fun _ _ _ hX => hX.elim) (fun rx pl_65 r O_69 => ?_)
        obtain ⟨rfl, hok_66, hr_67, ha_68, hR_70⟩ := O_69
        replace hs0 := hr_67.at hk0 (by decide) (by decide) hs0
        replace hx0 := hr_67.at hkt (by decide) (by decide) hx0
        replace hx2 := hr_67.at hkt (by decide) (by decide) hx2
        replace hs1 := hr_67.at hk0 (by decide) (by decide) hs1
        replace hf_64 := hr_67.at hkb (by decide) (by decide) hf_64
        replace hu := ha_68.at hk9 (by decide) (by decide) hu
        replace hfr := hfr.trans (hr_67.sub (by decide))
        replace hfa := hfa.trans (ha_68.sub (by decide))
        rcases hR_70 with ⟨n_71, n_72, hf_73, hf_74, ht_75, hq_76, rfl⟩ | ⟨n_77, n_78, hf_79, hf_80, ht_81, hq_82, rfl⟩ | ⟨n_83, n_84, hf_85, ht_86, hq_90, hq_87, ⟨x_88, hf_89, hq_91⟩, rfl⟩
        · refine jj_if_neF (tgt := 55) C dX3_readFund_50 (by decide) (by decide) ?_
          refine jj_iconst (v := 0) C dX3_readFund_53 (by decide) ?_
          exact jj_zret C rfl ⟨[], pl_65, rfl, rfl, hok_66, hfr, hfa, (Or.inl ⟨1, n_71, (by decide), hf_73, hf_74, ⟨(0, 0, n_14), (0, 0, n_31), (0, 0, n_54), (1, n_71, 0), (1, n_71, 0), (ps_step.ok ht_16 (Or.inl ⟨hq_17, rfl⟩)), (ps_step.ok ht_33 (Or.inl ⟨hq_34, rfl⟩)), (ps_step.ok ht_56 (Or.inr (Or.inr ⟨hq_60, hq_57, rfl⟩))), (ps_step.no ht_75 (Or.inl ⟨hq_76, rfl⟩) (by decide)), (ps_step.st (show (1 : Nat) ≠ 0 by decide)), (ps_step.st (show (1 : Nat) ≠ 0 by decide))⟩, rfl⟩)⟩ dX3_readFund_54 (jj_le rfl) (jj_le rfl)
        · refine jj_if_neF (tgt := 55) C dX3_readFund_50 (by decide) (by decide) ?_
          refine jj_iconst (v := 0) C dX3_readFund_53 (by decide) ?_
          exact jj_zret C rfl ⟨[], pl_65, rfl, rfl, hok_66, hfr, hfa, (Or.inl ⟨2, n_77, (by decide), hf_79, hf_80, ⟨(0, 0, n_14), (0, 0, n_31), (0, 0, n_54), (2, n_77, 0), (2, n_77, 0), (ps_step.ok ht_16 (Or.inl ⟨hq_17, rfl⟩)), (ps_step.ok ht_33 (Or.inl ⟨hq_34, rfl⟩)), (ps_step.ok ht_56 (Or.inr (Or.inr ⟨hq_60, hq_57, rfl⟩))), (ps_step.no ht_81 (Or.inr (Or.inl ⟨hq_82.1, hq_82.2, rfl⟩)) (by decide)), (ps_step.st (show (2 : Nat) ≠ 0 by decide)), (ps_step.st (show (2 : Nat) ≠ 0 by decide))⟩, rfl⟩)⟩ dX3_readFund_54 (jj_le rfl) (jj_le rfl)
        · have hzn_83 := ht_86.le (by omega)
          have lx_88 := hq_87.2.1
          have ux_88 := hq_87.2.2
          rw [← hq_91] at lx_88 ux_88
          refine jj_if_neT (tgt := 55) C dX3_readFund_50 (by decide) (by decide) ?_
          refine jj_aload_n C dX3_readFund_55 rfl ?_
          refine tt_getF C hok_66 jk_4 1 (by decide) jw_bdf52ddf93 (t := (2, 1, 0)) hk0 (by decide) rfl rfl hs1 dX3_readFund_56 ?_
          refine jj_aload_n C dX3_readFund_59 rfl ?_
          refine tt_getF C hok_66 jk_4 0 (by decide) jw_70cd29f103 (t := (2, 10, 0)) hk0 (by decide) rfl rfl hs0 dX3_readFund_60 ?_
          refine tt_getF C hok_66 jk_10 6 (by decide) jw_c96d139a1d (t := (0, (-2147483648), 2147483647)) hkt (by decide) rfl rfl hf_89 dX3_readFund_63 ?_
          refine rl_put C hok_66 jk_2 3 (by decide) jw_fb3bcf590b (t := (0, (-2147483648), 2147483647)) hkb (by decide) rfl rfl rfl (tt_ia x_88) rfl rfl dX3_readFund_66 (fun pl_92 hok_93 tr hn tl => ?_)
          replace hs0 := tr _ _ _ (Or.inl (tt_ne hk0 hkb (by decide))) hs0
          replace hx0 := tr _ _ _ (Or.inl (tt_ne hkt hkb (by decide))) hx0
          replace hx2 := tr _ _ _ (Or.inl (tt_ne hkt hkb (by decide))) hx2
          replace hs1 := tr _ _ _ (Or.inl (tt_ne hk0 hkb (by decide))) hs1
          replace hf_64 := tr _ _ _ (Or.inr (by decide)) hf_64
          replace hf_85 := tr _ _ _ (Or.inl (tt_ne hkt hkb (by decide))) hf_85
          replace hf_89 := tr _ _ _ (Or.inl (tt_ne hkt hkb (by decide))) hf_89
          have hf_94 := hn
          replace hfr := hfr.put hkb tr (by decide)
          replace hu := tl _ _ hu
          replace hfa := hfa.all tl
          refine jj_aload_n C dX3_readFund_69 rfl ?_
          refine jj_iconst (v := 1) C dX3_readFund_70 (by decide) ?_
          refine jj_bipush (v := 100) C dX3_readFund_71 (by decide) ?_
          obtain ⟨qc, gs, hqc⟩ := tt_recv (cx := []) hok_93 hk0 (by decide) rfl
          refine tt_callV (rest := []) C (te_readNumber hl D cA ak h0 tk a9 n2 n_84 u c (1 : Int32) (100 : Int32) 1 100 hk0 hkt hk9 (by omega) (by omega) hc (by decide) (by decide) (by omega) hok_93 hs0 hx0 hx2 hf_85 hu) [] [] rfl rfl (by decide) (by decide) (by decide) qc hqc rfl rfl jw_012f0d7bd3 jw_3c1e5a080b jw_1f143bff8b jw_9d546d0b6f jw_ad178c7ce3 jn_X3_readNumber rfl (jj_le rfl) (jj_le rfl) (jj_le rfl) (jj_le rfl) (jj_le rfl) dX3_readFund_73 rfl (fun _ _ _ hX => hX.elim) (fun rx pl_95 r O_99 => ?_)
          obtain ⟨rfl, hok_96, hr_97, ha_98, hR_100⟩ := O_99
          replace hs0 := hr_97.at hk0 (by decide) (by decide) hs0
          replace hx0 := hr_97.at hkt (by decide) (by decide) hx0
          replace hx2 := hr_97.at hkt (by decide) (by decide) hx2
          replace hs1 := hr_97.at hk0 (by decide) (by decide) hs1
          replace hf_64 := hr_97.at hkb (by decide) (by decide) hf_64
          replace hf_94 := hr_97.at hkb (by decide) (by decide) hf_94
          replace hu := ha_98.at hk9 (by decide) (by decide) hu
          replace hfr := hfr.trans (hr_97.sub (by decide))
          replace hfa := hfa.trans (ha_98.sub (by decide))
          rcases hR_100 with ⟨n_101, n_102, hf_103, hf_104, ht_105, hq_106, rfl⟩ | ⟨n_107, n_108, hf_109, hf_110, ht_111, hq_112, rfl⟩ | ⟨n_113, n_114, hf_115, ht_116, hq_120, hq_117, ⟨x_118, hf_119, hq_121⟩, rfl⟩
          · refine jj_if_neF (tgt := 81) C dX3_readFund_76 (by decide) (by decide) ?_
            refine jj_iconst (v := 0) C dX3_readFund_79 (by decide) ?_
            exact jj_zret C rfl ⟨[], pl_95, rfl, rfl, hok_96, hfr, hfa, (Or.inl ⟨1, n_101, (by decide), hf_103, hf_104, ⟨(0, 0, n_14), (0, 0, n_31), (0, 0, n_54), (0, 0, n_84), (1, n_101, 0), (ps_step.ok ht_16 (Or.inl ⟨hq_17, rfl⟩)), (ps_step.ok ht_33 (Or.inl ⟨hq_34, rfl⟩)), (ps_step.ok ht_56 (Or.inr (Or.inr ⟨hq_60, hq_57, rfl⟩))), (ps_step.ok ht_86 (Or.inr (Or.inr ⟨hq_90, hq_87, rfl⟩))), (ps_step.no ht_105 (Or.inl ⟨hq_106, rfl⟩) (by decide)), (ps_step.st (show (1 : Nat) ≠ 0 by decide))⟩, rfl⟩)⟩ dX3_readFund_80 (jj_le rfl) (jj_le rfl)
          · refine jj_if_neF (tgt := 81) C dX3_readFund_76 (by decide) (by decide) ?_
            refine jj_iconst (v := 0) C dX3_readFund_79 (by decide) ?_
            exact jj_zret C rfl ⟨[], pl_95, rfl, rfl, hok_96, hfr, hfa, (Or.inl ⟨2, n_107, (by decide), hf_109, hf_110, ⟨(0, 0, n_14), (0, 0, n_31), (0, 0, n_54), (0, 0, n_84), (2, n_107, 0), (ps_step.ok ht_16 (Or.inl ⟨hq_17, rfl⟩)), (ps_step.ok ht_33 (Or.inl ⟨hq_34, rfl⟩)), (ps_step.ok ht_56 (Or.inr (Or.inr ⟨hq_60, hq_57, rfl⟩))), (ps_step.ok ht_86 (Or.inr (Or.inr ⟨hq_90, hq_87, rfl⟩))), (ps_step.no ht_111 (Or.inr (Or.inl ⟨hq_112.1, hq_112.2, rfl⟩)) (by decide)), (ps_step.st (show (2 : Nat) ≠ 0 by decide))⟩, rfl⟩)⟩ dX3_readFund_80 (jj_le rfl) (jj_le rfl)
          · have hzn_113 := ht_116.le (by omega)
            have lx_118 := hq_117.2.1
            have ux_118 := hq_117.2.2
            rw [← hq_121] at lx_118 ux_118
            refine jj_if_neT (tgt := 81) C dX3_readFund_76 (by decide) (by decide) ?_
            refine jj_aload_n C dX3_readFund_81 rfl ?_
            refine tt_getF C hok_96 jk_4 1 (by decide) jw_bdf52ddf93 (t := (2, 1, 0)) hk0 (by decide) rfl rfl hs1 dX3_readFund_82 ?_
            refine jj_aload_n C dX3_readFund_85 rfl ?_
            refine tt_getF C hok_96 jk_4 0 (by decide) jw_70cd29f103 (t := (2, 10, 0)) hk0 (by decide) rfl rfl hs0 dX3_readFund_86 ?_
            refine tt_getF C hok_96 jk_10 6 (by decide) jw_c96d139a1d (t := (0, (-2147483648), 2147483647)) hkt (by decide) rfl rfl hf_119 dX3_readFund_89 ?_
            refine rl_put C hok_96 jk_2 4 (by decide) jw_3fe4d4aa21 (t := (0, (-2147483648), 2147483647)) hkb (by decide) rfl rfl rfl (tt_ia x_118) rfl rfl dX3_readFund_92 (fun pl_122 hok_123 tr hn tl => ?_)
            replace hs0 := tr _ _ _ (Or.inl (tt_ne hk0 hkb (by decide))) hs0
            replace hx0 := tr _ _ _ (Or.inl (tt_ne hkt hkb (by decide))) hx0
            replace hx2 := tr _ _ _ (Or.inl (tt_ne hkt hkb (by decide))) hx2
            replace hs1 := tr _ _ _ (Or.inl (tt_ne hk0 hkb (by decide))) hs1
            replace hf_64 := tr _ _ _ (Or.inr (by decide)) hf_64
            replace hf_94 := tr _ _ _ (Or.inr (by decide)) hf_94
            replace hf_115 := tr _ _ _ (Or.inl (tt_ne hkt hkb (by decide))) hf_115
            replace hf_119 := tr _ _ _ (Or.inl (tt_ne hkt hkb (by decide))) hf_119
            have hf_124 := hn
            replace hfr := hfr.put hkb tr (by decide)
            replace hu := tl _ _ hu
            replace hfa := hfa.all tl
            refine jj_aload_n C dX3_readFund_95 rfl ?_
            obtain ⟨qc, gs, hqc⟩ := tt_recv (cx := []) hok_123 hk0 (by decide) rfl
            refine tt_callV (rest := []) C (te_readSemicolon hl D cA ak h0 tk a9 n2 n_114 u c hk0 hkt hk9 (by omega) (by omega) hc hok_123 hs0 hx0 hx2 hf_115 hu) [] [] rfl rfl (by decide) (by decide) (by decide) qc hqc rfl rfl jw_3b321ba845 jw_25d4a051a9 jw_00e33b0681 jw_9d546d0b6f jw_469c7bc0ab jn_X3_readSemicolon rfl (jj_le rfl) (jj_le rfl) (jj_le rfl) (jj_le rfl) (jj_le rfl) dX3_readFund_96 rfl (fun _ _ _ hX => hX.elim) (fun rx pl_125 r O_129 => ?_)
            obtain ⟨rfl, hok_126, hr_127, ha_128, hR_130⟩ := O_129
            replace hs0 := hr_127.at hk0 (by decide) (by decide) hs0
            replace hx0 := hr_127.at hkt (by decide) (by decide) hx0
            replace hx2 := hr_127.at hkt (by decide) (by decide) hx2
            replace hs1 := hr_127.at hk0 (by decide) (by decide) hs1
            replace hf_64 := hr_127.at hkb (by decide) (by decide) hf_64
            replace hf_94 := hr_127.at hkb (by decide) (by decide) hf_94
            replace hf_124 := hr_127.at hkb (by decide) (by decide) hf_124
            replace hu := ha_128.at hk9 (by decide) (by decide) hu
            replace hfr := hfr.trans (hr_127.sub (by decide))
            replace hfa := hfa.trans (ha_128.sub (by decide))
            rcases hR_130 with ⟨n_131, n_132, hf_133, hf_134, ht_135, hq_136, rfl⟩ | ⟨n_137, n_138, hf_139, ht_140, hq_141, rfl⟩
            · exact jj_zret C rfl ⟨[], pl_125, rfl, rfl, hok_126, hfr, hfa, (Or.inl ⟨1, n_131, (by decide), hf_133, hf_134, ⟨(0, 0, n_14), (0, 0, n_31), (0, 0, n_54), (0, 0, n_84), (0, 0, n_114), (ps_step.ok ht_16 (Or.inl ⟨hq_17, rfl⟩)), (ps_step.ok ht_33 (Or.inl ⟨hq_34, rfl⟩)), (ps_step.ok ht_56 (Or.inr (Or.inr ⟨hq_60, hq_57, rfl⟩))), (ps_step.ok ht_86 (Or.inr (Or.inr ⟨hq_90, hq_87, rfl⟩))), (ps_step.ok ht_116 (Or.inr (Or.inr ⟨hq_120, hq_117, rfl⟩))), (ps_step.no ht_135 (Or.inr ⟨hq_136, rfl⟩) (by decide))⟩, rfl⟩)⟩ dX3_readFund_99 (jj_le rfl) (jj_le rfl)
            · have hzn_137 := ht_140.le (by omega)
              exact jj_zret C rfl ⟨[], pl_125, rfl, rfl, hok_126, hfr, hfa, (Or.inr ⟨n_138, (by omega), hf_139, ⟨(0, 0, n_14), (0, 0, n_31), (0, 0, n_54), (0, 0, n_84), (0, 0, n_114), (ps_step.ok ht_16 (Or.inl ⟨hq_17, rfl⟩)), (ps_step.ok ht_33 (Or.inl ⟨hq_34, rfl⟩)), (ps_step.ok ht_56 (Or.inr (Or.inr ⟨hq_60, hq_57, rfl⟩))), (ps_step.ok ht_86 (Or.inr (Or.inr ⟨hq_90, hq_87, rfl⟩))), (ps_step.ok ht_116 (Or.inr (Or.inr ⟨hq_120, hq_117, rfl⟩))), (ps_step.ok ht_140 (Or.inl ⟨hq_141, rfl⟩))⟩, rfl⟩)⟩ dX3_readFund_99 (jj_le rfl) (jj_le rfl)

set_option maxHeartbeats 4000000 in
set_option maxRecDepth 100000 in
theorem te_readInvestors {l : Launch} (hl : l.stackTraces = false) (D : va_G) (cA : Nat → ClassId) (ak : (Nat → Nat) × (Nat → Nat)) {Kd : Nat → Nat} (h0 tk a9 bk : Nat) (n2 n3 : Nat) (u : Nat → Int32) (c : Nat → Int) (hk0 : Kd h0 = 17) (hkt : Kd tk = 10) (hk9 : Kd a9 = 11) (hkb : Kd bk = 1) (l2 : n2 ≤ 400) (h32 : n3 ≤ n2) (hc : ∀ k : Nat, k < n2 → c k = (u k).toInt) {pl0 : va_W} (hok : tt_ok tt_tk cA Kd pl0) (hs0 : tt_at pl0 h0 0 (.ref tk)) (hx0 : tt_at pl0 tk 0 (.ref a9)) (hx2 : tt_at pl0 tk 2 (.int (nI n2))) (hx3 : tt_at pl0 tk 3 (.int (nI n3))) (hs1 : tt_at pl0 h0 1 (.ref bk)) (hu : tt_ic pl0 a9 u) : jj_M l D cA ak yX3_readInvestors (.code yX3_readInvestors cX3_readInvestors 1 (some .boolean)) 6 128 0 0 ([] ++ pl0) [.ref h0] (tt_O (fun rx pl1 r => rx = [] ∧ tt_ok tt_tk cA Kd pl1 ∧ tt_fr Kd [(1, 0), (10, 3), (10, 4), (10, 5), (10, 6), (17, 2)] pl0 pl1 ∧ tt_fa Kd [] pl0 pl1 ∧ ((∃ k s : Nat, k ≠ 0 ∧ tt_at pl1 tk 4 (.int (nI s)) ∧ tt_at pl1 h0 2 (.int (nI k)) ∧ (∃ i : Int, ps_in c n2 (0, 0, n3) (k, s, 0) i) ∧ r = some (.int 0)) ∨ (∃ t : Nat, t ≤ n2 ∧ tt_at pl1 tk 3 (.int (nI t)) ∧ (∃ v : Int32, tt_at pl1 bk 0 (.int v) ∧ 1 ≤ v.toInt ∧ v.toInt ≤ 6 ∧ ps_in c n2 (0, 0, n3) (0, 0, t) v.toInt) ∧ r = some (.int 1))))) (tt_OX (fun _ _ _ => False)) := by
  refine jj_start hl (by decide) jw_a68ab282d7 (jj_le rfl) ?_
  intro p e s m args below meth c9 A hargs hA C hex hmn
  have hfr := tt_fr.refl (K := Kd) (WS := [(1, 0), (10, 3), (10, 4), (10, 5), (10, 6), (17, 2)]) pl0
  have hfa := tt_fa.refl (K := Kd) (WA := []) pl0
  refine jj_aload_n C dX3_readInvestors_0 rfl ?_
  refine jj_ldcs (k := 3) (tx := "investors") C dX3_readInvestors_1 (by decide +kernel) ?_
  obtain ⟨qc, gs, hqc⟩ := tt_recv (cx := []) hok hk0 (by decide) rfl
  refine tt_callV (rest := []) C (te_readWord_investors hl D cA ak h0 tk a9 n2 n3 u c hk0 hkt hk9 (by omega) (by omega) hc hok hs0 hx0 hx2 hx3 hu) [] [] rfl rfl (by decide) (by decide) (by decide) qc hqc rfl rfl jw_35f0a2113e jw_2bd777f4eb jw_3ef85e294d jw_9d546d0b6f jw_e40f0ddd13 jn_X3_readWord rfl (jj_le rfl) (jj_le rfl) (jj_le rfl) (jj_le rfl) (jj_le rfl) dX3_readInvestors_3 rfl (fun _ _ _ hX => hX.elim) (fun rx pl_1 r O_5 => ?_)
  obtain ⟨rfl, hok_2, hr_3, ha_4, hR_6⟩ := O_5
  replace hs0 := hr_3.at hk0 (by decide) (by decide) hs0
  replace hx0 := hr_3.at hkt (by decide) (by decide) hx0
  replace hx2 := hr_3.at hkt (by decide) (by decide) hx2
  replace hs1 := hr_3.at hk0 (by decide) (by decide) hs1
  replace hu := ha_4.at hk9 (by decide) (by decide) hu
  replace hfr := hfr.trans (hr_3.sub (by decide))
  replace hfa := hfa.trans (ha_4.sub (by decide))
  rcases hR_6 with ⟨n_7, n_8, hf_9, hf_10, ht_11, hq_12, rfl⟩ | ⟨n_13, n_14, hf_15, ht_16, hq_17, rfl⟩
  · refine jj_if_eqT (tgt := 19) C dX3_readInvestors_6 (by decide) (by decide) ?_
    refine jj_iconst (v := 0) C dX3_readInvestors_19 (by decide) ?_
    exact jj_zret C rfl ⟨[], pl_1, rfl, rfl, hok_2, hfr, hfa, (Or.inl ⟨1, n_7, (by decide), hf_9, hf_10, ⟨0, ⟨(1, n_7, 0), (1, n_7, 0), (ps_step.no ht_11 (Or.inr ⟨hq_12, rfl⟩) (by decide)), (ps_step.st (show (1 : Nat) ≠ 0 by decide)), (ps_step.st (show (1 : Nat) ≠ 0 by decide)), (fun e => absurd e (show ¬ ((1 : Nat) = 0) by decide))⟩⟩, rfl⟩)⟩ dX3_readInvestors_20 (jj_le rfl) (jj_le rfl)
  · have hzn_13 := ht_16.le (by omega)
    refine jj_if_eqF (tgt := 19) C dX3_readInvestors_6 (by decide) (by decide) ?_
    refine jj_aload_n C dX3_readInvestors_9 rfl ?_
    refine jj_iconst (v := 1) C dX3_readInvestors_10 (by decide) ?_
    refine jj_bipush (v := 6) C dX3_readInvestors_11 (by decide) ?_
    obtain ⟨qc, gs, hqc⟩ := tt_recv (cx := []) hok_2 hk0 (by decide) rfl
    refine tt_callV (rest := []) C (te_readNumber hl D cA ak h0 tk a9 n2 n_14 u c (1 : Int32) (6 : Int32) 1 6 hk0 hkt hk9 (by omega) (by omega) hc (by decide) (by decide) (by omega) hok_2 hs0 hx0 hx2 hf_15 hu) [] [] rfl rfl (by decide) (by decide) (by decide) qc hqc rfl rfl jw_012f0d7bd3 jw_3c1e5a080b jw_1f143bff8b jw_9d546d0b6f jw_ad178c7ce3 jn_X3_readNumber rfl (jj_le rfl) (jj_le rfl) (jj_le rfl) (jj_le rfl) (jj_le rfl) dX3_readInvestors_13 rfl (fun _ _ _ hX => hX.elim) (fun rx pl_18 r O_22 => ?_)
    obtain ⟨rfl, hok_19, hr_20, ha_21, hR_23⟩ := O_22
    replace hs0 := hr_20.at hk0 (by decide) (by decide) hs0
    replace hx0 := hr_20.at hkt (by decide) (by decide) hx0
    replace hx2 := hr_20.at hkt (by decide) (by decide) hx2
    replace hs1 := hr_20.at hk0 (by decide) (by decide) hs1
    replace hu := ha_21.at hk9 (by decide) (by decide) hu
    replace hfr := hfr.trans (hr_20.sub (by decide))
    replace hfa := hfa.trans (ha_21.sub (by decide))
    rcases hR_23 with ⟨n_24, n_25, hf_26, hf_27, ht_28, hq_29, rfl⟩ | ⟨n_30, n_31, hf_32, hf_33, ht_34, hq_35, rfl⟩ | ⟨n_36, n_37, hf_38, ht_39, hq_43, hq_40, ⟨x_41, hf_42, hq_44⟩, rfl⟩
    · refine jj_if_neF (tgt := 21) C dX3_readInvestors_16 (by decide) (by decide) ?_
      refine jj_iconst (v := 0) C dX3_readInvestors_19 (by decide) ?_
      exact jj_zret C rfl ⟨[], pl_18, rfl, rfl, hok_19, hfr, hfa, (Or.inl ⟨1, n_24, (by decide), hf_26, hf_27, ⟨_, ⟨(0, 0, n_14), (1, n_24, 0), (ps_step.ok ht_16 (Or.inl ⟨hq_17, rfl⟩)), (ps_step.no ht_28 (Or.inl ⟨hq_29, rfl⟩) (by decide)), (ps_step.st (show (1 : Nat) ≠ 0 by decide)), (fun _ => ⟨n_24, n_25, ht_28, rfl⟩)⟩⟩, rfl⟩)⟩ dX3_readInvestors_20 (jj_le rfl) (jj_le rfl)
    · refine jj_if_neF (tgt := 21) C dX3_readInvestors_16 (by decide) (by decide) ?_
      refine jj_iconst (v := 0) C dX3_readInvestors_19 (by decide) ?_
      exact jj_zret C rfl ⟨[], pl_18, rfl, rfl, hok_19, hfr, hfa, (Or.inl ⟨2, n_30, (by decide), hf_32, hf_33, ⟨_, ⟨(0, 0, n_14), (2, n_30, 0), (ps_step.ok ht_16 (Or.inl ⟨hq_17, rfl⟩)), (ps_step.no ht_34 (Or.inr (Or.inl ⟨hq_35.1, hq_35.2, rfl⟩)) (by decide)), (ps_step.st (show (2 : Nat) ≠ 0 by decide)), (fun _ => ⟨n_30, n_31, ht_34, rfl⟩)⟩⟩, rfl⟩)⟩ dX3_readInvestors_20 (jj_le rfl) (jj_le rfl)
    · have hzn_36 := ht_39.le (by omega)
      have lx_41 := hq_40.2.1
      have ux_41 := hq_40.2.2
      rw [← hq_44] at lx_41 ux_41
      refine jj_if_neT (tgt := 21) C dX3_readInvestors_16 (by decide) (by decide) ?_
      refine jj_aload_n C dX3_readInvestors_21 rfl ?_
      refine tt_getF C hok_19 jk_4 1 (by decide) jw_bdf52ddf93 (t := (2, 1, 0)) hk0 (by decide) rfl rfl hs1 dX3_readInvestors_22 ?_
      refine jj_aload_n C dX3_readInvestors_25 rfl ?_
      refine tt_getF C hok_19 jk_4 0 (by decide) jw_70cd29f103 (t := (2, 10, 0)) hk0 (by decide) rfl rfl hs0 dX3_readInvestors_26 ?_
      refine tt_getF C hok_19 jk_10 6 (by decide) jw_c96d139a1d (t := (0, (-2147483648), 2147483647)) hkt (by decide) rfl rfl hf_42 dX3_readInvestors_29 ?_
      refine rl_put C hok_19 jk_2 0 (by decide) jw_b7c31a179b (t := (0, (-2147483648), 2147483647)) hkb (by decide) rfl rfl rfl (tt_ia x_41) rfl rfl dX3_readInvestors_32 (fun pl_45 hok_46 tr hn tl => ?_)
      replace hs0 := tr _ _ _ (Or.inl (tt_ne hk0 hkb (by decide))) hs0
      replace hx0 := tr _ _ _ (Or.inl (tt_ne hkt hkb (by decide))) hx0
      replace hx2 := tr _ _ _ (Or.inl (tt_ne hkt hkb (by decide))) hx2
      replace hs1 := tr _ _ _ (Or.inl (tt_ne hk0 hkb (by decide))) hs1
      replace hf_38 := tr _ _ _ (Or.inl (tt_ne hkt hkb (by decide))) hf_38
      replace hf_42 := tr _ _ _ (Or.inl (tt_ne hkt hkb (by decide))) hf_42
      have hf_47 := hn
      replace hfr := hfr.put hkb tr (by decide)
      replace hu := tl _ _ hu
      replace hfa := hfa.all tl
      refine jj_aload_n C dX3_readInvestors_35 rfl ?_
      obtain ⟨qc, gs, hqc⟩ := tt_recv (cx := []) hok_46 hk0 (by decide) rfl
      refine tt_callV (rest := []) C (te_readSemicolon hl D cA ak h0 tk a9 n2 n_37 u c hk0 hkt hk9 (by omega) (by omega) hc hok_46 hs0 hx0 hx2 hf_38 hu) [] [] rfl rfl (by decide) (by decide) (by decide) qc hqc rfl rfl jw_3b321ba845 jw_25d4a051a9 jw_00e33b0681 jw_9d546d0b6f jw_469c7bc0ab jn_X3_readSemicolon rfl (jj_le rfl) (jj_le rfl) (jj_le rfl) (jj_le rfl) (jj_le rfl) dX3_readInvestors_36 rfl (fun _ _ _ hX => hX.elim) (fun rx pl_48 r O_52 => ?_)
      obtain ⟨rfl, hok_49, hr_50, ha_51, hR_53⟩ := O_52
      replace hs0 := hr_50.at hk0 (by decide) (by decide) hs0
      replace hx0 := hr_50.at hkt (by decide) (by decide) hx0
      replace hx2 := hr_50.at hkt (by decide) (by decide) hx2
      replace hs1 := hr_50.at hk0 (by decide) (by decide) hs1
      replace hf_47 := hr_50.at hkb (by decide) (by decide) hf_47
      replace hu := ha_51.at hk9 (by decide) (by decide) hu
      replace hfr := hfr.trans (hr_50.sub (by decide))
      replace hfa := hfa.trans (ha_51.sub (by decide))
      rcases hR_53 with ⟨n_54, n_55, hf_56, hf_57, ht_58, hq_59, rfl⟩ | ⟨n_60, n_61, hf_62, ht_63, hq_64, rfl⟩
      · exact jj_zret C rfl ⟨[], pl_48, rfl, rfl, hok_49, hfr, hfa, (Or.inl ⟨1, n_54, (by decide), hf_56, hf_57, ⟨_, ⟨(0, 0, n_14), (0, 0, n_37), (ps_step.ok ht_16 (Or.inl ⟨hq_17, rfl⟩)), (ps_step.ok ht_39 (Or.inr (Or.inr ⟨hq_43, hq_40, rfl⟩))), (ps_step.no ht_58 (Or.inr ⟨hq_59, rfl⟩) (by decide)), (fun _ => ⟨n_36, n_37, ht_39, rfl⟩)⟩⟩, rfl⟩)⟩ dX3_readInvestors_39 (jj_le rfl) (jj_le rfl)
      · have hzn_60 := ht_63.le (by omega)
        exact jj_zret C rfl ⟨[], pl_48, rfl, rfl, hok_49, hfr, hfa, (Or.inr ⟨n_61, (by omega), hf_62, ⟨x_41, hf_47, (by omega), (by omega), ⟨(0, 0, n_14), (0, 0, n_37), (ps_step.ok ht_16 (Or.inl ⟨hq_17, rfl⟩)), (ps_step.ok ht_39 (Or.inr (Or.inr ⟨hq_43, hq_40, rfl⟩))), (ps_step.ok ht_63 (Or.inl ⟨hq_64, rfl⟩)), (fun _ => ⟨n_36, n_37, ht_39, hq_44⟩)⟩⟩, rfl⟩)⟩ dX3_readInvestors_39 (jj_le rfl) (jj_le rfl)
