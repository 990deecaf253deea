
set_option maxHeartbeats 4000000 in
set_option maxRecDepth 100000 in
theorem te_accept_01 {l : Launch} (hl : l.stackTraces = false) (D : va_G) (cA : Nat → ClassId) (ak : (Nat → Nat) × (Nat → Nat)) {Kd : Nat → Nat} (h0 : Nat) (hk0 : Kd h0 = 17) {pl0 : va_W} (hok : tt_ok tt_tk cA Kd pl0) : jj_M l D cA ak yX3_accept (.code yX3_accept cX3_accept 3 (some .boolean)) 0 0 0 0 ([] ++ pl0) [.ref h0, .int 0, .int 1] (tt_O (fun rx pl1 r => rx = [] ∧ tt_ok tt_tk cA Kd pl1 ∧ tt_fr Kd [(17, 2)] pl0 pl1 ∧ tt_fa Kd [] pl0 pl1 ∧ ((tt_at pl1 h0 2 (.int 1) ∧ r = some (.int 0))))) (tt_OX (fun _ _ _ => False)) := by
  refine jj_start hl (by decide) jw_0001e2e84f (jj_le rfl) ?_
  intro p e s m args below meth c9 A hargs hA C hex hmn
  have hfr := tt_fr.refl (K := Kd) (WS := [(17, 2)]) pl0
  have hfa := tt_fa.refl (K := Kd) (WA := []) pl0
  refine jj_iload_n C dX3_accept_0 rfl ?_
  refine jj_if_neF (tgt := 9) C dX3_accept_1 (by decide) (by decide) ?_
  refine jj_aload_n C dX3_accept_4 rfl ?_
  refine jj_iload_n C dX3_accept_5 rfl ?_
  refine rl_put C hok jk_4 2 (by decide) jw_c9663815d9 (t := (0, (-2147483648), 2147483647)) hk0 (by decide) rfl rfl rfl (tt_ia (1 : Int32)) rfl rfl dX3_accept_6 (fun pl_1 hok_2 tr hn tl => ?_)
  have hf_3 := hn
  replace hfr := hfr.put hk0 tr (by decide)
  replace hfa := hfa.all tl
  refine jj_iload_n C dX3_accept_9 rfl ?_
  exact jj_zret C rfl ⟨[], pl_1, rfl, rfl, hok_2, hfr, hfa, ⟨hf_3, rfl⟩⟩ dX3_accept_10 (jj_le rfl) (jj_le rfl)

set_option maxHeartbeats 4000000 in
set_option maxRecDepth 100000 in
theorem te_accept_02 {l : Launch} (hl : l.stackTraces = false) (D : va_G) (cA : Nat → ClassId) (ak : (Nat → Nat) × (Nat → Nat)) {Kd : Nat → Nat} (h0 : Nat) (hk0 : Kd h0 = 17) {pl0 : va_W} (hok : tt_ok tt_tk cA Kd pl0) : jj_M l D cA ak yX3_accept (.code yX3_accept cX3_accept 3 (some .boolean)) 0 0 0 0 ([] ++ pl0) [.ref h0, .int 0, .int 2] (tt_O (fun rx pl1 r => rx = [] ∧ tt_ok tt_tk cA Kd pl1 ∧ tt_fr Kd [(17, 2)] pl0 pl1 ∧ tt_fa Kd [] pl0 pl1 ∧ ((tt_at pl1 h0 2 (.int 2) ∧ r = some (.int 0))))) (tt_OX (fun _ _ _ => False)) := by
  refine jj_start hl (by decide) jw_0001e2e84f (jj_le rfl) ?_
  intro p e s m args below meth c9 A hargs hA C hex hmn
  have hfr := tt_fr.refl (K := Kd) (WS := [(17, 2)]) pl0
  have hfa := tt_fa.refl (K := Kd) (WA := []) pl0
  refine jj_iload_n C dX3_accept_0 rfl ?_
  refine jj_if_neF (tgt := 9) C dX3_accept_1 (by decide) (by decide) ?_
  refine jj_aload_n C dX3_accept_4 rfl ?_
  refine jj_iload_n C dX3_accept_5 rfl ?_
  refine rl_put C hok jk_4 2 (by decide) jw_c9663815d9 (t := (0, (-2147483648), 2147483647)) hk0 (by decide) rfl rfl rfl (tt_ia (2 : Int32)) rfl rfl dX3_accept_6 (fun pl_1 hok_2 tr hn tl => ?_)
  have hf_3 := hn
  replace hfr := hfr.put hk0 tr (by decide)
  replace hfa := hfa.all tl
  refine jj_iload_n C dX3_accept_9 rfl ?_
  exact jj_zret C rfl ⟨[], pl_1, rfl, rfl, hok_2, hfr, hfa, ⟨hf_3, rfl⟩⟩ dX3_accept_10 (jj_le rfl) (jj_le rfl)

set_option maxHeartbeats 4000000 in
set_option maxRecDepth 100000 in
theorem te_accept_03 {l : Launch} (hl : l.stackTraces = false) (D : va_G) (cA : Nat → ClassId) (ak : (Nat → Nat) × (Nat → Nat)) {Kd : Nat → Nat} (h0 : Nat) (hk0 : Kd h0 = 17) {pl0 : va_W} (hok : tt_ok tt_tk cA Kd pl0) : jj_M l D cA ak yX3_accept (.code yX3_accept cX3_accept 3 (some .boolean)) 0 0 0 0 ([] ++ pl0) [.ref h0, .int 0, .int 3] (tt_O (fun rx pl1 r => rx = [] ∧ tt_ok tt_tk cA Kd pl1 ∧ tt_fr Kd [(17, 2)] pl0 pl1 ∧ tt_fa Kd [] pl0 pl1 ∧ ((tt_at pl1 h0 2 (.int 3) ∧ r = some (.int 0))))) (tt_OX (fun _ _ _ => False)) := by
  refine jj_start hl (by decide) jw_0001e2e84f (jj_le rfl) ?_
  intro p e s m args below meth c9 A hargs hA C hex hmn
  have hfr := tt_fr.refl (K := Kd) (WS := [(17, 2)]) pl0
  have hfa := tt_fa.refl (K := Kd) (WA := []) pl0
  refine jj_iload_n C dX3_accept_0 rfl ?_
  refine jj_if_neF (tgt := 9) C dX3_accept_1 (by decide) (by decide) ?_
  refine jj_aload_n C dX3_accept_4 rfl ?_
  refine jj_iload_n C dX3_accept_5 rfl ?_
  refine rl_put C hok jk_4 2 (by decide) jw_c9663815d9 (t := (0, (-2147483648), 2147483647)) hk0 (by decide) rfl rfl rfl (tt_ia (3 : Int32)) rfl rfl dX3_accept_6 (fun pl_1 hok_2 tr hn tl => ?_)
  have hf_3 := hn
  replace hfr := hfr.put hk0 tr (by decide)
  replace hfa := hfa.all tl
  refine jj_iload_n C dX3_accept_9 rfl ?_
  exact jj_zret C rfl ⟨[], pl_1, rfl, rfl, hok_2, hfr, hfa, ⟨hf_3, rfl⟩⟩ dX3_accept_10 (jj_le rfl) (jj_le rfl)

set_option maxHeartbeats 4000000 in
set_option maxRecDepth 100000 in
theorem te_accept_11 {l : Launch} (hl : l.stackTraces = false) (D : va_G) (cA : Nat → ClassId) (ak : (Nat → Nat) × (Nat → Nat)) {Kd : Nat → Nat} (h0 : Nat) (hk0 : Kd h0 = 17) {pl0 : va_W} (hok : tt_ok tt_tk cA Kd pl0) : jj_M l D cA ak yX3_accept (.code yX3_accept cX3_accept 3 (some .boolean)) 0 0 0 0 ([] ++ pl0) [.ref h0, .int 1, .int 1] (tt_O (fun rx pl1 r => rx = [] ∧ tt_ok tt_tk cA Kd pl1 ∧ tt_fr Kd [] pl0 pl1 ∧ tt_fa Kd [] pl0 pl1 ∧ ((r = some (.int 1))))) (tt_OX (fun _ _ _ => False)) := by
  refine jj_start hl (by decide) jw_0001e2e84f (jj_le rfl) ?_
  intro p e s m args below meth c9 A hargs hA C hex hmn
  have hfr := tt_fr.refl (K := Kd) (WS := []) pl0
  have hfa := tt_fa.refl (K := Kd) (WA := []) pl0
  refine jj_iload_n C dX3_accept_0 rfl ?_
  refine jj_if_neT (tgt := 9) C dX3_accept_1 (by decide) (by decide) ?_
  refine jj_iload_n C dX3_accept_9 rfl ?_
  exact jj_zret C rfl ⟨[], pl0, rfl, rfl, hok, hfr, hfa, rfl⟩ dX3_accept_10 (jj_le rfl) (jj_le rfl)

set_option maxHeartbeats 4000000 in
set_option maxRecDepth 100000 in
theorem te_accept_12 {l : Launch} (hl : l.stackTraces = false) (D : va_G) (cA : Nat → ClassId) (ak : (Nat → Nat) × (Nat → Nat)) {Kd : Nat → Nat} (h0 : Nat) (hk0 : Kd h0 = 17) {pl0 : va_W} (hok : tt_ok tt_tk cA Kd pl0) : jj_M l D cA ak yX3_accept (.code yX3_accept cX3_accept 3 (some .boolean)) 0 0 0 0 ([] ++ pl0) [.ref h0, .int 1, .int 2] (tt_O (fun rx pl1 r => rx = [] ∧ tt_ok tt_tk cA Kd pl1 ∧ tt_fr Kd [] pl0 pl1 ∧ tt_fa Kd [] pl0 pl1 ∧ ((r = some (.int 1))))) (tt_OX (fun _ _ _ => False)) := by
  refine jj_start hl (by decide) jw_0001e2e84f (jj_le rfl) ?_
  intro p e s m args below meth c9 A hargs hA C hex hmn
  have hfr := tt_fr.refl (K := Kd) (WS := []) pl0
  have hfa := tt_fa.refl (K := Kd) (WA := []) pl0
  refine jj_iload_n C dX3_accept_0 rfl ?_
  refine jj_if_neT (tgt := 9) C dX3_accept_1 (by decide) (by decide) ?_
  refine jj_iload_n C dX3_accept_9 rfl ?_
  exact jj_zret C rfl ⟨[], pl0, rfl, rfl, hok, hfr, hfa, rfl⟩ dX3_accept_10 (jj_le rfl) (jj_le rfl)

set_option maxHeartbeats 4000000 in
set_option maxRecDepth 100000 in
theorem te_accept_13 {l : Launch} (hl : l.stackTraces = false) (D : va_G) (cA : Nat → ClassId) (ak : (Nat → Nat) × (Nat → Nat)) {Kd : Nat → Nat} (h0 : Nat) (hk0 : Kd h0 = 17) {pl0 : va_W} (hok : tt_ok tt_tk cA Kd pl0) : jj_M l D cA ak yX3_accept (.code yX3_accept cX3_accept 3 (some .boolean)) 0 0 0 0 ([] ++ pl0) [.ref h0, .int 1, .int 3] (tt_O (fun rx pl1 r => rx = [] ∧ tt_ok tt_tk cA Kd pl1 ∧ tt_fr Kd [] pl0 pl1 ∧ tt_fa Kd [] pl0 pl1 ∧ ((r = some (.int 1))))) (tt_OX (fun _ _ _ => False)) := by
  refine jj_start hl (by decide) jw_0001e2e84f (jj_le rfl) ?_
  intro p e s m args below meth c9 A hargs hA C hex hmn
  have hfr := tt_fr.refl (K := Kd) (WS := []) pl0
  have hfa := tt_fa.refl (K := Kd) (WA := []) pl0
  refine jj_iload_n C dX3_accept_0 rfl ?_
  refine jj_if_neT (tgt := 9) C dX3_accept_1 (by decide) (by decide) ?_
  refine jj_iload_n C dX3_accept_9 rfl ?_
  exact jj_zret C rfl ⟨[], pl0, rfl, rfl, hok, hfr, hfa, rfl⟩ dX3_accept_10 (jj_le rfl) (jj_le rfl)

set_option maxHeartbeats 4000000 in
set_option maxRecDepth 100000 in
theorem te_readWord_fund {l : Launch} (hl : l.stackTraces = false) (D : va_G) (cA : Nat → ClassId) (ak : (Nat → Nat) × (Nat → Nat)) {Kd : Nat → Nat} (h0 tk a9 : Nat) (n2 n3 : Nat) (u : Nat → Int32) (c : Nat → Int) (hk0 : Kd h0 = 17) (hkt : Kd tk = 10) (hk9 : Kd a9 = 11) (l2 : n2 ≤ 400) (h32 : n3 ≤ n2) (hc : ∀ k : Nat, k < n2 → c k = (u k).toInt) {pl0 : va_W} (hok : tt_ok tt_tk cA Kd pl0) (hs0 : tt_at pl0 h0 0 (.ref tk)) (hx0 : tt_at pl0 tk 0 (.ref a9)) (hx2 : tt_at pl0 tk 2 (.int (nI n2))) (hx3 : tt_at pl0 tk 3 (.int (nI n3))) (hu : tt_ic pl0 a9 u) : jj_M l D cA ak yX3_readWord (.code yX3_readWord cX3_readWord 2 (some .boolean)) 5 107 0 0 ([] ++ pl0) [.ref h0, .ref (ak.1 0)] (tt_O (fun rx pl1 r => rx = [] ∧ tt_ok tt_tk cA Kd pl1 ∧ tt_fr Kd [(10, 3), (10, 4), (10, 5), (10, 6), (17, 2)] pl0 pl1 ∧ tt_fa Kd [] pl0 pl1 ∧ ((∃ s t : Nat, tt_at pl1 tk 4 (.int (nI s)) ∧ tt_at pl1 h0 2 (.int 1) ∧ ps_tok c n2 n3 s t ∧ ¬ ps_isw c s t ps_fund ∧ r = some (.int 0)) ∨ (∃ s t : Nat, tt_at pl1 tk 3 (.int (nI t)) ∧ ps_tok c n2 n3 s t ∧ ps_isw c s t ps_fund ∧ r = some (.int 1))))) (tt_OX (fun _ _ _ => False)) := by
  refine jj_start hl (by decide) jw_e40f0ddd13 (jj_le rfl) ?_
  intro p e s m args below meth c9 A hargs hA C hex hmn
  have hfr := tt_fr.refl (K := Kd) (WS := [(10, 3), (10, 4), (10, 5), (10, 6), (17, 2)]) pl0
  have hfa := tt_fa.refl (K := Kd) (WA := []) pl0
  refine jj_aload_n C dX3_readWord_0 rfl ?_
  refine tt_getF C hok jk_4 0 (by decide) jw_70cd29f103 (t := (2, 10, 0)) hk0 (by decide) rfl rfl hs0 dX3_readWord_1 ?_
  obtain ⟨qc, gs, hqc⟩ := tt_recv (cx := []) hok hkt (by decide) rfl
  refine tt_callV (rest := []) C (te_advance hl D cA ak tk a9 n2 n3 u c hkt hk9 (by omega) (by omega) hc hok hx0 hx2 hx3 hu) [] [] rfl rfl (by decide) (by decide) (by decide) qc hqc rfl rfl jw_97c023d194 jw_37f6ee43e0 jw_46baf1fc7b jw_a9e7b602dc jw_0d4db63612 jn_X9_advance rfl (jj_le rfl) (jj_le rfl) (jj_le rfl) (jj_le rfl) (jj_le rfl) dX3_readWord_4 rfl (fun _ _ _ hX => hX.elim) (fun rx pl_1 r O_5 => ?_)
  obtain ⟨rfl, hok_2, hr_3, ha_4, hR_6⟩ := O_5
  replace hs0 := hr_3.at hk0 (by decide) (by decide) hs0
  replace hx0 := hr_3.at hkt (by decide) (by decide) hx0
  replace hx2 := hr_3.at hkt (by decide) (by decide) hx2
  replace hu := ha_4.at hk9 (by decide) (by decide) hu
  replace hfr := hfr.trans (hr_3.sub (by decide))
  replace hfa := hfa.trans (ha_4.sub (by decide))
  rcases hR_6 with ⟨n_7, n_8, hf_9, hf_10, hf_11, ht_12, hkd_13, rfl⟩ | ⟨n_14, n_15, hf_16, hf_17, hf_18, ht_19, hkd_20, rfl⟩ | ⟨n_21, n_22, hf_23, hf_24, hf_25, ht_26, hkd_27, ⟨x_28, hf_29, hq_30, hq_31⟩, rfl⟩ | ⟨n_32, n_33, hf_34, hf_35, hf_36, ht_37, hkd_38, rfl⟩ | ⟨n_39, n_40, hf_41, hf_42, hf_43, ht_44, hkd_45, rfl⟩
  · have hzn_7 := ht_12.le (by omega)
    refine jj_aload_n C dX3_readWord_7 rfl ?_
    refine jj_aload_n C dX3_readWord_8 rfl ?_
    refine tt_getF C hok_2 jk_4 0 (by decide) jw_70cd29f103 (t := (2, 10, 0)) hk0 (by decide) rfl rfl hs0 dX3_readWord_9 ?_
    refine jj_aload_n C dX3_readWord_12 rfl ?_
    obtain ⟨qc, gs, hqc⟩ := tt_recv (cx := []) hok_2 hkt (by decide) rfl
    refine tt_callV (rest := [.ref h0]) C (te_isWord_fund hl D cA ak tk a9 n2 n_8 n_7 (4 : Int32) u c hkt hk9 (by omega) (by omega) (by omega) hc ⟨fun q => absurd q (by decide), fun q => absurd q.2 hkd_13.2.1⟩ hok_2 hx0 hf_10 hf_9 hf_11 hu) [] [] rfl rfl (by decide) (by decide) (by decide) qc hqc rfl rfl jw_b0fe72c6f4 jw_5e9522a00c jw_73cf9edcb7 jw_a9e7b602dc jw_ce1c1f12e9 jn_X9_isWord rfl (jj_le rfl) (jj_le rfl) (jj_le rfl) (jj_le rfl) (jj_le rfl) dX3_readWord_13 rfl (fun _ _ _ hX => hX.elim) (fun rx pl_46 r O_50 => ?_)
    obtain ⟨rfl, hok_47, hr_48, ha_49, hR_51⟩ := O_50
    replace hs0 := hr_48.at hk0 (by decide) (by decide) hs0
    replace hx0 := hr_48.at hkt (by decide) (by decide) hx0
    replace hx2 := hr_48.at hkt (by decide) (by decide) hx2
    replace hf_9 := hr_48.at hkt (by decide) (by decide) hf_9
    replace hf_10 := hr_48.at hkt (by decide) (by decide) hf_10
    replace hf_11 := hr_48.at hkt (by decide) (by decide) hf_11
    replace hu := ha_49.at hk9 (by decide) (by decide) hu
    replace hfr := hfr.trans (hr_48.sub (by decide))
    replace hfa := hfa.trans (ha_49.sub (by decide))
    rcases hR_51 with ⟨hw_52, rfl⟩ | ⟨hw_53, rfl⟩
    · refine jj_iconst (v := 1) C dX3_readWord_16 (by decide) ?_
      obtain ⟨qc, gs, hqc⟩ := tt_recv (cx := []) hok_47 hk0 (by decide) rfl
      refine tt_callV (rest := []) C (te_accept_01 hl D cA ak h0 hk0 hok_47) [] [] rfl rfl (by decide) (by decide) (by decide) qc hqc rfl rfl jw_713f4d2af1 jw_b3e457240a jw_58c48ce796 jw_9d546d0b6f jw_0001e2e84f jn_X3_accept rfl (jj_le rfl) (jj_le rfl) (jj_le rfl) (jj_le rfl) (jj_le rfl) dX3_readWord_17 rfl (fun _ _ _ hX => hX.elim) (fun rx pl_54 r O_58 => ?_)
      obtain ⟨rfl, hok_55, hr_56, ha_57, hR_59⟩ := O_58
      replace hs0 := hr_56.at hk0 (by decide) (by decide) hs0
      replace hx0 := hr_56.at hkt (by decide) (by decide) hx0
      replace hx2 := hr_56.at hkt (by decide) (by decide) hx2
      replace hf_9 := hr_56.at hkt (by decide) (by decide) hf_9
      replace hf_10 := hr_56.at hkt (by decide) (by decide) hf_10
      replace hf_11 := hr_56.at hkt (by decide) (by decide) hf_11
      replace hu := ha_57.at hk9 (by decide) (by decide) hu
      replace hfr := hfr.trans (hr_56.sub (by decide))
      replace hfa := hfa.trans (ha_57.sub (by decide))
      obtain ⟨hf_60, rfl⟩ := hR_59
      exact jj_zret C rfl ⟨[], pl_54, rfl, rfl, hok_55, hfr, hfa, (Or.inl ⟨n_7, n_8, hf_9, hf_60, ht_12, hw_52, rfl⟩)⟩ dX3_readWord_20 (jj_le rfl) (jj_le rfl)
    · exact absurd (hw_53.one (n := n2) (by decide) (by unfold ps_le; decide) (by omega)).2 hkd_13.2.1
  · have hzn_14 := ht_19.le (by omega)
    refine jj_aload_n C dX3_readWord_7 rfl ?_
    refine jj_aload_n C dX3_readWord_8 rfl ?_
    refine tt_getF C hok_2 jk_4 0 (by decide) jw_70cd29f103 (t := (2, 10, 0)) hk0 (by decide) rfl rfl hs0 dX3_readWord_9 ?_
    refine jj_aload_n C dX3_readWord_12 rfl ?_
    obtain ⟨qc, gs, hqc⟩ := tt_recv (cx := []) hok_2 hkt (by decide) rfl
    refine tt_callV (rest := [.ref h0]) C (te_isWord_fund hl D cA ak tk a9 n2 n_15 n_14 (3 : Int32) u c hkt hk9 (by omega) (by omega) (by omega) hc ⟨fun q => absurd q (by decide), fun q => absurd q.2 hkd_20.2.1⟩ hok_2 hx0 hf_17 hf_16 hf_18 hu) [] [] rfl rfl (by decide) (by decide) (by decide) qc hqc rfl rfl jw_b0fe72c6f4 jw_5e9522a00c jw_73cf9edcb7 jw_a9e7b602dc jw_ce1c1f12e9 jn_X9_isWord rfl (jj_le rfl) (jj_le rfl) (jj_le rfl) (jj_le rfl) (jj_le rfl) dX3_readWord_13 rfl (fun _ _ _ hX => hX.elim) (fun rx pl_61 r O_65 => ?_)
    obtain ⟨rfl, hok_62, hr_63, ha_64, hR_66⟩ := O_65
    replace hs0 := hr_63.at hk0 (by decide) (by decide) hs0
    replace hx0 := hr_63.at hkt (by decide) (by decide) hx0
    replace hx2 := hr_63.at hkt (by decide) (by decide) hx2
    replace hf_16 := hr_63.at hkt (by decide) (by decide) hf_16
    replace hf_17 := hr_63.at hkt (by decide) (by decide) hf_17
    replace hf_18 := hr_63.at hkt (by decide) (by decide) hf_18
    replace hu := ha_64.at hk9 (by decide) (by decide) hu
    replace hfr := hfr.trans (hr_63.sub (by decide))
    replace hfa := hfa.trans (ha_64.sub (by decide))
    rcases hR_66 with ⟨hw_67, rfl⟩ | ⟨hw_68, rfl⟩
    · refine jj_iconst (v := 1) C dX3_readWord_16 (by decide) ?_
      obtain ⟨qc, gs, hqc⟩ := tt_recv (cx := []) hok_62 hk0 (by decide) rfl
      refine tt_callV (rest := []) C (te_accept_01 hl D cA ak h0 hk0 hok_62) [] [] rfl rfl (by decide) (by decide) (by decide) qc hqc rfl rfl jw_713f4d2af1 jw_b3e457240a jw_58c48ce796 jw_9d546d0b6f jw_0001e2e84f jn_X3_accept rfl (jj_le rfl) (jj_le rfl) (jj_le rfl) (jj_le rfl) (jj_le rfl) dX3_readWord_17 rfl (fun _ _ _ hX => hX.elim) (fun rx pl_69 r O_73 => ?_)
      obtain ⟨rfl, hok_70, hr_71, ha_72, hR_74⟩ := O_73
      replace hs0 := hr_71.at hk0 (by decide) (by decide) hs0
      replace hx0 := hr_71.at hkt (by decide) (by decide) hx0
      replace hx2 := hr_71.at hkt (by decide) (by decide) hx2
      replace hf_16 := hr_71.at hkt (by decide) (by decide) hf_16
      replace hf_17 := hr_71.at hkt (by decide) (by decide) hf_17
      replace hf_18 := hr_71.at hkt (by decide) (by decide) hf_18
      replace hu := ha_72.at hk9 (by decide) (by decide) hu
      replace hfr := hfr.trans (hr_71.sub (by decide))
      replace hfa := hfa.trans (ha_72.sub (by decide))
      obtain ⟨hf_75, rfl⟩ := hR_74
      exact jj_zret C rfl ⟨[], pl_69, rfl, rfl, hok_70, hfr, hfa, (Or.inl ⟨n_14, n_15, hf_16, hf_75, ht_19, hw_67, rfl⟩)⟩ dX3_readWord_20 (jj_le rfl) (jj_le rfl)
    · exact absurd (hw_68.one (n := n2) (by decide) (by unfold ps_le; decide) (by omega)).2 hkd_20.2.1
  · have hzn_21 := ht_26.le (by omega)
    have lx_28 := tt_lo x_28
    have ux_28 := tt_hi x_28
    refine jj_aload_n C dX3_readWord_7 rfl ?_
    refine jj_aload_n C dX3_readWord_8 rfl ?_
    refine tt_getF C hok_2 jk_4 0 (by decide) jw_70cd29f103 (t := (2, 10, 0)) hk0 (by decide) rfl rfl hs0 dX3_readWord_9 ?_
    refine jj_aload_n C dX3_readWord_12 rfl ?_
    obtain ⟨qc, gs, hqc⟩ := tt_recv (cx := []) hok_2 hkt (by decide) rfl
    refine tt_callV (rest := [.ref h0]) C (te_isWord_fund hl D cA ak tk a9 n2 n_22 n_21 (2 : Int32) u c hkt hk9 (by omega) (by omega) (by omega) hc ⟨fun q => absurd q (by decide), fun q => absurd q.2 hkd_27.2.1⟩ hok_2 hx0 hf_24 hf_23 hf_25 hu) [] [] rfl rfl (by decide) (by decide) (by decide) qc hqc rfl rfl jw_b0fe72c6f4 jw_5e9522a00c jw_73cf9edcb7 jw_a9e7b602dc jw_ce1c1f12e9 jn_X9_isWord rfl (jj_le rfl) (jj_le rfl) (jj_le rfl) (jj_le rfl) (jj_le rfl) dX3_readWord_13 rfl (fun _ _ _ hX => hX.elim) (fun rx pl_76 r O_80 => ?_)
    obtain ⟨rfl, hok_77, hr_78, ha_79, hR_81⟩ := O_80
    replace hs0 := hr_78.at hk0 (by decide) (by decide) hs0
    replace hx0 := hr_78.at hkt (by decide) (by decide) hx0
    replace hx2 := hr_78.at hkt (by decide) (by decide) hx2
    replace hf_23 := hr_78.at hkt (by decide) (by decide) hf_23
    replace hf_24 := hr_78.at hkt (by decide) (by decide) hf_24
    replace hf_25 := hr_78.at hkt (by decide) (by decide) hf_25
    replace hf_29 := hr_78.at hkt (by decide) (by decide) hf_29
    replace hu := ha_79.at hk9 (by decide) (by decide) hu
    replace hfr := hfr.trans (hr_78.sub (by decide))
    replace hfa := hfa.trans (ha_79.sub (by decide))
    rcases hR_81 with ⟨hw_82, rfl⟩ | ⟨hw_83, rfl⟩
    · refine jj_iconst (v := 1) C dX3_readWord_16 (by decide) ?_
      obtain ⟨qc, gs, hqc⟩ := tt_recv (cx := []) hok_77 hk0 (by decide) rfl
      refine tt_callV (rest := []) C (te_accept_01 hl D cA ak h0 hk0 hok_77) [] [] rfl rfl (by decide) (by decide) (by decide) qc hqc rfl rfl jw_713f4d2af1 jw_b3e457240a jw_58c48ce796 jw_9d546d0b6f jw_0001e2e84f jn_X3_accept rfl (jj_le rfl) (jj_le rfl) (jj_le rfl) (jj_le rfl) (jj_le rfl) dX3_readWord_17 rfl (fun _ _ _ hX => hX.elim) (fun rx pl_84 r O_88 => ?_)
      obtain ⟨rfl, hok_85, hr_86, ha_87, hR_89⟩ := O_88
      replace hs0 := hr_86.at hk0 (by decide) (by decide) hs0
      replace hx0 := hr_86.at hkt (by decide) (by decide) hx0
      replace hx2 := hr_86.at hkt (by decide) (by decide) hx2
      replace hf_23 := hr_86.at hkt (by decide) (by decide) hf_23
      replace hf_24 := hr_86.at hkt (by decide) (by decide) hf_24
      replace hf_25 := hr_86.at hkt (by decide) (by decide) hf_25
      replace hf_29 := hr_86.at hkt (by decide) (by decide) hf_29
      replace hu := ha_87.at hk9 (by decide) (by decide) hu
      replace hfr := hfr.trans (hr_86.sub (by decide))
      replace hfa := hfa.trans (ha_87.sub (by decide))
      obtain ⟨hf_90, rfl⟩ := hR_89
      exact jj_zret C rfl ⟨[], pl_84, rfl, rfl, hok_85, hfr, hfa, (Or.inl ⟨n_21, n_22, hf_23, hf_90, ht_26, hw_82, rfl⟩)⟩ dX3_readWord_20 (jj_le rfl) (jj_le rfl)
    · exact absurd (hw_83.one (n := n2) (by decide) (by unfold ps_le; decide) (by omega)).2 hkd_27.2.1
  · have hzn_32 := ht_37.le (by omega)
    refine jj_aload_n C dX3_readWord_7 rfl ?_
    refine jj_aload_n C dX3_readWord_8 rfl ?_
    refine tt_getF C hok_2 jk_4 0 (by decide) jw_70cd29f103 (t := (2, 10, 0)) hk0 (by decide) rfl rfl hs0 dX3_readWord_9 ?_
    refine jj_aload_n C dX3_readWord_12 rfl ?_
    obtain ⟨qc, gs, hqc⟩ := tt_recv (cx := []) hok_2 hkt (by decide) rfl
    refine tt_callV (rest := [.ref h0]) C (te_isWord_fund hl D cA ak tk a9 n2 n_33 n_32 (1 : Int32) u c hkt hk9 (by omega) (by omega) (by omega) hc ⟨fun _ => hkd_38, fun _ => rfl⟩ hok_2 hx0 hf_35 hf_34 hf_36 hu) [] [] rfl rfl (by decide) (by decide) (by decide) qc hqc rfl rfl jw_b0fe72c6f4 jw_5e9522a00c jw_73cf9edcb7 jw_a9e7b602dc jw_ce1c1f12e9 jn_X9_isWord rfl (jj_le rfl) (jj_le rfl) (jj_le rfl) (jj_le rfl) (jj_le rfl) dX3_readWord_13 rfl (fun _ _ _ hX => hX.elim) (fun rx pl_91 r O_95 => ?_)
    obtain ⟨rfl, hok_92, hr_93, ha_94, hR_96⟩ := O_95
    replace hs0 := hr_93.at hk0 (by decide) (by decide) hs0
    replace hx0 := hr_93.at hkt (by decide) (by decide) hx0
    replace hx2 := hr_93.at hkt (by decide) (by decide) hx2
    replace hf_34 := hr_93.at hkt (by decide) (by decide) hf_34
    replace hf_35 := hr_93.at hkt (by decide) (by decide) hf_35
    replace hf_36 := hr_93.at hkt (by decide) (by decide) hf_36
    replace hu := ha_94.at hk9 (by decide) (by decide) hu
    replace hfr := hfr.trans (hr_93.sub (by decide))
    replace hfa := hfa.trans (ha_94.sub (by decide))
    rcases hR_96 with ⟨hw_97, rfl⟩ | ⟨hw_98, rfl⟩
    · refine jj_iconst (v := 1) C dX3_readWord_16 (by decide) ?_
      obtain ⟨qc, gs, hqc⟩ := tt_recv (cx := []) hok_92 hk0 (by decide) rfl
      refine tt_callV (rest := []) C (te_accept_01 hl D cA ak h0 hk0 hok_92) [] [] rfl rfl (by decide) (by decide) (by decide) qc hqc rfl rfl jw_713f4d2af1 jw_b3e457240a jw_58c48ce796 jw_9d546d0b6f jw_0001e2e84f jn_X3_accept rfl (jj_le rfl) (jj_le rfl) (jj_le rfl) (jj_le rfl) (jj_le rfl) dX3_readWord_17 rfl (fun _ _ _ hX => hX.elim) (fun rx pl_99 r O_103 => ?_)
      obtain ⟨rfl, hok_100, hr_101, ha_102, hR_104⟩ := O_103
      replace hs0 := hr_101.at hk0 (by decide) (by decide) hs0
      replace hx0 := hr_101.at hkt (by decide) (by decide) hx0
      replace hx2 := hr_101.at hkt (by decide) (by decide) hx2
      replace hf_34 := hr_101.at hkt (by decide) (by decide) hf_34
      replace hf_35 := hr_101.at hkt (by decide) (by decide) hf_35
      replace hf_36 := hr_101.at hkt (by decide) (by decide) hf_36
      replace hu := ha_102.at hk9 (by decide) (by decide) hu
      replace hfr := hfr.trans (hr_101.sub (by decide))
      replace hfa := hfa.trans (ha_102.sub (by decide))
      obtain ⟨hf_105, rfl⟩ := hR_104
      exact jj_zret C rfl ⟨[], pl_99, rfl, rfl, hok_100, hfr, hfa, (Or.inl ⟨n_32, n_33, hf_34, hf_105, ht_37, hw_97, rfl⟩)⟩ dX3_readWord_20 (jj_le rfl) (jj_le rfl)
    · refine jj_iconst (v := 1) C dX3_readWord_16 (by decide) ?_
      obtain ⟨qc, gs, hqc⟩ := tt_recv (cx := []) hok_92 hk0 (by decide) rfl
      refine tt_callV (rest := []) C (te_accept_11 hl D cA ak h0 hk0 hok_92) [] [] rfl rfl (by decide) (by decide) (by decide) qc hqc rfl rfl jw_713f4d2af1 jw_b3e457240a jw_58c48ce796 jw_9d546d0b6f jw_0001e2e84f jn_X3_accept rfl (jj_le rfl) (jj_le rfl) (jj_le rfl) (jj_le rfl) (jj_le rfl) dX3_readWord_17 rfl (fun _ _ _ hX => hX.elim) (fun rx pl_106 r O_110 => ?_)
      obtain ⟨rfl, hok_107, hr_108, ha_109, hR_111⟩ := O_110
      replace hs0 := hr_108.at hk0 (by decide) (by decide) hs0
      replace hx0 := hr_108.at hkt (by decide) (by decide) hx0
      replace hx2 := hr_108.at hkt (by decide) (by decide) hx2
      replace hf_34 := hr_108.at hkt (by decide) (by decide) hf_34
      replace hf_35 := hr_108.at hkt (by decide) (by decide) hf_35
      replace hf_36 := hr_108.at hkt (by decide) (by decide) hf_36
      replace hu := ha_109.at hk9 (by decide) (by decide) hu
      replace hfr := hfr.trans (hr_108.sub (by decide))
      replace hfa := hfa.trans (ha_109.sub (by decide))
      obtain rfl := hR_111
      exact jj_zret C rfl ⟨[], pl_106, rfl, rfl, hok_107, hfr, hfa, (Or.inr ⟨n_32, n_33, hf_35, ht_37, hw_98, rfl⟩)⟩ dX3_readWord_20 (jj_le rfl) (jj_le rfl)
  · have hzn_39 := ht_44.le (by omega)
    refine jj_aload_n C dX3_readWord_7 rfl ?_
    refine jj_aload_n C dX3_readWord_8 rfl ?_
    refine tt_getF C hok_2 jk_4 0 (by decide) jw_70cd29f103 (t := (2, 10, 0)) hk0 (by decide) rfl rfl hs0 dX3_readWord_9 ?_
    refine jj_aload_n C dX3_readWord_12 rfl ?_
    obtain ⟨qc, gs, hqc⟩ := tt_recv (cx := []) hok_2 hkt (by decide) rfl
    refine tt_callV (rest := [.ref h0]) C (te_isWord_fund hl D cA ak tk a9 n2 n_40 n_39 (0 : Int32) u c hkt hk9 (by omega) (by omega) (by omega) hc ⟨fun q => absurd q (by decide), fun q => absurd q.1 (by omega)⟩ hok_2 hx0 hf_42 hf_41 hf_43 hu) [] [] rfl rfl (by decide) (by decide) (by decide) qc hqc rfl rfl jw_b0fe72c6f4 jw_5e9522a00c jw_73cf9edcb7 jw_a9e7b602dc jw_ce1c1f12e9 jn_X9_isWord rfl (jj_le rfl) (jj_le rfl) (jj_le rfl) (jj_le rfl) (jj_le rfl) dX3_readWord_13 rfl (fun _ _ _ hX => hX.elim) (fun rx pl_112 r O_116 => ?_)
    obtain ⟨rfl, hok_113, hr_114, ha_115, hR_117⟩ := O_116
    replace hs0 := hr_114.at hk0 (by decide) (by decide) hs0
    replace hx0 := hr_114.at hkt (by decide) (by decide) hx0
    replace hx2 := hr_114.at hkt (by decide) (by decide) hx2
    replace hf_41 := hr_114.at hkt (by decide) (by decide) hf_41
    replace hf_42 := hr_114.at hkt (by decide) (by decide) hf_42
    replace hf_43 := hr_114.at hkt (by decide) (by decide) hf_43
    replace hu := ha_115.at hk9 (by decide) (by decide) hu
    replace hfr := hfr.trans (hr_114.sub (by decide))
    replace hfa := hfa.trans (ha_115.sub (by decide))
    rcases hR_117 with ⟨hw_118, rfl⟩ | ⟨hw_119, rfl⟩
    · refine jj_iconst (v := 1) C dX3_readWord_16 (by decide) ?_
      obtain ⟨qc, gs, hqc⟩ := tt_recv (cx := []) hok_113 hk0 (by decide) rfl
      refine tt_callV (rest := []) C (te_accept_01 hl D cA ak h0 hk0 hok_113) [] [] rfl rfl (by decide) (by decide) (by decide) qc hqc rfl rfl jw_713f4d2af1 jw_b3e457240a jw_58c48ce796 jw_9d546d0b6f jw_0001e2e84f jn_X3_accept rfl (jj_le rfl) (jj_le rfl) (jj_le rfl) (jj_le rfl) (jj_le rfl) dX3_readWord_17 rfl (fun _ _ _ hX => hX.elim) (fun rx pl_120 r O_124 => ?_)
      obtain ⟨rfl, hok_121, hr_122, ha_123, hR_125⟩ := O_124
      replace hs0 := hr_122.at hk0 (by decide) (by decide) hs0
      replace hx0 := hr_122.at hkt (by decide) (by decide) hx0
      replace hx2 := hr_122.at hkt (by decide) (by decide) hx2
      replace hf_41 := hr_122.at hkt (by decide) (by decide) hf_41
      replace hf_42 := hr_122.at hkt (by decide) (by decide) hf_42
      replace hf_43 := hr_122.at hkt (by decide) (by decide) hf_43
      replace hu := ha_123.at hk9 (by decide) (by decide) hu
      replace hfr := hfr.trans (hr_122.sub (by decide))
      replace hfa := hfa.trans (ha_123.sub (by decide))
      obtain ⟨hf_126, rfl⟩ := hR_125
      exact jj_zret C rfl ⟨[], pl_120, rfl, rfl, hok_121, hfr, hfa, (Or.inl ⟨n_39, n_40, hf_41, hf_126, ht_44, hw_118, rfl⟩)⟩ dX3_readWord_20 (jj_le rfl) (jj_le rfl)
    · exact absurd (hw_119.one (n := n2) (by decide) (by unfold ps_le; decide) (by omega)).1 (by omega)

set_option maxHeartbeats 4000000 in
set_option maxRecDepth 100000 in
theorem te_readWord_investors {l : Launch} (hl : l.stackTraces = false) (D : va_G) (cA : Nat → ClassId) (ak : (Nat → Nat) × (Nat → Nat)) {Kd : Nat → Nat} (h0 tk a9 : Nat) (n2 n3 : Nat) (u : Nat → Int32) (c : Nat → Int) (hk0 : Kd h0 = 17) (hkt : Kd tk = 10) (hk9 : Kd a9 = 11) (l2 : n2 ≤ 400) (h32 : n3 ≤ n2) (hc : ∀ k : Nat, k < n2 → c k = (u k).toInt) {pl0 : va_W} (hok : tt_ok tt_tk cA Kd pl0) (hs0 : tt_at pl0 h0 0 (.ref tk)) (hx0 : tt_at pl0 tk 0 (.ref a9)) (hx2 : tt_at pl0 tk 2 (.int (nI n2))) (hx3 : tt_at pl0 tk 3 (.int (nI n3))) (hu : tt_ic pl0 a9 u) : jj_M l D cA ak yX3_readWord (.code yX3_readWord cX3_readWord 2 (some .boolean)) 5 107 0 0 ([] ++ pl0) [.ref h0, .ref (ak.1 3)] (tt_O (fun rx pl1 r => rx = [] ∧ tt_ok tt_tk cA Kd pl1 ∧ tt_fr Kd [(10, 3), (10, 4), (10, 5), (10, 6), (17, 2)] pl0 pl1 ∧ tt_fa Kd [] pl0 pl1 ∧ ((∃ s t : Nat, tt_at pl1 tk 4 (.int (nI s)) ∧ tt_at pl1 h0 2 (.int 1) ∧ ps_tok c n2 n3 s t ∧ ¬ ps_isw c s t ps_investors ∧ r = some (.int 0)) ∨ (∃ s t : Nat, tt_at pl1 tk 3 (.int (nI t)) ∧ ps_tok c n2 n3 s t ∧ ps_isw c s t ps_investors ∧ r = some (.int 1))))) (tt_OX (fun _ _ _ => False)) := by
  refine jj_start hl (by decide) jw_e40f0ddd13 (jj_le rfl) ?_
  intro p e s m args below meth c9 A hargs hA C hex hmn
  have hfr := tt_fr.refl (K := Kd) (WS := [(10, 3), (10, 4), (10, 5), (10, 6), (17, 2)]) pl0
  have hfa := tt_fa.refl (K := Kd) (WA := []) pl0
  refine jj_aload_n C dX3_readWord_0 rfl ?_
  refine tt_getF C hok jk_4 0 (by decide) jw_70cd29f103 (t := (2, 10, 0)) hk0 (by decide) rfl rfl hs0 dX3_readWord_1 ?_
  obtain ⟨qc, gs, hqc⟩ := tt_recv (cx := []) hok hkt (by decide) rfl
  refine tt_callV (rest := []) C (te_advance hl D cA ak tk a9 n2 n3 u c hkt hk9 (by omega) (by omega) hc hok hx0 hx2 hx3 hu) [] [] rfl rfl (by decide) (by decide) (by decide) qc hqc rfl rfl jw_97c023d194 jw_37f6ee43e0 jw_46baf1fc7b jw_a9e7b602dc jw_0d4db63612 jn_X9_advance rfl (jj_le rfl) (jj_le rfl) (jj_le rfl) (jj_le rfl) (jj_le rfl) dX3_readWord_4 rfl (fun _ _ _ hX => hX.elim) (fun rx pl_1 r O_5 => ?_)
  obtain ⟨rfl, hok_2, hr_3, ha_4, hR_6⟩ := O_5
  replace hs0 := hr_3.at hk0 (by decide) (by decide) hs0
  replace hx0 := hr_3.at hkt (by decide) (by decide) hx0
  replace hx2 := hr_3.at hkt (by decide) (by decide) hx2
  replace hu := ha_4.at hk9 (by decide) (by decide) hu
  replace hfr := hfr.trans (hr_3.sub (by decide))
  replace hfa := hfa.trans (ha_4.sub (by decide))
  rcases hR_6 with ⟨n_7, n_8, hf_9, hf_10, hf_11, ht_12, hkd_13, rfl⟩ | ⟨n_14, n_15, hf_16, hf_17, hf_18, ht_19, hkd_20, rfl⟩ | ⟨n_21, n_22, hf_23, hf_24, hf_25, ht_26, hkd_27, ⟨x_28, hf_29, hq_30, hq_31⟩, rfl⟩ | ⟨n_32, n_33, hf_34, hf_35, hf_36, ht_37, hkd_38, rfl⟩ | ⟨n_39, n_40, hf_41, hf_42, hf_43, ht_44, hkd_45, rfl⟩
  · have hzn_7 := ht_12.le (by omega)
    refine jj_aload_n C dX3_readWord_7 rfl ?_
    refine jj_aload_n C dX3_readWord_8 rfl ?_
    refine tt_getF C hok_2 jk_4 0 (by decide) jw_70cd29f103 (t := (2, 10, 0)) hk0 (by decide) rfl rfl hs0 dX3_readWord_9 ?_
    refine jj_aload_n C dX3_readWord_12 rfl ?_
    obtain ⟨qc, gs, hqc⟩ := tt_recv (cx := []) hok_2 hkt (by decide) rfl
    refine tt_callV (rest := [.ref h0]) C (te_isWord_investors hl D cA ak tk a9 n2 n_8 n_7 (4 : Int32) u c hkt hk9 (by omega) (by omega) (by omega) hc ⟨fun q => absurd q (by decide), fun q => absurd q.2 hkd_13.2.1⟩ hok_2 hx0 hf_10 hf_9 hf_11 hu) [] [] rfl rfl (by decide) (by decide) (by decide) qc hqc rfl rfl jw_b0fe72c6f4 jw_5e9522a00c jw_73cf9edcb7 jw_a9e7b602dc jw_ce1c1f12e9 jn_X9_isWord rfl (jj_le rfl) (jj_le rfl) (jj_le rfl) (jj_le rfl) (jj_le rfl) dX3_readWord_13 rfl (fun _ _ _ hX => hX.elim) (fun rx pl_46 r O_50 => ?_)
    obtain ⟨rfl, hok_47, hr_48, ha_49, hR_51⟩ := O_50
    replace hs0 := hr_48.at hk0 (by decide) (by decide) hs0
    replace hx0 := hr_48.at hkt (by decide) (by decide) hx0
    replace hx2 := hr_48.at hkt (by decide) (by decide) hx2
    replace hf_9 := hr_48.at hkt (by decide) (by decide) hf_9
    replace hf_10 := hr_48.at hkt (by decide) (by decide) hf_10
    replace hf_11 := hr_48.at hkt (by decide) (by decide) hf_11
    replace hu := ha_49.at hk9 (by decide) (by decide) hu
    replace hfr := hfr.trans (hr_48.sub (by decide))
    replace hfa := hfa.trans (ha_49.sub (by decide))
    rcases hR_51 with ⟨hw_52, rfl⟩ | ⟨hw_53, rfl⟩
    · refine jj_iconst (v := 1) C dX3_readWord_16 (by decide) ?_
      obtain ⟨qc, gs, hqc⟩ := tt_recv (cx := []) hok_47 hk0 (by decide) rfl
      refine tt_callV (rest := []) C (te_accept_01 hl D cA ak h0 hk0 hok_47) [] [] rfl rfl (by decide) (by decide) (by decide) qc hqc rfl rfl jw_713f4d2af1 jw_b3e457240a jw_58c48ce796 jw_9d546d0b6f jw_0001e2e84f jn_X3_accept rfl (jj_le rfl) (jj_le rfl) (jj_le rfl) (jj_le rfl) (jj_le rfl) dX3_readWord_17 rfl (fun _ _ _ hX => hX.elim) (fun rx pl_54 r O_58 => ?_)
      obtain ⟨rfl, hok_55, hr_56, ha_57, hR_59⟩ := O_58
      replace hs0 := hr_56.at hk0 (by decide) (by decide) hs0
      replace hx0 := hr_56.at hkt (by decide) (by decide) hx0
      replace hx2 := hr_56.at hkt (by decide) (by decide) hx2
      replace hf_9 := hr_56.at hkt (by decide) (by decide) hf_9
      replace hf_10 := hr_56.at hkt (by decide) (by decide) hf_10
      replace hf_11 := hr_56.at hkt (by decide) (by decide) hf_11
      replace hu := ha_57.at hk9 (by decide) (by decide) hu
      replace hfr := hfr.trans (hr_56.sub (by decide))
      replace hfa := hfa.trans (ha_57.sub (by decide))
      obtain ⟨hf_60, rfl⟩ := hR_59
      exact jj_zret C rfl ⟨[], pl_54, rfl, rfl, hok_55, hfr, hfa, (Or.inl ⟨n_7, n_8, hf_9, hf_60, ht_12, hw_52, rfl⟩)⟩ dX3_readWord_20 (jj_le rfl) (jj_le rfl)
    · exact absurd (hw_53.one (n := n2) (by decide) (by unfold ps_le; decide) (by omega)).2 hkd_13.2.1
  · have hzn_14 := ht_19.le (by omega)
    refine jj_aload_n C dX3_readWord_7 rfl ?_
    refine jj_aload_n C dX3_readWord_8 rfl ?_
    refine tt_getF C hok_2 jk_4 0 (by decide) jw_70cd29f103 (t := (2, 10, 0)) hk0 (by decide) rfl rfl hs0 dX3_readWord_9 ?_
    refine jj_aload_n C dX3_readWord_12 rfl ?_
    obtain ⟨qc, gs, hqc⟩ := tt_recv (cx := []) hok_2 hkt (by decide) rfl
    refine tt_callV (rest := [.ref h0]) C (te_isWord_investors hl D cA ak tk a9 n2 n_15 n_14 (3 : Int32) u c hkt hk9 (by omega) (by omega) (by omega) hc ⟨fun q => absurd q (by decide), fun q => absurd q.2 hkd_20.2.1⟩ hok_2 hx0 hf_17 hf_16 hf_18 hu) [] [] rfl rfl (by decide) (by decide) (by decide) qc hqc rfl rfl jw_b0fe72c6f4 jw_5e9522a00c jw_73cf9edcb7 jw_a9e7b602dc jw_ce1c1f12e9 jn_X9_isWord rfl (jj_le rfl) (jj_le rfl) (jj_le rfl) (jj_le rfl) (jj_le rfl) dX3_readWord_13 rfl (fun _ _ _ hX => hX.elim) (fun rx pl_61 r O_65 => ?_)
    obtain ⟨rfl, hok_62, hr_63, ha_64, hR_66⟩ := O_65
    replace hs0 := hr_63.at hk0 (by decide) (by decide) hs0
    replace hx0 := hr_63.at hkt (by decide) (by decide) hx0
    replace hx2 := hr_63.at hkt (by decide) (by decide) hx2
    replace hf_16 := hr_63.at hkt (by decide) (by decide) hf_16
    replace hf_17 := hr_63.at hkt (by decide) (by decide) hf_17
    replace hf_18 := hr_63.at hkt (by decide) (by decide) hf_18
    replace hu := ha_64.at hk9 (by decide) (by decide) hu
    replace hfr := hfr.trans (hr_63.sub (by decide))
    replace hfa := hfa.trans (ha_64.sub (by decide))
    rcases hR_66 with ⟨hw_67, rfl⟩ | ⟨hw_68, rfl⟩
    · refine jj_iconst (v := 1) C dX3_readWord_16 (by decide) ?_
      obtain ⟨qc, gs, hqc⟩ := tt_recv (cx := []) hok_62 hk0 (by decide) rfl
      refine tt_callV (rest := []) C (te_accept_01 hl D cA ak h0 hk0 hok_62) [] [] rfl rfl (by decide) (by decide) (by decide) qc hqc rfl rfl jw_713f4d2af1 jw_b3e457240a jw_58c48ce796 jw_9d546d0b6f jw_0001e2e84f jn_X3_accept rfl (jj_le rfl) (jj_le rfl) (jj_le rfl) (jj_le rfl) (jj_le rfl) dX3_readWord_17 rfl (fun _ _ _ hX => hX.elim) (fun rx pl_69 r O_73 => ?_)
      obtain ⟨rfl, hok_70, hr_71, ha_72, hR_74⟩ := O_73
      replace hs0 := hr_71.at hk0 (by decide) (by decide) hs0
      replace hx0 := hr_71.at hkt (by decide) (by decide) hx0
      replace hx2 := hr_71.at hkt (by decide) (by decide) hx2
      replace hf_16 := hr_71.at hkt (by decide) (by decide) hf_16
      replace hf_17 := hr_71.at hkt (by decide) (by decide) hf_17
      replace hf_18 := hr_71.at hkt (by decide) (by decide) hf_18
      replace hu := ha_72.at hk9 (by decide) (by decide) hu
      replace hfr := hfr.trans (hr_71.sub (by decide))
      replace hfa := hfa.trans (ha_72.sub (by decide))
      obtain ⟨hf_75, rfl⟩ := hR_74
      exact jj_zret C rfl ⟨[], pl_69, rfl, rfl, hok_70, hfr, hfa, (Or.inl ⟨n_14, n_15, hf_16, hf_75, ht_19, hw_67, rfl⟩)⟩ dX3_readWord_20 (jj_le rfl) (jj_le rfl)
    · exact absurd (hw_68.one (n := n2) (by decide) (by unfold ps_le; decide) (by omega)).2 hkd_20.2.1
  · have hzn_21 := ht_26.le (by omega)
    have lx_28 := tt_lo x_28
    have ux_28 := tt_hi x_28
    refine jj_aload_n C dX3_readWord_7 rfl ?_
    refine jj_aload_n C dX3_readWord_8 rfl ?_
    refine tt_getF C hok_2 jk_4 0 (by decide) jw_70cd29f103 (t := (2, 10, 0)) hk0 (by decide) rfl rfl hs0 dX3_readWord_9 ?_
    refine jj_aload_n C dX3_readWord_12 rfl ?_
    obtain ⟨qc, gs, hqc⟩ := tt_recv (cx := []) hok_2 hkt (by decide) rfl
    refine tt_callV (rest := [.ref h0]) C (te_isWord_investors hl D cA ak tk a9 n2 n_22 n_21 (2 : Int32) u c hkt hk9 (by omega) (by omega) (by omega) hc ⟨fun q => absurd q (by decide), fun q => absurd q.2 hkd_27.2.1⟩ hok_2 hx0 hf_24 hf_23 hf_25 hu) [] [] rfl rfl (by decide) (by decide) (by decide) qc hqc rfl rfl jw_b0fe72c6f4 jw_5e9522a00c jw_73cf9edcb7 jw_a9e7b602dc jw_ce1c1f12e9 jn_X9_isWord rfl (jj_le rfl) (jj_le rfl) (jj_le rfl) (jj_le rfl) (jj_le rfl) dX3_readWord_13 rfl (fun _ _ _ hX => hX.elim) (fun rx pl_76 r O_80 => ?_)
    obtain ⟨rfl, hok_77, hr_78, ha_79, hR_81⟩ := O_80
    replace hs0 := hr_78.at hk0 (by decide) (by decide) hs0
    replace hx0 := hr_78.at hkt (by decide) (by decide) hx0
    replace hx2 := hr_78.at hkt (by decide) (by decide) hx2
    replace hf_23 := hr_78.at hkt (by decide) (by decide) hf_23
    replace hf_24 := hr_78.at hkt (by decide) (by decide) hf_24
    replace hf_25 := hr_78.at hkt (by decide) (by decide) hf_25
    replace hf_29 := hr_78.at hkt (by decide) (by decide) hf_29
    replace hu := ha_79.at hk9 (by decide) (by decide) hu
    replace hfr := hfr.trans (hr_78.sub (by decide))
    replace hfa := hfa.trans (ha_79.sub (by decide))
    rcases hR_81 with ⟨hw_82, rfl⟩ | ⟨hw_83, rfl⟩
    · refine jj_iconst (v := 1) C dX3_readWord_16 (by decide) ?_
      obtain ⟨qc, gs, hqc⟩ := tt_recv (cx := []) hok_77 hk0 (by decide) rfl
      refine tt_callV (rest := []) C (te_accept_01 hl D cA ak h0 hk0 hok_77) [] [] rfl rfl (by decide) (by decide) (by decide) qc hqc rfl rfl jw_713f4d2af1 jw_b3e457240a jw_58c48ce796 jw_9d546d0b6f jw_0001e2e84f jn_X3_accept rfl (jj_le rfl) (jj_le rfl) (jj_le rfl) (jj_le rfl) (jj_le rfl) dX3_readWord_17 rfl (fun _ _ _ hX => hX.elim) (fun rx pl_84 r O_88 => ?_)
      obtain ⟨rfl, hok_85, hr_86, ha_87, hR_89⟩ := O_88
      replace hs0 := hr_86.at hk0 (by decide) (by decide) hs0
      replace hx0 := hr_86.at hkt (by decide) (by decide) hx0
      replace hx2 := hr_86.at hkt (by decide) (by decide) hx2
      replace hf_23 := hr_86.at hkt (by decide) (by decide) hf_23
      replace hf_24 := hr_86.at hkt (by decide) (by decide) hf_24
      replace hf_25 := hr_86.at hkt (by decide) (by decide) hf_25
      replace hf_29 := hr_86.at hkt (by decide) (by decide) hf_29
      replace hu := ha_87.at hk9 (by decide) (by decide) hu
      replace hfr := hfr.trans (hr_86.sub (by decide))
      replace hfa := hfa.trans (ha_87.sub (by decide))
      obtain ⟨hf_90, rfl⟩ := hR_89
      exact jj_zret C rfl ⟨[], pl_84, rfl, rfl, hok_85, hfr, hfa, (Or.inl ⟨n_21, n_22, hf_23, hf_90, ht_26, hw_82, rfl⟩)⟩ dX3_readWord_20 (jj_le rfl) (jj_le rfl)
    · exact absurd (hw_83.one (n := n2) (by decide) (by unfold ps_le; decide) (by omega)).2 hkd_27.2.1
  · have hzn_32 := ht_37.le (by omega)
    refine jj_aload_n C dX3_readWord_7 rfl ?_
    refine jj_aload_n C dX3_readWord_8 rfl ?_
    refine tt_getF C hok_2 jk_4 0 (by decide) jw_70cd29f103 (t := (2, 10, 0)) hk0 (by decide) rfl rfl hs0 dX3_readWord_9 ?_
    refine jj_aload_n C dX3_readWord_12 rfl ?_
    obtain ⟨qc, gs, hqc⟩ := tt_recv (cx := []) hok_2 hkt (by decide) rfl
    refine tt_callV (rest := [.ref h0]) C (te_isWord_investors hl D cA ak tk a9 n2 n_33 n_32 (1 : Int32) u c hkt hk9 (by omega) (by omega) (by omega) hc ⟨fun _ => hkd_38, fun _ => rfl⟩ hok_2 hx0 hf_35 hf_34 hf_36 hu) [] [] rfl rfl (by decide) (by decide) (by decide) qc hqc rfl rfl jw_b0fe72c6f4 jw_5e9522a00c jw_73cf9edcb7 jw_a9e7b602dc jw_ce1c1f12e9 jn_X9_isWord rfl (jj_le rfl) (jj_le rfl) (jj_le rfl) (jj_le rfl) (jj_le rfl) dX3_readWord_13 rfl (fun _ _ _ hX => hX.elim) (fun rx pl_91 r O_95 => ?_)
    obtain ⟨rfl, hok_92, hr_93, ha_94, hR_96⟩ := O_95
    replace hs0 := hr_93.at hk0 (by decide) (by decide) hs0
    replace hx0 := hr_93.at hkt (by decide) (by decide) hx0
    replace hx2 := hr_93.at hkt (by decide) (by decide) hx2
    replace hf_34 := hr_93.at hkt (by decide) (by decide) hf_34
    replace hf_35 := hr_93.at hkt (by decide) (by decide) hf_35
    replace hf_36 := hr_93.at hkt (by decide) (by decide) hf_36
    replace hu := ha_94.at hk9 (by decide) (by decide) hu
    replace hfr := hfr.trans (hr_93.sub (by decide))
    replace hfa := hfa.trans (ha_94.sub (by decide))
    rcases hR_96 with ⟨hw_97, rfl⟩ | ⟨hw_98, rfl⟩
    · refine jj_iconst (v := 1) C dX3_readWord_16 (by decide) ?_
      obtain ⟨qc, gs, hqc⟩ := tt_recv (cx := []) hok_92 hk0 (by decide) rfl
      refine tt_callV (rest := []) C (te_accept_01 hl D cA ak h0 hk0 hok_92) [] [] rfl rfl (by decide) (by decide) (by decide) qc hqc rfl rfl jw_713f4d2af1 jw_b3e457240a jw_58c48ce796 jw_9d546d0b6f jw_0001e2e84f jn_X3_accept rfl (jj_le rfl) (jj_le rfl) (jj_le rfl) (jj_le rfl) (jj_le rfl) dX3_readWord_17 rfl (fun _ _ _ hX => hX.elim) (fun rx pl_99 r O_103 => ?_)
      obtain ⟨rfl, hok_100, hr_101, ha_102, hR_104⟩ := O_103
      replace hs0 := hr_101.at hk0 (by decide) (by decide) hs0
      replace hx0 := hr_101.at hkt (by decide) (by decide) hx0
      replace hx2 := hr_101.at hkt (by decide) (by decide) hx2
      replace hf_34 := hr_101.at hkt (by decide) (by decide) hf_34
      replace hf_35 := hr_101.at hkt (by decide) (by decide) hf_35
      replace hf_36 := hr_101.at hkt (by decide) (by decide) hf_36
      replace hu := ha_102.at hk9 (by decide) (by decide) hu
      replace hfr := hfr.trans (hr_101.sub (by decide))
      replace hfa := hfa.trans (ha_102.sub (by decide))
      obtain ⟨hf_105, rfl⟩ := hR_104
      exact jj_zret C rfl ⟨[], pl_99, rfl, rfl, hok_100, hfr, hfa, (Or.inl ⟨n_32, n_33, hf_34, hf_105, ht_37, hw_97, rfl⟩)⟩ dX3_readWord_20 (jj_le rfl) (jj_le rfl)
    · refine jj_iconst (v := 1) C dX3_readWord_16 (by decide) ?_
      obtain ⟨qc, gs, hqc⟩ := tt_recv (cx := []) hok_92 hk0 (by decide) rfl
      refine tt_callV (rest := []) C (te_accept_11 hl D cA ak h0 hk0 hok_92) [] [] rfl rfl (by decide) (by decide) (by decide) qc hqc rfl rfl jw_713f4d2af1 jw_b3e457240a jw_58c48ce796 jw_9d546d0b6f jw_0001e2e84f jn_X3_accept rfl (jj_le rfl) (jj_le rfl) (jj_le rfl) (jj_le rfl) (jj_le rfl) dX3_readWord_17 rfl (fun _ _ _ hX => hX.elim) (fun rx pl_106 r O_110 => ?_)
      obtain ⟨rfl, hok_107, hr_108, ha_109, hR_111⟩ := O_110
      replace hs0 := hr_108.at hk0 (by decide) (by decide) hs0
      replace hx0 := hr_108.at hkt (by decide) (by decide) hx0
      replace hx2 := hr_108.at hkt (by decide) (by decide) hx2
      replace hf_34 := hr_108.at hkt (by decide) (by decide) hf_34
      replace hf_35 := hr_108.at hkt (by decide) (by decide) hf_35
      replace hf_36 := hr_108.at hkt (by decide) (by decide) hf_36
      replace hu := ha_109.at hk9 (by decide) (by decide) hu
      replace hfr := hfr.trans (hr_108.sub (by decide))
      replace hfa := hfa.trans (ha_109.sub (by decide))
      obtain rfl := hR_111
      exact jj_zret C rfl ⟨[], pl_106, rfl, rfl, hok_107, hfr, hfa, (Or.inr ⟨n_32, n_33, hf_35, ht_37, hw_98, rfl⟩)⟩ dX3_readWord_20 (jj_le rfl) (jj_le rfl)
  · have hzn_39 := ht_44.le (by omega)
    refine jj_aload_n C dX3_readWord_7 rfl ?_
    refine jj_aload_n C dX3_readWord_8 rfl ?_
    refine tt_getF C hok_2 jk_4 0 (by decide) jw_70cd29f103 (t := (2, 10, 0)) hk0 (by decide) rfl rfl hs0 dX3_readWord_9 ?_
    refine jj_aload_n C dX3_readWord_12 rfl ?_
    obtain ⟨qc, gs, hqc⟩ := tt_recv (cx := []) hok_2 hkt (by decide) rfl
    refine tt_callV (rest := [.ref h0]) C (te_isWord_investors hl D cA ak tk a9 n2 n_40 n_39 (0 : Int32) u c hkt hk9 (by omega) (by omega) (by omega) hc ⟨fun q => absurd q (by decide), fun q => absurd q.1 (by omega)⟩ hok_2 hx0 hf_42 hf_41 hf_43 hu) [] [] rfl rfl (by decide) (by decide) (by decide) qc hqc rfl rfl jw_b0fe72c6f4 jw_5e9522a00c jw_73cf9edcb7 jw_a9e7b602dc jw_ce1c1f12e9 jn_X9_isWord rfl (jj_le rfl) (jj_le rfl) (jj_le rfl) (jj_le rfl) (jj_le rfl) dX3_readWord_13 rfl (fun _ _ _ hX => hX.elim) (fun rx pl_112 r O_116 => ?_)
    obtain ⟨rfl, hok_113, hr_114, ha_115, hR_117⟩ := O_116
    replace hs0 := hr_114.at hk0 (by decide) (by decide) hs0
    replace hx0 := hr_114.at hkt (by decide) (by decide) hx0
    replace hx2 := hr_114.at hkt (by decide) (by decide) hx2
    replace hf_41 := hr_114.at hkt (by decide) (by decide) hf_41
    replace hf_42 := hr_114.at hkt (by decide) (by decide) hf_42
    replace hf_43 := hr_114.at hkt (by decide) (by decide) hf_43
    replace hu := ha_115.at hk9 (by decide) (by decide) hu
    replace hfr := hfr.trans (hr_114.sub (by decide))
    replace hfa := hfa.trans (ha_115.sub (by decide))
    rcases hR_117 with ⟨hw_118, rfl⟩ | ⟨hw_119, rfl⟩
    · refine jj_iconst (v := 1) C dX3_readWord_16 (by decide) ?_
      obtain ⟨qc, gs, hqc⟩ := tt_recv (cx := []) hok_113 hk0 (by decide) rfl
      refine tt_callV (rest := []) C (te_accept_01 hl D cA ak h0 hk0 hok_113) [] [] rfl rfl (by decide) (by decide) (by decide) qc hqc rfl rfl jw_713f4d2af1 jw_b3e457240a jw_58c48ce796 jw_9d546d0b6f jw_0001e2e84f jn_X3_accept rfl (jj_le rfl) (jj_le rfl) (jj_le rfl) (jj_le rfl) (jj_le rfl) dX3_readWord_17 rfl (fun _ _ _ hX => hX.elim) (fun rx pl_120 r O_124 => ?_)
      obtain ⟨rfl, hok_121, hr_122, ha_123, hR_125⟩ := O_124
      replace hs0 := hr_122.at hk0 (by decide) (by decide) hs0
      replace hx0 := hr_122.at hkt (by decide) (by decide) hx0
      replace hx2 := hr_122.at hkt (by decide) (by decide) hx2
      replace hf_41 := hr_122.at hkt (by decide) (by decide) hf_41
      replace hf_42 := hr_122.at hkt (by decide) (by decide) hf_42
      replace hf_43 := hr_122.at hkt (by decide) (by decide) hf_43
      replace hu := ha_123.at hk9 (by decide) (by decide) hu
      replace hfr := hfr.trans (hr_122.sub (by decide))
      replace hfa := hfa.trans (ha_123.sub (by decide))
      obtain ⟨hf_126, rfl⟩ := hR_125
      exact jj_zret C rfl ⟨[], pl_120, rfl, rfl, hok_121, hfr, hfa, (Or.inl ⟨n_39, n_40, hf_41, hf_126, ht_44, hw_118, rfl⟩)⟩ dX3_readWord_20 (jj_le rfl) (jj_le rfl)
    · exact absurd (hw_119.one (n := n2) (by decide) (by unfold ps_le; decide) (by omega)).1 (by omega)

set_option maxHeartbeats 4000000 in
set_option maxRecDepth 100000 in
theorem te_readSemicolon {l : Launch} (hl : l.stackTraces = false) (D : va_G) (cA : Nat → ClassId) (ak : (Nat → Nat) × (Nat → Nat)) {Kd : Nat → Nat} (h0 tk a9 : Nat) (n2 n3 : Nat) (u : Nat → Int32) (c : Nat → Int) (hk0 : Kd h0 = 17) (hkt : Kd tk = 10) (hk9 : Kd a9 = 11) (l2 : n2 ≤ 400) (h32 : n3 ≤ n2) (hc : ∀ k : Nat, k < n2 → c k = (u k).toInt) {pl0 : va_W} (hok : tt_ok tt_tk cA Kd pl0) (hs0 : tt_at pl0 h0 0 (.ref tk)) (hx0 : tt_at pl0 tk 0 (.ref a9)) (hx2 : tt_at pl0 tk 2 (.int (nI n2))) (hx3 : tt_at pl0 tk 3 (.int (nI n3))) (hu : tt_ic pl0 a9 u) : jj_M l D cA ak yX3_readSemicolon (.code yX3_readSemicolon cX3_readSemicolon 1 (some .boolean)) 2 41 0 0 ([] ++ pl0) [.ref h0] (tt_O (fun rx pl1 r => rx = [] ∧ tt_ok tt_tk cA Kd pl1 ∧ tt_fr Kd [(10, 3), (10, 4), (10, 5), (10, 6), (17, 2)] pl0 pl1 ∧ tt_fa Kd [] pl0 pl1 ∧ ((∃ s t : Nat, tt_at pl1 tk 4 (.int (nI s)) ∧ tt_at pl1 h0 2 (.int 1) ∧ ps_tok c n2 n3 s t ∧ ¬ ps_isw c s t ps_semi ∧ r = some (.int 0)) ∨ (∃ s t : Nat, tt_at pl1 tk 3 (.int (nI t)) ∧ ps_tok c n2 n3 s t ∧ ps_isw c s t ps_semi ∧ r = some (.int 1))))) (tt_OX (fun _ _ _ => False)) := by
  refine jj_start hl (by decide) jw_469c7bc0ab (jj_le rfl) ?_
  intro p e s m args below meth c9 A hargs hA C hex hmn
  have hfr := tt_fr.refl (K := Kd) (WS := [(10, 3), (10, 4), (10, 5), (10, 6), (17, 2)]) pl0
  have hfa := tt_fa.refl (K := Kd) (WA := []) pl0
  refine jj_aload_n C dX3_readSemicolon_0 rfl ?_
  refine tt_getF C hok jk_4 0 (by decide) jw_70cd29f103 (t := (2, 10, 0)) hk0 (by decide) rfl rfl hs0 dX3_readSemicolon_1 ?_
  obtain ⟨qc, gs, hqc⟩ := tt_recv (cx := []) hok hkt (by decide) rfl
  refine tt_callV (rest := []) C (te_advance hl D cA ak tk a9 n2 n3 u c hkt hk9 (by omega) (by omega) hc hok hx0 hx2 hx3 hu) [] [] rfl rfl (by decide) (by decide) (by decide) qc hqc rfl rfl jw_97c023d194 jw_37f6ee43e0 jw_46baf1fc7b jw_a9e7b602dc jw_0d4db63612 jn_X9_advance rfl (jj_le rfl) (jj_le rfl) (jj_le rfl) (jj_le rfl) (jj_le rfl) dX3_readSemicolon_4 rfl (fun _ _ _ hX => hX.elim) (fun rx pl_1 r O_5 => ?_)
  obtain ⟨rfl, hok_2, hr_3, ha_4, hR_6⟩ := O_5
  replace hs0 := hr_3.at hk0 (by decide) (by decide) hs0
  replace hx0 := hr_3.at hkt (by decide) (by decide) hx0
  replace hx2 := hr_3.at hkt (by decide) (by decide) hx2
  replace hu := ha_4.at hk9 (by decide) (by decide) hu
  replace hfr := hfr.trans (hr_3.sub (by decide))
  replace hfa := hfa.trans (ha_4.sub (by decide))
  rcases hR_6 with ⟨n_7, n_8, hf_9, hf_10, hf_11, ht_12, hkd_13, rfl⟩ | ⟨n_14, n_15, hf_16, hf_17, hf_18, ht_19, hkd_20, rfl⟩ | ⟨n_21, n_22, hf_23, hf_24, hf_25, ht_26, hkd_27, ⟨x_28, hf_29, hq_30, hq_31⟩, rfl⟩ | ⟨n_32, n_33, hf_34, hf_35, hf_36, ht_37, hkd_38, rfl⟩ | ⟨n_39, n_40, hf_41, hf_42, hf_43, ht_44, hkd_45, rfl⟩
  · have hzn_7 := ht_12.le (by omega)
    refine jj_aload_n C dX3_readSemicolon_7 rfl ?_
    refine jj_aload_n C dX3_readSemicolon_8 rfl ?_
    refine tt_getF C hok_2 jk_4 0 (by decide) jw_70cd29f103 (t := (2, 10, 0)) hk0 (by decide) rfl rfl hs0 dX3_readSemicolon_9 ?_
    refine tt_getF C hok_2 jk_10 5 (by decide) jw_601d0e39ae (t := (0, (-2147483648), 2147483647)) hkt (by decide) rfl rfl hf_11 dX3_readSemicolon_12 ?_
    refine jj_iconst (v := 3) C dX3_readSemicolon_15 (by decide) ?_
    refine jj_icmp_neT (tgt := 23) C dX3_readSemicolon_16 (by decide) (by decide) ?_
    refine jj_iconst (v := 0) C dX3_readSemicolon_23 (by decide) ?_
    refine jj_iconst (v := 1) C dX3_readSemicolon_24 (by decide) ?_
    obtain ⟨qc, gs, hqc⟩ := tt_recv (cx := []) hok_2 hk0 (by decide) rfl
    refine tt_callV (rest := []) C (te_accept_01 hl D cA ak h0 hk0 hok_2) [] [] rfl rfl (by decide) (by decide) (by decide) qc hqc rfl rfl jw_713f4d2af1 jw_b3e457240a jw_58c48ce796 jw_9d546d0b6f jw_0001e2e84f jn_X3_accept rfl (jj_le rfl) (jj_le rfl) (jj_le rfl) (jj_le rfl) (jj_le rfl) dX3_readSemicolon_25 rfl (fun _ _ _ hX => hX.elim) (fun rx pl_46 r O_50 => ?_)
    obtain ⟨rfl, hok_47, hr_48, ha_49, hR_51⟩ := O_50
    replace hs0 := hr_48.at hk0 (by decide) (by decide) hs0
    replace hx0 := hr_48.at hkt (by decide) (by decide) hx0
    replace hx2 := hr_48.at hkt (by decide) (by decide) hx2
    replace hf_9 := hr_48.at hkt (by decide) (by decide) hf_9
    replace hf_10 := hr_48.at hkt (by decide) (by decide) hf_10
    replace hf_11 := hr_48.at hkt (by decide) (by decide) hf_11
    replace hu := ha_49.at hk9 (by decide) (by decide) hu
    replace hfr := hfr.trans (hr_48.sub (by decide))
    replace hfa := hfa.trans (ha_49.sub (by decide))
    obtain ⟨hf_52, rfl⟩ := hR_51
    exact jj_zret C rfl ⟨[], pl_46, rfl, rfl, hok_47, hfr, hfa, (Or.inl ⟨n_7, n_8, hf_9, hf_52, ht_12, (fun q => hkd_13.2.2.2.1 (q.2 0 (by decide))), rfl⟩)⟩ dX3_readSemicolon_28 (jj_le rfl) (jj_le rfl)
  · have hzn_14 := ht_19.le (by omega)
    refine jj_aload_n C dX3_readSemicolon_7 rfl ?_
    refine jj_aload_n C dX3_readSemicolon_8 rfl ?_
    refine tt_getF C hok_2 jk_4 0 (by decide) jw_70cd29f103 (t := (2, 10, 0)) hk0 (by decide) rfl rfl hs0 dX3_readSemicolon_9 ?_
    refine tt_getF C hok_2 jk_10 5 (by decide) jw_601d0e39ae (t := (0, (-2147483648), 2147483647)) hkt (by decide) rfl rfl hf_18 dX3_readSemicolon_12 ?_
    refine jj_iconst (v := 3) C dX3_readSemicolon_15 (by decide) ?_
    refine jj_icmp_neF (tgt := 23) C dX3_readSemicolon_16 (by decide) (by decide) ?_
    refine jj_iconst (v := 1) C dX3_readSemicolon_19 (by decide) ?_
    refine jj_goto (tgt := 24) C dX3_readSemicolon_20 (by decide) ?_
    refine jj_iconst (v := 1) C dX3_readSemicolon_24 (by decide) ?_
    obtain ⟨qc, gs, hqc⟩ := tt_recv (cx := []) hok_2 hk0 (by decide) rfl
    refine tt_callV (rest := []) C (te_accept_11 hl D cA ak h0 hk0 hok_2) [] [] rfl rfl (by decide) (by decide) (by decide) qc hqc rfl rfl jw_713f4d2af1 jw_b3e457240a jw_58c48ce796 jw_9d546d0b6f jw_0001e2e84f jn_X3_accept rfl (jj_le rfl) (jj_le rfl) (jj_le rfl) (jj_le rfl) (jj_le rfl) dX3_readSemicolon_25 rfl (fun _ _ _ hX => hX.elim) (fun rx pl_53 r O_57 => ?_)
    obtain ⟨rfl, hok_54, hr_55, ha_56, hR_58⟩ := O_57
    replace hs0 := hr_55.at hk0 (by decide) (by decide) hs0
    replace hx0 := hr_55.at hkt (by decide) (by decide) hx0
    replace hx2 := hr_55.at hkt (by decide) (by decide) hx2
    replace hf_16 := hr_55.at hkt (by decide) (by decide) hf_16
    replace hf_17 := hr_55.at hkt (by decide) (by decide) hf_17
    replace hf_18 := hr_55.at hkt (by decide) (by decide) hf_18
    replace hu := ha_56.at hk9 (by decide) (by decide) hu
    replace hfr := hfr.trans (hr_55.sub (by decide))
    replace hfa := hfa.trans (ha_56.sub (by decide))
    obtain rfl := hR_58
    exact jj_zret C rfl ⟨[], pl_53, rfl, rfl, hok_54, hfr, hfa, (Or.inr ⟨n_14, n_15, hf_17, ht_19, ps_alls.isw ⟨hkd_20.2.2.2.1, trivial⟩ hkd_20.2.2.2.2, rfl⟩)⟩ dX3_readSemicolon_28 (jj_le rfl) (jj_le rfl)
  · have hzn_21 := ht_26.le (by omega)
    have lx_28 := tt_lo x_28
    have ux_28 := tt_hi x_28
    refine jj_aload_n C dX3_readSemicolon_7 rfl ?_
    refine jj_aload_n C dX3_readSemicolon_8 rfl ?_
    refine tt_getF C hok_2 jk_4 0 (by decide) jw_70cd29f103 (t := (2, 10, 0)) hk0 (by decide) rfl rfl hs0 dX3_readSemicolon_9 ?_
    refine tt_getF C hok_2 jk_10 5 (by decide) jw_601d0e39ae (t := (0, (-2147483648), 2147483647)) hkt (by decide) rfl rfl hf_25 dX3_readSemicolon_12 ?_
    refine jj_iconst (v := 3) C dX3_readSemicolon_15 (by decide) ?_
    refine jj_icmp_neT (tgt := 23) C dX3_readSemicolon_16 (by decide) (by decide) ?_
    refine jj_iconst (v := 0) C dX3_readSemicolon_23 (by decide) ?_
    refine jj_iconst (v := 1) C dX3_readSemicolon_24 (by decide) ?_
    obtain ⟨qc, gs, hqc⟩ := tt_recv (cx := []) hok_2 hk0 (by decide) rfl
    refine tt_callV (rest := []) C (te_accept_01 hl D cA ak h0 hk0 hok_2) [] [] rfl rfl (by decide) (by decide) (by decide) qc hqc rfl rfl jw_713f4d2af1 jw_b3e457240a jw_58c48ce796 jw_9d546d0b6f jw_0001e2e84f jn_X3_accept rfl (jj_le rfl) (jj_le rfl) (jj_le rfl) (jj_le rfl) (jj_le rfl) dX3_readSemicolon_25 rfl (fun _ _ _ hX => hX.elim) (fun rx pl_59 r O_63 => ?_)
    obtain ⟨rfl, hok_60, hr_61, ha_62, hR_64⟩ := O_63
    replace hs0 := hr_61.at hk0 (by decide) (by decide) hs0
    replace hx0 := hr_61.at hkt (by decide) (by decide) hx0
    replace hx2 := hr_61.at hkt (by decide) (by decide) hx2
    replace hf_23 := hr_61.at hkt (by decide) (by decide) hf_23
    replace hf_24 := hr_61.at hkt (by decide) (by decide) hf_24
    replace hf_25 := hr_61.at hkt (by decide) (by decide) hf_25
    replace hf_29 := hr_61.at hkt (by decide) (by decide) hf_29
    replace hu := ha_62.at hk9 (by decide) (by decide) hu
    replace hfr := hfr.trans (hr_61.sub (by decide))
    replace hfa := hfa.trans (ha_62.sub (by decide))
    obtain ⟨hf_65, rfl⟩ := hR_64
    exact jj_zret C rfl ⟨[], pl_59, rfl, rfl, hok_60, hfr, hfa, (Or.inl ⟨n_21, n_22, hf_23, hf_65, ht_26, (fun q => by have q2 : c n_21 = 59 := q.2 0 (by decide); have q3 := hkd_27.2.2; unfold ps_di at q3; omega), rfl⟩)⟩ dX3_readSemicolon_28 (jj_le rfl) (jj_le rfl)
  · have hzn_32 := ht_37.le (by omega)
    refine jj_aload_n C dX3_readSemicolon_7 rfl ?_
    refine jj_aload_n C dX3_readSemicolon_8 rfl ?_
    refine tt_getF C hok_2 jk_4 0 (by decide) jw_70cd29f103 (t := (2, 10, 0)) hk0 (by decide) rfl rfl hs0 dX3_readSemicolon_9 ?_
    refine tt_getF C hok_2 jk_10 5 (by decide) jw_601d0e39ae (t := (0, (-2147483648), 2147483647)) hkt (by decide) rfl rfl hf_36 dX3_readSemicolon_12 ?_
    refine jj_iconst (v := 3) C dX3_readSemicolon_15 (by decide) ?_
    refine jj_icmp_neT (tgt := 23) C dX3_readSemicolon_16 (by decide) (by decide) ?_
    refine jj_iconst (v := 0) C dX3_readSemicolon_23 (by decide) ?_
    refine jj_iconst (v := 1) C dX3_readSemicolon_24 (by decide) ?_
    obtain ⟨qc, gs, hqc⟩ := tt_recv (cx := []) hok_2 hk0 (by decide) rfl
    refine tt_callV (rest := []) C (te_accept_01 hl D cA ak h0 hk0 hok_2) [] [] rfl rfl (by decide) (by decide) (by decide) qc hqc rfl rfl jw_713f4d2af1 jw_b3e457240a jw_58c48ce796 jw_9d546d0b6f jw_0001e2e84f jn_X3_accept rfl (jj_le rfl) (jj_le rfl) (jj_le rfl) (jj_le rfl) (jj_le rfl) dX3_readSemicolon_25 rfl (fun _ _ _ hX => hX.elim) (fun rx pl_66 r O_70 => ?_)
    obtain ⟨rfl, hok_67, hr_68, ha_69, hR_71⟩ := O_70
    replace hs0 := hr_68.at hk0 (by decide) (by decide) hs0
    replace hx0 := hr_68.at hkt (by decide) (by decide) hx0
    replace hx2 := hr_68.at hkt (by decide) (by decide) hx2
    replace hf_34 := hr_68.at hkt (by decide) (by decide) hf_34
    replace hf_35 := hr_68.at hkt (by decide) (by decide) hf_35
    replace hf_36 := hr_68.at hkt (by decide) (by decide) hf_36
    replace hu := ha_69.at hk9 (by decide) (by decide) hu
    replace hfr := hfr.trans (hr_68.sub (by decide))
    replace hfa := hfa.trans (ha_69.sub (by decide))
    obtain ⟨hf_72, rfl⟩ := hR_71
    exact jj_zret C rfl ⟨[], pl_66, rfl, rfl, hok_67, hfr, hfa, (Or.inl ⟨n_32, n_33, hf_34, hf_72, ht_37, (fun q => by have q2 : c n_32 = 59 := q.2 0 (by decide); have q3 := hkd_38.2; unfold ps_le at q3; omega), rfl⟩)⟩ dX3_readSemicolon_28 (jj_le rfl) (jj_le rfl)
  · have hzn_39 := ht_44.le (by omega)
    refine jj_aload_n C dX3_readSemicolon_7 rfl ?_
    refine jj_aload_n C dX3_readSemicolon_8 rfl ?_
    refine tt_getF C hok_2 jk_4 0 (by decide) jw_70cd29f103 (t := (2, 10, 0)) hk0 (by decide) rfl rfl hs0 dX3_readSemicolon_9 ?_
    refine tt_getF C hok_2 jk_10 5 (by decide) jw_601d0e39ae (t := (0, (-2147483648), 2147483647)) hkt (by decide) rfl rfl hf_43 dX3_readSemicolon_12 ?_
    refine jj_iconst (v := 3) C dX3_readSemicolon_15 (by decide) ?_
    refine jj_icmp_neT (tgt := 23) C dX3_readSemicolon_16 (by decide) (by decide) ?_
    refine jj_iconst (v := 0) C dX3_readSemicolon_23 (by decide) ?_
    refine jj_iconst (v := 1) C dX3_readSemicolon_24 (by decide) ?_
    obtain ⟨qc, gs, hqc⟩ := tt_recv (cx := []) hok_2 hk0 (by decide) rfl
    refine tt_callV (rest := []) C (te_accept_01 hl D cA ak h0 hk0 hok_2) [] [] rfl rfl (by decide) (by decide) (by decide) qc hqc rfl rfl jw_713f4d2af1 jw_b3e457240a jw_58c48ce796 jw_9d546d0b6f jw_0001e2e84f jn_X3_accept rfl (jj_le rfl) (jj_le rfl) (jj_le rfl) (jj_le rfl) (jj_le rfl) dX3_readSemicolon_25 rfl (fun _ _ _ hX => hX.elim) (fun rx pl_73 r O_77 => ?_)
    obtain ⟨rfl, hok_74, hr_75, ha_76, hR_78⟩ := O_77
    replace hs0 := hr_75.at hk0 (by decide) (by decide) hs0
    replace hx0 := hr_75.at hkt (by decide) (by decide) hx0
    replace hx2 := hr_75.at hkt (by decide) (by decide) hx2
    replace hf_41 := hr_75.at hkt (by decide) (by decide) hf_41
    replace hf_42 := hr_75.at hkt (by decide) (by decide) hf_42
    replace hf_43 := hr_75.at hkt (by decide) (by decide) hf_43
    replace hu := ha_76.at hk9 (by decide) (by decide) hu
    replace hfr := hfr.trans (hr_75.sub (by decide))
    replace hfa := hfa.trans (ha_76.sub (by decide))
    obtain ⟨hf_79, rfl⟩ := hR_78
    exact jj_zret C rfl ⟨[], pl_73, rfl, rfl, hok_74, hfr, hfa, (Or.inl ⟨n_39, n_40, hf_41, hf_79, ht_44, (fun q => by have q1 : n_40 = n_39 + 1 := q.1; have q2 := ht_44.le h32; omega), rfl⟩)⟩ dX3_readSemicolon_28 (jj_le rfl) (jj_le rfl)

set_option maxHeartbeats 4000000 in
set_option maxRecDepth 100000 in
theorem te_readNumber {l : Launch} (hl : l.stackTraces = false) (D : va_G) (cA : Nat → ClassId) (ak : (Nat → Nat) × (Nat → Nat)) {Kd : Nat → Nat} (h0 tk a9 : Nat) (n2 n3 : Nat) (u : Nat → Int32) (c : Nat → Int) (p1 p2 : Int32) (lo hi : Int) (hk0 : Kd h0 = 17) (hkt : Kd tk = 10) (hk9 : Kd a9 = 11) (l2 : n2 ≤ 400) (h32 : n3 ≤ n2) (hc : ∀ k : Nat, k < n2 → c k = (u k).toInt) (hlo : p1.toInt = lo) (hhi : p2.toInt = hi) (hlo0 : 0 ≤ lo) {pl0 : va_W} (hok : tt_ok tt_tk cA Kd pl0) (hs0 : tt_at pl0 h0 0 (.ref tk)) (hx0 : tt_at pl0 tk 0 (.ref a9)) (hx2 : tt_at pl0 tk 2 (.int (nI n2))) (hx3 : tt_at pl0 tk 3 (.int (nI n3))) (hu : tt_ic pl0 a9 u) : jj_M l D cA ak yX3_readNumber (.code yX3_readNumber cX3_readNumber 3 (some .boolean)) 2 41 0 0 ([] ++ pl0) [.ref h0, .int p1, .int p2] (tt_O (fun rx pl1 r => rx = [] ∧ tt_ok tt_tk cA Kd pl1 ∧ tt_fr Kd [(10, 3), (10, 4), (10, 5), (10, 6), (17, 2)] pl0 pl1 ∧ tt_fa Kd [] pl0 pl1 ∧ ((∃ s t : Nat, tt_at pl1 tk 4 (.int (nI s)) ∧ tt_at pl1 h0 2 (.int 1) ∧ ps_tok c n2 n3 s t ∧ ¬ (s < n2 ∧ ps_di (c s)) ∧ r = some (.int 0)) ∨ (∃ s t : Nat, tt_at pl1 tk 4 (.int (nI s)) ∧ tt_at pl1 h0 2 (.int 2) ∧ ps_tok c n2 n3 s t ∧ ((s < n2 ∧ ps_di (c s)) ∧ ¬ ps_ok c lo hi s t) ∧ r = some (.int 0)) ∨ (∃ s t : Nat, tt_at pl1 tk 3 (.int (nI t)) ∧ ps_tok c n2 n3 s t ∧ (s < n2 ∧ ps_di (c s)) ∧ ps_ok c lo hi s t ∧ (∃ v : Int32, tt_at pl1 tk 6 (.int v) ∧ v.toInt = ps_val c s (t - s)) ∧ r = some (.int 1))))) (tt_OX (fun _ _ _ => False)) := by
  refine jj_start hl (by decide) jw_ad178c7ce3 (jj_le rfl) ?_
  intro p e s m args below meth c9 A hargs hA C hex hmn
  have hfr := tt_fr.refl (K := Kd) (WS := [(10, 3), (10, 4), (10, 5), (10, 6), (17, 2)]) pl0
  have hfa := tt_fa.refl (K := Kd) (WA := []) pl0
  have lp1 := tt_lo p1
  have up1 := tt_hi p1
  have lp2 := tt_lo p2
  have up2 := tt_hi p2
  refine jj_aload_n C dX3_readNumber_0 rfl ?_
  refine tt_getF C hok jk_4 0 (by decide) jw_70cd29f103 (t := (2, 10, 0)) hk0 (by decide) rfl rfl hs0 dX3_readNumber_1 ?_
  obtain ⟨qc, gs, hqc⟩ := tt_recv (cx := []) hok hkt (by decide) rfl
  refine tt_callV (rest := []) C (te_advance hl D cA ak tk a9 n2 n3 u c hkt hk9 (by omega) (by omega) hc hok hx0 hx2 hx3 hu) [] [] rfl rfl (by decide) (by decide) (by decide) qc hqc rfl rfl jw_97c023d194 jw_37f6ee43e0 jw_46baf1fc7b jw_a9e7b602dc jw_0d4db63612 jn_X9_advance rfl (jj_le rfl) (jj_le rfl) (jj_le rfl) (jj_le rfl) (jj_le rfl) dX3_readNumber_4 rfl (fun _ _ _ hX => hX.elim) (fun rx pl_1 r O_5 => ?_)
  obtain ⟨rfl, hok_2, hr_3, ha_4, hR_6⟩ := O_5
  replace hs0 := hr_3.at hk0 (by decide) (by decide) hs0
  replace hx0 := hr_3.at hkt (by decide) (by decide) hx0
  replace hx2 := hr_3.at hkt (by decide) (by decide) hx2
  replace hu := ha_4.at hk9 (by decide) (by decide) hu
  replace hfr := hfr.trans (hr_3.sub (by decide))
  replace hfa := hfa.trans (ha_4.sub (by decide))
  rcases hR_6 with ⟨n_7, n_8, hf_9, hf_10, hf_11, ht_12, hkd_13, rfl⟩ | ⟨n_14, n_15, hf_16, hf_17, hf_18, ht_19, hkd_20, rfl⟩ | ⟨n_21, n_22, hf_23, hf_24, hf_25, ht_26, hkd_27, ⟨x_28, hf_29, hq_30, hq_31⟩, rfl⟩ | ⟨n_32, n_33, hf_34, hf_35, hf_36, ht_37, hkd_38, rfl⟩ | ⟨n_39, n_40, hf_41, hf_42, hf_43, ht_44, hkd_45, rfl⟩
  · have hzn_7 := ht_12.le (by omega)
    refine jj_aload_n C dX3_readNumber_7 rfl ?_
    refine jj_aload_n C dX3_readNumber_8 rfl ?_
    refine tt_getF C hok_2 jk_4 0 (by decide) jw_70cd29f103 (t := (2, 10, 0)) hk0 (by decide) rfl rfl hs0 dX3_readNumber_9 ?_
    refine tt_getF C hok_2 jk_10 5 (by decide) jw_601d0e39ae (t := (0, (-2147483648), 2147483647)) hkt (by decide) rfl rfl hf_11 dX3_readNumber_12 ?_
    refine jj_iconst (v := 2) C dX3_readNumber_15 (by decide) ?_
    refine jj_icmp_neT (tgt := 23) C dX3_readNumber_16 (by decide) (by decide) ?_
    refine jj_iconst (v := 0) C dX3_readNumber_23 (by decide) ?_
    refine jj_iconst (v := 1) C dX3_readNumber_24 (by decide) ?_
    obtain ⟨qc, gs, hqc⟩ := tt_recv (cx := []) hok_2 hk0 (by decide) rfl
    refine tt_callV (rest := []) C (te_accept_01 hl D cA ak h0 hk0 hok_2) [] [] rfl rfl (by decide) (by decide) (by decide) qc hqc rfl rfl jw_713f4d2af1 jw_b3e457240a jw_58c48ce796 jw_9d546d0b6f jw_0001e2e84f jn_X3_accept rfl (jj_le rfl) (jj_le rfl) (jj_le rfl) (jj_le rfl) (jj_le rfl) dX3_readNumber_25 rfl (fun _ _ _ hX => hX.elim) (fun rx pl_46 r O_50 => ?_)
    obtain ⟨rfl, hok_47, hr_48, ha_49, hR_51⟩ := O_50
    replace hs0 := hr_48.at hk0 (by decide) (by decide) hs0
    replace hx0 := hr_48.at hkt (by decide) (by decide) hx0
    replace hx2 := hr_48.at hkt (by decide) (by decide) hx2
    replace hf_9 := hr_48.at hkt (by decide) (by decide) hf_9
    replace hf_10 := hr_48.at hkt (by decide) (by decide) hf_10
    replace hf_11 := hr_48.at hkt (by decide) (by decide) hf_11
    replace hu := ha_49.at hk9 (by decide) (by decide) hu
    replace hfr := hfr.trans (hr_48.sub (by decide))
    replace hfa := hfa.trans (ha_49.sub (by decide))
    obtain ⟨hf_52, rfl⟩ := hR_51
    refine jj_if_eqT (tgt := 70) C dX3_readNumber_28 (by decide) (by decide) ?_
    refine jj_iconst (v := 0) C dX3_readNumber_70 (by decide) ?_
    exact jj_zret C rfl ⟨[], pl_46, rfl, rfl, hok_47, hfr, hfa, (Or.inl ⟨n_7, n_8, hf_9, hf_52, ht_12, (fun q => hkd_13.2.2.1 q.2), rfl⟩)⟩ dX3_readNumber_71 (jj_le rfl) (jj_le rfl)
  · have hzn_14 := ht_19.le (by omega)
    refine jj_aload_n C dX3_readNumber_7 rfl ?_
    refine jj_aload_n C dX3_readNumber_8 rfl ?_
    refine tt_getF C hok_2 jk_4 0 (by decide) jw_70cd29f103 (t := (2, 10, 0)) hk0 (by decide) rfl rfl hs0 dX3_readNumber_9 ?_
    refine tt_getF C hok_2 jk_10 5 (by decide) jw_601d0e39ae (t := (0, (-2147483648), 2147483647)) hkt (by decide) rfl rfl hf_18 dX3_readNumber_12 ?_
    refine jj_iconst (v := 2) C dX3_readNumber_15 (by decide) ?_
    refine jj_icmp_neT (tgt := 23) C dX3_readNumber_16 (by decide) (by decide) ?_
    refine jj_iconst (v := 0) C dX3_readNumber_23 (by decide) ?_
    refine jj_iconst (v := 1) C dX3_readNumber_24 (by decide) ?_
    obtain ⟨qc, gs, hqc⟩ := tt_recv (cx := []) hok_2 hk0 (by decide) rfl
    refine tt_callV (rest := []) C (te_accept_01 hl D cA ak h0 hk0 hok_2) [] [] rfl rfl (by decide) (by decide) (by decide) qc hqc rfl rfl jw_713f4d2af1 jw_b3e457240a jw_58c48ce796 jw_9d546d0b6f jw_0001e2e84f jn_X3_accept rfl (jj_le rfl) (jj_le rfl) (jj_le rfl) (jj_le rfl) (jj_le rfl) dX3_readNumber_25 rfl (fun _ _ _ hX => hX.elim) (fun rx pl_53 r O_57 => ?_)
    obtain ⟨rfl, hok_54, hr_55, ha_56, hR_58⟩ := O_57
    replace hs0 := hr_55.at hk0 (by decide) (by decide) hs0
    replace hx0 := hr_55.at hkt (by decide) (by decide) hx0
    replace hx2 := hr_55.at hkt (by decide) (by decide) hx2
    replace hf_16 := hr_55.at hkt (by decide) (by decide) hf_16
    replace hf_17 := hr_55.at hkt (by decide) (by decide) hf_17
    replace hf_18 := hr_55.at hkt (by decide) (by decide) hf_18
    replace hu := ha_56.at hk9 (by decide) (by decide) hu
    replace hfr := hfr.trans (hr_55.sub (by decide))
    replace hfa := hfa.trans (ha_56.sub (by decide))
    obtain ⟨hf_59, rfl⟩ := hR_58
    refine jj_if_eqT (tgt := 70) C dX3_readNumber_28 (by decide) (by decide) ?_
    refine jj_iconst (v := 0) C dX3_readNumber_70 (by decide) ?_
    exact jj_zret C rfl ⟨[], pl_53, rfl, rfl, hok_54, hfr, hfa, (Or.inl ⟨n_14, n_15, hf_16, hf_59, ht_19, (fun q => hkd_20.2.2.1 q.2), rfl⟩)⟩ dX3_readNumber_71 (jj_le rfl) (jj_le rfl)
  · have hzn_21 := ht_26.le (by omega)
    have lx_28 := tt_lo x_28
    have ux_28 := tt_hi x_28
    refine jj_aload_n C dX3_readNumber_7 rfl ?_
    refine jj_aload_n C dX3_readNumber_8 rfl ?_
    refine tt_getF C hok_2 jk_4 0 (by decide) jw_70cd29f103 (t := (2, 10, 0)) hk0 (by decide) rfl rfl hs0 dX3_readNumber_9 ?_
    refine tt_getF C hok_2 jk_10 5 (by decide) jw_601d0e39ae (t := (0, (-2147483648), 2147483647)) hkt (by decide) rfl rfl hf_25 dX3_readNumber_12 ?_
    refine jj_iconst (v := 2) C dX3_readNumber_15 (by decide) ?_
    refine jj_icmp_neF (tgt := 23) C dX3_readNumber_16 (by decide) (by decide) ?_
    refine jj_iconst (v := 1) C dX3_readNumber_19 (by decide) ?_
    refine jj_goto (tgt := 24) C dX3_readNumber_20 (by decide) ?_
    refine jj_iconst (v := 1) C dX3_readNumber_24 (by decide) ?_
    obtain ⟨qc, gs, hqc⟩ := tt_recv (cx := []) hok_2 hk0 (by decide) rfl
    refine tt_callV (rest := []) C (te_accept_11 hl D cA ak h0 hk0 hok_2) [] [] rfl rfl (by decide) (by decide) (by decide) qc hqc rfl rfl jw_713f4d2af1 jw_b3e457240a jw_58c48ce796 jw_9d546d0b6f jw_0001e2e84f jn_X3_accept rfl (jj_le rfl) (jj_le rfl) (jj_le rfl) (jj_le rfl) (jj_le rfl) dX3_readNumber_25 rfl (fun _ _ _ hX => hX.elim) (fun rx pl_60 r O_64 => ?_)
    obtain ⟨rfl, hok_61, hr_62, ha_63, hR_65⟩ := O_64
    replace hs0 := hr_62.at hk0 (by decide) (by decide) hs0
    replace hx0 := hr_62.at hkt (by decide) (by decide) hx0
    replace hx2 := hr_62.at hkt (by decide) (by decide) hx2
    replace hf_23 := hr_62.at hkt (by decide) (by decide) hf_23
    replace hf_24 := hr_62.at hkt (by decide) (by decide) hf_24
    replace hf_25 := hr_62.at hkt (by decide) (by decide) hf_25
    replace hf_29 := hr_62.at hkt (by decide) (by decide) hf_29
    replace hu := ha_63.at hk9 (by decide) (by decide) hu
    replace hfr := hfr.trans (hr_62.sub (by decide))
    replace hfa := hfa.trans (ha_63.sub (by decide))
    obtain rfl := hR_65
    refine jj_if_eqF (tgt := 70) C dX3_readNumber_28 (by decide) (by decide) ?_
    refine jj_aload_n C dX3_readNumber_31 rfl ?_
    refine jj_aload_n C dX3_readNumber_32 rfl ?_
    refine tt_getF C hok_61 jk_4 0 (by decide) jw_70cd29f103 (t := (2, 10, 0)) hk0 (by decide) rfl rfl hs0 dX3_readNumber_33 ?_
    refine tt_getF C hok_61 jk_10 6 (by decide) jw_c96d139a1d (t := (0, (-2147483648), 2147483647)) hkt (by decide) rfl rfl hf_29 dX3_readNumber_36 ?_
    refine jj_iload_n C dX3_readNumber_39 rfl ?_
    refine jj_icmp_lt (tgt := 58) C dX3_readNumber_40 (by decide) (fun c_66 => ?_) (fun c_66 => ?_)
    · have z_c_66 := jc_lt (a := x_28.toInt) (b := p1.toInt) c_66 rfl rfl
      refine jj_iconst (v := 0) C dX3_readNumber_58 (by decide) ?_
      refine jj_iconst (v := 2) C dX3_readNumber_59 (by decide) ?_
      obtain ⟨qc, gs, hqc⟩ := tt_recv (cx := []) hok_61 hk0 (by decide) rfl
      refine tt_callV (rest := []) C (te_accept_02 hl D cA ak h0 hk0 hok_61) [] [] rfl rfl (by decide) (by decide) (by decide) qc hqc rfl rfl jw_713f4d2af1 jw_b3e457240a jw_58c48ce796 jw_9d546d0b6f jw_0001e2e84f jn_X3_accept rfl (jj_le rfl) (jj_le rfl) (jj_le rfl) (jj_le rfl) (jj_le rfl) dX3_readNumber_60 rfl (fun _ _ _ hX => hX.elim) (fun rx pl_67 r O_71 => ?_)
      obtain ⟨rfl, hok_68, hr_69, ha_70, hR_72⟩ := O_71
      replace hs0 := hr_69.at hk0 (by decide) (by decide) hs0
      replace hx0 := hr_69.at hkt (by decide) (by decide) hx0
      replace hx2 := hr_69.at hkt (by decide) (by decide) hx2
      replace hf_23 := hr_69.at hkt (by decide) (by decide) hf_23
      replace hf_24 := hr_69.at hkt (by decide) (by decide) hf_24
      replace hf_25 := hr_69.at hkt (by decide) (by decide) hf_25
      replace hf_29 := hr_69.at hkt (by decide) (by decide) hf_29
      replace hu := ha_70.at hk9 (by decide) (by decide) hu
      replace hfr := hfr.trans (hr_69.sub (by decide))
      replace hfa := hfa.trans (ha_70.sub (by decide))
      obtain ⟨hf_73, rfl⟩ := hR_72
      refine jj_if_eqT (tgt := 70) C dX3_readNumber_63 (by decide) (by decide) ?_
      refine jj_iconst (v := 0) C dX3_readNumber_70 (by decide) ?_
      exact jj_zret C rfl ⟨[], pl_67, rfl, rfl, hok_68, hfr, hfa, (Or.inr (Or.inl ⟨n_21, n_22, hf_23, hf_73, ht_26, ⟨⟨hkd_27.1, hkd_27.2.2⟩, (fun q => by have q7 := q.1; have q8 := hq_30 q7; have q9 := q.2; omega)⟩, rfl⟩))⟩ dX3_readNumber_71 (jj_le rfl) (jj_le rfl)
    · have z_c_66 := jc_nlt (a := x_28.toInt) (b := p1.toInt) c_66 rfl rfl
      refine jj_aload_n C dX3_readNumber_43 rfl ?_
      refine tt_getF C hok_61 jk_4 0 (by decide) jw_70cd29f103 (t := (2, 10, 0)) hk0 (by decide) rfl rfl hs0 dX3_readNumber_44 ?_
      refine tt_getF C hok_61 jk_10 6 (by decide) jw_c96d139a1d (t := (0, (-2147483648), 2147483647)) hkt (by decide) rfl rfl hf_29 dX3_readNumber_47 ?_
      refine jj_iload_n C dX3_readNumber_50 rfl ?_
      refine jj_icmp_gt (tgt := 58) C dX3_readNumber_51 (by decide) (fun c_74 => ?_) (fun c_74 => ?_)
      · have z_c_74 := jc_lt (a := p2.toInt) (b := x_28.toInt) c_74 rfl rfl
        refine jj_iconst (v := 0) C dX3_readNumber_58 (by decide) ?_
        refine jj_iconst (v := 2) C dX3_readNumber_59 (by decide) ?_
        obtain ⟨qc, gs, hqc⟩ := tt_recv (cx := []) hok_61 hk0 (by decide) rfl
        refine tt_callV (rest := []) C (te_accept_02 hl D cA ak h0 hk0 hok_61) [] [] rfl rfl (by decide) (by decide) (by decide) qc hqc rfl rfl jw_713f4d2af1 jw_b3e457240a jw_58c48ce796 jw_9d546d0b6f jw_0001e2e84f jn_X3_accept rfl (jj_le rfl) (jj_le rfl) (jj_le rfl) (jj_le rfl) (jj_le rfl) dX3_readNumber_60 rfl (fun _ _ _ hX => hX.elim) (fun rx pl_75 r O_79 => ?_)
        obtain ⟨rfl, hok_76, hr_77, ha_78, hR_80⟩ := O_79
        replace hs0 := hr_77.at hk0 (by decide) (by decide) hs0
        replace hx0 := hr_77.at hkt (by decide) (by decide) hx0
        replace hx2 := hr_77.at hkt (by decide) (by decide) hx2
        replace hf_23 := hr_77.at hkt (by decide) (by decide) hf_23
        replace hf_24 := hr_77.at hkt (by decide) (by decide) hf_24
        replace hf_25 := hr_77.at hkt (by decide) (by decide) hf_25
        replace hf_29 := hr_77.at hkt (by decide) (by decide) hf_29
        replace hu := ha_78.at hk9 (by decide) (by decide) hu
        replace hfr := hfr.trans (hr_77.sub (by decide))
        replace hfa := hfa.trans (ha_78.sub (by decide))
        obtain ⟨hf_81, rfl⟩ := hR_80
        refine jj_if_eqT (tgt := 70) C dX3_readNumber_63 (by decide) (by decide) ?_
        refine jj_iconst (v := 0) C dX3_readNumber_70 (by decide) ?_
        exact jj_zret C rfl ⟨[], pl_75, rfl, rfl, hok_76, hfr, hfa, (Or.inr (Or.inl ⟨n_21, n_22, hf_23, hf_81, ht_26, ⟨⟨hkd_27.1, hkd_27.2.2⟩, (fun q => by have q7 := q.1; have q8 := hq_30 q7; have q9 := q.2; omega)⟩, rfl⟩))⟩ dX3_readNumber_71 (jj_le rfl) (jj_le rfl)
      · have z_c_74 := jc_nlt (a := p2.toInt) (b := x_28.toInt) c_74 rfl rfl
        refine jj_iconst (v := 1) C dX3_readNumber_54 (by decide) ?_
        refine jj_goto (tgt := 59) C dX3_readNumber_55 (by decide) ?_
        refine jj_iconst (v := 2) C dX3_readNumber_59 (by decide) ?_
        obtain ⟨qc, gs, hqc⟩ := tt_recv (cx := []) hok_61 hk0 (by decide) rfl
        refine tt_callV (rest := []) C (te_accept_12 hl D cA ak h0 hk0 hok_61) [] [] rfl rfl (by decide) (by decide) (by decide) qc hqc rfl rfl jw_713f4d2af1 jw_b3e457240a jw_58c48ce796 jw_9d546d0b6f jw_0001e2e84f jn_X3_accept rfl (jj_le rfl) (jj_le rfl) (jj_le rfl) (jj_le rfl) (jj_le rfl) dX3_readNumber_60 rfl (fun _ _ _ hX => hX.elim) (fun rx pl_82 r O_86 => ?_)
        obtain ⟨rfl, hok_83, hr_84, ha_85, hR_87⟩ := O_86
        replace hs0 := hr_84.at hk0 (by decide) (by decide) hs0
        replace hx0 := hr_84.at hkt (by decide) (by decide) hx0
        replace hx2 := hr_84.at hkt (by decide) (by decide) hx2
        replace hf_23 := hr_84.at hkt (by decide) (by decide) hf_23
        replace hf_24 := hr_84.at hkt (by decide) (by decide) hf_24
        replace hf_25 := hr_84.at hkt (by decide) (by decide) hf_25
        replace hf_29 := hr_84.at hkt (by decide) (by decide) hf_29
        replace hu := ha_85.at hk9 (by decide) (by decide) hu
        replace hfr := hfr.trans (hr_84.sub (by decide))
        replace hfa := hfa.trans (ha_85.sub (by decide))
        obtain rfl := hR_87
        refine jj_if_eqF (tgt := 70) C dX3_readNumber_63 (by decide) (by decide) ?_
        refine jj_iconst (v := 1) C dX3_readNumber_66 (by decide) ?_
        refine jj_goto (tgt := 71) C dX3_readNumber_67 (by decide) ?_
        exact jj_zret C rfl ⟨[], pl_82, rfl, rfl, hok_83, hfr, hfa, (Or.inr (Or.inr ⟨n_21, n_22, hf_24, ht_26, ⟨hkd_27.1, hkd_27.2.2⟩, (by have q7 : n_22 ≤ n_21 + 7 := (by omega); have q8 := hq_30 q7; exact ⟨q7, by omega, by omega⟩), ⟨x_28, hf_29, (hq_30 (by omega))⟩, rfl⟩))⟩ dX3_readNumber_71 (jj_le rfl) (jj_le rfl)
  · have hzn_32 := ht_37.le (by omega)
    refine jj_aload_n C dX3_readNumber_7 rfl ?_
    refine jj_aload_n C dX3_readNumber_8 rfl ?_
    refine tt_getF C hok_2 jk_4 0 (by decide) jw_70cd29f103 (t := (2, 10, 0)) hk0 (by decide) rfl rfl hs0 dX3_readNumber_9 ?_
    refine tt_getF C hok_2 jk_10 5 (by decide) jw_601d0e39ae (t := (0, (-2147483648), 2147483647)) hkt (by decide) rfl rfl hf_36 dX3_readNumber_12 ?_
    refine jj_iconst (v := 2) C dX3_readNumber_15 (by decide) ?_
    refine jj_icmp_neT (tgt := 23) C dX3_readNumber_16 (by decide) (by decide) ?_
    refine jj_iconst (v := 0) C dX3_readNumber_23 (by decide) ?_
    refine jj_iconst (v := 1) C dX3_readNumber_24 (by decide) ?_
    obtain ⟨qc, gs, hqc⟩ := tt_recv (cx := []) hok_2 hk0 (by decide) rfl
    refine tt_callV (rest := []) C (te_accept_01 hl D cA ak h0 hk0 hok_2) [] [] rfl rfl (by decide) (by decide) (by decide) qc hqc rfl rfl jw_713f4d2af1 jw_b3e457240a jw_58c48ce796 jw_9d546d0b6f jw_0001e2e84f jn_X3_accept rfl (jj_le rfl) (jj_le rfl) (jj_le rfl) (jj_le rfl) (jj_le rfl) dX3_readNumber_25 rfl (fun _ _ _ hX => hX.elim) (fun rx pl_88 r O_92 => ?_)
    obtain ⟨rfl, hok_89, hr_90, ha_91, hR_93⟩ := O_92
    replace hs0 := hr_90.at hk0 (by decide) (by decide) hs0
    replace hx0 := hr_90.at hkt (by decide) (by decide) hx0
    replace hx2 := hr_90.at hkt (by decide) (by decide) hx2
    replace hf_34 := hr_90.at hkt (by decide) (by decide) hf_34
    replace hf_35 := hr_90.at hkt (by decide) (by decide) hf_35
    replace hf_36 := hr_90.at hkt (by decide) (by decide) hf_36
    replace hu := ha_91.at hk9 (by decide) (by decide) hu
    replace hfr := hfr.trans (hr_90.sub (by decide))
    replace hfa := hfa.trans (ha_91.sub (by decide))
    obtain ⟨hf_94, rfl⟩ := hR_93
    refine jj_if_eqT (tgt := 70) C dX3_readNumber_28 (by decide) (by decide) ?_
    refine jj_iconst (v := 0) C dX3_readNumber_70 (by decide) ?_
    exact jj_zret C rfl ⟨[], pl_88, rfl, rfl, hok_89, hfr, hfa, (Or.inl ⟨n_32, n_33, hf_34, hf_94, ht_37, (fun q => by have q3 := hkd_38.2; have q4 := q.2; unfold ps_le at q3; unfold ps_di at q4; omega), rfl⟩)⟩ dX3_readNumber_71 (jj_le rfl) (jj_le rfl)
  · have hzn_39 := ht_44.le (by omega)
    refine jj_aload_n C dX3_readNumber_7 rfl ?_
    refine jj_aload_n C dX3_readNumber_8 rfl ?_
    refine tt_getF C hok_2 jk_4 0 (by decide) jw_70cd29f103 (t := (2, 10, 0)) hk0 (by decide) rfl rfl hs0 dX3_readNumber_9 ?_
    refine tt_getF C hok_2 jk_10 5 (by decide) jw_601d0e39ae (t := (0, (-2147483648), 2147483647)) hkt (by decide) rfl rfl hf_43 dX3_readNumber_12 ?_
    refine jj_iconst (v := 2) C dX3_readNumber_15 (by decide) ?_
    refine jj_icmp_neT (tgt := 23) C dX3_readNumber_16 (by decide) (by decide) ?_
    refine jj_iconst (v := 0) C dX3_readNumber_23 (by decide) ?_
    refine jj_iconst (v := 1) C dX3_readNumber_24 (by decide) ?_
    obtain ⟨qc, gs, hqc⟩ := tt_recv (cx := []) hok_2 hk0 (by decide) rfl
    refine tt_callV (rest := []) C (te_accept_01 hl D cA ak h0 hk0 hok_2) [] [] rfl rfl (by decide) (by decide) (by decide) qc hqc rfl rfl jw_713f4d2af1 jw_b3e457240a jw_58c48ce796 jw_9d546d0b6f jw_0001e2e84f jn_X3_accept rfl (jj_le rfl) (jj_le rfl) (jj_le rfl) (jj_le rfl) (jj_le rfl) dX3_readNumber_25 rfl (fun _ _ _ hX => hX.elim) (fun rx pl_95 r O_99 => ?_)
    obtain ⟨rfl, hok_96, hr_97, ha_98, hR_100⟩ := O_99
    replace hs0 := hr_97.at hk0 (by decide) (by decide) hs0
    replace hx0 := hr_97.at hkt (by decide) (by decide) hx0
    replace hx2 := hr_97.at hkt (by decide) (by decide) hx2
    replace hf_41 := hr_97.at hkt (by decide) (by decide) hf_41
    replace hf_42 := hr_97.at hkt (by decide) (by decide) hf_42
    replace hf_43 := hr_97.at hkt (by decide) (by decide) hf_43
    replace hu := ha_98.at hk9 (by decide) (by decide) hu
    replace hfr := hfr.trans (hr_97.sub (by decide))
    replace hfa := hfa.trans (ha_98.sub (by decide))
    obtain ⟨hf_101, rfl⟩ := hR_100
    refine jj_if_eqT (tgt := 70) C dX3_readNumber_28 (by decide) (by decide) ?_
    refine jj_iconst (v := 0) C dX3_readNumber_70 (by decide) ?_
    exact jj_zret C rfl ⟨[], pl_95, rfl, rfl, hok_96, hfr, hfa, (Or.inl ⟨n_39, n_40, hf_41, hf_101, ht_44, (fun q => absurd q.1 (by omega)), rfl⟩)⟩ dX3_readNumber_71 (jj_le rfl) (jj_le rfl)
