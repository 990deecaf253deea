
set_option maxHeartbeats 4000000 in
set_option maxRecDepth 100000 in
theorem re_begin {l : Launch} (hl : l.stackTraces = false) (D : va_G) (cA : Nat → ClassId) (ak : (Nat → Nat) × (Nat → Nat)) {Kd : Nat → Nat} {h0 aw aa at0 ai af ap : Nat} (n13 : Nat) (at9 : Nat) (u : Nat → Int32) (c : Nat → Int) (hk0 : Kd h0 = 1) (hkw : Kd aw = 2) (hka : Kd aa = 3) (hkt : Kd at0 = 4) (hki : Kd ai = 5) (hkf : Kd af = 6) (hkp : Kd ap = 7) (ln13 : (0 : Int) ≤ (n13 : Int)) (un13 : (n13 : Int) ≤ 400) (hk9 : Kd at9 = 10) (hc : ∀ k : Nat, k < n13 → c k = ((u k) &&& 255).toInt) {pl0 : va_W} (hok : tt_ok rt_tk cA Kd pl0) (hm : rl_m pl0 h0 aw aa at0 ai af ap) (hs12 : tt_at pl0 h0 12 (.ref at9)) (hu : tt_ic pl0 at9 u) (hs13 : tt_at pl0 h0 13 (.int (nI n13))) : jj_M l D cA ak yX11_begin (.code yX11_begin cX11_begin 1 none) 2 45 0 0 ([] ++ pl0) [.ref h0] (tt_O (fun rx pl1 r => rx = [] ∧ tt_ok rt_tk cA Kd pl1 ∧ tt_fr Kd [(1, 13), (1, 14), (1, 15), (1, 16), (1, 17)] pl0 pl1 ∧ tt_fa Kd [] pl0 pl1 ∧ ((∃ a b : Nat, tt_at pl1 h0 13 (.int (nI 0)) ∧ tt_at pl1 h0 14 (.int (nI a)) ∧ tt_at pl1 h0 15 (.int (nI b)) ∧ tt_at pl1 h0 16 (.int (nI n13)) ∧ tt_at pl1 h0 17 (.int (nI 0)) ∧ ps_tok c n13 0 a b ∧ r = none)))) (tt_OX (fun _ _ _ => False)) := by
  refine jj_start hl (by decide) jw_10a65a4ad6 (jj_le rfl) ?_
  intro p e s m args below meth c9 A hargs hA C hex hmn
  have hfr := tt_fr.refl (K := Kd) (WS := [(1, 13), (1, 14), (1, 15), (1, 16), (1, 17)]) pl0
  have hfa := tt_fa.refl (K := Kd) (WA := []) pl0
  refine jj_aload_n C dX11_begin_0 rfl ?_
  refine jj_aload_n C dX11_begin_1 rfl ?_
  refine tt_getF C hok jk_12 13 (by decide) jw_fabf3762b1 (t := (0, 0, 400)) hk0 (by decide) rfl rfl hs13 dX11_begin_2 ?_
  refine rl_put C hok jk_12 16 (by decide) jw_28b46cb90c (t := (0, 0, 400)) hk0 (by decide) rfl rfl rfl (rl_iv (by omega) (by omega)) rfl rfl dX11_begin_5 (fun pl_1 hok_2 tr hn tl => ?_)
  replace hs12 := tr _ _ _ (Or.inr (by decide)) hs12
  replace hs13 := tr _ _ _ (Or.inr (by decide)) hs13
  have hf_3 := hn
  replace hm := hm.put tr (by decide)
  replace hfr := hfr.put hk0 tr (by decide)
  replace hu := tl _ _ hu
  replace hfa := hfa.all tl
  refine jj_aload_n C dX11_begin_8 rfl ?_
  refine jj_iconst (v := 0) C dX11_begin_9 (by decide) ?_
  refine rl_put C hok_2 jk_12 13 (by decide) jw_fabf3762b1 (t := (0, 0, 400)) hk0 (by decide) rfl rfl rfl (tt_iv (by decide) (by decide)) rfl rfl dX11_begin_10 (fun pl_4 hok_5 tr hn tl => ?_)
  replace hs12 := tr _ _ _ (Or.inr (by decide)) hs12
  replace hf_3 := tr _ _ _ (Or.inr (by decide)) hf_3
  have hf_6 := hn
  replace hm := hm.put tr (by decide)
  replace hfr := hfr.put hk0 tr (by decide)
  replace hu := tl _ _ hu
  replace hfa := hfa.all tl
  refine jj_aload_n C dX11_begin_13 rfl ?_
  refine jj_iconst (v := 0) C dX11_begin_14 (by decide) ?_
  refine rl_put C hok_5 jk_12 15 (by decide) jw_165232ba7c (t := (0, 0, 400)) hk0 (by decide) rfl rfl rfl (tt_iv (by decide) (by decide)) rfl rfl dX11_begin_15 (fun pl_7 hok_8 tr hn tl => ?_)
  replace hs12 := tr _ _ _ (Or.inr (by decide)) hs12
  replace hf_3 := tr _ _ _ (Or.inr (by decide)) hf_3
  replace hf_6 := tr _ _ _ (Or.inr (by decide)) hf_6
  have hf_9 := hn
  replace hm := hm.put tr (by decide)
  replace hfr := hfr.put hk0 tr (by decide)
  replace hu := tl _ _ hu
  replace hfa := hfa.all tl
  refine jj_aload_n C dX11_begin_18 rfl ?_
  refine jj_iconst (v := 0) C dX11_begin_19 (by decide) ?_
  refine rl_put C hok_8 jk_12 17 (by decide) jw_17e99f0710 (t := (0, (-2147483648), 2147483647)) hk0 (by decide) rfl rfl rfl (tt_ia (0 : Int32)) rfl rfl dX11_begin_20 (fun pl_10 hok_11 tr hn tl => ?_)
  replace hs12 := tr _ _ _ (Or.inr (by decide)) hs12
  replace hf_3 := tr _ _ _ (Or.inr (by decide)) hf_3
  replace hf_6 := tr _ _ _ (Or.inr (by decide)) hf_6
  replace hf_9 := tr _ _ _ (Or.inr (by decide)) hf_9
  have hf_12 := hn
  replace hm := hm.put tr (by decide)
  replace hfr := hfr.put hk0 tr (by decide)
  replace hu := tl _ _ hu
  replace hfa := hfa.all tl
  refine jj_aload_n C dX11_begin_23 rfl ?_
  obtain ⟨qc, gs, hqc⟩ := tt_recv (cx := []) hok_11 hk0 (by decide) rfl
  refine tt_callV (rest := []) C (re_next hl D cA ak n13 0 at9 u c hk0 hkw hka hkt hki hkf hkp (by first | omega | decide) (by first | omega | decide) (by first | omega | decide) (by first | omega | decide) hk9 (by omega) hc hok_11 hm hs12 hu hf_9 hf_3) [] [] rfl rfl (by decide) (by decide) (by decide) qc hqc rfl rfl jw_a1293b44dc jw_4cea53ed94 jw_1147b3dbc0 jw_f96c99f44d jw_8631b7212c jn_X11_next rfl (jj_le rfl) (jj_le rfl) (jj_le rfl) (jj_le rfl) (jj_le rfl) dX11_begin_24 rfl (fun _ _ _ hX => hX.elim) (fun rx pl_13 r O_17 => ?_)
  obtain ⟨rfl, hok_14, hr_15, ha_16, hR_18⟩ := O_17
  replace hs12 := hr_15.at hk0 (by decide) (by decide) hs12
  replace hf_3 := hr_15.at hk0 (by decide) (by decide) hf_3
  replace hf_6 := hr_15.at hk0 (by decide) (by decide) hf_6
  replace hf_12 := hr_15.at hk0 (by decide) (by decide) hf_12
  replace hu := ha_16.at hk9 (by decide) (by decide) hu
  replace hm := hm.fr hr_15 hk0 rfl
  replace hfr := hfr.trans (hr_15.sub (by decide))
  replace hfa := hfa.trans (ha_16.sub (by decide))
  obtain ⟨n_19, n_20, hf_21, hf_22, ht_23, rfl⟩ := hR_18
  have hzn_19 := ht_23.le (by omega)
  exact jj_vret C ⟨[], pl_13, rfl, rfl, hok_14, hfr, hfa, ⟨n_19, n_20, hf_6, hf_21, hf_22, hf_3, hf_12, ht_23, rfl⟩⟩ dX11_begin_27 (jj_le rfl) (jj_le rfl)

set_option maxHeartbeats 4000000 in
set_option maxRecDepth 100000 in
theorem re_readHead {l : Launch} (hl : l.stackTraces = false) (D : va_G) (cA : Nat → ClassId) (ak : (Nat → Nat) × (Nat → Nat)) {Kd : Nat → Nat} {h0 aw aa at0 ai af ap : Nat} (x18 : Int32) (n17 : Nat) (n16 : Nat) (n15 : Nat) (n14 : Nat) (at9 : Nat) (u : Nat → Int32) (c : Nat → Int) (f : Nat → Int64) (hk0 : Kd h0 = 1) (hkw : Kd aw = 2) (hka : Kd aa = 3) (hkt : Kd at0 = 4) (hki : Kd ai = 5) (hkf : Kd af = 6) (hkp : Kd ap = 7) (lx18 : (-2147483648 : Int) ≤ x18.toInt) (ux18 : x18.toInt ≤ 2147483647) (ln17 : (0 : Int) ≤ (n17 : Int)) (un17 : (n17 : Int) ≤ 3) (ln16 : (0 : Int) ≤ (n16 : Int)) (un16 : (n16 : Int) ≤ 400) (ln15 : (0 : Int) ≤ (n15 : Int)) (un15 : (n15 : Int) ≤ 400) (ln14 : (0 : Int) ≤ (n14 : Int)) (un14 : (n14 : Int) ≤ 400) (hk9 : Kd at9 = 10) (h45 : n14 ≤ n15) (h56 : n15 ≤ n16) (hc : ∀ k : Nat, k < n16 → c k = ((u k) &&& 255).toInt) (hy : ps_at c n16 ((0, 0, 0) : ps_S) n17 n14 n15 x18) (hZ : rl_Z f) {pl0 : va_W} (hok : tt_ok rt_tk cA Kd pl0) (hm : rl_m pl0 h0 aw aa at0 ai af ap) (hCf : tt_lc pl0 af f) (hs12 : tt_at pl0 h0 12 (.ref at9)) (hu : tt_ic pl0 at9 u) (hs14 : tt_at pl0 h0 14 (.int (nI n14))) (hs15 : tt_at pl0 h0 15 (.int (nI n15))) (hs16 : tt_at pl0 h0 16 (.int (nI n16))) (hs17 : tt_at pl0 h0 17 (.int (nI n17))) (hs18 : tt_at pl0 h0 18 (.int x18)) : jj_M l D cA ak yX11_readHead (.code yX11_readHead cX11_readHead 1 none) 6 129 0 0 ([] ++ pl0) [.ref h0] (tt_O (fun rx pl1 r => rx = [] ∧ tt_ok rt_tk cA Kd pl1 ∧ tt_fr Kd [(1, 14), (1, 15), (1, 17), (1, 18)] pl0 pl1 ∧ tt_fa Kd [6] pl0 pl1 ∧ ((∃ (y : ps_S) (i : Int) (g : Nat → Int64) (a b m : Nat) (x : Int32), tt_lc pl1 af g ∧ tt_at pl1 h0 14 (.int (nI a)) ∧ tt_at pl1 h0 15 (.int (nI b)) ∧ tt_at pl1 h0 17 (.int (nI m)) ∧ tt_at pl1 h0 18 (.int x) ∧ ps_head c n16 y i ∧ ps_at c n16 y m a b x ∧ a ≤ b ∧ b ≤ n16 ∧ m ≤ 3 ∧ (m = 0 → rl_FR g ∧ (g 0).toInt = i ∧ (g 8).toInt = 0) ∧ r = none)))) (tt_OX (fun _ _ _ => False)) := by
  refine jj_start hl (by decide) jw_753a64c668 (jj_le rfl) ?_
  intro p e s m args below meth c9 A hargs hA C hex hmn
  have hfr := tt_fr.refl (K := Kd) (WS := [(1, 14), (1, 15), (1, 17), (1, 18)]) pl0
  have hfa := tt_fa.refl (K := Kd) (WA := [6]) pl0
  refine jj_aload_n C dX11_readHead_0 rfl ?_
  refine jj_ldcsw (k := 20) (tx := "fund") C dX11_readHead_1 (by decide +kernel) ?_
  obtain ⟨qc, gs, hqc⟩ := tt_recv (cx := []) hok hk0 (by decide) rfl
  refine tt_callV (rest := []) C (re_must_fund hl D cA ak x18 n17 n16 n15 n14 at9 u c ((0, 0, 0) : ps_S) hk0 hkw hka hkt hki hkf hkp (by first | omega | decide | exact tt_lo _ | exact tt_hi _) (by first | omega | decide | exact tt_lo _ | exact tt_hi _) (by first | omega | decide) (by first | omega | decide) (by first | omega | decide) (by first | omega | decide) (by first | omega | decide) (by first | omega | decide) (by first | omega | decide) (by first | omega | decide) hk9 (by omega) (by omega) hc hy hok hm hs12 hu hs14 hs15 hs16 hs17 hs18) [] [] rfl rfl (by decide) (by decide) (by decide) qc hqc rfl rfl jw_567bcddfb2 jw_5c84fa4094 jw_52b545b3e3 jw_f96c99f44d jw_84234b4b1a jn_X11_must rfl (jj_le rfl) (jj_le rfl) (jj_le rfl) (jj_le rfl) (jj_le rfl) dX11_readHead_4 rfl (fun _ _ _ hX => hX.elim) (fun rx pl_1 r O_5 => ?_)
  obtain ⟨rfl, hok_2, hr_3, ha_4, hR_6⟩ := O_5
  replace hs12 := hr_3.at hk0 (by decide) (by decide) hs12
  replace hs16 := hr_3.at hk0 (by decide) (by decide) hs16
  replace hCf := ha_4.at hkf (by decide) (by decide) hCf
  replace hu := ha_4.at hk9 (by decide) (by decide) hu
  replace hm := hm.fr hr_3 hk0 rfl
  replace hfr := hfr.trans (hr_3.sub (by decide))
  replace hfa := hfa.trans (ha_4.sub (by decide))
  obtain ⟨y_11, n_7, n_8, n_9, x_10, hf_12, hf_13, hf_14, hf_15, hs_16, hy_17, hq_18, hq_19, hq_20, hq_21, hq_22, rfl⟩ := hR_6
  have lx_10 := tt_lo x_10
  have ux_10 := tt_hi x_10
  refine jj_aload_n C dX11_readHead_7 rfl ?_
  refine jj_ldcsw (k := 21) (tx := "equal") C dX11_readHead_8 (by decide +kernel) ?_
  obtain ⟨qc, gs, hqc⟩ := tt_recv (cx := []) hok_2 hk0 (by decide) rfl
  refine tt_callV (rest := []) C (re_isWord_equal hl D cA ak n16 n_8 n_7 at9 u c hk0 hkw hka hkt hki hkf hkp (by first | omega | decide) (by first | omega | decide) (by first | omega | decide) (by first | omega | decide) (by first | omega | decide) (by first | omega | decide) hk9 (by omega) (by omega) hc hok_2 hm hs12 hu hf_12 hf_13 hs16) [] [] rfl rfl (by decide) (by decide) (by decide) qc hqc rfl rfl jw_04296bb1c5 jw_2d2d3dccfc jw_f04e1767ef jw_f96c99f44d jw_f54d9c537b jn_X11_isWord rfl (jj_le rfl) (jj_le rfl) (jj_le rfl) (jj_le rfl) (jj_le rfl) dX11_readHead_11 rfl (fun _ _ _ hX => hX.elim) (fun rx pl_23 r O_27 => ?_)
  obtain ⟨rfl, hok_24, hr_25, ha_26, hR_28⟩ := O_27
  replace hs12 := hr_25.at hk0 (by decide) (by decide) hs12
  replace hs16 := hr_25.at hk0 (by decide) (by decide) hs16
  replace hf_12 := hr_25.at hk0 (by decide) (by decide) hf_12
  replace hf_13 := hr_25.at hk0 (by decide) (by decide) hf_13
  replace hf_14 := hr_25.at hk0 (by decide) (by decide) hf_14
  replace hf_15 := hr_25.at hk0 (by decide) (by decide) hf_15
  replace hCf := ha_26.at hkf (by decide) (by decide) hCf
  replace hu := ha_26.at hk9 (by decide) (by decide) hu
  replace hm := hm.fr hr_25 hk0 rfl
  replace hfr := hfr.trans (hr_25.sub (by decide))
  replace hfa := hfa.trans (ha_26.sub (by decide))
  rcases hR_28 with ⟨hw_29, rfl⟩ | ⟨hw_30, rfl⟩
  · refine jj_if_eqT (tgt := 27) C dX11_readHead_14 (by decide) (by decide) ?_
    refine jj_aload_n C dX11_readHead_27 rfl ?_
    refine jj_ldcsw (k := 22) (tx := "series") C dX11_readHead_28 (by decide +kernel) ?_
    obtain ⟨qc, gs, hqc⟩ := tt_recv (cx := []) hok_24 hk0 (by decide) rfl
    refine tt_callV (rest := []) C (re_isWord_series hl D cA ak n16 n_8 n_7 at9 u c hk0 hkw hka hkt hki hkf hkp (by first | omega | decide) (by first | omega | decide) (by first | omega | decide) (by first | omega | decide) (by first | omega | decide) (by first | omega | decide) hk9 (by omega) (by omega) hc hok_24 hm hs12 hu hf_12 hf_13 hs16) [] [] rfl rfl (by decide) (by decide) (by decide) qc hqc rfl rfl jw_04296bb1c5 jw_2d2d3dccfc jw_f04e1767ef jw_f96c99f44d jw_f54d9c537b jn_X11_isWord rfl (jj_le rfl) (jj_le rfl) (jj_le rfl) (jj_le rfl) (jj_le rfl) dX11_readHead_31 rfl (fun _ _ _ hX => hX.elim) (fun rx pl_31 r O_35 => ?_)
    obtain ⟨rfl, hok_32, hr_33, ha_34, hR_36⟩ := O_35
    replace hs12 := hr_33.at hk0 (by decide) (by decide) hs12
    replace hs16 := hr_33.at hk0 (by decide) (by decide) hs16
    replace hf_12 := hr_33.at hk0 (by decide) (by decide) hf_12
    replace hf_13 := hr_33.at hk0 (by decide) (by decide) hf_13
    replace hf_14 := hr_33.at hk0 (by decide) (by decide) hf_14
    replace hf_15 := hr_33.at hk0 (by decide) (by decide) hf_15
    replace hCf := ha_34.at hkf (by decide) (by decide) hCf
    replace hu := ha_34.at hk9 (by decide) (by decide) hu
    replace hm := hm.fr hr_33 hk0 rfl
    replace hfr := hfr.trans (hr_33.sub (by decide))
    replace hfa := hfa.trans (ha_34.sub (by decide))
    rcases hR_36 with ⟨hw_37, rfl⟩ | ⟨hw_38, rfl⟩
    · refine jj_if_neF (tgt := 42) C dX11_readHead_34 (by decide) (by decide) ?_
      refine jj_aload_n C dX11_readHead_37 rfl ?_
      refine jj_iconst (v := 1) C dX11_readHead_38 (by decide) ?_
      obtain ⟨qc, gs, hqc⟩ := tt_recv (cx := []) hok_32 hk0 (by decide) rfl
      refine tt_callV (rest := []) C (re_wrong_1 hl D cA ak x_10 n_9 n_7 hk0 hkw hka hkt hki hkf hkp (by first | omega | decide | exact tt_lo _ | exact tt_hi _) (by first | omega | decide | exact tt_lo _ | exact tt_hi _) (by first | omega | decide) (by first | omega | decide) (by first | omega | decide) (by first | omega | decide) hok_32 hm hf_12 hf_14 hf_15) [] [] rfl rfl (by decide) (by decide) (by decide) qc hqc rfl rfl jw_e206642f3f jw_6f17e07a53 jw_400f18f3e9 jw_f96c99f44d jw_6b1a6dabbc jn_X11_wrong rfl (jj_le rfl) (jj_le rfl) (jj_le rfl) (jj_le rfl) (jj_le rfl) dX11_readHead_39 rfl (fun _ _ _ hX => hX.elim) (fun rx pl_39 r O_43 => ?_)
      obtain ⟨rfl, hok_40, hr_41, ha_42, hR_44⟩ := O_43
      replace hs12 := hr_41.at hk0 (by decide) (by decide) hs12
      replace hs16 := hr_41.at hk0 (by decide) (by decide) hs16
      replace hf_12 := hr_41.at hk0 (by decide) (by decide) hf_12
      replace hf_13 := hr_41.at hk0 (by decide) (by decide) hf_13
      replace hCf := ha_42.at hkf (by decide) (by decide) hCf
      replace hu := ha_42.at hk9 (by decide) (by decide) hu
      replace hm := hm.fr hr_41 hk0 rfl
      replace hfr := hfr.trans (hr_41.sub (by decide))
      replace hfa := hfa.trans (ha_42.sub (by decide))
      rcases hR_44 with ⟨hf_45, hf_46, hf_47, rfl⟩ | ⟨hf_48, hf_49, hf_50, rfl⟩
      · refine jj_aload_n C dX11_readHead_42 rfl ?_
        obtain ⟨qc, gs, hqc⟩ := tt_recv (cx := []) hok_40 hk0 (by decide) rfl
        refine tt_callV (rest := []) C (re_pass hl D cA ak 1 n16 n_8 n_7 at9 u c hk0 hkw hka hkt hki hkf hkp (by first | omega | decide) (by first | omega | decide) (by first | omega | decide) (by first | omega | decide) (by first | omega | decide) (by first | omega | decide) (by first | omega | decide) (by first | omega | decide) hk9 (by omega) (by omega) hc hok_40 hm hs12 hu hf_12 hf_13 hs16 hf_46) [] [] rfl rfl (by decide) (by decide) (by decide) qc hqc rfl rfl jw_b8e803331f jw_409849e3da jw_7cfaf31817 jw_f96c99f44d jw_3d0e41f30f jn_X11_pass rfl (jj_le rfl) (jj_le rfl) (jj_le rfl) (jj_le rfl) (jj_le rfl) dX11_readHead_43 rfl (fun _ _ _ hX => hX.elim) (fun rx pl_51 r O_55 => ?_)
        obtain ⟨rfl, hok_52, hr_53, ha_54, hR_56⟩ := O_55
        replace hs12 := hr_53.at hk0 (by decide) (by decide) hs12
        replace hs16 := hr_53.at hk0 (by decide) (by decide) hs16
        replace hf_46 := hr_53.at hk0 (by decide) (by decide) hf_46
        replace hf_47 := hr_53.at hk0 (by decide) (by decide) hf_47
        replace hCf := ha_54.at hkf (by decide) (by decide) hCf
        replace hu := ha_54.at hk9 (by decide) (by decide) hu
        replace hm := hm.fr hr_53 hk0 rfl
        replace hfr := hfr.trans (hr_53.sub (by decide))
        replace hfa := hfa.trans (ha_54.sub (by decide))
        rcases hR_56 with ⟨hq_57, hf_58, hf_59, rfl⟩ | ⟨hq_60, ⟨n_61, n_62, hf_63, hf_64, ht_65⟩, rfl⟩
        · obtain ⟨y_66, hs_67, hy_68⟩ : ∃ z : ps_S, ps_step c n16 (ps_cM c) y_11 z ∧ ps_at c n16 z 1 n_7 n_8 (nI n_7) := ps_at.no2 (chk := ps_cM c) (k := 1) _ _ hy_17 (by omega) (Or.inr ⟨(fun q => q.elim hw_29 hw_37), rfl⟩) (by decide)
          refine jj_aload_n C dX11_readHead_46 rfl ?_
          refine tt_getF C hok_52 jk_12 4 (by decide) jw_69cfdf3f6e (t := (2, 6, 0)) hk0 (by decide) rfl rfl hm.2.2.2.2.1 dX11_readHead_47 ?_
          refine jj_iconst (v := 2) C dX11_readHead_50 (by decide) ?_
          refine jj_aload_n C dX11_readHead_51 rfl ?_
          refine jj_lconst (v := 0) C dX11_readHead_52 (by decide) ?_
          refine jj_ldc2 (v := 9999) C dX11_readHead_53 jw_79cc7664b1 ?_
          obtain ⟨qc, gs, hqc⟩ := tt_recv (cx := []) hok_52 hk0 (by decide) rfl
          refine tt_callV (rest := [.int 2, .ref af]) C (re_number hl D cA ak (nI n_7) 1 n16 n_8 n_7 at9 u c y_66 (0 : Int64) (9999 : Int64) 0 9999 hk0 hkw hka hkt hki hkf hkp (by first | omega | decide | exact tt_lo _ | exact tt_hi _) (by first | omega | decide | exact tt_lo _ | exact tt_hi _) (by first | omega | decide) (by first | omega | decide) (by first | omega | decide) (by first | omega | decide) (by first | omega | decide) (by first | omega | decide) (by first | omega | decide) (by first | omega | decide) hk9 (by omega) (by omega) hc hy_68 (by decide) (by decide) hok_52 hm hs12 hu hf_58 hf_59 hs16 hf_46 hf_47) [] [] rfl rfl (by decide) (by decide) (by decide) qc hqc rfl rfl jw_adb570a667 jw_970096b033 jw_c6bab24534 jw_f96c99f44d jw_2d66378959 jn_X11_number rfl (jj_le rfl) (jj_le rfl) (jj_le rfl) (jj_le rfl) (jj_le rfl) dX11_readHead_56 rfl (fun _ _ _ hX => hX.elim) (fun rx pl_69 r O_73 => ?_)
          obtain ⟨rfl, hok_70, hr_71, ha_72, hR_74⟩ := O_73
          replace hs12 := hr_71.at hk0 (by decide) (by decide) hs12
          replace hs16 := hr_71.at hk0 (by decide) (by decide) hs16
          replace hCf := ha_72.at hkf (by decide) (by decide) hCf
          replace hu := ha_72.at hk9 (by decide) (by decide) hu
          replace hm := hm.fr hr_71 hk0 rfl
          replace hfr := hfr.trans (hr_71.sub (by decide))
          replace hfa := hfa.trans (ha_72.sub (by decide))
          obtain ⟨y_80, n_75, n_76, n_77, x_78, x_79, hf_81, hf_82, hf_83, hf_84, hs_85, hy_86, hq_87, hq_88, hq_89, hq_90, hq_91, hq_92, rfl⟩ := hR_74
          have lx_78 := tt_lo x_78
          have ux_78 := tt_hi x_78
          have lx_79 := tt_lo x_79
          have ux_79 := tt_hi x_79
          obtain ⟨y_93, ey_93, vy_93⟩ := tt_i2l x_79
          refine jj_i2l (v := y_93) C dX11_readHead_59 ey_93 ?_
          refine rl_last C hok_70 (t := (1, (-9223372036854775808), 9223372036854775807)) hkf (by decide) rfl (k := 2) (vp_in_iff.mpr (by decide)) (tt_ja _) (by decide) dX11_readHead_60 (fun pl_94 hok_95 tr tl tw => ?_)
          replace hs12 := tr _ _ _ hs12
          replace hs16 := tr _ _ _ hs16
          replace hf_81 := tr _ _ _ hf_81
          replace hf_82 := tr _ _ _ hf_82
          replace hf_83 := tr _ _ _ hf_83
          replace hf_84 := tr _ _ _ hf_84
          replace hm := hm.arr tr
          replace hfr := hfr.arr tr
          replace hCf := tw _ hCf
          replace hu := tl _ _ (tt_ne hk9 hkf (by decide)) hu
          replace hfa := hfa.wr hkf tl (by decide)
          refine jj_aload_n C dX11_readHead_61 rfl ?_
          refine tt_getF C hok_95 jk_12 4 (by decide) jw_69cfdf3f6e (t := (2, 6, 0)) hk0 (by decide) rfl rfl hm.2.2.2.2.1 dX11_readHead_62 ?_
          refine jj_iconst (v := 3) C dX11_readHead_65 (by decide) ?_
          refine jj_aload_n C dX11_readHead_66 rfl ?_
          refine jj_lconst (v := 0) C dX11_readHead_67 (by decide) ?_
          refine jj_ldc2 (v := 50) C dX11_readHead_68 jw_5d90e8e74a ?_
          obtain ⟨qc, gs, hqc⟩ := tt_recv (cx := []) hok_95 hk0 (by decide) rfl
          refine tt_callV (rest := [.int 3, .ref af]) C (re_number hl D cA ak x_78 n_77 n16 n_76 n_75 at9 u c y_80 (0 : Int64) (50 : Int64) 0 50 hk0 hkw hka hkt hki hkf hkp (by first | omega | decide | exact tt_lo _ | exact tt_hi _) (by first | omega | decide | exact tt_lo _ | exact tt_hi _) (by first | omega | decide) (by first | omega | decide) (by first | omega | decide) (by first | omega | decide) (by first | omega | decide) (by first | omega | decide) (by first | omega | decide) (by first | omega | decide) hk9 (by omega) (by omega) hc hy_86 (by decide) (by decide) hok_95 hm hs12 hu hf_81 hf_82 hs16 hf_83 hf_84) [] [] rfl rfl (by decide) (by decide) (by decide) qc hqc rfl rfl jw_adb570a667 jw_970096b033 jw_c6bab24534 jw_f96c99f44d jw_2d66378959 jn_X11_number rfl (jj_le rfl) (jj_le rfl) (jj_le rfl) (jj_le rfl) (jj_le rfl) dX11_readHead_71 rfl (fun _ _ _ hX => hX.elim) (fun rx pl_96 r O_100 => ?_)
          obtain ⟨rfl, hok_97, hr_98, ha_99, hR_101⟩ := O_100
          replace hs12 := hr_98.at hk0 (by decide) (by decide) hs12
          replace hs16 := hr_98.at hk0 (by decide) (by decide) hs16
          replace hCf := ha_99.at hkf (by decide) (by decide) hCf
          replace hu := ha_99.at hk9 (by decide) (by decide) hu
          replace hm := hm.fr hr_98 hk0 rfl
          replace hfr := hfr.trans (hr_98.sub (by decide))
          replace hfa := hfa.trans (ha_99.sub (by decide))
          obtain ⟨y_107, n_102, n_103, n_104, x_105, x_106, hf_108, hf_109, hf_110, hf_111, hs_112, hy_113, hq_114, hq_115, hq_116, hq_117, hq_118, hq_119, rfl⟩ := hR_101
          have lx_105 := tt_lo x_105
          have ux_105 := tt_hi x_105
          have lx_106 := tt_lo x_106
          have ux_106 := tt_hi x_106
          obtain ⟨y_120, ey_120, vy_120⟩ := tt_i2l x_106
          refine jj_i2l (v := y_120) C dX11_readHead_74 ey_120 ?_
          refine rl_last C hok_97 (t := (1, (-9223372036854775808), 9223372036854775807)) hkf (by decide) rfl (k := 3) (vp_in_iff.mpr (by decide)) (tt_ja _) (by decide) dX11_readHead_75 (fun pl_121 hok_122 tr tl tw => ?_)
          replace hs12 := tr _ _ _ hs12
          replace hs16 := tr _ _ _ hs16
          replace hf_108 := tr _ _ _ hf_108
          replace hf_109 := tr _ _ _ hf_109
          replace hf_110 := tr _ _ _ hf_110
          replace hf_111 := tr _ _ _ hf_111
          replace hm := hm.arr tr
          replace hfr := hfr.arr tr
          replace hCf := tw _ hCf
          replace hu := tl _ _ (tt_ne hk9 hkf (by decide)) hu
          replace hfa := hfa.wr hkf tl (by decide)
          refine jj_aload_n C dX11_readHead_76 rfl ?_
          refine tt_getF C hok_122 jk_12 4 (by decide) jw_69cfdf3f6e (t := (2, 6, 0)) hk0 (by decide) rfl rfl hm.2.2.2.2.1 dX11_readHead_77 ?_
          refine jj_iconst (v := 4) C dX11_readHead_80 (by decide) ?_
          refine jj_aload_n C dX11_readHead_81 rfl ?_
          refine jj_lconst (v := 1) C dX11_readHead_82 (by decide) ?_
          refine jj_ldc2 (v := 100) C dX11_readHead_83 jw_0cface3231 ?_
          obtain ⟨qc, gs, hqc⟩ := tt_recv (cx := []) hok_122 hk0 (by decide) rfl
          refine tt_callV (rest := [.int 4, .ref af]) C (re_number hl D cA ak x_105 n_104 n16 n_103 n_102 at9 u c y_107 (1 : Int64) (100 : Int64) 1 100 hk0 hkw hka hkt hki hkf hkp (by first | omega | decide | exact tt_lo _ | exact tt_hi _) (by first | omega | decide | exact tt_lo _ | exact tt_hi _) (by first | omega | decide) (by first | omega | decide) (by first | omega | decide) (by first | omega | decide) (by first | omega | decide) (by first | omega | decide) (by first | omega | decide) (by first | omega | decide) hk9 (by omega) (by omega) hc hy_113 (by decide) (by decide) hok_122 hm hs12 hu hf_108 hf_109 hs16 hf_110 hf_111) [] [] rfl rfl (by decide) (by decide) (by decide) qc hqc rfl rfl jw_adb570a667 jw_970096b033 jw_c6bab24534 jw_f96c99f44d jw_2d66378959 jn_X11_number rfl (jj_le rfl) (jj_le rfl) (jj_le rfl) (jj_le rfl) (jj_le rfl) dX11_readHead_86 rfl (fun _ _ _ hX => hX.elim) (fun rx pl_123 r O_127 => ?_)
          obtain ⟨rfl, hok_124, hr_125, ha_126, hR_128⟩ := O_127
          replace hs12 := hr_125.at hk0 (by decide) (by decide) hs12
          replace hs16 := hr_125.at hk0 (by decide) (by decide) hs16
          replace hCf := ha_126.at hkf (by decide) (by decide) hCf
          replace hu := ha_126.at hk9 (by decide) (by decide) hu
          replace hm := hm.fr hr_125 hk0 rfl
          replace hfr := hfr.trans (hr_125.sub (by decide))
          replace hfa := hfa.trans (ha_126.sub (by decide))
          obtain ⟨y_134, n_129, n_130, n_131, x_132, x_133, hf_135, hf_136, hf_137, hf_138, hs_139, hy_140, hq_141, hq_142, hq_143, hq_144, hq_145, hq_146, rfl⟩ := hR_128
          have lx_132 := tt_lo x_132
          have ux_132 := tt_hi x_132
          have lx_133 := tt_lo x_133
          have ux_133 := tt_hi x_133
          obtain ⟨y_147, ey_147, vy_147⟩ := tt_i2l x_133
          refine jj_i2l (v := y_147) C dX11_readHead_89 ey_147 ?_
          refine rl_last C hok_124 (t := (1, (-9223372036854775808), 9223372036854775807)) hkf (by decide) rfl (k := 4) (vp_in_iff.mpr (by decide)) (tt_ja _) (by decide) dX11_readHead_90 (fun pl_148 hok_149 tr tl tw => ?_)
          replace hs12 := tr _ _ _ hs12
          replace hs16 := tr _ _ _ hs16
          replace hf_135 := tr _ _ _ hf_135
          replace hf_136 := tr _ _ _ hf_136
          replace hf_137 := tr _ _ _ hf_137
          replace hf_138 := tr _ _ _ hf_138
          replace hm := hm.arr tr
          replace hfr := hfr.arr tr
          replace hCf := tw _ hCf
          replace hu := tl _ _ (tt_ne hk9 hkf (by decide)) hu
          replace hfa := hfa.wr hkf tl (by decide)
          refine jj_aload_n C dX11_readHead_91 rfl ?_
          refine jj_ldcsw (k := 23) (tx := ";") C dX11_readHead_92 (by decide +kernel) ?_
          obtain ⟨qc, gs, hqc⟩ := tt_recv (cx := []) hok_149 hk0 (by decide) rfl
          refine tt_callV (rest := []) C (re_must_semi hl D cA ak x_132 n_131 n16 n_130 n_129 at9 u c y_134 hk0 hkw hka hkt hki hkf hkp (by first | omega | decide | exact tt_lo _ | exact tt_hi _) (by first | omega | decide | exact tt_lo _ | exact tt_hi _) (by first | omega | decide) (by first | omega | decide) (by first | omega | decide) (by first | omega | decide) (by first | omega | decide) (by first | omega | decide) (by first | omega | decide) (by first | omega | decide) hk9 (by omega) (by omega) hc hy_140 hok_149 hm hs12 hu hf_135 hf_136 hs16 hf_137 hf_138) [] [] rfl rfl (by decide) (by decide) (by decide) qc hqc rfl rfl jw_567bcddfb2 jw_5c84fa4094 jw_52b545b3e3 jw_f96c99f44d jw_84234b4b1a jn_X11_must rfl (jj_le rfl) (jj_le rfl) (jj_le rfl) (jj_le rfl) (jj_le rfl) dX11_readHead_95 rfl (fun _ _ _ hX => hX.elim) (fun rx pl_150 r O_154 => ?_)
          obtain ⟨rfl, hok_151, hr_152, ha_153, hR_155⟩ := O_154
          replace hs12 := hr_152.at hk0 (by decide) (by decide) hs12
          replace hs16 := hr_152.at hk0 (by decide) (by decide) hs16
          replace hCf := ha_153.at hkf (by decide) (by decide) hCf
          replace hu := ha_153.at hk9 (by decide) (by decide) hu
          replace hm := hm.fr hr_152 hk0 rfl
          replace hfr := hfr.trans (hr_152.sub (by decide))
          replace hfa := hfa.trans (ha_153.sub (by decide))
          obtain ⟨y_160, n_156, n_157, n_158, x_159, hf_161, hf_162, hf_163, hf_164, hs_165, hy_166, hq_167, hq_168, hq_169, hq_170, hq_171, rfl⟩ := hR_155
          have lx_159 := tt_lo x_159
          have ux_159 := tt_hi x_159
          refine jj_aload_n C dX11_readHead_98 rfl ?_
          refine jj_ldcsw (k := 24) (tx := "investors") C dX11_readHead_99 (by decide +kernel) ?_
          obtain ⟨qc, gs, hqc⟩ := tt_recv (cx := []) hok_151 hk0 (by decide) rfl
          refine tt_callV (rest := []) C (re_must_investors hl D cA ak x_159 n_158 n16 n_157 n_156 at9 u c y_160 hk0 hkw hka hkt hki hkf hkp (by first | omega | decide | exact tt_lo _ | exact tt_hi _) (by first | omega | decide | exact tt_lo _ | exact tt_hi _) (by first | omega | decide) (by first | omega | decide) (by first | omega | decide) (by first | omega | decide) (by first | omega | decide) (by first | omega | decide) (by first | omega | decide) (by first | omega | decide) hk9 (by omega) (by omega) hc hy_166 hok_151 hm hs12 hu hf_161 hf_162 hs16 hf_163 hf_164) [] [] rfl rfl (by decide) (by decide) (by decide) qc hqc rfl rfl jw_567bcddfb2 jw_5c84fa4094 jw_52b545b3e3 jw_f96c99f44d jw_84234b4b1a jn_X11_must rfl (jj_le rfl) (jj_le rfl) (jj_le rfl) (jj_le rfl) (jj_le rfl) dX11_readHead_102 rfl (fun _ _ _ hX => hX.elim) (fun rx pl_172 r O_176 => ?_)
          obtain ⟨rfl, hok_173, hr_174, ha_175, hR_177⟩ := O_176
          replace hs12 := hr_174.at hk0 (by decide) (by decide) hs12
          replace hs16 := hr_174.at hk0 (by decide) (by decide) hs16
          replace hCf := ha_175.at hkf (by decide) (by decide) hCf
          replace hu := ha_175.at hk9 (by decide) (by decide) hu
          replace hm := hm.fr hr_174 hk0 rfl
          replace hfr := hfr.trans (hr_174.sub (by decide))
          replace hfa := hfa.trans (ha_175.sub (by decide))
          obtain ⟨y_182, n_178, n_179, n_180, x_181, hf_183, hf_184, hf_185, hf_186, hs_187, hy_188, hq_189, hq_190, hq_191, hq_192, hq_193, rfl⟩ := hR_177
          have lx_181 := tt_lo x_181
          have ux_181 := tt_hi x_181
          refine jj_aload_n C dX11_readHead_105 rfl ?_
          refine tt_getF C hok_173 jk_12 4 (by decide) jw_69cfdf3f6e (t := (2, 6, 0)) hk0 (by decide) rfl rfl hm.2.2.2.2.1 dX11_readHead_106 ?_
          refine jj_iconst (v := 0) C dX11_readHead_109 (by decide) ?_
          refine jj_aload_n C dX11_readHead_110 rfl ?_
          refine jj_lconst (v := 1) C dX11_readHead_111 (by decide) ?_
          refine jj_ldc2 (v := 6) C dX11_readHead_112 jw_f454e46fa4 ?_
          obtain ⟨qc, gs, hqc⟩ := tt_recv (cx := []) hok_173 hk0 (by decide) rfl
          refine tt_callV (rest := [.int 0, .ref af]) C (re_number hl D cA ak x_181 n_180 n16 n_179 n_178 at9 u c y_182 (1 : Int64) (6 : Int64) 1 6 hk0 hkw hka hkt hki hkf hkp (by first | omega | decide | exact tt_lo _ | exact tt_hi _) (by first | omega | decide | exact tt_lo _ | exact tt_hi _) (by first | omega | decide) (by first | omega | decide) (by first | omega | decide) (by first | omega | decide) (by first | omega | decide) (by first | omega | decide) (by first | omega | decide) (by first | omega | decide) hk9 (by omega) (by omega) hc hy_188 (by decide) (by decide) hok_173 hm hs12 hu hf_183 hf_184 hs16 hf_185 hf_186) [] [] rfl rfl (by decide) (by decide) (by decide) qc hqc rfl rfl jw_adb570a667 jw_970096b033 jw_c6bab24534 jw_f96c99f44d jw_2d66378959 jn_X11_number rfl (jj_le rfl) (jj_le rfl) (jj_le rfl) (jj_le rfl) (jj_le rfl) dX11_readHead_115 rfl (fun _ _ _ hX => hX.elim) (fun rx pl_194 r O_198 => ?_)
          obtain ⟨rfl, hok_195, hr_196, ha_197, hR_199⟩ := O_198
          replace hs12 := hr_196.at hk0 (by decide) (by decide) hs12
          replace hs16 := hr_196.at hk0 (by decide) (by decide) hs16
          replace hCf := ha_197.at hkf (by decide) (by decide) hCf
          replace hu := ha_197.at hk9 (by decide) (by decide) hu
          replace hm := hm.fr hr_196 hk0 rfl
          replace hfr := hfr.trans (hr_196.sub (by decide))
          replace hfa := hfa.trans (ha_197.sub (by decide))
          obtain ⟨y_205, n_200, n_201, n_202, x_203, x_204, hf_206, hf_207, hf_208, hf_209, hs_210, hy_211, hq_212, hq_213, hq_214, hq_215, hq_216, hq_217, rfl⟩ := hR_199
          have lx_203 := tt_lo x_203
          have ux_203 := tt_hi x_203
          have lx_204 := tt_lo x_204
          have ux_204 := tt_hi x_204
          obtain ⟨y_218, ey_218, vy_218⟩ := tt_i2l x_204
          refine jj_i2l (v := y_218) C dX11_readHead_118 ey_218 ?_
          refine rl_last C hok_195 (t := (1, (-9223372036854775808), 9223372036854775807)) hkf (by decide) rfl (k := 0) (vp_in_iff.mpr (by decide)) (tt_ja _) (by decide) dX11_readHead_119 (fun pl_219 hok_220 tr tl tw => ?_)
          replace hs12 := tr _ _ _ hs12
          replace hs16 := tr _ _ _ hs16
          replace hf_206 := tr _ _ _ hf_206
          replace hf_207 := tr _ _ _ hf_207
          replace hf_208 := tr _ _ _ hf_208
          replace hf_209 := tr _ _ _ hf_209
          replace hm := hm.arr tr
          replace hfr := hfr.arr tr
          replace hCf := tw _ hCf
          replace hu := tl _ _ (tt_ne hk9 hkf (by decide)) hu
          replace hfa := hfa.wr hkf tl (by decide)
          refine jj_aload_n C dX11_readHead_120 rfl ?_
          refine jj_ldcsw (k := 23) (tx := ";") C dX11_readHead_121 (by decide +kernel) ?_
          obtain ⟨qc, gs, hqc⟩ := tt_recv (cx := []) hok_220 hk0 (by decide) rfl
          refine tt_callV (rest := []) C (re_must_semi hl D cA ak x_203 n_202 n16 n_201 n_200 at9 u c y_205 hk0 hkw hka hkt hki hkf hkp (by first | omega | decide | exact tt_lo _ | exact tt_hi _) (by first | omega | decide | exact tt_lo _ | exact tt_hi _) (by first | omega | decide) (by first | omega | decide) (by first | omega | decide) (by first | omega | decide) (by first | omega | decide) (by first | omega | decide) (by first | omega | decide) (by first | omega | decide) hk9 (by omega) (by omega) hc hy_211 hok_220 hm hs12 hu hf_206 hf_207 hs16 hf_208 hf_209) [] [] rfl rfl (by decide) (by decide) (by decide) qc hqc rfl rfl jw_567bcddfb2 jw_5c84fa4094 jw_52b545b3e3 jw_f96c99f44d jw_84234b4b1a jn_X11_must rfl (jj_le rfl) (jj_le rfl) (jj_le rfl) (jj_le rfl) (jj_le rfl) dX11_readHead_124 rfl (fun _ _ _ hX => hX.elim) (fun rx pl_221 r O_225 => ?_)
          obtain ⟨rfl, hok_222, hr_223, ha_224, hR_226⟩ := O_225
          replace hs12 := hr_223.at hk0 (by decide) (by decide) hs12
          replace hs16 := hr_223.at hk0 (by decide) (by decide) hs16
          replace hCf := ha_224.at hkf (by decide) (by decide) hCf
          replace hu := ha_224.at hk9 (by decide) (by decide) hu
          replace hm := hm.fr hr_223 hk0 rfl
          replace hfr := hfr.trans (hr_223.sub (by decide))
          replace hfa := hfa.trans (ha_224.sub (by decide))
          obtain ⟨y_231, n_227, n_228, n_229, x_230, hf_232, hf_233, hf_234, hf_235, hs_236, hy_237, hq_238, hq_239, hq_240, hq_241, hq_242, rfl⟩ := hR_226
          have lx_230 := tt_lo x_230
          have ux_230 := tt_hi x_230
          have hM : n_229 = 0 → n_202 = 0 ∧ n_131 = 0 ∧ n_104 = 0 ∧ n_77 = 0 := fun z9 => by
            have w8 := hy_237.mz.mp z9
            have w7 := ps_step.err hs_236 w8
            have w6 := ps_step.err hs_210 w7
            have w5 := ps_step.err hs_187 w6
            have w4 := ps_step.err hs_165 w5
            have w3 := ps_step.err hs_139 w4
            have w2 := ps_step.err hs_112 w3
            exact ⟨hy_211.mz.mpr w7, hy_140.mz.mpr w4, hy_113.mz.mpr w3, hy_86.mz.mpr w2⟩
          exact jj_vret C ⟨[], pl_221, rfl, rfl, hok_222, hfr, hfa, ⟨y_231, (ps_val c n_178 (n_179 - n_178)), _, n_227, n_228, n_229, x_230, hCf, hf_232, hf_233, hf_234, hf_235, ⟨y_11, y_66, y_80, y_107, y_134, y_160, y_182, y_205, hs_16, hs_67, hs_85, hs_112, hs_139, hs_165, hs_187, hs_210, hs_236, (fun e7 => ⟨n_178, n_179, hy_188.tok e7, rfl⟩)⟩, hy_237, (by omega), (by omega), (by omega), (fun z9 => by have k9 := hM z9; have r7 := hq_217 k9.1; have r4 := hq_146 k9.2.1; have r3 := hq_119 k9.2.2.1; have r2 := hq_92 k9.2.2.2; exact ⟨rl_FR.head (by rw [show (vp_updL (vp_updL (vp_updL (vp_updL f 2 y_93) 3 y_120) 4 y_147) 0 y_218) 0 = y_218 from (rl_eq rfl)]; omega) (by rw [show (vp_updL (vp_updL (vp_updL (vp_updL f 2 y_93) 3 y_120) 4 y_147) 0 y_218) 1 = f 1 from (rl_ne (by decide) (rl_ne (by decide) (rl_ne (by decide) (rl_ne (by decide) rfl))))]; have := hZ.2.2 1 (by decide) (by decide) (by decide); omega) (by rw [show (vp_updL (vp_updL (vp_updL (vp_updL f 2 y_93) 3 y_120) 4 y_147) 0 y_218) 2 = y_93 from (rl_ne (by decide) (rl_ne (by decide) (rl_ne (by decide) (rl_eq rfl))))]; omega) (by rw [show (vp_updL (vp_updL (vp_updL (vp_updL f 2 y_93) 3 y_120) 4 y_147) 0 y_218) 3 = y_120 from (rl_ne (by decide) (rl_ne (by decide) (rl_eq rfl)))]; omega) (by rw [show (vp_updL (vp_updL (vp_updL (vp_updL f 2 y_93) 3 y_120) 4 y_147) 0 y_218) 4 = y_147 from (rl_ne (by decide) (rl_eq rfl))]; omega) ⟨(by rw [show (vp_updL (vp_updL (vp_updL (vp_updL f 2 y_93) 3 y_120) 4 y_147) 0 y_218) 6 = f 6 from (rl_ne (by decide) (rl_ne (by decide) (rl_ne (by decide) (rl_ne (by decide) rfl))))]; exact hZ.2.2 6 (by decide) (by decide) (by decide)), (by rw [show (vp_updL (vp_updL (vp_updL (vp_updL f 2 y_93) 3 y_120) 4 y_147) 0 y_218) 7 = f 7 from (rl_ne (by decide) (rl_ne (by decide) (rl_ne (by decide) (rl_ne (by decide) rfl))))]; exact hZ.2.2 7 (by decide) (by decide) (by decide)), (by rw [show (vp_updL (vp_updL (vp_updL (vp_updL f 2 y_93) 3 y_120) 4 y_147) 0 y_218) 8 = f 8 from (rl_ne (by decide) (rl_ne (by decide) (rl_ne (by decide) (rl_ne (by decide) rfl))))]; exact hZ.2.2 8 (by decide) (by decide) (by decide)), (by rw [show (vp_updL (vp_updL (vp_updL (vp_updL f 2 y_93) 3 y_120) 4 y_147) 0 y_218) 9 = f 9 from (rl_ne (by decide) (rl_ne (by decide) (rl_ne (by decide) (rl_ne (by decide) rfl))))]; exact hZ.2.2 9 (by decide) (by decide) (by decide))⟩, (by rw [show (vp_updL (vp_updL (vp_updL (vp_updL f 2 y_93) 3 y_120) 4 y_147) 0 y_218) 0 = y_218 from (rl_eq rfl)]; omega), (by rw [show (vp_updL (vp_updL (vp_updL (vp_updL f 2 y_93) 3 y_120) 4 y_147) 0 y_218) 8 = f 8 from (rl_ne (by decide) (rl_ne (by decide) (rl_ne (by decide) (rl_ne (by decide) rfl))))]; exact hZ.2.2 8 (by decide) (by decide) (by decide))⟩), rfl⟩⟩ dX11_readHead_127 (jj_le rfl) (jj_le rfl)
        · have hzn_61 := ht_65.le (by omega)
          exfalso; omega
      · refine jj_aload_n C dX11_readHead_42 rfl ?_
        obtain ⟨qc, gs, hqc⟩ := tt_recv (cx := []) hok_40 hk0 (by decide) rfl
        refine tt_callV (rest := []) C (re_pass hl D cA ak n_9 n16 n_8 n_7 at9 u c hk0 hkw hka hkt hki hkf hkp (by first | omega | decide) (by first | omega | decide) (by first | omega | decide) (by first | omega | decide) (by first | omega | decide) (by first | omega | decide) (by first | omega | decide) (by first | omega | decide) hk9 (by omega) (by omega) hc hok_40 hm hs12 hu hf_12 hf_13 hs16 hf_49) [] [] rfl rfl (by decide) (by decide) (by decide) qc hqc rfl rfl jw_b8e803331f jw_409849e3da jw_7cfaf31817 jw_f96c99f44d jw_3d0e41f30f jn_X11_pass rfl (jj_le rfl) (jj_le rfl) (jj_le rfl) (jj_le rfl) (jj_le rfl) dX11_readHead_43 rfl (fun _ _ _ hX => hX.elim) (fun rx pl_243 r O_247 => ?_)
        obtain ⟨rfl, hok_244, hr_245, ha_246, hR_248⟩ := O_247
        replace hs12 := hr_245.at hk0 (by decide) (by decide) hs12
        replace hs16 := hr_245.at hk0 (by decide) (by decide) hs16
        replace hf_49 := hr_245.at hk0 (by decide) (by decide) hf_49
        replace hf_50 := hr_245.at hk0 (by decide) (by decide) hf_50
        replace hCf := ha_246.at hkf (by decide) (by decide) hCf
        replace hu := ha_246.at hk9 (by decide) (by decide) hu
        replace hm := hm.fr hr_245 hk0 rfl
        replace hfr := hfr.trans (hr_245.sub (by decide))
        replace hfa := hfa.trans (ha_246.sub (by decide))
        rcases hR_248 with ⟨hq_249, hf_250, hf_251, rfl⟩ | ⟨hq_252, ⟨n_253, n_254, hf_255, hf_256, ht_257⟩, rfl⟩
        · obtain ⟨y_258, hs_259, hy_260⟩ : ∃ z : ps_S, ps_step c n16 (ps_cM c) y_11 z ∧ ps_at c n16 z n_9 n_7 n_8 x_10 := ps_at.st (chk := ps_cM c) hy_17 (by omega)
          refine jj_aload_n C dX11_readHead_46 rfl ?_
          refine tt_getF C hok_244 jk_12 4 (by decide) jw_69cfdf3f6e (t := (2, 6, 0)) hk0 (by decide) rfl rfl hm.2.2.2.2.1 dX11_readHead_47 ?_
          refine jj_iconst (v := 2) C dX11_readHead_50 (by decide) ?_
          refine jj_aload_n C dX11_readHead_51 rfl ?_
          refine jj_lconst (v := 0) C dX11_readHead_52 (by decide) ?_
          refine jj_ldc2 (v := 9999) C dX11_readHead_53 jw_79cc7664b1 ?_
          obtain ⟨qc, gs, hqc⟩ := tt_recv (cx := []) hok_244 hk0 (by decide) rfl
          refine tt_callV (rest := [.int 2, .ref af]) C (re_number hl D cA ak x_10 n_9 n16 n_8 n_7 at9 u c y_258 (0 : Int64) (9999 : Int64) 0 9999 hk0 hkw hka hkt hki hkf hkp (by first | omega | decide | exact tt_lo _ | exact tt_hi _) (by first | omega | decide | exact tt_lo _ | exact tt_hi _) (by first | omega | decide) (by first | omega | decide) (by first | omega | decide) (by first | omega | decide) (by first | omega | decide) (by first | omega | decide) (by first | omega | decide) (by first | omega | decide) hk9 (by omega) (by omega) hc hy_260 (by decide) (by decide) hok_244 hm hs12 hu hf_250 hf_251 hs16 hf_49 hf_50) [] [] rfl rfl (by decide) (by decide) (by decide) qc hqc rfl rfl jw_adb570a667 jw_970096b033 jw_c6bab24534 jw_f96c99f44d jw_2d66378959 jn_X11_number rfl (jj_le rfl) (jj_le rfl) (jj_le rfl) (jj_le rfl) (jj_le rfl) dX11_readHead_56 rfl (fun _ _ _ hX => hX.elim) (fun rx pl_261 r O_265 => ?_)
          obtain ⟨rfl, hok_262, hr_263, ha_264, hR_266⟩ := O_265
          replace hs12 := hr_263.at hk0 (by decide) (by decide) hs12
          replace hs16 := hr_263.at hk0 (by decide) (by decide) hs16
          replace hCf := ha_264.at hkf (by decide) (by decide) hCf
          replace hu := ha_264.at hk9 (by decide) (by decide) hu
          replace hm := hm.fr hr_263 hk0 rfl
          replace hfr := hfr.trans (hr_263.sub (by decide))
          replace hfa := hfa.trans (ha_264.sub (by decide))
          obtain ⟨y_272, n_267, n_268, n_269, x_270, x_271, hf_273, hf_274, hf_275, hf_276, hs_277, hy_278, hq_279, hq_280, hq_281, hq_282, hq_283, hq_284, rfl⟩ := hR_266
          have lx_270 := tt_lo x_270
          have ux_270 := tt_hi x_270
          have lx_271 := tt_lo x_271
          have ux_271 := tt_hi x_271
          obtain ⟨y_285, ey_285, vy_285⟩ := tt_i2l x_271
          refine jj_i2l (v := y_285) C dX11_readHead_59 ey_285 ?_
          refine rl_last C hok_262 (t := (1, (-9223372036854775808), 9223372036854775807)) hkf (by decide) rfl (k := 2) (vp_in_iff.mpr (by decide)) (tt_ja _) (by decide) dX11_readHead_60 (fun pl_286 hok_287 tr tl tw => ?_)
          replace hs12 := tr _ _ _ hs12
          replace hs16 := tr _ _ _ hs16
          replace hf_273 := tr _ _ _ hf_273
          replace hf_274 := tr _ _ _ hf_274
          replace hf_275 := tr _ _ _ hf_275
          replace hf_276 := tr _ _ _ hf_276
          replace hm := hm.arr tr
          replace hfr := hfr.arr tr
          replace hCf := tw _ hCf
          replace hu := tl _ _ (tt_ne hk9 hkf (by decide)) hu
          replace hfa := hfa.wr hkf tl (by decide)
          refine jj_aload_n C dX11_readHead_61 rfl ?_
          refine tt_getF C hok_287 jk_12 4 (by decide) jw_69cfdf3f6e (t := (2, 6, 0)) hk0 (by decide) rfl rfl hm.2.2.2.2.1 dX11_readHead_62 ?_
          refine jj_iconst (v := 3) C dX11_readHead_65 (by decide) ?_
          refine jj_aload_n C dX11_readHead_66 rfl ?_
          refine jj_lconst (v := 0) C dX11_readHead_67 (by decide) ?_
          refine jj_ldc2 (v := 50) C dX11_readHead_68 jw_5d90e8e74a ?_
          obtain ⟨qc, gs, hqc⟩ := tt_recv (cx := []) hok_287 hk0 (by decide) rfl
          refine tt_callV (rest := [.int 3, .ref af]) C (re_number hl D cA ak x_270 n_269 n16 n_268 n_267 at9 u c y_272 (0 : Int64) (50 : Int64) 0 50 hk0 hkw hka hkt hki hkf hkp (by first | omega | decide | exact tt_lo _ | exact tt_hi _) (by first | omega | decide | exact tt_lo _ | exact tt_hi _) (by first | omega | decide) (by first | omega | decide) (by first | omega | decide) (by first | omega | decide) (by first | omega | decide) (by first | omega | decide) (by first | omega | decide) (by first | omega | decide) hk9 (by omega) (by omega) hc hy_278 (by decide) (by decide) hok_287 hm hs12 hu hf_273 hf_274 hs16 hf_275 hf_276) [] [] rfl rfl (by decide) (by decide) (by decide) qc hqc rfl rfl jw_adb570a667 jw_970096b033 jw_c6bab24534 jw_f96c99f44d jw_2d66378959 jn_X11_number rfl (jj_le rfl) (jj_le rfl) (jj_le rfl) (jj_le rfl) (jj_le rfl) dX11_readHead_71 rfl (fun _ _ _ hX => hX.elim) (fun rx pl_288 r O_292 => ?_)
          obtain ⟨rfl, hok_289, hr_290, ha_291, hR_293⟩ := O_292
          replace hs12 := hr_290.at hk0 (by decide) (by decide) hs12
          replace hs16 := hr_290.at hk0 (by decide) (by decide) hs16
          replace hCf := ha_291.at hkf (by decide) (by decide) hCf
          replace hu := ha_291.at hk9 (by decide) (by decide) hu
          replace hm := hm.fr hr_290 hk0 rfl
          replace hfr := hfr.trans (hr_290.sub (by decide))
          replace hfa := hfa.trans (ha_291.sub (by decide))
          obtain ⟨y_299, n_294, n_295, n_296, x_297, x_298, hf_300, hf_301, hf_302, hf_303, hs_304, hy_305, hq_306, hq_307, hq_308, hq_309, hq_310, hq_311, rfl⟩ := hR_293
          have lx_297 := tt_lo x_297
          have ux_297 := tt_hi x_297
          have lx_298 := tt_lo x_298
          have ux_298 := tt_hi x_298
          obtain ⟨y_312, ey_312, vy_312⟩ := tt_i2l x_298
          refine jj_i2l (v := y_312) C dX11_readHead_74 ey_312 ?_
          refine rl_last C hok_289 (t := (1, (-9223372036854775808), 9223372036854775807)) hkf (by decide) rfl (k := 3) (vp_in_iff.mpr (by decide)) (tt_ja _) (by decide) dX11_readHead_75 (fun pl_313 hok_314 tr tl tw => ?_)
          replace hs12 := tr _ _ _ hs12
          replace hs16 := tr _ _ _ hs16
          replace hf_300 := tr _ _ _ hf_300
          replace hf_301 := tr _ _ _ hf_301
          replace hf_302 := tr _ _ _ hf_302
          replace hf_303 := tr _ _ _ hf_303
          replace hm := hm.arr tr
          replace hfr := hfr.arr tr
          replace hCf := tw _ hCf
          replace hu := tl _ _ (tt_ne hk9 hkf (by decide)) hu
          replace hfa := hfa.wr hkf tl (by decide)
          refine jj_aload_n C dX11_readHead_76 rfl ?_
          refine tt_getF C hok_314 jk_12 4 (by decide) jw_69cfdf3f6e (t := (2, 6, 0)) hk0 (by decide) rfl rfl hm.2.2.2.2.1 dX11_readHead_77 ?_
          refine jj_iconst (v := 4) C dX11_readHead_80 (by decide) ?_
          refine jj_aload_n C dX11_readHead_81 rfl ?_
          refine jj_lconst (v := 1) C dX11_readHead_82 (by decide) ?_
          refine jj_ldc2 (v := 100) C dX11_readHead_83 jw_0cface3231 ?_
          obtain ⟨qc, gs, hqc⟩ := tt_recv (cx := []) hok_314 hk0 (by decide) rfl
          refine tt_callV (rest := [.int 4, .ref af]) C (re_number hl D cA ak x_297 n_296 n16 n_295 n_294 at9 u c y_299 (1 : Int64) (100 : Int64) 1 100 hk0 hkw hka hkt hki hkf hkp (by first | omega | decide | exact tt_lo _ | exact tt_hi _) (by first | omega | decide | exact tt_lo _ | exact tt_hi _) (by first | omega | decide) (by first | omega | decide) (by first | omega | decide) (by first | omega | decide) (by first | omega | decide) (by first | omega | decide) (by first | omega | decide) (by first | omega | decide) hk9 (by omega) (by omega) hc hy_305 (by decide) (by decide) hok_314 hm hs12 hu hf_300 hf_301 hs16 hf_302 hf_303) [] [] rfl rfl (by decide) (by decide) (by decide) qc hqc rfl rfl jw_adb570a667 jw_970096b033 jw_c6bab24534 jw_f96c99f44d jw_2d66378959 jn_X11_number rfl (jj_le rfl) (jj_le rfl) (jj_le rfl) (jj_le rfl) (jj_le rfl) dX11_readHead_86 rfl (fun _ _ _ hX => hX.elim) (fun rx pl_315 r O_319 => ?_)
          obtain ⟨rfl, hok_316, hr_317, ha_318, hR_320⟩ := O_319
          replace hs12 := hr_317.at hk0 (by decide) (by decide) hs12
          replace hs16 := hr_317.at hk0 (by decide) (by decide) hs16
          replace hCf := ha_318.at hkf (by decide) (by decide) hCf
          replace hu := ha_318.at hk9 (by decide) (by decide) hu
          replace hm := hm.fr hr_317 hk0 rfl
          replace hfr := hfr.trans (hr_317.sub (by decide))
          replace hfa := hfa.trans (ha_318.sub (by decide))
          obtain ⟨y_326, n_321, n_322, n_323, x_324, x_325, hf_327, hf_328, hf_329, hf_330, hs_331, hy_332, hq_333, hq_334, hq_335, hq_336, hq_337, hq_338, rfl⟩ := hR_320
          have lx_324 := tt_lo x_324
          have ux_324 := tt_hi x_324
          have lx_325 := tt_lo x_325
          have ux_325 := tt_hi x_325
          obtain ⟨y_339, ey_339, vy_339⟩ := tt_i2l x_325
          refine jj_i2l (v := y_339) C dX11_readHead_89 ey_339 ?_
          refine rl_last C hok_316 (t := (1, (-9223372036854775808), 9223372036854775807)) hkf (by decide) rfl (k := 4) (vp_in_iff.mpr (by decide)) (tt_ja _) (by decide) dX11_readHead_90 (fun pl_340 hok_341 tr tl tw => ?_)
          replace hs12 := tr _ _ _ hs12
          replace hs16 := tr _ _ _ hs16
          replace hf_327 := tr _ _ _ hf_327
          replace hf_328 := tr _ _ _ hf_328
          replace hf_329 := tr _ _ _ hf_329
          replace hf_330 := tr _ _ _ hf_330
          replace hm := hm.arr tr
          replace hfr := hfr.arr tr
          replace hCf := tw _ hCf
          replace hu := tl _ _ (tt_ne hk9 hkf (by decide)) hu
          replace hfa := hfa.wr hkf tl (by decide)
          refine jj_aload_n C dX11_readHead_91 rfl ?_
          refine jj_ldcsw (k := 23) (tx := ";") C dX11_readHead_92 (by decide +kernel) ?_
          obtain ⟨qc, gs, hqc⟩ := tt_recv (cx := []) hok_341 hk0 (by decide) rfl
          refine tt_callV (rest := []) C (re_must_semi hl D cA ak x_324 n_323 n16 n_322 n_321 at9 u c y_326 hk0 hkw hka hkt hki hkf hkp (by first | omega | decide | exact tt_lo _ | exact tt_hi _) (by first | omega | decide | exact tt_lo _ | exact tt_hi _) (by first | omega | decide) (by first | omega | decide) (by first | omega | decide) (by first | omega | decide) (by first | omega | decide) (by first | omega | decide) (by first | omega | decide) (by first | omega | decide) hk9 (by omega) (by omega) hc hy_332 hok_341 hm hs12 hu hf_327 hf_328 hs16 hf_329 hf_330) [] [] rfl rfl (by decide) (by decide) (by decide) qc hqc rfl rfl jw_567bcddfb2 jw_5c84fa4094 jw_52b545b3e3 jw_f96c99f44d jw_84234b4b1a jn_X11_must rfl (jj_le rfl) (jj_le rfl) (jj_le rfl) (jj_le rfl) (jj_le rfl) dX11_readHead_95 rfl (fun _ _ _ hX => hX.elim) (fun rx pl_342 r O_346 => ?_)
          obtain ⟨rfl, hok_343, hr_344, ha_345, hR_347⟩ := O_346
          replace hs12 := hr_344.at hk0 (by decide) (by decide) hs12
          replace hs16 := hr_344.at hk0 (by decide) (by decide) hs16
          replace hCf := ha_345.at hkf (by decide) (by decide) hCf
          replace hu := ha_345.at hk9 (by decide) (by decide) hu
          replace hm := hm.fr hr_344 hk0 rfl
          replace hfr := hfr.trans (hr_344.sub (by decide))
          replace hfa := hfa.trans (ha_345.sub (by decide))
          obtain ⟨y_352, n_348, n_349, n_350, x_351, hf_353, hf_354, hf_355, hf_356, hs_357, hy_358, hq_359, hq_360, hq_361, hq_362, hq_363, rfl⟩ := hR_347
          have lx_351 := tt_lo x_351
          have ux_351 := tt_hi x_351
          refine jj_aload_n C dX11_readHead_98 rfl ?_
          refine jj_ldcsw (k := 24) (tx := "investors") C dX11_readHead_99 (by decide +kernel) ?_
          obtain ⟨qc, gs, hqc⟩ := tt_recv (cx := []) hok_343 hk0 (by decide) rfl
          refine tt_callV (rest := []) C (re_must_investors hl D cA ak x_351 n_350 n16 n_349 n_348 at9 u c y_352 hk0 hkw hka hkt hki hkf hkp (by first | omega | decide | exact tt_lo _ | exact tt_hi _) (by first | omega | decide | exact tt_lo _ | exact tt_hi _) (by first | omega | decide) (by first | omega | decide) (by first | omega | decide) (by first | omega | decide) (by first | omega | decide) (by first | omega | decide) (by first | omega | decide) (by first | omega | decide) hk9 (by omega) (by omega) hc hy_358 hok_343 hm hs12 hu hf_353 hf_354 hs16 hf_355 hf_356) [] [] rfl rfl (by decide) (by decide) (by decide) qc hqc rfl rfl jw_567bcddfb2 jw_5c84fa4094 jw_52b545b3e3 jw_f96c99f44d jw_84234b4b1a jn_X11_must rfl (jj_le rfl) (jj_le rfl) (jj_le rfl) (jj_le rfl) (jj_le rfl) dX11_readHead_102 rfl (fun _ _ _ hX => hX.elim) (fun rx pl_364 r O_368 => ?_)
          obtain ⟨rfl, hok_365, hr_366, ha_367, hR_369⟩ := O_368
          replace hs12 := hr_366.at hk0 (by decide) (by decide) hs12
          replace hs16 := hr_366.at hk0 (by decide) (by decide) hs16
          replace hCf := ha_367.at hkf (by decide) (by decide) hCf
          replace hu := ha_367.at hk9 (by decide) (by decide) hu
          replace hm := hm.fr hr_366 hk0 rfl
          replace hfr := hfr.trans (hr_366.sub (by decide))
          replace hfa := hfa.trans (ha_367.sub (by decide))
          obtain ⟨y_374, n_370, n_371, n_372, x_373, hf_375, hf_376, hf_377, hf_378, hs_379, hy_380, hq_381, hq_382, hq_383, hq_384, hq_385, rfl⟩ := hR_369
          have lx_373 := tt_lo x_373
          have ux_373 := tt_hi x_373
          refine jj_aload_n C dX11_readHead_105 rfl ?_
          refine tt_getF C hok_365 jk_12 4 (by decide) jw_69cfdf3f6e (t := (2, 6, 0)) hk0 (by decide) rfl rfl hm.2.2.2.2.1 dX11_readHead_106 ?_
          refine jj_iconst (v := 0) C dX11_readHead_109 (by decide) ?_
          refine jj_aload_n C dX11_readHead_110 rfl ?_
          refine jj_lconst (v := 1) C dX11_readHead_111 (by decide) ?_
          refine jj_ldc2 (v := 6) C dX11_readHead_112 jw_f454e46fa4 ?_
          obtain ⟨qc, gs, hqc⟩ := tt_recv (cx := []) hok_365 hk0 (by decide) rfl
          refine tt_callV (rest := [.int 0, .ref af]) C (re_number hl D cA ak x_373 n_372 n16 n_371 n_370 at9 u c y_374 (1 : Int64) (6 : Int64) 1 6 hk0 hkw hka hkt hki hkf hkp (by first | omega | decide | exact tt_lo _ | exact tt_hi _) (by first | omega | decide | exact tt_lo _ | exact tt_hi _) (by first | omega | decide) (by first | omega | decide) (by first | omega | decide) (by first | omega | decide) (by first | omega | decide) (by first | omega | decide) (by first | omega | decide) (by first | omega | decide) hk9 (by omega) (by omega) hc hy_380 (by decide) (by decide) hok_365 hm hs12 hu hf_375 hf_376 hs16 hf_377 hf_378) [] [] rfl rfl (by decide) (by decide) (by decide) qc hqc rfl rfl jw_adb570a667 jw_970096b033 jw_c6bab24534 jw_f96c99f44d jw_2d66378959 jn_X11_number rfl (jj_le rfl) (jj_le rfl) (jj_le rfl) (jj_le rfl) (jj_le rfl) dX11_readHead_115 rfl (fun _ _ _ hX => hX.elim) (fun rx pl_386 r O_390 => ?_)
          obtain ⟨rfl, hok_387, hr_388, ha_389, hR_391⟩ := O_390
          replace hs12 := hr_388.at hk0 (by decide) (by decide) hs12
          replace hs16 := hr_388.at hk0 (by decide) (by decide) hs16
          replace hCf := ha_389.at hkf (by decide) (by decide) hCf
          replace hu := ha_389.at hk9 (by decide) (by decide) hu
          replace hm := hm.fr hr_388 hk0 rfl
          replace hfr := hfr.trans (hr_388.sub (by decide))
          replace hfa := hfa.trans (ha_389.sub (by decide))
          obtain ⟨y_397, n_392, n_393, n_394, x_395, x_396, hf_398, hf_399, hf_400, hf_401, hs_402, hy_403, hq_404, hq_405, hq_406, hq_407, hq_408, hq_409, rfl⟩ := hR_391
          have lx_395 := tt_lo x_395
          have ux_395 := tt_hi x_395
          have lx_396 := tt_lo x_396
          have ux_396 := tt_hi x_396
          obtain ⟨y_410, ey_410, vy_410⟩ := tt_i2l x_396
          refine jj_i2l (v := y_410) C dX11_readHead_118 ey_410 ?_
          refine rl_last C hok_387 (t := (1, (-9223372036854775808), 9223372036854775807)) hkf (by decide) rfl (k := 0) (vp_in_iff.mpr (by decide)) (tt_ja _) (by decide) dX11_readHead_119 (fun pl_411 hok_412 tr tl tw => ?_)
          replace hs12 := tr _ _ _ hs12
          replace hs16 := tr _ _ _ hs16
          replace hf_398 := tr _ _ _ hf_398
          replace hf_399 := tr _ _ _ hf_399
          replace hf_400 := tr _ _ _ hf_400
          replace hf_401 := tr _ _ _ hf_401
          replace hm := hm.arr tr
          replace hfr := hfr.arr tr
          replace hCf := tw _ hCf
          replace hu := tl _ _ (tt_ne hk9 hkf (by decide)) hu
          replace hfa := hfa.wr hkf tl (by decide)
          refine jj_aload_n C dX11_readHead_120 rfl ?_
          refine jj_ldcsw (k := 23) (tx := ";") C dX11_readHead_121 (by decide +kernel) ?_
          obtain ⟨qc, gs, hqc⟩ := tt_recv (cx := []) hok_412 hk0 (by decide) rfl
          refine tt_callV (rest := []) C (re_must_semi hl D cA ak x_395 n_394 n16 n_393 n_392 at9 u c y_397 hk0 hkw hka hkt hki hkf hkp (by first | omega | decide | exact tt_lo _ | exact tt_hi _) (by first | omega | decide | exact tt_lo _ | exact tt_hi _) (by first | omega | decide) (by first | omega | decide) (by first | omega | decide) (by first | omega | decide) (by first | omega | decide) (by first | omega | decide) (by first | omega | decide) (by first | omega | decide) hk9 (by omega) (by omega) hc hy_403 hok_412 hm hs12 hu hf_398 hf_399 hs16 hf_400 hf_401) [] [] rfl rfl (by decide) (by decide) (by decide) qc hqc rfl rfl jw_567bcddfb2 jw_5c84fa4094 jw_52b545b3e3 jw_f96c99f44d jw_84234b4b1a jn_X11_must rfl (jj_le rfl) (jj_le rfl) (jj_le rfl) (jj_le rfl) (jj_le rfl) dX11_readHead_124 rfl (fun _ _ _ hX => hX.elim) (fun rx pl_413 r O_417 => ?_)
          obtain ⟨rfl, hok_414, hr_415, ha_416, hR_418⟩ := O_417
          replace hs12 := hr_415.at hk0 (by decide) (by decide) hs12
          replace hs16 := hr_415.at hk0 (by decide) (by decide) hs16
          replace hCf := ha_416.at hkf (by decide) (by decide) hCf
          replace hu := ha_416.at hk9 (by decide) (by decide) hu
          replace hm := hm.fr hr_415 hk0 rfl
          replace hfr := hfr.trans (hr_415.sub (by decide))
          replace hfa := hfa.trans (ha_416.sub (by decide))
          obtain ⟨y_423, n_419, n_420, n_421, x_422, hf_424, hf_425, hf_426, hf_427, hs_428, hy_429, hq_430, hq_431, hq_432, hq_433, hq_434, rfl⟩ := hR_418
          have lx_422 := tt_lo x_422
          have ux_422 := tt_hi x_422
          have hM : n_421 = 0 → n_394 = 0 ∧ n_323 = 0 ∧ n_296 = 0 ∧ n_269 = 0 := fun z9 => by
            have w8 := hy_429.mz.mp z9
            have w7 := ps_step.err hs_428 w8
            have w6 := ps_step.err hs_402 w7
            have w5 := ps_step.err hs_379 w6
            have w4 := ps_step.err hs_357 w5
            have w3 := ps_step.err hs_331 w4
            have w2 := ps_step.err hs_304 w3
            exact ⟨hy_403.mz.mpr w7, hy_332.mz.mpr w4, hy_305.mz.mpr w3, hy_278.mz.mpr w2⟩
          exact jj_vret C ⟨[], pl_413, rfl, rfl, hok_414, hfr, hfa, ⟨y_423, (ps_val c n_370 (n_371 - n_370)), _, n_419, n_420, n_421, x_422, hCf, hf_424, hf_425, hf_426, hf_427, ⟨y_11, y_258, y_272, y_299, y_326, y_352, y_374, y_397, hs_16, hs_259, hs_277, hs_304, hs_331, hs_357, hs_379, hs_402, hs_428, (fun e7 => ⟨n_370, n_371, hy_380.tok e7, rfl⟩)⟩, hy_429, (by omega), (by omega), (by omega), (fun z9 => by have k9 := hM z9; have r7 := hq_409 k9.1; have r4 := hq_338 k9.2.1; have r3 := hq_311 k9.2.2.1; have r2 := hq_284 k9.2.2.2; exact ⟨rl_FR.head (by rw [show (vp_updL (vp_updL (vp_updL (vp_updL f 2 y_285) 3 y_312) 4 y_339) 0 y_410) 0 = y_410 from (rl_eq rfl)]; omega) (by rw [show (vp_updL (vp_updL (vp_updL (vp_updL f 2 y_285) 3 y_312) 4 y_339) 0 y_410) 1 = f 1 from (rl_ne (by decide) (rl_ne (by decide) (rl_ne (by decide) (rl_ne (by decide) rfl))))]; have := hZ.2.2 1 (by decide) (by decide) (by decide); omega) (by rw [show (vp_updL (vp_updL (vp_updL (vp_updL f 2 y_285) 3 y_312) 4 y_339) 0 y_410) 2 = y_285 from (rl_ne (by decide) (rl_ne (by decide) (rl_ne (by decide) (rl_eq rfl))))]; omega) (by rw [show (vp_updL (vp_updL (vp_updL (vp_updL f 2 y_285) 3 y_312) 4 y_339) 0 y_410) 3 = y_312 from (rl_ne (by decide) (rl_ne (by decide) (rl_eq rfl)))]; omega) (by rw [show (vp_updL (vp_updL (vp_updL (vp_updL f 2 y_285) 3 y_312) 4 y_339) 0 y_410) 4 = y_339 from (rl_ne (by decide) (rl_eq rfl))]; omega) ⟨(by rw [show (vp_updL (vp_updL (vp_updL (vp_updL f 2 y_285) 3 y_312) 4 y_339) 0 y_410) 6 = f 6 from (rl_ne (by decide) (rl_ne (by decide) (rl_ne (by decide) (rl_ne (by decide) rfl))))]; exact hZ.2.2 6 (by decide) (by decide) (by decide)), (by rw [show (vp_updL (vp_updL (vp_updL (vp_updL f 2 y_285) 3 y_312) 4 y_339) 0 y_410) 7 = f 7 from (rl_ne (by decide) (rl_ne (by decide) (rl_ne (by decide) (rl_ne (by decide) rfl))))]; exact hZ.2.2 7 (by decide) (by decide) (by decide)), (by rw [show (vp_updL (vp_updL (vp_updL (vp_updL f 2 y_285) 3 y_312) 4 y_339) 0 y_410) 8 = f 8 from (rl_ne (by decide) (rl_ne (by decide) (rl_ne (by decide) (rl_ne (by decide) rfl))))]; exact hZ.2.2 8 (by decide) (by decide) (by decide)), (by rw [show (vp_updL (vp_updL (vp_updL (vp_updL f 2 y_285) 3 y_312) 4 y_339) 0 y_410) 9 = f 9 from (rl_ne (by decide) (rl_ne (by decide) (rl_ne (by decide) (rl_ne (by decide) rfl))))]; exact hZ.2.2 9 (by decide) (by decide) (by decide))⟩, (by rw [show (vp_updL (vp_updL (vp_updL (vp_updL f 2 y_285) 3 y_312) 4 y_339) 0 y_410) 0 = y_410 from (rl_eq rfl)]; omega), (by rw [show (vp_updL (vp_updL (vp_updL (vp_updL f 2 y_285) 3 y_312) 4 y_339) 0 y_410) 8 = f 8 from (rl_ne (by decide) (rl_ne (by decide) (rl_ne (by decide) (rl_ne (by decide) rfl))))]; exact hZ.2.2 8 (by decide) (by decide) (by decide))⟩), rfl⟩⟩ dX11_readHead_127 (jj_le rfl) (jj_le rfl)
        · have hzn_253 := ht_257.le (by omega)
          exfalso; omega
    · refine jj_if_neT (tgt := 42) C dX11_readHead_34 (by decide) (by decide) ?_
      refine jj_aload_n C dX11_readHead_42 rfl ?_
      obtain ⟨qc, gs, hqc⟩ := tt_recv (cx := []) hok_32 hk0 (by decide) rfl
      refine tt_callV (rest := []) C (re_pass hl D cA ak n_9 n16 n_8 n_7 at9 u c hk0 hkw hka hkt hki hkf hkp (by first | omega | decide) (by first | omega | decide) (by first | omega | decide) (by first | omega | decide) (by first | omega | decide) (by first | omega | decide) (by first | omega | decide) (by first | omega | decide) hk9 (by omega) (by omega) hc hok_32 hm hs12 hu hf_12 hf_13 hs16 hf_14) [] [] rfl rfl (by decide) (by decide) (by decide) qc hqc rfl rfl jw_b8e803331f jw_409849e3da jw_7cfaf31817 jw_f96c99f44d jw_3d0e41f30f jn_X11_pass rfl (jj_le rfl) (jj_le rfl) (jj_le rfl) (jj_le rfl) (jj_le rfl) dX11_readHead_43 rfl (fun _ _ _ hX => hX.elim) (fun rx pl_435 r O_439 => ?_)
      obtain ⟨rfl, hok_436, hr_437, ha_438, hR_440⟩ := O_439
      replace hs12 := hr_437.at hk0 (by decide) (by decide) hs12
      replace hs16 := hr_437.at hk0 (by decide) (by decide) hs16
      replace hf_14 := hr_437.at hk0 (by decide) (by decide) hf_14
      replace hf_15 := hr_437.at hk0 (by decide) (by decide) hf_15
      replace hCf := ha_438.at hkf (by decide) (by decide) hCf
      replace hu := ha_438.at hk9 (by decide) (by decide) hu
      replace hm := hm.fr hr_437 hk0 rfl
      replace hfr := hfr.trans (hr_437.sub (by decide))
      replace hfa := hfa.trans (ha_438.sub (by decide))
      rcases hR_440 with ⟨hq_441, hf_442, hf_443, rfl⟩ | ⟨hq_444, ⟨n_445, n_446, hf_447, hf_448, ht_449⟩, rfl⟩
      · obtain ⟨y_450, hs_451, hy_452⟩ : ∃ z : ps_S, ps_step c n16 (ps_cM c) y_11 z ∧ ps_at c n16 z n_9 n_7 n_8 x_10 := ps_at.st (chk := ps_cM c) hy_17 (by omega)
        refine jj_aload_n C dX11_readHead_46 rfl ?_
        refine tt_getF C hok_436 jk_12 4 (by decide) jw_69cfdf3f6e (t := (2, 6, 0)) hk0 (by decide) rfl rfl hm.2.2.2.2.1 dX11_readHead_47 ?_
        refine jj_iconst (v := 2) C dX11_readHead_50 (by decide) ?_
        refine jj_aload_n C dX11_readHead_51 rfl ?_
        refine jj_lconst (v := 0) C dX11_readHead_52 (by decide) ?_
        refine jj_ldc2 (v := 9999) C dX11_readHead_53 jw_79cc7664b1 ?_
        obtain ⟨qc, gs, hqc⟩ := tt_recv (cx := []) hok_436 hk0 (by decide) rfl
        refine tt_callV (rest := [.int 2, .ref af]) C (re_number hl D cA ak x_10 n_9 n16 n_8 n_7 at9 u c y_450 (0 : Int64) (9999 : Int64) 0 9999 hk0 hkw hka hkt hki hkf hkp (by first | omega | decide | exact tt_lo _ | exact tt_hi _) (by first | omega | decide | exact tt_lo _ | exact tt_hi _) (by first | omega | decide) (by first | omega | decide) (by first | omega | decide) (by first | omega | decide) (by first | omega | decide) (by first | omega | decide) (by first | omega | decide) (by first | omega | decide) hk9 (by omega) (by omega) hc hy_452 (by decide) (by decide) hok_436 hm hs12 hu hf_442 hf_443 hs16 hf_14 hf_15) [] [] rfl rfl (by decide) (by decide) (by decide) qc hqc rfl rfl jw_adb570a667 jw_970096b033 jw_c6bab24534 jw_f96c99f44d jw_2d66378959 jn_X11_number rfl (jj_le rfl) (jj_le rfl) (jj_le rfl) (jj_le rfl) (jj_le rfl) dX11_readHead_56 rfl (fun _ _ _ hX => hX.elim) (fun rx pl_453 r O_457 => ?_)
        obtain ⟨rfl, hok_454, hr_455, ha_456, hR_458⟩ := O_457
        replace hs12 := hr_455.at hk0 (by decide) (by decide) hs12
        replace hs16 := hr_455.at hk0 (by decide) (by decide) hs16
        replace hCf := ha_456.at hkf (by decide) (by decide) hCf
        replace hu := ha_456.at hk9 (by decide) (by decide) hu
        replace hm := hm.fr hr_455 hk0 rfl
        replace hfr := hfr.trans (hr_455.sub (by decide))
        replace hfa := hfa.trans (ha_456.sub (by decide))
        obtain ⟨y_464, n_459, n_460, n_461, x_462, x_463, hf_465, hf_466, hf_467, hf_468, hs_469, hy_470, hq_471, hq_472, hq_473, hq_474, hq_475, hq_476, rfl⟩ := hR_458
        have lx_462 := tt_lo x_462
        have ux_462 := tt_hi x_462
        have lx_463 := tt_lo x_463
        have ux_463 := tt_hi x_463
        obtain ⟨y_477, ey_477, vy_477⟩ := tt_i2l x_463
        refine jj_i2l (v := y_477) C dX11_readHead_59 ey_477 ?_
        refine rl_last C hok_454 (t := (1, (-9223372036854775808), 9223372036854775807)) hkf (by decide) rfl (k := 2) (vp_in_iff.mpr (by decide)) (tt_ja _) (by decide) dX11_readHead_60 (fun pl_478 hok_479 tr tl tw => ?_)
        replace hs12 := tr _ _ _ hs12
        replace hs16 := tr _ _ _ hs16
        replace hf_465 := tr _ _ _ hf_465
        replace hf_466 := tr _ _ _ hf_466
        replace hf_467 := tr _ _ _ hf_467
        replace hf_468 := tr _ _ _ hf_468
        replace hm := hm.arr tr
        replace hfr := hfr.arr tr
        replace hCf := tw _ hCf
        replace hu := tl _ _ (tt_ne hk9 hkf (by decide)) hu
        replace hfa := hfa.wr hkf tl (by decide)
        refine jj_aload_n C dX11_readHead_61 rfl ?_
        refine tt_getF C hok_479 jk_12 4 (by decide) jw_69cfdf3f6e (t := (2, 6, 0)) hk0 (by decide) rfl rfl hm.2.2.2.2.1 dX11_readHead_62 ?_
        refine jj_iconst (v := 3) C dX11_readHead_65 (by decide) ?_
        refine jj_aload_n C dX11_readHead_66 rfl ?_
        refine jj_lconst (v := 0) C dX11_readHead_67 (by decide) ?_
        refine jj_ldc2 (v := 50) C dX11_readHead_68 jw_5d90e8e74a ?_
        obtain ⟨qc, gs, hqc⟩ := tt_recv (cx := []) hok_479 hk0 (by decide) rfl
        refine tt_callV (rest := [.int 3, .ref af]) C (re_number hl D cA ak x_462 n_461 n16 n_460 n_459 at9 u c y_464 (0 : Int64) (50 : Int64) 0 50 hk0 hkw hka hkt hki hkf hkp (by first | omega | decide | exact tt_lo _ | exact tt_hi _) (by first | omega | decide | exact tt_lo _ | exact tt_hi _) (by first | omega | decide) (by first | omega | decide) (by first | omega | decide) (by first | omega | decide) (by first | omega | decide) (by first | omega | decide) (by first | omega | decide) (by first | omega | decide) hk9 (by omega) (by omega) hc hy_470 (by decide) (by decide) hok_479 hm hs12 hu hf_465 hf_466 hs16 hf_467 hf_468) [] [] rfl rfl (by decide) (by decide) (by decide) qc hqc rfl rfl jw_adb570a667 jw_970096b033 jw_c6bab24534 jw_f96c99f44d jw_2d66378959 jn_X11_number rfl (jj_le rfl) (jj_le rfl) (jj_le rfl) (jj_le rfl) (jj_le rfl) dX11_readHead_71 rfl (fun _ _ _ hX => hX.elim) (fun rx pl_480 r O_484 => ?_)
        obtain ⟨rfl, hok_481, hr_482, ha_483, hR_485⟩ := O_484
        replace hs12 := hr_482.at hk0 (by decide) (by decide) hs12
        replace hs16 := hr_482.at hk0 (by decide) (by decide) hs16
        replace hCf := ha_483.at hkf (by decide) (by decide) hCf
        replace hu := ha_483.at hk9 (by decide) (by decide) hu
        replace hm := hm.fr hr_482 hk0 rfl
        replace hfr := hfr.trans (hr_482.sub (by decide))
        replace hfa := hfa.trans (ha_483.sub (by decide))
        obtain ⟨y_491, n_486, n_487, n_488, x_489, x_490, hf_492, hf_493, hf_494, hf_495, hs_496, hy_497, hq_498, hq_499, hq_500, hq_501, hq_502, hq_503, rfl⟩ := hR_485
        have lx_489 := tt_lo x_489
        have ux_489 := tt_hi x_489
        have lx_490 := tt_lo x_490
        have ux_490 := tt_hi x_490
        obtain ⟨y_504, ey_504, vy_504⟩ := tt_i2l x_490
        refine jj_i2l (v := y_504) C dX11_readHead_74 ey_504 ?_
        refine rl_last C hok_481 (t := (1, (-9223372036854775808), 9223372036854775807)) hkf (by decide) rfl (k := 3) (vp_in_iff.mpr (by decide)) (tt_ja _) (by decide) dX11_readHead_75 (fun pl_505 hok_506 tr tl tw => ?_)
        replace hs12 := tr _ _ _ hs12
        replace hs16 := tr _ _ _ hs16
        replace hf_492 := tr _ _ _ hf_492
        replace hf_493 := tr _ _ _ hf_493
        replace hf_494 := tr _ _ _ hf_494
        replace hf_495 := tr _ _ _ hf_495
        replace hm := hm.arr tr
        replace hfr := hfr.arr tr
        replace hCf := tw _ hCf
        replace hu := tl _ _ (tt_ne hk9 hkf (by decide)) hu
        replace hfa := hfa.wr hkf tl (by decide)
        refine jj_aload_n C dX11_readHead_76 rfl ?_
        refine tt_getF C hok_506 jk_12 4 (by decide) jw_69cfdf3f6e (t := (2, 6, 0)) hk0 (by decide) rfl rfl hm.2.2.2.2.1 dX11_readHead_77 ?_
        refine jj_iconst (v := 4) C dX11_readHead_80 (by decide) ?_
        refine jj_aload_n C dX11_readHead_81 rfl ?_
        refine jj_lconst (v := 1) C dX11_readHead_82 (by decide) ?_
        refine jj_ldc2 (v := 100) C dX11_readHead_83 jw_0cface3231 ?_
        obtain ⟨qc, gs, hqc⟩ := tt_recv (cx := []) hok_506 hk0 (by decide) rfl
        refine tt_callV (rest := [.int 4, .ref af]) C (re_number hl D cA ak x_489 n_488 n16 n_487 n_486 at9 u c y_491 (1 : Int64) (100 : Int64) 1 100 hk0 hkw hka hkt hki hkf hkp (by first | omega | decide | exact tt_lo _ | exact tt_hi _) (by first | omega | decide | exact tt_lo _ | exact tt_hi _) (by first | omega | decide) (by first | omega | decide) (by first | omega | decide) (by first | omega | decide) (by first | omega | decide) (by first | omega | decide) (by first | omega | decide) (by first | omega | decide) hk9 (by omega) (by omega) hc hy_497 (by decide) (by decide) hok_506 hm hs12 hu hf_492 hf_493 hs16 hf_494 hf_495) [] [] rfl rfl (by decide) (by decide) (by decide) qc hqc rfl rfl jw_adb570a667 jw_970096b033 jw_c6bab24534 jw_f96c99f44d jw_2d66378959 jn_X11_number rfl (jj_le rfl) (jj_le rfl) (jj_le rfl) (jj_le rfl) (jj_le rfl) dX11_readHead_86 rfl (fun _ _ _ hX => hX.elim) (fun rx pl_507 r O_511 => ?_)
        obtain ⟨rfl, hok_508, hr_509, ha_510, hR_512⟩ := O_511
        replace hs12 := hr_509.at hk0 (by decide) (by decide) hs12
        replace hs16 := hr_509.at hk0 (by decide) (by decide) hs16
        replace hCf := ha_510.at hkf (by decide) (by decide) hCf
        replace hu := ha_510.at hk9 (by decide) (by decide) hu
        replace hm := hm.fr hr_509 hk0 rfl
        replace hfr := hfr.trans (hr_509.sub (by decide))
        replace hfa := hfa.trans (ha_510.sub (by decide))
        obtain ⟨y_518, n_513, n_514, n_515, x_516, x_517, hf_519, hf_520, hf_521, hf_522, hs_523, hy_524, hq_525, hq_526, hq_527, hq_528, hq_529, hq_530, rfl⟩ := hR_512
        have lx_516 := tt_lo x_516
        have ux_516 := tt_hi x_516
        have lx_517 := tt_lo x_517
        have ux_517 := tt_hi x_517
        obtain ⟨y_531, ey_531, vy_531⟩ := tt_i2l x_517
        refine jj_i2l (v := y_531) C dX11_readHead_89 ey_531 ?_
        refine rl_last C hok_508 (t := (1, (-9223372036854775808), 9223372036854775807)) hkf (by decide) rfl (k := 4) (vp_in_iff.mpr (by decide)) (tt_ja _) (by decide) dX11_readHead_90 (fun pl_532 hok_533 tr tl tw => ?_)
        replace hs12 := tr _ _ _ hs12
        replace hs16 := tr _ _ _ hs16
        replace hf_519 := tr _ _ _ hf_519
        replace hf_520 := tr _ _ _ hf_520
        replace hf_521 := tr _ _ _ hf_521
        replace hf_522 := tr _ _ _ hf_522
        replace hm := hm.arr tr
        replace hfr := hfr.arr tr
        replace hCf := tw _ hCf
        replace hu := tl _ _ (tt_ne hk9 hkf (by decide)) hu
        replace hfa := hfa.wr hkf tl (by decide)
        refine jj_aload_n C dX11_readHead_91 rfl ?_
        refine jj_ldcsw (k := 23) (tx := ";") C dX11_readHead_92 (by decide +kernel) ?_
        obtain ⟨qc, gs, hqc⟩ := tt_recv (cx := []) hok_533 hk0 (by decide) rfl
        refine tt_callV (rest := []) C (re_must_semi hl D cA ak x_516 n_515 n16 n_514 n_513 at9 u c y_518 hk0 hkw hka hkt hki hkf hkp (by first | omega | decide | exact tt_lo _ | exact tt_hi _) (by first | omega | decide | exact tt_lo _ | exact tt_hi _) (by first | omega | decide) (by first | omega | decide) (by first | omega | decide) (by first | omega | decide) (by first | omega | decide) (by first | omega | decide) (by first | omega | decide) (by first | omega | decide) hk9 (by omega) (by omega) hc hy_524 hok_533 hm hs12 hu hf_519 hf_520 hs16 hf_521 hf_522) [] [] rfl rfl (by decide) (by decide) (by decide) qc hqc rfl rfl jw_567bcddfb2 jw_5c84fa4094 jw_52b545b3e3 jw_f96c99f44d jw_84234b4b1a jn_X11_must rfl (jj_le rfl) (jj_le rfl) (jj_le rfl) (jj_le rfl) (jj_le rfl) dX11_readHead_95 rfl (fun _ _ _ hX => hX.elim) (fun rx pl_534 r O_538 => ?_)
        obtain ⟨rfl, hok_535, hr_536, ha_537, hR_539⟩ := O_538
        replace hs12 := hr_536.at hk0 (by decide) (by decide) hs12
        replace hs16 := hr_536.at hk0 (by decide) (by decide) hs16
        replace hCf := ha_537.at hkf (by decide) (by decide) hCf
        replace hu := ha_537.at hk9 (by decide) (by decide) hu
        replace hm := hm.fr hr_536 hk0 rfl
        replace hfr := hfr.trans (hr_536.sub (by decide))
        replace hfa := hfa.trans (ha_537.sub (by decide))
        obtain ⟨y_544, n_540, n_541, n_542, x_543, hf_545, hf_546, hf_547, hf_548, hs_549, hy_550, hq_551, hq_552, hq_553, hq_554, hq_555, rfl⟩ := hR_539
        have lx_543 := tt_lo x_543
        have ux_543 := tt_hi x_543
        refine jj_aload_n C dX11_readHead_98 rfl ?_
        refine jj_ldcsw (k := 24) (tx := "investors") C dX11_readHead_99 (by decide +kernel) ?_
        obtain ⟨qc, gs, hqc⟩ := tt_recv (cx := []) hok_535 hk0 (by decide) rfl
        refine tt_callV (rest := []) C (re_must_investors hl D cA ak x_543 n_542 n16 n_541 n_540 at9 u c y_544 hk0 hkw hka hkt hki hkf hkp (by first | omega | decide | exact tt_lo _ | exact tt_hi _) (by first | omega | decide | exact tt_lo _ | exact tt_hi _) (by first | omega | decide) (by first | omega | decide) (by first | omega | decide) (by first | omega | decide) (by first | omega | decide) (by first | omega | decide) (by first | omega | decide) (by first | omega | decide) hk9 (by omega) (by omega) hc hy_550 hok_535 hm hs12 hu hf_545 hf_546 hs16 hf_547 hf_548) [] [] rfl rfl (by decide) (by decide) (by decide) qc hqc rfl rfl jw_567bcddfb2 jw_5c84fa4094 jw_52b545b3e3 jw_f96c99f44d jw_84234b4b1a jn_X11_must rfl (jj_le rfl) (jj_le rfl) (jj_le rfl) (jj_le rfl) (jj_le rfl) dX11_readHead_102 rfl (fun _ _ _ hX => hX.elim) (fun rx pl_556 r O_560 => ?_)
        obtain ⟨rfl, hok_557, hr_558, ha_559, hR_561⟩ := O_560
        replace hs12 := hr_558.at hk0 (by decide) (by decide) hs12
        replace hs16 := hr_558.at hk0 (by decide) (by decide) hs16
        replace hCf := ha_559.at hkf (by decide) (by decide) hCf
        replace hu := ha_559.at hk9 (by decide) (by decide) hu
        replace hm := hm.fr hr_558 hk0 rfl
        replace hfr := hfr.trans (hr_558.sub (by decide))
        replace hfa := hfa.trans (ha_559.sub (by decide))
        obtain ⟨y_566, n_562, n_563, n_564, x_565, hf_567, hf_568, hf_569, hf_570, hs_571, hy_572, hq_573, hq_574, hq_575, hq_576, hq_577, rfl⟩ := hR_561
        have lx_565 := tt_lo x_565
        have ux_565 := tt_hi x_565
        refine jj_aload_n C dX11_readHead_105 rfl ?_
        refine tt_getF C hok_557 jk_12 4 (by decide) jw_69cfdf3f6e (t := (2, 6, 0)) hk0 (by decide) rfl rfl hm.2.2.2.2.1 dX11_readHead_106 ?_
        refine jj_iconst (v := 0) C dX11_readHead_109 (by decide) ?_
        refine jj_aload_n C dX11_readHead_110 rfl ?_
        refine jj_lconst (v := 1) C dX11_readHead_111 (by decide) ?_
        refine jj_ldc2 (v := 6) C dX11_readHead_112 jw_f454e46fa4 ?_
        obtain ⟨qc, gs, hqc⟩ := tt_recv (cx := []) hok_557 hk0 (by decide) rfl
        refine tt_callV (rest := [.int 0, .ref af]) C (re_number hl D cA ak x_565 n_564 n16 n_563 n_562 at9 u c y_566 (1 : Int64) (6 : Int64) 1 6 hk0 hkw hka hkt hki hkf hkp (by first | omega | decide | exact tt_lo _ | exact tt_hi _) (by first | omega | decide | exact tt_lo _ | exact tt_hi _) (by first | omega | decide) (by first | omega | decide) (by first | omega | decide) (by first | omega | decide) (by first | omega | decide) (by first | omega | decide) (by first | omega | decide) (by first | omega | decide) hk9 (by omega) (by omega) hc hy_572 (by decide) (by decide) hok_557 hm hs12 hu hf_567 hf_568 hs16 hf_569 hf_570) [] [] rfl rfl (by decide) (by decide) (by decide) qc hqc rfl rfl jw_adb570a667 jw_970096b033 jw_c6bab24534 jw_f96c99f44d jw_2d66378959 jn_X11_number rfl (jj_le rfl) (jj_le rfl) (jj_le rfl) (jj_le rfl) (jj_le rfl) dX11_readHead_115 rfl (fun _ _ _ hX => hX.elim) (fun rx pl_578 r O_582 => ?_)
        obtain ⟨rfl, hok_579, hr_580, ha_581, hR_583⟩ := O_582
        replace hs12 := hr_580.at hk0 (by decide) (by decide) hs12
        replace hs16 := hr_580.at hk0 (by decide) (by decide) hs16
        replace hCf := ha_581.at hkf (by decide) (by decide) hCf
        replace hu := ha_581.at hk9 (by decide) (by decide) hu
        replace hm := hm.fr hr_580 hk0 rfl
        replace hfr := hfr.trans (hr_580.sub (by decide))
        replace hfa := hfa.trans (ha_581.sub (by decide))
        obtain ⟨y_589, n_584, n_585, n_586, x_587, x_588, hf_590, hf_591, hf_592, hf_593, hs_594, hy_595, hq_596, hq_597, hq_598, hq_599, hq_600, hq_601, rfl⟩ := hR_583
        have lx_587 := tt_lo x_587
        have ux_587 := tt_hi x_587
        have lx_588 := tt_lo x_588
        have ux_588 := tt_hi x_588
        obtain ⟨y_602, ey_602, vy_602⟩ := tt_i2l x_588
        refine jj_i2l (v := y_602) C dX11_readHead_118 ey_602 ?_
        refine rl_last C hok_579 (t := (1, (-9223372036854775808), 9223372036854775807)) hkf (by decide) rfl (k := 0) (vp_in_iff.mpr (by decide)) (tt_ja _) (by decide) dX11_readHead_119 (fun pl_603 hok_604 tr tl tw => ?_)
        replace hs12 := tr _ _ _ hs12
        replace hs16 := tr _ _ _ hs16
        replace hf_590 := tr _ _ _ hf_590
        replace hf_591 := tr _ _ _ hf_591
        replace hf_592 := tr _ _ _ hf_592
        replace hf_593 := tr _ _ _ hf_593
        replace hm := hm.arr tr
        replace hfr := hfr.arr tr
        replace hCf := tw _ hCf
        replace hu := tl _ _ (tt_ne hk9 hkf (by decide)) hu
        replace hfa := hfa.wr hkf tl (by decide)
        refine jj_aload_n C dX11_readHead_120 rfl ?_
        refine jj_ldcsw (k := 23) (tx := ";") C dX11_readHead_121 (by decide +kernel) ?_
        obtain ⟨qc, gs, hqc⟩ := tt_recv (cx := []) hok_604 hk0 (by decide) rfl
        refine tt_callV (rest := []) C (re_must_semi hl D cA ak x_587 n_586 n16 n_585 n_584 at9 u c y_589 hk0 hkw hka hkt hki hkf hkp (by first | omega | decide | exact tt_lo _ | exact tt_hi _) (by first | omega | decide | exact tt_lo _ | exact tt_hi _) (by first | omega | decide) (by first | omega | decide) (by first | omega | decide) (by first | omega | decide) (by first | omega | decide) (by first | omega | decide) (by first | omega | decide) (by first | omega | decide) hk9 (by omega) (by omega) hc hy_595 hok_604 hm hs12 hu hf_590 hf_591 hs16 hf_592 hf_593) [] [] rfl rfl (by decide) (by decide) (by decide) qc hqc rfl rfl jw_567bcddfb2 jw_5c84fa4094 jw_52b545b3e3 jw_f96c99f44d jw_84234b4b1a jn_X11_must rfl (jj_le rfl) (jj_le rfl) (jj_le rfl) (jj_le rfl) (jj_le rfl) dX11_readHead_124 rfl (fun _ _ _ hX => hX.elim) (fun rx pl_605 r O_609 => ?_)
        obtain ⟨rfl, hok_606, hr_607, ha_608, hR_610⟩ := O_609
        replace hs12 := hr_607.at hk0 (by decide) (by decide) hs12
        replace hs16 := hr_607.at hk0 (by decide) (by decide) hs16
        replace hCf := ha_608.at hkf (by decide) (by decide) hCf
        replace hu := ha_608.at hk9 (by decide) (by decide) hu
        replace hm := hm.fr hr_607 hk0 rfl
        replace hfr := hfr.trans (hr_607.sub (by decide))
        replace hfa := hfa.trans (ha_608.sub (by decide))
        obtain ⟨y_615, n_611, n_612, n_613, x_614, hf_616, hf_617, hf_618, hf_619, hs_620, hy_621, hq_622, hq_623, hq_624, hq_625, hq_626, rfl⟩ := hR_610
        have lx_614 := tt_lo x_614
        have ux_614 := tt_hi x_614
        have hM : n_613 = 0 → n_586 = 0 ∧ n_515 = 0 ∧ n_488 = 0 ∧ n_461 = 0 := fun z9 => by
          have w8 := hy_621.mz.mp z9
          have w7 := ps_step.err hs_620 w8
          have w6 := ps_step.err hs_594 w7
          have w5 := ps_step.err hs_571 w6
          have w4 := ps_step.err hs_549 w5
          have w3 := ps_step.err hs_523 w4
          have w2 := ps_step.err hs_496 w3
          exact ⟨hy_595.mz.mpr w7, hy_524.mz.mpr w4, hy_497.mz.mpr w3, hy_470.mz.mpr w2⟩
        exact jj_vret C ⟨[], pl_605, rfl, rfl, hok_606, hfr, hfa, ⟨y_615, (ps_val c n_562 (n_563 - n_562)), _, n_611, n_612, n_613, x_614, hCf, hf_616, hf_617, hf_618, hf_619, ⟨y_11, y_450, y_464, y_491, y_518, y_544, y_566, y_589, hs_16, hs_451, hs_469, hs_496, hs_523, hs_549, hs_571, hs_594, hs_620, (fun e7 => ⟨n_562, n_563, hy_572.tok e7, rfl⟩)⟩, hy_621, (by omega), (by omega), (by omega), (fun z9 => by have k9 := hM z9; have r7 := hq_601 k9.1; have r4 := hq_530 k9.2.1; have r3 := hq_503 k9.2.2.1; have r2 := hq_476 k9.2.2.2; exact ⟨rl_FR.head (by rw [show (vp_updL (vp_updL (vp_updL (vp_updL f 2 y_477) 3 y_504) 4 y_531) 0 y_602) 0 = y_602 from (rl_eq rfl)]; omega) (by rw [show (vp_updL (vp_updL (vp_updL (vp_updL f 2 y_477) 3 y_504) 4 y_531) 0 y_602) 1 = f 1 from (rl_ne (by decide) (rl_ne (by decide) (rl_ne (by decide) (rl_ne (by decide) rfl))))]; have := hZ.2.2 1 (by decide) (by decide) (by decide); omega) (by rw [show (vp_updL (vp_updL (vp_updL (vp_updL f 2 y_477) 3 y_504) 4 y_531) 0 y_602) 2 = y_477 from (rl_ne (by decide) (rl_ne (by decide) (rl_ne (by decide) (rl_eq rfl))))]; omega) (by rw [show (vp_updL (vp_updL (vp_updL (vp_updL f 2 y_477) 3 y_504) 4 y_531) 0 y_602) 3 = y_504 from (rl_ne (by decide) (rl_ne (by decide) (rl_eq rfl)))]; omega) (by rw [show (vp_updL (vp_updL (vp_updL (vp_updL f 2 y_477) 3 y_504) 4 y_531) 0 y_602) 4 = y_531 from (rl_ne (by decide) (rl_eq rfl))]; omega) ⟨(by rw [show (vp_updL (vp_updL (vp_updL (vp_updL f 2 y_477) 3 y_504) 4 y_531) 0 y_602) 6 = f 6 from (rl_ne (by decide) (rl_ne (by decide) (rl_ne (by decide) (rl_ne (by decide) rfl))))]; exact hZ.2.2 6 (by decide) (by decide) (by decide)), (by rw [show (vp_updL (vp_updL (vp_updL (vp_updL f 2 y_477) 3 y_504) 4 y_531) 0 y_602) 7 = f 7 from (rl_ne (by decide) (rl_ne (by decide) (rl_ne (by decide) (rl_ne (by decide) rfl))))]; exact hZ.2.2 7 (by decide) (by decide) (by decide)), (by rw [show (vp_updL (vp_updL (vp_updL (vp_updL f 2 y_477) 3 y_504) 4 y_531) 0 y_602) 8 = f 8 from (rl_ne (by decide) (rl_ne (by decide) (rl_ne (by decide) (rl_ne (by decide) rfl))))]; exact hZ.2.2 8 (by decide) (by decide) (by decide)), (by rw [show (vp_updL (vp_updL (vp_updL (vp_updL f 2 y_477) 3 y_504) 4 y_531) 0 y_602) 9 = f 9 from (rl_ne (by decide) (rl_ne (by decide) (rl_ne (by decide) (rl_ne (by decide) rfl))))]; exact hZ.2.2 9 (by decide) (by decide) (by decide))⟩, (by rw [show (vp_updL (vp_updL (vp_updL (vp_updL f 2 y_477) 3 y_504) 4 y_531) 0 y_602) 0 = y_602 from (rl_eq rfl)]; omega), (by rw [show (vp_updL (vp_updL (vp_updL (vp_updL f 2 y_477) 3 y_504) 4 y_531) 0 y_602) 8 = f 8 from (rl_ne (by decide) (rl_ne (by decide) (rl_ne (by decide) (rl_ne (by decide) rfl))))]; exact hZ.2.2 8 (by decide) (by decide) (by decide))⟩), rfl⟩⟩ dX11_readHead_127 (jj_le rfl) (jj_le rfl)
      · have hzn_445 := ht_449.le (by omega)
        obtain ⟨y_627, hs_628, hy_629⟩ : ∃ z : ps_S, ps_step c n16 (ps_cM c) y_11 z ∧ ps_at c n16 z 0 n_445 n_446 x_10 := ps_at.ok2 (chk := ps_cM c) hy_17 (by omega) (Or.inl ⟨Or.inr hw_38, rfl⟩) ht_449
        obtain rfl : n_9 = 0 := (by omega)
        refine jj_aload_n C dX11_readHead_46 rfl ?_
        refine tt_getF C hok_436 jk_12 4 (by decide) jw_69cfdf3f6e (t := (2, 6, 0)) hk0 (by decide) rfl rfl hm.2.2.2.2.1 dX11_readHead_47 ?_
        refine jj_iconst (v := 2) C dX11_readHead_50 (by decide) ?_
        refine jj_aload_n C dX11_readHead_51 rfl ?_
        refine jj_lconst (v := 0) C dX11_readHead_52 (by decide) ?_
        refine jj_ldc2 (v := 9999) C dX11_readHead_53 jw_79cc7664b1 ?_
        obtain ⟨qc, gs, hqc⟩ := tt_recv (cx := []) hok_436 hk0 (by decide) rfl
        refine tt_callV (rest := [.int 2, .ref af]) C (re_number hl D cA ak x_10 0 n16 n_446 n_445 at9 u c y_627 (0 : Int64) (9999 : Int64) 0 9999 hk0 hkw hka hkt hki hkf hkp (by first | omega | decide | exact tt_lo _ | exact tt_hi _) (by first | omega | decide | exact tt_lo _ | exact tt_hi _) (by first | omega | decide) (by first | omega | decide) (by first | omega | decide) (by first | omega | decide) (by first | omega | decide) (by first | omega | decide) (by first | omega | decide) (by first | omega | decide) hk9 (by omega) (by omega) hc hy_629 (by decide) (by decide) hok_436 hm hs12 hu hf_447 hf_448 hs16 hf_14 hf_15) [] [] rfl rfl (by decide) (by decide) (by decide) qc hqc rfl rfl jw_adb570a667 jw_970096b033 jw_c6bab24534 jw_f96c99f44d jw_2d66378959 jn_X11_number rfl (jj_le rfl) (jj_le rfl) (jj_le rfl) (jj_le rfl) (jj_le rfl) dX11_readHead_56 rfl (fun _ _ _ hX => hX.elim) (fun rx pl_630 r O_634 => ?_)
        obtain ⟨rfl, hok_631, hr_632, ha_633, hR_635⟩ := O_634
        replace hs12 := hr_632.at hk0 (by decide) (by decide) hs12
        replace hs16 := hr_632.at hk0 (by decide) (by decide) hs16
        replace hCf := ha_633.at hkf (by decide) (by decide) hCf
        replace hu := ha_633.at hk9 (by decide) (by decide) hu
        replace hm := hm.fr hr_632 hk0 rfl
        replace hfr := hfr.trans (hr_632.sub (by decide))
        replace hfa := hfa.trans (ha_633.sub (by decide))
        obtain ⟨y_641, n_636, n_637, n_638, x_639, x_640, hf_642, hf_643, hf_644, hf_645, hs_646, hy_647, hq_648, hq_649, hq_650, hq_651, hq_652, hq_653, rfl⟩ := hR_635
        have lx_639 := tt_lo x_639
        have ux_639 := tt_hi x_639
        have lx_640 := tt_lo x_640
        have ux_640 := tt_hi x_640
        obtain ⟨y_654, ey_654, vy_654⟩ := tt_i2l x_640
        refine jj_i2l (v := y_654) C dX11_readHead_59 ey_654 ?_
        refine rl_last C hok_631 (t := (1, (-9223372036854775808), 9223372036854775807)) hkf (by decide) rfl (k := 2) (vp_in_iff.mpr (by decide)) (tt_ja _) (by decide) dX11_readHead_60 (fun pl_655 hok_656 tr tl tw => ?_)
        replace hs12 := tr _ _ _ hs12
        replace hs16 := tr _ _ _ hs16
        replace hf_642 := tr _ _ _ hf_642
        replace hf_643 := tr _ _ _ hf_643
        replace hf_644 := tr _ _ _ hf_644
        replace hf_645 := tr _ _ _ hf_645
        replace hm := hm.arr tr
        replace hfr := hfr.arr tr
        replace hCf := tw _ hCf
        replace hu := tl _ _ (tt_ne hk9 hkf (by decide)) hu
        replace hfa := hfa.wr hkf tl (by decide)
        refine jj_aload_n C dX11_readHead_61 rfl ?_
        refine tt_getF C hok_656 jk_12 4 (by decide) jw_69cfdf3f6e (t := (2, 6, 0)) hk0 (by decide) rfl rfl hm.2.2.2.2.1 dX11_readHead_62 ?_
        refine jj_iconst (v := 3) C dX11_readHead_65 (by decide) ?_
        refine jj_aload_n C dX11_readHead_66 rfl ?_
        refine jj_lconst (v := 0) C dX11_readHead_67 (by decide) ?_
        refine jj_ldc2 (v := 50) C dX11_readHead_68 jw_5d90e8e74a ?_
        obtain ⟨qc, gs, hqc⟩ := tt_recv (cx := []) hok_656 hk0 (by decide) rfl
        refine tt_callV (rest := [.int 3, .ref af]) C (re_number hl D cA ak x_639 n_638 n16 n_637 n_636 at9 u c y_641 (0 : Int64) (50 : Int64) 0 50 hk0 hkw hka hkt hki hkf hkp (by first | omega | decide | exact tt_lo _ | exact tt_hi _) (by first | omega | decide | exact tt_lo _ | exact tt_hi _) (by first | omega | decide) (by first | omega | decide) (by first | omega | decide) (by first | omega | decide) (by first | omega | decide) (by first | omega | decide) (by first | omega | decide) (by first | omega | decide) hk9 (by omega) (by omega) hc hy_647 (by decide) (by decide) hok_656 hm hs12 hu hf_642 hf_643 hs16 hf_644 hf_645) [] [] rfl rfl (by decide) (by decide) (by decide) qc hqc rfl rfl jw_adb570a667 jw_970096b033 jw_c6bab24534 jw_f96c99f44d jw_2d66378959 jn_X11_number rfl (jj_le rfl) (jj_le rfl) (jj_le rfl) (jj_le rfl) (jj_le rfl) dX11_readHead_71 rfl (fun _ _ _ hX => hX.elim) (fun rx pl_657 r O_661 => ?_)
        obtain ⟨rfl, hok_658, hr_659, ha_660, hR_662⟩ := O_661
        replace hs12 := hr_659.at hk0 (by decide) (by decide) hs12
        replace hs16 := hr_659.at hk0 (by decide) (by decide) hs16
        replace hCf := ha_660.at hkf (by decide) (by decide) hCf
        replace hu := ha_660.at hk9 (by decide) (by decide) hu
        replace hm := hm.fr hr_659 hk0 rfl
        replace hfr := hfr.trans (hr_659.sub (by decide))
        replace hfa := hfa.trans (ha_660.sub (by decide))
        obtain ⟨y_668, n_663, n_664, n_665, x_666, x_667, hf_669, hf_670, hf_671, hf_672, hs_673, hy_674, hq_675, hq_676, hq_677, hq_678, hq_679, hq_680, rfl⟩ := hR_662
        have lx_666 := tt_lo x_666
        have ux_666 := tt_hi x_666
        have lx_667 := tt_lo x_667
        have ux_667 := tt_hi x_667
        obtain ⟨y_681, ey_681, vy_681⟩ := tt_i2l x_667
        refine jj_i2l (v := y_681) C dX11_readHead_74 ey_681 ?_
        refine rl_last C hok_658 (t := (1, (-9223372036854775808), 9223372036854775807)) hkf (by decide) rfl (k := 3) (vp_in_iff.mpr (by decide)) (tt_ja _) (by decide) dX11_readHead_75 (fun pl_682 hok_683 tr tl tw => ?_)
        replace hs12 := tr _ _ _ hs12
        replace hs16 := tr _ _ _ hs16
        replace hf_669 := tr _ _ _ hf_669
        replace hf_670 := tr _ _ _ hf_670
        replace hf_671 := tr _ _ _ hf_671
        replace hf_672 := tr _ _ _ hf_672
        replace hm := hm.arr tr
        replace hfr := hfr.arr tr
        replace hCf := tw _ hCf
        replace hu := tl _ _ (tt_ne hk9 hkf (by decide)) hu
        replace hfa := hfa.wr hkf tl (by decide)
        refine jj_aload_n C dX11_readHead_76 rfl ?_
        refine tt_getF C hok_683 jk_12 4 (by decide) jw_69cfdf3f6e (t := (2, 6, 0)) hk0 (by decide) rfl rfl hm.2.2.2.2.1 dX11_readHead_77 ?_
        refine jj_iconst (v := 4) C dX11_readHead_80 (by decide) ?_
        refine jj_aload_n C dX11_readHead_81 rfl ?_
        refine jj_lconst (v := 1) C dX11_readHead_82 (by decide) ?_
        refine jj_ldc2 (v := 100) C dX11_readHead_83 jw_0cface3231 ?_
        obtain ⟨qc, gs, hqc⟩ := tt_recv (cx := []) hok_683 hk0 (by decide) rfl
        refine tt_callV (rest := [.int 4, .ref af]) C (re_number hl D cA ak x_666 n_665 n16 n_664 n_663 at9 u c y_668 (1 : Int64) (100 : Int64) 1 100 hk0 hkw hka hkt hki hkf hkp (by first | omega | decide | exact tt_lo _ | exact tt_hi _) (by first | omega | decide | exact tt_lo _ | exact tt_hi _) (by first | omega | decide) (by first | omega | decide) (by first | omega | decide) (by first | omega | decide) (by first | omega | decide) (by first | omega | decide) (by first | omega | decide) (by first | omega | decide) hk9 (by omega) (by omega) hc hy_674 (by decide) (by decide) hok_683 hm hs12 hu hf_669 hf_670 hs16 hf_671 hf_672) [] [] rfl rfl (by decide) (by decide) (by decide) qc hqc rfl rfl jw_adb570a667 jw_970096b033 jw_c6bab24534 jw_f96c99f44d jw_2d66378959 jn_X11_number rfl (jj_le rfl) (jj_le rfl) (jj_le rfl) (jj_le rfl) (jj_le rfl) dX11_readHead_86 rfl (fun _ _ _ hX => hX.elim) (fun rx pl_684 r O_688 => ?_)
        obtain ⟨rfl, hok_685, hr_686, ha_687, hR_689⟩ := O_688
        replace hs12 := hr_686.at hk0 (by decide) (by decide) hs12
        replace hs16 := hr_686.at hk0 (by decide) (by decide) hs16
        replace hCf := ha_687.at hkf (by decide) (by decide) hCf
        replace hu := ha_687.at hk9 (by decide) (by decide) hu
        replace hm := hm.fr hr_686 hk0 rfl
        replace hfr := hfr.trans (hr_686.sub (by decide))
        replace hfa := hfa.trans (ha_687.sub (by decide))
        obtain ⟨y_695, n_690, n_691, n_692, x_693, x_694, hf_696, hf_697, hf_698, hf_699, hs_700, hy_701, hq_702, hq_703, hq_704, hq_705, hq_706, hq_707, rfl⟩ := hR_689
        have lx_693 := tt_lo x_693
        have ux_693 := tt_hi x_693
        have lx_694 := tt_lo x_694
        have ux_694 := tt_hi x_694
        obtain ⟨y_708, ey_708, vy_708⟩ := tt_i2l x_694
        refine jj_i2l (v := y_708) C dX11_readHead_89 ey_708 ?_
        refine rl_last C hok_685 (t := (1, (-9223372036854775808), 9223372036854775807)) hkf (by decide) rfl (k := 4) (vp_in_iff.mpr (by decide)) (tt_ja _) (by decide) dX11_readHead_90 (fun pl_709 hok_710 tr tl tw => ?_)
        replace hs12 := tr _ _ _ hs12
        replace hs16 := tr _ _ _ hs16
        replace hf_696 := tr _ _ _ hf_696
        replace hf_697 := tr _ _ _ hf_697
        replace hf_698 := tr _ _ _ hf_698
        replace hf_699 := tr _ _ _ hf_699
        replace hm := hm.arr tr
        replace hfr := hfr.arr tr
        replace hCf := tw _ hCf
        replace hu := tl _ _ (tt_ne hk9 hkf (by decide)) hu
        replace hfa := hfa.wr hkf tl (by decide)
        refine jj_aload_n C dX11_readHead_91 rfl ?_
        refine jj_ldcsw (k := 23) (tx := ";") C dX11_readHead_92 (by decide +kernel) ?_
        obtain ⟨qc, gs, hqc⟩ := tt_recv (cx := []) hok_710 hk0 (by decide) rfl
        refine tt_callV (rest := []) C (re_must_semi hl D cA ak x_693 n_692 n16 n_691 n_690 at9 u c y_695 hk0 hkw hka hkt hki hkf hkp (by first | omega | decide | exact tt_lo _ | exact tt_hi _) (by first | omega | decide | exact tt_lo _ | exact tt_hi _) (by first | omega | decide) (by first | omega | decide) (by first | omega | decide) (by first | omega | decide) (by first | omega | decide) (by first | omega | decide) (by first | omega | decide) (by first | omega | decide) hk9 (by omega) (by omega) hc hy_701 hok_710 hm hs12 hu hf_696 hf_697 hs16 hf_698 hf_699) [] [] rfl rfl (by decide) (by decide) (by decide) qc hqc rfl rfl jw_567bcddfb2 jw_5c84fa4094 jw_52b545b3e3 jw_f96c99f44d jw_84234b4b1a jn_X11_must rfl (jj_le rfl) (jj_le rfl) (jj_le rfl) (jj_le rfl) (jj_le rfl) dX11_readHead_95 rfl (fun _ _ _ hX => hX.elim) (fun rx pl_711 r O_715 => ?_)
        obtain ⟨rfl, hok_712, hr_713, ha_714, hR_716⟩ := O_715
        replace hs12 := hr_713.at hk0 (by decide) (by decide) hs12
        replace hs16 := hr_713.at hk0 (by decide) (by decide) hs16
        replace hCf := ha_714.at hkf (by decide) (by decide) hCf
        replace hu := ha_714.at hk9 (by decide) (by decide) hu
        replace hm := hm.fr hr_713 hk0 rfl
        replace hfr := hfr.trans (hr_713.sub (by decide))
        replace hfa := hfa.trans (ha_714.sub (by decide))
        obtain ⟨y_721, n_717, n_718, n_719, x_720, hf_722, hf_723, hf_724, hf_725, hs_726, hy_727, hq_728, hq_729, hq_730, hq_731, hq_732, rfl⟩ := hR_716
        have lx_720 := tt_lo x_720
        have ux_720 := tt_hi x_720
        refine jj_aload_n C dX11_readHead_98 rfl ?_
        refine jj_ldcsw (k := 24) (tx := "investors") C dX11_readHead_99 (by decide +kernel) ?_
        obtain ⟨qc, gs, hqc⟩ := tt_recv (cx := []) hok_712 hk0 (by decide) rfl
        refine tt_callV (rest := []) C (re_must_investors hl D cA ak x_720 n_719 n16 n_718 n_717 at9 u c y_721 hk0 hkw hka hkt hki hkf hkp (by first | omega | decide | exact tt_lo _ | exact tt_hi _) (by first | omega | decide | exact tt_lo _ | exact tt_hi _) (by first | omega | decide) (by first | omega | decide) (by first | omega | decide) (by first | omega | decide) (by first | omega | decide) (by first | omega | decide) (by first | omega | decide) (by first | omega | decide) hk9 (by omega) (by omega) hc hy_727 hok_712 hm hs12 hu hf_722 hf_723 hs16 hf_724 hf_725) [] [] rfl rfl (by decide) (by decide) (by decide) qc hqc rfl rfl jw_567bcddfb2 jw_5c84fa4094 jw_52b545b3e3 jw_f96c99f44d jw_84234b4b1a jn_X11_must rfl (jj_le rfl) (jj_le rfl) (jj_le rfl) (jj_le rfl) (jj_le rfl) dX11_readHead_102 rfl (fun _ _ _ hX => hX.elim) (fun rx pl_733 r O_737 => ?_)
        obtain ⟨rfl, hok_734, hr_735, ha_736, hR_738⟩ := O_737
        replace hs12 := hr_735.at hk0 (by decide) (by decide) hs12
        replace hs16 := hr_735.at hk0 (by decide) (by decide) hs16
        replace hCf := ha_736.at hkf (by decide) (by decide) hCf
        replace hu := ha_736.at hk9 (by decide) (by decide) hu
        replace hm := hm.fr hr_735 hk0 rfl
        replace hfr := hfr.trans (hr_735.sub (by decide))
        replace hfa := hfa.trans (ha_736.sub (by decide))
        obtain ⟨y_743, n_739, n_740, n_741, x_742, hf_744, hf_745, hf_746, hf_747, hs_748, hy_749, hq_750, hq_751, hq_752, hq_753, hq_754, rfl⟩ := hR_738
        have lx_742 := tt_lo x_742
        have ux_742 := tt_hi x_742
        refine jj_aload_n C dX11_readHead_105 rfl ?_
        refine tt_getF C hok_734 jk_12 4 (by decide) jw_69cfdf3f6e (t := (2, 6, 0)) hk0 (by decide) rfl rfl hm.2.2.2.2.1 dX11_readHead_106 ?_
        refine jj_iconst (v := 0) C dX11_readHead_109 (by decide) ?_
        refine jj_aload_n C dX11_readHead_110 rfl ?_
        refine jj_lconst (v := 1) C dX11_readHead_111 (by decide) ?_
        refine jj_ldc2 (v := 6) C dX11_readHead_112 jw_f454e46fa4 ?_
        obtain ⟨qc, gs, hqc⟩ := tt_recv (cx := []) hok_734 hk0 (by decide) rfl
        refine tt_callV (rest := [.int 0, .ref af]) C (re_number hl D cA ak x_742 n_741 n16 n_740 n_739 at9 u c y_743 (1 : Int64) (6 : Int64) 1 6 hk0 hkw hka hkt hki hkf hkp (by first | omega | decide | exact tt_lo _ | exact tt_hi _) (by first | omega | decide | exact tt_lo _ | exact tt_hi _) (by first | omega | decide) (by first | omega | decide) (by first | omega | decide) (by first | omega | decide) (by first | omega | decide) (by first | omega | decide) (by first | omega | decide) (by first | omega | decide) hk9 (by omega) (by omega) hc hy_749 (by decide) (by decide) hok_734 hm hs12 hu hf_744 hf_745 hs16 hf_746 hf_747) [] [] rfl rfl (by decide) (by decide) (by decide) qc hqc rfl rfl jw_adb570a667 jw_970096b033 jw_c6bab24534 jw_f96c99f44d jw_2d66378959 jn_X11_number rfl (jj_le rfl) (jj_le rfl) (jj_le rfl) (jj_le rfl) (jj_le rfl) dX11_readHead_115 rfl (fun _ _ _ hX => hX.elim) (fun rx pl_755 r O_759 => ?_)
        obtain ⟨rfl, hok_756, hr_757, ha_758, hR_760⟩ := O_759
        replace hs12 := hr_757.at hk0 (by decide) (by decide) hs12
        replace hs16 := hr_757.at hk0 (by decide) (by decide) hs16
        replace hCf := ha_758.at hkf (by decide) (by decide) hCf
        replace hu := ha_758.at hk9 (by decide) (by decide) hu
        replace hm := hm.fr hr_757 hk0 rfl
        replace hfr := hfr.trans (hr_757.sub (by decide))
        replace hfa := hfa.trans (ha_758.sub (by decide))
        obtain ⟨y_766, n_761, n_762, n_763, x_764, x_765, hf_767, hf_768, hf_769, hf_770, hs_771, hy_772, hq_773, hq_774, hq_775, hq_776, hq_777, hq_778, rfl⟩ := hR_760
        have lx_764 := tt_lo x_764
        have ux_764 := tt_hi x_764
        have lx_765 := tt_lo x_765
        have ux_765 := tt_hi x_765
        obtain ⟨y_779, ey_779, vy_779⟩ := tt_i2l x_765
        refine jj_i2l (v := y_779) C dX11_readHead_118 ey_779 ?_
        refine rl_last C hok_756 (t := (1, (-9223372036854775808), 9223372036854775807)) hkf (by decide) rfl (k := 0) (vp_in_iff.mpr (by decide)) (tt_ja _) (by decide) dX11_readHead_119 (fun pl_780 hok_781 tr tl tw => ?_)
        replace hs12 := tr _ _ _ hs12
        replace hs16 := tr _ _ _ hs16
        replace hf_767 := tr _ _ _ hf_767
        replace hf_768 := tr _ _ _ hf_768
        replace hf_769 := tr _ _ _ hf_769
        replace hf_770 := tr _ _ _ hf_770
        replace hm := hm.arr tr
        replace hfr := hfr.arr tr
        replace hCf := tw _ hCf
        replace hu := tl _ _ (tt_ne hk9 hkf (by decide)) hu
        replace hfa := hfa.wr hkf tl (by decide)
        refine jj_aload_n C dX11_readHead_120 rfl ?_
        refine jj_ldcsw (k := 23) (tx := ";") C dX11_readHead_121 (by decide +kernel) ?_
        obtain ⟨qc, gs, hqc⟩ := tt_recv (cx := []) hok_781 hk0 (by decide) rfl
        refine tt_callV (rest := []) C (re_must_semi hl D cA ak x_764 n_763 n16 n_762 n_761 at9 u c y_766 hk0 hkw hka hkt hki hkf hkp (by first | omega | decide | exact tt_lo _ | exact tt_hi _) (by first | omega | decide | exact tt_lo _ | exact tt_hi _) (by first | omega | decide) (by first | omega | decide) (by first | omega | decide) (by first | omega | decide) (by first | omega | decide) (by first | omega | decide) (by first | omega | decide) (by first | omega | decide) hk9 (by omega) (by omega) hc hy_772 hok_781 hm hs12 hu hf_767 hf_768 hs16 hf_769 hf_770) [] [] rfl rfl (by decide) (by decide) (by decide) qc hqc rfl rfl jw_567bcddfb2 jw_5c84fa4094 jw_52b545b3e3 jw_f96c99f44d jw_84234b4b1a jn_X11_must rfl (jj_le rfl) (jj_le rfl) (jj_le rfl) (jj_le rfl) (jj_le rfl) dX11_readHead_124 rfl (fun _ _ _ hX => hX.elim) (fun rx pl_782 r O_786 => ?_)
        obtain ⟨rfl, hok_783, hr_784, ha_785, hR_787⟩ := O_786
        replace hs12 := hr_784.at hk0 (by decide) (by decide) hs12
        replace hs16 := hr_784.at hk0 (by decide) (by decide) hs16
        replace hCf := ha_785.at hkf (by decide) (by decide) hCf
        replace hu := ha_785.at hk9 (by decide) (by decide) hu
        replace hm := hm.fr hr_784 hk0 rfl
        replace hfr := hfr.trans (hr_784.sub (by decide))
        replace hfa := hfa.trans (ha_785.sub (by decide))
        obtain ⟨y_792, n_788, n_789, n_790, x_791, hf_793, hf_794, hf_795, hf_796, hs_797, hy_798, hq_799, hq_800, hq_801, hq_802, hq_803, rfl⟩ := hR_787
        have lx_791 := tt_lo x_791
        have ux_791 := tt_hi x_791
        have hM : n_790 = 0 → n_763 = 0 ∧ n_692 = 0 ∧ n_665 = 0 ∧ n_638 = 0 := fun z9 => by
          have w8 := hy_798.mz.mp z9
          have w7 := ps_step.err hs_797 w8
          have w6 := ps_step.err hs_771 w7
          have w5 := ps_step.err hs_748 w6
          have w4 := ps_step.err hs_726 w5
          have w3 := ps_step.err hs_700 w4
          have w2 := ps_step.err hs_673 w3
          exact ⟨hy_772.mz.mpr w7, hy_701.mz.mpr w4, hy_674.mz.mpr w3, hy_647.mz.mpr w2⟩
        exact jj_vret C ⟨[], pl_782, rfl, rfl, hok_783, hfr, hfa, ⟨y_792, (ps_val c n_739 (n_740 - n_739)), _, n_788, n_789, n_790, x_791, hCf, hf_793, hf_794, hf_795, hf_796, ⟨y_11, y_627, y_641, y_668, y_695, y_721, y_743, y_766, hs_16, hs_628, hs_646, hs_673, hs_700, hs_726, hs_748, hs_771, hs_797, (fun e7 => ⟨n_739, n_740, hy_749.tok e7, rfl⟩)⟩, hy_798, (by omega), (by omega), (by omega), (fun z9 => by have k9 := hM z9; have r7 := hq_778 k9.1; have r4 := hq_707 k9.2.1; have r3 := hq_680 k9.2.2.1; have r2 := hq_653 k9.2.2.2; exact ⟨rl_FR.head (by rw [show (vp_updL (vp_updL (vp_updL (vp_updL f 2 y_654) 3 y_681) 4 y_708) 0 y_779) 0 = y_779 from (rl_eq rfl)]; omega) (by rw [show (vp_updL (vp_updL (vp_updL (vp_updL f 2 y_654) 3 y_681) 4 y_708) 0 y_779) 1 = f 1 from (rl_ne (by decide) (rl_ne (by decide) (rl_ne (by decide) (rl_ne (by decide) rfl))))]; have := hZ.2.2 1 (by decide) (by decide) (by decide); omega) (by rw [show (vp_updL (vp_updL (vp_updL (vp_updL f 2 y_654) 3 y_681) 4 y_708) 0 y_779) 2 = y_654 from (rl_ne (by decide) (rl_ne (by decide) (rl_ne (by decide) (rl_eq rfl))))]; omega) (by rw [show (vp_updL (vp_updL (vp_updL (vp_updL f 2 y_654) 3 y_681) 4 y_708) 0 y_779) 3 = y_681 from (rl_ne (by decide) (rl_ne (by decide) (rl_eq rfl)))]; omega) (by rw [show (vp_updL (vp_updL (vp_updL (vp_updL f 2 y_654) 3 y_681) 4 y_708) 0 y_779) 4 = y_708 from (rl_ne (by decide) (rl_eq rfl))]; omega) ⟨(by rw [show (vp_updL (vp_updL (vp_updL (vp_updL f 2 y_654) 3 y_681) 4 y_708) 0 y_779) 6 = f 6 from (rl_ne (by decide) (rl_ne (by decide) (rl_ne (by decide) (rl_ne (by decide) rfl))))]; exact hZ.2.2 6 (by decide) (by decide) (by decide)), (by rw [show (vp_updL (vp_updL (vp_updL (vp_updL f 2 y_654) 3 y_681) 4 y_708) 0 y_779) 7 = f 7 from (rl_ne (by decide) (rl_ne (by decide) (rl_ne (by decide) (rl_ne (by decide) rfl))))]; exact hZ.2.2 7 (by decide) (by decide) (by decide)), (by rw [show (vp_updL (vp_updL (vp_updL (vp_updL f 2 y_654) 3 y_681) 4 y_708) 0 y_779) 8 = f 8 from (rl_ne (by decide) (rl_ne (by decide) (rl_ne (by decide) (rl_ne (by decide) rfl))))]; exact hZ.2.2 8 (by decide) (by decide) (by decide)), (by rw [show (vp_updL (vp_updL (vp_updL (vp_updL f 2 y_654) 3 y_681) 4 y_708) 0 y_779) 9 = f 9 from (rl_ne (by decide) (rl_ne (by decide) (rl_ne (by decide) (rl_ne (by decide) rfl))))]; exact hZ.2.2 9 (by decide) (by decide) (by decide))⟩, (by rw [show (vp_updL (vp_updL (vp_updL (vp_updL f 2 y_654) 3 y_681) 4 y_708) 0 y_779) 0 = y_779 from (rl_eq rfl)]; omega), (by rw [show (vp_updL (vp_updL (vp_updL (vp_updL f 2 y_654) 3 y_681) 4 y_708) 0 y_779) 8 = f 8 from (rl_ne (by decide) (rl_ne (by decide) (rl_ne (by decide) (rl_ne (by decide) rfl))))]; exact hZ.2.2 8 (by decide) (by decide) (by decide))⟩), rfl⟩⟩ dX11_readHead_127 (jj_le rfl) (jj_le rfl)
  · refine jj_if_eqF (tgt := 27) C dX11_readHead_14 (by decide) (by decide) ?_
    refine jj_aload_n C dX11_readHead_17 rfl ?_
    refine tt_getF C hok_24 jk_12 4 (by decide) jw_69cfdf3f6e (t := (2, 6, 0)) hk0 (by decide) rfl rfl hm.2.2.2.2.1 dX11_readHead_18 ?_
    refine jj_iconst (v := 1) C dX11_readHead_21 (by decide) ?_
    refine jj_lconst (v := 1) C dX11_readHead_22 (by decide) ?_
    refine rl_last C hok_24 (t := (1, (-9223372036854775808), 9223372036854775807)) hkf (by decide) rfl (k := 1) (vp_in_iff.mpr (by decide)) (tt_ja _) (by decide) dX11_readHead_23 (fun pl_804 hok_805 tr tl tw => ?_)
    replace hs12 := tr _ _ _ hs12
    replace hs16 := tr _ _ _ hs16
    replace hf_12 := tr _ _ _ hf_12
    replace hf_13 := tr _ _ _ hf_13
    replace hf_14 := tr _ _ _ hf_14
    replace hf_15 := tr _ _ _ hf_15
    replace hm := hm.arr tr
    replace hfr := hfr.arr tr
    replace hCf := tw _ hCf
    replace hu := tl _ _ (tt_ne hk9 hkf (by decide)) hu
    replace hfa := hfa.wr hkf tl (by decide)
    refine jj_goto (tgt := 42) C dX11_readHead_24 (by decide) ?_
    refine jj_aload_n C dX11_readHead_42 rfl ?_
    obtain ⟨qc, gs, hqc⟩ := tt_recv (cx := []) hok_805 hk0 (by decide) rfl
    refine tt_callV (rest := []) C (re_pass hl D cA ak n_9 n16 n_8 n_7 at9 u c hk0 hkw hka hkt hki hkf hkp (by first | omega | decide) (by first | omega | decide) (by first | omega | decide) (by first | omega | decide) (by first | omega | decide) (by first | omega | decide) (by first | omega | decide) (by first | omega | decide) hk9 (by omega) (by omega) hc hok_805 hm hs12 hu hf_12 hf_13 hs16 hf_14) [] [] rfl rfl (by decide) (by decide) (by decide) qc hqc rfl rfl jw_b8e803331f jw_409849e3da jw_7cfaf31817 jw_f96c99f44d jw_3d0e41f30f jn_X11_pass rfl (jj_le rfl) (jj_le rfl) (jj_le rfl) (jj_le rfl) (jj_le rfl) dX11_readHead_43 rfl (fun _ _ _ hX => hX.elim) (fun rx pl_806 r O_810 => ?_)
    obtain ⟨rfl, hok_807, hr_808, ha_809, hR_811⟩ := O_810
    replace hs12 := hr_808.at hk0 (by decide) (by decide) hs12
    replace hs16 := hr_808.at hk0 (by decide) (by decide) hs16
    replace hf_14 := hr_808.at hk0 (by decide) (by decide) hf_14
    replace hf_15 := hr_808.at hk0 (by decide) (by decide) hf_15
    replace hCf := ha_809.at hkf (by decide) (by decide) hCf
    replace hu := ha_809.at hk9 (by decide) (by decide) hu
    replace hm := hm.fr hr_808 hk0 rfl
    replace hfr := hfr.trans (hr_808.sub (by decide))
    replace hfa := hfa.trans (ha_809.sub (by decide))
    rcases hR_811 with ⟨hq_812, hf_813, hf_814, rfl⟩ | ⟨hq_815, ⟨n_816, n_817, hf_818, hf_819, ht_820⟩, rfl⟩
    · obtain ⟨y_821, hs_822, hy_823⟩ : ∃ z : ps_S, ps_step c n16 (ps_cM c) y_11 z ∧ ps_at c n16 z n_9 n_7 n_8 x_10 := ps_at.st (chk := ps_cM c) hy_17 (by omega)
      refine jj_aload_n C dX11_readHead_46 rfl ?_
      refine tt_getF C hok_807 jk_12 4 (by decide) jw_69cfdf3f6e (t := (2, 6, 0)) hk0 (by decide) rfl rfl hm.2.2.2.2.1 dX11_readHead_47 ?_
      refine jj_iconst (v := 2) C dX11_readHead_50 (by decide) ?_
      refine jj_aload_n C dX11_readHead_51 rfl ?_
      refine jj_lconst (v := 0) C dX11_readHead_52 (by decide) ?_
      refine jj_ldc2 (v := 9999) C dX11_readHead_53 jw_79cc7664b1 ?_
      obtain ⟨qc, gs, hqc⟩ := tt_recv (cx := []) hok_807 hk0 (by decide) rfl
      refine tt_callV (rest := [.int 2, .ref af]) C (re_number hl D cA ak x_10 n_9 n16 n_8 n_7 at9 u c y_821 (0 : Int64) (9999 : Int64) 0 9999 hk0 hkw hka hkt hki hkf hkp (by first | omega | decide | exact tt_lo _ | exact tt_hi _) (by first | omega | decide | exact tt_lo _ | exact tt_hi _) (by first | omega | decide) (by first | omega | decide) (by first | omega | decide) (by first | omega | decide) (by first | omega | decide) (by first | omega | decide) (by first | omega | decide) (by first | omega | decide) hk9 (by omega) (by omega) hc hy_823 (by decide) (by decide) hok_807 hm hs12 hu hf_813 hf_814 hs16 hf_14 hf_15) [] [] rfl rfl (by decide) (by decide) (by decide) qc hqc rfl rfl jw_adb570a667 jw_970096b033 jw_c6bab24534 jw_f96c99f44d jw_2d66378959 jn_X11_number rfl (jj_le rfl) (jj_le rfl) (jj_le rfl) (jj_le rfl) (jj_le rfl) dX11_readHead_56 rfl (fun _ _ _ hX => hX.elim) (fun rx pl_824 r O_828 => ?_)
      obtain ⟨rfl, hok_825, hr_826, ha_827, hR_829⟩ := O_828
      replace hs12 := hr_826.at hk0 (by decide) (by decide) hs12
      replace hs16 := hr_826.at hk0 (by decide) (by decide) hs16
      replace hCf := ha_827.at hkf (by decide) (by decide) hCf
      replace hu := ha_827.at hk9 (by decide) (by decide) hu
      replace hm := hm.fr hr_826 hk0 rfl
      replace hfr := hfr.trans (hr_826.sub (by decide))
      replace hfa := hfa.trans (ha_827.sub (by decide))
      obtain ⟨y_835, n_830, n_831, n_832, x_833, x_834, hf_836, hf_837, hf_838, hf_839, hs_840, hy_841, hq_842, hq_843, hq_844, hq_845, hq_846, hq_847, rfl⟩ := hR_829
      have lx_833 := tt_lo x_833
      have ux_833 := tt_hi x_833
      have lx_834 := tt_lo x_834
      have ux_834 := tt_hi x_834
      obtain ⟨y_848, ey_848, vy_848⟩ := tt_i2l x_834
      refine jj_i2l (v := y_848) C dX11_readHead_59 ey_848 ?_
      refine rl_last C hok_825 (t := (1, (-9223372036854775808), 9223372036854775807)) hkf (by decide) rfl (k := 2) (vp_in_iff.mpr (by decide)) (tt_ja _) (by decide) dX11_readHead_60 (fun pl_849 hok_850 tr tl tw => ?_)
      replace hs12 := tr _ _ _ hs12
      replace hs16 := tr _ _ _ hs16
      replace hf_836 := tr _ _ _ hf_836
      replace hf_837 := tr _ _ _ hf_837
      replace hf_838 := tr _ _ _ hf_838
      replace hf_839 := tr _ _ _ hf_839
      replace hm := hm.arr tr
      replace hfr := hfr.arr tr
      replace hCf := tw _ hCf
      replace hu := tl _ _ (tt_ne hk9 hkf (by decide)) hu
      replace hfa := hfa.wr hkf tl (by decide)
      refine jj_aload_n C dX11_readHead_61 rfl ?_
      refine tt_getF C hok_850 jk_12 4 (by decide) jw_69cfdf3f6e (t := (2, 6, 0)) hk0 (by decide) rfl rfl hm.2.2.2.2.1 dX11_readHead_62 ?_
      refine jj_iconst (v := 3) C dX11_readHead_65 (by decide) ?_
      refine jj_aload_n C dX11_readHead_66 rfl ?_
      refine jj_lconst (v := 0) C dX11_readHead_67 (by decide) ?_
      refine jj_ldc2 (v := 50) C dX11_readHead_68 jw_5d90e8e74a ?_
      obtain ⟨qc, gs, hqc⟩ := tt_recv (cx := []) hok_850 hk0 (by decide) rfl
      refine tt_callV (rest := [.int 3, .ref af]) C (re_number hl D cA ak x_833 n_832 n16 n_831 n_830 at9 u c y_835 (0 : Int64) (50 : Int64) 0 50 hk0 hkw hka hkt hki hkf hkp (by first | omega | decide | exact tt_lo _ | exact tt_hi _) (by first | omega | decide | exact tt_lo _ | exact tt_hi _) (by first | omega | decide) (by first | omega | decide) (by first | omega | decide) (by first | omega | decide) (by first | omega | decide) (by first | omega | decide) (by first | omega | decide) (by first | omega | decide) hk9 (by omega) (by omega) hc hy_841 (by decide) (by decide) hok_850 hm hs12 hu hf_836 hf_837 hs16 hf_838 hf_839) [] [] rfl rfl (by decide) (by decide) (by decide) qc hqc rfl rfl jw_adb570a667 jw_970096b033 jw_c6bab24534 jw_f96c99f44d jw_2d66378959 jn_X11_number rfl (jj_le rfl) (jj_le rfl) (jj_le rfl) (jj_le rfl) (jj_le rfl) dX11_readHead_71 rfl (fun _ _ _ hX => hX.elim) (fun rx pl_851 r O_855 => ?_)
      obtain ⟨rfl, hok_852, hr_853, ha_854, hR_856⟩ := O_855
      replace hs12 := hr_853.at hk0 (by decide) (by decide) hs12
      replace hs16 := hr_853.at hk0 (by decide) (by decide) hs16
      replace hCf := ha_854.at hkf (by decide) (by decide) hCf
      replace hu := ha_854.at hk9 (by decide) (by decide) hu
      replace hm := hm.fr hr_853 hk0 rfl
      replace hfr := hfr.trans (hr_853.sub (by decide))
      replace hfa := hfa.trans (ha_854.sub (by decide))
      obtain ⟨y_862, n_857, n_858, n_859, x_860, x_861, hf_863, hf_864, hf_865, hf_866, hs_867, hy_868, hq_869, hq_870, hq_871, hq_872, hq_873, hq_874, rfl⟩ := hR_856
      have lx_860 := tt_lo x_860
      have ux_860 := tt_hi x_860
      have lx_861 := tt_lo x_861
      have ux_861 := tt_hi x_861
      obtain ⟨y_875, ey_875, vy_875⟩ := tt_i2l x_861
      refine jj_i2l (v := y_875) C dX11_readHead_74 ey_875 ?_
      refine rl_last C hok_852 (t := (1, (-9223372036854775808), 9223372036854775807)) hkf (by decide) rfl (k := 3) (vp_in_iff.mpr (by decide)) (tt_ja _) (by decide) dX11_readHead_75 (fun pl_876 hok_877 tr tl tw => ?_)
      replace hs12 := tr _ _ _ hs12
      replace hs16 := tr _ _ _ hs16
      replace hf_863 := tr _ _ _ hf_863
      replace hf_864 := tr _ _ _ hf_864
      replace hf_865 := tr _ _ _ hf_865
      replace hf_866 := tr _ _ _ hf_866
      replace hm := hm.arr tr
      replace hfr := hfr.arr tr
      replace hCf := tw _ hCf
      replace hu := tl _ _ (tt_ne hk9 hkf (by decide)) hu
      replace hfa := hfa.wr hkf tl (by decide)
      refine jj_aload_n C dX11_readHead_76 rfl ?_
      refine tt_getF C hok_877 jk_12 4 (by decide) jw_69cfdf3f6e (t := (2, 6, 0)) hk0 (by decide) rfl rfl hm.2.2.2.2.1 dX11_readHead_77 ?_
      refine jj_iconst (v := 4) C dX11_readHead_80 (by decide) ?_
      refine jj_aload_n C dX11_readHead_81 rfl ?_
      refine jj_lconst (v := 1) C dX11_readHead_82 (by decide) ?_
      refine jj_ldc2 (v := 100) C dX11_readHead_83 jw_0cface3231 ?_
      obtain ⟨qc, gs, hqc⟩ := tt_recv (cx := []) hok_877 hk0 (by decide) rfl
      refine tt_callV (rest := [.int 4, .ref af]) C (re_number hl D cA ak x_860 n_859 n16 n_858 n_857 at9 u c y_862 (1 : Int64) (100 : Int64) 1 100 hk0 hkw hka hkt hki hkf hkp (by first | omega | decide | exact tt_lo _ | exact tt_hi _) (by first | omega | decide | exact tt_lo _ | exact tt_hi _) (by first | omega | decide) (by first | omega | decide) (by first | omega | decide) (by first | omega | decide) (by first | omega | decide) (by first | omega | decide) (by first | omega | decide) (by first | omega | decide) hk9 (by omega) (by omega) hc hy_868 (by decide) (by decide) hok_877 hm hs12 hu hf_863 hf_864 hs16 hf_865 hf_866) [] [] rfl rfl (by decide) (by decide) (by decide) qc hqc rfl rfl jw_adb570a667 jw_970096b033 jw_c6bab24534 jw_f96c99f44d jw_2d66378959 jn_X11_number rfl (jj_le rfl) (jj_le rfl) (jj_le rfl) (jj_le rfl) (jj_le rfl) dX11_readHead_86 rfl (fun _ _ _ hX => hX.elim) (fun rx pl_878 r O_882 => ?_)
      obtain ⟨rfl, hok_879, hr_880, ha_881, hR_883⟩ := O_882
      replace hs12 := hr_880.at hk0 (by decide) (by decide) hs12
      replace hs16 := hr_880.at hk0 (by decide) (by decide) hs16
      replace hCf := ha_881.at hkf (by decide) (by decide) hCf
      replace hu := ha_881.at hk9 (by decide) (by decide) hu
      replace hm := hm.fr hr_880 hk0 rfl
      replace hfr := hfr.trans (hr_880.sub (by decide))
      replace hfa := hfa.trans (ha_881.sub (by decide))
      obtain ⟨y_889, n_884, n_885, n_886, x_887, x_888, hf_890, hf_891, hf_892, hf_893, hs_894, hy_895, hq_896, hq_897, hq_898, hq_899, hq_900, hq_901, rfl⟩ := hR_883
      have lx_887 := tt_lo x_887
      have ux_887 := tt_hi x_887
      have lx_888 := tt_lo x_888
      have ux_888 := tt_hi x_888
      obtain ⟨y_902, ey_902, vy_902⟩ := tt_i2l x_888
      refine jj_i2l (v := y_902) C dX11_readHead_89 ey_902 ?_
      refine rl_last C hok_879 (t := (1, (-9223372036854775808), 9223372036854775807)) hkf (by decide) rfl (k := 4) (vp_in_iff.mpr (by decide)) (tt_ja _) (by decide) dX11_readHead_90 (fun pl_903 hok_904 tr tl tw => ?_)
      replace hs12 := tr _ _ _ hs12
      replace hs16 := tr _ _ _ hs16
      replace hf_890 := tr _ _ _ hf_890
      replace hf_891 := tr _ _ _ hf_891
      replace hf_892 := tr _ _ _ hf_892
      replace hf_893 := tr _ _ _ hf_893
      replace hm := hm.arr tr
      replace hfr := hfr.arr tr
      replace hCf := tw _ hCf
      replace hu := tl _ _ (tt_ne hk9 hkf (by decide)) hu
      replace hfa := hfa.wr hkf tl (by decide)
      refine jj_aload_n C dX11_readHead_91 rfl ?_
      refine jj_ldcsw (k := 23) (tx := ";") C dX11_readHead_92 (by decide +kernel) ?_
      obtain ⟨qc, gs, hqc⟩ := tt_recv (cx := []) hok_904 hk0 (by decide) rfl
      refine tt_callV (rest := []) C (re_must_semi hl D cA ak x_887 n_886 n16 n_885 n_884 at9 u c y_889 hk0 hkw hka hkt hki hkf hkp (by first | omega | decide | exact tt_lo _ | exact tt_hi _) (by first | omega | decide | exact tt_lo _ | exact tt_hi _) (by first | omega | decide) (by first | omega | decide) (by first | omega | decide) (by first | omega | decide) (by first | omega | decide) (by first | omega | decide) (by first | omega | decide) (by first | omega | decide) hk9 (by omega) (by omega) hc hy_895 hok_904 hm hs12 hu hf_890 hf_891 hs16 hf_892 hf_893) [] [] rfl rfl (by decide) (by decide) (by decide) qc hqc rfl rfl jw_567bcddfb2 jw_5c84fa4094 jw_52b545b3e3 jw_f96c99f44d jw_84234b4b1a jn_X11_must rfl (jj_le rfl) (jj_le rfl) (jj_le rfl) (jj_le rfl) (jj_le rfl) dX11_readHead_95 rfl (fun _ _ _ hX => hX.elim) (fun rx pl_905 r O_909 => ?_)
      obtain ⟨rfl, hok_906, hr_907, ha_908, hR_910⟩ := O_909
      replace hs12 := hr_907.at hk0 (by decide) (by decide) hs12
      replace hs16 := hr_907.at hk0 (by decide) (by decide) hs16
      replace hCf := ha_908.at hkf (by decide) (by decide) hCf
      replace hu := ha_908.at hk9 (by decide) (by decide) hu
      replace hm := hm.fr hr_907 hk0 rfl
      replace hfr := hfr.trans (hr_907.sub (by decide))
      replace hfa := hfa.trans (ha_908.sub (by decide))
      obtain ⟨y_915, n_911, n_912, n_913, x_914, hf_916, hf_917, hf_918, hf_919, hs_920, hy_921, hq_922, hq_923, hq_924, hq_925, hq_926, rfl⟩ := hR_910
      have lx_914 := tt_lo x_914
      have ux_914 := tt_hi x_914
      refine jj_aload_n C dX11_readHead_98 rfl ?_
      refine jj_ldcsw (k := 24) (tx := "investors") C dX11_readHead_99 (by decide +kernel) ?_
      obtain ⟨qc, gs, hqc⟩ := tt_recv (cx := []) hok_906 hk0 (by decide) rfl
      refine tt_callV (rest := []) C (re_must_investors hl D cA ak x_914 n_913 n16 n_912 n_911 at9 u c y_915 hk0 hkw hka hkt hki hkf hkp (by first | omega | decide | exact tt_lo _ | exact tt_hi _) (by first | omega | decide | exact tt_lo _ | exact tt_hi _) (by first | omega | decide) (by first | omega | decide) (by first | omega | decide) (by first | omega | decide) (by first | omega | decide) (by first | omega | decide) (by first | omega | decide) (by first | omega | decide) hk9 (by omega) (by omega) hc hy_921 hok_906 hm hs12 hu hf_916 hf_917 hs16 hf_918 hf_919) [] [] rfl rfl (by decide) (by decide) (by decide) qc hqc rfl rfl jw_567bcddfb2 jw_5c84fa4094 jw_52b545b3e3 jw_f96c99f44d jw_84234b4b1a jn_X11_must rfl (jj_le rfl) (jj_le rfl) (jj_le rfl) (jj_le rfl) (jj_le rfl) dX11_readHead_102 rfl (fun _ _ _ hX => hX.elim) (fun rx pl_927 r O_931 => ?_)
      obtain ⟨rfl, hok_928, hr_929, ha_930, hR_932⟩ := O_931
      replace hs12 := hr_929.at hk0 (by decide) (by decide) hs12
      replace hs16 := hr_929.at hk0 (by decide) (by decide) hs16
      replace hCf := ha_930.at hkf (by decide) (by decide) hCf
      replace hu := ha_930.at hk9 (by decide) (by decide) hu
      replace hm := hm.fr hr_929 hk0 rfl
      replace hfr := hfr.trans (hr_929.sub (by decide))
      replace hfa := hfa.trans (ha_930.sub (by decide))
      obtain ⟨y_937, n_933, n_934, n_935, x_936, hf_938, hf_939, hf_940, hf_941, hs_942, hy_943, hq_944, hq_945, hq_946, hq_947, hq_948, rfl⟩ := hR_932
      have lx_936 := tt_lo x_936
      have ux_936 := tt_hi x_936
      refine jj_aload_n C dX11_readHead_105 rfl ?_
      refine tt_getF C hok_928 jk_12 4 (by decide) jw_69cfdf3f6e (t := (2, 6, 0)) hk0 (by decide) rfl rfl hm.2.2.2.2.1 dX11_readHead_106 ?_
      refine jj_iconst (v := 0) C dX11_readHead_109 (by decide) ?_
      refine jj_aload_n C dX11_readHead_110 rfl ?_
      refine jj_lconst (v := 1) C dX11_readHead_111 (by decide) ?_
      refine jj_ldc2 (v := 6) C dX11_readHead_112 jw_f454e46fa4 ?_
      obtain ⟨qc, gs, hqc⟩ := tt_recv (cx := []) hok_928 hk0 (by decide) rfl
      refine tt_callV (rest := [.int 0, .ref af]) C (re_number hl D cA ak x_936 n_935 n16 n_934 n_933 at9 u c y_937 (1 : Int64) (6 : Int64) 1 6 hk0 hkw hka hkt hki hkf hkp (by first | omega | decide | exact tt_lo _ | exact tt_hi _) (by first | omega | decide | exact tt_lo _ | exact tt_hi _) (by first | omega | decide) (by first | omega | decide) (by first | omega | decide) (by first | omega | decide) (by first | omega | decide) (by first | omega | decide) (by first | omega | decide) (by first | omega | decide) hk9 (by omega) (by omega) hc hy_943 (by decide) (by decide) hok_928 hm hs12 hu hf_938 hf_939 hs16 hf_940 hf_941) [] [] rfl rfl (by decide) (by decide) (by decide) qc hqc rfl rfl jw_adb570a667 jw_970096b033 jw_c6bab24534 jw_f96c99f44d jw_2d66378959 jn_X11_number rfl (jj_le rfl) (jj_le rfl) (jj_le rfl) (jj_le rfl) (jj_le rfl) dX11_readHead_115 rfl (fun _ _ _ hX => hX.elim) (fun rx pl_949 r O_953 => ?_)
      obtain ⟨rfl, hok_950, hr_951, ha_952, hR_954⟩ := O_953
      replace hs12 := hr_951.at hk0 (by decide) (by decide) hs12
      replace hs16 := hr_951.at hk0 (by decide) (by decide) hs16
      replace hCf := ha_952.at hkf (by decide) (by decide) hCf
      replace hu := ha_952.at hk9 (by decide) (by decide) hu
      replace hm := hm.fr hr_951 hk0 rfl
      replace hfr := hfr.trans (hr_951.sub (by decide))
      replace hfa := hfa.trans (ha_952.sub (by decide))
      obtain ⟨y_960, n_955, n_956, n_957, x_958, x_959, hf_961, hf_962, hf_963, hf_964, hs_965, hy_966, hq_967, hq_968, hq_969, hq_970, hq_971, hq_972, rfl⟩ := hR_954
      have lx_958 := tt_lo x_958
      have ux_958 := tt_hi x_958
      have lx_959 := tt_lo x_959
      have ux_959 := tt_hi x_959
      obtain ⟨y_973, ey_973, vy_973⟩ := tt_i2l x_959
      refine jj_i2l (v := y_973) C dX11_readHead_118 ey_973 ?_
      refine rl_last C hok_950 (t := (1, (-9223372036854775808), 9223372036854775807)) hkf (by decide) rfl (k := 0) (vp_in_iff.mpr (by decide)) (tt_ja _) (by decide) dX11_readHead_119 (fun pl_974 hok_975 tr tl tw => ?_)
      replace hs12 := tr _ _ _ hs12
      replace hs16 := tr _ _ _ hs16
      replace hf_961 := tr _ _ _ hf_961
      replace hf_962 := tr _ _ _ hf_962
      replace hf_963 := tr _ _ _ hf_963
      replace hf_964 := tr _ _ _ hf_964
      replace hm := hm.arr tr
      replace hfr := hfr.arr tr
      replace hCf := tw _ hCf
      replace hu := tl _ _ (tt_ne hk9 hkf (by decide)) hu
      replace hfa := hfa.wr hkf tl (by decide)
      refine jj_aload_n C dX11_readHead_120 rfl ?_
      refine jj_ldcsw (k := 23) (tx := ";") C dX11_readHead_121 (by decide +kernel) ?_
      obtain ⟨qc, gs, hqc⟩ := tt_recv (cx := []) hok_975 hk0 (by decide) rfl
      refine tt_callV (rest := []) C (re_must_semi hl D cA ak x_958 n_957 n16 n_956 n_955 at9 u c y_960 hk0 hkw hka hkt hki hkf hkp (by first | omega | decide | exact tt_lo _ | exact tt_hi _) (by first | omega | decide | exact tt_lo _ | exact tt_hi _) (by first | omega | decide) (by first | omega | decide) (by first | omega | decide) (by first | omega | decide) (by first | omega | decide) (by first | omega | decide) (by first | omega | decide) (by first | omega | decide) hk9 (by omega) (by omega) hc hy_966 hok_975 hm hs12 hu hf_961 hf_962 hs16 hf_963 hf_964) [] [] rfl rfl (by decide) (by decide) (by decide) qc hqc rfl rfl jw_567bcddfb2 jw_5c84fa4094 jw_52b545b3e3 jw_f96c99f44d jw_84234b4b1a jn_X11_must rfl (jj_le rfl) (jj_le rfl) (jj_le rfl) (jj_le rfl) (jj_le rfl) dX11_readHead_124 rfl (fun _ _ _ hX => hX.elim) (fun rx pl_976 r O_980 => ?_)
      obtain ⟨rfl, hok_977, hr_978, ha_979, hR_981⟩ := O_980
      replace hs12 := hr_978.at hk0 (by decide) (by decide) hs12
      replace hs16 := hr_978.at hk0 (by decide) (by decide) hs16
      replace hCf := ha_979.at hkf (by decide) (by decide) hCf
      replace hu := ha_979.at hk9 (by decide) (by decide) hu
      replace hm := hm.fr hr_978 hk0 rfl
      replace hfr := hfr.trans (hr_978.sub (by decide))
      replace hfa := hfa.trans (ha_979.sub (by decide))
      obtain ⟨y_986, n_982, n_983, n_984, x_985, hf_987, hf_988, hf_989, hf_990, hs_991, hy_992, hq_993, hq_994, hq_995, hq_996, hq_997, rfl⟩ := hR_981
      have lx_985 := tt_lo x_985
      have ux_985 := tt_hi x_985
      have hM : n_984 = 0 → n_957 = 0 ∧ n_886 = 0 ∧ n_859 = 0 ∧ n_832 = 0 := fun z9 => by
        have w8 := hy_992.mz.mp z9
        have w7 := ps_step.err hs_991 w8
        have w6 := ps_step.err hs_965 w7
        have w5 := ps_step.err hs_942 w6
        have w4 := ps_step.err hs_920 w5
        have w3 := ps_step.err hs_894 w4
        have w2 := ps_step.err hs_867 w3
        exact ⟨hy_966.mz.mpr w7, hy_895.mz.mpr w4, hy_868.mz.mpr w3, hy_841.mz.mpr w2⟩
      exact jj_vret C ⟨[], pl_976, rfl, rfl, hok_977, hfr, hfa, ⟨y_986, (ps_val c n_933 (n_934 - n_933)), _, n_982, n_983, n_984, x_985, hCf, hf_987, hf_988, hf_989, hf_990, ⟨y_11, y_821, y_835, y_862, y_889, y_915, y_937, y_960, hs_16, hs_822, hs_840, hs_867, hs_894, hs_920, hs_942, hs_965, hs_991, (fun e7 => ⟨n_933, n_934, hy_943.tok e7, rfl⟩)⟩, hy_992, (by omega), (by omega), (by omega), (fun z9 => by have k9 := hM z9; have r7 := hq_972 k9.1; have r4 := hq_901 k9.2.1; have r3 := hq_874 k9.2.2.1; have r2 := hq_847 k9.2.2.2; exact ⟨rl_FR.head (by rw [show (vp_updL (vp_updL (vp_updL (vp_updL (vp_updL f 1 (1 : Int64)) 2 y_848) 3 y_875) 4 y_902) 0 y_973) 0 = y_973 from (rl_eq rfl)]; omega) (by rw [show (vp_updL (vp_updL (vp_updL (vp_updL (vp_updL f 1 (1 : Int64)) 2 y_848) 3 y_875) 4 y_902) 0 y_973) 1 = (1 : Int64) from (rl_ne (by decide) (rl_ne (by decide) (rl_ne (by decide) (rl_ne (by decide) (rl_eq rfl)))))]; decide) (by rw [show (vp_updL (vp_updL (vp_updL (vp_updL (vp_updL f 1 (1 : Int64)) 2 y_848) 3 y_875) 4 y_902) 0 y_973) 2 = y_848 from (rl_ne (by decide) (rl_ne (by decide) (rl_ne (by decide) (rl_eq rfl))))]; omega) (by rw [show (vp_updL (vp_updL (vp_updL (vp_updL (vp_updL f 1 (1 : Int64)) 2 y_848) 3 y_875) 4 y_902) 0 y_973) 3 = y_875 from (rl_ne (by decide) (rl_ne (by decide) (rl_eq rfl)))]; omega) (by rw [show (vp_updL (vp_updL (vp_updL (vp_updL (vp_updL f 1 (1 : Int64)) 2 y_848) 3 y_875) 4 y_902) 0 y_973) 4 = y_902 from (rl_ne (by decide) (rl_eq rfl))]; omega) ⟨(by rw [show (vp_updL (vp_updL (vp_updL (vp_updL (vp_updL f 1 (1 : Int64)) 2 y_848) 3 y_875) 4 y_902) 0 y_973) 6 = f 6 from (rl_ne (by decide) (rl_ne (by decide) (rl_ne (by decide) (rl_ne (by decide) (rl_ne (by decide) rfl)))))]; exact hZ.2.2 6 (by decide) (by decide) (by decide)), (by rw [show (vp_updL (vp_updL (vp_updL (vp_updL (vp_updL f 1 (1 : Int64)) 2 y_848) 3 y_875) 4 y_902) 0 y_973) 7 = f 7 from (rl_ne (by decide) (rl_ne (by decide) (rl_ne (by decide) (rl_ne (by decide) (rl_ne (by decide) rfl)))))]; exact hZ.2.2 7 (by decide) (by decide) (by decide)), (by rw [show (vp_updL (vp_updL (vp_updL (vp_updL (vp_updL f 1 (1 : Int64)) 2 y_848) 3 y_875) 4 y_902) 0 y_973) 8 = f 8 from (rl_ne (by decide) (rl_ne (by decide) (rl_ne (by decide) (rl_ne (by decide) (rl_ne (by decide) rfl)))))]; exact hZ.2.2 8 (by decide) (by decide) (by decide)), (by rw [show (vp_updL (vp_updL (vp_updL (vp_updL (vp_updL f 1 (1 : Int64)) 2 y_848) 3 y_875) 4 y_902) 0 y_973) 9 = f 9 from (rl_ne (by decide) (rl_ne (by decide) (rl_ne (by decide) (rl_ne (by decide) (rl_ne (by decide) rfl)))))]; exact hZ.2.2 9 (by decide) (by decide) (by decide))⟩, (by rw [show (vp_updL (vp_updL (vp_updL (vp_updL (vp_updL f 1 (1 : Int64)) 2 y_848) 3 y_875) 4 y_902) 0 y_973) 0 = y_973 from (rl_eq rfl)]; omega), (by rw [show (vp_updL (vp_updL (vp_updL (vp_updL (vp_updL f 1 (1 : Int64)) 2 y_848) 3 y_875) 4 y_902) 0 y_973) 8 = f 8 from (rl_ne (by decide) (rl_ne (by decide) (rl_ne (by decide) (rl_ne (by decide) (rl_ne (by decide) rfl)))))]; exact hZ.2.2 8 (by decide) (by decide) (by decide))⟩), rfl⟩⟩ dX11_readHead_127 (jj_le rfl) (jj_le rfl)
    · have hzn_816 := ht_820.le (by omega)
      obtain ⟨y_998, hs_999, hy_1000⟩ : ∃ z : ps_S, ps_step c n16 (ps_cM c) y_11 z ∧ ps_at c n16 z 0 n_816 n_817 x_10 := ps_at.ok2 (chk := ps_cM c) hy_17 (by omega) (Or.inl ⟨Or.inl hw_30, rfl⟩) ht_820
      obtain rfl : n_9 = 0 := (by omega)
      refine jj_aload_n C dX11_readHead_46 rfl ?_
      refine tt_getF C hok_807 jk_12 4 (by decide) jw_69cfdf3f6e (t := (2, 6, 0)) hk0 (by decide) rfl rfl hm.2.2.2.2.1 dX11_readHead_47 ?_
      refine jj_iconst (v := 2) C dX11_readHead_50 (by decide) ?_
      refine jj_aload_n C dX11_readHead_51 rfl ?_
      refine jj_lconst (v := 0) C dX11_readHead_52 (by decide) ?_
      refine jj_ldc2 (v := 9999) C dX11_readHead_53 jw_79cc7664b1 ?_
      obtain ⟨qc, gs, hqc⟩ := tt_recv (cx := []) hok_807 hk0 (by decide) rfl
      refine tt_callV (rest := [.int 2, .ref af]) C (re_number hl D cA ak x_10 0 n16 n_817 n_816 at9 u c y_998 (0 : Int64) (9999 : Int64) 0 9999 hk0 hkw hka hkt hki hkf hkp (by first | omega | decide | exact tt_lo _ | exact tt_hi _) (by first | omega | decide | exact tt_lo _ | exact tt_hi _) (by first | omega | decide) (by first | omega | decide) (by first | omega | decide) (by first | omega | decide) (by first | omega | decide) (by first | omega | decide) (by first | omega | decide) (by first | omega | decide) hk9 (by omega) (by omega) hc hy_1000 (by decide) (by decide) hok_807 hm hs12 hu hf_818 hf_819 hs16 hf_14 hf_15) [] [] rfl rfl (by decide) (by decide) (by decide) qc hqc rfl rfl jw_adb570a667 jw_970096b033 jw_c6bab24534 jw_f96c99f44d jw_2d66378959 jn_X11_number rfl (jj_le rfl) (jj_le rfl) (jj_le rfl) (jj_le rfl) (jj_le rfl) dX11_readHead_56 rfl (fun _ _ _ hX => hX.elim) (fun rx pl_1001 r O_1005 => ?_)
      obtain ⟨rfl, hok_1002, hr_1003, ha_1004, hR_1006⟩ := O_1005
      replace hs12 := hr_1003.at hk0 (by decide) (by decide) hs12
      replace hs16 := hr_1003.at hk0 (by decide) (by decide) hs16
      replace hCf := ha_1004.at hkf (by decide) (by decide) hCf
      replace hu := ha_1004.at hk9 (by decide) (by decide) hu
      replace hm := hm.fr hr_1003 hk0 rfl
      replace hfr := hfr.trans (hr_1003.sub (by decide))
      replace hfa := hfa.trans (ha_1004.sub (by decide))
      obtain ⟨y_1012, n_1007, n_1008, n_1009, x_1010, x_1011, hf_1013, hf_1014, hf_1015, hf_1016, hs_1017, hy_1018, hq_1019, hq_1020, hq_1021, hq_1022, hq_1023, hq_1024, rfl⟩ := hR_1006
      have lx_1010 := tt_lo x_1010
      have ux_1010 := tt_hi x_1010
      have lx_1011 := tt_lo x_1011
      have ux_1011 := tt_hi x_1011
      obtain ⟨y_1025, ey_1025, vy_1025⟩ := tt_i2l x_1011
      refine jj_i2l (v := y_1025) C dX11_readHead_59 ey_1025 ?_
      refine rl_last C hok_1002 (t := (1, (-9223372036854775808), 9223372036854775807)) hkf (by decide) rfl (k := 2) (vp_in_iff.mpr (by decide)) (tt_ja _) (by decide) dX11_readHead_60 (fun pl_1026 hok_1027 tr tl tw => ?_)
      replace hs12 := tr _ _ _ hs12
      replace hs16 := tr _ _ _ hs16
      replace hf_1013 := tr _ _ _ hf_1013
      replace hf_1014 := tr _ _ _ hf_1014
      replace hf_1015 := tr _ _ _ hf_1015
      replace hf_1016 := tr _ _ _ hf_1016
      replace hm := hm.arr tr
      replace hfr := hfr.arr tr
      replace hCf := tw _ hCf
      replace hu := tl _ _ (tt_ne hk9 hkf (by decide)) hu
      replace hfa := hfa.wr hkf tl (by decide)
      refine jj_aload_n C dX11_readHead_61 rfl ?_
      refine tt_getF C hok_1027 jk_12 4 (by decide) jw_69cfdf3f6e (t := (2, 6, 0)) hk0 (by decide) rfl rfl hm.2.2.2.2.1 dX11_readHead_62 ?_
      refine jj_iconst (v := 3) C dX11_readHead_65 (by decide) ?_
      refine jj_aload_n C dX11_readHead_66 rfl ?_
      refine jj_lconst (v := 0) C dX11_readHead_67 (by decide) ?_
      refine jj_ldc2 (v := 50) C dX11_readHead_68 jw_5d90e8e74a ?_
      obtain ⟨qc, gs, hqc⟩ := tt_recv (cx := []) hok_1027 hk0 (by decide) rfl
      refine tt_callV (rest := [.int 3, .ref af]) C (re_number hl D cA ak x_1010 n_1009 n16 n_1008 n_1007 at9 u c y_1012 (0 : Int64) (50 : Int64) 0 50 hk0 hkw hka hkt hki hkf hkp (by first | omega | decide | exact tt_lo _ | exact tt_hi _) (by first | omega | decide | exact tt_lo _ | exact tt_hi _) (by first | omega | decide) (by first | omega | decide) (by first | omega | decide) (by first | omega | decide) (by first | omega | decide) (by first | omega | decide) (by first | omega | decide) (by first | omega | decide) hk9 (by omega) (by omega) hc hy_1018 (by decide) (by decide) hok_1027 hm hs12 hu hf_1013 hf_1014 hs16 hf_1015 hf_1016) [] [] rfl rfl (by decide) (by decide) (by decide) qc hqc rfl rfl jw_adb570a667 jw_970096b033 jw_c6bab24534 jw_f96c99f44d jw_2d66378959 jn_X11_number rfl (jj_le rfl) (jj_le rfl) (jj_le rfl) (jj_le rfl) (jj_le rfl) dX11_readHead_71 rfl (fun _ _ _ hX => hX.elim) (fun rx pl_1028 r O_1032 => ?_)
      obtain ⟨rfl, hok_1029, hr_1030, ha_1031, hR_1033⟩ := O_1032
      replace hs12 := hr_1030.at hk0 (by decide) (by decide) hs12
      replace hs16 := hr_1030.at hk0 (by decide) (by decide) hs16
      replace hCf := ha_1031.at hkf (by decide) (by decide) hCf
      replace hu := ha_1031.at hk9 (by decide) (by decide) hu
      replace hm := hm.fr hr_1030 hk0 rfl
      replace hfr := hfr.trans (hr_1030.sub (by decide))
      replace hfa := hfa.trans (ha_1031.sub (by decide))
      obtain ⟨y_1039, n_1034, n_1035, n_1036, x_1037, x_1038, hf_1040, hf_1041, hf_1042, hf_1043, hs_1044, hy_1045, hq_1046, hq_1047, hq_1048, hq_1049, hq_1050, hq_1051, rfl⟩ := hR_1033
      have lx_1037 := tt_lo x_1037
      have ux_1037 := tt_hi x_1037
      have lx_1038 := tt_lo x_1038
      have ux_1038 := tt_hi x_1038
      obtain ⟨y_1052, ey_1052, vy_1052⟩ := tt_i2l x_1038
      refine jj_i2l (v := y_1052) C dX11_readHead_74 ey_1052 ?_
      refine rl_last C hok_1029 (t := (1, (-9223372036854775808), 9223372036854775807)) hkf (by decide) rfl (k := 3) (vp_in_iff.mpr (by decide)) (tt_ja _) (by decide) dX11_readHead_75 (fun pl_1053 hok_1054 tr tl tw => ?_)
      replace hs12 := tr _ _ _ hs12
      replace hs16 := tr _ _ _ hs16
      replace hf_1040 := tr _ _ _ hf_1040
      replace hf_1041 := tr _ _ _ hf_1041
      replace hf_1042 := tr _ _ _ hf_1042
      replace hf_1043 := tr _ _ _ hf_1043
      replace hm := hm.arr tr
      replace hfr := hfr.arr tr
      replace hCf := tw _ hCf
      replace hu := tl _ _ (tt_ne hk9 hkf (by decide)) hu
      replace hfa := hfa.wr hkf tl (by decide)
      refine jj_aload_n C dX11_readHead_76 rfl ?_
      refine tt_getF C hok_1054 jk_12 4 (by decide) jw_69cfdf3f6e (t := (2, 6, 0)) hk0 (by decide) rfl rfl hm.2.2.2.2.1 dX11_readHead_77 ?_
      refine jj_iconst (v := 4) C dX11_readHead_80 (by decide) ?_
      refine jj_aload_n C dX11_readHead_81 rfl ?_
      refine jj_lconst (v := 1) C dX11_readHead_82 (by decide) ?_
      refine jj_ldc2 (v := 100) C dX11_readHead_83 jw_0cface3231 ?_
      obtain ⟨qc, gs, hqc⟩ := tt_recv (cx := []) hok_1054 hk0 (by decide) rfl
      refine tt_callV (rest := [.int 4, .ref af]) C (re_number hl D cA ak x_1037 n_1036 n16 n_1035 n_1034 at9 u c y_1039 (1 : Int64) (100 : Int64) 1 100 hk0 hkw hka hkt hki hkf hkp (by first | omega | decide | exact tt_lo _ | exact tt_hi _) (by first | omega | decide | exact tt_lo _ | exact tt_hi _) (by first | omega | decide) (by first | omega | decide) (by first | omega | decide) (by first | omega | decide) (by first | omega | decide) (by first | omega | decide) (by first | omega | decide) (by first | omega | decide) hk9 (by omega) (by omega) hc hy_1045 (by decide) (by decide) hok_1054 hm hs12 hu hf_1040 hf_1041 hs16 hf_1042 hf_1043) [] [] rfl rfl (by decide) (by decide) (by decide) qc hqc rfl rfl jw_adb570a667 jw_970096b033 jw_c6bab24534 jw_f96c99f44d jw_2d66378959 jn_X11_number rfl (jj_le rfl) (jj_le rfl) (jj_le rfl) (jj_le rfl) (jj_le rfl) dX11_readHead_86 rfl (fun _ _ _ hX => hX.elim) (fun rx pl_1055 r O_1059 => ?_)
      obtain ⟨rfl, hok_1056, hr_1057, ha_1058, hR_1060⟩ := O_1059
      replace hs12 := hr_1057.at hk0 (by decide) (by decide) hs12
      replace hs16 := hr_1057.at hk0 (by decide) (by decide) hs16
      replace hCf := ha_1058.at hkf (by decide) (by decide) hCf
      replace hu := ha_1058.at hk9 (by decide) (by decide) hu
      replace hm := hm.fr hr_1057 hk0 rfl
      replace hfr := hfr.trans (hr_1057.sub (by decide))
      replace hfa := hfa.trans (ha_1058.sub (by decide))
      obtain ⟨y_1066, n_1061, n_1062, n_1063, x_1064, x_1065, hf_1067, hf_1068, hf_1069, hf_1070, hs_1071, hy_1072, hq_1073, hq_1074, hq_1075, hq_1076, hq_1077, hq_1078, rfl⟩ := hR_1060
      have lx_1064 := tt_lo x_1064
      have ux_1064 := tt_hi x_1064
      have lx_1065 := tt_lo x_1065
      have ux_1065 := tt_hi x_1065
      obtain ⟨y_1079, ey_1079, vy_1079⟩ := tt_i2l x_1065
      refine jj_i2l (v := y_1079) C dX11_readHead_89 ey_1079 ?_
      refine rl_last C hok_1056 (t := (1, (-9223372036854775808), 9223372036854775807)) hkf (by decide) rfl (k := 4) (vp_in_iff.mpr (by decide)) (tt_ja _) (by decide) dX11_readHead_90 (fun pl_1080 hok_1081 tr tl tw => ?_)
      replace hs12 := tr _ _ _ hs12
      replace hs16 := tr _ _ _ hs16
      replace hf_1067 := tr _ _ _ hf_1067
      replace hf_1068 := tr _ _ _ hf_1068
      replace hf_1069 := tr _ _ _ hf_1069
      replace hf_1070 := tr _ _ _ hf_1070
      replace hm := hm.arr tr
      replace hfr := hfr.arr tr
      replace hCf := tw _ hCf
      replace hu := tl _ _ (tt_ne hk9 hkf (by decide)) hu
      replace hfa := hfa.wr hkf tl (by decide)
      refine jj_aload_n C dX11_readHead_91 rfl ?_
      refine jj_ldcsw (k := 23) (tx := ";") C dX11_readHead_92 (by decide +kernel) ?_
      obtain ⟨qc, gs, hqc⟩ := tt_recv (cx := []) hok_1081 hk0 (by decide) rfl
      refine tt_callV (rest := []) C (re_must_semi hl D cA ak x_1064 n_1063 n16 n_1062 n_1061 at9 u c y_1066 hk0 hkw hka hkt hki hkf hkp (by first | omega | decide | exact tt_lo _ | exact tt_hi _) (by first | omega | decide | exact tt_lo _ | exact tt_hi _) (by first | omega | decide) (by first | omega | decide) (by first | omega | decide) (by first | omega | decide) (by first | omega | decide) (by first | omega | decide) (by first | omega | decide) (by first | omega | decide) hk9 (by omega) (by omega) hc hy_1072 hok_1081 hm hs12 hu hf_1067 hf_1068 hs16 hf_1069 hf_1070) [] [] rfl rfl (by decide) (by decide) (by decide) qc hqc rfl rfl jw_567bcddfb2 jw_5c84fa4094 jw_52b545b3e3 jw_f96c99f44d jw_84234b4b1a jn_X11_must rfl (jj_le rfl) (jj_le rfl) (jj_le rfl) (jj_le rfl) (jj_le rfl) dX11_readHead_95 rfl (fun _ _ _ hX => hX.elim) (fun rx pl_1082 r O_1086 => ?_)
      obtain ⟨rfl, hok_1083, hr_1084, ha_1085, hR_1087⟩ := O_1086
      replace hs12 := hr_1084.at hk0 (by decide) (by decide) hs12
      replace hs16 := hr_1084.at hk0 (by decide) (by decide) hs16
      replace hCf := ha_1085.at hkf (by decide) (by decide) hCf
      replace hu := ha_1085.at hk9 (by decide) (by decide) hu
      replace hm := hm.fr hr_1084 hk0 rfl
      replace hfr := hfr.trans (hr_1084.sub (by decide))
      replace hfa := hfa.trans (ha_1085.sub (by decide))
      obtain ⟨y_1092, n_1088, n_1089, n_1090, x_1091, hf_1093, hf_1094, hf_1095, hf_1096, hs_1097, hy_1098, hq_1099, hq_1100, hq_1101, hq_1102, hq_1103, rfl⟩ := hR_1087
      have lx_1091 := tt_lo x_1091
      have ux_1091 := tt_hi x_1091
      refine jj_aload_n C dX11_readHead_98 rfl ?_
      refine jj_ldcsw (k := 24) (tx := "investors") C dX11_readHead_99 (by decide +kernel) ?_
      obtain ⟨qc, gs, hqc⟩ := tt_recv (cx := []) hok_1083 hk0 (by decide) rfl
      refine tt_callV (rest := []) C (re_must_investors hl D cA ak x_1091 n_1090 n16 n_1089 n_1088 at9 u c y_1092 hk0 hkw hka hkt hki hkf hkp (by first | omega | decide | exact tt_lo _ | exact tt_hi _) (by first | omega | decide | exact tt_lo _ | exact tt_hi _) (by first | omega | decide) (by first | omega | decide) (by first | omega | decide) (by first | omega | decide) (by first | omega | decide) (by first | omega | decide) (by first | omega | decide) (by first | omega | decide) hk9 (by omega) (by omega) hc hy_1098 hok_1083 hm hs12 hu hf_1093 hf_1094 hs16 hf_1095 hf_1096) [] [] rfl rfl (by decide) (by decide) (by decide) qc hqc rfl rfl jw_567bcddfb2 jw_5c84fa4094 jw_52b545b3e3 jw_f96c99f44d jw_84234b4b1a jn_X11_must rfl (jj_le rfl) (jj_le rfl) (jj_le rfl) (jj_le rfl) (jj_le rfl) dX11_readHead_102 rfl (fun _ _ _ hX => hX.elim) (fun rx pl_1104 r O_1108 => ?_)
      obtain ⟨rfl, hok_1105, hr_1106, ha_1107, hR_1109⟩ := O_1108
      replace hs12 := hr_1106.at hk0 (by decide) (by decide) hs12
      replace hs16 := hr_1106.at hk0 (by decide) (by decide) hs16
      replace hCf := ha_1107.at hkf (by decide) (by decide) hCf
      replace hu := ha_1107.at hk9 (by decide) (by decide) hu
      replace hm := hm.fr hr_1106 hk0 rfl
      replace hfr := hfr.trans (hr_1106.sub (by decide))
      replace hfa := hfa.trans (ha_1107.sub (by decide))
      obtain ⟨y_1114, n_1110, n_1111, n_1112, x_1113, hf_1115, hf_1116, hf_1117, hf_1118, hs_1119, hy_1120, hq_1121, hq_1122, hq_1123, hq_1124, hq_1125, rfl⟩ := hR_1109
      have lx_1113 := tt_lo x_1113
      have ux_1113 := tt_hi x_1113
      refine jj_aload_n C dX11_readHead_105 rfl ?_
      refine tt_getF C hok_1105 jk_12 4 (by decide) jw_69cfdf3f6e (t := (2, 6, 0)) hk0 (by decide) rfl rfl hm.2.2.2.2.1 dX11_readHead_106 ?_
      refine jj_iconst (v := 0) C dX11_readHead_109 (by decide) ?_
      refine jj_aload_n C dX11_readHead_110 rfl ?_
      refine jj_lconst (v := 1) C dX11_readHead_111 (by decide) ?_
      refine jj_ldc2 (v := 6) C dX11_readHead_112 jw_f454e46fa4 ?_
      obtain ⟨qc, gs, hqc⟩ := tt_recv (cx := []) hok_1105 hk0 (by decide) rfl
      refine tt_callV (rest := [.int 0, .ref af]) C (re_number hl D cA ak x_1113 n_1112 n16 n_1111 n_1110 at9 u c y_1114 (1 : Int64) (6 : Int64) 1 6 hk0 hkw hka hkt hki hkf hkp (by first | omega | decide | exact tt_lo _ | exact tt_hi _) (by first | omega | decide | exact tt_lo _ | exact tt_hi _) (by first | omega | decide) (by first | omega | decide) (by first | omega | decide) (by first | omega | decide) (by first | omega | decide) (by first | omega | decide) (by first | omega | decide) (by first | omega | decide) hk9 (by omega) (by omega) hc hy_1120 (by decide) (by decide) hok_1105 hm hs12 hu hf_1115 hf_1116 hs16 hf_1117 hf_1118) [] [] rfl rfl (by decide) (by decide) (by decide) qc hqc rfl rfl jw_adb570a667 jw_970096b033 jw_c6bab24534 jw_f96c99f44d jw_2d66378959 jn_X11_number rfl (jj_le rfl) (jj_le rfl) (jj_le rfl) (jj_le rfl) (jj_le rfl) dX11_readHead_115 rfl (fun _ _ _ hX => hX.elim) (fun rx pl_1126 r O_1130 => ?_)
      obtain ⟨rfl, hok_1127, hr_1128, ha_1129, hR_1131⟩ := O_1130
      replace hs12 := hr_1128.at hk0 (by decide) (by decide) hs12
      replace hs16 := hr_1128.at hk0 (by decide) (by decide) hs16
      replace hCf := ha_1129.at hkf (by decide) (by decide) hCf
      replace hu := ha_1129.at hk9 (by decide) (by decide) hu
      replace hm := hm.fr hr_1128 hk0 rfl
      replace hfr := hfr.trans (hr_1128.sub (by decide))
      replace hfa := hfa.trans (ha_1129.sub (by decide))
      obtain ⟨y_1137, n_1132, n_1133, n_1134, x_1135, x_1136, hf_1138, hf_1139, hf_1140, hf_1141, hs_1142, hy_1143, hq_1144, hq_1145, hq_1146, hq_1147, hq_1148, hq_1149, rfl⟩ := hR_1131
      have lx_1135 := tt_lo x_1135
      have ux_1135 := tt_hi x_1135
      have lx_1136 := tt_lo x_1136
      have ux_1136 := tt_hi x_1136
      obtain ⟨y_1150, ey_1150, vy_1150⟩ := tt_i2l x_1136
      refine jj_i2l (v := y_1150) C dX11_readHead_118 ey_1150 ?_
      refine rl_last C hok_1127 (t := (1, (-9223372036854775808), 9223372036854775807)) hkf (by decide) rfl (k := 0) (vp_in_iff.mpr (by decide)) (tt_ja _) (by decide) dX11_readHead_119 (fun pl_1151 hok_1152 tr tl tw => ?_)
      replace hs12 := tr _ _ _ hs12
      replace hs16 := tr _ _ _ hs16
      replace hf_1138 := tr _ _ _ hf_1138
      replace hf_1139 := tr _ _ _ hf_1139
      replace hf_1140 := tr _ _ _ hf_1140
      replace hf_1141 := tr _ _ _ hf_1141
      replace hm := hm.arr tr
      replace hfr := hfr.arr tr
      replace hCf := tw _ hCf
      replace hu := tl _ _ (tt_ne hk9 hkf (by decide)) hu
      replace hfa := hfa.wr hkf tl (by decide)
      refine jj_aload_n C dX11_readHead_120 rfl ?_
      refine jj_ldcsw (k := 23) (tx := ";") C dX11_readHead_121 (by decide +kernel) ?_
      obtain ⟨qc, gs, hqc⟩ := tt_recv (cx := []) hok_1152 hk0 (by decide) rfl
      refine tt_callV (rest := []) C (re_must_semi hl D cA ak x_1135 n_1134 n16 n_1133 n_1132 at9 u c y_1137 hk0 hkw hka hkt hki hkf hkp (by first | omega | decide | exact tt_lo _ | exact tt_hi _) (by first | omega | decide | exact tt_lo _ | exact tt_hi _) (by first | omega | decide) (by first | omega | decide) (by first | omega | decide) (by first | omega | decide) (by first | omega | decide) (by first | omega | decide) (by first | omega | decide) (by first | omega | decide) hk9 (by omega) (by omega) hc hy_1143 hok_1152 hm hs12 hu hf_1138 hf_1139 hs16 hf_1140 hf_1141) [] [] rfl rfl (by decide) (by decide) (by decide) qc hqc rfl rfl jw_567bcddfb2 jw_5c84fa4094 jw_52b545b3e3 jw_f96c99f44d jw_84234b4b1a jn_X11_must rfl (jj_le rfl) (jj_le rfl) (jj_le rfl) (jj_le rfl) (jj_le rfl) dX11_readHead_124 rfl (fun _ _ _ hX => hX.elim) (fun rx pl_1153 r O_1157 => ?_)
      obtain ⟨rfl, hok_1154, hr_1155, ha_1156, hR_1158⟩ := O_1157
      replace hs12 := hr_1155.at hk0 (by decide) (by decide) hs12
      replace hs16 := hr_1155.at hk0 (by decide) (by decide) hs16
      replace hCf := ha_1156.at hkf (by decide) (by decide) hCf
      replace hu := ha_1156.at hk9 (by decide) (by decide) hu
      replace hm := hm.fr hr_1155 hk0 rfl
      replace hfr := hfr.trans (hr_1155.sub (by decide))
      replace hfa := hfa.trans (ha_1156.sub (by decide))
      obtain ⟨y_1163, n_1159, n_1160, n_1161, x_1162, hf_1164, hf_1165, hf_1166, hf_1167, hs_1168, hy_1169, hq_1170, hq_1171, hq_1172, hq_1173, hq_1174, rfl⟩ := hR_1158
      have lx_1162 := tt_lo x_1162
      have ux_1162 := tt_hi x_1162
      have hM : n_1161 = 0 → n_1134 = 0 ∧ n_1063 = 0 ∧ n_1036 = 0 ∧ n_1009 = 0 := fun z9 => by
        have w8 := hy_1169.mz.mp z9
        have w7 := ps_step.err hs_1168 w8
        have w6 := ps_step.err hs_1142 w7
        have w5 := ps_step.err hs_1119 w6
        have w4 := ps_step.err hs_1097 w5
        have w3 := ps_step.err hs_1071 w4
        have w2 := ps_step.err hs_1044 w3
        exact ⟨hy_1143.mz.mpr w7, hy_1072.mz.mpr w4, hy_1045.mz.mpr w3, hy_1018.mz.mpr w2⟩
      exact jj_vret C ⟨[], pl_1153, rfl, rfl, hok_1154, hfr, hfa, ⟨y_1163, (ps_val c n_1110 (n_1111 - n_1110)), _, n_1159, n_1160, n_1161, x_1162, hCf, hf_1164, hf_1165, hf_1166, hf_1167, ⟨y_11, y_998, y_1012, y_1039, y_1066, y_1092, y_1114, y_1137, hs_16, hs_999, hs_1017, hs_1044, hs_1071, hs_1097, hs_1119, hs_1142, hs_1168, (fun e7 => ⟨n_1110, n_1111, hy_1120.tok e7, rfl⟩)⟩, hy_1169, (by omega), (by omega), (by omega), (fun z9 => by have k9 := hM z9; have r7 := hq_1149 k9.1; have r4 := hq_1078 k9.2.1; have r3 := hq_1051 k9.2.2.1; have r2 := hq_1024 k9.2.2.2; exact ⟨rl_FR.head (by rw [show (vp_updL (vp_updL (vp_updL (vp_updL (vp_updL f 1 (1 : Int64)) 2 y_1025) 3 y_1052) 4 y_1079) 0 y_1150) 0 = y_1150 from (rl_eq rfl)]; omega) (by rw [show (vp_updL (vp_updL (vp_updL (vp_updL (vp_updL f 1 (1 : Int64)) 2 y_1025) 3 y_1052) 4 y_1079) 0 y_1150) 1 = (1 : Int64) from (rl_ne (by decide) (rl_ne (by decide) (rl_ne (by decide) (rl_ne (by decide) (rl_eq rfl)))))]; decide) (by rw [show (vp_updL (vp_updL (vp_updL (vp_updL (vp_updL f 1 (1 : Int64)) 2 y_1025) 3 y_1052) 4 y_1079) 0 y_1150) 2 = y_1025 from (rl_ne (by decide) (rl_ne (by decide) (rl_ne (by decide) (rl_eq rfl))))]; omega) (by rw [show (vp_updL (vp_updL (vp_updL (vp_updL (vp_updL f 1 (1 : Int64)) 2 y_1025) 3 y_1052) 4 y_1079) 0 y_1150) 3 = y_1052 from (rl_ne (by decide) (rl_ne (by decide) (rl_eq rfl)))]; omega) (by rw [show (vp_updL (vp_updL (vp_updL (vp_updL (vp_updL f 1 (1 : Int64)) 2 y_1025) 3 y_1052) 4 y_1079) 0 y_1150) 4 = y_1079 from (rl_ne (by decide) (rl_eq rfl))]; omega) ⟨(by rw [show (vp_updL (vp_updL (vp_updL (vp_updL (vp_updL f 1 (1 : Int64)) 2 y_1025) 3 y_1052) 4 y_1079) 0 y_1150) 6 = f 6 from (rl_ne (by decide) (rl_ne (by decide) (rl_ne (by decide) (rl_ne (by decide) (rl_ne (by decide) rfl)))))]; exact hZ.2.2 6 (by decide) (by decide) (by decide)), (by rw [show (vp_updL (vp_updL (vp_updL (vp_updL (vp_updL f 1 (1 : Int64)) 2 y_1025) 3 y_1052) 4 y_1079) 0 y_1150) 7 = f 7 from (rl_ne (by decide) (rl_ne (by decide) (rl_ne (by decide) (rl_ne (by decide) (rl_ne (by decide) rfl)))))]; exact hZ.2.2 7 (by decide) (by decide) (by decide)), (by rw [show (vp_updL (vp_updL (vp_updL (vp_updL (vp_updL f 1 (1 : Int64)) 2 y_1025) 3 y_1052) 4 y_1079) 0 y_1150) 8 = f 8 from (rl_ne (by decide) (rl_ne (by decide) (rl_ne (by decide) (rl_ne (by decide) (rl_ne (by decide) rfl)))))]; exact hZ.2.2 8 (by decide) (by decide) (by decide)), (by rw [show (vp_updL (vp_updL (vp_updL (vp_updL (vp_updL f 1 (1 : Int64)) 2 y_1025) 3 y_1052) 4 y_1079) 0 y_1150) 9 = f 9 from (rl_ne (by decide) (rl_ne (by decide) (rl_ne (by decide) (rl_ne (by decide) (rl_ne (by decide) rfl)))))]; exact hZ.2.2 9 (by decide) (by decide) (by decide))⟩, (by rw [show (vp_updL (vp_updL (vp_updL (vp_updL (vp_updL f 1 (1 : Int64)) 2 y_1025) 3 y_1052) 4 y_1079) 0 y_1150) 0 = y_1150 from (rl_eq rfl)]; omega), (by rw [show (vp_updL (vp_updL (vp_updL (vp_updL (vp_updL f 1 (1 : Int64)) 2 y_1025) 3 y_1052) 4 y_1079) 0 y_1150) 8 = f 8 from (rl_ne (by decide) (rl_ne (by decide) (rl_ne (by decide) (rl_ne (by decide) (rl_ne (by decide) rfl)))))]; exact hZ.2.2 8 (by decide) (by decide) (by decide))⟩), rfl⟩⟩ dX11_readHead_127 (jj_le rfl) (jj_le rfl)
