
set_option maxHeartbeats 4000000 in
set_option maxRecDepth 100000 in
theorem re_wrong_3 {l : Launch} (hl : l.stackTraces = false) (D : va_G) (cA : Nat → ClassId) (ak : (Nat → Nat) × (Nat → Nat)) {Kd : Nat → Nat} {h0 aw aa at0 ai af ap : Nat} (x18 : Int32) (n17 : Nat) (n14 : Nat) (hk0 : Kd h0 = 1) (hkw : Kd aw = 2) (hka : Kd aa = 3) (hkt : Kd at0 = 4) (hki : Kd ai = 5) (hkf : Kd af = 6) (hkp : Kd ap = 7) (lx18 : (-2147483648 : Int) ≤ x18.toInt) (ux18 : x18.toInt ≤ 2147483647) (ln17 : (0 : Int) ≤ (n17 : Int)) (un17 : (n17 : Int) ≤ 3) (ln14 : (0 : Int) ≤ (n14 : Int)) (un14 : (n14 : Int) ≤ 400) {pl0 : va_W} (hok : tt_ok rt_tk cA Kd pl0) (hm : rl_m pl0 h0 aw aa at0 ai af ap) (hs14 : tt_at pl0 h0 14 (.int (nI n14))) (hs17 : tt_at pl0 h0 17 (.int (nI n17))) (hs18 : tt_at pl0 h0 18 (.int x18)) : jj_M l D cA ak yX11_wrong (.code yX11_wrong cX11_wrong 2 none) 0 0 0 0 ([] ++ pl0) [.ref h0, .int 3] (tt_O (fun rx pl1 r => rx = [] ∧ tt_ok rt_tk cA Kd pl1 ∧ tt_fr Kd [(1, 17), (1, 18)] pl0 pl1 ∧ tt_fa Kd [] pl0 pl1 ∧ ((n17 = 0 ∧ tt_at pl1 h0 17 (.int 3) ∧ tt_at pl1 h0 18 (.int (nI n14)) ∧ r = none) ∨ (n17 ≠ 0 ∧ tt_at pl1 h0 17 (.int (nI n17)) ∧ tt_at pl1 h0 18 (.int x18) ∧ r = none)))) (tt_OX (fun _ _ _ => False)) := by
  refine jj_start hl (by decide) jw_6b1a6dabbc (jj_le rfl) ?_
  intro p e s m args below meth c9 A hargs hA C hex hmn
  have hfr := tt_fr.refl (K := Kd) (WS := [(1, 17), (1, 18)]) pl0
  have hfa := tt_fa.refl (K := Kd) (WA := []) pl0
  refine jj_aload_n C dX11_wrong_0 rfl ?_
  refine tt_getF C hok jk_12 17 (by decide) jw_17e99f0710 (t := (0, (-2147483648), 2147483647)) hk0 (by decide) rfl rfl hs17 dX11_wrong_1 ?_
  refine jj_if_le (tgt := 8) C dX11_wrong_4 (by decide) (fun c_1 => ?_) (fun c_1 => ?_)
  · have z_c_1 := jc_le (a := ((n17 : Nat) : Int)) (b := 0) c_1 (rl_ti (by omega)) (by decide)
    refine jj_aload_n C dX11_wrong_8 rfl ?_
    refine jj_iload_n C dX11_wrong_9 rfl ?_
    refine rl_put C hok jk_12 17 (by decide) jw_17e99f0710 (t := (0, (-2147483648), 2147483647)) hk0 (by decide) rfl rfl rfl (tt_ia (3 : Int32)) rfl rfl dX11_wrong_10 (fun pl_2 hok_3 tr hn tl => ?_)
    replace hs14 := tr _ _ _ (Or.inr (by decide)) hs14
    replace hs18 := tr _ _ _ (Or.inr (by decide)) hs18
    have hf_4 := hn
    replace hm := hm.put tr (by decide)
    replace hfr := hfr.put hk0 tr (by decide)
    replace hfa := hfa.all tl
    refine jj_aload_n C dX11_wrong_13 rfl ?_
    refine jj_aload_n C dX11_wrong_14 rfl ?_
    refine tt_getF C hok_3 jk_12 14 (by decide) jw_6446e1fd81 (t := (0, 0, 400)) hk0 (by decide) rfl rfl hs14 dX11_wrong_15 ?_
    refine rl_put C hok_3 jk_12 18 (by decide) jw_a8ef26b797 (t := (0, (-2147483648), 2147483647)) hk0 (by decide) rfl rfl rfl (tt_ia (nI n14)) rfl rfl dX11_wrong_18 (fun pl_5 hok_6 tr hn tl => ?_)
    replace hs14 := tr _ _ _ (Or.inr (by decide)) hs14
    replace hf_4 := tr _ _ _ (Or.inr (by decide)) hf_4
    have hf_7 := hn
    replace hm := hm.put tr (by decide)
    replace hfr := hfr.put hk0 tr (by decide)
    replace hfa := hfa.all tl
    exact jj_vret C ⟨[], pl_5, rfl, rfl, hok_6, hfr, hfa, (Or.inl ⟨by omega, hf_4, hf_7, rfl⟩)⟩ dX11_wrong_21 (jj_le rfl) (jj_le rfl)
  · have z_c_1 := jc_nle (a := ((n17 : Nat) : Int)) (b := 0) c_1 (rl_ti (by omega)) (by decide)
    exact jj_vret C ⟨[], pl0, rfl, rfl, hok, hfr, hfa, (Or.inr ⟨by omega, hs17, hs18, rfl⟩)⟩ dX11_wrong_7 (jj_le rfl) (jj_le rfl)

set_option maxHeartbeats 4000000 in
set_option maxRecDepth 100000 in
theorem re_pass {l : Launch} (hl : l.stackTraces = false) (D : va_G) (cA : Nat → ClassId) (ak : (Nat → Nat) × (Nat → Nat)) {Kd : Nat → Nat} {h0 aw aa at0 ai af ap : Nat} (n17 : Nat) (n16 : Nat) (n15 : Nat) (n14 : Nat) (at9 : Nat) (u : Nat → Int32) (c : Nat → Int) (hk0 : Kd h0 = 1) (hkw : Kd aw = 2) (hka : Kd aa = 3) (hkt : Kd at0 = 4) (hki : Kd ai = 5) (hkf : Kd af = 6) (hkp : Kd ap = 7) (ln17 : (0 : Int) ≤ (n17 : Int)) (un17 : (n17 : Int) ≤ 3) (ln16 : (0 : Int) ≤ (n16 : Int)) (un16 : (n16 : Int) ≤ 400) (ln15 : (0 : Int) ≤ (n15 : Int)) (un15 : (n15 : Int) ≤ 400) (ln14 : (0 : Int) ≤ (n14 : Int)) (un14 : (n14 : Int) ≤ 400) (hk9 : Kd at9 = 10) (h45 : n14 ≤ n15) (h56 : n15 ≤ n16) (hc : ∀ k : Nat, k < n16 → c k = ((u k) &&& 255).toInt) {pl0 : va_W} (hok : tt_ok rt_tk cA Kd pl0) (hm : rl_m pl0 h0 aw aa at0 ai af ap) (hs12 : tt_at pl0 h0 12 (.ref at9)) (hu : tt_ic pl0 at9 u) (hs14 : tt_at pl0 h0 14 (.int (nI n14))) (hs15 : tt_at pl0 h0 15 (.int (nI n15))) (hs16 : tt_at pl0 h0 16 (.int (nI n16))) (hs17 : tt_at pl0 h0 17 (.int (nI n17))) : jj_M l D cA ak yX11_pass (.code yX11_pass cX11_pass 1 none) 2 45 0 0 ([] ++ pl0) [.ref h0] (tt_O (fun rx pl1 r => rx = [] ∧ tt_ok rt_tk cA Kd pl1 ∧ tt_fr Kd [(1, 14), (1, 15)] pl0 pl1 ∧ tt_fa Kd [] pl0 pl1 ∧ ((n17 ≠ 0 ∧ tt_at pl1 h0 14 (.int (nI n14)) ∧ tt_at pl1 h0 15 (.int (nI n15)) ∧ r = none) ∨ (n17 = 0 ∧ (∃ a b : Nat, tt_at pl1 h0 14 (.int (nI a)) ∧ tt_at pl1 h0 15 (.int (nI b)) ∧ ps_tok c n16 n15 a b) ∧ r = none)))) (tt_OX (fun _ _ _ => False)) := by
  refine jj_start hl (by decide) jw_3d0e41f30f (jj_le rfl) ?_
  intro p e s m args below meth c9 A hargs hA C hex hmn
  have hfr := tt_fr.refl (K := Kd) (WS := [(1, 14), (1, 15)]) pl0
  have hfa := tt_fa.refl (K := Kd) (WA := []) pl0
  refine jj_aload_n C dX11_pass_0 rfl ?_
  refine tt_getF C hok jk_12 17 (by decide) jw_17e99f0710 (t := (0, (-2147483648), 2147483647)) hk0 (by decide) rfl rfl hs17 dX11_pass_1 ?_
  refine jj_if_ne (tgt := 11) C dX11_pass_4 (by decide) (fun c_1 => ?_) (fun c_1 => ?_)
  · have z_c_1 := jc_neq (a := ((n17 : Nat) : Int)) (b := 0) c_1 (rl_ti (by omega)) (by decide)
    exact jj_vret C ⟨[], pl0, rfl, rfl, hok, hfr, hfa, (Or.inl ⟨by omega, hs14, hs15, rfl⟩)⟩ dX11_pass_11 (jj_le rfl) (jj_le rfl)
  · have z_c_1 := jc_eq (a := ((n17 : Nat) : Int)) (b := 0) c_1 (rl_ti (by omega)) (by decide)
    refine jj_aload_n C dX11_pass_7 rfl ?_
    obtain ⟨qc, gs, hqc⟩ := tt_recv (cx := []) hok hk0 (by decide) rfl
    refine tt_callV (rest := []) C (re_next hl D cA ak n16 n15 at9 u c hk0 hkw hka hkt hki hkf hkp (by first | omega | decide) (by first | omega | decide) (by first | omega | decide) (by first | omega | decide) hk9 (by omega) hc hok hm hs12 hu hs15 hs16) [] [] rfl rfl (by decide) (by decide) (by decide) qc hqc rfl rfl jw_a1293b44dc jw_4cea53ed94 jw_1147b3dbc0 jw_f96c99f44d jw_8631b7212c jn_X11_next rfl (jj_le rfl) (jj_le rfl) (jj_le rfl) (jj_le rfl) (jj_le rfl) dX11_pass_8 rfl (fun _ _ _ hX => hX.elim) (fun rx pl_2 r O_6 => ?_)
    obtain ⟨rfl, hok_3, hr_4, ha_5, hR_7⟩ := O_6
    replace hs12 := hr_4.at hk0 (by decide) (by decide) hs12
    replace hs16 := hr_4.at hk0 (by decide) (by decide) hs16
    replace hs17 := hr_4.at hk0 (by decide) (by decide) hs17
    replace hu := ha_5.at hk9 (by decide) (by decide) hu
    replace hm := hm.fr hr_4 hk0 rfl
    replace hfr := hfr.trans (hr_4.sub (by decide))
    replace hfa := hfa.trans (ha_5.sub (by decide))
    obtain ⟨n_8, n_9, hf_10, hf_11, ht_12, rfl⟩ := hR_7
    have hzn_8 := ht_12.le (by omega)
    exact jj_vret C ⟨[], pl_2, rfl, rfl, hok_3, hfr, hfa, (Or.inr ⟨by omega, ⟨n_8, n_9, hf_10, hf_11, ht_12⟩, rfl⟩)⟩ dX11_pass_11 (jj_le rfl) (jj_le rfl)

set_option maxHeartbeats 4000000 in
set_option maxRecDepth 100000 in
theorem re_must_fund {l : Launch} (hl : l.stackTraces = false) (D : va_G) (cA : Nat → ClassId) (ak : (Nat → Nat) × (Nat → Nat)) {Kd : Nat → Nat} {h0 aw aa at0 ai af ap : Nat} (x18 : Int32) (n17 : Nat) (n16 : Nat) (n15 : Nat) (n14 : Nat) (at9 : Nat) (u : Nat → Int32) (c : Nat → Int) (y0 : ps_S) (hk0 : Kd h0 = 1) (hkw : Kd aw = 2) (hka : Kd aa = 3) (hkt : Kd at0 = 4) (hki : Kd ai = 5) (hkf : Kd af = 6) (hkp : Kd ap = 7) (lx18 : (-2147483648 : Int) ≤ x18.toInt) (ux18 : x18.toInt ≤ 2147483647) (ln17 : (0 : Int) ≤ (n17 : Int)) (un17 : (n17 : Int) ≤ 3) (ln16 : (0 : Int) ≤ (n16 : Int)) (un16 : (n16 : Int) ≤ 400) (ln15 : (0 : Int) ≤ (n15 : Int)) (un15 : (n15 : Int) ≤ 400) (ln14 : (0 : Int) ≤ (n14 : Int)) (un14 : (n14 : Int) ≤ 400) (hk9 : Kd at9 = 10) (h45 : n14 ≤ n15) (h56 : n15 ≤ n16) (hc : ∀ k : Nat, k < n16 → c k = ((u k) &&& 255).toInt) (hy : ps_at c n16 y0 n17 n14 n15 x18) {pl0 : va_W} (hok : tt_ok rt_tk cA Kd pl0) (hm : rl_m pl0 h0 aw aa at0 ai af ap) (hs12 : tt_at pl0 h0 12 (.ref at9)) (hu : tt_ic pl0 at9 u) (hs14 : tt_at pl0 h0 14 (.int (nI n14))) (hs15 : tt_at pl0 h0 15 (.int (nI n15))) (hs16 : tt_at pl0 h0 16 (.int (nI n16))) (hs17 : tt_at pl0 h0 17 (.int (nI n17))) (hs18 : tt_at pl0 h0 18 (.int x18)) : jj_M l D cA ak yX11_must (.code yX11_must cX11_must 2 none) 5 108 0 0 ([] ++ pl0) [.ref h0, .ref (ak.1 20)] (tt_O (fun rx pl1 r => rx = [] ∧ tt_ok rt_tk cA Kd pl1 ∧ tt_fr Kd [(1, 14), (1, 15), (1, 17), (1, 18)] pl0 pl1 ∧ tt_fa Kd [] pl0 pl1 ∧ ((∃ (y : ps_S) (a b m : Nat) (x : Int32), tt_at pl1 h0 14 (.int (nI a)) ∧ tt_at pl1 h0 15 (.int (nI b)) ∧ tt_at pl1 h0 17 (.int (nI m)) ∧ tt_at pl1 h0 18 (.int x) ∧ ps_step c n16 (ps_cW c ps_fund) y0 y ∧ ps_at c n16 y m a b x ∧ a ≤ b ∧ b ≤ n16 ∧ m ≤ 3 ∧ n14 ≤ a ∧ (m = 0 → n17 = 0 ∧ n15 ≤ a) ∧ r = none)))) (tt_OX (fun _ _ _ => False)) := by
  refine jj_start hl (by decide) jw_84234b4b1a (jj_le rfl) ?_
  intro p e s m args below meth c9 A hargs hA C hex hmn
  have hfr := tt_fr.refl (K := Kd) (WS := [(1, 14), (1, 15), (1, 17), (1, 18)]) pl0
  have hfa := tt_fa.refl (K := Kd) (WA := []) pl0
  refine jj_aload_n C dX11_must_0 rfl ?_
  refine jj_aload_n C dX11_must_1 rfl ?_
  obtain ⟨qc, gs, hqc⟩ := tt_recv (cx := []) hok hk0 (by decide) rfl
  refine tt_callV (rest := []) C (re_isWord_fund hl D cA ak n16 n15 n14 at9 u c hk0 hkw hka hkt hki hkf hkp (by first | omega | decide) (by first | omega | decide) (by first | omega | decide) (by first | omega | decide) (by first | omega | decide) (by first | omega | decide) hk9 (by omega) (by omega) hc hok hm hs12 hu hs14 hs15 hs16) [] [] rfl rfl (by decide) (by decide) (by decide) qc hqc rfl rfl jw_04296bb1c5 jw_2d2d3dccfc jw_f04e1767ef jw_f96c99f44d jw_f54d9c537b jn_X11_isWord rfl (jj_le rfl) (jj_le rfl) (jj_le rfl) (jj_le rfl) (jj_le rfl) dX11_must_2 rfl (fun _ _ _ hX => hX.elim) (fun rx pl_1 r O_5 => ?_)
  obtain ⟨rfl, hok_2, hr_3, ha_4, hR_6⟩ := O_5
  replace hs12 := hr_3.at hk0 (by decide) (by decide) hs12
  replace hs14 := hr_3.at hk0 (by decide) (by decide) hs14
  replace hs15 := hr_3.at hk0 (by decide) (by decide) hs15
  replace hs16 := hr_3.at hk0 (by decide) (by decide) hs16
  replace hs17 := hr_3.at hk0 (by decide) (by decide) hs17
  replace hs18 := hr_3.at hk0 (by decide) (by decide) hs18
  replace hu := ha_4.at hk9 (by decide) (by decide) hu
  replace hm := hm.fr hr_3 hk0 rfl
  replace hfr := hfr.trans (hr_3.sub (by decide))
  replace hfa := hfa.trans (ha_4.sub (by decide))
  rcases hR_6 with ⟨hw_7, rfl⟩ | ⟨hw_8, rfl⟩
  · refine jj_if_neF (tgt := 13) C dX11_must_5 (by decide) (by decide) ?_
    refine jj_aload_n C dX11_must_8 rfl ?_
    refine jj_iconst (v := 1) C dX11_must_9 (by decide) ?_
    obtain ⟨qc, gs, hqc⟩ := tt_recv (cx := []) hok_2 hk0 (by decide) rfl
    refine tt_callV (rest := []) C (re_wrong_1 hl D cA ak x18 n17 n14 hk0 hkw hka hkt hki hkf hkp (by first | omega | decide | exact tt_lo _ | exact tt_hi _) (by first | omega | decide | exact tt_lo _ | exact tt_hi _) (by first | omega | decide) (by first | omega | decide) (by first | omega | decide) (by first | omega | decide) hok_2 hm hs14 hs17 hs18) [] [] rfl rfl (by decide) (by decide) (by decide) qc hqc rfl rfl jw_e206642f3f jw_6f17e07a53 jw_400f18f3e9 jw_f96c99f44d jw_6b1a6dabbc jn_X11_wrong rfl (jj_le rfl) (jj_le rfl) (jj_le rfl) (jj_le rfl) (jj_le rfl) dX11_must_10 rfl (fun _ _ _ hX => hX.elim) (fun rx pl_9 r O_13 => ?_)
    obtain ⟨rfl, hok_10, hr_11, ha_12, hR_14⟩ := O_13
    replace hs12 := hr_11.at hk0 (by decide) (by decide) hs12
    replace hs14 := hr_11.at hk0 (by decide) (by decide) hs14
    replace hs15 := hr_11.at hk0 (by decide) (by decide) hs15
    replace hs16 := hr_11.at hk0 (by decide) (by decide) hs16
    replace hu := ha_12.at hk9 (by decide) (by decide) hu
    replace hm := hm.fr hr_11 hk0 rfl
    replace hfr := hfr.trans (hr_11.sub (by decide))
    replace hfa := hfa.trans (ha_12.sub (by decide))
    rcases hR_14 with ⟨hf_15, hf_16, hf_17, rfl⟩ | ⟨hf_18, hf_19, hf_20, rfl⟩
    · refine jj_aload_n C dX11_must_13 rfl ?_
      obtain ⟨qc, gs, hqc⟩ := tt_recv (cx := []) hok_10 hk0 (by decide) rfl
      refine tt_callV (rest := []) C (re_pass hl D cA ak 1 n16 n15 n14 at9 u c hk0 hkw hka hkt hki hkf hkp (by first | omega | decide) (by first | omega | decide) (by first | omega | decide) (by first | omega | decide) (by first | omega | decide) (by first | omega | decide) (by first | omega | decide) (by first | omega | decide) hk9 (by omega) (by omega) hc hok_10 hm hs12 hu hs14 hs15 hs16 hf_16) [] [] rfl rfl (by decide) (by decide) (by decide) qc hqc rfl rfl jw_b8e803331f jw_409849e3da jw_7cfaf31817 jw_f96c99f44d jw_3d0e41f30f jn_X11_pass rfl (jj_le rfl) (jj_le rfl) (jj_le rfl) (jj_le rfl) (jj_le rfl) dX11_must_14 rfl (fun _ _ _ hX => hX.elim) (fun rx pl_21 r O_25 => ?_)
      obtain ⟨rfl, hok_22, hr_23, ha_24, hR_26⟩ := O_25
      replace hs12 := hr_23.at hk0 (by decide) (by decide) hs12
      replace hs16 := hr_23.at hk0 (by decide) (by decide) hs16
      replace hf_16 := hr_23.at hk0 (by decide) (by decide) hf_16
      replace hf_17 := hr_23.at hk0 (by decide) (by decide) hf_17
      replace hu := ha_24.at hk9 (by decide) (by decide) hu
      replace hm := hm.fr hr_23 hk0 rfl
      replace hfr := hfr.trans (hr_23.sub (by decide))
      replace hfa := hfa.trans (ha_24.sub (by decide))
      rcases hR_26 with ⟨hq_27, hf_28, hf_29, rfl⟩ | ⟨hq_30, ⟨n_31, n_32, hf_33, hf_34, ht_35⟩, rfl⟩
      · exact jj_vret C ⟨[], pl_21, rfl, rfl, hok_22, hfr, hfa, (by obtain rfl : n17 = 0 := (by omega); obtain ⟨y9, s9, t9⟩ := hy.no (chk := ps_cW c ps_fund) (k := 1) (a1 := n14) (b1 := n15) (Or.inr ⟨hw_7, rfl⟩) (by decide); exact ⟨y9, n14, n15, 1, (nI n14), hf_28, hf_29, hf_16, hf_17, s9, t9, (by omega), (by omega), (by omega), (by omega), (by omega), rfl⟩)⟩ dX11_must_17 (jj_le rfl) (jj_le rfl)
      · have hzn_31 := ht_35.le (by omega)
        exfalso; omega
    · refine jj_aload_n C dX11_must_13 rfl ?_
      obtain ⟨qc, gs, hqc⟩ := tt_recv (cx := []) hok_10 hk0 (by decide) rfl
      refine tt_callV (rest := []) C (re_pass hl D cA ak n17 n16 n15 n14 at9 u c hk0 hkw hka hkt hki hkf hkp (by first | omega | decide) (by first | omega | decide) (by first | omega | decide) (by first | omega | decide) (by first | omega | decide) (by first | omega | decide) (by first | omega | decide) (by first | omega | decide) hk9 (by omega) (by omega) hc hok_10 hm hs12 hu hs14 hs15 hs16 hf_19) [] [] rfl rfl (by decide) (by decide) (by decide) qc hqc rfl rfl jw_b8e803331f jw_409849e3da jw_7cfaf31817 jw_f96c99f44d jw_3d0e41f30f jn_X11_pass rfl (jj_le rfl) (jj_le rfl) (jj_le rfl) (jj_le rfl) (jj_le rfl) dX11_must_14 rfl (fun _ _ _ hX => hX.elim) (fun rx pl_36 r O_40 => ?_)
      obtain ⟨rfl, hok_37, hr_38, ha_39, hR_41⟩ := O_40
      replace hs12 := hr_38.at hk0 (by decide) (by decide) hs12
      replace hs16 := hr_38.at hk0 (by decide) (by decide) hs16
      replace hf_19 := hr_38.at hk0 (by decide) (by decide) hf_19
      replace hf_20 := hr_38.at hk0 (by decide) (by decide) hf_20
      replace hu := ha_39.at hk9 (by decide) (by decide) hu
      replace hm := hm.fr hr_38 hk0 rfl
      replace hfr := hfr.trans (hr_38.sub (by decide))
      replace hfa := hfa.trans (ha_39.sub (by decide))
      rcases hR_41 with ⟨hq_42, hf_43, hf_44, rfl⟩ | ⟨hq_45, ⟨n_46, n_47, hf_48, hf_49, ht_50⟩, rfl⟩
      · exact jj_vret C ⟨[], pl_36, rfl, rfl, hok_37, hfr, hfa, (by obtain ⟨y9, s9, t9⟩ := hy.st (chk := ps_cW c ps_fund) (a1 := n14) (b1 := n15) (by omega); exact ⟨y9, n14, n15, n17, x18, hf_43, hf_44, hf_19, hf_20, s9, t9, (by omega), (by omega), (by omega), (by omega), (by omega), rfl⟩)⟩ dX11_must_17 (jj_le rfl) (jj_le rfl)
      · have hzn_46 := ht_50.le (by omega)
        exfalso; omega
  · refine jj_if_neT (tgt := 13) C dX11_must_5 (by decide) (by decide) ?_
    refine jj_aload_n C dX11_must_13 rfl ?_
    obtain ⟨qc, gs, hqc⟩ := tt_recv (cx := []) hok_2 hk0 (by decide) rfl
    refine tt_callV (rest := []) C (re_pass hl D cA ak n17 n16 n15 n14 at9 u c hk0 hkw hka hkt hki hkf hkp (by first | omega | decide) (by first | omega | decide) (by first | omega | decide) (by first | omega | decide) (by first | omega | decide) (by first | omega | decide) (by first | omega | decide) (by first | omega | decide) hk9 (by omega) (by omega) hc hok_2 hm hs12 hu hs14 hs15 hs16 hs17) [] [] rfl rfl (by decide) (by decide) (by decide) qc hqc rfl rfl jw_b8e803331f jw_409849e3da jw_7cfaf31817 jw_f96c99f44d jw_3d0e41f30f jn_X11_pass rfl (jj_le rfl) (jj_le rfl) (jj_le rfl) (jj_le rfl) (jj_le rfl) dX11_must_14 rfl (fun _ _ _ hX => hX.elim) (fun rx pl_51 r O_55 => ?_)
    obtain ⟨rfl, hok_52, hr_53, ha_54, hR_56⟩ := O_55
    replace hs12 := hr_53.at hk0 (by decide) (by decide) hs12
    replace hs16 := hr_53.at hk0 (by decide) (by decide) hs16
    replace hs17 := hr_53.at hk0 (by decide) (by decide) hs17
    replace hs18 := hr_53.at hk0 (by decide) (by decide) hs18
    replace hu := ha_54.at hk9 (by decide) (by decide) hu
    replace hm := hm.fr hr_53 hk0 rfl
    replace hfr := hfr.trans (hr_53.sub (by decide))
    replace hfa := hfa.trans (ha_54.sub (by decide))
    rcases hR_56 with ⟨hq_57, hf_58, hf_59, rfl⟩ | ⟨hq_60, ⟨n_61, n_62, hf_63, hf_64, ht_65⟩, rfl⟩
    · exact jj_vret C ⟨[], pl_51, rfl, rfl, hok_52, hfr, hfa, (by obtain ⟨y9, s9, t9⟩ := hy.st (chk := ps_cW c ps_fund) (a1 := n14) (b1 := n15) (by omega); exact ⟨y9, n14, n15, n17, x18, hf_58, hf_59, hs17, hs18, s9, t9, (by omega), (by omega), (by omega), (by omega), (by omega), rfl⟩)⟩ dX11_must_17 (jj_le rfl) (jj_le rfl)
    · have hzn_61 := ht_65.le (by omega)
      exact jj_vret C ⟨[], pl_51, rfl, rfl, hok_52, hfr, hfa, (by obtain rfl : n17 = 0 := (by omega); obtain ⟨y9, s9, t9⟩ := hy.ok (chk := ps_cW c ps_fund) (Or.inl ⟨hw_8, rfl⟩) ht_65; exact ⟨y9, n_61, n_62, 0, x18, hf_63, hf_64, hs17, hs18, s9, t9, (by omega), (by omega), (by omega), (by omega), (by omega), rfl⟩)⟩ dX11_must_17 (jj_le rfl) (jj_le rfl)

set_option maxHeartbeats 4000000 in
set_option maxRecDepth 100000 in
theorem re_must_semi {l : Launch} (hl : l.stackTraces = false) (D : va_G) (cA : Nat → ClassId) (ak : (Nat → Nat) × (Nat → Nat)) {Kd : Nat → Nat} {h0 aw aa at0 ai af ap : Nat} (x18 : Int32) (n17 : Nat) (n16 : Nat) (n15 : Nat) (n14 : Nat) (at9 : Nat) (u : Nat → Int32) (c : Nat → Int) (y0 : ps_S) (hk0 : Kd h0 = 1) (hkw : Kd aw = 2) (hka : Kd aa = 3) (hkt : Kd at0 = 4) (hki : Kd ai = 5) (hkf : Kd af = 6) (hkp : Kd ap = 7) (lx18 : (-2147483648 : Int) ≤ x18.toInt) (ux18 : x18.toInt ≤ 2147483647) (ln17 : (0 : Int) ≤ (n17 : Int)) (un17 : (n17 : Int) ≤ 3) (ln16 : (0 : Int) ≤ (n16 : Int)) (un16 : (n16 : Int) ≤ 400) (ln15 : (0 : Int) ≤ (n15 : Int)) (un15 : (n15 : Int) ≤ 400) (ln14 : (0 : Int) ≤ (n14 : Int)) (un14 : (n14 : Int) ≤ 400) (hk9 : Kd at9 = 10) (h45 : n14 ≤ n15) (h56 : n15 ≤ n16) (hc : ∀ k : Nat, k < n16 → c k = ((u k) &&& 255).toInt) (hy : ps_at c n16 y0 n17 n14 n15 x18) {pl0 : va_W} (hok : tt_ok rt_tk cA Kd pl0) (hm : rl_m pl0 h0 aw aa at0 ai af ap) (hs12 : tt_at pl0 h0 12 (.ref at9)) (hu : tt_ic pl0 at9 u) (hs14 : tt_at pl0 h0 14 (.int (nI n14))) (hs15 : tt_at pl0 h0 15 (.int (nI n15))) (hs16 : tt_at pl0 h0 16 (.int (nI n16))) (hs17 : tt_at pl0 h0 17 (.int (nI n17))) (hs18 : tt_at pl0 h0 18 (.int x18)) : jj_M l D cA ak yX11_must (.code yX11_must cX11_must 2 none) 5 108 0 0 ([] ++ pl0) [.ref h0, .ref (ak.1 23)] (tt_O (fun rx pl1 r => rx = [] ∧ tt_ok rt_tk cA Kd pl1 ∧ tt_fr Kd [(1, 14), (1, 15), (1, 17), (1, 18)] pl0 pl1 ∧ tt_fa Kd [] pl0 pl1 ∧ ((∃ (y : ps_S) (a b m : Nat) (x : Int32), tt_at pl1 h0 14 (.int (nI a)) ∧ tt_at pl1 h0 15 (.int (nI b)) ∧ tt_at pl1 h0 17 (.int (nI m)) ∧ tt_at pl1 h0 18 (.int x) ∧ ps_step c n16 (ps_cW c ps_semi) y0 y ∧ ps_at c n16 y m a b x ∧ a ≤ b ∧ b ≤ n16 ∧ m ≤ 3 ∧ n14 ≤ a ∧ (m = 0 → n17 = 0 ∧ n15 ≤ a) ∧ r = none)))) (tt_OX (fun _ _ _ => False)) := by
  refine jj_start hl (by decide) jw_84234b4b1a (jj_le rfl) ?_
  intro p e s m args below meth c9 A hargs hA C hex hmn
  have hfr := tt_fr.refl (K := Kd) (WS := [(1, 14), (1, 15), (1, 17), (1, 18)]) pl0
  have hfa := tt_fa.refl (K := Kd) (WA := []) pl0
  refine jj_aload_n C dX11_must_0 rfl ?_
  refine jj_aload_n C dX11_must_1 rfl ?_
  obtain ⟨qc, gs, hqc⟩ := tt_recv (cx := []) hok hk0 (by decide) rfl
  refine tt_callV (rest := []) C (re_isWord_semi hl D cA ak n16 n15 n14 at9 u c hk0 hkw hka hkt hki hkf hkp (by first | omega | decide) (by first | omega | decide) (by first | omega | decide) (by first | omega | decide) (by first | omega | decide) (by first | omega | decide) hk9 (by omega) (by omega) hc hok hm hs12 hu hs14 hs15 hs16) [] [] rfl rfl (by decide) (by decide) (by decide) qc hqc rfl rfl jw_04296bb1c5 jw_2d2d3dccfc jw_f04e1767ef jw_f96c99f44d jw_f54d9c537b jn_X11_isWord rfl (jj_le rfl) (jj_le rfl) (jj_le rfl) (jj_le rfl) (jj_le rfl) dX11_must_2 rfl (fun _ _ _ hX => hX.elim) (fun rx pl_1 r O_5 => ?_)
  obtain ⟨rfl, hok_2, hr_3, ha_4, hR_6⟩ := O_5
  replace hs12 := hr_3.at hk0 (by decide) (by decide) hs12
  replace hs14 := hr_3.at hk0 (by decide) (by decide) hs14
  replace hs15 := hr_3.at hk0 (by decide) (by decide) hs15
  replace hs16 := hr_3.at hk0 (by decide) (by decide) hs16
  replace hs17 := hr_3.at hk0 (by decide) (by decide) hs17
  replace hs18 := hr_3.at hk0 (by decide) (by decide) hs18
  replace hu := ha_4.at hk9 (by decide) (by decide) hu
  replace hm := hm.fr hr_3 hk0 rfl
  replace hfr := hfr.trans (hr_3.sub (by decide))
  replace hfa := hfa.trans (ha_4.sub (by decide))
  rcases hR_6 with ⟨hw_7, rfl⟩ | ⟨hw_8, rfl⟩
  · refine jj_if_neF (tgt := 13) C dX11_must_5 (by decide) (by decide) ?_
    refine jj_aload_n C dX11_must_8 rfl ?_
    refine jj_iconst (v := 1) C dX11_must_9 (by decide) ?_
    obtain ⟨qc, gs, hqc⟩ := tt_recv (cx := []) hok_2 hk0 (by decide) rfl
    refine tt_callV (rest := []) C (re_wrong_1 hl D cA ak x18 n17 n14 hk0 hkw hka hkt hki hkf hkp (by first | omega | decide | exact tt_lo _ | exact tt_hi _) (by first | omega | decide | exact tt_lo _ | exact tt_hi _) (by first | omega | decide) (by first | omega | decide) (by first | omega | decide) (by first | omega | decide) hok_2 hm hs14 hs17 hs18) [] [] rfl rfl (by decide) (by decide) (by decide) qc hqc rfl rfl jw_e206642f3f jw_6f17e07a53 jw_400f18f3e9 jw_f96c99f44d jw_6b1a6dabbc jn_X11_wrong rfl (jj_le rfl) (jj_le rfl) (jj_le rfl) (jj_le rfl) (jj_le rfl) dX11_must_10 rfl (fun _ _ _ hX => hX.elim) (fun rx pl_9 r O_13 => ?_)
    obtain ⟨rfl, hok_10, hr_11, ha_12, hR_14⟩ := O_13
    replace hs12 := hr_11.at hk0 (by decide) (by decide) hs12
    replace hs14 := hr_11.at hk0 (by decide) (by decide) hs14
    replace hs15 := hr_11.at hk0 (by decide) (by decide) hs15
    replace hs16 := hr_11.at hk0 (by decide) (by decide) hs16
    replace hu := ha_12.at hk9 (by decide) (by decide) hu
    replace hm := hm.fr hr_11 hk0 rfl
    replace hfr := hfr.trans (hr_11.sub (by decide))
    replace hfa := hfa.trans (ha_12.sub (by decide))
    rcases hR_14 with ⟨hf_15, hf_16, hf_17, rfl⟩ | ⟨hf_18, hf_19, hf_20, rfl⟩
    · refine jj_aload_n C dX11_must_13 rfl ?_
      obtain ⟨qc, gs, hqc⟩ := tt_recv (cx := []) hok_10 hk0 (by decide) rfl
      refine tt_callV (rest := []) C (re_pass hl D cA ak 1 n16 n15 n14 at9 u c hk0 hkw hka hkt hki hkf hkp (by first | omega | decide) (by first | omega | decide) (by first | omega | decide) (by first | omega | decide) (by first | omega | decide) (by first | omega | decide) (by first | omega | decide) (by first | omega | decide) hk9 (by omega) (by omega) hc hok_10 hm hs12 hu hs14 hs15 hs16 hf_16) [] [] rfl rfl (by decide) (by decide) (by decide) qc hqc rfl rfl jw_b8e803331f jw_409849e3da jw_7cfaf31817 jw_f96c99f44d jw_3d0e41f30f jn_X11_pass rfl (jj_le rfl) (jj_le rfl) (jj_le rfl) (jj_le rfl) (jj_le rfl) dX11_must_14 rfl (fun _ _ _ hX => hX.elim) (fun rx pl_21 r O_25 => ?_)
      obtain ⟨rfl, hok_22, hr_23, ha_24, hR_26⟩ := O_25
      replace hs12 := hr_23.at hk0 (by decide) (by decide) hs12
      replace hs16 := hr_23.at hk0 (by decide) (by decide) hs16
      replace hf_16 := hr_23.at hk0 (by decide) (by decide) hf_16
      replace hf_17 := hr_23.at hk0 (by decide) (by decide) hf_17
      replace hu := ha_24.at hk9 (by decide) (by decide) hu
      replace hm := hm.fr hr_23 hk0 rfl
      replace hfr := hfr.trans (hr_23.sub (by decide))
      replace hfa := hfa.trans (ha_24.sub (by decide))
      rcases hR_26 with ⟨hq_27, hf_28, hf_29, rfl⟩ | ⟨hq_30, ⟨n_31, n_32, hf_33, hf_34, ht_35⟩, rfl⟩
      · exact jj_vret C ⟨[], pl_21, rfl, rfl, hok_22, hfr, hfa, (by obtain rfl : n17 = 0 := (by omega); obtain ⟨y9, s9, t9⟩ := hy.no (chk := ps_cW c ps_semi) (k := 1) (a1 := n14) (b1 := n15) (Or.inr ⟨hw_7, rfl⟩) (by decide); exact ⟨y9, n14, n15, 1, (nI n14), hf_28, hf_29, hf_16, hf_17, s9, t9, (by omega), (by omega), (by omega), (by omega), (by omega), rfl⟩)⟩ dX11_must_17 (jj_le rfl) (jj_le rfl)
      · have hzn_31 := ht_35.le (by omega)
        exfalso; omega
    · refine jj_aload_n C dX11_must_13 rfl ?_
      obtain ⟨qc, gs, hqc⟩ := tt_recv (cx := []) hok_10 hk0 (by decide) rfl
      refine tt_callV (rest := []) C (re_pass hl D cA ak n17 n16 n15 n14 at9 u c hk0 hkw hka hkt hki hkf hkp (by first | omega | decide) (by first | omega | decide) (by first | omega | decide) (by first | omega | decide) (by first | omega | decide) (by first | omega | decide) (by first | omega | decide) (by first | omega | decide) hk9 (by omega) (by omega) hc hok_10 hm hs12 hu hs14 hs15 hs16 hf_19) [] [] rfl rfl (by decide) (by decide) (by decide) qc hqc rfl rfl jw_b8e803331f jw_409849e3da jw_7cfaf31817 jw_f96c99f44d jw_3d0e41f30f jn_X11_pass rfl (jj_le rfl) (jj_le rfl) (jj_le rfl) (jj_le rfl) (jj_le rfl) dX11_must_14 rfl (fun _ _ _ hX => hX.elim) (fun rx pl_36 r O_40 => ?_)
      obtain ⟨rfl, hok_37, hr_38, ha_39, hR_41⟩ := O_40
      replace hs12 := hr_38.at hk0 (by decide) (by decide) hs12
      replace hs16 := hr_38.at hk0 (by decide) (by decide) hs16
      replace hf_19 := hr_38.at hk0 (by decide) (by decide) hf_19
      replace hf_20 := hr_38.at hk0 (by decide) (by decide) hf_20
      replace hu := ha_39.at hk9 (by decide) (by decide) hu
      replace hm := hm.fr hr_38 hk0 rfl
      replace hfr := hfr.trans (hr_38.sub (by decide))
      replace hfa := hfa.trans (ha_39.sub (by decide))
      rcases hR_41 with ⟨hq_42, hf_43, hf_44, rfl⟩ | ⟨hq_45, ⟨n_46, n_47, hf_48, hf_49, ht_50⟩, rfl⟩
      · exact jj_vret C ⟨[], pl_36, rfl, rfl, hok_37, hfr, hfa, (by obtain ⟨y9, s9, t9⟩ := hy.st (chk := ps_cW c ps_semi) (a1 := n14) (b1 := n15) (by omega); exact ⟨y9, n14, n15, n17, x18, hf_43, hf_44, hf_19, hf_20, s9, t9, (by omega), (by omega), (by omega), (by omega), (by omega), rfl⟩)⟩ dX11_must_17 (jj_le rfl) (jj_le rfl)
      · have hzn_46 := ht_50.le (by omega)
        exfalso; omega
  · refine jj_if_neT (tgt := 13) C dX11_must_5 (by decide) (by decide) ?_
    refine jj_aload_n C dX11_must_13 rfl ?_
    obtain ⟨qc, gs, hqc⟩ := tt_recv (cx := []) hok_2 hk0 (by decide) rfl
    refine tt_callV (rest := []) C (re_pass hl D cA ak n17 n16 n15 n14 at9 u c hk0 hkw hka hkt hki hkf hkp (by first | omega | decide) (by first | omega | decide) (by first | omega | decide) (by first | omega | decide) (by first | omega | decide) (by first | omega | decide) (by first | omega | decide) (by first | omega | decide) hk9 (by omega) (by omega) hc hok_2 hm hs12 hu hs14 hs15 hs16 hs17) [] [] rfl rfl (by decide) (by decide) (by decide) qc hqc rfl rfl jw_b8e803331f jw_409849e3da jw_7cfaf31817 jw_f96c99f44d jw_3d0e41f30f jn_X11_pass rfl (jj_le rfl) (jj_le rfl) (jj_le rfl) (jj_le rfl) (jj_le rfl) dX11_must_14 rfl (fun _ _ _ hX => hX.elim) (fun rx pl_51 r O_55 => ?_)
    obtain ⟨rfl, hok_52, hr_53, ha_54, hR_56⟩ := O_55
    replace hs12 := hr_53.at hk0 (by decide) (by decide) hs12
    replace hs16 := hr_53.at hk0 (by decide) (by decide) hs16
    replace hs17 := hr_53.at hk0 (by decide) (by decide) hs17
    replace hs18 := hr_53.at hk0 (by decide) (by decide) hs18
    replace hu := ha_54.at hk9 (by decide) (by decide) hu
    replace hm := hm.fr hr_53 hk0 rfl
    replace hfr := hfr.trans (hr_53.sub (by decide))
    replace hfa := hfa.trans (ha_54.sub (by decide))
    rcases hR_56 with ⟨hq_57, hf_58, hf_59, rfl⟩ | ⟨hq_60, ⟨n_61, n_62, hf_63, hf_64, ht_65⟩, rfl⟩
    · exact jj_vret C ⟨[], pl_51, rfl, rfl, hok_52, hfr, hfa, (by obtain ⟨y9, s9, t9⟩ := hy.st (chk := ps_cW c ps_semi) (a1 := n14) (b1 := n15) (by omega); exact ⟨y9, n14, n15, n17, x18, hf_58, hf_59, hs17, hs18, s9, t9, (by omega), (by omega), (by omega), (by omega), (by omega), rfl⟩)⟩ dX11_must_17 (jj_le rfl) (jj_le rfl)
    · have hzn_61 := ht_65.le (by omega)
      exact jj_vret C ⟨[], pl_51, rfl, rfl, hok_52, hfr, hfa, (by obtain rfl : n17 = 0 := (by omega); obtain ⟨y9, s9, t9⟩ := hy.ok (chk := ps_cW c ps_semi) (Or.inl ⟨hw_8, rfl⟩) ht_65; exact ⟨y9, n_61, n_62, 0, x18, hf_63, hf_64, hs17, hs18, s9, t9, (by omega), (by omega), (by omega), (by omega), (by omega), rfl⟩)⟩ dX11_must_17 (jj_le rfl) (jj_le rfl)

set_option maxHeartbeats 4000000 in
set_option maxRecDepth 100000 in
theorem re_must_investors {l : Launch} (hl : l.stackTraces = false) (D : va_G) (cA : Nat → ClassId) (ak : (Nat → Nat) × (Nat → Nat)) {Kd : Nat → Nat} {h0 aw aa at0 ai af ap : Nat} (x18 : Int32) (n17 : Nat) (n16 : Nat) (n15 : Nat) (n14 : Nat) (at9 : Nat) (u : Nat → Int32) (c : Nat → Int) (y0 : ps_S) (hk0 : Kd h0 = 1) (hkw : Kd aw = 2) (hka : Kd aa = 3) (hkt : Kd at0 = 4) (hki : Kd ai = 5) (hkf : Kd af = 6) (hkp : Kd ap = 7) (lx18 : (-2147483648 : Int) ≤ x18.toInt) (ux18 : x18.toInt ≤ 2147483647) (ln17 : (0 : Int) ≤ (n17 : Int)) (un17 : (n17 : Int) ≤ 3) (ln16 : (0 : Int) ≤ (n16 : Int)) (un16 : (n16 : Int) ≤ 400) (ln15 : (0 : Int) ≤ (n15 : Int)) (un15 : (n15 : Int) ≤ 400) (ln14 : (0 : Int) ≤ (n14 : Int)) (un14 : (n14 : Int) ≤ 400) (hk9 : Kd at9 = 10) (h45 : n14 ≤ n15) (h56 : n15 ≤ n16) (hc : ∀ k : Nat, k < n16 → c k = ((u k) &&& 255).toInt) (hy : ps_at c n16 y0 n17 n14 n15 x18) {pl0 : va_W} (hok : tt_ok rt_tk cA Kd pl0) (hm : rl_m pl0 h0 aw aa at0 ai af ap) (hs12 : tt_at pl0 h0 12 (.ref at9)) (hu : tt_ic pl0 at9 u) (hs14 : tt_at pl0 h0 14 (.int (nI n14))) (hs15 : tt_at pl0 h0 15 (.int (nI n15))) (hs16 : tt_at pl0 h0 16 (.int (nI n16))) (hs17 : tt_at pl0 h0 17 (.int (nI n17))) (hs18 : tt_at pl0 h0 18 (.int x18)) : jj_M l D cA ak yX11_must (.code yX11_must cX11_must 2 none) 5 108 0 0 ([] ++ pl0) [.ref h0, .ref (ak.1 24)] (tt_O (fun rx pl1 r => rx = [] ∧ tt_ok rt_tk cA Kd pl1 ∧ tt_fr Kd [(1, 14), (1, 15), (1, 17), (1, 18)] pl0 pl1 ∧ tt_fa Kd [] pl0 pl1 ∧ ((∃ (y : ps_S) (a b m : Nat) (x : Int32), tt_at pl1 h0 14 (.int (nI a)) ∧ tt_at pl1 h0 15 (.int (nI b)) ∧ tt_at pl1 h0 17 (.int (nI m)) ∧ tt_at pl1 h0 18 (.int x) ∧ ps_step c n16 (ps_cW c ps_investors) y0 y ∧ ps_at c n16 y m a b x ∧ a ≤ b ∧ b ≤ n16 ∧ m ≤ 3 ∧ n14 ≤ a ∧ (m = 0 → n17 = 0 ∧ n15 ≤ a) ∧ r = none)))) (tt_OX (fun _ _ _ => False)) := by
  refine jj_start hl (by decide) jw_84234b4b1a (jj_le rfl) ?_
  intro p e s m args below meth c9 A hargs hA C hex hmn
  have hfr := tt_fr.refl (K := Kd) (WS := [(1, 14), (1, 15), (1, 17), (1, 18)]) pl0
  have hfa := tt_fa.refl (K := Kd) (WA := []) pl0
  refine jj_aload_n C dX11_must_0 rfl ?_
  refine jj_aload_n C dX11_must_1 rfl ?_
  obtain ⟨qc, gs, hqc⟩ := tt_recv (cx := []) hok hk0 (by decide) rfl
  refine tt_callV (rest := []) C (re_isWord_investors hl D cA ak n16 n15 n14 at9 u c hk0 hkw hka hkt hki hkf hkp (by first | omega | decide) (by first | omega | decide) (by first | omega | decide) (by first | omega | decide) (by first | omega | decide) (by first | omega | decide) hk9 (by omega) (by omega) hc hok hm hs12 hu hs14 hs15 hs16) [] [] rfl rfl (by decide) (by decide) (by decide) qc hqc rfl rfl jw_04296bb1c5 jw_2d2d3dccfc jw_f04e1767ef jw_f96c99f44d jw_f54d9c537b jn_X11_isWord rfl (jj_le rfl) (jj_le rfl) (jj_le rfl) (jj_le rfl) (jj_le rfl) dX11_must_2 rfl (fun _ _ _ hX => hX.elim) (fun rx pl_1 r O_5 => ?_)
  obtain ⟨rfl, hok_2, hr_3, ha_4, hR_6⟩ := O_5
  replace hs12 := hr_3.at hk0 (by decide) (by decide) hs12
  replace hs14 := hr_3.at hk0 (by decide) (by decide) hs14
  replace hs15 := hr_3.at hk0 (by decide) (by decide) hs15
  replace hs16 := hr_3.at hk0 (by decide) (by decide) hs16
  replace hs17 := hr_3.at hk0 (by decide) (by decide) hs17
  replace hs18 := hr_3.at hk0 (by decide) (by decide) hs18
  replace hu := ha_4.at hk9 (by decide) (by decide) hu
  replace hm := hm.fr hr_3 hk0 rfl
  replace hfr := hfr.trans (hr_3.sub (by decide))
  replace hfa := hfa.trans (ha_4.sub (by decide))
  rcases hR_6 with ⟨hw_7, rfl⟩ | ⟨hw_8, rfl⟩
  · refine jj_if_neF (tgt := 13) C dX11_must_5 (by decide) (by decide) ?_
    refine jj_aload_n C dX11_must_8 rfl ?_
    refine jj_iconst (v := 1) C dX11_must_9 (by decide) ?_
    obtain ⟨qc, gs, hqc⟩ := tt_recv (cx := []) hok_2 hk0 (by decide) rfl
    refine tt_callV (rest := []) C (re_wrong_1 hl D cA ak x18 n17 n14 hk0 hkw hka hkt hki hkf hkp (by first | omega | decide | exact tt_lo _ | exact tt_hi _) (by first | omega | decide | exact tt_lo _ | exact tt_hi _) (by first | omega | decide) (by first | omega | decide) (by first | omega | decide) (by first | omega | decide) hok_2 hm hs14 hs17 hs18) [] [] rfl rfl (by decide) (by decide) (by decide) qc hqc rfl rfl jw_e206642f3f jw_6f17e07a53 jw_400f18f3e9 jw_f96c99f44d jw_6b1a6dabbc jn_X11_wrong rfl (jj_le rfl) (jj_le rfl) (jj_le rfl) (jj_le rfl) (jj_le rfl) dX11_must_10 rfl (fun _ _ _ hX => hX.elim) (fun rx pl_9 r O_13 => ?_)
    obtain ⟨rfl, hok_10, hr_11, ha_12, hR_14⟩ := O_13
    replace hs12 := hr_11.at hk0 (by decide) (by decide) hs12
    replace hs14 := hr_11.at hk0 (by decide) (by decide) hs14
    replace hs15 := hr_11.at hk0 (by decide) (by decide) hs15
    replace hs16 := hr_11.at hk0 (by decide) (by decide) hs16
    replace hu := ha_12.at hk9 (by decide) (by decide) hu
    replace hm := hm.fr hr_11 hk0 rfl
    replace hfr := hfr.trans (hr_11.sub (by decide))
    replace hfa := hfa.trans (ha_12.sub (by decide))
    rcases hR_14 with ⟨hf_15, hf_16, hf_17, rfl⟩ | ⟨hf_18, hf_19, hf_20, rfl⟩
    · refine jj_aload_n C dX11_must_13 rfl ?_
      obtain ⟨qc, gs, hqc⟩ := tt_recv (cx := []) hok_10 hk0 (by decide) rfl
      refine tt_callV (rest := []) C (re_pass hl D cA ak 1 n16 n15 n14 at9 u c hk0 hkw hka hkt hki hkf hkp (by first | omega | decide) (by first | omega | decide) (by first | omega | decide) (by first | omega | decide) (by first | omega | decide) (by first | omega | decide) (by first | omega | decide) (by first | omega | decide) hk9 (by omega) (by omega) hc hok_10 hm hs12 hu hs14 hs15 hs16 hf_16) [] [] rfl rfl (by decide) (by decide) (by decide) qc hqc rfl rfl jw_b8e803331f jw_409849e3da jw_7cfaf31817 jw_f96c99f44d jw_3d0e41f30f jn_X11_pass rfl (jj_le rfl) (jj_le rfl) (jj_le rfl) (jj_le rfl) (jj_le rfl) dX11_must_14 rfl (fun _ _ _ hX => hX.elim) (fun rx pl_21 r O_25 => ?_)
      obtain ⟨rfl, hok_22, hr_23, ha_24, hR_26⟩ := O_25
      replace hs12 := hr_23.at hk0 (by decide) (by decide) hs12
      replace hs16 := hr_23.at hk0 (by decide) (by decide) hs16
      replace hf_16 := hr_23.at hk0 (by decide) (by decide) hf_16
      replace hf_17 := hr_23.at hk0 (by decide) (by decide) hf_17
      replace hu := ha_24.at hk9 (by decide) (by decide) hu
      replace hm := hm.fr hr_23 hk0 rfl
      replace hfr := hfr.trans (hr_23.sub (by decide))
      replace hfa := hfa.trans (ha_24.sub (by decide))
      rcases hR_26 with ⟨hq_27, hf_28, hf_29, rfl⟩ | ⟨hq_30, ⟨n_31, n_32, hf_33, hf_34, ht_35⟩, rfl⟩
      · exact jj_vret C ⟨[], pl_21, rfl, rfl, hok_22, hfr, hfa, (by obtain rfl : n17 = 0 := (by omega); obtain ⟨y9, s9, t9⟩ := hy.no (chk := ps_cW c ps_investors) (k := 1) (a1 := n14) (b1 := n15) (Or.inr ⟨hw_7, rfl⟩) (by decide); exact ⟨y9, n14, n15, 1, (nI n14), hf_28, hf_29, hf_16, hf_17, s9, t9, (by omega), (by omega), (by omega), (by omega), (by omega), rfl⟩)⟩ dX11_must_17 (jj_le rfl) (jj_le rfl)
      · have hzn_31 := ht_35.le (by omega)
        exfalso; omega
    · refine jj_aload_n C dX11_must_13 rfl ?_
      obtain ⟨qc, gs, hqc⟩ := tt_recv (cx := []) hok_10 hk0 (by decide) rfl
      refine tt_callV (rest := []) C (re_pass hl D cA ak n17 n16 n15 n14 at9 u c hk0 hkw hka hkt hki hkf hkp (by first | omega | decide) (by first | omega | decide) (by first | omega | decide) (by first | omega | decide) (by first | omega | decide) (by first | omega | decide) (by first | omega | decide) (by first | omega | decide) hk9 (by omega) (by omega) hc hok_10 hm hs12 hu hs14 hs15 hs16 hf_19) [] [] rfl rfl (by decide) (by decide) (by decide) qc hqc rfl rfl jw_b8e803331f jw_409849e3da jw_7cfaf31817 jw_f96c99f44d jw_3d0e41f30f jn_X11_pass rfl (jj_le rfl) (jj_le rfl) (jj_le rfl) (jj_le rfl) (jj_le rfl) dX11_must_14 rfl (fun _ _ _ hX => hX.elim) (fun rx pl_36 r O_40 => ?_)
      obtain ⟨rfl, hok_37, hr_38, ha_39, hR_41⟩ := O_40
      replace hs12 := hr_38.at hk0 (by decide) (by decide) hs12
      replace hs16 := hr_38.at hk0 (by decide) (by decide) hs16
      replace hf_19 := hr_38.at hk0 (by decide) (by decide) hf_19
      replace hf_20 := hr_38.at hk0 (by decide) (by decide) hf_20
      replace hu := ha_39.at hk9 (by decide) (by decide) hu
      replace hm := hm.fr hr_38 hk0 rfl
      replace hfr := hfr.trans (hr_38.sub (by decide))
      replace hfa := hfa.trans (ha_39.sub (by decide))
      rcases hR_41 with ⟨hq_42, hf_43, hf_44, rfl⟩ | ⟨hq_45, ⟨n_46, n_47, hf_48, hf_49, ht_50⟩, rfl⟩
      · exact jj_vret C ⟨[], pl_36, rfl, rfl, hok_37, hfr, hfa, (by obtain ⟨y9, s9, t9⟩ := hy.st (chk := ps_cW c ps_investors) (a1 := n14) (b1 := n15) (by omega); exact ⟨y9, n14, n15, n17, x18, hf_43, hf_44, hf_19, hf_20, s9, t9, (by omega), (by omega), (by omega), (by omega), (by omega), rfl⟩)⟩ dX11_must_17 (jj_le rfl) (jj_le rfl)
      · have hzn_46 := ht_50.le (by omega)
        exfalso; omega
  · refine jj_if_neT (tgt := 13) C dX11_must_5 (by decide) (by decide) ?_
    refine jj_aload_n C dX11_must_13 rfl ?_
    obtain ⟨qc, gs, hqc⟩ := tt_recv (cx := []) hok_2 hk0 (by decide) rfl
    refine tt_callV (rest := []) C (re_pass hl D cA ak n17 n16 n15 n14 at9 u c hk0 hkw hka hkt hki hkf hkp (by first | omega | decide) (by first | omega | decide) (by first | omega | decide) (by first | omega | decide) (by first | omega | decide) (by first | omega | decide) (by first | omega | decide) (by first | omega | decide) hk9 (by omega) (by omega) hc hok_2 hm hs12 hu hs14 hs15 hs16 hs17) [] [] rfl rfl (by decide) (by decide) (by decide) qc hqc rfl rfl jw_b8e803331f jw_409849e3da jw_7cfaf31817 jw_f96c99f44d jw_3d0e41f30f jn_X11_pass rfl (jj_le rfl) (jj_le rfl) (jj_le rfl) (jj_le rfl) (jj_le rfl) dX11_must_14 rfl (fun _ _ _ hX => hX.elim) (fun rx pl_51 r O_55 => ?_)
    obtain ⟨rfl, hok_52, hr_53, ha_54, hR_56⟩ := O_55
    replace hs12 := hr_53.at hk0 (by decide) (by decide) hs12
    replace hs16 := hr_53.at hk0 (by decide) (by decide) hs16
    replace hs17 := hr_53.at hk0 (by decide) (by decide) hs17
    replace hs18 := hr_53.at hk0 (by decide) (by decide) hs18
    replace hu := ha_54.at hk9 (by decide) (by decide) hu
    replace hm := hm.fr hr_53 hk0 rfl
    replace hfr := hfr.trans (hr_53.sub (by decide))
    replace hfa := hfa.trans (ha_54.sub (by decide))
    rcases hR_56 with ⟨hq_57, hf_58, hf_59, rfl⟩ | ⟨hq_60, ⟨n_61, n_62, hf_63, hf_64, ht_65⟩, rfl⟩
    · exact jj_vret C ⟨[], pl_51, rfl, rfl, hok_52, hfr, hfa, (by obtain ⟨y9, s9, t9⟩ := hy.st (chk := ps_cW c ps_investors) (a1 := n14) (b1 := n15) (by omega); exact ⟨y9, n14, n15, n17, x18, hf_58, hf_59, hs17, hs18, s9, t9, (by omega), (by omega), (by omega), (by omega), (by omega), rfl⟩)⟩ dX11_must_17 (jj_le rfl) (jj_le rfl)
    · have hzn_61 := ht_65.le (by omega)
      exact jj_vret C ⟨[], pl_51, rfl, rfl, hok_52, hfr, hfa, (by obtain rfl : n17 = 0 := (by omega); obtain ⟨y9, s9, t9⟩ := hy.ok (chk := ps_cW c ps_investors) (Or.inl ⟨hw_8, rfl⟩) ht_65; exact ⟨y9, n_61, n_62, 0, x18, hf_63, hf_64, hs17, hs18, s9, t9, (by omega), (by omega), (by omega), (by omega), (by omega), rfl⟩)⟩ dX11_must_17 (jj_le rfl) (jj_le rfl)

set_option maxHeartbeats 4000000 in
set_option maxRecDepth 100000 in
theorem re_number {l : Launch} (hl : l.stackTraces = false) (D : va_G) (cA : Nat → ClassId) (ak : (Nat → Nat) × (Nat → Nat)) {Kd : Nat → Nat} {h0 aw aa at0 ai af ap : Nat} (x18 : Int32) (n17 : Nat) (n16 : Nat) (n15 : Nat) (n14 : Nat) (at9 : Nat) (u : Nat → Int32) (c : Nat → Int) (y0 : ps_S) (p1 p2 : Int64) (lo hi : Int) (hk0 : Kd h0 = 1) (hkw : Kd aw = 2) (hka : Kd aa = 3) (hkt : Kd at0 = 4) (hki : Kd ai = 5) (hkf : Kd af = 6) (hkp : Kd ap = 7) (lx18 : (-2147483648 : Int) ≤ x18.toInt) (ux18 : x18.toInt ≤ 2147483647) (ln17 : (0 : Int) ≤ (n17 : Int)) (un17 : (n17 : Int) ≤ 3) (ln16 : (0 : Int) ≤ (n16 : Int)) (un16 : (n16 : Int) ≤ 400) (ln15 : (0 : Int) ≤ (n15 : Int)) (un15 : (n15 : Int) ≤ 400) (ln14 : (0 : Int) ≤ (n14 : Int)) (un14 : (n14 : Int) ≤ 400) (hk9 : Kd at9 = 10) (h45 : n14 ≤ n15) (h56 : n15 ≤ n16) (hc : ∀ k : Nat, k < n16 → c k = ((u k) &&& 255).toInt) (hy : ps_at c n16 y0 n17 n14 n15 x18) (hlo : p1.toInt = lo) (hhi : p2.toInt = hi) {pl0 : va_W} (hok : tt_ok rt_tk cA Kd pl0) (hm : rl_m pl0 h0 aw aa at0 ai af ap) (hs12 : tt_at pl0 h0 12 (.ref at9)) (hu : tt_ic pl0 at9 u) (hs14 : tt_at pl0 h0 14 (.int (nI n14))) (hs15 : tt_at pl0 h0 15 (.int (nI n15))) (hs16 : tt_at pl0 h0 16 (.int (nI n16))) (hs17 : tt_at pl0 h0 17 (.int (nI n17))) (hs18 : tt_at pl0 h0 18 (.int x18)) : jj_M l D cA ak yX11_number (.code yX11_number cX11_number 7 (some .int)) 3 65 0 0 ([] ++ pl0) [.ref h0, .long p1, .long p2] (tt_O (fun rx pl1 r => rx = [] ∧ tt_ok rt_tk cA Kd pl1 ∧ tt_fr Kd [(1, 14), (1, 15), (1, 17), (1, 18)] pl0 pl1 ∧ tt_fa Kd [] pl0 pl1 ∧ ((∃ (y : ps_S) (a b m : Nat) (x v : Int32), tt_at pl1 h0 14 (.int (nI a)) ∧ tt_at pl1 h0 15 (.int (nI b)) ∧ tt_at pl1 h0 17 (.int (nI m)) ∧ tt_at pl1 h0 18 (.int x) ∧ ps_step c n16 (ps_cN c n16 lo hi) y0 y ∧ ps_at c n16 y m a b x ∧ a ≤ b ∧ b ≤ n16 ∧ m ≤ 3 ∧ n14 ≤ a ∧ (m = 0 → n15 ≤ a) ∧ (m = 0 → n17 = 0 ∧ v.toInt = ps_val c n14 (n15 - n14) ∧ lo ≤ v.toInt ∧ v.toInt ≤ hi) ∧ r = some (.int v))))) (tt_OX (fun _ _ _ => False)) := by
  refine jj_start hl (by decide) jw_2d66378959 (jj_le rfl) ?_
  intro p e s m args below meth c9 A hargs hA C hex hmn
  have hfr := tt_fr.refl (K := Kd) (WS := [(1, 14), (1, 15), (1, 17), (1, 18)]) pl0
  have hfa := tt_fa.refl (K := Kd) (WA := []) pl0
  refine jj_aload_n C dX11_number_0 rfl ?_
  refine tt_getF C hok jk_12 17 (by decide) jw_17e99f0710 (t := (0, (-2147483648), 2147483647)) hk0 (by decide) rfl rfl hs17 dX11_number_1 ?_
  refine jj_if_le (tgt := 9) C dX11_number_4 (by decide) (fun c_1 => ?_) (fun c_1 => ?_)
  · have z_c_1 := jc_le (a := ((n17 : Nat) : Int)) (b := 0) c_1 (rl_ti (by omega)) (by decide)
    refine jj_iconst (v := 0) C dX11_number_9 (by decide) ?_
    refine jj_istore C dX11_number_10 (by decide) rfl ?_
    refine jj_aload_n C dX11_number_12 rfl ?_
    refine jj_aload_n C dX11_number_13 rfl ?_
    refine tt_getF C hok jk_12 14 (by decide) jw_6446e1fd81 (t := (0, 0, 400)) hk0 (by decide) rfl rfl hs14 dX11_number_14 ?_
    obtain ⟨qc, gs, hqc⟩ := tt_recv (cx := []) hok hk0 (by decide) rfl
    refine tt_callV (rest := []) C (re_byteAt hl D cA ak n16 at9 u n14 c hk0 hkw hka hkt hki hkf hkp (by first | omega | decide) (by first | omega | decide) hk9 (by omega) hc hok hm hs12 hu hs16) [] [] rfl rfl (by decide) (by decide) (by decide) qc hqc rfl rfl jw_98db775389 jw_8e26deba02 jw_8ef34ac32e jw_f96c99f44d jw_4737f96f0a jn_X11_byteAt rfl (jj_le rfl) (jj_le rfl) (jj_le rfl) (jj_le rfl) (jj_le rfl) dX11_number_17 rfl (fun _ _ _ hX => hX.elim) (fun rx pl_2 r O_6 => ?_)
    obtain ⟨rfl, hok_3, hr_4, ha_5, hR_7⟩ := O_6
    replace hs12 := hr_4.at hk0 (by decide) (by decide) hs12
    replace hs14 := hr_4.at hk0 (by decide) (by decide) hs14
    replace hs15 := hr_4.at hk0 (by decide) (by decide) hs15
    replace hs16 := hr_4.at hk0 (by decide) (by decide) hs16
    replace hs17 := hr_4.at hk0 (by decide) (by decide) hs17
    replace hs18 := hr_4.at hk0 (by decide) (by decide) hs18
    replace hu := ha_5.at hk9 (by decide) (by decide) hu
    replace hm := hm.fr hr_4 hk0 rfl
    replace hfr := hfr.trans (hr_4.sub (by decide))
    replace hfa := hfa.trans (ha_5.sub (by decide))
    rcases hR_7 with ⟨hb_8, rfl⟩ | ⟨hb_9, x_10, hb_11, rfl⟩
    · refine jj_i2l (v := (-1)) C dX11_number_20 (by decide) ?_
      refine jj_ldc2 (v := 48) C dX11_number_21 jw_d6cfdd4319 ?_
      refine jj_ldc2 (v := 57) C dX11_number_24 jw_8c7ed3b7a5 ?_
      refine tt_call0S (rest := []) C (ct_X11_in_s11 hl D cA ak) jw_2a24feddee jw_12f28ccfda jw_f96c99f44d jw_e07c9ada56 jn_X11_in rfl (jj_le rfl) (jj_le rfl) (jj_le rfl) (jj_le rfl) (jj_le rfl) dX11_number_27 rfl (fun w1 r O_12 => ?_)
      obtain ⟨-, rfl⟩ := O_12
      refine jj_if_neF (tgt := 41) C dX11_number_30 (by decide) (by decide) ?_
      refine jj_aload_n C dX11_number_33 rfl ?_
      refine jj_iconst (v := 1) C dX11_number_34 (by decide) ?_
      obtain ⟨qc, gs, hqc⟩ := tt_recv (cx := []) hok_3 hk0 (by decide) rfl
      refine tt_callV (rest := []) C (re_wrong_1 hl D cA ak x18 n17 n14 hk0 hkw hka hkt hki hkf hkp (by first | omega | decide | exact tt_lo _ | exact tt_hi _) (by first | omega | decide | exact tt_lo _ | exact tt_hi _) (by first | omega | decide) (by first | omega | decide) (by first | omega | decide) (by first | omega | decide) hok_3 hm hs14 hs17 hs18) [] [] rfl rfl (by decide) (by decide) (by decide) qc hqc rfl rfl jw_e206642f3f jw_6f17e07a53 jw_400f18f3e9 jw_f96c99f44d jw_6b1a6dabbc jn_X11_wrong rfl (jj_le rfl) (jj_le rfl) (jj_le rfl) (jj_le rfl) (jj_le rfl) dX11_number_35 rfl (fun _ _ _ hX => hX.elim) (fun rx pl_13 r O_17 => ?_)
      obtain ⟨rfl, hok_14, hr_15, ha_16, hR_18⟩ := O_17
      replace hs12 := hr_15.at hk0 (by decide) (by decide) hs12
      replace hs14 := hr_15.at hk0 (by decide) (by decide) hs14
      replace hs15 := hr_15.at hk0 (by decide) (by decide) hs15
      replace hs16 := hr_15.at hk0 (by decide) (by decide) hs16
      replace hu := ha_16.at hk9 (by decide) (by decide) hu
      replace hm := hm.fr hr_15 hk0 rfl
      replace hfr := hfr.trans (hr_15.sub (by decide))
      replace hfa := hfa.trans (ha_16.sub (by decide))
      rcases hR_18 with ⟨hf_19, hf_20, hf_21, rfl⟩ | ⟨hf_22, hf_23, hf_24, rfl⟩
      · refine jj_goto (tgt := 60) C dX11_number_38 (by decide) ?_
        refine jj_aload_n C dX11_number_60 rfl ?_
        refine tt_getF C hok_14 jk_12 14 (by decide) jw_6446e1fd81 (t := (0, 0, 400)) hk0 (by decide) rfl rfl hs14 dX11_number_61 ?_
        refine jj_istore C dX11_number_64 (by decide) rfl ?_
        have hL_25 : ∀ (N : Nat) (pl : va_W) (k_26 : Nat) (x_27 : Int32), True → tt_ok rt_tk cA Kd pl → tt_fr Kd [(1, 14), (1, 15), (1, 17), (1, 18)] pl0 pl → tt_fa Kd [] pl0 pl → rl_m pl h0 aw aa at0 ai af ap → tt_at pl h0 12 (.ref at9) → tt_at pl h0 14 (.int (nI n14)) → tt_at pl h0 15 (.int (nI n15)) → tt_at pl h0 16 (.int (nI n16)) → tt_at pl h0 17 (.int 1) → tt_at pl h0 18 (.int (nI n14)) → tt_ic pl at9 u → (0 : Int) ≤ (k_26 : Int) → (k_26 : Int) ≤ 400 → (0 : Int) ≤ x_27.toInt → x_27.toInt ≤ 2147483647 → (n14 ≤ k_26 ∧ k_26 ≤ n15) → (2147483648 - (k_26 : Int) ≤ (N : Int)) → jj_J p l e (jj_rm 3 65 0 0) s m args below meth c9 7 A (vx_MQ below (jj_q D A (tt_O (fun rx pl1 r => rx = [] ∧ tt_ok rt_tk cA Kd pl1 ∧ tt_fr Kd [(1, 14), (1, 15), (1, 17), (1, 18)] pl0 pl1 ∧ tt_fa Kd [] pl0 pl1 ∧ ((∃ (y : ps_S) (a b m : Nat) (x v : Int32), tt_at pl1 h0 14 (.int (nI a)) ∧ tt_at pl1 h0 15 (.int (nI b)) ∧ tt_at pl1 h0 17 (.int (nI m)) ∧ tt_at pl1 h0 18 (.int x) ∧ ps_step c n16 (ps_cN c n16 lo hi) y0 y ∧ ps_at c n16 y m a b x ∧ a ≤ b ∧ b ≤ n16 ∧ m ≤ 3 ∧ n14 ≤ a ∧ (m = 0 → n15 ≤ a) ∧ (m = 0 → n17 = 0 ∧ v.toInt = ps_val c n14 (n15 - n14) ∧ lo ≤ v.toInt ∧ v.toInt ≤ hi) ∧ r = some (.int v)))))) (jj_x D A (tt_OX (fun _ _ _ => False))) args s 0 0 A) (jj_X D A ([] ++ pl)) 0 0 66 [(6, .int (nI k_26)), (5, .int x_27), (0, .ref h0), (1, .long p1), (3, .long p2)] [] := by
          intro NL_25
          induction NL_25 with
          | zero => intro pl k_26 x_27 _ hok hfr hfa hm hf_28 hf_29 hf_30 hf_31 hf_32 hf_33 hu lk_26 uk_26 lx_27 ux_27 hS6 hNL_25; exfalso; omega
          | succ NL_25 ihL_25 =>
            intro pl k_26 x_27 _ hok hfr hfa hm hf_28 hf_29 hf_30 hf_31 hf_32 hf_33 hu lk_26 uk_26 lx_27 ux_27 hS6 hNL_25
            replace ihL_25 := fun pl k_26 x_27 h1 => ihL_25 pl k_26 x_27 trivial h1
            refine jj_iload C dX11_number_66 rfl ?_
            refine jj_aload_n C dX11_number_68 rfl ?_
            refine tt_getF C hok jk_12 15 (by decide) jw_165232ba7c (t := (0, 0, 400)) hk0 (by decide) rfl rfl hf_30 dX11_number_69 ?_
            refine jj_icmp_ge (tgt := 105) C dX11_number_72 (by decide) (fun c_34 => ?_) (fun c_34 => ?_)
            · have z_c_34 := jc_le (a := ((n15 : Nat) : Int)) (b := ((k_26 : Nat) : Int)) c_34 (rl_ti (by omega)) (rl_ti (by omega))
              refine jj_aload_n C dX11_number_105 rfl ?_
              refine tt_getF C hok jk_12 17 (by decide) jw_17e99f0710 (t := (0, (-2147483648), 2147483647)) hk0 (by decide) rfl rfl hf_32 dX11_number_106 ?_
              refine jj_if_neT (tgt := 128) C dX11_number_109 (by decide) (by decide) ?_
              refine jj_aload_n C dX11_number_128 rfl ?_
              obtain ⟨qc, gs, hqc⟩ := tt_recv (cx := []) hok hk0 (by decide) rfl
              refine tt_callV (rest := []) C (re_pass hl D cA ak 1 n16 n15 n14 at9 u c hk0 hkw hka hkt hki hkf hkp (by first | omega | decide) (by first | omega | decide) (by first | omega | decide) (by first | omega | decide) (by first | omega | decide) (by first | omega | decide) (by first | omega | decide) (by first | omega | decide) hk9 (by omega) (by omega) hc hok hm hf_28 hu hf_29 hf_30 hf_31 hf_32) [] [] rfl rfl (by decide) (by decide) (by decide) qc hqc rfl rfl jw_b8e803331f jw_409849e3da jw_7cfaf31817 jw_f96c99f44d jw_3d0e41f30f jn_X11_pass rfl (jj_le rfl) (jj_le rfl) (jj_le rfl) (jj_le rfl) (jj_le rfl) dX11_number_129 rfl (fun _ _ _ hX => hX.elim) (fun rx pl_35 r O_39 => ?_)
              obtain ⟨rfl, hok_36, hr_37, ha_38, hR_40⟩ := O_39
              replace hf_28 := hr_37.at hk0 (by decide) (by decide) hf_28
              replace hf_31 := hr_37.at hk0 (by decide) (by decide) hf_31
              replace hf_32 := hr_37.at hk0 (by decide) (by decide) hf_32
              replace hf_33 := hr_37.at hk0 (by decide) (by decide) hf_33
              replace hu := ha_38.at hk9 (by decide) (by decide) hu
              replace hm := hm.fr hr_37 hk0 rfl
              replace hfr := hfr.trans (hr_37.sub (by decide))
              replace hfa := hfa.trans (ha_38.sub (by decide))
              rcases hR_40 with ⟨hq_41, hf_42, hf_43, rfl⟩ | ⟨hq_44, ⟨n_45, n_46, hf_47, hf_48, ht_49⟩, rfl⟩
              · refine jj_iload C dX11_number_132 rfl ?_
                exact jj_iret C ⟨[], pl_35, rfl, rfl, hok_36, hfr, hfa, (by obtain rfl : n17 = 0 := (by omega); obtain ⟨y9, s9, t9⟩ := hy.no (chk := ps_cN c n16 lo hi) (k := 1) (a1 := n14) (b1 := n15) (Or.inl ⟨(fun q => by have q2 := q.2; unfold ps_di at q2; omega), rfl⟩) (by decide); exact ⟨y9, n14, n15, 1, (nI n14), x_27, hf_42, hf_43, hf_32, hf_33, s9, t9, (by omega), (by omega), (by omega), (by omega), (by omega), (fun q => absurd q (by decide)), rfl⟩)⟩ dX11_number_134 (jj_le rfl) (jj_le rfl)
              · have hzn_45 := ht_49.le (by omega)
                exfalso; omega
            · have z_c_34 := jc_nle (a := ((n15 : Nat) : Int)) (b := ((k_26 : Nat) : Int)) c_34 (rl_ti (by omega)) (rl_ti (by omega))
              refine jj_aload_n C dX11_number_75 rfl ?_
              refine tt_getF C hok jk_12 17 (by decide) jw_17e99f0710 (t := (0, (-2147483648), 2147483647)) hk0 (by decide) rfl rfl hf_32 dX11_number_76 ?_
              refine jj_if_neT (tgt := 105) C dX11_number_79 (by decide) (by decide) ?_
              refine jj_aload_n C dX11_number_105 rfl ?_
              refine tt_getF C hok jk_12 17 (by decide) jw_17e99f0710 (t := (0, (-2147483648), 2147483647)) hk0 (by decide) rfl rfl hf_32 dX11_number_106 ?_
              refine jj_if_neT (tgt := 128) C dX11_number_109 (by decide) (by decide) ?_
              refine jj_aload_n C dX11_number_128 rfl ?_
              obtain ⟨qc, gs, hqc⟩ := tt_recv (cx := []) hok hk0 (by decide) rfl
              refine tt_callV (rest := []) C (re_pass hl D cA ak 1 n16 n15 n14 at9 u c hk0 hkw hka hkt hki hkf hkp (by first | omega | decide) (by first | omega | decide) (by first | omega | decide) (by first | omega | decide) (by first | omega | decide) (by first | omega | decide) (by first | omega | decide) (by first | omega | decide) hk9 (by omega) (by omega) hc hok hm hf_28 hu hf_29 hf_30 hf_31 hf_32) [] [] rfl rfl (by decide) (by decide) (by decide) qc hqc rfl rfl jw_b8e803331f jw_409849e3da jw_7cfaf31817 jw_f96c99f44d jw_3d0e41f30f jn_X11_pass rfl (jj_le rfl) (jj_le rfl) (jj_le rfl) (jj_le rfl) (jj_le rfl) dX11_number_129 rfl (fun _ _ _ hX => hX.elim) (fun rx pl_50 r O_54 => ?_)
              obtain ⟨rfl, hok_51, hr_52, ha_53, hR_55⟩ := O_54
              replace hf_28 := hr_52.at hk0 (by decide) (by decide) hf_28
              replace hf_31 := hr_52.at hk0 (by decide) (by decide) hf_31
              replace hf_32 := hr_52.at hk0 (by decide) (by decide) hf_32
              replace hf_33 := hr_52.at hk0 (by decide) (by decide) hf_33
              replace hu := ha_53.at hk9 (by decide) (by decide) hu
              replace hm := hm.fr hr_52 hk0 rfl
              replace hfr := hfr.trans (hr_52.sub (by decide))
              replace hfa := hfa.trans (ha_53.sub (by decide))
              rcases hR_55 with ⟨hq_56, hf_57, hf_58, rfl⟩ | ⟨hq_59, ⟨n_60, n_61, hf_62, hf_63, ht_64⟩, rfl⟩
              · refine jj_iload C dX11_number_132 rfl ?_
                exact jj_iret C ⟨[], pl_50, rfl, rfl, hok_51, hfr, hfa, (by obtain rfl : n17 = 0 := (by omega); obtain ⟨y9, s9, t9⟩ := hy.no (chk := ps_cN c n16 lo hi) (k := 1) (a1 := n14) (b1 := n15) (Or.inl ⟨(fun q => by have q2 := q.2; unfold ps_di at q2; omega), rfl⟩) (by decide); exact ⟨y9, n14, n15, 1, (nI n14), x_27, hf_57, hf_58, hf_32, hf_33, s9, t9, (by omega), (by omega), (by omega), (by omega), (by omega), (fun q => absurd q (by decide)), rfl⟩)⟩ dX11_number_134 (jj_le rfl) (jj_le rfl)
              · have hzn_60 := ht_64.le (by omega)
                exfalso; omega
        exact hL_25 _ pl_13 n14 (0 : Int32) trivial hok_14 hfr hfa hm hs12 hs14 hs15 hs16 hf_20 hf_21 hu (by first | omega | decide | exact tt_lo _ | exact tt_hi _) (by first | omega | decide | exact tt_lo _ | exact tt_hi _) (by first | omega | decide | exact tt_lo _ | exact tt_hi _) (by first | omega | decide | exact tt_lo _ | exact tt_hi _) ⟨by omega, by omega⟩ (Int.self_le_toNat _)
      · refine jj_goto (tgt := 60) C dX11_number_38 (by decide) ?_
        have hDG := (hy.zero2 (by omega)).2.dig (by omega) (by unfold ps_di; omega)
        refine jj_aload_n C dX11_number_60 rfl ?_
        refine tt_getF C hok_14 jk_12 14 (by decide) jw_6446e1fd81 (t := (0, 0, 400)) hk0 (by decide) rfl rfl hs14 dX11_number_61 ?_
        refine jj_istore C dX11_number_64 (by decide) rfl ?_
        have hL_65 : ∀ (N : Nat) (pl : va_W) (k_66 : Nat) (x_67 : Int32), True → tt_ok rt_tk cA Kd pl → tt_fr Kd [(1, 14), (1, 15), (1, 17), (1, 18)] pl0 pl → tt_fa Kd [] pl0 pl → rl_m pl h0 aw aa at0 ai af ap → tt_at pl h0 12 (.ref at9) → tt_at pl h0 14 (.int (nI n14)) → tt_at pl h0 15 (.int (nI n15)) → tt_at pl h0 16 (.int (nI n16)) → tt_at pl h0 17 (.int (nI n17)) → tt_at pl h0 18 (.int x18) → tt_ic pl at9 u → (0 : Int) ≤ (k_66 : Int) → (k_66 : Int) ≤ 400 → (0 : Int) ≤ x_67.toInt → x_67.toInt ≤ 2147483647 → (n14 ≤ k_66 ∧ k_66 ≤ n15 ∧ x_67.toInt = ps_val c n14 (k_66 - n14)) → (2147483648 - (k_66 : Int) ≤ (N : Int)) → jj_J p l e (jj_rm 3 65 0 0) s m args below meth c9 7 A (vx_MQ below (jj_q D A (tt_O (fun rx pl1 r => rx = [] ∧ tt_ok rt_tk cA Kd pl1 ∧ tt_fr Kd [(1, 14), (1, 15), (1, 17), (1, 18)] pl0 pl1 ∧ tt_fa Kd [] pl0 pl1 ∧ ((∃ (y : ps_S) (a b m : Nat) (x v : Int32), tt_at pl1 h0 14 (.int (nI a)) ∧ tt_at pl1 h0 15 (.int (nI b)) ∧ tt_at pl1 h0 17 (.int (nI m)) ∧ tt_at pl1 h0 18 (.int x) ∧ ps_step c n16 (ps_cN c n16 lo hi) y0 y ∧ ps_at c n16 y m a b x ∧ a ≤ b ∧ b ≤ n16 ∧ m ≤ 3 ∧ n14 ≤ a ∧ (m = 0 → n15 ≤ a) ∧ (m = 0 → n17 = 0 ∧ v.toInt = ps_val c n14 (n15 - n14) ∧ lo ≤ v.toInt ∧ v.toInt ≤ hi) ∧ r = some (.int v)))))) (jj_x D A (tt_OX (fun _ _ _ => False))) args s 0 0 A) (jj_X D A ([] ++ pl)) 0 0 66 [(6, .int (nI k_66)), (5, .int x_67), (0, .ref h0), (1, .long p1), (3, .long p2)] [] := by
          intro NL_65
          induction NL_65 with
          | zero => intro pl k_66 x_67 _ hok hfr hfa hm hf_68 hf_69 hf_70 hf_71 hf_72 hf_73 hu lk_66 uk_66 lx_67 ux_67 hS6 hNL_65; exfalso; omega
          | succ NL_65 ihL_65 =>
            intro pl k_66 x_67 _ hok hfr hfa hm hf_68 hf_69 hf_70 hf_71 hf_72 hf_73 hu lk_66 uk_66 lx_67 ux_67 hS6 hNL_65
            replace ihL_65 := fun pl k_66 x_67 h1 => ihL_65 pl k_66 x_67 trivial h1
            refine jj_iload C dX11_number_66 rfl ?_
            refine jj_aload_n C dX11_number_68 rfl ?_
            refine tt_getF C hok jk_12 15 (by decide) jw_165232ba7c (t := (0, 0, 400)) hk0 (by decide) rfl rfl hf_70 dX11_number_69 ?_
            refine jj_icmp_ge (tgt := 105) C dX11_number_72 (by decide) (fun c_74 => ?_) (fun c_74 => ?_)
            · have z_c_74 := jc_le (a := ((n15 : Nat) : Int)) (b := ((k_66 : Nat) : Int)) c_74 (rl_ti (by omega)) (rl_ti (by omega))
              refine jj_aload_n C dX11_number_105 rfl ?_
              refine tt_getF C hok jk_12 17 (by decide) jw_17e99f0710 (t := (0, (-2147483648), 2147483647)) hk0 (by decide) rfl rfl hf_72 dX11_number_106 ?_
              refine jj_if_ne (tgt := 128) C dX11_number_109 (by decide) (fun c_75 => ?_) (fun c_75 => ?_)
              · have z_c_75 := jc_neq (a := ((n17 : Nat) : Int)) (b := 0) c_75 (rl_ti (by omega)) (by decide)
                exfalso; omega
              · have z_c_75 := jc_eq (a := ((n17 : Nat) : Int)) (b := 0) c_75 (rl_ti (by omega)) (by decide)
                exfalso; omega
            · have z_c_74 := jc_nle (a := ((n15 : Nat) : Int)) (b := ((k_66 : Nat) : Int)) c_74 (rl_ti (by omega)) (rl_ti (by omega))
              refine jj_aload_n C dX11_number_75 rfl ?_
              refine tt_getF C hok jk_12 17 (by decide) jw_17e99f0710 (t := (0, (-2147483648), 2147483647)) hk0 (by decide) rfl rfl hf_72 dX11_number_76 ?_
              refine jj_if_ne (tgt := 105) C dX11_number_79 (by decide) (fun c_76 => ?_) (fun c_76 => ?_)
              · have z_c_76 := jc_neq (a := ((n17 : Nat) : Int)) (b := 0) c_76 (rl_ti (by omega)) (by decide)
                exfalso; omega
              · have z_c_76 := jc_eq (a := ((n17 : Nat) : Int)) (b := 0) c_76 (rl_ti (by omega)) (by decide)
                exfalso; omega
        exact hL_65 _ pl_13 n14 (0 : Int32) trivial hok_14 hfr hfa hm hs12 hs14 hs15 hs16 hf_23 hf_24 hu (by first | omega | decide | exact tt_lo _ | exact tt_hi _) (by first | omega | decide | exact tt_lo _ | exact tt_hi _) (by first | omega | decide | exact tt_lo _ | exact tt_hi _) (by first | omega | decide | exact tt_lo _ | exact tt_hi _) ⟨by omega, by omega, (by rw [Nat.sub_self]; exact (show (0 : Int32).toInt = (0 : Int) from by decide))⟩ (Int.self_le_toNat _)
    · have lx_10 := tt_lo x_10
      have ux_10 := tt_hi x_10
      obtain ⟨y_77, ey_77, vy_77⟩ := tt_i2l x_10
      refine jj_i2l (v := y_77) C dX11_number_20 ey_77 ?_
      refine jj_ldc2 (v := 48) C dX11_number_21 jw_d6cfdd4319 ?_
      refine jj_ldc2 (v := 57) C dX11_number_24 jw_8c7ed3b7a5 ?_
      refine tt_call0S (rest := []) C (ct_X11_in_s12 hl D cA ak y_77) jw_2a24feddee jw_12f28ccfda jw_f96c99f44d jw_e07c9ada56 jn_X11_in rfl (jj_le rfl) (jj_le rfl) (jj_le rfl) (jj_le rfl) (jj_le rfl) dX11_number_27 rfl (fun w1 r O_78 => ?_)
      rcases O_78 with ⟨c_79, -, rfl⟩ | ⟨c_80, c_81, -, rfl⟩ | ⟨c_82, c_83, -, rfl⟩
      · have z_c_79 := jc_ltL (a := y_77.toInt) (b := 48) c_79 rfl (by decide)
        refine jj_if_neF (tgt := 41) C dX11_number_30 (by decide) (by decide) ?_
        refine jj_aload_n C dX11_number_33 rfl ?_
        refine jj_iconst (v := 1) C dX11_number_34 (by decide) ?_
        obtain ⟨qc, gs, hqc⟩ := tt_recv (cx := []) hok_3 hk0 (by decide) rfl
        refine tt_callV (rest := []) C (re_wrong_1 hl D cA ak x18 n17 n14 hk0 hkw hka hkt hki hkf hkp (by first | omega | decide | exact tt_lo _ | exact tt_hi _) (by first | omega | decide | exact tt_lo _ | exact tt_hi _) (by first | omega | decide) (by first | omega | decide) (by first | omega | decide) (by first | omega | decide) hok_3 hm hs14 hs17 hs18) [] [] rfl rfl (by decide) (by decide) (by decide) qc hqc rfl rfl jw_e206642f3f jw_6f17e07a53 jw_400f18f3e9 jw_f96c99f44d jw_6b1a6dabbc jn_X11_wrong rfl (jj_le rfl) (jj_le rfl) (jj_le rfl) (jj_le rfl) (jj_le rfl) dX11_number_35 rfl (fun _ _ _ hX => hX.elim) (fun rx pl_84 r O_88 => ?_)
        obtain ⟨rfl, hok_85, hr_86, ha_87, hR_89⟩ := O_88
        replace hs12 := hr_86.at hk0 (by decide) (by decide) hs12
        replace hs14 := hr_86.at hk0 (by decide) (by decide) hs14
        replace hs15 := hr_86.at hk0 (by decide) (by decide) hs15
        replace hs16 := hr_86.at hk0 (by decide) (by decide) hs16
        replace hu := ha_87.at hk9 (by decide) (by decide) hu
        replace hm := hm.fr hr_86 hk0 rfl
        replace hfr := hfr.trans (hr_86.sub (by decide))
        replace hfa := hfa.trans (ha_87.sub (by decide))
        rcases hR_89 with ⟨hf_90, hf_91, hf_92, rfl⟩ | ⟨hf_93, hf_94, hf_95, rfl⟩
        · refine jj_goto (tgt := 60) C dX11_number_38 (by decide) ?_
          refine jj_aload_n C dX11_number_60 rfl ?_
          refine tt_getF C hok_85 jk_12 14 (by decide) jw_6446e1fd81 (t := (0, 0, 400)) hk0 (by decide) rfl rfl hs14 dX11_number_61 ?_
          refine jj_istore C dX11_number_64 (by decide) rfl ?_
          have hL_96 : ∀ (N : Nat) (pl : va_W) (k_97 : Nat) (x_98 : Int32), True → tt_ok rt_tk cA Kd pl → tt_fr Kd [(1, 14), (1, 15), (1, 17), (1, 18)] pl0 pl → tt_fa Kd [] pl0 pl → rl_m pl h0 aw aa at0 ai af ap → tt_at pl h0 12 (.ref at9) → tt_at pl h0 14 (.int (nI n14)) → tt_at pl h0 15 (.int (nI n15)) → tt_at pl h0 16 (.int (nI n16)) → tt_at pl h0 17 (.int 1) → tt_at pl h0 18 (.int (nI n14)) → tt_ic pl at9 u → (0 : Int) ≤ (k_97 : Int) → (k_97 : Int) ≤ 400 → (0 : Int) ≤ x_98.toInt → x_98.toInt ≤ 2147483647 → (n14 ≤ k_97 ∧ k_97 ≤ n15) → (2147483648 - (k_97 : Int) ≤ (N : Int)) → jj_J p l e (jj_rm 3 65 0 0) s m args below meth c9 7 A (vx_MQ below (jj_q D A (tt_O (fun rx pl1 r => rx = [] ∧ tt_ok rt_tk cA Kd pl1 ∧ tt_fr Kd [(1, 14), (1, 15), (1, 17), (1, 18)] pl0 pl1 ∧ tt_fa Kd [] pl0 pl1 ∧ ((∃ (y : ps_S) (a b m : Nat) (x v : Int32), tt_at pl1 h0 14 (.int (nI a)) ∧ tt_at pl1 h0 15 (.int (nI b)) ∧ tt_at pl1 h0 17 (.int (nI m)) ∧ tt_at pl1 h0 18 (.int x) ∧ ps_step c n16 (ps_cN c n16 lo hi) y0 y ∧ ps_at c n16 y m a b x ∧ a ≤ b ∧ b ≤ n16 ∧ m ≤ 3 ∧ n14 ≤ a ∧ (m = 0 → n15 ≤ a) ∧ (m = 0 → n17 = 0 ∧ v.toInt = ps_val c n14 (n15 - n14) ∧ lo ≤ v.toInt ∧ v.toInt ≤ hi) ∧ r = some (.int v)))))) (jj_x D A (tt_OX (fun _ _ _ => False))) args s 0 0 A) (jj_X D A ([] ++ pl)) 0 0 66 [(6, .int (nI k_97)), (5, .int x_98), (0, .ref h0), (1, .long p1), (3, .long p2)] [] := by
            intro NL_96
            induction NL_96 with
            | zero => intro pl k_97 x_98 _ hok hfr hfa hm hf_99 hf_100 hf_101 hf_102 hf_103 hf_104 hu lk_97 uk_97 lx_98 ux_98 hS6 hNL_96; exfalso; omega
            | succ NL_96 ihL_96 =>
              intro pl k_97 x_98 _ hok hfr hfa hm hf_99 hf_100 hf_101 hf_102 hf_103 hf_104 hu lk_97 uk_97 lx_98 ux_98 hS6 hNL_96
              replace ihL_96 := fun pl k_97 x_98 h1 => ihL_96 pl k_97 x_98 trivial h1
              refine jj_iload C dX11_number_66 rfl ?_
              refine jj_aload_n C dX11_number_68 rfl ?_
              refine tt_getF C hok jk_12 15 (by decide) jw_165232ba7c (t := (0, 0, 400)) hk0 (by decide) rfl rfl hf_101 dX11_number_69 ?_
              refine jj_icmp_ge (tgt := 105) C dX11_number_72 (by decide) (fun c_105 => ?_) (fun c_105 => ?_)
              · have z_c_105 := jc_le (a := ((n15 : Nat) : Int)) (b := ((k_97 : Nat) : Int)) c_105 (rl_ti (by omega)) (rl_ti (by omega))
                refine jj_aload_n C dX11_number_105 rfl ?_
                refine tt_getF C hok jk_12 17 (by decide) jw_17e99f0710 (t := (0, (-2147483648), 2147483647)) hk0 (by decide) rfl rfl hf_103 dX11_number_106 ?_
                refine jj_if_neT (tgt := 128) C dX11_number_109 (by decide) (by decide) ?_
                refine jj_aload_n C dX11_number_128 rfl ?_
                obtain ⟨qc, gs, hqc⟩ := tt_recv (cx := []) hok hk0 (by decide) rfl
                refine tt_callV (rest := []) C (re_pass hl D cA ak 1 n16 n15 n14 at9 u c hk0 hkw hka hkt hki hkf hkp (by first | omega | decide) (by first | omega | decide) (by first | omega | decide) (by first | omega | decide) (by first | omega | decide) (by first | omega | decide) (by first | omega | decide) (by first | omega | decide) hk9 (by omega) (by omega) hc hok hm hf_99 hu hf_100 hf_101 hf_102 hf_103) [] [] rfl rfl (by decide) (by decide) (by decide) qc hqc rfl rfl jw_b8e803331f jw_409849e3da jw_7cfaf31817 jw_f96c99f44d jw_3d0e41f30f jn_X11_pass rfl (jj_le rfl) (jj_le rfl) (jj_le rfl) (jj_le rfl) (jj_le rfl) dX11_number_129 rfl (fun _ _ _ hX => hX.elim) (fun rx pl_106 r O_110 => ?_)
                obtain ⟨rfl, hok_107, hr_108, ha_109, hR_111⟩ := O_110
                replace hf_99 := hr_108.at hk0 (by decide) (by decide) hf_99
                replace hf_102 := hr_108.at hk0 (by decide) (by decide) hf_102
                replace hf_103 := hr_108.at hk0 (by decide) (by decide) hf_103
                replace hf_104 := hr_108.at hk0 (by decide) (by decide) hf_104
                replace hu := ha_109.at hk9 (by decide) (by decide) hu
                replace hm := hm.fr hr_108 hk0 rfl
                replace hfr := hfr.trans (hr_108.sub (by decide))
                replace hfa := hfa.trans (ha_109.sub (by decide))
                rcases hR_111 with ⟨hq_112, hf_113, hf_114, rfl⟩ | ⟨hq_115, ⟨n_116, n_117, hf_118, hf_119, ht_120⟩, rfl⟩
                · refine jj_iload C dX11_number_132 rfl ?_
                  exact jj_iret C ⟨[], pl_106, rfl, rfl, hok_107, hfr, hfa, (by obtain rfl : n17 = 0 := (by omega); obtain ⟨y9, s9, t9⟩ := hy.no (chk := ps_cN c n16 lo hi) (k := 1) (a1 := n14) (b1 := n15) (Or.inl ⟨(fun q => by have q2 := q.2; unfold ps_di at q2; omega), rfl⟩) (by decide); exact ⟨y9, n14, n15, 1, (nI n14), x_98, hf_113, hf_114, hf_103, hf_104, s9, t9, (by omega), (by omega), (by omega), (by omega), (by omega), (fun q => absurd q (by decide)), rfl⟩)⟩ dX11_number_134 (jj_le rfl) (jj_le rfl)
                · have hzn_116 := ht_120.le (by omega)
                  exfalso; omega
              · have z_c_105 := jc_nle (a := ((n15 : Nat) : Int)) (b := ((k_97 : Nat) : Int)) c_105 (rl_ti (by omega)) (rl_ti (by omega))
                refine jj_aload_n C dX11_number_75 rfl ?_
                refine tt_getF C hok jk_12 17 (by decide) jw_17e99f0710 (t := (0, (-2147483648), 2147483647)) hk0 (by decide) rfl rfl hf_103 dX11_number_76 ?_
                refine jj_if_neT (tgt := 105) C dX11_number_79 (by decide) (by decide) ?_
                refine jj_aload_n C dX11_number_105 rfl ?_
                refine tt_getF C hok jk_12 17 (by decide) jw_17e99f0710 (t := (0, (-2147483648), 2147483647)) hk0 (by decide) rfl rfl hf_103 dX11_number_106 ?_
                refine jj_if_neT (tgt := 128) C dX11_number_109 (by decide) (by decide) ?_
                refine jj_aload_n C dX11_number_128 rfl ?_
                obtain ⟨qc, gs, hqc⟩ := tt_recv (cx := []) hok hk0 (by decide) rfl
                refine tt_callV (rest := []) C (re_pass hl D cA ak 1 n16 n15 n14 at9 u c hk0 hkw hka hkt hki hkf hkp (by first | omega | decide) (by first | omega | decide) (by first | omega | decide) (by first | omega | decide) (by first | omega | decide) (by first | omega | decide) (by first | omega | decide) (by first | omega | decide) hk9 (by omega) (by omega) hc hok hm hf_99 hu hf_100 hf_101 hf_102 hf_103) [] [] rfl rfl (by decide) (by decide) (by decide) qc hqc rfl rfl jw_b8e803331f jw_409849e3da jw_7cfaf31817 jw_f96c99f44d jw_3d0e41f30f jn_X11_pass rfl (jj_le rfl) (jj_le rfl) (jj_le rfl) (jj_le rfl) (jj_le rfl) dX11_number_129 rfl (fun _ _ _ hX => hX.elim) (fun rx pl_121 r O_125 => ?_)
                obtain ⟨rfl, hok_122, hr_123, ha_124, hR_126⟩ := O_125
                replace hf_99 := hr_123.at hk0 (by decide) (by decide) hf_99
                replace hf_102 := hr_123.at hk0 (by decide) (by decide) hf_102
                replace hf_103 := hr_123.at hk0 (by decide) (by decide) hf_103
                replace hf_104 := hr_123.at hk0 (by decide) (by decide) hf_104
                replace hu := ha_124.at hk9 (by decide) (by decide) hu
                replace hm := hm.fr hr_123 hk0 rfl
                replace hfr := hfr.trans (hr_123.sub (by decide))
                replace hfa := hfa.trans (ha_124.sub (by decide))
                rcases hR_126 with ⟨hq_127, hf_128, hf_129, rfl⟩ | ⟨hq_130, ⟨n_131, n_132, hf_133, hf_134, ht_135⟩, rfl⟩
                · refine jj_iload C dX11_number_132 rfl ?_
                  exact jj_iret C ⟨[], pl_121, rfl, rfl, hok_122, hfr, hfa, (by obtain rfl : n17 = 0 := (by omega); obtain ⟨y9, s9, t9⟩ := hy.no (chk := ps_cN c n16 lo hi) (k := 1) (a1 := n14) (b1 := n15) (Or.inl ⟨(fun q => by have q2 := q.2; unfold ps_di at q2; omega), rfl⟩) (by decide); exact ⟨y9, n14, n15, 1, (nI n14), x_98, hf_128, hf_129, hf_103, hf_104, s9, t9, (by omega), (by omega), (by omega), (by omega), (by omega), (fun q => absurd q (by decide)), rfl⟩)⟩ dX11_number_134 (jj_le rfl) (jj_le rfl)
                · have hzn_131 := ht_135.le (by omega)
                  exfalso; omega
          exact hL_96 _ pl_84 n14 (0 : Int32) trivial hok_85 hfr hfa hm hs12 hs14 hs15 hs16 hf_91 hf_92 hu (by first | omega | decide | exact tt_lo _ | exact tt_hi _) (by first | omega | decide | exact tt_lo _ | exact tt_hi _) (by first | omega | decide | exact tt_lo _ | exact tt_hi _) (by first | omega | decide | exact tt_lo _ | exact tt_hi _) ⟨by omega, by omega⟩ (Int.self_le_toNat _)
        · refine jj_goto (tgt := 60) C dX11_number_38 (by decide) ?_
          have hDG := (hy.zero2 (by omega)).2.dig (by omega) (by unfold ps_di; omega)
          refine jj_aload_n C dX11_number_60 rfl ?_
          refine tt_getF C hok_85 jk_12 14 (by decide) jw_6446e1fd81 (t := (0, 0, 400)) hk0 (by decide) rfl rfl hs14 dX11_number_61 ?_
          refine jj_istore C dX11_number_64 (by decide) rfl ?_
          have hL_136 : ∀ (N : Nat) (pl : va_W) (k_137 : Nat) (x_138 : Int32), True → tt_ok rt_tk cA Kd pl → tt_fr Kd [(1, 14), (1, 15), (1, 17), (1, 18)] pl0 pl → tt_fa Kd [] pl0 pl → rl_m pl h0 aw aa at0 ai af ap → tt_at pl h0 12 (.ref at9) → tt_at pl h0 14 (.int (nI n14)) → tt_at pl h0 15 (.int (nI n15)) → tt_at pl h0 16 (.int (nI n16)) → tt_at pl h0 17 (.int (nI n17)) → tt_at pl h0 18 (.int x18) → tt_ic pl at9 u → (0 : Int) ≤ (k_137 : Int) → (k_137 : Int) ≤ 400 → (0 : Int) ≤ x_138.toInt → x_138.toInt ≤ 2147483647 → (n14 ≤ k_137 ∧ k_137 ≤ n15 ∧ x_138.toInt = ps_val c n14 (k_137 - n14)) → (2147483648 - (k_137 : Int) ≤ (N : Int)) → jj_J p l e (jj_rm 3 65 0 0) s m args below meth c9 7 A (vx_MQ below (jj_q D A (tt_O (fun rx pl1 r => rx = [] ∧ tt_ok rt_tk cA Kd pl1 ∧ tt_fr Kd [(1, 14), (1, 15), (1, 17), (1, 18)] pl0 pl1 ∧ tt_fa Kd [] pl0 pl1 ∧ ((∃ (y : ps_S) (a b m : Nat) (x v : Int32), tt_at pl1 h0 14 (.int (nI a)) ∧ tt_at pl1 h0 15 (.int (nI b)) ∧ tt_at pl1 h0 17 (.int (nI m)) ∧ tt_at pl1 h0 18 (.int x) ∧ ps_step c n16 (ps_cN c n16 lo hi) y0 y ∧ ps_at c n16 y m a b x ∧ a ≤ b ∧ b ≤ n16 ∧ m ≤ 3 ∧ n14 ≤ a ∧ (m = 0 → n15 ≤ a) ∧ (m = 0 → n17 = 0 ∧ v.toInt = ps_val c n14 (n15 - n14) ∧ lo ≤ v.toInt ∧ v.toInt ≤ hi) ∧ r = some (.int v)))))) (jj_x D A (tt_OX (fun _ _ _ => False))) args s 0 0 A) (jj_X D A ([] ++ pl)) 0 0 66 [(6, .int (nI k_137)), (5, .int x_138), (0, .ref h0), (1, .long p1), (3, .long p2)] [] := by
            intro NL_136
            induction NL_136 with
            | zero => intro pl k_137 x_138 _ hok hfr hfa hm hf_139 hf_140 hf_141 hf_142 hf_143 hf_144 hu lk_137 uk_137 lx_138 ux_138 hS6 hNL_136; exfalso; omega
            | succ NL_136 ihL_136 =>
              intro pl k_137 x_138 _ hok hfr hfa hm hf_139 hf_140 hf_141 hf_142 hf_143 hf_144 hu lk_137 uk_137 lx_138 ux_138 hS6 hNL_136
              replace ihL_136 := fun pl k_137 x_138 h1 => ihL_136 pl k_137 x_138 trivial h1
              refine jj_iload C dX11_number_66 rfl ?_
              refine jj_aload_n C dX11_number_68 rfl ?_
              refine tt_getF C hok jk_12 15 (by decide) jw_165232ba7c (t := (0, 0, 400)) hk0 (by decide) rfl rfl hf_141 dX11_number_69 ?_
              refine jj_icmp_ge (tgt := 105) C dX11_number_72 (by decide) (fun c_145 => ?_) (fun c_145 => ?_)
              · have z_c_145 := jc_le (a := ((n15 : Nat) : Int)) (b := ((k_137 : Nat) : Int)) c_145 (rl_ti (by omega)) (rl_ti (by omega))
                refine jj_aload_n C dX11_number_105 rfl ?_
                refine tt_getF C hok jk_12 17 (by decide) jw_17e99f0710 (t := (0, (-2147483648), 2147483647)) hk0 (by decide) rfl rfl hf_143 dX11_number_106 ?_
                refine jj_if_ne (tgt := 128) C dX11_number_109 (by decide) (fun c_146 => ?_) (fun c_146 => ?_)
                · have z_c_146 := jc_neq (a := ((n17 : Nat) : Int)) (b := 0) c_146 (rl_ti (by omega)) (by decide)
                  exfalso; omega
                · have z_c_146 := jc_eq (a := ((n17 : Nat) : Int)) (b := 0) c_146 (rl_ti (by omega)) (by decide)
                  exfalso; omega
              · have z_c_145 := jc_nle (a := ((n15 : Nat) : Int)) (b := ((k_137 : Nat) : Int)) c_145 (rl_ti (by omega)) (rl_ti (by omega))
                refine jj_aload_n C dX11_number_75 rfl ?_
                refine tt_getF C hok jk_12 17 (by decide) jw_17e99f0710 (t := (0, (-2147483648), 2147483647)) hk0 (by decide) rfl rfl hf_143 dX11_number_76 ?_
                refine jj_if_ne (tgt := 105) C dX11_number_79 (by decide) (fun c_147 => ?_) (fun c_147 => ?_)
                · have z_c_147 := jc_neq (a := ((n17 : Nat) : Int)) (b := 0) c_147 (rl_ti (by omega)) (by decide)
                  exfalso; omega
                · have z_c_147 := jc_eq (a := ((n17 : Nat) : Int)) (b := 0) c_147 (rl_ti (by omega)) (by decide)
                  exfalso; omega
          exact hL_136 _ pl_84 n14 (0 : Int32) trivial hok_85 hfr hfa hm hs12 hs14 hs15 hs16 hf_94 hf_95 hu (by first | omega | decide | exact tt_lo _ | exact tt_hi _) (by first | omega | decide | exact tt_lo _ | exact tt_hi _) (by first | omega | decide | exact tt_lo _ | exact tt_hi _) (by first | omega | decide | exact tt_lo _ | exact tt_hi _) ⟨by omega, by omega, (by rw [Nat.sub_self]; exact (show (0 : Int32).toInt = (0 : Int) from by decide))⟩ (Int.self_le_toNat _)
      · have z_c_80 := jc_nltL (a := y_77.toInt) (b := 48) c_80 rfl (by decide)
        have z_c_81 := jc_ltL (a := 57) (b := y_77.toInt) c_81 (by decide) rfl
        refine jj_if_neF (tgt := 41) C dX11_number_30 (by decide) (by decide) ?_
        refine jj_aload_n C dX11_number_33 rfl ?_
        refine jj_iconst (v := 1) C dX11_number_34 (by decide) ?_
        obtain ⟨qc, gs, hqc⟩ := tt_recv (cx := []) hok_3 hk0 (by decide) rfl
        refine tt_callV (rest := []) C (re_wrong_1 hl D cA ak x18 n17 n14 hk0 hkw hka hkt hki hkf hkp (by first | omega | decide | exact tt_lo _ | exact tt_hi _) (by first | omega | decide | exact tt_lo _ | exact tt_hi _) (by first | omega | decide) (by first | omega | decide) (by first | omega | decide) (by first | omega | decide) hok_3 hm hs14 hs17 hs18) [] [] rfl rfl (by decide) (by decide) (by decide) qc hqc rfl rfl jw_e206642f3f jw_6f17e07a53 jw_400f18f3e9 jw_f96c99f44d jw_6b1a6dabbc jn_X11_wrong rfl (jj_le rfl) (jj_le rfl) (jj_le rfl) (jj_le rfl) (jj_le rfl) dX11_number_35 rfl (fun _ _ _ hX => hX.elim) (fun rx pl_148 r O_152 => ?_)
        obtain ⟨rfl, hok_149, hr_150, ha_151, hR_153⟩ := O_152
        replace hs12 := hr_150.at hk0 (by decide) (by decide) hs12
        replace hs14 := hr_150.at hk0 (by decide) (by decide) hs14
        replace hs15 := hr_150.at hk0 (by decide) (by decide) hs15
        replace hs16 := hr_150.at hk0 (by decide) (by decide) hs16
        replace hu := ha_151.at hk9 (by decide) (by decide) hu
        replace hm := hm.fr hr_150 hk0 rfl
        replace hfr := hfr.trans (hr_150.sub (by decide))
        replace hfa := hfa.trans (ha_151.sub (by decide))
        rcases hR_153 with ⟨hf_154, hf_155, hf_156, rfl⟩ | ⟨hf_157, hf_158, hf_159, rfl⟩
        · refine jj_goto (tgt := 60) C dX11_number_38 (by decide) ?_
          refine jj_aload_n C dX11_number_60 rfl ?_
          refine tt_getF C hok_149 jk_12 14 (by decide) jw_6446e1fd81 (t := (0, 0, 400)) hk0 (by decide) rfl rfl hs14 dX11_number_61 ?_
          refine jj_istore C dX11_number_64 (by decide) rfl ?_
          have hL_160 : ∀ (N : Nat) (pl : va_W) (k_161 : Nat) (x_162 : Int32), True → tt_ok rt_tk cA Kd pl → tt_fr Kd [(1, 14), (1, 15), (1, 17), (1, 18)] pl0 pl → tt_fa Kd [] pl0 pl → rl_m pl h0 aw aa at0 ai af ap → tt_at pl h0 12 (.ref at9) → tt_at pl h0 14 (.int (nI n14)) → tt_at pl h0 15 (.int (nI n15)) → tt_at pl h0 16 (.int (nI n16)) → tt_at pl h0 17 (.int 1) → tt_at pl h0 18 (.int (nI n14)) → tt_ic pl at9 u → (0 : Int) ≤ (k_161 : Int) → (k_161 : Int) ≤ 400 → (0 : Int) ≤ x_162.toInt → x_162.toInt ≤ 2147483647 → (n14 ≤ k_161 ∧ k_161 ≤ n15) → (2147483648 - (k_161 : Int) ≤ (N : Int)) → jj_J p l e (jj_rm 3 65 0 0) s m args below meth c9 7 A (vx_MQ below (jj_q D A (tt_O (fun rx pl1 r => rx = [] ∧ tt_ok rt_tk cA Kd pl1 ∧ tt_fr Kd [(1, 14), (1, 15), (1, 17), (1, 18)] pl0 pl1 ∧ tt_fa Kd [] pl0 pl1 ∧ ((∃ (y : ps_S) (a b m : Nat) (x v : Int32), tt_at pl1 h0 14 (.int (nI a)) ∧ tt_at pl1 h0 15 (.int (nI b)) ∧ tt_at pl1 h0 17 (.int (nI m)) ∧ tt_at pl1 h0 18 (.int x) ∧ ps_step c n16 (ps_cN c n16 lo hi) y0 y ∧ ps_at c n16 y m a b x ∧ a ≤ b ∧ b ≤ n16 ∧ m ≤ 3 ∧ n14 ≤ a ∧ (m = 0 → n15 ≤ a) ∧ (m = 0 → n17 = 0 ∧ v.toInt = ps_val c n14 (n15 - n14) ∧ lo ≤ v.toInt ∧ v.toInt ≤ hi) ∧ r = some (.int v)))))) (jj_x D A (tt_OX (fun _ _ _ => False))) args s 0 0 A) (jj_X D A ([] ++ pl)) 0 0 66 [(6, .int (nI k_161)), (5, .int x_162), (0, .ref h0), (1, .long p1), (3, .long p2)] [] := by
            intro NL_160
            induction NL_160 with
            | zero => intro pl k_161 x_162 _ hok hfr hfa hm hf_163 hf_164 hf_165 hf_166 hf_167 hf_168 hu lk_161 uk_161 lx_162 ux_162 hS6 hNL_160; exfalso; omega
            | succ NL_160 ihL_160 =>
              intro pl k_161 x_162 _ hok hfr hfa hm hf_163 hf_164 hf_165 hf_166 hf_167 hf_168 hu lk_161 uk_161 lx_162 ux_162 hS6 hNL_160
              replace ihL_160 := fun pl k_161 x_162 h1 => ihL_160 pl k_161 x_162 trivial h1
              refine jj_iload C dX11_number_66 rfl ?_
              refine jj_aload_n C dX11_number_68 rfl ?_
              refine tt_getF C hok jk_12 15 (by decide) jw_165232ba7c (t := (0, 0, 400)) hk0 (by decide) rfl rfl hf_165 dX11_number_69 ?_
              refine jj_icmp_ge (tgt := 105) C dX11_number_72 (by decide) (fun c_169 => ?_) (fun c_169 => ?_)
              · have z_c_169 := jc_le (a := ((n15 : Nat) : Int)) (b := ((k_161 : Nat) : Int)) c_169 (rl_ti (by omega)) (rl_ti (by omega))
                refine jj_aload_n C dX11_number_105 rfl ?_
                refine tt_getF C hok jk_12 17 (by decide) jw_17e99f0710 (t := (0, (-2147483648), 2147483647)) hk0 (by decide) rfl rfl hf_167 dX11_number_106 ?_
                refine jj_if_neT (tgt := 128) C dX11_number_109 (by decide) (by decide) ?_
                refine jj_aload_n C dX11_number_128 rfl ?_
                obtain ⟨qc, gs, hqc⟩ := tt_recv (cx := []) hok hk0 (by decide) rfl
                refine tt_callV (rest := []) C (re_pass hl D cA ak 1 n16 n15 n14 at9 u c hk0 hkw hka hkt hki hkf hkp (by first | omega | decide) (by first | omega | decide) (by first | omega | decide) (by first | omega | decide) (by first | omega | decide) (by first | omega | decide) (by first | omega | decide) (by first | omega | decide) hk9 (by omega) (by omega) hc hok hm hf_163 hu hf_164 hf_165 hf_166 hf_167) [] [] rfl rfl (by decide) (by decide) (by decide) qc hqc rfl rfl jw_b8e803331f jw_409849e3da jw_7cfaf31817 jw_f96c99f44d jw_3d0e41f30f jn_X11_pass rfl (jj_le rfl) (jj_le rfl) (jj_le rfl) (jj_le rfl) (jj_le rfl) dX11_number_129 rfl (fun _ _ _ hX => hX.elim) (fun rx pl_170 r O_174 => ?_)
                obtain ⟨rfl, hok_171, hr_172, ha_173, hR_175⟩ := O_174
                replace hf_163 := hr_172.at hk0 (by decide) (by decide) hf_163
                replace hf_166 := hr_172.at hk0 (by decide) (by decide) hf_166
                replace hf_167 := hr_172.at hk0 (by decide) (by decide) hf_167
                replace hf_168 := hr_172.at hk0 (by decide) (by decide) hf_168
                replace hu := ha_173.at hk9 (by decide) (by decide) hu
                replace hm := hm.fr hr_172 hk0 rfl
                replace hfr := hfr.trans (hr_172.sub (by decide))
                replace hfa := hfa.trans (ha_173.sub (by decide))
                rcases hR_175 with ⟨hq_176, hf_177, hf_178, rfl⟩ | ⟨hq_179, ⟨n_180, n_181, hf_182, hf_183, ht_184⟩, rfl⟩
                · refine jj_iload C dX11_number_132 rfl ?_
                  exact jj_iret C ⟨[], pl_170, rfl, rfl, hok_171, hfr, hfa, (by obtain rfl : n17 = 0 := (by omega); obtain ⟨y9, s9, t9⟩ := hy.no (chk := ps_cN c n16 lo hi) (k := 1) (a1 := n14) (b1 := n15) (Or.inl ⟨(fun q => by have q2 := q.2; unfold ps_di at q2; omega), rfl⟩) (by decide); exact ⟨y9, n14, n15, 1, (nI n14), x_162, hf_177, hf_178, hf_167, hf_168, s9, t9, (by omega), (by omega), (by omega), (by omega), (by omega), (fun q => absurd q (by decide)), rfl⟩)⟩ dX11_number_134 (jj_le rfl) (jj_le rfl)
                · have hzn_180 := ht_184.le (by omega)
                  exfalso; omega
              · have z_c_169 := jc_nle (a := ((n15 : Nat) : Int)) (b := ((k_161 : Nat) : Int)) c_169 (rl_ti (by omega)) (rl_ti (by omega))
                refine jj_aload_n C dX11_number_75 rfl ?_
                refine tt_getF C hok jk_12 17 (by decide) jw_17e99f0710 (t := (0, (-2147483648), 2147483647)) hk0 (by decide) rfl rfl hf_167 dX11_number_76 ?_
                refine jj_if_neT (tgt := 105) C dX11_number_79 (by decide) (by decide) ?_
                refine jj_aload_n C dX11_number_105 rfl ?_
                refine tt_getF C hok jk_12 17 (by decide) jw_17e99f0710 (t := (0, (-2147483648), 2147483647)) hk0 (by decide) rfl rfl hf_167 dX11_number_106 ?_
                refine jj_if_neT (tgt := 128) C dX11_number_109 (by decide) (by decide) ?_
                refine jj_aload_n C dX11_number_128 rfl ?_
                obtain ⟨qc, gs, hqc⟩ := tt_recv (cx := []) hok hk0 (by decide) rfl
                refine tt_callV (rest := []) C (re_pass hl D cA ak 1 n16 n15 n14 at9 u c hk0 hkw hka hkt hki hkf hkp (by first | omega | decide) (by first | omega | decide) (by first | omega | decide) (by first | omega | decide) (by first | omega | decide) (by first | omega | decide) (by first | omega | decide) (by first | omega | decide) hk9 (by omega) (by omega) hc hok hm hf_163 hu hf_164 hf_165 hf_166 hf_167) [] [] rfl rfl (by decide) (by decide) (by decide) qc hqc rfl rfl jw_b8e803331f jw_409849e3da jw_7cfaf31817 jw_f96c99f44d jw_3d0e41f30f jn_X11_pass rfl (jj_le rfl) (jj_le rfl) (jj_le rfl) (jj_le rfl) (jj_le rfl) dX11_number_129 rfl (fun _ _ _ hX => hX.elim) (fun rx pl_185 r O_189 => ?_)
                obtain ⟨rfl, hok_186, hr_187, ha_188, hR_190⟩ := O_189
                replace hf_163 := hr_187.at hk0 (by decide) (by decide) hf_163
                replace hf_166 := hr_187.at hk0 (by decide) (by decide) hf_166
                replace hf_167 := hr_187.at hk0 (by decide) (by decide) hf_167
                replace hf_168 := hr_187.at hk0 (by decide) (by decide) hf_168
                replace hu := ha_188.at hk9 (by decide) (by decide) hu
                replace hm := hm.fr hr_187 hk0 rfl
                replace hfr := hfr.trans (hr_187.sub (by decide))
                replace hfa := hfa.trans (ha_188.sub (by decide))
                rcases hR_190 with ⟨hq_191, hf_192, hf_193, rfl⟩ | ⟨hq_194, ⟨n_195, n_196, hf_197, hf_198, ht_199⟩, rfl⟩
                · refine jj_iload C dX11_number_132 rfl ?_
                  exact jj_iret C ⟨[], pl_185, rfl, rfl, hok_186, hfr, hfa, (by obtain rfl : n17 = 0 := (by omega); obtain ⟨y9, s9, t9⟩ := hy.no (chk := ps_cN c n16 lo hi) (k := 1) (a1 := n14) (b1 := n15) (Or.inl ⟨(fun q => by have q2 := q.2; unfold ps_di at q2; omega), rfl⟩) (by decide); exact ⟨y9, n14, n15, 1, (nI n14), x_162, hf_192, hf_193, hf_167, hf_168, s9, t9, (by omega), (by omega), (by omega), (by omega), (by omega), (fun q => absurd q (by decide)), rfl⟩)⟩ dX11_number_134 (jj_le rfl) (jj_le rfl)
                · have hzn_195 := ht_199.le (by omega)
                  exfalso; omega
          exact hL_160 _ pl_148 n14 (0 : Int32) trivial hok_149 hfr hfa hm hs12 hs14 hs15 hs16 hf_155 hf_156 hu (by first | omega | decide | exact tt_lo _ | exact tt_hi _) (by first | omega | decide | exact tt_lo _ | exact tt_hi _) (by first | omega | decide | exact tt_lo _ | exact tt_hi _) (by first | omega | decide | exact tt_lo _ | exact tt_hi _) ⟨by omega, by omega⟩ (Int.self_le_toNat _)
        · refine jj_goto (tgt := 60) C dX11_number_38 (by decide) ?_
          have hDG := (hy.zero2 (by omega)).2.dig (by omega) (by unfold ps_di; omega)
          refine jj_aload_n C dX11_number_60 rfl ?_
          refine tt_getF C hok_149 jk_12 14 (by decide) jw_6446e1fd81 (t := (0, 0, 400)) hk0 (by decide) rfl rfl hs14 dX11_number_61 ?_
          refine jj_istore C dX11_number_64 (by decide) rfl ?_
          have hL_200 : ∀ (N : Nat) (pl : va_W) (k_201 : Nat) (x_202 : Int32), True → tt_ok rt_tk cA Kd pl → tt_fr Kd [(1, 14), (1, 15), (1, 17), (1, 18)] pl0 pl → tt_fa Kd [] pl0 pl → rl_m pl h0 aw aa at0 ai af ap → tt_at pl h0 12 (.ref at9) → tt_at pl h0 14 (.int (nI n14)) → tt_at pl h0 15 (.int (nI n15)) → tt_at pl h0 16 (.int (nI n16)) → tt_at pl h0 17 (.int (nI n17)) → tt_at pl h0 18 (.int x18) → tt_ic pl at9 u → (0 : Int) ≤ (k_201 : Int) → (k_201 : Int) ≤ 400 → (0 : Int) ≤ x_202.toInt → x_202.toInt ≤ 2147483647 → (n14 ≤ k_201 ∧ k_201 ≤ n15 ∧ x_202.toInt = ps_val c n14 (k_201 - n14)) → (2147483648 - (k_201 : Int) ≤ (N : Int)) → jj_J p l e (jj_rm 3 65 0 0) s m args below meth c9 7 A (vx_MQ below (jj_q D A (tt_O (fun rx pl1 r => rx = [] ∧ tt_ok rt_tk cA Kd pl1 ∧ tt_fr Kd [(1, 14), (1, 15), (1, 17), (1, 18)] pl0 pl1 ∧ tt_fa Kd [] pl0 pl1 ∧ ((∃ (y : ps_S) (a b m : Nat) (x v : Int32), tt_at pl1 h0 14 (.int (nI a)) ∧ tt_at pl1 h0 15 (.int (nI b)) ∧ tt_at pl1 h0 17 (.int (nI m)) ∧ tt_at pl1 h0 18 (.int x) ∧ ps_step c n16 (ps_cN c n16 lo hi) y0 y ∧ ps_at c n16 y m a b x ∧ a ≤ b ∧ b ≤ n16 ∧ m ≤ 3 ∧ n14 ≤ a ∧ (m = 0 → n15 ≤ a) ∧ (m = 0 → n17 = 0 ∧ v.toInt = ps_val c n14 (n15 - n14) ∧ lo ≤ v.toInt ∧ v.toInt ≤ hi) ∧ r = some (.int v)))))) (jj_x D A (tt_OX (fun _ _ _ => False))) args s 0 0 A) (jj_X D A ([] ++ pl)) 0 0 66 [(6, .int (nI k_201)), (5, .int x_202), (0, .ref h0), (1, .long p1), (3, .long p2)] [] := by
            intro NL_200
            induction NL_200 with
            | zero => intro pl k_201 x_202 _ hok hfr hfa hm hf_203 hf_204 hf_205 hf_206 hf_207 hf_208 hu lk_201 uk_201 lx_202 ux_202 hS6 hNL_200; exfalso; omega
            | succ NL_200 ihL_200 =>
              intro pl k_201 x_202 _ hok hfr hfa hm hf_203 hf_204 hf_205 hf_206 hf_207 hf_208 hu lk_201 uk_201 lx_202 ux_202 hS6 hNL_200
              replace ihL_200 := fun pl k_201 x_202 h1 => ihL_200 pl k_201 x_202 trivial h1
              refine jj_iload C dX11_number_66 rfl ?_
              refine jj_aload_n C dX11_number_68 rfl ?_
              refine tt_getF C hok jk_12 15 (by decide) jw_165232ba7c (t := (0, 0, 400)) hk0 (by decide) rfl rfl hf_205 dX11_number_69 ?_
              refine jj_icmp_ge (tgt := 105) C dX11_number_72 (by decide) (fun c_209 => ?_) (fun c_209 => ?_)
              · have z_c_209 := jc_le (a := ((n15 : Nat) : Int)) (b := ((k_201 : Nat) : Int)) c_209 (rl_ti (by omega)) (rl_ti (by omega))
                refine jj_aload_n C dX11_number_105 rfl ?_
                refine tt_getF C hok jk_12 17 (by decide) jw_17e99f0710 (t := (0, (-2147483648), 2147483647)) hk0 (by decide) rfl rfl hf_207 dX11_number_106 ?_
                refine jj_if_ne (tgt := 128) C dX11_number_109 (by decide) (fun c_210 => ?_) (fun c_210 => ?_)
                · have z_c_210 := jc_neq (a := ((n17 : Nat) : Int)) (b := 0) c_210 (rl_ti (by omega)) (by decide)
                  exfalso; omega
                · have z_c_210 := jc_eq (a := ((n17 : Nat) : Int)) (b := 0) c_210 (rl_ti (by omega)) (by decide)
                  exfalso; omega
              · have z_c_209 := jc_nle (a := ((n15 : Nat) : Int)) (b := ((k_201 : Nat) : Int)) c_209 (rl_ti (by omega)) (rl_ti (by omega))
                refine jj_aload_n C dX11_number_75 rfl ?_
                refine tt_getF C hok jk_12 17 (by decide) jw_17e99f0710 (t := (0, (-2147483648), 2147483647)) hk0 (by decide) rfl rfl hf_207 dX11_number_76 ?_
                refine jj_if_ne (tgt := 105) C dX11_number_79 (by decide) (fun c_211 => ?_) (fun c_211 => ?_)
                · have z_c_211 := jc_neq (a := ((n17 : Nat) : Int)) (b := 0) c_211 (rl_ti (by omega)) (by decide)
                  exfalso; omega
                · have z_c_211 := jc_eq (a := ((n17 : Nat) : Int)) (b := 0) c_211 (rl_ti (by omega)) (by decide)
                  exfalso; omega
          exact hL_200 _ pl_148 n14 (0 : Int32) trivial hok_149 hfr hfa hm hs12 hs14 hs15 hs16 hf_158 hf_159 hu (by first | omega | decide | exact tt_lo _ | exact tt_hi _) (by first | omega | decide | exact tt_lo _ | exact tt_hi _) (by first | omega | decide | exact tt_lo _ | exact tt_hi _) (by first | omega | decide | exact tt_lo _ | exact tt_hi _) ⟨by omega, by omega, (by rw [Nat.sub_self]; exact (show (0 : Int32).toInt = (0 : Int) from by decide))⟩ (Int.self_le_toNat _)
      · have z_c_82 := jc_nltL (a := y_77.toInt) (b := 48) c_82 rfl (by decide)
        have z_c_83 := jc_nltL (a := 57) (b := y_77.toInt) c_83 (by decide) rfl
        refine jj_if_neT (tgt := 41) C dX11_number_30 (by decide) (by decide) ?_
        refine jj_aload_n C dX11_number_41 rfl ?_
        refine tt_getF C hok_3 jk_12 15 (by decide) jw_165232ba7c (t := (0, 0, 400)) hk0 (by decide) rfl rfl hs15 dX11_number_42 ?_
        refine jj_aload_n C dX11_number_45 rfl ?_
        refine tt_getF C hok_3 jk_12 14 (by decide) jw_6446e1fd81 (t := (0, 0, 400)) hk0 (by decide) rfl rfl hs14 dX11_number_46 ?_
        obtain ⟨x_212, ex_212, vx_212⟩ := tt_isub (x := (nI n15)) (y := (nI n14)) (a := ((n15 : Nat) : Int)) (rl_ti (by omega)) (b := ((n14 : Nat) : Int)) (rl_ti (by omega)) (by omega) (by omega)
        refine jj_isub (v := x_212) C dX11_number_49 ex_212 ?_
        refine jj_bipush (v := 7) C dX11_number_50 (by decide) ?_
        refine jj_icmp_le (tgt := 60) C dX11_number_52 (by decide) (fun c_213 => ?_) (fun c_213 => ?_)
        · have z_c_213 := jc_le (a := x_212.toInt) (b := 7) c_213 rfl (by decide)
          have hDG := (hy.zero2 (by omega)).2.dig (by omega) (by unfold ps_di; omega)
          refine jj_aload_n C dX11_number_60 rfl ?_
          refine tt_getF C hok_3 jk_12 14 (by decide) jw_6446e1fd81 (t := (0, 0, 400)) hk0 (by decide) rfl rfl hs14 dX11_number_61 ?_
          refine jj_istore C dX11_number_64 (by decide) rfl ?_
          have hL_214 : ∀ (N : Nat) (pl : va_W) (k_215 : Nat) (x_216 : Int32), True → tt_ok rt_tk cA Kd pl → tt_fr Kd [(1, 14), (1, 15), (1, 17), (1, 18)] pl0 pl → tt_fa Kd [] pl0 pl → rl_m pl h0 aw aa at0 ai af ap → tt_at pl h0 12 (.ref at9) → tt_at pl h0 14 (.int (nI n14)) → tt_at pl h0 15 (.int (nI n15)) → tt_at pl h0 16 (.int (nI n16)) → tt_at pl h0 17 (.int (nI n17)) → tt_at pl h0 18 (.int x18) → tt_ic pl at9 u → (0 : Int) ≤ (k_215 : Int) → (k_215 : Int) ≤ 400 → (0 : Int) ≤ x_216.toInt → x_216.toInt ≤ 2147483647 → (n14 ≤ k_215 ∧ k_215 ≤ n15 ∧ x_216.toInt = ps_val c n14 (k_215 - n14)) → (2147483648 - (k_215 : Int) ≤ (N : Int)) → jj_J p l e (jj_rm 3 65 0 0) s m args below meth c9 7 A (vx_MQ below (jj_q D A (tt_O (fun rx pl1 r => rx = [] ∧ tt_ok rt_tk cA Kd pl1 ∧ tt_fr Kd [(1, 14), (1, 15), (1, 17), (1, 18)] pl0 pl1 ∧ tt_fa Kd [] pl0 pl1 ∧ ((∃ (y : ps_S) (a b m : Nat) (x v : Int32), tt_at pl1 h0 14 (.int (nI a)) ∧ tt_at pl1 h0 15 (.int (nI b)) ∧ tt_at pl1 h0 17 (.int (nI m)) ∧ tt_at pl1 h0 18 (.int x) ∧ ps_step c n16 (ps_cN c n16 lo hi) y0 y ∧ ps_at c n16 y m a b x ∧ a ≤ b ∧ b ≤ n16 ∧ m ≤ 3 ∧ n14 ≤ a ∧ (m = 0 → n15 ≤ a) ∧ (m = 0 → n17 = 0 ∧ v.toInt = ps_val c n14 (n15 - n14) ∧ lo ≤ v.toInt ∧ v.toInt ≤ hi) ∧ r = some (.int v)))))) (jj_x D A (tt_OX (fun _ _ _ => False))) args s 0 0 A) (jj_X D A ([] ++ pl)) 0 0 66 [(6, .int (nI k_215)), (5, .int x_216), (0, .ref h0), (1, .long p1), (3, .long p2)] [] := by
            intro NL_214
            induction NL_214 with
            | zero => intro pl k_215 x_216 _ hok hfr hfa hm hf_217 hf_218 hf_219 hf_220 hf_221 hf_222 hu lk_215 uk_215 lx_216 ux_216 hS6 hNL_214; exfalso; omega
            | succ NL_214 ihL_214 =>
              intro pl k_215 x_216 _ hok hfr hfa hm hf_217 hf_218 hf_219 hf_220 hf_221 hf_222 hu lk_215 uk_215 lx_216 ux_216 hS6 hNL_214
              replace ihL_214 := fun pl k_215 x_216 h1 => ihL_214 pl k_215 x_216 trivial h1
              refine jj_iload C dX11_number_66 rfl ?_
              refine jj_aload_n C dX11_number_68 rfl ?_
              refine tt_getF C hok jk_12 15 (by decide) jw_165232ba7c (t := (0, 0, 400)) hk0 (by decide) rfl rfl hf_219 dX11_number_69 ?_
              refine jj_icmp_ge (tgt := 105) C dX11_number_72 (by decide) (fun c_223 => ?_) (fun c_223 => ?_)
              · have z_c_223 := jc_le (a := ((n15 : Nat) : Int)) (b := ((k_215 : Nat) : Int)) c_223 (rl_ti (by omega)) (rl_ti (by omega))
                refine jj_aload_n C dX11_number_105 rfl ?_
                refine tt_getF C hok jk_12 17 (by decide) jw_17e99f0710 (t := (0, (-2147483648), 2147483647)) hk0 (by decide) rfl rfl hf_221 dX11_number_106 ?_
                refine jj_if_ne (tgt := 128) C dX11_number_109 (by decide) (fun c_224 => ?_) (fun c_224 => ?_)
                · have z_c_224 := jc_neq (a := ((n17 : Nat) : Int)) (b := 0) c_224 (rl_ti (by omega)) (by decide)
                  exfalso; omega
                · have z_c_224 := jc_eq (a := ((n17 : Nat) : Int)) (b := 0) c_224 (rl_ti (by omega)) (by decide)
                  refine jj_iload C dX11_number_112 rfl ?_
                  obtain ⟨y_225, ey_225, vy_225⟩ := tt_i2l x_216
                  refine jj_i2l (v := y_225) C dX11_number_114 ey_225 ?_
                  refine jj_lload_n C dX11_number_115 rfl ?_
                  refine jj_lload_n C dX11_number_116 rfl ?_
                  refine tt_call0S (rest := []) C (ct_X11_in_s14 hl D cA ak y_225 p1 p2) jw_2a24feddee jw_12f28ccfda jw_f96c99f44d jw_e07c9ada56 jn_X11_in rfl (jj_le rfl) (jj_le rfl) (jj_le rfl) (jj_le rfl) (jj_le rfl) dX11_number_117 rfl (fun w1 r O_226 => ?_)
                  rcases O_226 with ⟨c_227, -, rfl⟩ | ⟨c_228, c_229, -, rfl⟩ | ⟨c_230, c_231, -, rfl⟩
                  · have z_c_227 := jc_ltL (a := y_225.toInt) (b := p1.toInt) c_227 rfl rfl
                    refine jj_if_neF (tgt := 128) C dX11_number_120 (by decide) (by decide) ?_
                    refine jj_aload_n C dX11_number_123 rfl ?_
                    refine jj_iconst (v := 2) C dX11_number_124 (by decide) ?_
                    obtain ⟨qc, gs, hqc⟩ := tt_recv (cx := []) hok hk0 (by decide) rfl
                    refine tt_callV (rest := []) C (re_wrong_2 hl D cA ak x18 n17 n14 hk0 hkw hka hkt hki hkf hkp (by first | omega | decide | exact tt_lo _ | exact tt_hi _) (by first | omega | decide | exact tt_lo _ | exact tt_hi _) (by first | omega | decide) (by first | omega | decide) (by first | omega | decide) (by first | omega | decide) hok hm hf_218 hf_221 hf_222) [] [] rfl rfl (by decide) (by decide) (by decide) qc hqc rfl rfl jw_e206642f3f jw_6f17e07a53 jw_400f18f3e9 jw_f96c99f44d jw_6b1a6dabbc jn_X11_wrong rfl (jj_le rfl) (jj_le rfl) (jj_le rfl) (jj_le rfl) (jj_le rfl) dX11_number_125 rfl (fun _ _ _ hX => hX.elim) (fun rx pl_232 r O_236 => ?_)
                    obtain ⟨rfl, hok_233, hr_234, ha_235, hR_237⟩ := O_236
                    replace hf_217 := hr_234.at hk0 (by decide) (by decide) hf_217
                    replace hf_218 := hr_234.at hk0 (by decide) (by decide) hf_218
                    replace hf_219 := hr_234.at hk0 (by decide) (by decide) hf_219
                    replace hf_220 := hr_234.at hk0 (by decide) (by decide) hf_220
                    replace hu := ha_235.at hk9 (by decide) (by decide) hu
                    replace hm := hm.fr hr_234 hk0 rfl
                    replace hfr := hfr.trans (hr_234.sub (by decide))
                    replace hfa := hfa.trans (ha_235.sub (by decide))
                    rcases hR_237 with ⟨hf_238, hf_239, hf_240, rfl⟩ | ⟨hf_241, hf_242, hf_243, rfl⟩
                    · refine jj_aload_n C dX11_number_128 rfl ?_
                      obtain ⟨qc, gs, hqc⟩ := tt_recv (cx := []) hok_233 hk0 (by decide) rfl
                      refine tt_callV (rest := []) C (re_pass hl D cA ak 2 n16 n15 n14 at9 u c hk0 hkw hka hkt hki hkf hkp (by first | omega | decide) (by first | omega | decide) (by first | omega | decide) (by first | omega | decide) (by first | omega | decide) (by first | omega | decide) (by first | omega | decide) (by first | omega | decide) hk9 (by omega) (by omega) hc hok_233 hm hf_217 hu hf_218 hf_219 hf_220 hf_239) [] [] rfl rfl (by decide) (by decide) (by decide) qc hqc rfl rfl jw_b8e803331f jw_409849e3da jw_7cfaf31817 jw_f96c99f44d jw_3d0e41f30f jn_X11_pass rfl (jj_le rfl) (jj_le rfl) (jj_le rfl) (jj_le rfl) (jj_le rfl) dX11_number_129 rfl (fun _ _ _ hX => hX.elim) (fun rx pl_244 r O_248 => ?_)
                      obtain ⟨rfl, hok_245, hr_246, ha_247, hR_249⟩ := O_248
                      replace hf_217 := hr_246.at hk0 (by decide) (by decide) hf_217
                      replace hf_220 := hr_246.at hk0 (by decide) (by decide) hf_220
                      replace hf_239 := hr_246.at hk0 (by decide) (by decide) hf_239
                      replace hf_240 := hr_246.at hk0 (by decide) (by decide) hf_240
                      replace hu := ha_247.at hk9 (by decide) (by decide) hu
                      replace hm := hm.fr hr_246 hk0 rfl
                      replace hfr := hfr.trans (hr_246.sub (by decide))
                      replace hfa := hfa.trans (ha_247.sub (by decide))
                      rcases hR_249 with ⟨hq_250, hf_251, hf_252, rfl⟩ | ⟨hq_253, ⟨n_254, n_255, hf_256, hf_257, ht_258⟩, rfl⟩
                      · refine jj_iload C dX11_number_132 rfl ?_
                        exact jj_iret C ⟨[], pl_244, rfl, rfl, hok_245, hfr, hfa, (by obtain rfl : n17 = 0 := (by omega); obtain ⟨y9, s9, t9⟩ := hy.no (chk := ps_cN c n16 lo hi) (k := 2) (a1 := n14) (b1 := n15) ((by first | exact Or.inr (Or.inl ⟨⟨by omega, by unfold ps_di; omega⟩, (fun q => by have q1 := q.1; omega), rfl⟩) | exact Or.inr (Or.inl ⟨⟨by omega, by unfold ps_di; omega⟩, (fun q => by have q1 := q.2; have e8 : k_215 = n15 := (by omega); have e9 := hS6.2.2; rw [e8] at e9; omega), rfl⟩))) (by decide); exact ⟨y9, n14, n15, 2, (nI n14), x_216, hf_251, hf_252, hf_239, hf_240, s9, t9, (by omega), (by omega), (by omega), (by omega), (by omega), (fun q => absurd q (by decide)), rfl⟩)⟩ dX11_number_134 (jj_le rfl) (jj_le rfl)
                      · have hzn_254 := ht_258.le (by omega)
                        exfalso; omega
                    · refine jj_aload_n C dX11_number_128 rfl ?_
                      obtain ⟨qc, gs, hqc⟩ := tt_recv (cx := []) hok_233 hk0 (by decide) rfl
                      refine tt_callV (rest := []) C (re_pass hl D cA ak n17 n16 n15 n14 at9 u c hk0 hkw hka hkt hki hkf hkp (by first | omega | decide) (by first | omega | decide) (by first | omega | decide) (by first | omega | decide) (by first | omega | decide) (by first | omega | decide) (by first | omega | decide) (by first | omega | decide) hk9 (by omega) (by omega) hc hok_233 hm hf_217 hu hf_218 hf_219 hf_220 hf_242) [] [] rfl rfl (by decide) (by decide) (by decide) qc hqc rfl rfl jw_b8e803331f jw_409849e3da jw_7cfaf31817 jw_f96c99f44d jw_3d0e41f30f jn_X11_pass rfl (jj_le rfl) (jj_le rfl) (jj_le rfl) (jj_le rfl) (jj_le rfl) dX11_number_129 rfl (fun _ _ _ hX => hX.elim) (fun rx pl_259 r O_263 => ?_)
                      obtain ⟨rfl, hok_260, hr_261, ha_262, hR_264⟩ := O_263
                      replace hf_217 := hr_261.at hk0 (by decide) (by decide) hf_217
                      replace hf_220 := hr_261.at hk0 (by decide) (by decide) hf_220
                      replace hf_242 := hr_261.at hk0 (by decide) (by decide) hf_242
                      replace hf_243 := hr_261.at hk0 (by decide) (by decide) hf_243
                      replace hu := ha_262.at hk9 (by decide) (by decide) hu
                      replace hm := hm.fr hr_261 hk0 rfl
                      replace hfr := hfr.trans (hr_261.sub (by decide))
                      replace hfa := hfa.trans (ha_262.sub (by decide))
                      rcases hR_264 with ⟨hq_265, hf_266, hf_267, rfl⟩ | ⟨hq_268, ⟨n_269, n_270, hf_271, hf_272, ht_273⟩, rfl⟩
                      · refine jj_iload C dX11_number_132 rfl ?_
                        exact jj_iret C ⟨[], pl_259, rfl, rfl, hok_260, hfr, hfa, (by exfalso; omega)⟩ dX11_number_134 (jj_le rfl) (jj_le rfl)
                      · have hzn_269 := ht_273.le (by omega)
                        exfalso; omega
                  · have z_c_228 := jc_nltL (a := y_225.toInt) (b := p1.toInt) c_228 rfl rfl
                    have z_c_229 := jc_ltL (a := p2.toInt) (b := y_225.toInt) c_229 rfl rfl
                    refine jj_if_neF (tgt := 128) C dX11_number_120 (by decide) (by decide) ?_
                    refine jj_aload_n C dX11_number_123 rfl ?_
                    refine jj_iconst (v := 2) C dX11_number_124 (by decide) ?_
                    obtain ⟨qc, gs, hqc⟩ := tt_recv (cx := []) hok hk0 (by decide) rfl
                    refine tt_callV (rest := []) C (re_wrong_2 hl D cA ak x18 n17 n14 hk0 hkw hka hkt hki hkf hkp (by first | omega | decide | exact tt_lo _ | exact tt_hi _) (by first | omega | decide | exact tt_lo _ | exact tt_hi _) (by first | omega | decide) (by first | omega | decide) (by first | omega | decide) (by first | omega | decide) hok hm hf_218 hf_221 hf_222) [] [] rfl rfl (by decide) (by decide) (by decide) qc hqc rfl rfl jw_e206642f3f jw_6f17e07a53 jw_400f18f3e9 jw_f96c99f44d jw_6b1a6dabbc jn_X11_wrong rfl (jj_le rfl) (jj_le rfl) (jj_le rfl) (jj_le rfl) (jj_le rfl) dX11_number_125 rfl (fun _ _ _ hX => hX.elim) (fun rx pl_274 r O_278 => ?_)
                    obtain ⟨rfl, hok_275, hr_276, ha_277, hR_279⟩ := O_278
                    replace hf_217 := hr_276.at hk0 (by decide) (by decide) hf_217
                    replace hf_218 := hr_276.at hk0 (by decide) (by decide) hf_218
                    replace hf_219 := hr_276.at hk0 (by decide) (by decide) hf_219
                    replace hf_220 := hr_276.at hk0 (by decide) (by decide) hf_220
                    replace hu := ha_277.at hk9 (by decide) (by decide) hu
                    replace hm := hm.fr hr_276 hk0 rfl
                    replace hfr := hfr.trans (hr_276.sub (by decide))
                    replace hfa := hfa.trans (ha_277.sub (by decide))
                    rcases hR_279 with ⟨hf_280, hf_281, hf_282, rfl⟩ | ⟨hf_283, hf_284, hf_285, rfl⟩
                    · refine jj_aload_n C dX11_number_128 rfl ?_
                      obtain ⟨qc, gs, hqc⟩ := tt_recv (cx := []) hok_275 hk0 (by decide) rfl
                      refine tt_callV (rest := []) C (re_pass hl D cA ak 2 n16 n15 n14 at9 u c hk0 hkw hka hkt hki hkf hkp (by first | omega | decide) (by first | omega | decide) (by first | omega | decide) (by first | omega | decide) (by first | omega | decide) (by first | omega | decide) (by first | omega | decide) (by first | omega | decide) hk9 (by omega) (by omega) hc hok_275 hm hf_217 hu hf_218 hf_219 hf_220 hf_281) [] [] rfl rfl (by decide) (by decide) (by decide) qc hqc rfl rfl jw_b8e803331f jw_409849e3da jw_7cfaf31817 jw_f96c99f44d jw_3d0e41f30f jn_X11_pass rfl (jj_le rfl) (jj_le rfl) (jj_le rfl) (jj_le rfl) (jj_le rfl) dX11_number_129 rfl (fun _ _ _ hX => hX.elim) (fun rx pl_286 r O_290 => ?_)
                      obtain ⟨rfl, hok_287, hr_288, ha_289, hR_291⟩ := O_290
                      replace hf_217 := hr_288.at hk0 (by decide) (by decide) hf_217
                      replace hf_220 := hr_288.at hk0 (by decide) (by decide) hf_220
                      replace hf_281 := hr_288.at hk0 (by decide) (by decide) hf_281
                      replace hf_282 := hr_288.at hk0 (by decide) (by decide) hf_282
                      replace hu := ha_289.at hk9 (by decide) (by decide) hu
                      replace hm := hm.fr hr_288 hk0 rfl
                      replace hfr := hfr.trans (hr_288.sub (by decide))
                      replace hfa := hfa.trans (ha_289.sub (by decide))
                      rcases hR_291 with ⟨hq_292, hf_293, hf_294, rfl⟩ | ⟨hq_295, ⟨n_296, n_297, hf_298, hf_299, ht_300⟩, rfl⟩
                      · refine jj_iload C dX11_number_132 rfl ?_
                        exact jj_iret C ⟨[], pl_286, rfl, rfl, hok_287, hfr, hfa, (by obtain rfl : n17 = 0 := (by omega); obtain ⟨y9, s9, t9⟩ := hy.no (chk := ps_cN c n16 lo hi) (k := 2) (a1 := n14) (b1 := n15) ((by first | exact Or.inr (Or.inl ⟨⟨by omega, by unfold ps_di; omega⟩, (fun q => by have q1 := q.1; omega), rfl⟩) | exact Or.inr (Or.inl ⟨⟨by omega, by unfold ps_di; omega⟩, (fun q => by have q1 := q.2; have e8 : k_215 = n15 := (by omega); have e9 := hS6.2.2; rw [e8] at e9; omega), rfl⟩))) (by decide); exact ⟨y9, n14, n15, 2, (nI n14), x_216, hf_293, hf_294, hf_281, hf_282, s9, t9, (by omega), (by omega), (by omega), (by omega), (by omega), (fun q => absurd q (by decide)), rfl⟩)⟩ dX11_number_134 (jj_le rfl) (jj_le rfl)
                      · have hzn_296 := ht_300.le (by omega)
                        exfalso; omega
                    · refine jj_aload_n C dX11_number_128 rfl ?_
                      obtain ⟨qc, gs, hqc⟩ := tt_recv (cx := []) hok_275 hk0 (by decide) rfl
                      refine tt_callV (rest := []) C (re_pass hl D cA ak n17 n16 n15 n14 at9 u c hk0 hkw hka hkt hki hkf hkp (by first | omega | decide) (by first | omega | decide) (by first | omega | decide) (by first | omega | decide) (by first | omega | decide) (by first | omega | decide) (by first | omega | decide) (by first | omega | decide) hk9 (by omega) (by omega) hc hok_275 hm hf_217 hu hf_218 hf_219 hf_220 hf_284) [] [] rfl rfl (by decide) (by decide) (by decide) qc hqc rfl rfl jw_b8e803331f jw_409849e3da jw_7cfaf31817 jw_f96c99f44d jw_3d0e41f30f jn_X11_pass rfl (jj_le rfl) (jj_le rfl) (jj_le rfl) (jj_le rfl) (jj_le rfl) dX11_number_129 rfl (fun _ _ _ hX => hX.elim) (fun rx pl_301 r O_305 => ?_)
                      obtain ⟨rfl, hok_302, hr_303, ha_304, hR_306⟩ := O_305
                      replace hf_217 := hr_303.at hk0 (by decide) (by decide) hf_217
                      replace hf_220 := hr_303.at hk0 (by decide) (by decide) hf_220
                      replace hf_284 := hr_303.at hk0 (by decide) (by decide) hf_284
                      replace hf_285 := hr_303.at hk0 (by decide) (by decide) hf_285
                      replace hu := ha_304.at hk9 (by decide) (by decide) hu
                      replace hm := hm.fr hr_303 hk0 rfl
                      replace hfr := hfr.trans (hr_303.sub (by decide))
                      replace hfa := hfa.trans (ha_304.sub (by decide))
                      rcases hR_306 with ⟨hq_307, hf_308, hf_309, rfl⟩ | ⟨hq_310, ⟨n_311, n_312, hf_313, hf_314, ht_315⟩, rfl⟩
                      · refine jj_iload C dX11_number_132 rfl ?_
                        exact jj_iret C ⟨[], pl_301, rfl, rfl, hok_302, hfr, hfa, (by exfalso; omega)⟩ dX11_number_134 (jj_le rfl) (jj_le rfl)
                      · have hzn_311 := ht_315.le (by omega)
                        exfalso; omega
                  · have z_c_230 := jc_nltL (a := y_225.toInt) (b := p1.toInt) c_230 rfl rfl
                    have z_c_231 := jc_nltL (a := p2.toInt) (b := y_225.toInt) c_231 rfl rfl
                    refine jj_if_neT (tgt := 128) C dX11_number_120 (by decide) (by decide) ?_
                    refine jj_aload_n C dX11_number_128 rfl ?_
                    obtain ⟨qc, gs, hqc⟩ := tt_recv (cx := []) hok hk0 (by decide) rfl
                    refine tt_callV (rest := []) C (re_pass hl D cA ak n17 n16 n15 n14 at9 u c hk0 hkw hka hkt hki hkf hkp (by first | omega | decide) (by first | omega | decide) (by first | omega | decide) (by first | omega | decide) (by first | omega | decide) (by first | omega | decide) (by first | omega | decide) (by first | omega | decide) hk9 (by omega) (by omega) hc hok hm hf_217 hu hf_218 hf_219 hf_220 hf_221) [] [] rfl rfl (by decide) (by decide) (by decide) qc hqc rfl rfl jw_b8e803331f jw_409849e3da jw_7cfaf31817 jw_f96c99f44d jw_3d0e41f30f jn_X11_pass rfl (jj_le rfl) (jj_le rfl) (jj_le rfl) (jj_le rfl) (jj_le rfl) dX11_number_129 rfl (fun _ _ _ hX => hX.elim) (fun rx pl_316 r O_320 => ?_)
                    obtain ⟨rfl, hok_317, hr_318, ha_319, hR_321⟩ := O_320
                    replace hf_217 := hr_318.at hk0 (by decide) (by decide) hf_217
                    replace hf_220 := hr_318.at hk0 (by decide) (by decide) hf_220
                    replace hf_221 := hr_318.at hk0 (by decide) (by decide) hf_221
                    replace hf_222 := hr_318.at hk0 (by decide) (by decide) hf_222
                    replace hu := ha_319.at hk9 (by decide) (by decide) hu
                    replace hm := hm.fr hr_318 hk0 rfl
                    replace hfr := hfr.trans (hr_318.sub (by decide))
                    replace hfa := hfa.trans (ha_319.sub (by decide))
                    rcases hR_321 with ⟨hq_322, hf_323, hf_324, rfl⟩ | ⟨hq_325, ⟨n_326, n_327, hf_328, hf_329, ht_330⟩, rfl⟩
                    · refine jj_iload C dX11_number_132 rfl ?_
                      exact jj_iret C ⟨[], pl_316, rfl, rfl, hok_317, hfr, hfa, (by exfalso; omega)⟩ dX11_number_134 (jj_le rfl) (jj_le rfl)
                    · have hzn_326 := ht_330.le (by omega)
                      refine jj_iload C dX11_number_132 rfl ?_
                      exact jj_iret C ⟨[], pl_316, rfl, rfl, hok_317, hfr, hfa, (by obtain rfl : n17 = 0 := (by omega); obtain ⟨y9, s9, t9⟩ := hy.ok (chk := ps_cN c n16 lo hi) (Or.inr (Or.inr ⟨⟨by omega, by unfold ps_di; omega⟩, ⟨by omega, (by have e8 : k_215 = n15 := (by omega); have e9 := hS6.2.2; rw [e8] at e9; omega), (by have e8 : k_215 = n15 := (by omega); have e9 := hS6.2.2; rw [e8] at e9; omega)⟩, rfl⟩)) ht_330; exact ⟨y9, n_326, n_327, 0, x18, x_216, hf_328, hf_329, hf_221, hf_222, s9, t9, (by omega), (by omega), (by omega), (by omega), (by omega), (fun _ => ⟨rfl, (by have e8 : k_215 = n15 := (by omega); have e9 := hS6.2.2; rw [e8] at e9; exact e9), (by omega), (by omega)⟩), rfl⟩)⟩ dX11_number_134 (jj_le rfl) (jj_le rfl)
              · have z_c_223 := jc_nle (a := ((n15 : Nat) : Int)) (b := ((k_215 : Nat) : Int)) c_223 (rl_ti (by omega)) (rl_ti (by omega))
                refine jj_aload_n C dX11_number_75 rfl ?_
                refine tt_getF C hok jk_12 17 (by decide) jw_17e99f0710 (t := (0, (-2147483648), 2147483647)) hk0 (by decide) rfl rfl hf_221 dX11_number_76 ?_
                refine jj_if_ne (tgt := 105) C dX11_number_79 (by decide) (fun c_331 => ?_) (fun c_331 => ?_)
                · have z_c_331 := jc_neq (a := ((n17 : Nat) : Int)) (b := 0) c_331 (rl_ti (by omega)) (by decide)
                  exfalso; omega
                · have z_c_331 := jc_eq (a := ((n17 : Nat) : Int)) (b := 0) c_331 (rl_ti (by omega)) (by decide)
                  refine jj_bipush (v := 10) C dX11_number_82 (by decide) ?_
                  refine jj_iload C dX11_number_84 rfl ?_
                  have hB := ps_val.six (c := c) (s := n14) (b := k_215) (by omega) (fun k p q => (hDG.2 k p (by omega)).2)
                  have hB1 := hS6.2.2
                  obtain ⟨x_332, ex_332, vx_332⟩ := te_10mul (x := x_216) (by omega) (by omega)
                  refine jj_imul (v := x_332) C dX11_number_86 ex_332 ?_
                  refine jj_aload_n C dX11_number_87 rfl ?_
                  refine jj_iload C dX11_number_88 rfl ?_
                  obtain ⟨qc, gs, hqc⟩ := tt_recv (cx := []) hok hk0 (by decide) rfl
                  refine tt_callV (rest := [.int x_332]) C (re_byteAt hl D cA ak n16 at9 u k_215 c hk0 hkw hka hkt hki hkf hkp (by first | omega | decide) (by first | omega | decide) hk9 (by omega) hc hok hm hf_217 hu hf_220) [] [] rfl rfl (by decide) (by decide) (by decide) qc hqc rfl rfl jw_98db775389 jw_8e26deba02 jw_8ef34ac32e jw_f96c99f44d jw_4737f96f0a jn_X11_byteAt rfl (jj_le rfl) (jj_le rfl) (jj_le rfl) (jj_le rfl) (jj_le rfl) dX11_number_90 rfl (fun _ _ _ hX => hX.elim) (fun rx pl_333 r O_337 => ?_)
                  obtain ⟨rfl, hok_334, hr_335, ha_336, hR_338⟩ := O_337
                  replace hf_217 := hr_335.at hk0 (by decide) (by decide) hf_217
                  replace hf_218 := hr_335.at hk0 (by decide) (by decide) hf_218
                  replace hf_219 := hr_335.at hk0 (by decide) (by decide) hf_219
                  replace hf_220 := hr_335.at hk0 (by decide) (by decide) hf_220
                  replace hf_221 := hr_335.at hk0 (by decide) (by decide) hf_221
                  replace hf_222 := hr_335.at hk0 (by decide) (by decide) hf_222
                  replace hu := ha_336.at hk9 (by decide) (by decide) hu
                  replace hm := hm.fr hr_335 hk0 rfl
                  replace hfr := hfr.trans (hr_335.sub (by decide))
                  replace hfa := hfa.trans (ha_336.sub (by decide))
                  rcases hR_338 with ⟨hb_339, rfl⟩ | ⟨hb_340, x_341, hb_342, rfl⟩
                  · exfalso; omega
                  · have lx_341 := tt_lo x_341
                    have ux_341 := tt_hi x_341
                    have hdx := (hDG.2 k_215 (by omega) (by omega)).2
                    unfold ps_di at hdx
                    obtain ⟨x_343, ex_343, vx_343⟩ := tt_iadd (x := x_332) (y := x_341) (a := x_332.toInt) rfl (b := x_341.toInt) rfl (by omega) (by omega)
                    refine jj_iadd (v := x_343) C dX11_number_93 ex_343 ?_
                    refine jj_bipush (v := 48) C dX11_number_94 (by decide) ?_
                    obtain ⟨x_344, ex_344, vx_344⟩ := tt_isub (x := x_343) (y := (48 : Int32)) (a := x_343.toInt) rfl (b := 48) (by decide) (by omega) (by omega)
                    refine jj_isub (v := x_344) C dX11_number_96 ex_344 ?_
                    refine jj_istore C dX11_number_97 (by decide) rfl ?_
                    refine jj_iinc (v := nI (1 + k_215)) C dX11_number_99 rfl (rl_addR (kn := 1) (by decide) (by omega)) (by decide) rfl ?_
                    refine jj_goto (tgt := 66) C dX11_number_102 (by decide) ?_
                    exact ihL_214 pl_333 (1 + k_215) x_344 hok_334 hfr hfa hm hf_217 hf_218 hf_219 hf_220 hf_221 hf_222 hu (by first | omega | decide | exact tt_lo _ | exact tt_hi _) (by first | omega | decide | exact tt_lo _ | exact tt_hi _) (by first | omega | decide | exact tt_lo _ | exact tt_hi _) (by first | omega | decide | exact tt_lo _ | exact tt_hi _) ⟨by omega, by omega, (by rw [show (1 + k_215) - n14 = k_215 + 1 - n14 from by omega, ps_val.step (by omega)]; have q9 := hS6.2.2; omega)⟩ (by first | omega | decide | exact tt_lo _ | exact tt_hi _)
          exact hL_214 _ pl_2 n14 (0 : Int32) trivial hok_3 hfr hfa hm hs12 hs14 hs15 hs16 hs17 hs18 hu (by first | omega | decide | exact tt_lo _ | exact tt_hi _) (by first | omega | decide | exact tt_lo _ | exact tt_hi _) (by first | omega | decide | exact tt_lo _ | exact tt_hi _) (by first | omega | decide | exact tt_lo _ | exact tt_hi _) ⟨by omega, by omega, (by rw [Nat.sub_self]; exact (show (0 : Int32).toInt = (0 : Int) from by decide))⟩ (Int.self_le_toNat _)
        · have z_c_213 := jc_nle (a := x_212.toInt) (b := 7) c_213 rfl (by decide)
          refine jj_aload_n C dX11_number_55 rfl ?_
          refine jj_iconst (v := 2) C dX11_number_56 (by decide) ?_
          obtain ⟨qc, gs, hqc⟩ := tt_recv (cx := []) hok_3 hk0 (by decide) rfl
          refine tt_callV (rest := []) C (re_wrong_2 hl D cA ak x18 n17 n14 hk0 hkw hka hkt hki hkf hkp (by first | omega | decide | exact tt_lo _ | exact tt_hi _) (by first | omega | decide | exact tt_lo _ | exact tt_hi _) (by first | omega | decide) (by first | omega | decide) (by first | omega | decide) (by first | omega | decide) hok_3 hm hs14 hs17 hs18) [] [] rfl rfl (by decide) (by decide) (by decide) qc hqc rfl rfl jw_e206642f3f jw_6f17e07a53 jw_400f18f3e9 jw_f96c99f44d jw_6b1a6dabbc jn_X11_wrong rfl (jj_le rfl) (jj_le rfl) (jj_le rfl) (jj_le rfl) (jj_le rfl) dX11_number_57 rfl (fun _ _ _ hX => hX.elim) (fun rx pl_345 r O_349 => ?_)
          obtain ⟨rfl, hok_346, hr_347, ha_348, hR_350⟩ := O_349
          replace hs12 := hr_347.at hk0 (by decide) (by decide) hs12
          replace hs14 := hr_347.at hk0 (by decide) (by decide) hs14
          replace hs15 := hr_347.at hk0 (by decide) (by decide) hs15
          replace hs16 := hr_347.at hk0 (by decide) (by decide) hs16
          replace hu := ha_348.at hk9 (by decide) (by decide) hu
          replace hm := hm.fr hr_347 hk0 rfl
          replace hfr := hfr.trans (hr_347.sub (by decide))
          replace hfa := hfa.trans (ha_348.sub (by decide))
          rcases hR_350 with ⟨hf_351, hf_352, hf_353, rfl⟩ | ⟨hf_354, hf_355, hf_356, rfl⟩
          · refine jj_aload_n C dX11_number_60 rfl ?_
            refine tt_getF C hok_346 jk_12 14 (by decide) jw_6446e1fd81 (t := (0, 0, 400)) hk0 (by decide) rfl rfl hs14 dX11_number_61 ?_
            refine jj_istore C dX11_number_64 (by decide) rfl ?_
            have hL_357 : ∀ (N : Nat) (pl : va_W) (k_358 : Nat) (x_359 : Int32), True → tt_ok rt_tk cA Kd pl → tt_fr Kd [(1, 14), (1, 15), (1, 17), (1, 18)] pl0 pl → tt_fa Kd [] pl0 pl → rl_m pl h0 aw aa at0 ai af ap → tt_at pl h0 12 (.ref at9) → tt_at pl h0 14 (.int (nI n14)) → tt_at pl h0 15 (.int (nI n15)) → tt_at pl h0 16 (.int (nI n16)) → tt_at pl h0 17 (.int 2) → tt_at pl h0 18 (.int (nI n14)) → tt_ic pl at9 u → (0 : Int) ≤ (k_358 : Int) → (k_358 : Int) ≤ 400 → (0 : Int) ≤ x_359.toInt → x_359.toInt ≤ 2147483647 → (n14 ≤ k_358 ∧ k_358 ≤ n15) → (2147483648 - (k_358 : Int) ≤ (N : Int)) → jj_J p l e (jj_rm 3 65 0 0) s m args below meth c9 7 A (vx_MQ below (jj_q D A (tt_O (fun rx pl1 r => rx = [] ∧ tt_ok rt_tk cA Kd pl1 ∧ tt_fr Kd [(1, 14), (1, 15), (1, 17), (1, 18)] pl0 pl1 ∧ tt_fa Kd [] pl0 pl1 ∧ ((∃ (y : ps_S) (a b m : Nat) (x v : Int32), tt_at pl1 h0 14 (.int (nI a)) ∧ tt_at pl1 h0 15 (.int (nI b)) ∧ tt_at pl1 h0 17 (.int (nI m)) ∧ tt_at pl1 h0 18 (.int x) ∧ ps_step c n16 (ps_cN c n16 lo hi) y0 y ∧ ps_at c n16 y m a b x ∧ a ≤ b ∧ b ≤ n16 ∧ m ≤ 3 ∧ n14 ≤ a ∧ (m = 0 → n15 ≤ a) ∧ (m = 0 → n17 = 0 ∧ v.toInt = ps_val c n14 (n15 - n14) ∧ lo ≤ v.toInt ∧ v.toInt ≤ hi) ∧ r = some (.int v)))))) (jj_x D A (tt_OX (fun _ _ _ => False))) args s 0 0 A) (jj_X D A ([] ++ pl)) 0 0 66 [(6, .int (nI k_358)), (5, .int x_359), (0, .ref h0), (1, .long p1), (3, .long p2)] [] := by
              intro NL_357
              induction NL_357 with
              | zero => intro pl k_358 x_359 _ hok hfr hfa hm hf_360 hf_361 hf_362 hf_363 hf_364 hf_365 hu lk_358 uk_358 lx_359 ux_359 hS6 hNL_357; exfalso; omega
              | succ NL_357 ihL_357 =>
                intro pl k_358 x_359 _ hok hfr hfa hm hf_360 hf_361 hf_362 hf_363 hf_364 hf_365 hu lk_358 uk_358 lx_359 ux_359 hS6 hNL_357
                replace ihL_357 := fun pl k_358 x_359 h1 => ihL_357 pl k_358 x_359 trivial h1
                refine jj_iload C dX11_number_66 rfl ?_
                refine jj_aload_n C dX11_number_68 rfl ?_
                refine tt_getF C hok jk_12 15 (by decide) jw_165232ba7c (t := (0, 0, 400)) hk0 (by decide) rfl rfl hf_362 dX11_number_69 ?_
                refine jj_icmp_ge (tgt := 105) C dX11_number_72 (by decide) (fun c_366 => ?_) (fun c_366 => ?_)
                · have z_c_366 := jc_le (a := ((n15 : Nat) : Int)) (b := ((k_358 : Nat) : Int)) c_366 (rl_ti (by omega)) (rl_ti (by omega))
                  refine jj_aload_n C dX11_number_105 rfl ?_
                  refine tt_getF C hok jk_12 17 (by decide) jw_17e99f0710 (t := (0, (-2147483648), 2147483647)) hk0 (by decide) rfl rfl hf_364 dX11_number_106 ?_
                  refine jj_if_neT (tgt := 128) C dX11_number_109 (by decide) (by decide) ?_
                  refine jj_aload_n C dX11_number_128 rfl ?_
                  obtain ⟨qc, gs, hqc⟩ := tt_recv (cx := []) hok hk0 (by decide) rfl
                  refine tt_callV (rest := []) C (re_pass hl D cA ak 2 n16 n15 n14 at9 u c hk0 hkw hka hkt hki hkf hkp (by first | omega | decide) (by first | omega | decide) (by first | omega | decide) (by first | omega | decide) (by first | omega | decide) (by first | omega | decide) (by first | omega | decide) (by first | omega | decide) hk9 (by omega) (by omega) hc hok hm hf_360 hu hf_361 hf_362 hf_363 hf_364) [] [] rfl rfl (by decide) (by decide) (by decide) qc hqc rfl rfl jw_b8e803331f jw_409849e3da jw_7cfaf31817 jw_f96c99f44d jw_3d0e41f30f jn_X11_pass rfl (jj_le rfl) (jj_le rfl) (jj_le rfl) (jj_le rfl) (jj_le rfl) dX11_number_129 rfl (fun _ _ _ hX => hX.elim) (fun rx pl_367 r O_371 => ?_)
                  obtain ⟨rfl, hok_368, hr_369, ha_370, hR_372⟩ := O_371
                  replace hf_360 := hr_369.at hk0 (by decide) (by decide) hf_360
                  replace hf_363 := hr_369.at hk0 (by decide) (by decide) hf_363
                  replace hf_364 := hr_369.at hk0 (by decide) (by decide) hf_364
                  replace hf_365 := hr_369.at hk0 (by decide) (by decide) hf_365
                  replace hu := ha_370.at hk9 (by decide) (by decide) hu
                  replace hm := hm.fr hr_369 hk0 rfl
                  replace hfr := hfr.trans (hr_369.sub (by decide))
                  replace hfa := hfa.trans (ha_370.sub (by decide))
                  rcases hR_372 with ⟨hq_373, hf_374, hf_375, rfl⟩ | ⟨hq_376, ⟨n_377, n_378, hf_379, hf_380, ht_381⟩, rfl⟩
                  · refine jj_iload C dX11_number_132 rfl ?_
                    exact jj_iret C ⟨[], pl_367, rfl, rfl, hok_368, hfr, hfa, (by obtain rfl : n17 = 0 := (by omega); obtain ⟨y9, s9, t9⟩ := hy.no (chk := ps_cN c n16 lo hi) (k := 2) (a1 := n14) (b1 := n15) ((by first | exact Or.inr (Or.inl ⟨⟨by omega, by unfold ps_di; omega⟩, (fun q => by have q1 := q.1; omega), rfl⟩) | exact Or.inr (Or.inl ⟨⟨by omega, by unfold ps_di; omega⟩, (fun q => by have q1 := q.2; have e8 : k_358 = n15 := (by omega); have e9 := hS6.2.2; rw [e8] at e9; omega), rfl⟩))) (by decide); exact ⟨y9, n14, n15, 2, (nI n14), x_359, hf_374, hf_375, hf_364, hf_365, s9, t9, (by omega), (by omega), (by omega), (by omega), (by omega), (fun q => absurd q (by decide)), rfl⟩)⟩ dX11_number_134 (jj_le rfl) (jj_le rfl)
                  · have hzn_377 := ht_381.le (by omega)
                    exfalso; omega
                · have z_c_366 := jc_nle (a := ((n15 : Nat) : Int)) (b := ((k_358 : Nat) : Int)) c_366 (rl_ti (by omega)) (rl_ti (by omega))
                  refine jj_aload_n C dX11_number_75 rfl ?_
                  refine tt_getF C hok jk_12 17 (by decide) jw_17e99f0710 (t := (0, (-2147483648), 2147483647)) hk0 (by decide) rfl rfl hf_364 dX11_number_76 ?_
                  refine jj_if_neT (tgt := 105) C dX11_number_79 (by decide) (by decide) ?_
                  refine jj_aload_n C dX11_number_105 rfl ?_
                  refine tt_getF C hok jk_12 17 (by decide) jw_17e99f0710 (t := (0, (-2147483648), 2147483647)) hk0 (by decide) rfl rfl hf_364 dX11_number_106 ?_
                  refine jj_if_neT (tgt := 128) C dX11_number_109 (by decide) (by decide) ?_
                  refine jj_aload_n C dX11_number_128 rfl ?_
                  obtain ⟨qc, gs, hqc⟩ := tt_recv (cx := []) hok hk0 (by decide) rfl
                  refine tt_callV (rest := []) C (re_pass hl D cA ak 2 n16 n15 n14 at9 u c hk0 hkw hka hkt hki hkf hkp (by first | omega | decide) (by first | omega | decide) (by first | omega | decide) (by first | omega | decide) (by first | omega | decide) (by first | omega | decide) (by first | omega | decide) (by first | omega | decide) hk9 (by omega) (by omega) hc hok hm hf_360 hu hf_361 hf_362 hf_363 hf_364) [] [] rfl rfl (by decide) (by decide) (by decide) qc hqc rfl rfl jw_b8e803331f jw_409849e3da jw_7cfaf31817 jw_f96c99f44d jw_3d0e41f30f jn_X11_pass rfl (jj_le rfl) (jj_le rfl) (jj_le rfl) (jj_le rfl) (jj_le rfl) dX11_number_129 rfl (fun _ _ _ hX => hX.elim) (fun rx pl_382 r O_386 => ?_)
                  obtain ⟨rfl, hok_383, hr_384, ha_385, hR_387⟩ := O_386
                  replace hf_360 := hr_384.at hk0 (by decide) (by decide) hf_360
                  replace hf_363 := hr_384.at hk0 (by decide) (by decide) hf_363
                  replace hf_364 := hr_384.at hk0 (by decide) (by decide) hf_364
                  replace hf_365 := hr_384.at hk0 (by decide) (by decide) hf_365
                  replace hu := ha_385.at hk9 (by decide) (by decide) hu
                  replace hm := hm.fr hr_384 hk0 rfl
                  replace hfr := hfr.trans (hr_384.sub (by decide))
                  replace hfa := hfa.trans (ha_385.sub (by decide))
                  rcases hR_387 with ⟨hq_388, hf_389, hf_390, rfl⟩ | ⟨hq_391, ⟨n_392, n_393, hf_394, hf_395, ht_396⟩, rfl⟩
                  · refine jj_iload C dX11_number_132 rfl ?_
                    exact jj_iret C ⟨[], pl_382, rfl, rfl, hok_383, hfr, hfa, (by obtain rfl : n17 = 0 := (by omega); obtain ⟨y9, s9, t9⟩ := hy.no (chk := ps_cN c n16 lo hi) (k := 2) (a1 := n14) (b1 := n15) ((by first | exact Or.inr (Or.inl ⟨⟨by omega, by unfold ps_di; omega⟩, (fun q => by have q1 := q.1; omega), rfl⟩) | exact Or.inr (Or.inl ⟨⟨by omega, by unfold ps_di; omega⟩, (fun q => by have q1 := q.2; have e8 : k_358 = n15 := (by omega); have e9 := hS6.2.2; rw [e8] at e9; omega), rfl⟩))) (by decide); exact ⟨y9, n14, n15, 2, (nI n14), x_359, hf_389, hf_390, hf_364, hf_365, s9, t9, (by omega), (by omega), (by omega), (by omega), (by omega), (fun q => absurd q (by decide)), rfl⟩)⟩ dX11_number_134 (jj_le rfl) (jj_le rfl)
                  · have hzn_392 := ht_396.le (by omega)
                    exfalso; omega
            exact hL_357 _ pl_345 n14 (0 : Int32) trivial hok_346 hfr hfa hm hs12 hs14 hs15 hs16 hf_352 hf_353 hu (by first | omega | decide | exact tt_lo _ | exact tt_hi _) (by first | omega | decide | exact tt_lo _ | exact tt_hi _) (by first | omega | decide | exact tt_lo _ | exact tt_hi _) (by first | omega | decide | exact tt_lo _ | exact tt_hi _) ⟨by omega, by omega⟩ (Int.self_le_toNat _)
          · have hDG := (hy.zero2 (by omega)).2.dig (by omega) (by unfold ps_di; omega)
            refine jj_aload_n C dX11_number_60 rfl ?_
            refine tt_getF C hok_346 jk_12 14 (by decide) jw_6446e1fd81 (t := (0, 0, 400)) hk0 (by decide) rfl rfl hs14 dX11_number_61 ?_
            refine jj_istore C dX11_number_64 (by decide) rfl ?_
            have hL_397 : ∀ (N : Nat) (pl : va_W) (k_398 : Nat) (x_399 : Int32), True → tt_ok rt_tk cA Kd pl → tt_fr Kd [(1, 14), (1, 15), (1, 17), (1, 18)] pl0 pl → tt_fa Kd [] pl0 pl → rl_m pl h0 aw aa at0 ai af ap → tt_at pl h0 12 (.ref at9) → tt_at pl h0 14 (.int (nI n14)) → tt_at pl h0 15 (.int (nI n15)) → tt_at pl h0 16 (.int (nI n16)) → tt_at pl h0 17 (.int (nI n17)) → tt_at pl h0 18 (.int x18) → tt_ic pl at9 u → (0 : Int) ≤ (k_398 : Int) → (k_398 : Int) ≤ 400 → (0 : Int) ≤ x_399.toInt → x_399.toInt ≤ 2147483647 → (n14 ≤ k_398 ∧ k_398 ≤ n15 ∧ x_399.toInt = ps_val c n14 (k_398 - n14)) → (2147483648 - (k_398 : Int) ≤ (N : Int)) → jj_J p l e (jj_rm 3 65 0 0) s m args below meth c9 7 A (vx_MQ below (jj_q D A (tt_O (fun rx pl1 r => rx = [] ∧ tt_ok rt_tk cA Kd pl1 ∧ tt_fr Kd [(1, 14), (1, 15), (1, 17), (1, 18)] pl0 pl1 ∧ tt_fa Kd [] pl0 pl1 ∧ ((∃ (y : ps_S) (a b m : Nat) (x v : Int32), tt_at pl1 h0 14 (.int (nI a)) ∧ tt_at pl1 h0 15 (.int (nI b)) ∧ tt_at pl1 h0 17 (.int (nI m)) ∧ tt_at pl1 h0 18 (.int x) ∧ ps_step c n16 (ps_cN c n16 lo hi) y0 y ∧ ps_at c n16 y m a b x ∧ a ≤ b ∧ b ≤ n16 ∧ m ≤ 3 ∧ n14 ≤ a ∧ (m = 0 → n15 ≤ a) ∧ (m = 0 → n17 = 0 ∧ v.toInt = ps_val c n14 (n15 - n14) ∧ lo ≤ v.toInt ∧ v.toInt ≤ hi) ∧ r = some (.int v)))))) (jj_x D A (tt_OX (fun _ _ _ => False))) args s 0 0 A) (jj_X D A ([] ++ pl)) 0 0 66 [(6, .int (nI k_398)), (5, .int x_399), (0, .ref h0), (1, .long p1), (3, .long p2)] [] := by
              intro NL_397
              induction NL_397 with
              | zero => intro pl k_398 x_399 _ hok hfr hfa hm hf_400 hf_401 hf_402 hf_403 hf_404 hf_405 hu lk_398 uk_398 lx_399 ux_399 hS6 hNL_397; exfalso; omega
              | succ NL_397 ihL_397 =>
                intro pl k_398 x_399 _ hok hfr hfa hm hf_400 hf_401 hf_402 hf_403 hf_404 hf_405 hu lk_398 uk_398 lx_399 ux_399 hS6 hNL_397
                replace ihL_397 := fun pl k_398 x_399 h1 => ihL_397 pl k_398 x_399 trivial h1
                refine jj_iload C dX11_number_66 rfl ?_
                refine jj_aload_n C dX11_number_68 rfl ?_
                refine tt_getF C hok jk_12 15 (by decide) jw_165232ba7c (t := (0, 0, 400)) hk0 (by decide) rfl rfl hf_402 dX11_number_69 ?_
                refine jj_icmp_ge (tgt := 105) C dX11_number_72 (by decide) (fun c_406 => ?_) (fun c_406 => ?_)
                · have z_c_406 := jc_le (a := ((n15 : Nat) : Int)) (b := ((k_398 : Nat) : Int)) c_406 (rl_ti (by omega)) (rl_ti (by omega))
                  refine jj_aload_n C dX11_number_105 rfl ?_
                  refine tt_getF C hok jk_12 17 (by decide) jw_17e99f0710 (t := (0, (-2147483648), 2147483647)) hk0 (by decide) rfl rfl hf_404 dX11_number_106 ?_
                  refine jj_if_ne (tgt := 128) C dX11_number_109 (by decide) (fun c_407 => ?_) (fun c_407 => ?_)
                  · have z_c_407 := jc_neq (a := ((n17 : Nat) : Int)) (b := 0) c_407 (rl_ti (by omega)) (by decide)
                    exfalso; omega
                  · have z_c_407 := jc_eq (a := ((n17 : Nat) : Int)) (b := 0) c_407 (rl_ti (by omega)) (by decide)
                    exfalso; omega
                · have z_c_406 := jc_nle (a := ((n15 : Nat) : Int)) (b := ((k_398 : Nat) : Int)) c_406 (rl_ti (by omega)) (rl_ti (by omega))
                  refine jj_aload_n C dX11_number_75 rfl ?_
                  refine tt_getF C hok jk_12 17 (by decide) jw_17e99f0710 (t := (0, (-2147483648), 2147483647)) hk0 (by decide) rfl rfl hf_404 dX11_number_76 ?_
                  refine jj_if_ne (tgt := 105) C dX11_number_79 (by decide) (fun c_408 => ?_) (fun c_408 => ?_)
                  · have z_c_408 := jc_neq (a := ((n17 : Nat) : Int)) (b := 0) c_408 (rl_ti (by omega)) (by decide)
                    exfalso; omega
                  · have z_c_408 := jc_eq (a := ((n17 : Nat) : Int)) (b := 0) c_408 (rl_ti (by omega)) (by decide)
                    exfalso; omega
            exact hL_397 _ pl_345 n14 (0 : Int32) trivial hok_346 hfr hfa hm hs12 hs14 hs15 hs16 hf_355 hf_356 hu (by first | omega | decide | exact tt_lo _ | exact tt_hi _) (by first | omega | decide | exact tt_lo _ | exact tt_hi _) (by first | omega | decide | exact tt_lo _ | exact tt_hi _) (by first | omega | decide | exact tt_lo _ | exact tt_hi _) ⟨by omega, by omega, (by rw [Nat.sub_self]; exact (show (0 : Int32).toInt = (0 : Int) from by decide))⟩ (Int.self_le_toNat _)
  · have z_c_1 := jc_nle (a := ((n17 : Nat) : Int)) (b := 0) c_1 (rl_ti (by omega)) (by decide)
    refine jj_iconst (v := 0) C dX11_number_7 (by decide) ?_
    exact jj_iret C ⟨[], pl0, rfl, rfl, hok, hfr, hfa, (by obtain ⟨y9, s9, t9⟩ := hy.st (chk := ps_cN c n16 lo hi) (a1 := n14) (b1 := n15) (by omega); exact ⟨y9, n14, n15, n17, x18, (0 : Int32), hs14, hs15, hs17, hs18, s9, t9, (by omega), (by omega), (by omega), (by omega), (by omega), (fun q => absurd q (by omega)), rfl⟩)⟩ dX11_number_8 (jj_le rfl) (jj_le rfl)
