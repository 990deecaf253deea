
set_option maxHeartbeats 4000000 in
set_option maxRecDepth 100000 in
theorem re_readSubscription {l : Launch} (hl : l.stackTraces = false) (D : va_G) (cA : Nat → ClassId) (ak : (Nat → Nat) × (Nat → Nat)) {Kd : Nat → Nat} {h0 aw aa at0 ai af ap : Nat} (x18 : Int32) (n17 : Nat) (n16 : Nat) (n15 : Nat) (n14 : Nat) (at9 : Nat) (u : Nat → Int32) (c : Nat → Int) (y0 : ps_S) (i : Int) (j : Nat) (f : Nat → Int64) (hk0 : Kd h0 = 1) (hkw : Kd aw = 2) (hka : Kd aa = 3) (hkt : Kd at0 = 4) (hki : Kd ai = 5) (hkf : Kd af = 6) (hkp : Kd ap = 7) (lx18 : (-2147483648 : Int) ≤ x18.toInt) (ux18 : x18.toInt ≤ 2147483647) (ln17 : (0 : Int) ≤ (n17 : Int)) (un17 : (n17 : Int) ≤ 3) (ln16 : (0 : Int) ≤ (n16 : Int)) (un16 : (n16 : Int) ≤ 400) (ln15 : (0 : Int) ≤ (n15 : Int)) (un15 : (n15 : Int) ≤ 400) (ln14 : (0 : Int) ≤ (n14 : Int)) (un14 : (n14 : Int) ≤ 400) (hk9 : Kd at9 = 10) (h45 : n14 ≤ n15) (h56 : n15 ≤ n16) (hc : ∀ k : Nat, k < n16 → c k = ((u k) &&& 255).toInt) (h7 : n17 = 0) (hF : rl_FR f) (hi : (f 0).toInt = i) (hj : (f 8).toInt = (j : Int)) (hy : ps_at c n16 y0 n17 n14 n15 x18) {pl0 : va_W} (hok : tt_ok rt_tk cA Kd pl0) (hm : rl_m pl0 h0 aw aa at0 ai af ap) (hCf : tt_lc pl0 af f) (hs12 : tt_at pl0 h0 12 (.ref at9)) (hu : tt_ic pl0 at9 u) (hs14 : tt_at pl0 h0 14 (.int (nI n14))) (hs15 : tt_at pl0 h0 15 (.int (nI n15))) (hs16 : tt_at pl0 h0 16 (.int (nI n16))) (hs17 : tt_at pl0 h0 17 (.int (nI n17))) (hs18 : tt_at pl0 h0 18 (.int x18)) : jj_M l D cA ak yX11_readSubscription (.code yX11_readSubscription cX11_readSubscription 3 none) 6 129 0 0 ([] ++ pl0) [.ref h0] (tt_O (fun rx pl1 r => rx = [] ∧ tt_ok rt_tk cA Kd pl1 ∧ tt_fr Kd [(1, 14), (1, 15), (1, 17), (1, 18)] pl0 pl1 ∧ tt_fa Kd [6] pl0 pl1 ∧ ((∃ (y : ps_S) (g : Nat → Int64) (a b m : Nat) (x : Int32), tt_lc pl1 af g ∧ tt_at pl1 h0 14 (.int (nI a)) ∧ tt_at pl1 h0 15 (.int (nI b)) ∧ tt_at pl1 h0 17 (.int (nI m)) ∧ tt_at pl1 h0 18 (.int x) ∧ ps_sub c n16 i j y0 y ∧ ps_at c n16 y m a b x ∧ n14 ≤ a ∧ a ≤ b ∧ b ≤ n16 ∧ m ≤ 3 ∧ (m = 0 → n14 + 1 ≤ a) ∧ (m = 0 → rl_FR g ∧ (g 0).toInt = i ∧ (g 8).toInt = (j : Int) + 1) ∧ r = none)))) (tt_OX (fun _ _ _ => False)) := by
  refine jj_start hl (by decide) jw_da8ec0ee3d (jj_le rfl) ?_
  intro p e s m args below meth c9 A hargs hA C hex hmn
  have hfr := tt_fr.refl (K := Kd) (WS := [(1, 14), (1, 15), (1, 17), (1, 18)]) pl0
  have hfa := tt_fa.refl (K := Kd) (WA := [6]) pl0
  have hH := hF.1.1.1
  obtain ⟨⟨g0a, g0b⟩, ⟨g1a, g1b⟩, ⟨g6a, g6b⟩, ⟨g7a, g7b⟩, ⟨g8a, g8b⟩⟩ := hH
  subst h7
  refine jj_aload_n C dX11_readSubscription_0 rfl ?_
  refine jj_ldcsw (k := 25) (tx := "subscribe") C dX11_readSubscription_1 (by decide +kernel) ?_
  obtain ⟨qc, gs, hqc⟩ := tt_recv (cx := []) hok hk0 (by decide) rfl
  refine tt_callV (rest := []) C (re_isWord_subscribe hl D cA ak n16 n15 n14 at9 u c hk0 hkw hka hkt hki hkf hkp (by first | omega | decide) (by first | omega | decide) (by first | omega | decide) (by first | omega | decide) (by first | omega | decide) (by first | omega | decide) hk9 (by omega) (by omega) hc hok hm hs12 hu hs14 hs15 hs16) [] [] rfl rfl (by decide) (by decide) (by decide) qc hqc rfl rfl jw_04296bb1c5 jw_2d2d3dccfc jw_f04e1767ef jw_f96c99f44d jw_f54d9c537b jn_X11_isWord rfl (jj_le rfl) (jj_le rfl) (jj_le rfl) (jj_le rfl) (jj_le rfl) dX11_readSubscription_4 rfl (fun _ _ _ hX => hX.elim) (fun rx pl_1 r O_5 => ?_)
  obtain ⟨rfl, hok_2, hr_3, ha_4, hR_6⟩ := O_5
  replace hs12 := hr_3.at hk0 (by decide) (by decide) hs12
  replace hs14 := hr_3.at hk0 (by decide) (by decide) hs14
  replace hs15 := hr_3.at hk0 (by decide) (by decide) hs15
  replace hs16 := hr_3.at hk0 (by decide) (by decide) hs16
  replace hs17 := hr_3.at hk0 (by decide) (by decide) hs17
  replace hs18 := hr_3.at hk0 (by decide) (by decide) hs18
  replace hCf := ha_4.at hkf (by decide) (by decide) hCf
  replace hu := ha_4.at hk9 (by decide) (by decide) hu
  replace hm := hm.fr hr_3 hk0 rfl
  replace hfr := hfr.trans (hr_3.sub (by decide))
  replace hfa := hfa.trans (ha_4.sub (by decide))
  rcases hR_6 with ⟨hw_7, rfl⟩ | ⟨hw_8, rfl⟩
  · refine jj_if_neF (tgt := 15) C dX11_readSubscription_7 (by decide) (by decide) ?_
    refine jj_aload_n C dX11_readSubscription_10 rfl ?_
    refine jj_iconst (v := 1) C dX11_readSubscription_11 (by decide) ?_
    obtain ⟨qc, gs, hqc⟩ := tt_recv (cx := []) hok_2 hk0 (by decide) rfl
    refine tt_callV (rest := []) C (re_wrong_1 hl D cA ak x18 0 n14 hk0 hkw hka hkt hki hkf hkp (by first | omega | decide | exact tt_lo _ | exact tt_hi _) (by first | omega | decide | exact tt_lo _ | exact tt_hi _) (by first | omega | decide) (by first | omega | decide) (by first | omega | decide) (by first | omega | decide) hok_2 hm hs14 hs17 hs18) [] [] rfl rfl (by decide) (by decide) (by decide) qc hqc rfl rfl jw_e206642f3f jw_6f17e07a53 jw_400f18f3e9 jw_f96c99f44d jw_6b1a6dabbc jn_X11_wrong rfl (jj_le rfl) (jj_le rfl) (jj_le rfl) (jj_le rfl) (jj_le rfl) dX11_readSubscription_12 rfl (fun _ _ _ hX => hX.elim) (fun rx pl_9 r O_13 => ?_)
    obtain ⟨rfl, hok_10, hr_11, ha_12, hR_14⟩ := O_13
    replace hs12 := hr_11.at hk0 (by decide) (by decide) hs12
    replace hs14 := hr_11.at hk0 (by decide) (by decide) hs14
    replace hs15 := hr_11.at hk0 (by decide) (by decide) hs15
    replace hs16 := hr_11.at hk0 (by decide) (by decide) hs16
    replace hCf := ha_12.at hkf (by decide) (by decide) hCf
    replace hu := ha_12.at hk9 (by decide) (by decide) hu
    replace hm := hm.fr hr_11 hk0 rfl
    replace hfr := hfr.trans (hr_11.sub (by decide))
    replace hfa := hfa.trans (ha_12.sub (by decide))
    rcases hR_14 with ⟨hf_15, hf_16, hf_17, rfl⟩ | ⟨hf_18, hf_19, hf_20, rfl⟩
    · refine jj_aload_n C dX11_readSubscription_15 rfl ?_
      refine tt_getF C hok_10 jk_12 4 (by decide) jw_69cfdf3f6e (t := (2, 6, 0)) hk0 (by decide) rfl rfl hm.2.2.2.2.1 dX11_readSubscription_16 ?_
      refine jj_bipush (v := 8) C dX11_readSubscription_19 (by decide) ?_
      refine rl_lald C hok_10 (t := (1, (-9223372036854775808), 9223372036854775807)) hkf (by decide) rfl (k := 8) (v := (f 8)) (vp_in_iff.mpr (by decide)) hCf (by decide) rfl dX11_readSubscription_21 ?_
      refine jj_ldc2 (v := 12) C dX11_readSubscription_22 jw_f3ff61ad3e ?_
      refine jj_lcmp_ne (tgt := 34) C dX11_readSubscription_25 dX11_readSubscription_26 (by decide) (fun c_21 => ?_) (fun c_21 => ?_)
      · have z_c_21 := jc_neqL (a := (f 8).toInt) (b := 12) c_21 rfl (by decide)
        refine jj_aload_n C dX11_readSubscription_34 rfl ?_
        obtain ⟨qc, gs, hqc⟩ := tt_recv (cx := []) hok_10 hk0 (by decide) rfl
        refine tt_callV (rest := []) C (re_pass hl D cA ak 1 n16 n15 n14 at9 u c hk0 hkw hka hkt hki hkf hkp (by first | omega | decide) (by first | omega | decide) (by first | omega | decide) (by first | omega | decide) (by first | omega | decide) (by first | omega | decide) (by first | omega | decide) (by first | omega | decide) hk9 (by omega) (by omega) hc hok_10 hm hs12 hu hs14 hs15 hs16 hf_16) [] [] rfl rfl (by decide) (by decide) (by decide) qc hqc rfl rfl jw_b8e803331f jw_409849e3da jw_7cfaf31817 jw_f96c99f44d jw_3d0e41f30f jn_X11_pass rfl (jj_le rfl) (jj_le rfl) (jj_le rfl) (jj_le rfl) (jj_le rfl) dX11_readSubscription_35 rfl (fun _ _ _ hX => hX.elim) (fun rx pl_22 r O_26 => ?_)
        obtain ⟨rfl, hok_23, hr_24, ha_25, hR_27⟩ := O_26
        replace hs12 := hr_24.at hk0 (by decide) (by decide) hs12
        replace hs16 := hr_24.at hk0 (by decide) (by decide) hs16
        replace hf_16 := hr_24.at hk0 (by decide) (by decide) hf_16
        replace hf_17 := hr_24.at hk0 (by decide) (by decide) hf_17
        replace hCf := ha_25.at hkf (by decide) (by decide) hCf
        replace hu := ha_25.at hk9 (by decide) (by decide) hu
        replace hm := hm.fr hr_24 hk0 rfl
        replace hfr := hfr.trans (hr_24.sub (by decide))
        replace hfa := hfa.trans (ha_25.sub (by decide))
        rcases hR_27 with ⟨hq_28, hf_29, hf_30, rfl⟩ | ⟨hq_31, ⟨n_32, n_33, hf_34, hf_35, ht_36⟩, rfl⟩
        · obtain ⟨y_37, hs_38, hy_39⟩ : ∃ z : ps_S, ps_step c n16 (ps_cS c j) y0 z ∧ ps_at c n16 z 1 n14 n15 (nI n14) := ps_at.no2 (chk := ps_cS c j) (k := 1) _ _ hy (by omega) (Or.inl ⟨hw_7, rfl⟩) (by decide)
          have hN1 := te_lsub1 (x := f 0) (by omega) (by omega)
          refine jj_aload_n C dX11_readSubscription_38 rfl ?_
          refine jj_lconst (v := 0) C dX11_readSubscription_39 (by decide) ?_
          refine jj_aload_n C dX11_readSubscription_40 rfl ?_
          refine tt_getF C hok_23 jk_12 4 (by decide) jw_69cfdf3f6e (t := (2, 6, 0)) hk0 (by decide) rfl rfl hm.2.2.2.2.1 dX11_readSubscription_41 ?_
          refine jj_iconst (v := 0) C dX11_readSubscription_44 (by decide) ?_
          refine rl_lald C hok_23 (t := (1, (-9223372036854775808), 9223372036854775807)) hkf (by decide) rfl (k := 0) (v := (f 0)) (vp_in_iff.mpr (by decide)) hCf (by decide) rfl dX11_readSubscription_45 ?_
          refine jj_lconst (v := 1) C dX11_readSubscription_46 (by decide) ?_
          refine jj_lsub C dX11_readSubscription_47 rfl ?_
          obtain ⟨qc, gs, hqc⟩ := tt_recv (cx := []) hok_23 hk0 (by decide) rfl
          refine tt_callV (rest := []) C (re_number hl D cA ak (nI n14) 1 n16 n15 n14 at9 u c y_37 (0 : Int64) ((f 0) - (1 : Int64)) 0 (i - 1) hk0 hkw hka hkt hki hkf hkp (by first | omega | decide | exact tt_lo _ | exact tt_hi _) (by first | omega | decide | exact tt_lo _ | exact tt_hi _) (by first | omega | decide) (by first | omega | decide) (by first | omega | decide) (by first | omega | decide) (by first | omega | decide) (by first | omega | decide) (by first | omega | decide) (by first | omega | decide) hk9 (by omega) (by omega) hc hy_39 (by decide) (by rw [hN1, hi]) hok_23 hm hs12 hu hf_29 hf_30 hs16 hf_16 hf_17) [] [] rfl rfl (by decide) (by decide) (by decide) qc hqc rfl rfl jw_adb570a667 jw_970096b033 jw_c6bab24534 jw_f96c99f44d jw_2d66378959 jn_X11_number rfl (jj_le rfl) (jj_le rfl) (jj_le rfl) (jj_le rfl) (jj_le rfl) dX11_readSubscription_48 rfl (fun _ _ _ hX => hX.elim) (fun rx pl_40 r O_44 => ?_)
          obtain ⟨rfl, hok_41, hr_42, ha_43, hR_45⟩ := O_44
          replace hs12 := hr_42.at hk0 (by decide) (by decide) hs12
          replace hs16 := hr_42.at hk0 (by decide) (by decide) hs16
          replace hCf := ha_43.at hkf (by decide) (by decide) hCf
          replace hu := ha_43.at hk9 (by decide) (by decide) hu
          replace hm := hm.fr hr_42 hk0 rfl
          replace hfr := hfr.trans (hr_42.sub (by decide))
          replace hfa := hfa.trans (ha_43.sub (by decide))
          obtain ⟨y_51, n_46, n_47, n_48, x_49, x_50, hf_52, hf_53, hf_54, hf_55, hs_56, hy_57, hq_58, hq_59, hq_60, hq_61, hq_62, hq_63, rfl⟩ := hR_45
          have lx_49 := tt_lo x_49
          have ux_49 := tt_hi x_49
          have lx_50 := tt_lo x_50
          have ux_50 := tt_hi x_50
          refine jj_istore_n C dX11_readSubscription_51 (by decide) rfl ?_
          refine jj_aload_n C dX11_readSubscription_52 rfl ?_
          refine jj_lconst (v := 1) C dX11_readSubscription_53 (by decide) ?_
          refine jj_ldc2 (v := 9999999) C dX11_readSubscription_54 jw_ee60e309b3 ?_
          obtain ⟨qc, gs, hqc⟩ := tt_recv (cx := []) hok_41 hk0 (by decide) rfl
          refine tt_callV (rest := []) C (re_number hl D cA ak x_49 n_48 n16 n_47 n_46 at9 u c y_51 (1 : Int64) (9999999 : Int64) 1 9999999 hk0 hkw hka hkt hki hkf hkp (by first | omega | decide | exact tt_lo _ | exact tt_hi _) (by first | omega | decide | exact tt_lo _ | exact tt_hi _) (by first | omega | decide) (by first | omega | decide) (by first | omega | decide) (by first | omega | decide) (by first | omega | decide) (by first | omega | decide) (by first | omega | decide) (by first | omega | decide) hk9 (by omega) (by omega) hc hy_57 (by decide) (by decide) hok_41 hm hs12 hu hf_52 hf_53 hs16 hf_54 hf_55) [] [] rfl rfl (by decide) (by decide) (by decide) qc hqc rfl rfl jw_adb570a667 jw_970096b033 jw_c6bab24534 jw_f96c99f44d jw_2d66378959 jn_X11_number rfl (jj_le rfl) (jj_le rfl) (jj_le rfl) (jj_le rfl) (jj_le rfl) dX11_readSubscription_57 rfl (fun _ _ _ hX => hX.elim) (fun rx pl_64 r O_68 => ?_)
          obtain ⟨rfl, hok_65, hr_66, ha_67, hR_69⟩ := O_68
          replace hs12 := hr_66.at hk0 (by decide) (by decide) hs12
          replace hs16 := hr_66.at hk0 (by decide) (by decide) hs16
          replace hCf := ha_67.at hkf (by decide) (by decide) hCf
          replace hu := ha_67.at hk9 (by decide) (by decide) hu
          replace hm := hm.fr hr_66 hk0 rfl
          replace hfr := hfr.trans (hr_66.sub (by decide))
          replace hfa := hfa.trans (ha_67.sub (by decide))
          obtain ⟨y_75, n_70, n_71, n_72, x_73, x_74, hf_76, hf_77, hf_78, hf_79, hs_80, hy_81, hq_82, hq_83, hq_84, hq_85, hq_86, hq_87, rfl⟩ := hR_69
          have lx_73 := tt_lo x_73
          have ux_73 := tt_hi x_73
          have lx_74 := tt_lo x_74
          have ux_74 := tt_hi x_74
          refine jj_istore_n C dX11_readSubscription_60 (by decide) rfl ?_
          refine jj_aload_n C dX11_readSubscription_61 rfl ?_
          refine jj_ldcsw (k := 23) (tx := ";") C dX11_readSubscription_62 (by decide +kernel) ?_
          obtain ⟨qc, gs, hqc⟩ := tt_recv (cx := []) hok_65 hk0 (by decide) rfl
          refine tt_callV (rest := []) C (re_must_semi hl D cA ak x_73 n_72 n16 n_71 n_70 at9 u c y_75 hk0 hkw hka hkt hki hkf hkp (by first | omega | decide | exact tt_lo _ | exact tt_hi _) (by first | omega | decide | exact tt_lo _ | exact tt_hi _) (by first | omega | decide) (by first | omega | decide) (by first | omega | decide) (by first | omega | decide) (by first | omega | decide) (by first | omega | decide) (by first | omega | decide) (by first | omega | decide) hk9 (by omega) (by omega) hc hy_81 hok_65 hm hs12 hu hf_76 hf_77 hs16 hf_78 hf_79) [] [] rfl rfl (by decide) (by decide) (by decide) qc hqc rfl rfl jw_567bcddfb2 jw_5c84fa4094 jw_52b545b3e3 jw_f96c99f44d jw_84234b4b1a jn_X11_must rfl (jj_le rfl) (jj_le rfl) (jj_le rfl) (jj_le rfl) (jj_le rfl) dX11_readSubscription_65 rfl (fun _ _ _ hX => hX.elim) (fun rx pl_88 r O_92 => ?_)
          obtain ⟨rfl, hok_89, hr_90, ha_91, hR_93⟩ := O_92
          replace hs12 := hr_90.at hk0 (by decide) (by decide) hs12
          replace hs16 := hr_90.at hk0 (by decide) (by decide) hs16
          replace hCf := ha_91.at hkf (by decide) (by decide) hCf
          replace hu := ha_91.at hk9 (by decide) (by decide) hu
          replace hm := hm.fr hr_90 hk0 rfl
          replace hfr := hfr.trans (hr_90.sub (by decide))
          replace hfa := hfa.trans (ha_91.sub (by decide))
          obtain ⟨y_98, n_94, n_95, n_96, x_97, hf_99, hf_100, hf_101, hf_102, hs_103, hy_104, hq_105, hq_106, hq_107, hq_108, hq_109, rfl⟩ := hR_93
          have lx_97 := tt_lo x_97
          have ux_97 := tt_hi x_97
          refine jj_aload_n C dX11_readSubscription_68 rfl ?_
          refine tt_getF C hok_89 jk_12 17 (by decide) jw_17e99f0710 (t := (0, (-2147483648), 2147483647)) hk0 (by decide) rfl rfl hf_101 dX11_readSubscription_69 ?_
          refine jj_if_ne (tgt := 87) C dX11_readSubscription_72 (by decide) (fun c_110 => ?_) (fun c_110 => ?_)
          · have z_c_110 := jc_neq (a := ((n_96 : Nat) : Int)) (b := 0) c_110 (rl_ti (by omega)) (by decide)
            have hM : n_96 = 0 → n_72 = 0 ∧ n_48 = 0 := fun z9 => by
              have w3 := hy_104.mz.mp z9
              have w2 := ps_step.err hs_103 w3
              have w1 := ps_step.err hs_80 w2
              exact ⟨hy_81.mz.mpr w2, hy_57.mz.mpr w1⟩
            exact jj_vret C ⟨[], pl_88, rfl, rfl, hok_89, hfr, hfa, ⟨y_98, _, n_94, n_95, n_96, x_97, hCf, hf_99, hf_100, hf_101, hf_102, ⟨y_37, y_51, y_75, hs_38, hs_56, hs_80, hs_103⟩, hy_104, (by omega), (by omega), (by omega), (by omega), (by omega), (fun z9 => by exfalso; omega), rfl⟩⟩ dX11_readSubscription_87 (jj_le rfl) (jj_le rfl)
          · have z_c_110 := jc_eq (a := ((n_96 : Nat) : Int)) (b := 0) c_110 (rl_ti (by omega)) (by decide)
            have hM0 : n_72 = 0 ∧ n_48 = 0 := by
              have w3 := hy_104.mz.mp (by omega)
              have w2 := ps_step.err hs_103 w3
              have w1 := ps_step.err hs_80 w2
              exact ⟨hy_81.mz.mpr w2, hy_57.mz.mpr w1⟩
            have hQ2 := hq_87 hM0.1
            have hQ1 := hq_63 hM0.2
            refine jj_aload_n C dX11_readSubscription_75 rfl ?_
            refine jj_aload_n C dX11_readSubscription_76 rfl ?_
            refine tt_getF C hok_89 jk_12 4 (by decide) jw_69cfdf3f6e (t := (2, 6, 0)) hk0 (by decide) rfl rfl hm.2.2.2.2.1 dX11_readSubscription_77 ?_
            refine jj_iload_n C dX11_readSubscription_80 rfl ?_
            refine jj_lconst (v := 0) C dX11_readSubscription_81 (by decide) ?_
            refine jj_iload_n C dX11_readSubscription_82 rfl ?_
            obtain ⟨y_111, ey_111, vy_111⟩ := tt_i2l x_74
            refine jj_i2l (v := y_111) C dX11_readSubscription_83 ey_111 ?_
            obtain ⟨qc, gs, hqc⟩ := tt_recv (cx := []) hok_89 hk0 (by decide) rfl
            refine tt_callV (rest := []) C (rs_ask_af hl D cA ak x_50 (0 : Int64) y_111 400000000 400000000 f hk0 hkw hka hkt hki hkf hkp hF.1 (by omega) (Or.inl rfl) (fun _ => ⟨by omega, by omega⟩) (by rw [if_pos rfl]; have := hF.2.2.2; omega) hok_89 hm hCf) [] [] rfl rfl (by decide) (by decide) (by decide) qc hqc rfl rfl jw_5aa504ca27 jw_8305b013c0 jw_b768ebc9da jw_f96c99f44d jw_244fd0acfd jn_X11_ask rfl (jj_le rfl) (jj_le rfl) (jj_le rfl) (jj_le rfl) (jj_le rfl) dX11_readSubscription_84 rfl (fun _ _ _ hX => hX.elim) (fun rx pl_112 r O_116 => ?_)
            obtain ⟨rfl, hok_113, hr_114, ha_115, hR_117⟩ := O_116
            replace hs12 := hr_114.at hk0 (by decide) (by decide) hs12
            replace hs16 := hr_114.at hk0 (by decide) (by decide) hs16
            replace hf_99 := hr_114.at hk0 (by decide) (by decide) hf_99
            replace hf_100 := hr_114.at hk0 (by decide) (by decide) hf_100
            replace hf_101 := hr_114.at hk0 (by decide) (by decide) hf_101
            replace hf_102 := hr_114.at hk0 (by decide) (by decide) hf_102
            replace hu := ha_115.at hk9 (by decide) (by decide) hu
            replace hm := hm.fr hr_114 hk0 rfl
            replace hfr := hfr.trans (hr_114.sub (by decide))
            replace hfa := hfa.trans (ha_115.sub (by decide))
            obtain ⟨g_118, hC_119, hI_120, hq_121, hq_122, hq_123, hq_124, rfl⟩ := hR_117
            have hM : n_96 = 0 → n_72 = 0 ∧ n_48 = 0 := fun z9 => by
              have w3 := hy_104.mz.mp z9
              have w2 := ps_step.err hs_103 w3
              have w1 := ps_step.err hs_80 w2
              exact ⟨hy_81.mz.mpr w2, hy_57.mz.mpr w1⟩
            exact jj_vret C ⟨[], pl_112, rfl, rfl, hok_113, hfr, hfa, ⟨y_98, _, n_94, n_95, n_96, x_97, hC_119, hf_99, hf_100, hf_101, hf_102, ⟨y_37, y_51, y_75, hs_38, hs_56, hs_80, hs_103⟩, hy_104, (by omega), (by omega), (by omega), (by omega), (by omega), (fun _ => ⟨rl_FR.ask (a := y_111.toInt) hF hI_120 (by have q9 := hq_121; rw [if_pos rfl] at q9; exact q9) (by omega) hq_122 (hq_123 9 (by decide) (by decide)) hq_124, (by have q9 := hq_123 0 (by decide) (by decide); rw [q9]; exact hi), (by have q9 := hq_124; omega)⟩), rfl⟩⟩ dX11_readSubscription_87 (jj_le rfl) (jj_le rfl)
        · have hzn_32 := ht_36.le (by omega)
          exfalso; omega
      · have z_c_21 := jc_eqL (a := (f 8).toInt) (b := 12) c_21 rfl (by decide)
        refine jj_aload_n C dX11_readSubscription_29 rfl ?_
        refine jj_iconst (v := 3) C dX11_readSubscription_30 (by decide) ?_
        obtain ⟨qc, gs, hqc⟩ := tt_recv (cx := []) hok_10 hk0 (by decide) rfl
        refine tt_callV (rest := []) C (re_wrong_3 hl D cA ak (nI n14) 1 n14 hk0 hkw hka hkt hki hkf hkp (by first | omega | decide | exact tt_lo _ | exact tt_hi _) (by first | omega | decide | exact tt_lo _ | exact tt_hi _) (by first | omega | decide) (by first | omega | decide) (by first | omega | decide) (by first | omega | decide) hok_10 hm hs14 hf_16 hf_17) [] [] rfl rfl (by decide) (by decide) (by decide) qc hqc rfl rfl jw_e206642f3f jw_6f17e07a53 jw_400f18f3e9 jw_f96c99f44d jw_6b1a6dabbc jn_X11_wrong rfl (jj_le rfl) (jj_le rfl) (jj_le rfl) (jj_le rfl) (jj_le rfl) dX11_readSubscription_31 rfl (fun _ _ _ hX => hX.elim) (fun rx pl_125 r O_129 => ?_)
        obtain ⟨rfl, hok_126, hr_127, ha_128, hR_130⟩ := O_129
        replace hs12 := hr_127.at hk0 (by decide) (by decide) hs12
        replace hs14 := hr_127.at hk0 (by decide) (by decide) hs14
        replace hs15 := hr_127.at hk0 (by decide) (by decide) hs15
        replace hs16 := hr_127.at hk0 (by decide) (by decide) hs16
        replace hCf := ha_128.at hkf (by decide) (by decide) hCf
        replace hu := ha_128.at hk9 (by decide) (by decide) hu
        replace hm := hm.fr hr_127 hk0 rfl
        replace hfr := hfr.trans (hr_127.sub (by decide))
        replace hfa := hfa.trans (ha_128.sub (by decide))
        rcases hR_130 with ⟨hf_131, hf_132, hf_133, rfl⟩ | ⟨hf_134, hf_135, hf_136, rfl⟩
        · exfalso; omega
        · refine jj_aload_n C dX11_readSubscription_34 rfl ?_
          obtain ⟨qc, gs, hqc⟩ := tt_recv (cx := []) hok_126 hk0 (by decide) rfl
          refine tt_callV (rest := []) C (re_pass hl D cA ak 1 n16 n15 n14 at9 u c hk0 hkw hka hkt hki hkf hkp (by first | omega | decide) (by first | omega | decide) (by first | omega | decide) (by first | omega | decide) (by first | omega | decide) (by first | omega | decide) (by first | omega | decide) (by first | omega | decide) hk9 (by omega) (by omega) hc hok_126 hm hs12 hu hs14 hs15 hs16 hf_135) [] [] rfl rfl (by decide) (by decide) (by decide) qc hqc rfl rfl jw_b8e803331f jw_409849e3da jw_7cfaf31817 jw_f96c99f44d jw_3d0e41f30f jn_X11_pass rfl (jj_le rfl) (jj_le rfl) (jj_le rfl) (jj_le rfl) (jj_le rfl) dX11_readSubscription_35 rfl (fun _ _ _ hX => hX.elim) (fun rx pl_137 r O_141 => ?_)
          obtain ⟨rfl, hok_138, hr_139, ha_140, hR_142⟩ := O_141
          replace hs12 := hr_139.at hk0 (by decide) (by decide) hs12
          replace hs16 := hr_139.at hk0 (by decide) (by decide) hs16
          replace hf_135 := hr_139.at hk0 (by decide) (by decide) hf_135
          replace hf_136 := hr_139.at hk0 (by decide) (by decide) hf_136
          replace hCf := ha_140.at hkf (by decide) (by decide) hCf
          replace hu := ha_140.at hk9 (by decide) (by decide) hu
          replace hm := hm.fr hr_139 hk0 rfl
          replace hfr := hfr.trans (hr_139.sub (by decide))
          replace hfa := hfa.trans (ha_140.sub (by decide))
          rcases hR_142 with ⟨hq_143, hf_144, hf_145, rfl⟩ | ⟨hq_146, ⟨n_147, n_148, hf_149, hf_150, ht_151⟩, rfl⟩
          · obtain ⟨y_152, hs_153, hy_154⟩ : ∃ z : ps_S, ps_step c n16 (ps_cS c j) y0 z ∧ ps_at c n16 z 1 n14 n15 (nI n14) := ps_at.no2 (chk := ps_cS c j) (k := 1) _ _ hy (by omega) (Or.inl ⟨hw_7, rfl⟩) (by decide)
            have hN1 := te_lsub1 (x := f 0) (by omega) (by omega)
            refine jj_aload_n C dX11_readSubscription_38 rfl ?_
            refine jj_lconst (v := 0) C dX11_readSubscription_39 (by decide) ?_
            refine jj_aload_n C dX11_readSubscription_40 rfl ?_
            refine tt_getF C hok_138 jk_12 4 (by decide) jw_69cfdf3f6e (t := (2, 6, 0)) hk0 (by decide) rfl rfl hm.2.2.2.2.1 dX11_readSubscription_41 ?_
            refine jj_iconst (v := 0) C dX11_readSubscription_44 (by decide) ?_
            refine rl_lald C hok_138 (t := (1, (-9223372036854775808), 9223372036854775807)) hkf (by decide) rfl (k := 0) (v := (f 0)) (vp_in_iff.mpr (by decide)) hCf (by decide) rfl dX11_readSubscription_45 ?_
            refine jj_lconst (v := 1) C dX11_readSubscription_46 (by decide) ?_
            refine jj_lsub C dX11_readSubscription_47 rfl ?_
            obtain ⟨qc, gs, hqc⟩ := tt_recv (cx := []) hok_138 hk0 (by decide) rfl
            refine tt_callV (rest := []) C (re_number hl D cA ak (nI n14) 1 n16 n15 n14 at9 u c y_152 (0 : Int64) ((f 0) - (1 : Int64)) 0 (i - 1) hk0 hkw hka hkt hki hkf hkp (by first | omega | decide | exact tt_lo _ | exact tt_hi _) (by first | omega | decide | exact tt_lo _ | exact tt_hi _) (by first | omega | decide) (by first | omega | decide) (by first | omega | decide) (by first | omega | decide) (by first | omega | decide) (by first | omega | decide) (by first | omega | decide) (by first | omega | decide) hk9 (by omega) (by omega) hc hy_154 (by decide) (by rw [hN1, hi]) hok_138 hm hs12 hu hf_144 hf_145 hs16 hf_135 hf_136) [] [] rfl rfl (by decide) (by decide) (by decide) qc hqc rfl rfl jw_adb570a667 jw_970096b033 jw_c6bab24534 jw_f96c99f44d jw_2d66378959 jn_X11_number rfl (jj_le rfl) (jj_le rfl) (jj_le rfl) (jj_le rfl) (jj_le rfl) dX11_readSubscription_48 rfl (fun _ _ _ hX => hX.elim) (fun rx pl_155 r O_159 => ?_)
            obtain ⟨rfl, hok_156, hr_157, ha_158, hR_160⟩ := O_159
            replace hs12 := hr_157.at hk0 (by decide) (by decide) hs12
            replace hs16 := hr_157.at hk0 (by decide) (by decide) hs16
            replace hCf := ha_158.at hkf (by decide) (by decide) hCf
            replace hu := ha_158.at hk9 (by decide) (by decide) hu
            replace hm := hm.fr hr_157 hk0 rfl
            replace hfr := hfr.trans (hr_157.sub (by decide))
            replace hfa := hfa.trans (ha_158.sub (by decide))
            obtain ⟨y_166, n_161, n_162, n_163, x_164, x_165, hf_167, hf_168, hf_169, hf_170, hs_171, hy_172, hq_173, hq_174, hq_175, hq_176, hq_177, hq_178, rfl⟩ := hR_160
            have lx_164 := tt_lo x_164
            have ux_164 := tt_hi x_164
            have lx_165 := tt_lo x_165
            have ux_165 := tt_hi x_165
            refine jj_istore_n C dX11_readSubscription_51 (by decide) rfl ?_
            refine jj_aload_n C dX11_readSubscription_52 rfl ?_
            refine jj_lconst (v := 1) C dX11_readSubscription_53 (by decide) ?_
            refine jj_ldc2 (v := 9999999) C dX11_readSubscription_54 jw_ee60e309b3 ?_
            obtain ⟨qc, gs, hqc⟩ := tt_recv (cx := []) hok_156 hk0 (by decide) rfl
            refine tt_callV (rest := []) C (re_number hl D cA ak x_164 n_163 n16 n_162 n_161 at9 u c y_166 (1 : Int64) (9999999 : Int64) 1 9999999 hk0 hkw hka hkt hki hkf hkp (by first | omega | decide | exact tt_lo _ | exact tt_hi _) (by first | omega | decide | exact tt_lo _ | exact tt_hi _) (by first | omega | decide) (by first | omega | decide) (by first | omega | decide) (by first | omega | decide) (by first | omega | decide) (by first | omega | decide) (by first | omega | decide) (by first | omega | decide) hk9 (by omega) (by omega) hc hy_172 (by decide) (by decide) hok_156 hm hs12 hu hf_167 hf_168 hs16 hf_169 hf_170) [] [] rfl rfl (by decide) (by decide) (by decide) qc hqc rfl rfl jw_adb570a667 jw_970096b033 jw_c6bab24534 jw_f96c99f44d jw_2d66378959 jn_X11_number rfl (jj_le rfl) (jj_le rfl) (jj_le rfl) (jj_le rfl) (jj_le rfl) dX11_readSubscription_57 rfl (fun _ _ _ hX => hX.elim) (fun rx pl_179 r O_183 => ?_)
            obtain ⟨rfl, hok_180, hr_181, ha_182, hR_184⟩ := O_183
            replace hs12 := hr_181.at hk0 (by decide) (by decide) hs12
            replace hs16 := hr_181.at hk0 (by decide) (by decide) hs16
            replace hCf := ha_182.at hkf (by decide) (by decide) hCf
            replace hu := ha_182.at hk9 (by decide) (by decide) hu
            replace hm := hm.fr hr_181 hk0 rfl
            replace hfr := hfr.trans (hr_181.sub (by decide))
            replace hfa := hfa.trans (ha_182.sub (by decide))
            obtain ⟨y_190, n_185, n_186, n_187, x_188, x_189, hf_191, hf_192, hf_193, hf_194, hs_195, hy_196, hq_197, hq_198, hq_199, hq_200, hq_201, hq_202, rfl⟩ := hR_184
            have lx_188 := tt_lo x_188
            have ux_188 := tt_hi x_188
            have lx_189 := tt_lo x_189
            have ux_189 := tt_hi x_189
            refine jj_istore_n C dX11_readSubscription_60 (by decide) rfl ?_
            refine jj_aload_n C dX11_readSubscription_61 rfl ?_
            refine jj_ldcsw (k := 23) (tx := ";") C dX11_readSubscription_62 (by decide +kernel) ?_
            obtain ⟨qc, gs, hqc⟩ := tt_recv (cx := []) hok_180 hk0 (by decide) rfl
            refine tt_callV (rest := []) C (re_must_semi hl D cA ak x_188 n_187 n16 n_186 n_185 at9 u c y_190 hk0 hkw hka hkt hki hkf hkp (by first | omega | decide | exact tt_lo _ | exact tt_hi _) (by first | omega | decide | exact tt_lo _ | exact tt_hi _) (by first | omega | decide) (by first | omega | decide) (by first | omega | decide) (by first | omega | decide) (by first | omega | decide) (by first | omega | decide) (by first | omega | decide) (by first | omega | decide) hk9 (by omega) (by omega) hc hy_196 hok_180 hm hs12 hu hf_191 hf_192 hs16 hf_193 hf_194) [] [] rfl rfl (by decide) (by decide) (by decide) qc hqc rfl rfl jw_567bcddfb2 jw_5c84fa4094 jw_52b545b3e3 jw_f96c99f44d jw_84234b4b1a jn_X11_must rfl (jj_le rfl) (jj_le rfl) (jj_le rfl) (jj_le rfl) (jj_le rfl) dX11_readSubscription_65 rfl (fun _ _ _ hX => hX.elim) (fun rx pl_203 r O_207 => ?_)
            obtain ⟨rfl, hok_204, hr_205, ha_206, hR_208⟩ := O_207
            replace hs12 := hr_205.at hk0 (by decide) (by decide) hs12
            replace hs16 := hr_205.at hk0 (by decide) (by decide) hs16
            replace hCf := ha_206.at hkf (by decide) (by decide) hCf
            replace hu := ha_206.at hk9 (by decide) (by decide) hu
            replace hm := hm.fr hr_205 hk0 rfl
            replace hfr := hfr.trans (hr_205.sub (by decide))
            replace hfa := hfa.trans (ha_206.sub (by decide))
            obtain ⟨y_213, n_209, n_210, n_211, x_212, hf_214, hf_215, hf_216, hf_217, hs_218, hy_219, hq_220, hq_221, hq_222, hq_223, hq_224, rfl⟩ := hR_208
            have lx_212 := tt_lo x_212
            have ux_212 := tt_hi x_212
            refine jj_aload_n C dX11_readSubscription_68 rfl ?_
            refine tt_getF C hok_204 jk_12 17 (by decide) jw_17e99f0710 (t := (0, (-2147483648), 2147483647)) hk0 (by decide) rfl rfl hf_216 dX11_readSubscription_69 ?_
            refine jj_if_ne (tgt := 87) C dX11_readSubscription_72 (by decide) (fun c_225 => ?_) (fun c_225 => ?_)
            · have z_c_225 := jc_neq (a := ((n_211 : Nat) : Int)) (b := 0) c_225 (rl_ti (by omega)) (by decide)
              have hM : n_211 = 0 → n_187 = 0 ∧ n_163 = 0 := fun z9 => by
                have w3 := hy_219.mz.mp z9
                have w2 := ps_step.err hs_218 w3
                have w1 := ps_step.err hs_195 w2
                exact ⟨hy_196.mz.mpr w2, hy_172.mz.mpr w1⟩
              exact jj_vret C ⟨[], pl_203, rfl, rfl, hok_204, hfr, hfa, ⟨y_213, _, n_209, n_210, n_211, x_212, hCf, hf_214, hf_215, hf_216, hf_217, ⟨y_152, y_166, y_190, hs_153, hs_171, hs_195, hs_218⟩, hy_219, (by omega), (by omega), (by omega), (by omega), (by omega), (fun z9 => by exfalso; omega), rfl⟩⟩ dX11_readSubscription_87 (jj_le rfl) (jj_le rfl)
            · have z_c_225 := jc_eq (a := ((n_211 : Nat) : Int)) (b := 0) c_225 (rl_ti (by omega)) (by decide)
              have hM0 : n_187 = 0 ∧ n_163 = 0 := by
                have w3 := hy_219.mz.mp (by omega)
                have w2 := ps_step.err hs_218 w3
                have w1 := ps_step.err hs_195 w2
                exact ⟨hy_196.mz.mpr w2, hy_172.mz.mpr w1⟩
              have hQ2 := hq_202 hM0.1
              have hQ1 := hq_178 hM0.2
              refine jj_aload_n C dX11_readSubscription_75 rfl ?_
              refine jj_aload_n C dX11_readSubscription_76 rfl ?_
              refine tt_getF C hok_204 jk_12 4 (by decide) jw_69cfdf3f6e (t := (2, 6, 0)) hk0 (by decide) rfl rfl hm.2.2.2.2.1 dX11_readSubscription_77 ?_
              refine jj_iload_n C dX11_readSubscription_80 rfl ?_
              refine jj_lconst (v := 0) C dX11_readSubscription_81 (by decide) ?_
              refine jj_iload_n C dX11_readSubscription_82 rfl ?_
              obtain ⟨y_226, ey_226, vy_226⟩ := tt_i2l x_189
              refine jj_i2l (v := y_226) C dX11_readSubscription_83 ey_226 ?_
              obtain ⟨qc, gs, hqc⟩ := tt_recv (cx := []) hok_204 hk0 (by decide) rfl
              refine tt_callV (rest := []) C (rs_ask_af hl D cA ak x_165 (0 : Int64) y_226 400000000 400000000 f hk0 hkw hka hkt hki hkf hkp hF.1 (by omega) (Or.inl rfl) (fun _ => ⟨by omega, by omega⟩) (by rw [if_pos rfl]; have := hF.2.2.2; omega) hok_204 hm hCf) [] [] rfl rfl (by decide) (by decide) (by decide) qc hqc rfl rfl jw_5aa504ca27 jw_8305b013c0 jw_b768ebc9da jw_f96c99f44d jw_244fd0acfd jn_X11_ask rfl (jj_le rfl) (jj_le rfl) (jj_le rfl) (jj_le rfl) (jj_le rfl) dX11_readSubscription_84 rfl (fun _ _ _ hX => hX.elim) (fun rx pl_227 r O_231 => ?_)
              obtain ⟨rfl, hok_228, hr_229, ha_230, hR_232⟩ := O_231
              replace hs12 := hr_229.at hk0 (by decide) (by decide) hs12
              replace hs16 := hr_229.at hk0 (by decide) (by decide) hs16
              replace hf_214 := hr_229.at hk0 (by decide) (by decide) hf_214
              replace hf_215 := hr_229.at hk0 (by decide) (by decide) hf_215
              replace hf_216 := hr_229.at hk0 (by decide) (by decide) hf_216
              replace hf_217 := hr_229.at hk0 (by decide) (by decide) hf_217
              replace hu := ha_230.at hk9 (by decide) (by decide) hu
              replace hm := hm.fr hr_229 hk0 rfl
              replace hfr := hfr.trans (hr_229.sub (by decide))
              replace hfa := hfa.trans (ha_230.sub (by decide))
              obtain ⟨g_233, hC_234, hI_235, hq_236, hq_237, hq_238, hq_239, rfl⟩ := hR_232
              have hM : n_211 = 0 → n_187 = 0 ∧ n_163 = 0 := fun z9 => by
                have w3 := hy_219.mz.mp z9
                have w2 := ps_step.err hs_218 w3
                have w1 := ps_step.err hs_195 w2
                exact ⟨hy_196.mz.mpr w2, hy_172.mz.mpr w1⟩
              exact jj_vret C ⟨[], pl_227, rfl, rfl, hok_228, hfr, hfa, ⟨y_213, _, n_209, n_210, n_211, x_212, hC_234, hf_214, hf_215, hf_216, hf_217, ⟨y_152, y_166, y_190, hs_153, hs_171, hs_195, hs_218⟩, hy_219, (by omega), (by omega), (by omega), (by omega), (by omega), (fun _ => ⟨rl_FR.ask (a := y_226.toInt) hF hI_235 (by have q9 := hq_236; rw [if_pos rfl] at q9; exact q9) (by omega) hq_237 (hq_238 9 (by decide) (by decide)) hq_239, (by have q9 := hq_238 0 (by decide) (by decide); rw [q9]; exact hi), (by have q9 := hq_239; omega)⟩), rfl⟩⟩ dX11_readSubscription_87 (jj_le rfl) (jj_le rfl)
          · have hzn_147 := ht_151.le (by omega)
            exfalso; omega
    · exfalso; omega
  · refine jj_if_neT (tgt := 15) C dX11_readSubscription_7 (by decide) (by decide) ?_
    refine jj_aload_n C dX11_readSubscription_15 rfl ?_
    refine tt_getF C hok_2 jk_12 4 (by decide) jw_69cfdf3f6e (t := (2, 6, 0)) hk0 (by decide) rfl rfl hm.2.2.2.2.1 dX11_readSubscription_16 ?_
    refine jj_bipush (v := 8) C dX11_readSubscription_19 (by decide) ?_
    refine rl_lald C hok_2 (t := (1, (-9223372036854775808), 9223372036854775807)) hkf (by decide) rfl (k := 8) (v := (f 8)) (vp_in_iff.mpr (by decide)) hCf (by decide) rfl dX11_readSubscription_21 ?_
    refine jj_ldc2 (v := 12) C dX11_readSubscription_22 jw_f3ff61ad3e ?_
    refine jj_lcmp_ne (tgt := 34) C dX11_readSubscription_25 dX11_readSubscription_26 (by decide) (fun c_240 => ?_) (fun c_240 => ?_)
    · have z_c_240 := jc_neqL (a := (f 8).toInt) (b := 12) c_240 rfl (by decide)
      refine jj_aload_n C dX11_readSubscription_34 rfl ?_
      obtain ⟨qc, gs, hqc⟩ := tt_recv (cx := []) hok_2 hk0 (by decide) rfl
      refine tt_callV (rest := []) C (re_pass hl D cA ak 0 n16 n15 n14 at9 u c hk0 hkw hka hkt hki hkf hkp (by first | omega | decide) (by first | omega | decide) (by first | omega | decide) (by first | omega | decide) (by first | omega | decide) (by first | omega | decide) (by first | omega | decide) (by first | omega | decide) hk9 (by omega) (by omega) hc hok_2 hm hs12 hu hs14 hs15 hs16 hs17) [] [] rfl rfl (by decide) (by decide) (by decide) qc hqc rfl rfl jw_b8e803331f jw_409849e3da jw_7cfaf31817 jw_f96c99f44d jw_3d0e41f30f jn_X11_pass rfl (jj_le rfl) (jj_le rfl) (jj_le rfl) (jj_le rfl) (jj_le rfl) dX11_readSubscription_35 rfl (fun _ _ _ hX => hX.elim) (fun rx pl_241 r O_245 => ?_)
      obtain ⟨rfl, hok_242, hr_243, ha_244, hR_246⟩ := O_245
      replace hs12 := hr_243.at hk0 (by decide) (by decide) hs12
      replace hs16 := hr_243.at hk0 (by decide) (by decide) hs16
      replace hs17 := hr_243.at hk0 (by decide) (by decide) hs17
      replace hs18 := hr_243.at hk0 (by decide) (by decide) hs18
      replace hCf := ha_244.at hkf (by decide) (by decide) hCf
      replace hu := ha_244.at hk9 (by decide) (by decide) hu
      replace hm := hm.fr hr_243 hk0 rfl
      replace hfr := hfr.trans (hr_243.sub (by decide))
      replace hfa := hfa.trans (ha_244.sub (by decide))
      rcases hR_246 with ⟨hq_247, hf_248, hf_249, rfl⟩ | ⟨hq_250, ⟨n_251, n_252, hf_253, hf_254, ht_255⟩, rfl⟩
      · exfalso; omega
      · have hzn_251 := ht_255.le (by omega)
        have hW9 : n15 = n14 + 9 := hw_8.1
        obtain ⟨y_256, hs_257, hy_258⟩ : ∃ z : ps_S, ps_step c n16 (ps_cS c j) y0 z ∧ ps_at c n16 z 0 n_251 n_252 x18 := ps_at.ok2 (chk := ps_cS c j) hy (by omega) (Or.inr (Or.inr ⟨hw_8, by omega, rfl⟩)) ht_255
        have hN1 := te_lsub1 (x := f 0) (by omega) (by omega)
        refine jj_aload_n C dX11_readSubscription_38 rfl ?_
        refine jj_lconst (v := 0) C dX11_readSubscription_39 (by decide) ?_
        refine jj_aload_n C dX11_readSubscription_40 rfl ?_
        refine tt_getF C hok_242 jk_12 4 (by decide) jw_69cfdf3f6e (t := (2, 6, 0)) hk0 (by decide) rfl rfl hm.2.2.2.2.1 dX11_readSubscription_41 ?_
        refine jj_iconst (v := 0) C dX11_readSubscription_44 (by decide) ?_
        refine rl_lald C hok_242 (t := (1, (-9223372036854775808), 9223372036854775807)) hkf (by decide) rfl (k := 0) (v := (f 0)) (vp_in_iff.mpr (by decide)) hCf (by decide) rfl dX11_readSubscription_45 ?_
        refine jj_lconst (v := 1) C dX11_readSubscription_46 (by decide) ?_
        refine jj_lsub C dX11_readSubscription_47 rfl ?_
        obtain ⟨qc, gs, hqc⟩ := tt_recv (cx := []) hok_242 hk0 (by decide) rfl
        refine tt_callV (rest := []) C (re_number hl D cA ak x18 0 n16 n_252 n_251 at9 u c y_256 (0 : Int64) ((f 0) - (1 : Int64)) 0 (i - 1) hk0 hkw hka hkt hki hkf hkp (by first | omega | decide | exact tt_lo _ | exact tt_hi _) (by first | omega | decide | exact tt_lo _ | exact tt_hi _) (by first | omega | decide) (by first | omega | decide) (by first | omega | decide) (by first | omega | decide) (by first | omega | decide) (by first | omega | decide) (by first | omega | decide) (by first | omega | decide) hk9 (by omega) (by omega) hc hy_258 (by decide) (by rw [hN1, hi]) hok_242 hm hs12 hu hf_253 hf_254 hs16 hs17 hs18) [] [] rfl rfl (by decide) (by decide) (by decide) qc hqc rfl rfl jw_adb570a667 jw_970096b033 jw_c6bab24534 jw_f96c99f44d jw_2d66378959 jn_X11_number rfl (jj_le rfl) (jj_le rfl) (jj_le rfl) (jj_le rfl) (jj_le rfl) dX11_readSubscription_48 rfl (fun _ _ _ hX => hX.elim) (fun rx pl_259 r O_263 => ?_)
        obtain ⟨rfl, hok_260, hr_261, ha_262, hR_264⟩ := O_263
        replace hs12 := hr_261.at hk0 (by decide) (by decide) hs12
        replace hs16 := hr_261.at hk0 (by decide) (by decide) hs16
        replace hCf := ha_262.at hkf (by decide) (by decide) hCf
        replace hu := ha_262.at hk9 (by decide) (by decide) hu
        replace hm := hm.fr hr_261 hk0 rfl
        replace hfr := hfr.trans (hr_261.sub (by decide))
        replace hfa := hfa.trans (ha_262.sub (by decide))
        obtain ⟨y_270, n_265, n_266, n_267, x_268, x_269, hf_271, hf_272, hf_273, hf_274, hs_275, hy_276, hq_277, hq_278, hq_279, hq_280, hq_281, hq_282, rfl⟩ := hR_264
        have lx_268 := tt_lo x_268
        have ux_268 := tt_hi x_268
        have lx_269 := tt_lo x_269
        have ux_269 := tt_hi x_269
        refine jj_istore_n C dX11_readSubscription_51 (by decide) rfl ?_
        refine jj_aload_n C dX11_readSubscription_52 rfl ?_
        refine jj_lconst (v := 1) C dX11_readSubscription_53 (by decide) ?_
        refine jj_ldc2 (v := 9999999) C dX11_readSubscription_54 jw_ee60e309b3 ?_
        obtain ⟨qc, gs, hqc⟩ := tt_recv (cx := []) hok_260 hk0 (by decide) rfl
        refine tt_callV (rest := []) C (re_number hl D cA ak x_268 n_267 n16 n_266 n_265 at9 u c y_270 (1 : Int64) (9999999 : Int64) 1 9999999 hk0 hkw hka hkt hki hkf hkp (by first | omega | decide | exact tt_lo _ | exact tt_hi _) (by first | omega | decide | exact tt_lo _ | exact tt_hi _) (by first | omega | decide) (by first | omega | decide) (by first | omega | decide) (by first | omega | decide) (by first | omega | decide) (by first | omega | decide) (by first | omega | decide) (by first | omega | decide) hk9 (by omega) (by omega) hc hy_276 (by decide) (by decide) hok_260 hm hs12 hu hf_271 hf_272 hs16 hf_273 hf_274) [] [] rfl rfl (by decide) (by decide) (by decide) qc hqc rfl rfl jw_adb570a667 jw_970096b033 jw_c6bab24534 jw_f96c99f44d jw_2d66378959 jn_X11_number rfl (jj_le rfl) (jj_le rfl) (jj_le rfl) (jj_le rfl) (jj_le rfl) dX11_readSubscription_57 rfl (fun _ _ _ hX => hX.elim) (fun rx pl_283 r O_287 => ?_)
        obtain ⟨rfl, hok_284, hr_285, ha_286, hR_288⟩ := O_287
        replace hs12 := hr_285.at hk0 (by decide) (by decide) hs12
        replace hs16 := hr_285.at hk0 (by decide) (by decide) hs16
        replace hCf := ha_286.at hkf (by decide) (by decide) hCf
        replace hu := ha_286.at hk9 (by decide) (by decide) hu
        replace hm := hm.fr hr_285 hk0 rfl
        replace hfr := hfr.trans (hr_285.sub (by decide))
        replace hfa := hfa.trans (ha_286.sub (by decide))
        obtain ⟨y_294, n_289, n_290, n_291, x_292, x_293, hf_295, hf_296, hf_297, hf_298, hs_299, hy_300, hq_301, hq_302, hq_303, hq_304, hq_305, hq_306, rfl⟩ := hR_288
        have lx_292 := tt_lo x_292
        have ux_292 := tt_hi x_292
        have lx_293 := tt_lo x_293
        have ux_293 := tt_hi x_293
        refine jj_istore_n C dX11_readSubscription_60 (by decide) rfl ?_
        refine jj_aload_n C dX11_readSubscription_61 rfl ?_
        refine jj_ldcsw (k := 23) (tx := ";") C dX11_readSubscription_62 (by decide +kernel) ?_
        obtain ⟨qc, gs, hqc⟩ := tt_recv (cx := []) hok_284 hk0 (by decide) rfl
        refine tt_callV (rest := []) C (re_must_semi hl D cA ak x_292 n_291 n16 n_290 n_289 at9 u c y_294 hk0 hkw hka hkt hki hkf hkp (by first | omega | decide | exact tt_lo _ | exact tt_hi _) (by first | omega | decide | exact tt_lo _ | exact tt_hi _) (by first | omega | decide) (by first | omega | decide) (by first | omega | decide) (by first | omega | decide) (by first | omega | decide) (by first | omega | decide) (by first | omega | decide) (by first | omega | decide) hk9 (by omega) (by omega) hc hy_300 hok_284 hm hs12 hu hf_295 hf_296 hs16 hf_297 hf_298) [] [] rfl rfl (by decide) (by decide) (by decide) qc hqc rfl rfl jw_567bcddfb2 jw_5c84fa4094 jw_52b545b3e3 jw_f96c99f44d jw_84234b4b1a jn_X11_must rfl (jj_le rfl) (jj_le rfl) (jj_le rfl) (jj_le rfl) (jj_le rfl) dX11_readSubscription_65 rfl (fun _ _ _ hX => hX.elim) (fun rx pl_307 r O_311 => ?_)
        obtain ⟨rfl, hok_308, hr_309, ha_310, hR_312⟩ := O_311
        replace hs12 := hr_309.at hk0 (by decide) (by decide) hs12
        replace hs16 := hr_309.at hk0 (by decide) (by decide) hs16
        replace hCf := ha_310.at hkf (by decide) (by decide) hCf
        replace hu := ha_310.at hk9 (by decide) (by decide) hu
        replace hm := hm.fr hr_309 hk0 rfl
        replace hfr := hfr.trans (hr_309.sub (by decide))
        replace hfa := hfa.trans (ha_310.sub (by decide))
        obtain ⟨y_317, n_313, n_314, n_315, x_316, hf_318, hf_319, hf_320, hf_321, hs_322, hy_323, hq_324, hq_325, hq_326, hq_327, hq_328, rfl⟩ := hR_312
        have lx_316 := tt_lo x_316
        have ux_316 := tt_hi x_316
        refine jj_aload_n C dX11_readSubscription_68 rfl ?_
        refine tt_getF C hok_308 jk_12 17 (by decide) jw_17e99f0710 (t := (0, (-2147483648), 2147483647)) hk0 (by decide) rfl rfl hf_320 dX11_readSubscription_69 ?_
        refine jj_if_ne (tgt := 87) C dX11_readSubscription_72 (by decide) (fun c_329 => ?_) (fun c_329 => ?_)
        · have z_c_329 := jc_neq (a := ((n_315 : Nat) : Int)) (b := 0) c_329 (rl_ti (by omega)) (by decide)
          have hM : n_315 = 0 → n_291 = 0 ∧ n_267 = 0 := fun z9 => by
            have w3 := hy_323.mz.mp z9
            have w2 := ps_step.err hs_322 w3
            have w1 := ps_step.err hs_299 w2
            exact ⟨hy_300.mz.mpr w2, hy_276.mz.mpr w1⟩
          exact jj_vret C ⟨[], pl_307, rfl, rfl, hok_308, hfr, hfa, ⟨y_317, _, n_313, n_314, n_315, x_316, hCf, hf_318, hf_319, hf_320, hf_321, ⟨y_256, y_270, y_294, hs_257, hs_275, hs_299, hs_322⟩, hy_323, (by omega), (by omega), (by omega), (by omega), (by omega), (fun z9 => by exfalso; omega), rfl⟩⟩ dX11_readSubscription_87 (jj_le rfl) (jj_le rfl)
        · have z_c_329 := jc_eq (a := ((n_315 : Nat) : Int)) (b := 0) c_329 (rl_ti (by omega)) (by decide)
          have hM0 : n_291 = 0 ∧ n_267 = 0 := by
            have w3 := hy_323.mz.mp (by omega)
            have w2 := ps_step.err hs_322 w3
            have w1 := ps_step.err hs_299 w2
            exact ⟨hy_300.mz.mpr w2, hy_276.mz.mpr w1⟩
          have hQ2 := hq_306 hM0.1
          have hQ1 := hq_282 hM0.2
          refine jj_aload_n C dX11_readSubscription_75 rfl ?_
          refine jj_aload_n C dX11_readSubscription_76 rfl ?_
          refine tt_getF C hok_308 jk_12 4 (by decide) jw_69cfdf3f6e (t := (2, 6, 0)) hk0 (by decide) rfl rfl hm.2.2.2.2.1 dX11_readSubscription_77 ?_
          refine jj_iload_n C dX11_readSubscription_80 rfl ?_
          refine jj_lconst (v := 0) C dX11_readSubscription_81 (by decide) ?_
          refine jj_iload_n C dX11_readSubscription_82 rfl ?_
          obtain ⟨y_330, ey_330, vy_330⟩ := tt_i2l x_293
          refine jj_i2l (v := y_330) C dX11_readSubscription_83 ey_330 ?_
          obtain ⟨qc, gs, hqc⟩ := tt_recv (cx := []) hok_308 hk0 (by decide) rfl
          refine tt_callV (rest := []) C (rs_ask_af hl D cA ak x_269 (0 : Int64) y_330 400000000 400000000 f hk0 hkw hka hkt hki hkf hkp hF.1 (by omega) (Or.inl rfl) (fun _ => ⟨by omega, by omega⟩) (by rw [if_pos rfl]; have := hF.2.2.2; omega) hok_308 hm hCf) [] [] rfl rfl (by decide) (by decide) (by decide) qc hqc rfl rfl jw_5aa504ca27 jw_8305b013c0 jw_b768ebc9da jw_f96c99f44d jw_244fd0acfd jn_X11_ask rfl (jj_le rfl) (jj_le rfl) (jj_le rfl) (jj_le rfl) (jj_le rfl) dX11_readSubscription_84 rfl (fun _ _ _ hX => hX.elim) (fun rx pl_331 r O_335 => ?_)
          obtain ⟨rfl, hok_332, hr_333, ha_334, hR_336⟩ := O_335
          replace hs12 := hr_333.at hk0 (by decide) (by decide) hs12
          replace hs16 := hr_333.at hk0 (by decide) (by decide) hs16
          replace hf_318 := hr_333.at hk0 (by decide) (by decide) hf_318
          replace hf_319 := hr_333.at hk0 (by decide) (by decide) hf_319
          replace hf_320 := hr_333.at hk0 (by decide) (by decide) hf_320
          replace hf_321 := hr_333.at hk0 (by decide) (by decide) hf_321
          replace hu := ha_334.at hk9 (by decide) (by decide) hu
          replace hm := hm.fr hr_333 hk0 rfl
          replace hfr := hfr.trans (hr_333.sub (by decide))
          replace hfa := hfa.trans (ha_334.sub (by decide))
          obtain ⟨g_337, hC_338, hI_339, hq_340, hq_341, hq_342, hq_343, rfl⟩ := hR_336
          have hM : n_315 = 0 → n_291 = 0 ∧ n_267 = 0 := fun z9 => by
            have w3 := hy_323.mz.mp z9
            have w2 := ps_step.err hs_322 w3
            have w1 := ps_step.err hs_299 w2
            exact ⟨hy_300.mz.mpr w2, hy_276.mz.mpr w1⟩
          exact jj_vret C ⟨[], pl_331, rfl, rfl, hok_332, hfr, hfa, ⟨y_317, _, n_313, n_314, n_315, x_316, hC_338, hf_318, hf_319, hf_320, hf_321, ⟨y_256, y_270, y_294, hs_257, hs_275, hs_299, hs_322⟩, hy_323, (by omega), (by omega), (by omega), (by omega), (by omega), (fun _ => ⟨rl_FR.ask (a := y_330.toInt) hF hI_339 (by have q9 := hq_340; rw [if_pos rfl] at q9; exact q9) (by omega) hq_341 (hq_342 9 (by decide) (by decide)) hq_343, (by have q9 := hq_342 0 (by decide) (by decide); rw [q9]; exact hi), (by have q9 := hq_343; omega)⟩), rfl⟩⟩ dX11_readSubscription_87 (jj_le rfl) (jj_le rfl)
    · have z_c_240 := jc_eqL (a := (f 8).toInt) (b := 12) c_240 rfl (by decide)
      refine jj_aload_n C dX11_readSubscription_29 rfl ?_
      refine jj_iconst (v := 3) C dX11_readSubscription_30 (by decide) ?_
      obtain ⟨qc, gs, hqc⟩ := tt_recv (cx := []) hok_2 hk0 (by decide) rfl
      refine tt_callV (rest := []) C (re_wrong_3 hl D cA ak x18 0 n14 hk0 hkw hka hkt hki hkf hkp (by first | omega | decide | exact tt_lo _ | exact tt_hi _) (by first | omega | decide | exact tt_lo _ | exact tt_hi _) (by first | omega | decide) (by first | omega | decide) (by first | omega | decide) (by first | omega | decide) hok_2 hm hs14 hs17 hs18) [] [] rfl rfl (by decide) (by decide) (by decide) qc hqc rfl rfl jw_e206642f3f jw_6f17e07a53 jw_400f18f3e9 jw_f96c99f44d jw_6b1a6dabbc jn_X11_wrong rfl (jj_le rfl) (jj_le rfl) (jj_le rfl) (jj_le rfl) (jj_le rfl) dX11_readSubscription_31 rfl (fun _ _ _ hX => hX.elim) (fun rx pl_344 r O_348 => ?_)
      obtain ⟨rfl, hok_345, hr_346, ha_347, hR_349⟩ := O_348
      replace hs12 := hr_346.at hk0 (by decide) (by decide) hs12
      replace hs14 := hr_346.at hk0 (by decide) (by decide) hs14
      replace hs15 := hr_346.at hk0 (by decide) (by decide) hs15
      replace hs16 := hr_346.at hk0 (by decide) (by decide) hs16
      replace hCf := ha_347.at hkf (by decide) (by decide) hCf
      replace hu := ha_347.at hk9 (by decide) (by decide) hu
      replace hm := hm.fr hr_346 hk0 rfl
      replace hfr := hfr.trans (hr_346.sub (by decide))
      replace hfa := hfa.trans (ha_347.sub (by decide))
      rcases hR_349 with ⟨hf_350, hf_351, hf_352, rfl⟩ | ⟨hf_353, hf_354, hf_355, rfl⟩
      · refine jj_aload_n C dX11_readSubscription_34 rfl ?_
        obtain ⟨qc, gs, hqc⟩ := tt_recv (cx := []) hok_345 hk0 (by decide) rfl
        refine tt_callV (rest := []) C (re_pass hl D cA ak 3 n16 n15 n14 at9 u c hk0 hkw hka hkt hki hkf hkp (by first | omega | decide) (by first | omega | decide) (by first | omega | decide) (by first | omega | decide) (by first | omega | decide) (by first | omega | decide) (by first | omega | decide) (by first | omega | decide) hk9 (by omega) (by omega) hc hok_345 hm hs12 hu hs14 hs15 hs16 hf_351) [] [] rfl rfl (by decide) (by decide) (by decide) qc hqc rfl rfl jw_b8e803331f jw_409849e3da jw_7cfaf31817 jw_f96c99f44d jw_3d0e41f30f jn_X11_pass rfl (jj_le rfl) (jj_le rfl) (jj_le rfl) (jj_le rfl) (jj_le rfl) dX11_readSubscription_35 rfl (fun _ _ _ hX => hX.elim) (fun rx pl_356 r O_360 => ?_)
        obtain ⟨rfl, hok_357, hr_358, ha_359, hR_361⟩ := O_360
        replace hs12 := hr_358.at hk0 (by decide) (by decide) hs12
        replace hs16 := hr_358.at hk0 (by decide) (by decide) hs16
        replace hf_351 := hr_358.at hk0 (by decide) (by decide) hf_351
        replace hf_352 := hr_358.at hk0 (by decide) (by decide) hf_352
        replace hCf := ha_359.at hkf (by decide) (by decide) hCf
        replace hu := ha_359.at hk9 (by decide) (by decide) hu
        replace hm := hm.fr hr_358 hk0 rfl
        replace hfr := hfr.trans (hr_358.sub (by decide))
        replace hfa := hfa.trans (ha_359.sub (by decide))
        rcases hR_361 with ⟨hq_362, hf_363, hf_364, rfl⟩ | ⟨hq_365, ⟨n_366, n_367, hf_368, hf_369, ht_370⟩, rfl⟩
        · have hW9 : n15 = n14 + 9 := hw_8.1
          obtain ⟨y_371, hs_372, hy_373⟩ : ∃ z : ps_S, ps_step c n16 (ps_cS c j) y0 z ∧ ps_at c n16 z 3 n14 n15 (nI n14) := ps_at.no2 (chk := ps_cS c j) (k := 3) _ _ hy (by omega) (Or.inr (Or.inl ⟨hw_8, by omega, rfl⟩)) (by decide)
          have hN1 := te_lsub1 (x := f 0) (by omega) (by omega)
          refine jj_aload_n C dX11_readSubscription_38 rfl ?_
          refine jj_lconst (v := 0) C dX11_readSubscription_39 (by decide) ?_
          refine jj_aload_n C dX11_readSubscription_40 rfl ?_
          refine tt_getF C hok_357 jk_12 4 (by decide) jw_69cfdf3f6e (t := (2, 6, 0)) hk0 (by decide) rfl rfl hm.2.2.2.2.1 dX11_readSubscription_41 ?_
          refine jj_iconst (v := 0) C dX11_readSubscription_44 (by decide) ?_
          refine rl_lald C hok_357 (t := (1, (-9223372036854775808), 9223372036854775807)) hkf (by decide) rfl (k := 0) (v := (f 0)) (vp_in_iff.mpr (by decide)) hCf (by decide) rfl dX11_readSubscription_45 ?_
          refine jj_lconst (v := 1) C dX11_readSubscription_46 (by decide) ?_
          refine jj_lsub C dX11_readSubscription_47 rfl ?_
          obtain ⟨qc, gs, hqc⟩ := tt_recv (cx := []) hok_357 hk0 (by decide) rfl
          refine tt_callV (rest := []) C (re_number hl D cA ak (nI n14) 3 n16 n15 n14 at9 u c y_371 (0 : Int64) ((f 0) - (1 : Int64)) 0 (i - 1) hk0 hkw hka hkt hki hkf hkp (by first | omega | decide | exact tt_lo _ | exact tt_hi _) (by first | omega | decide | exact tt_lo _ | exact tt_hi _) (by first | omega | decide) (by first | omega | decide) (by first | omega | decide) (by first | omega | decide) (by first | omega | decide) (by first | omega | decide) (by first | omega | decide) (by first | omega | decide) hk9 (by omega) (by omega) hc hy_373 (by decide) (by rw [hN1, hi]) hok_357 hm hs12 hu hf_363 hf_364 hs16 hf_351 hf_352) [] [] rfl rfl (by decide) (by decide) (by decide) qc hqc rfl rfl jw_adb570a667 jw_970096b033 jw_c6bab24534 jw_f96c99f44d jw_2d66378959 jn_X11_number rfl (jj_le rfl) (jj_le rfl) (jj_le rfl) (jj_le rfl) (jj_le rfl) dX11_readSubscription_48 rfl (fun _ _ _ hX => hX.elim) (fun rx pl_374 r O_378 => ?_)
          obtain ⟨rfl, hok_375, hr_376, ha_377, hR_379⟩ := O_378
          replace hs12 := hr_376.at hk0 (by decide) (by decide) hs12
          replace hs16 := hr_376.at hk0 (by decide) (by decide) hs16
          replace hCf := ha_377.at hkf (by decide) (by decide) hCf
          replace hu := ha_377.at hk9 (by decide) (by decide) hu
          replace hm := hm.fr hr_376 hk0 rfl
          replace hfr := hfr.trans (hr_376.sub (by decide))
          replace hfa := hfa.trans (ha_377.sub (by decide))
          obtain ⟨y_385, n_380, n_381, n_382, x_383, x_384, hf_386, hf_387, hf_388, hf_389, hs_390, hy_391, hq_392, hq_393, hq_394, hq_395, hq_396, hq_397, rfl⟩ := hR_379
          have lx_383 := tt_lo x_383
          have ux_383 := tt_hi x_383
          have lx_384 := tt_lo x_384
          have ux_384 := tt_hi x_384
          refine jj_istore_n C dX11_readSubscription_51 (by decide) rfl ?_
          refine jj_aload_n C dX11_readSubscription_52 rfl ?_
          refine jj_lconst (v := 1) C dX11_readSubscription_53 (by decide) ?_
          refine jj_ldc2 (v := 9999999) C dX11_readSubscription_54 jw_ee60e309b3 ?_
          obtain ⟨qc, gs, hqc⟩ := tt_recv (cx := []) hok_375 hk0 (by decide) rfl
          refine tt_callV (rest := []) C (re_number hl D cA ak x_383 n_382 n16 n_381 n_380 at9 u c y_385 (1 : Int64) (9999999 : Int64) 1 9999999 hk0 hkw hka hkt hki hkf hkp (by first | omega | decide | exact tt_lo _ | exact tt_hi _) (by first | omega | decide | exact tt_lo _ | exact tt_hi _) (by first | omega | decide) (by first | omega | decide) (by first | omega | decide) (by first | omega | decide) (by first | omega | decide) (by first | omega | decide) (by first | omega | decide) (by first | omega | decide) hk9 (by omega) (by omega) hc hy_391 (by decide) (by decide) hok_375 hm hs12 hu hf_386 hf_387 hs16 hf_388 hf_389) [] [] rfl rfl (by decide) (by decide) (by decide) qc hqc rfl rfl jw_adb570a667 jw_970096b033 jw_c6bab24534 jw_f96c99f44d jw_2d66378959 jn_X11_number rfl (jj_le rfl) (jj_le rfl) (jj_le rfl) (jj_le rfl) (jj_le rfl) dX11_readSubscription_57 rfl (fun _ _ _ hX => hX.elim) (fun rx pl_398 r O_402 => ?_)
          obtain ⟨rfl, hok_399, hr_400, ha_401, hR_403⟩ := O_402
          replace hs12 := hr_400.at hk0 (by decide) (by decide) hs12
          replace hs16 := hr_400.at hk0 (by decide) (by decide) hs16
          replace hCf := ha_401.at hkf (by decide) (by decide) hCf
          replace hu := ha_401.at hk9 (by decide) (by decide) hu
          replace hm := hm.fr hr_400 hk0 rfl
          replace hfr := hfr.trans (hr_400.sub (by decide))
          replace hfa := hfa.trans (ha_401.sub (by decide))
          obtain ⟨y_409, n_404, n_405, n_406, x_407, x_408, hf_410, hf_411, hf_412, hf_413, hs_414, hy_415, hq_416, hq_417, hq_418, hq_419, hq_420, hq_421, rfl⟩ := hR_403
          have lx_407 := tt_lo x_407
          have ux_407 := tt_hi x_407
          have lx_408 := tt_lo x_408
          have ux_408 := tt_hi x_408
          refine jj_istore_n C dX11_readSubscription_60 (by decide) rfl ?_
          refine jj_aload_n C dX11_readSubscription_61 rfl ?_
          refine jj_ldcsw (k := 23) (tx := ";") C dX11_readSubscription_62 (by decide +kernel) ?_
          obtain ⟨qc, gs, hqc⟩ := tt_recv (cx := []) hok_399 hk0 (by decide) rfl
          refine tt_callV (rest := []) C (re_must_semi hl D cA ak x_407 n_406 n16 n_405 n_404 at9 u c y_409 hk0 hkw hka hkt hki hkf hkp (by first | omega | decide | exact tt_lo _ | exact tt_hi _) (by first | omega | decide | exact tt_lo _ | exact tt_hi _) (by first | omega | decide) (by first | omega | decide) (by first | omega | decide) (by first | omega | decide) (by first | omega | decide) (by first | omega | decide) (by first | omega | decide) (by first | omega | decide) hk9 (by omega) (by omega) hc hy_415 hok_399 hm hs12 hu hf_410 hf_411 hs16 hf_412 hf_413) [] [] rfl rfl (by decide) (by decide) (by decide) qc hqc rfl rfl jw_567bcddfb2 jw_5c84fa4094 jw_52b545b3e3 jw_f96c99f44d jw_84234b4b1a jn_X11_must rfl (jj_le rfl) (jj_le rfl) (jj_le rfl) (jj_le rfl) (jj_le rfl) dX11_readSubscription_65 rfl (fun _ _ _ hX => hX.elim) (fun rx pl_422 r O_426 => ?_)
          obtain ⟨rfl, hok_423, hr_424, ha_425, hR_427⟩ := O_426
          replace hs12 := hr_424.at hk0 (by decide) (by decide) hs12
          replace hs16 := hr_424.at hk0 (by decide) (by decide) hs16
          replace hCf := ha_425.at hkf (by decide) (by decide) hCf
          replace hu := ha_425.at hk9 (by decide) (by decide) hu
          replace hm := hm.fr hr_424 hk0 rfl
          replace hfr := hfr.trans (hr_424.sub (by decide))
          replace hfa := hfa.trans (ha_425.sub (by decide))
          obtain ⟨y_432, n_428, n_429, n_430, x_431, hf_433, hf_434, hf_435, hf_436, hs_437, hy_438, hq_439, hq_440, hq_441, hq_442, hq_443, rfl⟩ := hR_427
          have lx_431 := tt_lo x_431
          have ux_431 := tt_hi x_431
          refine jj_aload_n C dX11_readSubscription_68 rfl ?_
          refine tt_getF C hok_423 jk_12 17 (by decide) jw_17e99f0710 (t := (0, (-2147483648), 2147483647)) hk0 (by decide) rfl rfl hf_435 dX11_readSubscription_69 ?_
          refine jj_if_ne (tgt := 87) C dX11_readSubscription_72 (by decide) (fun c_444 => ?_) (fun c_444 => ?_)
          · have z_c_444 := jc_neq (a := ((n_430 : Nat) : Int)) (b := 0) c_444 (rl_ti (by omega)) (by decide)
            have hM : n_430 = 0 → n_406 = 0 ∧ n_382 = 0 := fun z9 => by
              have w3 := hy_438.mz.mp z9
              have w2 := ps_step.err hs_437 w3
              have w1 := ps_step.err hs_414 w2
              exact ⟨hy_415.mz.mpr w2, hy_391.mz.mpr w1⟩
            exact jj_vret C ⟨[], pl_422, rfl, rfl, hok_423, hfr, hfa, ⟨y_432, _, n_428, n_429, n_430, x_431, hCf, hf_433, hf_434, hf_435, hf_436, ⟨y_371, y_385, y_409, hs_372, hs_390, hs_414, hs_437⟩, hy_438, (by omega), (by omega), (by omega), (by omega), (by omega), (fun z9 => by exfalso; omega), rfl⟩⟩ dX11_readSubscription_87 (jj_le rfl) (jj_le rfl)
          · have z_c_444 := jc_eq (a := ((n_430 : Nat) : Int)) (b := 0) c_444 (rl_ti (by omega)) (by decide)
            have hM0 : n_406 = 0 ∧ n_382 = 0 := by
              have w3 := hy_438.mz.mp (by omega)
              have w2 := ps_step.err hs_437 w3
              have w1 := ps_step.err hs_414 w2
              exact ⟨hy_415.mz.mpr w2, hy_391.mz.mpr w1⟩
            have hQ2 := hq_421 hM0.1
            have hQ1 := hq_397 hM0.2
            refine jj_aload_n C dX11_readSubscription_75 rfl ?_
            refine jj_aload_n C dX11_readSubscription_76 rfl ?_
            refine tt_getF C hok_423 jk_12 4 (by decide) jw_69cfdf3f6e (t := (2, 6, 0)) hk0 (by decide) rfl rfl hm.2.2.2.2.1 dX11_readSubscription_77 ?_
            refine jj_iload_n C dX11_readSubscription_80 rfl ?_
            refine jj_lconst (v := 0) C dX11_readSubscription_81 (by decide) ?_
            refine jj_iload_n C dX11_readSubscription_82 rfl ?_
            obtain ⟨y_445, ey_445, vy_445⟩ := tt_i2l x_408
            refine jj_i2l (v := y_445) C dX11_readSubscription_83 ey_445 ?_
            obtain ⟨qc, gs, hqc⟩ := tt_recv (cx := []) hok_423 hk0 (by decide) rfl
            refine tt_callV (rest := []) C (rs_ask_af hl D cA ak x_384 (0 : Int64) y_445 400000000 400000000 f hk0 hkw hka hkt hki hkf hkp hF.1 (by omega) (Or.inl rfl) (fun _ => ⟨by omega, by omega⟩) (by rw [if_pos rfl]; have := hF.2.2.2; omega) hok_423 hm hCf) [] [] rfl rfl (by decide) (by decide) (by decide) qc hqc rfl rfl jw_5aa504ca27 jw_8305b013c0 jw_b768ebc9da jw_f96c99f44d jw_244fd0acfd jn_X11_ask rfl (jj_le rfl) (jj_le rfl) (jj_le rfl) (jj_le rfl) (jj_le rfl) dX11_readSubscription_84 rfl (fun _ _ _ hX => hX.elim) (fun rx pl_446 r O_450 => ?_)
            obtain ⟨rfl, hok_447, hr_448, ha_449, hR_451⟩ := O_450
            replace hs12 := hr_448.at hk0 (by decide) (by decide) hs12
            replace hs16 := hr_448.at hk0 (by decide) (by decide) hs16
            replace hf_433 := hr_448.at hk0 (by decide) (by decide) hf_433
            replace hf_434 := hr_448.at hk0 (by decide) (by decide) hf_434
            replace hf_435 := hr_448.at hk0 (by decide) (by decide) hf_435
            replace hf_436 := hr_448.at hk0 (by decide) (by decide) hf_436
            replace hu := ha_449.at hk9 (by decide) (by decide) hu
            replace hm := hm.fr hr_448 hk0 rfl
            replace hfr := hfr.trans (hr_448.sub (by decide))
            replace hfa := hfa.trans (ha_449.sub (by decide))
            obtain ⟨g_452, hC_453, hI_454, hq_455, hq_456, hq_457, hq_458, rfl⟩ := hR_451
            have hM : n_430 = 0 → n_406 = 0 ∧ n_382 = 0 := fun z9 => by
              have w3 := hy_438.mz.mp z9
              have w2 := ps_step.err hs_437 w3
              have w1 := ps_step.err hs_414 w2
              exact ⟨hy_415.mz.mpr w2, hy_391.mz.mpr w1⟩
            exact jj_vret C ⟨[], pl_446, rfl, rfl, hok_447, hfr, hfa, ⟨y_432, _, n_428, n_429, n_430, x_431, hC_453, hf_433, hf_434, hf_435, hf_436, ⟨y_371, y_385, y_409, hs_372, hs_390, hs_414, hs_437⟩, hy_438, (by omega), (by omega), (by omega), (by omega), (by omega), (fun _ => ⟨rl_FR.ask (a := y_445.toInt) hF hI_454 (by have q9 := hq_455; rw [if_pos rfl] at q9; exact q9) (by omega) hq_456 (hq_457 9 (by decide) (by decide)) hq_458, (by have q9 := hq_457 0 (by decide) (by decide); rw [q9]; exact hi), (by have q9 := hq_458; omega)⟩), rfl⟩⟩ dX11_readSubscription_87 (jj_le rfl) (jj_le rfl)
        · have hzn_366 := ht_370.le (by omega)
          exfalso; omega
      · exfalso; omega

set_option maxHeartbeats 4000000 in
set_option maxRecDepth 100000 in
theorem re_parseFund {l : Launch} (hl : l.stackTraces = false) (D : va_G) (cA : Nat → ClassId) (ak : (Nat → Nat) × (Nat → Nat)) {Kd : Nat → Nat} {h0 aw aa at0 ai af ap : Nat} (n13 : Nat) (n6 : Nat) (at9 : Nat) (u : Nat → Int32) (c : Nat → Int) (B C9 : Int) (f P : Nat → Int64) (hk0 : Kd h0 = 1) (hkw : Kd aw = 2) (hka : Kd aa = 3) (hkt : Kd at0 = 4) (hki : Kd ai = 5) (hkf : Kd af = 6) (hkp : Kd ap = 7) (ln13 : (0 : Int) ≤ (n13 : Int)) (un13 : (n13 : Int) ≤ 400) (ln6 : (0 : Int) ≤ (n6 : Int)) (un6 : (n6 : Int) ≤ 10) (hk9 : Kd at9 = 10) (hK : rl_K B C9 f) (hHP : rl_HP B C9 P n6) (hB5 : B ≤ 43520000000) (hB0 : 12760000000 ≤ B) (hC9 : 0 ≤ C9 ∧ C9 ≤ 4000000000000000000) (hc : ∀ k : Nat, k < n13 → c k = ((u k) &&& 255).toInt) {pl0 : va_W} (hok : tt_ok rt_tk cA Kd pl0) (hm : rl_m pl0 h0 aw aa at0 ai af ap) (hC : tt_lc pl0 aw f) (hCp : tt_lc pl0 ap P) (hs12 : tt_at pl0 h0 12 (.ref at9)) (hu : tt_ic pl0 at9 u) (hs6 : tt_at pl0 h0 6 (.int (nI n6))) (hs13 : tt_at pl0 h0 13 (.int (nI n13))) : jj_M l D cA ak yX11_parseFund (.code yX11_parseFund cX11_parseFund 3 (some .int)) 9 228 0 0 ([] ++ pl0) [.ref h0] (tt_O (fun rx pl1 r => rx = [] ∧ tt_ok rt_tk cA Kd pl1 ∧ tt_fr Kd [(1, 6), (1, 7), (1, 8), (1, 9), (1, 13), (1, 14), (1, 15), (1, 16), (1, 17), (1, 18)] pl0 pl1 ∧ tt_fa Kd [2, 5, 6, 8, 9] pl0 pl1 ∧ ((∃ k q : Nat, k ≠ 0 ∧ k ≤ 3 ∧ ps_all c n13 (k, q, 0) ∧ rl_M (B + 30000000) (C9 + 2000) pl1 h0 aw ap ∧ tt_at pl1 h0 13 (.int 0) ∧ tt_at pl1 h0 17 (.int (nI k)) ∧ tt_at pl1 h0 18 (.int (nI q)) ∧ r = some (.int (-1))) ∨ (∃ j : Nat, ps_all c n13 (0, 0, j) ∧ rl_M (B + 30000000) (C9 + 2000) pl1 h0 aw ap ∧ tt_at pl1 h0 13 (.int 0) ∧ tt_at pl1 h0 17 (.int (nI 0)) ∧ tt_at pl1 h0 18 (.int (-1)) ∧ r = some (.int (nI j)))))) (tt_OX (fun _ _ _ => False)) := by
  refine jj_start hl (by decide) jw_00b8c50085 (jj_le rfl) ?_
  intro p e s m args below meth c9 A hargs hA C hex hmn
  have hfr := tt_fr.refl (K := Kd) (WS := [(1, 6), (1, 7), (1, 8), (1, 9), (1, 13), (1, 14), (1, 15), (1, 16), (1, 17), (1, 18)]) pl0
  have hfa := tt_fa.refl (K := Kd) (WA := [2, 5, 6, 8, 9]) pl0
  have hI := hK.1
  have hP := hK.2.1
  have hH := hI.1.1
  obtain ⟨⟨g0a, g0b⟩, ⟨g1a, g1b⟩, ⟨g6a, g6b⟩, ⟨g7a, g7b⟩, ⟨g8a, g8b⟩⟩ := hH
  have hB : B ≤ 43920000000 := by omega
  have hB6 : B + 360000000 ≤ 43920000000 := by omega
  have h9 := hK.h9 (by omega)
  refine jj_aload_n C dX11_parseFund_0 rfl ?_
  refine jj_iconst (v := 0) C dX11_parseFund_1 (by decide) ?_
  refine rl_put C hok jk_12 7 (by decide) jw_0a65e3738e (t := (0, (-2147483648), 2147483647)) hk0 (by decide) rfl rfl rfl (tt_ia (0 : Int32)) rfl rfl dX11_parseFund_2 (fun pl_1 hok_2 tr hn tl => ?_)
  replace hs12 := tr _ _ _ (Or.inr (by decide)) hs12
  replace hs6 := tr _ _ _ (Or.inr (by decide)) hs6
  replace hs13 := tr _ _ _ (Or.inr (by decide)) hs13
  have hf_3 := hn
  replace hm := hm.put tr (by decide)
  replace hfr := hfr.put hk0 tr (by decide)
  replace hC := tl _ _ hC
  replace hCp := tl _ _ hCp
  replace hu := tl _ _ hu
  replace hfa := hfa.all tl
  refine jj_aload_n C dX11_parseFund_5 rfl ?_
  refine jj_iconst (v := (-1)) C dX11_parseFund_6 (by decide) ?_
  refine rl_put C hok_2 jk_12 18 (by decide) jw_a8ef26b797 (t := (0, (-2147483648), 2147483647)) hk0 (by decide) rfl rfl rfl (tt_ia ((-1) : Int32)) rfl rfl dX11_parseFund_7 (fun pl_4 hok_5 tr hn tl => ?_)
  replace hs12 := tr _ _ _ (Or.inr (by decide)) hs12
  replace hs6 := tr _ _ _ (Or.inr (by decide)) hs6
  replace hs13 := tr _ _ _ (Or.inr (by decide)) hs13
  replace hf_3 := tr _ _ _ (Or.inr (by decide)) hf_3
  have hf_6 := hn
  replace hm := hm.put tr (by decide)
  replace hfr := hfr.put hk0 tr (by decide)
  replace hC := tl _ _ hC
  replace hCp := tl _ _ hCp
  replace hu := tl _ _ hu
  replace hfa := hfa.all tl
  refine jj_aload_n C dX11_parseFund_10 rfl ?_
  refine tt_getF C hok_5 jk_12 4 (by decide) jw_69cfdf3f6e (t := (2, 6, 0)) hk0 (by decide) rfl rfl hm.2.2.2.2.1 dX11_parseFund_11 ?_
  refine tt_callS (rest := []) C (rs_lay_af hl D cA ak hk0 hkw hka hkt hki hkf hkp hok_5 hm) [] [] rfl rfl (by decide) (by decide) (by decide) jw_3b8ecbdfcd jw_d4f8e1a641 jw_f96c99f44d jw_62f637beca jn_X11_lay rfl (jj_le rfl) (jj_le rfl) (jj_le rfl) (jj_le rfl) (jj_le rfl) dX11_parseFund_14 rfl (fun _ _ _ hX => hX.elim) (fun rx pl_7 r O_11 => ?_)
  obtain ⟨rfl, hok_8, hr_9, ha_10, hR_12⟩ := O_11
  replace hs12 := hr_9.at hk0 (by decide) (by decide) hs12
  replace hs6 := hr_9.at hk0 (by decide) (by decide) hs6
  replace hs13 := hr_9.at hk0 (by decide) (by decide) hs13
  replace hf_3 := hr_9.at hk0 (by decide) (by decide) hf_3
  replace hf_6 := hr_9.at hk0 (by decide) (by decide) hf_6
  replace hC := ha_10.at hkw (by decide) (by decide) hC
  replace hCp := ha_10.at hkp (by decide) (by decide) hCp
  replace hu := ha_10.at hk9 (by decide) (by decide) hu
  replace hm := hm.fr hr_9 hk0 rfl
  replace hfr := hfr.trans (hr_9.sub (by decide))
  replace hfa := hfa.trans (ha_10.sub (by decide))
  obtain ⟨g_13, hC_14, hZ_15, rfl⟩ := hR_12
  refine jj_aload_n C dX11_parseFund_17 rfl ?_
  obtain ⟨qc, gs, hqc⟩ := tt_recv (cx := []) hok_8 hk0 (by decide) rfl
  refine tt_callV (rest := []) C (re_begin hl D cA ak n13 at9 u c hk0 hkw hka hkt hki hkf hkp (by first | omega | decide) (by first | omega | decide) hk9 hc hok_8 hm hs12 hu hs13) [] [] rfl rfl (by decide) (by decide) (by decide) qc hqc rfl rfl jw_1025d8fa7d jw_5db37f4e19 jw_57740f6cb0 jw_f96c99f44d jw_10a65a4ad6 jn_X11_begin rfl (jj_le rfl) (jj_le rfl) (jj_le rfl) (jj_le rfl) (jj_le rfl) dX11_parseFund_18 rfl (fun _ _ _ hX => hX.elim) (fun rx pl_16 r O_20 => ?_)
  obtain ⟨rfl, hok_17, hr_18, ha_19, hR_21⟩ := O_20
  replace hs12 := hr_18.at hk0 (by decide) (by decide) hs12
  replace hs6 := hr_18.at hk0 (by decide) (by decide) hs6
  replace hf_3 := hr_18.at hk0 (by decide) (by decide) hf_3
  replace hf_6 := hr_18.at hk0 (by decide) (by decide) hf_6
  replace hC := ha_19.at hkw (by decide) (by decide) hC
  replace hCp := ha_19.at hkp (by decide) (by decide) hCp
  replace hC_14 := ha_19.at hkf (by decide) (by decide) hC_14
  replace hu := ha_19.at hk9 (by decide) (by decide) hu
  replace hm := hm.fr hr_18 hk0 rfl
  replace hfr := hfr.trans (hr_18.sub (by decide))
  replace hfa := hfa.trans (ha_19.sub (by decide))
  obtain ⟨n_22, n_23, hf_24, hf_25, hf_26, hf_27, hf_28, ht_29, rfl⟩ := hR_21
  have hzn_22 := ht_29.le (by omega)
  refine jj_aload_n C dX11_parseFund_21 rfl ?_
  obtain ⟨qc, gs, hqc⟩ := tt_recv (cx := []) hok_17 hk0 (by decide) rfl
  refine tt_callV (rest := []) C (re_readHead hl D cA ak ((-1) : Int32) 0 n13 n_23 n_22 at9 u c g_13 hk0 hkw hka hkt hki hkf hkp (by first | omega | decide | exact tt_lo _ | exact tt_hi _) (by first | omega | decide | exact tt_lo _ | exact tt_hi _) (by first | omega | decide) (by first | omega | decide) (by first | omega | decide) (by first | omega | decide) (by first | omega | decide) (by first | omega | decide) (by first | omega | decide) (by first | omega | decide) hk9 (by omega) (by omega) hc (Or.inl ⟨rfl, rfl, ht_29, rfl⟩) hZ_15 hok_17 hm hC_14 hs12 hu hf_25 hf_26 hf_27 hf_28 hf_6) [] [] rfl rfl (by decide) (by decide) (by decide) qc hqc rfl rfl jw_39f982543e jw_9a3148fb7a jw_68f7188653 jw_f96c99f44d jw_753a64c668 jn_X11_readHead rfl (jj_le rfl) (jj_le rfl) (jj_le rfl) (jj_le rfl) (jj_le rfl) dX11_parseFund_22 rfl (fun _ _ _ hX => hX.elim) (fun rx pl_30 r O_34 => ?_)
  obtain ⟨rfl, hok_31, hr_32, ha_33, hR_35⟩ := O_34
  replace hs12 := hr_32.at hk0 (by decide) (by decide) hs12
  replace hs6 := hr_32.at hk0 (by decide) (by decide) hs6
  replace hf_3 := hr_32.at hk0 (by decide) (by decide) hf_3
  replace hf_27 := hr_32.at hk0 (by decide) (by decide) hf_27
  replace hf_24 := hr_32.at hk0 (by decide) (by decide) hf_24
  replace hC := ha_33.at hkw (by decide) (by decide) hC
  replace hCp := ha_33.at hkp (by decide) (by decide) hCp
  replace hu := ha_33.at hk9 (by decide) (by decide) hu
  replace hm := hm.fr hr_32 hk0 rfl
  replace hfr := hfr.trans (hr_32.sub (by decide))
  replace hfa := hfa.trans (ha_33.sub (by decide))
  obtain ⟨y_42, i_43, g_36, n_38, n_39, n_40, x_41, hC_37, hf_44, hf_45, hf_46, hf_47, hd_48, hy_49, hq_50, hq_51, hq_52, hq_53, rfl⟩ := hR_35
  have lx_41 := tt_lo x_41
  have ux_41 := tt_hi x_41
  have hL_54 : ∀ (N : Nat) (pl : va_W) (g_55 : Nat → Int64) (n_60 : Nat) (n_61 : Nat) (n_62 : Nat) (x_63 : Int32), True → tt_ok rt_tk cA Kd pl → tt_fr Kd [(1, 6), (1, 7), (1, 8), (1, 9), (1, 13), (1, 14), (1, 15), (1, 16), (1, 17), (1, 18)] pl0 pl → tt_fa Kd [2, 5, 6, 8, 9] pl0 pl → rl_m pl h0 aw aa at0 ai af ap → tt_at pl h0 12 (.ref at9) → tt_at pl h0 6 (.int (nI n6)) → tt_at pl h0 16 (.int (nI n13)) → tt_at pl h0 13 (.int 0) → tt_lc pl aw f → tt_lc pl ap P → tt_ic pl at9 u → tt_lc pl af g_55 → (n_62 = 0 → rl_FR g_55) → tt_at pl h0 14 (.int (nI n_60)) → tt_at pl h0 15 (.int (nI n_61)) → tt_at pl h0 17 (.int (nI n_62)) → tt_at pl h0 18 (.int x_63) → (0 : Int) ≤ (n_60 : Int) → (n_60 : Int) ≤ 400 → (0 : Int) ≤ (n_61 : Int) → (n_61 : Int) ≤ 400 → (0 : Int) ≤ (n_62 : Int) → (n_62 : Int) ≤ 3 → (-2147483648 : Int) ≤ x_63.toInt → x_63.toInt ≤ 2147483647 → (n_60 ≤ n_61 ∧ n_61 ≤ n13 ∧ ∃ (y : ps_S) (j : Nat), (n_62 = 0 → (g_55 0).toInt = i_43 ∧ (g_55 8).toInt = (j : Int)) ∧ ps_at c n13 y n_62 n_60 n_61 x_63 ∧ ps_go c n13 i_43 y_42 y j) → (1000 * (3 - ((n_62 : Nat) : Int)) + (((n13 : Nat) : Int) - ((n_60 : Nat) : Int)) + 1 ≤ (N : Int)) → jj_J p l e (jj_rm 9 228 0 0) s m args below meth c9 3 A (vx_MQ below (jj_q D A (tt_O (fun rx pl1 r => rx = [] ∧ tt_ok rt_tk cA Kd pl1 ∧ tt_fr Kd [(1, 6), (1, 7), (1, 8), (1, 9), (1, 13), (1, 14), (1, 15), (1, 16), (1, 17), (1, 18)] pl0 pl1 ∧ tt_fa Kd [2, 5, 6, 8, 9] pl0 pl1 ∧ ((∃ k q : Nat, k ≠ 0 ∧ k ≤ 3 ∧ ps_all c n13 (k, q, 0) ∧ rl_M (B + 30000000) (C9 + 2000) pl1 h0 aw ap ∧ tt_at pl1 h0 13 (.int 0) ∧ tt_at pl1 h0 17 (.int (nI k)) ∧ tt_at pl1 h0 18 (.int (nI q)) ∧ r = some (.int (-1))) ∨ (∃ j : Nat, ps_all c n13 (0, 0, j) ∧ rl_M (B + 30000000) (C9 + 2000) pl1 h0 aw ap ∧ tt_at pl1 h0 13 (.int 0) ∧ tt_at pl1 h0 17 (.int (nI 0)) ∧ tt_at pl1 h0 18 (.int (-1)) ∧ r = some (.int (nI j))))))) (jj_x D A (tt_OX (fun _ _ _ => False))) args s 0 0 A) (jj_X D A ([] ++ pl)) 0 0 25 [(0, .ref h0)] [] := by
    intro NL_54
    induction NL_54 with
    | zero => intro pl g_55 n_60 n_61 n_62 x_63 _ hok hfr hfa hm hf_56 hf_57 hf_58 hf_59 hC hCp hu hC_64 hD_65 hf_66 hf_67 hf_68 hf_69 ln_60 un_60 ln_61 un_61 ln_62 un_62 lx_63 ux_63 hS9 hNL_54; exfalso; omega
    | succ NL_54 ihL_54 =>
      intro pl g_55 n_60 n_61 n_62 x_63 _ hok hfr hfa hm hf_56 hf_57 hf_58 hf_59 hC hCp hu hC_64 hD_65 hf_66 hf_67 hf_68 hf_69 ln_60 un_60 ln_61 un_61 ln_62 un_62 lx_63 ux_63 hS9 hNL_54
      replace ihL_54 := fun pl g_55 n_60 n_61 n_62 x_63 h1 => ihL_54 pl g_55 n_60 n_61 n_62 x_63 trivial h1
      obtain ⟨hS9a, hS9b, y9, j9, hG9, hA9, hO9⟩ := hS9
      refine jj_aload_n C dX11_parseFund_25 rfl ?_
      refine tt_getF C hok jk_12 17 (by decide) jw_17e99f0710 (t := (0, (-2147483648), 2147483647)) hk0 (by decide) rfl rfl hf_68 dX11_parseFund_26 ?_
      refine jj_if_ne (tgt := 50) C dX11_parseFund_29 (by decide) (fun c_70 => ?_) (fun c_70 => ?_)
      · have z_c_70 := jc_neq (a := ((n_62 : Nat) : Int)) (b := 0) c_70 (rl_ti (by omega)) (by decide)
        refine jj_aload_n C dX11_parseFund_50 rfl ?_
        refine tt_getF C hok jk_12 17 (by decide) jw_17e99f0710 (t := (0, (-2147483648), 2147483647)) hk0 (by decide) rfl rfl hf_68 dX11_parseFund_51 ?_
        refine jj_if_le (tgt := 59) C dX11_parseFund_54 (by decide) (fun c_71 => ?_) (fun c_71 => ?_)
        · have z_c_71 := jc_le (a := ((n_62 : Nat) : Int)) (b := 0) c_71 (rl_ti (by omega)) (by decide)
          exfalso; omega
        · have z_c_71 := jc_nle (a := ((n_62 : Nat) : Int)) (b := 0) c_71 (rl_ti (by omega)) (by decide)
          refine jj_iconst (v := (-1)) C dX11_parseFund_57 (by decide) ?_
          exact jj_iret C ⟨[], pl, rfl, rfl, hok, hfr, hfa, (Or.inl (by obtain ⟨k9, q9, e9, s9⟩ := hO9.err hA9 (by omega); exact ⟨n_62, q9, (by omega), (by omega), ⟨y_42, i_43, k9, hd_48, s9⟩, ⟨f, P, n6, hC, hCp, hf_57, (by omega), hK.mono (by omega) (by omega), hHP.mono (by omega) (by omega)⟩, hf_59, hf_68, (by rw [← e9]; exact hf_69), rfl⟩))⟩ dX11_parseFund_58 (jj_le rfl) (jj_le rfl)
      · have z_c_70 := jc_eq (a := ((n_62 : Nat) : Int)) (b := 0) c_70 (rl_ti (by omega)) (by decide)
        refine jj_aload_n C dX11_parseFund_32 rfl ?_
        refine tt_getF C hok jk_12 14 (by decide) jw_6446e1fd81 (t := (0, 0, 400)) hk0 (by decide) rfl rfl hf_66 dX11_parseFund_33 ?_
        refine jj_aload_n C dX11_parseFund_36 rfl ?_
        refine tt_getF C hok jk_12 16 (by decide) jw_28b46cb90c (t := (0, 0, 400)) hk0 (by decide) rfl rfl hf_58 dX11_parseFund_37 ?_
        refine jj_icmp_ge (tgt := 50) C dX11_parseFund_40 (by decide) (fun c_72 => ?_) (fun c_72 => ?_)
        · have z_c_72 := jc_le (a := ((n13 : Nat) : Int)) (b := ((n_60 : Nat) : Int)) c_72 (rl_ti (by omega)) (rl_ti (by omega))
          refine jj_aload_n C dX11_parseFund_50 rfl ?_
          refine tt_getF C hok jk_12 17 (by decide) jw_17e99f0710 (t := (0, (-2147483648), 2147483647)) hk0 (by decide) rfl rfl hf_68 dX11_parseFund_51 ?_
          refine jj_if_le (tgt := 59) C dX11_parseFund_54 (by decide) (fun c_73 => ?_) (fun c_73 => ?_)
          · have z_c_73 := jc_le (a := ((n_62 : Nat) : Int)) (b := 0) c_73 (rl_ti (by omega)) (by decide)
            have hK_74 : rl_K B C9 g_55 := (hD_65 (by omega)).K (by omega) (by omega)
            refine jj_aload_n C dX11_parseFund_59 rfl ?_
            refine tt_getF C hok jk_12 4 (by decide) jw_69cfdf3f6e (t := (2, 6, 0)) hk0 (by decide) rfl rfl hm.2.2.2.2.1 dX11_parseFund_60 ?_
            refine jj_aload_n C dX11_parseFund_63 rfl ?_
            refine tt_getF C hok jk_12 0 (by decide) jw_34eaf3ba8b (t := (2, 2, 0)) hk0 (by decide) rfl rfl hm.1 dX11_parseFund_64 ?_
            refine tt_callS (rest := []) C (rs_copy_af_aw hl D cA ak g_55 hk0 hkw hka hkt hki hkf hkp hok hm hC_64) [] [] rfl rfl (by decide) (by decide) (by decide) jw_b2f7d68e03 jw_8cf8ac8b0e jw_f96c99f44d jw_1431b790b8 jn_X11_copy rfl (jj_le rfl) (jj_le rfl) (jj_le rfl) (jj_le rfl) (jj_le rfl) dX11_parseFund_67 rfl (fun _ _ _ hX => hX.elim) (fun rx pl_75 r O_79 => ?_)
            obtain ⟨rfl, hok_76, hr_77, ha_78, hR_80⟩ := O_79
            replace hf_56 := hr_77.at hk0 (by decide) (by decide) hf_56
            replace hf_57 := hr_77.at hk0 (by decide) (by decide) hf_57
            replace hf_58 := hr_77.at hk0 (by decide) (by decide) hf_58
            replace hf_59 := hr_77.at hk0 (by decide) (by decide) hf_59
            replace hf_66 := hr_77.at hk0 (by decide) (by decide) hf_66
            replace hf_67 := hr_77.at hk0 (by decide) (by decide) hf_67
            replace hf_68 := hr_77.at hk0 (by decide) (by decide) hf_68
            replace hf_69 := hr_77.at hk0 (by decide) (by decide) hf_69
            replace hCp := ha_78.at hkp (by decide) (by decide) hCp
            replace hC_64 := ha_78.at hkf (by decide) (by decide) hC_64
            replace hu := ha_78.at hk9 (by decide) (by decide) hu
            replace hm := hm.fr hr_77 hk0 rfl
            replace hfr := hfr.trans (hr_77.sub (by decide))
            replace hfa := hfa.trans (ha_78.sub (by decide))
            obtain ⟨g_81, hC_82, he_83, rfl⟩ := hR_80
            obtain ⟨⟨g0ag_81, g0bg_81⟩, ⟨g1ag_81, g1bg_81⟩, ⟨g6ag_81, g6bg_81⟩, ⟨g7ag_81, g7bg_81⟩, ⟨g8ag_81, g8bg_81⟩⟩ := (rl_I.cong hK_74.1 he_83).1.1.1
            refine jj_aload_n C dX11_parseFund_70 rfl ?_
            refine jj_iconst (v := 0) C dX11_parseFund_71 (by decide) ?_
            refine rl_put C hok_76 jk_12 6 (by decide) jw_39db7f12ad (t := (0, 0, 10)) hk0 (by decide) rfl rfl rfl (tt_iv (by decide) (by decide)) rfl rfl dX11_parseFund_72 (fun pl_84 hok_85 tr hn tl => ?_)
            replace hf_56 := tr _ _ _ (Or.inr (by decide)) hf_56
            replace hf_58 := tr _ _ _ (Or.inr (by decide)) hf_58
            replace hf_59 := tr _ _ _ (Or.inr (by decide)) hf_59
            replace hf_66 := tr _ _ _ (Or.inr (by decide)) hf_66
            replace hf_67 := tr _ _ _ (Or.inr (by decide)) hf_67
            replace hf_68 := tr _ _ _ (Or.inr (by decide)) hf_68
            replace hf_69 := tr _ _ _ (Or.inr (by decide)) hf_69
            have hf_86 := hn
            replace hm := hm.put tr (by decide)
            replace hfr := hfr.put hk0 tr (by decide)
            replace hCp := tl _ _ hCp
            replace hC_64 := tl _ _ hC_64
            replace hC_82 := tl _ _ hC_82
            replace hu := tl _ _ hu
            replace hfa := hfa.all tl
            refine jj_aload_n C dX11_parseFund_75 rfl ?_
            refine tt_getF C hok_85 jk_12 0 (by decide) jw_34eaf3ba8b (t := (2, 2, 0)) hk0 (by decide) rfl rfl hm.1 dX11_parseFund_76 ?_
            refine jj_bipush (v := 8) C dX11_parseFund_79 (by decide) ?_
            refine rl_lald C hok_85 (t := (1, (-9223372036854775808), 9223372036854775807)) hkw (by decide) rfl (k := 8) (v := (g_81 8)) (vp_in_iff.mpr (by decide)) hC_82 (by decide) rfl dX11_parseFund_81 ?_
            obtain ⟨n_87, en_87, vn_87⟩ := rl_l2i (x := (g_81 8)) (by omega) (by omega)
            refine jj_l2i (v := nI n_87) C dX11_parseFund_82 en_87 ?_
            refine jj_istore_n C dX11_parseFund_83 (by decide) rfl ?_
            refine jj_aload_n C dX11_parseFund_84 rfl ?_
            obtain ⟨qc, gs, hqc⟩ := tt_recv (cx := []) hok_85 hk0 (by decide) rfl
            refine tt_callV (rest := []) C (rs_dealNow hl D cA ak B g_81 hk0 hkw hka hkt hki hkf hkp (rl_I.cong hK_74.1 he_83).1 (hK_74.2.1.cong hK_74.1 he_83) hB6 ((hK_74.cong he_83).h9 (by omega)) hok_85 hm hC_82) [] [] rfl rfl (by decide) (by decide) (by decide) qc hqc rfl rfl jw_10d6ffe387 jw_c13a582434 jw_c2b73db722 jw_f96c99f44d jw_fad3683772 jn_X11_dealNow rfl (jj_le rfl) (jj_le rfl) (jj_le rfl) (jj_le rfl) (jj_le rfl) dX11_parseFund_85 rfl (fun _ _ _ hX => hX.elim) (fun rx pl_88 r O_92 => ?_)
            obtain ⟨rfl, hok_89, hr_90, ha_91, hR_93⟩ := O_92
            replace hf_56 := hr_90.at hk0 (by decide) (by decide) hf_56
            replace hf_58 := hr_90.at hk0 (by decide) (by decide) hf_58
            replace hf_59 := hr_90.at hk0 (by decide) (by decide) hf_59
            replace hf_66 := hr_90.at hk0 (by decide) (by decide) hf_66
            replace hf_67 := hr_90.at hk0 (by decide) (by decide) hf_67
            replace hf_68 := hr_90.at hk0 (by decide) (by decide) hf_68
            replace hf_69 := hr_90.at hk0 (by decide) (by decide) hf_69
            replace hf_86 := hr_90.at hk0 (by decide) (by decide) hf_86
            replace hCp := ha_91.at hkp (by decide) (by decide) hCp
            replace hC_64 := ha_91.at hkf (by decide) (by decide) hC_64
            replace hu := ha_91.at hk9 (by decide) (by decide) hu
            replace hm := hm.fr hr_90 hk0 rfl
            replace hfr := hfr.trans (hr_90.sub (by decide))
            replace hfa := hfa.trans (ha_91.sub (by decide))
            obtain ⟨g_94, hC_95, hI_96, hP_97, hq_98, hq_99, hq_100, x_101, rfl⟩ := hR_93
            obtain ⟨⟨g0ag_94, g0bg_94⟩, ⟨g1ag_94, g1bg_94⟩, ⟨g6ag_94, g6bg_94⟩, ⟨g7ag_94, g7bg_94⟩, ⟨g8ag_94, g8bg_94⟩⟩ := hI_96.1.1
            refine jj_istore_n C dX11_parseFund_88 (by decide) rfl ?_
            refine jj_iload_n C dX11_parseFund_89 rfl ?_
            exact jj_iret C ⟨[], pl_88, rfl, rfl, hok_89, hfr, hfa, (Or.inr (by obtain ⟨k9, s9⟩ := hO9.fin hA9 (by omega) (by omega); have e9 : j9 = n_87 := (by have q9 := (hG9 (by omega)).2; rw [← he_83 8 (by decide)] at q9; omega); subst e9; exact ⟨j9, ⟨y_42, i_43, k9, hd_48, s9⟩, ⟨_, P, 0, hC_95, hCp, hf_86, (by omega), ⟨hI_96.mono (by omega), hP_97, (by have q9 := hq_100; have q8 := (hK_74.cong he_83).2.2; omega)⟩, rl_HP.zero _ _ _⟩, hf_59, (by have e9 : n_62 = 0 := (by omega); have e8 := hf_68; rw [e9] at e8; exact e8), (by have e8 := hA9.none (by omega); have e7 := hf_69; rw [e8] at e7; exact e7), rfl⟩))⟩ dX11_parseFund_90 (jj_le rfl) (jj_le rfl)
          · have z_c_73 := jc_nle (a := ((n_62 : Nat) : Int)) (b := 0) c_73 (rl_ti (by omega)) (by decide)
            exfalso; omega
        · have z_c_72 := jc_nle (a := ((n13 : Nat) : Int)) (b := ((n_60 : Nat) : Int)) c_72 (rl_ti (by omega)) (rl_ti (by omega))
          refine jj_aload_n C dX11_parseFund_43 rfl ?_
          obtain ⟨qc, gs, hqc⟩ := tt_recv (cx := []) hok hk0 (by decide) rfl
          refine tt_callV (rest := []) C (re_readSubscription hl D cA ak x_63 n_62 n13 n_61 n_60 at9 u c y9 i_43 j9 g_55 hk0 hkw hka hkt hki hkf hkp (by first | omega | decide | exact tt_lo _ | exact tt_hi _) (by first | omega | decide | exact tt_lo _ | exact tt_hi _) (by first | omega | decide) (by first | omega | decide) (by first | omega | decide) (by first | omega | decide) (by first | omega | decide) (by first | omega | decide) (by first | omega | decide) (by first | omega | decide) hk9 (by omega) (by omega) hc (by omega) (hD_65 (by omega)) (hG9 (by omega)).1 (hG9 (by omega)).2 hA9 hok hm hC_64 hf_56 hu hf_66 hf_67 hf_58 hf_68 hf_69) [] [] rfl rfl (by decide) (by decide) (by decide) qc hqc rfl rfl jw_2b71fe6d67 jw_0bfb84ee11 jw_aba2f4e372 jw_f96c99f44d jw_da8ec0ee3d jn_X11_readSubscription rfl (jj_le rfl) (jj_le rfl) (jj_le rfl) (jj_le rfl) (jj_le rfl) dX11_parseFund_44 rfl (fun _ _ _ hX => hX.elim) (fun rx pl_102 r O_106 => ?_)
          obtain ⟨rfl, hok_103, hr_104, ha_105, hR_107⟩ := O_106
          replace hf_56 := hr_104.at hk0 (by decide) (by decide) hf_56
          replace hf_57 := hr_104.at hk0 (by decide) (by decide) hf_57
          replace hf_58 := hr_104.at hk0 (by decide) (by decide) hf_58
          replace hf_59 := hr_104.at hk0 (by decide) (by decide) hf_59
          replace hC := ha_105.at hkw (by decide) (by decide) hC
          replace hCp := ha_105.at hkp (by decide) (by decide) hCp
          replace hu := ha_105.at hk9 (by decide) (by decide) hu
          replace hm := hm.fr hr_104 hk0 rfl
          replace hfr := hfr.trans (hr_104.sub (by decide))
          replace hfa := hfa.trans (ha_105.sub (by decide))
          obtain ⟨y_114, g_108, n_110, n_111, n_112, x_113, hC_109, hf_115, hf_116, hf_117, hf_118, hd_119, hy_120, hq_121, hq_122, hq_123, hq_124, hq_125, hq_126, rfl⟩ := hR_107
          have lx_113 := tt_lo x_113
          have ux_113 := tt_hi x_113
          refine jj_goto (tgt := 25) C dX11_parseFund_47 (by decide) ?_
          exact ihL_54 pl_102 g_108 n_110 n_111 n_112 x_113 hok_103 hfr hfa hm hf_56 hf_57 hf_58 hf_59 hC hCp hu hC_109 (fun z9 => (hq_126 z9).1) hf_115 hf_116 hf_117 hf_118 (by first | omega | decide | exact tt_lo _ | exact tt_hi _) (by first | omega | decide | exact tt_lo _ | exact tt_hi _) (by first | omega | decide | exact tt_lo _ | exact tt_hi _) (by first | omega | decide | exact tt_lo _ | exact tt_hi _) (by first | omega | decide | exact tt_lo _ | exact tt_hi _) (by first | omega | decide | exact tt_lo _ | exact tt_hi _) (by first | omega | decide | exact tt_lo _ | exact tt_hi _) (by first | omega | decide | exact tt_lo _ | exact tt_hi _) ⟨by omega, by omega, y_114, j9 + 1, (fun z9 => ⟨(hq_126 z9).2.1, (by have q9 := (hq_126 z9).2.2; omega)⟩), hy_120, hO9.step hA9 (by omega) (by omega) hd_119⟩ (by first | omega | decide | exact tt_lo _ | exact tt_hi _)
  exact hL_54 _ pl_30 g_36 n_38 n_39 n_40 x_41 trivial hok_31 hfr hfa hm hs12 hs6 hf_27 hf_24 hC hCp hu hC_37 (fun z9 => (hq_53 z9).1) hf_44 hf_45 hf_46 hf_47 (by first | omega | decide | exact tt_lo _ | exact tt_hi _) (by first | omega | decide | exact tt_lo _ | exact tt_hi _) (by first | omega | decide | exact tt_lo _ | exact tt_hi _) (by first | omega | decide | exact tt_lo _ | exact tt_hi _) (by first | omega | decide | exact tt_lo _ | exact tt_hi _) (by first | omega | decide | exact tt_lo _ | exact tt_hi _) (by first | omega | decide | exact tt_lo _ | exact tt_hi _) (by first | omega | decide | exact tt_lo _ | exact tt_hi _) ⟨by omega, by omega, y_42, 0, (fun z9 => ⟨(hq_53 z9).2.1, (by have q9 := (hq_53 z9).2.2; omega)⟩), hy_49, ps_go.init⟩ (Int.self_le_toNat _)
