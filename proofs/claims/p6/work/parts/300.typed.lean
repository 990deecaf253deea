set_option maxHeartbeats 4000000 in
set_option maxRecDepth 100000 in
theorem tc_X10_remember_1 {l : Launch} (hl : l.stackTraces = false) (D : va_G) (cA : Nat → ClassId) (ak : (Nat → Nat) × (Nat → Nat)) {Kd : Nat → Nat} (h0 : Nat) (hk0 : Kd h0 = 15) {pl0 : va_W} (hok : tt_ok tt_tk cA Kd pl0) : jj_M l D cA ak yX10_remember (.code yX10_remember cX10_remember 1 none) 3 53 63 408 ([] ++ pl0) [.ref h0] (tt_O (fun rx pl1 r => ∃ K1 : Nat → Nat, tt_ex Kd K1 ∧ rx = [] ∧ tt_ok tt_tk cA K1 pl1 ∧ tt_fr Kd [(1, 0), (1, 1), (1, 2), (1, 3), (1, 4), (1, 5), (1, 6), (1, 7), (1, 8), (1, 9), (2, 0), (2, 1), (2, 2), (2, 3), (2, 4), (3, 0), (3, 1), (3, 2), (3, 3), (3, 4), (3, 5), (4, 0), (4, 1), (4, 2), (4, 3), (4, 4), (15, 7), (15, 8)] pl0 pl1 ∧ tt_fa Kd [5] pl0 pl1 ∧ ((r = none)))) (tt_OX (fun _ _ _ => False)) := by
  refine jj_start hl (by decide) jw_eabf0b0f0c (jj_le rfl) ?_
  intro p e s m args below meth c A hargs hA C hex hmn
  have hfr := tt_fr.refl (K := Kd) (WS := [(1, 0), (1, 1), (1, 2), (1, 3), (1, 4), (1, 5), (1, 6), (1, 7), (1, 8), (1, 9), (2, 0), (2, 1), (2, 2), (2, 3), (2, 4), (3, 0), (3, 1), (3, 2), (3, 3), (3, 4), (3, 5), (4, 0), (4, 1), (4, 2), (4, 3), (4, 4), (15, 7), (15, 8)]) pl0
  have hfa := tt_fa.refl (K := Kd) (WA := [5]) pl0
  refine jj_aload_n C dX10_remember_0 rfl ?_
  refine jj_aload_n C dX10_remember_1 rfl ?_
  refine tt_get C hok jk_11 7 (by decide) jw_f074b96d56 (t := (0, 0, 9)) hk0 (by decide) rfl rfl dX10_remember_2 (fun v_1 hv_1 hf_2 => ?_)
  obtain ⟨x_3, rfl, lx_3, ux_3⟩ := tt_vi hv_1
  refine jj_iconst (v := 1) C dX10_remember_5 (by decide) ?_
  obtain ⟨x_4, ex_4, vx_4⟩ := tt_iadd (x := x_3) (y := (1 : Int32)) (a := x_3.toInt) rfl (b := 1) (by decide) (by omega) (by omega)
  refine jj_iadd (v := x_4) C dX10_remember_6 ex_4 ?_
  refine jj_bipush (v := 10) C dX10_remember_7 (by decide) ?_
  refine jj_icmp_ge (tgt := 21) C dX10_remember_9 (by decide) (fun c_5 => ?_) (fun c_5 => ?_)
  · have z_c_5 := jc_le (a := (10)) (b := (x_4).toInt) c_5 (by decide) rfl
    refine jj_iconst (v := 0) C dX10_remember_21 (by decide) ?_
    refine rl_put C hok jk_11 7 (by decide) jw_f074b96d56 (t := (0, 0, 9)) hk0 (by decide) rfl rfl rfl (tt_iv (by decide) (by decide)) rfl rfl dX10_remember_22 (fun pl_6 hok_7 tr hn tl => ?_)
    have hf_8 := hn
    replace hfr := hfr.put hk0 tr (by decide)
    replace hfa := hfa.all tl
    refine jj_aload_n C dX10_remember_25 rfl ?_
    refine tt_get C hok_7 jk_11 6 (by decide) jw_c7bfd4c89b (t := (2, 16, 0)) hk0 (by decide) rfl rfl dX10_remember_26 (fun v_9 hv_9 hf_10 => ?_)
    obtain ⟨a_11, rfl, ka_11⟩ := tt_vr hv_9
    refine jj_aload_n C dX10_remember_29 rfl ?_
    refine tt_getF C hok_7 jk_11 7 (by decide) jw_f074b96d56 (t := (0, 0, 9)) hk0 (by decide) rfl rfl hf_8 dX10_remember_30 ?_
    refine tt_aaldN C hok_7 (t := (3, 1, 0)) ka_11 (by decide) rfl rfl rfl (vp_in_iff.mpr (by decide)) dX10_remember_33 (fun v_12 hv_12 he_14 => ?_)
    rcases tt_vn hv_12 with rfl | ⟨a_13, rfl, ka_13⟩
    · refine jj_ifnonnullN C dX10_remember_34 ?_
      refine jj_aload_n C dX10_remember_37 rfl ?_
      refine tt_getF C hok_7 jk_11 6 (by decide) jw_c7bfd4c89b (t := (2, 16, 0)) hk0 (by decide) rfl rfl hf_10 dX10_remember_38 ?_
      refine jj_aload_n C dX10_remember_41 rfl ?_
      refine tt_getF C hok_7 jk_11 7 (by decide) jw_f074b96d56 (t := (0, 0, 9)) hk0 (by decide) rfl rfl hf_8 dX10_remember_42 ?_
      refine jj_new (wt := []) C jk_2 jw_e70c7fcb4b jw_3b2aa3361c jw_7d25d4fd32 jd_2 (jj_le rfl) (jj_le rfl) dX10_remember_45 (fun q_15 => ?_)
      refine tt_swp rfl ?_
      refine jj_dup C dX10_remember_48 rfl ?_
      refine tt_callI0 (rest := [.ref q_15, .int 0, .ref a_11]) C (tc_X0_init hl D cA ak q_15) [0] [] rfl rfl (by decide) (by decide) (by decide) jw_6eb1e064fe jw_6e7d7095aa jw_7d25d4fd32 jw_b958fb03a7 rfl jn_X0_init rfl (jj_le rfl) (jj_le rfl) (jj_le rfl) (jj_le rfl) (jj_le rfl) dX10_remember_49 rfl (fun w1 r hO => ?_)
      obtain ⟨rfl, Kb, hkb, hokb⟩ := hO
      refine tl_merge hok_7 hokb (fun K_16 pl_17 hok_18 hx_20 hy tr tr2 tl => ?_)
      have kq_15 := hy.kd hkb (by decide)
      replace hf_8 := tr _ _ _ hf_8
      replace hf_10 := tr _ _ _ hf_10
      replace hfr := hfr.arr tr
      replace hfa := hfa.all tl
      have hk0 := hx_20.kd hk0 (by decide)
      have ka_11 := hx_20.kd ka_11 (by decide)
      have hx_19 := hx_20
      refine tl_aast C hok_18 (t := (3, 1, 0)) ka_11 (by decide) rfl rfl rfl kq_15 (by decide) rfl rfl (vp_in_iff.mpr (by decide)) (tt_rvn kq_15) dX10_remember_52 (fun pl_21 hok_22 tr hne tl => ?_)
      replace hf_8 := tr _ _ _ hf_8
      replace hf_10 := tr _ _ _ hf_10
      replace hfr := hfr.arr tr
      replace hfa := hfa.all tl
      refine jj_aload_n C dX10_remember_53 rfl ?_
      refine tt_getF C hok_22 jk_11 6 (by decide) jw_c7bfd4c89b (t := (2, 16, 0)) hk0 (by decide) rfl rfl hf_10 dX10_remember_54 ?_
      refine jj_aload_n C dX10_remember_57 rfl ?_
      refine tt_getF C hok_22 jk_11 7 (by decide) jw_f074b96d56 (t := (0, 0, 9)) hk0 (by decide) rfl rfl hf_8 dX10_remember_58 ?_
      refine tt_aaldF C hok_22 (t := (3, 1, 0)) ka_11 (by decide) rfl rfl rfl (vp_in_iff.mpr (by decide)) hne dX10_remember_61 ?_
      refine jj_aload_n C dX10_remember_62 rfl ?_
      refine tt_get C hok_22 jk_11 3 (by decide) jw_f82a97e333 (t := (2, 1, 0)) hk0 (by decide) rfl rfl dX10_remember_63 (fun v_25 hv_25 hf_26 => ?_)
      obtain ⟨a_27, rfl, ka_27⟩ := tt_vr hv_25
      obtain ⟨qc, gs, hqc⟩ := tt_recv (cx := []) hok_22 kq_15 (by decide) rfl
      refine tt_callV (rest := []) C (tc_X0_copyFrom_1 hl D cA ak q_15 a_27 kq_15 ka_27 hok_22) [] [] rfl rfl (by decide) (by decide) (by decide) qc hqc rfl rfl jw_4d0cb05860 jw_8aa1bdb2cc jw_ac98d74d03 jw_7d25d4fd32 jw_58241735d3 jn_X0_copyFrom rfl (jj_le rfl) (jj_le rfl) (jj_le rfl) (jj_le rfl) (jj_le rfl) dX10_remember_66 rfl (fun _ _ _ hX => hX.elim) (fun rx pl_28 r O_31 => ?_)
      obtain ⟨rfl, hok_29, hr_30, hfa9, hR_33⟩ := O_31
      replace hf_8 := hr_30.at hk0 (by decide) (by decide) hf_8
      replace hf_10 := hr_30.at hk0 (by decide) (by decide) hf_10
      replace hf_26 := hr_30.at hk0 (by decide) (by decide) hf_26
      replace hfr := hfr.transX hx_19 (hr_30.sub (by decide))
      replace hfa := hfa.transX hx_19 (hfa9.sub (by decide))
      obtain rfl := hR_33
      refine jj_aload_n C dX10_remember_69 rfl ?_
      refine tt_get C hok_29 jk_11 8 (by decide) jw_427985f7c9 (t := (0, 0, 10)) hk0 (by decide) rfl rfl dX10_remember_70 (fun v_36 hv_36 hf_37 => ?_)
      obtain ⟨x_38, rfl, lx_38, ux_38⟩ := tt_vi hv_36
      refine jj_bipush (v := 10) C dX10_remember_73 (by decide) ?_
      refine jj_icmp_ge (tgt := 88) C dX10_remember_75 (by decide) (fun c_39 => ?_) (fun c_39 => ?_)
      · have z_c_39 := jc_le (a := (10)) (b := (x_38).toInt) c_39 (by decide) rfl
        exact jj_vret C ⟨[], pl_28, rfl, K_16, hx_19, rfl, hok_29, hfr, hfa, rfl⟩ dX10_remember_88 (jj_le rfl) (jj_le rfl)
      · have z_c_39 := jc_nle (a := (10)) (b := (x_38).toInt) c_39 (by decide) rfl
        refine jj_aload_n C dX10_remember_78 rfl ?_
        refine jj_dup C dX10_remember_79 rfl ?_
        refine tt_getF C hok_29 jk_11 8 (by decide) jw_427985f7c9 (t := (0, 0, 10)) hk0 (by decide) rfl rfl hf_37 dX10_remember_80 ?_
        refine jj_iconst (v := 1) C dX10_remember_83 (by decide) ?_
        obtain ⟨x_40, ex_40, vx_40⟩ := tt_iadd (x := x_38) (y := (1 : Int32)) (a := x_38.toInt) rfl (b := 1) (by decide) (by omega) (by omega)
        refine jj_iadd (v := x_40) C dX10_remember_84 ex_40 ?_
        refine rl_put C hok_29 jk_11 8 (by decide) jw_427985f7c9 (t := (0, 0, 10)) hk0 (by decide) rfl rfl rfl (tt_iv (by omega) (by omega)) rfl rfl dX10_remember_85 (fun pl_41 hok_42 tr hn tl => ?_)
        replace hf_8 := tr _ _ _ (Or.inr (by decide)) hf_8
        replace hf_10 := tr _ _ _ (Or.inr (by decide)) hf_10
        replace hf_26 := tr _ _ _ (Or.inr (by decide)) hf_26
        have hf_43 := hn
        replace hfr := hfr.putX hx_19 hk0 tr (by decide)
        replace hfa := hfa.all tl
        exact jj_vret C ⟨[], pl_41, rfl, K_16, hx_19, rfl, hok_42, hfr, hfa, rfl⟩ dX10_remember_88 (jj_le rfl) (jj_le rfl)
    · refine jj_ifnonnull (tgt := 53) C dX10_remember_34 (by decide) ?_
      refine jj_aload_n C dX10_remember_53 rfl ?_
      refine tt_getF C hok_7 jk_11 6 (by decide) jw_c7bfd4c89b (t := (2, 16, 0)) hk0 (by decide) rfl rfl hf_10 dX10_remember_54 ?_
      refine jj_aload_n C dX10_remember_57 rfl ?_
      refine tt_getF C hok_7 jk_11 7 (by decide) jw_f074b96d56 (t := (0, 0, 9)) hk0 (by decide) rfl rfl hf_8 dX10_remember_58 ?_
      refine tt_aaldF C hok_7 (t := (3, 1, 0)) ka_11 (by decide) rfl rfl rfl (vp_in_iff.mpr (by decide)) he_14 dX10_remember_61 ?_
      refine jj_aload_n C dX10_remember_62 rfl ?_
      refine tt_get C hok_7 jk_11 3 (by decide) jw_f82a97e333 (t := (2, 1, 0)) hk0 (by decide) rfl rfl dX10_remember_63 (fun v_46 hv_46 hf_47 => ?_)
      obtain ⟨a_48, rfl, ka_48⟩ := tt_vr hv_46
      obtain ⟨qc, gs, hqc⟩ := tt_recv (cx := []) hok_7 ka_13 (by decide) rfl
      refine tt_callV (rest := []) C (tc_X0_copyFrom_1 hl D cA ak a_13 a_48 ka_13 ka_48 hok_7) [] [] rfl rfl (by decide) (by decide) (by decide) qc hqc rfl rfl jw_4d0cb05860 jw_8aa1bdb2cc jw_ac98d74d03 jw_7d25d4fd32 jw_58241735d3 jn_X0_copyFrom rfl (jj_le rfl) (jj_le rfl) (jj_le rfl) (jj_le rfl) (jj_le rfl) dX10_remember_66 rfl (fun _ _ _ hX => hX.elim) (fun rx pl_49 r O_52 => ?_)
      obtain ⟨rfl, hok_50, hr_51, hfa9, hR_54⟩ := O_52
      replace hf_8 := hr_51.at hk0 (by decide) (by decide) hf_8
      replace hf_10 := hr_51.at hk0 (by decide) (by decide) hf_10
      replace hf_47 := hr_51.at hk0 (by decide) (by decide) hf_47
      replace hfr := hfr.trans (hr_51.sub (by decide))
      replace hfa := hfa.trans (hfa9.sub (by decide))
      obtain rfl := hR_54
      refine jj_aload_n C dX10_remember_69 rfl ?_
      refine tt_get C hok_50 jk_11 8 (by decide) jw_427985f7c9 (t := (0, 0, 10)) hk0 (by decide) rfl rfl dX10_remember_70 (fun v_57 hv_57 hf_58 => ?_)
      obtain ⟨x_59, rfl, lx_59, ux_59⟩ := tt_vi hv_57
      refine jj_bipush (v := 10) C dX10_remember_73 (by decide) ?_
      refine jj_icmp_ge (tgt := 88) C dX10_remember_75 (by decide) (fun c_60 => ?_) (fun c_60 => ?_)
      · have z_c_60 := jc_le (a := (10)) (b := (x_59).toInt) c_60 (by decide) rfl
        exact jj_vret C ⟨[], pl_49, rfl, Kd, tt_ex.refl _, rfl, hok_50, hfr, hfa, rfl⟩ dX10_remember_88 (jj_le rfl) (jj_le rfl)
      · have z_c_60 := jc_nle (a := (10)) (b := (x_59).toInt) c_60 (by decide) rfl
        refine jj_aload_n C dX10_remember_78 rfl ?_
        refine jj_dup C dX10_remember_79 rfl ?_
        refine tt_getF C hok_50 jk_11 8 (by decide) jw_427985f7c9 (t := (0, 0, 10)) hk0 (by decide) rfl rfl hf_58 dX10_remember_80 ?_
        refine jj_iconst (v := 1) C dX10_remember_83 (by decide) ?_
        obtain ⟨x_61, ex_61, vx_61⟩ := tt_iadd (x := x_59) (y := (1 : Int32)) (a := x_59.toInt) rfl (b := 1) (by decide) (by omega) (by omega)
        refine jj_iadd (v := x_61) C dX10_remember_84 ex_61 ?_
        refine rl_put C hok_50 jk_11 8 (by decide) jw_427985f7c9 (t := (0, 0, 10)) hk0 (by decide) rfl rfl rfl (tt_iv (by omega) (by omega)) rfl rfl dX10_remember_85 (fun pl_62 hok_63 tr hn tl => ?_)
        replace hf_8 := tr _ _ _ (Or.inr (by decide)) hf_8
        replace hf_10 := tr _ _ _ (Or.inr (by decide)) hf_10
        replace hf_47 := tr _ _ _ (Or.inr (by decide)) hf_47
        have hf_64 := hn
        replace hfr := hfr.put hk0 tr (by decide)
        replace hfa := hfa.all tl
        exact jj_vret C ⟨[], pl_62, rfl, Kd, tt_ex.refl _, rfl, hok_63, hfr, hfa, rfl⟩ dX10_remember_88 (jj_le rfl) (jj_le rfl)
  · have z_c_5 := jc_nle (a := (10)) (b := (x_4).toInt) c_5 (by decide) rfl
    refine jj_aload_n C dX10_remember_12 rfl ?_
    refine tt_getF C hok jk_11 7 (by decide) jw_f074b96d56 (t := (0, 0, 9)) hk0 (by decide) rfl rfl hf_2 dX10_remember_13 ?_
    refine jj_iconst (v := 1) C dX10_remember_16 (by decide) ?_
    refine jj_iadd (v := x_4) C dX10_remember_17 ex_4 ?_
    refine jj_goto (tgt := 22) C dX10_remember_18 (by decide) ?_
    refine rl_put C hok jk_11 7 (by decide) jw_f074b96d56 (t := (0, 0, 9)) hk0 (by decide) rfl rfl rfl (tt_iv (by omega) (by omega)) rfl rfl dX10_remember_22 (fun pl_66 hok_67 tr hn tl => ?_)
    have hf_68 := hn
    replace hfr := hfr.put hk0 tr (by decide)
    replace hfa := hfa.all tl
    refine jj_aload_n C dX10_remember_25 rfl ?_
    refine tt_get C hok_67 jk_11 6 (by decide) jw_c7bfd4c89b (t := (2, 16, 0)) hk0 (by decide) rfl rfl dX10_remember_26 (fun v_69 hv_69 hf_70 => ?_)
    obtain ⟨a_71, rfl, ka_71⟩ := tt_vr hv_69
    refine jj_aload_n C dX10_remember_29 rfl ?_
    refine tt_getF C hok_67 jk_11 7 (by decide) jw_f074b96d56 (t := (0, 0, 9)) hk0 (by decide) rfl rfl hf_68 dX10_remember_30 ?_
    refine tt_aaldN C hok_67 (t := (3, 1, 0)) ka_71 (by decide) rfl rfl rfl (vp_in_iff.mpr ⟨by omega, by omega⟩) dX10_remember_33 (fun v_72 hv_72 he_74 => ?_)
    rcases tt_vn hv_72 with rfl | ⟨a_73, rfl, ka_73⟩
    · refine jj_ifnonnullN C dX10_remember_34 ?_
      refine jj_aload_n C dX10_remember_37 rfl ?_
      refine tt_getF C hok_67 jk_11 6 (by decide) jw_c7bfd4c89b (t := (2, 16, 0)) hk0 (by decide) rfl rfl hf_70 dX10_remember_38 ?_
      refine jj_aload_n C dX10_remember_41 rfl ?_
      refine tt_getF C hok_67 jk_11 7 (by decide) jw_f074b96d56 (t := (0, 0, 9)) hk0 (by decide) rfl rfl hf_68 dX10_remember_42 ?_
      refine jj_new (wt := []) C jk_2 jw_e70c7fcb4b jw_3b2aa3361c jw_7d25d4fd32 jd_2 (jj_le rfl) (jj_le rfl) dX10_remember_45 (fun q_75 => ?_)
      refine tt_swp rfl ?_
      refine jj_dup C dX10_remember_48 rfl ?_
      refine tt_callI0 (rest := [.ref q_75, .int x_4, .ref a_71]) C (tc_X0_init hl D cA ak q_75) [0] [] rfl rfl (by decide) (by decide) (by decide) jw_6eb1e064fe jw_6e7d7095aa jw_7d25d4fd32 jw_b958fb03a7 rfl jn_X0_init rfl (jj_le rfl) (jj_le rfl) (jj_le rfl) (jj_le rfl) (jj_le rfl) dX10_remember_49 rfl (fun w1 r hO => ?_)
      obtain ⟨rfl, Kb, hkb, hokb⟩ := hO
      refine tl_merge hok_67 hokb (fun K_76 pl_77 hok_78 hx_80 hy tr tr2 tl => ?_)
      have kq_75 := hy.kd hkb (by decide)
      replace hf_68 := tr _ _ _ hf_68
      replace hf_70 := tr _ _ _ hf_70
      replace hfr := hfr.arr tr
      replace hfa := hfa.all tl
      have hk0 := hx_80.kd hk0 (by decide)
      have ka_71 := hx_80.kd ka_71 (by decide)
      have hx_79 := hx_80
      refine tl_aast C hok_78 (t := (3, 1, 0)) ka_71 (by decide) rfl rfl rfl kq_75 (by decide) rfl rfl (vp_in_iff.mpr ⟨by omega, by omega⟩) (tt_rvn kq_75) dX10_remember_52 (fun pl_81 hok_82 tr hne tl => ?_)
      replace hf_68 := tr _ _ _ hf_68
      replace hf_70 := tr _ _ _ hf_70
      replace hfr := hfr.arr tr
      replace hfa := hfa.all tl
      refine jj_aload_n C dX10_remember_53 rfl ?_
      refine tt_getF C hok_82 jk_11 6 (by decide) jw_c7bfd4c89b (t := (2, 16, 0)) hk0 (by decide) rfl rfl hf_70 dX10_remember_54 ?_
      refine jj_aload_n C dX10_remember_57 rfl ?_
      refine tt_getF C hok_82 jk_11 7 (by decide) jw_f074b96d56 (t := (0, 0, 9)) hk0 (by decide) rfl rfl hf_68 dX10_remember_58 ?_
      refine tt_aaldF C hok_82 (t := (3, 1, 0)) ka_71 (by decide) rfl rfl rfl (vp_in_iff.mpr ⟨by omega, by omega⟩) hne dX10_remember_61 ?_
      refine jj_aload_n C dX10_remember_62 rfl ?_
      refine tt_get C hok_82 jk_11 3 (by decide) jw_f82a97e333 (t := (2, 1, 0)) hk0 (by decide) rfl rfl dX10_remember_63 (fun v_85 hv_85 hf_86 => ?_)
      obtain ⟨a_87, rfl, ka_87⟩ := tt_vr hv_85
      obtain ⟨qc, gs, hqc⟩ := tt_recv (cx := []) hok_82 kq_75 (by decide) rfl
      refine tt_callV (rest := []) C (tc_X0_copyFrom_1 hl D cA ak q_75 a_87 kq_75 ka_87 hok_82) [] [] rfl rfl (by decide) (by decide) (by decide) qc hqc rfl rfl jw_4d0cb05860 jw_8aa1bdb2cc jw_ac98d74d03 jw_7d25d4fd32 jw_58241735d3 jn_X0_copyFrom rfl (jj_le rfl) (jj_le rfl) (jj_le rfl) (jj_le rfl) (jj_le rfl) dX10_remember_66 rfl (fun _ _ _ hX => hX.elim) (fun rx pl_88 r O_91 => ?_)
      obtain ⟨rfl, hok_89, hr_90, hfa9, hR_93⟩ := O_91
      replace hf_68 := hr_90.at hk0 (by decide) (by decide) hf_68
      replace hf_70 := hr_90.at hk0 (by decide) (by decide) hf_70
      replace hf_86 := hr_90.at hk0 (by decide) (by decide) hf_86
      replace hfr := hfr.transX hx_79 (hr_90.sub (by decide))
      replace hfa := hfa.transX hx_79 (hfa9.sub (by decide))
      obtain rfl := hR_93
      refine jj_aload_n C dX10_remember_69 rfl ?_
      refine tt_get C hok_89 jk_11 8 (by decide) jw_427985f7c9 (t := (0, 0, 10)) hk0 (by decide) rfl rfl dX10_remember_70 (fun v_96 hv_96 hf_97 => ?_)
      obtain ⟨x_98, rfl, lx_98, ux_98⟩ := tt_vi hv_96
      refine jj_bipush (v := 10) C dX10_remember_73 (by decide) ?_
      refine jj_icmp_ge (tgt := 88) C dX10_remember_75 (by decide) (fun c_99 => ?_) (fun c_99 => ?_)
      · have z_c_99 := jc_le (a := (10)) (b := (x_98).toInt) c_99 (by decide) rfl
        exact jj_vret C ⟨[], pl_88, rfl, K_76, hx_79, rfl, hok_89, hfr, hfa, rfl⟩ dX10_remember_88 (jj_le rfl) (jj_le rfl)
      · have z_c_99 := jc_nle (a := (10)) (b := (x_98).toInt) c_99 (by decide) rfl
        refine jj_aload_n C dX10_remember_78 rfl ?_
        refine jj_dup C dX10_remember_79 rfl ?_
        refine tt_getF C hok_89 jk_11 8 (by decide) jw_427985f7c9 (t := (0, 0, 10)) hk0 (by decide) rfl rfl hf_97 dX10_remember_80 ?_
        refine jj_iconst (v := 1) C dX10_remember_83 (by decide) ?_
        obtain ⟨x_100, ex_100, vx_100⟩ := tt_iadd (x := x_98) (y := (1 : Int32)) (a := x_98.toInt) rfl (b := 1) (by decide) (by omega) (by omega)
        refine jj_iadd (v := x_100) C dX10_remember_84 ex_100 ?_
        refine rl_put C hok_89 jk_11 8 (by decide) jw_427985f7c9 (t := (0, 0, 10)) hk0 (by decide) rfl rfl rfl (tt_iv (by omega) (by omega)) rfl rfl dX10_remember_85 (fun pl_101 hok_102 tr hn tl => ?_)
        replace hf_68 := tr _ _ _ (Or.inr (by decide)) hf_68
        replace hf_70 := tr _ _ _ (Or.inr (by decide)) hf_70
        replace hf_86 := tr _ _ _ (Or.inr (by decide)) hf_86
        have hf_103 := hn
        replace hfr := hfr.putX hx_79 hk0 tr (by decide)
        replace hfa := hfa.all tl
        exact jj_vret C ⟨[], pl_101, rfl, K_76, hx_79, rfl, hok_102, hfr, hfa, rfl⟩ dX10_remember_88 (jj_le rfl) (jj_le rfl)
    · refine jj_ifnonnull (tgt := 53) C dX10_remember_34 (by decide) ?_
      refine jj_aload_n C dX10_remember_53 rfl ?_
      refine tt_getF C hok_67 jk_11 6 (by decide) jw_c7bfd4c89b (t := (2, 16, 0)) hk0 (by decide) rfl rfl hf_70 dX10_remember_54 ?_
      refine jj_aload_n C dX10_remember_57 rfl ?_
      refine tt_getF C hok_67 jk_11 7 (by decide) jw_f074b96d56 (t := (0, 0, 9)) hk0 (by decide) rfl rfl hf_68 dX10_remember_58 ?_
      refine tt_aaldF C hok_67 (t := (3, 1, 0)) ka_71 (by decide) rfl rfl rfl (vp_in_iff.mpr ⟨by omega, by omega⟩) he_74 dX10_remember_61 ?_
      refine jj_aload_n C dX10_remember_62 rfl ?_
      refine tt_get C hok_67 jk_11 3 (by decide) jw_f82a97e333 (t := (2, 1, 0)) hk0 (by decide) rfl rfl dX10_remember_63 (fun v_106 hv_106 hf_107 => ?_)
      obtain ⟨a_108, rfl, ka_108⟩ := tt_vr hv_106
      obtain ⟨qc, gs, hqc⟩ := tt_recv (cx := []) hok_67 ka_73 (by decide) rfl
      refine tt_callV (rest := []) C (tc_X0_copyFrom_1 hl D cA ak a_73 a_108 ka_73 ka_108 hok_67) [] [] rfl rfl (by decide) (by decide) (by decide) qc hqc rfl rfl jw_4d0cb05860 jw_8aa1bdb2cc jw_ac98d74d03 jw_7d25d4fd32 jw_58241735d3 jn_X0_copyFrom rfl (jj_le rfl) (jj_le rfl) (jj_le rfl) (jj_le rfl) (jj_le rfl) dX10_remember_66 rfl (fun _ _ _ hX => hX.elim) (fun rx pl_109 r O_112 => ?_)
      obtain ⟨rfl, hok_110, hr_111, hfa9, hR_114⟩ := O_112
      replace hf_68 := hr_111.at hk0 (by decide) (by decide) hf_68
      replace hf_70 := hr_111.at hk0 (by decide) (by decide) hf_70
      replace hf_107 := hr_111.at hk0 (by decide) (by decide) hf_107
      replace hfr := hfr.trans (hr_111.sub (by decide))
      replace hfa := hfa.trans (hfa9.sub (by decide))
      obtain rfl := hR_114
      refine jj_aload_n C dX10_remember_69 rfl ?_
      refine tt_get C hok_110 jk_11 8 (by decide) jw_427985f7c9 (t := (0, 0, 10)) hk0 (by decide) rfl rfl dX10_remember_70 (fun v_117 hv_117 hf_118 => ?_)
      obtain ⟨x_119, rfl, lx_119, ux_119⟩ := tt_vi hv_117
      refine jj_bipush (v := 10) C dX10_remember_73 (by decide) ?_
      refine jj_icmp_ge (tgt := 88) C dX10_remember_75 (by decide) (fun c_120 => ?_) (fun c_120 => ?_)
      · have z_c_120 := jc_le (a := (10)) (b := (x_119).toInt) c_120 (by decide) rfl
        exact jj_vret C ⟨[], pl_109, rfl, Kd, tt_ex.refl _, rfl, hok_110, hfr, hfa, rfl⟩ dX10_remember_88 (jj_le rfl) (jj_le rfl)
      · have z_c_120 := jc_nle (a := (10)) (b := (x_119).toInt) c_120 (by decide) rfl
        refine jj_aload_n C dX10_remember_78 rfl ?_
        refine jj_dup C dX10_remember_79 rfl ?_
        refine tt_getF C hok_110 jk_11 8 (by decide) jw_427985f7c9 (t := (0, 0, 10)) hk0 (by decide) rfl rfl hf_118 dX10_remember_80 ?_
        refine jj_iconst (v := 1) C dX10_remember_83 (by decide) ?_
        obtain ⟨x_121, ex_121, vx_121⟩ := tt_iadd (x := x_119) (y := (1 : Int32)) (a := x_119.toInt) rfl (b := 1) (by decide) (by omega) (by omega)
        refine jj_iadd (v := x_121) C dX10_remember_84 ex_121 ?_
        refine rl_put C hok_110 jk_11 8 (by decide) jw_427985f7c9 (t := (0, 0, 10)) hk0 (by decide) rfl rfl rfl (tt_iv (by omega) (by omega)) rfl rfl dX10_remember_85 (fun pl_122 hok_123 tr hn tl => ?_)
        replace hf_68 := tr _ _ _ (Or.inr (by decide)) hf_68
        replace hf_70 := tr _ _ _ (Or.inr (by decide)) hf_70
        replace hf_107 := tr _ _ _ (Or.inr (by decide)) hf_107
        have hf_124 := hn
        replace hfr := hfr.put hk0 tr (by decide)
        replace hfa := hfa.all tl
        exact jj_vret C ⟨[], pl_122, rfl, Kd, tt_ex.refl _, rfl, hok_123, hfr, hfa, rfl⟩ dX10_remember_88 (jj_le rfl) (jj_le rfl)

set_option maxHeartbeats 4000000 in
set_option maxRecDepth 100000 in
theorem tc_X10_earn_1 {l : Launch} (hl : l.stackTraces = false) (D : va_G) (cA : Nat → ClassId) (ak : (Nat → Nat) × (Nat → Nat)) {Kd : Nat → Nat} (h0 : Nat) (p1 : Int32) (hk0 : Kd h0 = 15) {pl0 : va_W} (hok : tt_ok tt_tk cA Kd pl0) : jj_M l D cA ak yX10_earn (.code yX10_earn cX10_earn 2 (some .long)) 7 102 63 408 ([] ++ pl0) [.ref h0, .int p1] (tt_O (fun rx pl1 r => ∃ K1 : Nat → Nat, tt_ex Kd K1 ∧ rx = [] ∧ tt_ok tt_tk cA K1 pl1 ∧ tt_fr Kd [(1, 0), (1, 1), (1, 2), (1, 3), (1, 4), (1, 5), (1, 6), (1, 7), (1, 8), (1, 9), (2, 0), (2, 1), (2, 2), (2, 3), (2, 4), (3, 0), (3, 1), (3, 2), (3, 3), (3, 4), (3, 5), (4, 0), (4, 1), (4, 2), (4, 3), (4, 4), (15, 7), (15, 8)] pl0 pl1 ∧ tt_fa Kd [5] pl0 pl1 ∧ ((∃ v : Int64, (-9000 : Int) ≤ p1.toInt ∧ p1.toInt ≤ 9999 ∧ r = some (.long v))))) (tt_OX (fun E rx pl1 => rx = [] ∧ tt_ok tt_tk cA Kd pl1 ∧ tt_fr Kd [(1, 0), (1, 1), (1, 2), (1, 3), (1, 4), (1, 5), (1, 6), (1, 7), (1, 8), (1, 9), (2, 0), (2, 1), (2, 2), (2, 3), (2, 4), (3, 0), (3, 1), (3, 2), (3, 3), (3, 4), (3, 5), (4, 0), (4, 1), (4, 2), (4, 3), (4, 4), (15, 7), (15, 8)] pl0 pl1 ∧ tt_fa Kd [5] pl0 pl1 ∧ (E = "java/lang/IllegalArgumentException" ∨ E = "java/lang/IllegalStateException"))) := by
  refine jj_start hl (by decide) jw_66bc37c428 (jj_le rfl) ?_
  intro p e s m args below meth c A hargs hA C hex hmn
  have hfr := tt_fr.refl (K := Kd) (WS := [(1, 0), (1, 1), (1, 2), (1, 3), (1, 4), (1, 5), (1, 6), (1, 7), (1, 8), (1, 9), (2, 0), (2, 1), (2, 2), (2, 3), (2, 4), (3, 0), (3, 1), (3, 2), (3, 3), (3, 4), (3, 5), (4, 0), (4, 1), (4, 2), (4, 3), (4, 4), (15, 7), (15, 8)]) pl0
  have hfa := tt_fa.refl (K := Kd) (WA := [5]) pl0
  have lp1 := tt_lo p1
  have up1 := tt_hi p1
  refine jj_aload_n C dX10_earn_0 rfl ?_
  refine tt_get C hok jk_11 3 (by decide) jw_f82a97e333 (t := (2, 1, 0)) hk0 (by decide) rfl rfl dX10_earn_1 (fun v_1 hv_1 hf_2 => ?_)
  obtain ⟨a_3, rfl, ka_3⟩ := tt_vr hv_1
  refine jj_iload_n C dX10_earn_4 rfl ?_
  refine tt_callS (rest := []) C (tc_X2_earningFault_1 hl D cA ak a_3 p1 ka_3 hok) [] [] rfl rfl (by decide) (by decide) (by decide) jw_c72acbc4af jw_49509baa4c jw_79af3f4029 jw_4786ed9c56 jn_X2_earningFault rfl (jj_le rfl) (jj_le rfl) (jj_le rfl) (jj_le rfl) (jj_le rfl) dX10_earn_5 rfl (fun _ _ _ hX => hX.elim) (fun rx pl_4 r O_7 => ?_)
  obtain ⟨rfl, hok_5, hr_6, hfa9, hR_9⟩ := O_7
  replace hf_2 := hr_6.at hk0 (by decide) (by decide) hf_2
  replace hfr := hfr.trans (hr_6.sub (by decide))
  replace hfa := hfa.trans (hfa9.sub (by decide))
  rcases hR_9 with rfl | ⟨l_12, u_13, rfl⟩ | ⟨l_14, u_15, rfl⟩
  · refine tt_callS (rest := []) C (tc_X10_refuse_3 hl D cA ak  hok_5) [] [] rfl rfl (by decide) (by decide) (by decide) jw_90eccdbdf8 jw_751c22758b jw_6f6d707074 jw_57df353171 jn_X10_refuse rfl (jj_le rfl) (jj_le rfl) (jj_le rfl) (jj_le rfl) (jj_le rfl) dX10_earn_8 rfl (fun E rx pl_16 X_20 => ?_) (fun rx pl_16 r O_19 => ?_)
    · obtain ⟨rfl, hok_17, hr_18, hfa9, hE_21⟩ := X_20
      replace hf_2 := hr_18.at hk0 (by decide) (by decide) hf_2
      replace hfr := hfr.trans (hr_18.sub (by decide))
      replace hfa := hfa.trans (hfa9.sub (by decide))
      obtain rfl := hE_21
      exact jj_out C hex ⟨[], pl_16, rfl, rfl, hok_17, hfr, hfa, (Or.inl rfl)⟩ (jj_le rfl) (jj_le rfl)
    · exact O_19.elim
  · refine tt_callS (rest := []) C (tc_X10_refuse_2 hl D cA ak  hok_5) [] [] rfl rfl (by decide) (by decide) (by decide) jw_90eccdbdf8 jw_751c22758b jw_6f6d707074 jw_57df353171 jn_X10_refuse rfl (jj_le rfl) (jj_le rfl) (jj_le rfl) (jj_le rfl) (jj_le rfl) dX10_earn_8 rfl (fun _ _ _ hX => hX.elim) (fun rx pl_25 r O_28 => ?_)
    obtain ⟨rfl, hok_26, hr_27, hfa9, hR_30⟩ := O_28
    replace hf_2 := hr_27.at hk0 (by decide) (by decide) hf_2
    replace hfr := hfr.trans (hr_27.sub (by decide))
    replace hfa := hfa.trans (hfa9.sub (by decide))
    obtain rfl := hR_30
    refine jj_aload_n C dX10_earn_11 rfl ?_
    obtain ⟨qc, gs, hqc⟩ := tt_recv (cx := []) hok_26 hk0 (by decide) rfl
    refine tt_callV (rest := []) C (tc_X10_remember_1 hl D cA ak h0 hk0 hok_26) [] [] rfl rfl (by decide) (by decide) (by decide) qc hqc rfl rfl jw_0283246098 jw_467be33587 jw_328a25009e jw_6f6d707074 jw_eabf0b0f0c jn_X10_remember rfl (jj_le rfl) (jj_le rfl) (jj_le rfl) (jj_le rfl) (jj_le rfl) dX10_earn_12 rfl (fun _ _ _ hX => hX.elim) (fun rx pl_33 r O_36 => ?_)
    obtain ⟨K_40, hx_39, rfl, hok_34, hr_35, hfa9, hR_38⟩ := O_36
    replace hf_2 := hr_35.at hk0 (by decide) (by decide) hf_2
    replace hfr := hfr.trans (hr_35.sub (by decide))
    replace hfa := hfa.trans (hfa9.sub (by decide))
    have hk0 := hx_39.kd hk0 (by decide)
    have ka_3 := hx_39.kd ka_3 (by decide)
    have hx_41 := hx_39
    obtain rfl := hR_38
    refine jj_aload_n C dX10_earn_15 rfl ?_
    refine tt_getF C hok_34 jk_11 3 (by decide) jw_f82a97e333 (t := (2, 1, 0)) hk0 (by decide) rfl rfl hf_2 dX10_earn_16 ?_
    refine jj_iload_n C dX10_earn_19 rfl ?_
    refine tt_callS (rest := []) C (tc_X2_earnRate_1 hl D cA ak a_3 p1 ka_3 hok_34) [] [] rfl rfl (by decide) (by decide) (by decide) jw_dcfc2cf167 jw_545b666dd9 jw_79af3f4029 jw_806a366152 jn_X2_earnRate rfl (jj_le rfl) (jj_le rfl) (jj_le rfl) (jj_le rfl) (jj_le rfl) dX10_earn_20 rfl (fun _ _ _ hX => hX.elim) (fun rx pl_42 r O_45 => ?_)
    obtain ⟨rfl, hok_43, hr_44, hfa9, hR_47⟩ := O_45
    replace hf_2 := hr_44.at hk0 (by decide) (by decide) hf_2
    replace hfr := hfr.transX hx_41 (hr_44.sub (by decide))
    replace hfa := hfa.transX hx_41 (hfa9.sub (by decide))
    obtain ⟨y_50, rfl⟩ := hR_47
    exact jj_lret C ⟨[], pl_42, rfl, K_40, hx_41, rfl, hok_43, hfr, hfa, ⟨y_50, (by first | omega | exact tt_lo _ | exact tt_hi _), (by first | omega | exact tt_lo _ | exact tt_hi _), rfl⟩⟩ dX10_earn_23 (jj_le rfl) (jj_le rfl)
  · refine tt_callS (rest := []) C (tc_X10_refuse_4 hl D cA ak  hok_5) [] [] rfl rfl (by decide) (by decide) (by decide) jw_90eccdbdf8 jw_751c22758b jw_6f6d707074 jw_57df353171 jn_X10_refuse rfl (jj_le rfl) (jj_le rfl) (jj_le rfl) (jj_le rfl) (jj_le rfl) dX10_earn_8 rfl (fun E rx pl_51 X_55 => ?_) (fun rx pl_51 r O_54 => ?_)
    · obtain ⟨rfl, hok_52, hr_53, hfa9, hE_56⟩ := X_55
      replace hf_2 := hr_53.at hk0 (by decide) (by decide) hf_2
      replace hfr := hfr.trans (hr_53.sub (by decide))
      replace hfa := hfa.trans (hfa9.sub (by decide))
      obtain rfl := hE_56
      exact jj_out C hex ⟨[], pl_51, rfl, rfl, hok_52, hfr, hfa, (Or.inr rfl)⟩ (jj_le rfl) (jj_le rfl)
    · exact O_54.elim

set_option maxHeartbeats 4000000 in
set_option maxRecDepth 100000 in
theorem tc_X10_passDays_1 {l : Launch} (hl : l.stackTraces = false) (D : va_G) (cA : Nat → ClassId) (ak : (Nat → Nat) × (Nat → Nat)) {Kd : Nat → Nat} (h0 : Nat) (p1 : Int32) (hk0 : Kd h0 = 15) {pl0 : va_W} (hok : tt_ok tt_tk cA Kd pl0) : jj_M l D cA ak yX10_passDays (.code yX10_passDays cX10_passDays 2 (some .long)) 7 102 63 408 ([] ++ pl0) [.ref h0, .int p1] (tt_O (fun rx pl1 r => ∃ K1 : Nat → Nat, tt_ex Kd K1 ∧ rx = [] ∧ tt_ok tt_tk cA K1 pl1 ∧ tt_fr Kd [(1, 0), (1, 1), (1, 2), (1, 3), (1, 4), (1, 5), (1, 6), (1, 7), (1, 8), (1, 9), (2, 0), (2, 1), (2, 2), (2, 3), (2, 4), (3, 0), (3, 1), (3, 2), (3, 3), (3, 4), (3, 5), (4, 0), (4, 1), (4, 2), (4, 3), (4, 4), (15, 7), (15, 8)] pl0 pl1 ∧ tt_fa Kd [5] pl0 pl1 ∧ ((∃ v : Int64, (1 : Int) ≤ p1.toInt ∧ p1.toInt ≤ 400 ∧ r = some (.long v))))) (tt_OX (fun E rx pl1 => rx = [] ∧ tt_ok tt_tk cA Kd pl1 ∧ tt_fr Kd [(1, 0), (1, 1), (1, 2), (1, 3), (1, 4), (1, 5), (1, 6), (1, 7), (1, 8), (1, 9), (2, 0), (2, 1), (2, 2), (2, 3), (2, 4), (3, 0), (3, 1), (3, 2), (3, 3), (3, 4), (3, 5), (4, 0), (4, 1), (4, 2), (4, 3), (4, 4), (15, 7), (15, 8)] pl0 pl1 ∧ tt_fa Kd [5] pl0 pl1 ∧ (E = "java/lang/IllegalArgumentException"))) := by
  refine jj_start hl (by decide) jw_f76c35ce46 (jj_le rfl) ?_
  intro p e s m args below meth c A hargs hA C hex hmn
  have hfr := tt_fr.refl (K := Kd) (WS := [(1, 0), (1, 1), (1, 2), (1, 3), (1, 4), (1, 5), (1, 6), (1, 7), (1, 8), (1, 9), (2, 0), (2, 1), (2, 2), (2, 3), (2, 4), (3, 0), (3, 1), (3, 2), (3, 3), (3, 4), (3, 5), (4, 0), (4, 1), (4, 2), (4, 3), (4, 4), (15, 7), (15, 8)]) pl0
  have hfa := tt_fa.refl (K := Kd) (WA := [5]) pl0
  have lp1 := tt_lo p1
  have up1 := tt_hi p1
  refine jj_iload_n C dX10_passDays_0 rfl ?_
  refine tt_callS (rest := []) C (tc_X2_passingFault_1 hl D cA ak p1 hok) [] [] rfl rfl (by decide) (by decide) (by decide) jw_eb8a322227 jw_e26adf7707 jw_79af3f4029 jw_a8c5e8379d jn_X2_passingFault rfl (jj_le rfl) (jj_le rfl) (jj_le rfl) (jj_le rfl) (jj_le rfl) dX10_passDays_1 rfl (fun _ _ _ hX => hX.elim) (fun rx pl_1 r O_4 => ?_)
  obtain ⟨rfl, hok_2, hr_3, hfa9, hR_6⟩ := O_4
  replace hfr := hfr.trans (hr_3.sub (by decide))
  replace hfa := hfa.trans (hfa9.sub (by decide))
  rcases hR_6 with rfl | ⟨l_9, u_10, rfl⟩
  · refine tt_callS (rest := []) C (tc_X10_refuse_3 hl D cA ak  hok_2) [] [] rfl rfl (by decide) (by decide) (by decide) jw_90eccdbdf8 jw_751c22758b jw_6f6d707074 jw_57df353171 jn_X10_refuse rfl (jj_le rfl) (jj_le rfl) (jj_le rfl) (jj_le rfl) (jj_le rfl) dX10_passDays_4 rfl (fun E rx pl_11 X_15 => ?_) (fun rx pl_11 r O_14 => ?_)
    · obtain ⟨rfl, hok_12, hr_13, hfa9, hE_16⟩ := X_15
      replace hfr := hfr.trans (hr_13.sub (by decide))
      replace hfa := hfa.trans (hfa9.sub (by decide))
      obtain rfl := hE_16
      exact jj_out C hex ⟨[], pl_11, rfl, rfl, hok_12, hfr, hfa, rfl⟩ (jj_le rfl) (jj_le rfl)
    · exact O_14.elim
  · refine tt_callS (rest := []) C (tc_X10_refuse_2 hl D cA ak  hok_2) [] [] rfl rfl (by decide) (by decide) (by decide) jw_90eccdbdf8 jw_751c22758b jw_6f6d707074 jw_57df353171 jn_X10_refuse rfl (jj_le rfl) (jj_le rfl) (jj_le rfl) (jj_le rfl) (jj_le rfl) dX10_passDays_4 rfl (fun _ _ _ hX => hX.elim) (fun rx pl_20 r O_23 => ?_)
    obtain ⟨rfl, hok_21, hr_22, hfa9, hR_25⟩ := O_23
    replace hfr := hfr.trans (hr_22.sub (by decide))
    replace hfa := hfa.trans (hfa9.sub (by decide))
    obtain rfl := hR_25
    refine jj_aload_n C dX10_passDays_7 rfl ?_
    obtain ⟨qc, gs, hqc⟩ := tt_recv (cx := []) hok_21 hk0 (by decide) rfl
    refine tt_callV (rest := []) C (tc_X10_remember_1 hl D cA ak h0 hk0 hok_21) [] [] rfl rfl (by decide) (by decide) (by decide) qc hqc rfl rfl jw_0283246098 jw_467be33587 jw_328a25009e jw_6f6d707074 jw_eabf0b0f0c jn_X10_remember rfl (jj_le rfl) (jj_le rfl) (jj_le rfl) (jj_le rfl) (jj_le rfl) dX10_passDays_8 rfl (fun _ _ _ hX => hX.elim) (fun rx pl_28 r O_31 => ?_)
    obtain ⟨K_35, hx_34, rfl, hok_29, hr_30, hfa9, hR_33⟩ := O_31
    replace hfr := hfr.trans (hr_30.sub (by decide))
    replace hfa := hfa.trans (hfa9.sub (by decide))
    have hk0 := hx_34.kd hk0 (by decide)
    have hx_36 := hx_34
    obtain rfl := hR_33
    refine jj_aload_n C dX10_passDays_11 rfl ?_
    refine tt_get C hok_29 jk_11 3 (by decide) jw_f82a97e333 (t := (2, 1, 0)) hk0 (by decide) rfl rfl dX10_passDays_12 (fun v_37 hv_37 hf_38 => ?_)
    obtain ⟨a_39, rfl, ka_39⟩ := tt_vr hv_37
    refine jj_iload_n C dX10_passDays_15 rfl ?_
    refine tt_callS (rest := []) C (tc_X2_chargeDays_2 hl D cA ak a_39 p1 ka_39 (by omega) (by omega) hok_29) [] [] rfl rfl (by decide) (by decide) (by decide) jw_40af446357 jw_f7a6df989a jw_79af3f4029 jw_5ec919523f jn_X2_chargeDays rfl (jj_le rfl) (jj_le rfl) (jj_le rfl) (jj_le rfl) (jj_le rfl) dX10_passDays_16 rfl (fun _ _ _ hX => hX.elim) (fun rx pl_40 r O_43 => ?_)
    obtain ⟨rfl, hok_41, hr_42, hfa9, hR_45⟩ := O_43
    replace hf_38 := hr_42.at hk0 (by decide) (by decide) hf_38
    replace hfr := hfr.transX hx_36 (hr_42.sub (by decide))
    replace hfa := hfa.transX hx_36 (hfa9.sub (by decide))
    obtain ⟨y_48, rfl⟩ := hR_45
    exact jj_lret C ⟨[], pl_40, rfl, K_35, hx_36, rfl, hok_41, hfr, hfa, ⟨y_48, (by first | omega | exact tt_lo _ | exact tt_hi _), (by first | omega | exact tt_lo _ | exact tt_hi _), rfl⟩⟩ dX10_passDays_19 (jj_le rfl) (jj_le rfl)

set_option maxHeartbeats 4000000 in
set_option maxRecDepth 100000 in
theorem tc_X10_redeem_1 {l : Launch} (hl : l.stackTraces = false) (D : va_G) (cA : Nat → ClassId) (ak : (Nat → Nat) × (Nat → Nat)) {Kd : Nat → Nat} (h0 : Nat) (p1 : Int32) (p2 : Int32) (hk0 : Kd h0 = 15) {pl0 : va_W} (hok : tt_ok tt_tk cA Kd pl0) : jj_M l D cA ak yX10_redeem (.code yX10_redeem cX10_redeem 3 (some .int)) 7 102 63 408 ([] ++ pl0) [.ref h0, .int p1, .int p2] (tt_O (fun rx pl1 r => ∃ K1 : Nat → Nat, tt_ex Kd K1 ∧ rx = [] ∧ tt_ok tt_tk cA K1 pl1 ∧ tt_fr Kd [(1, 0), (1, 1), (1, 2), (1, 3), (1, 4), (1, 5), (1, 6), (1, 7), (1, 8), (1, 9), (2, 0), (2, 1), (2, 2), (2, 3), (2, 4), (3, 0), (3, 1), (3, 2), (3, 3), (3, 4), (3, 5), (4, 0), (4, 1), (4, 2), (4, 3), (4, 4), (15, 7), (15, 8)] pl0 pl1 ∧ tt_fa Kd [5] pl0 pl1 ∧ (((0 : Int) ≤ p1.toInt ∧ p1.toInt ≤ 2147483646 ∧ (1 : Int) ≤ p2.toInt ∧ p2.toInt ≤ 99999999 ∧ r = some (.int 11)) ∨ (∃ v : Int32, (0 : Int) ≤ v.toInt ∧ v.toInt ≤ 11 ∧ (0 : Int) ≤ p1.toInt ∧ p1.toInt ≤ 2147483646 ∧ (1 : Int) ≤ p2.toInt ∧ p2.toInt ≤ 99999999 ∧ r = some (.int v))))) (tt_OX (fun E rx pl1 => rx = [] ∧ tt_ok tt_tk cA Kd pl1 ∧ tt_fr Kd [(1, 0), (1, 1), (1, 2), (1, 3), (1, 4), (1, 5), (1, 6), (1, 7), (1, 8), (1, 9), (2, 0), (2, 1), (2, 2), (2, 3), (2, 4), (3, 0), (3, 1), (3, 2), (3, 3), (3, 4), (3, 5), (4, 0), (4, 1), (4, 2), (4, 3), (4, 4), (15, 7), (15, 8)] pl0 pl1 ∧ tt_fa Kd [5] pl0 pl1 ∧ (E = "java/lang/IllegalArgumentException" ∨ E = "java/lang/IllegalStateException" ∨ E = "java/lang/IndexOutOfBoundsException"))) := by
  refine jj_start hl (by decide) jw_bf324c0f63 (jj_le rfl) ?_
  intro p e s m args below meth c A hargs hA C hex hmn
  have hfr := tt_fr.refl (K := Kd) (WS := [(1, 0), (1, 1), (1, 2), (1, 3), (1, 4), (1, 5), (1, 6), (1, 7), (1, 8), (1, 9), (2, 0), (2, 1), (2, 2), (2, 3), (2, 4), (3, 0), (3, 1), (3, 2), (3, 3), (3, 4), (3, 5), (4, 0), (4, 1), (4, 2), (4, 3), (4, 4), (15, 7), (15, 8)]) pl0
  have hfa := tt_fa.refl (K := Kd) (WA := [5]) pl0
  have lp1 := tt_lo p1
  have up1 := tt_hi p1
  have lp2 := tt_lo p2
  have up2 := tt_hi p2
  refine jj_aload_n C dX10_redeem_0 rfl ?_
  refine tt_get C hok jk_11 3 (by decide) jw_f82a97e333 (t := (2, 1, 0)) hk0 (by decide) rfl rfl dX10_redeem_1 (fun v_1 hv_1 hf_2 => ?_)
  obtain ⟨a_3, rfl, ka_3⟩ := tt_vr hv_1
  refine jj_iload_n C dX10_redeem_4 rfl ?_
  refine jj_iload_n C dX10_redeem_5 rfl ?_
  obtain ⟨qc, gs, hqc⟩ := tt_recv (cx := []) hok ka_3 (by decide) rfl
  refine tt_callV (rest := []) C (tc_X0_redemptionFault_1 hl D cA ak a_3 p1 p2 ka_3 hok) [] [] rfl rfl (by decide) (by decide) (by decide) qc hqc rfl rfl jw_8568ce5098 jw_bffdf410dc jw_694d163040 jw_7d25d4fd32 jw_e45bbd4879 jn_X0_redemptionFault rfl (jj_le rfl) (jj_le rfl) (jj_le rfl) (jj_le rfl) (jj_le rfl) dX10_redeem_6 rfl (fun _ _ _ hX => hX.elim) (fun rx pl_4 r O_7 => ?_)
  obtain ⟨rfl, hok_5, hr_6, hfa9, hR_9⟩ := O_7
  replace hf_2 := hr_6.at hk0 (by decide) (by decide) hf_2
  replace hfr := hfr.trans (hr_6.sub (by decide))
  replace hfa := hfa.trans (hfa9.sub (by decide))
  rcases hR_9 with rfl | ⟨l_12, u_13, rfl⟩ | ⟨l_14, u_15, l_16, u_17, rfl⟩ | ⟨l_18, u_19, l_20, u_21, rfl⟩
  · refine tt_callS (rest := []) C (tc_X10_refuse_1 hl D cA ak  hok_5) [] [] rfl rfl (by decide) (by decide) (by decide) jw_90eccdbdf8 jw_751c22758b jw_6f6d707074 jw_57df353171 jn_X10_refuse rfl (jj_le rfl) (jj_le rfl) (jj_le rfl) (jj_le rfl) (jj_le rfl) dX10_redeem_9 rfl (fun E rx pl_22 X_26 => ?_) (fun rx pl_22 r O_25 => ?_)
    · obtain ⟨rfl, hok_23, hr_24, hfa9, hE_27⟩ := X_26
      replace hf_2 := hr_24.at hk0 (by decide) (by decide) hf_2
      replace hfr := hfr.trans (hr_24.sub (by decide))
      replace hfa := hfa.trans (hfa9.sub (by decide))
      obtain rfl := hE_27
      exact jj_out C hex ⟨[], pl_22, rfl, rfl, hok_23, hfr, hfa, (Or.inr (Or.inr rfl))⟩ (jj_le rfl) (jj_le rfl)
    · exact O_25.elim
  · refine tt_callS (rest := []) C (tc_X10_refuse_3 hl D cA ak  hok_5) [] [] rfl rfl (by decide) (by decide) (by decide) jw_90eccdbdf8 jw_751c22758b jw_6f6d707074 jw_57df353171 jn_X10_refuse rfl (jj_le rfl) (jj_le rfl) (jj_le rfl) (jj_le rfl) (jj_le rfl) dX10_redeem_9 rfl (fun E rx pl_31 X_35 => ?_) (fun rx pl_31 r O_34 => ?_)
    · obtain ⟨rfl, hok_32, hr_33, hfa9, hE_36⟩ := X_35
      replace hf_2 := hr_33.at hk0 (by decide) (by decide) hf_2
      replace hfr := hfr.trans (hr_33.sub (by decide))
      replace hfa := hfa.trans (hfa9.sub (by decide))
      obtain rfl := hE_36
      exact jj_out C hex ⟨[], pl_31, rfl, rfl, hok_32, hfr, hfa, (Or.inl rfl)⟩ (jj_le rfl) (jj_le rfl)
    · exact O_34.elim
  · refine tt_callS (rest := []) C (tc_X10_refuse_2 hl D cA ak  hok_5) [] [] rfl rfl (by decide) (by decide) (by decide) jw_90eccdbdf8 jw_751c22758b jw_6f6d707074 jw_57df353171 jn_X10_refuse rfl (jj_le rfl) (jj_le rfl) (jj_le rfl) (jj_le rfl) (jj_le rfl) dX10_redeem_9 rfl (fun _ _ _ hX => hX.elim) (fun rx pl_40 r O_43 => ?_)
    obtain ⟨rfl, hok_41, hr_42, hfa9, hR_45⟩ := O_43
    replace hf_2 := hr_42.at hk0 (by decide) (by decide) hf_2
    replace hfr := hfr.trans (hr_42.sub (by decide))
    replace hfa := hfa.trans (hfa9.sub (by decide))
    obtain rfl := hR_45
    refine jj_aload_n C dX10_redeem_12 rfl ?_
    obtain ⟨qc, gs, hqc⟩ := tt_recv (cx := []) hok_41 hk0 (by decide) rfl
    refine tt_callV (rest := []) C (tc_X10_remember_1 hl D cA ak h0 hk0 hok_41) [] [] rfl rfl (by decide) (by decide) (by decide) qc hqc rfl rfl jw_0283246098 jw_467be33587 jw_328a25009e jw_6f6d707074 jw_eabf0b0f0c jn_X10_remember rfl (jj_le rfl) (jj_le rfl) (jj_le rfl) (jj_le rfl) (jj_le rfl) dX10_redeem_13 rfl (fun _ _ _ hX => hX.elim) (fun rx pl_48 r O_51 => ?_)
    obtain ⟨K_55, hx_54, rfl, hok_49, hr_50, hfa9, hR_53⟩ := O_51
    replace hf_2 := hr_50.at hk0 (by decide) (by decide) hf_2
    replace hfr := hfr.trans (hr_50.sub (by decide))
    replace hfa := hfa.trans (hfa9.sub (by decide))
    have hk0 := hx_54.kd hk0 (by decide)
    have ka_3 := hx_54.kd ka_3 (by decide)
    have hx_56 := hx_54
    obtain rfl := hR_53
    refine jj_aload_n C dX10_redeem_16 rfl ?_
    refine tt_getF C hok_49 jk_11 3 (by decide) jw_f82a97e333 (t := (2, 1, 0)) hk0 (by decide) rfl rfl hf_2 dX10_redeem_17 ?_
    refine jj_iload_n C dX10_redeem_20 rfl ?_
    refine jj_iconst (v := 1) C dX10_redeem_21 (by decide) ?_
    refine jj_iload_n C dX10_redeem_22 rfl ?_
    obtain ⟨y_57, ey_57, vy_57⟩ := tt_i2l p2
    refine jj_i2l (v := y_57) C dX10_redeem_23 ey_57 ?_
    obtain ⟨qc, gs, hqc⟩ := tt_recv (cx := []) hok_49 ka_3 (by decide) rfl
    refine tt_callV (rest := []) C (tc_X0_addRequest_1 hl D cA ak a_3 p1 y_57 ka_3 hok_49) [] [] rfl rfl (by decide) (by decide) (by decide) qc hqc rfl rfl jw_81a6c9ee6e jw_4cd88e9d91 jw_a895762d25 jw_7d25d4fd32 jw_1fad268463 jn_X0_addRequest rfl (jj_le rfl) (jj_le rfl) (jj_le rfl) (jj_le rfl) (jj_le rfl) dX10_redeem_24 rfl (fun _ _ _ hX => hX.elim) (fun rx pl_58 r O_61 => ?_)
    obtain ⟨rfl, hok_59, hr_60, hfa9, hR_63⟩ := O_61
    replace hf_2 := hr_60.at hk0 (by decide) (by decide) hf_2
    replace hfr := hfr.transX hx_56 (hr_60.sub (by decide))
    replace hfa := hfa.transX hx_56 (hfa9.sub (by decide))
    rcases hR_63 with rfl | ⟨x_66, lx_66, ux_66, rfl⟩
    · exact jj_iret C ⟨[], pl_58, rfl, K_55, hx_56, rfl, hok_59, hfr, hfa, (Or.inl ⟨(by first | omega | exact tt_lo _ | exact tt_hi _), (by first | omega | exact tt_lo _ | exact tt_hi _), (by first | omega | exact tt_lo _ | exact tt_hi _), (by first | omega | exact tt_lo _ | exact tt_hi _), rfl⟩)⟩ dX10_redeem_27 (jj_le rfl) (jj_le rfl)
    · exact jj_iret C ⟨[], pl_58, rfl, K_55, hx_56, rfl, hok_59, hfr, hfa, (Or.inr ⟨x_66, (by first | omega | exact tt_lo _ | exact tt_hi _), (by first | omega | exact tt_lo _ | exact tt_hi _), (by first | omega | exact tt_lo _ | exact tt_hi _), (by first | omega | exact tt_lo _ | exact tt_hi _), (by first | omega | exact tt_lo _ | exact tt_hi _), (by first | omega | exact tt_lo _ | exact tt_hi _), rfl⟩)⟩ dX10_redeem_27 (jj_le rfl) (jj_le rfl)
  · refine tt_callS (rest := []) C (tc_X10_refuse_4 hl D cA ak  hok_5) [] [] rfl rfl (by decide) (by decide) (by decide) jw_90eccdbdf8 jw_751c22758b jw_6f6d707074 jw_57df353171 jn_X10_refuse rfl (jj_le rfl) (jj_le rfl) (jj_le rfl) (jj_le rfl) (jj_le rfl) dX10_redeem_9 rfl (fun E rx pl_67 X_71 => ?_) (fun rx pl_67 r O_70 => ?_)
    · obtain ⟨rfl, hok_68, hr_69, hfa9, hE_72⟩ := X_71
      replace hf_2 := hr_69.at hk0 (by decide) (by decide) hf_2
      replace hfr := hfr.trans (hr_69.sub (by decide))
      replace hfa := hfa.trans (hfa9.sub (by decide))
      obtain rfl := hE_72
      exact jj_out C hex ⟨[], pl_67, rfl, rfl, hok_68, hfr, hfa, (Or.inr (Or.inl rfl))⟩ (jj_le rfl) (jj_le rfl)
    · exact O_70.elim

set_option maxHeartbeats 4000000 in
set_option maxRecDepth 100000 in
theorem tc_X10_setGate_1 {l : Launch} (hl : l.stackTraces = false) (D : va_G) (cA : Nat → ClassId) (ak : (Nat → Nat) × (Nat → Nat)) {Kd : Nat → Nat} (h0 : Nat) (p1 : Int32) (hk0 : Kd h0 = 15) {pl0 : va_W} (hok : tt_ok tt_tk cA Kd pl0) : jj_M l D cA ak yX10_setGate (.code yX10_setGate cX10_setGate 3 (some .int)) 6 82 63 408 ([] ++ pl0) [.ref h0, .int p1] (tt_O (fun rx pl1 r => ∃ K1 : Nat → Nat, tt_ex Kd K1 ∧ rx = [] ∧ tt_ok tt_tk cA K1 pl1 ∧ tt_fr Kd [(1, 0), (1, 1), (1, 2), (1, 3), (1, 4), (1, 5), (1, 6), (1, 7), (1, 8), (1, 9), (2, 0), (2, 1), (2, 2), (2, 3), (2, 4), (3, 0), (3, 1), (3, 2), (3, 3), (3, 4), (3, 5), (4, 0), (4, 1), (4, 2), (4, 3), (4, 4), (15, 7), (15, 8)] pl0 pl1 ∧ tt_fa Kd [5] pl0 pl1 ∧ ((∃ v : Int32, (-2147483648 : Int) ≤ v.toInt ∧ v.toInt ≤ 2147483647 ∧ (1 : Int) ≤ p1.toInt ∧ p1.toInt ≤ 100 ∧ r = some (.int v))))) (tt_OX (fun E rx pl1 => rx = [] ∧ tt_ok tt_tk cA Kd pl1 ∧ tt_fr Kd [(1, 0), (1, 1), (1, 2), (1, 3), (1, 4), (1, 5), (1, 6), (1, 7), (1, 8), (1, 9), (2, 0), (2, 1), (2, 2), (2, 3), (2, 4), (3, 0), (3, 1), (3, 2), (3, 3), (3, 4), (3, 5), (4, 0), (4, 1), (4, 2), (4, 3), (4, 4), (15, 7), (15, 8)] pl0 pl1 ∧ tt_fa Kd [5] pl0 pl1 ∧ (E = "java/lang/IllegalArgumentException"))) := by
  refine jj_start hl (by decide) jw_c5c7ce5394 (jj_le rfl) ?_
  intro p e s m args below meth c A hargs hA C hex hmn
  have hfr := tt_fr.refl (K := Kd) (WS := [(1, 0), (1, 1), (1, 2), (1, 3), (1, 4), (1, 5), (1, 6), (1, 7), (1, 8), (1, 9), (2, 0), (2, 1), (2, 2), (2, 3), (2, 4), (3, 0), (3, 1), (3, 2), (3, 3), (3, 4), (3, 5), (4, 0), (4, 1), (4, 2), (4, 3), (4, 4), (15, 7), (15, 8)]) pl0
  have hfa := tt_fa.refl (K := Kd) (WA := [5]) pl0
  have lp1 := tt_lo p1
  have up1 := tt_hi p1
  refine jj_iload_n C dX10_setGate_0 rfl ?_
  refine jj_iconst (v := 1) C dX10_setGate_1 (by decide) ?_
  refine jj_icmp_lt (tgt := 11) C dX10_setGate_2 (by decide) (fun c_1 => ?_) (fun c_1 => ?_)
  · have z_c_1 := jc_lt (a := (p1).toInt) (b := (1)) c_1 rfl (by decide)
    exact jj_throw (k := 41) (text := "no such gate") C jt_RX10_75 jw_0e6c957e85 (by decide +kernel) dX10_setGate_11 dX10_setGate_14 dX10_setGate_15 dX10_setGate_17 dX10_setGate_20 hex (jj_le rfl) (jj_le rfl) (jj_le rfl) (jj_le rfl) ⟨[], pl0, rfl, rfl, hok, hfr, hfa, rfl⟩ (jj_le rfl) (jj_le rfl)
  · have z_c_1 := jc_nlt (a := (p1).toInt) (b := (1)) c_1 rfl (by decide)
    refine jj_iload_n C dX10_setGate_5 rfl ?_
    refine jj_bipush (v := 100) C dX10_setGate_6 (by decide) ?_
    refine jj_icmp_le (tgt := 21) C dX10_setGate_8 (by decide) (fun c_2 => ?_) (fun c_2 => ?_)
    · have z_c_2 := jc_le (a := (p1).toInt) (b := (100)) c_2 rfl (by decide)
      refine jj_aload_n C dX10_setGate_21 rfl ?_
      obtain ⟨qc, gs, hqc⟩ := tt_recv (cx := []) hok hk0 (by decide) rfl
      refine tt_callV (rest := []) C (tc_X10_remember_1 hl D cA ak h0 hk0 hok) [] [] rfl rfl (by decide) (by decide) (by decide) qc hqc rfl rfl jw_0283246098 jw_467be33587 jw_328a25009e jw_6f6d707074 jw_eabf0b0f0c jn_X10_remember rfl (jj_le rfl) (jj_le rfl) (jj_le rfl) (jj_le rfl) (jj_le rfl) dX10_setGate_22 rfl (fun _ _ _ hX => hX.elim) (fun rx pl_3 r O_6 => ?_)
      obtain ⟨K_10, hx_9, rfl, hok_4, hr_5, hfa9, hR_8⟩ := O_6
      replace hfr := hfr.trans (hr_5.sub (by decide))
      replace hfa := hfa.trans (hfa9.sub (by decide))
      have hk0 := hx_9.kd hk0 (by decide)
      have hx_11 := hx_9
      obtain rfl := hR_8
      refine jj_aload_n C dX10_setGate_25 rfl ?_
      refine tt_get C hok_4 jk_11 3 (by decide) jw_f82a97e333 (t := (2, 1, 0)) hk0 (by decide) rfl rfl dX10_setGate_26 (fun v_12 hv_12 hf_13 => ?_)
      obtain ⟨a_14, rfl, ka_14⟩ := tt_vr hv_12
      refine tt_get C hok_4 jk_2 4 (by decide) jw_d8242cd3dc (t := (0, (-2147483648), 2147483647)) ka_14 (by decide) rfl rfl dX10_setGate_29 (fun v_15 hv_15 hf_16 => ?_)
      obtain ⟨x_17, rfl, lx_17, ux_17⟩ := tt_vi hv_15
      refine jj_istore_n C dX10_setGate_32 (by decide) rfl ?_
      refine jj_aload_n C dX10_setGate_33 rfl ?_
      refine tt_getF C hok_4 jk_11 3 (by decide) jw_f82a97e333 (t := (2, 1, 0)) hk0 (by decide) rfl rfl hf_13 dX10_setGate_34 ?_
      refine jj_iload_n C dX10_setGate_37 rfl ?_
      refine rl_put C hok_4 jk_2 4 (by decide) jw_d8242cd3dc (t := (0, (-2147483648), 2147483647)) ka_14 (by decide) rfl rfl rfl (tt_ia p1) rfl rfl dX10_setGate_38 (fun pl_18 hok_19 tr hn tl => ?_)
      replace hf_13 := tr _ _ _ (Or.inl (tt_ne hk0 ka_14 (by decide))) hf_13
      have hf_20 := hn
      replace hfr := hfr.putX hx_11 ka_14 tr (by decide)
      replace hfa := hfa.all tl
      refine jj_iload_n C dX10_setGate_41 rfl ?_
      exact jj_iret C ⟨[], pl_18, rfl, K_10, hx_11, rfl, hok_19, hfr, hfa, ⟨x_17, (by first | omega | exact tt_lo _ | exact tt_hi _), (by first | omega | exact tt_lo _ | exact tt_hi _), (by first | omega | exact tt_lo _ | exact tt_hi _), (by first | omega | exact tt_lo _ | exact tt_hi _), rfl⟩⟩ dX10_setGate_42 (jj_le rfl) (jj_le rfl)
    · have z_c_2 := jc_nle (a := (p1).toInt) (b := (100)) c_2 rfl (by decide)
      exact jj_throw (k := 41) (text := "no such gate") C jt_RX10_75 jw_0e6c957e85 (by decide +kernel) dX10_setGate_11 dX10_setGate_14 dX10_setGate_15 dX10_setGate_17 dX10_setGate_20 hex (jj_le rfl) (jj_le rfl) (jj_le rfl) (jj_le rfl) ⟨[], pl0, rfl, rfl, hok, hfr, hfa, rfl⟩ (jj_le rfl) (jj_le rfl)

set_option maxHeartbeats 4000000 in
set_option maxRecDepth 100000 in
theorem tc_X10_share_1 {l : Launch} (hl : l.stackTraces = false) (D : va_G) (cA : Nat → ClassId) (ak : (Nat → Nat) × (Nat → Nat)) {Kd : Nat → Nat} (h0 : Nat) (p1 : Int32) (hk0 : Kd h0 = 15) {pl0 : va_W} (hok : tt_ok tt_tk cA Kd pl0) : jj_M l D cA ak yX10_share (.code yX10_share cX10_share 5 (some .double)) 8 123 2 12 ([] ++ pl0) [.ref h0, .int p1] (tt_O (fun rx pl1 r => rx = [] ∧ tt_ok tt_tk cA Kd pl1 ∧ tt_fr Kd [(2, 0), (2, 1), (2, 2), (2, 3), (2, 4), (9, 1), (9, 2), (9, 3), (9, 4), (9, 5)] pl0 pl1 ∧ tt_fa Kd [] pl0 pl1 ∧ ((∃ v : UInt64, (0 : Int) ≤ p1.toInt ∧ p1.toInt ≤ 2147483646 ∧ r = some (.double v))))) (tt_OX (fun E rx pl1 => rx = [] ∧ tt_ok tt_tk cA Kd pl1 ∧ tt_fr Kd [(2, 0), (2, 1), (2, 2), (2, 3), (2, 4), (9, 1), (9, 2), (9, 3), (9, 4), (9, 5)] pl0 pl1 ∧ tt_fa Kd [] pl0 pl1 ∧ (E = "java/lang/ArithmeticException" ∨ E = "java/lang/IndexOutOfBoundsException"))) := by
  refine jj_start hl (by decide) jw_108abeeede (jj_le rfl) ?_
  intro p e s m args below meth c A hargs hA C hex hmn
  have hfr := tt_fr.refl (K := Kd) (WS := [(2, 0), (2, 1), (2, 2), (2, 3), (2, 4), (9, 1), (9, 2), (9, 3), (9, 4), (9, 5)]) pl0
  have hfa := tt_fa.refl (K := Kd) (WA := []) pl0
  have lp1 := tt_lo p1
  have up1 := tt_hi p1
  refine jj_aload_n C dX10_share_0 rfl ?_
  refine jj_iload_n C dX10_share_1 rfl ?_
  obtain ⟨qc, gs, hqc⟩ := tt_recv (cx := []) hok hk0 (by decide) rfl
  refine tt_callV (rest := []) C (tc_X10_checkInvestor_1 hl D cA ak h0 p1 hk0 hok) [] [] rfl rfl (by decide) (by decide) (by decide) qc hqc rfl rfl jw_c489a67580 jw_a350a61418 jw_0e27b6f20c jw_6f6d707074 jw_a8b8d648f8 jn_X10_checkInvestor rfl (jj_le rfl) (jj_le rfl) (jj_le rfl) (jj_le rfl) (jj_le rfl) dX10_share_2 rfl (fun E rx pl_1 X_5 => ?_) (fun rx pl_1 r O_4 => ?_)
  · obtain ⟨rfl, hok_2, hr_3, hfa9, hE_6⟩ := X_5
    replace hfr := hfr.trans (hr_3.sub (by decide))
    replace hfa := hfa.trans (hfa9.sub (by decide))
    obtain rfl := hE_6
    exact jj_out C hex ⟨[], pl_1, rfl, rfl, hok_2, hfr, hfa, (Or.inr rfl)⟩ (jj_le rfl) (jj_le rfl)
  · obtain ⟨rfl, hok_2, hr_3, hfa9, hR_9⟩ := O_4
    replace hfr := hfr.trans (hr_3.sub (by decide))
    replace hfa := hfa.trans (hfa9.sub (by decide))
    obtain ⟨l_12, u_13, rfl⟩ := hR_9
    refine jj_lconst (v := 0) C dX10_share_5 (by decide) ?_
    refine jj_lstore_n C dX10_share_6 (by decide) rfl ?_
    refine jj_iconst (v := 0) C dX10_share_7 (by decide) ?_
    refine jj_istore C dX10_share_8 (by decide) rfl ?_
    have hL_14 : ∀ (N : Nat) (pl : va_W) (x_15 : Int32) (y_16 : Int64), True → tt_ok tt_tk cA Kd pl → tt_fr Kd [(2, 0), (2, 1), (2, 2), (2, 3), (2, 4), (9, 1), (9, 2), (9, 3), (9, 4), (9, 5)] pl0 pl → tt_fa Kd [] pl0 pl → (0 : Int) ≤ x_15.toInt → x_15.toInt ≤ 2147483647 → (2147483648 - x_15.toInt ≤ (N : Int)) → jj_J p l e (jj_rm 8 123 2 12) s m args below meth c 5 A (vx_MQ below (jj_q D A (tt_O (fun rx pl1 r => rx = [] ∧ tt_ok tt_tk cA Kd pl1 ∧ tt_fr Kd [(2, 0), (2, 1), (2, 2), (2, 3), (2, 4), (9, 1), (9, 2), (9, 3), (9, 4), (9, 5)] pl0 pl1 ∧ tt_fa Kd [] pl0 pl1 ∧ ((∃ v : UInt64, (0 : Int) ≤ p1.toInt ∧ p1.toInt ≤ 2147483646 ∧ r = some (.double v)))))) (jj_x D A (tt_OX (fun E rx pl1 => rx = [] ∧ tt_ok tt_tk cA Kd pl1 ∧ tt_fr Kd [(2, 0), (2, 1), (2, 2), (2, 3), (2, 4), (9, 1), (9, 2), (9, 3), (9, 4), (9, 5)] pl0 pl1 ∧ tt_fa Kd [] pl0 pl1 ∧ (E = "java/lang/ArithmeticException" ∨ E = "java/lang/IndexOutOfBoundsException")))) args s 2 12 A) (jj_X D A ([] ++ pl)) 1 6 10 [(4, .int x_15), (2, .long y_16), (0, .ref h0), (1, .int p1)] [] := by
      intro NL_14
      induction NL_14 with
      | zero => intro pl x_15 y_16 _ hok hfr hfa lx_15 ux_15 hNL_14; exfalso; omega
      | succ NL_14 ihL_14 =>
        intro pl x_15 y_16 _ hok hfr hfa lx_15 ux_15 hNL_14
        replace ihL_14 := fun pl x_15 y_16 h1 => ihL_14 pl x_15 y_16 trivial h1
        refine jj_iload C dX10_share_10 rfl ?_
        refine jj_aload_n C dX10_share_12 rfl ?_
        refine tt_get C hok jk_11 3 (by decide) jw_f82a97e333 (t := (2, 1, 0)) hk0 (by decide) rfl rfl dX10_share_13 (fun v_17 hv_17 hf_18 => ?_)
        obtain ⟨a_19, rfl, ka_19⟩ := tt_vr hv_17
        refine tt_get C hok jk_2 0 (by decide) jw_ea0f6256bc (t := (0, (-2147483648), 2147483647)) ka_19 (by decide) rfl rfl dX10_share_16 (fun v_20 hv_20 hf_21 => ?_)
        obtain ⟨x_22, rfl, lx_22, ux_22⟩ := tt_vi hv_20
        refine jj_icmp_ge (tgt := 45) C dX10_share_19 (by decide) (fun c_23 => ?_) (fun c_23 => ?_)
        · have z_c_23 := jc_le (a := (x_22).toInt) (b := (x_15).toInt) c_23 rfl rfl
          refine jj_lload_n C dX10_share_45 rfl ?_
          refine jj_lconst (v := 0) C dX10_share_46 (by decide) ?_
          refine jj_lcmp_ne (tgt := 62) C dX10_share_47 dX10_share_48 (by decide) (fun c_24 => ?_) (fun c_24 => ?_)
          · refine jj_aload_n C dX10_share_62 rfl ?_
            refine tt_get C hok jk_11 5 (by decide) jw_34b8702fe2 (t := (2, 9, 0)) hk0 (by decide) rfl rfl dX10_share_63 (fun v_25 hv_25 hf_26 => ?_)
            obtain ⟨a_27, rfl, ka_27⟩ := tt_vr hv_25
            refine jj_aload_n C dX10_share_66 rfl ?_
            refine tt_getF C hok jk_11 3 (by decide) jw_f82a97e333 (t := (2, 1, 0)) hk0 (by decide) rfl rfl hf_18 dX10_share_67 ?_
            refine jj_iload_n C dX10_share_70 rfl ?_
            refine jj_iconst (v := 0) C dX10_share_71 (by decide) ?_
            obtain ⟨qc, gs, hqc⟩ := tt_recv (cx := []) hok ka_27 (by decide) rfl
            refine tt_callV (rest := []) C (tc_X1_payAfterRate_15 hl D cA ak a_27 a_19 p1 ka_27 ka_19 hok) [] [] rfl rfl (by decide) (by decide) (by decide) qc hqc rfl rfl jw_40c49444b1 jw_86c6c6dedf jw_610440679d jw_944cf9c3ab jw_8658218399 jn_X1_payAfterRate rfl (jj_le rfl) (jj_le rfl) (jj_le rfl) (jj_le rfl) (jj_le rfl) dX10_share_72 rfl (fun _ _ _ hX => hX.elim) (fun rx pl_28 r O_31 => ?_)
            obtain ⟨rfl, hok_29, hr_30, hfa9, hR_33⟩ := O_31
            replace hf_18 := hr_30.at hk0 (by decide) (by decide) hf_18
            replace hf_21 := hr_30.at ka_19 (by decide) (by decide) hf_21
            replace hf_26 := hr_30.at hk0 (by decide) (by decide) hf_26
            replace hfr := hfr.trans (hr_30.sub (by decide))
            replace hfa := hfa.trans (hfa9.sub (by decide))
            obtain ⟨y_36, rfl⟩ := hR_33
            refine jt_l2d C dX10_share_75 ?_
            refine jj_lload_n C dX10_share_76 rfl ?_
            refine jt_l2d C dX10_share_77 ?_
            refine jt_ddiv C (id c_24) dX10_share_78 (fun w_37 => ?_)
            exact jj_dret C ⟨[], pl_28, rfl, rfl, hok_29, hfr, hfa, ⟨w_37, (by first | omega | exact tt_lo _ | exact tt_hi _), (by first | omega | exact tt_lo _ | exact tt_hi _), rfl⟩⟩ dX10_share_79 (jj_le rfl) (jj_le rfl)
          · exact jj_throwW (k := 47) (text := "the investors have no value") C jt_RX10_333 jw_20dc94e4d9 (by decide +kernel) dX10_share_51 dX10_share_54 dX10_share_55 dX10_share_58 dX10_share_61 hex (jj_le rfl) (jj_le rfl) (jj_le rfl) (jj_le rfl) ⟨[], pl, rfl, rfl, hok, hfr, hfa, (Or.inl rfl)⟩ (jj_le rfl) (jj_le rfl)
        · have z_c_23 := jc_nle (a := (x_22).toInt) (b := (x_15).toInt) c_23 rfl rfl
          refine jj_lload_n C dX10_share_22 rfl ?_
          refine jj_aload_n C dX10_share_23 rfl ?_
          refine tt_get C hok jk_11 5 (by decide) jw_34b8702fe2 (t := (2, 9, 0)) hk0 (by decide) rfl rfl dX10_share_24 (fun v_38 hv_38 hf_39 => ?_)
          obtain ⟨a_40, rfl, ka_40⟩ := tt_vr hv_38
          refine jj_aload_n C dX10_share_27 rfl ?_
          refine tt_getF C hok jk_11 3 (by decide) jw_f82a97e333 (t := (2, 1, 0)) hk0 (by decide) rfl rfl hf_18 dX10_share_28 ?_
          refine jj_iload C dX10_share_31 rfl ?_
          refine jj_iconst (v := 0) C dX10_share_33 (by decide) ?_
          obtain ⟨qc, gs, hqc⟩ := tt_recv (cx := []) hok ka_40 (by decide) rfl
          refine tt_callV (rest := [.long y_16]) C (tc_X1_payAfterRate_15 hl D cA ak a_40 a_19 x_15 ka_40 ka_19 hok) [] [] rfl rfl (by decide) (by decide) (by decide) qc hqc rfl rfl jw_40c49444b1 jw_86c6c6dedf jw_610440679d jw_944cf9c3ab jw_8658218399 jn_X1_payAfterRate rfl (jj_le rfl) (jj_le rfl) (jj_le rfl) (jj_le rfl) (jj_le rfl) dX10_share_34 rfl (fun _ _ _ hX => hX.elim) (fun rx pl_41 r O_44 => ?_)
          obtain ⟨rfl, hok_42, hr_43, hfa9, hR_46⟩ := O_44
          replace hf_18 := hr_43.at hk0 (by decide) (by decide) hf_18
          replace hf_21 := hr_43.at ka_19 (by decide) (by decide) hf_21
          replace hf_39 := hr_43.at hk0 (by decide) (by decide) hf_39
          replace hfr := hfr.trans (hr_43.sub (by decide))
          replace hfa := hfa.trans (hfa9.sub (by decide))
          obtain ⟨y_49, rfl⟩ := hR_46
          obtain ⟨y_50, ey_50⟩ : ∃ z : Int64, y_16 + y_49 = z := ⟨_, rfl⟩
          refine jj_ladd (v := y_50) C dX10_share_37 ey_50 ?_
          refine jj_lstore_n C dX10_share_38 (by decide) rfl ?_
          obtain ⟨x_51, ex_51, vx_51⟩ := tt_inc (x := x_15) (n := 1) (by omega) (by omega)
          refine jj_iinc (v := x_51) C dX10_share_39 rfl ex_51 (by decide) rfl ?_
          refine jj_goto (tgt := 10) C dX10_share_42 (by decide) ?_
          exact ihL_14 pl_41 x_51 y_50 hok_42 hfr hfa (by first | omega | decide | exact tt_lo _ | exact tt_hi _) (by first | omega | decide | exact tt_lo _ | exact tt_hi _) (by first | omega | decide | exact tt_lo _ | exact tt_hi _)
    exact hL_14 _ pl_1 (0 : Int32) (0 : Int64) trivial hok_2 hfr hfa (by first | omega | decide | exact tt_lo _ | exact tt_hi _) (by first | omega | decide | exact tt_lo _ | exact tt_hi _) (Int.self_le_toNat _)

set_option maxHeartbeats 4000000 in
set_option maxRecDepth 100000 in
theorem tc_X10_subscribe_1 {l : Launch} (hl : l.stackTraces = false) (D : va_G) (cA : Nat → ClassId) (ak : (Nat → Nat) × (Nat → Nat)) {Kd : Nat → Nat} (h0 : Nat) (p1 : Int32) (p2 : Int32) (hk0 : Kd h0 = 15) {pl0 : va_W} (hok : tt_ok tt_tk cA Kd pl0) : jj_M l D cA ak yX10_subscribe (.code yX10_subscribe cX10_subscribe 3 (some .int)) 7 102 63 408 ([] ++ pl0) [.ref h0, .int p1, .int p2] (tt_O (fun rx pl1 r => ∃ K1 : Nat → Nat, tt_ex Kd K1 ∧ rx = [] ∧ tt_ok tt_tk cA K1 pl1 ∧ tt_fr Kd [(1, 0), (1, 1), (1, 2), (1, 3), (1, 4), (1, 5), (1, 6), (1, 7), (1, 8), (1, 9), (2, 0), (2, 1), (2, 2), (2, 3), (2, 4), (3, 0), (3, 1), (3, 2), (3, 3), (3, 4), (3, 5), (4, 0), (4, 1), (4, 2), (4, 3), (4, 4), (15, 7), (15, 8)] pl0 pl1 ∧ tt_fa Kd [5] pl0 pl1 ∧ (((0 : Int) ≤ p1.toInt ∧ p1.toInt ≤ 2147483646 ∧ (1 : Int) ≤ p2.toInt ∧ p2.toInt ≤ 9999999 ∧ r = some (.int 11)) ∨ (∃ v : Int32, (0 : Int) ≤ v.toInt ∧ v.toInt ≤ 11 ∧ (0 : Int) ≤ p1.toInt ∧ p1.toInt ≤ 2147483646 ∧ (1 : Int) ≤ p2.toInt ∧ p2.toInt ≤ 9999999 ∧ r = some (.int v))))) (tt_OX (fun E rx pl1 => rx = [] ∧ tt_ok tt_tk cA Kd pl1 ∧ tt_fr Kd [(1, 0), (1, 1), (1, 2), (1, 3), (1, 4), (1, 5), (1, 6), (1, 7), (1, 8), (1, 9), (2, 0), (2, 1), (2, 2), (2, 3), (2, 4), (3, 0), (3, 1), (3, 2), (3, 3), (3, 4), (3, 5), (4, 0), (4, 1), (4, 2), (4, 3), (4, 4), (15, 7), (15, 8)] pl0 pl1 ∧ tt_fa Kd [5] pl0 pl1 ∧ (E = "java/lang/IllegalArgumentException" ∨ E = "java/lang/IllegalStateException" ∨ E = "java/lang/IndexOutOfBoundsException"))) := by
  refine jj_start hl (by decide) jw_7347c5ace4 (jj_le rfl) ?_
  intro p e s m args below meth c A hargs hA C hex hmn
  have hfr := tt_fr.refl (K := Kd) (WS := [(1, 0), (1, 1), (1, 2), (1, 3), (1, 4), (1, 5), (1, 6), (1, 7), (1, 8), (1, 9), (2, 0), (2, 1), (2, 2), (2, 3), (2, 4), (3, 0), (3, 1), (3, 2), (3, 3), (3, 4), (3, 5), (4, 0), (4, 1), (4, 2), (4, 3), (4, 4), (15, 7), (15, 8)]) pl0
  have hfa := tt_fa.refl (K := Kd) (WA := [5]) pl0
  have lp1 := tt_lo p1
  have up1 := tt_hi p1
  have lp2 := tt_lo p2
  have up2 := tt_hi p2
  refine jj_aload_n C dX10_subscribe_0 rfl ?_
  refine tt_get C hok jk_11 3 (by decide) jw_f82a97e333 (t := (2, 1, 0)) hk0 (by decide) rfl rfl dX10_subscribe_1 (fun v_1 hv_1 hf_2 => ?_)
  obtain ⟨a_3, rfl, ka_3⟩ := tt_vr hv_1
  refine jj_iload_n C dX10_subscribe_4 rfl ?_
  refine jj_iload_n C dX10_subscribe_5 rfl ?_
  obtain ⟨qc, gs, hqc⟩ := tt_recv (cx := []) hok ka_3 (by decide) rfl
  refine tt_callV (rest := []) C (tc_X0_subscriptionFault_1 hl D cA ak a_3 p1 p2 ka_3 hok) [] [] rfl rfl (by decide) (by decide) (by decide) qc hqc rfl rfl jw_82effba443 jw_0f470cf99b jw_b41d0555cc jw_7d25d4fd32 jw_29c1f216db jn_X0_subscriptionFault rfl (jj_le rfl) (jj_le rfl) (jj_le rfl) (jj_le rfl) (jj_le rfl) dX10_subscribe_6 rfl (fun _ _ _ hX => hX.elim) (fun rx pl_4 r O_7 => ?_)
  obtain ⟨rfl, hok_5, hr_6, hfa9, hR_9⟩ := O_7
  replace hf_2 := hr_6.at hk0 (by decide) (by decide) hf_2
  replace hfr := hfr.trans (hr_6.sub (by decide))
  replace hfa := hfa.trans (hfa9.sub (by decide))
  rcases hR_9 with rfl | ⟨l_12, u_13, rfl⟩ | ⟨l_14, u_15, l_16, u_17, rfl⟩ | ⟨l_18, u_19, l_20, u_21, rfl⟩
  · refine tt_callS (rest := []) C (tc_X10_refuse_1 hl D cA ak  hok_5) [] [] rfl rfl (by decide) (by decide) (by decide) jw_90eccdbdf8 jw_751c22758b jw_6f6d707074 jw_57df353171 jn_X10_refuse rfl (jj_le rfl) (jj_le rfl) (jj_le rfl) (jj_le rfl) (jj_le rfl) dX10_subscribe_9 rfl (fun E rx pl_22 X_26 => ?_) (fun rx pl_22 r O_25 => ?_)
    · obtain ⟨rfl, hok_23, hr_24, hfa9, hE_27⟩ := X_26
      replace hf_2 := hr_24.at hk0 (by decide) (by decide) hf_2
      replace hfr := hfr.trans (hr_24.sub (by decide))
      replace hfa := hfa.trans (hfa9.sub (by decide))
      obtain rfl := hE_27
      exact jj_out C hex ⟨[], pl_22, rfl, rfl, hok_23, hfr, hfa, (Or.inr (Or.inr rfl))⟩ (jj_le rfl) (jj_le rfl)
    · exact O_25.elim
  · refine tt_callS (rest := []) C (tc_X10_refuse_3 hl D cA ak  hok_5) [] [] rfl rfl (by decide) (by decide) (by decide) jw_90eccdbdf8 jw_751c22758b jw_6f6d707074 jw_57df353171 jn_X10_refuse rfl (jj_le rfl) (jj_le rfl) (jj_le rfl) (jj_le rfl) (jj_le rfl) dX10_subscribe_9 rfl (fun E rx pl_31 X_35 => ?_) (fun rx pl_31 r O_34 => ?_)
    · obtain ⟨rfl, hok_32, hr_33, hfa9, hE_36⟩ := X_35
      replace hf_2 := hr_33.at hk0 (by decide) (by decide) hf_2
      replace hfr := hfr.trans (hr_33.sub (by decide))
      replace hfa := hfa.trans (hfa9.sub (by decide))
      obtain rfl := hE_36
      exact jj_out C hex ⟨[], pl_31, rfl, rfl, hok_32, hfr, hfa, (Or.inl rfl)⟩ (jj_le rfl) (jj_le rfl)
    · exact O_34.elim
  · refine tt_callS (rest := []) C (tc_X10_refuse_2 hl D cA ak  hok_5) [] [] rfl rfl (by decide) (by decide) (by decide) jw_90eccdbdf8 jw_751c22758b jw_6f6d707074 jw_57df353171 jn_X10_refuse rfl (jj_le rfl) (jj_le rfl) (jj_le rfl) (jj_le rfl) (jj_le rfl) dX10_subscribe_9 rfl (fun _ _ _ hX => hX.elim) (fun rx pl_40 r O_43 => ?_)
    obtain ⟨rfl, hok_41, hr_42, hfa9, hR_45⟩ := O_43
    replace hf_2 := hr_42.at hk0 (by decide) (by decide) hf_2
    replace hfr := hfr.trans (hr_42.sub (by decide))
    replace hfa := hfa.trans (hfa9.sub (by decide))
    obtain rfl := hR_45
    refine jj_aload_n C dX10_subscribe_12 rfl ?_
    obtain ⟨qc, gs, hqc⟩ := tt_recv (cx := []) hok_41 hk0 (by decide) rfl
    refine tt_callV (rest := []) C (tc_X10_remember_1 hl D cA ak h0 hk0 hok_41) [] [] rfl rfl (by decide) (by decide) (by decide) qc hqc rfl rfl jw_0283246098 jw_467be33587 jw_328a25009e jw_6f6d707074 jw_eabf0b0f0c jn_X10_remember rfl (jj_le rfl) (jj_le rfl) (jj_le rfl) (jj_le rfl) (jj_le rfl) dX10_subscribe_13 rfl (fun _ _ _ hX => hX.elim) (fun rx pl_48 r O_51 => ?_)
    obtain ⟨K_55, hx_54, rfl, hok_49, hr_50, hfa9, hR_53⟩ := O_51
    replace hf_2 := hr_50.at hk0 (by decide) (by decide) hf_2
    replace hfr := hfr.trans (hr_50.sub (by decide))
    replace hfa := hfa.trans (hfa9.sub (by decide))
    have hk0 := hx_54.kd hk0 (by decide)
    have ka_3 := hx_54.kd ka_3 (by decide)
    have hx_56 := hx_54
    obtain rfl := hR_53
    refine jj_aload_n C dX10_subscribe_16 rfl ?_
    refine tt_getF C hok_49 jk_11 3 (by decide) jw_f82a97e333 (t := (2, 1, 0)) hk0 (by decide) rfl rfl hf_2 dX10_subscribe_17 ?_
    refine jj_iload_n C dX10_subscribe_20 rfl ?_
    refine jj_iconst (v := 0) C dX10_subscribe_21 (by decide) ?_
    refine jj_iload_n C dX10_subscribe_22 rfl ?_
    obtain ⟨y_57, ey_57, vy_57⟩ := tt_i2l p2
    refine jj_i2l (v := y_57) C dX10_subscribe_23 ey_57 ?_
    obtain ⟨qc, gs, hqc⟩ := tt_recv (cx := []) hok_49 ka_3 (by decide) rfl
    refine tt_callV (rest := []) C (tc_X0_addRequest_2 hl D cA ak a_3 p1 y_57 ka_3 hok_49) [] [] rfl rfl (by decide) (by decide) (by decide) qc hqc rfl rfl jw_81a6c9ee6e jw_4cd88e9d91 jw_a895762d25 jw_7d25d4fd32 jw_1fad268463 jn_X0_addRequest rfl (jj_le rfl) (jj_le rfl) (jj_le rfl) (jj_le rfl) (jj_le rfl) dX10_subscribe_24 rfl (fun _ _ _ hX => hX.elim) (fun rx pl_58 r O_61 => ?_)
    obtain ⟨rfl, hok_59, hr_60, hfa9, hR_63⟩ := O_61
    replace hf_2 := hr_60.at hk0 (by decide) (by decide) hf_2
    replace hfr := hfr.transX hx_56 (hr_60.sub (by decide))
    replace hfa := hfa.transX hx_56 (hfa9.sub (by decide))
    rcases hR_63 with rfl | ⟨x_66, lx_66, ux_66, rfl⟩
    · exact jj_iret C ⟨[], pl_58, rfl, K_55, hx_56, rfl, hok_59, hfr, hfa, (Or.inl ⟨(by first | omega | exact tt_lo _ | exact tt_hi _), (by first | omega | exact tt_lo _ | exact tt_hi _), (by first | omega | exact tt_lo _ | exact tt_hi _), (by first | omega | exact tt_lo _ | exact tt_hi _), rfl⟩)⟩ dX10_subscribe_27 (jj_le rfl) (jj_le rfl)
    · exact jj_iret C ⟨[], pl_58, rfl, K_55, hx_56, rfl, hok_59, hfr, hfa, (Or.inr ⟨x_66, (by first | omega | exact tt_lo _ | exact tt_hi _), (by first | omega | exact tt_lo _ | exact tt_hi _), (by first | omega | exact tt_lo _ | exact tt_hi _), (by first | omega | exact tt_lo _ | exact tt_hi _), (by first | omega | exact tt_lo _ | exact tt_hi _), (by first | omega | exact tt_lo _ | exact tt_hi _), rfl⟩)⟩ dX10_subscribe_27 (jj_le rfl) (jj_le rfl)
  · refine tt_callS (rest := []) C (tc_X10_refuse_4 hl D cA ak  hok_5) [] [] rfl rfl (by decide) (by decide) (by decide) jw_90eccdbdf8 jw_751c22758b jw_6f6d707074 jw_57df353171 jn_X10_refuse rfl (jj_le rfl) (jj_le rfl) (jj_le rfl) (jj_le rfl) (jj_le rfl) dX10_subscribe_9 rfl (fun E rx pl_67 X_71 => ?_) (fun rx pl_67 r O_70 => ?_)
    · obtain ⟨rfl, hok_68, hr_69, hfa9, hE_72⟩ := X_71
      replace hf_2 := hr_69.at hk0 (by decide) (by decide) hf_2
      replace hfr := hfr.trans (hr_69.sub (by decide))
      replace hfa := hfa.trans (hfa9.sub (by decide))
      obtain rfl := hE_72
      exact jj_out C hex ⟨[], pl_67, rfl, rfl, hok_68, hfr, hfa, (Or.inr (Or.inl rfl))⟩ (jj_le rfl) (jj_le rfl)
    · exact O_70.elim

set_option maxHeartbeats 4000000 in
set_option maxRecDepth 100000 in
theorem tc_X10_transfer_1 {l : Launch} (hl : l.stackTraces = false) (D : va_G) (cA : Nat → ClassId) (ak : (Nat → Nat) × (Nat → Nat)) {Kd : Nat → Nat} (h0 : Nat) (p1 : Int32) (p2 : Int32) (p3 : Int32) (hk0 : Kd h0 = 15) {pl0 : va_W} (hok : tt_ok tt_tk cA Kd pl0) : jj_M l D cA ak yX10_transfer (.code yX10_transfer cX10_transfer 4 (some .long)) 7 109 63 408 ([] ++ pl0) [.ref h0, .int p1, .int p2, .int p3] (tt_O (fun rx pl1 r => ∃ K1 : Nat → Nat, tt_ex Kd K1 ∧ rx = [] ∧ tt_ok tt_tk cA K1 pl1 ∧ tt_fr Kd [(1, 0), (1, 1), (1, 2), (1, 3), (1, 4), (1, 5), (1, 6), (1, 7), (1, 8), (1, 9), (2, 0), (2, 1), (2, 2), (2, 3), (2, 4), (3, 0), (3, 1), (3, 2), (3, 3), (3, 4), (3, 5), (4, 0), (4, 1), (4, 2), (4, 3), (4, 4), (15, 7), (15, 8)] pl0 pl1 ∧ tt_fa Kd [5] pl0 pl1 ∧ ((∃ v : Int64, (0 : Int) ≤ p1.toInt ∧ p1.toInt ≤ 2147483646 ∧ (0 : Int) ≤ p2.toInt ∧ p2.toInt ≤ 2147483646 ∧ (1 : Int) ≤ p3.toInt ∧ p3.toInt ≤ 99999999 ∧ r = some (.long v))))) (tt_OX (fun E rx pl1 => rx = [] ∧ tt_ok tt_tk cA Kd pl1 ∧ tt_fr Kd [(1, 0), (1, 1), (1, 2), (1, 3), (1, 4), (1, 5), (1, 6), (1, 7), (1, 8), (1, 9), (2, 0), (2, 1), (2, 2), (2, 3), (2, 4), (3, 0), (3, 1), (3, 2), (3, 3), (3, 4), (3, 5), (4, 0), (4, 1), (4, 2), (4, 3), (4, 4), (15, 7), (15, 8)] pl0 pl1 ∧ tt_fa Kd [5] pl0 pl1 ∧ (E = "java/lang/IllegalArgumentException" ∨ E = "java/lang/IllegalStateException" ∨ E = "java/lang/IndexOutOfBoundsException"))) := by
  refine jj_start hl (by decide) jw_7f799eb846 (jj_le rfl) ?_
  intro p e s m args below meth c A hargs hA C hex hmn
  have hfr := tt_fr.refl (K := Kd) (WS := [(1, 0), (1, 1), (1, 2), (1, 3), (1, 4), (1, 5), (1, 6), (1, 7), (1, 8), (1, 9), (2, 0), (2, 1), (2, 2), (2, 3), (2, 4), (3, 0), (3, 1), (3, 2), (3, 3), (3, 4), (3, 5), (4, 0), (4, 1), (4, 2), (4, 3), (4, 4), (15, 7), (15, 8)]) pl0
  have hfa := tt_fa.refl (K := Kd) (WA := [5]) pl0
  have lp1 := tt_lo p1
  have up1 := tt_hi p1
  have lp2 := tt_lo p2
  have up2 := tt_hi p2
  have lp3 := tt_lo p3
  have up3 := tt_hi p3
  refine jj_aload_n C dX10_transfer_0 rfl ?_
  refine tt_get C hok jk_11 3 (by decide) jw_f82a97e333 (t := (2, 1, 0)) hk0 (by decide) rfl rfl dX10_transfer_1 (fun v_1 hv_1 hf_2 => ?_)
  obtain ⟨a_3, rfl, ka_3⟩ := tt_vr hv_1
  refine jj_iload_n C dX10_transfer_4 rfl ?_
  refine jj_iload_n C dX10_transfer_5 rfl ?_
  refine jj_iload_n C dX10_transfer_6 rfl ?_
  obtain ⟨qc, gs, hqc⟩ := tt_recv (cx := []) hok ka_3 (by decide) rfl
  refine tt_callV (rest := []) C (tc_X0_transferFault_1 hl D cA ak a_3 p1 p2 p3 ka_3 hok) [] [] rfl rfl (by decide) (by decide) (by decide) qc hqc rfl rfl jw_18e02b2319 jw_6f3505a32b jw_6a9f65fed1 jw_7d25d4fd32 jw_aaaeb43ff8 jn_X0_transferFault rfl (jj_le rfl) (jj_le rfl) (jj_le rfl) (jj_le rfl) (jj_le rfl) dX10_transfer_7 rfl (fun _ _ _ hX => hX.elim) (fun rx pl_4 r O_7 => ?_)
  obtain ⟨rfl, hok_5, hr_6, hfa9, hR_9⟩ := O_7
  replace hf_2 := hr_6.at hk0 (by decide) (by decide) hf_2
  replace hfr := hfr.trans (hr_6.sub (by decide))
  replace hfa := hfa.trans (hfa9.sub (by decide))
  rcases hR_9 with rfl | ⟨l_12, u_13, l_14, u_15, rfl⟩ | ⟨l_16, u_17, l_18, u_19, l_20, u_21, rfl⟩ | ⟨l_22, u_23, l_24, u_25, l_26, u_27, rfl⟩
  · refine tt_callS (rest := []) C (tc_X10_refuse_1 hl D cA ak  hok_5) [] [] rfl rfl (by decide) (by decide) (by decide) jw_90eccdbdf8 jw_751c22758b jw_6f6d707074 jw_57df353171 jn_X10_refuse rfl (jj_le rfl) (jj_le rfl) (jj_le rfl) (jj_le rfl) (jj_le rfl) dX10_transfer_10 rfl (fun E rx pl_28 X_32 => ?_) (fun rx pl_28 r O_31 => ?_)
    · obtain ⟨rfl, hok_29, hr_30, hfa9, hE_33⟩ := X_32
      replace hf_2 := hr_30.at hk0 (by decide) (by decide) hf_2
      replace hfr := hfr.trans (hr_30.sub (by decide))
      replace hfa := hfa.trans (hfa9.sub (by decide))
      obtain rfl := hE_33
      exact jj_out C hex ⟨[], pl_28, rfl, rfl, hok_29, hfr, hfa, (Or.inr (Or.inr rfl))⟩ (jj_le rfl) (jj_le rfl)
    · exact O_31.elim
  · refine tt_callS (rest := []) C (tc_X10_refuse_3 hl D cA ak  hok_5) [] [] rfl rfl (by decide) (by decide) (by decide) jw_90eccdbdf8 jw_751c22758b jw_6f6d707074 jw_57df353171 jn_X10_refuse rfl (jj_le rfl) (jj_le rfl) (jj_le rfl) (jj_le rfl) (jj_le rfl) dX10_transfer_10 rfl (fun E rx pl_37 X_41 => ?_) (fun rx pl_37 r O_40 => ?_)
    · obtain ⟨rfl, hok_38, hr_39, hfa9, hE_42⟩ := X_41
      replace hf_2 := hr_39.at hk0 (by decide) (by decide) hf_2
      replace hfr := hfr.trans (hr_39.sub (by decide))
      replace hfa := hfa.trans (hfa9.sub (by decide))
      obtain rfl := hE_42
      exact jj_out C hex ⟨[], pl_37, rfl, rfl, hok_38, hfr, hfa, (Or.inl rfl)⟩ (jj_le rfl) (jj_le rfl)
    · exact O_40.elim
  · refine tt_callS (rest := []) C (tc_X10_refuse_2 hl D cA ak  hok_5) [] [] rfl rfl (by decide) (by decide) (by decide) jw_90eccdbdf8 jw_751c22758b jw_6f6d707074 jw_57df353171 jn_X10_refuse rfl (jj_le rfl) (jj_le rfl) (jj_le rfl) (jj_le rfl) (jj_le rfl) dX10_transfer_10 rfl (fun _ _ _ hX => hX.elim) (fun rx pl_46 r O_49 => ?_)
    obtain ⟨rfl, hok_47, hr_48, hfa9, hR_51⟩ := O_49
    replace hf_2 := hr_48.at hk0 (by decide) (by decide) hf_2
    replace hfr := hfr.trans (hr_48.sub (by decide))
    replace hfa := hfa.trans (hfa9.sub (by decide))
    obtain rfl := hR_51
    refine jj_aload_n C dX10_transfer_13 rfl ?_
    obtain ⟨qc, gs, hqc⟩ := tt_recv (cx := []) hok_47 hk0 (by decide) rfl
    refine tt_callV (rest := []) C (tc_X10_remember_1 hl D cA ak h0 hk0 hok_47) [] [] rfl rfl (by decide) (by decide) (by decide) qc hqc rfl rfl jw_0283246098 jw_467be33587 jw_328a25009e jw_6f6d707074 jw_eabf0b0f0c jn_X10_remember rfl (jj_le rfl) (jj_le rfl) (jj_le rfl) (jj_le rfl) (jj_le rfl) dX10_transfer_14 rfl (fun _ _ _ hX => hX.elim) (fun rx pl_54 r O_57 => ?_)
    obtain ⟨K_61, hx_60, rfl, hok_55, hr_56, hfa9, hR_59⟩ := O_57
    replace hf_2 := hr_56.at hk0 (by decide) (by decide) hf_2
    replace hfr := hfr.trans (hr_56.sub (by decide))
    replace hfa := hfa.trans (hfa9.sub (by decide))
    have hk0 := hx_60.kd hk0 (by decide)
    have ka_3 := hx_60.kd ka_3 (by decide)
    have hx_62 := hx_60
    obtain rfl := hR_59
    refine jj_aload_n C dX10_transfer_17 rfl ?_
    refine tt_getF C hok_55 jk_11 3 (by decide) jw_f82a97e333 (t := (2, 1, 0)) hk0 (by decide) rfl rfl hf_2 dX10_transfer_18 ?_
    refine jj_iload_n C dX10_transfer_21 rfl ?_
    refine jj_iload_n C dX10_transfer_22 rfl ?_
    refine jj_iload_n C dX10_transfer_23 rfl ?_
    obtain ⟨y_63, ey_63, vy_63⟩ := tt_i2l p3
    refine jj_i2l (v := y_63) C dX10_transfer_24 ey_63 ?_
    obtain ⟨qc, gs, hqc⟩ := tt_recv (cx := []) hok_55 ka_3 (by decide) rfl
    refine tt_callV (rest := []) C (tc_X0_moveUnits_1 hl D cA ak a_3 p1 p2 y_63 ka_3 hok_55) [] [] rfl rfl (by decide) (by decide) (by decide) qc hqc rfl rfl jw_5f9932b008 jw_d2fd2d623d jw_ca66900665 jw_7d25d4fd32 jw_7d091de86e jn_X0_moveUnits rfl (jj_le rfl) (jj_le rfl) (jj_le rfl) (jj_le rfl) (jj_le rfl) dX10_transfer_25 rfl (fun _ _ _ hX => hX.elim) (fun rx pl_64 r O_67 => ?_)
    obtain ⟨rfl, hok_65, hr_66, hfa9, hR_69⟩ := O_67
    replace hf_2 := hr_66.at hk0 (by decide) (by decide) hf_2
    replace hfr := hfr.transX hx_62 (hr_66.sub (by decide))
    replace hfa := hfa.transX hx_62 (hfa9.sub (by decide))
    obtain rfl := hR_69
    refine jj_aload_n C dX10_transfer_28 rfl ?_
    refine tt_getF C hok_65 jk_11 3 (by decide) jw_f82a97e333 (t := (2, 1, 0)) hk0 (by decide) rfl rfl hf_2 dX10_transfer_29 ?_
    refine jj_iload_n C dX10_transfer_32 rfl ?_
    obtain ⟨qc, gs, hqc⟩ := tt_recv (cx := []) hok_65 ka_3 (by decide) rfl
    refine tt_callV (rest := []) C (tc_X0_unitsHeldBy_1 hl D cA ak a_3 p1 ka_3 hok_65) [] [] rfl rfl (by decide) (by decide) (by decide) qc hqc rfl rfl jw_696d1435d3 jw_473d3625aa jw_4058f4329f jw_7d25d4fd32 jw_325e36afd1 jn_X0_unitsHeldBy rfl (jj_le rfl) (jj_le rfl) (jj_le rfl) (jj_le rfl) (jj_le rfl) dX10_transfer_33 rfl (fun _ _ _ hX => hX.elim) (fun rx pl_72 r O_75 => ?_)
    obtain ⟨rfl, hok_73, hr_74, hfa9, hR_77⟩ := O_75
    replace hf_2 := hr_74.at hk0 (by decide) (by decide) hf_2
    replace hfr := hfr.transX hx_62 (hr_74.sub (by decide))
    replace hfa := hfa.transX hx_62 (hfa9.sub (by decide))
    obtain ⟨y_80, rfl⟩ := hR_77
    exact jj_lret C ⟨[], pl_72, rfl, K_61, hx_62, rfl, hok_73, hfr, hfa, ⟨y_80, (by first | omega | exact tt_lo _ | exact tt_hi _), (by first | omega | exact tt_lo _ | exact tt_hi _), (by first | omega | exact tt_lo _ | exact tt_hi _), (by first | omega | exact tt_lo _ | exact tt_hi _), (by first | omega | exact tt_lo _ | exact tt_hi _), (by first | omega | exact tt_lo _ | exact tt_hi _), rfl⟩⟩ dX10_transfer_36 (jj_le rfl) (jj_le rfl)
  · refine tt_callS (rest := []) C (tc_X10_refuse_4 hl D cA ak  hok_5) [] [] rfl rfl (by decide) (by decide) (by decide) jw_90eccdbdf8 jw_751c22758b jw_6f6d707074 jw_57df353171 jn_X10_refuse rfl (jj_le rfl) (jj_le rfl) (jj_le rfl) (jj_le rfl) (jj_le rfl) dX10_transfer_10 rfl (fun E rx pl_81 X_85 => ?_) (fun rx pl_81 r O_84 => ?_)
    · obtain ⟨rfl, hok_82, hr_83, hfa9, hE_86⟩ := X_85
      replace hf_2 := hr_83.at hk0 (by decide) (by decide) hf_2
      replace hfr := hfr.trans (hr_83.sub (by decide))
      replace hfa := hfa.trans (hfa9.sub (by decide))
      obtain rfl := hE_86
      exact jj_out C hex ⟨[], pl_81, rfl, rfl, hok_82, hfr, hfa, (Or.inr (Or.inl rfl))⟩ (jj_le rfl) (jj_le rfl)
    · exact O_84.elim

set_option maxHeartbeats 4000000 in
set_option maxRecDepth 100000 in
theorem tc_X10_withdraw_1 {l : Launch} (hl : l.stackTraces = false) (D : va_G) (cA : Nat → ClassId) (ak : (Nat → Nat) × (Nat → Nat)) {Kd : Nat → Nat} (h0 : Nat) (p1 : Int32) (hk0 : Kd h0 = 15) {pl0 : va_W} (hok : tt_ok tt_tk cA Kd pl0) : jj_M l D cA ak yX10_withdraw (.code yX10_withdraw cX10_withdraw 4 (some .long)) 8 123 64 414 ([] ++ pl0) [.ref h0, .int p1] (tt_O (fun rx pl1 r => ∃ K1 : Nat → Nat, tt_ex Kd K1 ∧ rx = [] ∧ tt_ok tt_tk cA K1 pl1 ∧ tt_fr Kd [(1, 0), (1, 1), (1, 2), (1, 3), (1, 4), (1, 5), (1, 6), (1, 7), (1, 8), (1, 9), (2, 0), (2, 1), (2, 2), (2, 3), (2, 4), (3, 0), (3, 1), (3, 2), (3, 3), (3, 4), (3, 5), (4, 0), (4, 1), (4, 2), (4, 3), (4, 4), (15, 7), (15, 8)] pl0 pl1 ∧ tt_fa Kd [5] pl0 pl1 ∧ ((∃ v : Int64, (0 : Int) ≤ p1.toInt ∧ p1.toInt ≤ 11 ∧ r = some (.long v))))) (tt_OX (fun E rx pl1 => rx = [] ∧ tt_ok tt_tk cA Kd pl1 ∧ tt_fr Kd [(1, 0), (1, 1), (1, 2), (1, 3), (1, 4), (1, 5), (1, 6), (1, 7), (1, 8), (1, 9), (2, 0), (2, 1), (2, 2), (2, 3), (2, 4), (3, 0), (3, 1), (3, 2), (3, 3), (3, 4), (3, 5), (4, 0), (4, 1), (4, 2), (4, 3), (4, 4), (15, 7), (15, 8)] pl0 pl1 ∧ tt_fa Kd [5] pl0 pl1 ∧ (E = "java/lang/IndexOutOfBoundsException"))) := by
  refine jj_start hl (by decide) jw_2960e68e35 (jj_le rfl) ?_
  intro p e s m args below meth c A hargs hA C hex hmn
  have hfr := tt_fr.refl (K := Kd) (WS := [(1, 0), (1, 1), (1, 2), (1, 3), (1, 4), (1, 5), (1, 6), (1, 7), (1, 8), (1, 9), (2, 0), (2, 1), (2, 2), (2, 3), (2, 4), (3, 0), (3, 1), (3, 2), (3, 3), (3, 4), (3, 5), (4, 0), (4, 1), (4, 2), (4, 3), (4, 4), (15, 7), (15, 8)]) pl0
  have hfa := tt_fa.refl (K := Kd) (WA := [5]) pl0
  have lp1 := tt_lo p1
  have up1 := tt_hi p1
  refine jj_aload_n C dX10_withdraw_0 rfl ?_
  refine jj_iload_n C dX10_withdraw_1 rfl ?_
  obtain ⟨qc, gs, hqc⟩ := tt_recv (cx := []) hok hk0 (by decide) rfl
  refine tt_callV (rest := []) C (tc_X10_checkRequest_1 hl D cA ak h0 p1 hk0 hok) [] [] rfl rfl (by decide) (by decide) (by decide) qc hqc rfl rfl jw_8393dc7999 jw_19ebf3d629 jw_0700398a86 jw_6f6d707074 jw_31f2a3897e jn_X10_checkRequest rfl (jj_le rfl) (jj_le rfl) (jj_le rfl) (jj_le rfl) (jj_le rfl) dX10_withdraw_2 rfl (fun E rx pl_1 X_5 => ?_) (fun rx pl_1 r O_4 => ?_)
  · obtain ⟨rfl, hok_2, hr_3, hfa9, hE_6⟩ := X_5
    replace hfr := hfr.trans (hr_3.sub (by decide))
    replace hfa := hfa.trans (hfa9.sub (by decide))
    obtain rfl := hE_6
    exact jj_out C hex ⟨[], pl_1, rfl, rfl, hok_2, hfr, hfa, rfl⟩ (jj_le rfl) (jj_le rfl)
  · obtain ⟨rfl, hok_2, hr_3, hfa9, hR_9⟩ := O_4
    replace hfr := hfr.trans (hr_3.sub (by decide))
    replace hfa := hfa.trans (hfa9.sub (by decide))
    obtain ⟨l_12, u_13, rfl⟩ := hR_9
    refine jj_aload_n C dX10_withdraw_5 rfl ?_
    obtain ⟨qc, gs, hqc⟩ := tt_recv (cx := []) hok_2 hk0 (by decide) rfl
    refine tt_callV (rest := []) C (tc_X10_remember_1 hl D cA ak h0 hk0 hok_2) [] [] rfl rfl (by decide) (by decide) (by decide) qc hqc rfl rfl jw_0283246098 jw_467be33587 jw_328a25009e jw_6f6d707074 jw_eabf0b0f0c jn_X10_remember rfl (jj_le rfl) (jj_le rfl) (jj_le rfl) (jj_le rfl) (jj_le rfl) dX10_withdraw_6 rfl (fun _ _ _ hX => hX.elim) (fun rx pl_14 r O_17 => ?_)
    obtain ⟨K_21, hx_20, rfl, hok_15, hr_16, hfa9, hR_19⟩ := O_17
    replace hfr := hfr.trans (hr_16.sub (by decide))
    replace hfa := hfa.trans (hfa9.sub (by decide))
    have hk0 := hx_20.kd hk0 (by decide)
    have hx_22 := hx_20
    obtain rfl := hR_19
    refine jj_aload_n C dX10_withdraw_9 rfl ?_
    refine tt_get C hok_15 jk_11 3 (by decide) jw_f82a97e333 (t := (2, 1, 0)) hk0 (by decide) rfl rfl dX10_withdraw_10 (fun v_23 hv_23 hf_24 => ?_)
    obtain ⟨a_25, rfl, ka_25⟩ := tt_vr hv_23
    refine tt_get C hok_15 jk_2 13 (by decide) jw_68e650e198 (t := (2, 8, 0)) ka_25 (by decide) rfl rfl dX10_withdraw_13 (fun v_26 hv_26 hf_27 => ?_)
    obtain ⟨a_28, rfl, ka_28⟩ := tt_vr hv_26
    refine jj_iload_n C dX10_withdraw_16 rfl ?_
    refine tt_aald C hok_15 (t := (2, 4, 0)) ka_28 (by decide) rfl rfl rfl (vp_in_iff.mpr ⟨by omega, by omega⟩) dX10_withdraw_17 (fun v_29 hv_29 => ?_)
    obtain ⟨a_30, rfl, ka_30⟩ := tt_vr hv_29
    refine tt_get C hok_15 jk_7 3 (by decide) jw_e3f21f06e1 (t := (1, (-9223372036854775808), 9223372036854775807)) ka_30 (by decide) rfl rfl dX10_withdraw_18 (fun v_31 hv_31 hf_32 => ?_)
    obtain ⟨y_33, rfl, -, -⟩ := tt_vj hv_31
    refine jj_lstore_n C dX10_withdraw_21 (by decide) rfl ?_
    refine jj_aload_n C dX10_withdraw_22 rfl ?_
    refine tt_getF C hok_15 jk_11 3 (by decide) jw_f82a97e333 (t := (2, 1, 0)) hk0 (by decide) rfl rfl hf_24 dX10_withdraw_23 ?_
    refine jj_iload_n C dX10_withdraw_26 rfl ?_
    obtain ⟨qc, gs, hqc⟩ := tt_recv (cx := []) hok_15 ka_25 (by decide) rfl
    refine tt_callV (rest := []) C (tc_X0_removeRequest_1 hl D cA ak a_25 p1 ka_25 (by omega) (by omega) hok_15) [] [] rfl rfl (by decide) (by decide) (by decide) qc hqc rfl rfl jw_4e9301adc5 jw_2b30a1cb9a jw_6f6660d855 jw_7d25d4fd32 jw_c84efe0986 jn_X0_removeRequest rfl (jj_le rfl) (jj_le rfl) (jj_le rfl) (jj_le rfl) (jj_le rfl) dX10_withdraw_27 rfl (fun _ _ _ hX => hX.elim) (fun rx pl_34 r O_37 => ?_)
    obtain ⟨rfl, hok_35, hr_36, hfa9, hR_39⟩ := O_37
    replace hf_24 := hr_36.at hk0 (by decide) (by decide) hf_24
    replace hf_27 := hr_36.at ka_25 (by decide) (by decide) hf_27
    replace hfr := hfr.transX hx_22 (hr_36.sub (by decide))
    replace hfa := hfa.transX hx_22 (hfa9.sub (by decide))
    obtain rfl := hR_39
    refine jj_lload_n C dX10_withdraw_30 rfl ?_
    exact jj_lret C ⟨[], pl_34, rfl, K_21, hx_22, rfl, hok_35, hfr, hfa, ⟨y_33, (by first | omega | exact tt_lo _ | exact tt_hi _), (by first | omega | exact tt_lo _ | exact tt_hi _), rfl⟩⟩ dX10_withdraw_31 (jj_le rfl) (jj_le rfl)

set_option maxHeartbeats 4000000 in
set_option maxRecDepth 100000 in
theorem tc_X10_parseFund_1 {l : Launch} (hl : l.stackTraces = false) (D : va_G) (cA : Nat → ClassId) (ak : (Nat → Nat) × (Nat → Nat)) {Kd : Nat → Nat} (h0 : Nat) (hk0 : Kd h0 = 15) {pl0 : va_W} (hok : tt_ok tt_tk cA Kd pl0) : jj_M l D cA ak yX10_parseFund (.code yX10_parseFund cX10_parseFund 3 (some .int)) 8 168 1 3 ([] ++ pl0) [.ref h0] (tt_O (fun rx pl1 r => ∃ K1 : Nat → Nat, tt_ex Kd K1 ∧ rx = [] ∧ tt_ok tt_tk cA K1 pl1 ∧ tt_fr Kd [(1, 0), (1, 1), (1, 2), (1, 3), (1, 4), (1, 5), (1, 6), (1, 7), (1, 8), (1, 9), (2, 0), (2, 1), (2, 2), (2, 3), (2, 4), (3, 0), (3, 1), (3, 2), (3, 3), (3, 4), (3, 5), (4, 0), (4, 1), (4, 2), (4, 3), (4, 4), (9, 1), (9, 2), (9, 3), (9, 4), (9, 5), (10, 1), (10, 2), (10, 3), (10, 4), (10, 5), (10, 6), (15, 1), (15, 2), (15, 8), (17, 2)] pl0 pl1 ∧ tt_fa Kd [5] pl0 pl1 ∧ ((r = some (.int (-1))) ∨ (∃ v : Int32, (0 : Int) ≤ v.toInt ∧ v.toInt ≤ 12 ∧ r = some (.int v))))) (tt_OX (fun _ _ _ => False)) := by
  refine jj_start hl (by decide) jw_1f123082b6 (jj_le rfl) ?_
  intro p e s m args below meth c A hargs hA C hex hmn
  have hfr := tt_fr.refl (K := Kd) (WS := [(1, 0), (1, 1), (1, 2), (1, 3), (1, 4), (1, 5), (1, 6), (1, 7), (1, 8), (1, 9), (2, 0), (2, 1), (2, 2), (2, 3), (2, 4), (3, 0), (3, 1), (3, 2), (3, 3), (3, 4), (3, 5), (4, 0), (4, 1), (4, 2), (4, 3), (4, 4), (9, 1), (9, 2), (9, 3), (9, 4), (9, 5), (10, 1), (10, 2), (10, 3), (10, 4), (10, 5), (10, 6), (15, 1), (15, 2), (15, 8), (17, 2)]) pl0
  have hfa := tt_fa.refl (K := Kd) (WA := [5]) pl0
  refine jj_aload_n C dX10_parseFund_0 rfl ?_
  refine tt_get C hok jk_11 0 (by decide) jw_4836d4133c (t := (2, 10, 0)) hk0 (by decide) rfl rfl dX10_parseFund_1 (fun v_1 hv_1 hf_2 => ?_)
  obtain ⟨a_3, rfl, ka_3⟩ := tt_vr hv_1
  obtain ⟨qc, gs, hqc⟩ := tt_recv (cx := []) hok ka_3 (by decide) rfl
  refine tt_callV (rest := []) C (tc_X9_takeBuffer_1 hl D cA ak a_3 ka_3 hok) [] [] rfl rfl (by decide) (by decide) (by decide) qc hqc rfl rfl jw_5efda3794a jw_30b807515b jw_13e4836c11 jw_a9e7b602dc jw_e4fa8c07c9 jn_X9_takeBuffer rfl (jj_le rfl) (jj_le rfl) (jj_le rfl) (jj_le rfl) (jj_le rfl) dX10_parseFund_4 rfl (fun _ _ _ hX => hX.elim) (fun rx pl_4 r O_7 => ?_)
  obtain ⟨rfl, hok_5, hr_6, hfa9, hR_9⟩ := O_7
  replace hf_2 := hr_6.at hk0 (by decide) (by decide) hf_2
  replace hfr := hfr.trans (hr_6.sub (by decide))
  replace hfa := hfa.trans (hfa9.sub (by decide))
  obtain rfl := hR_9
  refine jj_new (wt := []) C jk_4 jw_0cf788dab0 jw_a522655315 jw_9d546d0b6f jd_4 (jj_le rfl) (jj_le rfl) dX10_parseFund_7 (fun q_12 => ?_)
  refine tt_swp rfl ?_
  refine jj_dup C dX10_parseFund_10 rfl ?_
  refine jj_aload_n C dX10_parseFund_11 rfl ?_
  refine tt_getF C hok_5 jk_11 0 (by decide) jw_4836d4133c (t := (2, 10, 0)) hk0 (by decide) rfl rfl hf_2 dX10_parseFund_12 ?_
  refine jj_aload_n C dX10_parseFund_15 rfl ?_
  refine tt_get C hok_5 jk_11 4 (by decide) jw_a0e4d790fa (t := (2, 1, 0)) hk0 (by decide) rfl rfl dX10_parseFund_16 (fun v_13 hv_13 hf_14 => ?_)
  obtain ⟨a_15, rfl, ka_15⟩ := tt_vr hv_13
  refine tt_callI0 (rest := [.ref q_12]) C (ct_X3_init_1 hl D cA ak q_12 a_3 a_15) [0] [] rfl rfl (by decide) (by decide) (by decide) jw_d39ed87e8d jw_a345980fa4 jw_9d546d0b6f jw_815a5635de rfl jn_X3_init rfl (jj_le rfl) (jj_le rfl) (jj_le rfl) (jj_le rfl) (jj_le rfl) dX10_parseFund_19 rfl (fun w1 r hO => ?_)
  obtain ⟨rfl, rfl⟩ := hO
  refine tt_apd rfl ?_
  refine tl_prom (k := 17) [] rfl hok_5 (fun K1 hz _ => tt_Eo (fts := [(2, 10, 0), (2, 1, 0), (0, (-2147483648), 2147483647)]) rfl ⟨tt_rv (hz.kd ka_3 (by decide)), tt_rv (hz.kd ka_15 (by decide)), (tt_ia _), trivial⟩) (fun K_16 pl_17 hok_18 hx_20 kq_12 tr tr2 tl => ?_)
  replace hf_2 := tr _ _ _ hf_2
  replace hf_14 := tr _ _ _ hf_14
  replace hfr := hfr.arr tr
  replace hfa := hfa.all tl
  have hk0 := hx_20.kd hk0 (by decide)
  have ka_3 := hx_20.kd ka_3 (by decide)
  have ka_15 := hx_20.kd ka_15 (by decide)
  have hx_19 := hx_20
  have hf_21 := tr2 _ 0 _ _ rfl rfl
  have hf_22 := tr2 _ 1 _ _ rfl rfl
  have hf_23 := tr2 _ 2 _ _ rfl rfl
  refine jj_astore_n C dX10_parseFund_22 (by decide) rfl ?_
  refine jj_aload_n C dX10_parseFund_23 rfl ?_
  obtain ⟨qc, gs, hqc⟩ := tt_recv (cx := []) hok_18 kq_12 (by decide) rfl
  refine tt_callV (rest := []) C (tc_X3_readAll_1 hl D cA ak q_12 kq_12 hok_18) [] [] rfl rfl (by decide) (by decide) (by decide) qc hqc rfl rfl jw_3aa8a9688c jw_7a91a56686 jw_1f44e8e425 jw_9d546d0b6f jw_48ef172467 jn_X3_readAll rfl (jj_le rfl) (jj_le rfl) (jj_le rfl) (jj_le rfl) (jj_le rfl) dX10_parseFund_24 rfl (fun _ _ _ hX => hX.elim) (fun rx pl_24 r O_27 => ?_)
  obtain ⟨rfl, hok_25, hr_26, hfa9, hR_29⟩ := O_27
  replace hf_2 := hr_26.at hk0 (by decide) (by decide) hf_2
  replace hf_14 := hr_26.at hk0 (by decide) (by decide) hf_14
  replace hf_21 := hr_26.at kq_12 (by decide) (by decide) hf_21
  replace hf_22 := hr_26.at kq_12 (by decide) (by decide) hf_22
  replace hfr := hfr.transX hx_19 (hr_26.sub (by decide))
  replace hfa := hfa.transX hx_19 (hfa9.sub (by decide))
  rcases hR_29 with rfl | rfl
  · refine jj_if_neF (tgt := 51) C dX10_parseFund_27 (by decide) (by decide) ?_
    refine jj_aload_n C dX10_parseFund_30 rfl ?_
    refine jj_aload_n C dX10_parseFund_31 rfl ?_
    refine tt_get C hok_25 jk_4 2 (by decide) jw_14f27d9163 (t := (0, (-2147483648), 2147483647)) kq_12 (by decide) rfl rfl dX10_parseFund_32 (fun v_32 hv_32 hf_33 => ?_)
    obtain ⟨x_34, rfl, lx_34, ux_34⟩ := tt_vi hv_32
    refine rl_put C hok_25 jk_11 1 (by decide) jw_1eeb46a090 (t := (0, (-2147483648), 2147483647)) hk0 (by decide) rfl rfl rfl (tt_ia x_34) rfl rfl dX10_parseFund_35 (fun pl_35 hok_36 tr hn tl => ?_)
    replace hf_2 := tr _ _ _ (Or.inr (by decide)) hf_2
    replace hf_14 := tr _ _ _ (Or.inr (by decide)) hf_14
    replace hf_21 := tr _ _ _ (Or.inl (tt_ne kq_12 hk0 (by decide))) hf_21
    replace hf_22 := tr _ _ _ (Or.inl (tt_ne kq_12 hk0 (by decide))) hf_22
    replace hf_33 := tr _ _ _ (Or.inl (tt_ne kq_12 hk0 (by decide))) hf_33
    have hf_37 := hn
    replace hfr := hfr.putX hx_19 hk0 tr (by decide)
    replace hfa := hfa.all tl
    refine jj_aload_n C dX10_parseFund_38 rfl ?_
    refine jj_aload_n C dX10_parseFund_39 rfl ?_
    refine tt_getF C hok_36 jk_11 0 (by decide) jw_4836d4133c (t := (2, 10, 0)) hk0 (by decide) rfl rfl hf_2 dX10_parseFund_40 ?_
    refine tt_get C hok_36 jk_10 4 (by decide) jw_26ab74fd32 (t := (0, 0, 400)) ka_3 (by decide) rfl rfl dX10_parseFund_43 (fun v_38 hv_38 hf_39 => ?_)
    obtain ⟨x_40, rfl, lx_40, ux_40⟩ := tt_vi hv_38
    refine rl_put C hok_36 jk_11 2 (by decide) jw_e0c9868424 (t := (0, (-2147483648), 2147483647)) hk0 (by decide) rfl rfl rfl (tt_ia x_40) rfl rfl dX10_parseFund_46 (fun pl_41 hok_42 tr hn tl => ?_)
    replace hf_2 := tr _ _ _ (Or.inr (by decide)) hf_2
    replace hf_14 := tr _ _ _ (Or.inr (by decide)) hf_14
    replace hf_21 := tr _ _ _ (Or.inl (tt_ne kq_12 hk0 (by decide))) hf_21
    replace hf_22 := tr _ _ _ (Or.inl (tt_ne kq_12 hk0 (by decide))) hf_22
    replace hf_33 := tr _ _ _ (Or.inl (tt_ne kq_12 hk0 (by decide))) hf_33
    replace hf_37 := tr _ _ _ (Or.inr (by decide)) hf_37
    replace hf_39 := tr _ _ _ (Or.inl (tt_ne ka_3 hk0 (by decide))) hf_39
    have hf_43 := hn
    replace hfr := hfr.putX hx_19 hk0 tr (by decide)
    replace hfa := hfa.all tl
    refine jj_iconst (v := (-1)) C dX10_parseFund_49 (by decide) ?_
    exact jj_iret C ⟨[], pl_41, rfl, K_16, hx_19, rfl, hok_42, hfr, hfa, (Or.inl rfl)⟩ dX10_parseFund_50 (jj_le rfl) (jj_le rfl)
  · refine jj_if_neT (tgt := 51) C dX10_parseFund_27 (by decide) (by decide) ?_
    refine jj_aload_n C dX10_parseFund_51 rfl ?_
    refine jj_iconst (v := 0) C dX10_parseFund_52 (by decide) ?_
    refine rl_put C hok_25 jk_11 1 (by decide) jw_1eeb46a090 (t := (0, (-2147483648), 2147483647)) hk0 (by decide) rfl rfl rfl (tt_ia (0 : Int32)) rfl rfl dX10_parseFund_53 (fun pl_44 hok_45 tr hn tl => ?_)
    replace hf_2 := tr _ _ _ (Or.inr (by decide)) hf_2
    replace hf_14 := tr _ _ _ (Or.inr (by decide)) hf_14
    replace hf_21 := tr _ _ _ (Or.inl (tt_ne kq_12 hk0 (by decide))) hf_21
    replace hf_22 := tr _ _ _ (Or.inl (tt_ne kq_12 hk0 (by decide))) hf_22
    have hf_46 := hn
    replace hfr := hfr.putX hx_19 hk0 tr (by decide)
    replace hfa := hfa.all tl
    refine jj_aload_n C dX10_parseFund_56 rfl ?_
    refine jj_iconst (v := (-1)) C dX10_parseFund_57 (by decide) ?_
    refine rl_put C hok_45 jk_11 2 (by decide) jw_e0c9868424 (t := (0, (-2147483648), 2147483647)) hk0 (by decide) rfl rfl rfl (tt_ia ((-1) : Int32)) rfl rfl dX10_parseFund_58 (fun pl_47 hok_48 tr hn tl => ?_)
    replace hf_2 := tr _ _ _ (Or.inr (by decide)) hf_2
    replace hf_14 := tr _ _ _ (Or.inr (by decide)) hf_14
    replace hf_21 := tr _ _ _ (Or.inl (tt_ne kq_12 hk0 (by decide))) hf_21
    replace hf_22 := tr _ _ _ (Or.inl (tt_ne kq_12 hk0 (by decide))) hf_22
    replace hf_46 := tr _ _ _ (Or.inr (by decide)) hf_46
    have hf_49 := hn
    replace hfr := hfr.putX hx_19 hk0 tr (by decide)
    replace hfa := hfa.all tl
    refine jj_aload_n C dX10_parseFund_61 rfl ?_
    refine tt_getF C hok_48 jk_11 4 (by decide) jw_a0e4d790fa (t := (2, 1, 0)) hk0 (by decide) rfl rfl hf_14 dX10_parseFund_62 ?_
    refine tt_get C hok_48 jk_2 9 (by decide) jw_e1b9780688 (t := (0, 0, 12)) ka_15 (by decide) rfl rfl dX10_parseFund_65 (fun v_50 hv_50 hf_51 => ?_)
    obtain ⟨x_52, rfl, lx_52, ux_52⟩ := tt_vi hv_50
    refine jj_istore_n C dX10_parseFund_68 (by decide) rfl ?_
    refine jj_aload_n C dX10_parseFund_69 rfl ?_
    refine tt_get C hok_48 jk_11 5 (by decide) jw_34b8702fe2 (t := (2, 9, 0)) hk0 (by decide) rfl rfl dX10_parseFund_70 (fun v_53 hv_53 hf_54 => ?_)
    obtain ⟨a_55, rfl, ka_55⟩ := tt_vr hv_53
    refine jj_aload_n C dX10_parseFund_73 rfl ?_
    refine tt_getF C hok_48 jk_11 4 (by decide) jw_a0e4d790fa (t := (2, 1, 0)) hk0 (by decide) rfl rfl hf_14 dX10_parseFund_74 ?_
    obtain ⟨qc, gs, hqc⟩ := tt_recv (cx := []) hok_48 ka_55 (by decide) rfl
    refine tt_callV (rest := []) C (tc_X1_holdDealing_1 hl D cA ak a_55 a_15 ka_55 ka_15 hok_48) [] [] rfl rfl (by decide) (by decide) (by decide) qc hqc rfl rfl jw_3c4052a5f5 jw_9492be7750 jw_6c693009b5 jw_944cf9c3ab jw_cb08e29005 jn_X1_holdDealing rfl (jj_le rfl) (jj_le rfl) (jj_le rfl) (jj_le rfl) (jj_le rfl) dX10_parseFund_77 rfl (fun _ _ _ hX => hX.elim) (fun rx pl_56 r O_59 => ?_)
    obtain ⟨rfl, hok_57, hr_58, hfa9, hR_61⟩ := O_59
    replace hf_2 := hr_58.at hk0 (by decide) (by decide) hf_2
    replace hf_14 := hr_58.at hk0 (by decide) (by decide) hf_14
    replace hf_21 := hr_58.at kq_12 (by decide) (by decide) hf_21
    replace hf_22 := hr_58.at kq_12 (by decide) (by decide) hf_22
    replace hf_46 := hr_58.at hk0 (by decide) (by decide) hf_46
    replace hf_49 := hr_58.at hk0 (by decide) (by decide) hf_49
    replace hf_54 := hr_58.at hk0 (by decide) (by decide) hf_54
    replace hfr := hfr.transX hx_19 (hr_58.sub (by decide))
    replace hfa := hfa.transX hx_19 (hfa9.sub (by decide))
    obtain ⟨x_64, lx_64, ux_64, rfl⟩ := hR_61
    refine jj_pop C dX10_parseFund_80 rfl ?_
    refine jj_aload_n C dX10_parseFund_81 rfl ?_
    refine tt_get C hok_57 jk_11 3 (by decide) jw_f82a97e333 (t := (2, 1, 0)) hk0 (by decide) rfl rfl dX10_parseFund_82 (fun v_65 hv_65 hf_66 => ?_)
    obtain ⟨a_67, rfl, ka_67⟩ := tt_vr hv_65
    refine jj_aload_n C dX10_parseFund_85 rfl ?_
    refine tt_getF C hok_57 jk_11 4 (by decide) jw_a0e4d790fa (t := (2, 1, 0)) hk0 (by decide) rfl rfl hf_14 dX10_parseFund_86 ?_
    obtain ⟨qc, gs, hqc⟩ := tt_recv (cx := []) hok_57 ka_67 (by decide) rfl
    refine tt_callV (rest := []) C (tc_X0_copyFrom_1 hl D cA ak a_67 a_15 ka_67 ka_15 hok_57) [] [] rfl rfl (by decide) (by decide) (by decide) qc hqc rfl rfl jw_4d0cb05860 jw_8aa1bdb2cc jw_ac98d74d03 jw_7d25d4fd32 jw_58241735d3 jn_X0_copyFrom rfl (jj_le rfl) (jj_le rfl) (jj_le rfl) (jj_le rfl) (jj_le rfl) dX10_parseFund_89 rfl (fun _ _ _ hX => hX.elim) (fun rx pl_68 r O_71 => ?_)
    obtain ⟨rfl, hok_69, hr_70, hfa9, hR_73⟩ := O_71
    replace hf_2 := hr_70.at hk0 (by decide) (by decide) hf_2
    replace hf_14 := hr_70.at hk0 (by decide) (by decide) hf_14
    replace hf_21 := hr_70.at kq_12 (by decide) (by decide) hf_21
    replace hf_22 := hr_70.at kq_12 (by decide) (by decide) hf_22
    replace hf_46 := hr_70.at hk0 (by decide) (by decide) hf_46
    replace hf_49 := hr_70.at hk0 (by decide) (by decide) hf_49
    replace hf_54 := hr_70.at hk0 (by decide) (by decide) hf_54
    replace hf_66 := hr_70.at hk0 (by decide) (by decide) hf_66
    replace hfr := hfr.transX hx_19 (hr_70.sub (by decide))
    replace hfa := hfa.transX hx_19 (hfa9.sub (by decide))
    obtain rfl := hR_73
    refine jj_aload_n C dX10_parseFund_92 rfl ?_
    refine jj_iconst (v := 0) C dX10_parseFund_93 (by decide) ?_
    refine rl_put C hok_69 jk_11 8 (by decide) jw_427985f7c9 (t := (0, 0, 10)) hk0 (by decide) rfl rfl rfl (tt_iv (by decide) (by decide)) rfl rfl dX10_parseFund_94 (fun pl_76 hok_77 tr hn tl => ?_)
    replace hf_2 := tr _ _ _ (Or.inr (by decide)) hf_2
    replace hf_14 := tr _ _ _ (Or.inr (by decide)) hf_14
    replace hf_21 := tr _ _ _ (Or.inl (tt_ne kq_12 hk0 (by decide))) hf_21
    replace hf_22 := tr _ _ _ (Or.inl (tt_ne kq_12 hk0 (by decide))) hf_22
    replace hf_46 := tr _ _ _ (Or.inr (by decide)) hf_46
    replace hf_49 := tr _ _ _ (Or.inr (by decide)) hf_49
    replace hf_54 := tr _ _ _ (Or.inr (by decide)) hf_54
    replace hf_66 := tr _ _ _ (Or.inr (by decide)) hf_66
    have hf_78 := hn
    replace hfr := hfr.putX hx_19 hk0 tr (by decide)
    replace hfa := hfa.all tl
    refine jj_iload_n C dX10_parseFund_97 rfl ?_
    exact jj_iret C ⟨[], pl_76, rfl, K_16, hx_19, rfl, hok_77, hfr, hfa, (Or.inr ⟨x_52, (by first | omega | exact tt_lo _ | exact tt_hi _), (by first | omega | exact tt_lo _ | exact tt_hi _), rfl⟩)⟩ dX10_parseFund_98 (jj_le rfl) (jj_le rfl)

set_option maxHeartbeats 4000000 in
set_option maxRecDepth 100000 in
theorem tc_X10_deal_1 {l : Launch} (hl : l.stackTraces = false) (D : va_G) (cA : Nat → ClassId) (ak : (Nat → Nat) × (Nat → Nat)) {Kd : Nat → Nat} (h0 : Nat) (hk0 : Kd h0 = 15) {pl0 : va_W} (hok : tt_ok tt_tk cA Kd pl0) : jj_M l D cA ak yX10_deal (.code yX10_deal cX10_deal 1 (some .int)) 5 135 63 408 ([] ++ pl0) [.ref h0] (tt_O (fun rx pl1 r => ∃ K1 : Nat → Nat, tt_ex Kd K1 ∧ rx = [] ∧ tt_ok tt_tk cA K1 pl1 ∧ tt_fr Kd [(1, 0), (1, 1), (1, 2), (1, 3), (1, 4), (1, 5), (1, 6), (1, 7), (1, 8), (1, 9), (2, 0), (2, 1), (2, 2), (2, 3), (2, 4), (3, 0), (3, 1), (3, 2), (3, 3), (3, 4), (3, 5), (4, 0), (4, 1), (4, 2), (4, 3), (4, 4), (9, 1), (9, 2), (9, 3), (9, 4), (9, 5), (15, 7), (15, 8)] pl0 pl1 ∧ tt_fa Kd [5] pl0 pl1 ∧ ((∃ v : Int32, (-12 : Int) ≤ v.toInt ∧ v.toInt ≤ 12 ∧ r = some (.int v))))) (tt_OX (fun _ _ _ => False)) := by
  refine jj_start hl (by decide) jw_d55abbfc57 (jj_le rfl) ?_
  intro p e s m args below meth c A hargs hA C hex hmn
  have hfr := tt_fr.refl (K := Kd) (WS := [(1, 0), (1, 1), (1, 2), (1, 3), (1, 4), (1, 5), (1, 6), (1, 7), (1, 8), (1, 9), (2, 0), (2, 1), (2, 2), (2, 3), (2, 4), (3, 0), (3, 1), (3, 2), (3, 3), (3, 4), (3, 5), (4, 0), (4, 1), (4, 2), (4, 3), (4, 4), (9, 1), (9, 2), (9, 3), (9, 4), (9, 5), (15, 7), (15, 8)]) pl0
  have hfa := tt_fa.refl (K := Kd) (WA := [5]) pl0
  refine jj_aload_n C dX10_deal_0 rfl ?_
  obtain ⟨qc, gs, hqc⟩ := tt_recv (cx := []) hok hk0 (by decide) rfl
  refine tt_callV (rest := []) C (tc_X10_remember_1 hl D cA ak h0 hk0 hok) [] [] rfl rfl (by decide) (by decide) (by decide) qc hqc rfl rfl jw_0283246098 jw_467be33587 jw_328a25009e jw_6f6d707074 jw_eabf0b0f0c jn_X10_remember rfl (jj_le rfl) (jj_le rfl) (jj_le rfl) (jj_le rfl) (jj_le rfl) dX10_deal_1 rfl (fun _ _ _ hX => hX.elim) (fun rx pl_1 r O_4 => ?_)
  obtain ⟨K_8, hx_7, rfl, hok_2, hr_3, hfa9, hR_6⟩ := O_4
  replace hfr := hfr.trans (hr_3.sub (by decide))
  replace hfa := hfa.trans (hfa9.sub (by decide))
  have hk0 := hx_7.kd hk0 (by decide)
  have hx_9 := hx_7
  obtain rfl := hR_6
  refine jj_aload_n C dX10_deal_4 rfl ?_
  refine tt_get C hok_2 jk_11 5 (by decide) jw_34b8702fe2 (t := (2, 9, 0)) hk0 (by decide) rfl rfl dX10_deal_5 (fun v_10 hv_10 hf_11 => ?_)
  obtain ⟨a_12, rfl, ka_12⟩ := tt_vr hv_10
  refine jj_aload_n C dX10_deal_8 rfl ?_
  refine tt_get C hok_2 jk_11 3 (by decide) jw_f82a97e333 (t := (2, 1, 0)) hk0 (by decide) rfl rfl dX10_deal_9 (fun v_13 hv_13 hf_14 => ?_)
  obtain ⟨a_15, rfl, ka_15⟩ := tt_vr hv_13
  obtain ⟨qc, gs, hqc⟩ := tt_recv (cx := []) hok_2 ka_12 (by decide) rfl
  refine tt_callV (rest := []) C (tc_X1_holdDealing_1 hl D cA ak a_12 a_15 ka_12 ka_15 hok_2) [] [] rfl rfl (by decide) (by decide) (by decide) qc hqc rfl rfl jw_3c4052a5f5 jw_9492be7750 jw_6c693009b5 jw_944cf9c3ab jw_cb08e29005 jn_X1_holdDealing rfl (jj_le rfl) (jj_le rfl) (jj_le rfl) (jj_le rfl) (jj_le rfl) dX10_deal_12 rfl (fun _ _ _ hX => hX.elim) (fun rx pl_16 r O_19 => ?_)
  obtain ⟨rfl, hok_17, hr_18, hfa9, hR_21⟩ := O_19
  replace hf_11 := hr_18.at hk0 (by decide) (by decide) hf_11
  replace hf_14 := hr_18.at hk0 (by decide) (by decide) hf_14
  replace hfr := hfr.transX hx_9 (hr_18.sub (by decide))
  replace hfa := hfa.transX hx_9 (hfa9.sub (by decide))
  obtain ⟨x_24, lx_24, ux_24, rfl⟩ := hR_21
  exact jj_iret C ⟨[], pl_16, rfl, K_8, hx_9, rfl, hok_17, hfr, hfa, ⟨x_24, (by first | omega | exact tt_lo _ | exact tt_hi _), (by first | omega | exact tt_lo _ | exact tt_hi _), rfl⟩⟩ dX10_deal_15 (jj_le rfl) (jj_le rfl)

