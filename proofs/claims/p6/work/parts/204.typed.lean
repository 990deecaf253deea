set_option maxHeartbeats 4000000 in
set_option maxRecDepth 100000 in
theorem tc_X0_addLot_1 {l : Launch} (hl : l.stackTraces = false) (D : va_G) (cA : Nat → ClassId) (ak : (Nat → Nat) × (Nat → Nat)) {Kd : Nat → Nat} (h0 : Nat) (p1 : Int32) (p2 : Int32) (p3 : Int64) (hk0 : Kd h0 = 1) {pl0 : va_W} (hok : tt_ok tt_tk cA Kd pl0) : jj_M l D cA ak yX0_addLot (.code yX0_addLot cX0_addLot 11 (some (.object "SeriesFund$Lot"))) 1 21 0 0 ([] ++ pl0) [.ref h0, .int p1, .int p2, .long p3, .long 1000000, .long 0] (tt_O (fun rx pl1 r => rx = [] ∧ tt_ok tt_tk cA Kd pl1 ∧ tt_fr Kd [(1, 8), (3, 0), (3, 1), (3, 2), (3, 3), (3, 4), (3, 5)] pl0 pl1 ∧ tt_fa Kd [] pl0 pl1 ∧ ((∃ v : Nat, Kd v = 3 ∧ r = some (.ref v))))) (tt_OX (fun _ _ _ => False)) := by
  refine jj_start hl (by decide) jw_a7bf4567f9 (jj_le rfl) ?_
  intro p e s m args below meth c A hargs hA C hex hmn
  have hfr := tt_fr.refl (K := Kd) (WS := [(1, 8), (3, 0), (3, 1), (3, 2), (3, 3), (3, 4), (3, 5)]) pl0
  have hfa := tt_fa.refl (K := Kd) (WA := []) pl0
  have lp1 := tt_lo p1
  have up1 := tt_hi p1
  have lp2 := tt_lo p2
  have up2 := tt_hi p2
  refine jj_aload_n C dX0_addLot_0 rfl ?_
  refine tt_get C hok jk_2 8 (by decide) jw_9d0ccd4490 (t := (0, 0, 40)) hk0 (by decide) rfl rfl dX0_addLot_1 (fun v_1 hv_1 hf_2 => ?_)
  obtain ⟨x_3, rfl, lx_3, ux_3⟩ := tt_vi hv_1
  refine jj_bipush (v := 39) C dX0_addLot_4 (by decide) ?_
  refine tt_call0S (rest := []) C (ct_J9_min_7cf53_2 hl D cA ak x_3) jw_91b79dc18e jw_bd781c2022 jw_a731c8553d jw_7adaf59315 jn_J9_min_7cf53 rfl (jj_le rfl) (jj_le rfl) (jj_le rfl) (jj_le rfl) (jj_le rfl) dX0_addLot_6 rfl (fun w1 r O_4 => ?_)
  rcases O_4 with ⟨c_5, -, rfl⟩ | ⟨c_6, -, rfl⟩
  · have z_c_5 := jc_lt (a := (39)) (b := (x_3).toInt) c_5 (by decide) rfl
    refine jj_istore C dX0_addLot_9 (by decide) rfl ?_
    refine jj_aload_n C dX0_addLot_11 rfl ?_
    refine tt_get C hok jk_2 12 (by decide) jw_5f730213e9 (t := (2, 7, 0)) hk0 (by decide) rfl rfl dX0_addLot_12 (fun v_7 hv_7 hf_8 => ?_)
    obtain ⟨a_9, rfl, ka_9⟩ := tt_vr hv_7
    refine jj_iload C dX0_addLot_15 rfl ?_
    refine tt_aald C hok (t := (2, 3, 0)) ka_9 (by decide) rfl rfl rfl (vp_in_iff.mpr (by decide)) dX0_addLot_17 (fun v_10 hv_10 => ?_)
    obtain ⟨a_11, rfl, ka_11⟩ := tt_vr hv_10
    refine jj_astore C dX0_addLot_18 (by decide) rfl ?_
    refine jj_aload C dX0_addLot_20 rfl ?_
    refine jj_iload_n C dX0_addLot_22 rfl ?_
    refine rl_put C hok jk_5 0 (by decide) jw_89374484be (t := (0, (-2147483648), 2147483647)) ka_11 (by decide) rfl rfl rfl (tt_ia p1) rfl rfl dX0_addLot_23 (fun pl_12 hok_13 tr hn tl => ?_)
    replace hf_2 := tr _ _ _ (Or.inl (tt_ne hk0 ka_11 (by decide))) hf_2
    replace hf_8 := tr _ _ _ (Or.inl (tt_ne hk0 ka_11 (by decide))) hf_8
    have hf_14 := hn
    replace hfr := hfr.put ka_11 tr (by decide)
    replace hfa := hfa.all tl
    refine jj_aload C dX0_addLot_26 rfl ?_
    refine jj_iload_n C dX0_addLot_28 rfl ?_
    refine rl_put C hok_13 jk_5 1 (by decide) jw_53dba63b8f (t := (0, (-2147483648), 2147483647)) ka_11 (by decide) rfl rfl rfl (tt_ia p2) rfl rfl dX0_addLot_29 (fun pl_15 hok_16 tr hn tl => ?_)
    replace hf_2 := tr _ _ _ (Or.inl (tt_ne hk0 ka_11 (by decide))) hf_2
    replace hf_8 := tr _ _ _ (Or.inl (tt_ne hk0 ka_11 (by decide))) hf_8
    replace hf_14 := tr _ _ _ (Or.inr (by decide)) hf_14
    have hf_17 := hn
    replace hfr := hfr.put ka_11 tr (by decide)
    replace hfa := hfa.all tl
    refine jj_aload C dX0_addLot_32 rfl ?_
    refine jj_lload_n C dX0_addLot_34 rfl ?_
    refine rl_put C hok_16 jk_5 3 (by decide) jw_1f6afd9b6f (t := (1, (-9223372036854775808), 9223372036854775807)) ka_11 (by decide) rfl rfl rfl (tt_ja p3) rfl rfl dX0_addLot_35 (fun pl_18 hok_19 tr hn tl => ?_)
    replace hf_2 := tr _ _ _ (Or.inl (tt_ne hk0 ka_11 (by decide))) hf_2
    replace hf_8 := tr _ _ _ (Or.inl (tt_ne hk0 ka_11 (by decide))) hf_8
    replace hf_14 := tr _ _ _ (Or.inr (by decide)) hf_14
    replace hf_17 := tr _ _ _ (Or.inr (by decide)) hf_17
    have hf_20 := hn
    replace hfr := hfr.put ka_11 tr (by decide)
    replace hfa := hfa.all tl
    refine jj_aload C dX0_addLot_38 rfl ?_
    refine jj_lload C dX0_addLot_40 rfl ?_
    refine rl_put C hok_19 jk_5 4 (by decide) jw_8e377b7e50 (t := (1, (-9223372036854775808), 9223372036854775807)) ka_11 (by decide) rfl rfl rfl (tt_ja (1000000 : Int64)) rfl rfl dX0_addLot_42 (fun pl_21 hok_22 tr hn tl => ?_)
    replace hf_2 := tr _ _ _ (Or.inl (tt_ne hk0 ka_11 (by decide))) hf_2
    replace hf_8 := tr _ _ _ (Or.inl (tt_ne hk0 ka_11 (by decide))) hf_8
    replace hf_14 := tr _ _ _ (Or.inr (by decide)) hf_14
    replace hf_17 := tr _ _ _ (Or.inr (by decide)) hf_17
    replace hf_20 := tr _ _ _ (Or.inr (by decide)) hf_20
    have hf_23 := hn
    replace hfr := hfr.put ka_11 tr (by decide)
    replace hfa := hfa.all tl
    refine jj_aload C dX0_addLot_45 rfl ?_
    refine jj_lload C dX0_addLot_47 rfl ?_
    refine rl_put C hok_22 jk_5 5 (by decide) jw_b0cee064c2 (t := (1, (-9223372036854775808), 9223372036854775807)) ka_11 (by decide) rfl rfl rfl (tt_ja (0 : Int64)) rfl rfl dX0_addLot_49 (fun pl_24 hok_25 tr hn tl => ?_)
    replace hf_2 := tr _ _ _ (Or.inl (tt_ne hk0 ka_11 (by decide))) hf_2
    replace hf_8 := tr _ _ _ (Or.inl (tt_ne hk0 ka_11 (by decide))) hf_8
    replace hf_14 := tr _ _ _ (Or.inr (by decide)) hf_14
    replace hf_17 := tr _ _ _ (Or.inr (by decide)) hf_17
    replace hf_20 := tr _ _ _ (Or.inr (by decide)) hf_20
    replace hf_23 := tr _ _ _ (Or.inr (by decide)) hf_23
    have hf_26 := hn
    replace hfr := hfr.put ka_11 tr (by decide)
    replace hfa := hfa.all tl
    refine jj_aload C dX0_addLot_52 rfl ?_
    refine jj_aload_n C dX0_addLot_54 rfl ?_
    refine tt_get C hok_25 jk_2 5 (by decide) jw_cd8f4320e7 (t := (0, (-2147483648), 2147483647)) hk0 (by decide) rfl rfl dX0_addLot_55 (fun v_27 hv_27 hf_28 => ?_)
    obtain ⟨x_29, rfl, lx_29, ux_29⟩ := tt_vi hv_27
    refine rl_put C hok_25 jk_5 2 (by decide) jw_f798be12c7 (t := (0, (-2147483648), 2147483647)) ka_11 (by decide) rfl rfl rfl (tt_ia x_29) rfl rfl dX0_addLot_58 (fun pl_30 hok_31 tr hn tl => ?_)
    replace hf_2 := tr _ _ _ (Or.inl (tt_ne hk0 ka_11 (by decide))) hf_2
    replace hf_8 := tr _ _ _ (Or.inl (tt_ne hk0 ka_11 (by decide))) hf_8
    replace hf_14 := tr _ _ _ (Or.inr (by decide)) hf_14
    replace hf_17 := tr _ _ _ (Or.inr (by decide)) hf_17
    replace hf_20 := tr _ _ _ (Or.inr (by decide)) hf_20
    replace hf_23 := tr _ _ _ (Or.inr (by decide)) hf_23
    replace hf_26 := tr _ _ _ (Or.inr (by decide)) hf_26
    replace hf_28 := tr _ _ _ (Or.inl (tt_ne hk0 ka_11 (by decide))) hf_28
    have hf_32 := hn
    replace hfr := hfr.put ka_11 tr (by decide)
    replace hfa := hfa.all tl
    refine jj_aload_n C dX0_addLot_61 rfl ?_
    refine jj_iload C dX0_addLot_62 rfl ?_
    refine jj_iconst (v := 1) C dX0_addLot_64 (by decide) ?_
    refine jj_iadd (v := 40) C dX0_addLot_65 (by decide) ?_
    refine rl_put C hok_31 jk_2 8 (by decide) jw_9d0ccd4490 (t := (0, 0, 40)) hk0 (by decide) rfl rfl rfl (tt_iv (by decide) (by decide)) rfl rfl dX0_addLot_66 (fun pl_33 hok_34 tr hn tl => ?_)
    replace hf_8 := tr _ _ _ (Or.inr (by decide)) hf_8
    replace hf_14 := tr _ _ _ (Or.inl (tt_ne ka_11 hk0 (by decide))) hf_14
    replace hf_17 := tr _ _ _ (Or.inl (tt_ne ka_11 hk0 (by decide))) hf_17
    replace hf_20 := tr _ _ _ (Or.inl (tt_ne ka_11 hk0 (by decide))) hf_20
    replace hf_23 := tr _ _ _ (Or.inl (tt_ne ka_11 hk0 (by decide))) hf_23
    replace hf_26 := tr _ _ _ (Or.inl (tt_ne ka_11 hk0 (by decide))) hf_26
    replace hf_28 := tr _ _ _ (Or.inr (by decide)) hf_28
    replace hf_32 := tr _ _ _ (Or.inl (tt_ne ka_11 hk0 (by decide))) hf_32
    have hf_35 := hn
    replace hfr := hfr.put hk0 tr (by decide)
    replace hfa := hfa.all tl
    refine jj_aload C dX0_addLot_69 rfl ?_
    exact jj_aret C (Or.inl ⟨_, rfl⟩) ⟨[], pl_33, rfl, rfl, hok_34, hfr, hfa, ⟨a_11, ka_11, rfl⟩⟩ dX0_addLot_71 (jj_le rfl) (jj_le rfl)
  · have z_c_6 := jc_nlt (a := (39)) (b := (x_3).toInt) c_6 (by decide) rfl
    refine jj_istore C dX0_addLot_9 (by decide) rfl ?_
    refine jj_aload_n C dX0_addLot_11 rfl ?_
    refine tt_get C hok jk_2 12 (by decide) jw_5f730213e9 (t := (2, 7, 0)) hk0 (by decide) rfl rfl dX0_addLot_12 (fun v_36 hv_36 hf_37 => ?_)
    obtain ⟨a_38, rfl, ka_38⟩ := tt_vr hv_36
    refine jj_iload C dX0_addLot_15 rfl ?_
    refine tt_aald C hok (t := (2, 3, 0)) ka_38 (by decide) rfl rfl rfl (vp_in_iff.mpr ⟨by omega, by omega⟩) dX0_addLot_17 (fun v_39 hv_39 => ?_)
    obtain ⟨a_40, rfl, ka_40⟩ := tt_vr hv_39
    refine jj_astore C dX0_addLot_18 (by decide) rfl ?_
    refine jj_aload C dX0_addLot_20 rfl ?_
    refine jj_iload_n C dX0_addLot_22 rfl ?_
    refine rl_put C hok jk_5 0 (by decide) jw_89374484be (t := (0, (-2147483648), 2147483647)) ka_40 (by decide) rfl rfl rfl (tt_ia p1) rfl rfl dX0_addLot_23 (fun pl_41 hok_42 tr hn tl => ?_)
    replace hf_2 := tr _ _ _ (Or.inl (tt_ne hk0 ka_40 (by decide))) hf_2
    replace hf_37 := tr _ _ _ (Or.inl (tt_ne hk0 ka_40 (by decide))) hf_37
    have hf_43 := hn
    replace hfr := hfr.put ka_40 tr (by decide)
    replace hfa := hfa.all tl
    refine jj_aload C dX0_addLot_26 rfl ?_
    refine jj_iload_n C dX0_addLot_28 rfl ?_
    refine rl_put C hok_42 jk_5 1 (by decide) jw_53dba63b8f (t := (0, (-2147483648), 2147483647)) ka_40 (by decide) rfl rfl rfl (tt_ia p2) rfl rfl dX0_addLot_29 (fun pl_44 hok_45 tr hn tl => ?_)
    replace hf_2 := tr _ _ _ (Or.inl (tt_ne hk0 ka_40 (by decide))) hf_2
    replace hf_37 := tr _ _ _ (Or.inl (tt_ne hk0 ka_40 (by decide))) hf_37
    replace hf_43 := tr _ _ _ (Or.inr (by decide)) hf_43
    have hf_46 := hn
    replace hfr := hfr.put ka_40 tr (by decide)
    replace hfa := hfa.all tl
    refine jj_aload C dX0_addLot_32 rfl ?_
    refine jj_lload_n C dX0_addLot_34 rfl ?_
    refine rl_put C hok_45 jk_5 3 (by decide) jw_1f6afd9b6f (t := (1, (-9223372036854775808), 9223372036854775807)) ka_40 (by decide) rfl rfl rfl (tt_ja p3) rfl rfl dX0_addLot_35 (fun pl_47 hok_48 tr hn tl => ?_)
    replace hf_2 := tr _ _ _ (Or.inl (tt_ne hk0 ka_40 (by decide))) hf_2
    replace hf_37 := tr _ _ _ (Or.inl (tt_ne hk0 ka_40 (by decide))) hf_37
    replace hf_43 := tr _ _ _ (Or.inr (by decide)) hf_43
    replace hf_46 := tr _ _ _ (Or.inr (by decide)) hf_46
    have hf_49 := hn
    replace hfr := hfr.put ka_40 tr (by decide)
    replace hfa := hfa.all tl
    refine jj_aload C dX0_addLot_38 rfl ?_
    refine jj_lload C dX0_addLot_40 rfl ?_
    refine rl_put C hok_48 jk_5 4 (by decide) jw_8e377b7e50 (t := (1, (-9223372036854775808), 9223372036854775807)) ka_40 (by decide) rfl rfl rfl (tt_ja (1000000 : Int64)) rfl rfl dX0_addLot_42 (fun pl_50 hok_51 tr hn tl => ?_)
    replace hf_2 := tr _ _ _ (Or.inl (tt_ne hk0 ka_40 (by decide))) hf_2
    replace hf_37 := tr _ _ _ (Or.inl (tt_ne hk0 ka_40 (by decide))) hf_37
    replace hf_43 := tr _ _ _ (Or.inr (by decide)) hf_43
    replace hf_46 := tr _ _ _ (Or.inr (by decide)) hf_46
    replace hf_49 := tr _ _ _ (Or.inr (by decide)) hf_49
    have hf_52 := hn
    replace hfr := hfr.put ka_40 tr (by decide)
    replace hfa := hfa.all tl
    refine jj_aload C dX0_addLot_45 rfl ?_
    refine jj_lload C dX0_addLot_47 rfl ?_
    refine rl_put C hok_51 jk_5 5 (by decide) jw_b0cee064c2 (t := (1, (-9223372036854775808), 9223372036854775807)) ka_40 (by decide) rfl rfl rfl (tt_ja (0 : Int64)) rfl rfl dX0_addLot_49 (fun pl_53 hok_54 tr hn tl => ?_)
    replace hf_2 := tr _ _ _ (Or.inl (tt_ne hk0 ka_40 (by decide))) hf_2
    replace hf_37 := tr _ _ _ (Or.inl (tt_ne hk0 ka_40 (by decide))) hf_37
    replace hf_43 := tr _ _ _ (Or.inr (by decide)) hf_43
    replace hf_46 := tr _ _ _ (Or.inr (by decide)) hf_46
    replace hf_49 := tr _ _ _ (Or.inr (by decide)) hf_49
    replace hf_52 := tr _ _ _ (Or.inr (by decide)) hf_52
    have hf_55 := hn
    replace hfr := hfr.put ka_40 tr (by decide)
    replace hfa := hfa.all tl
    refine jj_aload C dX0_addLot_52 rfl ?_
    refine jj_aload_n C dX0_addLot_54 rfl ?_
    refine tt_get C hok_54 jk_2 5 (by decide) jw_cd8f4320e7 (t := (0, (-2147483648), 2147483647)) hk0 (by decide) rfl rfl dX0_addLot_55 (fun v_56 hv_56 hf_57 => ?_)
    obtain ⟨x_58, rfl, lx_58, ux_58⟩ := tt_vi hv_56
    refine rl_put C hok_54 jk_5 2 (by decide) jw_f798be12c7 (t := (0, (-2147483648), 2147483647)) ka_40 (by decide) rfl rfl rfl (tt_ia x_58) rfl rfl dX0_addLot_58 (fun pl_59 hok_60 tr hn tl => ?_)
    replace hf_2 := tr _ _ _ (Or.inl (tt_ne hk0 ka_40 (by decide))) hf_2
    replace hf_37 := tr _ _ _ (Or.inl (tt_ne hk0 ka_40 (by decide))) hf_37
    replace hf_43 := tr _ _ _ (Or.inr (by decide)) hf_43
    replace hf_46 := tr _ _ _ (Or.inr (by decide)) hf_46
    replace hf_49 := tr _ _ _ (Or.inr (by decide)) hf_49
    replace hf_52 := tr _ _ _ (Or.inr (by decide)) hf_52
    replace hf_55 := tr _ _ _ (Or.inr (by decide)) hf_55
    replace hf_57 := tr _ _ _ (Or.inl (tt_ne hk0 ka_40 (by decide))) hf_57
    have hf_61 := hn
    replace hfr := hfr.put ka_40 tr (by decide)
    replace hfa := hfa.all tl
    refine jj_aload_n C dX0_addLot_61 rfl ?_
    refine jj_iload C dX0_addLot_62 rfl ?_
    refine jj_iconst (v := 1) C dX0_addLot_64 (by decide) ?_
    obtain ⟨x_62, ex_62, vx_62⟩ := tt_iadd (x := x_3) (y := (1 : Int32)) (a := x_3.toInt) rfl (b := 1) (by decide) (by omega) (by omega)
    refine jj_iadd (v := x_62) C dX0_addLot_65 ex_62 ?_
    refine rl_put C hok_60 jk_2 8 (by decide) jw_9d0ccd4490 (t := (0, 0, 40)) hk0 (by decide) rfl rfl rfl (tt_iv (by omega) (by omega)) rfl rfl dX0_addLot_66 (fun pl_63 hok_64 tr hn tl => ?_)
    replace hf_37 := tr _ _ _ (Or.inr (by decide)) hf_37
    replace hf_43 := tr _ _ _ (Or.inl (tt_ne ka_40 hk0 (by decide))) hf_43
    replace hf_46 := tr _ _ _ (Or.inl (tt_ne ka_40 hk0 (by decide))) hf_46
    replace hf_49 := tr _ _ _ (Or.inl (tt_ne ka_40 hk0 (by decide))) hf_49
    replace hf_52 := tr _ _ _ (Or.inl (tt_ne ka_40 hk0 (by decide))) hf_52
    replace hf_55 := tr _ _ _ (Or.inl (tt_ne ka_40 hk0 (by decide))) hf_55
    replace hf_57 := tr _ _ _ (Or.inr (by decide)) hf_57
    replace hf_61 := tr _ _ _ (Or.inl (tt_ne ka_40 hk0 (by decide))) hf_61
    have hf_65 := hn
    replace hfr := hfr.put hk0 tr (by decide)
    replace hfa := hfa.all tl
    refine jj_aload C dX0_addLot_69 rfl ?_
    exact jj_aret C (Or.inl ⟨_, rfl⟩) ⟨[], pl_63, rfl, rfl, hok_64, hfr, hfa, ⟨a_40, ka_40, rfl⟩⟩ dX0_addLot_71 (jj_le rfl) (jj_le rfl)

set_option maxHeartbeats 4000000 in
set_option maxRecDepth 100000 in
theorem tc_X0_addLot_2 {l : Launch} (hl : l.stackTraces = false) (D : va_G) (cA : Nat → ClassId) (ak : (Nat → Nat) × (Nat → Nat)) {Kd : Nat → Nat} (h0 : Nat) (p1 : Int32) (p2 : Int32) (p3 : Int64) (p5 : Int64) (hk0 : Kd h0 = 1) {pl0 : va_W} (hok : tt_ok tt_tk cA Kd pl0) : jj_M l D cA ak yX0_addLot (.code yX0_addLot cX0_addLot 11 (some (.object "SeriesFund$Lot"))) 1 21 0 0 ([] ++ pl0) [.ref h0, .int p1, .int p2, .long p3, .long 1000000, .long p5] (tt_O (fun rx pl1 r => rx = [] ∧ tt_ok tt_tk cA Kd pl1 ∧ tt_fr Kd [(1, 8), (3, 0), (3, 1), (3, 2), (3, 3), (3, 4), (3, 5)] pl0 pl1 ∧ tt_fa Kd [] pl0 pl1 ∧ ((∃ v : Nat, Kd v = 3 ∧ r = some (.ref v))))) (tt_OX (fun _ _ _ => False)) := by
  refine jj_start hl (by decide) jw_a7bf4567f9 (jj_le rfl) ?_
  intro p e s m args below meth c A hargs hA C hex hmn
  have hfr := tt_fr.refl (K := Kd) (WS := [(1, 8), (3, 0), (3, 1), (3, 2), (3, 3), (3, 4), (3, 5)]) pl0
  have hfa := tt_fa.refl (K := Kd) (WA := []) pl0
  have lp1 := tt_lo p1
  have up1 := tt_hi p1
  have lp2 := tt_lo p2
  have up2 := tt_hi p2
  refine jj_aload_n C dX0_addLot_0 rfl ?_
  refine tt_get C hok jk_2 8 (by decide) jw_9d0ccd4490 (t := (0, 0, 40)) hk0 (by decide) rfl rfl dX0_addLot_1 (fun v_1 hv_1 hf_2 => ?_)
  obtain ⟨x_3, rfl, lx_3, ux_3⟩ := tt_vi hv_1
  refine jj_bipush (v := 39) C dX0_addLot_4 (by decide) ?_
  refine tt_call0S (rest := []) C (ct_J9_min_7cf53_2 hl D cA ak x_3) jw_91b79dc18e jw_bd781c2022 jw_a731c8553d jw_7adaf59315 jn_J9_min_7cf53 rfl (jj_le rfl) (jj_le rfl) (jj_le rfl) (jj_le rfl) (jj_le rfl) dX0_addLot_6 rfl (fun w1 r O_4 => ?_)
  rcases O_4 with ⟨c_5, -, rfl⟩ | ⟨c_6, -, rfl⟩
  · have z_c_5 := jc_lt (a := (39)) (b := (x_3).toInt) c_5 (by decide) rfl
    refine jj_istore C dX0_addLot_9 (by decide) rfl ?_
    refine jj_aload_n C dX0_addLot_11 rfl ?_
    refine tt_get C hok jk_2 12 (by decide) jw_5f730213e9 (t := (2, 7, 0)) hk0 (by decide) rfl rfl dX0_addLot_12 (fun v_7 hv_7 hf_8 => ?_)
    obtain ⟨a_9, rfl, ka_9⟩ := tt_vr hv_7
    refine jj_iload C dX0_addLot_15 rfl ?_
    refine tt_aald C hok (t := (2, 3, 0)) ka_9 (by decide) rfl rfl rfl (vp_in_iff.mpr (by decide)) dX0_addLot_17 (fun v_10 hv_10 => ?_)
    obtain ⟨a_11, rfl, ka_11⟩ := tt_vr hv_10
    refine jj_astore C dX0_addLot_18 (by decide) rfl ?_
    refine jj_aload C dX0_addLot_20 rfl ?_
    refine jj_iload_n C dX0_addLot_22 rfl ?_
    refine rl_put C hok jk_5 0 (by decide) jw_89374484be (t := (0, (-2147483648), 2147483647)) ka_11 (by decide) rfl rfl rfl (tt_ia p1) rfl rfl dX0_addLot_23 (fun pl_12 hok_13 tr hn tl => ?_)
    replace hf_2 := tr _ _ _ (Or.inl (tt_ne hk0 ka_11 (by decide))) hf_2
    replace hf_8 := tr _ _ _ (Or.inl (tt_ne hk0 ka_11 (by decide))) hf_8
    have hf_14 := hn
    replace hfr := hfr.put ka_11 tr (by decide)
    replace hfa := hfa.all tl
    refine jj_aload C dX0_addLot_26 rfl ?_
    refine jj_iload_n C dX0_addLot_28 rfl ?_
    refine rl_put C hok_13 jk_5 1 (by decide) jw_53dba63b8f (t := (0, (-2147483648), 2147483647)) ka_11 (by decide) rfl rfl rfl (tt_ia p2) rfl rfl dX0_addLot_29 (fun pl_15 hok_16 tr hn tl => ?_)
    replace hf_2 := tr _ _ _ (Or.inl (tt_ne hk0 ka_11 (by decide))) hf_2
    replace hf_8 := tr _ _ _ (Or.inl (tt_ne hk0 ka_11 (by decide))) hf_8
    replace hf_14 := tr _ _ _ (Or.inr (by decide)) hf_14
    have hf_17 := hn
    replace hfr := hfr.put ka_11 tr (by decide)
    replace hfa := hfa.all tl
    refine jj_aload C dX0_addLot_32 rfl ?_
    refine jj_lload_n C dX0_addLot_34 rfl ?_
    refine rl_put C hok_16 jk_5 3 (by decide) jw_1f6afd9b6f (t := (1, (-9223372036854775808), 9223372036854775807)) ka_11 (by decide) rfl rfl rfl (tt_ja p3) rfl rfl dX0_addLot_35 (fun pl_18 hok_19 tr hn tl => ?_)
    replace hf_2 := tr _ _ _ (Or.inl (tt_ne hk0 ka_11 (by decide))) hf_2
    replace hf_8 := tr _ _ _ (Or.inl (tt_ne hk0 ka_11 (by decide))) hf_8
    replace hf_14 := tr _ _ _ (Or.inr (by decide)) hf_14
    replace hf_17 := tr _ _ _ (Or.inr (by decide)) hf_17
    have hf_20 := hn
    replace hfr := hfr.put ka_11 tr (by decide)
    replace hfa := hfa.all tl
    refine jj_aload C dX0_addLot_38 rfl ?_
    refine jj_lload C dX0_addLot_40 rfl ?_
    refine rl_put C hok_19 jk_5 4 (by decide) jw_8e377b7e50 (t := (1, (-9223372036854775808), 9223372036854775807)) ka_11 (by decide) rfl rfl rfl (tt_ja (1000000 : Int64)) rfl rfl dX0_addLot_42 (fun pl_21 hok_22 tr hn tl => ?_)
    replace hf_2 := tr _ _ _ (Or.inl (tt_ne hk0 ka_11 (by decide))) hf_2
    replace hf_8 := tr _ _ _ (Or.inl (tt_ne hk0 ka_11 (by decide))) hf_8
    replace hf_14 := tr _ _ _ (Or.inr (by decide)) hf_14
    replace hf_17 := tr _ _ _ (Or.inr (by decide)) hf_17
    replace hf_20 := tr _ _ _ (Or.inr (by decide)) hf_20
    have hf_23 := hn
    replace hfr := hfr.put ka_11 tr (by decide)
    replace hfa := hfa.all tl
    refine jj_aload C dX0_addLot_45 rfl ?_
    refine jj_lload C dX0_addLot_47 rfl ?_
    refine rl_put C hok_22 jk_5 5 (by decide) jw_b0cee064c2 (t := (1, (-9223372036854775808), 9223372036854775807)) ka_11 (by decide) rfl rfl rfl (tt_ja p5) rfl rfl dX0_addLot_49 (fun pl_24 hok_25 tr hn tl => ?_)
    replace hf_2 := tr _ _ _ (Or.inl (tt_ne hk0 ka_11 (by decide))) hf_2
    replace hf_8 := tr _ _ _ (Or.inl (tt_ne hk0 ka_11 (by decide))) hf_8
    replace hf_14 := tr _ _ _ (Or.inr (by decide)) hf_14
    replace hf_17 := tr _ _ _ (Or.inr (by decide)) hf_17
    replace hf_20 := tr _ _ _ (Or.inr (by decide)) hf_20
    replace hf_23 := tr _ _ _ (Or.inr (by decide)) hf_23
    have hf_26 := hn
    replace hfr := hfr.put ka_11 tr (by decide)
    replace hfa := hfa.all tl
    refine jj_aload C dX0_addLot_52 rfl ?_
    refine jj_aload_n C dX0_addLot_54 rfl ?_
    refine tt_get C hok_25 jk_2 5 (by decide) jw_cd8f4320e7 (t := (0, (-2147483648), 2147483647)) hk0 (by decide) rfl rfl dX0_addLot_55 (fun v_27 hv_27 hf_28 => ?_)
    obtain ⟨x_29, rfl, lx_29, ux_29⟩ := tt_vi hv_27
    refine rl_put C hok_25 jk_5 2 (by decide) jw_f798be12c7 (t := (0, (-2147483648), 2147483647)) ka_11 (by decide) rfl rfl rfl (tt_ia x_29) rfl rfl dX0_addLot_58 (fun pl_30 hok_31 tr hn tl => ?_)
    replace hf_2 := tr _ _ _ (Or.inl (tt_ne hk0 ka_11 (by decide))) hf_2
    replace hf_8 := tr _ _ _ (Or.inl (tt_ne hk0 ka_11 (by decide))) hf_8
    replace hf_14 := tr _ _ _ (Or.inr (by decide)) hf_14
    replace hf_17 := tr _ _ _ (Or.inr (by decide)) hf_17
    replace hf_20 := tr _ _ _ (Or.inr (by decide)) hf_20
    replace hf_23 := tr _ _ _ (Or.inr (by decide)) hf_23
    replace hf_26 := tr _ _ _ (Or.inr (by decide)) hf_26
    replace hf_28 := tr _ _ _ (Or.inl (tt_ne hk0 ka_11 (by decide))) hf_28
    have hf_32 := hn
    replace hfr := hfr.put ka_11 tr (by decide)
    replace hfa := hfa.all tl
    refine jj_aload_n C dX0_addLot_61 rfl ?_
    refine jj_iload C dX0_addLot_62 rfl ?_
    refine jj_iconst (v := 1) C dX0_addLot_64 (by decide) ?_
    refine jj_iadd (v := 40) C dX0_addLot_65 (by decide) ?_
    refine rl_put C hok_31 jk_2 8 (by decide) jw_9d0ccd4490 (t := (0, 0, 40)) hk0 (by decide) rfl rfl rfl (tt_iv (by decide) (by decide)) rfl rfl dX0_addLot_66 (fun pl_33 hok_34 tr hn tl => ?_)
    replace hf_8 := tr _ _ _ (Or.inr (by decide)) hf_8
    replace hf_14 := tr _ _ _ (Or.inl (tt_ne ka_11 hk0 (by decide))) hf_14
    replace hf_17 := tr _ _ _ (Or.inl (tt_ne ka_11 hk0 (by decide))) hf_17
    replace hf_20 := tr _ _ _ (Or.inl (tt_ne ka_11 hk0 (by decide))) hf_20
    replace hf_23 := tr _ _ _ (Or.inl (tt_ne ka_11 hk0 (by decide))) hf_23
    replace hf_26 := tr _ _ _ (Or.inl (tt_ne ka_11 hk0 (by decide))) hf_26
    replace hf_28 := tr _ _ _ (Or.inr (by decide)) hf_28
    replace hf_32 := tr _ _ _ (Or.inl (tt_ne ka_11 hk0 (by decide))) hf_32
    have hf_35 := hn
    replace hfr := hfr.put hk0 tr (by decide)
    replace hfa := hfa.all tl
    refine jj_aload C dX0_addLot_69 rfl ?_
    exact jj_aret C (Or.inl ⟨_, rfl⟩) ⟨[], pl_33, rfl, rfl, hok_34, hfr, hfa, ⟨a_11, ka_11, rfl⟩⟩ dX0_addLot_71 (jj_le rfl) (jj_le rfl)
  · have z_c_6 := jc_nlt (a := (39)) (b := (x_3).toInt) c_6 (by decide) rfl
    refine jj_istore C dX0_addLot_9 (by decide) rfl ?_
    refine jj_aload_n C dX0_addLot_11 rfl ?_
    refine tt_get C hok jk_2 12 (by decide) jw_5f730213e9 (t := (2, 7, 0)) hk0 (by decide) rfl rfl dX0_addLot_12 (fun v_36 hv_36 hf_37 => ?_)
    obtain ⟨a_38, rfl, ka_38⟩ := tt_vr hv_36
    refine jj_iload C dX0_addLot_15 rfl ?_
    refine tt_aald C hok (t := (2, 3, 0)) ka_38 (by decide) rfl rfl rfl (vp_in_iff.mpr ⟨by omega, by omega⟩) dX0_addLot_17 (fun v_39 hv_39 => ?_)
    obtain ⟨a_40, rfl, ka_40⟩ := tt_vr hv_39
    refine jj_astore C dX0_addLot_18 (by decide) rfl ?_
    refine jj_aload C dX0_addLot_20 rfl ?_
    refine jj_iload_n C dX0_addLot_22 rfl ?_
    refine rl_put C hok jk_5 0 (by decide) jw_89374484be (t := (0, (-2147483648), 2147483647)) ka_40 (by decide) rfl rfl rfl (tt_ia p1) rfl rfl dX0_addLot_23 (fun pl_41 hok_42 tr hn tl => ?_)
    replace hf_2 := tr _ _ _ (Or.inl (tt_ne hk0 ka_40 (by decide))) hf_2
    replace hf_37 := tr _ _ _ (Or.inl (tt_ne hk0 ka_40 (by decide))) hf_37
    have hf_43 := hn
    replace hfr := hfr.put ka_40 tr (by decide)
    replace hfa := hfa.all tl
    refine jj_aload C dX0_addLot_26 rfl ?_
    refine jj_iload_n C dX0_addLot_28 rfl ?_
    refine rl_put C hok_42 jk_5 1 (by decide) jw_53dba63b8f (t := (0, (-2147483648), 2147483647)) ka_40 (by decide) rfl rfl rfl (tt_ia p2) rfl rfl dX0_addLot_29 (fun pl_44 hok_45 tr hn tl => ?_)
    replace hf_2 := tr _ _ _ (Or.inl (tt_ne hk0 ka_40 (by decide))) hf_2
    replace hf_37 := tr _ _ _ (Or.inl (tt_ne hk0 ka_40 (by decide))) hf_37
    replace hf_43 := tr _ _ _ (Or.inr (by decide)) hf_43
    have hf_46 := hn
    replace hfr := hfr.put ka_40 tr (by decide)
    replace hfa := hfa.all tl
    refine jj_aload C dX0_addLot_32 rfl ?_
    refine jj_lload_n C dX0_addLot_34 rfl ?_
    refine rl_put C hok_45 jk_5 3 (by decide) jw_1f6afd9b6f (t := (1, (-9223372036854775808), 9223372036854775807)) ka_40 (by decide) rfl rfl rfl (tt_ja p3) rfl rfl dX0_addLot_35 (fun pl_47 hok_48 tr hn tl => ?_)
    replace hf_2 := tr _ _ _ (Or.inl (tt_ne hk0 ka_40 (by decide))) hf_2
    replace hf_37 := tr _ _ _ (Or.inl (tt_ne hk0 ka_40 (by decide))) hf_37
    replace hf_43 := tr _ _ _ (Or.inr (by decide)) hf_43
    replace hf_46 := tr _ _ _ (Or.inr (by decide)) hf_46
    have hf_49 := hn
    replace hfr := hfr.put ka_40 tr (by decide)
    replace hfa := hfa.all tl
    refine jj_aload C dX0_addLot_38 rfl ?_
    refine jj_lload C dX0_addLot_40 rfl ?_
    refine rl_put C hok_48 jk_5 4 (by decide) jw_8e377b7e50 (t := (1, (-9223372036854775808), 9223372036854775807)) ka_40 (by decide) rfl rfl rfl (tt_ja (1000000 : Int64)) rfl rfl dX0_addLot_42 (fun pl_50 hok_51 tr hn tl => ?_)
    replace hf_2 := tr _ _ _ (Or.inl (tt_ne hk0 ka_40 (by decide))) hf_2
    replace hf_37 := tr _ _ _ (Or.inl (tt_ne hk0 ka_40 (by decide))) hf_37
    replace hf_43 := tr _ _ _ (Or.inr (by decide)) hf_43
    replace hf_46 := tr _ _ _ (Or.inr (by decide)) hf_46
    replace hf_49 := tr _ _ _ (Or.inr (by decide)) hf_49
    have hf_52 := hn
    replace hfr := hfr.put ka_40 tr (by decide)
    replace hfa := hfa.all tl
    refine jj_aload C dX0_addLot_45 rfl ?_
    refine jj_lload C dX0_addLot_47 rfl ?_
    refine rl_put C hok_51 jk_5 5 (by decide) jw_b0cee064c2 (t := (1, (-9223372036854775808), 9223372036854775807)) ka_40 (by decide) rfl rfl rfl (tt_ja p5) rfl rfl dX0_addLot_49 (fun pl_53 hok_54 tr hn tl => ?_)
    replace hf_2 := tr _ _ _ (Or.inl (tt_ne hk0 ka_40 (by decide))) hf_2
    replace hf_37 := tr _ _ _ (Or.inl (tt_ne hk0 ka_40 (by decide))) hf_37
    replace hf_43 := tr _ _ _ (Or.inr (by decide)) hf_43
    replace hf_46 := tr _ _ _ (Or.inr (by decide)) hf_46
    replace hf_49 := tr _ _ _ (Or.inr (by decide)) hf_49
    replace hf_52 := tr _ _ _ (Or.inr (by decide)) hf_52
    have hf_55 := hn
    replace hfr := hfr.put ka_40 tr (by decide)
    replace hfa := hfa.all tl
    refine jj_aload C dX0_addLot_52 rfl ?_
    refine jj_aload_n C dX0_addLot_54 rfl ?_
    refine tt_get C hok_54 jk_2 5 (by decide) jw_cd8f4320e7 (t := (0, (-2147483648), 2147483647)) hk0 (by decide) rfl rfl dX0_addLot_55 (fun v_56 hv_56 hf_57 => ?_)
    obtain ⟨x_58, rfl, lx_58, ux_58⟩ := tt_vi hv_56
    refine rl_put C hok_54 jk_5 2 (by decide) jw_f798be12c7 (t := (0, (-2147483648), 2147483647)) ka_40 (by decide) rfl rfl rfl (tt_ia x_58) rfl rfl dX0_addLot_58 (fun pl_59 hok_60 tr hn tl => ?_)
    replace hf_2 := tr _ _ _ (Or.inl (tt_ne hk0 ka_40 (by decide))) hf_2
    replace hf_37 := tr _ _ _ (Or.inl (tt_ne hk0 ka_40 (by decide))) hf_37
    replace hf_43 := tr _ _ _ (Or.inr (by decide)) hf_43
    replace hf_46 := tr _ _ _ (Or.inr (by decide)) hf_46
    replace hf_49 := tr _ _ _ (Or.inr (by decide)) hf_49
    replace hf_52 := tr _ _ _ (Or.inr (by decide)) hf_52
    replace hf_55 := tr _ _ _ (Or.inr (by decide)) hf_55
    replace hf_57 := tr _ _ _ (Or.inl (tt_ne hk0 ka_40 (by decide))) hf_57
    have hf_61 := hn
    replace hfr := hfr.put ka_40 tr (by decide)
    replace hfa := hfa.all tl
    refine jj_aload_n C dX0_addLot_61 rfl ?_
    refine jj_iload C dX0_addLot_62 rfl ?_
    refine jj_iconst (v := 1) C dX0_addLot_64 (by decide) ?_
    obtain ⟨x_62, ex_62, vx_62⟩ := tt_iadd (x := x_3) (y := (1 : Int32)) (a := x_3.toInt) rfl (b := 1) (by decide) (by omega) (by omega)
    refine jj_iadd (v := x_62) C dX0_addLot_65 ex_62 ?_
    refine rl_put C hok_60 jk_2 8 (by decide) jw_9d0ccd4490 (t := (0, 0, 40)) hk0 (by decide) rfl rfl rfl (tt_iv (by omega) (by omega)) rfl rfl dX0_addLot_66 (fun pl_63 hok_64 tr hn tl => ?_)
    replace hf_37 := tr _ _ _ (Or.inr (by decide)) hf_37
    replace hf_43 := tr _ _ _ (Or.inl (tt_ne ka_40 hk0 (by decide))) hf_43
    replace hf_46 := tr _ _ _ (Or.inl (tt_ne ka_40 hk0 (by decide))) hf_46
    replace hf_49 := tr _ _ _ (Or.inl (tt_ne ka_40 hk0 (by decide))) hf_49
    replace hf_52 := tr _ _ _ (Or.inl (tt_ne ka_40 hk0 (by decide))) hf_52
    replace hf_55 := tr _ _ _ (Or.inl (tt_ne ka_40 hk0 (by decide))) hf_55
    replace hf_57 := tr _ _ _ (Or.inr (by decide)) hf_57
    replace hf_61 := tr _ _ _ (Or.inl (tt_ne ka_40 hk0 (by decide))) hf_61
    have hf_65 := hn
    replace hfr := hfr.put hk0 tr (by decide)
    replace hfa := hfa.all tl
    refine jj_aload C dX0_addLot_69 rfl ?_
    exact jj_aret C (Or.inl ⟨_, rfl⟩) ⟨[], pl_63, rfl, rfl, hok_64, hfr, hfa, ⟨a_40, ka_40, rfl⟩⟩ dX0_addLot_71 (jj_le rfl) (jj_le rfl)

set_option maxHeartbeats 4000000 in
set_option maxRecDepth 100000 in
theorem tc_X1_takeIn_1 {l : Launch} (hl : l.stackTraces = false) (D : va_G) (cA : Nat → ClassId) (ak : (Nat → Nat) × (Nat → Nat)) {Kd : Nat → Nat} (h0 : Nat) (h1 : Nat) (h2 : Nat) (p3 : Int32) (hk0 : Kd h0 = 9) (hk1 : Kd h1 = 1) (hk2 : Kd h2 = 4) (lp3 : (-1 : Int) ≤ p3.toInt) (up3 : p3.toInt ≤ -1) {pl0 : va_W} (hok : tt_ok tt_tk cA Kd pl0) : jj_M l D cA ak yX1_takeIn (.code yX1_takeIn cX1_takeIn 12 (some .boolean)) 2 51 0 0 ([] ++ pl0) [.ref h0, .ref h1, .ref h2, .int p3] (tt_O (fun rx pl1 r => rx = [] ∧ tt_ok tt_tk cA Kd pl1 ∧ tt_fr Kd [(1, 6), (1, 7), (1, 8), (2, 0), (2, 1), (2, 2), (2, 3), (2, 4), (3, 0), (3, 1), (3, 2), (3, 3), (3, 4), (3, 5)] pl0 pl1 ∧ tt_fa Kd [5] pl0 pl1 ∧ ((r = some (.int 0)) ∨ (r = some (.int 1))))) (tt_OX (fun _ _ _ => False)) := by
  refine jj_start hl (by decide) jw_ab8304a739 (jj_le rfl) ?_
  intro p e s m args below meth c A hargs hA C hex hmn
  have hfr := tt_fr.refl (K := Kd) (WS := [(1, 6), (1, 7), (1, 8), (2, 0), (2, 1), (2, 2), (2, 3), (2, 4), (3, 0), (3, 1), (3, 2), (3, 3), (3, 4), (3, 5)]) pl0
  have hfa := tt_fa.refl (K := Kd) (WA := [5]) pl0
  refine jj_iload_n C dX1_takeIn_0 rfl ?_
  refine jj_if_lt (tgt := 12) C dX1_takeIn_1 (by decide) (fun c_1 => ?_) (fun c_1 => ?_)
  · have z_c_1 := jc_lt (a := (p3).toInt) (b := (0)) c_1 rfl (by decide)
    refine jj_iconst (v := 1) C dX1_takeIn_12 (by decide) ?_
    refine jj_goto (tgt := 17) C dX1_takeIn_13 (by decide) ?_
    refine jj_istore C dX1_takeIn_17 (by decide) rfl ?_
    refine jj_iload C dX1_takeIn_19 rfl ?_
    refine jj_if_neT (tgt := 32) C dX1_takeIn_21 (by decide) (by decide) ?_
    refine jj_ldc2 (v := 1000000) C dX1_takeIn_32 jw_39e30070ed ?_
    refine jj_goto (tgt := 47) C dX1_takeIn_35 (by decide) ?_
    refine jj_lstore C dX1_takeIn_47 (by decide) rfl ?_
    refine jj_lload C dX1_takeIn_49 rfl ?_
    refine jj_lconst (v := 0) C dX1_takeIn_51 (by decide) ?_
    refine jj_lcmp_leF (tgt := 79) C dX1_takeIn_52 dX1_takeIn_53 (by decide) (by decide) ?_
    refine jj_aload_n C dX1_takeIn_56 rfl ?_
    refine tt_get C hok jk_2 8 (by decide) jw_eaf43346a8 (t := (0, 0, 40)) hk1 (by decide) rfl rfl dX1_takeIn_57 (fun v_2 hv_2 hf_3 => ?_)
    obtain ⟨x_4, rfl, lx_4, ux_4⟩ := tt_vi hv_2
    refine jj_bipush (v := 40) C dX1_takeIn_60 (by decide) ?_
    refine jj_icmp_ge (tgt := 79) C dX1_takeIn_62 (by decide) (fun c_5 => ?_) (fun c_5 => ?_)
    · have z_c_5 := jc_le (a := (40)) (b := (x_4).toInt) c_5 (by decide) rfl
      refine jj_iconst (v := 0) C dX1_takeIn_79 (by decide) ?_
      exact jj_zret C rfl ⟨[], pl0, rfl, rfl, hok, hfr, hfa, (Or.inl rfl)⟩ dX1_takeIn_80 (jj_le rfl) (jj_le rfl)
    · have z_c_5 := jc_nle (a := (40)) (b := (x_4).toInt) c_5 (by decide) rfl
      refine jj_iload C dX1_takeIn_65 rfl ?_
      refine jj_if_eqF (tgt := 81) C dX1_takeIn_67 (by decide) (by decide) ?_
      refine jj_aload_n C dX1_takeIn_70 rfl ?_
      refine tt_get C hok jk_2 7 (by decide) jw_1a34255153 (t := (0, 0, 6)) hk1 (by decide) rfl rfl dX1_takeIn_71 (fun v_6 hv_6 hf_7 => ?_)
      obtain ⟨x_8, rfl, lx_8, ux_8⟩ := tt_vi hv_6
      refine jj_bipush (v := 6) C dX1_takeIn_74 (by decide) ?_
      refine jj_icmp_lt (tgt := 81) C dX1_takeIn_76 (by decide) (fun c_9 => ?_) (fun c_9 => ?_)
      · have z_c_9 := jc_lt (a := (x_8).toInt) (b := (6)) c_9 rfl (by decide)
        refine jj_aload_n C dX1_takeIn_81 rfl ?_
        refine tt_get C hok jk_7 3 (by decide) jw_1a2f98b2b0 (t := (1, (-9223372036854775808), 9223372036854775807)) hk2 (by decide) rfl rfl dX1_takeIn_82 (fun v_10 hv_10 hf_11 => ?_)
        obtain ⟨y_12, rfl, -, -⟩ := tt_vj hv_10
        refine jj_ldc2 (v := 100000) C dX1_takeIn_85 jw_8b2b15bcdc ?_
        obtain ⟨y_13, ey_13⟩ : ∃ z : Int64, y_12 * (100000 : Int64) = z := ⟨_, rfl⟩
        refine jj_lmul (v := y_13) C dX1_takeIn_88 ey_13 ?_
        refine jj_lload C dX1_takeIn_89 rfl ?_
        obtain ⟨y_14, ey_14⟩ : ∃ z : Int64, y_13 / (1000000 : Int64) = z := ⟨_, rfl⟩
        refine jj_ldiv (v := y_14) C dX1_takeIn_91 (by decide) ey_14 ?_
        refine jj_lstore C dX1_takeIn_92 (by decide) rfl ?_
        refine jj_lload C dX1_takeIn_94 rfl ?_
        refine jj_lconst (v := 1) C dX1_takeIn_96 (by decide) ?_
        refine jj_lcmp_lt (tgt := 110) C dX1_takeIn_97 dX1_takeIn_98 (by decide) (fun c_15 => ?_) (fun c_15 => ?_)
        · refine jj_iconst (v := 0) C dX1_takeIn_110 (by decide) ?_
          exact jj_zret C rfl ⟨[], pl0, rfl, rfl, hok, hfr, hfa, (Or.inl rfl)⟩ dX1_takeIn_111 (jj_le rfl) (jj_le rfl)
        · refine jj_lload C dX1_takeIn_101 rfl ?_
          refine jj_ldc2 (v := 10000000) C dX1_takeIn_103 jw_c1baced628 ?_
          refine jj_lcmp_le (tgt := 112) C dX1_takeIn_106 dX1_takeIn_107 (by decide) (fun c_16 => ?_) (fun c_16 => ?_)
          · refine jj_iload C dX1_takeIn_112 rfl ?_
            refine jj_if_eqF (tgt := 124) C dX1_takeIn_114 (by decide) (by decide) ?_
            refine jj_aload_n C dX1_takeIn_117 rfl ?_
            obtain ⟨qc, gs, hqc⟩ := tt_recv (cx := []) hok hk1 (by decide) rfl
            refine tt_callV (rest := []) C (tc_X0_beginSeries_1 hl D cA ak h1 hk1 hok) [] [] rfl rfl (by decide) (by decide) (by decide) qc hqc rfl rfl jw_40082dbd80 jw_d38a131825 jw_91f7b54243 jw_7d25d4fd32 jw_89a78d52f3 jn_X0_beginSeries rfl (jj_le rfl) (jj_le rfl) (jj_le rfl) (jj_le rfl) (jj_le rfl) dX1_takeIn_118 rfl (fun _ _ _ hX => hX.elim) (fun rx pl_17 r O_20 => ?_)
            obtain ⟨rfl, hok_18, hr_19, hfa9, hR_22⟩ := O_20
            replace hf_3 := hr_19.at hk1 (by decide) (by decide) hf_3
            replace hf_11 := hr_19.at hk2 (by decide) (by decide) hf_11
            replace hfr := hfr.trans (hr_19.sub (by decide))
            replace hfa := hfa.trans (hfa9.sub (by decide))
            obtain ⟨a_25, ka_25, rfl⟩ := hR_22
            refine jj_goto (tgt := 130) C dX1_takeIn_121 (by decide) ?_
            refine jj_astore C dX1_takeIn_130 (by decide) rfl ?_
            refine jj_lload C dX1_takeIn_132 rfl ?_
            refine jj_aload C dX1_takeIn_134 rfl ?_
            refine tt_get C hok_18 jk_9 4 (by decide) jw_0a98b03de8 (t := (1, (-9223372036854775808), 9223372036854775807)) ka_25 (by decide) rfl rfl dX1_takeIn_136 (fun v_26 hv_26 hf_27 => ?_)
            obtain ⟨y_28, rfl, -, -⟩ := tt_vj hv_26
            refine jj_lload C dX1_takeIn_139 rfl ?_
            refine jj_aload_n C dX1_takeIn_141 rfl ?_
            refine tt_get C hok_18 jk_2 3 (by decide) jw_8322fbab96 (t := (0, (-2147483648), 2147483647)) hk1 (by decide) rfl rfl dX1_takeIn_142 (fun v_29 hv_29 hf_30 => ?_)
            obtain ⟨x_31, rfl, lx_31, ux_31⟩ := tt_vi hv_29
            refine tt_callS (rest := []) C (tc_X2_dueOn_2 hl D cA ak y_14 y_28 x_31 hok_18) [] [] rfl rfl (by decide) (by decide) (by decide) jw_2f594c34e3 jw_06dd566a56 jw_79af3f4029 jw_eebd9e2034 jn_X2_dueOn rfl (jj_le rfl) (jj_le rfl) (jj_le rfl) (jj_le rfl) (jj_le rfl) dX1_takeIn_145 rfl (fun _ _ _ hX => hX.elim) (fun rx pl_32 r O_35 => ?_)
            obtain ⟨rfl, hok_33, hr_34, hfa9, hR_37⟩ := O_35
            replace hf_3 := hr_34.at hk1 (by decide) (by decide) hf_3
            replace hf_11 := hr_34.at hk2 (by decide) (by decide) hf_11
            replace hf_27 := hr_34.at ka_25 (by decide) (by decide) hf_27
            replace hf_30 := hr_34.at hk1 (by decide) (by decide) hf_30
            replace hfr := hfr.trans (hr_34.sub (by decide))
            replace hfa := hfa.trans (hfa9.sub (by decide))
            rcases hR_37 with rfl | ⟨y_40, rfl⟩
            · refine jj_lstore C dX1_takeIn_148 (by decide) rfl ?_
              refine jj_aload_n C dX1_takeIn_150 rfl ?_
              refine jj_aload_n C dX1_takeIn_151 rfl ?_
              refine tt_get C hok_33 jk_7 0 (by decide) jw_ca00009e69 (t := (0, (-2147483648), 2147483647)) hk2 (by decide) rfl rfl dX1_takeIn_152 (fun v_41 hv_41 hf_42 => ?_)
              obtain ⟨x_43, rfl, lx_43, ux_43⟩ := tt_vi hv_41
              refine jj_aload C dX1_takeIn_155 rfl ?_
              refine tt_get C hok_33 jk_9 0 (by decide) jw_e7cfa07cc9 (t := (0, (-2147483648), 2147483647)) ka_25 (by decide) rfl rfl dX1_takeIn_157 (fun v_44 hv_44 hf_45 => ?_)
              obtain ⟨x_46, rfl, lx_46, ux_46⟩ := tt_vi hv_44
              refine jj_lload C dX1_takeIn_160 rfl ?_
              refine jj_lload C dX1_takeIn_162 rfl ?_
              refine jj_lload C dX1_takeIn_164 rfl ?_
              obtain ⟨qc, gs, hqc⟩ := tt_recv (cx := []) hok_33 hk1 (by decide) rfl
              refine tt_callV (rest := []) C (tc_X0_addLot_1 hl D cA ak h1 x_43 x_46 y_14 hk1 hok_33) [] [] rfl rfl (by decide) (by decide) (by decide) qc hqc rfl rfl jw_336fd576a9 jw_c1ec506c02 jw_0fb782f899 jw_7d25d4fd32 jw_a7bf4567f9 jn_X0_addLot rfl (jj_le rfl) (jj_le rfl) (jj_le rfl) (jj_le rfl) (jj_le rfl) dX1_takeIn_166 rfl (fun _ _ _ hX => hX.elim) (fun rx pl_47 r O_50 => ?_)
              obtain ⟨rfl, hok_48, hr_49, hfa9, hR_52⟩ := O_50
              replace hf_11 := hr_49.at hk2 (by decide) (by decide) hf_11
              replace hf_27 := hr_49.at ka_25 (by decide) (by decide) hf_27
              replace hf_30 := hr_49.at hk1 (by decide) (by decide) hf_30
              replace hf_42 := hr_49.at hk2 (by decide) (by decide) hf_42
              replace hf_45 := hr_49.at ka_25 (by decide) (by decide) hf_45
              replace hfr := hfr.trans (hr_49.sub (by decide))
              replace hfa := hfa.trans (hfa9.sub (by decide))
              obtain ⟨a_55, ka_55, rfl⟩ := hR_52
              refine jj_pop C dX1_takeIn_169 rfl ?_
              refine jj_aload C dX1_takeIn_170 rfl ?_
              refine jj_dup C dX1_takeIn_172 rfl ?_
              refine tt_get C hok_48 jk_9 2 (by decide) jw_a25c79ea7a (t := (1, (-9223372036854775808), 9223372036854775807)) ka_25 (by decide) rfl rfl dX1_takeIn_173 (fun v_56 hv_56 hf_57 => ?_)
              obtain ⟨y_58, rfl, -, -⟩ := tt_vj hv_56
              refine jj_aload_n C dX1_takeIn_176 rfl ?_
              refine tt_getF C hok_48 jk_7 3 (by decide) jw_1a2f98b2b0 (t := (1, (-9223372036854775808), 9223372036854775807)) hk2 (by decide) rfl rfl hf_11 dX1_takeIn_177 ?_
              obtain ⟨y_59, ey_59⟩ : ∃ z : Int64, y_58 + y_12 = z := ⟨_, rfl⟩
              refine jj_ladd (v := y_59) C dX1_takeIn_180 ey_59 ?_
              refine rl_put C hok_48 jk_9 2 (by decide) jw_a25c79ea7a (t := (1, (-9223372036854775808), 9223372036854775807)) ka_25 (by decide) rfl rfl rfl (tt_ja y_59) rfl rfl dX1_takeIn_181 (fun pl_60 hok_61 tr hn tl => ?_)
              replace hf_11 := tr _ _ _ (Or.inl (tt_ne hk2 ka_25 (by decide))) hf_11
              replace hf_27 := tr _ _ _ (Or.inr (by decide)) hf_27
              replace hf_30 := tr _ _ _ (Or.inl (tt_ne hk1 ka_25 (by decide))) hf_30
              replace hf_42 := tr _ _ _ (Or.inl (tt_ne hk2 ka_25 (by decide))) hf_42
              replace hf_45 := tr _ _ _ (Or.inr (by decide)) hf_45
              have hf_62 := hn
              replace hfr := hfr.put ka_25 tr (by decide)
              replace hfa := hfa.all tl
              refine jj_aload C dX1_takeIn_184 rfl ?_
              refine jj_dup C dX1_takeIn_186 rfl ?_
              refine tt_get C hok_61 jk_9 3 (by decide) jw_df3b225d28 (t := (1, (-9223372036854775808), 9223372036854775807)) ka_25 (by decide) rfl rfl dX1_takeIn_187 (fun v_63 hv_63 hf_64 => ?_)
              obtain ⟨y_65, rfl, -, -⟩ := tt_vj hv_63
              refine jj_lload C dX1_takeIn_190 rfl ?_
              obtain ⟨y_66, ey_66⟩ : ∃ z : Int64, y_65 + y_14 = z := ⟨_, rfl⟩
              refine jj_ladd (v := y_66) C dX1_takeIn_192 ey_66 ?_
              refine rl_put C hok_61 jk_9 3 (by decide) jw_df3b225d28 (t := (1, (-9223372036854775808), 9223372036854775807)) ka_25 (by decide) rfl rfl rfl (tt_ja y_66) rfl rfl dX1_takeIn_193 (fun pl_67 hok_68 tr hn tl => ?_)
              replace hf_11 := tr _ _ _ (Or.inl (tt_ne hk2 ka_25 (by decide))) hf_11
              replace hf_27 := tr _ _ _ (Or.inr (by decide)) hf_27
              replace hf_30 := tr _ _ _ (Or.inl (tt_ne hk1 ka_25 (by decide))) hf_30
              replace hf_42 := tr _ _ _ (Or.inl (tt_ne hk2 ka_25 (by decide))) hf_42
              replace hf_45 := tr _ _ _ (Or.inr (by decide)) hf_45
              replace hf_62 := tr _ _ _ (Or.inr (by decide)) hf_62
              have hf_69 := hn
              replace hfr := hfr.put ka_25 tr (by decide)
              replace hfa := hfa.all tl
              refine jj_aload_n C dX1_takeIn_196 rfl ?_
              refine tt_get C hok_68 jk_2 10 (by decide) jw_489e37c5a2 (t := (2, 5, 0)) hk1 (by decide) rfl rfl dX1_takeIn_197 (fun v_70 hv_70 hf_71 => ?_)
              obtain ⟨a_72, rfl, ka_72⟩ := tt_vr hv_70
              refine jj_iconst (v := 2) C dX1_takeIn_200 (by decide) ?_
              refine jj_dup2 C dX1_takeIn_201 rfl rfl ?_
              refine tt_lald C hok_68 (t := (1, (-9223372036854775808), 9223372036854775807)) ka_72 (by decide) rfl (vp_in_iff.mpr (by decide)) dX1_takeIn_202 (fun v_73 hv_73 => ?_)
              refine jj_aload_n C dX1_takeIn_203 rfl ?_
              refine tt_getF C hok_68 jk_7 3 (by decide) jw_1a2f98b2b0 (t := (1, (-9223372036854775808), 9223372036854775807)) hk2 (by decide) rfl rfl hf_11 dX1_takeIn_204 ?_
              obtain ⟨y_74, ey_74⟩ : ∃ z : Int64, v_73 + y_12 = z := ⟨_, rfl⟩
              refine jj_ladd (v := y_74) C dX1_takeIn_207 ey_74 ?_
              refine tl_last C hok_68 (t := (1, (-9223372036854775808), 9223372036854775807)) ka_72 (by decide) rfl (vp_in_iff.mpr (by decide)) (tt_ja _) dX1_takeIn_208 (fun pl_75 hok_76 tr tl => ?_)
              replace hf_11 := tr _ _ _ hf_11
              replace hf_27 := tr _ _ _ hf_27
              replace hf_30 := tr _ _ _ hf_30
              replace hf_42 := tr _ _ _ hf_42
              replace hf_45 := tr _ _ _ hf_45
              replace hf_62 := tr _ _ _ hf_62
              replace hf_69 := tr _ _ _ hf_69
              replace hf_71 := tr _ _ _ hf_71
              replace hfr := hfr.arr tr
              replace hfa := hfa.wr ka_72 tl (by decide)
              refine jj_iconst (v := 1) C dX1_takeIn_209 (by decide) ?_
              exact jj_zret C rfl ⟨[], pl_75, rfl, rfl, hok_76, hfr, hfa, (Or.inr rfl)⟩ dX1_takeIn_210 (jj_le rfl) (jj_le rfl)
            · refine jj_lstore C dX1_takeIn_148 (by decide) rfl ?_
              refine jj_aload_n C dX1_takeIn_150 rfl ?_
              refine jj_aload_n C dX1_takeIn_151 rfl ?_
              refine tt_get C hok_33 jk_7 0 (by decide) jw_ca00009e69 (t := (0, (-2147483648), 2147483647)) hk2 (by decide) rfl rfl dX1_takeIn_152 (fun v_77 hv_77 hf_78 => ?_)
              obtain ⟨x_79, rfl, lx_79, ux_79⟩ := tt_vi hv_77
              refine jj_aload C dX1_takeIn_155 rfl ?_
              refine tt_get C hok_33 jk_9 0 (by decide) jw_e7cfa07cc9 (t := (0, (-2147483648), 2147483647)) ka_25 (by decide) rfl rfl dX1_takeIn_157 (fun v_80 hv_80 hf_81 => ?_)
              obtain ⟨x_82, rfl, lx_82, ux_82⟩ := tt_vi hv_80
              refine jj_lload C dX1_takeIn_160 rfl ?_
              refine jj_lload C dX1_takeIn_162 rfl ?_
              refine jj_lload C dX1_takeIn_164 rfl ?_
              obtain ⟨qc, gs, hqc⟩ := tt_recv (cx := []) hok_33 hk1 (by decide) rfl
              refine tt_callV (rest := []) C (tc_X0_addLot_2 hl D cA ak h1 x_79 x_82 y_14 y_40 hk1 hok_33) [] [] rfl rfl (by decide) (by decide) (by decide) qc hqc rfl rfl jw_336fd576a9 jw_c1ec506c02 jw_0fb782f899 jw_7d25d4fd32 jw_a7bf4567f9 jn_X0_addLot rfl (jj_le rfl) (jj_le rfl) (jj_le rfl) (jj_le rfl) (jj_le rfl) dX1_takeIn_166 rfl (fun _ _ _ hX => hX.elim) (fun rx pl_83 r O_86 => ?_)
              obtain ⟨rfl, hok_84, hr_85, hfa9, hR_88⟩ := O_86
              replace hf_11 := hr_85.at hk2 (by decide) (by decide) hf_11
              replace hf_27 := hr_85.at ka_25 (by decide) (by decide) hf_27
              replace hf_30 := hr_85.at hk1 (by decide) (by decide) hf_30
              replace hf_78 := hr_85.at hk2 (by decide) (by decide) hf_78
              replace hf_81 := hr_85.at ka_25 (by decide) (by decide) hf_81
              replace hfr := hfr.trans (hr_85.sub (by decide))
              replace hfa := hfa.trans (hfa9.sub (by decide))
              obtain ⟨a_91, ka_91, rfl⟩ := hR_88
              refine jj_pop C dX1_takeIn_169 rfl ?_
              refine jj_aload C dX1_takeIn_170 rfl ?_
              refine jj_dup C dX1_takeIn_172 rfl ?_
              refine tt_get C hok_84 jk_9 2 (by decide) jw_a25c79ea7a (t := (1, (-9223372036854775808), 9223372036854775807)) ka_25 (by decide) rfl rfl dX1_takeIn_173 (fun v_92 hv_92 hf_93 => ?_)
              obtain ⟨y_94, rfl, -, -⟩ := tt_vj hv_92
              refine jj_aload_n C dX1_takeIn_176 rfl ?_
              refine tt_getF C hok_84 jk_7 3 (by decide) jw_1a2f98b2b0 (t := (1, (-9223372036854775808), 9223372036854775807)) hk2 (by decide) rfl rfl hf_11 dX1_takeIn_177 ?_
              obtain ⟨y_95, ey_95⟩ : ∃ z : Int64, y_94 + y_12 = z := ⟨_, rfl⟩
              refine jj_ladd (v := y_95) C dX1_takeIn_180 ey_95 ?_
              refine rl_put C hok_84 jk_9 2 (by decide) jw_a25c79ea7a (t := (1, (-9223372036854775808), 9223372036854775807)) ka_25 (by decide) rfl rfl rfl (tt_ja y_95) rfl rfl dX1_takeIn_181 (fun pl_96 hok_97 tr hn tl => ?_)
              replace hf_11 := tr _ _ _ (Or.inl (tt_ne hk2 ka_25 (by decide))) hf_11
              replace hf_27 := tr _ _ _ (Or.inr (by decide)) hf_27
              replace hf_30 := tr _ _ _ (Or.inl (tt_ne hk1 ka_25 (by decide))) hf_30
              replace hf_78 := tr _ _ _ (Or.inl (tt_ne hk2 ka_25 (by decide))) hf_78
              replace hf_81 := tr _ _ _ (Or.inr (by decide)) hf_81
              have hf_98 := hn
              replace hfr := hfr.put ka_25 tr (by decide)
              replace hfa := hfa.all tl
              refine jj_aload C dX1_takeIn_184 rfl ?_
              refine jj_dup C dX1_takeIn_186 rfl ?_
              refine tt_get C hok_97 jk_9 3 (by decide) jw_df3b225d28 (t := (1, (-9223372036854775808), 9223372036854775807)) ka_25 (by decide) rfl rfl dX1_takeIn_187 (fun v_99 hv_99 hf_100 => ?_)
              obtain ⟨y_101, rfl, -, -⟩ := tt_vj hv_99
              refine jj_lload C dX1_takeIn_190 rfl ?_
              obtain ⟨y_102, ey_102⟩ : ∃ z : Int64, y_101 + y_14 = z := ⟨_, rfl⟩
              refine jj_ladd (v := y_102) C dX1_takeIn_192 ey_102 ?_
              refine rl_put C hok_97 jk_9 3 (by decide) jw_df3b225d28 (t := (1, (-9223372036854775808), 9223372036854775807)) ka_25 (by decide) rfl rfl rfl (tt_ja y_102) rfl rfl dX1_takeIn_193 (fun pl_103 hok_104 tr hn tl => ?_)
              replace hf_11 := tr _ _ _ (Or.inl (tt_ne hk2 ka_25 (by decide))) hf_11
              replace hf_27 := tr _ _ _ (Or.inr (by decide)) hf_27
              replace hf_30 := tr _ _ _ (Or.inl (tt_ne hk1 ka_25 (by decide))) hf_30
              replace hf_78 := tr _ _ _ (Or.inl (tt_ne hk2 ka_25 (by decide))) hf_78
              replace hf_81 := tr _ _ _ (Or.inr (by decide)) hf_81
              replace hf_98 := tr _ _ _ (Or.inr (by decide)) hf_98
              have hf_105 := hn
              replace hfr := hfr.put ka_25 tr (by decide)
              replace hfa := hfa.all tl
              refine jj_aload_n C dX1_takeIn_196 rfl ?_
              refine tt_get C hok_104 jk_2 10 (by decide) jw_489e37c5a2 (t := (2, 5, 0)) hk1 (by decide) rfl rfl dX1_takeIn_197 (fun v_106 hv_106 hf_107 => ?_)
              obtain ⟨a_108, rfl, ka_108⟩ := tt_vr hv_106
              refine jj_iconst (v := 2) C dX1_takeIn_200 (by decide) ?_
              refine jj_dup2 C dX1_takeIn_201 rfl rfl ?_
              refine tt_lald C hok_104 (t := (1, (-9223372036854775808), 9223372036854775807)) ka_108 (by decide) rfl (vp_in_iff.mpr (by decide)) dX1_takeIn_202 (fun v_109 hv_109 => ?_)
              refine jj_aload_n C dX1_takeIn_203 rfl ?_
              refine tt_getF C hok_104 jk_7 3 (by decide) jw_1a2f98b2b0 (t := (1, (-9223372036854775808), 9223372036854775807)) hk2 (by decide) rfl rfl hf_11 dX1_takeIn_204 ?_
              obtain ⟨y_110, ey_110⟩ : ∃ z : Int64, v_109 + y_12 = z := ⟨_, rfl⟩
              refine jj_ladd (v := y_110) C dX1_takeIn_207 ey_110 ?_
              refine tl_last C hok_104 (t := (1, (-9223372036854775808), 9223372036854775807)) ka_108 (by decide) rfl (vp_in_iff.mpr (by decide)) (tt_ja _) dX1_takeIn_208 (fun pl_111 hok_112 tr tl => ?_)
              replace hf_11 := tr _ _ _ hf_11
              replace hf_27 := tr _ _ _ hf_27
              replace hf_30 := tr _ _ _ hf_30
              replace hf_78 := tr _ _ _ hf_78
              replace hf_81 := tr _ _ _ hf_81
              replace hf_98 := tr _ _ _ hf_98
              replace hf_105 := tr _ _ _ hf_105
              replace hf_107 := tr _ _ _ hf_107
              replace hfr := hfr.arr tr
              replace hfa := hfa.wr ka_108 tl (by decide)
              refine jj_iconst (v := 1) C dX1_takeIn_209 (by decide) ?_
              exact jj_zret C rfl ⟨[], pl_111, rfl, rfl, hok_112, hfr, hfa, (Or.inr rfl)⟩ dX1_takeIn_210 (jj_le rfl) (jj_le rfl)
          · refine jj_iconst (v := 0) C dX1_takeIn_110 (by decide) ?_
            exact jj_zret C rfl ⟨[], pl0, rfl, rfl, hok, hfr, hfa, (Or.inl rfl)⟩ dX1_takeIn_111 (jj_le rfl) (jj_le rfl)
      · have z_c_9 := jc_nlt (a := (x_8).toInt) (b := (6)) c_9 rfl (by decide)
        refine jj_iconst (v := 0) C dX1_takeIn_79 (by decide) ?_
        exact jj_zret C rfl ⟨[], pl0, rfl, rfl, hok, hfr, hfa, (Or.inl rfl)⟩ dX1_takeIn_80 (jj_le rfl) (jj_le rfl)
  · have z_c_1 := jc_nlt (a := (p3).toInt) (b := (0)) c_1 rfl (by decide)
    exfalso; omega

set_option maxHeartbeats 4000000 in
set_option maxRecDepth 100000 in
theorem tc_X0_addLot_3 {l : Launch} (hl : l.stackTraces = false) (D : va_G) (cA : Nat → ClassId) (ak : (Nat → Nat) × (Nat → Nat)) {Kd : Nat → Nat} (h0 : Nat) (p1 : Int32) (p2 : Int32) (p3 : Int64) (p4 : Int64) (hk0 : Kd h0 = 1) {pl0 : va_W} (hok : tt_ok tt_tk cA Kd pl0) : jj_M l D cA ak yX0_addLot (.code yX0_addLot cX0_addLot 11 (some (.object "SeriesFund$Lot"))) 1 21 0 0 ([] ++ pl0) [.ref h0, .int p1, .int p2, .long p3, .long p4, .long 0] (tt_O (fun rx pl1 r => rx = [] ∧ tt_ok tt_tk cA Kd pl1 ∧ tt_fr Kd [(1, 8), (3, 0), (3, 1), (3, 2), (3, 3), (3, 4), (3, 5)] pl0 pl1 ∧ tt_fa Kd [] pl0 pl1 ∧ ((∃ v : Nat, Kd v = 3 ∧ r = some (.ref v))))) (tt_OX (fun _ _ _ => False)) := by
  refine jj_start hl (by decide) jw_a7bf4567f9 (jj_le rfl) ?_
  intro p e s m args below meth c A hargs hA C hex hmn
  have hfr := tt_fr.refl (K := Kd) (WS := [(1, 8), (3, 0), (3, 1), (3, 2), (3, 3), (3, 4), (3, 5)]) pl0
  have hfa := tt_fa.refl (K := Kd) (WA := []) pl0
  have lp1 := tt_lo p1
  have up1 := tt_hi p1
  have lp2 := tt_lo p2
  have up2 := tt_hi p2
  refine jj_aload_n C dX0_addLot_0 rfl ?_
  refine tt_get C hok jk_2 8 (by decide) jw_9d0ccd4490 (t := (0, 0, 40)) hk0 (by decide) rfl rfl dX0_addLot_1 (fun v_1 hv_1 hf_2 => ?_)
  obtain ⟨x_3, rfl, lx_3, ux_3⟩ := tt_vi hv_1
  refine jj_bipush (v := 39) C dX0_addLot_4 (by decide) ?_
  refine tt_call0S (rest := []) C (ct_J9_min_7cf53_2 hl D cA ak x_3) jw_91b79dc18e jw_bd781c2022 jw_a731c8553d jw_7adaf59315 jn_J9_min_7cf53 rfl (jj_le rfl) (jj_le rfl) (jj_le rfl) (jj_le rfl) (jj_le rfl) dX0_addLot_6 rfl (fun w1 r O_4 => ?_)
  rcases O_4 with ⟨c_5, -, rfl⟩ | ⟨c_6, -, rfl⟩
  · have z_c_5 := jc_lt (a := (39)) (b := (x_3).toInt) c_5 (by decide) rfl
    refine jj_istore C dX0_addLot_9 (by decide) rfl ?_
    refine jj_aload_n C dX0_addLot_11 rfl ?_
    refine tt_get C hok jk_2 12 (by decide) jw_5f730213e9 (t := (2, 7, 0)) hk0 (by decide) rfl rfl dX0_addLot_12 (fun v_7 hv_7 hf_8 => ?_)
    obtain ⟨a_9, rfl, ka_9⟩ := tt_vr hv_7
    refine jj_iload C dX0_addLot_15 rfl ?_
    refine tt_aald C hok (t := (2, 3, 0)) ka_9 (by decide) rfl rfl rfl (vp_in_iff.mpr (by decide)) dX0_addLot_17 (fun v_10 hv_10 => ?_)
    obtain ⟨a_11, rfl, ka_11⟩ := tt_vr hv_10
    refine jj_astore C dX0_addLot_18 (by decide) rfl ?_
    refine jj_aload C dX0_addLot_20 rfl ?_
    refine jj_iload_n C dX0_addLot_22 rfl ?_
    refine rl_put C hok jk_5 0 (by decide) jw_89374484be (t := (0, (-2147483648), 2147483647)) ka_11 (by decide) rfl rfl rfl (tt_ia p1) rfl rfl dX0_addLot_23 (fun pl_12 hok_13 tr hn tl => ?_)
    replace hf_2 := tr _ _ _ (Or.inl (tt_ne hk0 ka_11 (by decide))) hf_2
    replace hf_8 := tr _ _ _ (Or.inl (tt_ne hk0 ka_11 (by decide))) hf_8
    have hf_14 := hn
    replace hfr := hfr.put ka_11 tr (by decide)
    replace hfa := hfa.all tl
    refine jj_aload C dX0_addLot_26 rfl ?_
    refine jj_iload_n C dX0_addLot_28 rfl ?_
    refine rl_put C hok_13 jk_5 1 (by decide) jw_53dba63b8f (t := (0, (-2147483648), 2147483647)) ka_11 (by decide) rfl rfl rfl (tt_ia p2) rfl rfl dX0_addLot_29 (fun pl_15 hok_16 tr hn tl => ?_)
    replace hf_2 := tr _ _ _ (Or.inl (tt_ne hk0 ka_11 (by decide))) hf_2
    replace hf_8 := tr _ _ _ (Or.inl (tt_ne hk0 ka_11 (by decide))) hf_8
    replace hf_14 := tr _ _ _ (Or.inr (by decide)) hf_14
    have hf_17 := hn
    replace hfr := hfr.put ka_11 tr (by decide)
    replace hfa := hfa.all tl
    refine jj_aload C dX0_addLot_32 rfl ?_
    refine jj_lload_n C dX0_addLot_34 rfl ?_
    refine rl_put C hok_16 jk_5 3 (by decide) jw_1f6afd9b6f (t := (1, (-9223372036854775808), 9223372036854775807)) ka_11 (by decide) rfl rfl rfl (tt_ja p3) rfl rfl dX0_addLot_35 (fun pl_18 hok_19 tr hn tl => ?_)
    replace hf_2 := tr _ _ _ (Or.inl (tt_ne hk0 ka_11 (by decide))) hf_2
    replace hf_8 := tr _ _ _ (Or.inl (tt_ne hk0 ka_11 (by decide))) hf_8
    replace hf_14 := tr _ _ _ (Or.inr (by decide)) hf_14
    replace hf_17 := tr _ _ _ (Or.inr (by decide)) hf_17
    have hf_20 := hn
    replace hfr := hfr.put ka_11 tr (by decide)
    replace hfa := hfa.all tl
    refine jj_aload C dX0_addLot_38 rfl ?_
    refine jj_lload C dX0_addLot_40 rfl ?_
    refine rl_put C hok_19 jk_5 4 (by decide) jw_8e377b7e50 (t := (1, (-9223372036854775808), 9223372036854775807)) ka_11 (by decide) rfl rfl rfl (tt_ja p4) rfl rfl dX0_addLot_42 (fun pl_21 hok_22 tr hn tl => ?_)
    replace hf_2 := tr _ _ _ (Or.inl (tt_ne hk0 ka_11 (by decide))) hf_2
    replace hf_8 := tr _ _ _ (Or.inl (tt_ne hk0 ka_11 (by decide))) hf_8
    replace hf_14 := tr _ _ _ (Or.inr (by decide)) hf_14
    replace hf_17 := tr _ _ _ (Or.inr (by decide)) hf_17
    replace hf_20 := tr _ _ _ (Or.inr (by decide)) hf_20
    have hf_23 := hn
    replace hfr := hfr.put ka_11 tr (by decide)
    replace hfa := hfa.all tl
    refine jj_aload C dX0_addLot_45 rfl ?_
    refine jj_lload C dX0_addLot_47 rfl ?_
    refine rl_put C hok_22 jk_5 5 (by decide) jw_b0cee064c2 (t := (1, (-9223372036854775808), 9223372036854775807)) ka_11 (by decide) rfl rfl rfl (tt_ja (0 : Int64)) rfl rfl dX0_addLot_49 (fun pl_24 hok_25 tr hn tl => ?_)
    replace hf_2 := tr _ _ _ (Or.inl (tt_ne hk0 ka_11 (by decide))) hf_2
    replace hf_8 := tr _ _ _ (Or.inl (tt_ne hk0 ka_11 (by decide))) hf_8
    replace hf_14 := tr _ _ _ (Or.inr (by decide)) hf_14
    replace hf_17 := tr _ _ _ (Or.inr (by decide)) hf_17
    replace hf_20 := tr _ _ _ (Or.inr (by decide)) hf_20
    replace hf_23 := tr _ _ _ (Or.inr (by decide)) hf_23
    have hf_26 := hn
    replace hfr := hfr.put ka_11 tr (by decide)
    replace hfa := hfa.all tl
    refine jj_aload C dX0_addLot_52 rfl ?_
    refine jj_aload_n C dX0_addLot_54 rfl ?_
    refine tt_get C hok_25 jk_2 5 (by decide) jw_cd8f4320e7 (t := (0, (-2147483648), 2147483647)) hk0 (by decide) rfl rfl dX0_addLot_55 (fun v_27 hv_27 hf_28 => ?_)
    obtain ⟨x_29, rfl, lx_29, ux_29⟩ := tt_vi hv_27
    refine rl_put C hok_25 jk_5 2 (by decide) jw_f798be12c7 (t := (0, (-2147483648), 2147483647)) ka_11 (by decide) rfl rfl rfl (tt_ia x_29) rfl rfl dX0_addLot_58 (fun pl_30 hok_31 tr hn tl => ?_)
    replace hf_2 := tr _ _ _ (Or.inl (tt_ne hk0 ka_11 (by decide))) hf_2
    replace hf_8 := tr _ _ _ (Or.inl (tt_ne hk0 ka_11 (by decide))) hf_8
    replace hf_14 := tr _ _ _ (Or.inr (by decide)) hf_14
    replace hf_17 := tr _ _ _ (Or.inr (by decide)) hf_17
    replace hf_20 := tr _ _ _ (Or.inr (by decide)) hf_20
    replace hf_23 := tr _ _ _ (Or.inr (by decide)) hf_23
    replace hf_26 := tr _ _ _ (Or.inr (by decide)) hf_26
    replace hf_28 := tr _ _ _ (Or.inl (tt_ne hk0 ka_11 (by decide))) hf_28
    have hf_32 := hn
    replace hfr := hfr.put ka_11 tr (by decide)
    replace hfa := hfa.all tl
    refine jj_aload_n C dX0_addLot_61 rfl ?_
    refine jj_iload C dX0_addLot_62 rfl ?_
    refine jj_iconst (v := 1) C dX0_addLot_64 (by decide) ?_
    refine jj_iadd (v := 40) C dX0_addLot_65 (by decide) ?_
    refine rl_put C hok_31 jk_2 8 (by decide) jw_9d0ccd4490 (t := (0, 0, 40)) hk0 (by decide) rfl rfl rfl (tt_iv (by decide) (by decide)) rfl rfl dX0_addLot_66 (fun pl_33 hok_34 tr hn tl => ?_)
    replace hf_8 := tr _ _ _ (Or.inr (by decide)) hf_8
    replace hf_14 := tr _ _ _ (Or.inl (tt_ne ka_11 hk0 (by decide))) hf_14
    replace hf_17 := tr _ _ _ (Or.inl (tt_ne ka_11 hk0 (by decide))) hf_17
    replace hf_20 := tr _ _ _ (Or.inl (tt_ne ka_11 hk0 (by decide))) hf_20
    replace hf_23 := tr _ _ _ (Or.inl (tt_ne ka_11 hk0 (by decide))) hf_23
    replace hf_26 := tr _ _ _ (Or.inl (tt_ne ka_11 hk0 (by decide))) hf_26
    replace hf_28 := tr _ _ _ (Or.inr (by decide)) hf_28
    replace hf_32 := tr _ _ _ (Or.inl (tt_ne ka_11 hk0 (by decide))) hf_32
    have hf_35 := hn
    replace hfr := hfr.put hk0 tr (by decide)
    replace hfa := hfa.all tl
    refine jj_aload C dX0_addLot_69 rfl ?_
    exact jj_aret C (Or.inl ⟨_, rfl⟩) ⟨[], pl_33, rfl, rfl, hok_34, hfr, hfa, ⟨a_11, ka_11, rfl⟩⟩ dX0_addLot_71 (jj_le rfl) (jj_le rfl)
  · have z_c_6 := jc_nlt (a := (39)) (b := (x_3).toInt) c_6 (by decide) rfl
    refine jj_istore C dX0_addLot_9 (by decide) rfl ?_
    refine jj_aload_n C dX0_addLot_11 rfl ?_
    refine tt_get C hok jk_2 12 (by decide) jw_5f730213e9 (t := (2, 7, 0)) hk0 (by decide) rfl rfl dX0_addLot_12 (fun v_36 hv_36 hf_37 => ?_)
    obtain ⟨a_38, rfl, ka_38⟩ := tt_vr hv_36
    refine jj_iload C dX0_addLot_15 rfl ?_
    refine tt_aald C hok (t := (2, 3, 0)) ka_38 (by decide) rfl rfl rfl (vp_in_iff.mpr ⟨by omega, by omega⟩) dX0_addLot_17 (fun v_39 hv_39 => ?_)
    obtain ⟨a_40, rfl, ka_40⟩ := tt_vr hv_39
    refine jj_astore C dX0_addLot_18 (by decide) rfl ?_
    refine jj_aload C dX0_addLot_20 rfl ?_
    refine jj_iload_n C dX0_addLot_22 rfl ?_
    refine rl_put C hok jk_5 0 (by decide) jw_89374484be (t := (0, (-2147483648), 2147483647)) ka_40 (by decide) rfl rfl rfl (tt_ia p1) rfl rfl dX0_addLot_23 (fun pl_41 hok_42 tr hn tl => ?_)
    replace hf_2 := tr _ _ _ (Or.inl (tt_ne hk0 ka_40 (by decide))) hf_2
    replace hf_37 := tr _ _ _ (Or.inl (tt_ne hk0 ka_40 (by decide))) hf_37
    have hf_43 := hn
    replace hfr := hfr.put ka_40 tr (by decide)
    replace hfa := hfa.all tl
    refine jj_aload C dX0_addLot_26 rfl ?_
    refine jj_iload_n C dX0_addLot_28 rfl ?_
    refine rl_put C hok_42 jk_5 1 (by decide) jw_53dba63b8f (t := (0, (-2147483648), 2147483647)) ka_40 (by decide) rfl rfl rfl (tt_ia p2) rfl rfl dX0_addLot_29 (fun pl_44 hok_45 tr hn tl => ?_)
    replace hf_2 := tr _ _ _ (Or.inl (tt_ne hk0 ka_40 (by decide))) hf_2
    replace hf_37 := tr _ _ _ (Or.inl (tt_ne hk0 ka_40 (by decide))) hf_37
    replace hf_43 := tr _ _ _ (Or.inr (by decide)) hf_43
    have hf_46 := hn
    replace hfr := hfr.put ka_40 tr (by decide)
    replace hfa := hfa.all tl
    refine jj_aload C dX0_addLot_32 rfl ?_
    refine jj_lload_n C dX0_addLot_34 rfl ?_
    refine rl_put C hok_45 jk_5 3 (by decide) jw_1f6afd9b6f (t := (1, (-9223372036854775808), 9223372036854775807)) ka_40 (by decide) rfl rfl rfl (tt_ja p3) rfl rfl dX0_addLot_35 (fun pl_47 hok_48 tr hn tl => ?_)
    replace hf_2 := tr _ _ _ (Or.inl (tt_ne hk0 ka_40 (by decide))) hf_2
    replace hf_37 := tr _ _ _ (Or.inl (tt_ne hk0 ka_40 (by decide))) hf_37
    replace hf_43 := tr _ _ _ (Or.inr (by decide)) hf_43
    replace hf_46 := tr _ _ _ (Or.inr (by decide)) hf_46
    have hf_49 := hn
    replace hfr := hfr.put ka_40 tr (by decide)
    replace hfa := hfa.all tl
    refine jj_aload C dX0_addLot_38 rfl ?_
    refine jj_lload C dX0_addLot_40 rfl ?_
    refine rl_put C hok_48 jk_5 4 (by decide) jw_8e377b7e50 (t := (1, (-9223372036854775808), 9223372036854775807)) ka_40 (by decide) rfl rfl rfl (tt_ja p4) rfl rfl dX0_addLot_42 (fun pl_50 hok_51 tr hn tl => ?_)
    replace hf_2 := tr _ _ _ (Or.inl (tt_ne hk0 ka_40 (by decide))) hf_2
    replace hf_37 := tr _ _ _ (Or.inl (tt_ne hk0 ka_40 (by decide))) hf_37
    replace hf_43 := tr _ _ _ (Or.inr (by decide)) hf_43
    replace hf_46 := tr _ _ _ (Or.inr (by decide)) hf_46
    replace hf_49 := tr _ _ _ (Or.inr (by decide)) hf_49
    have hf_52 := hn
    replace hfr := hfr.put ka_40 tr (by decide)
    replace hfa := hfa.all tl
    refine jj_aload C dX0_addLot_45 rfl ?_
    refine jj_lload C dX0_addLot_47 rfl ?_
    refine rl_put C hok_51 jk_5 5 (by decide) jw_b0cee064c2 (t := (1, (-9223372036854775808), 9223372036854775807)) ka_40 (by decide) rfl rfl rfl (tt_ja (0 : Int64)) rfl rfl dX0_addLot_49 (fun pl_53 hok_54 tr hn tl => ?_)
    replace hf_2 := tr _ _ _ (Or.inl (tt_ne hk0 ka_40 (by decide))) hf_2
    replace hf_37 := tr _ _ _ (Or.inl (tt_ne hk0 ka_40 (by decide))) hf_37
    replace hf_43 := tr _ _ _ (Or.inr (by decide)) hf_43
    replace hf_46 := tr _ _ _ (Or.inr (by decide)) hf_46
    replace hf_49 := tr _ _ _ (Or.inr (by decide)) hf_49
    replace hf_52 := tr _ _ _ (Or.inr (by decide)) hf_52
    have hf_55 := hn
    replace hfr := hfr.put ka_40 tr (by decide)
    replace hfa := hfa.all tl
    refine jj_aload C dX0_addLot_52 rfl ?_
    refine jj_aload_n C dX0_addLot_54 rfl ?_
    refine tt_get C hok_54 jk_2 5 (by decide) jw_cd8f4320e7 (t := (0, (-2147483648), 2147483647)) hk0 (by decide) rfl rfl dX0_addLot_55 (fun v_56 hv_56 hf_57 => ?_)
    obtain ⟨x_58, rfl, lx_58, ux_58⟩ := tt_vi hv_56
    refine rl_put C hok_54 jk_5 2 (by decide) jw_f798be12c7 (t := (0, (-2147483648), 2147483647)) ka_40 (by decide) rfl rfl rfl (tt_ia x_58) rfl rfl dX0_addLot_58 (fun pl_59 hok_60 tr hn tl => ?_)
    replace hf_2 := tr _ _ _ (Or.inl (tt_ne hk0 ka_40 (by decide))) hf_2
    replace hf_37 := tr _ _ _ (Or.inl (tt_ne hk0 ka_40 (by decide))) hf_37
    replace hf_43 := tr _ _ _ (Or.inr (by decide)) hf_43
    replace hf_46 := tr _ _ _ (Or.inr (by decide)) hf_46
    replace hf_49 := tr _ _ _ (Or.inr (by decide)) hf_49
    replace hf_52 := tr _ _ _ (Or.inr (by decide)) hf_52
    replace hf_55 := tr _ _ _ (Or.inr (by decide)) hf_55
    replace hf_57 := tr _ _ _ (Or.inl (tt_ne hk0 ka_40 (by decide))) hf_57
    have hf_61 := hn
    replace hfr := hfr.put ka_40 tr (by decide)
    replace hfa := hfa.all tl
    refine jj_aload_n C dX0_addLot_61 rfl ?_
    refine jj_iload C dX0_addLot_62 rfl ?_
    refine jj_iconst (v := 1) C dX0_addLot_64 (by decide) ?_
    obtain ⟨x_62, ex_62, vx_62⟩ := tt_iadd (x := x_3) (y := (1 : Int32)) (a := x_3.toInt) rfl (b := 1) (by decide) (by omega) (by omega)
    refine jj_iadd (v := x_62) C dX0_addLot_65 ex_62 ?_
    refine rl_put C hok_60 jk_2 8 (by decide) jw_9d0ccd4490 (t := (0, 0, 40)) hk0 (by decide) rfl rfl rfl (tt_iv (by omega) (by omega)) rfl rfl dX0_addLot_66 (fun pl_63 hok_64 tr hn tl => ?_)
    replace hf_37 := tr _ _ _ (Or.inr (by decide)) hf_37
    replace hf_43 := tr _ _ _ (Or.inl (tt_ne ka_40 hk0 (by decide))) hf_43
    replace hf_46 := tr _ _ _ (Or.inl (tt_ne ka_40 hk0 (by decide))) hf_46
    replace hf_49 := tr _ _ _ (Or.inl (tt_ne ka_40 hk0 (by decide))) hf_49
    replace hf_52 := tr _ _ _ (Or.inl (tt_ne ka_40 hk0 (by decide))) hf_52
    replace hf_55 := tr _ _ _ (Or.inl (tt_ne ka_40 hk0 (by decide))) hf_55
    replace hf_57 := tr _ _ _ (Or.inr (by decide)) hf_57
    replace hf_61 := tr _ _ _ (Or.inl (tt_ne ka_40 hk0 (by decide))) hf_61
    have hf_65 := hn
    replace hfr := hfr.put hk0 tr (by decide)
    replace hfa := hfa.all tl
    refine jj_aload C dX0_addLot_69 rfl ?_
    exact jj_aret C (Or.inl ⟨_, rfl⟩) ⟨[], pl_63, rfl, rfl, hok_64, hfr, hfa, ⟨a_40, ka_40, rfl⟩⟩ dX0_addLot_71 (jj_le rfl) (jj_le rfl)

set_option maxHeartbeats 4000000 in
set_option maxRecDepth 100000 in
theorem tc_X0_addLot_4 {l : Launch} (hl : l.stackTraces = false) (D : va_G) (cA : Nat → ClassId) (ak : (Nat → Nat) × (Nat → Nat)) {Kd : Nat → Nat} (h0 : Nat) (p1 : Int32) (p2 : Int32) (p3 : Int64) (p4 : Int64) (p5 : Int64) (hk0 : Kd h0 = 1) {pl0 : va_W} (hok : tt_ok tt_tk cA Kd pl0) : jj_M l D cA ak yX0_addLot (.code yX0_addLot cX0_addLot 11 (some (.object "SeriesFund$Lot"))) 1 21 0 0 ([] ++ pl0) [.ref h0, .int p1, .int p2, .long p3, .long p4, .long p5] (tt_O (fun rx pl1 r => rx = [] ∧ tt_ok tt_tk cA Kd pl1 ∧ tt_fr Kd [(1, 8), (3, 0), (3, 1), (3, 2), (3, 3), (3, 4), (3, 5)] pl0 pl1 ∧ tt_fa Kd [] pl0 pl1 ∧ ((∃ v : Nat, Kd v = 3 ∧ r = some (.ref v))))) (tt_OX (fun _ _ _ => False)) := by
  refine jj_start hl (by decide) jw_a7bf4567f9 (jj_le rfl) ?_
  intro p e s m args below meth c A hargs hA C hex hmn
  have hfr := tt_fr.refl (K := Kd) (WS := [(1, 8), (3, 0), (3, 1), (3, 2), (3, 3), (3, 4), (3, 5)]) pl0
  have hfa := tt_fa.refl (K := Kd) (WA := []) pl0
  have lp1 := tt_lo p1
  have up1 := tt_hi p1
  have lp2 := tt_lo p2
  have up2 := tt_hi p2
  refine jj_aload_n C dX0_addLot_0 rfl ?_
  refine tt_get C hok jk_2 8 (by decide) jw_9d0ccd4490 (t := (0, 0, 40)) hk0 (by decide) rfl rfl dX0_addLot_1 (fun v_1 hv_1 hf_2 => ?_)
  obtain ⟨x_3, rfl, lx_3, ux_3⟩ := tt_vi hv_1
  refine jj_bipush (v := 39) C dX0_addLot_4 (by decide) ?_
  refine tt_call0S (rest := []) C (ct_J9_min_7cf53_2 hl D cA ak x_3) jw_91b79dc18e jw_bd781c2022 jw_a731c8553d jw_7adaf59315 jn_J9_min_7cf53 rfl (jj_le rfl) (jj_le rfl) (jj_le rfl) (jj_le rfl) (jj_le rfl) dX0_addLot_6 rfl (fun w1 r O_4 => ?_)
  rcases O_4 with ⟨c_5, -, rfl⟩ | ⟨c_6, -, rfl⟩
  · have z_c_5 := jc_lt (a := (39)) (b := (x_3).toInt) c_5 (by decide) rfl
    refine jj_istore C dX0_addLot_9 (by decide) rfl ?_
    refine jj_aload_n C dX0_addLot_11 rfl ?_
    refine tt_get C hok jk_2 12 (by decide) jw_5f730213e9 (t := (2, 7, 0)) hk0 (by decide) rfl rfl dX0_addLot_12 (fun v_7 hv_7 hf_8 => ?_)
    obtain ⟨a_9, rfl, ka_9⟩ := tt_vr hv_7
    refine jj_iload C dX0_addLot_15 rfl ?_
    refine tt_aald C hok (t := (2, 3, 0)) ka_9 (by decide) rfl rfl rfl (vp_in_iff.mpr (by decide)) dX0_addLot_17 (fun v_10 hv_10 => ?_)
    obtain ⟨a_11, rfl, ka_11⟩ := tt_vr hv_10
    refine jj_astore C dX0_addLot_18 (by decide) rfl ?_
    refine jj_aload C dX0_addLot_20 rfl ?_
    refine jj_iload_n C dX0_addLot_22 rfl ?_
    refine rl_put C hok jk_5 0 (by decide) jw_89374484be (t := (0, (-2147483648), 2147483647)) ka_11 (by decide) rfl rfl rfl (tt_ia p1) rfl rfl dX0_addLot_23 (fun pl_12 hok_13 tr hn tl => ?_)
    replace hf_2 := tr _ _ _ (Or.inl (tt_ne hk0 ka_11 (by decide))) hf_2
    replace hf_8 := tr _ _ _ (Or.inl (tt_ne hk0 ka_11 (by decide))) hf_8
    have hf_14 := hn
    replace hfr := hfr.put ka_11 tr (by decide)
    replace hfa := hfa.all tl
    refine jj_aload C dX0_addLot_26 rfl ?_
    refine jj_iload_n C dX0_addLot_28 rfl ?_
    refine rl_put C hok_13 jk_5 1 (by decide) jw_53dba63b8f (t := (0, (-2147483648), 2147483647)) ka_11 (by decide) rfl rfl rfl (tt_ia p2) rfl rfl dX0_addLot_29 (fun pl_15 hok_16 tr hn tl => ?_)
    replace hf_2 := tr _ _ _ (Or.inl (tt_ne hk0 ka_11 (by decide))) hf_2
    replace hf_8 := tr _ _ _ (Or.inl (tt_ne hk0 ka_11 (by decide))) hf_8
    replace hf_14 := tr _ _ _ (Or.inr (by decide)) hf_14
    have hf_17 := hn
    replace hfr := hfr.put ka_11 tr (by decide)
    replace hfa := hfa.all tl
    refine jj_aload C dX0_addLot_32 rfl ?_
    refine jj_lload_n C dX0_addLot_34 rfl ?_
    refine rl_put C hok_16 jk_5 3 (by decide) jw_1f6afd9b6f (t := (1, (-9223372036854775808), 9223372036854775807)) ka_11 (by decide) rfl rfl rfl (tt_ja p3) rfl rfl dX0_addLot_35 (fun pl_18 hok_19 tr hn tl => ?_)
    replace hf_2 := tr _ _ _ (Or.inl (tt_ne hk0 ka_11 (by decide))) hf_2
    replace hf_8 := tr _ _ _ (Or.inl (tt_ne hk0 ka_11 (by decide))) hf_8
    replace hf_14 := tr _ _ _ (Or.inr (by decide)) hf_14
    replace hf_17 := tr _ _ _ (Or.inr (by decide)) hf_17
    have hf_20 := hn
    replace hfr := hfr.put ka_11 tr (by decide)
    replace hfa := hfa.all tl
    refine jj_aload C dX0_addLot_38 rfl ?_
    refine jj_lload C dX0_addLot_40 rfl ?_
    refine rl_put C hok_19 jk_5 4 (by decide) jw_8e377b7e50 (t := (1, (-9223372036854775808), 9223372036854775807)) ka_11 (by decide) rfl rfl rfl (tt_ja p4) rfl rfl dX0_addLot_42 (fun pl_21 hok_22 tr hn tl => ?_)
    replace hf_2 := tr _ _ _ (Or.inl (tt_ne hk0 ka_11 (by decide))) hf_2
    replace hf_8 := tr _ _ _ (Or.inl (tt_ne hk0 ka_11 (by decide))) hf_8
    replace hf_14 := tr _ _ _ (Or.inr (by decide)) hf_14
    replace hf_17 := tr _ _ _ (Or.inr (by decide)) hf_17
    replace hf_20 := tr _ _ _ (Or.inr (by decide)) hf_20
    have hf_23 := hn
    replace hfr := hfr.put ka_11 tr (by decide)
    replace hfa := hfa.all tl
    refine jj_aload C dX0_addLot_45 rfl ?_
    refine jj_lload C dX0_addLot_47 rfl ?_
    refine rl_put C hok_22 jk_5 5 (by decide) jw_b0cee064c2 (t := (1, (-9223372036854775808), 9223372036854775807)) ka_11 (by decide) rfl rfl rfl (tt_ja p5) rfl rfl dX0_addLot_49 (fun pl_24 hok_25 tr hn tl => ?_)
    replace hf_2 := tr _ _ _ (Or.inl (tt_ne hk0 ka_11 (by decide))) hf_2
    replace hf_8 := tr _ _ _ (Or.inl (tt_ne hk0 ka_11 (by decide))) hf_8
    replace hf_14 := tr _ _ _ (Or.inr (by decide)) hf_14
    replace hf_17 := tr _ _ _ (Or.inr (by decide)) hf_17
    replace hf_20 := tr _ _ _ (Or.inr (by decide)) hf_20
    replace hf_23 := tr _ _ _ (Or.inr (by decide)) hf_23
    have hf_26 := hn
    replace hfr := hfr.put ka_11 tr (by decide)
    replace hfa := hfa.all tl
    refine jj_aload C dX0_addLot_52 rfl ?_
    refine jj_aload_n C dX0_addLot_54 rfl ?_
    refine tt_get C hok_25 jk_2 5 (by decide) jw_cd8f4320e7 (t := (0, (-2147483648), 2147483647)) hk0 (by decide) rfl rfl dX0_addLot_55 (fun v_27 hv_27 hf_28 => ?_)
    obtain ⟨x_29, rfl, lx_29, ux_29⟩ := tt_vi hv_27
    refine rl_put C hok_25 jk_5 2 (by decide) jw_f798be12c7 (t := (0, (-2147483648), 2147483647)) ka_11 (by decide) rfl rfl rfl (tt_ia x_29) rfl rfl dX0_addLot_58 (fun pl_30 hok_31 tr hn tl => ?_)
    replace hf_2 := tr _ _ _ (Or.inl (tt_ne hk0 ka_11 (by decide))) hf_2
    replace hf_8 := tr _ _ _ (Or.inl (tt_ne hk0 ka_11 (by decide))) hf_8
    replace hf_14 := tr _ _ _ (Or.inr (by decide)) hf_14
    replace hf_17 := tr _ _ _ (Or.inr (by decide)) hf_17
    replace hf_20 := tr _ _ _ (Or.inr (by decide)) hf_20
    replace hf_23 := tr _ _ _ (Or.inr (by decide)) hf_23
    replace hf_26 := tr _ _ _ (Or.inr (by decide)) hf_26
    replace hf_28 := tr _ _ _ (Or.inl (tt_ne hk0 ka_11 (by decide))) hf_28
    have hf_32 := hn
    replace hfr := hfr.put ka_11 tr (by decide)
    replace hfa := hfa.all tl
    refine jj_aload_n C dX0_addLot_61 rfl ?_
    refine jj_iload C dX0_addLot_62 rfl ?_
    refine jj_iconst (v := 1) C dX0_addLot_64 (by decide) ?_
    refine jj_iadd (v := 40) C dX0_addLot_65 (by decide) ?_
    refine rl_put C hok_31 jk_2 8 (by decide) jw_9d0ccd4490 (t := (0, 0, 40)) hk0 (by decide) rfl rfl rfl (tt_iv (by decide) (by decide)) rfl rfl dX0_addLot_66 (fun pl_33 hok_34 tr hn tl => ?_)
    replace hf_8 := tr _ _ _ (Or.inr (by decide)) hf_8
    replace hf_14 := tr _ _ _ (Or.inl (tt_ne ka_11 hk0 (by decide))) hf_14
    replace hf_17 := tr _ _ _ (Or.inl (tt_ne ka_11 hk0 (by decide))) hf_17
    replace hf_20 := tr _ _ _ (Or.inl (tt_ne ka_11 hk0 (by decide))) hf_20
    replace hf_23 := tr _ _ _ (Or.inl (tt_ne ka_11 hk0 (by decide))) hf_23
    replace hf_26 := tr _ _ _ (Or.inl (tt_ne ka_11 hk0 (by decide))) hf_26
    replace hf_28 := tr _ _ _ (Or.inr (by decide)) hf_28
    replace hf_32 := tr _ _ _ (Or.inl (tt_ne ka_11 hk0 (by decide))) hf_32
    have hf_35 := hn
    replace hfr := hfr.put hk0 tr (by decide)
    replace hfa := hfa.all tl
    refine jj_aload C dX0_addLot_69 rfl ?_
    exact jj_aret C (Or.inl ⟨_, rfl⟩) ⟨[], pl_33, rfl, rfl, hok_34, hfr, hfa, ⟨a_11, ka_11, rfl⟩⟩ dX0_addLot_71 (jj_le rfl) (jj_le rfl)
  · have z_c_6 := jc_nlt (a := (39)) (b := (x_3).toInt) c_6 (by decide) rfl
    refine jj_istore C dX0_addLot_9 (by decide) rfl ?_
    refine jj_aload_n C dX0_addLot_11 rfl ?_
    refine tt_get C hok jk_2 12 (by decide) jw_5f730213e9 (t := (2, 7, 0)) hk0 (by decide) rfl rfl dX0_addLot_12 (fun v_36 hv_36 hf_37 => ?_)
    obtain ⟨a_38, rfl, ka_38⟩ := tt_vr hv_36
    refine jj_iload C dX0_addLot_15 rfl ?_
    refine tt_aald C hok (t := (2, 3, 0)) ka_38 (by decide) rfl rfl rfl (vp_in_iff.mpr ⟨by omega, by omega⟩) dX0_addLot_17 (fun v_39 hv_39 => ?_)
    obtain ⟨a_40, rfl, ka_40⟩ := tt_vr hv_39
    refine jj_astore C dX0_addLot_18 (by decide) rfl ?_
    refine jj_aload C dX0_addLot_20 rfl ?_
    refine jj_iload_n C dX0_addLot_22 rfl ?_
    refine rl_put C hok jk_5 0 (by decide) jw_89374484be (t := (0, (-2147483648), 2147483647)) ka_40 (by decide) rfl rfl rfl (tt_ia p1) rfl rfl dX0_addLot_23 (fun pl_41 hok_42 tr hn tl => ?_)
    replace hf_2 := tr _ _ _ (Or.inl (tt_ne hk0 ka_40 (by decide))) hf_2
    replace hf_37 := tr _ _ _ (Or.inl (tt_ne hk0 ka_40 (by decide))) hf_37
    have hf_43 := hn
    replace hfr := hfr.put ka_40 tr (by decide)
    replace hfa := hfa.all tl
    refine jj_aload C dX0_addLot_26 rfl ?_
    refine jj_iload_n C dX0_addLot_28 rfl ?_
    refine rl_put C hok_42 jk_5 1 (by decide) jw_53dba63b8f (t := (0, (-2147483648), 2147483647)) ka_40 (by decide) rfl rfl rfl (tt_ia p2) rfl rfl dX0_addLot_29 (fun pl_44 hok_45 tr hn tl => ?_)
    replace hf_2 := tr _ _ _ (Or.inl (tt_ne hk0 ka_40 (by decide))) hf_2
    replace hf_37 := tr _ _ _ (Or.inl (tt_ne hk0 ka_40 (by decide))) hf_37
    replace hf_43 := tr _ _ _ (Or.inr (by decide)) hf_43
    have hf_46 := hn
    replace hfr := hfr.put ka_40 tr (by decide)
    replace hfa := hfa.all tl
    refine jj_aload C dX0_addLot_32 rfl ?_
    refine jj_lload_n C dX0_addLot_34 rfl ?_
    refine rl_put C hok_45 jk_5 3 (by decide) jw_1f6afd9b6f (t := (1, (-9223372036854775808), 9223372036854775807)) ka_40 (by decide) rfl rfl rfl (tt_ja p3) rfl rfl dX0_addLot_35 (fun pl_47 hok_48 tr hn tl => ?_)
    replace hf_2 := tr _ _ _ (Or.inl (tt_ne hk0 ka_40 (by decide))) hf_2
    replace hf_37 := tr _ _ _ (Or.inl (tt_ne hk0 ka_40 (by decide))) hf_37
    replace hf_43 := tr _ _ _ (Or.inr (by decide)) hf_43
    replace hf_46 := tr _ _ _ (Or.inr (by decide)) hf_46
    have hf_49 := hn
    replace hfr := hfr.put ka_40 tr (by decide)
    replace hfa := hfa.all tl
    refine jj_aload C dX0_addLot_38 rfl ?_
    refine jj_lload C dX0_addLot_40 rfl ?_
    refine rl_put C hok_48 jk_5 4 (by decide) jw_8e377b7e50 (t := (1, (-9223372036854775808), 9223372036854775807)) ka_40 (by decide) rfl rfl rfl (tt_ja p4) rfl rfl dX0_addLot_42 (fun pl_50 hok_51 tr hn tl => ?_)
    replace hf_2 := tr _ _ _ (Or.inl (tt_ne hk0 ka_40 (by decide))) hf_2
    replace hf_37 := tr _ _ _ (Or.inl (tt_ne hk0 ka_40 (by decide))) hf_37
    replace hf_43 := tr _ _ _ (Or.inr (by decide)) hf_43
    replace hf_46 := tr _ _ _ (Or.inr (by decide)) hf_46
    replace hf_49 := tr _ _ _ (Or.inr (by decide)) hf_49
    have hf_52 := hn
    replace hfr := hfr.put ka_40 tr (by decide)
    replace hfa := hfa.all tl
    refine jj_aload C dX0_addLot_45 rfl ?_
    refine jj_lload C dX0_addLot_47 rfl ?_
    refine rl_put C hok_51 jk_5 5 (by decide) jw_b0cee064c2 (t := (1, (-9223372036854775808), 9223372036854775807)) ka_40 (by decide) rfl rfl rfl (tt_ja p5) rfl rfl dX0_addLot_49 (fun pl_53 hok_54 tr hn tl => ?_)
    replace hf_2 := tr _ _ _ (Or.inl (tt_ne hk0 ka_40 (by decide))) hf_2
    replace hf_37 := tr _ _ _ (Or.inl (tt_ne hk0 ka_40 (by decide))) hf_37
    replace hf_43 := tr _ _ _ (Or.inr (by decide)) hf_43
    replace hf_46 := tr _ _ _ (Or.inr (by decide)) hf_46
    replace hf_49 := tr _ _ _ (Or.inr (by decide)) hf_49
    replace hf_52 := tr _ _ _ (Or.inr (by decide)) hf_52
    have hf_55 := hn
    replace hfr := hfr.put ka_40 tr (by decide)
    replace hfa := hfa.all tl
    refine jj_aload C dX0_addLot_52 rfl ?_
    refine jj_aload_n C dX0_addLot_54 rfl ?_
    refine tt_get C hok_54 jk_2 5 (by decide) jw_cd8f4320e7 (t := (0, (-2147483648), 2147483647)) hk0 (by decide) rfl rfl dX0_addLot_55 (fun v_56 hv_56 hf_57 => ?_)
    obtain ⟨x_58, rfl, lx_58, ux_58⟩ := tt_vi hv_56
    refine rl_put C hok_54 jk_5 2 (by decide) jw_f798be12c7 (t := (0, (-2147483648), 2147483647)) ka_40 (by decide) rfl rfl rfl (tt_ia x_58) rfl rfl dX0_addLot_58 (fun pl_59 hok_60 tr hn tl => ?_)
    replace hf_2 := tr _ _ _ (Or.inl (tt_ne hk0 ka_40 (by decide))) hf_2
    replace hf_37 := tr _ _ _ (Or.inl (tt_ne hk0 ka_40 (by decide))) hf_37
    replace hf_43 := tr _ _ _ (Or.inr (by decide)) hf_43
    replace hf_46 := tr _ _ _ (Or.inr (by decide)) hf_46
    replace hf_49 := tr _ _ _ (Or.inr (by decide)) hf_49
    replace hf_52 := tr _ _ _ (Or.inr (by decide)) hf_52
    replace hf_55 := tr _ _ _ (Or.inr (by decide)) hf_55
    replace hf_57 := tr _ _ _ (Or.inl (tt_ne hk0 ka_40 (by decide))) hf_57
    have hf_61 := hn
    replace hfr := hfr.put ka_40 tr (by decide)
    replace hfa := hfa.all tl
    refine jj_aload_n C dX0_addLot_61 rfl ?_
    refine jj_iload C dX0_addLot_62 rfl ?_
    refine jj_iconst (v := 1) C dX0_addLot_64 (by decide) ?_
    obtain ⟨x_62, ex_62, vx_62⟩ := tt_iadd (x := x_3) (y := (1 : Int32)) (a := x_3.toInt) rfl (b := 1) (by decide) (by omega) (by omega)
    refine jj_iadd (v := x_62) C dX0_addLot_65 ex_62 ?_
    refine rl_put C hok_60 jk_2 8 (by decide) jw_9d0ccd4490 (t := (0, 0, 40)) hk0 (by decide) rfl rfl rfl (tt_iv (by omega) (by omega)) rfl rfl dX0_addLot_66 (fun pl_63 hok_64 tr hn tl => ?_)
    replace hf_37 := tr _ _ _ (Or.inr (by decide)) hf_37
    replace hf_43 := tr _ _ _ (Or.inl (tt_ne ka_40 hk0 (by decide))) hf_43
    replace hf_46 := tr _ _ _ (Or.inl (tt_ne ka_40 hk0 (by decide))) hf_46
    replace hf_49 := tr _ _ _ (Or.inl (tt_ne ka_40 hk0 (by decide))) hf_49
    replace hf_52 := tr _ _ _ (Or.inl (tt_ne ka_40 hk0 (by decide))) hf_52
    replace hf_55 := tr _ _ _ (Or.inl (tt_ne ka_40 hk0 (by decide))) hf_55
    replace hf_57 := tr _ _ _ (Or.inr (by decide)) hf_57
    replace hf_61 := tr _ _ _ (Or.inl (tt_ne ka_40 hk0 (by decide))) hf_61
    have hf_65 := hn
    replace hfr := hfr.put hk0 tr (by decide)
    replace hfa := hfa.all tl
    refine jj_aload C dX0_addLot_69 rfl ?_
    exact jj_aret C (Or.inl ⟨_, rfl⟩) ⟨[], pl_63, rfl, rfl, hok_64, hfr, hfa, ⟨a_40, ka_40, rfl⟩⟩ dX0_addLot_71 (jj_le rfl) (jj_le rfl)

