set_option maxHeartbeats 4000000 in
set_option maxRecDepth 100000 in
theorem tc_X5_write_1 {l : Launch} (hl : l.stackTraces = false) (D : va_G) (cA : Nat → ClassId) (ak : (Nat → Nat) × (Nat → Nat)) {Kd : Nat → Nat} (h0 : Nat) (h1 : Nat) (hk0 : Kd h0 = 12) (hk1 : Kd h1 = 1) {pl0 : va_W} (hok : tt_ok tt_tk cA Kd pl0) : jj_M l D cA ak yX5_write (.code yX5_write cX5_write 3 none) 7 158 0 0 ([] ++ pl0) [.ref h0, .ref h1] (tt_O (fun rx pl1 r => rx = [] ∧ tt_ok tt_tk cA Kd pl1 ∧ tt_fr Kd [(12, 1)] pl0 pl1 ∧ tt_fa Kd [13, 14] pl0 pl1 ∧ ((r = none)))) (tt_OX (fun _ _ _ => False)) := by
  refine jj_start hl (by decide) jw_6cf6156307 (jj_le rfl) ?_
  intro p e s m args below meth c A hargs hA C hex hmn
  have hfr := tt_fr.refl (K := Kd) (WS := [(12, 1)]) pl0
  have hfa := tt_fa.refl (K := Kd) (WA := [13, 14]) pl0
  refine jj_aload_n C dX5_write_0 rfl ?_
  refine jj_iconst (v := 0) C dX5_write_1 (by decide) ?_
  refine rl_put C hok jk_6 1 (by decide) jw_a08fdff3bb (t := (0, 0, 1300)) hk0 (by decide) rfl rfl rfl (tt_iv (by decide) (by decide)) rfl rfl dX5_write_2 (fun pl_1 hok_2 tr hn tl => ?_)
  have hf_3 := hn
  replace hfr := hfr.put hk0 tr (by decide)
  replace hfa := hfa.all tl
  refine jj_aload_n C dX5_write_5 rfl ?_
  refine jj_ldcs (k := 13) (tx := "day ") C dX5_write_6 (by decide +kernel) ?_
  obtain ⟨qc, gs, hqc⟩ := tt_recv (cx := []) hok_2 hk0 (by decide) rfl
  refine tt_callV (rest := []) C (tc_X5_putText_1 hl D cA ak h0 hk0 hok_2) [] [] rfl rfl (by decide) (by decide) (by decide) qc hqc rfl rfl jw_ff91692536 jw_b9307dcbf6 jw_3d1837b6f1 jw_30ed28480a jw_5a16104e3b jn_X5_putText rfl (jj_le rfl) (jj_le rfl) (jj_le rfl) (jj_le rfl) (jj_le rfl) dX5_write_8 rfl (fun _ _ _ hX => hX.elim) (fun rx pl_4 r O_7 => ?_)
  obtain ⟨rfl, hok_5, hr_6, hfa9, hR_9⟩ := O_7
  replace hfr := hfr.trans (hr_6.sub (by decide))
  replace hfa := hfa.trans (hfa9.sub (by decide))
  obtain rfl := hR_9
  refine jj_aload_n C dX5_write_11 rfl ?_
  refine jj_aload_n C dX5_write_12 rfl ?_
  refine tt_get C hok_5 jk_2 5 (by decide) jw_0c71d3325d (t := (0, (-2147483648), 2147483647)) hk1 (by decide) rfl rfl dX5_write_13 (fun v_12 hv_12 hf_13 => ?_)
  obtain ⟨x_14, rfl, lx_14, ux_14⟩ := tt_vi hv_12
  obtain ⟨y_15, ey_15, vy_15⟩ := tt_i2l x_14
  refine jj_i2l (v := y_15) C dX5_write_16 ey_15 ?_
  obtain ⟨qc, gs, hqc⟩ := tt_recv (cx := []) hok_5 hk0 (by decide) rfl
  refine tt_callV (rest := []) C (tc_X5_putNumber_1 hl D cA ak h0 y_15 hk0 hok_5) [] [] rfl rfl (by decide) (by decide) (by decide) qc hqc rfl rfl jw_2dacb695e6 jw_15d69287eb jw_824f0dd712 jw_30ed28480a jw_a47eeef3f1 jn_X5_putNumber rfl (jj_le rfl) (jj_le rfl) (jj_le rfl) (jj_le rfl) (jj_le rfl) dX5_write_17 rfl (fun _ _ _ hX => hX.elim) (fun rx pl_16 r O_19 => ?_)
  obtain ⟨rfl, hok_17, hr_18, hfa9, hR_21⟩ := O_19
  replace hf_13 := hr_18.at hk1 (by decide) (by decide) hf_13
  replace hfr := hfr.trans (hr_18.sub (by decide))
  replace hfa := hfa.trans (hfa9.sub (by decide))
  obtain rfl := hR_21
  refine jj_aload_n C dX5_write_20 rfl ?_
  refine jj_ldcs (k := 15) (tx := " assets ") C dX5_write_21 (by decide +kernel) ?_
  obtain ⟨qc, gs, hqc⟩ := tt_recv (cx := []) hok_17 hk0 (by decide) rfl
  refine tt_callV (rest := []) C (tc_X5_putText_3 hl D cA ak h0 hk0 hok_17) [] [] rfl rfl (by decide) (by decide) (by decide) qc hqc rfl rfl jw_ff91692536 jw_b9307dcbf6 jw_3d1837b6f1 jw_30ed28480a jw_5a16104e3b jn_X5_putText rfl (jj_le rfl) (jj_le rfl) (jj_le rfl) (jj_le rfl) (jj_le rfl) dX5_write_23 rfl (fun _ _ _ hX => hX.elim) (fun rx pl_24 r O_27 => ?_)
  obtain ⟨rfl, hok_25, hr_26, hfa9, hR_29⟩ := O_27
  replace hf_13 := hr_26.at hk1 (by decide) (by decide) hf_13
  replace hfr := hfr.trans (hr_26.sub (by decide))
  replace hfa := hfa.trans (hfa9.sub (by decide))
  obtain rfl := hR_29
  refine jj_aload_n C dX5_write_26 rfl ?_
  refine jj_aload_n C dX5_write_27 rfl ?_
  obtain ⟨qc, gs, hqc⟩ := tt_recv (cx := []) hok_25 hk1 (by decide) rfl
  refine tt_callV (rest := [.ref h0]) C (tc_X0_netOfAll_1 hl D cA ak h1 hk1 hok_25) [] [] rfl rfl (by decide) (by decide) (by decide) qc hqc rfl rfl jw_740d1217af jw_26ce198b3a jw_dfaafe33a2 jw_7d25d4fd32 jw_144409f761 jn_X0_netOfAll rfl (jj_le rfl) (jj_le rfl) (jj_le rfl) (jj_le rfl) (jj_le rfl) dX5_write_28 rfl (fun _ _ _ hX => hX.elim) (fun rx pl_32 r O_35 => ?_)
  obtain ⟨rfl, hok_33, hr_34, hfa9, hR_37⟩ := O_35
  replace hf_13 := hr_34.at hk1 (by decide) (by decide) hf_13
  replace hfr := hfr.trans (hr_34.sub (by decide))
  replace hfa := hfa.trans (hfa9.sub (by decide))
  obtain ⟨y_40, rfl⟩ := hR_37
  obtain ⟨qc, gs, hqc⟩ := tt_recv (cx := []) hok_33 hk0 (by decide) rfl
  refine tt_callV (rest := []) C (tc_X5_putNumber_1 hl D cA ak h0 y_40 hk0 hok_33) [] [] rfl rfl (by decide) (by decide) (by decide) qc hqc rfl rfl jw_2dacb695e6 jw_15d69287eb jw_824f0dd712 jw_30ed28480a jw_a47eeef3f1 jn_X5_putNumber rfl (jj_le rfl) (jj_le rfl) (jj_le rfl) (jj_le rfl) (jj_le rfl) dX5_write_31 rfl (fun _ _ _ hX => hX.elim) (fun rx pl_41 r O_44 => ?_)
  obtain ⟨rfl, hok_42, hr_43, hfa9, hR_46⟩ := O_44
  replace hf_13 := hr_43.at hk1 (by decide) (by decide) hf_13
  replace hfr := hfr.trans (hr_43.sub (by decide))
  replace hfa := hfa.trans (hfa9.sub (by decide))
  obtain rfl := hR_46
  refine jj_aload_n C dX5_write_34 rfl ?_
  refine jj_ldcs (k := 16) (tx := "\n") C dX5_write_35 (by decide +kernel) ?_
  obtain ⟨qc, gs, hqc⟩ := tt_recv (cx := []) hok_42 hk0 (by decide) rfl
  refine tt_callV (rest := []) C (tc_X5_putText_4 hl D cA ak h0 hk0 hok_42) [] [] rfl rfl (by decide) (by decide) (by decide) qc hqc rfl rfl jw_ff91692536 jw_b9307dcbf6 jw_3d1837b6f1 jw_30ed28480a jw_5a16104e3b jn_X5_putText rfl (jj_le rfl) (jj_le rfl) (jj_le rfl) (jj_le rfl) (jj_le rfl) dX5_write_37 rfl (fun _ _ _ hX => hX.elim) (fun rx pl_49 r O_52 => ?_)
  obtain ⟨rfl, hok_50, hr_51, hfa9, hR_54⟩ := O_52
  replace hf_13 := hr_51.at hk1 (by decide) (by decide) hf_13
  replace hfr := hfr.trans (hr_51.sub (by decide))
  replace hfa := hfa.trans (hfa9.sub (by decide))
  obtain rfl := hR_54
  refine jj_iconst (v := 0) C dX5_write_40 (by decide) ?_
  refine jj_istore_n C dX5_write_41 (by decide) rfl ?_
  have hL_57 : ∀ (N : Nat) (pl : va_W) (x_58 : Int32), True → tt_ok tt_tk cA Kd pl → tt_fr Kd [(12, 1)] pl0 pl → tt_fa Kd [13, 14] pl0 pl → tt_at pl h1 5 (.int x_14) → (0 : Int) ≤ x_58.toInt → x_58.toInt ≤ 6 → (2147483648 - x_58.toInt ≤ (N : Int)) → jj_J p l e (jj_rm 7 158 0 0) s m args below meth c 3 A (vx_MQ below (jj_q D A (tt_O (fun rx pl1 r => rx = [] ∧ tt_ok tt_tk cA Kd pl1 ∧ tt_fr Kd [(12, 1)] pl0 pl1 ∧ tt_fa Kd [13, 14] pl0 pl1 ∧ ((r = none))))) (jj_x D A (tt_OX (fun _ _ _ => False))) args s 0 0 A) (jj_X D A ([] ++ pl)) 0 0 42 [(2, .int x_58), (0, .ref h0), (1, .ref h1)] [] := by
    intro NL_57
    induction NL_57 with
    | zero => intro pl x_58 _ hok hfr hfa hf_59 lx_58 ux_58 hNL_57; exfalso; omega
    | succ NL_57 ihL_57 =>
      intro pl x_58 _ hok hfr hfa hf_59 lx_58 ux_58 hNL_57
      replace ihL_57 := fun pl x_58 h1 => ihL_57 pl x_58 trivial h1
      refine jj_iload_n C dX5_write_42 rfl ?_
      refine jj_aload_n C dX5_write_43 rfl ?_
      refine tt_get C hok jk_2 7 (by decide) jw_b483f2c809 (t := (0, 0, 6)) hk1 (by decide) rfl rfl dX5_write_44 (fun v_60 hv_60 hf_61 => ?_)
      obtain ⟨x_62, rfl, lx_62, ux_62⟩ := tt_vi hv_60
      refine jj_icmp_ge (tgt := 67) C dX5_write_47 (by decide) (fun c_63 => ?_) (fun c_63 => ?_)
      · have z_c_63 := jc_le (a := (x_62).toInt) (b := (x_58).toInt) c_63 rfl rfl
        exact jj_vret C ⟨[], pl, rfl, rfl, hok, hfr, hfa, rfl⟩ dX5_write_67 (jj_le rfl) (jj_le rfl)
      · have z_c_63 := jc_nle (a := (x_62).toInt) (b := (x_58).toInt) c_63 rfl rfl
        refine jj_aload_n C dX5_write_50 rfl ?_
        refine jj_aload_n C dX5_write_51 rfl ?_
        refine jj_aload_n C dX5_write_52 rfl ?_
        refine tt_get C hok jk_2 11 (by decide) jw_299a079632 (t := (2, 6, 0)) hk1 (by decide) rfl rfl dX5_write_53 (fun v_64 hv_64 hf_65 => ?_)
        obtain ⟨a_66, rfl, ka_66⟩ := tt_vr hv_64
        refine jj_iload_n C dX5_write_56 rfl ?_
        refine tt_aald C hok (t := (2, 2, 0)) ka_66 (by decide) rfl rfl rfl (vp_in_iff.mpr ⟨by omega, by omega⟩) dX5_write_57 (fun v_67 hv_67 => ?_)
        obtain ⟨a_68, rfl, ka_68⟩ := tt_vr hv_67
        obtain ⟨qc, gs, hqc⟩ := tt_recv (cx := []) hok hk0 (by decide) rfl
        refine tt_callV (rest := []) C (tc_X5_writeSeries_1 hl D cA ak h0 h1 a_68 hk0 hk1 ka_68 hok) [] [] rfl rfl (by decide) (by decide) (by decide) qc hqc rfl rfl jw_5c341708bf jw_d3c2cf7cde jw_e560e57f74 jw_30ed28480a jw_add0a538b6 jn_X5_writeSeries rfl (jj_le rfl) (jj_le rfl) (jj_le rfl) (jj_le rfl) (jj_le rfl) dX5_write_58 rfl (fun _ _ _ hX => hX.elim) (fun rx pl_69 r O_72 => ?_)
        obtain ⟨rfl, hok_70, hr_71, hfa9, hR_74⟩ := O_72
        replace hf_59 := hr_71.at hk1 (by decide) (by decide) hf_59
        replace hf_61 := hr_71.at hk1 (by decide) (by decide) hf_61
        replace hf_65 := hr_71.at hk1 (by decide) (by decide) hf_65
        replace hfr := hfr.trans (hr_71.sub (by decide))
        replace hfa := hfa.trans (hfa9.sub (by decide))
        obtain rfl := hR_74
        obtain ⟨x_77, ex_77, vx_77⟩ := tt_inc (x := x_58) (n := 1) (by omega) (by omega)
        refine jj_iinc (v := x_77) C dX5_write_61 rfl ex_77 (by decide) rfl ?_
        refine jj_goto (tgt := 42) C dX5_write_64 (by decide) ?_
        exact ihL_57 pl_69 x_77 hok_70 hfr hfa hf_59 (by first | omega | decide | exact tt_lo _ | exact tt_hi _) (by first | omega | decide | exact tt_lo _ | exact tt_hi _) (by first | omega | decide | exact tt_lo _ | exact tt_hi _)
  exact hL_57 _ pl_49 (0 : Int32) trivial hok_50 hfr hfa hf_13 (by first | omega | decide | exact tt_lo _ | exact tt_hi _) (by first | omega | decide | exact tt_lo _ | exact tt_hi _) (Int.self_le_toNat _)

set_option maxHeartbeats 4000000 in
set_option maxRecDepth 100000 in
theorem tc_X10_writeReport_1 {l : Launch} (hl : l.stackTraces = false) (D : va_G) (cA : Nat → ClassId) (ak : (Nat → Nat) × (Nat → Nat)) {Kd : Nat → Nat} (h0 : Nat) (hk0 : Kd h0 = 15) {pl0 : va_W} (hok : tt_ok tt_tk cA Kd pl0) : jj_M l D cA ak yX10_writeReport (.code yX10_writeReport cX10_writeReport 1 (some .int)) 8 180 0 0 ([] ++ pl0) [.ref h0] (tt_O (fun rx pl1 r => rx = [] ∧ tt_ok tt_tk cA Kd pl1 ∧ tt_fr Kd [(12, 1)] pl0 pl1 ∧ tt_fa Kd [13, 14] pl0 pl1 ∧ ((∃ v : Int32, (0 : Int) ≤ v.toInt ∧ v.toInt ≤ 1300 ∧ r = some (.int v))))) (tt_OX (fun _ _ _ => False)) := by
  refine jj_start hl (by decide) jw_5ad844c1c2 (jj_le rfl) ?_
  intro p e s m args below meth c A hargs hA C hex hmn
  have hfr := tt_fr.refl (K := Kd) (WS := [(12, 1)]) pl0
  have hfa := tt_fa.refl (K := Kd) (WA := [13, 14]) pl0
  refine jj_aload_n C dX10_writeReport_0 rfl ?_
  refine tt_get C hok jk_11 9 (by decide) jw_f4d6dfb048 (t := (2, 12, 0)) hk0 (by decide) rfl rfl dX10_writeReport_1 (fun v_1 hv_1 hf_2 => ?_)
  obtain ⟨a_3, rfl, ka_3⟩ := tt_vr hv_1
  refine jj_aload_n C dX10_writeReport_4 rfl ?_
  refine tt_get C hok jk_11 3 (by decide) jw_f82a97e333 (t := (2, 1, 0)) hk0 (by decide) rfl rfl dX10_writeReport_5 (fun v_4 hv_4 hf_5 => ?_)
  obtain ⟨a_6, rfl, ka_6⟩ := tt_vr hv_4
  obtain ⟨qc, gs, hqc⟩ := tt_recv (cx := []) hok ka_3 (by decide) rfl
  refine tt_callV (rest := []) C (tc_X5_write_1 hl D cA ak a_3 a_6 ka_3 ka_6 hok) [] [] rfl rfl (by decide) (by decide) (by decide) qc hqc rfl rfl jw_d061095114 jw_88c832427c jw_50ebb45c96 jw_30ed28480a jw_6cf6156307 jn_X5_write rfl (jj_le rfl) (jj_le rfl) (jj_le rfl) (jj_le rfl) (jj_le rfl) dX10_writeReport_8 rfl (fun _ _ _ hX => hX.elim) (fun rx pl_7 r O_10 => ?_)
  obtain ⟨rfl, hok_8, hr_9, hfa9, hR_12⟩ := O_10
  replace hf_2 := hr_9.at hk0 (by decide) (by decide) hf_2
  replace hf_5 := hr_9.at hk0 (by decide) (by decide) hf_5
  replace hfr := hfr.trans (hr_9.sub (by decide))
  replace hfa := hfa.trans (hfa9.sub (by decide))
  obtain rfl := hR_12
  refine jj_aload_n C dX10_writeReport_11 rfl ?_
  refine tt_getF C hok_8 jk_11 9 (by decide) jw_f4d6dfb048 (t := (2, 12, 0)) hk0 (by decide) rfl rfl hf_2 dX10_writeReport_12 ?_
  refine tt_get C hok_8 jk_6 1 (by decide) jw_10614b509d (t := (0, 0, 1300)) ka_3 (by decide) rfl rfl dX10_writeReport_15 (fun v_15 hv_15 hf_16 => ?_)
  obtain ⟨x_17, rfl, lx_17, ux_17⟩ := tt_vi hv_15
  exact jj_iret C ⟨[], pl_7, rfl, rfl, hok_8, hfr, hfa, ⟨x_17, (by first | omega | exact tt_lo _ | exact tt_hi _), (by first | omega | exact tt_lo _ | exact tt_hi _), rfl⟩⟩ dX10_writeReport_18 (jj_le rfl) (jj_le rfl)

set_option maxHeartbeats 4000000 in
set_option maxRecDepth 100000 in
theorem tc_X10_undoDepth_1 {l : Launch} (hl : l.stackTraces = false) (D : va_G) (cA : Nat → ClassId) (ak : (Nat → Nat) × (Nat → Nat)) {Kd : Nat → Nat} (h0 : Nat) (hk0 : Kd h0 = 15) {pl0 : va_W} (hok : tt_ok tt_tk cA Kd pl0) : jj_M l D cA ak yX10_undoDepth (.code yX10_undoDepth cX10_undoDepth 1 (some .int)) 0 0 0 0 ([] ++ pl0) [.ref h0] (tt_O (fun rx pl1 r => rx = [] ∧ tt_ok tt_tk cA Kd pl1 ∧ tt_fr Kd [] pl0 pl1 ∧ tt_fa Kd [] pl0 pl1 ∧ ((∃ v : Int32, (0 : Int) ≤ v.toInt ∧ v.toInt ≤ 10 ∧ r = some (.int v))))) (tt_OX (fun _ _ _ => False)) := by
  refine jj_start hl (by decide) jw_99e7f9eb39 (jj_le rfl) ?_
  intro p e s m args below meth c A hargs hA C hex hmn
  have hfr := tt_fr.refl (K := Kd) (WS := []) pl0
  have hfa := tt_fa.refl (K := Kd) (WA := []) pl0
  refine jj_aload_n C dX10_undoDepth_0 rfl ?_
  refine tt_get C hok jk_11 8 (by decide) jw_427985f7c9 (t := (0, 0, 10)) hk0 (by decide) rfl rfl dX10_undoDepth_1 (fun v_1 hv_1 hf_2 => ?_)
  obtain ⟨x_3, rfl, lx_3, ux_3⟩ := tt_vi hv_1
  exact jj_iret C ⟨[], pl0, rfl, rfl, hok, hfr, hfa, ⟨x_3, (by first | omega | exact tt_lo _ | exact tt_hi _), (by first | omega | exact tt_lo _ | exact tt_hi _), rfl⟩⟩ dX10_undoDepth_4 (jj_le rfl) (jj_le rfl)

