set_option maxHeartbeats 4000000 in
set_option maxRecDepth 100000 in
theorem tc_X5_write_1 {l : Launch} (hl : l.stackTraces = false) (D : va_G) (cA : Nat → ClassId) (ak : (Nat → Nat) × (Nat → Nat)) {Kd : Nat → Nat} (h0 : Nat) (h1 : Nat) (hk0 : Kd h0 = 12) (hk1 : Kd h1 = 1) {pl0 : va_W} (hok : tt_ok tt_tk cA Kd pl0) : jj_M l D cA ak yX5_write (.code yX5_write cX5_write 3 none) 7 158 0 0 ([] ++ pl0) [.ref h0, .ref h1] (tt_O (fun rx pl1 r => rx = [] ∧ tt_ok tt_tk cA Kd pl1 ∧ tt_fr Kd [(12, 1)] pl0 pl1 ∧ ((r = none)))) (tt_OX (fun _ _ _ => False)) := by
  refine jj_start hl (by decide) jw_793 (jj_le rfl) ?_
  intro p e s m args below meth c A hargs hA C hex hmn
  have hfr := tt_fr.refl (K := Kd) (WS := [(12, 1)]) pl0
  refine jj_aload_n C dX5_write_0 rfl ?_
  refine jj_iconst (v := 0) C dX5_write_1 (by decide) ?_
  refine tt_put C hok jk_6 1 (by decide) jw_795 (t := (0, 0, 1300)) hk0 (by decide) rfl rfl rfl (tt_iv (by decide) (by decide)) rfl rfl dX5_write_2 (fun pl_1 hok_2 tr hn => ?_)
  have hf_3 := hn
  replace hfr := hfr.put hk0 tr (by decide)
  refine jj_aload_n C dX5_write_5 rfl ?_
  refine jj_ldcs (k := 13) (tx := "day ") C dX5_write_6 (by decide +kernel) ?_
  obtain ⟨qc, gs, hqc⟩ := tt_recv (cx := []) hok_2 hk0 (by decide) rfl
  refine tt_callV (rest := []) C (tc_X5_putText_1 hl D cA ak h0 hk0 hok_2) [] [] rfl rfl (by decide) (by decide) (by decide) qc hqc rfl rfl jw_796 jw_806 jw_807 jw_794 jw_797 jn_X5_putText rfl (jj_le rfl) (jj_le rfl) (jj_le rfl) (jj_le rfl) (jj_le rfl) dX5_write_8 rfl (fun _ _ _ hX => hX.elim) (fun rx pl_4 r O_7 => ?_)
  obtain ⟨rfl, hok_5, hr_6, hR_9⟩ := O_7
  replace hfr := hfr.trans (hr_6.sub (by decide))
  obtain rfl := hR_9
  refine jj_aload_n C dX5_write_11 rfl ?_
  refine jj_aload_n C dX5_write_12 rfl ?_
  refine tt_get C hok_5 jk_2 5 (by decide) jw_809 (t := (0, (-2147483648), 2147483647)) hk1 (by decide) rfl rfl dX5_write_13 (fun v_10 hv_10 hf_11 => ?_)
  obtain ⟨x_12, rfl, lx_12, ux_12⟩ := tt_vi hv_10
  obtain ⟨y_13, ey_13, vy_13⟩ := tt_i2l x_12
  refine jj_i2l (v := y_13) C dX5_write_16 ey_13 ?_
  obtain ⟨qc, gs, hqc⟩ := tt_recv (cx := []) hok_5 hk0 (by decide) rfl
  refine tt_callV (rest := []) C (tc_X5_putNumber_1 hl D cA ak h0 y_13 hk0 hok_5) [] [] rfl rfl (by decide) (by decide) (by decide) qc hqc rfl rfl jw_810 jw_819 jw_820 jw_794 jw_811 jn_X5_putNumber rfl (jj_le rfl) (jj_le rfl) (jj_le rfl) (jj_le rfl) (jj_le rfl) dX5_write_17 rfl (fun _ _ _ hX => hX.elim) (fun rx pl_14 r O_17 => ?_)
  obtain ⟨rfl, hok_15, hr_16, hR_19⟩ := O_17
  replace hf_11 := hr_16.at hk1 (by decide) (by decide) hf_11
  replace hfr := hfr.trans (hr_16.sub (by decide))
  obtain rfl := hR_19
  refine jj_aload_n C dX5_write_20 rfl ?_
  refine jj_ldcs (k := 15) (tx := " assets ") C dX5_write_21 (by decide +kernel) ?_
  obtain ⟨qc, gs, hqc⟩ := tt_recv (cx := []) hok_15 hk0 (by decide) rfl
  refine tt_callV (rest := []) C (tc_X5_putText_3 hl D cA ak h0 hk0 hok_15) [] [] rfl rfl (by decide) (by decide) (by decide) qc hqc rfl rfl jw_796 jw_806 jw_807 jw_794 jw_797 jn_X5_putText rfl (jj_le rfl) (jj_le rfl) (jj_le rfl) (jj_le rfl) (jj_le rfl) dX5_write_23 rfl (fun _ _ _ hX => hX.elim) (fun rx pl_20 r O_23 => ?_)
  obtain ⟨rfl, hok_21, hr_22, hR_25⟩ := O_23
  replace hf_11 := hr_22.at hk1 (by decide) (by decide) hf_11
  replace hfr := hfr.trans (hr_22.sub (by decide))
  obtain rfl := hR_25
  refine jj_aload_n C dX5_write_26 rfl ?_
  refine jj_aload_n C dX5_write_27 rfl ?_
  obtain ⟨qc, gs, hqc⟩ := tt_recv (cx := []) hok_21 hk1 (by decide) rfl
  refine tt_callV (rest := [.ref h0]) C (tc_X0_netOfAll_1 hl D cA ak h1 hk1 hok_21) [] [] rfl rfl (by decide) (by decide) (by decide) qc hqc rfl rfl jw_822 jw_240 jw_241 jw_133 jw_237 jn_X0_netOfAll rfl (jj_le rfl) (jj_le rfl) (jj_le rfl) (jj_le rfl) (jj_le rfl) dX5_write_28 rfl (fun _ _ _ hX => hX.elim) (fun rx pl_26 r O_29 => ?_)
  obtain ⟨rfl, hok_27, hr_28, hR_31⟩ := O_29
  replace hf_11 := hr_28.at hk1 (by decide) (by decide) hf_11
  replace hfr := hfr.trans (hr_28.sub (by decide))
  obtain ⟨y_32, rfl⟩ := hR_31
  obtain ⟨qc, gs, hqc⟩ := tt_recv (cx := []) hok_27 hk0 (by decide) rfl
  refine tt_callV (rest := []) C (tc_X5_putNumber_1 hl D cA ak h0 y_32 hk0 hok_27) [] [] rfl rfl (by decide) (by decide) (by decide) qc hqc rfl rfl jw_810 jw_819 jw_820 jw_794 jw_811 jn_X5_putNumber rfl (jj_le rfl) (jj_le rfl) (jj_le rfl) (jj_le rfl) (jj_le rfl) dX5_write_31 rfl (fun _ _ _ hX => hX.elim) (fun rx pl_33 r O_36 => ?_)
  obtain ⟨rfl, hok_34, hr_35, hR_38⟩ := O_36
  replace hf_11 := hr_35.at hk1 (by decide) (by decide) hf_11
  replace hfr := hfr.trans (hr_35.sub (by decide))
  obtain rfl := hR_38
  refine jj_aload_n C dX5_write_34 rfl ?_
  refine jj_ldcs (k := 16) (tx := "\n") C dX5_write_35 (by decide +kernel) ?_
  obtain ⟨qc, gs, hqc⟩ := tt_recv (cx := []) hok_34 hk0 (by decide) rfl
  refine tt_callV (rest := []) C (tc_X5_putText_4 hl D cA ak h0 hk0 hok_34) [] [] rfl rfl (by decide) (by decide) (by decide) qc hqc rfl rfl jw_796 jw_806 jw_807 jw_794 jw_797 jn_X5_putText rfl (jj_le rfl) (jj_le rfl) (jj_le rfl) (jj_le rfl) (jj_le rfl) dX5_write_37 rfl (fun _ _ _ hX => hX.elim) (fun rx pl_39 r O_42 => ?_)
  obtain ⟨rfl, hok_40, hr_41, hR_44⟩ := O_42
  replace hf_11 := hr_41.at hk1 (by decide) (by decide) hf_11
  replace hfr := hfr.trans (hr_41.sub (by decide))
  obtain rfl := hR_44
  refine jj_iconst (v := 0) C dX5_write_40 (by decide) ?_
  refine jj_istore_n C dX5_write_41 (by decide) rfl ?_
  have hL_45 : ∀ (N : Nat) (pl : va_W) (x_46 : Int32), True → tt_ok tt_tk cA Kd pl → tt_fr Kd [(12, 1)] pl0 pl → tt_at pl h1 5 (.int x_12) → (0 : Int) ≤ x_46.toInt → x_46.toInt ≤ 6 → (2147483648 - x_46.toInt ≤ (N : Int)) → jj_J p l e (jj_rm 7 158 0 0) s m args below meth c 3 A (vx_MQ below (jj_q D A (tt_O (fun rx pl1 r => rx = [] ∧ tt_ok tt_tk cA Kd pl1 ∧ tt_fr Kd [(12, 1)] pl0 pl1 ∧ ((r = none))))) (jj_x D A (tt_OX (fun _ _ _ => False))) args s 0 0 A) (jj_X D A ([] ++ pl)) 0 0 42 [(2, .int x_46), (0, .ref h0), (1, .ref h1)] [] := by
    intro NL_45
    induction NL_45 with
    | zero => intro pl x_46 _ hok hfr hf_47 lx_46 ux_46 hNL_45; exfalso; omega
    | succ NL_45 ihL_45 =>
      intro pl x_46 _ hok hfr hf_47 lx_46 ux_46 hNL_45
      replace ihL_45 := fun pl x_46 h1 => ihL_45 pl x_46 trivial h1
      refine jj_iload_n C dX5_write_42 rfl ?_
      refine jj_aload_n C dX5_write_43 rfl ?_
      refine tt_get C hok jk_2 7 (by decide) jw_823 (t := (0, 0, 6)) hk1 (by decide) rfl rfl dX5_write_44 (fun v_48 hv_48 hf_49 => ?_)
      obtain ⟨x_50, rfl, lx_50, ux_50⟩ := tt_vi hv_48
      refine jj_icmp_ge (tgt := 67) C dX5_write_47 (by decide) (fun c_51 => ?_) (fun c_51 => ?_)
      · have z_c_51 := jc_le (a := (x_50).toInt) (b := (x_46).toInt) c_51 rfl rfl
        exact jj_vret C ⟨[], pl, rfl, rfl, hok, hfr, rfl⟩ dX5_write_67 (jj_le rfl) (jj_le rfl)
      · have z_c_51 := jc_nle (a := (x_50).toInt) (b := (x_46).toInt) c_51 rfl rfl
        refine jj_aload_n C dX5_write_50 rfl ?_
        refine jj_aload_n C dX5_write_51 rfl ?_
        refine jj_aload_n C dX5_write_52 rfl ?_
        refine tt_get C hok jk_2 11 (by decide) jw_824 (t := (2, 6, 0)) hk1 (by decide) rfl rfl dX5_write_53 (fun v_52 hv_52 hf_53 => ?_)
        obtain ⟨a_54, rfl, ka_54⟩ := tt_vr hv_52
        refine jj_iload_n C dX5_write_56 rfl ?_
        refine tt_aald C hok (t := (2, 2, 0)) ka_54 (by decide) rfl rfl rfl (vp_in_iff.mpr ⟨by omega, by omega⟩) dX5_write_57 (fun v_55 hv_55 => ?_)
        obtain ⟨a_56, rfl, ka_56⟩ := tt_vr hv_55
        obtain ⟨qc, gs, hqc⟩ := tt_recv (cx := []) hok hk0 (by decide) rfl
        refine tt_callV (rest := []) C (tc_X5_writeSeries_1 hl D cA ak h0 h1 a_56 hk0 hk1 ka_56 hok) [] [] rfl rfl (by decide) (by decide) (by decide) qc hqc rfl rfl jw_825 jw_833 jw_834 jw_794 jw_826 jn_X5_writeSeries rfl (jj_le rfl) (jj_le rfl) (jj_le rfl) (jj_le rfl) (jj_le rfl) dX5_write_58 rfl (fun _ _ _ hX => hX.elim) (fun rx pl_57 r O_60 => ?_)
        obtain ⟨rfl, hok_58, hr_59, hR_62⟩ := O_60
        replace hf_47 := hr_59.at hk1 (by decide) (by decide) hf_47
        replace hf_49 := hr_59.at hk1 (by decide) (by decide) hf_49
        replace hf_53 := hr_59.at hk1 (by decide) (by decide) hf_53
        replace hfr := hfr.trans (hr_59.sub (by decide))
        obtain rfl := hR_62
        obtain ⟨x_63, ex_63, vx_63⟩ := tt_inc (x := x_46) (n := 1) (by omega) (by omega)
        refine jj_iinc (v := x_63) C dX5_write_61 rfl ex_63 (by decide) rfl ?_
        refine jj_goto (tgt := 42) C dX5_write_64 (by decide) ?_
        exact ihL_45 pl_57 x_63 hok_58 hfr hf_47 (by first | omega | decide | exact tt_lo _ | exact tt_hi _) (by first | omega | decide | exact tt_lo _ | exact tt_hi _) (by first | omega | decide | exact tt_lo _ | exact tt_hi _)
  exact hL_45 _ pl_39 (0 : Int32) trivial hok_40 hfr hf_11 (by first | omega | decide | exact tt_lo _ | exact tt_hi _) (by first | omega | decide | exact tt_lo _ | exact tt_hi _) (Int.self_le_toNat _)

set_option maxHeartbeats 4000000 in
set_option maxRecDepth 100000 in
theorem tc_X10_writeReport_1 {l : Launch} (hl : l.stackTraces = false) (D : va_G) (cA : Nat → ClassId) (ak : (Nat → Nat) × (Nat → Nat)) {Kd : Nat → Nat} (h0 : Nat) (hk0 : Kd h0 = 15) {pl0 : va_W} (hok : tt_ok tt_tk cA Kd pl0) : jj_M l D cA ak yX10_writeReport (.code yX10_writeReport cX10_writeReport 1 (some .int)) 8 180 0 0 ([] ++ pl0) [.ref h0] (tt_O (fun rx pl1 r => rx = [] ∧ tt_ok tt_tk cA Kd pl1 ∧ tt_fr Kd [(12, 1)] pl0 pl1 ∧ ((∃ v : Int32, (0 : Int) ≤ v.toInt ∧ v.toInt ≤ 1300 ∧ r = some (.int v))))) (tt_OX (fun _ _ _ => False)) := by
  refine jj_start hl (by decide) jw_880 (jj_le rfl) ?_
  intro p e s m args below meth c A hargs hA C hex hmn
  have hfr := tt_fr.refl (K := Kd) (WS := [(12, 1)]) pl0
  refine jj_aload_n C dX10_writeReport_0 rfl ?_
  refine tt_get C hok jk_11 9 (by decide) jw_468 (t := (2, 12, 0)) hk0 (by decide) rfl rfl dX10_writeReport_1 (fun v_1 hv_1 hf_2 => ?_)
  obtain ⟨a_3, rfl, ka_3⟩ := tt_vr hv_1
  refine jj_aload_n C dX10_writeReport_4 rfl ?_
  refine tt_get C hok jk_11 3 (by decide) jw_2 (t := (2, 1, 0)) hk0 (by decide) rfl rfl dX10_writeReport_5 (fun v_4 hv_4 hf_5 => ?_)
  obtain ⟨a_6, rfl, ka_6⟩ := tt_vr hv_4
  obtain ⟨qc, gs, hqc⟩ := tt_recv (cx := []) hok ka_3 (by decide) rfl
  refine tt_callV (rest := []) C (tc_X5_write_1 hl D cA ak a_3 a_6 ka_3 ka_6 hok) [] [] rfl rfl (by decide) (by decide) (by decide) qc hqc rfl rfl jw_792 jw_836 jw_837 jw_794 jw_793 jn_X5_write rfl (jj_le rfl) (jj_le rfl) (jj_le rfl) (jj_le rfl) (jj_le rfl) dX10_writeReport_8 rfl (fun _ _ _ hX => hX.elim) (fun rx pl_7 r O_10 => ?_)
  obtain ⟨rfl, hok_8, hr_9, hR_12⟩ := O_10
  replace hf_2 := hr_9.at hk0 (by decide) (by decide) hf_2
  replace hf_5 := hr_9.at hk0 (by decide) (by decide) hf_5
  replace hfr := hfr.trans (hr_9.sub (by decide))
  obtain rfl := hR_12
  refine jj_aload_n C dX10_writeReport_11 rfl ?_
  refine tt_getF C hok_8 jk_11 9 (by decide) jw_468 (t := (2, 12, 0)) hk0 (by decide) rfl rfl hf_2 dX10_writeReport_12 ?_
  refine tt_get C hok_8 jk_6 1 (by decide) jw_469 (t := (0, 0, 1300)) ka_3 (by decide) rfl rfl dX10_writeReport_15 (fun v_13 hv_13 hf_14 => ?_)
  obtain ⟨x_15, rfl, lx_15, ux_15⟩ := tt_vi hv_13
  exact jj_iret C ⟨[], pl_7, rfl, rfl, hok_8, hfr, ⟨x_15, (by first | omega | exact tt_lo _ | exact tt_hi _), (by first | omega | exact tt_lo _ | exact tt_hi _), rfl⟩⟩ dX10_writeReport_18 (jj_le rfl) (jj_le rfl)

set_option maxHeartbeats 4000000 in
set_option maxRecDepth 100000 in
theorem tc_X10_undoDepth_1 {l : Launch} (hl : l.stackTraces = false) (D : va_G) (cA : Nat → ClassId) (ak : (Nat → Nat) × (Nat → Nat)) {Kd : Nat → Nat} (h0 : Nat) (hk0 : Kd h0 = 15) {pl0 : va_W} (hok : tt_ok tt_tk cA Kd pl0) : jj_M l D cA ak yX10_undoDepth (.code yX10_undoDepth cX10_undoDepth 1 (some .int)) 0 0 0 0 ([] ++ pl0) [.ref h0] (tt_O (fun rx pl1 r => rx = [] ∧ tt_ok tt_tk cA Kd pl1 ∧ tt_fr Kd [] pl0 pl1 ∧ ((∃ v : Int32, (0 : Int) ≤ v.toInt ∧ v.toInt ≤ 10 ∧ r = some (.int v))))) (tt_OX (fun _ _ _ => False)) := by
  refine jj_start hl (by decide) jw_881 (jj_le rfl) ?_
  intro p e s m args below meth c A hargs hA C hex hmn
  have hfr := tt_fr.refl (K := Kd) (WS := []) pl0
  refine jj_aload_n C dX10_undoDepth_0 rfl ?_
  refine tt_get C hok jk_11 8 (by decide) jw_385 (t := (0, 0, 10)) hk0 (by decide) rfl rfl dX10_undoDepth_1 (fun v_1 hv_1 hf_2 => ?_)
  obtain ⟨x_3, rfl, lx_3, ux_3⟩ := tt_vi hv_1
  exact jj_iret C ⟨[], pl0, rfl, rfl, hok, hfr, ⟨x_3, (by first | omega | exact tt_lo _ | exact tt_hi _), (by first | omega | exact tt_lo _ | exact tt_hi _), rfl⟩⟩ dX10_undoDepth_4 (jj_le rfl) (jj_le rfl)

