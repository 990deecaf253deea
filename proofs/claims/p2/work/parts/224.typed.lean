set_option maxHeartbeats 4000000 in
set_option maxRecDepth 100000 in
theorem tc_X2_chargeDays_3 {l : Launch} (hl : l.stackTraces = false) (D : va_G) (cA : Nat → ClassId) (ak : (Nat → Nat) × (Nat → Nat)) {Kd : Nat → Nat} (h0 : Nat) (p1 : Int32) (hk0 : Kd h0 = 1) {pl0 : va_W} (hok : tt_ok tt_tk cA Kd pl0) : jj_M l D cA ak yX2_chargeDays (.code yX2_chargeDays cX2_chargeDays 8 (some .long)) 0 0 0 0 ([] ++ pl0) [.ref h0, .int p1] (tt_O (fun rx pl1 r => rx = [] ∧ tt_ok tt_tk cA Kd pl1 ∧ tt_fr Kd [(1, 5), (2, 2)] pl0 pl1 ∧ ((∃ v : Int64, r = some (.long v))))) (tt_OX (fun _ _ _ => False)) := by
  refine jj_start hl (by decide) jw_316 (jj_le rfl) ?_
  intro p e s m args below meth c A hargs hA C hex hmn
  have hfr := tt_fr.refl (K := Kd) (WS := [(1, 5), (2, 2)]) pl0
  have lp1 := tt_lo p1
  have up1 := tt_hi p1
  refine jj_lconst (v := 0) C dX2_chargeDays_0 (by decide) ?_
  refine jj_lstore_n C dX2_chargeDays_1 (by decide) rfl ?_
  refine jj_iconst (v := 0) C dX2_chargeDays_2 (by decide) ?_
  refine jj_istore C dX2_chargeDays_3 (by decide) rfl ?_
  have hL_1 : ∀ (N : Nat) (pl : va_W) (x_2 : Int32) (y_3 : Int64), True → tt_ok tt_tk cA Kd pl → tt_fr Kd [(1, 5), (2, 2)] pl0 pl → (0 : Int) ≤ x_2.toInt → x_2.toInt ≤ 2147483647 → (2147483648 - x_2.toInt ≤ (N : Int)) → jj_J p l e (jj_rm 0 0 0 0) s m args below meth c 8 A (vx_MQ below (jj_q D A (tt_O (fun rx pl1 r => rx = [] ∧ tt_ok tt_tk cA Kd pl1 ∧ tt_fr Kd [(1, 5), (2, 2)] pl0 pl1 ∧ ((∃ v : Int64, r = some (.long v)))))) (jj_x D A (tt_OX (fun _ _ _ => False))) args s 0 0 A) (jj_X D A ([] ++ pl)) 0 0 5 [(4, .int x_2), (2, .long y_3), (0, .ref h0), (1, .int p1)] [] := by
    intro NL_1
    induction NL_1 with
    | zero => intro pl x_2 y_3 _ hok hfr lx_2 ux_2 hNL_1; exfalso; omega
    | succ NL_1 ihL_1 =>
      intro pl x_2 y_3 _ hok hfr lx_2 ux_2 hNL_1
      replace ihL_1 := fun pl x_2 y_3 h1 => ihL_1 pl x_2 y_3 trivial h1
      refine jj_iload C dX2_chargeDays_5 rfl ?_
      refine jj_iload_n C dX2_chargeDays_7 rfl ?_
      refine jj_icmp_ge (tgt := 89) C dX2_chargeDays_8 (by decide) (fun c_4 => ?_) (fun c_4 => ?_)
      · have z_c_4 := jc_le (a := (p1).toInt) (b := (x_2).toInt) c_4 rfl rfl
        refine jj_aload_n C dX2_chargeDays_89 rfl ?_
        refine tt_get C hok jk_2 10 (by decide) jw_319 (t := (2, 5, 0)) hk0 (by decide) rfl rfl dX2_chargeDays_90 (fun v_5 hv_5 hf_6 => ?_)
        obtain ⟨a_7, rfl, ka_7⟩ := tt_vr hv_5
        refine jj_iconst (v := 0) C dX2_chargeDays_93 (by decide) ?_
        refine jj_dup2 C dX2_chargeDays_94 rfl rfl ?_
        refine tt_lald C hok (t := (1, (-9223372036854775808), 9223372036854775807)) ka_7 (by decide) rfl (vp_in_iff.mpr (by decide)) dX2_chargeDays_95 (fun v_8 hv_8 => ?_)
        refine jj_lload_n C dX2_chargeDays_96 rfl ?_
        obtain ⟨y_9, ey_9⟩ : ∃ z : Int64, v_8 + y_3 = z := ⟨_, rfl⟩
        refine jj_ladd (v := y_9) C dX2_chargeDays_97 ey_9 ?_
        refine tt_last C hok (t := (1, (-9223372036854775808), 9223372036854775807)) ka_7 (by decide) rfl (vp_in_iff.mpr (by decide)) (tt_ja _) dX2_chargeDays_98 (fun pl_10 hok_11 tr => ?_)
        replace hf_6 := tr _ _ _ hf_6
        replace hfr := hfr.arr tr
        refine jj_aload_n C dX2_chargeDays_99 rfl ?_
        refine tt_getF C hok_11 jk_2 10 (by decide) jw_319 (t := (2, 5, 0)) hk0 (by decide) rfl rfl hf_6 dX2_chargeDays_100 ?_
        refine jj_iconst (v := 5) C dX2_chargeDays_103 (by decide) ?_
        refine jj_dup2 C dX2_chargeDays_104 rfl rfl ?_
        refine tt_lald C hok_11 (t := (1, (-9223372036854775808), 9223372036854775807)) ka_7 (by decide) rfl (vp_in_iff.mpr (by decide)) dX2_chargeDays_105 (fun v_12 hv_12 => ?_)
        refine jj_lload_n C dX2_chargeDays_106 rfl ?_
        obtain ⟨y_13, ey_13⟩ : ∃ z : Int64, v_12 + y_3 = z := ⟨_, rfl⟩
        refine jj_ladd (v := y_13) C dX2_chargeDays_107 ey_13 ?_
        refine tt_last C hok_11 (t := (1, (-9223372036854775808), 9223372036854775807)) ka_7 (by decide) rfl (vp_in_iff.mpr (by decide)) (tt_ja _) dX2_chargeDays_108 (fun pl_14 hok_15 tr => ?_)
        replace hf_6 := tr _ _ _ hf_6
        replace hfr := hfr.arr tr
        refine jj_lload_n C dX2_chargeDays_109 rfl ?_
        exact jj_lret C ⟨[], pl_14, rfl, rfl, hok_15, hfr, ⟨y_3, rfl⟩⟩ dX2_chargeDays_110 (jj_le rfl) (jj_le rfl)
      · have z_c_4 := jc_nle (a := (p1).toInt) (b := (x_2).toInt) c_4 rfl rfl
        refine jj_iconst (v := 0) C dX2_chargeDays_11 (by decide) ?_
        refine jj_istore C dX2_chargeDays_12 (by decide) rfl ?_
        have hL_16 : ∀ (N : Nat) (pl : va_W) (x_17 : Int32) (y_18 : Int64), True → tt_ok tt_tk cA Kd pl → tt_fr Kd [(1, 5), (2, 2)] pl0 pl → (0 : Int) ≤ x_17.toInt → x_17.toInt ≤ 6 → (2147483648 - x_17.toInt ≤ (N : Int)) → jj_J p l e (jj_rm 0 0 0 0) s m args below meth c 8 A (vx_MQ below (jj_q D A (tt_O (fun rx pl1 r => rx = [] ∧ tt_ok tt_tk cA Kd pl1 ∧ tt_fr Kd [(1, 5), (2, 2)] pl0 pl1 ∧ ((∃ v : Int64, r = some (.long v)))))) (jj_x D A (tt_OX (fun _ _ _ => False))) args s 0 0 A) (jj_X D A ([] ++ pl)) 0 0 14 [(5, .int x_17), (4, .int x_2), (2, .long y_18), (0, .ref h0), (1, .int p1)] [] := by
          intro NL_16
          induction NL_16 with
          | zero => intro pl x_17 y_18 _ hok hfr lx_17 ux_17 hNL_16; exfalso; omega
          | succ NL_16 ihL_16 =>
            intro pl x_17 y_18 _ hok hfr lx_17 ux_17 hNL_16
            replace ihL_16 := fun pl x_17 y_18 h1 => ihL_16 pl x_17 y_18 trivial h1
            refine jj_iload C dX2_chargeDays_14 rfl ?_
            refine jj_aload_n C dX2_chargeDays_16 rfl ?_
            refine tt_get C hok jk_2 7 (by decide) jw_317 (t := (0, 0, 6)) hk0 (by decide) rfl rfl dX2_chargeDays_17 (fun v_19 hv_19 hf_20 => ?_)
            obtain ⟨x_21, rfl, lx_21, ux_21⟩ := tt_vi hv_19
            refine jj_icmp_ge (tgt := 73) C dX2_chargeDays_20 (by decide) (fun c_22 => ?_) (fun c_22 => ?_)
            · have z_c_22 := jc_le (a := (x_21).toInt) (b := (x_17).toInt) c_22 rfl rfl
              refine jj_aload_n C dX2_chargeDays_73 rfl ?_
              refine jj_dup C dX2_chargeDays_74 rfl ?_
              refine tt_get C hok jk_2 5 (by decide) jw_318 (t := (0, (-2147483648), 2147483647)) hk0 (by decide) rfl rfl dX2_chargeDays_75 (fun v_23 hv_23 hf_24 => ?_)
              obtain ⟨x_25, rfl, lx_25, ux_25⟩ := tt_vi hv_23
              refine jj_iconst (v := 1) C dX2_chargeDays_78 (by decide) ?_
              obtain ⟨x_26, ex_26⟩ : ∃ z : Int32, x_25 + (1 : Int32) = z := ⟨_, rfl⟩
              refine jj_iadd (v := x_26) C dX2_chargeDays_79 ex_26 ?_
              refine tt_put C hok jk_2 5 (by decide) jw_318 (t := (0, (-2147483648), 2147483647)) hk0 (by decide) rfl rfl rfl (tt_ia x_26) rfl rfl dX2_chargeDays_80 (fun pl_27 hok_28 tr hn => ?_)
              replace hf_20 := tr _ _ _ (Or.inr (by decide)) hf_20
              have hf_29 := hn
              replace hfr := hfr.put hk0 tr (by decide)
              obtain ⟨x_30, ex_30, vx_30⟩ := tt_inc (x := x_2) (n := 1) (by omega) (by omega)
              refine jj_iinc (v := x_30) C dX2_chargeDays_83 rfl ex_30 (by decide) rfl ?_
              refine jj_goto (tgt := 5) C dX2_chargeDays_86 (by decide) ?_
              refine jj_loc [0, 2, 3, 4] rfl ?_
              exact ihL_1 pl_27 x_30 y_18 hok_28 hfr (by first | omega | decide | exact tt_lo _ | exact tt_hi _) (by first | omega | decide | exact tt_lo _ | exact tt_hi _) (by first | omega | decide | exact tt_lo _ | exact tt_hi _)
            · have z_c_22 := jc_nle (a := (x_21).toInt) (b := (x_17).toInt) c_22 rfl rfl
              refine jj_aload_n C dX2_chargeDays_23 rfl ?_
              refine tt_get C hok jk_2 11 (by decide) jw_320 (t := (2, 6, 0)) hk0 (by decide) rfl rfl dX2_chargeDays_24 (fun v_31 hv_31 hf_32 => ?_)
              obtain ⟨a_33, rfl, ka_33⟩ := tt_vr hv_31
              refine jj_iload C dX2_chargeDays_27 rfl ?_
              refine tt_aald C hok (t := (2, 2, 0)) ka_33 (by decide) rfl rfl rfl (vp_in_iff.mpr ⟨by omega, by omega⟩) dX2_chargeDays_29 (fun v_34 hv_34 => ?_)
              obtain ⟨a_35, rfl, ka_35⟩ := tt_vr hv_34
              refine tt_get C hok jk_9 2 (by decide) jw_321 (t := (1, (-9223372036854775808), 9223372036854775807)) ka_35 (by decide) rfl rfl dX2_chargeDays_30 (fun v_36 hv_36 hf_37 => ?_)
              obtain ⟨y_38, rfl, -, -⟩ := tt_vj hv_36
              refine jj_aload_n C dX2_chargeDays_33 rfl ?_
              refine tt_get C hok jk_2 2 (by decide) jw_322 (t := (0, (-2147483648), 2147483647)) hk0 (by decide) rfl rfl dX2_chargeDays_34 (fun v_39 hv_39 hf_40 => ?_)
              obtain ⟨x_41, rfl, lx_41, ux_41⟩ := tt_vi hv_39
              obtain ⟨y_42, ey_42, vy_42⟩ := tt_i2l x_41
              refine jj_i2l (v := y_42) C dX2_chargeDays_37 ey_42 ?_
              obtain ⟨y_43, ey_43⟩ : ∃ z : Int64, y_38 * y_42 = z := ⟨_, rfl⟩
              refine jj_lmul (v := y_43) C dX2_chargeDays_38 ey_43 ?_
              refine jj_ldc2 (v := 3650000) C dX2_chargeDays_39 jw_323 ?_
              obtain ⟨y_44, ey_44⟩ : ∃ z : Int64, y_43 / (3650000 : Int64) = z := ⟨_, rfl⟩
              refine jj_ldiv (v := y_44) C dX2_chargeDays_42 (by decide) ey_44 ?_
              refine jj_lstore C dX2_chargeDays_43 (by decide) rfl ?_
              refine jj_aload_n C dX2_chargeDays_45 rfl ?_
              refine tt_getF C hok jk_2 11 (by decide) jw_320 (t := (2, 6, 0)) hk0 (by decide) rfl rfl hf_32 dX2_chargeDays_46 ?_
              refine jj_iload C dX2_chargeDays_49 rfl ?_
              refine tt_aald C hok (t := (2, 2, 0)) ka_33 (by decide) rfl rfl rfl (vp_in_iff.mpr ⟨by omega, by omega⟩) dX2_chargeDays_51 (fun v_45 hv_45 => ?_)
              obtain ⟨a_46, rfl, ka_46⟩ := tt_vr hv_45
              refine jj_dup C dX2_chargeDays_52 rfl ?_
              refine tt_get C hok jk_9 2 (by decide) jw_321 (t := (1, (-9223372036854775808), 9223372036854775807)) ka_46 (by decide) rfl rfl dX2_chargeDays_53 (fun v_47 hv_47 hf_48 => ?_)
              obtain ⟨y_49, rfl, -, -⟩ := tt_vj hv_47
              refine jj_lload C dX2_chargeDays_56 rfl ?_
              obtain ⟨y_50, ey_50⟩ : ∃ z : Int64, y_49 - y_44 = z := ⟨_, rfl⟩
              refine jj_lsub (v := y_50) C dX2_chargeDays_58 ey_50 ?_
              refine tt_put C hok jk_9 2 (by decide) jw_321 (t := (1, (-9223372036854775808), 9223372036854775807)) ka_46 (by decide) rfl rfl rfl (tt_ja y_50) rfl rfl dX2_chargeDays_59 (fun pl_51 hok_52 tr hn => ?_)
              replace hf_20 := tr _ _ _ (Or.inl (tt_ne hk0 ka_46 (by decide))) hf_20
              replace hf_32 := tr _ _ _ (Or.inl (tt_ne hk0 ka_46 (by decide))) hf_32
              replace hf_40 := tr _ _ _ (Or.inl (tt_ne hk0 ka_46 (by decide))) hf_40
              have hf_53 := hn
              replace hfr := hfr.put ka_46 tr (by decide)
              refine jj_lload_n C dX2_chargeDays_62 rfl ?_
              refine jj_lload C dX2_chargeDays_63 rfl ?_
              obtain ⟨y_54, ey_54⟩ : ∃ z : Int64, y_18 + y_44 = z := ⟨_, rfl⟩
              refine jj_ladd (v := y_54) C dX2_chargeDays_65 ey_54 ?_
              refine jj_lstore_n C dX2_chargeDays_66 (by decide) rfl ?_
              obtain ⟨x_55, ex_55, vx_55⟩ := tt_inc (x := x_17) (n := 1) (by omega) (by omega)
              refine jj_iinc (v := x_55) C dX2_chargeDays_67 rfl ex_55 (by decide) rfl ?_
              refine jj_goto (tgt := 14) C dX2_chargeDays_70 (by decide) ?_
              refine jj_loc [0, 3, 1, 4, 5] rfl ?_
              exact ihL_16 pl_51 x_55 y_54 hok_52 hfr (by first | omega | decide | exact tt_lo _ | exact tt_hi _) (by first | omega | decide | exact tt_lo _ | exact tt_hi _) (by first | omega | decide | exact tt_lo _ | exact tt_hi _)
        exact hL_16 _ pl (0 : Int32) y_3 trivial hok hfr (by first | omega | decide | exact tt_lo _ | exact tt_hi _) (by first | omega | decide | exact tt_lo _ | exact tt_hi _) (Int.self_le_toNat _)
  exact hL_1 _ pl0 (0 : Int32) (0 : Int64) trivial hok hfr (by first | omega | decide | exact tt_lo _ | exact tt_hi _) (by first | omega | decide | exact tt_lo _ | exact tt_hi _) (Int.self_le_toNat _)

set_option maxHeartbeats 4000000 in
set_option maxRecDepth 100000 in
theorem tc_X7_execute_1 {l : Launch} (hl : l.stackTraces = false) (D : va_G) (cA : Nat → ClassId) (ak : (Nat → Nat) × (Nat → Nat)) {Kd : Nat → Nat} (h0 : Nat) (hk0 : Kd h0 = 18) {pl0 : va_W} (hok : tt_ok tt_tk cA Kd pl0) : jj_M l D cA ak yX7_execute (.code yX7_execute cX7_execute 1 (some .boolean)) 5 135 0 0 ([] ++ pl0) [.ref h0] (tt_O (fun rx pl1 r => rx = [] ∧ tt_ok tt_tk cA Kd pl1 ∧ tt_fr Kd [(1, 5), (1, 6), (1, 7), (1, 8), (1, 9), (2, 0), (2, 1), (2, 2), (2, 3), (2, 4), (3, 0), (3, 1), (3, 2), (3, 3), (3, 4), (3, 5), (4, 0), (4, 1), (4, 2), (4, 3), (4, 4), (9, 1), (9, 2), (9, 3), (9, 4), (9, 5)] pl0 pl1 ∧ ((r = some (.int 0)) ∨ (r = some (.int 1))))) (tt_OX (fun _ _ _ => False)) := by
  refine jj_start hl (by decide) jw_770 (jj_le rfl) ?_
  intro p e s m args below meth c A hargs hA C hex hmn
  have hfr := tt_fr.refl (K := Kd) (WS := [(1, 5), (1, 6), (1, 7), (1, 8), (1, 9), (2, 0), (2, 1), (2, 2), (2, 3), (2, 4), (3, 0), (3, 1), (3, 2), (3, 3), (3, 4), (3, 5), (4, 0), (4, 1), (4, 2), (4, 3), (4, 4), (9, 1), (9, 2), (9, 3), (9, 4), (9, 5)]) pl0
  refine jj_aload_n C dX7_execute_0 rfl ?_
  obtain ⟨qc, gs, hqc⟩ := tt_recv (cx := []) hok hk0 (by decide) rfl
  refine tt_callV (rest := []) C (tc_X7_fault_1 hl D cA ak h0 hk0 hok) [] [] rfl rfl (by decide) (by decide) (by decide) qc hqc rfl rfl jw_771 jw_778 jw_779 jw_736 jw_772 jn_X7_fault rfl (jj_le rfl) (jj_le rfl) (jj_le rfl) (jj_le rfl) (jj_le rfl) dX7_execute_1 rfl (fun _ _ _ hX => hX.elim) (fun rx pl_1 r O_4 => ?_)
  obtain ⟨rfl, hok_2, hr_3, hR_6⟩ := O_4
  replace hfr := hfr.trans (hr_3.sub (by decide))
  rcases hR_6 with rfl | rfl | rfl | rfl
  · refine jj_if_eqF (tgt := 9) C dX7_execute_4 (by decide) (by decide) ?_
    refine jj_iconst (v := 0) C dX7_execute_7 (by decide) ?_
    exact jj_zret C rfl ⟨[], pl_1, rfl, rfl, hok_2, hfr, (Or.inl rfl)⟩ dX7_execute_8 (jj_le rfl) (jj_le rfl)
  · refine jj_if_eqF (tgt := 9) C dX7_execute_4 (by decide) (by decide) ?_
    refine jj_iconst (v := 0) C dX7_execute_7 (by decide) ?_
    exact jj_zret C rfl ⟨[], pl_1, rfl, rfl, hok_2, hfr, (Or.inl rfl)⟩ dX7_execute_8 (jj_le rfl) (jj_le rfl)
  · refine jj_if_eqT (tgt := 9) C dX7_execute_4 (by decide) (by decide) ?_
    refine jj_aload_n C dX7_execute_9 rfl ?_
    refine tt_get C hok_2 jk_8 3 (by decide) jw_751 (t := (0, (-2147483648), 2147483647)) hk0 (by decide) rfl rfl dX7_execute_10 (fun v_7 hv_7 hf_8 => ?_)
    obtain ⟨x_9, rfl, lx_9, ux_9⟩ := tt_vi hv_7
    rcases jj_em (x_9 = 0) with c_10 | c_10
    · refine jj_tableIn (tgt := 56) C dX7_execute_13 (by rw [c_10]; decide) (by rw [c_10]; decide) (by rw [c_10]; rfl) (by decide) ?_
      refine jj_aload_n C dX7_execute_56 rfl ?_
      refine tt_get C hok_2 jk_8 1 (by decide) jw_773 (t := (2, 1, 0)) hk0 (by decide) rfl rfl dX7_execute_57 (fun v_11 hv_11 hf_12 => ?_)
      obtain ⟨a_13, rfl, ka_13⟩ := tt_vr hv_11
      refine jj_aload_n C dX7_execute_60 rfl ?_
      refine tt_get C hok_2 jk_8 4 (by decide) jw_764 (t := (0, (-2147483648), 2147483647)) hk0 (by decide) rfl rfl dX7_execute_61 (fun v_14 hv_14 hf_15 => ?_)
      obtain ⟨x_16, rfl, lx_16, ux_16⟩ := tt_vi hv_14
      refine jj_iconst (v := 0) C dX7_execute_64 (by decide) ?_
      refine jj_aload_n C dX7_execute_65 rfl ?_
      refine tt_get C hok_2 jk_8 5 (by decide) jw_765 (t := (0, (-2147483648), 2147483647)) hk0 (by decide) rfl rfl dX7_execute_66 (fun v_17 hv_17 hf_18 => ?_)
      obtain ⟨x_19, rfl, lx_19, ux_19⟩ := tt_vi hv_17
      obtain ⟨y_20, ey_20, vy_20⟩ := tt_i2l x_19
      refine jj_i2l (v := y_20) C dX7_execute_69 ey_20 ?_
      obtain ⟨qc, gs, hqc⟩ := tt_recv (cx := []) hok_2 ka_13 (by decide) rfl
      refine tt_callV (rest := []) C (tc_X0_addRequest_2 hl D cA ak a_13 x_16 y_20 ka_13 hok_2) [] [] rfl rfl (by decide) (by decide) (by decide) qc hqc rfl rfl jw_781 jw_465 jw_466 jw_133 jw_462 jn_X0_addRequest rfl (jj_le rfl) (jj_le rfl) (jj_le rfl) (jj_le rfl) (jj_le rfl) dX7_execute_70 rfl (fun _ _ _ hX => hX.elim) (fun rx pl_21 r O_24 => ?_)
      obtain ⟨rfl, hok_22, hr_23, hR_26⟩ := O_24
      replace hf_8 := hr_23.at hk0 (by decide) (by decide) hf_8
      replace hf_12 := hr_23.at hk0 (by decide) (by decide) hf_12
      replace hf_15 := hr_23.at hk0 (by decide) (by decide) hf_15
      replace hf_18 := hr_23.at hk0 (by decide) (by decide) hf_18
      replace hfr := hfr.trans (hr_23.sub (by decide))
      rcases hR_26 with rfl | ⟨x_27, lx_27, ux_27, rfl⟩
      · refine jj_pop C dX7_execute_73 rfl ?_
        refine jj_goto (tgt := 178) C dX7_execute_74 (by decide) ?_
        refine jj_iconst (v := 1) C dX7_execute_178 (by decide) ?_
        exact jj_zret C rfl ⟨[], pl_21, rfl, rfl, hok_22, hfr, (Or.inr rfl)⟩ dX7_execute_179 (jj_le rfl) (jj_le rfl)
      · refine jj_pop C dX7_execute_73 rfl ?_
        refine jj_goto (tgt := 178) C dX7_execute_74 (by decide) ?_
        refine jj_iconst (v := 1) C dX7_execute_178 (by decide) ?_
        exact jj_zret C rfl ⟨[], pl_21, rfl, rfl, hok_22, hfr, (Or.inr rfl)⟩ dX7_execute_179 (jj_le rfl) (jj_le rfl)
    rcases jj_em (x_9 = 1) with c_28 | c_28
    · refine jj_tableIn (tgt := 77) C dX7_execute_13 (by rw [c_28]; decide) (by rw [c_28]; decide) (by rw [c_28]; rfl) (by decide) ?_
      refine jj_aload_n C dX7_execute_77 rfl ?_
      refine tt_get C hok_2 jk_8 1 (by decide) jw_773 (t := (2, 1, 0)) hk0 (by decide) rfl rfl dX7_execute_78 (fun v_29 hv_29 hf_30 => ?_)
      obtain ⟨a_31, rfl, ka_31⟩ := tt_vr hv_29
      refine jj_aload_n C dX7_execute_81 rfl ?_
      refine tt_get C hok_2 jk_8 4 (by decide) jw_764 (t := (0, (-2147483648), 2147483647)) hk0 (by decide) rfl rfl dX7_execute_82 (fun v_32 hv_32 hf_33 => ?_)
      obtain ⟨x_34, rfl, lx_34, ux_34⟩ := tt_vi hv_32
      refine jj_iconst (v := 1) C dX7_execute_85 (by decide) ?_
      refine jj_aload_n C dX7_execute_86 rfl ?_
      refine tt_get C hok_2 jk_8 5 (by decide) jw_765 (t := (0, (-2147483648), 2147483647)) hk0 (by decide) rfl rfl dX7_execute_87 (fun v_35 hv_35 hf_36 => ?_)
      obtain ⟨x_37, rfl, lx_37, ux_37⟩ := tt_vi hv_35
      obtain ⟨y_38, ey_38, vy_38⟩ := tt_i2l x_37
      refine jj_i2l (v := y_38) C dX7_execute_90 ey_38 ?_
      obtain ⟨qc, gs, hqc⟩ := tt_recv (cx := []) hok_2 ka_31 (by decide) rfl
      refine tt_callV (rest := []) C (tc_X0_addRequest_1 hl D cA ak a_31 x_34 y_38 ka_31 hok_2) [] [] rfl rfl (by decide) (by decide) (by decide) qc hqc rfl rfl jw_781 jw_465 jw_466 jw_133 jw_462 jn_X0_addRequest rfl (jj_le rfl) (jj_le rfl) (jj_le rfl) (jj_le rfl) (jj_le rfl) dX7_execute_91 rfl (fun _ _ _ hX => hX.elim) (fun rx pl_39 r O_42 => ?_)
      obtain ⟨rfl, hok_40, hr_41, hR_44⟩ := O_42
      replace hf_8 := hr_41.at hk0 (by decide) (by decide) hf_8
      replace hf_30 := hr_41.at hk0 (by decide) (by decide) hf_30
      replace hf_33 := hr_41.at hk0 (by decide) (by decide) hf_33
      replace hf_36 := hr_41.at hk0 (by decide) (by decide) hf_36
      replace hfr := hfr.trans (hr_41.sub (by decide))
      rcases hR_44 with rfl | ⟨x_45, lx_45, ux_45, rfl⟩
      · refine jj_pop C dX7_execute_94 rfl ?_
        refine jj_goto (tgt := 178) C dX7_execute_95 (by decide) ?_
        refine jj_iconst (v := 1) C dX7_execute_178 (by decide) ?_
        exact jj_zret C rfl ⟨[], pl_39, rfl, rfl, hok_40, hfr, (Or.inr rfl)⟩ dX7_execute_179 (jj_le rfl) (jj_le rfl)
      · refine jj_pop C dX7_execute_94 rfl ?_
        refine jj_goto (tgt := 178) C dX7_execute_95 (by decide) ?_
        refine jj_iconst (v := 1) C dX7_execute_178 (by decide) ?_
        exact jj_zret C rfl ⟨[], pl_39, rfl, rfl, hok_40, hfr, (Or.inr rfl)⟩ dX7_execute_179 (jj_le rfl) (jj_le rfl)
    rcases jj_em (x_9 = 2) with c_46 | c_46
    · refine jj_tableIn (tgt := 98) C dX7_execute_13 (by rw [c_46]; decide) (by rw [c_46]; decide) (by rw [c_46]; rfl) (by decide) ?_
      refine jj_aload_n C dX7_execute_98 rfl ?_
      refine tt_get C hok_2 jk_8 2 (by decide) jw_782 (t := (2, 9, 0)) hk0 (by decide) rfl rfl dX7_execute_99 (fun v_47 hv_47 hf_48 => ?_)
      obtain ⟨a_49, rfl, ka_49⟩ := tt_vr hv_47
      refine jj_aload_n C dX7_execute_102 rfl ?_
      refine tt_get C hok_2 jk_8 1 (by decide) jw_773 (t := (2, 1, 0)) hk0 (by decide) rfl rfl dX7_execute_103 (fun v_50 hv_50 hf_51 => ?_)
      obtain ⟨a_52, rfl, ka_52⟩ := tt_vr hv_50
      obtain ⟨qc, gs, hqc⟩ := tt_recv (cx := []) hok_2 ka_49 (by decide) rfl
      refine tt_callV (rest := []) C (tc_X1_holdDealing_1 hl D cA ak a_49 a_52 ka_49 ka_52 hok_2) [] [] rfl rfl (by decide) (by decide) (by decide) qc hqc rfl rfl jw_783 jw_688 jw_689 jw_74 jw_683 jn_X1_holdDealing rfl (jj_le rfl) (jj_le rfl) (jj_le rfl) (jj_le rfl) (jj_le rfl) dX7_execute_106 rfl (fun _ _ _ hX => hX.elim) (fun rx pl_53 r O_56 => ?_)
      obtain ⟨rfl, hok_54, hr_55, hR_58⟩ := O_56
      replace hf_8 := hr_55.at hk0 (by decide) (by decide) hf_8
      replace hf_48 := hr_55.at hk0 (by decide) (by decide) hf_48
      replace hf_51 := hr_55.at hk0 (by decide) (by decide) hf_51
      replace hfr := hfr.trans (hr_55.sub (by decide))
      obtain ⟨x_59, lx_59, ux_59, rfl⟩ := hR_58
      refine jj_pop C dX7_execute_109 rfl ?_
      refine jj_goto (tgt := 178) C dX7_execute_110 (by decide) ?_
      refine jj_iconst (v := 1) C dX7_execute_178 (by decide) ?_
      exact jj_zret C rfl ⟨[], pl_53, rfl, rfl, hok_54, hfr, (Or.inr rfl)⟩ dX7_execute_179 (jj_le rfl) (jj_le rfl)
    rcases jj_em (x_9 = 3) with c_60 | c_60
    · refine jj_tableIn (tgt := 113) C dX7_execute_13 (by rw [c_60]; decide) (by rw [c_60]; decide) (by rw [c_60]; rfl) (by decide) ?_
      refine jj_aload_n C dX7_execute_113 rfl ?_
      refine tt_get C hok_2 jk_8 1 (by decide) jw_773 (t := (2, 1, 0)) hk0 (by decide) rfl rfl dX7_execute_114 (fun v_61 hv_61 hf_62 => ?_)
      obtain ⟨a_63, rfl, ka_63⟩ := tt_vr hv_61
      refine jj_aload_n C dX7_execute_117 rfl ?_
      refine tt_get C hok_2 jk_8 4 (by decide) jw_764 (t := (0, (-2147483648), 2147483647)) hk0 (by decide) rfl rfl dX7_execute_118 (fun v_64 hv_64 hf_65 => ?_)
      obtain ⟨x_66, rfl, lx_66, ux_66⟩ := tt_vi hv_64
      refine tt_callS (rest := []) C (tc_X2_earnRate_1 hl D cA ak a_63 x_66 ka_63 hok_2) [] [] rfl rfl (by decide) (by decide) (by decide) jw_784 jw_391 jw_175 jw_390 jn_X2_earnRate rfl (jj_le rfl) (jj_le rfl) (jj_le rfl) (jj_le rfl) (jj_le rfl) dX7_execute_121 rfl (fun _ _ _ hX => hX.elim) (fun rx pl_67 r O_70 => ?_)
      obtain ⟨rfl, hok_68, hr_69, hR_72⟩ := O_70
      replace hf_8 := hr_69.at hk0 (by decide) (by decide) hf_8
      replace hf_62 := hr_69.at hk0 (by decide) (by decide) hf_62
      replace hf_65 := hr_69.at hk0 (by decide) (by decide) hf_65
      replace hfr := hfr.trans (hr_69.sub (by decide))
      obtain ⟨y_73, rfl⟩ := hR_72
      refine jj_pop2 C dX7_execute_124 rfl ?_
      refine jj_goto (tgt := 178) C dX7_execute_125 (by decide) ?_
      refine jj_iconst (v := 1) C dX7_execute_178 (by decide) ?_
      exact jj_zret C rfl ⟨[], pl_67, rfl, rfl, hok_68, hfr, (Or.inr rfl)⟩ dX7_execute_179 (jj_le rfl) (jj_le rfl)
    rcases jj_em (x_9 = 4) with c_74 | c_74
    · refine jj_tableIn (tgt := 128) C dX7_execute_13 (by rw [c_74]; decide) (by rw [c_74]; decide) (by rw [c_74]; rfl) (by decide) ?_
      refine jj_aload_n C dX7_execute_128 rfl ?_
      refine tt_get C hok_2 jk_8 1 (by decide) jw_773 (t := (2, 1, 0)) hk0 (by decide) rfl rfl dX7_execute_129 (fun v_75 hv_75 hf_76 => ?_)
      obtain ⟨a_77, rfl, ka_77⟩ := tt_vr hv_75
      refine jj_aload_n C dX7_execute_132 rfl ?_
      refine tt_get C hok_2 jk_8 4 (by decide) jw_764 (t := (0, (-2147483648), 2147483647)) hk0 (by decide) rfl rfl dX7_execute_133 (fun v_78 hv_78 hf_79 => ?_)
      obtain ⟨x_80, rfl, lx_80, ux_80⟩ := tt_vi hv_78
      obtain ⟨x_81, ex_81⟩ : ∃ z : Int32, -x_80 = z := ⟨_, rfl⟩
      refine jj_ineg (v := x_81) C dX7_execute_136 ex_81 ?_
      refine tt_callS (rest := []) C (tc_X2_earnRate_1 hl D cA ak a_77 x_81 ka_77 hok_2) [] [] rfl rfl (by decide) (by decide) (by decide) jw_784 jw_391 jw_175 jw_390 jn_X2_earnRate rfl (jj_le rfl) (jj_le rfl) (jj_le rfl) (jj_le rfl) (jj_le rfl) dX7_execute_137 rfl (fun _ _ _ hX => hX.elim) (fun rx pl_82 r O_85 => ?_)
      obtain ⟨rfl, hok_83, hr_84, hR_87⟩ := O_85
      replace hf_8 := hr_84.at hk0 (by decide) (by decide) hf_8
      replace hf_76 := hr_84.at hk0 (by decide) (by decide) hf_76
      replace hf_79 := hr_84.at hk0 (by decide) (by decide) hf_79
      replace hfr := hfr.trans (hr_84.sub (by decide))
      obtain ⟨y_88, rfl⟩ := hR_87
      refine jj_pop2 C dX7_execute_140 rfl ?_
      refine jj_goto (tgt := 178) C dX7_execute_141 (by decide) ?_
      refine jj_iconst (v := 1) C dX7_execute_178 (by decide) ?_
      exact jj_zret C rfl ⟨[], pl_82, rfl, rfl, hok_83, hfr, (Or.inr rfl)⟩ dX7_execute_179 (jj_le rfl) (jj_le rfl)
    rcases jj_em (x_9 = 5) with c_89 | c_89
    · refine jj_tableIn (tgt := 144) C dX7_execute_13 (by rw [c_89]; decide) (by rw [c_89]; decide) (by rw [c_89]; rfl) (by decide) ?_
      refine jj_aload_n C dX7_execute_144 rfl ?_
      refine tt_get C hok_2 jk_8 1 (by decide) jw_773 (t := (2, 1, 0)) hk0 (by decide) rfl rfl dX7_execute_145 (fun v_90 hv_90 hf_91 => ?_)
      obtain ⟨a_92, rfl, ka_92⟩ := tt_vr hv_90
      refine jj_aload_n C dX7_execute_148 rfl ?_
      refine tt_get C hok_2 jk_8 4 (by decide) jw_764 (t := (0, (-2147483648), 2147483647)) hk0 (by decide) rfl rfl dX7_execute_149 (fun v_93 hv_93 hf_94 => ?_)
      obtain ⟨x_95, rfl, lx_95, ux_95⟩ := tt_vi hv_93
      refine tt_callS (rest := []) C (tc_X2_chargeDays_3 hl D cA ak a_92 x_95 ka_92 hok_2) [] [] rfl rfl (by decide) (by decide) (by decide) jw_785 jw_324 jw_175 jw_316 jn_X2_chargeDays rfl (jj_le rfl) (jj_le rfl) (jj_le rfl) (jj_le rfl) (jj_le rfl) dX7_execute_152 rfl (fun _ _ _ hX => hX.elim) (fun rx pl_96 r O_99 => ?_)
      obtain ⟨rfl, hok_97, hr_98, hR_101⟩ := O_99
      replace hf_8 := hr_98.at hk0 (by decide) (by decide) hf_8
      replace hf_91 := hr_98.at hk0 (by decide) (by decide) hf_91
      replace hf_94 := hr_98.at hk0 (by decide) (by decide) hf_94
      replace hfr := hfr.trans (hr_98.sub (by decide))
      obtain ⟨y_102, rfl⟩ := hR_101
      refine jj_pop2 C dX7_execute_155 rfl ?_
      refine jj_goto (tgt := 178) C dX7_execute_156 (by decide) ?_
      refine jj_iconst (v := 1) C dX7_execute_178 (by decide) ?_
      exact jj_zret C rfl ⟨[], pl_96, rfl, rfl, hok_97, hfr, (Or.inr rfl)⟩ dX7_execute_179 (jj_le rfl) (jj_le rfl)
    rcases jj_em (x_9 = 6) with c_103 | c_103
    · refine jj_tableIn (tgt := 159) C dX7_execute_13 (by rw [c_103]; decide) (by rw [c_103]; decide) (by rw [c_103]; rfl) (by decide) ?_
      refine jj_aload_n C dX7_execute_159 rfl ?_
      refine tt_get C hok_2 jk_8 1 (by decide) jw_773 (t := (2, 1, 0)) hk0 (by decide) rfl rfl dX7_execute_160 (fun v_104 hv_104 hf_105 => ?_)
      obtain ⟨a_106, rfl, ka_106⟩ := tt_vr hv_104
      refine tt_callS (rest := []) C (tc_X2_settleAll_1 hl D cA ak a_106 ka_106 hok_2) [] [] rfl rfl (by decide) (by decide) (by decide) jw_786 jw_722 jw_175 jw_692 jn_X2_settleAll rfl (jj_le rfl) (jj_le rfl) (jj_le rfl) (jj_le rfl) (jj_le rfl) dX7_execute_163 rfl (fun _ _ _ hX => hX.elim) (fun rx pl_107 r O_110 => ?_)
      obtain ⟨rfl, hok_108, hr_109, hR_112⟩ := O_110
      replace hf_8 := hr_109.at hk0 (by decide) (by decide) hf_8
      replace hf_105 := hr_109.at hk0 (by decide) (by decide) hf_105
      replace hfr := hfr.trans (hr_109.sub (by decide))
      obtain ⟨y_113, rfl⟩ := hR_112
      refine jj_pop2 C dX7_execute_166 rfl ?_
      refine jj_goto (tgt := 178) C dX7_execute_167 (by decide) ?_
      refine jj_iconst (v := 1) C dX7_execute_178 (by decide) ?_
      exact jj_zret C rfl ⟨[], pl_107, rfl, rfl, hok_108, hfr, (Or.inr rfl)⟩ dX7_execute_179 (jj_le rfl) (jj_le rfl)
    refine jj_tableOut (tgt := 170) C dX7_execute_13 (by have zc_10 := lv_neT (a := 0) c_10 (by decide); have zc_28 := lv_neT (a := 1) c_28 (by decide); have zc_46 := lv_neT (a := 2) c_46 (by decide); have zc_60 := lv_neT (a := 3) c_60 (by decide); have zc_74 := lv_neT (a := 4) c_74 (by decide); have zc_89 := lv_neT (a := 5) c_89 (by decide); have zc_103 := lv_neT (a := 6) c_103 (by decide); omega) (by decide) ?_
    refine jj_aload_n C dX7_execute_170 rfl ?_
    refine tt_get C hok_2 jk_8 1 (by decide) jw_773 (t := (2, 1, 0)) hk0 (by decide) rfl rfl dX7_execute_171 (fun v_114 hv_114 hf_115 => ?_)
    obtain ⟨a_116, rfl, ka_116⟩ := tt_vr hv_114
    refine tt_callS (rest := []) C (tc_X2_mergeAll_1 hl D cA ak a_116 ka_116 hok_2) [] [] rfl rfl (by decide) (by decide) (by decide) jw_787 jw_730 jw_175 jw_725 jn_X2_mergeAll rfl (jj_le rfl) (jj_le rfl) (jj_le rfl) (jj_le rfl) (jj_le rfl) dX7_execute_174 rfl (fun _ _ _ hX => hX.elim) (fun rx pl_117 r O_120 => ?_)
    obtain ⟨rfl, hok_118, hr_119, hR_122⟩ := O_120
    replace hf_8 := hr_119.at hk0 (by decide) (by decide) hf_8
    replace hf_115 := hr_119.at hk0 (by decide) (by decide) hf_115
    replace hfr := hfr.trans (hr_119.sub (by decide))
    rcases hR_122 with rfl | ⟨x_123, lx_123, ux_123, rfl⟩
    · refine jj_pop C dX7_execute_177 rfl ?_
      refine jj_iconst (v := 1) C dX7_execute_178 (by decide) ?_
      exact jj_zret C rfl ⟨[], pl_117, rfl, rfl, hok_118, hfr, (Or.inr rfl)⟩ dX7_execute_179 (jj_le rfl) (jj_le rfl)
    · refine jj_pop C dX7_execute_177 rfl ?_
      refine jj_iconst (v := 1) C dX7_execute_178 (by decide) ?_
      exact jj_zret C rfl ⟨[], pl_117, rfl, rfl, hok_118, hfr, (Or.inr rfl)⟩ dX7_execute_179 (jj_le rfl) (jj_le rfl)
  · refine jj_if_eqF (tgt := 9) C dX7_execute_4 (by decide) (by decide) ?_
    refine jj_iconst (v := 0) C dX7_execute_7 (by decide) ?_
    exact jj_zret C rfl ⟨[], pl_1, rfl, rfl, hok_2, hfr, (Or.inl rfl)⟩ dX7_execute_8 (jj_le rfl) (jj_le rfl)

set_option maxHeartbeats 4000000 in
set_option maxRecDepth 100000 in
theorem tc_X10_netAssets_1 {l : Launch} (hl : l.stackTraces = false) (D : va_G) (cA : Nat → ClassId) (ak : (Nat → Nat) × (Nat → Nat)) {Kd : Nat → Nat} (h0 : Nat) (hk0 : Kd h0 = 15) {pl0 : va_W} (hok : tt_ok tt_tk cA Kd pl0) : jj_M l D cA ak yX10_netAssets (.code yX10_netAssets cX10_netAssets 1 (some .long)) 2 48 0 0 ([] ++ pl0) [.ref h0] (tt_O (fun rx pl1 r => rx = [] ∧ tt_ok tt_tk cA Kd pl1 ∧ tt_fr Kd [] pl0 pl1 ∧ ((∃ v : Int64, r = some (.long v))))) (tt_OX (fun _ _ _ => False)) := by
  refine jj_start hl (by decide) jw_875 (jj_le rfl) ?_
  intro p e s m args below meth c A hargs hA C hex hmn
  have hfr := tt_fr.refl (K := Kd) (WS := []) pl0
  refine jj_aload_n C dX10_netAssets_0 rfl ?_
  refine tt_get C hok jk_11 3 (by decide) jw_2 (t := (2, 1, 0)) hk0 (by decide) rfl rfl dX10_netAssets_1 (fun v_1 hv_1 hf_2 => ?_)
  obtain ⟨a_3, rfl, ka_3⟩ := tt_vr hv_1
  obtain ⟨qc, gs, hqc⟩ := tt_recv (cx := []) hok ka_3 (by decide) rfl
  refine tt_callV (rest := []) C (tc_X0_netOfAll_1 hl D cA ak a_3 ka_3 hok) [] [] rfl rfl (by decide) (by decide) (by decide) qc hqc rfl rfl jw_314 jw_240 jw_241 jw_133 jw_237 jn_X0_netOfAll rfl (jj_le rfl) (jj_le rfl) (jj_le rfl) (jj_le rfl) (jj_le rfl) dX10_netAssets_4 rfl (fun _ _ _ hX => hX.elim) (fun rx pl_4 r O_7 => ?_)
  obtain ⟨rfl, hok_5, hr_6, hR_9⟩ := O_7
  replace hf_2 := hr_6.at hk0 (by decide) (by decide) hf_2
  replace hfr := hfr.trans (hr_6.sub (by decide))
  obtain ⟨y_10, rfl⟩ := hR_9
  exact jj_lret C ⟨[], pl_4, rfl, rfl, hok_5, hfr, ⟨y_10, rfl⟩⟩ dX10_netAssets_7 (jj_le rfl) (jj_le rfl)

set_option maxHeartbeats 4000000 in
set_option maxRecDepth 100000 in
theorem tc_X10_requestedValue_1 {l : Launch} (hl : l.stackTraces = false) (D : va_G) (cA : Nat → ClassId) (ak : (Nat → Nat) × (Nat → Nat)) {Kd : Nat → Nat} (h0 : Nat) (hk0 : Kd h0 = 15) {pl0 : va_W} (hok : tt_ok tt_tk cA Kd pl0) : jj_M l D cA ak yX10_requestedValue (.code yX10_requestedValue cX10_requestedValue 1 (some .long)) 4 113 0 0 ([] ++ pl0) [.ref h0] (tt_O (fun rx pl1 r => rx = [] ∧ tt_ok tt_tk cA Kd pl1 ∧ tt_fr Kd [(2, 0), (2, 1), (2, 2), (2, 3), (2, 4), (9, 1), (9, 2), (9, 3), (9, 4), (9, 5)] pl0 pl1 ∧ ((∃ v : Int64, r = some (.long v))))) (tt_OX (fun _ _ _ => False)) := by
  refine jj_start hl (by decide) jw_876 (jj_le rfl) ?_
  intro p e s m args below meth c A hargs hA C hex hmn
  have hfr := tt_fr.refl (K := Kd) (WS := [(2, 0), (2, 1), (2, 2), (2, 3), (2, 4), (9, 1), (9, 2), (9, 3), (9, 4), (9, 5)]) pl0
  refine jj_aload_n C dX10_requestedValue_0 rfl ?_
  refine tt_get C hok jk_11 5 (by decide) jw_71 (t := (2, 9, 0)) hk0 (by decide) rfl rfl dX10_requestedValue_1 (fun v_1 hv_1 hf_2 => ?_)
  obtain ⟨a_3, rfl, ka_3⟩ := tt_vr hv_1
  refine jj_aload_n C dX10_requestedValue_4 rfl ?_
  refine tt_get C hok jk_11 3 (by decide) jw_2 (t := (2, 1, 0)) hk0 (by decide) rfl rfl dX10_requestedValue_5 (fun v_4 hv_4 hf_5 => ?_)
  obtain ⟨a_6, rfl, ka_6⟩ := tt_vr hv_4
  obtain ⟨qc, gs, hqc⟩ := tt_recv (cx := []) hok ka_3 (by decide) rfl
  refine tt_callV (rest := []) C (tc_X1_baseOfRedemptions_1 hl D cA ak a_3 a_6 ka_3 ka_6 hok) [] [] rfl rfl (by decide) (by decide) (by decide) qc hqc rfl rfl jw_72 jw_186 jw_187 jw_74 jw_73 jn_X1_baseOfRedemptions rfl (jj_le rfl) (jj_le rfl) (jj_le rfl) (jj_le rfl) (jj_le rfl) dX10_requestedValue_8 rfl (fun _ _ _ hX => hX.elim) (fun rx pl_7 r O_10 => ?_)
  obtain ⟨rfl, hok_8, hr_9, hR_12⟩ := O_10
  replace hf_2 := hr_9.at hk0 (by decide) (by decide) hf_2
  replace hf_5 := hr_9.at hk0 (by decide) (by decide) hf_5
  replace hfr := hfr.trans (hr_9.sub (by decide))
  obtain ⟨y_13, rfl⟩ := hR_12
  exact jj_lret C ⟨[], pl_7, rfl, rfl, hok_8, hfr, ⟨y_13, rfl⟩⟩ dX10_requestedValue_11 (jj_le rfl) (jj_le rfl)

set_option maxHeartbeats 4000000 in
set_option maxRecDepth 100000 in
theorem tc_X10_gateLimit_1 {l : Launch} (hl : l.stackTraces = false) (D : va_G) (cA : Nat → ClassId) (ak : (Nat → Nat) × (Nat → Nat)) {Kd : Nat → Nat} (h0 : Nat) (hk0 : Kd h0 = 15) {pl0 : va_W} (hok : tt_ok tt_tk cA Kd pl0) : jj_M l D cA ak yX10_gateLimit (.code yX10_gateLimit cX10_gateLimit 1 (some .long)) 3 68 0 0 ([] ++ pl0) [.ref h0] (tt_O (fun rx pl1 r => rx = [] ∧ tt_ok tt_tk cA Kd pl1 ∧ tt_fr Kd [] pl0 pl1 ∧ ((∃ v : Int64, r = some (.long v))))) (tt_OX (fun _ _ _ => False)) := by
  refine jj_start hl (by decide) jw_877 (jj_le rfl) ?_
  intro p e s m args below meth c A hargs hA C hex hmn
  have hfr := tt_fr.refl (K := Kd) (WS := []) pl0
  refine jj_aload_n C dX10_gateLimit_0 rfl ?_
  refine tt_get C hok jk_11 3 (by decide) jw_2 (t := (2, 1, 0)) hk0 (by decide) rfl rfl dX10_gateLimit_1 (fun v_1 hv_1 hf_2 => ?_)
  obtain ⟨a_3, rfl, ka_3⟩ := tt_vr hv_1
  obtain ⟨qc, gs, hqc⟩ := tt_recv (cx := []) hok ka_3 (by decide) rfl
  refine tt_callV (rest := []) C (tc_X0_limitOfGate_1 hl D cA ak a_3 ka_3 hok) [] [] rfl rfl (by decide) (by decide) (by decide) qc hqc rfl rfl jw_791 jw_244 jw_245 jw_133 jw_235 jn_X0_limitOfGate rfl (jj_le rfl) (jj_le rfl) (jj_le rfl) (jj_le rfl) (jj_le rfl) dX10_gateLimit_4 rfl (fun _ _ _ hX => hX.elim) (fun rx pl_4 r O_7 => ?_)
  obtain ⟨rfl, hok_5, hr_6, hR_9⟩ := O_7
  replace hf_2 := hr_6.at hk0 (by decide) (by decide) hf_2
  replace hfr := hfr.trans (hr_6.sub (by decide))
  obtain ⟨y_10, rfl⟩ := hR_9
  exact jj_lret C ⟨[], pl_4, rfl, rfl, hok_5, hfr, ⟨y_10, rfl⟩⟩ dX10_gateLimit_7 (jj_le rfl) (jj_le rfl)

set_option maxHeartbeats 4000000 in
set_option maxRecDepth 100000 in
theorem tc_X10_wouldCrystallize_1 {l : Launch} (hl : l.stackTraces = false) (D : va_G) (cA : Nat → ClassId) (ak : (Nat → Nat) × (Nat → Nat)) {Kd : Nat → Nat} (h0 : Nat) (hk0 : Kd h0 = 15) {pl0 : va_W} (hok : tt_ok tt_tk cA Kd pl0) : jj_M l D cA ak yX10_wouldCrystallize (.code yX10_wouldCrystallize cX10_wouldCrystallize 1 (some .long)) 4 110 0 0 ([] ++ pl0) [.ref h0] (tt_O (fun rx pl1 r => rx = [] ∧ tt_ok tt_tk cA Kd pl1 ∧ tt_fr Kd [(1, 0), (1, 1), (1, 2), (1, 3), (1, 4), (1, 5), (1, 6), (1, 7), (1, 8), (1, 9), (2, 0), (2, 1), (2, 2), (2, 3), (2, 4), (3, 0), (3, 1), (3, 2), (3, 3), (3, 4), (3, 5), (4, 0), (4, 1), (4, 2), (4, 3), (4, 4)] pl0 pl1 ∧ ((∃ v : Int64, r = some (.long v))))) (tt_OX (fun _ _ _ => False)) := by
  refine jj_start hl (by decide) jw_878 (jj_le rfl) ?_
  intro p e s m args below meth c A hargs hA C hex hmn
  have hfr := tt_fr.refl (K := Kd) (WS := [(1, 0), (1, 1), (1, 2), (1, 3), (1, 4), (1, 5), (1, 6), (1, 7), (1, 8), (1, 9), (2, 0), (2, 1), (2, 2), (2, 3), (2, 4), (3, 0), (3, 1), (3, 2), (3, 3), (3, 4), (3, 5), (4, 0), (4, 1), (4, 2), (4, 3), (4, 4)]) pl0
  refine jj_aload_n C dX10_wouldCrystallize_0 rfl ?_
  refine tt_get C hok jk_11 4 (by decide) jw_189 (t := (2, 1, 0)) hk0 (by decide) rfl rfl dX10_wouldCrystallize_1 (fun v_1 hv_1 hf_2 => ?_)
  obtain ⟨a_3, rfl, ka_3⟩ := tt_vr hv_1
  refine jj_aload_n C dX10_wouldCrystallize_4 rfl ?_
  refine tt_get C hok jk_11 3 (by decide) jw_2 (t := (2, 1, 0)) hk0 (by decide) rfl rfl dX10_wouldCrystallize_5 (fun v_4 hv_4 hf_5 => ?_)
  obtain ⟨a_6, rfl, ka_6⟩ := tt_vr hv_4
  obtain ⟨qc, gs, hqc⟩ := tt_recv (cx := []) hok ka_3 (by decide) rfl
  refine tt_callV (rest := []) C (tc_X0_copyFrom_1 hl D cA ak a_3 a_6 ka_3 ka_6 hok) [] [] rfl rfl (by decide) (by decide) (by decide) qc hqc rfl rfl jw_190 jw_228 jw_229 jw_133 jw_191 jn_X0_copyFrom rfl (jj_le rfl) (jj_le rfl) (jj_le rfl) (jj_le rfl) (jj_le rfl) dX10_wouldCrystallize_8 rfl (fun _ _ _ hX => hX.elim) (fun rx pl_7 r O_10 => ?_)
  obtain ⟨rfl, hok_8, hr_9, hR_12⟩ := O_10
  replace hf_2 := hr_9.at hk0 (by decide) (by decide) hf_2
  replace hf_5 := hr_9.at hk0 (by decide) (by decide) hf_5
  replace hfr := hfr.trans (hr_9.sub (by decide))
  obtain rfl := hR_12
  refine jj_aload_n C dX10_wouldCrystallize_11 rfl ?_
  refine tt_getF C hok_8 jk_11 4 (by decide) jw_189 (t := (2, 1, 0)) hk0 (by decide) rfl rfl hf_2 dX10_wouldCrystallize_12 ?_
  refine tt_callS (rest := []) C (tc_X2_settleAll_1 hl D cA ak a_3 ka_3 hok_8) [] [] rfl rfl (by decide) (by decide) (by decide) jw_691 jw_722 jw_175 jw_692 jn_X2_settleAll rfl (jj_le rfl) (jj_le rfl) (jj_le rfl) (jj_le rfl) (jj_le rfl) dX10_wouldCrystallize_15 rfl (fun _ _ _ hX => hX.elim) (fun rx pl_13 r O_16 => ?_)
  obtain ⟨rfl, hok_14, hr_15, hR_18⟩ := O_16
  replace hf_2 := hr_15.at hk0 (by decide) (by decide) hf_2
  replace hf_5 := hr_15.at hk0 (by decide) (by decide) hf_5
  replace hfr := hfr.trans (hr_15.sub (by decide))
  obtain ⟨y_19, rfl⟩ := hR_18
  exact jj_lret C ⟨[], pl_13, rfl, rfl, hok_14, hfr, ⟨y_19, rfl⟩⟩ dX10_wouldCrystallize_18 (jj_le rfl) (jj_le rfl)

set_option maxHeartbeats 4000000 in
set_option maxRecDepth 100000 in
theorem tc_X10_wouldMerge_1 {l : Launch} (hl : l.stackTraces = false) (D : va_G) (cA : Nat → ClassId) (ak : (Nat → Nat) × (Nat → Nat)) {Kd : Nat → Nat} (h0 : Nat) (hk0 : Kd h0 = 15) {pl0 : va_W} (hok : tt_ok tt_tk cA Kd pl0) : jj_M l D cA ak yX10_wouldMerge (.code yX10_wouldMerge cX10_wouldMerge 1 (some .int)) 4 110 0 0 ([] ++ pl0) [.ref h0] (tt_O (fun rx pl1 r => rx = [] ∧ tt_ok tt_tk cA Kd pl1 ∧ tt_fr Kd [(1, 0), (1, 1), (1, 2), (1, 3), (1, 4), (1, 5), (1, 6), (1, 7), (1, 8), (1, 9), (2, 0), (2, 1), (2, 2), (2, 3), (2, 4), (3, 0), (3, 1), (3, 2), (3, 3), (3, 4), (3, 5), (4, 0), (4, 1), (4, 2), (4, 3), (4, 4)] pl0 pl1 ∧ ((r = some (.int 0)) ∨ (∃ v : Int32, (-2147483648 : Int) ≤ v.toInt ∧ v.toInt ≤ 2147483647 ∧ r = some (.int v))))) (tt_OX (fun _ _ _ => False)) := by
  refine jj_start hl (by decide) jw_879 (jj_le rfl) ?_
  intro p e s m args below meth c A hargs hA C hex hmn
  have hfr := tt_fr.refl (K := Kd) (WS := [(1, 0), (1, 1), (1, 2), (1, 3), (1, 4), (1, 5), (1, 6), (1, 7), (1, 8), (1, 9), (2, 0), (2, 1), (2, 2), (2, 3), (2, 4), (3, 0), (3, 1), (3, 2), (3, 3), (3, 4), (3, 5), (4, 0), (4, 1), (4, 2), (4, 3), (4, 4)]) pl0
  refine jj_aload_n C dX10_wouldMerge_0 rfl ?_
  refine tt_get C hok jk_11 4 (by decide) jw_189 (t := (2, 1, 0)) hk0 (by decide) rfl rfl dX10_wouldMerge_1 (fun v_1 hv_1 hf_2 => ?_)
  obtain ⟨a_3, rfl, ka_3⟩ := tt_vr hv_1
  refine jj_aload_n C dX10_wouldMerge_4 rfl ?_
  refine tt_get C hok jk_11 3 (by decide) jw_2 (t := (2, 1, 0)) hk0 (by decide) rfl rfl dX10_wouldMerge_5 (fun v_4 hv_4 hf_5 => ?_)
  obtain ⟨a_6, rfl, ka_6⟩ := tt_vr hv_4
  obtain ⟨qc, gs, hqc⟩ := tt_recv (cx := []) hok ka_3 (by decide) rfl
  refine tt_callV (rest := []) C (tc_X0_copyFrom_1 hl D cA ak a_3 a_6 ka_3 ka_6 hok) [] [] rfl rfl (by decide) (by decide) (by decide) qc hqc rfl rfl jw_190 jw_228 jw_229 jw_133 jw_191 jn_X0_copyFrom rfl (jj_le rfl) (jj_le rfl) (jj_le rfl) (jj_le rfl) (jj_le rfl) dX10_wouldMerge_8 rfl (fun _ _ _ hX => hX.elim) (fun rx pl_7 r O_10 => ?_)
  obtain ⟨rfl, hok_8, hr_9, hR_12⟩ := O_10
  replace hf_2 := hr_9.at hk0 (by decide) (by decide) hf_2
  replace hf_5 := hr_9.at hk0 (by decide) (by decide) hf_5
  replace hfr := hfr.trans (hr_9.sub (by decide))
  obtain rfl := hR_12
  refine jj_aload_n C dX10_wouldMerge_11 rfl ?_
  refine tt_getF C hok_8 jk_11 4 (by decide) jw_189 (t := (2, 1, 0)) hk0 (by decide) rfl rfl hf_2 dX10_wouldMerge_12 ?_
  refine tt_callS (rest := []) C (tc_X2_settleAll_1 hl D cA ak a_3 ka_3 hok_8) [] [] rfl rfl (by decide) (by decide) (by decide) jw_691 jw_722 jw_175 jw_692 jn_X2_settleAll rfl (jj_le rfl) (jj_le rfl) (jj_le rfl) (jj_le rfl) (jj_le rfl) dX10_wouldMerge_15 rfl (fun _ _ _ hX => hX.elim) (fun rx pl_13 r O_16 => ?_)
  obtain ⟨rfl, hok_14, hr_15, hR_18⟩ := O_16
  replace hf_2 := hr_15.at hk0 (by decide) (by decide) hf_2
  replace hf_5 := hr_15.at hk0 (by decide) (by decide) hf_5
  replace hfr := hfr.trans (hr_15.sub (by decide))
  obtain ⟨y_19, rfl⟩ := hR_18
  refine jj_pop2 C dX10_wouldMerge_18 rfl ?_
  refine jj_aload_n C dX10_wouldMerge_19 rfl ?_
  refine tt_getF C hok_14 jk_11 4 (by decide) jw_189 (t := (2, 1, 0)) hk0 (by decide) rfl rfl hf_2 dX10_wouldMerge_20 ?_
  refine tt_callS (rest := []) C (tc_X2_mergeAll_1 hl D cA ak a_3 ka_3 hok_14) [] [] rfl rfl (by decide) (by decide) (by decide) jw_724 jw_730 jw_175 jw_725 jn_X2_mergeAll rfl (jj_le rfl) (jj_le rfl) (jj_le rfl) (jj_le rfl) (jj_le rfl) dX10_wouldMerge_23 rfl (fun _ _ _ hX => hX.elim) (fun rx pl_20 r O_23 => ?_)
  obtain ⟨rfl, hok_21, hr_22, hR_25⟩ := O_23
  replace hf_2 := hr_22.at hk0 (by decide) (by decide) hf_2
  replace hf_5 := hr_22.at hk0 (by decide) (by decide) hf_5
  replace hfr := hfr.trans (hr_22.sub (by decide))
  rcases hR_25 with rfl | ⟨x_26, lx_26, ux_26, rfl⟩
  · exact jj_iret C ⟨[], pl_20, rfl, rfl, hok_21, hfr, (Or.inl rfl)⟩ dX10_wouldMerge_26 (jj_le rfl) (jj_le rfl)
  · exact jj_iret C ⟨[], pl_20, rfl, rfl, hok_21, hfr, (Or.inr ⟨x_26, (by first | omega | exact tt_lo _ | exact tt_hi _), (by first | omega | exact tt_lo _ | exact tt_hi _), rfl⟩)⟩ dX10_wouldMerge_26 (jj_le rfl) (jj_le rfl)

set_option maxHeartbeats 4000000 in
set_option maxRecDepth 100000 in
theorem tc_X5_putByte_1 {l : Launch} (hl : l.stackTraces = false) (D : va_G) (cA : Nat → ClassId) (ak : (Nat → Nat) × (Nat → Nat)) {Kd : Nat → Nat} (h0 : Nat) (hk0 : Kd h0 = 12) {pl0 : va_W} (hok : tt_ok tt_tk cA Kd pl0) : jj_M l D cA ak yX5_putByte (.code yX5_putByte cX5_putByte 2 none) 0 0 0 0 ([] ++ pl0) [.ref h0, .int 100] (tt_O (fun rx pl1 r => rx = [] ∧ tt_ok tt_tk cA Kd pl1 ∧ tt_fr Kd [(12, 1)] pl0 pl1 ∧ ((r = none)))) (tt_OX (fun _ _ _ => False)) := by
  refine jj_start hl (by decide) jw_801 (jj_le rfl) ?_
  intro p e s m args below meth c A hargs hA C hex hmn
  have hfr := tt_fr.refl (K := Kd) (WS := [(12, 1)]) pl0
  refine jj_aload_n C dX5_putByte_0 rfl ?_
  refine tt_get C hok jk_6 1 (by decide) jw_795 (t := (0, 0, 1300)) hk0 (by decide) rfl rfl dX5_putByte_1 (fun v_1 hv_1 hf_2 => ?_)
  obtain ⟨x_3, rfl, lx_3, ux_3⟩ := tt_vi hv_1
  refine jj_sipush (v := 1300) C dX5_putByte_4 (by decide) ?_
  refine jj_icmp_ge (tgt := 30) C dX5_putByte_7 (by decide) (fun c_4 => ?_) (fun c_4 => ?_)
  · have z_c_4 := jc_le (a := (1300)) (b := (x_3).toInt) c_4 (by decide) rfl
    exact jj_vret C ⟨[], pl0, rfl, rfl, hok, hfr, rfl⟩ dX5_putByte_30 (jj_le rfl) (jj_le rfl)
  · have z_c_4 := jc_nle (a := (1300)) (b := (x_3).toInt) c_4 (by decide) rfl
    refine jj_aload_n C dX5_putByte_10 rfl ?_
    refine tt_get C hok jk_6 0 (by decide) jw_802 (t := (2, 13, 0)) hk0 (by decide) rfl rfl dX5_putByte_11 (fun v_5 hv_5 hf_6 => ?_)
    obtain ⟨a_7, rfl, ka_7⟩ := tt_vr hv_5
    refine jj_aload_n C dX5_putByte_14 rfl ?_
    refine tt_getF C hok jk_6 1 (by decide) jw_795 (t := (0, 0, 1300)) hk0 (by decide) rfl rfl hf_2 dX5_putByte_15 ?_
    refine jj_iload_n C dX5_putByte_18 rfl ?_
    refine tt_bast C hok (t := (0, (-2147483648), 2147483647)) ka_7 (by decide) rfl (vp_in_iff.mpr ⟨by omega, by omega⟩) (tt_ia _) dX5_putByte_19 (fun pl_8 hok_9 tr => ?_)
    replace hf_2 := tr _ _ _ hf_2
    replace hf_6 := tr _ _ _ hf_6
    replace hfr := hfr.arr tr
    refine jj_aload_n C dX5_putByte_20 rfl ?_
    refine jj_dup C dX5_putByte_21 rfl ?_
    refine tt_getF C hok_9 jk_6 1 (by decide) jw_795 (t := (0, 0, 1300)) hk0 (by decide) rfl rfl hf_2 dX5_putByte_22 ?_
    refine jj_iconst (v := 1) C dX5_putByte_25 (by decide) ?_
    obtain ⟨x_10, ex_10, vx_10⟩ := tt_iadd (x := x_3) (y := (1 : Int32)) (a := x_3.toInt) rfl (b := 1) (by decide) (by omega) (by omega)
    refine jj_iadd (v := x_10) C dX5_putByte_26 ex_10 ?_
    refine tt_put C hok_9 jk_6 1 (by decide) jw_795 (t := (0, 0, 1300)) hk0 (by decide) rfl rfl rfl (tt_iv (by omega) (by omega)) rfl rfl dX5_putByte_27 (fun pl_11 hok_12 tr hn => ?_)
    replace hf_6 := tr _ _ _ (Or.inr (by decide)) hf_6
    have hf_13 := hn
    replace hfr := hfr.put hk0 tr (by decide)
    exact jj_vret C ⟨[], pl_11, rfl, rfl, hok_12, hfr, rfl⟩ dX5_putByte_30 (jj_le rfl) (jj_le rfl)

set_option maxHeartbeats 4000000 in
set_option maxRecDepth 100000 in
theorem tc_X5_putByte_2 {l : Launch} (hl : l.stackTraces = false) (D : va_G) (cA : Nat → ClassId) (ak : (Nat → Nat) × (Nat → Nat)) {Kd : Nat → Nat} (h0 : Nat) (hk0 : Kd h0 = 12) {pl0 : va_W} (hok : tt_ok tt_tk cA Kd pl0) : jj_M l D cA ak yX5_putByte (.code yX5_putByte cX5_putByte 2 none) 0 0 0 0 ([] ++ pl0) [.ref h0, .int 97] (tt_O (fun rx pl1 r => rx = [] ∧ tt_ok tt_tk cA Kd pl1 ∧ tt_fr Kd [(12, 1)] pl0 pl1 ∧ ((r = none)))) (tt_OX (fun _ _ _ => False)) := by
  refine jj_start hl (by decide) jw_801 (jj_le rfl) ?_
  intro p e s m args below meth c A hargs hA C hex hmn
  have hfr := tt_fr.refl (K := Kd) (WS := [(12, 1)]) pl0
  refine jj_aload_n C dX5_putByte_0 rfl ?_
  refine tt_get C hok jk_6 1 (by decide) jw_795 (t := (0, 0, 1300)) hk0 (by decide) rfl rfl dX5_putByte_1 (fun v_1 hv_1 hf_2 => ?_)
  obtain ⟨x_3, rfl, lx_3, ux_3⟩ := tt_vi hv_1
  refine jj_sipush (v := 1300) C dX5_putByte_4 (by decide) ?_
  refine jj_icmp_ge (tgt := 30) C dX5_putByte_7 (by decide) (fun c_4 => ?_) (fun c_4 => ?_)
  · have z_c_4 := jc_le (a := (1300)) (b := (x_3).toInt) c_4 (by decide) rfl
    exact jj_vret C ⟨[], pl0, rfl, rfl, hok, hfr, rfl⟩ dX5_putByte_30 (jj_le rfl) (jj_le rfl)
  · have z_c_4 := jc_nle (a := (1300)) (b := (x_3).toInt) c_4 (by decide) rfl
    refine jj_aload_n C dX5_putByte_10 rfl ?_
    refine tt_get C hok jk_6 0 (by decide) jw_802 (t := (2, 13, 0)) hk0 (by decide) rfl rfl dX5_putByte_11 (fun v_5 hv_5 hf_6 => ?_)
    obtain ⟨a_7, rfl, ka_7⟩ := tt_vr hv_5
    refine jj_aload_n C dX5_putByte_14 rfl ?_
    refine tt_getF C hok jk_6 1 (by decide) jw_795 (t := (0, 0, 1300)) hk0 (by decide) rfl rfl hf_2 dX5_putByte_15 ?_
    refine jj_iload_n C dX5_putByte_18 rfl ?_
    refine tt_bast C hok (t := (0, (-2147483648), 2147483647)) ka_7 (by decide) rfl (vp_in_iff.mpr ⟨by omega, by omega⟩) (tt_ia _) dX5_putByte_19 (fun pl_8 hok_9 tr => ?_)
    replace hf_2 := tr _ _ _ hf_2
    replace hf_6 := tr _ _ _ hf_6
    replace hfr := hfr.arr tr
    refine jj_aload_n C dX5_putByte_20 rfl ?_
    refine jj_dup C dX5_putByte_21 rfl ?_
    refine tt_getF C hok_9 jk_6 1 (by decide) jw_795 (t := (0, 0, 1300)) hk0 (by decide) rfl rfl hf_2 dX5_putByte_22 ?_
    refine jj_iconst (v := 1) C dX5_putByte_25 (by decide) ?_
    obtain ⟨x_10, ex_10, vx_10⟩ := tt_iadd (x := x_3) (y := (1 : Int32)) (a := x_3.toInt) rfl (b := 1) (by decide) (by omega) (by omega)
    refine jj_iadd (v := x_10) C dX5_putByte_26 ex_10 ?_
    refine tt_put C hok_9 jk_6 1 (by decide) jw_795 (t := (0, 0, 1300)) hk0 (by decide) rfl rfl rfl (tt_iv (by omega) (by omega)) rfl rfl dX5_putByte_27 (fun pl_11 hok_12 tr hn => ?_)
    replace hf_6 := tr _ _ _ (Or.inr (by decide)) hf_6
    have hf_13 := hn
    replace hfr := hfr.put hk0 tr (by decide)
    exact jj_vret C ⟨[], pl_11, rfl, rfl, hok_12, hfr, rfl⟩ dX5_putByte_30 (jj_le rfl) (jj_le rfl)

set_option maxHeartbeats 4000000 in
set_option maxRecDepth 100000 in
theorem tc_X5_putByte_3 {l : Launch} (hl : l.stackTraces = false) (D : va_G) (cA : Nat → ClassId) (ak : (Nat → Nat) × (Nat → Nat)) {Kd : Nat → Nat} (h0 : Nat) (hk0 : Kd h0 = 12) {pl0 : va_W} (hok : tt_ok tt_tk cA Kd pl0) : jj_M l D cA ak yX5_putByte (.code yX5_putByte cX5_putByte 2 none) 0 0 0 0 ([] ++ pl0) [.ref h0, .int 121] (tt_O (fun rx pl1 r => rx = [] ∧ tt_ok tt_tk cA Kd pl1 ∧ tt_fr Kd [(12, 1)] pl0 pl1 ∧ ((r = none)))) (tt_OX (fun _ _ _ => False)) := by
  refine jj_start hl (by decide) jw_801 (jj_le rfl) ?_
  intro p e s m args below meth c A hargs hA C hex hmn
  have hfr := tt_fr.refl (K := Kd) (WS := [(12, 1)]) pl0
  refine jj_aload_n C dX5_putByte_0 rfl ?_
  refine tt_get C hok jk_6 1 (by decide) jw_795 (t := (0, 0, 1300)) hk0 (by decide) rfl rfl dX5_putByte_1 (fun v_1 hv_1 hf_2 => ?_)
  obtain ⟨x_3, rfl, lx_3, ux_3⟩ := tt_vi hv_1
  refine jj_sipush (v := 1300) C dX5_putByte_4 (by decide) ?_
  refine jj_icmp_ge (tgt := 30) C dX5_putByte_7 (by decide) (fun c_4 => ?_) (fun c_4 => ?_)
  · have z_c_4 := jc_le (a := (1300)) (b := (x_3).toInt) c_4 (by decide) rfl
    exact jj_vret C ⟨[], pl0, rfl, rfl, hok, hfr, rfl⟩ dX5_putByte_30 (jj_le rfl) (jj_le rfl)
  · have z_c_4 := jc_nle (a := (1300)) (b := (x_3).toInt) c_4 (by decide) rfl
    refine jj_aload_n C dX5_putByte_10 rfl ?_
    refine tt_get C hok jk_6 0 (by decide) jw_802 (t := (2, 13, 0)) hk0 (by decide) rfl rfl dX5_putByte_11 (fun v_5 hv_5 hf_6 => ?_)
    obtain ⟨a_7, rfl, ka_7⟩ := tt_vr hv_5
    refine jj_aload_n C dX5_putByte_14 rfl ?_
    refine tt_getF C hok jk_6 1 (by decide) jw_795 (t := (0, 0, 1300)) hk0 (by decide) rfl rfl hf_2 dX5_putByte_15 ?_
    refine jj_iload_n C dX5_putByte_18 rfl ?_
    refine tt_bast C hok (t := (0, (-2147483648), 2147483647)) ka_7 (by decide) rfl (vp_in_iff.mpr ⟨by omega, by omega⟩) (tt_ia _) dX5_putByte_19 (fun pl_8 hok_9 tr => ?_)
    replace hf_2 := tr _ _ _ hf_2
    replace hf_6 := tr _ _ _ hf_6
    replace hfr := hfr.arr tr
    refine jj_aload_n C dX5_putByte_20 rfl ?_
    refine jj_dup C dX5_putByte_21 rfl ?_
    refine tt_getF C hok_9 jk_6 1 (by decide) jw_795 (t := (0, 0, 1300)) hk0 (by decide) rfl rfl hf_2 dX5_putByte_22 ?_
    refine jj_iconst (v := 1) C dX5_putByte_25 (by decide) ?_
    obtain ⟨x_10, ex_10, vx_10⟩ := tt_iadd (x := x_3) (y := (1 : Int32)) (a := x_3.toInt) rfl (b := 1) (by decide) (by omega) (by omega)
    refine jj_iadd (v := x_10) C dX5_putByte_26 ex_10 ?_
    refine tt_put C hok_9 jk_6 1 (by decide) jw_795 (t := (0, 0, 1300)) hk0 (by decide) rfl rfl rfl (tt_iv (by omega) (by omega)) rfl rfl dX5_putByte_27 (fun pl_11 hok_12 tr hn => ?_)
    replace hf_6 := tr _ _ _ (Or.inr (by decide)) hf_6
    have hf_13 := hn
    replace hfr := hfr.put hk0 tr (by decide)
    exact jj_vret C ⟨[], pl_11, rfl, rfl, hok_12, hfr, rfl⟩ dX5_putByte_30 (jj_le rfl) (jj_le rfl)

set_option maxHeartbeats 4000000 in
set_option maxRecDepth 100000 in
theorem tc_X5_putByte_4 {l : Launch} (hl : l.stackTraces = false) (D : va_G) (cA : Nat → ClassId) (ak : (Nat → Nat) × (Nat → Nat)) {Kd : Nat → Nat} (h0 : Nat) (hk0 : Kd h0 = 12) {pl0 : va_W} (hok : tt_ok tt_tk cA Kd pl0) : jj_M l D cA ak yX5_putByte (.code yX5_putByte cX5_putByte 2 none) 0 0 0 0 ([] ++ pl0) [.ref h0, .int 32] (tt_O (fun rx pl1 r => rx = [] ∧ tt_ok tt_tk cA Kd pl1 ∧ tt_fr Kd [(12, 1)] pl0 pl1 ∧ ((r = none)))) (tt_OX (fun _ _ _ => False)) := by
  refine jj_start hl (by decide) jw_801 (jj_le rfl) ?_
  intro p e s m args below meth c A hargs hA C hex hmn
  have hfr := tt_fr.refl (K := Kd) (WS := [(12, 1)]) pl0
  refine jj_aload_n C dX5_putByte_0 rfl ?_
  refine tt_get C hok jk_6 1 (by decide) jw_795 (t := (0, 0, 1300)) hk0 (by decide) rfl rfl dX5_putByte_1 (fun v_1 hv_1 hf_2 => ?_)
  obtain ⟨x_3, rfl, lx_3, ux_3⟩ := tt_vi hv_1
  refine jj_sipush (v := 1300) C dX5_putByte_4 (by decide) ?_
  refine jj_icmp_ge (tgt := 30) C dX5_putByte_7 (by decide) (fun c_4 => ?_) (fun c_4 => ?_)
  · have z_c_4 := jc_le (a := (1300)) (b := (x_3).toInt) c_4 (by decide) rfl
    exact jj_vret C ⟨[], pl0, rfl, rfl, hok, hfr, rfl⟩ dX5_putByte_30 (jj_le rfl) (jj_le rfl)
  · have z_c_4 := jc_nle (a := (1300)) (b := (x_3).toInt) c_4 (by decide) rfl
    refine jj_aload_n C dX5_putByte_10 rfl ?_
    refine tt_get C hok jk_6 0 (by decide) jw_802 (t := (2, 13, 0)) hk0 (by decide) rfl rfl dX5_putByte_11 (fun v_5 hv_5 hf_6 => ?_)
    obtain ⟨a_7, rfl, ka_7⟩ := tt_vr hv_5
    refine jj_aload_n C dX5_putByte_14 rfl ?_
    refine tt_getF C hok jk_6 1 (by decide) jw_795 (t := (0, 0, 1300)) hk0 (by decide) rfl rfl hf_2 dX5_putByte_15 ?_
    refine jj_iload_n C dX5_putByte_18 rfl ?_
    refine tt_bast C hok (t := (0, (-2147483648), 2147483647)) ka_7 (by decide) rfl (vp_in_iff.mpr ⟨by omega, by omega⟩) (tt_ia _) dX5_putByte_19 (fun pl_8 hok_9 tr => ?_)
    replace hf_2 := tr _ _ _ hf_2
    replace hf_6 := tr _ _ _ hf_6
    replace hfr := hfr.arr tr
    refine jj_aload_n C dX5_putByte_20 rfl ?_
    refine jj_dup C dX5_putByte_21 rfl ?_
    refine tt_getF C hok_9 jk_6 1 (by decide) jw_795 (t := (0, 0, 1300)) hk0 (by decide) rfl rfl hf_2 dX5_putByte_22 ?_
    refine jj_iconst (v := 1) C dX5_putByte_25 (by decide) ?_
    obtain ⟨x_10, ex_10, vx_10⟩ := tt_iadd (x := x_3) (y := (1 : Int32)) (a := x_3.toInt) rfl (b := 1) (by decide) (by omega) (by omega)
    refine jj_iadd (v := x_10) C dX5_putByte_26 ex_10 ?_
    refine tt_put C hok_9 jk_6 1 (by decide) jw_795 (t := (0, 0, 1300)) hk0 (by decide) rfl rfl rfl (tt_iv (by omega) (by omega)) rfl rfl dX5_putByte_27 (fun pl_11 hok_12 tr hn => ?_)
    replace hf_6 := tr _ _ _ (Or.inr (by decide)) hf_6
    have hf_13 := hn
    replace hfr := hfr.put hk0 tr (by decide)
    exact jj_vret C ⟨[], pl_11, rfl, rfl, hok_12, hfr, rfl⟩ dX5_putByte_30 (jj_le rfl) (jj_le rfl)

set_option maxHeartbeats 4000000 in
set_option maxRecDepth 100000 in
theorem tc_X5_putText_1 {l : Launch} (hl : l.stackTraces = false) (D : va_G) (cA : Nat → ClassId) (ak : (Nat → Nat) × (Nat → Nat)) {Kd : Nat → Nat} (h0 : Nat) (hk0 : Kd h0 = 12) {pl0 : va_W} (hok : tt_ok tt_tk cA Kd pl0) : jj_M l D cA ak yX5_putText (.code yX5_putText cX5_putText 3 none) 4 85 0 0 ([] ++ pl0) [.ref h0, .ref (ak.1 13)] (tt_O (fun rx pl1 r => rx = [] ∧ tt_ok tt_tk cA Kd pl1 ∧ tt_fr Kd [(12, 1)] pl0 pl1 ∧ ((r = none)))) (tt_OX (fun _ _ _ => False)) := by
  refine jj_start hl (by decide) jw_797 (jj_le rfl) ?_
  intro p e s m args below meth c A hargs hA C hex hmn
  have hfr := tt_fr.refl (K := Kd) (WS := [(12, 1)]) pl0
  refine jj_iconst (v := 0) C dX5_putText_0 (by decide) ?_
  refine jj_istore_n C dX5_putText_1 (by decide) rfl ?_
  refine jj_iload_n C dX5_putText_2 rfl ?_
  refine jj_aload_n C dX5_putText_3 rfl ?_
  refine tt_call0Vs (rest := [.int 0]) C (ct_J0_length_8abf5_14 hl D cA ak) 13 (by decide) rfl jw_798 jw_593 jw_594 jw_584 jw_583 jn_J0_length_8abf5 rfl (jj_le rfl) (jj_le rfl) (jj_le rfl) (jj_le rfl) (jj_le rfl) dX5_putText_4 rfl (fun w1 r O_1 => ?_)
  obtain ⟨-, rfl⟩ := O_1
  refine jj_icmp_geF (tgt := 26) C dX5_putText_7 (by decide) (by decide) ?_
  refine jj_aload_n C dX5_putText_10 rfl ?_
  refine jj_aload_n C dX5_putText_11 rfl ?_
  refine jj_iload_n C dX5_putText_12 rfl ?_
  refine tt_call0Vs (rest := [.ref h0]) C (ct_J0_charAt_5068e_81 hl D cA ak) 13 (by decide) rfl jw_799 jw_618 jw_619 jw_584 jw_597 jn_J0_charAt_5068e rfl (jj_le rfl) (jj_le rfl) (jj_le rfl) (jj_le rfl) (jj_le rfl) dX5_putText_13 rfl (fun w1 r O_2 => ?_)
  obtain ⟨-, rfl⟩ := O_2
  refine jj_i2b (v := 100) C dX5_putText_16 (by decide) ?_
  obtain ⟨qc, gs, hqc⟩ := tt_recv (cx := []) hok hk0 (by decide) rfl
  refine tt_callV (rest := []) C (tc_X5_putByte_1 hl D cA ak h0 hk0 hok) [] [] rfl rfl (by decide) (by decide) (by decide) qc hqc rfl rfl jw_800 jw_803 jw_804 jw_794 jw_801 jn_X5_putByte rfl (jj_le rfl) (jj_le rfl) (jj_le rfl) (jj_le rfl) (jj_le rfl) dX5_putText_17 rfl (fun _ _ _ hX => hX.elim) (fun rx pl_3 r O_6 => ?_)
  obtain ⟨rfl, hok_4, hr_5, hR_8⟩ := O_6
  replace hfr := hfr.trans (hr_5.sub (by decide))
  obtain rfl := hR_8
  refine jj_iinc (v := 1) C dX5_putText_20 rfl (by decide) (by decide) rfl ?_
  refine jj_goto (tgt := 2) C dX5_putText_23 (by decide) ?_
  refine jj_iload_n C dX5_putText_2 rfl ?_
  refine jj_aload_n C dX5_putText_3 rfl ?_
  refine tt_call0Vs (rest := [.int 1]) C (ct_J0_length_8abf5_14 hl D cA ak) 13 (by decide) rfl jw_798 jw_593 jw_594 jw_584 jw_583 jn_J0_length_8abf5 rfl (jj_le rfl) (jj_le rfl) (jj_le rfl) (jj_le rfl) (jj_le rfl) dX5_putText_4 rfl (fun w1 r O_9 => ?_)
  obtain ⟨-, rfl⟩ := O_9
  refine jj_icmp_geF (tgt := 26) C dX5_putText_7 (by decide) (by decide) ?_
  refine jj_aload_n C dX5_putText_10 rfl ?_
  refine jj_aload_n C dX5_putText_11 rfl ?_
  refine jj_iload_n C dX5_putText_12 rfl ?_
  refine tt_call0Vs (rest := [.ref h0]) C (ct_J0_charAt_5068e_82 hl D cA ak) 13 (by decide) rfl jw_799 jw_618 jw_619 jw_584 jw_597 jn_J0_charAt_5068e rfl (jj_le rfl) (jj_le rfl) (jj_le rfl) (jj_le rfl) (jj_le rfl) dX5_putText_13 rfl (fun w1 r O_10 => ?_)
  obtain ⟨-, rfl⟩ := O_10
  refine jj_i2b (v := 97) C dX5_putText_16 (by decide) ?_
  obtain ⟨qc, gs, hqc⟩ := tt_recv (cx := []) hok_4 hk0 (by decide) rfl
  refine tt_callV (rest := []) C (tc_X5_putByte_2 hl D cA ak h0 hk0 hok_4) [] [] rfl rfl (by decide) (by decide) (by decide) qc hqc rfl rfl jw_800 jw_803 jw_804 jw_794 jw_801 jn_X5_putByte rfl (jj_le rfl) (jj_le rfl) (jj_le rfl) (jj_le rfl) (jj_le rfl) dX5_putText_17 rfl (fun _ _ _ hX => hX.elim) (fun rx pl_11 r O_14 => ?_)
  obtain ⟨rfl, hok_12, hr_13, hR_16⟩ := O_14
  replace hfr := hfr.trans (hr_13.sub (by decide))
  obtain rfl := hR_16
  refine jj_iinc (v := 2) C dX5_putText_20 rfl (by decide) (by decide) rfl ?_
  refine jj_goto (tgt := 2) C dX5_putText_23 (by decide) ?_
  refine jj_iload_n C dX5_putText_2 rfl ?_
  refine jj_aload_n C dX5_putText_3 rfl ?_
  refine tt_call0Vs (rest := [.int 2]) C (ct_J0_length_8abf5_14 hl D cA ak) 13 (by decide) rfl jw_798 jw_593 jw_594 jw_584 jw_583 jn_J0_length_8abf5 rfl (jj_le rfl) (jj_le rfl) (jj_le rfl) (jj_le rfl) (jj_le rfl) dX5_putText_4 rfl (fun w1 r O_17 => ?_)
  obtain ⟨-, rfl⟩ := O_17
  refine jj_icmp_geF (tgt := 26) C dX5_putText_7 (by decide) (by decide) ?_
  refine jj_aload_n C dX5_putText_10 rfl ?_
  refine jj_aload_n C dX5_putText_11 rfl ?_
  refine jj_iload_n C dX5_putText_12 rfl ?_
  refine tt_call0Vs (rest := [.ref h0]) C (ct_J0_charAt_5068e_83 hl D cA ak) 13 (by decide) rfl jw_799 jw_618 jw_619 jw_584 jw_597 jn_J0_charAt_5068e rfl (jj_le rfl) (jj_le rfl) (jj_le rfl) (jj_le rfl) (jj_le rfl) dX5_putText_13 rfl (fun w1 r O_18 => ?_)
  obtain ⟨-, rfl⟩ := O_18
  refine jj_i2b (v := 121) C dX5_putText_16 (by decide) ?_
  obtain ⟨qc, gs, hqc⟩ := tt_recv (cx := []) hok_12 hk0 (by decide) rfl
  refine tt_callV (rest := []) C (tc_X5_putByte_3 hl D cA ak h0 hk0 hok_12) [] [] rfl rfl (by decide) (by decide) (by decide) qc hqc rfl rfl jw_800 jw_803 jw_804 jw_794 jw_801 jn_X5_putByte rfl (jj_le rfl) (jj_le rfl) (jj_le rfl) (jj_le rfl) (jj_le rfl) dX5_putText_17 rfl (fun _ _ _ hX => hX.elim) (fun rx pl_19 r O_22 => ?_)
  obtain ⟨rfl, hok_20, hr_21, hR_24⟩ := O_22
  replace hfr := hfr.trans (hr_21.sub (by decide))
  obtain rfl := hR_24
  refine jj_iinc (v := 3) C dX5_putText_20 rfl (by decide) (by decide) rfl ?_
  refine jj_goto (tgt := 2) C dX5_putText_23 (by decide) ?_
  refine jj_iload_n C dX5_putText_2 rfl ?_
  refine jj_aload_n C dX5_putText_3 rfl ?_
  refine tt_call0Vs (rest := [.int 3]) C (ct_J0_length_8abf5_14 hl D cA ak) 13 (by decide) rfl jw_798 jw_593 jw_594 jw_584 jw_583 jn_J0_length_8abf5 rfl (jj_le rfl) (jj_le rfl) (jj_le rfl) (jj_le rfl) (jj_le rfl) dX5_putText_4 rfl (fun w1 r O_25 => ?_)
  obtain ⟨-, rfl⟩ := O_25
  refine jj_icmp_geF (tgt := 26) C dX5_putText_7 (by decide) (by decide) ?_
  refine jj_aload_n C dX5_putText_10 rfl ?_
  refine jj_aload_n C dX5_putText_11 rfl ?_
  refine jj_iload_n C dX5_putText_12 rfl ?_
  refine tt_call0Vs (rest := [.ref h0]) C (ct_J0_charAt_5068e_84 hl D cA ak) 13 (by decide) rfl jw_799 jw_618 jw_619 jw_584 jw_597 jn_J0_charAt_5068e rfl (jj_le rfl) (jj_le rfl) (jj_le rfl) (jj_le rfl) (jj_le rfl) dX5_putText_13 rfl (fun w1 r O_26 => ?_)
  obtain ⟨-, rfl⟩ := O_26
  refine jj_i2b (v := 32) C dX5_putText_16 (by decide) ?_
  obtain ⟨qc, gs, hqc⟩ := tt_recv (cx := []) hok_20 hk0 (by decide) rfl
  refine tt_callV (rest := []) C (tc_X5_putByte_4 hl D cA ak h0 hk0 hok_20) [] [] rfl rfl (by decide) (by decide) (by decide) qc hqc rfl rfl jw_800 jw_803 jw_804 jw_794 jw_801 jn_X5_putByte rfl (jj_le rfl) (jj_le rfl) (jj_le rfl) (jj_le rfl) (jj_le rfl) dX5_putText_17 rfl (fun _ _ _ hX => hX.elim) (fun rx pl_27 r O_30 => ?_)
  obtain ⟨rfl, hok_28, hr_29, hR_32⟩ := O_30
  replace hfr := hfr.trans (hr_29.sub (by decide))
  obtain rfl := hR_32
  refine jj_iinc (v := 4) C dX5_putText_20 rfl (by decide) (by decide) rfl ?_
  refine jj_goto (tgt := 2) C dX5_putText_23 (by decide) ?_
  refine jj_iload_n C dX5_putText_2 rfl ?_
  refine jj_aload_n C dX5_putText_3 rfl ?_
  refine tt_call0Vs (rest := [.int 4]) C (ct_J0_length_8abf5_14 hl D cA ak) 13 (by decide) rfl jw_798 jw_593 jw_594 jw_584 jw_583 jn_J0_length_8abf5 rfl (jj_le rfl) (jj_le rfl) (jj_le rfl) (jj_le rfl) (jj_le rfl) dX5_putText_4 rfl (fun w1 r O_33 => ?_)
  obtain ⟨-, rfl⟩ := O_33
  refine jj_icmp_geT (tgt := 26) C dX5_putText_7 (by decide) (by decide) ?_
  exact jj_vret C ⟨[], pl_27, rfl, rfl, hok_28, hfr, rfl⟩ dX5_putText_26 (jj_le rfl) (jj_le rfl)

set_option maxHeartbeats 4000000 in
set_option maxRecDepth 100000 in
theorem tc_X5_putByte_5 {l : Launch} (hl : l.stackTraces = false) (D : va_G) (cA : Nat → ClassId) (ak : (Nat → Nat) × (Nat → Nat)) {Kd : Nat → Nat} (h0 : Nat) (p1 : Int32) (hk0 : Kd h0 = 12) {pl0 : va_W} (hok : tt_ok tt_tk cA Kd pl0) : jj_M l D cA ak yX5_putByte (.code yX5_putByte cX5_putByte 2 none) 0 0 0 0 ([] ++ pl0) [.ref h0, .int p1] (tt_O (fun rx pl1 r => rx = [] ∧ tt_ok tt_tk cA Kd pl1 ∧ tt_fr Kd [(12, 1)] pl0 pl1 ∧ ((r = none)))) (tt_OX (fun _ _ _ => False)) := by
  refine jj_start hl (by decide) jw_801 (jj_le rfl) ?_
  intro p e s m args below meth c A hargs hA C hex hmn
  have hfr := tt_fr.refl (K := Kd) (WS := [(12, 1)]) pl0
  have lp1 := tt_lo p1
  have up1 := tt_hi p1
  refine jj_aload_n C dX5_putByte_0 rfl ?_
  refine tt_get C hok jk_6 1 (by decide) jw_795 (t := (0, 0, 1300)) hk0 (by decide) rfl rfl dX5_putByte_1 (fun v_1 hv_1 hf_2 => ?_)
  obtain ⟨x_3, rfl, lx_3, ux_3⟩ := tt_vi hv_1
  refine jj_sipush (v := 1300) C dX5_putByte_4 (by decide) ?_
  refine jj_icmp_ge (tgt := 30) C dX5_putByte_7 (by decide) (fun c_4 => ?_) (fun c_4 => ?_)
  · have z_c_4 := jc_le (a := (1300)) (b := (x_3).toInt) c_4 (by decide) rfl
    exact jj_vret C ⟨[], pl0, rfl, rfl, hok, hfr, rfl⟩ dX5_putByte_30 (jj_le rfl) (jj_le rfl)
  · have z_c_4 := jc_nle (a := (1300)) (b := (x_3).toInt) c_4 (by decide) rfl
    refine jj_aload_n C dX5_putByte_10 rfl ?_
    refine tt_get C hok jk_6 0 (by decide) jw_802 (t := (2, 13, 0)) hk0 (by decide) rfl rfl dX5_putByte_11 (fun v_5 hv_5 hf_6 => ?_)
    obtain ⟨a_7, rfl, ka_7⟩ := tt_vr hv_5
    refine jj_aload_n C dX5_putByte_14 rfl ?_
    refine tt_getF C hok jk_6 1 (by decide) jw_795 (t := (0, 0, 1300)) hk0 (by decide) rfl rfl hf_2 dX5_putByte_15 ?_
    refine jj_iload_n C dX5_putByte_18 rfl ?_
    refine tt_bast C hok (t := (0, (-2147483648), 2147483647)) ka_7 (by decide) rfl (vp_in_iff.mpr ⟨by omega, by omega⟩) (tt_ia _) dX5_putByte_19 (fun pl_8 hok_9 tr => ?_)
    replace hf_2 := tr _ _ _ hf_2
    replace hf_6 := tr _ _ _ hf_6
    replace hfr := hfr.arr tr
    refine jj_aload_n C dX5_putByte_20 rfl ?_
    refine jj_dup C dX5_putByte_21 rfl ?_
    refine tt_getF C hok_9 jk_6 1 (by decide) jw_795 (t := (0, 0, 1300)) hk0 (by decide) rfl rfl hf_2 dX5_putByte_22 ?_
    refine jj_iconst (v := 1) C dX5_putByte_25 (by decide) ?_
    obtain ⟨x_10, ex_10, vx_10⟩ := tt_iadd (x := x_3) (y := (1 : Int32)) (a := x_3.toInt) rfl (b := 1) (by decide) (by omega) (by omega)
    refine jj_iadd (v := x_10) C dX5_putByte_26 ex_10 ?_
    refine tt_put C hok_9 jk_6 1 (by decide) jw_795 (t := (0, 0, 1300)) hk0 (by decide) rfl rfl rfl (tt_iv (by omega) (by omega)) rfl rfl dX5_putByte_27 (fun pl_11 hok_12 tr hn => ?_)
    replace hf_6 := tr _ _ _ (Or.inr (by decide)) hf_6
    have hf_13 := hn
    replace hfr := hfr.put hk0 tr (by decide)
    exact jj_vret C ⟨[], pl_11, rfl, rfl, hok_12, hfr, rfl⟩ dX5_putByte_30 (jj_le rfl) (jj_le rfl)

set_option maxHeartbeats 4000000 in
set_option maxRecDepth 100000 in
theorem tc_X5_putByte_6 {l : Launch} (hl : l.stackTraces = false) (D : va_G) (cA : Nat → ClassId) (ak : (Nat → Nat) × (Nat → Nat)) {Kd : Nat → Nat} (h0 : Nat) (hk0 : Kd h0 = 12) {pl0 : va_W} (hok : tt_ok tt_tk cA Kd pl0) : jj_M l D cA ak yX5_putByte (.code yX5_putByte cX5_putByte 2 none) 0 0 0 0 ([] ++ pl0) [.ref h0, .int 45] (tt_O (fun rx pl1 r => rx = [] ∧ tt_ok tt_tk cA Kd pl1 ∧ tt_fr Kd [(12, 1)] pl0 pl1 ∧ ((r = none)))) (tt_OX (fun _ _ _ => False)) := by
  refine jj_start hl (by decide) jw_801 (jj_le rfl) ?_
  intro p e s m args below meth c A hargs hA C hex hmn
  have hfr := tt_fr.refl (K := Kd) (WS := [(12, 1)]) pl0
  refine jj_aload_n C dX5_putByte_0 rfl ?_
  refine tt_get C hok jk_6 1 (by decide) jw_795 (t := (0, 0, 1300)) hk0 (by decide) rfl rfl dX5_putByte_1 (fun v_1 hv_1 hf_2 => ?_)
  obtain ⟨x_3, rfl, lx_3, ux_3⟩ := tt_vi hv_1
  refine jj_sipush (v := 1300) C dX5_putByte_4 (by decide) ?_
  refine jj_icmp_ge (tgt := 30) C dX5_putByte_7 (by decide) (fun c_4 => ?_) (fun c_4 => ?_)
  · have z_c_4 := jc_le (a := (1300)) (b := (x_3).toInt) c_4 (by decide) rfl
    exact jj_vret C ⟨[], pl0, rfl, rfl, hok, hfr, rfl⟩ dX5_putByte_30 (jj_le rfl) (jj_le rfl)
  · have z_c_4 := jc_nle (a := (1300)) (b := (x_3).toInt) c_4 (by decide) rfl
    refine jj_aload_n C dX5_putByte_10 rfl ?_
    refine tt_get C hok jk_6 0 (by decide) jw_802 (t := (2, 13, 0)) hk0 (by decide) rfl rfl dX5_putByte_11 (fun v_5 hv_5 hf_6 => ?_)
    obtain ⟨a_7, rfl, ka_7⟩ := tt_vr hv_5
    refine jj_aload_n C dX5_putByte_14 rfl ?_
    refine tt_getF C hok jk_6 1 (by decide) jw_795 (t := (0, 0, 1300)) hk0 (by decide) rfl rfl hf_2 dX5_putByte_15 ?_
    refine jj_iload_n C dX5_putByte_18 rfl ?_
    refine tt_bast C hok (t := (0, (-2147483648), 2147483647)) ka_7 (by decide) rfl (vp_in_iff.mpr ⟨by omega, by omega⟩) (tt_ia _) dX5_putByte_19 (fun pl_8 hok_9 tr => ?_)
    replace hf_2 := tr _ _ _ hf_2
    replace hf_6 := tr _ _ _ hf_6
    replace hfr := hfr.arr tr
    refine jj_aload_n C dX5_putByte_20 rfl ?_
    refine jj_dup C dX5_putByte_21 rfl ?_
    refine tt_getF C hok_9 jk_6 1 (by decide) jw_795 (t := (0, 0, 1300)) hk0 (by decide) rfl rfl hf_2 dX5_putByte_22 ?_
    refine jj_iconst (v := 1) C dX5_putByte_25 (by decide) ?_
    obtain ⟨x_10, ex_10, vx_10⟩ := tt_iadd (x := x_3) (y := (1 : Int32)) (a := x_3.toInt) rfl (b := 1) (by decide) (by omega) (by omega)
    refine jj_iadd (v := x_10) C dX5_putByte_26 ex_10 ?_
    refine tt_put C hok_9 jk_6 1 (by decide) jw_795 (t := (0, 0, 1300)) hk0 (by decide) rfl rfl rfl (tt_iv (by omega) (by omega)) rfl rfl dX5_putByte_27 (fun pl_11 hok_12 tr hn => ?_)
    replace hf_6 := tr _ _ _ (Or.inr (by decide)) hf_6
    have hf_13 := hn
    replace hfr := hfr.put hk0 tr (by decide)
    exact jj_vret C ⟨[], pl_11, rfl, rfl, hok_12, hfr, rfl⟩ dX5_putByte_30 (jj_le rfl) (jj_le rfl)

set_option maxHeartbeats 4000000 in
set_option maxRecDepth 100000 in
theorem tc_X5_putText_2 {l : Launch} (hl : l.stackTraces = false) (D : va_G) (cA : Nat → ClassId) (ak : (Nat → Nat) × (Nat → Nat)) {Kd : Nat → Nat} (h0 : Nat) (hk0 : Kd h0 = 12) {pl0 : va_W} (hok : tt_ok tt_tk cA Kd pl0) : jj_M l D cA ak yX5_putText (.code yX5_putText cX5_putText 3 none) 4 85 0 0 ([] ++ pl0) [.ref h0, .ref (ak.1 14)] (tt_O (fun rx pl1 r => rx = [] ∧ tt_ok tt_tk cA Kd pl1 ∧ tt_fr Kd [(12, 1)] pl0 pl1 ∧ ((r = none)))) (tt_OX (fun _ _ _ => False)) := by
  refine jj_start hl (by decide) jw_797 (jj_le rfl) ?_
  intro p e s m args below meth c A hargs hA C hex hmn
  have hfr := tt_fr.refl (K := Kd) (WS := [(12, 1)]) pl0
  refine jj_iconst (v := 0) C dX5_putText_0 (by decide) ?_
  refine jj_istore_n C dX5_putText_1 (by decide) rfl ?_
  refine jj_iload_n C dX5_putText_2 rfl ?_
  refine jj_aload_n C dX5_putText_3 rfl ?_
  refine tt_call0Vs (rest := [.int 0]) C (ct_J0_length_8abf5_15 hl D cA ak) 14 (by decide) rfl jw_798 jw_593 jw_594 jw_584 jw_583 jn_J0_length_8abf5 rfl (jj_le rfl) (jj_le rfl) (jj_le rfl) (jj_le rfl) (jj_le rfl) dX5_putText_4 rfl (fun w1 r O_1 => ?_)
  obtain ⟨-, rfl⟩ := O_1
  refine jj_icmp_geF (tgt := 26) C dX5_putText_7 (by decide) (by decide) ?_
  refine jj_aload_n C dX5_putText_10 rfl ?_
  refine jj_aload_n C dX5_putText_11 rfl ?_
  refine jj_iload_n C dX5_putText_12 rfl ?_
  refine tt_call0Vs (rest := [.ref h0]) C (ct_J0_charAt_5068e_85 hl D cA ak) 14 (by decide) rfl jw_799 jw_618 jw_619 jw_584 jw_597 jn_J0_charAt_5068e rfl (jj_le rfl) (jj_le rfl) (jj_le rfl) (jj_le rfl) (jj_le rfl) dX5_putText_13 rfl (fun w1 r O_2 => ?_)
  obtain ⟨-, rfl⟩ := O_2
  refine jj_i2b (v := 45) C dX5_putText_16 (by decide) ?_
  obtain ⟨qc, gs, hqc⟩ := tt_recv (cx := []) hok hk0 (by decide) rfl
  refine tt_callV (rest := []) C (tc_X5_putByte_6 hl D cA ak h0 hk0 hok) [] [] rfl rfl (by decide) (by decide) (by decide) qc hqc rfl rfl jw_800 jw_803 jw_804 jw_794 jw_801 jn_X5_putByte rfl (jj_le rfl) (jj_le rfl) (jj_le rfl) (jj_le rfl) (jj_le rfl) dX5_putText_17 rfl (fun _ _ _ hX => hX.elim) (fun rx pl_3 r O_6 => ?_)
  obtain ⟨rfl, hok_4, hr_5, hR_8⟩ := O_6
  replace hfr := hfr.trans (hr_5.sub (by decide))
  obtain rfl := hR_8
  refine jj_iinc (v := 1) C dX5_putText_20 rfl (by decide) (by decide) rfl ?_
  refine jj_goto (tgt := 2) C dX5_putText_23 (by decide) ?_
  refine jj_iload_n C dX5_putText_2 rfl ?_
  refine jj_aload_n C dX5_putText_3 rfl ?_
  refine tt_call0Vs (rest := [.int 1]) C (ct_J0_length_8abf5_15 hl D cA ak) 14 (by decide) rfl jw_798 jw_593 jw_594 jw_584 jw_583 jn_J0_length_8abf5 rfl (jj_le rfl) (jj_le rfl) (jj_le rfl) (jj_le rfl) (jj_le rfl) dX5_putText_4 rfl (fun w1 r O_9 => ?_)
  obtain ⟨-, rfl⟩ := O_9
  refine jj_icmp_geT (tgt := 26) C dX5_putText_7 (by decide) (by decide) ?_
  exact jj_vret C ⟨[], pl_3, rfl, rfl, hok_4, hfr, rfl⟩ dX5_putText_26 (jj_le rfl) (jj_le rfl)

set_option maxHeartbeats 4000000 in
set_option maxRecDepth 100000 in
theorem tc_X5_putNumber_1 {l : Launch} (hl : l.stackTraces = false) (D : va_G) (cA : Nat → ClassId) (ak : (Nat → Nat) × (Nat → Nat)) {Kd : Nat → Nat} (h0 : Nat) (p1 : Int64) (hk0 : Kd h0 = 12) {pl0 : va_W} (hok : tt_ok tt_tk cA Kd pl0) : jj_M l D cA ak yX5_putNumber (.code yX5_putNumber cX5_putNumber 7 none) 5 107 0 0 ([] ++ pl0) [.ref h0, .long p1] (tt_O (fun rx pl1 r => rx = [] ∧ tt_ok tt_tk cA Kd pl1 ∧ tt_fr Kd [(12, 1)] pl0 pl1 ∧ ((r = none)))) (tt_OX (fun _ _ _ => False)) := by
  refine jj_start hl (by decide) jw_811 (jj_le rfl) ?_
  intro p e s m args below meth c A hargs hA C hex hmn
  have hfr := tt_fr.refl (K := Kd) (WS := [(12, 1)]) pl0
  refine jj_lload_n C dX5_putNumber_0 rfl ?_
  refine jj_lconst (v := 0) C dX5_putNumber_1 (by decide) ?_
  refine jj_lcmp_ge (tgt := 12) C dX5_putNumber_2 dX5_putNumber_3 (by decide) (fun c_1 => ?_) (fun c_1 => ?_)
  · refine jj_lload_n C dX5_putNumber_12 rfl ?_
    refine jj_lstore_n C dX5_putNumber_13 (by decide) rfl ?_
    refine jj_bipush (v := 20) C dX5_putNumber_14 (by decide) ?_
    refine jj_istore C dX5_putNumber_16 (by decide) rfl ?_
    have hL_2 : ∀ (N : Nat) (pl : va_W) (x_3 : Int32) (y_4 : Int64), True → tt_ok tt_tk cA Kd pl → tt_fr Kd [(12, 1)] pl0 pl → (1 : Int) ≤ x_3.toInt → x_3.toInt ≤ 20 → (x_3.toInt + 2147483649 ≤ (N : Int)) → jj_J p l e (jj_rm 5 107 0 0) s m args below meth c 7 A (vx_MQ below (jj_q D A (tt_O (fun rx pl1 r => rx = [] ∧ tt_ok tt_tk cA Kd pl1 ∧ tt_fr Kd [(12, 1)] pl0 pl1 ∧ ((r = none))))) (jj_x D A (tt_OX (fun _ _ _ => False))) args s 0 0 A) (jj_X D A ([] ++ pl)) 0 0 18 [(5, .int x_3), (3, .long y_4), (0, .ref h0), (1, .long p1)] [] := by
      intro NL_2
      induction NL_2 with
      | zero => intro pl x_3 y_4 _ hok hfr lx_3 ux_3 hNL_2; exfalso; omega
      | succ NL_2 ihL_2 =>
        intro pl x_3 y_4 _ hok hfr lx_3 ux_3 hNL_2
        replace ihL_2 := fun pl x_3 y_4 h1 => ihL_2 pl x_3 y_4 trivial h1
        obtain ⟨x_5, ex_5, vx_5⟩ := tt_inc (x := x_3) (n := (-1)) (by omega) (by omega)
        refine jj_iinc (v := x_5) C dX5_putNumber_18 rfl ex_5 (by decide) rfl ?_
        refine jj_aload_n C dX5_putNumber_21 rfl ?_
        refine tt_get C hok jk_6 2 (by decide) jw_812 (t := (2, 14, 0)) hk0 (by decide) rfl rfl dX5_putNumber_22 (fun v_6 hv_6 hf_7 => ?_)
        obtain ⟨a_8, rfl, ka_8⟩ := tt_vr hv_6
        refine jj_iload C dX5_putNumber_25 rfl ?_
        refine jj_ldc2 (v := 48) C dX5_putNumber_27 jw_813 ?_
        refine jj_lload_n C dX5_putNumber_30 rfl ?_
        refine jj_ldc2 (v := 10) C dX5_putNumber_31 jw_814 ?_
        obtain ⟨y_9, ey_9⟩ : ∃ z : Int64, y_4 - y_4 / (10 : Int64) * (10 : Int64) = z := ⟨_, rfl⟩
        refine jj_lrem (v := y_9) C dX5_putNumber_34 (by decide) ey_9 ?_
        refine tt_call0S (rest := [.long 48, .int x_5, .ref a_8]) C (ct_J9_abs_067f4_1 hl D cA ak y_9) jw_815 jw_817 jw_144 jw_816 jn_J9_abs_067f4 rfl (jj_le rfl) (jj_le rfl) (jj_le rfl) (jj_le rfl) (jj_le rfl) dX5_putNumber_35 rfl (fun w1 r O_10 => ?_)
        rcases O_10 with ⟨c_11, -, rfl⟩ | ⟨c_12, -, rfl⟩
        · obtain ⟨y_13, ey_13⟩ : ∃ z : Int64, (48 : Int64) + y_9 = z := ⟨_, rfl⟩
          refine jj_ladd (v := y_13) C dX5_putNumber_38 ey_13 ?_
          obtain ⟨x_14, ex_14⟩ : ∃ z : Int32, y_13.toInt32 = z := ⟨_, rfl⟩
          refine jj_l2i (v := x_14) C dX5_putNumber_39 ex_14 ?_
          obtain ⟨x_15, ex_15⟩ : ∃ z : Int32, x_14.toInt8.toInt32 = z := ⟨_, rfl⟩
          refine jj_i2b (v := x_15) C dX5_putNumber_40 ex_15 ?_
          refine tt_bast C hok (t := (0, (-2147483648), 2147483647)) ka_8 (by decide) rfl (vp_in_iff.mpr ⟨by omega, by omega⟩) (tt_ia _) dX5_putNumber_41 (fun pl_16 hok_17 tr => ?_)
          replace hf_7 := tr _ _ _ hf_7
          replace hfr := hfr.arr tr
          refine jj_lload_n C dX5_putNumber_42 rfl ?_
          refine jj_ldc2 (v := 10) C dX5_putNumber_43 jw_814 ?_
          obtain ⟨y_18, ey_18⟩ : ∃ z : Int64, y_4 / (10 : Int64) = z := ⟨_, rfl⟩
          refine jj_ldiv (v := y_18) C dX5_putNumber_46 (by decide) ey_18 ?_
          refine jj_lstore_n C dX5_putNumber_47 (by decide) rfl ?_
          refine jj_lload_n C dX5_putNumber_48 rfl ?_
          refine jj_lconst (v := 0) C dX5_putNumber_49 (by decide) ?_
          refine jj_lcmp_eq (tgt := 59) C dX5_putNumber_50 dX5_putNumber_51 (by decide) (fun c_19 => ?_) (fun c_19 => ?_)
          · refine jj_iload C dX5_putNumber_59 rfl ?_
            refine jj_istore C dX5_putNumber_61 (by decide) rfl ?_
            have hL_20 : ∀ (N : Nat) (pl : va_W) (x_21 : Int32), True → tt_ok tt_tk cA Kd pl → tt_fr Kd [(12, 1)] pl0 pl → tt_at pl h0 2 (.ref a_8) → (0 : Int) ≤ x_21.toInt → x_21.toInt ≤ 20 → (2147483648 - x_21.toInt ≤ (N : Int)) → jj_J p l e (jj_rm 5 107 0 0) s m args below meth c 7 A (vx_MQ below (jj_q D A (tt_O (fun rx pl1 r => rx = [] ∧ tt_ok tt_tk cA Kd pl1 ∧ tt_fr Kd [(12, 1)] pl0 pl1 ∧ ((r = none))))) (jj_x D A (tt_OX (fun _ _ _ => False))) args s 0 0 A) (jj_X D A ([] ++ pl)) 0 0 63 [(6, .int x_21), (3, .long y_18), (5, .int x_5), (0, .ref h0), (1, .long p1)] [] := by
              intro NL_20
              induction NL_20 with
              | zero => intro pl x_21 _ hok hfr hf_22 lx_21 ux_21 hNL_20; exfalso; omega
              | succ NL_20 ihL_20 =>
                intro pl x_21 _ hok hfr hf_22 lx_21 ux_21 hNL_20
                replace ihL_20 := fun pl x_21 h1 => ihL_20 pl x_21 trivial h1
                refine jj_iload C dX5_putNumber_63 rfl ?_
                refine jj_bipush (v := 20) C dX5_putNumber_65 (by decide) ?_
                refine jj_icmp_ge (tgt := 87) C dX5_putNumber_67 (by decide) (fun c_23 => ?_) (fun c_23 => ?_)
                · have z_c_23 := jc_le (a := (20)) (b := (x_21).toInt) c_23 (by decide) rfl
                  exact jj_vret C ⟨[], pl, rfl, rfl, hok, hfr, rfl⟩ dX5_putNumber_87 (jj_le rfl) (jj_le rfl)
                · have z_c_23 := jc_nle (a := (20)) (b := (x_21).toInt) c_23 (by decide) rfl
                  refine jj_aload_n C dX5_putNumber_70 rfl ?_
                  refine jj_aload_n C dX5_putNumber_71 rfl ?_
                  refine tt_getF C hok jk_6 2 (by decide) jw_812 (t := (2, 14, 0)) hk0 (by decide) rfl rfl hf_22 dX5_putNumber_72 ?_
                  refine jj_iload C dX5_putNumber_75 rfl ?_
                  refine tt_bald C hok (t := (0, (-2147483648), 2147483647)) ka_8 (by decide) rfl (vp_in_iff.mpr ⟨by omega, by omega⟩) dX5_putNumber_77 (fun v_24 hv_24 => ?_)
                  obtain ⟨qc, gs, hqc⟩ := tt_recv (cx := []) hok hk0 (by decide) rfl
                  refine tt_callV (rest := []) C (tc_X5_putByte_5 hl D cA ak h0 v_24 hk0 hok) [] [] rfl rfl (by decide) (by decide) (by decide) qc hqc rfl rfl jw_800 jw_803 jw_804 jw_794 jw_801 jn_X5_putByte rfl (jj_le rfl) (jj_le rfl) (jj_le rfl) (jj_le rfl) (jj_le rfl) dX5_putNumber_78 rfl (fun _ _ _ hX => hX.elim) (fun rx pl_25 r O_28 => ?_)
                  obtain ⟨rfl, hok_26, hr_27, hR_30⟩ := O_28
                  replace hf_22 := hr_27.at hk0 (by decide) (by decide) hf_22
                  replace hfr := hfr.trans (hr_27.sub (by decide))
                  obtain rfl := hR_30
                  obtain ⟨x_31, ex_31, vx_31⟩ := tt_inc (x := x_21) (n := 1) (by omega) (by omega)
                  refine jj_iinc (v := x_31) C dX5_putNumber_81 rfl ex_31 (by decide) rfl ?_
                  refine jj_goto (tgt := 63) C dX5_putNumber_84 (by decide) ?_
                  exact ihL_20 pl_25 x_31 hok_26 hfr hf_22 (by first | omega | decide | exact tt_lo _ | exact tt_hi _) (by first | omega | decide | exact tt_lo _ | exact tt_hi _) (by first | omega | decide | exact tt_lo _ | exact tt_hi _)
            exact hL_20 _ pl_16 x_5 trivial hok_17 hfr hf_7 (by first | omega | decide | exact tt_lo _ | exact tt_hi _) (by first | omega | decide | exact tt_lo _ | exact tt_hi _) (Int.self_le_toNat _)
          · refine jj_iload C dX5_putNumber_54 rfl ?_
            refine jj_if_gt (tgt := 18) C dX5_putNumber_56 (by decide) (fun c_32 => ?_) (fun c_32 => ?_)
            · have z_c_32 := jc_lt (a := (0)) (b := (x_5).toInt) c_32 (by decide) rfl
              refine jj_loc [1, 0, 2, 3] rfl ?_
              exact ihL_2 pl_16 x_5 y_18 hok_17 hfr (by first | omega | decide | exact tt_lo _ | exact tt_hi _) (by first | omega | decide | exact tt_lo _ | exact tt_hi _) (by first | omega | decide | exact tt_lo _ | exact tt_hi _)
            · have z_c_32 := jc_nlt (a := (0)) (b := (x_5).toInt) c_32 (by decide) rfl
              refine jj_iload C dX5_putNumber_59 rfl ?_
              refine jj_istore C dX5_putNumber_61 (by decide) rfl ?_
              have hL_33 : ∀ (N : Nat) (pl : va_W) (x_34 : Int32), True → tt_ok tt_tk cA Kd pl → tt_fr Kd [(12, 1)] pl0 pl → tt_at pl h0 2 (.ref a_8) → (0 : Int) ≤ x_34.toInt → x_34.toInt ≤ 20 → (2147483648 - x_34.toInt ≤ (N : Int)) → jj_J p l e (jj_rm 5 107 0 0) s m args below meth c 7 A (vx_MQ below (jj_q D A (tt_O (fun rx pl1 r => rx = [] ∧ tt_ok tt_tk cA Kd pl1 ∧ tt_fr Kd [(12, 1)] pl0 pl1 ∧ ((r = none))))) (jj_x D A (tt_OX (fun _ _ _ => False))) args s 0 0 A) (jj_X D A ([] ++ pl)) 0 0 63 [(6, .int x_34), (3, .long y_18), (5, .int x_5), (0, .ref h0), (1, .long p1)] [] := by
                intro NL_33
                induction NL_33 with
                | zero => intro pl x_34 _ hok hfr hf_35 lx_34 ux_34 hNL_33; exfalso; omega
                | succ NL_33 ihL_33 =>
                  intro pl x_34 _ hok hfr hf_35 lx_34 ux_34 hNL_33
                  replace ihL_33 := fun pl x_34 h1 => ihL_33 pl x_34 trivial h1
                  refine jj_iload C dX5_putNumber_63 rfl ?_
                  refine jj_bipush (v := 20) C dX5_putNumber_65 (by decide) ?_
                  refine jj_icmp_ge (tgt := 87) C dX5_putNumber_67 (by decide) (fun c_36 => ?_) (fun c_36 => ?_)
                  · have z_c_36 := jc_le (a := (20)) (b := (x_34).toInt) c_36 (by decide) rfl
                    exact jj_vret C ⟨[], pl, rfl, rfl, hok, hfr, rfl⟩ dX5_putNumber_87 (jj_le rfl) (jj_le rfl)
                  · have z_c_36 := jc_nle (a := (20)) (b := (x_34).toInt) c_36 (by decide) rfl
                    refine jj_aload_n C dX5_putNumber_70 rfl ?_
                    refine jj_aload_n C dX5_putNumber_71 rfl ?_
                    refine tt_getF C hok jk_6 2 (by decide) jw_812 (t := (2, 14, 0)) hk0 (by decide) rfl rfl hf_35 dX5_putNumber_72 ?_
                    refine jj_iload C dX5_putNumber_75 rfl ?_
                    refine tt_bald C hok (t := (0, (-2147483648), 2147483647)) ka_8 (by decide) rfl (vp_in_iff.mpr ⟨by omega, by omega⟩) dX5_putNumber_77 (fun v_37 hv_37 => ?_)
                    obtain ⟨qc, gs, hqc⟩ := tt_recv (cx := []) hok hk0 (by decide) rfl
                    refine tt_callV (rest := []) C (tc_X5_putByte_5 hl D cA ak h0 v_37 hk0 hok) [] [] rfl rfl (by decide) (by decide) (by decide) qc hqc rfl rfl jw_800 jw_803 jw_804 jw_794 jw_801 jn_X5_putByte rfl (jj_le rfl) (jj_le rfl) (jj_le rfl) (jj_le rfl) (jj_le rfl) dX5_putNumber_78 rfl (fun _ _ _ hX => hX.elim) (fun rx pl_38 r O_41 => ?_)
                    obtain ⟨rfl, hok_39, hr_40, hR_43⟩ := O_41
                    replace hf_35 := hr_40.at hk0 (by decide) (by decide) hf_35
                    replace hfr := hfr.trans (hr_40.sub (by decide))
                    obtain rfl := hR_43
                    obtain ⟨x_44, ex_44, vx_44⟩ := tt_inc (x := x_34) (n := 1) (by omega) (by omega)
                    refine jj_iinc (v := x_44) C dX5_putNumber_81 rfl ex_44 (by decide) rfl ?_
                    refine jj_goto (tgt := 63) C dX5_putNumber_84 (by decide) ?_
                    exact ihL_33 pl_38 x_44 hok_39 hfr hf_35 (by first | omega | decide | exact tt_lo _ | exact tt_hi _) (by first | omega | decide | exact tt_lo _ | exact tt_hi _) (by first | omega | decide | exact tt_lo _ | exact tt_hi _)
              exact hL_33 _ pl_16 x_5 trivial hok_17 hfr hf_7 (by first | omega | decide | exact tt_lo _ | exact tt_hi _) (by first | omega | decide | exact tt_lo _ | exact tt_hi _) (Int.self_le_toNat _)
        · obtain ⟨y_45, ey_45⟩ : ∃ z : Int64, (48 : Int64) + (-y_9) = z := ⟨_, rfl⟩
          refine jj_ladd (v := y_45) C dX5_putNumber_38 ey_45 ?_
          obtain ⟨x_46, ex_46⟩ : ∃ z : Int32, y_45.toInt32 = z := ⟨_, rfl⟩
          refine jj_l2i (v := x_46) C dX5_putNumber_39 ex_46 ?_
          obtain ⟨x_47, ex_47⟩ : ∃ z : Int32, x_46.toInt8.toInt32 = z := ⟨_, rfl⟩
          refine jj_i2b (v := x_47) C dX5_putNumber_40 ex_47 ?_
          refine tt_bast C hok (t := (0, (-2147483648), 2147483647)) ka_8 (by decide) rfl (vp_in_iff.mpr ⟨by omega, by omega⟩) (tt_ia _) dX5_putNumber_41 (fun pl_48 hok_49 tr => ?_)
          replace hf_7 := tr _ _ _ hf_7
          replace hfr := hfr.arr tr
          refine jj_lload_n C dX5_putNumber_42 rfl ?_
          refine jj_ldc2 (v := 10) C dX5_putNumber_43 jw_814 ?_
          obtain ⟨y_50, ey_50⟩ : ∃ z : Int64, y_4 / (10 : Int64) = z := ⟨_, rfl⟩
          refine jj_ldiv (v := y_50) C dX5_putNumber_46 (by decide) ey_50 ?_
          refine jj_lstore_n C dX5_putNumber_47 (by decide) rfl ?_
          refine jj_lload_n C dX5_putNumber_48 rfl ?_
          refine jj_lconst (v := 0) C dX5_putNumber_49 (by decide) ?_
          refine jj_lcmp_eq (tgt := 59) C dX5_putNumber_50 dX5_putNumber_51 (by decide) (fun c_51 => ?_) (fun c_51 => ?_)
          · refine jj_iload C dX5_putNumber_59 rfl ?_
            refine jj_istore C dX5_putNumber_61 (by decide) rfl ?_
            have hL_52 : ∀ (N : Nat) (pl : va_W) (x_53 : Int32), True → tt_ok tt_tk cA Kd pl → tt_fr Kd [(12, 1)] pl0 pl → tt_at pl h0 2 (.ref a_8) → (0 : Int) ≤ x_53.toInt → x_53.toInt ≤ 20 → (2147483648 - x_53.toInt ≤ (N : Int)) → jj_J p l e (jj_rm 5 107 0 0) s m args below meth c 7 A (vx_MQ below (jj_q D A (tt_O (fun rx pl1 r => rx = [] ∧ tt_ok tt_tk cA Kd pl1 ∧ tt_fr Kd [(12, 1)] pl0 pl1 ∧ ((r = none))))) (jj_x D A (tt_OX (fun _ _ _ => False))) args s 0 0 A) (jj_X D A ([] ++ pl)) 0 0 63 [(6, .int x_53), (3, .long y_50), (5, .int x_5), (0, .ref h0), (1, .long p1)] [] := by
              intro NL_52
              induction NL_52 with
              | zero => intro pl x_53 _ hok hfr hf_54 lx_53 ux_53 hNL_52; exfalso; omega
              | succ NL_52 ihL_52 =>
                intro pl x_53 _ hok hfr hf_54 lx_53 ux_53 hNL_52
                replace ihL_52 := fun pl x_53 h1 => ihL_52 pl x_53 trivial h1
                refine jj_iload C dX5_putNumber_63 rfl ?_
                refine jj_bipush (v := 20) C dX5_putNumber_65 (by decide) ?_
                refine jj_icmp_ge (tgt := 87) C dX5_putNumber_67 (by decide) (fun c_55 => ?_) (fun c_55 => ?_)
                · have z_c_55 := jc_le (a := (20)) (b := (x_53).toInt) c_55 (by decide) rfl
                  exact jj_vret C ⟨[], pl, rfl, rfl, hok, hfr, rfl⟩ dX5_putNumber_87 (jj_le rfl) (jj_le rfl)
                · have z_c_55 := jc_nle (a := (20)) (b := (x_53).toInt) c_55 (by decide) rfl
                  refine jj_aload_n C dX5_putNumber_70 rfl ?_
                  refine jj_aload_n C dX5_putNumber_71 rfl ?_
                  refine tt_getF C hok jk_6 2 (by decide) jw_812 (t := (2, 14, 0)) hk0 (by decide) rfl rfl hf_54 dX5_putNumber_72 ?_
                  refine jj_iload C dX5_putNumber_75 rfl ?_
                  refine tt_bald C hok (t := (0, (-2147483648), 2147483647)) ka_8 (by decide) rfl (vp_in_iff.mpr ⟨by omega, by omega⟩) dX5_putNumber_77 (fun v_56 hv_56 => ?_)
                  obtain ⟨qc, gs, hqc⟩ := tt_recv (cx := []) hok hk0 (by decide) rfl
                  refine tt_callV (rest := []) C (tc_X5_putByte_5 hl D cA ak h0 v_56 hk0 hok) [] [] rfl rfl (by decide) (by decide) (by decide) qc hqc rfl rfl jw_800 jw_803 jw_804 jw_794 jw_801 jn_X5_putByte rfl (jj_le rfl) (jj_le rfl) (jj_le rfl) (jj_le rfl) (jj_le rfl) dX5_putNumber_78 rfl (fun _ _ _ hX => hX.elim) (fun rx pl_57 r O_60 => ?_)
                  obtain ⟨rfl, hok_58, hr_59, hR_62⟩ := O_60
                  replace hf_54 := hr_59.at hk0 (by decide) (by decide) hf_54
                  replace hfr := hfr.trans (hr_59.sub (by decide))
                  obtain rfl := hR_62
                  obtain ⟨x_63, ex_63, vx_63⟩ := tt_inc (x := x_53) (n := 1) (by omega) (by omega)
                  refine jj_iinc (v := x_63) C dX5_putNumber_81 rfl ex_63 (by decide) rfl ?_
                  refine jj_goto (tgt := 63) C dX5_putNumber_84 (by decide) ?_
                  exact ihL_52 pl_57 x_63 hok_58 hfr hf_54 (by first | omega | decide | exact tt_lo _ | exact tt_hi _) (by first | omega | decide | exact tt_lo _ | exact tt_hi _) (by first | omega | decide | exact tt_lo _ | exact tt_hi _)
            exact hL_52 _ pl_48 x_5 trivial hok_49 hfr hf_7 (by first | omega | decide | exact tt_lo _ | exact tt_hi _) (by first | omega | decide | exact tt_lo _ | exact tt_hi _) (Int.self_le_toNat _)
          · refine jj_iload C dX5_putNumber_54 rfl ?_
            refine jj_if_gt (tgt := 18) C dX5_putNumber_56 (by decide) (fun c_64 => ?_) (fun c_64 => ?_)
            · have z_c_64 := jc_lt (a := (0)) (b := (x_5).toInt) c_64 (by decide) rfl
              refine jj_loc [1, 0, 2, 3] rfl ?_
              exact ihL_2 pl_48 x_5 y_50 hok_49 hfr (by first | omega | decide | exact tt_lo _ | exact tt_hi _) (by first | omega | decide | exact tt_lo _ | exact tt_hi _) (by first | omega | decide | exact tt_lo _ | exact tt_hi _)
            · have z_c_64 := jc_nlt (a := (0)) (b := (x_5).toInt) c_64 (by decide) rfl
              refine jj_iload C dX5_putNumber_59 rfl ?_
              refine jj_istore C dX5_putNumber_61 (by decide) rfl ?_
              have hL_65 : ∀ (N : Nat) (pl : va_W) (x_66 : Int32), True → tt_ok tt_tk cA Kd pl → tt_fr Kd [(12, 1)] pl0 pl → tt_at pl h0 2 (.ref a_8) → (0 : Int) ≤ x_66.toInt → x_66.toInt ≤ 20 → (2147483648 - x_66.toInt ≤ (N : Int)) → jj_J p l e (jj_rm 5 107 0 0) s m args below meth c 7 A (vx_MQ below (jj_q D A (tt_O (fun rx pl1 r => rx = [] ∧ tt_ok tt_tk cA Kd pl1 ∧ tt_fr Kd [(12, 1)] pl0 pl1 ∧ ((r = none))))) (jj_x D A (tt_OX (fun _ _ _ => False))) args s 0 0 A) (jj_X D A ([] ++ pl)) 0 0 63 [(6, .int x_66), (3, .long y_50), (5, .int x_5), (0, .ref h0), (1, .long p1)] [] := by
                intro NL_65
                induction NL_65 with
                | zero => intro pl x_66 _ hok hfr hf_67 lx_66 ux_66 hNL_65; exfalso; omega
                | succ NL_65 ihL_65 =>
                  intro pl x_66 _ hok hfr hf_67 lx_66 ux_66 hNL_65
                  replace ihL_65 := fun pl x_66 h1 => ihL_65 pl x_66 trivial h1
                  refine jj_iload C dX5_putNumber_63 rfl ?_
                  refine jj_bipush (v := 20) C dX5_putNumber_65 (by decide) ?_
                  refine jj_icmp_ge (tgt := 87) C dX5_putNumber_67 (by decide) (fun c_68 => ?_) (fun c_68 => ?_)
                  · have z_c_68 := jc_le (a := (20)) (b := (x_66).toInt) c_68 (by decide) rfl
                    exact jj_vret C ⟨[], pl, rfl, rfl, hok, hfr, rfl⟩ dX5_putNumber_87 (jj_le rfl) (jj_le rfl)
                  · have z_c_68 := jc_nle (a := (20)) (b := (x_66).toInt) c_68 (by decide) rfl
                    refine jj_aload_n C dX5_putNumber_70 rfl ?_
                    refine jj_aload_n C dX5_putNumber_71 rfl ?_
                    refine tt_getF C hok jk_6 2 (by decide) jw_812 (t := (2, 14, 0)) hk0 (by decide) rfl rfl hf_67 dX5_putNumber_72 ?_
                    refine jj_iload C dX5_putNumber_75 rfl ?_
                    refine tt_bald C hok (t := (0, (-2147483648), 2147483647)) ka_8 (by decide) rfl (vp_in_iff.mpr ⟨by omega, by omega⟩) dX5_putNumber_77 (fun v_69 hv_69 => ?_)
                    obtain ⟨qc, gs, hqc⟩ := tt_recv (cx := []) hok hk0 (by decide) rfl
                    refine tt_callV (rest := []) C (tc_X5_putByte_5 hl D cA ak h0 v_69 hk0 hok) [] [] rfl rfl (by decide) (by decide) (by decide) qc hqc rfl rfl jw_800 jw_803 jw_804 jw_794 jw_801 jn_X5_putByte rfl (jj_le rfl) (jj_le rfl) (jj_le rfl) (jj_le rfl) (jj_le rfl) dX5_putNumber_78 rfl (fun _ _ _ hX => hX.elim) (fun rx pl_70 r O_73 => ?_)
                    obtain ⟨rfl, hok_71, hr_72, hR_75⟩ := O_73
                    replace hf_67 := hr_72.at hk0 (by decide) (by decide) hf_67
                    replace hfr := hfr.trans (hr_72.sub (by decide))
                    obtain rfl := hR_75
                    obtain ⟨x_76, ex_76, vx_76⟩ := tt_inc (x := x_66) (n := 1) (by omega) (by omega)
                    refine jj_iinc (v := x_76) C dX5_putNumber_81 rfl ex_76 (by decide) rfl ?_
                    refine jj_goto (tgt := 63) C dX5_putNumber_84 (by decide) ?_
                    exact ihL_65 pl_70 x_76 hok_71 hfr hf_67 (by first | omega | decide | exact tt_lo _ | exact tt_hi _) (by first | omega | decide | exact tt_lo _ | exact tt_hi _) (by first | omega | decide | exact tt_lo _ | exact tt_hi _)
              exact hL_65 _ pl_48 x_5 trivial hok_49 hfr hf_7 (by first | omega | decide | exact tt_lo _ | exact tt_hi _) (by first | omega | decide | exact tt_lo _ | exact tt_hi _) (Int.self_le_toNat _)
    exact hL_2 _ pl0 (20 : Int32) p1 trivial hok hfr (by first | omega | decide | exact tt_lo _ | exact tt_hi _) (by first | omega | decide | exact tt_lo _ | exact tt_hi _) (Int.self_le_toNat _)
  · refine jj_aload_n C dX5_putNumber_6 rfl ?_
    refine jj_ldcs (k := 14) (tx := "-") C dX5_putNumber_7 (by decide +kernel) ?_
    obtain ⟨qc, gs, hqc⟩ := tt_recv (cx := []) hok hk0 (by decide) rfl
    refine tt_callV (rest := []) C (tc_X5_putText_2 hl D cA ak h0 hk0 hok) [] [] rfl rfl (by decide) (by decide) (by decide) qc hqc rfl rfl jw_796 jw_806 jw_807 jw_794 jw_797 jn_X5_putText rfl (jj_le rfl) (jj_le rfl) (jj_le rfl) (jj_le rfl) (jj_le rfl) dX5_putNumber_9 rfl (fun _ _ _ hX => hX.elim) (fun rx pl_77 r O_80 => ?_)
    obtain ⟨rfl, hok_78, hr_79, hR_82⟩ := O_80
    replace hfr := hfr.trans (hr_79.sub (by decide))
    obtain rfl := hR_82
    refine jj_lload_n C dX5_putNumber_12 rfl ?_
    refine jj_lstore_n C dX5_putNumber_13 (by decide) rfl ?_
    refine jj_bipush (v := 20) C dX5_putNumber_14 (by decide) ?_
    refine jj_istore C dX5_putNumber_16 (by decide) rfl ?_
    have hL_83 : ∀ (N : Nat) (pl : va_W) (x_84 : Int32) (y_85 : Int64), True → tt_ok tt_tk cA Kd pl → tt_fr Kd [(12, 1)] pl0 pl → (1 : Int) ≤ x_84.toInt → x_84.toInt ≤ 20 → (x_84.toInt + 2147483649 ≤ (N : Int)) → jj_J p l e (jj_rm 5 107 0 0) s m args below meth c 7 A (vx_MQ below (jj_q D A (tt_O (fun rx pl1 r => rx = [] ∧ tt_ok tt_tk cA Kd pl1 ∧ tt_fr Kd [(12, 1)] pl0 pl1 ∧ ((r = none))))) (jj_x D A (tt_OX (fun _ _ _ => False))) args s 0 0 A) (jj_X D A ([] ++ pl)) 0 0 18 [(5, .int x_84), (3, .long y_85), (0, .ref h0), (1, .long p1)] [] := by
      intro NL_83
      induction NL_83 with
      | zero => intro pl x_84 y_85 _ hok hfr lx_84 ux_84 hNL_83; exfalso; omega
      | succ NL_83 ihL_83 =>
        intro pl x_84 y_85 _ hok hfr lx_84 ux_84 hNL_83
        replace ihL_83 := fun pl x_84 y_85 h1 => ihL_83 pl x_84 y_85 trivial h1
        obtain ⟨x_86, ex_86, vx_86⟩ := tt_inc (x := x_84) (n := (-1)) (by omega) (by omega)
        refine jj_iinc (v := x_86) C dX5_putNumber_18 rfl ex_86 (by decide) rfl ?_
        refine jj_aload_n C dX5_putNumber_21 rfl ?_
        refine tt_get C hok jk_6 2 (by decide) jw_812 (t := (2, 14, 0)) hk0 (by decide) rfl rfl dX5_putNumber_22 (fun v_87 hv_87 hf_88 => ?_)
        obtain ⟨a_89, rfl, ka_89⟩ := tt_vr hv_87
        refine jj_iload C dX5_putNumber_25 rfl ?_
        refine jj_ldc2 (v := 48) C dX5_putNumber_27 jw_813 ?_
        refine jj_lload_n C dX5_putNumber_30 rfl ?_
        refine jj_ldc2 (v := 10) C dX5_putNumber_31 jw_814 ?_
        obtain ⟨y_90, ey_90⟩ : ∃ z : Int64, y_85 - y_85 / (10 : Int64) * (10 : Int64) = z := ⟨_, rfl⟩
        refine jj_lrem (v := y_90) C dX5_putNumber_34 (by decide) ey_90 ?_
        refine tt_call0S (rest := [.long 48, .int x_86, .ref a_89]) C (ct_J9_abs_067f4_1 hl D cA ak y_90) jw_815 jw_817 jw_144 jw_816 jn_J9_abs_067f4 rfl (jj_le rfl) (jj_le rfl) (jj_le rfl) (jj_le rfl) (jj_le rfl) dX5_putNumber_35 rfl (fun w1 r O_91 => ?_)
        rcases O_91 with ⟨c_92, -, rfl⟩ | ⟨c_93, -, rfl⟩
        · obtain ⟨y_94, ey_94⟩ : ∃ z : Int64, (48 : Int64) + y_90 = z := ⟨_, rfl⟩
          refine jj_ladd (v := y_94) C dX5_putNumber_38 ey_94 ?_
          obtain ⟨x_95, ex_95⟩ : ∃ z : Int32, y_94.toInt32 = z := ⟨_, rfl⟩
          refine jj_l2i (v := x_95) C dX5_putNumber_39 ex_95 ?_
          obtain ⟨x_96, ex_96⟩ : ∃ z : Int32, x_95.toInt8.toInt32 = z := ⟨_, rfl⟩
          refine jj_i2b (v := x_96) C dX5_putNumber_40 ex_96 ?_
          refine tt_bast C hok (t := (0, (-2147483648), 2147483647)) ka_89 (by decide) rfl (vp_in_iff.mpr ⟨by omega, by omega⟩) (tt_ia _) dX5_putNumber_41 (fun pl_97 hok_98 tr => ?_)
          replace hf_88 := tr _ _ _ hf_88
          replace hfr := hfr.arr tr
          refine jj_lload_n C dX5_putNumber_42 rfl ?_
          refine jj_ldc2 (v := 10) C dX5_putNumber_43 jw_814 ?_
          obtain ⟨y_99, ey_99⟩ : ∃ z : Int64, y_85 / (10 : Int64) = z := ⟨_, rfl⟩
          refine jj_ldiv (v := y_99) C dX5_putNumber_46 (by decide) ey_99 ?_
          refine jj_lstore_n C dX5_putNumber_47 (by decide) rfl ?_
          refine jj_lload_n C dX5_putNumber_48 rfl ?_
          refine jj_lconst (v := 0) C dX5_putNumber_49 (by decide) ?_
          refine jj_lcmp_eq (tgt := 59) C dX5_putNumber_50 dX5_putNumber_51 (by decide) (fun c_100 => ?_) (fun c_100 => ?_)
          · refine jj_iload C dX5_putNumber_59 rfl ?_
            refine jj_istore C dX5_putNumber_61 (by decide) rfl ?_
            have hL_101 : ∀ (N : Nat) (pl : va_W) (x_102 : Int32), True → tt_ok tt_tk cA Kd pl → tt_fr Kd [(12, 1)] pl0 pl → tt_at pl h0 2 (.ref a_89) → (0 : Int) ≤ x_102.toInt → x_102.toInt ≤ 20 → (2147483648 - x_102.toInt ≤ (N : Int)) → jj_J p l e (jj_rm 5 107 0 0) s m args below meth c 7 A (vx_MQ below (jj_q D A (tt_O (fun rx pl1 r => rx = [] ∧ tt_ok tt_tk cA Kd pl1 ∧ tt_fr Kd [(12, 1)] pl0 pl1 ∧ ((r = none))))) (jj_x D A (tt_OX (fun _ _ _ => False))) args s 0 0 A) (jj_X D A ([] ++ pl)) 0 0 63 [(6, .int x_102), (3, .long y_99), (5, .int x_86), (0, .ref h0), (1, .long p1)] [] := by
              intro NL_101
              induction NL_101 with
              | zero => intro pl x_102 _ hok hfr hf_103 lx_102 ux_102 hNL_101; exfalso; omega
              | succ NL_101 ihL_101 =>
                intro pl x_102 _ hok hfr hf_103 lx_102 ux_102 hNL_101
                replace ihL_101 := fun pl x_102 h1 => ihL_101 pl x_102 trivial h1
                refine jj_iload C dX5_putNumber_63 rfl ?_
                refine jj_bipush (v := 20) C dX5_putNumber_65 (by decide) ?_
                refine jj_icmp_ge (tgt := 87) C dX5_putNumber_67 (by decide) (fun c_104 => ?_) (fun c_104 => ?_)
                · have z_c_104 := jc_le (a := (20)) (b := (x_102).toInt) c_104 (by decide) rfl
                  exact jj_vret C ⟨[], pl, rfl, rfl, hok, hfr, rfl⟩ dX5_putNumber_87 (jj_le rfl) (jj_le rfl)
                · have z_c_104 := jc_nle (a := (20)) (b := (x_102).toInt) c_104 (by decide) rfl
                  refine jj_aload_n C dX5_putNumber_70 rfl ?_
                  refine jj_aload_n C dX5_putNumber_71 rfl ?_
                  refine tt_getF C hok jk_6 2 (by decide) jw_812 (t := (2, 14, 0)) hk0 (by decide) rfl rfl hf_103 dX5_putNumber_72 ?_
                  refine jj_iload C dX5_putNumber_75 rfl ?_
                  refine tt_bald C hok (t := (0, (-2147483648), 2147483647)) ka_89 (by decide) rfl (vp_in_iff.mpr ⟨by omega, by omega⟩) dX5_putNumber_77 (fun v_105 hv_105 => ?_)
                  obtain ⟨qc, gs, hqc⟩ := tt_recv (cx := []) hok hk0 (by decide) rfl
                  refine tt_callV (rest := []) C (tc_X5_putByte_5 hl D cA ak h0 v_105 hk0 hok) [] [] rfl rfl (by decide) (by decide) (by decide) qc hqc rfl rfl jw_800 jw_803 jw_804 jw_794 jw_801 jn_X5_putByte rfl (jj_le rfl) (jj_le rfl) (jj_le rfl) (jj_le rfl) (jj_le rfl) dX5_putNumber_78 rfl (fun _ _ _ hX => hX.elim) (fun rx pl_106 r O_109 => ?_)
                  obtain ⟨rfl, hok_107, hr_108, hR_111⟩ := O_109
                  replace hf_103 := hr_108.at hk0 (by decide) (by decide) hf_103
                  replace hfr := hfr.trans (hr_108.sub (by decide))
                  obtain rfl := hR_111
                  obtain ⟨x_112, ex_112, vx_112⟩ := tt_inc (x := x_102) (n := 1) (by omega) (by omega)
                  refine jj_iinc (v := x_112) C dX5_putNumber_81 rfl ex_112 (by decide) rfl ?_
                  refine jj_goto (tgt := 63) C dX5_putNumber_84 (by decide) ?_
                  exact ihL_101 pl_106 x_112 hok_107 hfr hf_103 (by first | omega | decide | exact tt_lo _ | exact tt_hi _) (by first | omega | decide | exact tt_lo _ | exact tt_hi _) (by first | omega | decide | exact tt_lo _ | exact tt_hi _)
            exact hL_101 _ pl_97 x_86 trivial hok_98 hfr hf_88 (by first | omega | decide | exact tt_lo _ | exact tt_hi _) (by first | omega | decide | exact tt_lo _ | exact tt_hi _) (Int.self_le_toNat _)
          · refine jj_iload C dX5_putNumber_54 rfl ?_
            refine jj_if_gt (tgt := 18) C dX5_putNumber_56 (by decide) (fun c_113 => ?_) (fun c_113 => ?_)
            · have z_c_113 := jc_lt (a := (0)) (b := (x_86).toInt) c_113 (by decide) rfl
              refine jj_loc [1, 0, 2, 3] rfl ?_
              exact ihL_83 pl_97 x_86 y_99 hok_98 hfr (by first | omega | decide | exact tt_lo _ | exact tt_hi _) (by first | omega | decide | exact tt_lo _ | exact tt_hi _) (by first | omega | decide | exact tt_lo _ | exact tt_hi _)
            · have z_c_113 := jc_nlt (a := (0)) (b := (x_86).toInt) c_113 (by decide) rfl
              refine jj_iload C dX5_putNumber_59 rfl ?_
              refine jj_istore C dX5_putNumber_61 (by decide) rfl ?_
              have hL_114 : ∀ (N : Nat) (pl : va_W) (x_115 : Int32), True → tt_ok tt_tk cA Kd pl → tt_fr Kd [(12, 1)] pl0 pl → tt_at pl h0 2 (.ref a_89) → (0 : Int) ≤ x_115.toInt → x_115.toInt ≤ 20 → (2147483648 - x_115.toInt ≤ (N : Int)) → jj_J p l e (jj_rm 5 107 0 0) s m args below meth c 7 A (vx_MQ below (jj_q D A (tt_O (fun rx pl1 r => rx = [] ∧ tt_ok tt_tk cA Kd pl1 ∧ tt_fr Kd [(12, 1)] pl0 pl1 ∧ ((r = none))))) (jj_x D A (tt_OX (fun _ _ _ => False))) args s 0 0 A) (jj_X D A ([] ++ pl)) 0 0 63 [(6, .int x_115), (3, .long y_99), (5, .int x_86), (0, .ref h0), (1, .long p1)] [] := by
                intro NL_114
                induction NL_114 with
                | zero => intro pl x_115 _ hok hfr hf_116 lx_115 ux_115 hNL_114; exfalso; omega
                | succ NL_114 ihL_114 =>
                  intro pl x_115 _ hok hfr hf_116 lx_115 ux_115 hNL_114
                  replace ihL_114 := fun pl x_115 h1 => ihL_114 pl x_115 trivial h1
                  refine jj_iload C dX5_putNumber_63 rfl ?_
                  refine jj_bipush (v := 20) C dX5_putNumber_65 (by decide) ?_
                  refine jj_icmp_ge (tgt := 87) C dX5_putNumber_67 (by decide) (fun c_117 => ?_) (fun c_117 => ?_)
                  · have z_c_117 := jc_le (a := (20)) (b := (x_115).toInt) c_117 (by decide) rfl
                    exact jj_vret C ⟨[], pl, rfl, rfl, hok, hfr, rfl⟩ dX5_putNumber_87 (jj_le rfl) (jj_le rfl)
                  · have z_c_117 := jc_nle (a := (20)) (b := (x_115).toInt) c_117 (by decide) rfl
                    refine jj_aload_n C dX5_putNumber_70 rfl ?_
                    refine jj_aload_n C dX5_putNumber_71 rfl ?_
                    refine tt_getF C hok jk_6 2 (by decide) jw_812 (t := (2, 14, 0)) hk0 (by decide) rfl rfl hf_116 dX5_putNumber_72 ?_
                    refine jj_iload C dX5_putNumber_75 rfl ?_
                    refine tt_bald C hok (t := (0, (-2147483648), 2147483647)) ka_89 (by decide) rfl (vp_in_iff.mpr ⟨by omega, by omega⟩) dX5_putNumber_77 (fun v_118 hv_118 => ?_)
                    obtain ⟨qc, gs, hqc⟩ := tt_recv (cx := []) hok hk0 (by decide) rfl
                    refine tt_callV (rest := []) C (tc_X5_putByte_5 hl D cA ak h0 v_118 hk0 hok) [] [] rfl rfl (by decide) (by decide) (by decide) qc hqc rfl rfl jw_800 jw_803 jw_804 jw_794 jw_801 jn_X5_putByte rfl (jj_le rfl) (jj_le rfl) (jj_le rfl) (jj_le rfl) (jj_le rfl) dX5_putNumber_78 rfl (fun _ _ _ hX => hX.elim) (fun rx pl_119 r O_122 => ?_)
                    obtain ⟨rfl, hok_120, hr_121, hR_124⟩ := O_122
                    replace hf_116 := hr_121.at hk0 (by decide) (by decide) hf_116
                    replace hfr := hfr.trans (hr_121.sub (by decide))
                    obtain rfl := hR_124
                    obtain ⟨x_125, ex_125, vx_125⟩ := tt_inc (x := x_115) (n := 1) (by omega) (by omega)
                    refine jj_iinc (v := x_125) C dX5_putNumber_81 rfl ex_125 (by decide) rfl ?_
                    refine jj_goto (tgt := 63) C dX5_putNumber_84 (by decide) ?_
                    exact ihL_114 pl_119 x_125 hok_120 hfr hf_116 (by first | omega | decide | exact tt_lo _ | exact tt_hi _) (by first | omega | decide | exact tt_lo _ | exact tt_hi _) (by first | omega | decide | exact tt_lo _ | exact tt_hi _)
              exact hL_114 _ pl_97 x_86 trivial hok_98 hfr hf_88 (by first | omega | decide | exact tt_lo _ | exact tt_hi _) (by first | omega | decide | exact tt_lo _ | exact tt_hi _) (Int.self_le_toNat _)
        · obtain ⟨y_126, ey_126⟩ : ∃ z : Int64, (48 : Int64) + (-y_90) = z := ⟨_, rfl⟩
          refine jj_ladd (v := y_126) C dX5_putNumber_38 ey_126 ?_
          obtain ⟨x_127, ex_127⟩ : ∃ z : Int32, y_126.toInt32 = z := ⟨_, rfl⟩
          refine jj_l2i (v := x_127) C dX5_putNumber_39 ex_127 ?_
          obtain ⟨x_128, ex_128⟩ : ∃ z : Int32, x_127.toInt8.toInt32 = z := ⟨_, rfl⟩
          refine jj_i2b (v := x_128) C dX5_putNumber_40 ex_128 ?_
          refine tt_bast C hok (t := (0, (-2147483648), 2147483647)) ka_89 (by decide) rfl (vp_in_iff.mpr ⟨by omega, by omega⟩) (tt_ia _) dX5_putNumber_41 (fun pl_129 hok_130 tr => ?_)
          replace hf_88 := tr _ _ _ hf_88
          replace hfr := hfr.arr tr
          refine jj_lload_n C dX5_putNumber_42 rfl ?_
          refine jj_ldc2 (v := 10) C dX5_putNumber_43 jw_814 ?_
          obtain ⟨y_131, ey_131⟩ : ∃ z : Int64, y_85 / (10 : Int64) = z := ⟨_, rfl⟩
          refine jj_ldiv (v := y_131) C dX5_putNumber_46 (by decide) ey_131 ?_
          refine jj_lstore_n C dX5_putNumber_47 (by decide) rfl ?_
          refine jj_lload_n C dX5_putNumber_48 rfl ?_
          refine jj_lconst (v := 0) C dX5_putNumber_49 (by decide) ?_
          refine jj_lcmp_eq (tgt := 59) C dX5_putNumber_50 dX5_putNumber_51 (by decide) (fun c_132 => ?_) (fun c_132 => ?_)
          · refine jj_iload C dX5_putNumber_59 rfl ?_
            refine jj_istore C dX5_putNumber_61 (by decide) rfl ?_
            have hL_133 : ∀ (N : Nat) (pl : va_W) (x_134 : Int32), True → tt_ok tt_tk cA Kd pl → tt_fr Kd [(12, 1)] pl0 pl → tt_at pl h0 2 (.ref a_89) → (0 : Int) ≤ x_134.toInt → x_134.toInt ≤ 20 → (2147483648 - x_134.toInt ≤ (N : Int)) → jj_J p l e (jj_rm 5 107 0 0) s m args below meth c 7 A (vx_MQ below (jj_q D A (tt_O (fun rx pl1 r => rx = [] ∧ tt_ok tt_tk cA Kd pl1 ∧ tt_fr Kd [(12, 1)] pl0 pl1 ∧ ((r = none))))) (jj_x D A (tt_OX (fun _ _ _ => False))) args s 0 0 A) (jj_X D A ([] ++ pl)) 0 0 63 [(6, .int x_134), (3, .long y_131), (5, .int x_86), (0, .ref h0), (1, .long p1)] [] := by
              intro NL_133
              induction NL_133 with
              | zero => intro pl x_134 _ hok hfr hf_135 lx_134 ux_134 hNL_133; exfalso; omega
              | succ NL_133 ihL_133 =>
                intro pl x_134 _ hok hfr hf_135 lx_134 ux_134 hNL_133
                replace ihL_133 := fun pl x_134 h1 => ihL_133 pl x_134 trivial h1
                refine jj_iload C dX5_putNumber_63 rfl ?_
                refine jj_bipush (v := 20) C dX5_putNumber_65 (by decide) ?_
                refine jj_icmp_ge (tgt := 87) C dX5_putNumber_67 (by decide) (fun c_136 => ?_) (fun c_136 => ?_)
                · have z_c_136 := jc_le (a := (20)) (b := (x_134).toInt) c_136 (by decide) rfl
                  exact jj_vret C ⟨[], pl, rfl, rfl, hok, hfr, rfl⟩ dX5_putNumber_87 (jj_le rfl) (jj_le rfl)
                · have z_c_136 := jc_nle (a := (20)) (b := (x_134).toInt) c_136 (by decide) rfl
                  refine jj_aload_n C dX5_putNumber_70 rfl ?_
                  refine jj_aload_n C dX5_putNumber_71 rfl ?_
                  refine tt_getF C hok jk_6 2 (by decide) jw_812 (t := (2, 14, 0)) hk0 (by decide) rfl rfl hf_135 dX5_putNumber_72 ?_
                  refine jj_iload C dX5_putNumber_75 rfl ?_
                  refine tt_bald C hok (t := (0, (-2147483648), 2147483647)) ka_89 (by decide) rfl (vp_in_iff.mpr ⟨by omega, by omega⟩) dX5_putNumber_77 (fun v_137 hv_137 => ?_)
                  obtain ⟨qc, gs, hqc⟩ := tt_recv (cx := []) hok hk0 (by decide) rfl
                  refine tt_callV (rest := []) C (tc_X5_putByte_5 hl D cA ak h0 v_137 hk0 hok) [] [] rfl rfl (by decide) (by decide) (by decide) qc hqc rfl rfl jw_800 jw_803 jw_804 jw_794 jw_801 jn_X5_putByte rfl (jj_le rfl) (jj_le rfl) (jj_le rfl) (jj_le rfl) (jj_le rfl) dX5_putNumber_78 rfl (fun _ _ _ hX => hX.elim) (fun rx pl_138 r O_141 => ?_)
                  obtain ⟨rfl, hok_139, hr_140, hR_143⟩ := O_141
                  replace hf_135 := hr_140.at hk0 (by decide) (by decide) hf_135
                  replace hfr := hfr.trans (hr_140.sub (by decide))
                  obtain rfl := hR_143
                  obtain ⟨x_144, ex_144, vx_144⟩ := tt_inc (x := x_134) (n := 1) (by omega) (by omega)
                  refine jj_iinc (v := x_144) C dX5_putNumber_81 rfl ex_144 (by decide) rfl ?_
                  refine jj_goto (tgt := 63) C dX5_putNumber_84 (by decide) ?_
                  exact ihL_133 pl_138 x_144 hok_139 hfr hf_135 (by first | omega | decide | exact tt_lo _ | exact tt_hi _) (by first | omega | decide | exact tt_lo _ | exact tt_hi _) (by first | omega | decide | exact tt_lo _ | exact tt_hi _)
            exact hL_133 _ pl_129 x_86 trivial hok_130 hfr hf_88 (by first | omega | decide | exact tt_lo _ | exact tt_hi _) (by first | omega | decide | exact tt_lo _ | exact tt_hi _) (Int.self_le_toNat _)
          · refine jj_iload C dX5_putNumber_54 rfl ?_
            refine jj_if_gt (tgt := 18) C dX5_putNumber_56 (by decide) (fun c_145 => ?_) (fun c_145 => ?_)
            · have z_c_145 := jc_lt (a := (0)) (b := (x_86).toInt) c_145 (by decide) rfl
              refine jj_loc [1, 0, 2, 3] rfl ?_
              exact ihL_83 pl_129 x_86 y_131 hok_130 hfr (by first | omega | decide | exact tt_lo _ | exact tt_hi _) (by first | omega | decide | exact tt_lo _ | exact tt_hi _) (by first | omega | decide | exact tt_lo _ | exact tt_hi _)
            · have z_c_145 := jc_nlt (a := (0)) (b := (x_86).toInt) c_145 (by decide) rfl
              refine jj_iload C dX5_putNumber_59 rfl ?_
              refine jj_istore C dX5_putNumber_61 (by decide) rfl ?_
              have hL_146 : ∀ (N : Nat) (pl : va_W) (x_147 : Int32), True → tt_ok tt_tk cA Kd pl → tt_fr Kd [(12, 1)] pl0 pl → tt_at pl h0 2 (.ref a_89) → (0 : Int) ≤ x_147.toInt → x_147.toInt ≤ 20 → (2147483648 - x_147.toInt ≤ (N : Int)) → jj_J p l e (jj_rm 5 107 0 0) s m args below meth c 7 A (vx_MQ below (jj_q D A (tt_O (fun rx pl1 r => rx = [] ∧ tt_ok tt_tk cA Kd pl1 ∧ tt_fr Kd [(12, 1)] pl0 pl1 ∧ ((r = none))))) (jj_x D A (tt_OX (fun _ _ _ => False))) args s 0 0 A) (jj_X D A ([] ++ pl)) 0 0 63 [(6, .int x_147), (3, .long y_131), (5, .int x_86), (0, .ref h0), (1, .long p1)] [] := by
                intro NL_146
                induction NL_146 with
                | zero => intro pl x_147 _ hok hfr hf_148 lx_147 ux_147 hNL_146; exfalso; omega
                | succ NL_146 ihL_146 =>
                  intro pl x_147 _ hok hfr hf_148 lx_147 ux_147 hNL_146
                  replace ihL_146 := fun pl x_147 h1 => ihL_146 pl x_147 trivial h1
                  refine jj_iload C dX5_putNumber_63 rfl ?_
                  refine jj_bipush (v := 20) C dX5_putNumber_65 (by decide) ?_
                  refine jj_icmp_ge (tgt := 87) C dX5_putNumber_67 (by decide) (fun c_149 => ?_) (fun c_149 => ?_)
                  · have z_c_149 := jc_le (a := (20)) (b := (x_147).toInt) c_149 (by decide) rfl
                    exact jj_vret C ⟨[], pl, rfl, rfl, hok, hfr, rfl⟩ dX5_putNumber_87 (jj_le rfl) (jj_le rfl)
                  · have z_c_149 := jc_nle (a := (20)) (b := (x_147).toInt) c_149 (by decide) rfl
                    refine jj_aload_n C dX5_putNumber_70 rfl ?_
                    refine jj_aload_n C dX5_putNumber_71 rfl ?_
                    refine tt_getF C hok jk_6 2 (by decide) jw_812 (t := (2, 14, 0)) hk0 (by decide) rfl rfl hf_148 dX5_putNumber_72 ?_
                    refine jj_iload C dX5_putNumber_75 rfl ?_
                    refine tt_bald C hok (t := (0, (-2147483648), 2147483647)) ka_89 (by decide) rfl (vp_in_iff.mpr ⟨by omega, by omega⟩) dX5_putNumber_77 (fun v_150 hv_150 => ?_)
                    obtain ⟨qc, gs, hqc⟩ := tt_recv (cx := []) hok hk0 (by decide) rfl
                    refine tt_callV (rest := []) C (tc_X5_putByte_5 hl D cA ak h0 v_150 hk0 hok) [] [] rfl rfl (by decide) (by decide) (by decide) qc hqc rfl rfl jw_800 jw_803 jw_804 jw_794 jw_801 jn_X5_putByte rfl (jj_le rfl) (jj_le rfl) (jj_le rfl) (jj_le rfl) (jj_le rfl) dX5_putNumber_78 rfl (fun _ _ _ hX => hX.elim) (fun rx pl_151 r O_154 => ?_)
                    obtain ⟨rfl, hok_152, hr_153, hR_156⟩ := O_154
                    replace hf_148 := hr_153.at hk0 (by decide) (by decide) hf_148
                    replace hfr := hfr.trans (hr_153.sub (by decide))
                    obtain rfl := hR_156
                    obtain ⟨x_157, ex_157, vx_157⟩ := tt_inc (x := x_147) (n := 1) (by omega) (by omega)
                    refine jj_iinc (v := x_157) C dX5_putNumber_81 rfl ex_157 (by decide) rfl ?_
                    refine jj_goto (tgt := 63) C dX5_putNumber_84 (by decide) ?_
                    exact ihL_146 pl_151 x_157 hok_152 hfr hf_148 (by first | omega | decide | exact tt_lo _ | exact tt_hi _) (by first | omega | decide | exact tt_lo _ | exact tt_hi _) (by first | omega | decide | exact tt_lo _ | exact tt_hi _)
              exact hL_146 _ pl_129 x_86 trivial hok_130 hfr hf_88 (by first | omega | decide | exact tt_lo _ | exact tt_hi _) (by first | omega | decide | exact tt_lo _ | exact tt_hi _) (Int.self_le_toNat _)
    exact hL_83 _ pl_77 (20 : Int32) p1 trivial hok_78 hfr (by first | omega | decide | exact tt_lo _ | exact tt_hi _) (by first | omega | decide | exact tt_lo _ | exact tt_hi _) (Int.self_le_toNat _)

