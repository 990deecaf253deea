set_option maxHeartbeats 4000000 in
set_option maxRecDepth 100000 in
theorem tc_X2_chargeDays_3 {l : Launch} (hl : l.stackTraces = false) (D : va_G) (cA : Nat → ClassId) (ak : (Nat → Nat) × (Nat → Nat)) {Kd : Nat → Nat} (h0 : Nat) (p1 : Int32) (hk0 : Kd h0 = 1) {pl0 : va_W} (hok : tt_ok tt_tk cA Kd pl0) : jj_M l D cA ak yX2_chargeDays (.code yX2_chargeDays cX2_chargeDays 8 (some .long)) 0 0 0 0 ([] ++ pl0) [.ref h0, .int p1] (tt_O (fun rx pl1 r => rx = [] ∧ tt_ok tt_tk cA Kd pl1 ∧ tt_fr Kd [(1, 5), (2, 2)] pl0 pl1 ∧ tt_fa Kd [5] pl0 pl1 ∧ ((∃ v : Int64, r = some (.long v))))) (tt_OX (fun _ _ _ => False)) := by
  refine jj_start hl (by decide) jw_5ec919523f (jj_le rfl) ?_
  intro p e s m args below meth c A hargs hA C hex hmn
  have hfr := tt_fr.refl (K := Kd) (WS := [(1, 5), (2, 2)]) pl0
  have hfa := tt_fa.refl (K := Kd) (WA := [5]) pl0
  have lp1 := tt_lo p1
  have up1 := tt_hi p1
  refine jj_lconst (v := 0) C dX2_chargeDays_0 (by decide) ?_
  refine jj_lstore_n C dX2_chargeDays_1 (by decide) rfl ?_
  refine jj_iconst (v := 0) C dX2_chargeDays_2 (by decide) ?_
  refine jj_istore C dX2_chargeDays_3 (by decide) rfl ?_
  have hL_1 : ∀ (N : Nat) (pl : va_W) (x_2 : Int32) (y_3 : Int64), True → tt_ok tt_tk cA Kd pl → tt_fr Kd [(1, 5), (2, 2)] pl0 pl → tt_fa Kd [5] pl0 pl → (0 : Int) ≤ x_2.toInt → x_2.toInt ≤ 2147483647 → (2147483648 - x_2.toInt ≤ (N : Int)) → jj_J p l e (jj_rm 0 0 0 0) s m args below meth c 8 A (vx_MQ below (jj_q D A (tt_O (fun rx pl1 r => rx = [] ∧ tt_ok tt_tk cA Kd pl1 ∧ tt_fr Kd [(1, 5), (2, 2)] pl0 pl1 ∧ tt_fa Kd [5] pl0 pl1 ∧ ((∃ v : Int64, r = some (.long v)))))) (jj_x D A (tt_OX (fun _ _ _ => False))) args s 0 0 A) (jj_X D A ([] ++ pl)) 0 0 5 [(4, .int x_2), (2, .long y_3), (0, .ref h0), (1, .int p1)] [] := by
    intro NL_1
    induction NL_1 with
    | zero => intro pl x_2 y_3 _ hok hfr hfa lx_2 ux_2 hNL_1; exfalso; omega
    | succ NL_1 ihL_1 =>
      intro pl x_2 y_3 _ hok hfr hfa lx_2 ux_2 hNL_1
      replace ihL_1 := fun pl x_2 y_3 h1 => ihL_1 pl x_2 y_3 trivial h1
      refine jj_iload C dX2_chargeDays_5 rfl ?_
      refine jj_iload_n C dX2_chargeDays_7 rfl ?_
      refine jj_icmp_ge (tgt := 89) C dX2_chargeDays_8 (by decide) (fun c_4 => ?_) (fun c_4 => ?_)
      · have z_c_4 := jc_le (a := (p1).toInt) (b := (x_2).toInt) c_4 rfl rfl
        refine jj_aload_n C dX2_chargeDays_89 rfl ?_
        refine tt_get C hok jk_2 10 (by decide) jw_d4020bdca8 (t := (2, 5, 0)) hk0 (by decide) rfl rfl dX2_chargeDays_90 (fun v_5 hv_5 hf_6 => ?_)
        obtain ⟨a_7, rfl, ka_7⟩ := tt_vr hv_5
        refine jj_iconst (v := 0) C dX2_chargeDays_93 (by decide) ?_
        refine jj_dup2 C dX2_chargeDays_94 rfl rfl ?_
        refine tt_lald C hok (t := (1, (-9223372036854775808), 9223372036854775807)) ka_7 (by decide) rfl (vp_in_iff.mpr (by decide)) dX2_chargeDays_95 (fun v_8 hv_8 => ?_)
        refine jj_lload_n C dX2_chargeDays_96 rfl ?_
        obtain ⟨y_9, ey_9⟩ : ∃ z : Int64, v_8 + y_3 = z := ⟨_, rfl⟩
        refine jj_ladd (v := y_9) C dX2_chargeDays_97 ey_9 ?_
        refine tl_last C hok (t := (1, (-9223372036854775808), 9223372036854775807)) ka_7 (by decide) rfl (vp_in_iff.mpr (by decide)) (tt_ja _) dX2_chargeDays_98 (fun pl_10 hok_11 tr tl => ?_)
        replace hf_6 := tr _ _ _ hf_6
        replace hfr := hfr.arr tr
        replace hfa := hfa.wr ka_7 tl (by decide)
        refine jj_aload_n C dX2_chargeDays_99 rfl ?_
        refine tt_getF C hok_11 jk_2 10 (by decide) jw_d4020bdca8 (t := (2, 5, 0)) hk0 (by decide) rfl rfl hf_6 dX2_chargeDays_100 ?_
        refine jj_iconst (v := 5) C dX2_chargeDays_103 (by decide) ?_
        refine jj_dup2 C dX2_chargeDays_104 rfl rfl ?_
        refine tt_lald C hok_11 (t := (1, (-9223372036854775808), 9223372036854775807)) ka_7 (by decide) rfl (vp_in_iff.mpr (by decide)) dX2_chargeDays_105 (fun v_12 hv_12 => ?_)
        refine jj_lload_n C dX2_chargeDays_106 rfl ?_
        obtain ⟨y_13, ey_13⟩ : ∃ z : Int64, v_12 + y_3 = z := ⟨_, rfl⟩
        refine jj_ladd (v := y_13) C dX2_chargeDays_107 ey_13 ?_
        refine tl_last C hok_11 (t := (1, (-9223372036854775808), 9223372036854775807)) ka_7 (by decide) rfl (vp_in_iff.mpr (by decide)) (tt_ja _) dX2_chargeDays_108 (fun pl_14 hok_15 tr tl => ?_)
        replace hf_6 := tr _ _ _ hf_6
        replace hfr := hfr.arr tr
        replace hfa := hfa.wr ka_7 tl (by decide)
        refine jj_lload_n C dX2_chargeDays_109 rfl ?_
        exact jj_lret C ⟨[], pl_14, rfl, rfl, hok_15, hfr, hfa, ⟨y_3, rfl⟩⟩ dX2_chargeDays_110 (jj_le rfl) (jj_le rfl)
      · have z_c_4 := jc_nle (a := (p1).toInt) (b := (x_2).toInt) c_4 rfl rfl
        refine jj_iconst (v := 0) C dX2_chargeDays_11 (by decide) ?_
        refine jj_istore C dX2_chargeDays_12 (by decide) rfl ?_
        have hL_16 : ∀ (N : Nat) (pl : va_W) (x_17 : Int32) (y_18 : Int64), True → tt_ok tt_tk cA Kd pl → tt_fr Kd [(1, 5), (2, 2)] pl0 pl → tt_fa Kd [5] pl0 pl → (0 : Int) ≤ x_17.toInt → x_17.toInt ≤ 6 → (2147483648 - x_17.toInt ≤ (N : Int)) → jj_J p l e (jj_rm 0 0 0 0) s m args below meth c 8 A (vx_MQ below (jj_q D A (tt_O (fun rx pl1 r => rx = [] ∧ tt_ok tt_tk cA Kd pl1 ∧ tt_fr Kd [(1, 5), (2, 2)] pl0 pl1 ∧ tt_fa Kd [5] pl0 pl1 ∧ ((∃ v : Int64, r = some (.long v)))))) (jj_x D A (tt_OX (fun _ _ _ => False))) args s 0 0 A) (jj_X D A ([] ++ pl)) 0 0 14 [(5, .int x_17), (4, .int x_2), (2, .long y_18), (0, .ref h0), (1, .int p1)] [] := by
          intro NL_16
          induction NL_16 with
          | zero => intro pl x_17 y_18 _ hok hfr hfa lx_17 ux_17 hNL_16; exfalso; omega
          | succ NL_16 ihL_16 =>
            intro pl x_17 y_18 _ hok hfr hfa lx_17 ux_17 hNL_16
            replace ihL_16 := fun pl x_17 y_18 h1 => ihL_16 pl x_17 y_18 trivial h1
            refine jj_iload C dX2_chargeDays_14 rfl ?_
            refine jj_aload_n C dX2_chargeDays_16 rfl ?_
            refine tt_get C hok jk_2 7 (by decide) jw_fcf7ccfd1e (t := (0, 0, 6)) hk0 (by decide) rfl rfl dX2_chargeDays_17 (fun v_19 hv_19 hf_20 => ?_)
            obtain ⟨x_21, rfl, lx_21, ux_21⟩ := tt_vi hv_19
            refine jj_icmp_ge (tgt := 73) C dX2_chargeDays_20 (by decide) (fun c_22 => ?_) (fun c_22 => ?_)
            · have z_c_22 := jc_le (a := (x_21).toInt) (b := (x_17).toInt) c_22 rfl rfl
              refine jj_aload_n C dX2_chargeDays_73 rfl ?_
              refine jj_dup C dX2_chargeDays_74 rfl ?_
              refine tt_get C hok jk_2 5 (by decide) jw_f6870f6593 (t := (0, (-2147483648), 2147483647)) hk0 (by decide) rfl rfl dX2_chargeDays_75 (fun v_23 hv_23 hf_24 => ?_)
              obtain ⟨x_25, rfl, lx_25, ux_25⟩ := tt_vi hv_23
              refine jj_iconst (v := 1) C dX2_chargeDays_78 (by decide) ?_
              obtain ⟨x_26, ex_26⟩ : ∃ z : Int32, x_25 + (1 : Int32) = z := ⟨_, rfl⟩
              refine jj_iadd (v := x_26) C dX2_chargeDays_79 ex_26 ?_
              refine rl_put C hok jk_2 5 (by decide) jw_f6870f6593 (t := (0, (-2147483648), 2147483647)) hk0 (by decide) rfl rfl rfl (tt_ia x_26) rfl rfl dX2_chargeDays_80 (fun pl_27 hok_28 tr hn tl => ?_)
              replace hf_20 := tr _ _ _ (Or.inr (by decide)) hf_20
              have hf_29 := hn
              replace hfr := hfr.put hk0 tr (by decide)
              replace hfa := hfa.all tl
              obtain ⟨x_30, ex_30, vx_30⟩ := tt_inc (x := x_2) (n := 1) (by omega) (by omega)
              refine jj_iinc (v := x_30) C dX2_chargeDays_83 rfl ex_30 (by decide) rfl ?_
              refine jj_goto (tgt := 5) C dX2_chargeDays_86 (by decide) ?_
              refine jj_loc [0, 2, 3, 4] rfl ?_
              exact ihL_1 pl_27 x_30 y_18 hok_28 hfr hfa (by first | omega | decide | exact tt_lo _ | exact tt_hi _) (by first | omega | decide | exact tt_lo _ | exact tt_hi _) (by first | omega | decide | exact tt_lo _ | exact tt_hi _)
            · have z_c_22 := jc_nle (a := (x_21).toInt) (b := (x_17).toInt) c_22 rfl rfl
              refine jj_aload_n C dX2_chargeDays_23 rfl ?_
              refine tt_get C hok jk_2 11 (by decide) jw_2bd072191f (t := (2, 6, 0)) hk0 (by decide) rfl rfl dX2_chargeDays_24 (fun v_31 hv_31 hf_32 => ?_)
              obtain ⟨a_33, rfl, ka_33⟩ := tt_vr hv_31
              refine jj_iload C dX2_chargeDays_27 rfl ?_
              refine tt_aald C hok (t := (2, 2, 0)) ka_33 (by decide) rfl rfl rfl (vp_in_iff.mpr ⟨by omega, by omega⟩) dX2_chargeDays_29 (fun v_34 hv_34 => ?_)
              obtain ⟨a_35, rfl, ka_35⟩ := tt_vr hv_34
              refine tt_get C hok jk_9 2 (by decide) jw_5719898240 (t := (1, (-9223372036854775808), 9223372036854775807)) ka_35 (by decide) rfl rfl dX2_chargeDays_30 (fun v_36 hv_36 hf_37 => ?_)
              obtain ⟨y_38, rfl, -, -⟩ := tt_vj hv_36
              refine jj_aload_n C dX2_chargeDays_33 rfl ?_
              refine tt_get C hok jk_2 2 (by decide) jw_5b16254c28 (t := (0, (-2147483648), 2147483647)) hk0 (by decide) rfl rfl dX2_chargeDays_34 (fun v_39 hv_39 hf_40 => ?_)
              obtain ⟨x_41, rfl, lx_41, ux_41⟩ := tt_vi hv_39
              obtain ⟨y_42, ey_42, vy_42⟩ := tt_i2l x_41
              refine jj_i2l (v := y_42) C dX2_chargeDays_37 ey_42 ?_
              obtain ⟨y_43, ey_43⟩ : ∃ z : Int64, y_38 * y_42 = z := ⟨_, rfl⟩
              refine jj_lmul (v := y_43) C dX2_chargeDays_38 ey_43 ?_
              refine jj_ldc2 (v := 3650000) C dX2_chargeDays_39 jw_98ea58c985 ?_
              obtain ⟨y_44, ey_44⟩ : ∃ z : Int64, y_43 / (3650000 : Int64) = z := ⟨_, rfl⟩
              refine jj_ldiv (v := y_44) C dX2_chargeDays_42 (by decide) ey_44 ?_
              refine jj_lstore C dX2_chargeDays_43 (by decide) rfl ?_
              refine jj_aload_n C dX2_chargeDays_45 rfl ?_
              refine tt_getF C hok jk_2 11 (by decide) jw_2bd072191f (t := (2, 6, 0)) hk0 (by decide) rfl rfl hf_32 dX2_chargeDays_46 ?_
              refine jj_iload C dX2_chargeDays_49 rfl ?_
              refine tt_aald C hok (t := (2, 2, 0)) ka_33 (by decide) rfl rfl rfl (vp_in_iff.mpr ⟨by omega, by omega⟩) dX2_chargeDays_51 (fun v_45 hv_45 => ?_)
              obtain ⟨a_46, rfl, ka_46⟩ := tt_vr hv_45
              refine jj_dup C dX2_chargeDays_52 rfl ?_
              refine tt_get C hok jk_9 2 (by decide) jw_5719898240 (t := (1, (-9223372036854775808), 9223372036854775807)) ka_46 (by decide) rfl rfl dX2_chargeDays_53 (fun v_47 hv_47 hf_48 => ?_)
              obtain ⟨y_49, rfl, -, -⟩ := tt_vj hv_47
              refine jj_lload C dX2_chargeDays_56 rfl ?_
              obtain ⟨y_50, ey_50⟩ : ∃ z : Int64, y_49 - y_44 = z := ⟨_, rfl⟩
              refine jj_lsub (v := y_50) C dX2_chargeDays_58 ey_50 ?_
              refine rl_put C hok jk_9 2 (by decide) jw_5719898240 (t := (1, (-9223372036854775808), 9223372036854775807)) ka_46 (by decide) rfl rfl rfl (tt_ja y_50) rfl rfl dX2_chargeDays_59 (fun pl_51 hok_52 tr hn tl => ?_)
              replace hf_20 := tr _ _ _ (Or.inl (tt_ne hk0 ka_46 (by decide))) hf_20
              replace hf_32 := tr _ _ _ (Or.inl (tt_ne hk0 ka_46 (by decide))) hf_32
              replace hf_40 := tr _ _ _ (Or.inl (tt_ne hk0 ka_46 (by decide))) hf_40
              have hf_53 := hn
              replace hfr := hfr.put ka_46 tr (by decide)
              replace hfa := hfa.all tl
              refine jj_lload_n C dX2_chargeDays_62 rfl ?_
              refine jj_lload C dX2_chargeDays_63 rfl ?_
              obtain ⟨y_54, ey_54⟩ : ∃ z : Int64, y_18 + y_44 = z := ⟨_, rfl⟩
              refine jj_ladd (v := y_54) C dX2_chargeDays_65 ey_54 ?_
              refine jj_lstore_n C dX2_chargeDays_66 (by decide) rfl ?_
              obtain ⟨x_55, ex_55, vx_55⟩ := tt_inc (x := x_17) (n := 1) (by omega) (by omega)
              refine jj_iinc (v := x_55) C dX2_chargeDays_67 rfl ex_55 (by decide) rfl ?_
              refine jj_goto (tgt := 14) C dX2_chargeDays_70 (by decide) ?_
              refine jj_loc [0, 3, 1, 4, 5] rfl ?_
              exact ihL_16 pl_51 x_55 y_54 hok_52 hfr hfa (by first | omega | decide | exact tt_lo _ | exact tt_hi _) (by first | omega | decide | exact tt_lo _ | exact tt_hi _) (by first | omega | decide | exact tt_lo _ | exact tt_hi _)
        exact hL_16 _ pl (0 : Int32) y_3 trivial hok hfr hfa (by first | omega | decide | exact tt_lo _ | exact tt_hi _) (by first | omega | decide | exact tt_lo _ | exact tt_hi _) (Int.self_le_toNat _)
  exact hL_1 _ pl0 (0 : Int32) (0 : Int64) trivial hok hfr hfa (by first | omega | decide | exact tt_lo _ | exact tt_hi _) (by first | omega | decide | exact tt_lo _ | exact tt_hi _) (Int.self_le_toNat _)

set_option maxHeartbeats 4000000 in
set_option maxRecDepth 100000 in
theorem tc_X7_execute_1 {l : Launch} (hl : l.stackTraces = false) (D : va_G) (cA : Nat → ClassId) (ak : (Nat → Nat) × (Nat → Nat)) {Kd : Nat → Nat} (h0 : Nat) (hk0 : Kd h0 = 18) {pl0 : va_W} (hok : tt_ok tt_tk cA Kd pl0) : jj_M l D cA ak yX7_execute (.code yX7_execute cX7_execute 1 (some .boolean)) 5 135 0 0 ([] ++ pl0) [.ref h0] (tt_O (fun rx pl1 r => rx = [] ∧ tt_ok tt_tk cA Kd pl1 ∧ tt_fr Kd [(1, 5), (1, 6), (1, 7), (1, 8), (1, 9), (2, 0), (2, 1), (2, 2), (2, 3), (2, 4), (3, 0), (3, 1), (3, 2), (3, 3), (3, 4), (3, 5), (4, 0), (4, 1), (4, 2), (4, 3), (4, 4), (9, 1), (9, 2), (9, 3), (9, 4), (9, 5)] pl0 pl1 ∧ tt_fa Kd [5] pl0 pl1 ∧ ((r = some (.int 0)) ∨ (r = some (.int 1))))) (tt_OX (fun _ _ _ => False)) := by
  refine jj_start hl (by decide) jw_e890299aba (jj_le rfl) ?_
  intro p e s m args below meth c A hargs hA C hex hmn
  have hfr := tt_fr.refl (K := Kd) (WS := [(1, 5), (1, 6), (1, 7), (1, 8), (1, 9), (2, 0), (2, 1), (2, 2), (2, 3), (2, 4), (3, 0), (3, 1), (3, 2), (3, 3), (3, 4), (3, 5), (4, 0), (4, 1), (4, 2), (4, 3), (4, 4), (9, 1), (9, 2), (9, 3), (9, 4), (9, 5)]) pl0
  have hfa := tt_fa.refl (K := Kd) (WA := [5]) pl0
  refine jj_aload_n C dX7_execute_0 rfl ?_
  obtain ⟨qc, gs, hqc⟩ := tt_recv (cx := []) hok hk0 (by decide) rfl
  refine tt_callV (rest := []) C (tc_X7_fault_1 hl D cA ak h0 hk0 hok) [] [] rfl rfl (by decide) (by decide) (by decide) qc hqc rfl rfl jw_87eae7e1e5 jw_d967c277b3 jw_fa9e6c1988 jw_ab600d7316 jw_c8c917d40e jn_X7_fault rfl (jj_le rfl) (jj_le rfl) (jj_le rfl) (jj_le rfl) (jj_le rfl) dX7_execute_1 rfl (fun _ _ _ hX => hX.elim) (fun rx pl_1 r O_4 => ?_)
  obtain ⟨rfl, hok_2, hr_3, hfa9, hR_6⟩ := O_4
  replace hfr := hfr.trans (hr_3.sub (by decide))
  replace hfa := hfa.trans (hfa9.sub (by decide))
  rcases hR_6 with rfl | rfl | rfl | rfl
  · refine jj_if_eqF (tgt := 9) C dX7_execute_4 (by decide) (by decide) ?_
    refine jj_iconst (v := 0) C dX7_execute_7 (by decide) ?_
    exact jj_zret C rfl ⟨[], pl_1, rfl, rfl, hok_2, hfr, hfa, (Or.inl rfl)⟩ dX7_execute_8 (jj_le rfl) (jj_le rfl)
  · refine jj_if_eqF (tgt := 9) C dX7_execute_4 (by decide) (by decide) ?_
    refine jj_iconst (v := 0) C dX7_execute_7 (by decide) ?_
    exact jj_zret C rfl ⟨[], pl_1, rfl, rfl, hok_2, hfr, hfa, (Or.inl rfl)⟩ dX7_execute_8 (jj_le rfl) (jj_le rfl)
  · refine jj_if_eqT (tgt := 9) C dX7_execute_4 (by decide) (by decide) ?_
    refine jj_aload_n C dX7_execute_9 rfl ?_
    refine tt_get C hok_2 jk_8 3 (by decide) jw_ac85adedeb (t := (0, (-2147483648), 2147483647)) hk0 (by decide) rfl rfl dX7_execute_10 (fun v_9 hv_9 hf_10 => ?_)
    obtain ⟨x_11, rfl, lx_11, ux_11⟩ := tt_vi hv_9
    rcases jj_em (x_11 = 0) with c_12 | c_12
    · refine jj_tableIn (tgt := 56) C dX7_execute_13 (by rw [c_12]; decide) (by rw [c_12]; decide) (by rw [c_12]; rfl) (by decide) ?_
      refine jj_aload_n C dX7_execute_56 rfl ?_
      refine tt_get C hok_2 jk_8 1 (by decide) jw_26f46c26b3 (t := (2, 1, 0)) hk0 (by decide) rfl rfl dX7_execute_57 (fun v_13 hv_13 hf_14 => ?_)
      obtain ⟨a_15, rfl, ka_15⟩ := tt_vr hv_13
      refine jj_aload_n C dX7_execute_60 rfl ?_
      refine tt_get C hok_2 jk_8 4 (by decide) jw_e240581aab (t := (0, (-2147483648), 2147483647)) hk0 (by decide) rfl rfl dX7_execute_61 (fun v_16 hv_16 hf_17 => ?_)
      obtain ⟨x_18, rfl, lx_18, ux_18⟩ := tt_vi hv_16
      refine jj_iconst (v := 0) C dX7_execute_64 (by decide) ?_
      refine jj_aload_n C dX7_execute_65 rfl ?_
      refine tt_get C hok_2 jk_8 5 (by decide) jw_e8f1de6a57 (t := (0, (-2147483648), 2147483647)) hk0 (by decide) rfl rfl dX7_execute_66 (fun v_19 hv_19 hf_20 => ?_)
      obtain ⟨x_21, rfl, lx_21, ux_21⟩ := tt_vi hv_19
      obtain ⟨y_22, ey_22, vy_22⟩ := tt_i2l x_21
      refine jj_i2l (v := y_22) C dX7_execute_69 ey_22 ?_
      obtain ⟨qc, gs, hqc⟩ := tt_recv (cx := []) hok_2 ka_15 (by decide) rfl
      refine tt_callV (rest := []) C (tc_X0_addRequest_2 hl D cA ak a_15 x_18 y_22 ka_15 hok_2) [] [] rfl rfl (by decide) (by decide) (by decide) qc hqc rfl rfl jw_51b7c73a9c jw_4cd88e9d91 jw_a895762d25 jw_7d25d4fd32 jw_1fad268463 jn_X0_addRequest rfl (jj_le rfl) (jj_le rfl) (jj_le rfl) (jj_le rfl) (jj_le rfl) dX7_execute_70 rfl (fun _ _ _ hX => hX.elim) (fun rx pl_23 r O_26 => ?_)
      obtain ⟨rfl, hok_24, hr_25, hfa9, hR_28⟩ := O_26
      replace hf_10 := hr_25.at hk0 (by decide) (by decide) hf_10
      replace hf_14 := hr_25.at hk0 (by decide) (by decide) hf_14
      replace hf_17 := hr_25.at hk0 (by decide) (by decide) hf_17
      replace hf_20 := hr_25.at hk0 (by decide) (by decide) hf_20
      replace hfr := hfr.trans (hr_25.sub (by decide))
      replace hfa := hfa.trans (hfa9.sub (by decide))
      rcases hR_28 with rfl | ⟨x_31, lx_31, ux_31, rfl⟩
      · refine jj_pop C dX7_execute_73 rfl ?_
        refine jj_goto (tgt := 178) C dX7_execute_74 (by decide) ?_
        refine jj_iconst (v := 1) C dX7_execute_178 (by decide) ?_
        exact jj_zret C rfl ⟨[], pl_23, rfl, rfl, hok_24, hfr, hfa, (Or.inr rfl)⟩ dX7_execute_179 (jj_le rfl) (jj_le rfl)
      · refine jj_pop C dX7_execute_73 rfl ?_
        refine jj_goto (tgt := 178) C dX7_execute_74 (by decide) ?_
        refine jj_iconst (v := 1) C dX7_execute_178 (by decide) ?_
        exact jj_zret C rfl ⟨[], pl_23, rfl, rfl, hok_24, hfr, hfa, (Or.inr rfl)⟩ dX7_execute_179 (jj_le rfl) (jj_le rfl)
    rcases jj_em (x_11 = 1) with c_32 | c_32
    · refine jj_tableIn (tgt := 77) C dX7_execute_13 (by rw [c_32]; decide) (by rw [c_32]; decide) (by rw [c_32]; rfl) (by decide) ?_
      refine jj_aload_n C dX7_execute_77 rfl ?_
      refine tt_get C hok_2 jk_8 1 (by decide) jw_26f46c26b3 (t := (2, 1, 0)) hk0 (by decide) rfl rfl dX7_execute_78 (fun v_33 hv_33 hf_34 => ?_)
      obtain ⟨a_35, rfl, ka_35⟩ := tt_vr hv_33
      refine jj_aload_n C dX7_execute_81 rfl ?_
      refine tt_get C hok_2 jk_8 4 (by decide) jw_e240581aab (t := (0, (-2147483648), 2147483647)) hk0 (by decide) rfl rfl dX7_execute_82 (fun v_36 hv_36 hf_37 => ?_)
      obtain ⟨x_38, rfl, lx_38, ux_38⟩ := tt_vi hv_36
      refine jj_iconst (v := 1) C dX7_execute_85 (by decide) ?_
      refine jj_aload_n C dX7_execute_86 rfl ?_
      refine tt_get C hok_2 jk_8 5 (by decide) jw_e8f1de6a57 (t := (0, (-2147483648), 2147483647)) hk0 (by decide) rfl rfl dX7_execute_87 (fun v_39 hv_39 hf_40 => ?_)
      obtain ⟨x_41, rfl, lx_41, ux_41⟩ := tt_vi hv_39
      obtain ⟨y_42, ey_42, vy_42⟩ := tt_i2l x_41
      refine jj_i2l (v := y_42) C dX7_execute_90 ey_42 ?_
      obtain ⟨qc, gs, hqc⟩ := tt_recv (cx := []) hok_2 ka_35 (by decide) rfl
      refine tt_callV (rest := []) C (tc_X0_addRequest_1 hl D cA ak a_35 x_38 y_42 ka_35 hok_2) [] [] rfl rfl (by decide) (by decide) (by decide) qc hqc rfl rfl jw_51b7c73a9c jw_4cd88e9d91 jw_a895762d25 jw_7d25d4fd32 jw_1fad268463 jn_X0_addRequest rfl (jj_le rfl) (jj_le rfl) (jj_le rfl) (jj_le rfl) (jj_le rfl) dX7_execute_91 rfl (fun _ _ _ hX => hX.elim) (fun rx pl_43 r O_46 => ?_)
      obtain ⟨rfl, hok_44, hr_45, hfa9, hR_48⟩ := O_46
      replace hf_10 := hr_45.at hk0 (by decide) (by decide) hf_10
      replace hf_34 := hr_45.at hk0 (by decide) (by decide) hf_34
      replace hf_37 := hr_45.at hk0 (by decide) (by decide) hf_37
      replace hf_40 := hr_45.at hk0 (by decide) (by decide) hf_40
      replace hfr := hfr.trans (hr_45.sub (by decide))
      replace hfa := hfa.trans (hfa9.sub (by decide))
      rcases hR_48 with rfl | ⟨x_51, lx_51, ux_51, rfl⟩
      · refine jj_pop C dX7_execute_94 rfl ?_
        refine jj_goto (tgt := 178) C dX7_execute_95 (by decide) ?_
        refine jj_iconst (v := 1) C dX7_execute_178 (by decide) ?_
        exact jj_zret C rfl ⟨[], pl_43, rfl, rfl, hok_44, hfr, hfa, (Or.inr rfl)⟩ dX7_execute_179 (jj_le rfl) (jj_le rfl)
      · refine jj_pop C dX7_execute_94 rfl ?_
        refine jj_goto (tgt := 178) C dX7_execute_95 (by decide) ?_
        refine jj_iconst (v := 1) C dX7_execute_178 (by decide) ?_
        exact jj_zret C rfl ⟨[], pl_43, rfl, rfl, hok_44, hfr, hfa, (Or.inr rfl)⟩ dX7_execute_179 (jj_le rfl) (jj_le rfl)
    rcases jj_em (x_11 = 2) with c_52 | c_52
    · refine jj_tableIn (tgt := 98) C dX7_execute_13 (by rw [c_52]; decide) (by rw [c_52]; decide) (by rw [c_52]; rfl) (by decide) ?_
      refine jj_aload_n C dX7_execute_98 rfl ?_
      refine tt_get C hok_2 jk_8 2 (by decide) jw_0cff950425 (t := (2, 9, 0)) hk0 (by decide) rfl rfl dX7_execute_99 (fun v_53 hv_53 hf_54 => ?_)
      obtain ⟨a_55, rfl, ka_55⟩ := tt_vr hv_53
      refine jj_aload_n C dX7_execute_102 rfl ?_
      refine tt_get C hok_2 jk_8 1 (by decide) jw_26f46c26b3 (t := (2, 1, 0)) hk0 (by decide) rfl rfl dX7_execute_103 (fun v_56 hv_56 hf_57 => ?_)
      obtain ⟨a_58, rfl, ka_58⟩ := tt_vr hv_56
      obtain ⟨qc, gs, hqc⟩ := tt_recv (cx := []) hok_2 ka_55 (by decide) rfl
      refine tt_callV (rest := []) C (tc_X1_holdDealing_1 hl D cA ak a_55 a_58 ka_55 ka_58 hok_2) [] [] rfl rfl (by decide) (by decide) (by decide) qc hqc rfl rfl jw_05c5b19f95 jw_9492be7750 jw_6c693009b5 jw_944cf9c3ab jw_cb08e29005 jn_X1_holdDealing rfl (jj_le rfl) (jj_le rfl) (jj_le rfl) (jj_le rfl) (jj_le rfl) dX7_execute_106 rfl (fun _ _ _ hX => hX.elim) (fun rx pl_59 r O_62 => ?_)
      obtain ⟨rfl, hok_60, hr_61, hfa9, hR_64⟩ := O_62
      replace hf_10 := hr_61.at hk0 (by decide) (by decide) hf_10
      replace hf_54 := hr_61.at hk0 (by decide) (by decide) hf_54
      replace hf_57 := hr_61.at hk0 (by decide) (by decide) hf_57
      replace hfr := hfr.trans (hr_61.sub (by decide))
      replace hfa := hfa.trans (hfa9.sub (by decide))
      obtain ⟨x_67, lx_67, ux_67, rfl⟩ := hR_64
      refine jj_pop C dX7_execute_109 rfl ?_
      refine jj_goto (tgt := 178) C dX7_execute_110 (by decide) ?_
      refine jj_iconst (v := 1) C dX7_execute_178 (by decide) ?_
      exact jj_zret C rfl ⟨[], pl_59, rfl, rfl, hok_60, hfr, hfa, (Or.inr rfl)⟩ dX7_execute_179 (jj_le rfl) (jj_le rfl)
    rcases jj_em (x_11 = 3) with c_68 | c_68
    · refine jj_tableIn (tgt := 113) C dX7_execute_13 (by rw [c_68]; decide) (by rw [c_68]; decide) (by rw [c_68]; rfl) (by decide) ?_
      refine jj_aload_n C dX7_execute_113 rfl ?_
      refine tt_get C hok_2 jk_8 1 (by decide) jw_26f46c26b3 (t := (2, 1, 0)) hk0 (by decide) rfl rfl dX7_execute_114 (fun v_69 hv_69 hf_70 => ?_)
      obtain ⟨a_71, rfl, ka_71⟩ := tt_vr hv_69
      refine jj_aload_n C dX7_execute_117 rfl ?_
      refine tt_get C hok_2 jk_8 4 (by decide) jw_e240581aab (t := (0, (-2147483648), 2147483647)) hk0 (by decide) rfl rfl dX7_execute_118 (fun v_72 hv_72 hf_73 => ?_)
      obtain ⟨x_74, rfl, lx_74, ux_74⟩ := tt_vi hv_72
      refine tt_callS (rest := []) C (tc_X2_earnRate_1 hl D cA ak a_71 x_74 ka_71 hok_2) [] [] rfl rfl (by decide) (by decide) (by decide) jw_7e37eafcf9 jw_545b666dd9 jw_79af3f4029 jw_806a366152 jn_X2_earnRate rfl (jj_le rfl) (jj_le rfl) (jj_le rfl) (jj_le rfl) (jj_le rfl) dX7_execute_121 rfl (fun _ _ _ hX => hX.elim) (fun rx pl_75 r O_78 => ?_)
      obtain ⟨rfl, hok_76, hr_77, hfa9, hR_80⟩ := O_78
      replace hf_10 := hr_77.at hk0 (by decide) (by decide) hf_10
      replace hf_70 := hr_77.at hk0 (by decide) (by decide) hf_70
      replace hf_73 := hr_77.at hk0 (by decide) (by decide) hf_73
      replace hfr := hfr.trans (hr_77.sub (by decide))
      replace hfa := hfa.trans (hfa9.sub (by decide))
      obtain ⟨y_83, rfl⟩ := hR_80
      refine jj_pop2 C dX7_execute_124 rfl ?_
      refine jj_goto (tgt := 178) C dX7_execute_125 (by decide) ?_
      refine jj_iconst (v := 1) C dX7_execute_178 (by decide) ?_
      exact jj_zret C rfl ⟨[], pl_75, rfl, rfl, hok_76, hfr, hfa, (Or.inr rfl)⟩ dX7_execute_179 (jj_le rfl) (jj_le rfl)
    rcases jj_em (x_11 = 4) with c_84 | c_84
    · refine jj_tableIn (tgt := 128) C dX7_execute_13 (by rw [c_84]; decide) (by rw [c_84]; decide) (by rw [c_84]; rfl) (by decide) ?_
      refine jj_aload_n C dX7_execute_128 rfl ?_
      refine tt_get C hok_2 jk_8 1 (by decide) jw_26f46c26b3 (t := (2, 1, 0)) hk0 (by decide) rfl rfl dX7_execute_129 (fun v_85 hv_85 hf_86 => ?_)
      obtain ⟨a_87, rfl, ka_87⟩ := tt_vr hv_85
      refine jj_aload_n C dX7_execute_132 rfl ?_
      refine tt_get C hok_2 jk_8 4 (by decide) jw_e240581aab (t := (0, (-2147483648), 2147483647)) hk0 (by decide) rfl rfl dX7_execute_133 (fun v_88 hv_88 hf_89 => ?_)
      obtain ⟨x_90, rfl, lx_90, ux_90⟩ := tt_vi hv_88
      obtain ⟨x_91, ex_91⟩ : ∃ z : Int32, -x_90 = z := ⟨_, rfl⟩
      refine jj_ineg (v := x_91) C dX7_execute_136 ex_91 ?_
      refine tt_callS (rest := []) C (tc_X2_earnRate_1 hl D cA ak a_87 x_91 ka_87 hok_2) [] [] rfl rfl (by decide) (by decide) (by decide) jw_7e37eafcf9 jw_545b666dd9 jw_79af3f4029 jw_806a366152 jn_X2_earnRate rfl (jj_le rfl) (jj_le rfl) (jj_le rfl) (jj_le rfl) (jj_le rfl) dX7_execute_137 rfl (fun _ _ _ hX => hX.elim) (fun rx pl_92 r O_95 => ?_)
      obtain ⟨rfl, hok_93, hr_94, hfa9, hR_97⟩ := O_95
      replace hf_10 := hr_94.at hk0 (by decide) (by decide) hf_10
      replace hf_86 := hr_94.at hk0 (by decide) (by decide) hf_86
      replace hf_89 := hr_94.at hk0 (by decide) (by decide) hf_89
      replace hfr := hfr.trans (hr_94.sub (by decide))
      replace hfa := hfa.trans (hfa9.sub (by decide))
      obtain ⟨y_100, rfl⟩ := hR_97
      refine jj_pop2 C dX7_execute_140 rfl ?_
      refine jj_goto (tgt := 178) C dX7_execute_141 (by decide) ?_
      refine jj_iconst (v := 1) C dX7_execute_178 (by decide) ?_
      exact jj_zret C rfl ⟨[], pl_92, rfl, rfl, hok_93, hfr, hfa, (Or.inr rfl)⟩ dX7_execute_179 (jj_le rfl) (jj_le rfl)
    rcases jj_em (x_11 = 5) with c_101 | c_101
    · refine jj_tableIn (tgt := 144) C dX7_execute_13 (by rw [c_101]; decide) (by rw [c_101]; decide) (by rw [c_101]; rfl) (by decide) ?_
      refine jj_aload_n C dX7_execute_144 rfl ?_
      refine tt_get C hok_2 jk_8 1 (by decide) jw_26f46c26b3 (t := (2, 1, 0)) hk0 (by decide) rfl rfl dX7_execute_145 (fun v_102 hv_102 hf_103 => ?_)
      obtain ⟨a_104, rfl, ka_104⟩ := tt_vr hv_102
      refine jj_aload_n C dX7_execute_148 rfl ?_
      refine tt_get C hok_2 jk_8 4 (by decide) jw_e240581aab (t := (0, (-2147483648), 2147483647)) hk0 (by decide) rfl rfl dX7_execute_149 (fun v_105 hv_105 hf_106 => ?_)
      obtain ⟨x_107, rfl, lx_107, ux_107⟩ := tt_vi hv_105
      refine tt_callS (rest := []) C (tc_X2_chargeDays_3 hl D cA ak a_104 x_107 ka_104 hok_2) [] [] rfl rfl (by decide) (by decide) (by decide) jw_a8da4708d1 jw_f7a6df989a jw_79af3f4029 jw_5ec919523f jn_X2_chargeDays rfl (jj_le rfl) (jj_le rfl) (jj_le rfl) (jj_le rfl) (jj_le rfl) dX7_execute_152 rfl (fun _ _ _ hX => hX.elim) (fun rx pl_108 r O_111 => ?_)
      obtain ⟨rfl, hok_109, hr_110, hfa9, hR_113⟩ := O_111
      replace hf_10 := hr_110.at hk0 (by decide) (by decide) hf_10
      replace hf_103 := hr_110.at hk0 (by decide) (by decide) hf_103
      replace hf_106 := hr_110.at hk0 (by decide) (by decide) hf_106
      replace hfr := hfr.trans (hr_110.sub (by decide))
      replace hfa := hfa.trans (hfa9.sub (by decide))
      obtain ⟨y_116, rfl⟩ := hR_113
      refine jj_pop2 C dX7_execute_155 rfl ?_
      refine jj_goto (tgt := 178) C dX7_execute_156 (by decide) ?_
      refine jj_iconst (v := 1) C dX7_execute_178 (by decide) ?_
      exact jj_zret C rfl ⟨[], pl_108, rfl, rfl, hok_109, hfr, hfa, (Or.inr rfl)⟩ dX7_execute_179 (jj_le rfl) (jj_le rfl)
    rcases jj_em (x_11 = 6) with c_117 | c_117
    · refine jj_tableIn (tgt := 159) C dX7_execute_13 (by rw [c_117]; decide) (by rw [c_117]; decide) (by rw [c_117]; rfl) (by decide) ?_
      refine jj_aload_n C dX7_execute_159 rfl ?_
      refine tt_get C hok_2 jk_8 1 (by decide) jw_26f46c26b3 (t := (2, 1, 0)) hk0 (by decide) rfl rfl dX7_execute_160 (fun v_118 hv_118 hf_119 => ?_)
      obtain ⟨a_120, rfl, ka_120⟩ := tt_vr hv_118
      refine tt_callS (rest := []) C (tc_X2_settleAll_1 hl D cA ak a_120 ka_120 hok_2) [] [] rfl rfl (by decide) (by decide) (by decide) jw_914995352c jw_9fa2db52e4 jw_79af3f4029 jw_b11dd9fe50 jn_X2_settleAll rfl (jj_le rfl) (jj_le rfl) (jj_le rfl) (jj_le rfl) (jj_le rfl) dX7_execute_163 rfl (fun _ _ _ hX => hX.elim) (fun rx pl_121 r O_124 => ?_)
      obtain ⟨rfl, hok_122, hr_123, hfa9, hR_126⟩ := O_124
      replace hf_10 := hr_123.at hk0 (by decide) (by decide) hf_10
      replace hf_119 := hr_123.at hk0 (by decide) (by decide) hf_119
      replace hfr := hfr.trans (hr_123.sub (by decide))
      replace hfa := hfa.trans (hfa9.sub (by decide))
      obtain ⟨y_129, rfl⟩ := hR_126
      refine jj_pop2 C dX7_execute_166 rfl ?_
      refine jj_goto (tgt := 178) C dX7_execute_167 (by decide) ?_
      refine jj_iconst (v := 1) C dX7_execute_178 (by decide) ?_
      exact jj_zret C rfl ⟨[], pl_121, rfl, rfl, hok_122, hfr, hfa, (Or.inr rfl)⟩ dX7_execute_179 (jj_le rfl) (jj_le rfl)
    refine jj_tableOut (tgt := 170) C dX7_execute_13 (by have zc_12 := lv_neT (a := 0) c_12 (by decide); have zc_32 := lv_neT (a := 1) c_32 (by decide); have zc_52 := lv_neT (a := 2) c_52 (by decide); have zc_68 := lv_neT (a := 3) c_68 (by decide); have zc_84 := lv_neT (a := 4) c_84 (by decide); have zc_101 := lv_neT (a := 5) c_101 (by decide); have zc_117 := lv_neT (a := 6) c_117 (by decide); omega) (by decide) ?_
    refine jj_aload_n C dX7_execute_170 rfl ?_
    refine tt_get C hok_2 jk_8 1 (by decide) jw_26f46c26b3 (t := (2, 1, 0)) hk0 (by decide) rfl rfl dX7_execute_171 (fun v_130 hv_130 hf_131 => ?_)
    obtain ⟨a_132, rfl, ka_132⟩ := tt_vr hv_130
    refine tt_callS (rest := []) C (tc_X2_mergeAll_1 hl D cA ak a_132 ka_132 hok_2) [] [] rfl rfl (by decide) (by decide) (by decide) jw_7f66b9f911 jw_da92a5531b jw_79af3f4029 jw_c94a21e571 jn_X2_mergeAll rfl (jj_le rfl) (jj_le rfl) (jj_le rfl) (jj_le rfl) (jj_le rfl) dX7_execute_174 rfl (fun _ _ _ hX => hX.elim) (fun rx pl_133 r O_136 => ?_)
    obtain ⟨rfl, hok_134, hr_135, hfa9, hR_138⟩ := O_136
    replace hf_10 := hr_135.at hk0 (by decide) (by decide) hf_10
    replace hf_131 := hr_135.at hk0 (by decide) (by decide) hf_131
    replace hfr := hfr.trans (hr_135.sub (by decide))
    replace hfa := hfa.trans (hfa9.sub (by decide))
    rcases hR_138 with rfl | ⟨x_141, lx_141, ux_141, rfl⟩
    · refine jj_pop C dX7_execute_177 rfl ?_
      refine jj_iconst (v := 1) C dX7_execute_178 (by decide) ?_
      exact jj_zret C rfl ⟨[], pl_133, rfl, rfl, hok_134, hfr, hfa, (Or.inr rfl)⟩ dX7_execute_179 (jj_le rfl) (jj_le rfl)
    · refine jj_pop C dX7_execute_177 rfl ?_
      refine jj_iconst (v := 1) C dX7_execute_178 (by decide) ?_
      exact jj_zret C rfl ⟨[], pl_133, rfl, rfl, hok_134, hfr, hfa, (Or.inr rfl)⟩ dX7_execute_179 (jj_le rfl) (jj_le rfl)
  · refine jj_if_eqF (tgt := 9) C dX7_execute_4 (by decide) (by decide) ?_
    refine jj_iconst (v := 0) C dX7_execute_7 (by decide) ?_
    exact jj_zret C rfl ⟨[], pl_1, rfl, rfl, hok_2, hfr, hfa, (Or.inl rfl)⟩ dX7_execute_8 (jj_le rfl) (jj_le rfl)

set_option maxHeartbeats 4000000 in
set_option maxRecDepth 100000 in
theorem tc_X10_netAssets_1 {l : Launch} (hl : l.stackTraces = false) (D : va_G) (cA : Nat → ClassId) (ak : (Nat → Nat) × (Nat → Nat)) {Kd : Nat → Nat} (h0 : Nat) (hk0 : Kd h0 = 15) {pl0 : va_W} (hok : tt_ok tt_tk cA Kd pl0) : jj_M l D cA ak yX10_netAssets (.code yX10_netAssets cX10_netAssets 1 (some .long)) 2 48 0 0 ([] ++ pl0) [.ref h0] (tt_O (fun rx pl1 r => rx = [] ∧ tt_ok tt_tk cA Kd pl1 ∧ tt_fr Kd [] pl0 pl1 ∧ tt_fa Kd [] pl0 pl1 ∧ ((∃ v : Int64, r = some (.long v))))) (tt_OX (fun _ _ _ => False)) := by
  refine jj_start hl (by decide) jw_f07e8aa61a (jj_le rfl) ?_
  intro p e s m args below meth c A hargs hA C hex hmn
  have hfr := tt_fr.refl (K := Kd) (WS := []) pl0
  have hfa := tt_fa.refl (K := Kd) (WA := []) pl0
  refine jj_aload_n C dX10_netAssets_0 rfl ?_
  refine tt_get C hok jk_11 3 (by decide) jw_f82a97e333 (t := (2, 1, 0)) hk0 (by decide) rfl rfl dX10_netAssets_1 (fun v_1 hv_1 hf_2 => ?_)
  obtain ⟨a_3, rfl, ka_3⟩ := tt_vr hv_1
  obtain ⟨qc, gs, hqc⟩ := tt_recv (cx := []) hok ka_3 (by decide) rfl
  refine tt_callV (rest := []) C (tc_X0_netOfAll_1 hl D cA ak a_3 ka_3 hok) [] [] rfl rfl (by decide) (by decide) (by decide) qc hqc rfl rfl jw_29489d1cd8 jw_26ce198b3a jw_dfaafe33a2 jw_7d25d4fd32 jw_144409f761 jn_X0_netOfAll rfl (jj_le rfl) (jj_le rfl) (jj_le rfl) (jj_le rfl) (jj_le rfl) dX10_netAssets_4 rfl (fun _ _ _ hX => hX.elim) (fun rx pl_4 r O_7 => ?_)
  obtain ⟨rfl, hok_5, hr_6, hfa9, hR_9⟩ := O_7
  replace hf_2 := hr_6.at hk0 (by decide) (by decide) hf_2
  replace hfr := hfr.trans (hr_6.sub (by decide))
  replace hfa := hfa.trans (hfa9.sub (by decide))
  obtain ⟨y_12, rfl⟩ := hR_9
  exact jj_lret C ⟨[], pl_4, rfl, rfl, hok_5, hfr, hfa, ⟨y_12, rfl⟩⟩ dX10_netAssets_7 (jj_le rfl) (jj_le rfl)

set_option maxHeartbeats 4000000 in
set_option maxRecDepth 100000 in
theorem tc_X10_requestedValue_1 {l : Launch} (hl : l.stackTraces = false) (D : va_G) (cA : Nat → ClassId) (ak : (Nat → Nat) × (Nat → Nat)) {Kd : Nat → Nat} (h0 : Nat) (hk0 : Kd h0 = 15) {pl0 : va_W} (hok : tt_ok tt_tk cA Kd pl0) : jj_M l D cA ak yX10_requestedValue (.code yX10_requestedValue cX10_requestedValue 1 (some .long)) 4 113 0 0 ([] ++ pl0) [.ref h0] (tt_O (fun rx pl1 r => rx = [] ∧ tt_ok tt_tk cA Kd pl1 ∧ tt_fr Kd [(2, 0), (2, 1), (2, 2), (2, 3), (2, 4), (9, 1), (9, 2), (9, 3), (9, 4), (9, 5)] pl0 pl1 ∧ tt_fa Kd [] pl0 pl1 ∧ ((∃ v : Int64, r = some (.long v))))) (tt_OX (fun _ _ _ => False)) := by
  refine jj_start hl (by decide) jw_4749a9c2bd (jj_le rfl) ?_
  intro p e s m args below meth c A hargs hA C hex hmn
  have hfr := tt_fr.refl (K := Kd) (WS := [(2, 0), (2, 1), (2, 2), (2, 3), (2, 4), (9, 1), (9, 2), (9, 3), (9, 4), (9, 5)]) pl0
  have hfa := tt_fa.refl (K := Kd) (WA := []) pl0
  refine jj_aload_n C dX10_requestedValue_0 rfl ?_
  refine tt_get C hok jk_11 5 (by decide) jw_34b8702fe2 (t := (2, 9, 0)) hk0 (by decide) rfl rfl dX10_requestedValue_1 (fun v_1 hv_1 hf_2 => ?_)
  obtain ⟨a_3, rfl, ka_3⟩ := tt_vr hv_1
  refine jj_aload_n C dX10_requestedValue_4 rfl ?_
  refine tt_get C hok jk_11 3 (by decide) jw_f82a97e333 (t := (2, 1, 0)) hk0 (by decide) rfl rfl dX10_requestedValue_5 (fun v_4 hv_4 hf_5 => ?_)
  obtain ⟨a_6, rfl, ka_6⟩ := tt_vr hv_4
  obtain ⟨qc, gs, hqc⟩ := tt_recv (cx := []) hok ka_3 (by decide) rfl
  refine tt_callV (rest := []) C (tc_X1_baseOfRedemptions_1 hl D cA ak a_3 a_6 ka_3 ka_6 hok) [] [] rfl rfl (by decide) (by decide) (by decide) qc hqc rfl rfl jw_0c87748527 jw_36bb45001b jw_b21f9198d3 jw_944cf9c3ab jw_77ee4174d9 jn_X1_baseOfRedemptions rfl (jj_le rfl) (jj_le rfl) (jj_le rfl) (jj_le rfl) (jj_le rfl) dX10_requestedValue_8 rfl (fun _ _ _ hX => hX.elim) (fun rx pl_7 r O_10 => ?_)
  obtain ⟨rfl, hok_8, hr_9, hfa9, hR_12⟩ := O_10
  replace hf_2 := hr_9.at hk0 (by decide) (by decide) hf_2
  replace hf_5 := hr_9.at hk0 (by decide) (by decide) hf_5
  replace hfr := hfr.trans (hr_9.sub (by decide))
  replace hfa := hfa.trans (hfa9.sub (by decide))
  obtain ⟨y_15, rfl⟩ := hR_12
  exact jj_lret C ⟨[], pl_7, rfl, rfl, hok_8, hfr, hfa, ⟨y_15, rfl⟩⟩ dX10_requestedValue_11 (jj_le rfl) (jj_le rfl)

set_option maxHeartbeats 4000000 in
set_option maxRecDepth 100000 in
theorem tc_X10_gateLimit_1 {l : Launch} (hl : l.stackTraces = false) (D : va_G) (cA : Nat → ClassId) (ak : (Nat → Nat) × (Nat → Nat)) {Kd : Nat → Nat} (h0 : Nat) (hk0 : Kd h0 = 15) {pl0 : va_W} (hok : tt_ok tt_tk cA Kd pl0) : jj_M l D cA ak yX10_gateLimit (.code yX10_gateLimit cX10_gateLimit 1 (some .long)) 3 68 0 0 ([] ++ pl0) [.ref h0] (tt_O (fun rx pl1 r => rx = [] ∧ tt_ok tt_tk cA Kd pl1 ∧ tt_fr Kd [] pl0 pl1 ∧ tt_fa Kd [] pl0 pl1 ∧ ((∃ v : Int64, r = some (.long v))))) (tt_OX (fun _ _ _ => False)) := by
  refine jj_start hl (by decide) jw_aaf3b437c8 (jj_le rfl) ?_
  intro p e s m args below meth c A hargs hA C hex hmn
  have hfr := tt_fr.refl (K := Kd) (WS := []) pl0
  have hfa := tt_fa.refl (K := Kd) (WA := []) pl0
  refine jj_aload_n C dX10_gateLimit_0 rfl ?_
  refine tt_get C hok jk_11 3 (by decide) jw_f82a97e333 (t := (2, 1, 0)) hk0 (by decide) rfl rfl dX10_gateLimit_1 (fun v_1 hv_1 hf_2 => ?_)
  obtain ⟨a_3, rfl, ka_3⟩ := tt_vr hv_1
  obtain ⟨qc, gs, hqc⟩ := tt_recv (cx := []) hok ka_3 (by decide) rfl
  refine tt_callV (rest := []) C (tc_X0_limitOfGate_1 hl D cA ak a_3 ka_3 hok) [] [] rfl rfl (by decide) (by decide) (by decide) qc hqc rfl rfl jw_da69bedc4e jw_8472f5b5d1 jw_62703c61d4 jw_7d25d4fd32 jw_2cb5ab9c9b jn_X0_limitOfGate rfl (jj_le rfl) (jj_le rfl) (jj_le rfl) (jj_le rfl) (jj_le rfl) dX10_gateLimit_4 rfl (fun _ _ _ hX => hX.elim) (fun rx pl_4 r O_7 => ?_)
  obtain ⟨rfl, hok_5, hr_6, hfa9, hR_9⟩ := O_7
  replace hf_2 := hr_6.at hk0 (by decide) (by decide) hf_2
  replace hfr := hfr.trans (hr_6.sub (by decide))
  replace hfa := hfa.trans (hfa9.sub (by decide))
  obtain ⟨y_12, rfl⟩ := hR_9
  exact jj_lret C ⟨[], pl_4, rfl, rfl, hok_5, hfr, hfa, ⟨y_12, rfl⟩⟩ dX10_gateLimit_7 (jj_le rfl) (jj_le rfl)

set_option maxHeartbeats 4000000 in
set_option maxRecDepth 100000 in
theorem tc_X10_wouldCrystallize_1 {l : Launch} (hl : l.stackTraces = false) (D : va_G) (cA : Nat → ClassId) (ak : (Nat → Nat) × (Nat → Nat)) {Kd : Nat → Nat} (h0 : Nat) (hk0 : Kd h0 = 15) {pl0 : va_W} (hok : tt_ok tt_tk cA Kd pl0) : jj_M l D cA ak yX10_wouldCrystallize (.code yX10_wouldCrystallize cX10_wouldCrystallize 1 (some .long)) 4 110 0 0 ([] ++ pl0) [.ref h0] (tt_O (fun rx pl1 r => rx = [] ∧ tt_ok tt_tk cA Kd pl1 ∧ tt_fr Kd [(1, 0), (1, 1), (1, 2), (1, 3), (1, 4), (1, 5), (1, 6), (1, 7), (1, 8), (1, 9), (2, 0), (2, 1), (2, 2), (2, 3), (2, 4), (3, 0), (3, 1), (3, 2), (3, 3), (3, 4), (3, 5), (4, 0), (4, 1), (4, 2), (4, 3), (4, 4)] pl0 pl1 ∧ tt_fa Kd [5] pl0 pl1 ∧ ((∃ v : Int64, r = some (.long v))))) (tt_OX (fun _ _ _ => False)) := by
  refine jj_start hl (by decide) jw_9a54d39c49 (jj_le rfl) ?_
  intro p e s m args below meth c A hargs hA C hex hmn
  have hfr := tt_fr.refl (K := Kd) (WS := [(1, 0), (1, 1), (1, 2), (1, 3), (1, 4), (1, 5), (1, 6), (1, 7), (1, 8), (1, 9), (2, 0), (2, 1), (2, 2), (2, 3), (2, 4), (3, 0), (3, 1), (3, 2), (3, 3), (3, 4), (3, 5), (4, 0), (4, 1), (4, 2), (4, 3), (4, 4)]) pl0
  have hfa := tt_fa.refl (K := Kd) (WA := [5]) pl0
  refine jj_aload_n C dX10_wouldCrystallize_0 rfl ?_
  refine tt_get C hok jk_11 4 (by decide) jw_a0e4d790fa (t := (2, 1, 0)) hk0 (by decide) rfl rfl dX10_wouldCrystallize_1 (fun v_1 hv_1 hf_2 => ?_)
  obtain ⟨a_3, rfl, ka_3⟩ := tt_vr hv_1
  refine jj_aload_n C dX10_wouldCrystallize_4 rfl ?_
  refine tt_get C hok jk_11 3 (by decide) jw_f82a97e333 (t := (2, 1, 0)) hk0 (by decide) rfl rfl dX10_wouldCrystallize_5 (fun v_4 hv_4 hf_5 => ?_)
  obtain ⟨a_6, rfl, ka_6⟩ := tt_vr hv_4
  obtain ⟨qc, gs, hqc⟩ := tt_recv (cx := []) hok ka_3 (by decide) rfl
  refine tt_callV (rest := []) C (tc_X0_copyFrom_1 hl D cA ak a_3 a_6 ka_3 ka_6 hok) [] [] rfl rfl (by decide) (by decide) (by decide) qc hqc rfl rfl jw_4d0cb05860 jw_8aa1bdb2cc jw_ac98d74d03 jw_7d25d4fd32 jw_58241735d3 jn_X0_copyFrom rfl (jj_le rfl) (jj_le rfl) (jj_le rfl) (jj_le rfl) (jj_le rfl) dX10_wouldCrystallize_8 rfl (fun _ _ _ hX => hX.elim) (fun rx pl_7 r O_10 => ?_)
  obtain ⟨rfl, hok_8, hr_9, hfa9, hR_12⟩ := O_10
  replace hf_2 := hr_9.at hk0 (by decide) (by decide) hf_2
  replace hf_5 := hr_9.at hk0 (by decide) (by decide) hf_5
  replace hfr := hfr.trans (hr_9.sub (by decide))
  replace hfa := hfa.trans (hfa9.sub (by decide))
  obtain rfl := hR_12
  refine jj_aload_n C dX10_wouldCrystallize_11 rfl ?_
  refine tt_getF C hok_8 jk_11 4 (by decide) jw_a0e4d790fa (t := (2, 1, 0)) hk0 (by decide) rfl rfl hf_2 dX10_wouldCrystallize_12 ?_
  refine tt_callS (rest := []) C (tc_X2_settleAll_1 hl D cA ak a_3 ka_3 hok_8) [] [] rfl rfl (by decide) (by decide) (by decide) jw_3731182a18 jw_9fa2db52e4 jw_79af3f4029 jw_b11dd9fe50 jn_X2_settleAll rfl (jj_le rfl) (jj_le rfl) (jj_le rfl) (jj_le rfl) (jj_le rfl) dX10_wouldCrystallize_15 rfl (fun _ _ _ hX => hX.elim) (fun rx pl_15 r O_18 => ?_)
  obtain ⟨rfl, hok_16, hr_17, hfa9, hR_20⟩ := O_18
  replace hf_2 := hr_17.at hk0 (by decide) (by decide) hf_2
  replace hf_5 := hr_17.at hk0 (by decide) (by decide) hf_5
  replace hfr := hfr.trans (hr_17.sub (by decide))
  replace hfa := hfa.trans (hfa9.sub (by decide))
  obtain ⟨y_23, rfl⟩ := hR_20
  exact jj_lret C ⟨[], pl_15, rfl, rfl, hok_16, hfr, hfa, ⟨y_23, rfl⟩⟩ dX10_wouldCrystallize_18 (jj_le rfl) (jj_le rfl)

set_option maxHeartbeats 4000000 in
set_option maxRecDepth 100000 in
theorem tc_X10_wouldMerge_1 {l : Launch} (hl : l.stackTraces = false) (D : va_G) (cA : Nat → ClassId) (ak : (Nat → Nat) × (Nat → Nat)) {Kd : Nat → Nat} (h0 : Nat) (hk0 : Kd h0 = 15) {pl0 : va_W} (hok : tt_ok tt_tk cA Kd pl0) : jj_M l D cA ak yX10_wouldMerge (.code yX10_wouldMerge cX10_wouldMerge 1 (some .int)) 4 110 0 0 ([] ++ pl0) [.ref h0] (tt_O (fun rx pl1 r => rx = [] ∧ tt_ok tt_tk cA Kd pl1 ∧ tt_fr Kd [(1, 0), (1, 1), (1, 2), (1, 3), (1, 4), (1, 5), (1, 6), (1, 7), (1, 8), (1, 9), (2, 0), (2, 1), (2, 2), (2, 3), (2, 4), (3, 0), (3, 1), (3, 2), (3, 3), (3, 4), (3, 5), (4, 0), (4, 1), (4, 2), (4, 3), (4, 4)] pl0 pl1 ∧ tt_fa Kd [5] pl0 pl1 ∧ ((r = some (.int 0)) ∨ (∃ v : Int32, (-2147483648 : Int) ≤ v.toInt ∧ v.toInt ≤ 2147483647 ∧ r = some (.int v))))) (tt_OX (fun _ _ _ => False)) := by
  refine jj_start hl (by decide) jw_c13dd1adf5 (jj_le rfl) ?_
  intro p e s m args below meth c A hargs hA C hex hmn
  have hfr := tt_fr.refl (K := Kd) (WS := [(1, 0), (1, 1), (1, 2), (1, 3), (1, 4), (1, 5), (1, 6), (1, 7), (1, 8), (1, 9), (2, 0), (2, 1), (2, 2), (2, 3), (2, 4), (3, 0), (3, 1), (3, 2), (3, 3), (3, 4), (3, 5), (4, 0), (4, 1), (4, 2), (4, 3), (4, 4)]) pl0
  have hfa := tt_fa.refl (K := Kd) (WA := [5]) pl0
  refine jj_aload_n C dX10_wouldMerge_0 rfl ?_
  refine tt_get C hok jk_11 4 (by decide) jw_a0e4d790fa (t := (2, 1, 0)) hk0 (by decide) rfl rfl dX10_wouldMerge_1 (fun v_1 hv_1 hf_2 => ?_)
  obtain ⟨a_3, rfl, ka_3⟩ := tt_vr hv_1
  refine jj_aload_n C dX10_wouldMerge_4 rfl ?_
  refine tt_get C hok jk_11 3 (by decide) jw_f82a97e333 (t := (2, 1, 0)) hk0 (by decide) rfl rfl dX10_wouldMerge_5 (fun v_4 hv_4 hf_5 => ?_)
  obtain ⟨a_6, rfl, ka_6⟩ := tt_vr hv_4
  obtain ⟨qc, gs, hqc⟩ := tt_recv (cx := []) hok ka_3 (by decide) rfl
  refine tt_callV (rest := []) C (tc_X0_copyFrom_1 hl D cA ak a_3 a_6 ka_3 ka_6 hok) [] [] rfl rfl (by decide) (by decide) (by decide) qc hqc rfl rfl jw_4d0cb05860 jw_8aa1bdb2cc jw_ac98d74d03 jw_7d25d4fd32 jw_58241735d3 jn_X0_copyFrom rfl (jj_le rfl) (jj_le rfl) (jj_le rfl) (jj_le rfl) (jj_le rfl) dX10_wouldMerge_8 rfl (fun _ _ _ hX => hX.elim) (fun rx pl_7 r O_10 => ?_)
  obtain ⟨rfl, hok_8, hr_9, hfa9, hR_12⟩ := O_10
  replace hf_2 := hr_9.at hk0 (by decide) (by decide) hf_2
  replace hf_5 := hr_9.at hk0 (by decide) (by decide) hf_5
  replace hfr := hfr.trans (hr_9.sub (by decide))
  replace hfa := hfa.trans (hfa9.sub (by decide))
  obtain rfl := hR_12
  refine jj_aload_n C dX10_wouldMerge_11 rfl ?_
  refine tt_getF C hok_8 jk_11 4 (by decide) jw_a0e4d790fa (t := (2, 1, 0)) hk0 (by decide) rfl rfl hf_2 dX10_wouldMerge_12 ?_
  refine tt_callS (rest := []) C (tc_X2_settleAll_1 hl D cA ak a_3 ka_3 hok_8) [] [] rfl rfl (by decide) (by decide) (by decide) jw_3731182a18 jw_9fa2db52e4 jw_79af3f4029 jw_b11dd9fe50 jn_X2_settleAll rfl (jj_le rfl) (jj_le rfl) (jj_le rfl) (jj_le rfl) (jj_le rfl) dX10_wouldMerge_15 rfl (fun _ _ _ hX => hX.elim) (fun rx pl_15 r O_18 => ?_)
  obtain ⟨rfl, hok_16, hr_17, hfa9, hR_20⟩ := O_18
  replace hf_2 := hr_17.at hk0 (by decide) (by decide) hf_2
  replace hf_5 := hr_17.at hk0 (by decide) (by decide) hf_5
  replace hfr := hfr.trans (hr_17.sub (by decide))
  replace hfa := hfa.trans (hfa9.sub (by decide))
  obtain ⟨y_23, rfl⟩ := hR_20
  refine jj_pop2 C dX10_wouldMerge_18 rfl ?_
  refine jj_aload_n C dX10_wouldMerge_19 rfl ?_
  refine tt_getF C hok_16 jk_11 4 (by decide) jw_a0e4d790fa (t := (2, 1, 0)) hk0 (by decide) rfl rfl hf_2 dX10_wouldMerge_20 ?_
  refine tt_callS (rest := []) C (tc_X2_mergeAll_1 hl D cA ak a_3 ka_3 hok_16) [] [] rfl rfl (by decide) (by decide) (by decide) jw_76cf85b7ab jw_da92a5531b jw_79af3f4029 jw_c94a21e571 jn_X2_mergeAll rfl (jj_le rfl) (jj_le rfl) (jj_le rfl) (jj_le rfl) (jj_le rfl) dX10_wouldMerge_23 rfl (fun _ _ _ hX => hX.elim) (fun rx pl_24 r O_27 => ?_)
  obtain ⟨rfl, hok_25, hr_26, hfa9, hR_29⟩ := O_27
  replace hf_2 := hr_26.at hk0 (by decide) (by decide) hf_2
  replace hf_5 := hr_26.at hk0 (by decide) (by decide) hf_5
  replace hfr := hfr.trans (hr_26.sub (by decide))
  replace hfa := hfa.trans (hfa9.sub (by decide))
  rcases hR_29 with rfl | ⟨x_32, lx_32, ux_32, rfl⟩
  · exact jj_iret C ⟨[], pl_24, rfl, rfl, hok_25, hfr, hfa, (Or.inl rfl)⟩ dX10_wouldMerge_26 (jj_le rfl) (jj_le rfl)
  · exact jj_iret C ⟨[], pl_24, rfl, rfl, hok_25, hfr, hfa, (Or.inr ⟨x_32, (by first | omega | exact tt_lo _ | exact tt_hi _), (by first | omega | exact tt_lo _ | exact tt_hi _), rfl⟩)⟩ dX10_wouldMerge_26 (jj_le rfl) (jj_le rfl)

set_option maxHeartbeats 4000000 in
set_option maxRecDepth 100000 in
theorem tc_X5_putByte_1 {l : Launch} (hl : l.stackTraces = false) (D : va_G) (cA : Nat → ClassId) (ak : (Nat → Nat) × (Nat → Nat)) {Kd : Nat → Nat} (h0 : Nat) (hk0 : Kd h0 = 12) {pl0 : va_W} (hok : tt_ok tt_tk cA Kd pl0) : jj_M l D cA ak yX5_putByte (.code yX5_putByte cX5_putByte 2 none) 0 0 0 0 ([] ++ pl0) [.ref h0, .int 100] (tt_O (fun rx pl1 r => rx = [] ∧ tt_ok tt_tk cA Kd pl1 ∧ tt_fr Kd [(12, 1)] pl0 pl1 ∧ tt_fa Kd [13] pl0 pl1 ∧ ((r = none)))) (tt_OX (fun _ _ _ => False)) := by
  refine jj_start hl (by decide) jw_f2c63e4be6 (jj_le rfl) ?_
  intro p e s m args below meth c A hargs hA C hex hmn
  have hfr := tt_fr.refl (K := Kd) (WS := [(12, 1)]) pl0
  have hfa := tt_fa.refl (K := Kd) (WA := [13]) pl0
  refine jj_aload_n C dX5_putByte_0 rfl ?_
  refine tt_get C hok jk_6 1 (by decide) jw_a08fdff3bb (t := (0, 0, 1300)) hk0 (by decide) rfl rfl dX5_putByte_1 (fun v_1 hv_1 hf_2 => ?_)
  obtain ⟨x_3, rfl, lx_3, ux_3⟩ := tt_vi hv_1
  refine jj_sipush (v := 1300) C dX5_putByte_4 (by decide) ?_
  refine jj_icmp_ge (tgt := 30) C dX5_putByte_7 (by decide) (fun c_4 => ?_) (fun c_4 => ?_)
  · have z_c_4 := jc_le (a := (1300)) (b := (x_3).toInt) c_4 (by decide) rfl
    exact jj_vret C ⟨[], pl0, rfl, rfl, hok, hfr, hfa, rfl⟩ dX5_putByte_30 (jj_le rfl) (jj_le rfl)
  · have z_c_4 := jc_nle (a := (1300)) (b := (x_3).toInt) c_4 (by decide) rfl
    refine jj_aload_n C dX5_putByte_10 rfl ?_
    refine tt_get C hok jk_6 0 (by decide) jw_b2cc65244f (t := (2, 13, 0)) hk0 (by decide) rfl rfl dX5_putByte_11 (fun v_5 hv_5 hf_6 => ?_)
    obtain ⟨a_7, rfl, ka_7⟩ := tt_vr hv_5
    refine jj_aload_n C dX5_putByte_14 rfl ?_
    refine tt_getF C hok jk_6 1 (by decide) jw_a08fdff3bb (t := (0, 0, 1300)) hk0 (by decide) rfl rfl hf_2 dX5_putByte_15 ?_
    refine jj_iload_n C dX5_putByte_18 rfl ?_
    refine tl_bast C hok (t := (0, (-2147483648), 2147483647)) ka_7 (by decide) rfl (vp_in_iff.mpr ⟨by omega, by omega⟩) (tt_ia _) dX5_putByte_19 (fun pl_8 hok_9 tr tl => ?_)
    replace hf_2 := tr _ _ _ hf_2
    replace hf_6 := tr _ _ _ hf_6
    replace hfr := hfr.arr tr
    replace hfa := hfa.wr ka_7 tl (by decide)
    refine jj_aload_n C dX5_putByte_20 rfl ?_
    refine jj_dup C dX5_putByte_21 rfl ?_
    refine tt_getF C hok_9 jk_6 1 (by decide) jw_a08fdff3bb (t := (0, 0, 1300)) hk0 (by decide) rfl rfl hf_2 dX5_putByte_22 ?_
    refine jj_iconst (v := 1) C dX5_putByte_25 (by decide) ?_
    obtain ⟨x_10, ex_10, vx_10⟩ := tt_iadd (x := x_3) (y := (1 : Int32)) (a := x_3.toInt) rfl (b := 1) (by decide) (by omega) (by omega)
    refine jj_iadd (v := x_10) C dX5_putByte_26 ex_10 ?_
    refine rl_put C hok_9 jk_6 1 (by decide) jw_a08fdff3bb (t := (0, 0, 1300)) hk0 (by decide) rfl rfl rfl (tt_iv (by omega) (by omega)) rfl rfl dX5_putByte_27 (fun pl_11 hok_12 tr hn tl => ?_)
    replace hf_6 := tr _ _ _ (Or.inr (by decide)) hf_6
    have hf_13 := hn
    replace hfr := hfr.put hk0 tr (by decide)
    replace hfa := hfa.all tl
    exact jj_vret C ⟨[], pl_11, rfl, rfl, hok_12, hfr, hfa, rfl⟩ dX5_putByte_30 (jj_le rfl) (jj_le rfl)

set_option maxHeartbeats 4000000 in
set_option maxRecDepth 100000 in
theorem tc_X5_putByte_2 {l : Launch} (hl : l.stackTraces = false) (D : va_G) (cA : Nat → ClassId) (ak : (Nat → Nat) × (Nat → Nat)) {Kd : Nat → Nat} (h0 : Nat) (hk0 : Kd h0 = 12) {pl0 : va_W} (hok : tt_ok tt_tk cA Kd pl0) : jj_M l D cA ak yX5_putByte (.code yX5_putByte cX5_putByte 2 none) 0 0 0 0 ([] ++ pl0) [.ref h0, .int 97] (tt_O (fun rx pl1 r => rx = [] ∧ tt_ok tt_tk cA Kd pl1 ∧ tt_fr Kd [(12, 1)] pl0 pl1 ∧ tt_fa Kd [13] pl0 pl1 ∧ ((r = none)))) (tt_OX (fun _ _ _ => False)) := by
  refine jj_start hl (by decide) jw_f2c63e4be6 (jj_le rfl) ?_
  intro p e s m args below meth c A hargs hA C hex hmn
  have hfr := tt_fr.refl (K := Kd) (WS := [(12, 1)]) pl0
  have hfa := tt_fa.refl (K := Kd) (WA := [13]) pl0
  refine jj_aload_n C dX5_putByte_0 rfl ?_
  refine tt_get C hok jk_6 1 (by decide) jw_a08fdff3bb (t := (0, 0, 1300)) hk0 (by decide) rfl rfl dX5_putByte_1 (fun v_1 hv_1 hf_2 => ?_)
  obtain ⟨x_3, rfl, lx_3, ux_3⟩ := tt_vi hv_1
  refine jj_sipush (v := 1300) C dX5_putByte_4 (by decide) ?_
  refine jj_icmp_ge (tgt := 30) C dX5_putByte_7 (by decide) (fun c_4 => ?_) (fun c_4 => ?_)
  · have z_c_4 := jc_le (a := (1300)) (b := (x_3).toInt) c_4 (by decide) rfl
    exact jj_vret C ⟨[], pl0, rfl, rfl, hok, hfr, hfa, rfl⟩ dX5_putByte_30 (jj_le rfl) (jj_le rfl)
  · have z_c_4 := jc_nle (a := (1300)) (b := (x_3).toInt) c_4 (by decide) rfl
    refine jj_aload_n C dX5_putByte_10 rfl ?_
    refine tt_get C hok jk_6 0 (by decide) jw_b2cc65244f (t := (2, 13, 0)) hk0 (by decide) rfl rfl dX5_putByte_11 (fun v_5 hv_5 hf_6 => ?_)
    obtain ⟨a_7, rfl, ka_7⟩ := tt_vr hv_5
    refine jj_aload_n C dX5_putByte_14 rfl ?_
    refine tt_getF C hok jk_6 1 (by decide) jw_a08fdff3bb (t := (0, 0, 1300)) hk0 (by decide) rfl rfl hf_2 dX5_putByte_15 ?_
    refine jj_iload_n C dX5_putByte_18 rfl ?_
    refine tl_bast C hok (t := (0, (-2147483648), 2147483647)) ka_7 (by decide) rfl (vp_in_iff.mpr ⟨by omega, by omega⟩) (tt_ia _) dX5_putByte_19 (fun pl_8 hok_9 tr tl => ?_)
    replace hf_2 := tr _ _ _ hf_2
    replace hf_6 := tr _ _ _ hf_6
    replace hfr := hfr.arr tr
    replace hfa := hfa.wr ka_7 tl (by decide)
    refine jj_aload_n C dX5_putByte_20 rfl ?_
    refine jj_dup C dX5_putByte_21 rfl ?_
    refine tt_getF C hok_9 jk_6 1 (by decide) jw_a08fdff3bb (t := (0, 0, 1300)) hk0 (by decide) rfl rfl hf_2 dX5_putByte_22 ?_
    refine jj_iconst (v := 1) C dX5_putByte_25 (by decide) ?_
    obtain ⟨x_10, ex_10, vx_10⟩ := tt_iadd (x := x_3) (y := (1 : Int32)) (a := x_3.toInt) rfl (b := 1) (by decide) (by omega) (by omega)
    refine jj_iadd (v := x_10) C dX5_putByte_26 ex_10 ?_
    refine rl_put C hok_9 jk_6 1 (by decide) jw_a08fdff3bb (t := (0, 0, 1300)) hk0 (by decide) rfl rfl rfl (tt_iv (by omega) (by omega)) rfl rfl dX5_putByte_27 (fun pl_11 hok_12 tr hn tl => ?_)
    replace hf_6 := tr _ _ _ (Or.inr (by decide)) hf_6
    have hf_13 := hn
    replace hfr := hfr.put hk0 tr (by decide)
    replace hfa := hfa.all tl
    exact jj_vret C ⟨[], pl_11, rfl, rfl, hok_12, hfr, hfa, rfl⟩ dX5_putByte_30 (jj_le rfl) (jj_le rfl)

set_option maxHeartbeats 4000000 in
set_option maxRecDepth 100000 in
theorem tc_X5_putByte_3 {l : Launch} (hl : l.stackTraces = false) (D : va_G) (cA : Nat → ClassId) (ak : (Nat → Nat) × (Nat → Nat)) {Kd : Nat → Nat} (h0 : Nat) (hk0 : Kd h0 = 12) {pl0 : va_W} (hok : tt_ok tt_tk cA Kd pl0) : jj_M l D cA ak yX5_putByte (.code yX5_putByte cX5_putByte 2 none) 0 0 0 0 ([] ++ pl0) [.ref h0, .int 121] (tt_O (fun rx pl1 r => rx = [] ∧ tt_ok tt_tk cA Kd pl1 ∧ tt_fr Kd [(12, 1)] pl0 pl1 ∧ tt_fa Kd [13] pl0 pl1 ∧ ((r = none)))) (tt_OX (fun _ _ _ => False)) := by
  refine jj_start hl (by decide) jw_f2c63e4be6 (jj_le rfl) ?_
  intro p e s m args below meth c A hargs hA C hex hmn
  have hfr := tt_fr.refl (K := Kd) (WS := [(12, 1)]) pl0
  have hfa := tt_fa.refl (K := Kd) (WA := [13]) pl0
  refine jj_aload_n C dX5_putByte_0 rfl ?_
  refine tt_get C hok jk_6 1 (by decide) jw_a08fdff3bb (t := (0, 0, 1300)) hk0 (by decide) rfl rfl dX5_putByte_1 (fun v_1 hv_1 hf_2 => ?_)
  obtain ⟨x_3, rfl, lx_3, ux_3⟩ := tt_vi hv_1
  refine jj_sipush (v := 1300) C dX5_putByte_4 (by decide) ?_
  refine jj_icmp_ge (tgt := 30) C dX5_putByte_7 (by decide) (fun c_4 => ?_) (fun c_4 => ?_)
  · have z_c_4 := jc_le (a := (1300)) (b := (x_3).toInt) c_4 (by decide) rfl
    exact jj_vret C ⟨[], pl0, rfl, rfl, hok, hfr, hfa, rfl⟩ dX5_putByte_30 (jj_le rfl) (jj_le rfl)
  · have z_c_4 := jc_nle (a := (1300)) (b := (x_3).toInt) c_4 (by decide) rfl
    refine jj_aload_n C dX5_putByte_10 rfl ?_
    refine tt_get C hok jk_6 0 (by decide) jw_b2cc65244f (t := (2, 13, 0)) hk0 (by decide) rfl rfl dX5_putByte_11 (fun v_5 hv_5 hf_6 => ?_)
    obtain ⟨a_7, rfl, ka_7⟩ := tt_vr hv_5
    refine jj_aload_n C dX5_putByte_14 rfl ?_
    refine tt_getF C hok jk_6 1 (by decide) jw_a08fdff3bb (t := (0, 0, 1300)) hk0 (by decide) rfl rfl hf_2 dX5_putByte_15 ?_
    refine jj_iload_n C dX5_putByte_18 rfl ?_
    refine tl_bast C hok (t := (0, (-2147483648), 2147483647)) ka_7 (by decide) rfl (vp_in_iff.mpr ⟨by omega, by omega⟩) (tt_ia _) dX5_putByte_19 (fun pl_8 hok_9 tr tl => ?_)
    replace hf_2 := tr _ _ _ hf_2
    replace hf_6 := tr _ _ _ hf_6
    replace hfr := hfr.arr tr
    replace hfa := hfa.wr ka_7 tl (by decide)
    refine jj_aload_n C dX5_putByte_20 rfl ?_
    refine jj_dup C dX5_putByte_21 rfl ?_
    refine tt_getF C hok_9 jk_6 1 (by decide) jw_a08fdff3bb (t := (0, 0, 1300)) hk0 (by decide) rfl rfl hf_2 dX5_putByte_22 ?_
    refine jj_iconst (v := 1) C dX5_putByte_25 (by decide) ?_
    obtain ⟨x_10, ex_10, vx_10⟩ := tt_iadd (x := x_3) (y := (1 : Int32)) (a := x_3.toInt) rfl (b := 1) (by decide) (by omega) (by omega)
    refine jj_iadd (v := x_10) C dX5_putByte_26 ex_10 ?_
    refine rl_put C hok_9 jk_6 1 (by decide) jw_a08fdff3bb (t := (0, 0, 1300)) hk0 (by decide) rfl rfl rfl (tt_iv (by omega) (by omega)) rfl rfl dX5_putByte_27 (fun pl_11 hok_12 tr hn tl => ?_)
    replace hf_6 := tr _ _ _ (Or.inr (by decide)) hf_6
    have hf_13 := hn
    replace hfr := hfr.put hk0 tr (by decide)
    replace hfa := hfa.all tl
    exact jj_vret C ⟨[], pl_11, rfl, rfl, hok_12, hfr, hfa, rfl⟩ dX5_putByte_30 (jj_le rfl) (jj_le rfl)

set_option maxHeartbeats 4000000 in
set_option maxRecDepth 100000 in
theorem tc_X5_putByte_4 {l : Launch} (hl : l.stackTraces = false) (D : va_G) (cA : Nat → ClassId) (ak : (Nat → Nat) × (Nat → Nat)) {Kd : Nat → Nat} (h0 : Nat) (hk0 : Kd h0 = 12) {pl0 : va_W} (hok : tt_ok tt_tk cA Kd pl0) : jj_M l D cA ak yX5_putByte (.code yX5_putByte cX5_putByte 2 none) 0 0 0 0 ([] ++ pl0) [.ref h0, .int 32] (tt_O (fun rx pl1 r => rx = [] ∧ tt_ok tt_tk cA Kd pl1 ∧ tt_fr Kd [(12, 1)] pl0 pl1 ∧ tt_fa Kd [13] pl0 pl1 ∧ ((r = none)))) (tt_OX (fun _ _ _ => False)) := by
  refine jj_start hl (by decide) jw_f2c63e4be6 (jj_le rfl) ?_
  intro p e s m args below meth c A hargs hA C hex hmn
  have hfr := tt_fr.refl (K := Kd) (WS := [(12, 1)]) pl0
  have hfa := tt_fa.refl (K := Kd) (WA := [13]) pl0
  refine jj_aload_n C dX5_putByte_0 rfl ?_
  refine tt_get C hok jk_6 1 (by decide) jw_a08fdff3bb (t := (0, 0, 1300)) hk0 (by decide) rfl rfl dX5_putByte_1 (fun v_1 hv_1 hf_2 => ?_)
  obtain ⟨x_3, rfl, lx_3, ux_3⟩ := tt_vi hv_1
  refine jj_sipush (v := 1300) C dX5_putByte_4 (by decide) ?_
  refine jj_icmp_ge (tgt := 30) C dX5_putByte_7 (by decide) (fun c_4 => ?_) (fun c_4 => ?_)
  · have z_c_4 := jc_le (a := (1300)) (b := (x_3).toInt) c_4 (by decide) rfl
    exact jj_vret C ⟨[], pl0, rfl, rfl, hok, hfr, hfa, rfl⟩ dX5_putByte_30 (jj_le rfl) (jj_le rfl)
  · have z_c_4 := jc_nle (a := (1300)) (b := (x_3).toInt) c_4 (by decide) rfl
    refine jj_aload_n C dX5_putByte_10 rfl ?_
    refine tt_get C hok jk_6 0 (by decide) jw_b2cc65244f (t := (2, 13, 0)) hk0 (by decide) rfl rfl dX5_putByte_11 (fun v_5 hv_5 hf_6 => ?_)
    obtain ⟨a_7, rfl, ka_7⟩ := tt_vr hv_5
    refine jj_aload_n C dX5_putByte_14 rfl ?_
    refine tt_getF C hok jk_6 1 (by decide) jw_a08fdff3bb (t := (0, 0, 1300)) hk0 (by decide) rfl rfl hf_2 dX5_putByte_15 ?_
    refine jj_iload_n C dX5_putByte_18 rfl ?_
    refine tl_bast C hok (t := (0, (-2147483648), 2147483647)) ka_7 (by decide) rfl (vp_in_iff.mpr ⟨by omega, by omega⟩) (tt_ia _) dX5_putByte_19 (fun pl_8 hok_9 tr tl => ?_)
    replace hf_2 := tr _ _ _ hf_2
    replace hf_6 := tr _ _ _ hf_6
    replace hfr := hfr.arr tr
    replace hfa := hfa.wr ka_7 tl (by decide)
    refine jj_aload_n C dX5_putByte_20 rfl ?_
    refine jj_dup C dX5_putByte_21 rfl ?_
    refine tt_getF C hok_9 jk_6 1 (by decide) jw_a08fdff3bb (t := (0, 0, 1300)) hk0 (by decide) rfl rfl hf_2 dX5_putByte_22 ?_
    refine jj_iconst (v := 1) C dX5_putByte_25 (by decide) ?_
    obtain ⟨x_10, ex_10, vx_10⟩ := tt_iadd (x := x_3) (y := (1 : Int32)) (a := x_3.toInt) rfl (b := 1) (by decide) (by omega) (by omega)
    refine jj_iadd (v := x_10) C dX5_putByte_26 ex_10 ?_
    refine rl_put C hok_9 jk_6 1 (by decide) jw_a08fdff3bb (t := (0, 0, 1300)) hk0 (by decide) rfl rfl rfl (tt_iv (by omega) (by omega)) rfl rfl dX5_putByte_27 (fun pl_11 hok_12 tr hn tl => ?_)
    replace hf_6 := tr _ _ _ (Or.inr (by decide)) hf_6
    have hf_13 := hn
    replace hfr := hfr.put hk0 tr (by decide)
    replace hfa := hfa.all tl
    exact jj_vret C ⟨[], pl_11, rfl, rfl, hok_12, hfr, hfa, rfl⟩ dX5_putByte_30 (jj_le rfl) (jj_le rfl)

set_option maxHeartbeats 4000000 in
set_option maxRecDepth 100000 in
theorem tc_X5_putText_1 {l : Launch} (hl : l.stackTraces = false) (D : va_G) (cA : Nat → ClassId) (ak : (Nat → Nat) × (Nat → Nat)) {Kd : Nat → Nat} (h0 : Nat) (hk0 : Kd h0 = 12) {pl0 : va_W} (hok : tt_ok tt_tk cA Kd pl0) : jj_M l D cA ak yX5_putText (.code yX5_putText cX5_putText 3 none) 4 85 0 0 ([] ++ pl0) [.ref h0, .ref (ak.1 13)] (tt_O (fun rx pl1 r => rx = [] ∧ tt_ok tt_tk cA Kd pl1 ∧ tt_fr Kd [(12, 1)] pl0 pl1 ∧ tt_fa Kd [13] pl0 pl1 ∧ ((r = none)))) (tt_OX (fun _ _ _ => False)) := by
  refine jj_start hl (by decide) jw_5a16104e3b (jj_le rfl) ?_
  intro p e s m args below meth c A hargs hA C hex hmn
  have hfr := tt_fr.refl (K := Kd) (WS := [(12, 1)]) pl0
  have hfa := tt_fa.refl (K := Kd) (WA := [13]) pl0
  refine jj_iconst (v := 0) C dX5_putText_0 (by decide) ?_
  refine jj_istore_n C dX5_putText_1 (by decide) rfl ?_
  refine jj_iload_n C dX5_putText_2 rfl ?_
  refine jj_aload_n C dX5_putText_3 rfl ?_
  refine tt_call0Vs (rest := [.int 0]) C (ct_J0_length_8abf5_14 hl D cA ak) 13 (by decide) rfl jw_07c280d6f3 jw_b1ce304435 jw_d08f03a22e jw_4ea6285965 jw_bbc7045666 jn_J0_length_8abf5 rfl (jj_le rfl) (jj_le rfl) (jj_le rfl) (jj_le rfl) (jj_le rfl) dX5_putText_4 rfl (fun w1 r O_1 => ?_)
  obtain ⟨-, rfl⟩ := O_1
  refine jj_icmp_geF (tgt := 26) C dX5_putText_7 (by decide) (by decide) ?_
  refine jj_aload_n C dX5_putText_10 rfl ?_
  refine jj_aload_n C dX5_putText_11 rfl ?_
  refine jj_iload_n C dX5_putText_12 rfl ?_
  refine tt_call0Vs (rest := [.ref h0]) C (ct_J0_charAt_5068e_81 hl D cA ak) 13 (by decide) rfl jw_d18806e438 jw_acb9174fef jw_675efe837b jw_4ea6285965 jw_391c0f56bd jn_J0_charAt_5068e rfl (jj_le rfl) (jj_le rfl) (jj_le rfl) (jj_le rfl) (jj_le rfl) dX5_putText_13 rfl (fun w1 r O_2 => ?_)
  obtain ⟨-, rfl⟩ := O_2
  refine jj_i2b (v := 100) C dX5_putText_16 (by decide) ?_
  obtain ⟨qc, gs, hqc⟩ := tt_recv (cx := []) hok hk0 (by decide) rfl
  refine tt_callV (rest := []) C (tc_X5_putByte_1 hl D cA ak h0 hk0 hok) [] [] rfl rfl (by decide) (by decide) (by decide) qc hqc rfl rfl jw_cc20a77ce3 jw_211b56f0bf jw_e8686d9408 jw_30ed28480a jw_f2c63e4be6 jn_X5_putByte rfl (jj_le rfl) (jj_le rfl) (jj_le rfl) (jj_le rfl) (jj_le rfl) dX5_putText_17 rfl (fun _ _ _ hX => hX.elim) (fun rx pl_3 r O_6 => ?_)
  obtain ⟨rfl, hok_4, hr_5, hfa9, hR_8⟩ := O_6
  replace hfr := hfr.trans (hr_5.sub (by decide))
  replace hfa := hfa.trans (hfa9.sub (by decide))
  obtain rfl := hR_8
  refine jj_iinc (v := 1) C dX5_putText_20 rfl (by decide) (by decide) rfl ?_
  refine jj_goto (tgt := 2) C dX5_putText_23 (by decide) ?_
  refine jj_iload_n C dX5_putText_2 rfl ?_
  refine jj_aload_n C dX5_putText_3 rfl ?_
  refine tt_call0Vs (rest := [.int 1]) C (ct_J0_length_8abf5_14 hl D cA ak) 13 (by decide) rfl jw_07c280d6f3 jw_b1ce304435 jw_d08f03a22e jw_4ea6285965 jw_bbc7045666 jn_J0_length_8abf5 rfl (jj_le rfl) (jj_le rfl) (jj_le rfl) (jj_le rfl) (jj_le rfl) dX5_putText_4 rfl (fun w1 r O_11 => ?_)
  obtain ⟨-, rfl⟩ := O_11
  refine jj_icmp_geF (tgt := 26) C dX5_putText_7 (by decide) (by decide) ?_
  refine jj_aload_n C dX5_putText_10 rfl ?_
  refine jj_aload_n C dX5_putText_11 rfl ?_
  refine jj_iload_n C dX5_putText_12 rfl ?_
  refine tt_call0Vs (rest := [.ref h0]) C (ct_J0_charAt_5068e_82 hl D cA ak) 13 (by decide) rfl jw_d18806e438 jw_acb9174fef jw_675efe837b jw_4ea6285965 jw_391c0f56bd jn_J0_charAt_5068e rfl (jj_le rfl) (jj_le rfl) (jj_le rfl) (jj_le rfl) (jj_le rfl) dX5_putText_13 rfl (fun w1 r O_12 => ?_)
  obtain ⟨-, rfl⟩ := O_12
  refine jj_i2b (v := 97) C dX5_putText_16 (by decide) ?_
  obtain ⟨qc, gs, hqc⟩ := tt_recv (cx := []) hok_4 hk0 (by decide) rfl
  refine tt_callV (rest := []) C (tc_X5_putByte_2 hl D cA ak h0 hk0 hok_4) [] [] rfl rfl (by decide) (by decide) (by decide) qc hqc rfl rfl jw_cc20a77ce3 jw_211b56f0bf jw_e8686d9408 jw_30ed28480a jw_f2c63e4be6 jn_X5_putByte rfl (jj_le rfl) (jj_le rfl) (jj_le rfl) (jj_le rfl) (jj_le rfl) dX5_putText_17 rfl (fun _ _ _ hX => hX.elim) (fun rx pl_13 r O_16 => ?_)
  obtain ⟨rfl, hok_14, hr_15, hfa9, hR_18⟩ := O_16
  replace hfr := hfr.trans (hr_15.sub (by decide))
  replace hfa := hfa.trans (hfa9.sub (by decide))
  obtain rfl := hR_18
  refine jj_iinc (v := 2) C dX5_putText_20 rfl (by decide) (by decide) rfl ?_
  refine jj_goto (tgt := 2) C dX5_putText_23 (by decide) ?_
  refine jj_iload_n C dX5_putText_2 rfl ?_
  refine jj_aload_n C dX5_putText_3 rfl ?_
  refine tt_call0Vs (rest := [.int 2]) C (ct_J0_length_8abf5_14 hl D cA ak) 13 (by decide) rfl jw_07c280d6f3 jw_b1ce304435 jw_d08f03a22e jw_4ea6285965 jw_bbc7045666 jn_J0_length_8abf5 rfl (jj_le rfl) (jj_le rfl) (jj_le rfl) (jj_le rfl) (jj_le rfl) dX5_putText_4 rfl (fun w1 r O_21 => ?_)
  obtain ⟨-, rfl⟩ := O_21
  refine jj_icmp_geF (tgt := 26) C dX5_putText_7 (by decide) (by decide) ?_
  refine jj_aload_n C dX5_putText_10 rfl ?_
  refine jj_aload_n C dX5_putText_11 rfl ?_
  refine jj_iload_n C dX5_putText_12 rfl ?_
  refine tt_call0Vs (rest := [.ref h0]) C (ct_J0_charAt_5068e_83 hl D cA ak) 13 (by decide) rfl jw_d18806e438 jw_acb9174fef jw_675efe837b jw_4ea6285965 jw_391c0f56bd jn_J0_charAt_5068e rfl (jj_le rfl) (jj_le rfl) (jj_le rfl) (jj_le rfl) (jj_le rfl) dX5_putText_13 rfl (fun w1 r O_22 => ?_)
  obtain ⟨-, rfl⟩ := O_22
  refine jj_i2b (v := 121) C dX5_putText_16 (by decide) ?_
  obtain ⟨qc, gs, hqc⟩ := tt_recv (cx := []) hok_14 hk0 (by decide) rfl
  refine tt_callV (rest := []) C (tc_X5_putByte_3 hl D cA ak h0 hk0 hok_14) [] [] rfl rfl (by decide) (by decide) (by decide) qc hqc rfl rfl jw_cc20a77ce3 jw_211b56f0bf jw_e8686d9408 jw_30ed28480a jw_f2c63e4be6 jn_X5_putByte rfl (jj_le rfl) (jj_le rfl) (jj_le rfl) (jj_le rfl) (jj_le rfl) dX5_putText_17 rfl (fun _ _ _ hX => hX.elim) (fun rx pl_23 r O_26 => ?_)
  obtain ⟨rfl, hok_24, hr_25, hfa9, hR_28⟩ := O_26
  replace hfr := hfr.trans (hr_25.sub (by decide))
  replace hfa := hfa.trans (hfa9.sub (by decide))
  obtain rfl := hR_28
  refine jj_iinc (v := 3) C dX5_putText_20 rfl (by decide) (by decide) rfl ?_
  refine jj_goto (tgt := 2) C dX5_putText_23 (by decide) ?_
  refine jj_iload_n C dX5_putText_2 rfl ?_
  refine jj_aload_n C dX5_putText_3 rfl ?_
  refine tt_call0Vs (rest := [.int 3]) C (ct_J0_length_8abf5_14 hl D cA ak) 13 (by decide) rfl jw_07c280d6f3 jw_b1ce304435 jw_d08f03a22e jw_4ea6285965 jw_bbc7045666 jn_J0_length_8abf5 rfl (jj_le rfl) (jj_le rfl) (jj_le rfl) (jj_le rfl) (jj_le rfl) dX5_putText_4 rfl (fun w1 r O_31 => ?_)
  obtain ⟨-, rfl⟩ := O_31
  refine jj_icmp_geF (tgt := 26) C dX5_putText_7 (by decide) (by decide) ?_
  refine jj_aload_n C dX5_putText_10 rfl ?_
  refine jj_aload_n C dX5_putText_11 rfl ?_
  refine jj_iload_n C dX5_putText_12 rfl ?_
  refine tt_call0Vs (rest := [.ref h0]) C (ct_J0_charAt_5068e_84 hl D cA ak) 13 (by decide) rfl jw_d18806e438 jw_acb9174fef jw_675efe837b jw_4ea6285965 jw_391c0f56bd jn_J0_charAt_5068e rfl (jj_le rfl) (jj_le rfl) (jj_le rfl) (jj_le rfl) (jj_le rfl) dX5_putText_13 rfl (fun w1 r O_32 => ?_)
  obtain ⟨-, rfl⟩ := O_32
  refine jj_i2b (v := 32) C dX5_putText_16 (by decide) ?_
  obtain ⟨qc, gs, hqc⟩ := tt_recv (cx := []) hok_24 hk0 (by decide) rfl
  refine tt_callV (rest := []) C (tc_X5_putByte_4 hl D cA ak h0 hk0 hok_24) [] [] rfl rfl (by decide) (by decide) (by decide) qc hqc rfl rfl jw_cc20a77ce3 jw_211b56f0bf jw_e8686d9408 jw_30ed28480a jw_f2c63e4be6 jn_X5_putByte rfl (jj_le rfl) (jj_le rfl) (jj_le rfl) (jj_le rfl) (jj_le rfl) dX5_putText_17 rfl (fun _ _ _ hX => hX.elim) (fun rx pl_33 r O_36 => ?_)
  obtain ⟨rfl, hok_34, hr_35, hfa9, hR_38⟩ := O_36
  replace hfr := hfr.trans (hr_35.sub (by decide))
  replace hfa := hfa.trans (hfa9.sub (by decide))
  obtain rfl := hR_38
  refine jj_iinc (v := 4) C dX5_putText_20 rfl (by decide) (by decide) rfl ?_
  refine jj_goto (tgt := 2) C dX5_putText_23 (by decide) ?_
  refine jj_iload_n C dX5_putText_2 rfl ?_
  refine jj_aload_n C dX5_putText_3 rfl ?_
  refine tt_call0Vs (rest := [.int 4]) C (ct_J0_length_8abf5_14 hl D cA ak) 13 (by decide) rfl jw_07c280d6f3 jw_b1ce304435 jw_d08f03a22e jw_4ea6285965 jw_bbc7045666 jn_J0_length_8abf5 rfl (jj_le rfl) (jj_le rfl) (jj_le rfl) (jj_le rfl) (jj_le rfl) dX5_putText_4 rfl (fun w1 r O_41 => ?_)
  obtain ⟨-, rfl⟩ := O_41
  refine jj_icmp_geT (tgt := 26) C dX5_putText_7 (by decide) (by decide) ?_
  exact jj_vret C ⟨[], pl_33, rfl, rfl, hok_34, hfr, hfa, rfl⟩ dX5_putText_26 (jj_le rfl) (jj_le rfl)

set_option maxHeartbeats 4000000 in
set_option maxRecDepth 100000 in
theorem tc_X5_putByte_5 {l : Launch} (hl : l.stackTraces = false) (D : va_G) (cA : Nat → ClassId) (ak : (Nat → Nat) × (Nat → Nat)) {Kd : Nat → Nat} (h0 : Nat) (p1 : Int32) (hk0 : Kd h0 = 12) {pl0 : va_W} (hok : tt_ok tt_tk cA Kd pl0) : jj_M l D cA ak yX5_putByte (.code yX5_putByte cX5_putByte 2 none) 0 0 0 0 ([] ++ pl0) [.ref h0, .int p1] (tt_O (fun rx pl1 r => rx = [] ∧ tt_ok tt_tk cA Kd pl1 ∧ tt_fr Kd [(12, 1)] pl0 pl1 ∧ tt_fa Kd [13] pl0 pl1 ∧ ((r = none)))) (tt_OX (fun _ _ _ => False)) := by
  refine jj_start hl (by decide) jw_f2c63e4be6 (jj_le rfl) ?_
  intro p e s m args below meth c A hargs hA C hex hmn
  have hfr := tt_fr.refl (K := Kd) (WS := [(12, 1)]) pl0
  have hfa := tt_fa.refl (K := Kd) (WA := [13]) pl0
  have lp1 := tt_lo p1
  have up1 := tt_hi p1
  refine jj_aload_n C dX5_putByte_0 rfl ?_
  refine tt_get C hok jk_6 1 (by decide) jw_a08fdff3bb (t := (0, 0, 1300)) hk0 (by decide) rfl rfl dX5_putByte_1 (fun v_1 hv_1 hf_2 => ?_)
  obtain ⟨x_3, rfl, lx_3, ux_3⟩ := tt_vi hv_1
  refine jj_sipush (v := 1300) C dX5_putByte_4 (by decide) ?_
  refine jj_icmp_ge (tgt := 30) C dX5_putByte_7 (by decide) (fun c_4 => ?_) (fun c_4 => ?_)
  · have z_c_4 := jc_le (a := (1300)) (b := (x_3).toInt) c_4 (by decide) rfl
    exact jj_vret C ⟨[], pl0, rfl, rfl, hok, hfr, hfa, rfl⟩ dX5_putByte_30 (jj_le rfl) (jj_le rfl)
  · have z_c_4 := jc_nle (a := (1300)) (b := (x_3).toInt) c_4 (by decide) rfl
    refine jj_aload_n C dX5_putByte_10 rfl ?_
    refine tt_get C hok jk_6 0 (by decide) jw_b2cc65244f (t := (2, 13, 0)) hk0 (by decide) rfl rfl dX5_putByte_11 (fun v_5 hv_5 hf_6 => ?_)
    obtain ⟨a_7, rfl, ka_7⟩ := tt_vr hv_5
    refine jj_aload_n C dX5_putByte_14 rfl ?_
    refine tt_getF C hok jk_6 1 (by decide) jw_a08fdff3bb (t := (0, 0, 1300)) hk0 (by decide) rfl rfl hf_2 dX5_putByte_15 ?_
    refine jj_iload_n C dX5_putByte_18 rfl ?_
    refine tl_bast C hok (t := (0, (-2147483648), 2147483647)) ka_7 (by decide) rfl (vp_in_iff.mpr ⟨by omega, by omega⟩) (tt_ia _) dX5_putByte_19 (fun pl_8 hok_9 tr tl => ?_)
    replace hf_2 := tr _ _ _ hf_2
    replace hf_6 := tr _ _ _ hf_6
    replace hfr := hfr.arr tr
    replace hfa := hfa.wr ka_7 tl (by decide)
    refine jj_aload_n C dX5_putByte_20 rfl ?_
    refine jj_dup C dX5_putByte_21 rfl ?_
    refine tt_getF C hok_9 jk_6 1 (by decide) jw_a08fdff3bb (t := (0, 0, 1300)) hk0 (by decide) rfl rfl hf_2 dX5_putByte_22 ?_
    refine jj_iconst (v := 1) C dX5_putByte_25 (by decide) ?_
    obtain ⟨x_10, ex_10, vx_10⟩ := tt_iadd (x := x_3) (y := (1 : Int32)) (a := x_3.toInt) rfl (b := 1) (by decide) (by omega) (by omega)
    refine jj_iadd (v := x_10) C dX5_putByte_26 ex_10 ?_
    refine rl_put C hok_9 jk_6 1 (by decide) jw_a08fdff3bb (t := (0, 0, 1300)) hk0 (by decide) rfl rfl rfl (tt_iv (by omega) (by omega)) rfl rfl dX5_putByte_27 (fun pl_11 hok_12 tr hn tl => ?_)
    replace hf_6 := tr _ _ _ (Or.inr (by decide)) hf_6
    have hf_13 := hn
    replace hfr := hfr.put hk0 tr (by decide)
    replace hfa := hfa.all tl
    exact jj_vret C ⟨[], pl_11, rfl, rfl, hok_12, hfr, hfa, rfl⟩ dX5_putByte_30 (jj_le rfl) (jj_le rfl)

set_option maxHeartbeats 4000000 in
set_option maxRecDepth 100000 in
theorem tc_X5_putByte_6 {l : Launch} (hl : l.stackTraces = false) (D : va_G) (cA : Nat → ClassId) (ak : (Nat → Nat) × (Nat → Nat)) {Kd : Nat → Nat} (h0 : Nat) (hk0 : Kd h0 = 12) {pl0 : va_W} (hok : tt_ok tt_tk cA Kd pl0) : jj_M l D cA ak yX5_putByte (.code yX5_putByte cX5_putByte 2 none) 0 0 0 0 ([] ++ pl0) [.ref h0, .int 45] (tt_O (fun rx pl1 r => rx = [] ∧ tt_ok tt_tk cA Kd pl1 ∧ tt_fr Kd [(12, 1)] pl0 pl1 ∧ tt_fa Kd [13] pl0 pl1 ∧ ((r = none)))) (tt_OX (fun _ _ _ => False)) := by
  refine jj_start hl (by decide) jw_f2c63e4be6 (jj_le rfl) ?_
  intro p e s m args below meth c A hargs hA C hex hmn
  have hfr := tt_fr.refl (K := Kd) (WS := [(12, 1)]) pl0
  have hfa := tt_fa.refl (K := Kd) (WA := [13]) pl0
  refine jj_aload_n C dX5_putByte_0 rfl ?_
  refine tt_get C hok jk_6 1 (by decide) jw_a08fdff3bb (t := (0, 0, 1300)) hk0 (by decide) rfl rfl dX5_putByte_1 (fun v_1 hv_1 hf_2 => ?_)
  obtain ⟨x_3, rfl, lx_3, ux_3⟩ := tt_vi hv_1
  refine jj_sipush (v := 1300) C dX5_putByte_4 (by decide) ?_
  refine jj_icmp_ge (tgt := 30) C dX5_putByte_7 (by decide) (fun c_4 => ?_) (fun c_4 => ?_)
  · have z_c_4 := jc_le (a := (1300)) (b := (x_3).toInt) c_4 (by decide) rfl
    exact jj_vret C ⟨[], pl0, rfl, rfl, hok, hfr, hfa, rfl⟩ dX5_putByte_30 (jj_le rfl) (jj_le rfl)
  · have z_c_4 := jc_nle (a := (1300)) (b := (x_3).toInt) c_4 (by decide) rfl
    refine jj_aload_n C dX5_putByte_10 rfl ?_
    refine tt_get C hok jk_6 0 (by decide) jw_b2cc65244f (t := (2, 13, 0)) hk0 (by decide) rfl rfl dX5_putByte_11 (fun v_5 hv_5 hf_6 => ?_)
    obtain ⟨a_7, rfl, ka_7⟩ := tt_vr hv_5
    refine jj_aload_n C dX5_putByte_14 rfl ?_
    refine tt_getF C hok jk_6 1 (by decide) jw_a08fdff3bb (t := (0, 0, 1300)) hk0 (by decide) rfl rfl hf_2 dX5_putByte_15 ?_
    refine jj_iload_n C dX5_putByte_18 rfl ?_
    refine tl_bast C hok (t := (0, (-2147483648), 2147483647)) ka_7 (by decide) rfl (vp_in_iff.mpr ⟨by omega, by omega⟩) (tt_ia _) dX5_putByte_19 (fun pl_8 hok_9 tr tl => ?_)
    replace hf_2 := tr _ _ _ hf_2
    replace hf_6 := tr _ _ _ hf_6
    replace hfr := hfr.arr tr
    replace hfa := hfa.wr ka_7 tl (by decide)
    refine jj_aload_n C dX5_putByte_20 rfl ?_
    refine jj_dup C dX5_putByte_21 rfl ?_
    refine tt_getF C hok_9 jk_6 1 (by decide) jw_a08fdff3bb (t := (0, 0, 1300)) hk0 (by decide) rfl rfl hf_2 dX5_putByte_22 ?_
    refine jj_iconst (v := 1) C dX5_putByte_25 (by decide) ?_
    obtain ⟨x_10, ex_10, vx_10⟩ := tt_iadd (x := x_3) (y := (1 : Int32)) (a := x_3.toInt) rfl (b := 1) (by decide) (by omega) (by omega)
    refine jj_iadd (v := x_10) C dX5_putByte_26 ex_10 ?_
    refine rl_put C hok_9 jk_6 1 (by decide) jw_a08fdff3bb (t := (0, 0, 1300)) hk0 (by decide) rfl rfl rfl (tt_iv (by omega) (by omega)) rfl rfl dX5_putByte_27 (fun pl_11 hok_12 tr hn tl => ?_)
    replace hf_6 := tr _ _ _ (Or.inr (by decide)) hf_6
    have hf_13 := hn
    replace hfr := hfr.put hk0 tr (by decide)
    replace hfa := hfa.all tl
    exact jj_vret C ⟨[], pl_11, rfl, rfl, hok_12, hfr, hfa, rfl⟩ dX5_putByte_30 (jj_le rfl) (jj_le rfl)

set_option maxHeartbeats 4000000 in
set_option maxRecDepth 100000 in
theorem tc_X5_putText_2 {l : Launch} (hl : l.stackTraces = false) (D : va_G) (cA : Nat → ClassId) (ak : (Nat → Nat) × (Nat → Nat)) {Kd : Nat → Nat} (h0 : Nat) (hk0 : Kd h0 = 12) {pl0 : va_W} (hok : tt_ok tt_tk cA Kd pl0) : jj_M l D cA ak yX5_putText (.code yX5_putText cX5_putText 3 none) 4 85 0 0 ([] ++ pl0) [.ref h0, .ref (ak.1 14)] (tt_O (fun rx pl1 r => rx = [] ∧ tt_ok tt_tk cA Kd pl1 ∧ tt_fr Kd [(12, 1)] pl0 pl1 ∧ tt_fa Kd [13] pl0 pl1 ∧ ((r = none)))) (tt_OX (fun _ _ _ => False)) := by
  refine jj_start hl (by decide) jw_5a16104e3b (jj_le rfl) ?_
  intro p e s m args below meth c A hargs hA C hex hmn
  have hfr := tt_fr.refl (K := Kd) (WS := [(12, 1)]) pl0
  have hfa := tt_fa.refl (K := Kd) (WA := [13]) pl0
  refine jj_iconst (v := 0) C dX5_putText_0 (by decide) ?_
  refine jj_istore_n C dX5_putText_1 (by decide) rfl ?_
  refine jj_iload_n C dX5_putText_2 rfl ?_
  refine jj_aload_n C dX5_putText_3 rfl ?_
  refine tt_call0Vs (rest := [.int 0]) C (ct_J0_length_8abf5_15 hl D cA ak) 14 (by decide) rfl jw_07c280d6f3 jw_b1ce304435 jw_d08f03a22e jw_4ea6285965 jw_bbc7045666 jn_J0_length_8abf5 rfl (jj_le rfl) (jj_le rfl) (jj_le rfl) (jj_le rfl) (jj_le rfl) dX5_putText_4 rfl (fun w1 r O_1 => ?_)
  obtain ⟨-, rfl⟩ := O_1
  refine jj_icmp_geF (tgt := 26) C dX5_putText_7 (by decide) (by decide) ?_
  refine jj_aload_n C dX5_putText_10 rfl ?_
  refine jj_aload_n C dX5_putText_11 rfl ?_
  refine jj_iload_n C dX5_putText_12 rfl ?_
  refine tt_call0Vs (rest := [.ref h0]) C (ct_J0_charAt_5068e_85 hl D cA ak) 14 (by decide) rfl jw_d18806e438 jw_acb9174fef jw_675efe837b jw_4ea6285965 jw_391c0f56bd jn_J0_charAt_5068e rfl (jj_le rfl) (jj_le rfl) (jj_le rfl) (jj_le rfl) (jj_le rfl) dX5_putText_13 rfl (fun w1 r O_2 => ?_)
  obtain ⟨-, rfl⟩ := O_2
  refine jj_i2b (v := 45) C dX5_putText_16 (by decide) ?_
  obtain ⟨qc, gs, hqc⟩ := tt_recv (cx := []) hok hk0 (by decide) rfl
  refine tt_callV (rest := []) C (tc_X5_putByte_6 hl D cA ak h0 hk0 hok) [] [] rfl rfl (by decide) (by decide) (by decide) qc hqc rfl rfl jw_cc20a77ce3 jw_211b56f0bf jw_e8686d9408 jw_30ed28480a jw_f2c63e4be6 jn_X5_putByte rfl (jj_le rfl) (jj_le rfl) (jj_le rfl) (jj_le rfl) (jj_le rfl) dX5_putText_17 rfl (fun _ _ _ hX => hX.elim) (fun rx pl_3 r O_6 => ?_)
  obtain ⟨rfl, hok_4, hr_5, hfa9, hR_8⟩ := O_6
  replace hfr := hfr.trans (hr_5.sub (by decide))
  replace hfa := hfa.trans (hfa9.sub (by decide))
  obtain rfl := hR_8
  refine jj_iinc (v := 1) C dX5_putText_20 rfl (by decide) (by decide) rfl ?_
  refine jj_goto (tgt := 2) C dX5_putText_23 (by decide) ?_
  refine jj_iload_n C dX5_putText_2 rfl ?_
  refine jj_aload_n C dX5_putText_3 rfl ?_
  refine tt_call0Vs (rest := [.int 1]) C (ct_J0_length_8abf5_15 hl D cA ak) 14 (by decide) rfl jw_07c280d6f3 jw_b1ce304435 jw_d08f03a22e jw_4ea6285965 jw_bbc7045666 jn_J0_length_8abf5 rfl (jj_le rfl) (jj_le rfl) (jj_le rfl) (jj_le rfl) (jj_le rfl) dX5_putText_4 rfl (fun w1 r O_11 => ?_)
  obtain ⟨-, rfl⟩ := O_11
  refine jj_icmp_geT (tgt := 26) C dX5_putText_7 (by decide) (by decide) ?_
  exact jj_vret C ⟨[], pl_3, rfl, rfl, hok_4, hfr, hfa, rfl⟩ dX5_putText_26 (jj_le rfl) (jj_le rfl)

set_option maxHeartbeats 4000000 in
set_option maxRecDepth 100000 in
theorem tc_X5_putNumber_1 {l : Launch} (hl : l.stackTraces = false) (D : va_G) (cA : Nat → ClassId) (ak : (Nat → Nat) × (Nat → Nat)) {Kd : Nat → Nat} (h0 : Nat) (p1 : Int64) (hk0 : Kd h0 = 12) {pl0 : va_W} (hok : tt_ok tt_tk cA Kd pl0) : jj_M l D cA ak yX5_putNumber (.code yX5_putNumber cX5_putNumber 7 none) 5 107 0 0 ([] ++ pl0) [.ref h0, .long p1] (tt_O (fun rx pl1 r => rx = [] ∧ tt_ok tt_tk cA Kd pl1 ∧ tt_fr Kd [(12, 1)] pl0 pl1 ∧ tt_fa Kd [13, 14] pl0 pl1 ∧ ((r = none)))) (tt_OX (fun _ _ _ => False)) := by
  refine jj_start hl (by decide) jw_a47eeef3f1 (jj_le rfl) ?_
  intro p e s m args below meth c A hargs hA C hex hmn
  have hfr := tt_fr.refl (K := Kd) (WS := [(12, 1)]) pl0
  have hfa := tt_fa.refl (K := Kd) (WA := [13, 14]) pl0
  refine jj_lload_n C dX5_putNumber_0 rfl ?_
  refine jj_lconst (v := 0) C dX5_putNumber_1 (by decide) ?_
  refine jj_lcmp_ge (tgt := 12) C dX5_putNumber_2 dX5_putNumber_3 (by decide) (fun c_1 => ?_) (fun c_1 => ?_)
  · refine jj_lload_n C dX5_putNumber_12 rfl ?_
    refine jj_lstore_n C dX5_putNumber_13 (by decide) rfl ?_
    refine jj_bipush (v := 20) C dX5_putNumber_14 (by decide) ?_
    refine jj_istore C dX5_putNumber_16 (by decide) rfl ?_
    have hL_2 : ∀ (N : Nat) (pl : va_W) (x_3 : Int32) (y_4 : Int64), True → tt_ok tt_tk cA Kd pl → tt_fr Kd [(12, 1)] pl0 pl → tt_fa Kd [13, 14] pl0 pl → (1 : Int) ≤ x_3.toInt → x_3.toInt ≤ 20 → (x_3.toInt + 2147483649 ≤ (N : Int)) → jj_J p l e (jj_rm 5 107 0 0) s m args below meth c 7 A (vx_MQ below (jj_q D A (tt_O (fun rx pl1 r => rx = [] ∧ tt_ok tt_tk cA Kd pl1 ∧ tt_fr Kd [(12, 1)] pl0 pl1 ∧ tt_fa Kd [13, 14] pl0 pl1 ∧ ((r = none))))) (jj_x D A (tt_OX (fun _ _ _ => False))) args s 0 0 A) (jj_X D A ([] ++ pl)) 0 0 18 [(5, .int x_3), (3, .long y_4), (0, .ref h0), (1, .long p1)] [] := by
      intro NL_2
      induction NL_2 with
      | zero => intro pl x_3 y_4 _ hok hfr hfa lx_3 ux_3 hNL_2; exfalso; omega
      | succ NL_2 ihL_2 =>
        intro pl x_3 y_4 _ hok hfr hfa lx_3 ux_3 hNL_2
        replace ihL_2 := fun pl x_3 y_4 h1 => ihL_2 pl x_3 y_4 trivial h1
        obtain ⟨x_5, ex_5, vx_5⟩ := tt_inc (x := x_3) (n := (-1)) (by omega) (by omega)
        refine jj_iinc (v := x_5) C dX5_putNumber_18 rfl ex_5 (by decide) rfl ?_
        refine jj_aload_n C dX5_putNumber_21 rfl ?_
        refine tt_get C hok jk_6 2 (by decide) jw_7b666017dd (t := (2, 14, 0)) hk0 (by decide) rfl rfl dX5_putNumber_22 (fun v_6 hv_6 hf_7 => ?_)
        obtain ⟨a_8, rfl, ka_8⟩ := tt_vr hv_6
        refine jj_iload C dX5_putNumber_25 rfl ?_
        refine jj_ldc2 (v := 48) C dX5_putNumber_27 jw_5fecb731cf ?_
        refine jj_lload_n C dX5_putNumber_30 rfl ?_
        refine jj_ldc2 (v := 10) C dX5_putNumber_31 jw_60554028df ?_
        obtain ⟨y_9, ey_9⟩ : ∃ z : Int64, y_4 - y_4 / (10 : Int64) * (10 : Int64) = z := ⟨_, rfl⟩
        refine jj_lrem (v := y_9) C dX5_putNumber_34 (by decide) ey_9 ?_
        refine tt_call0S (rest := [.long 48, .int x_5, .ref a_8]) C (ct_J9_abs_067f4_1 hl D cA ak y_9) jw_7749df1616 jw_453771f3e9 jw_a731c8553d jw_320de93b97 jn_J9_abs_067f4 rfl (jj_le rfl) (jj_le rfl) (jj_le rfl) (jj_le rfl) (jj_le rfl) dX5_putNumber_35 rfl (fun w1 r O_10 => ?_)
        rcases O_10 with ⟨c_11, -, rfl⟩ | ⟨c_12, -, rfl⟩
        · obtain ⟨y_13, ey_13⟩ : ∃ z : Int64, (48 : Int64) + y_9 = z := ⟨_, rfl⟩
          refine jj_ladd (v := y_13) C dX5_putNumber_38 ey_13 ?_
          obtain ⟨x_14, ex_14⟩ : ∃ z : Int32, y_13.toInt32 = z := ⟨_, rfl⟩
          refine jj_l2i (v := x_14) C dX5_putNumber_39 ex_14 ?_
          obtain ⟨x_15, ex_15⟩ : ∃ z : Int32, x_14.toInt8.toInt32 = z := ⟨_, rfl⟩
          refine jj_i2b (v := x_15) C dX5_putNumber_40 ex_15 ?_
          refine tl_bast C hok (t := (0, (-2147483648), 2147483647)) ka_8 (by decide) rfl (vp_in_iff.mpr ⟨by omega, by omega⟩) (tt_ia _) dX5_putNumber_41 (fun pl_16 hok_17 tr tl => ?_)
          replace hf_7 := tr _ _ _ hf_7
          replace hfr := hfr.arr tr
          replace hfa := hfa.wr ka_8 tl (by decide)
          refine jj_lload_n C dX5_putNumber_42 rfl ?_
          refine jj_ldc2 (v := 10) C dX5_putNumber_43 jw_60554028df ?_
          obtain ⟨y_18, ey_18⟩ : ∃ z : Int64, y_4 / (10 : Int64) = z := ⟨_, rfl⟩
          refine jj_ldiv (v := y_18) C dX5_putNumber_46 (by decide) ey_18 ?_
          refine jj_lstore_n C dX5_putNumber_47 (by decide) rfl ?_
          refine jj_lload_n C dX5_putNumber_48 rfl ?_
          refine jj_lconst (v := 0) C dX5_putNumber_49 (by decide) ?_
          refine jj_lcmp_eq (tgt := 59) C dX5_putNumber_50 dX5_putNumber_51 (by decide) (fun c_19 => ?_) (fun c_19 => ?_)
          · refine jj_iload C dX5_putNumber_59 rfl ?_
            refine jj_istore C dX5_putNumber_61 (by decide) rfl ?_
            have hL_20 : ∀ (N : Nat) (pl : va_W) (x_21 : Int32), True → tt_ok tt_tk cA Kd pl → tt_fr Kd [(12, 1)] pl0 pl → tt_fa Kd [13, 14] pl0 pl → tt_at pl h0 2 (.ref a_8) → (0 : Int) ≤ x_21.toInt → x_21.toInt ≤ 20 → (2147483648 - x_21.toInt ≤ (N : Int)) → jj_J p l e (jj_rm 5 107 0 0) s m args below meth c 7 A (vx_MQ below (jj_q D A (tt_O (fun rx pl1 r => rx = [] ∧ tt_ok tt_tk cA Kd pl1 ∧ tt_fr Kd [(12, 1)] pl0 pl1 ∧ tt_fa Kd [13, 14] pl0 pl1 ∧ ((r = none))))) (jj_x D A (tt_OX (fun _ _ _ => False))) args s 0 0 A) (jj_X D A ([] ++ pl)) 0 0 63 [(6, .int x_21), (3, .long y_18), (5, .int x_5), (0, .ref h0), (1, .long p1)] [] := by
              intro NL_20
              induction NL_20 with
              | zero => intro pl x_21 _ hok hfr hfa hf_22 lx_21 ux_21 hNL_20; exfalso; omega
              | succ NL_20 ihL_20 =>
                intro pl x_21 _ hok hfr hfa hf_22 lx_21 ux_21 hNL_20
                replace ihL_20 := fun pl x_21 h1 => ihL_20 pl x_21 trivial h1
                refine jj_iload C dX5_putNumber_63 rfl ?_
                refine jj_bipush (v := 20) C dX5_putNumber_65 (by decide) ?_
                refine jj_icmp_ge (tgt := 87) C dX5_putNumber_67 (by decide) (fun c_23 => ?_) (fun c_23 => ?_)
                · have z_c_23 := jc_le (a := (20)) (b := (x_21).toInt) c_23 (by decide) rfl
                  exact jj_vret C ⟨[], pl, rfl, rfl, hok, hfr, hfa, rfl⟩ dX5_putNumber_87 (jj_le rfl) (jj_le rfl)
                · have z_c_23 := jc_nle (a := (20)) (b := (x_21).toInt) c_23 (by decide) rfl
                  refine jj_aload_n C dX5_putNumber_70 rfl ?_
                  refine jj_aload_n C dX5_putNumber_71 rfl ?_
                  refine tt_getF C hok jk_6 2 (by decide) jw_7b666017dd (t := (2, 14, 0)) hk0 (by decide) rfl rfl hf_22 dX5_putNumber_72 ?_
                  refine jj_iload C dX5_putNumber_75 rfl ?_
                  refine tt_bald C hok (t := (0, (-2147483648), 2147483647)) ka_8 (by decide) rfl (vp_in_iff.mpr ⟨by omega, by omega⟩) dX5_putNumber_77 (fun v_24 hv_24 => ?_)
                  obtain ⟨qc, gs, hqc⟩ := tt_recv (cx := []) hok hk0 (by decide) rfl
                  refine tt_callV (rest := []) C (tc_X5_putByte_5 hl D cA ak h0 v_24 hk0 hok) [] [] rfl rfl (by decide) (by decide) (by decide) qc hqc rfl rfl jw_cc20a77ce3 jw_211b56f0bf jw_e8686d9408 jw_30ed28480a jw_f2c63e4be6 jn_X5_putByte rfl (jj_le rfl) (jj_le rfl) (jj_le rfl) (jj_le rfl) (jj_le rfl) dX5_putNumber_78 rfl (fun _ _ _ hX => hX.elim) (fun rx pl_25 r O_28 => ?_)
                  obtain ⟨rfl, hok_26, hr_27, hfa9, hR_30⟩ := O_28
                  replace hf_22 := hr_27.at hk0 (by decide) (by decide) hf_22
                  replace hfr := hfr.trans (hr_27.sub (by decide))
                  replace hfa := hfa.trans (hfa9.sub (by decide))
                  obtain rfl := hR_30
                  obtain ⟨x_33, ex_33, vx_33⟩ := tt_inc (x := x_21) (n := 1) (by omega) (by omega)
                  refine jj_iinc (v := x_33) C dX5_putNumber_81 rfl ex_33 (by decide) rfl ?_
                  refine jj_goto (tgt := 63) C dX5_putNumber_84 (by decide) ?_
                  exact ihL_20 pl_25 x_33 hok_26 hfr hfa hf_22 (by first | omega | decide | exact tt_lo _ | exact tt_hi _) (by first | omega | decide | exact tt_lo _ | exact tt_hi _) (by first | omega | decide | exact tt_lo _ | exact tt_hi _)
            exact hL_20 _ pl_16 x_5 trivial hok_17 hfr hfa hf_7 (by first | omega | decide | exact tt_lo _ | exact tt_hi _) (by first | omega | decide | exact tt_lo _ | exact tt_hi _) (Int.self_le_toNat _)
          · refine jj_iload C dX5_putNumber_54 rfl ?_
            refine jj_if_gt (tgt := 18) C dX5_putNumber_56 (by decide) (fun c_34 => ?_) (fun c_34 => ?_)
            · have z_c_34 := jc_lt (a := (0)) (b := (x_5).toInt) c_34 (by decide) rfl
              refine jj_loc [1, 0, 2, 3] rfl ?_
              exact ihL_2 pl_16 x_5 y_18 hok_17 hfr hfa (by first | omega | decide | exact tt_lo _ | exact tt_hi _) (by first | omega | decide | exact tt_lo _ | exact tt_hi _) (by first | omega | decide | exact tt_lo _ | exact tt_hi _)
            · have z_c_34 := jc_nlt (a := (0)) (b := (x_5).toInt) c_34 (by decide) rfl
              refine jj_iload C dX5_putNumber_59 rfl ?_
              refine jj_istore C dX5_putNumber_61 (by decide) rfl ?_
              have hL_35 : ∀ (N : Nat) (pl : va_W) (x_36 : Int32), True → tt_ok tt_tk cA Kd pl → tt_fr Kd [(12, 1)] pl0 pl → tt_fa Kd [13, 14] pl0 pl → tt_at pl h0 2 (.ref a_8) → (0 : Int) ≤ x_36.toInt → x_36.toInt ≤ 20 → (2147483648 - x_36.toInt ≤ (N : Int)) → jj_J p l e (jj_rm 5 107 0 0) s m args below meth c 7 A (vx_MQ below (jj_q D A (tt_O (fun rx pl1 r => rx = [] ∧ tt_ok tt_tk cA Kd pl1 ∧ tt_fr Kd [(12, 1)] pl0 pl1 ∧ tt_fa Kd [13, 14] pl0 pl1 ∧ ((r = none))))) (jj_x D A (tt_OX (fun _ _ _ => False))) args s 0 0 A) (jj_X D A ([] ++ pl)) 0 0 63 [(6, .int x_36), (3, .long y_18), (5, .int x_5), (0, .ref h0), (1, .long p1)] [] := by
                intro NL_35
                induction NL_35 with
                | zero => intro pl x_36 _ hok hfr hfa hf_37 lx_36 ux_36 hNL_35; exfalso; omega
                | succ NL_35 ihL_35 =>
                  intro pl x_36 _ hok hfr hfa hf_37 lx_36 ux_36 hNL_35
                  replace ihL_35 := fun pl x_36 h1 => ihL_35 pl x_36 trivial h1
                  refine jj_iload C dX5_putNumber_63 rfl ?_
                  refine jj_bipush (v := 20) C dX5_putNumber_65 (by decide) ?_
                  refine jj_icmp_ge (tgt := 87) C dX5_putNumber_67 (by decide) (fun c_38 => ?_) (fun c_38 => ?_)
                  · have z_c_38 := jc_le (a := (20)) (b := (x_36).toInt) c_38 (by decide) rfl
                    exact jj_vret C ⟨[], pl, rfl, rfl, hok, hfr, hfa, rfl⟩ dX5_putNumber_87 (jj_le rfl) (jj_le rfl)
                  · have z_c_38 := jc_nle (a := (20)) (b := (x_36).toInt) c_38 (by decide) rfl
                    refine jj_aload_n C dX5_putNumber_70 rfl ?_
                    refine jj_aload_n C dX5_putNumber_71 rfl ?_
                    refine tt_getF C hok jk_6 2 (by decide) jw_7b666017dd (t := (2, 14, 0)) hk0 (by decide) rfl rfl hf_37 dX5_putNumber_72 ?_
                    refine jj_iload C dX5_putNumber_75 rfl ?_
                    refine tt_bald C hok (t := (0, (-2147483648), 2147483647)) ka_8 (by decide) rfl (vp_in_iff.mpr ⟨by omega, by omega⟩) dX5_putNumber_77 (fun v_39 hv_39 => ?_)
                    obtain ⟨qc, gs, hqc⟩ := tt_recv (cx := []) hok hk0 (by decide) rfl
                    refine tt_callV (rest := []) C (tc_X5_putByte_5 hl D cA ak h0 v_39 hk0 hok) [] [] rfl rfl (by decide) (by decide) (by decide) qc hqc rfl rfl jw_cc20a77ce3 jw_211b56f0bf jw_e8686d9408 jw_30ed28480a jw_f2c63e4be6 jn_X5_putByte rfl (jj_le rfl) (jj_le rfl) (jj_le rfl) (jj_le rfl) (jj_le rfl) dX5_putNumber_78 rfl (fun _ _ _ hX => hX.elim) (fun rx pl_40 r O_43 => ?_)
                    obtain ⟨rfl, hok_41, hr_42, hfa9, hR_45⟩ := O_43
                    replace hf_37 := hr_42.at hk0 (by decide) (by decide) hf_37
                    replace hfr := hfr.trans (hr_42.sub (by decide))
                    replace hfa := hfa.trans (hfa9.sub (by decide))
                    obtain rfl := hR_45
                    obtain ⟨x_48, ex_48, vx_48⟩ := tt_inc (x := x_36) (n := 1) (by omega) (by omega)
                    refine jj_iinc (v := x_48) C dX5_putNumber_81 rfl ex_48 (by decide) rfl ?_
                    refine jj_goto (tgt := 63) C dX5_putNumber_84 (by decide) ?_
                    exact ihL_35 pl_40 x_48 hok_41 hfr hfa hf_37 (by first | omega | decide | exact tt_lo _ | exact tt_hi _) (by first | omega | decide | exact tt_lo _ | exact tt_hi _) (by first | omega | decide | exact tt_lo _ | exact tt_hi _)
              exact hL_35 _ pl_16 x_5 trivial hok_17 hfr hfa hf_7 (by first | omega | decide | exact tt_lo _ | exact tt_hi _) (by first | omega | decide | exact tt_lo _ | exact tt_hi _) (Int.self_le_toNat _)
        · obtain ⟨y_49, ey_49⟩ : ∃ z : Int64, (48 : Int64) + (-y_9) = z := ⟨_, rfl⟩
          refine jj_ladd (v := y_49) C dX5_putNumber_38 ey_49 ?_
          obtain ⟨x_50, ex_50⟩ : ∃ z : Int32, y_49.toInt32 = z := ⟨_, rfl⟩
          refine jj_l2i (v := x_50) C dX5_putNumber_39 ex_50 ?_
          obtain ⟨x_51, ex_51⟩ : ∃ z : Int32, x_50.toInt8.toInt32 = z := ⟨_, rfl⟩
          refine jj_i2b (v := x_51) C dX5_putNumber_40 ex_51 ?_
          refine tl_bast C hok (t := (0, (-2147483648), 2147483647)) ka_8 (by decide) rfl (vp_in_iff.mpr ⟨by omega, by omega⟩) (tt_ia _) dX5_putNumber_41 (fun pl_52 hok_53 tr tl => ?_)
          replace hf_7 := tr _ _ _ hf_7
          replace hfr := hfr.arr tr
          replace hfa := hfa.wr ka_8 tl (by decide)
          refine jj_lload_n C dX5_putNumber_42 rfl ?_
          refine jj_ldc2 (v := 10) C dX5_putNumber_43 jw_60554028df ?_
          obtain ⟨y_54, ey_54⟩ : ∃ z : Int64, y_4 / (10 : Int64) = z := ⟨_, rfl⟩
          refine jj_ldiv (v := y_54) C dX5_putNumber_46 (by decide) ey_54 ?_
          refine jj_lstore_n C dX5_putNumber_47 (by decide) rfl ?_
          refine jj_lload_n C dX5_putNumber_48 rfl ?_
          refine jj_lconst (v := 0) C dX5_putNumber_49 (by decide) ?_
          refine jj_lcmp_eq (tgt := 59) C dX5_putNumber_50 dX5_putNumber_51 (by decide) (fun c_55 => ?_) (fun c_55 => ?_)
          · refine jj_iload C dX5_putNumber_59 rfl ?_
            refine jj_istore C dX5_putNumber_61 (by decide) rfl ?_
            have hL_56 : ∀ (N : Nat) (pl : va_W) (x_57 : Int32), True → tt_ok tt_tk cA Kd pl → tt_fr Kd [(12, 1)] pl0 pl → tt_fa Kd [13, 14] pl0 pl → tt_at pl h0 2 (.ref a_8) → (0 : Int) ≤ x_57.toInt → x_57.toInt ≤ 20 → (2147483648 - x_57.toInt ≤ (N : Int)) → jj_J p l e (jj_rm 5 107 0 0) s m args below meth c 7 A (vx_MQ below (jj_q D A (tt_O (fun rx pl1 r => rx = [] ∧ tt_ok tt_tk cA Kd pl1 ∧ tt_fr Kd [(12, 1)] pl0 pl1 ∧ tt_fa Kd [13, 14] pl0 pl1 ∧ ((r = none))))) (jj_x D A (tt_OX (fun _ _ _ => False))) args s 0 0 A) (jj_X D A ([] ++ pl)) 0 0 63 [(6, .int x_57), (3, .long y_54), (5, .int x_5), (0, .ref h0), (1, .long p1)] [] := by
              intro NL_56
              induction NL_56 with
              | zero => intro pl x_57 _ hok hfr hfa hf_58 lx_57 ux_57 hNL_56; exfalso; omega
              | succ NL_56 ihL_56 =>
                intro pl x_57 _ hok hfr hfa hf_58 lx_57 ux_57 hNL_56
                replace ihL_56 := fun pl x_57 h1 => ihL_56 pl x_57 trivial h1
                refine jj_iload C dX5_putNumber_63 rfl ?_
                refine jj_bipush (v := 20) C dX5_putNumber_65 (by decide) ?_
                refine jj_icmp_ge (tgt := 87) C dX5_putNumber_67 (by decide) (fun c_59 => ?_) (fun c_59 => ?_)
                · have z_c_59 := jc_le (a := (20)) (b := (x_57).toInt) c_59 (by decide) rfl
                  exact jj_vret C ⟨[], pl, rfl, rfl, hok, hfr, hfa, rfl⟩ dX5_putNumber_87 (jj_le rfl) (jj_le rfl)
                · have z_c_59 := jc_nle (a := (20)) (b := (x_57).toInt) c_59 (by decide) rfl
                  refine jj_aload_n C dX5_putNumber_70 rfl ?_
                  refine jj_aload_n C dX5_putNumber_71 rfl ?_
                  refine tt_getF C hok jk_6 2 (by decide) jw_7b666017dd (t := (2, 14, 0)) hk0 (by decide) rfl rfl hf_58 dX5_putNumber_72 ?_
                  refine jj_iload C dX5_putNumber_75 rfl ?_
                  refine tt_bald C hok (t := (0, (-2147483648), 2147483647)) ka_8 (by decide) rfl (vp_in_iff.mpr ⟨by omega, by omega⟩) dX5_putNumber_77 (fun v_60 hv_60 => ?_)
                  obtain ⟨qc, gs, hqc⟩ := tt_recv (cx := []) hok hk0 (by decide) rfl
                  refine tt_callV (rest := []) C (tc_X5_putByte_5 hl D cA ak h0 v_60 hk0 hok) [] [] rfl rfl (by decide) (by decide) (by decide) qc hqc rfl rfl jw_cc20a77ce3 jw_211b56f0bf jw_e8686d9408 jw_30ed28480a jw_f2c63e4be6 jn_X5_putByte rfl (jj_le rfl) (jj_le rfl) (jj_le rfl) (jj_le rfl) (jj_le rfl) dX5_putNumber_78 rfl (fun _ _ _ hX => hX.elim) (fun rx pl_61 r O_64 => ?_)
                  obtain ⟨rfl, hok_62, hr_63, hfa9, hR_66⟩ := O_64
                  replace hf_58 := hr_63.at hk0 (by decide) (by decide) hf_58
                  replace hfr := hfr.trans (hr_63.sub (by decide))
                  replace hfa := hfa.trans (hfa9.sub (by decide))
                  obtain rfl := hR_66
                  obtain ⟨x_69, ex_69, vx_69⟩ := tt_inc (x := x_57) (n := 1) (by omega) (by omega)
                  refine jj_iinc (v := x_69) C dX5_putNumber_81 rfl ex_69 (by decide) rfl ?_
                  refine jj_goto (tgt := 63) C dX5_putNumber_84 (by decide) ?_
                  exact ihL_56 pl_61 x_69 hok_62 hfr hfa hf_58 (by first | omega | decide | exact tt_lo _ | exact tt_hi _) (by first | omega | decide | exact tt_lo _ | exact tt_hi _) (by first | omega | decide | exact tt_lo _ | exact tt_hi _)
            exact hL_56 _ pl_52 x_5 trivial hok_53 hfr hfa hf_7 (by first | omega | decide | exact tt_lo _ | exact tt_hi _) (by first | omega | decide | exact tt_lo _ | exact tt_hi _) (Int.self_le_toNat _)
          · refine jj_iload C dX5_putNumber_54 rfl ?_
            refine jj_if_gt (tgt := 18) C dX5_putNumber_56 (by decide) (fun c_70 => ?_) (fun c_70 => ?_)
            · have z_c_70 := jc_lt (a := (0)) (b := (x_5).toInt) c_70 (by decide) rfl
              refine jj_loc [1, 0, 2, 3] rfl ?_
              exact ihL_2 pl_52 x_5 y_54 hok_53 hfr hfa (by first | omega | decide | exact tt_lo _ | exact tt_hi _) (by first | omega | decide | exact tt_lo _ | exact tt_hi _) (by first | omega | decide | exact tt_lo _ | exact tt_hi _)
            · have z_c_70 := jc_nlt (a := (0)) (b := (x_5).toInt) c_70 (by decide) rfl
              refine jj_iload C dX5_putNumber_59 rfl ?_
              refine jj_istore C dX5_putNumber_61 (by decide) rfl ?_
              have hL_71 : ∀ (N : Nat) (pl : va_W) (x_72 : Int32), True → tt_ok tt_tk cA Kd pl → tt_fr Kd [(12, 1)] pl0 pl → tt_fa Kd [13, 14] pl0 pl → tt_at pl h0 2 (.ref a_8) → (0 : Int) ≤ x_72.toInt → x_72.toInt ≤ 20 → (2147483648 - x_72.toInt ≤ (N : Int)) → jj_J p l e (jj_rm 5 107 0 0) s m args below meth c 7 A (vx_MQ below (jj_q D A (tt_O (fun rx pl1 r => rx = [] ∧ tt_ok tt_tk cA Kd pl1 ∧ tt_fr Kd [(12, 1)] pl0 pl1 ∧ tt_fa Kd [13, 14] pl0 pl1 ∧ ((r = none))))) (jj_x D A (tt_OX (fun _ _ _ => False))) args s 0 0 A) (jj_X D A ([] ++ pl)) 0 0 63 [(6, .int x_72), (3, .long y_54), (5, .int x_5), (0, .ref h0), (1, .long p1)] [] := by
                intro NL_71
                induction NL_71 with
                | zero => intro pl x_72 _ hok hfr hfa hf_73 lx_72 ux_72 hNL_71; exfalso; omega
                | succ NL_71 ihL_71 =>
                  intro pl x_72 _ hok hfr hfa hf_73 lx_72 ux_72 hNL_71
                  replace ihL_71 := fun pl x_72 h1 => ihL_71 pl x_72 trivial h1
                  refine jj_iload C dX5_putNumber_63 rfl ?_
                  refine jj_bipush (v := 20) C dX5_putNumber_65 (by decide) ?_
                  refine jj_icmp_ge (tgt := 87) C dX5_putNumber_67 (by decide) (fun c_74 => ?_) (fun c_74 => ?_)
                  · have z_c_74 := jc_le (a := (20)) (b := (x_72).toInt) c_74 (by decide) rfl
                    exact jj_vret C ⟨[], pl, rfl, rfl, hok, hfr, hfa, rfl⟩ dX5_putNumber_87 (jj_le rfl) (jj_le rfl)
                  · have z_c_74 := jc_nle (a := (20)) (b := (x_72).toInt) c_74 (by decide) rfl
                    refine jj_aload_n C dX5_putNumber_70 rfl ?_
                    refine jj_aload_n C dX5_putNumber_71 rfl ?_
                    refine tt_getF C hok jk_6 2 (by decide) jw_7b666017dd (t := (2, 14, 0)) hk0 (by decide) rfl rfl hf_73 dX5_putNumber_72 ?_
                    refine jj_iload C dX5_putNumber_75 rfl ?_
                    refine tt_bald C hok (t := (0, (-2147483648), 2147483647)) ka_8 (by decide) rfl (vp_in_iff.mpr ⟨by omega, by omega⟩) dX5_putNumber_77 (fun v_75 hv_75 => ?_)
                    obtain ⟨qc, gs, hqc⟩ := tt_recv (cx := []) hok hk0 (by decide) rfl
                    refine tt_callV (rest := []) C (tc_X5_putByte_5 hl D cA ak h0 v_75 hk0 hok) [] [] rfl rfl (by decide) (by decide) (by decide) qc hqc rfl rfl jw_cc20a77ce3 jw_211b56f0bf jw_e8686d9408 jw_30ed28480a jw_f2c63e4be6 jn_X5_putByte rfl (jj_le rfl) (jj_le rfl) (jj_le rfl) (jj_le rfl) (jj_le rfl) dX5_putNumber_78 rfl (fun _ _ _ hX => hX.elim) (fun rx pl_76 r O_79 => ?_)
                    obtain ⟨rfl, hok_77, hr_78, hfa9, hR_81⟩ := O_79
                    replace hf_73 := hr_78.at hk0 (by decide) (by decide) hf_73
                    replace hfr := hfr.trans (hr_78.sub (by decide))
                    replace hfa := hfa.trans (hfa9.sub (by decide))
                    obtain rfl := hR_81
                    obtain ⟨x_84, ex_84, vx_84⟩ := tt_inc (x := x_72) (n := 1) (by omega) (by omega)
                    refine jj_iinc (v := x_84) C dX5_putNumber_81 rfl ex_84 (by decide) rfl ?_
                    refine jj_goto (tgt := 63) C dX5_putNumber_84 (by decide) ?_
                    exact ihL_71 pl_76 x_84 hok_77 hfr hfa hf_73 (by first | omega | decide | exact tt_lo _ | exact tt_hi _) (by first | omega | decide | exact tt_lo _ | exact tt_hi _) (by first | omega | decide | exact tt_lo _ | exact tt_hi _)
              exact hL_71 _ pl_52 x_5 trivial hok_53 hfr hfa hf_7 (by first | omega | decide | exact tt_lo _ | exact tt_hi _) (by first | omega | decide | exact tt_lo _ | exact tt_hi _) (Int.self_le_toNat _)
    exact hL_2 _ pl0 (20 : Int32) p1 trivial hok hfr hfa (by first | omega | decide | exact tt_lo _ | exact tt_hi _) (by first | omega | decide | exact tt_lo _ | exact tt_hi _) (Int.self_le_toNat _)
  · refine jj_aload_n C dX5_putNumber_6 rfl ?_
    refine jj_ldcs (k := 14) (tx := "-") C dX5_putNumber_7 (by decide +kernel) ?_
    obtain ⟨qc, gs, hqc⟩ := tt_recv (cx := []) hok hk0 (by decide) rfl
    refine tt_callV (rest := []) C (tc_X5_putText_2 hl D cA ak h0 hk0 hok) [] [] rfl rfl (by decide) (by decide) (by decide) qc hqc rfl rfl jw_ff91692536 jw_b9307dcbf6 jw_3d1837b6f1 jw_30ed28480a jw_5a16104e3b jn_X5_putText rfl (jj_le rfl) (jj_le rfl) (jj_le rfl) (jj_le rfl) (jj_le rfl) dX5_putNumber_9 rfl (fun _ _ _ hX => hX.elim) (fun rx pl_85 r O_88 => ?_)
    obtain ⟨rfl, hok_86, hr_87, hfa9, hR_90⟩ := O_88
    replace hfr := hfr.trans (hr_87.sub (by decide))
    replace hfa := hfa.trans (hfa9.sub (by decide))
    obtain rfl := hR_90
    refine jj_lload_n C dX5_putNumber_12 rfl ?_
    refine jj_lstore_n C dX5_putNumber_13 (by decide) rfl ?_
    refine jj_bipush (v := 20) C dX5_putNumber_14 (by decide) ?_
    refine jj_istore C dX5_putNumber_16 (by decide) rfl ?_
    have hL_93 : ∀ (N : Nat) (pl : va_W) (x_94 : Int32) (y_95 : Int64), True → tt_ok tt_tk cA Kd pl → tt_fr Kd [(12, 1)] pl0 pl → tt_fa Kd [13, 14] pl0 pl → (1 : Int) ≤ x_94.toInt → x_94.toInt ≤ 20 → (x_94.toInt + 2147483649 ≤ (N : Int)) → jj_J p l e (jj_rm 5 107 0 0) s m args below meth c 7 A (vx_MQ below (jj_q D A (tt_O (fun rx pl1 r => rx = [] ∧ tt_ok tt_tk cA Kd pl1 ∧ tt_fr Kd [(12, 1)] pl0 pl1 ∧ tt_fa Kd [13, 14] pl0 pl1 ∧ ((r = none))))) (jj_x D A (tt_OX (fun _ _ _ => False))) args s 0 0 A) (jj_X D A ([] ++ pl)) 0 0 18 [(5, .int x_94), (3, .long y_95), (0, .ref h0), (1, .long p1)] [] := by
      intro NL_93
      induction NL_93 with
      | zero => intro pl x_94 y_95 _ hok hfr hfa lx_94 ux_94 hNL_93; exfalso; omega
      | succ NL_93 ihL_93 =>
        intro pl x_94 y_95 _ hok hfr hfa lx_94 ux_94 hNL_93
        replace ihL_93 := fun pl x_94 y_95 h1 => ihL_93 pl x_94 y_95 trivial h1
        obtain ⟨x_96, ex_96, vx_96⟩ := tt_inc (x := x_94) (n := (-1)) (by omega) (by omega)
        refine jj_iinc (v := x_96) C dX5_putNumber_18 rfl ex_96 (by decide) rfl ?_
        refine jj_aload_n C dX5_putNumber_21 rfl ?_
        refine tt_get C hok jk_6 2 (by decide) jw_7b666017dd (t := (2, 14, 0)) hk0 (by decide) rfl rfl dX5_putNumber_22 (fun v_97 hv_97 hf_98 => ?_)
        obtain ⟨a_99, rfl, ka_99⟩ := tt_vr hv_97
        refine jj_iload C dX5_putNumber_25 rfl ?_
        refine jj_ldc2 (v := 48) C dX5_putNumber_27 jw_5fecb731cf ?_
        refine jj_lload_n C dX5_putNumber_30 rfl ?_
        refine jj_ldc2 (v := 10) C dX5_putNumber_31 jw_60554028df ?_
        obtain ⟨y_100, ey_100⟩ : ∃ z : Int64, y_95 - y_95 / (10 : Int64) * (10 : Int64) = z := ⟨_, rfl⟩
        refine jj_lrem (v := y_100) C dX5_putNumber_34 (by decide) ey_100 ?_
        refine tt_call0S (rest := [.long 48, .int x_96, .ref a_99]) C (ct_J9_abs_067f4_1 hl D cA ak y_100) jw_7749df1616 jw_453771f3e9 jw_a731c8553d jw_320de93b97 jn_J9_abs_067f4 rfl (jj_le rfl) (jj_le rfl) (jj_le rfl) (jj_le rfl) (jj_le rfl) dX5_putNumber_35 rfl (fun w1 r O_101 => ?_)
        rcases O_101 with ⟨c_102, -, rfl⟩ | ⟨c_103, -, rfl⟩
        · obtain ⟨y_104, ey_104⟩ : ∃ z : Int64, (48 : Int64) + y_100 = z := ⟨_, rfl⟩
          refine jj_ladd (v := y_104) C dX5_putNumber_38 ey_104 ?_
          obtain ⟨x_105, ex_105⟩ : ∃ z : Int32, y_104.toInt32 = z := ⟨_, rfl⟩
          refine jj_l2i (v := x_105) C dX5_putNumber_39 ex_105 ?_
          obtain ⟨x_106, ex_106⟩ : ∃ z : Int32, x_105.toInt8.toInt32 = z := ⟨_, rfl⟩
          refine jj_i2b (v := x_106) C dX5_putNumber_40 ex_106 ?_
          refine tl_bast C hok (t := (0, (-2147483648), 2147483647)) ka_99 (by decide) rfl (vp_in_iff.mpr ⟨by omega, by omega⟩) (tt_ia _) dX5_putNumber_41 (fun pl_107 hok_108 tr tl => ?_)
          replace hf_98 := tr _ _ _ hf_98
          replace hfr := hfr.arr tr
          replace hfa := hfa.wr ka_99 tl (by decide)
          refine jj_lload_n C dX5_putNumber_42 rfl ?_
          refine jj_ldc2 (v := 10) C dX5_putNumber_43 jw_60554028df ?_
          obtain ⟨y_109, ey_109⟩ : ∃ z : Int64, y_95 / (10 : Int64) = z := ⟨_, rfl⟩
          refine jj_ldiv (v := y_109) C dX5_putNumber_46 (by decide) ey_109 ?_
          refine jj_lstore_n C dX5_putNumber_47 (by decide) rfl ?_
          refine jj_lload_n C dX5_putNumber_48 rfl ?_
          refine jj_lconst (v := 0) C dX5_putNumber_49 (by decide) ?_
          refine jj_lcmp_eq (tgt := 59) C dX5_putNumber_50 dX5_putNumber_51 (by decide) (fun c_110 => ?_) (fun c_110 => ?_)
          · refine jj_iload C dX5_putNumber_59 rfl ?_
            refine jj_istore C dX5_putNumber_61 (by decide) rfl ?_
            have hL_111 : ∀ (N : Nat) (pl : va_W) (x_112 : Int32), True → tt_ok tt_tk cA Kd pl → tt_fr Kd [(12, 1)] pl0 pl → tt_fa Kd [13, 14] pl0 pl → tt_at pl h0 2 (.ref a_99) → (0 : Int) ≤ x_112.toInt → x_112.toInt ≤ 20 → (2147483648 - x_112.toInt ≤ (N : Int)) → jj_J p l e (jj_rm 5 107 0 0) s m args below meth c 7 A (vx_MQ below (jj_q D A (tt_O (fun rx pl1 r => rx = [] ∧ tt_ok tt_tk cA Kd pl1 ∧ tt_fr Kd [(12, 1)] pl0 pl1 ∧ tt_fa Kd [13, 14] pl0 pl1 ∧ ((r = none))))) (jj_x D A (tt_OX (fun _ _ _ => False))) args s 0 0 A) (jj_X D A ([] ++ pl)) 0 0 63 [(6, .int x_112), (3, .long y_109), (5, .int x_96), (0, .ref h0), (1, .long p1)] [] := by
              intro NL_111
              induction NL_111 with
              | zero => intro pl x_112 _ hok hfr hfa hf_113 lx_112 ux_112 hNL_111; exfalso; omega
              | succ NL_111 ihL_111 =>
                intro pl x_112 _ hok hfr hfa hf_113 lx_112 ux_112 hNL_111
                replace ihL_111 := fun pl x_112 h1 => ihL_111 pl x_112 trivial h1
                refine jj_iload C dX5_putNumber_63 rfl ?_
                refine jj_bipush (v := 20) C dX5_putNumber_65 (by decide) ?_
                refine jj_icmp_ge (tgt := 87) C dX5_putNumber_67 (by decide) (fun c_114 => ?_) (fun c_114 => ?_)
                · have z_c_114 := jc_le (a := (20)) (b := (x_112).toInt) c_114 (by decide) rfl
                  exact jj_vret C ⟨[], pl, rfl, rfl, hok, hfr, hfa, rfl⟩ dX5_putNumber_87 (jj_le rfl) (jj_le rfl)
                · have z_c_114 := jc_nle (a := (20)) (b := (x_112).toInt) c_114 (by decide) rfl
                  refine jj_aload_n C dX5_putNumber_70 rfl ?_
                  refine jj_aload_n C dX5_putNumber_71 rfl ?_
                  refine tt_getF C hok jk_6 2 (by decide) jw_7b666017dd (t := (2, 14, 0)) hk0 (by decide) rfl rfl hf_113 dX5_putNumber_72 ?_
                  refine jj_iload C dX5_putNumber_75 rfl ?_
                  refine tt_bald C hok (t := (0, (-2147483648), 2147483647)) ka_99 (by decide) rfl (vp_in_iff.mpr ⟨by omega, by omega⟩) dX5_putNumber_77 (fun v_115 hv_115 => ?_)
                  obtain ⟨qc, gs, hqc⟩ := tt_recv (cx := []) hok hk0 (by decide) rfl
                  refine tt_callV (rest := []) C (tc_X5_putByte_5 hl D cA ak h0 v_115 hk0 hok) [] [] rfl rfl (by decide) (by decide) (by decide) qc hqc rfl rfl jw_cc20a77ce3 jw_211b56f0bf jw_e8686d9408 jw_30ed28480a jw_f2c63e4be6 jn_X5_putByte rfl (jj_le rfl) (jj_le rfl) (jj_le rfl) (jj_le rfl) (jj_le rfl) dX5_putNumber_78 rfl (fun _ _ _ hX => hX.elim) (fun rx pl_116 r O_119 => ?_)
                  obtain ⟨rfl, hok_117, hr_118, hfa9, hR_121⟩ := O_119
                  replace hf_113 := hr_118.at hk0 (by decide) (by decide) hf_113
                  replace hfr := hfr.trans (hr_118.sub (by decide))
                  replace hfa := hfa.trans (hfa9.sub (by decide))
                  obtain rfl := hR_121
                  obtain ⟨x_124, ex_124, vx_124⟩ := tt_inc (x := x_112) (n := 1) (by omega) (by omega)
                  refine jj_iinc (v := x_124) C dX5_putNumber_81 rfl ex_124 (by decide) rfl ?_
                  refine jj_goto (tgt := 63) C dX5_putNumber_84 (by decide) ?_
                  exact ihL_111 pl_116 x_124 hok_117 hfr hfa hf_113 (by first | omega | decide | exact tt_lo _ | exact tt_hi _) (by first | omega | decide | exact tt_lo _ | exact tt_hi _) (by first | omega | decide | exact tt_lo _ | exact tt_hi _)
            exact hL_111 _ pl_107 x_96 trivial hok_108 hfr hfa hf_98 (by first | omega | decide | exact tt_lo _ | exact tt_hi _) (by first | omega | decide | exact tt_lo _ | exact tt_hi _) (Int.self_le_toNat _)
          · refine jj_iload C dX5_putNumber_54 rfl ?_
            refine jj_if_gt (tgt := 18) C dX5_putNumber_56 (by decide) (fun c_125 => ?_) (fun c_125 => ?_)
            · have z_c_125 := jc_lt (a := (0)) (b := (x_96).toInt) c_125 (by decide) rfl
              refine jj_loc [1, 0, 2, 3] rfl ?_
              exact ihL_93 pl_107 x_96 y_109 hok_108 hfr hfa (by first | omega | decide | exact tt_lo _ | exact tt_hi _) (by first | omega | decide | exact tt_lo _ | exact tt_hi _) (by first | omega | decide | exact tt_lo _ | exact tt_hi _)
            · have z_c_125 := jc_nlt (a := (0)) (b := (x_96).toInt) c_125 (by decide) rfl
              refine jj_iload C dX5_putNumber_59 rfl ?_
              refine jj_istore C dX5_putNumber_61 (by decide) rfl ?_
              have hL_126 : ∀ (N : Nat) (pl : va_W) (x_127 : Int32), True → tt_ok tt_tk cA Kd pl → tt_fr Kd [(12, 1)] pl0 pl → tt_fa Kd [13, 14] pl0 pl → tt_at pl h0 2 (.ref a_99) → (0 : Int) ≤ x_127.toInt → x_127.toInt ≤ 20 → (2147483648 - x_127.toInt ≤ (N : Int)) → jj_J p l e (jj_rm 5 107 0 0) s m args below meth c 7 A (vx_MQ below (jj_q D A (tt_O (fun rx pl1 r => rx = [] ∧ tt_ok tt_tk cA Kd pl1 ∧ tt_fr Kd [(12, 1)] pl0 pl1 ∧ tt_fa Kd [13, 14] pl0 pl1 ∧ ((r = none))))) (jj_x D A (tt_OX (fun _ _ _ => False))) args s 0 0 A) (jj_X D A ([] ++ pl)) 0 0 63 [(6, .int x_127), (3, .long y_109), (5, .int x_96), (0, .ref h0), (1, .long p1)] [] := by
                intro NL_126
                induction NL_126 with
                | zero => intro pl x_127 _ hok hfr hfa hf_128 lx_127 ux_127 hNL_126; exfalso; omega
                | succ NL_126 ihL_126 =>
                  intro pl x_127 _ hok hfr hfa hf_128 lx_127 ux_127 hNL_126
                  replace ihL_126 := fun pl x_127 h1 => ihL_126 pl x_127 trivial h1
                  refine jj_iload C dX5_putNumber_63 rfl ?_
                  refine jj_bipush (v := 20) C dX5_putNumber_65 (by decide) ?_
                  refine jj_icmp_ge (tgt := 87) C dX5_putNumber_67 (by decide) (fun c_129 => ?_) (fun c_129 => ?_)
                  · have z_c_129 := jc_le (a := (20)) (b := (x_127).toInt) c_129 (by decide) rfl
                    exact jj_vret C ⟨[], pl, rfl, rfl, hok, hfr, hfa, rfl⟩ dX5_putNumber_87 (jj_le rfl) (jj_le rfl)
                  · have z_c_129 := jc_nle (a := (20)) (b := (x_127).toInt) c_129 (by decide) rfl
                    refine jj_aload_n C dX5_putNumber_70 rfl ?_
                    refine jj_aload_n C dX5_putNumber_71 rfl ?_
                    refine tt_getF C hok jk_6 2 (by decide) jw_7b666017dd (t := (2, 14, 0)) hk0 (by decide) rfl rfl hf_128 dX5_putNumber_72 ?_
                    refine jj_iload C dX5_putNumber_75 rfl ?_
                    refine tt_bald C hok (t := (0, (-2147483648), 2147483647)) ka_99 (by decide) rfl (vp_in_iff.mpr ⟨by omega, by omega⟩) dX5_putNumber_77 (fun v_130 hv_130 => ?_)
                    obtain ⟨qc, gs, hqc⟩ := tt_recv (cx := []) hok hk0 (by decide) rfl
                    refine tt_callV (rest := []) C (tc_X5_putByte_5 hl D cA ak h0 v_130 hk0 hok) [] [] rfl rfl (by decide) (by decide) (by decide) qc hqc rfl rfl jw_cc20a77ce3 jw_211b56f0bf jw_e8686d9408 jw_30ed28480a jw_f2c63e4be6 jn_X5_putByte rfl (jj_le rfl) (jj_le rfl) (jj_le rfl) (jj_le rfl) (jj_le rfl) dX5_putNumber_78 rfl (fun _ _ _ hX => hX.elim) (fun rx pl_131 r O_134 => ?_)
                    obtain ⟨rfl, hok_132, hr_133, hfa9, hR_136⟩ := O_134
                    replace hf_128 := hr_133.at hk0 (by decide) (by decide) hf_128
                    replace hfr := hfr.trans (hr_133.sub (by decide))
                    replace hfa := hfa.trans (hfa9.sub (by decide))
                    obtain rfl := hR_136
                    obtain ⟨x_139, ex_139, vx_139⟩ := tt_inc (x := x_127) (n := 1) (by omega) (by omega)
                    refine jj_iinc (v := x_139) C dX5_putNumber_81 rfl ex_139 (by decide) rfl ?_
                    refine jj_goto (tgt := 63) C dX5_putNumber_84 (by decide) ?_
                    exact ihL_126 pl_131 x_139 hok_132 hfr hfa hf_128 (by first | omega | decide | exact tt_lo _ | exact tt_hi _) (by first | omega | decide | exact tt_lo _ | exact tt_hi _) (by first | omega | decide | exact tt_lo _ | exact tt_hi _)
              exact hL_126 _ pl_107 x_96 trivial hok_108 hfr hfa hf_98 (by first | omega | decide | exact tt_lo _ | exact tt_hi _) (by first | omega | decide | exact tt_lo _ | exact tt_hi _) (Int.self_le_toNat _)
        · obtain ⟨y_140, ey_140⟩ : ∃ z : Int64, (48 : Int64) + (-y_100) = z := ⟨_, rfl⟩
          refine jj_ladd (v := y_140) C dX5_putNumber_38 ey_140 ?_
          obtain ⟨x_141, ex_141⟩ : ∃ z : Int32, y_140.toInt32 = z := ⟨_, rfl⟩
          refine jj_l2i (v := x_141) C dX5_putNumber_39 ex_141 ?_
          obtain ⟨x_142, ex_142⟩ : ∃ z : Int32, x_141.toInt8.toInt32 = z := ⟨_, rfl⟩
          refine jj_i2b (v := x_142) C dX5_putNumber_40 ex_142 ?_
          refine tl_bast C hok (t := (0, (-2147483648), 2147483647)) ka_99 (by decide) rfl (vp_in_iff.mpr ⟨by omega, by omega⟩) (tt_ia _) dX5_putNumber_41 (fun pl_143 hok_144 tr tl => ?_)
          replace hf_98 := tr _ _ _ hf_98
          replace hfr := hfr.arr tr
          replace hfa := hfa.wr ka_99 tl (by decide)
          refine jj_lload_n C dX5_putNumber_42 rfl ?_
          refine jj_ldc2 (v := 10) C dX5_putNumber_43 jw_60554028df ?_
          obtain ⟨y_145, ey_145⟩ : ∃ z : Int64, y_95 / (10 : Int64) = z := ⟨_, rfl⟩
          refine jj_ldiv (v := y_145) C dX5_putNumber_46 (by decide) ey_145 ?_
          refine jj_lstore_n C dX5_putNumber_47 (by decide) rfl ?_
          refine jj_lload_n C dX5_putNumber_48 rfl ?_
          refine jj_lconst (v := 0) C dX5_putNumber_49 (by decide) ?_
          refine jj_lcmp_eq (tgt := 59) C dX5_putNumber_50 dX5_putNumber_51 (by decide) (fun c_146 => ?_) (fun c_146 => ?_)
          · refine jj_iload C dX5_putNumber_59 rfl ?_
            refine jj_istore C dX5_putNumber_61 (by decide) rfl ?_
            have hL_147 : ∀ (N : Nat) (pl : va_W) (x_148 : Int32), True → tt_ok tt_tk cA Kd pl → tt_fr Kd [(12, 1)] pl0 pl → tt_fa Kd [13, 14] pl0 pl → tt_at pl h0 2 (.ref a_99) → (0 : Int) ≤ x_148.toInt → x_148.toInt ≤ 20 → (2147483648 - x_148.toInt ≤ (N : Int)) → jj_J p l e (jj_rm 5 107 0 0) s m args below meth c 7 A (vx_MQ below (jj_q D A (tt_O (fun rx pl1 r => rx = [] ∧ tt_ok tt_tk cA Kd pl1 ∧ tt_fr Kd [(12, 1)] pl0 pl1 ∧ tt_fa Kd [13, 14] pl0 pl1 ∧ ((r = none))))) (jj_x D A (tt_OX (fun _ _ _ => False))) args s 0 0 A) (jj_X D A ([] ++ pl)) 0 0 63 [(6, .int x_148), (3, .long y_145), (5, .int x_96), (0, .ref h0), (1, .long p1)] [] := by
              intro NL_147
              induction NL_147 with
              | zero => intro pl x_148 _ hok hfr hfa hf_149 lx_148 ux_148 hNL_147; exfalso; omega
              | succ NL_147 ihL_147 =>
                intro pl x_148 _ hok hfr hfa hf_149 lx_148 ux_148 hNL_147
                replace ihL_147 := fun pl x_148 h1 => ihL_147 pl x_148 trivial h1
                refine jj_iload C dX5_putNumber_63 rfl ?_
                refine jj_bipush (v := 20) C dX5_putNumber_65 (by decide) ?_
                refine jj_icmp_ge (tgt := 87) C dX5_putNumber_67 (by decide) (fun c_150 => ?_) (fun c_150 => ?_)
                · have z_c_150 := jc_le (a := (20)) (b := (x_148).toInt) c_150 (by decide) rfl
                  exact jj_vret C ⟨[], pl, rfl, rfl, hok, hfr, hfa, rfl⟩ dX5_putNumber_87 (jj_le rfl) (jj_le rfl)
                · have z_c_150 := jc_nle (a := (20)) (b := (x_148).toInt) c_150 (by decide) rfl
                  refine jj_aload_n C dX5_putNumber_70 rfl ?_
                  refine jj_aload_n C dX5_putNumber_71 rfl ?_
                  refine tt_getF C hok jk_6 2 (by decide) jw_7b666017dd (t := (2, 14, 0)) hk0 (by decide) rfl rfl hf_149 dX5_putNumber_72 ?_
                  refine jj_iload C dX5_putNumber_75 rfl ?_
                  refine tt_bald C hok (t := (0, (-2147483648), 2147483647)) ka_99 (by decide) rfl (vp_in_iff.mpr ⟨by omega, by omega⟩) dX5_putNumber_77 (fun v_151 hv_151 => ?_)
                  obtain ⟨qc, gs, hqc⟩ := tt_recv (cx := []) hok hk0 (by decide) rfl
                  refine tt_callV (rest := []) C (tc_X5_putByte_5 hl D cA ak h0 v_151 hk0 hok) [] [] rfl rfl (by decide) (by decide) (by decide) qc hqc rfl rfl jw_cc20a77ce3 jw_211b56f0bf jw_e8686d9408 jw_30ed28480a jw_f2c63e4be6 jn_X5_putByte rfl (jj_le rfl) (jj_le rfl) (jj_le rfl) (jj_le rfl) (jj_le rfl) dX5_putNumber_78 rfl (fun _ _ _ hX => hX.elim) (fun rx pl_152 r O_155 => ?_)
                  obtain ⟨rfl, hok_153, hr_154, hfa9, hR_157⟩ := O_155
                  replace hf_149 := hr_154.at hk0 (by decide) (by decide) hf_149
                  replace hfr := hfr.trans (hr_154.sub (by decide))
                  replace hfa := hfa.trans (hfa9.sub (by decide))
                  obtain rfl := hR_157
                  obtain ⟨x_160, ex_160, vx_160⟩ := tt_inc (x := x_148) (n := 1) (by omega) (by omega)
                  refine jj_iinc (v := x_160) C dX5_putNumber_81 rfl ex_160 (by decide) rfl ?_
                  refine jj_goto (tgt := 63) C dX5_putNumber_84 (by decide) ?_
                  exact ihL_147 pl_152 x_160 hok_153 hfr hfa hf_149 (by first | omega | decide | exact tt_lo _ | exact tt_hi _) (by first | omega | decide | exact tt_lo _ | exact tt_hi _) (by first | omega | decide | exact tt_lo _ | exact tt_hi _)
            exact hL_147 _ pl_143 x_96 trivial hok_144 hfr hfa hf_98 (by first | omega | decide | exact tt_lo _ | exact tt_hi _) (by first | omega | decide | exact tt_lo _ | exact tt_hi _) (Int.self_le_toNat _)
          · refine jj_iload C dX5_putNumber_54 rfl ?_
            refine jj_if_gt (tgt := 18) C dX5_putNumber_56 (by decide) (fun c_161 => ?_) (fun c_161 => ?_)
            · have z_c_161 := jc_lt (a := (0)) (b := (x_96).toInt) c_161 (by decide) rfl
              refine jj_loc [1, 0, 2, 3] rfl ?_
              exact ihL_93 pl_143 x_96 y_145 hok_144 hfr hfa (by first | omega | decide | exact tt_lo _ | exact tt_hi _) (by first | omega | decide | exact tt_lo _ | exact tt_hi _) (by first | omega | decide | exact tt_lo _ | exact tt_hi _)
            · have z_c_161 := jc_nlt (a := (0)) (b := (x_96).toInt) c_161 (by decide) rfl
              refine jj_iload C dX5_putNumber_59 rfl ?_
              refine jj_istore C dX5_putNumber_61 (by decide) rfl ?_
              have hL_162 : ∀ (N : Nat) (pl : va_W) (x_163 : Int32), True → tt_ok tt_tk cA Kd pl → tt_fr Kd [(12, 1)] pl0 pl → tt_fa Kd [13, 14] pl0 pl → tt_at pl h0 2 (.ref a_99) → (0 : Int) ≤ x_163.toInt → x_163.toInt ≤ 20 → (2147483648 - x_163.toInt ≤ (N : Int)) → jj_J p l e (jj_rm 5 107 0 0) s m args below meth c 7 A (vx_MQ below (jj_q D A (tt_O (fun rx pl1 r => rx = [] ∧ tt_ok tt_tk cA Kd pl1 ∧ tt_fr Kd [(12, 1)] pl0 pl1 ∧ tt_fa Kd [13, 14] pl0 pl1 ∧ ((r = none))))) (jj_x D A (tt_OX (fun _ _ _ => False))) args s 0 0 A) (jj_X D A ([] ++ pl)) 0 0 63 [(6, .int x_163), (3, .long y_145), (5, .int x_96), (0, .ref h0), (1, .long p1)] [] := by
                intro NL_162
                induction NL_162 with
                | zero => intro pl x_163 _ hok hfr hfa hf_164 lx_163 ux_163 hNL_162; exfalso; omega
                | succ NL_162 ihL_162 =>
                  intro pl x_163 _ hok hfr hfa hf_164 lx_163 ux_163 hNL_162
                  replace ihL_162 := fun pl x_163 h1 => ihL_162 pl x_163 trivial h1
                  refine jj_iload C dX5_putNumber_63 rfl ?_
                  refine jj_bipush (v := 20) C dX5_putNumber_65 (by decide) ?_
                  refine jj_icmp_ge (tgt := 87) C dX5_putNumber_67 (by decide) (fun c_165 => ?_) (fun c_165 => ?_)
                  · have z_c_165 := jc_le (a := (20)) (b := (x_163).toInt) c_165 (by decide) rfl
                    exact jj_vret C ⟨[], pl, rfl, rfl, hok, hfr, hfa, rfl⟩ dX5_putNumber_87 (jj_le rfl) (jj_le rfl)
                  · have z_c_165 := jc_nle (a := (20)) (b := (x_163).toInt) c_165 (by decide) rfl
                    refine jj_aload_n C dX5_putNumber_70 rfl ?_
                    refine jj_aload_n C dX5_putNumber_71 rfl ?_
                    refine tt_getF C hok jk_6 2 (by decide) jw_7b666017dd (t := (2, 14, 0)) hk0 (by decide) rfl rfl hf_164 dX5_putNumber_72 ?_
                    refine jj_iload C dX5_putNumber_75 rfl ?_
                    refine tt_bald C hok (t := (0, (-2147483648), 2147483647)) ka_99 (by decide) rfl (vp_in_iff.mpr ⟨by omega, by omega⟩) dX5_putNumber_77 (fun v_166 hv_166 => ?_)
                    obtain ⟨qc, gs, hqc⟩ := tt_recv (cx := []) hok hk0 (by decide) rfl
                    refine tt_callV (rest := []) C (tc_X5_putByte_5 hl D cA ak h0 v_166 hk0 hok) [] [] rfl rfl (by decide) (by decide) (by decide) qc hqc rfl rfl jw_cc20a77ce3 jw_211b56f0bf jw_e8686d9408 jw_30ed28480a jw_f2c63e4be6 jn_X5_putByte rfl (jj_le rfl) (jj_le rfl) (jj_le rfl) (jj_le rfl) (jj_le rfl) dX5_putNumber_78 rfl (fun _ _ _ hX => hX.elim) (fun rx pl_167 r O_170 => ?_)
                    obtain ⟨rfl, hok_168, hr_169, hfa9, hR_172⟩ := O_170
                    replace hf_164 := hr_169.at hk0 (by decide) (by decide) hf_164
                    replace hfr := hfr.trans (hr_169.sub (by decide))
                    replace hfa := hfa.trans (hfa9.sub (by decide))
                    obtain rfl := hR_172
                    obtain ⟨x_175, ex_175, vx_175⟩ := tt_inc (x := x_163) (n := 1) (by omega) (by omega)
                    refine jj_iinc (v := x_175) C dX5_putNumber_81 rfl ex_175 (by decide) rfl ?_
                    refine jj_goto (tgt := 63) C dX5_putNumber_84 (by decide) ?_
                    exact ihL_162 pl_167 x_175 hok_168 hfr hfa hf_164 (by first | omega | decide | exact tt_lo _ | exact tt_hi _) (by first | omega | decide | exact tt_lo _ | exact tt_hi _) (by first | omega | decide | exact tt_lo _ | exact tt_hi _)
              exact hL_162 _ pl_143 x_96 trivial hok_144 hfr hfa hf_98 (by first | omega | decide | exact tt_lo _ | exact tt_hi _) (by first | omega | decide | exact tt_lo _ | exact tt_hi _) (Int.self_le_toNat _)
    exact hL_93 _ pl_85 (20 : Int32) p1 trivial hok_86 hfr hfa (by first | omega | decide | exact tt_lo _ | exact tt_hi _) (by first | omega | decide | exact tt_lo _ | exact tt_hi _) (Int.self_le_toNat _)

