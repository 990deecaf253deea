theorem jw_99581c8f4d : Cond.fieldLink RX11 25 "SeriesFundModel" "past" "[J" ∈ jj_G := jj_t6 (List.mem_of_getElem? (i := 159) (by decide +kernel)) rfl
theorem jw_25762f0b98 : Cond.fieldLink RX11 13 "SeriesFundModel" "aside" "[J" ∈ jj_G := jj_t6 (List.mem_of_getElem? (i := 155) (by decide +kernel)) rfl
theorem jw_74a0b28c12 : Cond.code yX11_push cX11_push 2 none ∈ jj_G := jj_t7 (List.mem_of_getElem? (i := 17) (by decide +kernel)) rfl
theorem jw_c80a63daf0 : Cond.methodLink RX11 80 yX11_push ∈ jj_G := jj_t7 (List.mem_of_getElem? (i := 14) (by decide +kernel)) rfl
theorem jw_785b532b41 : Cond.instanceMethod yX11_push ∈ jj_G := jj_t7 (List.mem_of_getElem? (i := 16) (by decide +kernel)) rfl
theorem jw_195b7eab6b : Cond.selects RX11 yX11_push yX11_push ∈ jj_G := jj_pv (q := (yX11_push, 25)) (by decide +kernel)
theorem jn_X11_push : jj_N yX11_push 0 := by unfold jj_N; decide +kernel
theorem jw_041a43c133 : Cond.code yX11_remember cX11_remember 1 none ∈ jj_G := jj_t7 (List.mem_of_getElem? (i := 10) (by decide +kernel)) rfl
theorem jw_256e392c05 : Cond.code yX11_undo cX11_undo 2 (some .int) ∈ jj_G := jj_t6 (List.mem_of_getElem? (i := 234) (by decide +kernel)) rfl

set_option maxHeartbeats 4000000 in
set_option maxRecDepth 100000 in
theorem rs_push {l : Launch} (hl : l.stackTraces = false) (D : va_G) (cA : Nat → ClassId) (ak : (Nat → Nat) × (Nat → Nat)) {Kd : Nat → Nat} {h0 aw aa at0 ai af ap : Nat} (n6 : Nat) (B C9 : Int) (a9 P : Nat → Int64) (hk0 : Kd h0 = 1) (hkw : Kd aw = 2) (hka : Kd aa = 3) (hkt : Kd at0 = 4) (hki : Kd ai = 5) (hkf : Kd af = 6) (hkp : Kd ap = 7) (ln6 : (0 : Int) ≤ (n6 : Int)) (un6 : (n6 : Int) ≤ 10) (hHP : rl_HP B C9 P n6) (hKa : rl_K B C9 a9) {pl0 : va_W} (hok : tt_ok rt_tk cA Kd pl0) (hm : rl_m pl0 h0 aw aa at0 ai af ap) (hCa : tt_lc pl0 aa a9) (hCp : tt_lc pl0 ap P) (hs6 : tt_at pl0 h0 6 (.int (nI n6))) : jj_M l D cA ak yX11_push (.code yX11_push cX11_push 2 none) 0 0 0 0 ([] ++ pl0) [.ref h0] (tt_O (fun rx pl1 r => rx = [] ∧ tt_ok rt_tk cA Kd pl1 ∧ tt_fr Kd [(1, 6)] pl0 pl1 ∧ tt_fa Kd [7] pl0 pl1 ∧ ((∃ (Q : Nat → Int64) (n : Nat), tt_lc pl1 ap Q ∧ tt_at pl1 h0 6 (.int (nI n)) ∧ n ≤ 10 ∧ rl_HP B C9 Q n ∧ r = none)))) (tt_OX (fun _ _ _ => False)) := by
  refine jj_start hl (by decide) jw_74a0b28c12 (jj_le rfl) ?_
  intro p e s m args below meth c A hargs hA C hex hmn
  have hfr := tt_fr.refl (K := Kd) (WS := [(1, 6)]) pl0
  have hfa := tt_fa.refl (K := Kd) (WA := [7]) pl0
  refine jj_aload_n C dX11_push_0 rfl ?_
  refine tt_getF C hok jk_12 6 (by decide) jw_39db7f12ad (t := (0, 0, 10)) hk0 (by decide) rfl rfl hs6 dX11_push_1 ?_
  refine jj_bipush (v := 10) C dX11_push_4 (by decide) ?_
  refine jj_icmp_ne (tgt := 52) C dX11_push_6 (by decide) (fun c_1 => ?_) (fun c_1 => ?_)
  · have z_c_1 := jc_neq (a := ((n6 : Nat) : Int)) (b := 10) c_1 (rl_ti (by omega)) (by decide)
    have hQ_2 : rl_HP B C9 P n6 := (hHP)
    refine jj_iconst (v := 0) C dX11_push_52 (by decide) ?_
    refine jj_istore_n C dX11_push_53 (by decide) rfl ?_
    have hL_3 : ∀ (N : Nat) (pl : va_W) (k_4 : Nat) (g_5 : Nat → Int64), True → tt_ok rt_tk cA Kd pl → tt_fr Kd [(1, 6)] pl0 pl → tt_fa Kd [7] pl0 pl → rl_m pl h0 aw aa at0 ai af ap → tt_at pl h0 6 (.int (nI n6)) → tt_lc pl aa a9 → tt_lc pl ap g_5 → rl_ST P a9 g_5 n6 k_4 → (0 : Int) ≤ (k_4 : Int) → (k_4 : Int) ≤ 399 → (2147483648 - (k_4 : Int) ≤ (N : Int)) → jj_J p l e (jj_rm 0 0 0 0) s m args below meth c 2 A (vx_MQ below (jj_q D A (tt_O (fun rx pl1 r => rx = [] ∧ tt_ok rt_tk cA Kd pl1 ∧ tt_fr Kd [(1, 6)] pl0 pl1 ∧ tt_fa Kd [7] pl0 pl1 ∧ ((∃ (Q : Nat → Int64) (n : Nat), tt_lc pl1 ap Q ∧ tt_at pl1 h0 6 (.int (nI n)) ∧ n ≤ 10 ∧ rl_HP B C9 Q n ∧ r = none))))) (jj_x D A (tt_OX (fun _ _ _ => False))) args s 0 0 A) (jj_X D A ([] ++ pl)) 0 0 54 [(1, .int (nI k_4)), (0, .ref h0)] [] := by
      intro NL_3
      induction NL_3 with
      | zero => intro pl k_4 g_5 _ hok hfr hfa hm hf_6 hCa hC_7 hD_8 lk_4 uk_4 hNL_3; exfalso; omega
      | succ NL_3 ihL_3 =>
        intro pl k_4 g_5 _ hok hfr hfa hm hf_6 hCa hC_7 hD_8 lk_4 uk_4 hNL_3
        replace ihL_3 := fun pl k_4 g_5 h1 => ihL_3 pl k_4 g_5 trivial h1
        refine jj_iload_n C dX11_push_54 rfl ?_
        refine jj_sipush (v := 334) C dX11_push_55 (by decide) ?_
        refine jj_icmp_ge (tgt := 88) C dX11_push_58 (by decide) (fun c_9 => ?_) (fun c_9 => ?_)
        · have z_c_9 := jc_le (a := 334) (b := ((k_4 : Nat) : Int)) c_9 (by decide) (rl_ti (by omega))
          refine jj_aload_n C dX11_push_88 rfl ?_
          refine jj_dup C dX11_push_89 rfl ?_
          refine tt_getF C hok jk_12 6 (by decide) jw_39db7f12ad (t := (0, 0, 10)) hk0 (by decide) rfl rfl hf_6 dX11_push_90 ?_
          refine jj_iconst (v := 1) C dX11_push_93 (by decide) ?_
          refine jj_iadd (v := nI (1 + n6)) C dX11_push_94 (rl_addR (kn := 1) (by decide) (by omega)) ?_
          refine rl_put C hok jk_12 6 (by decide) jw_39db7f12ad (t := (0, 0, 10)) hk0 (by decide) rfl rfl rfl (rl_iv (by omega) (by omega)) rfl rfl dX11_push_95 (fun pl_10 hok_11 tr hn tl => ?_)
          have hf_12 := hn
          replace hm := hm.put tr (by decide)
          replace hfr := hfr.put hk0 tr (by decide)
          replace hCa := tl _ _ hCa
          replace hC_7 := tl _ _ hC_7
          replace hfa := hfa.all tl
          exact jj_vret C ⟨[], pl_10, rfl, rfl, hok_11, hfr, hfa, ⟨g_5, (1 + n6), hC_7, hf_12, (by omega), hD_8.fin (by omega) hQ_2 hKa, rfl⟩⟩ dX11_push_98 (jj_le rfl) (jj_le rfl)
        · have z_c_9 := jc_nle (a := 334) (b := ((k_4 : Nat) : Int)) c_9 (by decide) (rl_ti (by omega))
          refine jj_aload_n C dX11_push_61 rfl ?_
          refine tt_getF C hok jk_12 5 (by decide) jw_99581c8f4d (t := (2, 7, 0)) hk0 (by decide) rfl rfl hm.2.2.2.2.2 dX11_push_62 ?_
          refine jj_sipush (v := 334) C dX11_push_65 (by decide) ?_
          refine jj_aload_n C dX11_push_68 rfl ?_
          refine tt_getF C hok jk_12 6 (by decide) jw_39db7f12ad (t := (0, 0, 10)) hk0 (by decide) rfl rfl hf_6 dX11_push_69 ?_
          refine jj_imul (v := nI (334 * n6)) C dX11_push_72 (rl_mulL (kn := 334) (by decide) (by omega)) ?_
          refine jj_iload_n C dX11_push_73 rfl ?_
          refine jj_iadd (v := nI (k_4 + 334 * n6)) C dX11_push_74 (rl_add (by omega)) ?_
          refine jj_aload_n C dX11_push_75 rfl ?_
          refine tt_getF C hok jk_12 1 (by decide) jw_25762f0b98 (t := (2, 3, 0)) hk0 (by decide) rfl rfl hm.2.1 dX11_push_76 ?_
          refine jj_iload_n C dX11_push_79 rfl ?_
          refine rl_lald C hok (t := (1, (-9223372036854775808), 9223372036854775807)) hka (by decide) rfl (k := k_4) (v := (a9 k_4)) (vp_in_nI (by omega) (by decide)) hCa (nI_clamp (by omega)) rfl dX11_push_80 ?_
          refine rl_last C hok (t := (1, (-9223372036854775808), 9223372036854775807)) hkp (by decide) rfl (k := k_4 + 334 * n6) (vp_in_nI (by omega) (by decide)) (tt_ja _) (nI_clamp (by omega)) dX11_push_81 (fun pl_13 hok_14 tr tl tw => ?_)
          replace hf_6 := tr _ _ _ hf_6
          replace hm := hm.arr tr
          replace hfr := hfr.arr tr
          replace hCa := tl _ _ (tt_ne hka hkp (by decide)) hCa
          replace hC_7 := tw _ hC_7
          replace hfa := hfa.wr hkp tl (by decide)
          refine jj_iinc (v := nI (1 + k_4)) C dX11_push_82 rfl (rl_addR (kn := 1) (by decide) (by omega)) (by decide) rfl ?_
          refine jj_goto (tgt := 54) C dX11_push_85 (by decide) ?_
          exact ihL_3 pl_13 (1 + k_4) (vp_updL g_5 (k_4 + 334 * n6) (a9 k_4)) hok_14 hfr hfa hm hf_6 hCa hC_7 (hD_8.step (by omega)) (by first | omega | decide | exact tt_lo _ | exact tt_hi _) (by first | omega | decide | exact tt_lo _ | exact tt_hi _) (by first | omega | decide | exact tt_lo _ | exact tt_hi _)
    exact hL_3 _ pl0 0 P trivial hok hfr hfa hm hs6 hCa hCp (rl_ST.init P a9 n6) (by first | omega | decide | exact tt_lo _ | exact tt_hi _) (by first | omega | decide | exact tt_lo _ | exact tt_hi _) (Int.self_le_toNat _)
  · have z_c_1 := jc_eq (a := ((n6 : Nat) : Int)) (b := 10) c_1 (rl_ti (by omega)) (by decide)
    refine jj_sipush (v := 334) C dX11_push_9 (by decide) ?_
    refine jj_istore_n C dX11_push_12 (by decide) rfl ?_
    have hL_15 : ∀ (N : Nat) (pl : va_W) (k_16 : Nat) (g_17 : Nat → Int64), True → tt_ok rt_tk cA Kd pl → tt_fr Kd [(1, 6)] pl0 pl → tt_fa Kd [7] pl0 pl → rl_m pl h0 aw aa at0 ai af ap → tt_at pl h0 6 (.int (nI n6)) → tt_lc pl aa a9 → tt_lc pl ap g_17 → rl_SH P g_17 k_16 → (334 : Int) ≤ (k_16 : Int) → (k_16 : Int) ≤ 2147483647 → (2147483648 - (k_16 : Int) ≤ (N : Int)) → jj_J p l e (jj_rm 0 0 0 0) s m args below meth c 2 A (vx_MQ below (jj_q D A (tt_O (fun rx pl1 r => rx = [] ∧ tt_ok rt_tk cA Kd pl1 ∧ tt_fr Kd [(1, 6)] pl0 pl1 ∧ tt_fa Kd [7] pl0 pl1 ∧ ((∃ (Q : Nat → Int64) (n : Nat), tt_lc pl1 ap Q ∧ tt_at pl1 h0 6 (.int (nI n)) ∧ n ≤ 10 ∧ rl_HP B C9 Q n ∧ r = none))))) (jj_x D A (tt_OX (fun _ _ _ => False))) args s 0 0 A) (jj_X D A ([] ++ pl)) 0 0 13 [(1, .int (nI k_16)), (0, .ref h0)] [] := by
      intro NL_15
      induction NL_15 with
      | zero => intro pl k_16 g_17 _ hok hfr hfa hm hf_18 hCa hC_19 hD_20 lk_16 uk_16 hNL_15; exfalso; omega
      | succ NL_15 ihL_15 =>
        intro pl k_16 g_17 _ hok hfr hfa hm hf_18 hCa hC_19 hD_20 lk_16 uk_16 hNL_15
        replace ihL_15 := fun pl k_16 g_17 h1 => ihL_15 pl k_16 g_17 trivial h1
        refine jj_iload_n C dX11_push_13 rfl ?_
        refine jj_sipush (v := 3340) C dX11_push_14 (by decide) ?_
        refine jj_icmp_ge (tgt := 42) C dX11_push_17 (by decide) (fun c_21 => ?_) (fun c_21 => ?_)
        · have z_c_21 := jc_le (a := 3340) (b := ((k_16 : Nat) : Int)) c_21 (by decide) (rl_ti (by omega))
          refine jj_aload_n C dX11_push_42 rfl ?_
          refine jj_dup C dX11_push_43 rfl ?_
          refine tt_getF C hok jk_12 6 (by decide) jw_39db7f12ad (t := (0, 0, 10)) hk0 (by decide) rfl rfl hf_18 dX11_push_44 ?_
          refine jj_iconst (v := 1) C dX11_push_47 (by decide) ?_
          obtain ⟨x_22, ex_22, vx_22⟩ := tt_isub (x := (nI n6)) (y := (1 : Int32)) (a := ((n6 : Nat) : Int)) (rl_ti (by omega)) (b := 1) (by decide) (by omega) (by omega)
          refine jj_isub (v := x_22) C dX11_push_48 ex_22 ?_
          obtain ⟨n_23, rfl, bn_23⟩ := rl_nat (x := x_22) (by omega)
          have vn_23 := rl_ti bn_23
          refine rl_put C hok jk_12 6 (by decide) jw_39db7f12ad (t := (0, 0, 10)) hk0 (by decide) rfl rfl rfl (rl_iv (by omega) (by omega)) rfl rfl dX11_push_49 (fun pl_24 hok_25 tr hn tl => ?_)
          have hf_26 := hn
          replace hm := hm.put tr (by decide)
          replace hfr := hfr.put hk0 tr (by decide)
          replace hCa := tl _ _ hCa
          replace hC_19 := tl _ _ hC_19
          replace hfa := hfa.all tl
          have hQ_27 : rl_HP B C9 g_17 n_23 := (by have e8 : n_23 = 9 := (by omega); rw [e8]; exact hD_20.fin (by omega) (by have e9 : n6 = 10 := (by omega); rw [e9] at hHP; exact hHP))
          refine jj_iconst (v := 0) C dX11_push_52 (by decide) ?_
          refine jj_istore_n C dX11_push_53 (by decide) rfl ?_
          have hL_28 : ∀ (N : Nat) (pl : va_W) (k_29 : Nat) (g_30 : Nat → Int64), True → tt_ok rt_tk cA Kd pl → tt_fr Kd [(1, 6)] pl0 pl → tt_fa Kd [7] pl0 pl → rl_m pl h0 aw aa at0 ai af ap → tt_at pl h0 6 (.int (nI n_23)) → tt_lc pl aa a9 → tt_lc pl ap g_30 → rl_ST g_17 a9 g_30 n_23 k_29 → (0 : Int) ≤ (k_29 : Int) → (k_29 : Int) ≤ 399 → (2147483648 - (k_29 : Int) ≤ (N : Int)) → jj_J p l e (jj_rm 0 0 0 0) s m args below meth c 2 A (vx_MQ below (jj_q D A (tt_O (fun rx pl1 r => rx = [] ∧ tt_ok rt_tk cA Kd pl1 ∧ tt_fr Kd [(1, 6)] pl0 pl1 ∧ tt_fa Kd [7] pl0 pl1 ∧ ((∃ (Q : Nat → Int64) (n : Nat), tt_lc pl1 ap Q ∧ tt_at pl1 h0 6 (.int (nI n)) ∧ n ≤ 10 ∧ rl_HP B C9 Q n ∧ r = none))))) (jj_x D A (tt_OX (fun _ _ _ => False))) args s 0 0 A) (jj_X D A ([] ++ pl)) 0 0 54 [(1, .int (nI k_29)), (0, .ref h0)] [] := by
            intro NL_28
            induction NL_28 with
            | zero => intro pl k_29 g_30 _ hok hfr hfa hm hf_31 hCa hC_32 hD_33 lk_29 uk_29 hNL_28; exfalso; omega
            | succ NL_28 ihL_28 =>
              intro pl k_29 g_30 _ hok hfr hfa hm hf_31 hCa hC_32 hD_33 lk_29 uk_29 hNL_28
              replace ihL_28 := fun pl k_29 g_30 h1 => ihL_28 pl k_29 g_30 trivial h1
              refine jj_iload_n C dX11_push_54 rfl ?_
              refine jj_sipush (v := 334) C dX11_push_55 (by decide) ?_
              refine jj_icmp_ge (tgt := 88) C dX11_push_58 (by decide) (fun c_34 => ?_) (fun c_34 => ?_)
              · have z_c_34 := jc_le (a := 334) (b := ((k_29 : Nat) : Int)) c_34 (by decide) (rl_ti (by omega))
                refine jj_aload_n C dX11_push_88 rfl ?_
                refine jj_dup C dX11_push_89 rfl ?_
                refine tt_getF C hok jk_12 6 (by decide) jw_39db7f12ad (t := (0, 0, 10)) hk0 (by decide) rfl rfl hf_31 dX11_push_90 ?_
                refine jj_iconst (v := 1) C dX11_push_93 (by decide) ?_
                refine jj_iadd (v := nI (1 + n_23)) C dX11_push_94 (rl_addR (kn := 1) (by decide) (by omega)) ?_
                refine rl_put C hok jk_12 6 (by decide) jw_39db7f12ad (t := (0, 0, 10)) hk0 (by decide) rfl rfl rfl (rl_iv (by omega) (by omega)) rfl rfl dX11_push_95 (fun pl_35 hok_36 tr hn tl => ?_)
                have hf_37 := hn
                replace hm := hm.put tr (by decide)
                replace hfr := hfr.put hk0 tr (by decide)
                replace hCa := tl _ _ hCa
                replace hC_32 := tl _ _ hC_32
                replace hfa := hfa.all tl
                exact jj_vret C ⟨[], pl_35, rfl, rfl, hok_36, hfr, hfa, ⟨g_30, (1 + n_23), hC_32, hf_37, (by omega), hD_33.fin (by omega) hQ_27 hKa, rfl⟩⟩ dX11_push_98 (jj_le rfl) (jj_le rfl)
              · have z_c_34 := jc_nle (a := 334) (b := ((k_29 : Nat) : Int)) c_34 (by decide) (rl_ti (by omega))
                refine jj_aload_n C dX11_push_61 rfl ?_
                refine tt_getF C hok jk_12 5 (by decide) jw_99581c8f4d (t := (2, 7, 0)) hk0 (by decide) rfl rfl hm.2.2.2.2.2 dX11_push_62 ?_
                refine jj_sipush (v := 334) C dX11_push_65 (by decide) ?_
                refine jj_aload_n C dX11_push_68 rfl ?_
                refine tt_getF C hok jk_12 6 (by decide) jw_39db7f12ad (t := (0, 0, 10)) hk0 (by decide) rfl rfl hf_31 dX11_push_69 ?_
                refine jj_imul (v := nI (334 * n_23)) C dX11_push_72 (rl_mulL (kn := 334) (by decide) (by omega)) ?_
                refine jj_iload_n C dX11_push_73 rfl ?_
                refine jj_iadd (v := nI (k_29 + 334 * n_23)) C dX11_push_74 (rl_add (by omega)) ?_
                refine jj_aload_n C dX11_push_75 rfl ?_
                refine tt_getF C hok jk_12 1 (by decide) jw_25762f0b98 (t := (2, 3, 0)) hk0 (by decide) rfl rfl hm.2.1 dX11_push_76 ?_
                refine jj_iload_n C dX11_push_79 rfl ?_
                refine rl_lald C hok (t := (1, (-9223372036854775808), 9223372036854775807)) hka (by decide) rfl (k := k_29) (v := (a9 k_29)) (vp_in_nI (by omega) (by decide)) hCa (nI_clamp (by omega)) rfl dX11_push_80 ?_
                refine rl_last C hok (t := (1, (-9223372036854775808), 9223372036854775807)) hkp (by decide) rfl (k := k_29 + 334 * n_23) (vp_in_nI (by omega) (by decide)) (tt_ja _) (nI_clamp (by omega)) dX11_push_81 (fun pl_38 hok_39 tr tl tw => ?_)
                replace hf_31 := tr _ _ _ hf_31
                replace hm := hm.arr tr
                replace hfr := hfr.arr tr
                replace hCa := tl _ _ (tt_ne hka hkp (by decide)) hCa
                replace hC_32 := tw _ hC_32
                replace hfa := hfa.wr hkp tl (by decide)
                refine jj_iinc (v := nI (1 + k_29)) C dX11_push_82 rfl (rl_addR (kn := 1) (by decide) (by omega)) (by decide) rfl ?_
                refine jj_goto (tgt := 54) C dX11_push_85 (by decide) ?_
                exact ihL_28 pl_38 (1 + k_29) (vp_updL g_30 (k_29 + 334 * n_23) (a9 k_29)) hok_39 hfr hfa hm hf_31 hCa hC_32 (hD_33.step (by omega)) (by first | omega | decide | exact tt_lo _ | exact tt_hi _) (by first | omega | decide | exact tt_lo _ | exact tt_hi _) (by first | omega | decide | exact tt_lo _ | exact tt_hi _)
          exact hL_28 _ pl_24 0 g_17 trivial hok_25 hfr hfa hm hf_26 hCa hC_19 (rl_ST.init g_17 a9 n_23) (by first | omega | decide | exact tt_lo _ | exact tt_hi _) (by first | omega | decide | exact tt_lo _ | exact tt_hi _) (Int.self_le_toNat _)
        · have z_c_21 := jc_nle (a := 3340) (b := ((k_16 : Nat) : Int)) c_21 (by decide) (rl_ti (by omega))
          refine jj_aload_n C dX11_push_20 rfl ?_
          refine tt_getF C hok jk_12 5 (by decide) jw_99581c8f4d (t := (2, 7, 0)) hk0 (by decide) rfl rfl hm.2.2.2.2.2 dX11_push_21 ?_
          refine jj_iload_n C dX11_push_24 rfl ?_
          refine jj_sipush (v := 334) C dX11_push_25 (by decide) ?_
          obtain ⟨x_40, ex_40, vx_40⟩ := tt_isub (x := (nI k_16)) (y := (334 : Int32)) (a := ((k_16 : Nat) : Int)) (rl_ti (by omega)) (b := 334) (by decide) (by omega) (by omega)
          refine jj_isub (v := x_40) C dX11_push_28 ex_40 ?_
          refine jj_aload_n C dX11_push_29 rfl ?_
          refine tt_getF C hok jk_12 5 (by decide) jw_99581c8f4d (t := (2, 7, 0)) hk0 (by decide) rfl rfl hm.2.2.2.2.2 dX11_push_30 ?_
          refine jj_iload_n C dX11_push_33 rfl ?_
          refine rl_lald C hok (t := (1, (-9223372036854775808), 9223372036854775807)) hkp (by decide) rfl (k := k_16) (v := (g_17 k_16)) (vp_in_nI (by omega) (by decide)) hC_19 (nI_clamp (by omega)) rfl dX11_push_34 ?_
          obtain ⟨n_41, rfl, bn_41⟩ := rl_nat (x := x_40) (by omega)
          have vn_41 := rl_ti bn_41
          refine rl_last C hok (t := (1, (-9223372036854775808), 9223372036854775807)) hkp (by decide) rfl (k := n_41) (vp_in_nI (by omega) (by decide)) (tt_ja _) (nI_clamp (by omega)) dX11_push_35 (fun pl_42 hok_43 tr tl tw => ?_)
          replace hf_18 := tr _ _ _ hf_18
          replace hm := hm.arr tr
          replace hfr := hfr.arr tr
          replace hCa := tl _ _ (tt_ne hka hkp (by decide)) hCa
          replace hC_19 := tw _ hC_19
          replace hfa := hfa.wr hkp tl (by decide)
          refine jj_iinc (v := nI (1 + k_16)) C dX11_push_36 rfl (rl_addR (kn := 1) (by decide) (by omega)) (by decide) rfl ?_
          refine jj_goto (tgt := 13) C dX11_push_39 (by decide) ?_
          exact ihL_15 pl_42 (1 + k_16) (vp_updL g_17 n_41 (g_17 k_16)) hok_43 hfr hfa hm hf_18 hCa hC_19 (hD_20.step (by omega)) (by first | omega | decide | exact tt_lo _ | exact tt_hi _) (by first | omega | decide | exact tt_lo _ | exact tt_hi _) (by first | omega | decide | exact tt_lo _ | exact tt_hi _)
    exact hL_15 _ pl0 334 P trivial hok hfr hfa hm hs6 hCa hCp (rl_SH.init P) (by first | omega | decide | exact tt_lo _ | exact tt_hi _) (by first | omega | decide | exact tt_lo _ | exact tt_hi _) (Int.self_le_toNat _)

set_option maxHeartbeats 4000000 in
set_option maxRecDepth 100000 in
theorem rs_remember {l : Launch} (hl : l.stackTraces = false) (D : va_G) (cA : Nat → ClassId) (ak : (Nat → Nat) × (Nat → Nat)) {Kd : Nat → Nat} {h0 aw aa at0 ai af ap : Nat} (n6 : Nat) (B C9 : Int) (f P : Nat → Int64) (hk0 : Kd h0 = 1) (hkw : Kd aw = 2) (hka : Kd aa = 3) (hkt : Kd at0 = 4) (hki : Kd ai = 5) (hkf : Kd af = 6) (hkp : Kd ap = 7) (ln6 : (0 : Int) ≤ (n6 : Int)) (un6 : (n6 : Int) ≤ 10) (hK : rl_K B C9 f) (hHP : rl_HP B C9 P n6) {pl0 : va_W} (hok : tt_ok rt_tk cA Kd pl0) (hm : rl_m pl0 h0 aw aa at0 ai af ap) (hC : tt_lc pl0 aw f) (hCp : tt_lc pl0 ap P) (hs6 : tt_at pl0 h0 6 (.int (nI n6))) : jj_M l D cA ak yX11_remember (.code yX11_remember cX11_remember 1 none) 1 22 0 0 ([] ++ pl0) [.ref h0] (tt_O (fun rx pl1 r => rx = [] ∧ tt_ok rt_tk cA Kd pl1 ∧ tt_fr Kd [(1, 6)] pl0 pl1 ∧ tt_fa Kd [3, 7] pl0 pl1 ∧ ((∃ (Q : Nat → Int64) (n : Nat), tt_lc pl1 ap Q ∧ tt_at pl1 h0 6 (.int (nI n)) ∧ n ≤ 10 ∧ rl_HP B C9 Q n ∧ r = none)))) (tt_OX (fun _ _ _ => False)) := by
  refine jj_start hl (by decide) jw_041a43c133 (jj_le rfl) ?_
  intro p e s m args below meth c A hargs hA C hex hmn
  have hfr := tt_fr.refl (K := Kd) (WS := [(1, 6)]) pl0
  have hfa := tt_fa.refl (K := Kd) (WA := [3, 7]) pl0
  refine jj_aload_n C dX11_remember_0 rfl ?_
  refine tt_getF C hok jk_12 0 (by decide) jw_34eaf3ba8b (t := (2, 2, 0)) hk0 (by decide) rfl rfl hm.1 dX11_remember_1 ?_
  refine jj_aload_n C dX11_remember_4 rfl ?_
  refine tt_getF C hok jk_12 1 (by decide) jw_25762f0b98 (t := (2, 3, 0)) hk0 (by decide) rfl rfl hm.2.1 dX11_remember_5 ?_
  refine tt_callS (rest := []) C (rs_copy_aw_aa hl D cA ak f hk0 hkw hka hkt hki hkf hkp hok hm hC) [] [] rfl rfl (by decide) (by decide) (by decide) jw_b2f7d68e03 jw_8cf8ac8b0e jw_f96c99f44d jw_1431b790b8 jn_X11_copy rfl (jj_le rfl) (jj_le rfl) (jj_le rfl) (jj_le rfl) (jj_le rfl) dX11_remember_8 rfl (fun _ _ _ hX => hX.elim) (fun rx pl_1 r O_5 => ?_)
  obtain ⟨rfl, hok_2, hr_3, ha_4, hR_6⟩ := O_5
  replace hs6 := hr_3.at hk0 (by decide) (by decide) hs6
  replace hC := ha_4.at hkw (by decide) (by decide) hC
  replace hCp := ha_4.at hkp (by decide) (by decide) hCp
  replace hm := hm.fr hr_3 hk0 rfl
  replace hfr := hfr.trans (hr_3.sub (by decide))
  replace hfa := hfa.trans (ha_4.sub (by decide))
  obtain ⟨g_7, hC_8, he_9, rfl⟩ := hR_6
  refine jj_aload_n C dX11_remember_11 rfl ?_
  obtain ⟨qc, gs, hqc⟩ := tt_recv (cx := []) hok_2 hk0 (by decide) rfl
  refine tt_callV (rest := []) C (rs_push hl D cA ak n6 B C9 g_7 P hk0 hkw hka hkt hki hkf hkp (by first | omega | decide) (by first | omega | decide) hHP (hK.cong he_9) hok_2 hm hC_8 hCp hs6) [] [] rfl rfl (by decide) (by decide) (by decide) qc hqc rfl rfl jw_c80a63daf0 jw_785b532b41 jw_195b7eab6b jw_f96c99f44d jw_74a0b28c12 jn_X11_push rfl (jj_le rfl) (jj_le rfl) (jj_le rfl) (jj_le rfl) (jj_le rfl) dX11_remember_12 rfl (fun _ _ _ hX => hX.elim) (fun rx pl_10 r O_14 => ?_)
  obtain ⟨rfl, hok_11, hr_12, ha_13, hR_15⟩ := O_14
  replace hC := ha_13.at hkw (by decide) (by decide) hC
  replace hC_8 := ha_13.at hka (by decide) (by decide) hC_8
  replace hm := hm.fr hr_12 hk0 rfl
  replace hfr := hfr.trans (hr_12.sub (by decide))
  replace hfa := hfa.trans (ha_13.sub (by decide))
  obtain ⟨g_16, n_17, hC_18, hf_19, hn_20, hQ_21, rfl⟩ := hR_15
  exact jj_vret C ⟨[], pl_10, rfl, rfl, hok_11, hfr, hfa, ⟨g_16, n_17, hC_18, hf_19, hn_20, hQ_21, rfl⟩⟩ dX11_remember_15 (jj_le rfl) (jj_le rfl)

set_option maxHeartbeats 4000000 in
set_option maxRecDepth 100000 in
theorem rs_undo {l : Launch} (hl : l.stackTraces = false) (D : va_G) (cA : Nat → ClassId) (ak : (Nat → Nat) × (Nat → Nat)) {Kd : Nat → Nat} {h0 aw aa at0 ai af ap : Nat} (n6 : Nat) (B C9 : Int) (f P : Nat → Int64) (hk0 : Kd h0 = 1) (hkw : Kd aw = 2) (hka : Kd aa = 3) (hkt : Kd at0 = 4) (hki : Kd ai = 5) (hkf : Kd af = 6) (hkp : Kd ap = 7) (ln6 : (0 : Int) ≤ (n6 : Int)) (un6 : (n6 : Int) ≤ 10) (hK : rl_K B C9 f) (hHP : rl_HP B C9 P n6) {pl0 : va_W} (hok : tt_ok rt_tk cA Kd pl0) (hm : rl_m pl0 h0 aw aa at0 ai af ap) (hC : tt_lc pl0 aw f) (hCp : tt_lc pl0 ap P) (hs6 : tt_at pl0 h0 6 (.int (nI n6))) : jj_M l D cA ak yX11_undo (.code yX11_undo cX11_undo 2 (some .int)) 1 21 0 0 ([] ++ pl0) [.ref h0] (tt_O (fun rx pl1 r => rx = [] ∧ tt_ok rt_tk cA Kd pl1 ∧ tt_fr Kd [(1, 6), (1, 7)] pl0 pl1 ∧ tt_fa Kd [2] pl0 pl1 ∧ ((rl_M B C9 pl1 h0 aw ap ∧ ∃ v : Int32, r = some (.int v))))) (tt_OX (fun _ _ _ => False)) := by
  refine jj_start hl (by decide) jw_256e392c05 (jj_le rfl) ?_
  intro p e s m args below meth c A hargs hA C hex hmn
  have hfr := tt_fr.refl (K := Kd) (WS := [(1, 6), (1, 7)]) pl0
  have hfa := tt_fa.refl (K := Kd) (WA := [2]) pl0
  refine jj_aload_n C dX11_undo_0 rfl ?_
  refine tt_getF C hok jk_12 6 (by decide) jw_39db7f12ad (t := (0, 0, 10)) hk0 (by decide) rfl rfl hs6 dX11_undo_1 ?_
  refine jj_if_ne (tgt := 13) C dX11_undo_4 (by decide) (fun c_1 => ?_) (fun c_1 => ?_)
  · have z_c_1 := jc_neq (a := ((n6 : Nat) : Int)) (b := 0) c_1 (rl_ti (by omega)) (by decide)
    refine jj_aload_n C dX11_undo_13 rfl ?_
    refine jj_iconst (v := 0) C dX11_undo_14 (by decide) ?_
    refine rl_put C hok jk_12 7 (by decide) jw_0a65e3738e (t := (0, (-2147483648), 2147483647)) hk0 (by decide) rfl rfl rfl (tt_ia (0 : Int32)) rfl rfl dX11_undo_15 (fun pl_2 hok_3 tr hn tl => ?_)
    replace hs6 := tr _ _ _ (Or.inr (by decide)) hs6
    have hf_4 := hn
    replace hm := hm.put tr (by decide)
    replace hfr := hfr.put hk0 tr (by decide)
    replace hC := tl _ _ hC
    replace hCp := tl _ _ hCp
    replace hfa := hfa.all tl
    refine jj_aload_n C dX11_undo_18 rfl ?_
    refine jj_dup C dX11_undo_19 rfl ?_
    refine tt_getF C hok_3 jk_12 6 (by decide) jw_39db7f12ad (t := (0, 0, 10)) hk0 (by decide) rfl rfl hs6 dX11_undo_20 ?_
    refine jj_iconst (v := 1) C dX11_undo_23 (by decide) ?_
    obtain ⟨x_5, ex_5, vx_5⟩ := tt_isub (x := (nI n6)) (y := (1 : Int32)) (a := ((n6 : Nat) : Int)) (rl_ti (by omega)) (b := 1) (by decide) (by omega) (by omega)
    refine jj_isub (v := x_5) C dX11_undo_24 ex_5 ?_
    obtain ⟨n_6, rfl, bn_6⟩ := rl_nat (x := x_5) (by omega)
    have vn_6 := rl_ti bn_6
    refine rl_put C hok_3 jk_12 6 (by decide) jw_39db7f12ad (t := (0, 0, 10)) hk0 (by decide) rfl rfl rfl (rl_iv (by omega) (by omega)) rfl rfl dX11_undo_25 (fun pl_7 hok_8 tr hn tl => ?_)
    replace hf_4 := tr _ _ _ (Or.inr (by decide)) hf_4
    have hf_9 := hn
    replace hm := hm.put tr (by decide)
    replace hfr := hfr.put hk0 tr (by decide)
    replace hC := tl _ _ hC
    replace hCp := tl _ _ hCp
    replace hfa := hfa.all tl
    refine jj_iconst (v := 0) C dX11_undo_28 (by decide) ?_
    refine jj_istore_n C dX11_undo_29 (by decide) rfl ?_
    have hL_10 : ∀ (N : Nat) (pl : va_W) (k_11 : Nat) (g_12 : Nat → Int64), True → tt_ok rt_tk cA Kd pl → tt_fr Kd [(1, 6), (1, 7)] pl0 pl → tt_fa Kd [2] pl0 pl → rl_m pl h0 aw aa at0 ai af ap → tt_at pl h0 6 (.int (nI n_6)) → tt_lc pl ap P → tt_lc pl aw g_12 → rl_UN P g_12 n_6 k_11 → (0 : Int) ≤ (k_11 : Int) → (k_11 : Int) ≤ 399 → (2147483648 - (k_11 : Int) ≤ (N : Int)) → jj_J p l e (jj_rm 1 21 0 0) s m args below meth c 2 A (vx_MQ below (jj_q D A (tt_O (fun rx pl1 r => rx = [] ∧ tt_ok rt_tk cA Kd pl1 ∧ tt_fr Kd [(1, 6), (1, 7)] pl0 pl1 ∧ tt_fa Kd [2] pl0 pl1 ∧ ((rl_M B C9 pl1 h0 aw ap ∧ ∃ v : Int32, r = some (.int v)))))) (jj_x D A (tt_OX (fun _ _ _ => False))) args s 0 0 A) (jj_X D A ([] ++ pl)) 0 0 30 [(1, .int (nI k_11)), (0, .ref h0)] [] := by
      intro NL_10
      induction NL_10 with
      | zero => intro pl k_11 g_12 _ hok hfr hfa hm hf_13 hCp hC_14 hD_15 lk_11 uk_11 hNL_10; exfalso; omega
      | succ NL_10 ihL_10 =>
        intro pl k_11 g_12 _ hok hfr hfa hm hf_13 hCp hC_14 hD_15 lk_11 uk_11 hNL_10
        replace ihL_10 := fun pl k_11 g_12 h1 => ihL_10 pl k_11 g_12 trivial h1
        refine jj_iload_n C dX11_undo_30 rfl ?_
        refine jj_sipush (v := 334) C dX11_undo_31 (by decide) ?_
        refine jj_icmp_ge (tgt := 64) C dX11_undo_34 (by decide) (fun c_16 => ?_) (fun c_16 => ?_)
        · have z_c_16 := jc_le (a := 334) (b := ((k_11 : Nat) : Int)) c_16 (by decide) (rl_ti (by omega))
          refine jj_aload_n C dX11_undo_64 rfl ?_
          refine tt_getF C hok jk_12 6 (by decide) jw_39db7f12ad (t := (0, 0, 10)) hk0 (by decide) rfl rfl hf_13 dX11_undo_65 ?_
          exact jj_iret C ⟨[], pl, rfl, rfl, hok, hfr, hfa, ⟨⟨g_12, P, n_6, hC_14, hCp, hf_13, (by omega), hD_15.fin (by omega) hHP (by omega), hHP.le (by omega)⟩, (nI n_6), rfl⟩⟩ dX11_undo_68 (jj_le rfl) (jj_le rfl)
        · have z_c_16 := jc_nle (a := 334) (b := ((k_11 : Nat) : Int)) c_16 (by decide) (rl_ti (by omega))
          refine jj_aload_n C dX11_undo_37 rfl ?_
          refine tt_getF C hok jk_12 0 (by decide) jw_34eaf3ba8b (t := (2, 2, 0)) hk0 (by decide) rfl rfl hm.1 dX11_undo_38 ?_
          refine jj_iload_n C dX11_undo_41 rfl ?_
          refine jj_aload_n C dX11_undo_42 rfl ?_
          refine tt_getF C hok jk_12 5 (by decide) jw_99581c8f4d (t := (2, 7, 0)) hk0 (by decide) rfl rfl hm.2.2.2.2.2 dX11_undo_43 ?_
          refine jj_sipush (v := 334) C dX11_undo_46 (by decide) ?_
          refine jj_aload_n C dX11_undo_49 rfl ?_
          refine tt_getF C hok jk_12 6 (by decide) jw_39db7f12ad (t := (0, 0, 10)) hk0 (by decide) rfl rfl hf_13 dX11_undo_50 ?_
          refine jj_imul (v := nI (334 * n_6)) C dX11_undo_53 (rl_mulL (kn := 334) (by decide) (by omega)) ?_
          refine jj_iload_n C dX11_undo_54 rfl ?_
          refine jj_iadd (v := nI (k_11 + 334 * n_6)) C dX11_undo_55 (rl_add (by omega)) ?_
          refine rl_lald C hok (t := (1, (-9223372036854775808), 9223372036854775807)) hkp (by decide) rfl (k := k_11 + 334 * n_6) (v := (P (k_11 + 334 * n_6))) (vp_in_nI (by omega) (by decide)) hCp (nI_clamp (by omega)) rfl dX11_undo_56 ?_
          refine rl_last C hok (t := (1, (-9223372036854775808), 9223372036854775807)) hkw (by decide) rfl (k := k_11) (vp_in_nI (by omega) (by decide)) (tt_ja _) (nI_clamp (by omega)) dX11_undo_57 (fun pl_17 hok_18 tr tl tw => ?_)
          replace hf_13 := tr _ _ _ hf_13
          replace hm := hm.arr tr
          replace hfr := hfr.arr tr
          replace hCp := tl _ _ (tt_ne hkp hkw (by decide)) hCp
          replace hC_14 := tw _ hC_14
          replace hfa := hfa.wr hkw tl (by decide)
          refine jj_iinc (v := nI (1 + k_11)) C dX11_undo_58 rfl (rl_addR (kn := 1) (by decide) (by omega)) (by decide) rfl ?_
          refine jj_goto (tgt := 30) C dX11_undo_61 (by decide) ?_
          exact ihL_10 pl_17 (1 + k_11) (vp_updL g_12 k_11 (P (k_11 + 334 * n_6))) hok_18 hfr hfa hm hf_13 hCp hC_14 (hD_15.step (by congr 1; omega)) (by first | omega | decide | exact tt_lo _ | exact tt_hi _) (by first | omega | decide | exact tt_lo _ | exact tt_hi _) (by first | omega | decide | exact tt_lo _ | exact tt_hi _)
    exact hL_10 _ pl_7 0 f trivial hok_8 hfr hfa hm hf_9 hCp hC (rl_UN.init P f n_6) (by first | omega | decide | exact tt_lo _ | exact tt_hi _) (by first | omega | decide | exact tt_lo _ | exact tt_hi _) (Int.self_le_toNat _)
  · have z_c_1 := jc_eq (a := ((n6 : Nat) : Int)) (b := 0) c_1 (rl_ti (by omega)) (by decide)
    refine jj_aload_n C dX11_undo_7 rfl ?_
    refine jj_iconst (v := 1) C dX11_undo_8 (by decide) ?_
    obtain ⟨qc, gs, hqc⟩ := tt_recv (cx := []) hok hk0 (by decide) rfl
    refine tt_callV (rest := []) C (rc_X11_no_e1d97a hl D cA ak hk0 hkw hka hkt hki hkf hkp hok hm) [] [] rfl rfl (by decide) (by decide) (by decide) qc hqc rfl rfl jw_d1b9c9bc08 jw_0a7e47b48e jw_ae3979bf43 jw_f96c99f44d jw_db0108e47b jn_X11_no rfl (jj_le rfl) (jj_le rfl) (jj_le rfl) (jj_le rfl) (jj_le rfl) dX11_undo_9 rfl (fun _ _ _ hX => hX.elim) (fun rx pl_19 r O_23 => ?_)
    obtain ⟨rfl, hok_20, hr_21, ha_22, hR_24⟩ := O_23
    replace hs6 := hr_21.at hk0 (by decide) (by decide) hs6
    replace hC := ha_22.at hkw (by decide) (by decide) hC
    replace hCp := ha_22.at hkp (by decide) (by decide) hCp
    replace hm := hm.fr hr_21 hk0 rfl
    replace hfr := hfr.trans (hr_21.sub (by decide))
    replace hfa := hfa.trans (ha_22.sub (by decide))
    obtain rfl := hR_24
    exact jj_iret C ⟨[], pl_19, rfl, rfl, hok_20, hfr, hfa, ⟨⟨f, P, n6, hC, hCp, hs6, (by omega), hK, hHP⟩, (0 : Int32), rfl⟩⟩ dX11_undo_12 (jj_le rfl) (jj_le rfl)
