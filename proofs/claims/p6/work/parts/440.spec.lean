theorem jw_b04c4238b0 : Cond.methodLink RX11 193 yX11_redeemAll ∈ jj_G := jj_t7 (List.mem_of_getElem? (i := 22) (by decide +kernel)) rfl
theorem jw_f6874b993a : Cond.instanceMethod yX11_redeemAll ∈ jj_G := jj_t7 (List.mem_of_getElem? (i := 24) (by decide +kernel)) rfl
theorem jw_9f698d72df : Cond.selects RX11 yX11_redeemAll yX11_redeemAll ∈ jj_G := jj_pv (q := (yX11_redeemAll, 25)) (by decide +kernel)
theorem jn_X11_redeemAll : jj_N yX11_redeemAll 0 := by unfold jj_N; decide +kernel
theorem jw_23771b89ed : Cond.methodLink RX11 196 yX11_subscribeAll ∈ jj_G := jj_t7 (List.mem_of_getElem? (i := 112) (by decide +kernel)) rfl
theorem jw_b628ef4c54 : Cond.instanceMethod yX11_subscribeAll ∈ jj_G := jj_t7 (List.mem_of_getElem? (i := 114) (by decide +kernel)) rfl
theorem jw_c56ded0a59 : Cond.selects RX11 yX11_subscribeAll yX11_subscribeAll ∈ jj_G := jj_pv (q := (yX11_subscribeAll, 25)) (by decide +kernel)
theorem jn_X11_subscribeAll : jj_N yX11_subscribeAll 0 := by unfold jj_N; decide +kernel
theorem jw_bdcf739cf3 : Cond.methodLink RX11 199 yX11_dropRequest ∈ jj_G := jj_t7 (List.mem_of_getElem? (i := 131) (by decide +kernel)) rfl
theorem jw_580a505415 : Cond.instanceMethod yX11_dropRequest ∈ jj_G := jj_t7 (List.mem_of_getElem? (i := 133) (by decide +kernel)) rfl
theorem jw_a72d56c549 : Cond.selects RX11 yX11_dropRequest yX11_dropRequest ∈ jj_G := jj_pv (q := (yX11_dropRequest, 25)) (by decide +kernel)
theorem jn_X11_dropRequest : jj_N yX11_dropRequest 1 := by unfold jj_N; decide +kernel
theorem jw_fad3683772 : Cond.code yX11_dealNow cX11_dealNow 3 (some .int) ∈ jj_G := jj_t7 (List.mem_of_getElem? (i := 21) (by decide +kernel)) rfl

set_option maxHeartbeats 4000000 in
set_option maxRecDepth 100000 in
theorem rs_dealNow {l : Launch} (hl : l.stackTraces = false) (D : va_G) (cA : Nat → ClassId) (ak : (Nat → Nat) × (Nat → Nat)) {Kd : Nat → Nat} {h0 aw aa at0 ai af ap : Nat} (B : Int) (f : Nat → Int64) (hk0 : Kd h0 = 1) (hkw : Kd aw = 2) (hka : Kd aa = 3) (hkt : Kd at0 = 4) (hki : Kd ai = 5) (hkf : Kd af = 6) (hkp : Kd ap = 7) (hI : rl_I B f) (hP : rl_P f) (hB6 : B + 360000000 ≤ 43920000000) (h9 : 0 ≤ (f 9).toInt ∧ (f 9).toInt < 4611686018427387000) {pl0 : va_W} (hok : tt_ok rt_tk cA Kd pl0) (hm : rl_m pl0 h0 aw aa at0 ai af ap) (hC : tt_lc pl0 aw f) : jj_M l D cA ak yX11_dealNow (.code yX11_dealNow cX11_dealNow 3 (some .int)) 8 206 0 0 ([] ++ pl0) [.ref h0] (tt_O (fun rx pl1 r => rx = [] ∧ tt_ok rt_tk cA Kd pl1 ∧ tt_fr Kd [(1, 8), (1, 9)] pl0 pl1 ∧ tt_fa Kd [2, 5, 8, 9] pl0 pl1 ∧ ((∃ g : Nat → Int64, tt_lc pl1 aw g ∧ rl_I B g ∧ rl_P g ∧ rl_T g ≤ rl_T f ∧ (∀ i : Nat, i < 10 → i ≠ 6 → i ≠ 7 → i ≠ 8 → i ≠ 9 → g i = f i) ∧ ((f 9).toInt ≤ (g 9).toInt ∧ (g 9).toInt ≤ (f 9).toInt + 12) ∧ ∃ v : Int32, r = some (.int v))))) (tt_OX (fun _ _ _ => False)) := by
  refine jj_start hl (by decide) jw_fad3683772 (jj_le rfl) ?_
  intro p e s m args below meth c A hargs hA C hex hmn
  have hfr := tt_fr.refl (K := Kd) (WS := [(1, 8), (1, 9)]) pl0
  have hfa := tt_fa.refl (K := Kd) (WA := [2, 5, 8, 9]) pl0
  have hH := hI.1.1
  obtain ⟨⟨g0a, g0b⟩, ⟨g1a, g1b⟩, ⟨g6a, g6b⟩, ⟨g7a, g7b⟩, ⟨g8a, g8b⟩⟩ := hH
  have hB : B ≤ 43920000000 := by omega
  obtain ⟨ad, fd, hkd, hd, hdc⟩ := rl_done hok hk0
  refine jj_aload_n C dX11_dealNow_0 rfl ?_
  obtain ⟨qc, gs, hqc⟩ := tt_recv (cx := []) hok hk0 (by decide) rfl
  refine tt_callV (rest := []) C (rs_redeemAll hl D cA ak ad fd B f hk0 hkw hka hkt hki hkf hkp hkd hI hP hB hok hm hC hd hdc) [] [] rfl rfl (by decide) (by decide) (by decide) qc hqc rfl rfl jw_b04c4238b0 jw_f6874b993a jw_9f698d72df jw_f96c99f44d jw_0bfdd14151 jn_X11_redeemAll rfl (jj_le rfl) (jj_le rfl) (jj_le rfl) (jj_le rfl) (jj_le rfl) dX11_dealNow_1 rfl (fun _ _ _ hX => hX.elim) (fun rx pl_1 r O_5 => ?_)
  obtain ⟨rfl, hok_2, hr_3, ha_4, hR_6⟩ := O_5
  replace hd := hr_3.at hk0 (by decide) (by decide) hd
  replace hm := hm.fr hr_3 hk0 rfl
  replace hfr := hfr.trans (hr_3.sub (by decide))
  replace hfa := hfa.trans (ha_4.sub (by decide))
  obtain ⟨g_7, gd_8, hC_9, hf_10, hG_11, hR_12, hn_13, rfl⟩ := hR_6
  obtain ⟨⟨g0ag_7, g0bg_7⟩, ⟨g1ag_7, g1bg_7⟩, ⟨g6ag_7, g6bg_7⟩, ⟨g7ag_7, g7bg_7⟩, ⟨g8ag_7, g8bg_7⟩⟩ := hR_12.1.1.1
  refine jj_aload_n C dX11_dealNow_4 rfl ?_
  obtain ⟨qc, gs, hqc⟩ := tt_recv (cx := []) hok_2 hk0 (by decide) rfl
  refine tt_callV (rest := []) C (rs_subscribeAll hl D cA ak ad gd_8 B g_7 hk0 hkw hka hkt hki hkf hkp hkd hR_12.1 hR_12.2.1 hB6 (by rw [hR_12.2.2.2.1 9 (by decide) (by decide) (by decide)]; exact h9) (hR_12.dn hn_13) hok_2 hm hC_9 hf_10 hG_11) [] [] rfl rfl (by decide) (by decide) (by decide) qc hqc rfl rfl jw_23771b89ed jw_b628ef4c54 jw_c56ded0a59 jw_f96c99f44d jw_6f4117bb9f jn_X11_subscribeAll rfl (jj_le rfl) (jj_le rfl) (jj_le rfl) (jj_le rfl) (jj_le rfl) dX11_dealNow_5 rfl (fun _ _ _ hX => hX.elim) (fun rx pl_14 r O_18 => ?_)
  obtain ⟨rfl, hok_15, hr_16, ha_17, hR_19⟩ := O_18
  replace hf_10 := hr_16.at hk0 (by decide) (by decide) hf_10
  replace hm := hm.fr hr_16 hk0 rfl
  replace hfr := hfr.trans (hr_16.sub (by decide))
  replace hfa := hfa.trans (ha_17.sub (by decide))
  obtain ⟨g_20, gd_21, hC_22, hf_23, hG_24, hS_25, rfl⟩ := hR_19
  obtain ⟨⟨g0ag_20, g0bg_20⟩, ⟨g1ag_20, g1bg_20⟩, ⟨g6ag_20, g6bg_20⟩, ⟨g7ag_20, g7bg_20⟩, ⟨g8ag_20, g8bg_20⟩⟩ := hS_25.1.1.1
  refine jj_iconst (v := 0) C dX11_dealNow_8 (by decide) ?_
  refine jj_istore_n C dX11_dealNow_9 (by decide) rfl ?_
  refine jj_aload_n C dX11_dealNow_10 rfl ?_
  refine tt_getF C hok_15 jk_12 0 (by decide) jw_34eaf3ba8b (t := (2, 2, 0)) hk0 (by decide) rfl rfl hm.1 dX11_dealNow_11 ?_
  refine jj_bipush (v := 8) C dX11_dealNow_14 (by decide) ?_
  refine rl_lald C hok_15 (t := (1, (-9223372036854775808), 9223372036854775807)) hkw (by decide) rfl (k := 8) (v := (g_20 8)) (vp_in_iff.mpr (by decide)) hC_22 (by decide) rfl dX11_dealNow_16 ?_
  obtain ⟨n_26, en_26, vn_26⟩ := rl_l2i (x := (g_20 8)) (by omega) (by omega)
  refine jj_l2i (v := nI n_26) C dX11_dealNow_17 en_26 ?_
  refine jj_iconst (v := 1) C dX11_dealNow_18 (by decide) ?_
  obtain ⟨x_27, ex_27, vx_27⟩ := tt_isub (x := (nI n_26)) (y := (1 : Int32)) (a := ((n_26 : Nat) : Int)) (rl_ti (by omega)) (b := 1) (by decide) (by omega) (by omega)
  refine jj_isub (v := x_27) C dX11_dealNow_19 ex_27 ?_
  refine jj_istore_n C dX11_dealNow_20 (by decide) rfl ?_
  have hL_28 : ∀ (N : Nat) (pl : va_W) (x_29 : Int32) (x_30 : Int32) (fd_31 : Nat → Int32) (g_32 : Nat → Int64), True → tt_ok rt_tk cA Kd pl → tt_fr Kd [(1, 8), (1, 9)] pl0 pl → tt_fa Kd [2, 5, 8, 9] pl0 pl → rl_m pl h0 aw aa at0 ai af ap → tt_at pl h0 11 (.ref ad) → tt_ic pl ad fd_31 → True → tt_lc pl aw g_32 → rl_DN (B + 360000000) g_7 g_32 fd_31 x_29.toInt → (-1 : Int) ≤ x_29.toInt → x_29.toInt ≤ 11 → (-2147483648 : Int) ≤ x_30.toInt → x_30.toInt ≤ 2147483647 → (x_29.toInt + 2147483649 ≤ (N : Int)) → jj_J p l e (jj_rm 8 206 0 0) s m args below meth c 3 A (vx_MQ below (jj_q D A (tt_O (fun rx pl1 r => rx = [] ∧ tt_ok rt_tk cA Kd pl1 ∧ tt_fr Kd [(1, 8), (1, 9)] pl0 pl1 ∧ tt_fa Kd [2, 5, 8, 9] pl0 pl1 ∧ ((∃ g : Nat → Int64, tt_lc pl1 aw g ∧ rl_I B g ∧ rl_P g ∧ rl_T g ≤ rl_T f ∧ (∀ i : Nat, i < 10 → i ≠ 6 → i ≠ 7 → i ≠ 8 → i ≠ 9 → g i = f i) ∧ ((f 9).toInt ≤ (g 9).toInt ∧ (g 9).toInt ≤ (f 9).toInt + 12) ∧ ∃ v : Int32, r = some (.int v)))))) (jj_x D A (tt_OX (fun _ _ _ => False))) args s 0 0 A) (jj_X D A ([] ++ pl)) 0 0 21 [(2, .int x_29), (1, .int x_30), (0, .ref h0)] [] := by
    intro NL_28
    induction NL_28 with
    | zero => intro pl x_29 x_30 fd_31 g_32 _ hok hfr hfa hm hf_33 hG_34 hE_35 hC_36 hD_37 lx_29 ux_29 lx_30 ux_30 hNL_28; exfalso; omega
    | succ NL_28 ihL_28 =>
      intro pl x_29 x_30 fd_31 g_32 _ hok hfr hfa hm hf_33 hG_34 hE_35 hC_36 hD_37 lx_29 ux_29 lx_30 ux_30 hNL_28
      replace ihL_28 := fun pl x_29 x_30 fd_31 g_32 h1 => ihL_28 pl x_29 x_30 fd_31 g_32 trivial h1
      obtain ⟨⟨g0ag_32, g0bg_32⟩, ⟨g1ag_32, g1bg_32⟩, ⟨g6ag_32, g6bg_32⟩, ⟨g7ag_32, g7bg_32⟩, ⟨g8ag_32, g8bg_32⟩⟩ := (hD_37.1).1.1
      refine jj_iload_n C dX11_dealNow_21 rfl ?_
      refine jj_if_lt (tgt := 51) C dX11_dealNow_22 (by decide) (fun c_38 => ?_) (fun c_38 => ?_)
      · have z_c_38 := jc_lt (a := x_29.toInt) (b := 0) c_38 rfl (by decide)
        refine jj_iload_n C dX11_dealNow_51 rfl ?_
        exact jj_iret C ⟨[], pl, rfl, rfl, hok, hfr, hfa, (by have q8 := hR_12.2.2.1; have q7 := hI.2.2.2.2.2.2.2; have q6 := congrArg Int64.toInt (hR_12.2.2.2.1 9 (by decide) (by decide) (by decide)); have q9 := hD_37.fin (by omega) (by omega); exact ⟨g_32, hC_36, q9.1, q9.2.1, (by omega), (fun i a b c d e => (q9.2.2.2.1 i a b c d e).trans (hR_12.2.2.2.1 i a b c)), (by omega), x_30, rfl⟩)⟩ dX11_dealNow_52 (jj_le rfl) (jj_le rfl)
      · have z_c_38 := jc_nlt (a := x_29.toInt) (b := 0) c_38 rfl (by decide)
        refine jj_aload_n C dX11_dealNow_25 rfl ?_
        refine tt_getF C hok jk_12 11 (by decide) jw_dca952cae2 (t := (2, 9, 0)) hk0 (by decide) rfl rfl hf_33 dX11_dealNow_26 ?_
        refine jj_iload_n C dX11_dealNow_29 rfl ?_
        obtain ⟨n_39, rfl, bn_39⟩ := rl_nat (x := x_29) (by omega)
        have vn_39 := rl_ti bn_39
        refine rl_zald C hok (t := (0, (-2147483648), 2147483647)) hkd (by decide) rfl (k := n_39) (vp_in_nI (by omega) (by decide)) hG_34 (nI_clamp (by omega)) dX11_dealNow_30 ?_
        refine jj_if_ne (tgt := 37) C dX11_dealNow_31 (by decide) (fun c_40 => ?_) (fun c_40 => ?_)
        · have z_c_40 := jc_neq (a := (fd_31 n_39).toInt) (b := 0) c_40 rfl (by decide)
          refine jj_aload_n C dX11_dealNow_37 rfl ?_
          refine jj_iload_n C dX11_dealNow_38 rfl ?_
          obtain ⟨qc, gs, hqc⟩ := tt_recv (cx := []) hok hk0 (by decide) rfl
          refine tt_callV (rest := []) C (rs_dropRequest hl D cA ak n_39 g_32 hk0 hkw hka hkt hki hkf hkp (by omega) hok hm hC_36) [] [] rfl rfl (by decide) (by decide) (by decide) qc hqc rfl rfl jw_bdcf739cf3 jw_580a505415 jw_a72d56c549 jw_f96c99f44d jw_563f13149e jn_X11_dropRequest rfl (jj_le rfl) (jj_le rfl) (jj_le rfl) (jj_le rfl) (jj_le rfl) dX11_dealNow_39 rfl (fun _ _ _ hX => hX.elim) (fun rx pl_41 r O_45 => ?_)
          obtain ⟨rfl, hok_42, hr_43, ha_44, hR_46⟩ := O_45
          replace hf_33 := hr_43.at hk0 (by decide) (by decide) hf_33
          replace hG_34 := ha_44.at hkd (by decide) (by decide) hG_34
          replace hm := hm.fr hr_43 hk0 rfl
          replace hfr := hfr.trans (hr_43.sub (by decide))
          replace hfa := hfa.trans (ha_44.sub (by decide))
          obtain ⟨hC_47, rfl⟩ := hR_46
          obtain ⟨x_48, ex_48⟩ : ∃ z : Int32, x_30 + Int32.ofInt 1 = z := ⟨_, rfl⟩
          refine jj_iinc (v := x_48) C dX11_dealNow_42 rfl ex_48 (by decide) rfl ?_
          obtain ⟨x_49, ex_49, vx_49⟩ := rl_inc (e := n_39) (n := (-1)) (by omega) (by omega) (by omega)
          refine jj_iinc (v := x_49) C dX11_dealNow_45 rfl ex_49 (by decide) rfl ?_
          refine jj_goto (tgt := 21) C dX11_dealNow_48 (by decide) ?_
          exact ihL_28 pl_41 x_49 x_48 fd_31 (rg_dQ g_32 n_39) hok_42 hfr hfa hm hf_33 hG_34 trivial hC_47 (hD_37.drop (by omega) (by omega) c_40) (by first | omega | decide | exact tt_lo _ | exact tt_hi _) (by first | omega | decide | exact tt_lo _ | exact tt_hi _) (by first | omega | decide | exact tt_lo _ | exact tt_hi _) (by first | omega | decide | exact tt_lo _ | exact tt_hi _) (by first | omega | decide | exact tt_lo _ | exact tt_hi _)
        · have z_c_40 := jc_eq (a := (fd_31 n_39).toInt) (b := 0) c_40 rfl (by decide)
          refine jj_goto (tgt := 45) C dX11_dealNow_34 (by decide) ?_
          obtain ⟨x_50, ex_50, vx_50⟩ := rl_inc (e := n_39) (n := (-1)) (by omega) (by omega) (by omega)
          refine jj_iinc (v := x_50) C dX11_dealNow_45 rfl ex_50 (by decide) rfl ?_
          refine jj_goto (tgt := 21) C dX11_dealNow_48 (by decide) ?_
          exact ihL_28 pl x_50 x_30 fd_31 g_32 hok hfr hfa hm hf_33 hG_34 trivial hC_36 (hD_37.skip (by omega) (by omega) c_40) (by first | omega | decide | exact tt_lo _ | exact tt_hi _) (by first | omega | decide | exact tt_lo _ | exact tt_hi _) (by first | omega | decide | exact tt_lo _ | exact tt_hi _) (by first | omega | decide | exact tt_lo _ | exact tt_hi _) (by first | omega | decide | exact tt_lo _ | exact tt_hi _)
  exact hL_28 _ pl_14 x_27 (0 : Int32) gd_21 g_20 trivial hok_15 hfr hfa hm hf_23 hG_24 trivial hC_22 (rl_DN.init hS_25 hR_12.1.1.1 (by omega)) (by first | omega | decide | exact tt_lo _ | exact tt_hi _) (by first | omega | decide | exact tt_lo _ | exact tt_hi _) (by first | omega | decide | exact tt_lo _ | exact tt_hi _) (by first | omega | decide | exact tt_lo _ | exact tt_hi _) (Int.self_le_toNat _)
