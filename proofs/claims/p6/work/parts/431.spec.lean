theorem jw_66e30b0ab9 : Cond.methodLink RX11 118 yX11_dropLot ∈ jj_G := jj_t7 (List.mem_of_getElem? (i := 88) (by decide +kernel)) rfl
theorem jw_5ae3ddd76d : Cond.instanceMethod yX11_dropLot ∈ jj_G := jj_t7 (List.mem_of_getElem? (i := 90) (by decide +kernel)) rfl
theorem jw_4d967bfc30 : Cond.selects RX11 yX11_dropLot yX11_dropLot ∈ jj_G := jj_pv (q := (yX11_dropLot, 25)) (by decide +kernel)
theorem jn_X11_dropLot : jj_N yX11_dropLot 1 := by unfold jj_N; decide +kernel
theorem jw_78a4443009 : Cond.code yX11_dropEmptyLots cX11_dropEmptyLots 2 none ∈ jj_G := jj_t7 (List.mem_of_getElem? (i := 87) (by decide +kernel)) rfl
theorem jw_be253d6d22 : Cond.methodLink RX11 111 yX11_dropSeries ∈ jj_G := jj_t7 (List.mem_of_getElem? (i := 96) (by decide +kernel)) rfl
theorem jw_2c4ef652a4 : Cond.instanceMethod yX11_dropSeries ∈ jj_G := jj_t7 (List.mem_of_getElem? (i := 98) (by decide +kernel)) rfl
theorem jw_ed61f4f8ea : Cond.selects RX11 yX11_dropSeries yX11_dropSeries ∈ jj_G := jj_pv (q := (yX11_dropSeries, 25)) (by decide +kernel)
theorem jn_X11_dropSeries : jj_N yX11_dropSeries 1 := by unfold jj_N; decide +kernel
theorem jw_8dc09f8f68 : Cond.code yX11_closeEmpty cX11_closeEmpty 3 none ∈ jj_G := jj_t7 (List.mem_of_getElem? (i := 95) (by decide +kernel)) rfl

set_option maxHeartbeats 4000000 in
set_option maxRecDepth 100000 in
theorem rs_dropEmptyLots {l : Launch} (hl : l.stackTraces = false) (D : va_G) (cA : Nat → ClassId) (ak : (Nat → Nat) × (Nat → Nat)) {Kd : Nat → Nat} {h0 aw aa at0 ai af ap : Nat} (B : Int) (f : Nat → Int64) (hk0 : Kd h0 = 1) (hkw : Kd aw = 2) (hka : Kd aa = 3) (hkt : Kd at0 = 4) (hki : Kd ai = 5) (hkf : Kd af = 6) (hkp : Kd ap = 7) (hI : rl_I B f) {pl0 : va_W} (hok : tt_ok rt_tk cA Kd pl0) (hm : rl_m pl0 h0 aw aa at0 ai af ap) (hC : tt_lc pl0 aw f) : jj_M l D cA ak yX11_dropEmptyLots (.code yX11_dropEmptyLots cX11_dropEmptyLots 2 none) 1 22 0 0 ([] ++ pl0) [.ref h0] (tt_O (fun rx pl1 r => rx = [] ∧ tt_ok rt_tk cA Kd pl1 ∧ tt_fr Kd [] pl0 pl1 ∧ tt_fa Kd [2] pl0 pl1 ∧ ((∃ g : Nat → Int64, tt_lc pl1 aw g ∧ rl_I B g ∧ rl_T g ≤ rl_T f ∧ (∀ i : Nat, (i < 46 ∧ i ≠ 7 ∨ 286 ≤ i) → g i = f i) ∧ (g 7).toInt ≤ (f 7).toInt ∧ (∀ a : Nat, a < rnL g → 1 ≤ (g (48 + 6 * a)).toInt) ∧ r = none)))) (tt_OX (fun _ _ _ => False)) := by
  refine jj_start hl (by decide) jw_78a4443009 (jj_le rfl) ?_
  intro p e s m args below meth c A hargs hA C hex hmn
  have hfr := tt_fr.refl (K := Kd) (WS := []) pl0
  have hfa := tt_fa.refl (K := Kd) (WA := [2]) pl0
  have hH := hI.1.1
  obtain ⟨⟨g0a, g0b⟩, ⟨g1a, g1b⟩, ⟨g6a, g6b⟩, ⟨g7a, g7b⟩, ⟨g8a, g8b⟩⟩ := hH
  refine jj_aload_n C dX11_dropEmptyLots_0 rfl ?_
  refine tt_getF C hok jk_12 0 (by decide) jw_34eaf3ba8b (t := (2, 2, 0)) hk0 (by decide) rfl rfl hm.1 dX11_dropEmptyLots_1 ?_
  refine jj_bipush (v := 7) C dX11_dropEmptyLots_4 (by decide) ?_
  refine rl_lald C hok (t := (1, (-9223372036854775808), 9223372036854775807)) hkw (by decide) rfl (k := 7) (v := (f 7)) (vp_in_iff.mpr (by decide)) hC (by decide) rfl dX11_dropEmptyLots_6 ?_
  obtain ⟨n_1, en_1, vn_1⟩ := rl_l2i (x := (f 7)) (by omega) (by omega)
  refine jj_l2i (v := nI n_1) C dX11_dropEmptyLots_7 en_1 ?_
  refine jj_iconst (v := 1) C dX11_dropEmptyLots_8 (by decide) ?_
  obtain ⟨x_2, ex_2, vx_2⟩ := tt_isub (x := (nI n_1)) (y := (1 : Int32)) (a := ((n_1 : Nat) : Int)) (rl_ti (by omega)) (b := 1) (by decide) (by omega) (by omega)
  refine jj_isub (v := x_2) C dX11_dropEmptyLots_9 ex_2 ?_
  refine jj_istore_n C dX11_dropEmptyLots_10 (by decide) rfl ?_
  have hL_3 : ∀ (N : Nat) (pl : va_W) (x_4 : Int32) (g_5 : Nat → Int64), True → tt_ok rt_tk cA Kd pl → tt_fr Kd [] pl0 pl → tt_fa Kd [2] pl0 pl → rl_m pl h0 aw aa at0 ai af ap → tt_lc pl aw g_5 → rl_D B f g_5 x_4.toInt → (-1 : Int) ≤ x_4.toInt → x_4.toInt ≤ 39 → (x_4.toInt + 2147483649 ≤ (N : Int)) → jj_J p l e (jj_rm 1 22 0 0) s m args below meth c 2 A (vx_MQ below (jj_q D A (tt_O (fun rx pl1 r => rx = [] ∧ tt_ok rt_tk cA Kd pl1 ∧ tt_fr Kd [] pl0 pl1 ∧ tt_fa Kd [2] pl0 pl1 ∧ ((∃ g : Nat → Int64, tt_lc pl1 aw g ∧ rl_I B g ∧ rl_T g ≤ rl_T f ∧ (∀ i : Nat, (i < 46 ∧ i ≠ 7 ∨ 286 ≤ i) → g i = f i) ∧ (g 7).toInt ≤ (f 7).toInt ∧ (∀ a : Nat, a < rnL g → 1 ≤ (g (48 + 6 * a)).toInt) ∧ r = none))))) (jj_x D A (tt_OX (fun _ _ _ => False))) args s 0 0 A) (jj_X D A ([] ++ pl)) 0 0 11 [(1, .int x_4), (0, .ref h0)] [] := by
    intro NL_3
    induction NL_3 with
    | zero => intro pl x_4 g_5 _ hok hfr hfa hm hC_6 hD_7 lx_4 ux_4 hNL_3; exfalso; omega
    | succ NL_3 ihL_3 =>
      intro pl x_4 g_5 _ hok hfr hfa hm hC_6 hD_7 lx_4 ux_4 hNL_3
      replace ihL_3 := fun pl x_4 g_5 h1 => ihL_3 pl x_4 g_5 trivial h1
      obtain ⟨⟨g0ag_5, g0bg_5⟩, ⟨g1ag_5, g1bg_5⟩, ⟨g6ag_5, g6bg_5⟩, ⟨g7ag_5, g7bg_5⟩, ⟨g8ag_5, g8bg_5⟩⟩ := (hD_7.1).1.1
      refine jj_iload_n C dX11_dropEmptyLots_11 rfl ?_
      refine jj_if_lt (tgt := 45) C dX11_dropEmptyLots_12 (by decide) (fun c_8 => ?_) (fun c_8 => ?_)
      · have z_c_8 := jc_lt (a := x_4.toInt) (b := 0) c_8 rfl (by decide)
        exact jj_vret C ⟨[], pl, rfl, rfl, hok, hfr, hfa, ⟨g_5, hC_6, hD_7.1, hD_7.2.1, hD_7.2.2.1, hD_7.2.2.2.2.1, (fun a ha => hD_7.2.2.2.2.2 a (by omega) ha), rfl⟩⟩ dX11_dropEmptyLots_45 (jj_le rfl) (jj_le rfl)
      · have z_c_8 := jc_nlt (a := x_4.toInt) (b := 0) c_8 rfl (by decide)
        refine jj_aload_n C dX11_dropEmptyLots_15 rfl ?_
        refine tt_getF C hok jk_12 0 (by decide) jw_34eaf3ba8b (t := (2, 2, 0)) hk0 (by decide) rfl rfl hm.1 dX11_dropEmptyLots_16 ?_
        refine jj_iload_n C dX11_dropEmptyLots_19 rfl ?_
        obtain ⟨n_9, rfl, bn_9⟩ := rl_nat (x := x_4) (by omega)
        have vn_9 := rl_ti bn_9
        refine tt_call0S (rest := [.ref aw]) C (rn_lotAt hl D cA ak n_9 (46 + 6 * n_9) (by omega)) jw_4c8c4b88e2 jw_0fa3e2bccb jw_f96c99f44d jw_d540d98a1c jn_X11_lotAt rfl (jj_le rfl) (jj_le rfl) (jj_le rfl) (jj_le rfl) (jj_le rfl) dX11_dropEmptyLots_20 rfl (fun w1 r hO => ?_)
        obtain ⟨-, rfl⟩ := hO
        refine jj_iconst (v := 2) C dX11_dropEmptyLots_23 (by decide) ?_
        refine jj_iadd (v := nI (48 + 6 * n_9)) C dX11_dropEmptyLots_24 (rl_addR (kn := 2) (by decide) (by omega)) ?_
        refine rl_lald C hok (t := (1, (-9223372036854775808), 9223372036854775807)) hkw (by decide) rfl (k := 48 + 6 * n_9) (v := (g_5 (48 + 6 * n_9))) (vp_in_nI (by omega) (by decide)) hC_6 (nI_clamp (by omega)) rfl dX11_dropEmptyLots_25 ?_
        refine jj_lconst (v := 0) C dX11_dropEmptyLots_26 (by decide) ?_
        refine jj_lcmp_ne (tgt := 39) C dX11_dropEmptyLots_27 dX11_dropEmptyLots_28 (by decide) (fun c_10 => ?_) (fun c_10 => ?_)
        · have z_c_10 := jc_neqL (a := (g_5 (48 + 6 * n_9)).toInt) (b := 0) c_10 rfl (by decide)
          obtain ⟨x_11, ex_11, vx_11⟩ := rl_inc (e := n_9) (n := (-1)) (by omega) (by omega) (by omega)
          refine jj_iinc (v := x_11) C dX11_dropEmptyLots_39 rfl ex_11 (by decide) rfl ?_
          refine jj_goto (tgt := 11) C dX11_dropEmptyLots_42 (by decide) ?_
          exact ihL_3 pl x_11 g_5 hok hfr hfa hm hC_6 (hD_7.skip (by omega) (by omega) c_10) (by first | omega | decide | exact tt_lo _ | exact tt_hi _) (by first | omega | decide | exact tt_lo _ | exact tt_hi _) (by first | omega | decide | exact tt_lo _ | exact tt_hi _)
        · have z_c_10 := jc_eqL (a := (g_5 (48 + 6 * n_9)).toInt) (b := 0) c_10 rfl (by decide)
          refine jj_aload_n C dX11_dropEmptyLots_31 rfl ?_
          refine jj_iload_n C dX11_dropEmptyLots_32 rfl ?_
          refine tt_call0S (rest := [.ref h0]) C (rn_lotAt hl D cA ak n_9 (46 + 6 * n_9) (by omega)) jw_4c8c4b88e2 jw_0fa3e2bccb jw_f96c99f44d jw_d540d98a1c jn_X11_lotAt rfl (jj_le rfl) (jj_le rfl) (jj_le rfl) (jj_le rfl) (jj_le rfl) dX11_dropEmptyLots_33 rfl (fun w1 r hO => ?_)
          obtain ⟨-, rfl⟩ := hO
          obtain ⟨qc, gs, hqc⟩ := tt_recv (cx := []) hok hk0 (by decide) rfl
          refine tt_callV (rest := []) C (rs_dropLot hl D cA ak n_9 g_5 hk0 hkw hka hkt hki hkf hkp (by omega) hok hm hC_6) [] [] rfl rfl (by decide) (by decide) (by decide) qc hqc rfl rfl jw_66e30b0ab9 jw_5ae3ddd76d jw_4d967bfc30 jw_f96c99f44d jw_a1dea5fe42 jn_X11_dropLot rfl (jj_le rfl) (jj_le rfl) (jj_le rfl) (jj_le rfl) (jj_le rfl) dX11_dropEmptyLots_36 rfl (fun _ _ _ hX => hX.elim) (fun rx pl_12 r O_16 => ?_)
          obtain ⟨rfl, hok_13, hr_14, ha_15, hR_17⟩ := O_16
          replace hm := hm.fr hr_14 hk0 rfl
          replace hfr := hfr.trans (hr_14.sub (by decide))
          replace hfa := hfa.trans (ha_15.sub (by decide))
          obtain ⟨hC_18, rfl⟩ := hR_17
          obtain ⟨x_19, ex_19, vx_19⟩ := rl_inc (e := n_9) (n := (-1)) (by omega) (by omega) (by omega)
          refine jj_iinc (v := x_19) C dX11_dropEmptyLots_39 rfl ex_19 (by decide) rfl ?_
          refine jj_goto (tgt := 11) C dX11_dropEmptyLots_42 (by decide) ?_
          exact ihL_3 pl_12 x_19 (rg_dL g_5 n_9) hok_13 hfr hfa hm hC_18 (hD_7.drop (by omega) (by omega) c_10) (by first | omega | decide | exact tt_lo _ | exact tt_hi _) (by first | omega | decide | exact tt_lo _ | exact tt_hi _) (by first | omega | decide | exact tt_lo _ | exact tt_hi _)
  exact hL_3 _ pl0 x_2 f trivial hok hfr hfa hm hC (rl_D.init hI (by omega)) (by first | omega | decide | exact tt_lo _ | exact tt_hi _) (by first | omega | decide | exact tt_lo _ | exact tt_hi _) (Int.self_le_toNat _)

set_option maxHeartbeats 4000000 in
set_option maxRecDepth 100000 in
theorem rs_closeEmpty {l : Launch} (hl : l.stackTraces = false) (D : va_G) (cA : Nat → ClassId) (ak : (Nat → Nat) × (Nat → Nat)) {Kd : Nat → Nat} {h0 aw aa at0 ai af ap : Nat} (B : Int) (f : Nat → Int64) (hk0 : Kd h0 = 1) (hkw : Kd aw = 2) (hka : Kd aa = 3) (hkt : Kd at0 = 4) (hki : Kd ai = 5) (hkf : Kd af = 6) (hkp : Kd ap = 7) (hI : rl_I B f) (hP : ∀ j : Nat, j < rnL f → 1 ≤ (f (48 + 6 * j)).toInt) {pl0 : va_W} (hok : tt_ok rt_tk cA Kd pl0) (hm : rl_m pl0 h0 aw aa at0 ai af ap) (hC : tt_lc pl0 aw f) : jj_M l D cA ak yX11_closeEmpty (.code yX11_closeEmpty cX11_closeEmpty 3 none) 1 22 0 0 ([] ++ pl0) [.ref h0] (tt_O (fun rx pl1 r => rx = [] ∧ tt_ok rt_tk cA Kd pl1 ∧ tt_fr Kd [] pl0 pl1 ∧ tt_fa Kd [2] pl0 pl1 ∧ ((∃ g : Nat → Int64, tt_lc pl1 aw g ∧ rl_I B g ∧ rl_T g ≤ rl_T f ∧ (∀ i : Nat, (i < 10 ∧ i ≠ 6 ∨ 46 ≤ i) → g i = f i) ∧ (g 6).toInt ≤ (f 6).toInt ∧ rl_P g ∧ r = none)))) (tt_OX (fun _ _ _ => False)) := by
  refine jj_start hl (by decide) jw_8dc09f8f68 (jj_le rfl) ?_
  intro p e s m args below meth c A hargs hA C hex hmn
  have hfr := tt_fr.refl (K := Kd) (WS := []) pl0
  have hfa := tt_fa.refl (K := Kd) (WA := [2]) pl0
  have hH := hI.1.1
  obtain ⟨⟨g0a, g0b⟩, ⟨g1a, g1b⟩, ⟨g6a, g6b⟩, ⟨g7a, g7b⟩, ⟨g8a, g8b⟩⟩ := hH
  refine jj_aload_n C dX11_closeEmpty_0 rfl ?_
  refine tt_getF C hok jk_12 0 (by decide) jw_34eaf3ba8b (t := (2, 2, 0)) hk0 (by decide) rfl rfl hm.1 dX11_closeEmpty_1 ?_
  refine jj_bipush (v := 6) C dX11_closeEmpty_4 (by decide) ?_
  refine rl_lald C hok (t := (1, (-9223372036854775808), 9223372036854775807)) hkw (by decide) rfl (k := 6) (v := (f 6)) (vp_in_iff.mpr (by decide)) hC (by decide) rfl dX11_closeEmpty_6 ?_
  obtain ⟨n_1, en_1, vn_1⟩ := rl_l2i (x := (f 6)) (by omega) (by omega)
  refine jj_l2i (v := nI n_1) C dX11_closeEmpty_7 en_1 ?_
  refine jj_iconst (v := 1) C dX11_closeEmpty_8 (by decide) ?_
  obtain ⟨x_2, ex_2, vx_2⟩ := tt_isub (x := (nI n_1)) (y := (1 : Int32)) (a := ((n_1 : Nat) : Int)) (rl_ti (by omega)) (b := 1) (by decide) (by omega) (by omega)
  refine jj_isub (v := x_2) C dX11_closeEmpty_9 ex_2 ?_
  refine jj_istore_n C dX11_closeEmpty_10 (by decide) rfl ?_
  have hL_3 : ∀ (N : Nat) (pl : va_W) (x_4 : Int32) (g_5 : Nat → Int64), True → tt_ok rt_tk cA Kd pl → tt_fr Kd [] pl0 pl → tt_fa Kd [2] pl0 pl → rl_m pl h0 aw aa at0 ai af ap → tt_lc pl aw g_5 → rl_E B f g_5 x_4.toInt → (-1 : Int) ≤ x_4.toInt → x_4.toInt ≤ 5 → (x_4.toInt + 2147483649 ≤ (N : Int)) → jj_J p l e (jj_rm 1 22 0 0) s m args below meth c 3 A (vx_MQ below (jj_q D A (tt_O (fun rx pl1 r => rx = [] ∧ tt_ok rt_tk cA Kd pl1 ∧ tt_fr Kd [] pl0 pl1 ∧ tt_fa Kd [2] pl0 pl1 ∧ ((∃ g : Nat → Int64, tt_lc pl1 aw g ∧ rl_I B g ∧ rl_T g ≤ rl_T f ∧ (∀ i : Nat, (i < 10 ∧ i ≠ 6 ∨ 46 ≤ i) → g i = f i) ∧ (g 6).toInt ≤ (f 6).toInt ∧ rl_P g ∧ r = none))))) (jj_x D A (tt_OX (fun _ _ _ => False))) args s 0 0 A) (jj_X D A ([] ++ pl)) 0 0 11 [(1, .int x_4), (0, .ref h0)] [] := by
    intro NL_3
    induction NL_3 with
    | zero => intro pl x_4 g_5 _ hok hfr hfa hm hC_6 hD_7 lx_4 ux_4 hNL_3; exfalso; omega
    | succ NL_3 ihL_3 =>
      intro pl x_4 g_5 _ hok hfr hfa hm hC_6 hD_7 lx_4 ux_4 hNL_3
      replace ihL_3 := fun pl x_4 g_5 h1 => ihL_3 pl x_4 g_5 trivial h1
      obtain ⟨⟨g0ag_5, g0bg_5⟩, ⟨g1ag_5, g1bg_5⟩, ⟨g6ag_5, g6bg_5⟩, ⟨g7ag_5, g7bg_5⟩, ⟨g8ag_5, g8bg_5⟩⟩ := (hD_7.1).1.1
      refine jj_iload_n C dX11_closeEmpty_11 rfl ?_
      refine jj_if_lt (tgt := 65) C dX11_closeEmpty_12 (by decide) (fun c_8 => ?_) (fun c_8 => ?_)
      · have z_c_8 := jc_lt (a := x_4.toInt) (b := 0) c_8 rfl (by decide)
        exact jj_vret C ⟨[], pl, rfl, rfl, hok, hfr, hfa, ⟨g_5, hC_6, hD_7.1, hD_7.2.1, hD_7.2.2.1, hD_7.2.2.2.2.1, ⟨hD_7.2.2.2.2.2.1, (fun a ha => hD_7.2.2.2.2.2.2 a (by omega) ha)⟩, rfl⟩⟩ dX11_closeEmpty_65 (jj_le rfl) (jj_le rfl)
      · have z_c_8 := jc_nlt (a := x_4.toInt) (b := 0) c_8 rfl (by decide)
        refine jj_iload_n C dX11_closeEmpty_15 rfl ?_
        obtain ⟨n_9, rfl, bn_9⟩ := rl_nat (x := x_4) (by omega)
        have vn_9 := rl_ti bn_9
        refine tt_call0S (rest := []) C (rn_seriesAt hl D cA ak n_9 (16 + 5 * n_9) (by omega)) jw_6251557f40 jw_b2cd40a13f jw_f96c99f44d jw_6245231363 jn_X11_seriesAt rfl (jj_le rfl) (jj_le rfl) (jj_le rfl) (jj_le rfl) (jj_le rfl) dX11_closeEmpty_16 rfl (fun w1 r hO => ?_)
        obtain ⟨-, rfl⟩ := hO
        refine jj_istore_n C dX11_closeEmpty_19 (by decide) rfl ?_
        refine jj_aload_n C dX11_closeEmpty_20 rfl ?_
        refine tt_getF C hok jk_12 0 (by decide) jw_34eaf3ba8b (t := (2, 2, 0)) hk0 (by decide) rfl rfl hm.1 dX11_closeEmpty_21 ?_
        refine jj_iload_n C dX11_closeEmpty_24 rfl ?_
        refine jj_iconst (v := 3) C dX11_closeEmpty_25 (by decide) ?_
        refine jj_iadd (v := nI (19 + 5 * n_9)) C dX11_closeEmpty_26 (rl_addR (kn := 3) (by decide) (by omega)) ?_
        refine rl_lald C hok (t := (1, (-9223372036854775808), 9223372036854775807)) hkw (by decide) rfl (k := 19 + 5 * n_9) (v := (g_5 (19 + 5 * n_9))) (vp_in_nI (by omega) (by decide)) hC_6 (nI_clamp (by omega)) rfl dX11_closeEmpty_27 ?_
        refine jj_lconst (v := 0) C dX11_closeEmpty_28 (by decide) ?_
        refine jj_lcmp_le (tgt := 36) C dX11_closeEmpty_29 dX11_closeEmpty_30 (by decide) (fun c_10 => ?_) (fun c_10 => ?_)
        · have z_c_10 := jc_leL (a := (g_5 (19 + 5 * n_9)).toInt) (b := 0) c_10 rfl (by decide)
          refine jj_aload_n C dX11_closeEmpty_36 rfl ?_
          refine tt_getF C hok jk_12 0 (by decide) jw_34eaf3ba8b (t := (2, 2, 0)) hk0 (by decide) rfl rfl hm.1 dX11_closeEmpty_37 ?_
          refine jj_bipush (v := 11) C dX11_closeEmpty_40 (by decide) ?_
          refine jj_dup2 C dX11_closeEmpty_42 rfl rfl ?_
          refine rl_lald C hok (t := (1, (-9223372036854775808), 9223372036854775807)) hkw (by decide) rfl (k := 11) (v := (g_5 11)) (vp_in_iff.mpr (by decide)) hC_6 (by decide) rfl dX11_closeEmpty_43 ?_
          refine jj_aload_n C dX11_closeEmpty_44 rfl ?_
          refine tt_getF C hok jk_12 0 (by decide) jw_34eaf3ba8b (t := (2, 2, 0)) hk0 (by decide) rfl rfl hm.1 dX11_closeEmpty_45 ?_
          refine jj_iload_n C dX11_closeEmpty_48 rfl ?_
          refine jj_iconst (v := 2) C dX11_closeEmpty_49 (by decide) ?_
          refine jj_iadd (v := nI (18 + 5 * n_9)) C dX11_closeEmpty_50 (rl_addR (kn := 2) (by decide) (by omega)) ?_
          refine rl_lald C hok (t := (1, (-9223372036854775808), 9223372036854775807)) hkw (by decide) rfl (k := 18 + 5 * n_9) (v := (g_5 (18 + 5 * n_9))) (vp_in_nI (by omega) (by decide)) hC_6 (nI_clamp (by omega)) rfl dX11_closeEmpty_51 ?_
          refine jj_ladd C dX11_closeEmpty_52 rfl ?_
          refine rl_last C hok (t := (1, (-9223372036854775808), 9223372036854775807)) hkw (by decide) rfl (k := 11) (vp_in_iff.mpr (by decide)) (tt_ja _) (by decide) dX11_closeEmpty_53 (fun pl_11 hok_12 tr tl tw => ?_)
          replace hm := hm.arr tr
          replace hfr := hfr.arr tr
          replace hC_6 := tw _ hC_6
          replace hfa := hfa.wr hkw tl (by decide)
          refine jj_aload_n C dX11_closeEmpty_54 rfl ?_
          refine jj_iload_n C dX11_closeEmpty_55 rfl ?_
          obtain ⟨qc, gs, hqc⟩ := tt_recv (cx := []) hok_12 hk0 (by decide) rfl
          refine tt_callV (rest := []) C (rs_dropSeries hl D cA ak n_9 (vp_updL g_5 11 ((g_5 11) + (g_5 (18 + 5 * n_9)))) hk0 hkw hka hkt hki hkf hkp (by omega) hok_12 hm hC_6) [] [] rfl rfl (by decide) (by decide) (by decide) qc hqc rfl rfl jw_be253d6d22 jw_2c4ef652a4 jw_ed61f4f8ea jw_f96c99f44d jw_1bc5a547f3 jn_X11_dropSeries rfl (jj_le rfl) (jj_le rfl) (jj_le rfl) (jj_le rfl) (jj_le rfl) dX11_closeEmpty_56 rfl (fun _ _ _ hX => hX.elim) (fun rx pl_13 r O_17 => ?_)
          obtain ⟨rfl, hok_14, hr_15, ha_16, hR_18⟩ := O_17
          replace hm := hm.fr hr_15 hk0 rfl
          replace hfr := hfr.trans (hr_15.sub (by decide))
          replace hfa := hfa.trans (ha_16.sub (by decide))
          obtain ⟨hC_19, rfl⟩ := hR_18
          obtain ⟨x_20, ex_20, vx_20⟩ := rl_inc (e := n_9) (n := (-1)) (by omega) (by omega) (by omega)
          refine jj_iinc (v := x_20) C dX11_closeEmpty_59 rfl ex_20 (by decide) rfl ?_
          refine jj_goto (tgt := 11) C dX11_closeEmpty_62 (by decide) ?_
          refine jj_loc [0, 2] rfl ?_
          exact ihL_3 pl_13 x_20 (rg_dS (vp_updL g_5 11 ((g_5 11) + (g_5 (18 + 5 * n_9)))) n_9) hok_14 hfr hfa hm hC_19 (hD_7.drop (by omega) (by omega) (by omega)) (by first | omega | decide | exact tt_lo _ | exact tt_hi _) (by first | omega | decide | exact tt_lo _ | exact tt_hi _) (by first | omega | decide | exact tt_lo _ | exact tt_hi _)
        · have z_c_10 := jc_nleL (a := (g_5 (19 + 5 * n_9)).toInt) (b := 0) c_10 rfl (by decide)
          refine jj_goto (tgt := 59) C dX11_closeEmpty_33 (by decide) ?_
          obtain ⟨x_21, ex_21, vx_21⟩ := rl_inc (e := n_9) (n := (-1)) (by omega) (by omega) (by omega)
          refine jj_iinc (v := x_21) C dX11_closeEmpty_59 rfl ex_21 (by decide) rfl ?_
          refine jj_goto (tgt := 11) C dX11_closeEmpty_62 (by decide) ?_
          refine jj_loc [0, 2] rfl ?_
          exact ihL_3 pl x_21 g_5 hok hfr hfa hm hC_6 (hD_7.skip (by omega) (by omega) (by omega)) (by first | omega | decide | exact tt_lo _ | exact tt_hi _) (by first | omega | decide | exact tt_lo _ | exact tt_hi _) (by first | omega | decide | exact tt_lo _ | exact tt_hi _)
  exact hL_3 _ pl0 x_2 f trivial hok hfr hfa hm hC (rl_E.init hI hP (by omega)) (by first | omega | decide | exact tt_lo _ | exact tt_hi _) (by first | omega | decide | exact tt_lo _ | exact tt_hi _) (Int.self_le_toNat _)
