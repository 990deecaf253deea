theorem jw_da776d5711 : Cond.constantLong RX11 96 (2) ∈ jj_G := jj_t7 (List.mem_of_getElem? (i := 237) (by decide +kernel)) rfl
theorem jw_6c292e3725 : Cond.code yX11_partOf cX11_partOf 11 (some .long) ∈ jj_G := jj_t7 (List.mem_of_getElem? (i := 236) (by decide +kernel)) rfl
theorem jw_cd6cc19fab : Cond.code yX11_moves cX11_moves 7 none ∈ jj_G := jj_t8 (List.mem_of_getElem? (i := 1) (by decide +kernel)) rfl
theorem jw_c4e1ec86b8 : Cond.methodLink RX11 271 yX11_moves ∈ jj_G := jj_t7 (List.mem_of_getElem? (i := 238) (by decide +kernel)) rfl
theorem jw_2ea53388f1 : Cond.instanceMethod yX11_moves ∈ jj_G := jj_t8 (List.mem_of_getElem? (i := 0) (by decide +kernel)) rfl
theorem jw_862979ac5f : Cond.selects RX11 yX11_moves yX11_moves ∈ jj_G := jj_pv (q := (yX11_moves, 25)) (by decide +kernel)
theorem jn_X11_moves : jj_N yX11_moves 4 := by unfold jj_N; decide +kernel
theorem jw_d6862cd5fe : Cond.methodLink RX11 267 yX11_partOf ∈ jj_G := jj_t7 (List.mem_of_getElem? (i := 234) (by decide +kernel)) rfl
theorem jw_16f7c9faa4 : Cond.static yX11_partOf ∈ jj_G := jj_t7 (List.mem_of_getElem? (i := 235) (by decide +kernel)) rfl
theorem jn_X11_partOf : jj_N yX11_partOf 3 := by unfold jj_N; decide +kernel
theorem jw_9923c131a3 : Cond.code yX11_equalize cX11_equalize 13 none ∈ jj_G := jj_t7 (List.mem_of_getElem? (i := 233) (by decide +kernel)) rfl
theorem jw_31478c4888 : Cond.methodLink RX11 275 yX11_equalize ∈ jj_G := jj_t7 (List.mem_of_getElem? (i := 230) (by decide +kernel)) rfl
theorem jw_abdc905759 : Cond.instanceMethod yX11_equalize ∈ jj_G := jj_t7 (List.mem_of_getElem? (i := 232) (by decide +kernel)) rfl
theorem jw_7e6e55a9e4 : Cond.selects RX11 yX11_equalize yX11_equalize ∈ jj_G := jj_pv (q := (yX11_equalize, 25)) (by decide +kernel)
theorem jn_X11_equalize : jj_N yX11_equalize 4 := by unfold jj_N; decide +kernel
theorem jw_f9bd69189b : Cond.code yX11_crystallizeOne cX11_crystallizeOne 10 none ∈ jj_G := jj_t7 (List.mem_of_getElem? (i := 229) (by decide +kernel)) rfl
theorem jw_64372f83ce : Cond.methodLink RX11 278 yX11_crystallizeOne ∈ jj_G := jj_t7 (List.mem_of_getElem? (i := 226) (by decide +kernel)) rfl
theorem jw_17af05eb0b : Cond.instanceMethod yX11_crystallizeOne ∈ jj_G := jj_t7 (List.mem_of_getElem? (i := 228) (by decide +kernel)) rfl
theorem jw_29b7492586 : Cond.selects RX11 yX11_crystallizeOne yX11_crystallizeOne ∈ jj_G := jj_pv (q := (yX11_crystallizeOne, 25)) (by decide +kernel)
theorem jn_X11_crystallizeOne : jj_N yX11_crystallizeOne 1 := by unfold jj_N; decide +kernel
theorem jw_cb826cdb82 : Cond.code yX11_crystallizeAll cX11_crystallizeAll 4 (some .long) ∈ jj_G := jj_t7 (List.mem_of_getElem? (i := 225) (by decide +kernel)) rfl

set_option maxHeartbeats 4000000 in
set_option maxRecDepth 100000 in
theorem rs_partOf {l : Launch} (hl : l.stackTraces = false) (D : va_G) (cA : Nat → ClassId) (ak : (Nat → Nat) × (Nat → Nat)) {Kd : Nat → Nat} {h0 aw aa at0 ai af ap : Nat} (p1 p2 p3 : Int64) (hk0 : Kd h0 = 1) (hkw : Kd aw = 2) (hka : Kd aa = 3) (hkt : Kd at0 = 4) (hki : Kd ai = 5) (hkf : Kd af = 6) (hkp : Kd ap = 7) (hc : 0 ≤ p1.toInt ∧ p1.toInt ≤ 5000000) (ht : 0 ≤ p2.toInt ∧ p2.toInt ≤ p3.toInt) (hw : 0 < p3.toInt ∧ p3.toInt ≤ 2199023255552000000) {pl0 : va_W} (hok : tt_ok rt_tk cA Kd pl0) (hm : rl_m pl0 h0 aw aa at0 ai af ap) : jj_M l D cA ak yX11_partOf (.code yX11_partOf cX11_partOf 11 (some .long)) 0 0 0 0 ([] ++ pl0) [.long p1, .long p2, .long p3] (tt_O (fun rx pl1 r => rx = [] ∧ tt_ok rt_tk cA Kd pl1 ∧ tt_fr Kd [] pl0 pl1 ∧ tt_fa Kd [] pl0 pl1 ∧ ((∃ v : Int64, 0 ≤ v.toInt ∧ v.toInt ≤ p1.toInt ∧ r = some (.long v))))) (tt_OX (fun _ _ _ => False)) := by
  refine jj_start hl (by decide) jw_6c292e3725 (jj_le rfl) ?_
  intro p e s m args below meth c A hargs hA C hex hmn
  have hfr := tt_fr.refl (K := Kd) (WS := []) pl0
  have hfa := tt_fa.refl (K := Kd) (WA := []) pl0
  have hz : ¬ p3 = 0 := rl_nz (by omega)
  refine jj_lconst (v := 0) C dX11_partOf_0 (by decide) ?_
  refine jj_lstore C dX11_partOf_1 (by decide) rfl ?_
  refine jj_lconst (v := 0) C dX11_partOf_3 (by decide) ?_
  refine jj_lstore C dX11_partOf_4 (by decide) rfl ?_
  refine jj_bipush (v := 62) C dX11_partOf_6 (by decide) ?_
  refine jj_istore C dX11_partOf_8 (by decide) rfl ?_
  have hL_1 : ∀ (N : Nat) (pl : va_W) (x_2 : Int32) (y_3 : Int64) (y_4 : Int64), True → tt_ok rt_tk cA Kd pl → tt_fr Kd [] pl0 pl → tt_fa Kd [] pl0 pl → rl_m pl h0 aw aa at0 ai af ap → (-1 : Int) ≤ x_2.toInt → x_2.toInt ≤ 62 → (rl_PO p1.toInt p2.toInt p3.toInt y_4.toInt y_3.toInt x_2.toInt) → (x_2.toInt + 2147483649 ≤ (N : Int)) → jj_J p l e (jj_rm 0 0 0 0) s m args below meth c 11 A (vx_MQ below (jj_q D A (tt_O (fun rx pl1 r => rx = [] ∧ tt_ok rt_tk cA Kd pl1 ∧ tt_fr Kd [] pl0 pl1 ∧ tt_fa Kd [] pl0 pl1 ∧ ((∃ v : Int64, 0 ≤ v.toInt ∧ v.toInt ≤ p1.toInt ∧ r = some (.long v)))))) (jj_x D A (tt_OX (fun _ _ _ => False))) args s 0 0 A) (jj_X D A ([] ++ pl)) 0 0 10 [(10, .int x_2), (8, .long y_3), (6, .long y_4), (0, .long p1), (2, .long p2), (4, .long p3)] [] := by
    intro NL_1
    induction NL_1 with
    | zero => intro pl x_2 y_3 y_4 _ hok hfr hfa hm lx_2 ux_2 hS9 hNL_1; exfalso; omega
    | succ NL_1 ihL_1 =>
      intro pl x_2 y_3 y_4 _ hok hfr hfa hm lx_2 ux_2 hS9 hNL_1
      replace ihL_1 := fun pl x_2 y_3 y_4 h1 => ihL_1 pl x_2 y_3 y_4 trivial h1
      refine jj_iload C dX11_partOf_10 rfl ?_
      refine jj_if_lt (tgt := 71) C dX11_partOf_12 (by decide) (fun c_5 => ?_) (fun c_5 => ?_)
      · have z_c_5 := jc_lt (a := x_2.toInt) (b := 0) c_5 rfl (by decide)
        refine jj_lload C dX11_partOf_71 rfl ?_
        exact jj_lret C ⟨[], pl, rfl, rfl, hok, hfr, hfa, (by have q9 := hS9.fin (by omega); exact ⟨_, q9.1, q9.2, rfl⟩)⟩ dX11_partOf_73 (jj_le rfl) (jj_le rfl)
      · have z_c_5 := jc_nlt (a := x_2.toInt) (b := 0) c_5 rfl (by decide)
        refine jj_lload C dX11_partOf_15 rfl ?_
        refine jj_ldc2 (v := 2) C dX11_partOf_17 jw_da776d5711 ?_
        refine jj_lmul C dX11_partOf_20 rfl ?_
        refine jj_lstore C dX11_partOf_21 (by decide) rfl ?_
        refine jj_ldc2 (v := 2) C dX11_partOf_23 jw_da776d5711 ?_
        refine jj_lload C dX11_partOf_26 rfl ?_
        refine jj_lmul C dX11_partOf_28 rfl ?_
        refine jj_lload_n C dX11_partOf_29 rfl ?_
        refine jj_iload C dX11_partOf_30 rfl ?_
        refine jj_lshr C dX11_partOf_32 rfl ?_
        refine jj_lconst (v := 1) C dX11_partOf_33 (by decide) ?_
        refine jj_land C dX11_partOf_34 rfl ?_
        refine jj_lconst (v := 1) C dX11_partOf_35 (by decide) ?_
        refine jj_lcmp_ne (tgt := 44) C dX11_partOf_36 dX11_partOf_37 (by decide) (fun c_6 => ?_) (fun c_6 => ?_)
        · have z_c_6 := jc_neqL (a := ((p1 >>> (x_2.toInt64 &&& 63)) &&& (1 : Int64)).toInt) (b := 1) c_6 rfl (by decide)
          refine jj_lconst (v := 0) C dX11_partOf_44 (by decide) ?_
          refine jj_ladd C dX11_partOf_45 rfl ?_
          refine jj_lstore C dX11_partOf_46 (by decide) rfl ?_
          refine jj_lload C dX11_partOf_48 rfl ?_
          refine jj_lload C dX11_partOf_50 rfl ?_
          refine jj_lload C dX11_partOf_52 rfl ?_
          refine jj_ldiv C dX11_partOf_54 hz rfl ?_
          refine jj_ladd C dX11_partOf_55 rfl ?_
          refine jj_lstore C dX11_partOf_56 (by decide) rfl ?_
          refine jj_lload C dX11_partOf_58 rfl ?_
          refine jj_lload C dX11_partOf_60 rfl ?_
          refine jj_lrem C dX11_partOf_62 hz rfl ?_
          refine jj_lstore C dX11_partOf_63 (by decide) rfl ?_
          obtain ⟨x_7, ex_7, vx_7⟩ := tt_inc (x := x_2) (n := (-1)) (by omega) (by omega)
          refine jj_iinc (v := x_7) C dX11_partOf_65 rfl ex_7 (by decide) rfl ?_
          refine jj_goto (tgt := 10) C dX11_partOf_68 (by decide) ?_
          exact ihL_1 pl x_7 ((((2 : Int64) * y_3) + (0 : Int64)) - (((2 : Int64) * y_3) + (0 : Int64)) / p3 * p3) ((y_4 * (2 : Int64)) + ((((2 : Int64) * y_3) + (0 : Int64)) / p3)) hok hfr hfa hm (by first | omega | decide | exact tt_lo _ | exact tt_hi _) (by first | omega | decide | exact tt_lo _ | exact tt_hi _) (hS9.zero hc ht hw.2 (by omega) (by omega) (by omega) c_6) (by first | omega | decide | exact tt_lo _ | exact tt_hi _)
        · have z_c_6 := jc_eqL (a := ((p1 >>> (x_2.toInt64 &&& 63)) &&& (1 : Int64)).toInt) (b := 1) c_6 rfl (by decide)
          refine jj_lload_n C dX11_partOf_40 rfl ?_
          refine jj_goto (tgt := 45) C dX11_partOf_41 (by decide) ?_
          refine jj_ladd C dX11_partOf_45 rfl ?_
          refine jj_lstore C dX11_partOf_46 (by decide) rfl ?_
          refine jj_lload C dX11_partOf_48 rfl ?_
          refine jj_lload C dX11_partOf_50 rfl ?_
          refine jj_lload C dX11_partOf_52 rfl ?_
          refine jj_ldiv C dX11_partOf_54 hz rfl ?_
          refine jj_ladd C dX11_partOf_55 rfl ?_
          refine jj_lstore C dX11_partOf_56 (by decide) rfl ?_
          refine jj_lload C dX11_partOf_58 rfl ?_
          refine jj_lload C dX11_partOf_60 rfl ?_
          refine jj_lrem C dX11_partOf_62 hz rfl ?_
          refine jj_lstore C dX11_partOf_63 (by decide) rfl ?_
          obtain ⟨x_8, ex_8, vx_8⟩ := tt_inc (x := x_2) (n := (-1)) (by omega) (by omega)
          refine jj_iinc (v := x_8) C dX11_partOf_65 rfl ex_8 (by decide) rfl ?_
          refine jj_goto (tgt := 10) C dX11_partOf_68 (by decide) ?_
          exact ihL_1 pl x_8 ((((2 : Int64) * y_3) + p2) - (((2 : Int64) * y_3) + p2) / p3 * p3) ((y_4 * (2 : Int64)) + ((((2 : Int64) * y_3) + p2) / p3)) hok hfr hfa hm (by first | omega | decide | exact tt_lo _ | exact tt_hi _) (by first | omega | decide | exact tt_lo _ | exact tt_hi _) (hS9.one hc ht hw.2 (by omega) (by omega) (by omega) c_6) (by first | omega | decide | exact tt_lo _ | exact tt_hi _)
  exact hL_1 _ pl0 (62 : Int32) (0 : Int64) (0 : Int64) trivial hok hfr hfa hm (by first | omega | decide | exact tt_lo _ | exact tt_hi _) (by first | omega | decide | exact tt_lo _ | exact tt_hi _) (rl_PO.init hc hw.1) (Int.self_le_toNat _)

set_option maxHeartbeats 4000000 in
set_option maxRecDepth 100000 in
theorem rs_moves {l : Launch} (hl : l.stackTraces = false) (D : va_G) (cA : Nat → ClassId) (ak : (Nat → Nat) × (Nat → Nat)) {Kd : Nat → Nat} {h0 aw aa at0 ai af ap : Nat} (k j : Nat) (p3 p4 : Int64) (f : Nat → Int64) (hk0 : Kd h0 = 1) (hkw : Kd aw = 2) (hka : Kd aa = 3) (hkt : Kd at0 = 4) (hki : Kd ai = 5) (hkf : Kd af = 6) (hkp : Kd ap = 7) (hk : k < 6) (hj : j < 40) {pl0 : va_W} (hok : tt_ok rt_tk cA Kd pl0) (hm : rl_m pl0 h0 aw aa at0 ai af ap) (hC : tt_lc pl0 aw f) : jj_M l D cA ak yX11_moves (.code yX11_moves cX11_moves 7 none) 0 0 0 0 ([] ++ pl0) [.ref h0, .int (nI (16 + 5 * k)), .int (nI (46 + 6 * j)), .long p3, .long p4] (tt_O (fun rx pl1 r => rx = [] ∧ tt_ok rt_tk cA Kd pl1 ∧ tt_fr Kd [] pl0 pl1 ∧ tt_fa Kd [2] pl0 pl1 ∧ ((tt_lc pl1 aw (rg_mv f k j p3 p4) ∧ r = none)))) (tt_OX (fun _ _ _ => False)) := by
  refine jj_start hl (by decide) jw_cd6cc19fab (jj_le rfl) ?_
  intro p e s m args below meth c A hargs hA C hex hmn
  have hfr := tt_fr.refl (K := Kd) (WS := []) pl0
  have hfa := tt_fa.refl (K := Kd) (WA := [2]) pl0
  refine jj_aload_n C dX11_moves_0 rfl ?_
  refine tt_getF C hok jk_12 0 (by decide) jw_34eaf3ba8b (t := (2, 2, 0)) hk0 (by decide) rfl rfl hm.1 dX11_moves_1 ?_
  refine jj_iload_n C dX11_moves_4 rfl ?_
  refine jj_iconst (v := 2) C dX11_moves_5 (by decide) ?_
  refine jj_iadd (v := nI (18 + 5 * k)) C dX11_moves_6 (rl_addR (kn := 2) (by decide) (by omega)) ?_
  refine jj_dup2 C dX11_moves_7 rfl rfl ?_
  refine rl_lald C hok (t := (1, (-9223372036854775808), 9223372036854775807)) hkw (by decide) rfl (k := 18 + 5 * k) (v := (f (18 + 5 * k))) (vp_in_nI (by omega) (by decide)) hC (nI_clamp (by omega)) rfl dX11_moves_8 ?_
  refine jj_lload_n C dX11_moves_9 rfl ?_
  refine jj_ladd C dX11_moves_10 rfl ?_
  refine rl_last C hok (t := (1, (-9223372036854775808), 9223372036854775807)) hkw (by decide) rfl (k := 18 + 5 * k) (vp_in_nI (by omega) (by decide)) (tt_ja _) (nI_clamp (by omega)) dX11_moves_11 (fun pl_1 hok_2 tr tl tw => ?_)
  replace hm := hm.arr tr
  replace hfr := hfr.arr tr
  replace hC := tw _ hC
  replace hfa := hfa.wr hkw tl (by decide)
  refine jj_aload_n C dX11_moves_12 rfl ?_
  refine tt_getF C hok_2 jk_12 0 (by decide) jw_34eaf3ba8b (t := (2, 2, 0)) hk0 (by decide) rfl rfl hm.1 dX11_moves_13 ?_
  refine jj_bipush (v := 10) C dX11_moves_16 (by decide) ?_
  refine jj_dup2 C dX11_moves_18 rfl rfl ?_
  refine rl_lald C hok_2 (t := (1, (-9223372036854775808), 9223372036854775807)) hkw (by decide) rfl (k := 10) (v := (f 10)) (vp_in_iff.mpr (by decide)) hC (by decide) (rl_ne (by omega) rfl) dX11_moves_19 ?_
  refine jj_lload_n C dX11_moves_20 rfl ?_
  refine jj_lsub C dX11_moves_21 rfl ?_
  refine rl_last C hok_2 (t := (1, (-9223372036854775808), 9223372036854775807)) hkw (by decide) rfl (k := 10) (vp_in_iff.mpr (by decide)) (tt_ja _) (by decide) dX11_moves_22 (fun pl_3 hok_4 tr tl tw => ?_)
  replace hm := hm.arr tr
  replace hfr := hfr.arr tr
  replace hC := tw _ hC
  replace hfa := hfa.wr hkw tl (by decide)
  refine jj_aload_n C dX11_moves_23 rfl ?_
  refine tt_getF C hok_4 jk_12 0 (by decide) jw_34eaf3ba8b (t := (2, 2, 0)) hk0 (by decide) rfl rfl hm.1 dX11_moves_24 ?_
  refine jj_iload_n C dX11_moves_27 rfl ?_
  refine jj_iconst (v := 2) C dX11_moves_28 (by decide) ?_
  refine jj_iadd (v := nI (48 + 6 * j)) C dX11_moves_29 (rl_addR (kn := 2) (by decide) (by omega)) ?_
  refine jj_dup2 C dX11_moves_30 rfl rfl ?_
  refine rl_lald C hok_4 (t := (1, (-9223372036854775808), 9223372036854775807)) hkw (by decide) rfl (k := 48 + 6 * j) (v := (f (48 + 6 * j))) (vp_in_nI (by omega) (by decide)) hC (nI_clamp (by omega)) (rl_ne (by omega) (rl_ne (by omega) rfl)) dX11_moves_31 ?_
  refine jj_lload C dX11_moves_32 rfl ?_
  refine jj_ladd C dX11_moves_34 rfl ?_
  refine rl_last C hok_4 (t := (1, (-9223372036854775808), 9223372036854775807)) hkw (by decide) rfl (k := 48 + 6 * j) (vp_in_nI (by omega) (by decide)) (tt_ja _) (nI_clamp (by omega)) dX11_moves_35 (fun pl_5 hok_6 tr tl tw => ?_)
  replace hm := hm.arr tr
  replace hfr := hfr.arr tr
  replace hC := tw _ hC
  replace hfa := hfa.wr hkw tl (by decide)
  refine jj_aload_n C dX11_moves_36 rfl ?_
  refine tt_getF C hok_6 jk_12 0 (by decide) jw_34eaf3ba8b (t := (2, 2, 0)) hk0 (by decide) rfl rfl hm.1 dX11_moves_37 ?_
  refine jj_iload_n C dX11_moves_40 rfl ?_
  refine jj_iconst (v := 3) C dX11_moves_41 (by decide) ?_
  refine jj_iadd (v := nI (19 + 5 * k)) C dX11_moves_42 (rl_addR (kn := 3) (by decide) (by omega)) ?_
  refine jj_dup2 C dX11_moves_43 rfl rfl ?_
  refine rl_lald C hok_6 (t := (1, (-9223372036854775808), 9223372036854775807)) hkw (by decide) rfl (k := 19 + 5 * k) (v := (f (19 + 5 * k))) (vp_in_nI (by omega) (by decide)) hC (nI_clamp (by omega)) (rl_ne (by omega) (rl_ne (by omega) (rl_ne (by omega) rfl))) dX11_moves_44 ?_
  refine jj_lload C dX11_moves_45 rfl ?_
  refine jj_ladd C dX11_moves_47 rfl ?_
  refine rl_last C hok_6 (t := (1, (-9223372036854775808), 9223372036854775807)) hkw (by decide) rfl (k := 19 + 5 * k) (vp_in_nI (by omega) (by decide)) (tt_ja _) (nI_clamp (by omega)) dX11_moves_48 (fun pl_7 hok_8 tr tl tw => ?_)
  replace hm := hm.arr tr
  replace hfr := hfr.arr tr
  replace hC := tw _ hC
  replace hfa := hfa.wr hkw tl (by decide)
  exact jj_vret C ⟨[], pl_7, rfl, rfl, hok_8, hfr, hfa, ⟨hC, rfl⟩⟩ dX11_moves_49 (jj_le rfl) (jj_le rfl)

set_option maxHeartbeats 4000000 in
set_option maxRecDepth 100000 in
theorem rs_equalize {l : Launch} (hl : l.stackTraces = false) (D : va_G) (cA : Nat → ClassId) (ak : (Nat → Nat) × (Nat → Nat)) {Kd : Nat → Nat} {h0 aw aa at0 ai af ap : Nat} (k j : Nat) (p3 p4 : Int64) (B : Int) (f : Nat → Int64) (hk0 : Kd h0 = 1) (hkw : Kd aw = 2) (hka : Kd aa = 3) (hkt : Kd at0 = 4) (hki : Kd ai = 5) (hkf : Kd af = 6) (hkp : Kd ap = 7) (hk : k < rnS f) (hj : j < rnL f) (hn : (f (47 + 6 * j)).toInt = (f (16 + 5 * k)).toInt) (hI : rl_I B f) (hB : B ≤ 43920000000) (m1 : (f 1).toInt = 1) (hp0 : 0 < p3.toInt → 0 < p4.toInt) (hp1 : (f (20 + 5 * k)).toInt < p3.toInt → 1000000 ≤ p4.toInt) (hA9 : (rz_mn p3.toInt (f (20 + 5 * k)).toInt) * (f (48 + 6 * j)).toInt ≤ 100000 * (f (18 + 5 * k)).toInt) (hmn9 : 0 ≤ (rz_mn p3.toInt (f (20 + 5 * k)).toInt)) {pl0 : va_W} (hok : tt_ok rt_tk cA Kd pl0) (hm : rl_m pl0 h0 aw aa at0 ai af ap) (hC : tt_lc pl0 aw f) : jj_M l D cA ak yX11_equalize (.code yX11_equalize cX11_equalize 13 none) 1 30 0 0 ([] ++ pl0) [.ref h0, .int (nI (16 + 5 * k)), .int (nI (46 + 6 * j)), .long p3, .long p4] (tt_O (fun rx pl1 r => rx = [] ∧ tt_ok rt_tk cA Kd pl1 ∧ tt_fr Kd [] pl0 pl1 ∧ tt_fa Kd [2] pl0 pl1 ∧ ((∃ g : Nat → Int64, tt_lc pl1 aw g ∧ rl_EQ f g k j (rz_mn p3.toInt (f (20 + 5 * k)).toInt) ∧ r = none)))) (tt_OX (fun _ _ _ => False)) := by
  refine jj_start hl (by decide) jw_9923c131a3 (jj_le rfl) ?_
  intro p e s m args below meth c A hargs hA C hex hmn
  have hfr := tt_fr.refl (K := Kd) (WS := []) pl0
  have hfa := tt_fa.refl (K := Kd) (WA := [2]) pl0
  have hH := hI.1.1
  obtain ⟨⟨g0a, g0b⟩, ⟨g1a, g1b⟩, ⟨g6a, g6b⟩, ⟨g7a, g7b⟩, ⟨g8a, g8b⟩⟩ := hH
  have hk6 : k < 6 := by unfold rnS at hk; omega
  have hj40 : j < 40 := by unfold rnL at hj; omega
  obtain ⟨lu0, ⟨le0, le1⟩, ⟨lc0, lc1⟩, -, -⟩ := hI.2.2.2.1 j hj
  have hmk := (hI.2.1 k hk).2.1.1
  refine jj_aload_n C dX11_equalize_0 rfl ?_
  refine tt_getF C hok jk_12 0 (by decide) jw_34eaf3ba8b (t := (2, 2, 0)) hk0 (by decide) rfl rfl hm.1 dX11_equalize_1 ?_
  refine jj_iload_n C dX11_equalize_4 rfl ?_
  refine jj_iconst (v := 4) C dX11_equalize_5 (by decide) ?_
  refine jj_iadd (v := nI (20 + 5 * k)) C dX11_equalize_6 (rl_addR (kn := 4) (by decide) (by omega)) ?_
  refine rl_lald C hok (t := (1, (-9223372036854775808), 9223372036854775807)) hkw (by decide) rfl (k := 20 + 5 * k) (v := (f (20 + 5 * k))) (vp_in_nI (by omega) (by decide)) hC (nI_clamp (by omega)) rfl dX11_equalize_7 ?_
  refine jj_lstore C dX11_equalize_8 (by decide) rfl ?_
  refine jj_aload_n C dX11_equalize_10 rfl ?_
  refine tt_getF C hok jk_12 0 (by decide) jw_34eaf3ba8b (t := (2, 2, 0)) hk0 (by decide) rfl rfl hm.1 dX11_equalize_11 ?_
  refine jj_iload_n C dX11_equalize_14 rfl ?_
  refine jj_iconst (v := 3) C dX11_equalize_15 (by decide) ?_
  refine jj_iadd (v := nI (49 + 6 * j)) C dX11_equalize_16 (rl_addR (kn := 3) (by decide) (by omega)) ?_
  refine rl_lald C hok (t := (1, (-9223372036854775808), 9223372036854775807)) hkw (by decide) rfl (k := 49 + 6 * j) (v := (f (49 + 6 * j))) (vp_in_nI (by omega) (by decide)) hC (nI_clamp (by omega)) rfl dX11_equalize_17 ?_
  refine jj_lstore C dX11_equalize_18 (by decide) rfl ?_
  refine jj_lload C dX11_equalize_20 rfl ?_
  refine jj_lload C dX11_equalize_22 rfl ?_
  refine jj_lcmp_le (tgt := 82) C dX11_equalize_24 dX11_equalize_25 (by decide) (fun c_1 => ?_) (fun c_1 => ?_)
  · have z_c_1 := jc_leL (a := (f (49 + 6 * j)).toInt) (b := (f (20 + 5 * k)).toInt) c_1 rfl rfl
    refine jj_lload C dX11_equalize_82 rfl ?_
    refine jj_lload C dX11_equalize_84 rfl ?_
    refine jj_lcmp_ge (tgt := 162) C dX11_equalize_86 dX11_equalize_87 (by decide) (fun c_2 => ?_) (fun c_2 => ?_)
    · have z_c_2 := jc_leL (a := (f (20 + 5 * k)).toInt) (b := (f (49 + 6 * j)).toInt) c_2 rfl rfl
      exact jj_vret C ⟨[], pl0, rfl, rfl, hok, hfr, hfa, ⟨_, hC, rl_EQ.none hI hk hj hmn9, rfl⟩⟩ dX11_equalize_162 (jj_le rfl) (jj_le rfl)
    · have z_c_2 := jc_nleL (a := (f (20 + 5 * k)).toInt) (b := (f (49 + 6 * j)).toInt) c_2 rfl rfl
      refine jj_lload C dX11_equalize_90 rfl ?_
      refine jj_lload_n C dX11_equalize_92 rfl ?_
      refine jj_lcmp_ge (tgt := 162) C dX11_equalize_93 dX11_equalize_94 (by decide) (fun c_3 => ?_) (fun c_3 => ?_)
      · have z_c_3 := jc_leL (a := p3.toInt) (b := (f (49 + 6 * j)).toInt) c_3 rfl rfl
        exact jj_vret C ⟨[], pl0, rfl, rfl, hok, hfr, hfa, ⟨_, hC, rl_EQ.none hI hk hj hmn9, rfl⟩⟩ dX11_equalize_162 (jj_le rfl) (jj_le rfl)
      · have z_c_3 := jc_nleL (a := p3.toInt) (b := (f (49 + 6 * j)).toInt) c_3 rfl rfl
        refine jj_aload_n C dX11_equalize_97 rfl ?_
        refine tt_getF C hok jk_12 0 (by decide) jw_34eaf3ba8b (t := (2, 2, 0)) hk0 (by decide) rfl rfl hm.1 dX11_equalize_98 ?_
        refine jj_iload_n C dX11_equalize_101 rfl ?_
        refine jj_iconst (v := 2) C dX11_equalize_102 (by decide) ?_
        refine jj_iadd (v := nI (48 + 6 * j)) C dX11_equalize_103 (rl_addR (kn := 2) (by decide) (by omega)) ?_
        refine rl_lald C hok (t := (1, (-9223372036854775808), 9223372036854775807)) hkw (by decide) rfl (k := 48 + 6 * j) (v := (f (48 + 6 * j))) (vp_in_nI (by omega) (by decide)) hC (nI_clamp (by omega)) rfl dX11_equalize_104 ?_
        refine jj_lload_n C dX11_equalize_105 rfl ?_
        refine jj_lload C dX11_equalize_106 rfl ?_
        refine tt_call0S (rest := [.long (f (48 + 6 * j))]) C (ct_J9_min_f86c9_1 hl D cA ak p3 (f (20 + 5 * k))) jw_43e83b8e67 jw_a0cddbe894 jw_a731c8553d jw_e0e7ffaaeb jn_J9_min_f86c9 rfl (jj_le rfl) (jj_le rfl) (jj_le rfl) (jj_le rfl) (jj_le rfl) dX11_equalize_108 rfl (fun w1 r O_4 => ?_)
        rcases O_4 with ⟨c_5, -, rfl⟩ | ⟨c_6, -, rfl⟩
        · have z_c_5 := jc_ltL (a := (f (20 + 5 * k)).toInt) (b := p3.toInt) c_5 rfl rfl
          refine jj_lload C dX11_equalize_111 rfl ?_
          refine jj_lsub C dX11_equalize_113 rfl ?_
          refine jj_lmul C dX11_equalize_114 rfl ?_
          refine jj_aload_n C dX11_equalize_115 rfl ?_
          refine tt_getF C hok jk_12 0 (by decide) jw_34eaf3ba8b (t := (2, 2, 0)) hk0 (by decide) rfl rfl hm.1 dX11_equalize_116 ?_
          refine jj_iconst (v := 3) C dX11_equalize_119 (by decide) ?_
          refine rl_lald C hok (t := (1, (-9223372036854775808), 9223372036854775807)) hkw (by decide) rfl (k := 3) (v := (f 3)) (vp_in_iff.mpr (by decide)) hC (by decide) rfl dX11_equalize_120 ?_
          refine jj_lmul C dX11_equalize_121 rfl ?_
          refine jj_ldc2 (v := 100) C dX11_equalize_122 jw_0cface3231 ?_
          refine jj_ldiv C dX11_equalize_125 (by decide) rfl ?_
          refine jj_ldc2 (v := 100000) C dX11_equalize_126 jw_759d064724 ?_
          refine jj_ldiv C dX11_equalize_129 (by decide) rfl ?_
          refine jj_lstore C dX11_equalize_130 (by decide) rfl ?_
          refine jj_aload_n C dX11_equalize_132 rfl ?_
          refine jj_iload_n C dX11_equalize_133 rfl ?_
          refine jj_iload_n C dX11_equalize_134 rfl ?_
          refine jj_lload C dX11_equalize_135 rfl ?_
          refine jj_lneg (v := -(((((f (48 + 6 * j)) * ((f (20 + 5 * k)) - (f (49 + 6 * j)))) * (f 3)) / (100 : Int64)) / (100000 : Int64))) C dX11_equalize_137 rfl ?_
          refine jj_aload_n C dX11_equalize_138 rfl ?_
          refine tt_getF C hok jk_12 0 (by decide) jw_34eaf3ba8b (t := (2, 2, 0)) hk0 (by decide) rfl rfl hm.1 dX11_equalize_139 ?_
          refine jj_iload_n C dX11_equalize_142 rfl ?_
          refine jj_iconst (v := 2) C dX11_equalize_143 (by decide) ?_
          refine jj_iadd (v := nI (48 + 6 * j)) C dX11_equalize_144 (rl_addR (kn := 2) (by decide) (by omega)) ?_
          refine rl_lald C hok (t := (1, (-9223372036854775808), 9223372036854775807)) hkw (by decide) rfl (k := 48 + 6 * j) (v := (f (48 + 6 * j))) (vp_in_nI (by omega) (by decide)) hC (nI_clamp (by omega)) rfl dX11_equalize_145 ?_
          refine jj_lload C dX11_equalize_146 rfl ?_
          refine jj_ldc2 (v := 100000) C dX11_equalize_148 jw_759d064724 ?_
          refine jj_lmul C dX11_equalize_151 rfl ?_
          refine jj_lload C dX11_equalize_152 rfl ?_
          refine jj_ldiv C dX11_equalize_154 (rl_nz (by omega)) rfl ?_
          refine tt_call0S (rest := [.long (-(((((f (48 + 6 * j)) * ((f (20 + 5 * k)) - (f (49 + 6 * j)))) * (f 3)) / (100 : Int64)) / (100000 : Int64))), .int (nI (46 + 6 * j)), .int (nI (16 + 5 * k)), .ref h0]) C (ct_J9_min_f86c9_1 hl D cA ak (f (48 + 6 * j)) (((((((f (48 + 6 * j)) * ((f (20 + 5 * k)) - (f (49 + 6 * j)))) * (f 3)) / (100 : Int64)) / (100000 : Int64)) * (100000 : Int64)) / p4)) jw_43e83b8e67 jw_a0cddbe894 jw_a731c8553d jw_e0e7ffaaeb jn_J9_min_f86c9 rfl (jj_le rfl) (jj_le rfl) (jj_le rfl) (jj_le rfl) (jj_le rfl) dX11_equalize_155 rfl (fun w1 r O_7 => ?_)
          rcases O_7 with ⟨c_8, -, rfl⟩ | ⟨c_9, -, rfl⟩
          · have z_c_8 := jc_ltL (a := (((((((f (48 + 6 * j)) * ((f (20 + 5 * k)) - (f (49 + 6 * j)))) * (f 3)) / (100 : Int64)) / (100000 : Int64)) * (100000 : Int64)) / p4).toInt) (b := (f (48 + 6 * j)).toInt) c_8 rfl rfl
            refine jj_lneg (v := -(((((((f (48 + 6 * j)) * ((f (20 + 5 * k)) - (f (49 + 6 * j)))) * (f 3)) / (100 : Int64)) / (100000 : Int64)) * (100000 : Int64)) / p4)) C dX11_equalize_158 rfl ?_
            obtain ⟨qc, gs, hqc⟩ := tt_recv (cx := []) hok hk0 (by decide) rfl
            refine tt_callV (rest := []) C (rs_moves hl D cA ak k j (-(((((f (48 + 6 * j)) * ((f (20 + 5 * k)) - (f (49 + 6 * j)))) * (f 3)) / (100 : Int64)) / (100000 : Int64))) (-(((((((f (48 + 6 * j)) * ((f (20 + 5 * k)) - (f (49 + 6 * j)))) * (f 3)) / (100 : Int64)) / (100000 : Int64)) * (100000 : Int64)) / p4)) f hk0 hkw hka hkt hki hkf hkp (by omega) (by omega) hok hm hC) [] [] rfl rfl (by decide) (by decide) (by decide) qc hqc rfl rfl jw_c4e1ec86b8 jw_2ea53388f1 jw_862979ac5f jw_f96c99f44d jw_cd6cc19fab jn_X11_moves rfl (jj_le rfl) (jj_le rfl) (jj_le rfl) (jj_le rfl) (jj_le rfl) dX11_equalize_159 rfl (fun _ _ _ hX => hX.elim) (fun rx pl_10 r O_14 => ?_)
            obtain ⟨rfl, hok_11, hr_12, ha_13, hR_15⟩ := O_14
            replace hm := hm.fr hr_12 hk0 rfl
            replace hfr := hfr.trans (hr_12.sub (by decide))
            replace hfa := hfa.trans (ha_13.sub (by decide))
            obtain ⟨hC_16, rfl⟩ := hR_15
            exact jj_vret C ⟨[], pl_10, rfl, rfl, hok_11, hfr, hfa, ⟨_, hC_16, (by have q1 := hI.abound hk; have q2 : (rz_mn p3.toInt (f (20 + 5 * k)).toInt) = (f (20 + 5 * k)).toInt := rz_mn_r (by omega); have q3 := rz_due (u := f (48 + 6 * j)) (t := (f (20 + 5 * k))) (e := f (49 + 6 * j)) (q := f 3) (by omega) (by omega) (by omega) hI.1.2.2.1 (by rw [← q2]; omega); have q4 : 0 ≤ ((((((f (48 + 6 * j)) * ((f (20 + 5 * k)) - (f (49 + 6 * j)))) * (f 3)) / (100 : Int64)) / (100000 : Int64)) * 100000 / p4).toInt := rz_dp q3.1 (by rw [← q2] at q3; omega) (by omega); exact rl_EQ.due hI hB hk hj m1 ⟨q3.1, by rw [q2]; exact q3.2⟩ ⟨by omega, by omega⟩ hA9 hn), rfl⟩⟩ dX11_equalize_162 (jj_le rfl) (jj_le rfl)
          · have z_c_9 := jc_nltL (a := (((((((f (48 + 6 * j)) * ((f (20 + 5 * k)) - (f (49 + 6 * j)))) * (f 3)) / (100 : Int64)) / (100000 : Int64)) * (100000 : Int64)) / p4).toInt) (b := (f (48 + 6 * j)).toInt) c_9 rfl rfl
            refine jj_lneg (v := -(f (48 + 6 * j))) C dX11_equalize_158 rfl ?_
            obtain ⟨qc, gs, hqc⟩ := tt_recv (cx := []) hok hk0 (by decide) rfl
            refine tt_callV (rest := []) C (rs_moves hl D cA ak k j (-(((((f (48 + 6 * j)) * ((f (20 + 5 * k)) - (f (49 + 6 * j)))) * (f 3)) / (100 : Int64)) / (100000 : Int64))) (-(f (48 + 6 * j))) f hk0 hkw hka hkt hki hkf hkp (by omega) (by omega) hok hm hC) [] [] rfl rfl (by decide) (by decide) (by decide) qc hqc rfl rfl jw_c4e1ec86b8 jw_2ea53388f1 jw_862979ac5f jw_f96c99f44d jw_cd6cc19fab jn_X11_moves rfl (jj_le rfl) (jj_le rfl) (jj_le rfl) (jj_le rfl) (jj_le rfl) dX11_equalize_159 rfl (fun _ _ _ hX => hX.elim) (fun rx pl_17 r O_21 => ?_)
            obtain ⟨rfl, hok_18, hr_19, ha_20, hR_22⟩ := O_21
            replace hm := hm.fr hr_19 hk0 rfl
            replace hfr := hfr.trans (hr_19.sub (by decide))
            replace hfa := hfa.trans (ha_20.sub (by decide))
            obtain ⟨hC_23, rfl⟩ := hR_22
            exact jj_vret C ⟨[], pl_17, rfl, rfl, hok_18, hfr, hfa, ⟨_, hC_23, (by have q1 := hI.abound hk; have q2 : (rz_mn p3.toInt (f (20 + 5 * k)).toInt) = (f (20 + 5 * k)).toInt := rz_mn_r (by omega); have q3 := rz_due (u := f (48 + 6 * j)) (t := (f (20 + 5 * k))) (e := f (49 + 6 * j)) (q := f 3) (by omega) (by omega) (by omega) hI.1.2.2.1 (by rw [← q2]; omega); have q4 : 0 ≤ ((((((f (48 + 6 * j)) * ((f (20 + 5 * k)) - (f (49 + 6 * j)))) * (f 3)) / (100 : Int64)) / (100000 : Int64)) * 100000 / p4).toInt := rz_dp q3.1 (by rw [← q2] at q3; omega) (by omega); exact rl_EQ.due hI hB hk hj m1 ⟨q3.1, by rw [q2]; exact q3.2⟩ ⟨by omega, by omega⟩ hA9 hn), rfl⟩⟩ dX11_equalize_162 (jj_le rfl) (jj_le rfl)
        · have z_c_6 := jc_nltL (a := (f (20 + 5 * k)).toInt) (b := p3.toInt) c_6 rfl rfl
          refine jj_lload C dX11_equalize_111 rfl ?_
          refine jj_lsub C dX11_equalize_113 rfl ?_
          refine jj_lmul C dX11_equalize_114 rfl ?_
          refine jj_aload_n C dX11_equalize_115 rfl ?_
          refine tt_getF C hok jk_12 0 (by decide) jw_34eaf3ba8b (t := (2, 2, 0)) hk0 (by decide) rfl rfl hm.1 dX11_equalize_116 ?_
          refine jj_iconst (v := 3) C dX11_equalize_119 (by decide) ?_
          refine rl_lald C hok (t := (1, (-9223372036854775808), 9223372036854775807)) hkw (by decide) rfl (k := 3) (v := (f 3)) (vp_in_iff.mpr (by decide)) hC (by decide) rfl dX11_equalize_120 ?_
          refine jj_lmul C dX11_equalize_121 rfl ?_
          refine jj_ldc2 (v := 100) C dX11_equalize_122 jw_0cface3231 ?_
          refine jj_ldiv C dX11_equalize_125 (by decide) rfl ?_
          refine jj_ldc2 (v := 100000) C dX11_equalize_126 jw_759d064724 ?_
          refine jj_ldiv C dX11_equalize_129 (by decide) rfl ?_
          refine jj_lstore C dX11_equalize_130 (by decide) rfl ?_
          refine jj_aload_n C dX11_equalize_132 rfl ?_
          refine jj_iload_n C dX11_equalize_133 rfl ?_
          refine jj_iload_n C dX11_equalize_134 rfl ?_
          refine jj_lload C dX11_equalize_135 rfl ?_
          refine jj_lneg (v := -(((((f (48 + 6 * j)) * (p3 - (f (49 + 6 * j)))) * (f 3)) / (100 : Int64)) / (100000 : Int64))) C dX11_equalize_137 rfl ?_
          refine jj_aload_n C dX11_equalize_138 rfl ?_
          refine tt_getF C hok jk_12 0 (by decide) jw_34eaf3ba8b (t := (2, 2, 0)) hk0 (by decide) rfl rfl hm.1 dX11_equalize_139 ?_
          refine jj_iload_n C dX11_equalize_142 rfl ?_
          refine jj_iconst (v := 2) C dX11_equalize_143 (by decide) ?_
          refine jj_iadd (v := nI (48 + 6 * j)) C dX11_equalize_144 (rl_addR (kn := 2) (by decide) (by omega)) ?_
          refine rl_lald C hok (t := (1, (-9223372036854775808), 9223372036854775807)) hkw (by decide) rfl (k := 48 + 6 * j) (v := (f (48 + 6 * j))) (vp_in_nI (by omega) (by decide)) hC (nI_clamp (by omega)) rfl dX11_equalize_145 ?_
          refine jj_lload C dX11_equalize_146 rfl ?_
          refine jj_ldc2 (v := 100000) C dX11_equalize_148 jw_759d064724 ?_
          refine jj_lmul C dX11_equalize_151 rfl ?_
          refine jj_lload C dX11_equalize_152 rfl ?_
          refine jj_ldiv C dX11_equalize_154 (rl_nz (by omega)) rfl ?_
          refine tt_call0S (rest := [.long (-(((((f (48 + 6 * j)) * (p3 - (f (49 + 6 * j)))) * (f 3)) / (100 : Int64)) / (100000 : Int64))), .int (nI (46 + 6 * j)), .int (nI (16 + 5 * k)), .ref h0]) C (ct_J9_min_f86c9_1 hl D cA ak (f (48 + 6 * j)) (((((((f (48 + 6 * j)) * (p3 - (f (49 + 6 * j)))) * (f 3)) / (100 : Int64)) / (100000 : Int64)) * (100000 : Int64)) / p4)) jw_43e83b8e67 jw_a0cddbe894 jw_a731c8553d jw_e0e7ffaaeb jn_J9_min_f86c9 rfl (jj_le rfl) (jj_le rfl) (jj_le rfl) (jj_le rfl) (jj_le rfl) dX11_equalize_155 rfl (fun w1 r O_24 => ?_)
          rcases O_24 with ⟨c_25, -, rfl⟩ | ⟨c_26, -, rfl⟩
          · have z_c_25 := jc_ltL (a := (((((((f (48 + 6 * j)) * (p3 - (f (49 + 6 * j)))) * (f 3)) / (100 : Int64)) / (100000 : Int64)) * (100000 : Int64)) / p4).toInt) (b := (f (48 + 6 * j)).toInt) c_25 rfl rfl
            refine jj_lneg (v := -(((((((f (48 + 6 * j)) * (p3 - (f (49 + 6 * j)))) * (f 3)) / (100 : Int64)) / (100000 : Int64)) * (100000 : Int64)) / p4)) C dX11_equalize_158 rfl ?_
            obtain ⟨qc, gs, hqc⟩ := tt_recv (cx := []) hok hk0 (by decide) rfl
            refine tt_callV (rest := []) C (rs_moves hl D cA ak k j (-(((((f (48 + 6 * j)) * (p3 - (f (49 + 6 * j)))) * (f 3)) / (100 : Int64)) / (100000 : Int64))) (-(((((((f (48 + 6 * j)) * (p3 - (f (49 + 6 * j)))) * (f 3)) / (100 : Int64)) / (100000 : Int64)) * (100000 : Int64)) / p4)) f hk0 hkw hka hkt hki hkf hkp (by omega) (by omega) hok hm hC) [] [] rfl rfl (by decide) (by decide) (by decide) qc hqc rfl rfl jw_c4e1ec86b8 jw_2ea53388f1 jw_862979ac5f jw_f96c99f44d jw_cd6cc19fab jn_X11_moves rfl (jj_le rfl) (jj_le rfl) (jj_le rfl) (jj_le rfl) (jj_le rfl) dX11_equalize_159 rfl (fun _ _ _ hX => hX.elim) (fun rx pl_27 r O_31 => ?_)
            obtain ⟨rfl, hok_28, hr_29, ha_30, hR_32⟩ := O_31
            replace hm := hm.fr hr_29 hk0 rfl
            replace hfr := hfr.trans (hr_29.sub (by decide))
            replace hfa := hfa.trans (ha_30.sub (by decide))
            obtain ⟨hC_33, rfl⟩ := hR_32
            exact jj_vret C ⟨[], pl_27, rfl, rfl, hok_28, hfr, hfa, ⟨_, hC_33, (by have q1 := hI.abound hk; have q2 : (rz_mn p3.toInt (f (20 + 5 * k)).toInt) = p3.toInt := rz_mn_l (by omega); have q3 := rz_due (u := f (48 + 6 * j)) (t := p3) (e := f (49 + 6 * j)) (q := f 3) (by omega) (by omega) (by omega) hI.1.2.2.1 (by rw [← q2]; omega); have q4 : 0 ≤ ((((((f (48 + 6 * j)) * (p3 - (f (49 + 6 * j)))) * (f 3)) / (100 : Int64)) / (100000 : Int64)) * 100000 / p4).toInt := rz_dp q3.1 (by rw [← q2] at q3; omega) (by omega); exact rl_EQ.due hI hB hk hj m1 ⟨q3.1, by rw [q2]; exact q3.2⟩ ⟨by omega, by omega⟩ hA9 hn), rfl⟩⟩ dX11_equalize_162 (jj_le rfl) (jj_le rfl)
          · have z_c_26 := jc_nltL (a := (((((((f (48 + 6 * j)) * (p3 - (f (49 + 6 * j)))) * (f 3)) / (100 : Int64)) / (100000 : Int64)) * (100000 : Int64)) / p4).toInt) (b := (f (48 + 6 * j)).toInt) c_26 rfl rfl
            refine jj_lneg (v := -(f (48 + 6 * j))) C dX11_equalize_158 rfl ?_
            obtain ⟨qc, gs, hqc⟩ := tt_recv (cx := []) hok hk0 (by decide) rfl
            refine tt_callV (rest := []) C (rs_moves hl D cA ak k j (-(((((f (48 + 6 * j)) * (p3 - (f (49 + 6 * j)))) * (f 3)) / (100 : Int64)) / (100000 : Int64))) (-(f (48 + 6 * j))) f hk0 hkw hka hkt hki hkf hkp (by omega) (by omega) hok hm hC) [] [] rfl rfl (by decide) (by decide) (by decide) qc hqc rfl rfl jw_c4e1ec86b8 jw_2ea53388f1 jw_862979ac5f jw_f96c99f44d jw_cd6cc19fab jn_X11_moves rfl (jj_le rfl) (jj_le rfl) (jj_le rfl) (jj_le rfl) (jj_le rfl) dX11_equalize_159 rfl (fun _ _ _ hX => hX.elim) (fun rx pl_34 r O_38 => ?_)
            obtain ⟨rfl, hok_35, hr_36, ha_37, hR_39⟩ := O_38
            replace hm := hm.fr hr_36 hk0 rfl
            replace hfr := hfr.trans (hr_36.sub (by decide))
            replace hfa := hfa.trans (ha_37.sub (by decide))
            obtain ⟨hC_40, rfl⟩ := hR_39
            exact jj_vret C ⟨[], pl_34, rfl, rfl, hok_35, hfr, hfa, ⟨_, hC_40, (by have q1 := hI.abound hk; have q2 : (rz_mn p3.toInt (f (20 + 5 * k)).toInt) = p3.toInt := rz_mn_l (by omega); have q3 := rz_due (u := f (48 + 6 * j)) (t := p3) (e := f (49 + 6 * j)) (q := f 3) (by omega) (by omega) (by omega) hI.1.2.2.1 (by rw [← q2]; omega); have q4 : 0 ≤ ((((((f (48 + 6 * j)) * (p3 - (f (49 + 6 * j)))) * (f 3)) / (100 : Int64)) / (100000 : Int64)) * 100000 / p4).toInt := rz_dp q3.1 (by rw [← q2] at q3; omega) (by omega); exact rl_EQ.due hI hB hk hj m1 ⟨q3.1, by rw [q2]; exact q3.2⟩ ⟨by omega, by omega⟩ hA9 hn), rfl⟩⟩ dX11_equalize_162 (jj_le rfl) (jj_le rfl)
  · have z_c_1 := jc_nleL (a := (f (49 + 6 * j)).toInt) (b := (f (20 + 5 * k)).toInt) c_1 rfl rfl
    refine jj_lload_n C dX11_equalize_28 rfl ?_
    refine jj_lload C dX11_equalize_29 rfl ?_
    refine jj_lcmp_le (tgt := 82) C dX11_equalize_31 dX11_equalize_32 (by decide) (fun c_41 => ?_) (fun c_41 => ?_)
    · have z_c_41 := jc_leL (a := p3.toInt) (b := (f (20 + 5 * k)).toInt) c_41 rfl rfl
      refine jj_lload C dX11_equalize_82 rfl ?_
      refine jj_lload C dX11_equalize_84 rfl ?_
      refine jj_lcmp_ge (tgt := 162) C dX11_equalize_86 dX11_equalize_87 (by decide) (fun c_42 => ?_) (fun c_42 => ?_)
      · have z_c_42 := jc_leL (a := (f (20 + 5 * k)).toInt) (b := (f (49 + 6 * j)).toInt) c_42 rfl rfl
        exact jj_vret C ⟨[], pl0, rfl, rfl, hok, hfr, hfa, ⟨_, hC, rl_EQ.none hI hk hj hmn9, rfl⟩⟩ dX11_equalize_162 (jj_le rfl) (jj_le rfl)
      · have z_c_42 := jc_nleL (a := (f (20 + 5 * k)).toInt) (b := (f (49 + 6 * j)).toInt) c_42 rfl rfl
        exfalso; omega
    · have z_c_41 := jc_nleL (a := p3.toInt) (b := (f (20 + 5 * k)).toInt) c_41 rfl rfl
      refine jj_aload_n C dX11_equalize_35 rfl ?_
      refine tt_getF C hok jk_12 0 (by decide) jw_34eaf3ba8b (t := (2, 2, 0)) hk0 (by decide) rfl rfl hm.1 dX11_equalize_36 ?_
      refine jj_iload_n C dX11_equalize_39 rfl ?_
      refine jj_iconst (v := 4) C dX11_equalize_40 (by decide) ?_
      refine jj_iadd (v := nI (50 + 6 * j)) C dX11_equalize_41 (rl_addR (kn := 4) (by decide) (by omega)) ?_
      refine rl_lald C hok (t := (1, (-9223372036854775808), 9223372036854775807)) hkw (by decide) rfl (k := 50 + 6 * j) (v := (f (50 + 6 * j))) (vp_in_nI (by omega) (by decide)) hC (nI_clamp (by omega)) rfl dX11_equalize_42 ?_
      refine jj_lload_n C dX11_equalize_43 rfl ?_
      refine jj_lload C dX11_equalize_44 rfl ?_
      refine jj_lsub C dX11_equalize_46 rfl ?_
      refine jj_lload C dX11_equalize_47 rfl ?_
      refine jj_lload C dX11_equalize_49 rfl ?_
      refine jj_lsub C dX11_equalize_51 rfl ?_
      refine tt_call0S (rest := [.long (f (50 + 6 * j))]) C (ct_J9_min_f86c9_1 hl D cA ak (p3 - (f (20 + 5 * k))) ((f (49 + 6 * j)) - (f (20 + 5 * k)))) jw_43e83b8e67 jw_a0cddbe894 jw_a731c8553d jw_e0e7ffaaeb jn_J9_min_f86c9 rfl (jj_le rfl) (jj_le rfl) (jj_le rfl) (jj_le rfl) (jj_le rfl) dX11_equalize_52 rfl (fun w1 r O_43 => ?_)
      rcases O_43 with ⟨c_44, -, rfl⟩ | ⟨c_45, -, rfl⟩
      · have z_c_44 := jc_ltL (a := ((f (49 + 6 * j)) - (f (20 + 5 * k))).toInt) (b := (p3 - (f (20 + 5 * k))).toInt) c_44 rfl rfl
        refine jj_lload C dX11_equalize_55 rfl ?_
        refine jj_lload C dX11_equalize_57 rfl ?_
        refine jj_lsub C dX11_equalize_59 rfl ?_
        refine tt_callS (rest := []) C (rs_partOf hl D cA ak (f (50 + 6 * j)) ((f (49 + 6 * j)) - (f (20 + 5 * k))) ((f (49 + 6 * j)) - (f (20 + 5 * k))) hk0 hkw hka hkt hki hkf hkp ⟨by omega, by omega⟩ (by have q8 := rz_top (g := p3) (m := f (20 + 5 * k)) (e := f (49 + 6 * j)) (by omega) (by omega) (by omega) (by omega); omega) (by have q8 := rz_top (g := p3) (m := f (20 + 5 * k)) (e := f (49 + 6 * j)) (by omega) (by omega) (by omega) (by omega); exact q8.1) hok hm) [] [] rfl rfl (by decide) (by decide) (by decide) jw_d6862cd5fe jw_16f7c9faa4 jw_f96c99f44d jw_6c292e3725 jn_X11_partOf rfl (jj_le rfl) (jj_le rfl) (jj_le rfl) (jj_le rfl) (jj_le rfl) dX11_equalize_60 rfl (fun _ _ _ hX => hX.elim) (fun rx pl_46 r O_50 => ?_)
        obtain ⟨rfl, hok_47, hr_48, ha_49, hR_51⟩ := O_50
        replace hC := ha_49.at hkw (by decide) (by decide) hC
        replace hm := hm.fr hr_48 hk0 rfl
        replace hfr := hfr.trans (hr_48.sub (by decide))
        replace hfa := hfa.trans (ha_49.sub (by decide))
        obtain ⟨y_52, ly_52, uy_52, rfl⟩ := hR_51
        refine jj_lstore C dX11_equalize_63 (by decide) rfl ?_
        refine jj_aload_n C dX11_equalize_65 rfl ?_
        refine jj_iload_n C dX11_equalize_66 rfl ?_
        refine jj_iload_n C dX11_equalize_67 rfl ?_
        refine jj_lload C dX11_equalize_68 rfl ?_
        refine jj_lload C dX11_equalize_70 rfl ?_
        refine jj_ldc2 (v := 100000) C dX11_equalize_72 jw_759d064724 ?_
        refine jj_lmul C dX11_equalize_75 rfl ?_
        refine jj_lload C dX11_equalize_76 rfl ?_
        refine jj_ldiv C dX11_equalize_78 (rl_nz (by omega)) rfl ?_
        obtain ⟨qc, gs, hqc⟩ := tt_recv (cx := []) hok_47 hk0 (by decide) rfl
        refine tt_callV (rest := []) C (rs_moves hl D cA ak k j y_52 ((y_52 * (100000 : Int64)) / p4) f hk0 hkw hka hkt hki hkf hkp (by omega) (by omega) hok_47 hm hC) [] [] rfl rfl (by decide) (by decide) (by decide) qc hqc rfl rfl jw_c4e1ec86b8 jw_2ea53388f1 jw_862979ac5f jw_f96c99f44d jw_cd6cc19fab jn_X11_moves rfl (jj_le rfl) (jj_le rfl) (jj_le rfl) (jj_le rfl) (jj_le rfl) dX11_equalize_79 rfl (fun _ _ _ hX => hX.elim) (fun rx pl_53 r O_57 => ?_)
        obtain ⟨rfl, hok_54, hr_55, ha_56, hR_58⟩ := O_57
        replace hm := hm.fr hr_55 hk0 rfl
        replace hfr := hfr.trans (hr_55.sub (by decide))
        replace hfa := hfa.trans (ha_56.sub (by decide))
        obtain ⟨hC_59, rfl⟩ := hR_58
        refine jj_lload C dX11_equalize_82 rfl ?_
        refine jj_lload C dX11_equalize_84 rfl ?_
        refine jj_lcmp_ge (tgt := 162) C dX11_equalize_86 dX11_equalize_87 (by decide) (fun c_60 => ?_) (fun c_60 => ?_)
        · have z_c_60 := jc_leL (a := (f (20 + 5 * k)).toInt) (b := (f (49 + 6 * j)).toInt) c_60 rfl rfl
          exact jj_vret C ⟨[], pl_53, rfl, rfl, hok_54, hfr, hfa, ⟨_, hC_59, rl_EQ.back hI hB hk hj m1 ⟨ly_52, uy_52⟩ (hp1 (by omega)) hmn9, rfl⟩⟩ dX11_equalize_162 (jj_le rfl) (jj_le rfl)
        · have z_c_60 := jc_nleL (a := (f (20 + 5 * k)).toInt) (b := (f (49 + 6 * j)).toInt) c_60 rfl rfl
          exfalso; omega
      · have z_c_45 := jc_nltL (a := ((f (49 + 6 * j)) - (f (20 + 5 * k))).toInt) (b := (p3 - (f (20 + 5 * k))).toInt) c_45 rfl rfl
        refine jj_lload C dX11_equalize_55 rfl ?_
        refine jj_lload C dX11_equalize_57 rfl ?_
        refine jj_lsub C dX11_equalize_59 rfl ?_
        refine tt_callS (rest := []) C (rs_partOf hl D cA ak (f (50 + 6 * j)) (p3 - (f (20 + 5 * k))) ((f (49 + 6 * j)) - (f (20 + 5 * k))) hk0 hkw hka hkt hki hkf hkp ⟨by omega, by omega⟩ (by have q8 := rz_top (g := p3) (m := f (20 + 5 * k)) (e := f (49 + 6 * j)) (by omega) (by omega) (by omega) (by omega); omega) (by have q8 := rz_top (g := p3) (m := f (20 + 5 * k)) (e := f (49 + 6 * j)) (by omega) (by omega) (by omega) (by omega); exact q8.1) hok hm) [] [] rfl rfl (by decide) (by decide) (by decide) jw_d6862cd5fe jw_16f7c9faa4 jw_f96c99f44d jw_6c292e3725 jn_X11_partOf rfl (jj_le rfl) (jj_le rfl) (jj_le rfl) (jj_le rfl) (jj_le rfl) dX11_equalize_60 rfl (fun _ _ _ hX => hX.elim) (fun rx pl_61 r O_65 => ?_)
        obtain ⟨rfl, hok_62, hr_63, ha_64, hR_66⟩ := O_65
        replace hC := ha_64.at hkw (by decide) (by decide) hC
        replace hm := hm.fr hr_63 hk0 rfl
        replace hfr := hfr.trans (hr_63.sub (by decide))
        replace hfa := hfa.trans (ha_64.sub (by decide))
        obtain ⟨y_67, ly_67, uy_67, rfl⟩ := hR_66
        refine jj_lstore C dX11_equalize_63 (by decide) rfl ?_
        refine jj_aload_n C dX11_equalize_65 rfl ?_
        refine jj_iload_n C dX11_equalize_66 rfl ?_
        refine jj_iload_n C dX11_equalize_67 rfl ?_
        refine jj_lload C dX11_equalize_68 rfl ?_
        refine jj_lload C dX11_equalize_70 rfl ?_
        refine jj_ldc2 (v := 100000) C dX11_equalize_72 jw_759d064724 ?_
        refine jj_lmul C dX11_equalize_75 rfl ?_
        refine jj_lload C dX11_equalize_76 rfl ?_
        refine jj_ldiv C dX11_equalize_78 (rl_nz (by omega)) rfl ?_
        obtain ⟨qc, gs, hqc⟩ := tt_recv (cx := []) hok_62 hk0 (by decide) rfl
        refine tt_callV (rest := []) C (rs_moves hl D cA ak k j y_67 ((y_67 * (100000 : Int64)) / p4) f hk0 hkw hka hkt hki hkf hkp (by omega) (by omega) hok_62 hm hC) [] [] rfl rfl (by decide) (by decide) (by decide) qc hqc rfl rfl jw_c4e1ec86b8 jw_2ea53388f1 jw_862979ac5f jw_f96c99f44d jw_cd6cc19fab jn_X11_moves rfl (jj_le rfl) (jj_le rfl) (jj_le rfl) (jj_le rfl) (jj_le rfl) dX11_equalize_79 rfl (fun _ _ _ hX => hX.elim) (fun rx pl_68 r O_72 => ?_)
        obtain ⟨rfl, hok_69, hr_70, ha_71, hR_73⟩ := O_72
        replace hm := hm.fr hr_70 hk0 rfl
        replace hfr := hfr.trans (hr_70.sub (by decide))
        replace hfa := hfa.trans (ha_71.sub (by decide))
        obtain ⟨hC_74, rfl⟩ := hR_73
        refine jj_lload C dX11_equalize_82 rfl ?_
        refine jj_lload C dX11_equalize_84 rfl ?_
        refine jj_lcmp_ge (tgt := 162) C dX11_equalize_86 dX11_equalize_87 (by decide) (fun c_75 => ?_) (fun c_75 => ?_)
        · have z_c_75 := jc_leL (a := (f (20 + 5 * k)).toInt) (b := (f (49 + 6 * j)).toInt) c_75 rfl rfl
          exact jj_vret C ⟨[], pl_68, rfl, rfl, hok_69, hfr, hfa, ⟨_, hC_74, rl_EQ.back hI hB hk hj m1 ⟨ly_67, uy_67⟩ (hp1 (by omega)) hmn9, rfl⟩⟩ dX11_equalize_162 (jj_le rfl) (jj_le rfl)
        · have z_c_75 := jc_nleL (a := (f (20 + 5 * k)).toInt) (b := (f (49 + 6 * j)).toInt) c_75 rfl rfl
          exfalso; omega

set_option maxHeartbeats 4000000 in
set_option maxRecDepth 100000 in
theorem rs_crystallizeOne {l : Launch} (hl : l.stackTraces = false) (D : va_G) (cA : Nat → ClassId) (ak : (Nat → Nat) × (Nat → Nat)) {Kd : Nat → Nat} {h0 aw aa at0 ai af ap : Nat} (k : Nat) (B : Int) (f : Nat → Int64) (hk0 : Kd h0 = 1) (hkw : Kd aw = 2) (hka : Kd aa = 3) (hkt : Kd at0 = 4) (hki : Kd ai = 5) (hkf : Kd af = 6) (hkp : Kd ap = 7) (hk : k < rnS f) (hI : rl_I B f) (hB5 : B ≤ 43520000000) (hu : 1 ≤ (f (19 + 5 * k)).toInt) {pl0 : va_W} (hok : tt_ok rt_tk cA Kd pl0) (hm : rl_m pl0 h0 aw aa at0 ai af ap) (hC : tt_lc pl0 aw f) : jj_M l D cA ak yX11_crystallizeOne (.code yX11_crystallizeOne cX11_crystallizeOne 10 none) 2 62 0 0 ([] ++ pl0) [.ref h0, .int (nI (16 + 5 * k))] (tt_O (fun rx pl1 r => rx = [] ∧ tt_ok rt_tk cA Kd pl1 ∧ tt_fr Kd [] pl0 pl1 ∧ tt_fa Kd [2] pl0 pl1 ∧ ((∃ g : Nat → Int64, tt_lc pl1 aw g ∧ rl_I B g ∧ rl_T g ≤ rl_T f ∧ (∀ i : Nat, (i < 10 ∨ 286 ≤ i) → g i = f i) ∧ (∀ a : Nat, a < 6 → a ≠ k → g (19 + 5 * a) = f (19 + 5 * a)) ∧ r = none)))) (tt_OX (fun _ _ _ => False)) := by
  refine jj_start hl (by decide) jw_f9bd69189b (jj_le rfl) ?_
  intro p e s m args below meth c A hargs hA C hex hmn
  have hfr := tt_fr.refl (K := Kd) (WS := []) pl0
  have hfa := tt_fa.refl (K := Kd) (WA := [2]) pl0
  have hH := hI.1.1
  obtain ⟨⟨g0a, g0b⟩, ⟨g1a, g1b⟩, ⟨g6a, g6b⟩, ⟨g7a, g7b⟩, ⟨g8a, g8b⟩⟩ := hH
  have hB : B ≤ 43920000000 := by omega
  have hk6 : k < 6 := by unfold rnS at hk; omega
  have hu1 : ¬ (f (19 + 5 * k)) = 0 := rl_nz (by omega)
  have hF := hI.fee hB5 hk hu
  refine jj_aload_n C dX11_crystallizeOne_0 rfl ?_
  refine jj_iload_n C dX11_crystallizeOne_1 rfl ?_
  obtain ⟨qc, gs, hqc⟩ := tt_recv (cx := []) hok hk0 (by decide) rfl
  refine tt_callV (rest := []) C (rs_gross hl D cA ak k f hk0 hkw hka hkt hki hkf hkp (by omega) hu1 hok hm hC) [] [] rfl rfl (by decide) (by decide) (by decide) qc hqc rfl rfl jw_1edf99ea30 jw_400b60e050 jw_5647e6ad46 jw_f96c99f44d jw_5385d4d55b jn_X11_gross rfl (jj_le rfl) (jj_le rfl) (jj_le rfl) (jj_le rfl) (jj_le rfl) dX11_crystallizeOne_2 rfl (fun _ _ _ hX => hX.elim) (fun rx pl_1 r O_5 => ?_)
  obtain ⟨rfl, hok_2, hr_3, ha_4, hR_6⟩ := O_5
  replace hC := ha_4.at hkw (by decide) (by decide) hC
  replace hm := hm.fr hr_3 hk0 rfl
  replace hfr := hfr.trans (hr_3.sub (by decide))
  replace hfa := hfa.trans (ha_4.sub (by decide))
  obtain rfl := hR_6
  refine jj_lstore_n C dX11_crystallizeOne_5 (by decide) rfl ?_
  refine jj_aload_n C dX11_crystallizeOne_6 rfl ?_
  refine jj_iload_n C dX11_crystallizeOne_7 rfl ?_
  obtain ⟨qc, gs, hqc⟩ := tt_recv (cx := []) hok_2 hk0 (by decide) rfl
  refine tt_callV (rest := []) C (rs_accrued hl D cA ak k f hk0 hkw hka hkt hki hkf hkp (by omega) hok_2 hm hC) [] [] rfl rfl (by decide) (by decide) (by decide) qc hqc rfl rfl jw_2b94ab0b2c jw_fa756eb8b8 jw_81537d461f jw_f96c99f44d jw_3e876c9b97 jn_X11_accrued rfl (jj_le rfl) (jj_le rfl) (jj_le rfl) (jj_le rfl) (jj_le rfl) dX11_crystallizeOne_8 rfl (fun _ _ _ hX => hX.elim) (fun rx pl_7 r O_11 => ?_)
  obtain ⟨rfl, hok_8, hr_9, ha_10, hR_12⟩ := O_11
  replace hC := ha_10.at hkw (by decide) (by decide) hC
  replace hm := hm.fr hr_9 hk0 rfl
  replace hfr := hfr.trans (hr_9.sub (by decide))
  replace hfa := hfa.trans (ha_10.sub (by decide))
  obtain rfl := hR_12
  refine jj_lstore C dX11_crystallizeOne_11 (by decide) rfl ?_
  refine jj_aload_n C dX11_crystallizeOne_13 rfl ?_
  refine tt_getF C hok_8 jk_12 0 (by decide) jw_34eaf3ba8b (t := (2, 2, 0)) hk0 (by decide) rfl rfl hm.1 dX11_crystallizeOne_14 ?_
  refine jj_iload_n C dX11_crystallizeOne_17 rfl ?_
  refine jj_iconst (v := 2) C dX11_crystallizeOne_18 (by decide) ?_
  refine jj_iadd (v := nI (18 + 5 * k)) C dX11_crystallizeOne_19 (rl_addR (kn := 2) (by decide) (by omega)) ?_
  refine jj_dup2 C dX11_crystallizeOne_20 rfl rfl ?_
  refine rl_lald C hok_8 (t := (1, (-9223372036854775808), 9223372036854775807)) hkw (by decide) rfl (k := 18 + 5 * k) (v := (f (18 + 5 * k))) (vp_in_nI (by omega) (by decide)) hC (nI_clamp (by omega)) rfl dX11_crystallizeOne_21 ?_
  refine jj_lload C dX11_crystallizeOne_22 rfl ?_
  refine jj_lsub C dX11_crystallizeOne_24 rfl ?_
  refine rl_last C hok_8 (t := (1, (-9223372036854775808), 9223372036854775807)) hkw (by decide) rfl (k := 18 + 5 * k) (vp_in_nI (by omega) (by decide)) (tt_ja _) (nI_clamp (by omega)) dX11_crystallizeOne_25 (fun pl_13 hok_14 tr tl tw => ?_)
  replace hm := hm.arr tr
  replace hfr := hfr.arr tr
  replace hC := tw _ hC
  replace hfa := hfa.wr hkw tl (by decide)
  refine jj_aload_n C dX11_crystallizeOne_26 rfl ?_
  refine tt_getF C hok_14 jk_12 0 (by decide) jw_34eaf3ba8b (t := (2, 2, 0)) hk0 (by decide) rfl rfl hm.1 dX11_crystallizeOne_27 ?_
  refine jj_bipush (v := 10) C dX11_crystallizeOne_30 (by decide) ?_
  refine jj_dup2 C dX11_crystallizeOne_32 rfl rfl ?_
  refine rl_lald C hok_14 (t := (1, (-9223372036854775808), 9223372036854775807)) hkw (by decide) rfl (k := 10) (v := (f 10)) (vp_in_iff.mpr (by decide)) hC (by decide) (rl_ne (by omega) rfl) dX11_crystallizeOne_33 ?_
  refine jj_lload C dX11_crystallizeOne_34 rfl ?_
  refine jj_ladd C dX11_crystallizeOne_36 rfl ?_
  refine rl_last C hok_14 (t := (1, (-9223372036854775808), 9223372036854775807)) hkw (by decide) rfl (k := 10) (vp_in_iff.mpr (by decide)) (tt_ja _) (by decide) dX11_crystallizeOne_37 (fun pl_15 hok_16 tr tl tw => ?_)
  replace hm := hm.arr tr
  replace hfr := hfr.arr tr
  replace hC := tw _ hC
  replace hfa := hfa.wr hkw tl (by decide)
  replace hC : tt_lc pl_15 aw (rg_fee f k) := hC
  have hu2 : ¬ (rg_fee f k (19 + 5 * k)) = 0 := by rw [hF.2.2.1 _ (by omega) (by omega)]; exact hu1
  refine jj_aload_n C dX11_crystallizeOne_38 rfl ?_
  refine jj_iload_n C dX11_crystallizeOne_39 rfl ?_
  obtain ⟨qc, gs, hqc⟩ := tt_recv (cx := []) hok_16 hk0 (by decide) rfl
  refine tt_callV (rest := []) C (rs_gross hl D cA ak k (rg_fee f k) hk0 hkw hka hkt hki hkf hkp (by omega) hu2 hok_16 hm hC) [] [] rfl rfl (by decide) (by decide) (by decide) qc hqc rfl rfl jw_1edf99ea30 jw_400b60e050 jw_5647e6ad46 jw_f96c99f44d jw_5385d4d55b jn_X11_gross rfl (jj_le rfl) (jj_le rfl) (jj_le rfl) (jj_le rfl) (jj_le rfl) dX11_crystallizeOne_40 rfl (fun _ _ _ hX => hX.elim) (fun rx pl_17 r O_21 => ?_)
  obtain ⟨rfl, hok_18, hr_19, ha_20, hR_22⟩ := O_21
  replace hC := ha_20.at hkw (by decide) (by decide) hC
  replace hm := hm.fr hr_19 hk0 rfl
  replace hfr := hfr.trans (hr_19.sub (by decide))
  replace hfa := hfa.trans (ha_20.sub (by decide))
  obtain rfl := hR_22
  refine jj_lstore C dX11_crystallizeOne_43 (by decide) rfl ?_
  refine jj_iconst (v := 0) C dX11_crystallizeOne_45 (by decide) ?_
  refine jj_istore C dX11_crystallizeOne_46 (by decide) rfl ?_
  have hL_23 : ∀ (N : Nat) (pl : va_W) (k_24 : Nat) (g_25 : Nat → Int64), True → tt_ok rt_tk cA Kd pl → tt_fr Kd [] pl0 pl → tt_fa Kd [2] pl0 pl → rl_m pl h0 aw aa at0 ai af ap → tt_lc pl aw g_25 → rl_CO B (rg_fee f k) g_25 k (rz_mn (rg_gross f k).toInt (f (20 + 5 * k)).toInt) k_24 → (0 : Int) ≤ (k_24 : Int) → (k_24 : Int) ≤ 40 → (2147483648 - (k_24 : Int) ≤ (N : Int)) → jj_J p l e (jj_rm 2 62 0 0) s m args below meth c 10 A (vx_MQ below (jj_q D A (tt_O (fun rx pl1 r => rx = [] ∧ tt_ok rt_tk cA Kd pl1 ∧ tt_fr Kd [] pl0 pl1 ∧ tt_fa Kd [2] pl0 pl1 ∧ ((∃ g : Nat → Int64, tt_lc pl1 aw g ∧ rl_I B g ∧ rl_T g ≤ rl_T f ∧ (∀ i : Nat, (i < 10 ∨ 286 ≤ i) → g i = f i) ∧ (∀ a : Nat, a < 6 → a ≠ k → g (19 + 5 * a) = f (19 + 5 * a)) ∧ r = none))))) (jj_x D A (tt_OX (fun _ _ _ => False))) args s 0 0 A) (jj_X D A ([] ++ pl)) 0 0 48 [(8, .int (nI k_24)), (6, .long (rg_gross (rg_fee f k) k)), (4, .long (rg_acc f k)), (2, .long (rg_gross f k)), (0, .ref h0), (1, .int (nI (16 + 5 * k)))] [] := by
    intro NL_23
    induction NL_23 with
    | zero => intro pl k_24 g_25 _ hok hfr hfa hm hC_26 hD_27 lk_24 uk_24 hNL_23; exfalso; omega
    | succ NL_23 ihL_23 =>
      intro pl k_24 g_25 _ hok hfr hfa hm hC_26 hD_27 lk_24 uk_24 hNL_23
      replace ihL_23 := fun pl k_24 g_25 h1 => ihL_23 pl k_24 g_25 trivial h1
      obtain ⟨⟨g0ag_25, g0bg_25⟩, ⟨g1ag_25, g1bg_25⟩, ⟨g6ag_25, g6bg_25⟩, ⟨g7ag_25, g7bg_25⟩, ⟨g8ag_25, g8bg_25⟩⟩ := (hD_27.1).1.1
      refine jj_iload C dX11_crystallizeOne_48 rfl ?_
      refine jj_i2l C dX11_crystallizeOne_50 rfl ?_
      refine jj_aload_n C dX11_crystallizeOne_51 rfl ?_
      refine tt_getF C hok jk_12 0 (by decide) jw_34eaf3ba8b (t := (2, 2, 0)) hk0 (by decide) rfl rfl hm.1 dX11_crystallizeOne_52 ?_
      refine jj_bipush (v := 7) C dX11_crystallizeOne_55 (by decide) ?_
      refine rl_lald C hok (t := (1, (-9223372036854775808), 9223372036854775807)) hkw (by decide) rfl (k := 7) (v := (g_25 7)) (vp_in_iff.mpr (by decide)) hC_26 (by decide) rfl dX11_crystallizeOne_57 ?_
      refine jj_lcmp_ge (tgt := 141) C dX11_crystallizeOne_58 dX11_crystallizeOne_59 (by decide) (fun c_28 => ?_) (fun c_28 => ?_)
      · have z_c_28 := jc_leL (a := (g_25 7).toInt) (b := ((k_24 : Nat) : Int)) c_28 rfl (rl_tl (by omega))
        refine jj_lload C dX11_crystallizeOne_141 rfl ?_
        refine jj_lconst (v := 0) C dX11_crystallizeOne_143 (by decide) ?_
        refine jj_lcmp_le (tgt := 158) C dX11_crystallizeOne_144 dX11_crystallizeOne_145 (by decide) (fun c_29 => ?_) (fun c_29 => ?_)
        · have z_c_29 := jc_leL (a := (rg_acc f k).toInt) (b := 0) c_29 rfl (by decide)
          exact jj_vret C ⟨[], pl, rfl, rfl, hok, hfr, hfa, (by have q9 := hD_27.fin (P := (rg_gross (rg_fee f k) k)) hk6 hk (by omega) hF.2.1 hF.2.2.1 (Or.inl rfl); exact ⟨_, hC_26, q9.1, q9.2.1, q9.2.2.1, q9.2.2.2, rfl⟩)⟩ dX11_crystallizeOne_158 (jj_le rfl) (jj_le rfl)
        · have z_c_29 := jc_nleL (a := (rg_acc f k).toInt) (b := 0) c_29 rfl (by decide)
          refine jj_aload_n C dX11_crystallizeOne_148 rfl ?_
          refine tt_getF C hok jk_12 0 (by decide) jw_34eaf3ba8b (t := (2, 2, 0)) hk0 (by decide) rfl rfl hm.1 dX11_crystallizeOne_149 ?_
          refine jj_iload_n C dX11_crystallizeOne_152 rfl ?_
          refine jj_iconst (v := 4) C dX11_crystallizeOne_153 (by decide) ?_
          refine jj_iadd (v := nI (20 + 5 * k)) C dX11_crystallizeOne_154 (rl_addR (kn := 4) (by decide) (by omega)) ?_
          refine jj_lload C dX11_crystallizeOne_155 rfl ?_
          refine rl_last C hok (t := (1, (-9223372036854775808), 9223372036854775807)) hkw (by decide) rfl (k := 20 + 5 * k) (vp_in_nI (by omega) (by decide)) (tt_ja _) (nI_clamp (by omega)) dX11_crystallizeOne_157 (fun pl_30 hok_31 tr tl tw => ?_)
          replace hm := hm.arr tr
          replace hfr := hfr.arr tr
          replace hC_26 := tw _ hC_26
          replace hfa := hfa.wr hkw tl (by decide)
          exact jj_vret C ⟨[], pl_30, rfl, rfl, hok_31, hfr, hfa, (by have q9 := hD_27.fin (P := (rg_gross (rg_fee f k) k)) hk6 hk (by omega) hF.2.1 hF.2.2.1 (Or.inr ⟨rfl, (hF.2.2.2.2.2.2.1 (by omega)).1, hF.2.2.2.1.2, (hF.2.2.2.2.2.2.1 (by omega)).2⟩); exact ⟨_, hC_26, q9.1, q9.2.1, q9.2.2.1, q9.2.2.2, rfl⟩)⟩ dX11_crystallizeOne_158 (jj_le rfl) (jj_le rfl)
      · have z_c_28 := jc_nleL (a := (g_25 7).toInt) (b := ((k_24 : Nat) : Int)) c_28 rfl (rl_tl (by omega))
        refine jj_iload C dX11_crystallizeOne_62 rfl ?_
        refine tt_call0S (rest := []) C (rn_lotAt hl D cA ak k_24 (46 + 6 * k_24) (by omega)) jw_4c8c4b88e2 jw_0fa3e2bccb jw_f96c99f44d jw_d540d98a1c jn_X11_lotAt rfl (jj_le rfl) (jj_le rfl) (jj_le rfl) (jj_le rfl) (jj_le rfl) dX11_crystallizeOne_64 rfl (fun w1 r hO => ?_)
        obtain ⟨-, rfl⟩ := hO
        refine jj_istore C dX11_crystallizeOne_67 (by decide) rfl ?_
        refine jj_aload_n C dX11_crystallizeOne_69 rfl ?_
        refine tt_getF C hok jk_12 0 (by decide) jw_34eaf3ba8b (t := (2, 2, 0)) hk0 (by decide) rfl rfl hm.1 dX11_crystallizeOne_70 ?_
        refine jj_iload C dX11_crystallizeOne_73 rfl ?_
        refine jj_iconst (v := 1) C dX11_crystallizeOne_75 (by decide) ?_
        refine jj_iadd (v := nI (47 + 6 * k_24)) C dX11_crystallizeOne_76 (rl_addR (kn := 1) (by decide) (by omega)) ?_
        refine rl_lald C hok (t := (1, (-9223372036854775808), 9223372036854775807)) hkw (by decide) rfl (k := 47 + 6 * k_24) (v := (g_25 (47 + 6 * k_24))) (vp_in_nI (by omega) (by decide)) hC_26 (nI_clamp (by omega)) rfl dX11_crystallizeOne_77 ?_
        refine jj_aload_n C dX11_crystallizeOne_78 rfl ?_
        refine tt_getF C hok jk_12 0 (by decide) jw_34eaf3ba8b (t := (2, 2, 0)) hk0 (by decide) rfl rfl hm.1 dX11_crystallizeOne_79 ?_
        refine jj_iload_n C dX11_crystallizeOne_82 rfl ?_
        refine jj_iconst (v := 0) C dX11_crystallizeOne_83 (by decide) ?_
        refine jj_iadd (v := nI (16 + 5 * k)) C dX11_crystallizeOne_84 (rl_addR (kn := 0) (by decide) (by omega)) ?_
        refine rl_lald C hok (t := (1, (-9223372036854775808), 9223372036854775807)) hkw (by decide) rfl (k := 16 + 5 * k) (v := (g_25 (16 + 5 * k))) (vp_in_nI (by omega) (by decide)) hC_26 (nI_clamp (by omega)) rfl dX11_crystallizeOne_85 ?_
        refine jj_lcmp_eq (tgt := 93) C dX11_crystallizeOne_86 dX11_crystallizeOne_87 (by decide) (fun c_32 => ?_) (fun c_32 => ?_)
        · have z_c_32 := jc_eqL (a := (g_25 (47 + 6 * k_24)).toInt) (b := (g_25 (16 + 5 * k)).toInt) c_32 rfl rfl
          refine jj_aload_n C dX11_crystallizeOne_93 rfl ?_
          refine tt_getF C hok jk_12 0 (by decide) jw_34eaf3ba8b (t := (2, 2, 0)) hk0 (by decide) rfl rfl hm.1 dX11_crystallizeOne_94 ?_
          refine jj_iconst (v := 1) C dX11_crystallizeOne_97 (by decide) ?_
          refine rl_lald C hok (t := (1, (-9223372036854775808), 9223372036854775807)) hkw (by decide) rfl (k := 1) (v := (g_25 1)) (vp_in_iff.mpr (by decide)) hC_26 (by decide) rfl dX11_crystallizeOne_98 ?_
          refine jj_lconst (v := 1) C dX11_crystallizeOne_99 (by decide) ?_
          refine jj_lcmp_ne (tgt := 114) C dX11_crystallizeOne_100 dX11_crystallizeOne_101 (by decide) (fun c_33 => ?_) (fun c_33 => ?_)
          · have z_c_33 := jc_neqL (a := (g_25 1).toInt) (b := 1) c_33 rfl (by decide)
            refine jj_aload_n C dX11_crystallizeOne_114 rfl ?_
            refine tt_getF C hok jk_12 0 (by decide) jw_34eaf3ba8b (t := (2, 2, 0)) hk0 (by decide) rfl rfl hm.1 dX11_crystallizeOne_115 ?_
            refine jj_iload C dX11_crystallizeOne_118 rfl ?_
            refine jj_iconst (v := 3) C dX11_crystallizeOne_120 (by decide) ?_
            refine jj_iadd (v := nI (49 + 6 * k_24)) C dX11_crystallizeOne_121 (rl_addR (kn := 3) (by decide) (by omega)) ?_
            refine jj_lload C dX11_crystallizeOne_122 rfl ?_
            refine rl_last C hok (t := (1, (-9223372036854775808), 9223372036854775807)) hkw (by decide) rfl (k := 49 + 6 * k_24) (vp_in_nI (by omega) (by decide)) (tt_ja _) (nI_clamp (by omega)) dX11_crystallizeOne_124 (fun pl_34 hok_35 tr tl tw => ?_)
            replace hm := hm.arr tr
            replace hfr := hfr.arr tr
            replace hC_26 := tw _ hC_26
            replace hfa := hfa.wr hkw tl (by decide)
            refine jj_aload_n C dX11_crystallizeOne_125 rfl ?_
            refine tt_getF C hok_35 jk_12 0 (by decide) jw_34eaf3ba8b (t := (2, 2, 0)) hk0 (by decide) rfl rfl hm.1 dX11_crystallizeOne_126 ?_
            refine jj_iload C dX11_crystallizeOne_129 rfl ?_
            refine jj_iconst (v := 4) C dX11_crystallizeOne_131 (by decide) ?_
            refine jj_iadd (v := nI (50 + 6 * k_24)) C dX11_crystallizeOne_132 (rl_addR (kn := 4) (by decide) (by omega)) ?_
            refine jj_lconst (v := 0) C dX11_crystallizeOne_133 (by decide) ?_
            refine rl_last C hok_35 (t := (1, (-9223372036854775808), 9223372036854775807)) hkw (by decide) rfl (k := 50 + 6 * k_24) (vp_in_nI (by omega) (by decide)) (tt_ja _) (nI_clamp (by omega)) dX11_crystallizeOne_134 (fun pl_36 hok_37 tr tl tw => ?_)
            replace hm := hm.arr tr
            replace hfr := hfr.arr tr
            replace hC_26 := tw _ hC_26
            replace hfa := hfa.wr hkw tl (by decide)
            refine jj_iinc (v := nI (1 + k_24)) C dX11_crystallizeOne_135 rfl (rl_addR (kn := 1) (by decide) (by omega)) (by decide) rfl ?_
            refine jj_goto (tgt := 48) C dX11_crystallizeOne_138 (by decide) ?_
            refine jj_loc [0, 2, 3, 4, 5, 6] rfl ?_
            exact ihL_23 pl_36 (1 + k_24) (vp_updL (vp_updL g_25 (49 + 6 * k_24) (rg_gross (rg_fee f k) k)) (50 + 6 * k_24) (0 : Int64)) hok_37 hfr hfa hm hC_26 (hD_27.put (hD_27.eq hF.1 hF.2.2.1 hk (by unfold rnL; omega) c_32).1 (by unfold rnL; omega) c_32 (Or.inr ⟨by omega, rfl⟩) ⟨hF.2.2.2.1.1, by omega⟩) (by first | omega | decide | exact tt_lo _ | exact tt_hi _) (by first | omega | decide | exact tt_lo _ | exact tt_hi _) (by first | omega | decide | exact tt_lo _ | exact tt_hi _)
          · have z_c_33 := jc_eqL (a := (g_25 1).toInt) (b := 1) c_33 rfl (by decide)
            refine jj_aload_n C dX11_crystallizeOne_104 rfl ?_
            refine jj_iload_n C dX11_crystallizeOne_105 rfl ?_
            refine jj_iload C dX11_crystallizeOne_106 rfl ?_
            refine jj_lload_n C dX11_crystallizeOne_108 rfl ?_
            refine jj_lload C dX11_crystallizeOne_109 rfl ?_
            obtain ⟨qc, gs, hqc⟩ := tt_recv (cx := []) hok hk0 (by decide) rfl
            refine tt_callV (rest := []) C (rs_equalize hl D cA ak k k_24 (rg_gross f k) (rg_gross (rg_fee f k) k) B g_25 hk0 hkw hka hkt hki hkf hkp (hD_27.eq hF.1 hF.2.2.1 hk (by unfold rnL; omega) c_32).1 (by unfold rnL; omega) (by rw [c_32]) hD_27.1 (by omega) (by omega) hF.2.2.2.2.1 (fun z => hF.2.2.2.2.2.1 (by rw [(hD_27.eq hF.1 hF.2.2.1 hk (by unfold rnL; omega) c_32).2.1] at z; exact z)) (by rw [(hD_27.eq hF.1 hF.2.2.1 hk (by unfold rnL; omega) c_32).2.1]; exact (hD_27.eq hF.1 hF.2.2.1 hk (by unfold rnL; omega) c_32).2.2 (by omega)) (by rw [(hD_27.eq hF.1 hF.2.2.1 hk (by unfold rnL; omega) c_32).2.1]; exact hF.2.2.2.2.2.2.2.2) hok hm hC_26) [] [] rfl rfl (by decide) (by decide) (by decide) qc hqc rfl rfl jw_31478c4888 jw_abdc905759 jw_7e6e55a9e4 jw_f96c99f44d jw_9923c131a3 jn_X11_equalize rfl (jj_le rfl) (jj_le rfl) (jj_le rfl) (jj_le rfl) (jj_le rfl) dX11_crystallizeOne_111 rfl (fun _ _ _ hX => hX.elim) (fun rx pl_38 r O_42 => ?_)
            obtain ⟨rfl, hok_39, hr_40, ha_41, hR_43⟩ := O_42
            replace hm := hm.fr hr_40 hk0 rfl
            replace hfr := hfr.trans (hr_40.sub (by decide))
            replace hfa := hfa.trans (ha_41.sub (by decide))
            obtain ⟨g_44, hC_45, hq_46, rfl⟩ := hR_43
            refine jj_aload_n C dX11_crystallizeOne_114 rfl ?_
            refine tt_getF C hok_39 jk_12 0 (by decide) jw_34eaf3ba8b (t := (2, 2, 0)) hk0 (by decide) rfl rfl hm.1 dX11_crystallizeOne_115 ?_
            refine jj_iload C dX11_crystallizeOne_118 rfl ?_
            refine jj_iconst (v := 3) C dX11_crystallizeOne_120 (by decide) ?_
            refine jj_iadd (v := nI (49 + 6 * k_24)) C dX11_crystallizeOne_121 (rl_addR (kn := 3) (by decide) (by omega)) ?_
            refine jj_lload C dX11_crystallizeOne_122 rfl ?_
            refine rl_last C hok_39 (t := (1, (-9223372036854775808), 9223372036854775807)) hkw (by decide) rfl (k := 49 + 6 * k_24) (vp_in_nI (by omega) (by decide)) (tt_ja _) (nI_clamp (by omega)) dX11_crystallizeOne_124 (fun pl_47 hok_48 tr tl tw => ?_)
            replace hm := hm.arr tr
            replace hfr := hfr.arr tr
            replace hC_45 := tw _ hC_45
            replace hfa := hfa.wr hkw tl (by decide)
            refine jj_aload_n C dX11_crystallizeOne_125 rfl ?_
            refine tt_getF C hok_48 jk_12 0 (by decide) jw_34eaf3ba8b (t := (2, 2, 0)) hk0 (by decide) rfl rfl hm.1 dX11_crystallizeOne_126 ?_
            refine jj_iload C dX11_crystallizeOne_129 rfl ?_
            refine jj_iconst (v := 4) C dX11_crystallizeOne_131 (by decide) ?_
            refine jj_iadd (v := nI (50 + 6 * k_24)) C dX11_crystallizeOne_132 (rl_addR (kn := 4) (by decide) (by omega)) ?_
            refine jj_lconst (v := 0) C dX11_crystallizeOne_133 (by decide) ?_
            refine rl_last C hok_48 (t := (1, (-9223372036854775808), 9223372036854775807)) hkw (by decide) rfl (k := 50 + 6 * k_24) (vp_in_nI (by omega) (by decide)) (tt_ja _) (nI_clamp (by omega)) dX11_crystallizeOne_134 (fun pl_49 hok_50 tr tl tw => ?_)
            replace hm := hm.arr tr
            replace hfr := hfr.arr tr
            replace hC_45 := tw _ hC_45
            replace hfa := hfa.wr hkw tl (by decide)
            refine jj_iinc (v := nI (1 + k_24)) C dX11_crystallizeOne_135 rfl (rl_addR (kn := 1) (by decide) (by omega)) (by decide) rfl ?_
            refine jj_goto (tgt := 48) C dX11_crystallizeOne_138 (by decide) ?_
            refine jj_loc [0, 2, 3, 4, 5, 6] rfl ?_
            exact ihL_23 pl_49 (1 + k_24) (vp_updL (vp_updL g_44 (49 + 6 * k_24) (rg_gross (rg_fee f k) k)) (50 + 6 * k_24) (0 : Int64)) hok_50 hfr hfa hm hC_45 (hD_27.put (hD_27.eq hF.1 hF.2.2.1 hk (by unfold rnL; omega) c_32).1 (by unfold rnL; omega) c_32 (Or.inl ⟨by omega, by have q9 := hq_46; rw [(hD_27.eq hF.1 hF.2.2.1 hk (by unfold rnL; omega) c_32).2.1] at q9; exact q9⟩) ⟨hF.2.2.2.1.1, by omega⟩) (by first | omega | decide | exact tt_lo _ | exact tt_hi _) (by first | omega | decide | exact tt_lo _ | exact tt_hi _) (by first | omega | decide | exact tt_lo _ | exact tt_hi _)
        · have z_c_32 := jc_neqL (a := (g_25 (47 + 6 * k_24)).toInt) (b := (g_25 (16 + 5 * k)).toInt) c_32 rfl rfl
          refine jj_goto (tgt := 135) C dX11_crystallizeOne_90 (by decide) ?_
          refine jj_iinc (v := nI (1 + k_24)) C dX11_crystallizeOne_135 rfl (rl_addR (kn := 1) (by decide) (by omega)) (by decide) rfl ?_
          refine jj_goto (tgt := 48) C dX11_crystallizeOne_138 (by decide) ?_
          refine jj_loc [0, 2, 3, 4, 5, 6] rfl ?_
          exact ihL_23 pl (1 + k_24) g_25 hok hfr hfa hm hC_26 (hD_27.skip hk6 c_32) (by first | omega | decide | exact tt_lo _ | exact tt_hi _) (by first | omega | decide | exact tt_lo _ | exact tt_hi _) (by first | omega | decide | exact tt_lo _ | exact tt_hi _)
  exact hL_23 _ pl_17 0 (rg_fee f k) trivial hok_18 hfr hfa hm hC (rl_CO.init hF.1 hF.2.2.2.2.2.2.2.2 hF.2.2.2.2.2.2.2.1) (by first | omega | decide | exact tt_lo _ | exact tt_hi _) (by first | omega | decide | exact tt_lo _ | exact tt_hi _) (Int.self_le_toNat _)

set_option maxHeartbeats 4000000 in
set_option maxRecDepth 100000 in
theorem rs_crystallizeAll {l : Launch} (hl : l.stackTraces = false) (D : va_G) (cA : Nat → ClassId) (ak : (Nat → Nat) × (Nat → Nat)) {Kd : Nat → Nat} {h0 aw aa at0 ai af ap : Nat} (B : Int) (f : Nat → Int64) (hk0 : Kd h0 = 1) (hkw : Kd aw = 2) (hka : Kd aa = 3) (hkt : Kd at0 = 4) (hki : Kd ai = 5) (hkf : Kd af = 6) (hkp : Kd ap = 7) (hI : rl_I B f) (hP : rl_P f) (hB5 : B ≤ 43520000000) {pl0 : va_W} (hok : tt_ok rt_tk cA Kd pl0) (hm : rl_m pl0 h0 aw aa at0 ai af ap) (hC : tt_lc pl0 aw f) : jj_M l D cA ak yX11_crystallizeAll (.code yX11_crystallizeAll cX11_crystallizeAll 4 (some .long)) 3 91 0 0 ([] ++ pl0) [.ref h0] (tt_O (fun rx pl1 r => rx = [] ∧ tt_ok rt_tk cA Kd pl1 ∧ tt_fr Kd [] pl0 pl1 ∧ tt_fa Kd [2] pl0 pl1 ∧ ((∃ g : Nat → Int64, tt_lc pl1 aw g ∧ rl_I B g ∧ rl_P g ∧ rl_T g ≤ rl_T f ∧ (∀ i : Nat, (i < 10 ∧ i ≠ 6 ∧ i ≠ 7 ∨ 286 ≤ i) → g i = f i) ∧ ∃ v : Int64, r = some (.long v))))) (tt_OX (fun _ _ _ => False)) := by
  refine jj_start hl (by decide) jw_cb826cdb82 (jj_le rfl) ?_
  intro p e s m args below meth c A hargs hA C hex hmn
  have hfr := tt_fr.refl (K := Kd) (WS := []) pl0
  have hfa := tt_fa.refl (K := Kd) (WA := [2]) pl0
  have hH := hI.1.1
  obtain ⟨⟨g0a, g0b⟩, ⟨g1a, g1b⟩, ⟨g6a, g6b⟩, ⟨g7a, g7b⟩, ⟨g8a, g8b⟩⟩ := hH
  refine jj_aload_n C dX11_crystallizeAll_0 rfl ?_
  refine tt_getF C hok jk_12 0 (by decide) jw_34eaf3ba8b (t := (2, 2, 0)) hk0 (by decide) rfl rfl hm.1 dX11_crystallizeAll_1 ?_
  refine jj_bipush (v := 10) C dX11_crystallizeAll_4 (by decide) ?_
  refine rl_lald C hok (t := (1, (-9223372036854775808), 9223372036854775807)) hkw (by decide) rfl (k := 10) (v := (f 10)) (vp_in_iff.mpr (by decide)) hC (by decide) rfl dX11_crystallizeAll_6 ?_
  refine jj_lstore_n C dX11_crystallizeAll_7 (by decide) rfl ?_
  refine jj_iconst (v := 0) C dX11_crystallizeAll_8 (by decide) ?_
  refine jj_istore_n C dX11_crystallizeAll_9 (by decide) rfl ?_
  have hL_1 : ∀ (N : Nat) (pl : va_W) (k_2 : Nat) (g_3 : Nat → Int64), True → tt_ok rt_tk cA Kd pl → tt_fr Kd [] pl0 pl → tt_fa Kd [2] pl0 pl → rl_m pl h0 aw aa at0 ai af ap → tt_lc pl aw g_3 → rl_CA B f g_3 k_2 → (0 : Int) ≤ (k_2 : Int) → (k_2 : Int) ≤ 6 → (2147483648 - (k_2 : Int) ≤ (N : Int)) → jj_J p l e (jj_rm 3 91 0 0) s m args below meth c 4 A (vx_MQ below (jj_q D A (tt_O (fun rx pl1 r => rx = [] ∧ tt_ok rt_tk cA Kd pl1 ∧ tt_fr Kd [] pl0 pl1 ∧ tt_fa Kd [2] pl0 pl1 ∧ ((∃ g : Nat → Int64, tt_lc pl1 aw g ∧ rl_I B g ∧ rl_P g ∧ rl_T g ≤ rl_T f ∧ (∀ i : Nat, (i < 10 ∧ i ≠ 6 ∧ i ≠ 7 ∨ 286 ≤ i) → g i = f i) ∧ ∃ v : Int64, r = some (.long v)))))) (jj_x D A (tt_OX (fun _ _ _ => False))) args s 0 0 A) (jj_X D A ([] ++ pl)) 0 0 10 [(3, .int (nI k_2)), (1, .long (f 10)), (0, .ref h0)] [] := by
    intro NL_1
    induction NL_1 with
    | zero => intro pl k_2 g_3 _ hok hfr hfa hm hC_4 hD_5 lk_2 uk_2 hNL_1; exfalso; omega
    | succ NL_1 ihL_1 =>
      intro pl k_2 g_3 _ hok hfr hfa hm hC_4 hD_5 lk_2 uk_2 hNL_1
      replace ihL_1 := fun pl k_2 g_3 h1 => ihL_1 pl k_2 g_3 trivial h1
      obtain ⟨⟨g0ag_3, g0bg_3⟩, ⟨g1ag_3, g1bg_3⟩, ⟨g6ag_3, g6bg_3⟩, ⟨g7ag_3, g7bg_3⟩, ⟨g8ag_3, g8bg_3⟩⟩ := (hD_5.1).1.1
      refine jj_iload_n C dX11_crystallizeAll_10 rfl ?_
      refine jj_i2l C dX11_crystallizeAll_11 rfl ?_
      refine jj_aload_n C dX11_crystallizeAll_12 rfl ?_
      refine tt_getF C hok jk_12 0 (by decide) jw_34eaf3ba8b (t := (2, 2, 0)) hk0 (by decide) rfl rfl hm.1 dX11_crystallizeAll_13 ?_
      refine jj_bipush (v := 6) C dX11_crystallizeAll_16 (by decide) ?_
      refine rl_lald C hok (t := (1, (-9223372036854775808), 9223372036854775807)) hkw (by decide) rfl (k := 6) (v := (g_3 6)) (vp_in_iff.mpr (by decide)) hC_4 (by decide) rfl dX11_crystallizeAll_18 ?_
      refine jj_lcmp_ge (tgt := 37) C dX11_crystallizeAll_19 dX11_crystallizeAll_20 (by decide) (fun c_6 => ?_) (fun c_6 => ?_)
      · have z_c_6 := jc_leL (a := (g_3 6).toInt) (b := ((k_2 : Nat) : Int)) c_6 rfl (rl_tl (by omega))
        refine jj_aload_n C dX11_crystallizeAll_37 rfl ?_
        obtain ⟨qc, gs, hqc⟩ := tt_recv (cx := []) hok hk0 (by decide) rfl
        refine tt_callV (rest := []) C (rs_dropEmptyLots hl D cA ak B g_3 hk0 hkw hka hkt hki hkf hkp hD_5.1 hok hm hC_4) [] [] rfl rfl (by decide) (by decide) (by decide) qc hqc rfl rfl jw_617bd67f79 jw_8e5c1f18ee jw_f08bec5428 jw_f96c99f44d jw_78a4443009 jn_X11_dropEmptyLots rfl (jj_le rfl) (jj_le rfl) (jj_le rfl) (jj_le rfl) (jj_le rfl) dX11_crystallizeAll_38 rfl (fun _ _ _ hX => hX.elim) (fun rx pl_7 r O_11 => ?_)
        obtain ⟨rfl, hok_8, hr_9, ha_10, hR_12⟩ := O_11
        replace hm := hm.fr hr_9 hk0 rfl
        replace hfr := hfr.trans (hr_9.sub (by decide))
        replace hfa := hfa.trans (ha_10.sub (by decide))
        obtain ⟨g_13, hC_14, hI_15, hq_16, hq_17, hq_18, hq_19, rfl⟩ := hR_12
        obtain ⟨⟨g0ag_13, g0bg_13⟩, ⟨g1ag_13, g1bg_13⟩, ⟨g6ag_13, g6bg_13⟩, ⟨g7ag_13, g7bg_13⟩, ⟨g8ag_13, g8bg_13⟩⟩ := hI_15.1.1
        refine jj_aload_n C dX11_crystallizeAll_41 rfl ?_
        obtain ⟨qc, gs, hqc⟩ := tt_recv (cx := []) hok_8 hk0 (by decide) rfl
        refine tt_callV (rest := []) C (rs_closeEmpty hl D cA ak B g_13 hk0 hkw hka hkt hki hkf hkp hI_15 hq_19 hok_8 hm hC_14) [] [] rfl rfl (by decide) (by decide) (by decide) qc hqc rfl rfl jw_7cc7a4cc90 jw_8fcdd840e9 jw_87387d5435 jw_f96c99f44d jw_8dc09f8f68 jn_X11_closeEmpty rfl (jj_le rfl) (jj_le rfl) (jj_le rfl) (jj_le rfl) (jj_le rfl) dX11_crystallizeAll_42 rfl (fun _ _ _ hX => hX.elim) (fun rx pl_20 r O_24 => ?_)
        obtain ⟨rfl, hok_21, hr_22, ha_23, hR_25⟩ := O_24
        replace hm := hm.fr hr_22 hk0 rfl
        replace hfr := hfr.trans (hr_22.sub (by decide))
        replace hfa := hfa.trans (ha_23.sub (by decide))
        obtain ⟨g_26, hC_27, hI_28, hq_29, hq_30, hq_31, hq_32, rfl⟩ := hR_25
        obtain ⟨⟨g0ag_26, g0bg_26⟩, ⟨g1ag_26, g1bg_26⟩, ⟨g6ag_26, g6bg_26⟩, ⟨g7ag_26, g7bg_26⟩, ⟨g8ag_26, g8bg_26⟩⟩ := hI_28.1.1
        refine jj_aload_n C dX11_crystallizeAll_45 rfl ?_
        refine tt_getF C hok_21 jk_12 0 (by decide) jw_34eaf3ba8b (t := (2, 2, 0)) hk0 (by decide) rfl rfl hm.1 dX11_crystallizeAll_46 ?_
        refine jj_bipush (v := 10) C dX11_crystallizeAll_49 (by decide) ?_
        refine rl_lald C hok_21 (t := (1, (-9223372036854775808), 9223372036854775807)) hkw (by decide) rfl (k := 10) (v := (g_26 10)) (vp_in_iff.mpr (by decide)) hC_27 (by decide) rfl dX11_crystallizeAll_51 ?_
        refine jj_lload_n C dX11_crystallizeAll_52 rfl ?_
        refine jj_lsub C dX11_crystallizeAll_53 rfl ?_
        exact jj_lret C ⟨[], pl_20, rfl, rfl, hok_21, hfr, hfa, ⟨g_26, hC_27, hI_28, hq_32, Int.le_trans hq_29 (Int.le_trans hq_16 hD_5.2.1), (fun i a => ((hq_30 i (by omega)).trans (hq_17 i (by omega))).trans (hD_5.2.2.1 i (by omega))), ((g_26 10) - (f 10)), rfl⟩⟩ dX11_crystallizeAll_54 (jj_le rfl) (jj_le rfl)
      · have z_c_6 := jc_nleL (a := (g_3 6).toInt) (b := ((k_2 : Nat) : Int)) c_6 rfl (rl_tl (by omega))
        refine jj_aload_n C dX11_crystallizeAll_23 rfl ?_
        refine jj_iload_n C dX11_crystallizeAll_24 rfl ?_
        refine tt_call0S (rest := [.ref h0]) C (rn_seriesAt hl D cA ak k_2 (16 + 5 * k_2) (by omega)) jw_6251557f40 jw_b2cd40a13f jw_f96c99f44d jw_6245231363 jn_X11_seriesAt rfl (jj_le rfl) (jj_le rfl) (jj_le rfl) (jj_le rfl) (jj_le rfl) dX11_crystallizeAll_25 rfl (fun w1 r hO => ?_)
        obtain ⟨-, rfl⟩ := hO
        obtain ⟨qc, gs, hqc⟩ := tt_recv (cx := []) hok hk0 (by decide) rfl
        refine tt_callV (rest := []) C (rs_crystallizeOne hl D cA ak k_2 B g_3 hk0 hkw hka hkt hki hkf hkp (by unfold rnS; omega) hD_5.1 hB5 (hD_5.2.2.2 _ (Nat.le_refl _) (by unfold rnS; omega)) hok hm hC_4) [] [] rfl rfl (by decide) (by decide) (by decide) qc hqc rfl rfl jw_64372f83ce jw_17af05eb0b jw_29b7492586 jw_f96c99f44d jw_f9bd69189b jn_X11_crystallizeOne rfl (jj_le rfl) (jj_le rfl) (jj_le rfl) (jj_le rfl) (jj_le rfl) dX11_crystallizeAll_28 rfl (fun _ _ _ hX => hX.elim) (fun rx pl_33 r O_37 => ?_)
        obtain ⟨rfl, hok_34, hr_35, ha_36, hR_38⟩ := O_37
        replace hm := hm.fr hr_35 hk0 rfl
        replace hfr := hfr.trans (hr_35.sub (by decide))
        replace hfa := hfa.trans (ha_36.sub (by decide))
        obtain ⟨g_39, hC_40, hI_41, hq_42, hq_43, hq_44, rfl⟩ := hR_38
        obtain ⟨⟨g0ag_39, g0bg_39⟩, ⟨g1ag_39, g1bg_39⟩, ⟨g6ag_39, g6bg_39⟩, ⟨g7ag_39, g7bg_39⟩, ⟨g8ag_39, g8bg_39⟩⟩ := hI_41.1.1
        refine jj_iinc (v := nI (1 + k_2)) C dX11_crystallizeAll_31 rfl (rl_addR (kn := 1) (by decide) (by omega)) (by decide) rfl ?_
        refine jj_goto (tgt := 10) C dX11_crystallizeAll_34 (by decide) ?_
        exact ihL_1 pl_33 (1 + k_2) g_39 hok_34 hfr hfa hm hC_40 (hD_5.step hI_41 hq_42 hq_43 hq_44) (by first | omega | decide | exact tt_lo _ | exact tt_hi _) (by first | omega | decide | exact tt_lo _ | exact tt_hi _) (by first | omega | decide | exact tt_lo _ | exact tt_hi _)
  exact hL_1 _ pl0 0 f trivial hok hfr hfa hm hC (rl_CA.init hI hP) (by first | omega | decide | exact tt_lo _ | exact tt_hi _) (by first | omega | decide | exact tt_lo _ | exact tt_hi _) (Int.self_le_toNat _)
