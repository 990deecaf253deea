theorem jw_1431b790b8 : Cond.code yX11_copy cX11_copy 3 none ∈ jj_G := jj_t7 (List.mem_of_getElem? (i := 13) (by decide +kernel)) rfl
theorem jw_bbd1efe6b1 : Cond.fieldLink RX11 19 "SeriesFundModel" "inner" "[J" ∈ jj_G := jj_t6 (List.mem_of_getElem? (i := 157) (by decide +kernel)) rfl
theorem jw_b2f7d68e03 : Cond.methodLink RX11 76 yX11_copy ∈ jj_G := jj_t7 (List.mem_of_getElem? (i := 11) (by decide +kernel)) rfl
theorem jw_8cf8ac8b0e : Cond.static yX11_copy ∈ jj_G := jj_t7 (List.mem_of_getElem? (i := 12) (by decide +kernel)) rfl
theorem jn_X11_copy : jj_N yX11_copy 2 := by unfold jj_N; decide +kernel
theorem jw_8c39bb3d55 : Cond.methodLink RX11 156 yX11_redeemFrom ∈ jj_G := jj_t7 (List.mem_of_getElem? (i := 41) (by decide +kernel)) rfl
theorem jw_a7da65cb62 : Cond.instanceMethod yX11_redeemFrom ∈ jj_G := jj_t7 (List.mem_of_getElem? (i := 43) (by decide +kernel)) rfl
theorem jw_0e8f38a851 : Cond.selects RX11 yX11_redeemFrom yX11_redeemFrom ∈ jj_G := jj_pv (q := (yX11_redeemFrom, 25)) (by decide +kernel)
theorem jn_X11_redeemFrom : jj_N yX11_redeemFrom 2 := by unfold jj_N; decide +kernel
theorem jw_5d049cb902 : Cond.code yX11_worthOf cX11_worthOf 4 (some .long) ∈ jj_G := jj_t8 (List.mem_of_getElem? (i := 198) (by decide +kernel)) rfl
theorem jw_e882cfb9cd : Cond.code yX11_requestedBy cX11_requestedBy 4 (some .long) ∈ jj_G := jj_t7 (List.mem_of_getElem? (i := 40) (by decide +kernel)) rfl
theorem jw_e61895ae51 : Cond.methodLink RX11 166 yX11_requestedBy ∈ jj_G := jj_t7 (List.mem_of_getElem? (i := 37) (by decide +kernel)) rfl
theorem jw_79e626601d : Cond.instanceMethod yX11_requestedBy ∈ jj_G := jj_t7 (List.mem_of_getElem? (i := 39) (by decide +kernel)) rfl
theorem jw_f411ac9281 : Cond.selects RX11 yX11_requestedBy yX11_requestedBy ∈ jj_G := jj_pv (q := (yX11_requestedBy, 25)) (by decide +kernel)
theorem jn_X11_requestedBy : jj_N yX11_requestedBy 1 := by unfold jj_N; decide +kernel
theorem jw_a76c2ff852 : Cond.code yX11_requested cX11_requested 4 (some .long) ∈ jj_G := jj_t7 (List.mem_of_getElem? (i := 29) (by decide +kernel)) rfl
theorem jw_8369135f54 : Cond.code yX11_netAll cX11_netAll 4 (some .long) ∈ jj_G := jj_t7 (List.mem_of_getElem? (i := 107) (by decide +kernel)) rfl
theorem jw_2839123437 : Cond.methodLink RX11 169 yX11_netAll ∈ jj_G := jj_t7 (List.mem_of_getElem? (i := 104) (by decide +kernel)) rfl
theorem jw_0539aa951d : Cond.instanceMethod yX11_netAll ∈ jj_G := jj_t7 (List.mem_of_getElem? (i := 106) (by decide +kernel)) rfl
theorem jw_9a758300b1 : Cond.selects RX11 yX11_netAll yX11_netAll ∈ jj_G := jj_pv (q := (yX11_netAll, 25)) (by decide +kernel)
theorem jn_X11_netAll : jj_N yX11_netAll 0 := by unfold jj_N; decide +kernel
theorem jw_a61f223924 : Cond.code yX11_limit cX11_limit 1 (some .long) ∈ jj_G := jj_t7 (List.mem_of_getElem? (i := 103) (by decide +kernel)) rfl

set_option maxHeartbeats 4000000 in
set_option maxRecDepth 100000 in
theorem rs_copy_aw_ai {l : Launch} (hl : l.stackTraces = false) (D : va_G) (cA : Nat → ClassId) (ak : (Nat → Nat) × (Nat → Nat)) {Kd : Nat → Nat} {h0 aw aa at0 ai af ap : Nat} (f : Nat → Int64) (hk0 : Kd h0 = 1) (hkw : Kd aw = 2) (hka : Kd aa = 3) (hkt : Kd at0 = 4) (hki : Kd ai = 5) (hkf : Kd af = 6) (hkp : Kd ap = 7) {pl0 : va_W} (hok : tt_ok rt_tk cA Kd pl0) (hm : rl_m pl0 h0 aw aa at0 ai af ap) (hC : tt_lc pl0 aw f) : jj_M l D cA ak yX11_copy (.code yX11_copy cX11_copy 3 none) 0 0 0 0 ([] ++ pl0) [.ref aw, .ref ai] (tt_O (fun rx pl1 r => rx = [] ∧ tt_ok rt_tk cA Kd pl1 ∧ tt_fr Kd [] pl0 pl1 ∧ tt_fa Kd [5] pl0 pl1 ∧ ((∃ g : Nat → Int64, tt_lc pl1 ai g ∧ (∀ i : Nat, i < 334 → g i = f i) ∧ r = none)))) (tt_OX (fun _ _ _ => False)) := by
  refine jj_start hl (by decide) jw_1431b790b8 (jj_le rfl) ?_
  intro p e s m args below meth c A hargs hA C hex hmn
  have hfr := tt_fr.refl (K := Kd) (WS := []) pl0
  have hfa := tt_fa.refl (K := Kd) (WA := [5]) pl0
  obtain ⟨g0, hG⟩ := rl_lcx hok hki (by decide) rfl
  refine jj_iconst (v := 0) C dX11_copy_0 (by decide) ?_
  refine jj_istore_n C dX11_copy_1 (by decide) rfl ?_
  have hL_1 : ∀ (N : Nat) (pl : va_W) (k_2 : Nat) (g_3 : Nat → Int64), True → tt_ok rt_tk cA Kd pl → tt_fr Kd [] pl0 pl → tt_fa Kd [5] pl0 pl → rl_m pl h0 aw aa at0 ai af ap → tt_lc pl aw f → tt_lc pl ai g_3 → (∀ i : Nat, i < k_2 → g_3 i = f i) → (0 : Int) ≤ (k_2 : Int) → (k_2 : Int) ≤ 399 → (2147483648 - (k_2 : Int) ≤ (N : Int)) → jj_J p l e (jj_rm 0 0 0 0) s m args below meth c 3 A (vx_MQ below (jj_q D A (tt_O (fun rx pl1 r => rx = [] ∧ tt_ok rt_tk cA Kd pl1 ∧ tt_fr Kd [] pl0 pl1 ∧ tt_fa Kd [5] pl0 pl1 ∧ ((∃ g : Nat → Int64, tt_lc pl1 ai g ∧ (∀ i : Nat, i < 334 → g i = f i) ∧ r = none))))) (jj_x D A (tt_OX (fun _ _ _ => False))) args s 0 0 A) (jj_X D A ([] ++ pl)) 0 0 2 [(2, .int (nI k_2)), (0, .ref aw), (1, .ref ai)] [] := by
    intro NL_1
    induction NL_1 with
    | zero => intro pl k_2 g_3 _ hok hfr hfa hm hC hC_4 hD_5 lk_2 uk_2 hNL_1; exfalso; omega
    | succ NL_1 ihL_1 =>
      intro pl k_2 g_3 _ hok hfr hfa hm hC hC_4 hD_5 lk_2 uk_2 hNL_1
      replace ihL_1 := fun pl k_2 g_3 h1 => ihL_1 pl k_2 g_3 trivial h1
      refine jj_iload_n C dX11_copy_2 rfl ?_
      refine jj_sipush (v := 334) C dX11_copy_3 (by decide) ?_
      refine jj_icmp_ge (tgt := 21) C dX11_copy_6 (by decide) (fun c_6 => ?_) (fun c_6 => ?_)
      · have z_c_6 := jc_le (a := 334) (b := ((k_2 : Nat) : Int)) c_6 (by decide) (rl_ti (by omega))
        exact jj_vret C ⟨[], pl, rfl, rfl, hok, hfr, hfa, ⟨g_3, hC_4, (fun i hi => hD_5 i (by omega)), rfl⟩⟩ dX11_copy_21 (jj_le rfl) (jj_le rfl)
      · have z_c_6 := jc_nle (a := 334) (b := ((k_2 : Nat) : Int)) c_6 (by decide) (rl_ti (by omega))
        refine jj_aload_n C dX11_copy_9 rfl ?_
        refine jj_iload_n C dX11_copy_10 rfl ?_
        refine jj_aload_n C dX11_copy_11 rfl ?_
        refine jj_iload_n C dX11_copy_12 rfl ?_
        refine rl_lald C hok (t := (1, (-9223372036854775808), 9223372036854775807)) hkw (by decide) rfl (k := k_2) (v := (f k_2)) (vp_in_nI (by omega) (by decide)) hC (nI_clamp (by omega)) rfl dX11_copy_13 ?_
        refine rl_last C hok (t := (1, (-9223372036854775808), 9223372036854775807)) hki (by decide) rfl (k := k_2) (vp_in_nI (by omega) (by decide)) (tt_ja _) (nI_clamp (by omega)) dX11_copy_14 (fun pl_7 hok_8 tr tl tw => ?_)
        replace hm := hm.arr tr
        replace hfr := hfr.arr tr
        replace hC := tl _ _ (tt_ne hkw hki (by decide)) hC
        replace hC_4 := tw _ hC_4
        replace hfa := hfa.wr hki tl (by decide)
        refine jj_iinc (v := nI (1 + k_2)) C dX11_copy_15 rfl (rl_addR (kn := 1) (by decide) (by omega)) (by decide) rfl ?_
        refine jj_goto (tgt := 2) C dX11_copy_18 (by decide) ?_
        exact ihL_1 pl_7 (1 + k_2) (vp_updL g_3 k_2 (f k_2)) hok_8 hfr hfa hm hC hC_4 (rl_cps hD_5) (by first | omega | decide | exact tt_lo _ | exact tt_hi _) (by first | omega | decide | exact tt_lo _ | exact tt_hi _) (by first | omega | decide | exact tt_lo _ | exact tt_hi _)
  exact hL_1 _ pl0 0 g0 trivial hok hfr hfa hm hC hG (fun i hi => absurd hi (Nat.not_lt_zero _)) (by first | omega | decide | exact tt_lo _ | exact tt_hi _) (by first | omega | decide | exact tt_lo _ | exact tt_hi _) (Int.self_le_toNat _)

set_option maxHeartbeats 4000000 in
set_option maxRecDepth 100000 in
theorem rs_copy_ai_aw {l : Launch} (hl : l.stackTraces = false) (D : va_G) (cA : Nat → ClassId) (ak : (Nat → Nat) × (Nat → Nat)) {Kd : Nat → Nat} {h0 aw aa at0 ai af ap : Nat} (f : Nat → Int64) (hk0 : Kd h0 = 1) (hkw : Kd aw = 2) (hka : Kd aa = 3) (hkt : Kd at0 = 4) (hki : Kd ai = 5) (hkf : Kd af = 6) (hkp : Kd ap = 7) {pl0 : va_W} (hok : tt_ok rt_tk cA Kd pl0) (hm : rl_m pl0 h0 aw aa at0 ai af ap) (hC : tt_lc pl0 ai f) : jj_M l D cA ak yX11_copy (.code yX11_copy cX11_copy 3 none) 0 0 0 0 ([] ++ pl0) [.ref ai, .ref aw] (tt_O (fun rx pl1 r => rx = [] ∧ tt_ok rt_tk cA Kd pl1 ∧ tt_fr Kd [] pl0 pl1 ∧ tt_fa Kd [2] pl0 pl1 ∧ ((∃ g : Nat → Int64, tt_lc pl1 aw g ∧ (∀ i : Nat, i < 334 → g i = f i) ∧ r = none)))) (tt_OX (fun _ _ _ => False)) := by
  refine jj_start hl (by decide) jw_1431b790b8 (jj_le rfl) ?_
  intro p e s m args below meth c A hargs hA C hex hmn
  have hfr := tt_fr.refl (K := Kd) (WS := []) pl0
  have hfa := tt_fa.refl (K := Kd) (WA := [2]) pl0
  obtain ⟨g0, hG⟩ := rl_lcx hok hkw (by decide) rfl
  refine jj_iconst (v := 0) C dX11_copy_0 (by decide) ?_
  refine jj_istore_n C dX11_copy_1 (by decide) rfl ?_
  have hL_1 : ∀ (N : Nat) (pl : va_W) (k_2 : Nat) (g_3 : Nat → Int64), True → tt_ok rt_tk cA Kd pl → tt_fr Kd [] pl0 pl → tt_fa Kd [2] pl0 pl → rl_m pl h0 aw aa at0 ai af ap → tt_lc pl ai f → tt_lc pl aw g_3 → (∀ i : Nat, i < k_2 → g_3 i = f i) → (0 : Int) ≤ (k_2 : Int) → (k_2 : Int) ≤ 399 → (2147483648 - (k_2 : Int) ≤ (N : Int)) → jj_J p l e (jj_rm 0 0 0 0) s m args below meth c 3 A (vx_MQ below (jj_q D A (tt_O (fun rx pl1 r => rx = [] ∧ tt_ok rt_tk cA Kd pl1 ∧ tt_fr Kd [] pl0 pl1 ∧ tt_fa Kd [2] pl0 pl1 ∧ ((∃ g : Nat → Int64, tt_lc pl1 aw g ∧ (∀ i : Nat, i < 334 → g i = f i) ∧ r = none))))) (jj_x D A (tt_OX (fun _ _ _ => False))) args s 0 0 A) (jj_X D A ([] ++ pl)) 0 0 2 [(2, .int (nI k_2)), (0, .ref ai), (1, .ref aw)] [] := by
    intro NL_1
    induction NL_1 with
    | zero => intro pl k_2 g_3 _ hok hfr hfa hm hC hC_4 hD_5 lk_2 uk_2 hNL_1; exfalso; omega
    | succ NL_1 ihL_1 =>
      intro pl k_2 g_3 _ hok hfr hfa hm hC hC_4 hD_5 lk_2 uk_2 hNL_1
      replace ihL_1 := fun pl k_2 g_3 h1 => ihL_1 pl k_2 g_3 trivial h1
      refine jj_iload_n C dX11_copy_2 rfl ?_
      refine jj_sipush (v := 334) C dX11_copy_3 (by decide) ?_
      refine jj_icmp_ge (tgt := 21) C dX11_copy_6 (by decide) (fun c_6 => ?_) (fun c_6 => ?_)
      · have z_c_6 := jc_le (a := 334) (b := ((k_2 : Nat) : Int)) c_6 (by decide) (rl_ti (by omega))
        exact jj_vret C ⟨[], pl, rfl, rfl, hok, hfr, hfa, ⟨g_3, hC_4, (fun i hi => hD_5 i (by omega)), rfl⟩⟩ dX11_copy_21 (jj_le rfl) (jj_le rfl)
      · have z_c_6 := jc_nle (a := 334) (b := ((k_2 : Nat) : Int)) c_6 (by decide) (rl_ti (by omega))
        refine jj_aload_n C dX11_copy_9 rfl ?_
        refine jj_iload_n C dX11_copy_10 rfl ?_
        refine jj_aload_n C dX11_copy_11 rfl ?_
        refine jj_iload_n C dX11_copy_12 rfl ?_
        refine rl_lald C hok (t := (1, (-9223372036854775808), 9223372036854775807)) hki (by decide) rfl (k := k_2) (v := (f k_2)) (vp_in_nI (by omega) (by decide)) hC (nI_clamp (by omega)) rfl dX11_copy_13 ?_
        refine rl_last C hok (t := (1, (-9223372036854775808), 9223372036854775807)) hkw (by decide) rfl (k := k_2) (vp_in_nI (by omega) (by decide)) (tt_ja _) (nI_clamp (by omega)) dX11_copy_14 (fun pl_7 hok_8 tr tl tw => ?_)
        replace hm := hm.arr tr
        replace hfr := hfr.arr tr
        replace hC := tl _ _ (tt_ne hki hkw (by decide)) hC
        replace hC_4 := tw _ hC_4
        replace hfa := hfa.wr hkw tl (by decide)
        refine jj_iinc (v := nI (1 + k_2)) C dX11_copy_15 rfl (rl_addR (kn := 1) (by decide) (by omega)) (by decide) rfl ?_
        refine jj_goto (tgt := 2) C dX11_copy_18 (by decide) ?_
        exact ihL_1 pl_7 (1 + k_2) (vp_updL g_3 k_2 (f k_2)) hok_8 hfr hfa hm hC hC_4 (rl_cps hD_5) (by first | omega | decide | exact tt_lo _ | exact tt_hi _) (by first | omega | decide | exact tt_lo _ | exact tt_hi _) (by first | omega | decide | exact tt_lo _ | exact tt_hi _)
  exact hL_1 _ pl0 0 g0 trivial hok hfr hfa hm hC hG (fun i hi => absurd hi (Nat.not_lt_zero _)) (by first | omega | decide | exact tt_lo _ | exact tt_hi _) (by first | omega | decide | exact tt_lo _ | exact tt_hi _) (Int.self_le_toNat _)

set_option maxHeartbeats 4000000 in
set_option maxRecDepth 100000 in
theorem rs_copy_aw_aa {l : Launch} (hl : l.stackTraces = false) (D : va_G) (cA : Nat → ClassId) (ak : (Nat → Nat) × (Nat → Nat)) {Kd : Nat → Nat} {h0 aw aa at0 ai af ap : Nat} (f : Nat → Int64) (hk0 : Kd h0 = 1) (hkw : Kd aw = 2) (hka : Kd aa = 3) (hkt : Kd at0 = 4) (hki : Kd ai = 5) (hkf : Kd af = 6) (hkp : Kd ap = 7) {pl0 : va_W} (hok : tt_ok rt_tk cA Kd pl0) (hm : rl_m pl0 h0 aw aa at0 ai af ap) (hC : tt_lc pl0 aw f) : jj_M l D cA ak yX11_copy (.code yX11_copy cX11_copy 3 none) 0 0 0 0 ([] ++ pl0) [.ref aw, .ref aa] (tt_O (fun rx pl1 r => rx = [] ∧ tt_ok rt_tk cA Kd pl1 ∧ tt_fr Kd [] pl0 pl1 ∧ tt_fa Kd [3] pl0 pl1 ∧ ((∃ g : Nat → Int64, tt_lc pl1 aa g ∧ (∀ i : Nat, i < 334 → g i = f i) ∧ r = none)))) (tt_OX (fun _ _ _ => False)) := by
  refine jj_start hl (by decide) jw_1431b790b8 (jj_le rfl) ?_
  intro p e s m args below meth c A hargs hA C hex hmn
  have hfr := tt_fr.refl (K := Kd) (WS := []) pl0
  have hfa := tt_fa.refl (K := Kd) (WA := [3]) pl0
  obtain ⟨g0, hG⟩ := rl_lcx hok hka (by decide) rfl
  refine jj_iconst (v := 0) C dX11_copy_0 (by decide) ?_
  refine jj_istore_n C dX11_copy_1 (by decide) rfl ?_
  have hL_1 : ∀ (N : Nat) (pl : va_W) (k_2 : Nat) (g_3 : Nat → Int64), True → tt_ok rt_tk cA Kd pl → tt_fr Kd [] pl0 pl → tt_fa Kd [3] pl0 pl → rl_m pl h0 aw aa at0 ai af ap → tt_lc pl aw f → tt_lc pl aa g_3 → (∀ i : Nat, i < k_2 → g_3 i = f i) → (0 : Int) ≤ (k_2 : Int) → (k_2 : Int) ≤ 399 → (2147483648 - (k_2 : Int) ≤ (N : Int)) → jj_J p l e (jj_rm 0 0 0 0) s m args below meth c 3 A (vx_MQ below (jj_q D A (tt_O (fun rx pl1 r => rx = [] ∧ tt_ok rt_tk cA Kd pl1 ∧ tt_fr Kd [] pl0 pl1 ∧ tt_fa Kd [3] pl0 pl1 ∧ ((∃ g : Nat → Int64, tt_lc pl1 aa g ∧ (∀ i : Nat, i < 334 → g i = f i) ∧ r = none))))) (jj_x D A (tt_OX (fun _ _ _ => False))) args s 0 0 A) (jj_X D A ([] ++ pl)) 0 0 2 [(2, .int (nI k_2)), (0, .ref aw), (1, .ref aa)] [] := by
    intro NL_1
    induction NL_1 with
    | zero => intro pl k_2 g_3 _ hok hfr hfa hm hC hC_4 hD_5 lk_2 uk_2 hNL_1; exfalso; omega
    | succ NL_1 ihL_1 =>
      intro pl k_2 g_3 _ hok hfr hfa hm hC hC_4 hD_5 lk_2 uk_2 hNL_1
      replace ihL_1 := fun pl k_2 g_3 h1 => ihL_1 pl k_2 g_3 trivial h1
      refine jj_iload_n C dX11_copy_2 rfl ?_
      refine jj_sipush (v := 334) C dX11_copy_3 (by decide) ?_
      refine jj_icmp_ge (tgt := 21) C dX11_copy_6 (by decide) (fun c_6 => ?_) (fun c_6 => ?_)
      · have z_c_6 := jc_le (a := 334) (b := ((k_2 : Nat) : Int)) c_6 (by decide) (rl_ti (by omega))
        exact jj_vret C ⟨[], pl, rfl, rfl, hok, hfr, hfa, ⟨g_3, hC_4, (fun i hi => hD_5 i (by omega)), rfl⟩⟩ dX11_copy_21 (jj_le rfl) (jj_le rfl)
      · have z_c_6 := jc_nle (a := 334) (b := ((k_2 : Nat) : Int)) c_6 (by decide) (rl_ti (by omega))
        refine jj_aload_n C dX11_copy_9 rfl ?_
        refine jj_iload_n C dX11_copy_10 rfl ?_
        refine jj_aload_n C dX11_copy_11 rfl ?_
        refine jj_iload_n C dX11_copy_12 rfl ?_
        refine rl_lald C hok (t := (1, (-9223372036854775808), 9223372036854775807)) hkw (by decide) rfl (k := k_2) (v := (f k_2)) (vp_in_nI (by omega) (by decide)) hC (nI_clamp (by omega)) rfl dX11_copy_13 ?_
        refine rl_last C hok (t := (1, (-9223372036854775808), 9223372036854775807)) hka (by decide) rfl (k := k_2) (vp_in_nI (by omega) (by decide)) (tt_ja _) (nI_clamp (by omega)) dX11_copy_14 (fun pl_7 hok_8 tr tl tw => ?_)
        replace hm := hm.arr tr
        replace hfr := hfr.arr tr
        replace hC := tl _ _ (tt_ne hkw hka (by decide)) hC
        replace hC_4 := tw _ hC_4
        replace hfa := hfa.wr hka tl (by decide)
        refine jj_iinc (v := nI (1 + k_2)) C dX11_copy_15 rfl (rl_addR (kn := 1) (by decide) (by omega)) (by decide) rfl ?_
        refine jj_goto (tgt := 2) C dX11_copy_18 (by decide) ?_
        exact ihL_1 pl_7 (1 + k_2) (vp_updL g_3 k_2 (f k_2)) hok_8 hfr hfa hm hC hC_4 (rl_cps hD_5) (by first | omega | decide | exact tt_lo _ | exact tt_hi _) (by first | omega | decide | exact tt_lo _ | exact tt_hi _) (by first | omega | decide | exact tt_lo _ | exact tt_hi _)
  exact hL_1 _ pl0 0 g0 trivial hok hfr hfa hm hC hG (fun i hi => absurd hi (Nat.not_lt_zero _)) (by first | omega | decide | exact tt_lo _ | exact tt_hi _) (by first | omega | decide | exact tt_lo _ | exact tt_hi _) (Int.self_le_toNat _)

set_option maxHeartbeats 4000000 in
set_option maxRecDepth 100000 in
theorem rs_copy_aa_aw {l : Launch} (hl : l.stackTraces = false) (D : va_G) (cA : Nat → ClassId) (ak : (Nat → Nat) × (Nat → Nat)) {Kd : Nat → Nat} {h0 aw aa at0 ai af ap : Nat} (f : Nat → Int64) (hk0 : Kd h0 = 1) (hkw : Kd aw = 2) (hka : Kd aa = 3) (hkt : Kd at0 = 4) (hki : Kd ai = 5) (hkf : Kd af = 6) (hkp : Kd ap = 7) {pl0 : va_W} (hok : tt_ok rt_tk cA Kd pl0) (hm : rl_m pl0 h0 aw aa at0 ai af ap) (hC : tt_lc pl0 aa f) : jj_M l D cA ak yX11_copy (.code yX11_copy cX11_copy 3 none) 0 0 0 0 ([] ++ pl0) [.ref aa, .ref aw] (tt_O (fun rx pl1 r => rx = [] ∧ tt_ok rt_tk cA Kd pl1 ∧ tt_fr Kd [] pl0 pl1 ∧ tt_fa Kd [2] pl0 pl1 ∧ ((∃ g : Nat → Int64, tt_lc pl1 aw g ∧ (∀ i : Nat, i < 334 → g i = f i) ∧ r = none)))) (tt_OX (fun _ _ _ => False)) := by
  refine jj_start hl (by decide) jw_1431b790b8 (jj_le rfl) ?_
  intro p e s m args below meth c A hargs hA C hex hmn
  have hfr := tt_fr.refl (K := Kd) (WS := []) pl0
  have hfa := tt_fa.refl (K := Kd) (WA := [2]) pl0
  obtain ⟨g0, hG⟩ := rl_lcx hok hkw (by decide) rfl
  refine jj_iconst (v := 0) C dX11_copy_0 (by decide) ?_
  refine jj_istore_n C dX11_copy_1 (by decide) rfl ?_
  have hL_1 : ∀ (N : Nat) (pl : va_W) (k_2 : Nat) (g_3 : Nat → Int64), True → tt_ok rt_tk cA Kd pl → tt_fr Kd [] pl0 pl → tt_fa Kd [2] pl0 pl → rl_m pl h0 aw aa at0 ai af ap → tt_lc pl aa f → tt_lc pl aw g_3 → (∀ i : Nat, i < k_2 → g_3 i = f i) → (0 : Int) ≤ (k_2 : Int) → (k_2 : Int) ≤ 399 → (2147483648 - (k_2 : Int) ≤ (N : Int)) → jj_J p l e (jj_rm 0 0 0 0) s m args below meth c 3 A (vx_MQ below (jj_q D A (tt_O (fun rx pl1 r => rx = [] ∧ tt_ok rt_tk cA Kd pl1 ∧ tt_fr Kd [] pl0 pl1 ∧ tt_fa Kd [2] pl0 pl1 ∧ ((∃ g : Nat → Int64, tt_lc pl1 aw g ∧ (∀ i : Nat, i < 334 → g i = f i) ∧ r = none))))) (jj_x D A (tt_OX (fun _ _ _ => False))) args s 0 0 A) (jj_X D A ([] ++ pl)) 0 0 2 [(2, .int (nI k_2)), (0, .ref aa), (1, .ref aw)] [] := by
    intro NL_1
    induction NL_1 with
    | zero => intro pl k_2 g_3 _ hok hfr hfa hm hC hC_4 hD_5 lk_2 uk_2 hNL_1; exfalso; omega
    | succ NL_1 ihL_1 =>
      intro pl k_2 g_3 _ hok hfr hfa hm hC hC_4 hD_5 lk_2 uk_2 hNL_1
      replace ihL_1 := fun pl k_2 g_3 h1 => ihL_1 pl k_2 g_3 trivial h1
      refine jj_iload_n C dX11_copy_2 rfl ?_
      refine jj_sipush (v := 334) C dX11_copy_3 (by decide) ?_
      refine jj_icmp_ge (tgt := 21) C dX11_copy_6 (by decide) (fun c_6 => ?_) (fun c_6 => ?_)
      · have z_c_6 := jc_le (a := 334) (b := ((k_2 : Nat) : Int)) c_6 (by decide) (rl_ti (by omega))
        exact jj_vret C ⟨[], pl, rfl, rfl, hok, hfr, hfa, ⟨g_3, hC_4, (fun i hi => hD_5 i (by omega)), rfl⟩⟩ dX11_copy_21 (jj_le rfl) (jj_le rfl)
      · have z_c_6 := jc_nle (a := 334) (b := ((k_2 : Nat) : Int)) c_6 (by decide) (rl_ti (by omega))
        refine jj_aload_n C dX11_copy_9 rfl ?_
        refine jj_iload_n C dX11_copy_10 rfl ?_
        refine jj_aload_n C dX11_copy_11 rfl ?_
        refine jj_iload_n C dX11_copy_12 rfl ?_
        refine rl_lald C hok (t := (1, (-9223372036854775808), 9223372036854775807)) hka (by decide) rfl (k := k_2) (v := (f k_2)) (vp_in_nI (by omega) (by decide)) hC (nI_clamp (by omega)) rfl dX11_copy_13 ?_
        refine rl_last C hok (t := (1, (-9223372036854775808), 9223372036854775807)) hkw (by decide) rfl (k := k_2) (vp_in_nI (by omega) (by decide)) (tt_ja _) (nI_clamp (by omega)) dX11_copy_14 (fun pl_7 hok_8 tr tl tw => ?_)
        replace hm := hm.arr tr
        replace hfr := hfr.arr tr
        replace hC := tl _ _ (tt_ne hka hkw (by decide)) hC
        replace hC_4 := tw _ hC_4
        replace hfa := hfa.wr hkw tl (by decide)
        refine jj_iinc (v := nI (1 + k_2)) C dX11_copy_15 rfl (rl_addR (kn := 1) (by decide) (by omega)) (by decide) rfl ?_
        refine jj_goto (tgt := 2) C dX11_copy_18 (by decide) ?_
        exact ihL_1 pl_7 (1 + k_2) (vp_updL g_3 k_2 (f k_2)) hok_8 hfr hfa hm hC hC_4 (rl_cps hD_5) (by first | omega | decide | exact tt_lo _ | exact tt_hi _) (by first | omega | decide | exact tt_lo _ | exact tt_hi _) (by first | omega | decide | exact tt_lo _ | exact tt_hi _)
  exact hL_1 _ pl0 0 g0 trivial hok hfr hfa hm hC hG (fun i hi => absurd hi (Nat.not_lt_zero _)) (by first | omega | decide | exact tt_lo _ | exact tt_hi _) (by first | omega | decide | exact tt_lo _ | exact tt_hi _) (Int.self_le_toNat _)

set_option maxHeartbeats 4000000 in
set_option maxRecDepth 100000 in
theorem rs_copy_aw_at0 {l : Launch} (hl : l.stackTraces = false) (D : va_G) (cA : Nat → ClassId) (ak : (Nat → Nat) × (Nat → Nat)) {Kd : Nat → Nat} {h0 aw aa at0 ai af ap : Nat} (f : Nat → Int64) (hk0 : Kd h0 = 1) (hkw : Kd aw = 2) (hka : Kd aa = 3) (hkt : Kd at0 = 4) (hki : Kd ai = 5) (hkf : Kd af = 6) (hkp : Kd ap = 7) {pl0 : va_W} (hok : tt_ok rt_tk cA Kd pl0) (hm : rl_m pl0 h0 aw aa at0 ai af ap) (hC : tt_lc pl0 aw f) : jj_M l D cA ak yX11_copy (.code yX11_copy cX11_copy 3 none) 0 0 0 0 ([] ++ pl0) [.ref aw, .ref at0] (tt_O (fun rx pl1 r => rx = [] ∧ tt_ok rt_tk cA Kd pl1 ∧ tt_fr Kd [] pl0 pl1 ∧ tt_fa Kd [4] pl0 pl1 ∧ ((∃ g : Nat → Int64, tt_lc pl1 at0 g ∧ (∀ i : Nat, i < 334 → g i = f i) ∧ r = none)))) (tt_OX (fun _ _ _ => False)) := by
  refine jj_start hl (by decide) jw_1431b790b8 (jj_le rfl) ?_
  intro p e s m args below meth c A hargs hA C hex hmn
  have hfr := tt_fr.refl (K := Kd) (WS := []) pl0
  have hfa := tt_fa.refl (K := Kd) (WA := [4]) pl0
  obtain ⟨g0, hG⟩ := rl_lcx hok hkt (by decide) rfl
  refine jj_iconst (v := 0) C dX11_copy_0 (by decide) ?_
  refine jj_istore_n C dX11_copy_1 (by decide) rfl ?_
  have hL_1 : ∀ (N : Nat) (pl : va_W) (k_2 : Nat) (g_3 : Nat → Int64), True → tt_ok rt_tk cA Kd pl → tt_fr Kd [] pl0 pl → tt_fa Kd [4] pl0 pl → rl_m pl h0 aw aa at0 ai af ap → tt_lc pl aw f → tt_lc pl at0 g_3 → (∀ i : Nat, i < k_2 → g_3 i = f i) → (0 : Int) ≤ (k_2 : Int) → (k_2 : Int) ≤ 399 → (2147483648 - (k_2 : Int) ≤ (N : Int)) → jj_J p l e (jj_rm 0 0 0 0) s m args below meth c 3 A (vx_MQ below (jj_q D A (tt_O (fun rx pl1 r => rx = [] ∧ tt_ok rt_tk cA Kd pl1 ∧ tt_fr Kd [] pl0 pl1 ∧ tt_fa Kd [4] pl0 pl1 ∧ ((∃ g : Nat → Int64, tt_lc pl1 at0 g ∧ (∀ i : Nat, i < 334 → g i = f i) ∧ r = none))))) (jj_x D A (tt_OX (fun _ _ _ => False))) args s 0 0 A) (jj_X D A ([] ++ pl)) 0 0 2 [(2, .int (nI k_2)), (0, .ref aw), (1, .ref at0)] [] := by
    intro NL_1
    induction NL_1 with
    | zero => intro pl k_2 g_3 _ hok hfr hfa hm hC hC_4 hD_5 lk_2 uk_2 hNL_1; exfalso; omega
    | succ NL_1 ihL_1 =>
      intro pl k_2 g_3 _ hok hfr hfa hm hC hC_4 hD_5 lk_2 uk_2 hNL_1
      replace ihL_1 := fun pl k_2 g_3 h1 => ihL_1 pl k_2 g_3 trivial h1
      refine jj_iload_n C dX11_copy_2 rfl ?_
      refine jj_sipush (v := 334) C dX11_copy_3 (by decide) ?_
      refine jj_icmp_ge (tgt := 21) C dX11_copy_6 (by decide) (fun c_6 => ?_) (fun c_6 => ?_)
      · have z_c_6 := jc_le (a := 334) (b := ((k_2 : Nat) : Int)) c_6 (by decide) (rl_ti (by omega))
        exact jj_vret C ⟨[], pl, rfl, rfl, hok, hfr, hfa, ⟨g_3, hC_4, (fun i hi => hD_5 i (by omega)), rfl⟩⟩ dX11_copy_21 (jj_le rfl) (jj_le rfl)
      · have z_c_6 := jc_nle (a := 334) (b := ((k_2 : Nat) : Int)) c_6 (by decide) (rl_ti (by omega))
        refine jj_aload_n C dX11_copy_9 rfl ?_
        refine jj_iload_n C dX11_copy_10 rfl ?_
        refine jj_aload_n C dX11_copy_11 rfl ?_
        refine jj_iload_n C dX11_copy_12 rfl ?_
        refine rl_lald C hok (t := (1, (-9223372036854775808), 9223372036854775807)) hkw (by decide) rfl (k := k_2) (v := (f k_2)) (vp_in_nI (by omega) (by decide)) hC (nI_clamp (by omega)) rfl dX11_copy_13 ?_
        refine rl_last C hok (t := (1, (-9223372036854775808), 9223372036854775807)) hkt (by decide) rfl (k := k_2) (vp_in_nI (by omega) (by decide)) (tt_ja _) (nI_clamp (by omega)) dX11_copy_14 (fun pl_7 hok_8 tr tl tw => ?_)
        replace hm := hm.arr tr
        replace hfr := hfr.arr tr
        replace hC := tl _ _ (tt_ne hkw hkt (by decide)) hC
        replace hC_4 := tw _ hC_4
        replace hfa := hfa.wr hkt tl (by decide)
        refine jj_iinc (v := nI (1 + k_2)) C dX11_copy_15 rfl (rl_addR (kn := 1) (by decide) (by omega)) (by decide) rfl ?_
        refine jj_goto (tgt := 2) C dX11_copy_18 (by decide) ?_
        exact ihL_1 pl_7 (1 + k_2) (vp_updL g_3 k_2 (f k_2)) hok_8 hfr hfa hm hC hC_4 (rl_cps hD_5) (by first | omega | decide | exact tt_lo _ | exact tt_hi _) (by first | omega | decide | exact tt_lo _ | exact tt_hi _) (by first | omega | decide | exact tt_lo _ | exact tt_hi _)
  exact hL_1 _ pl0 0 g0 trivial hok hfr hfa hm hC hG (fun i hi => absurd hi (Nat.not_lt_zero _)) (by first | omega | decide | exact tt_lo _ | exact tt_hi _) (by first | omega | decide | exact tt_lo _ | exact tt_hi _) (Int.self_le_toNat _)

set_option maxHeartbeats 4000000 in
set_option maxRecDepth 100000 in
theorem rs_copy_at0_aw {l : Launch} (hl : l.stackTraces = false) (D : va_G) (cA : Nat → ClassId) (ak : (Nat → Nat) × (Nat → Nat)) {Kd : Nat → Nat} {h0 aw aa at0 ai af ap : Nat} (f : Nat → Int64) (hk0 : Kd h0 = 1) (hkw : Kd aw = 2) (hka : Kd aa = 3) (hkt : Kd at0 = 4) (hki : Kd ai = 5) (hkf : Kd af = 6) (hkp : Kd ap = 7) {pl0 : va_W} (hok : tt_ok rt_tk cA Kd pl0) (hm : rl_m pl0 h0 aw aa at0 ai af ap) (hC : tt_lc pl0 at0 f) : jj_M l D cA ak yX11_copy (.code yX11_copy cX11_copy 3 none) 0 0 0 0 ([] ++ pl0) [.ref at0, .ref aw] (tt_O (fun rx pl1 r => rx = [] ∧ tt_ok rt_tk cA Kd pl1 ∧ tt_fr Kd [] pl0 pl1 ∧ tt_fa Kd [2] pl0 pl1 ∧ ((∃ g : Nat → Int64, tt_lc pl1 aw g ∧ (∀ i : Nat, i < 334 → g i = f i) ∧ r = none)))) (tt_OX (fun _ _ _ => False)) := by
  refine jj_start hl (by decide) jw_1431b790b8 (jj_le rfl) ?_
  intro p e s m args below meth c A hargs hA C hex hmn
  have hfr := tt_fr.refl (K := Kd) (WS := []) pl0
  have hfa := tt_fa.refl (K := Kd) (WA := [2]) pl0
  obtain ⟨g0, hG⟩ := rl_lcx hok hkw (by decide) rfl
  refine jj_iconst (v := 0) C dX11_copy_0 (by decide) ?_
  refine jj_istore_n C dX11_copy_1 (by decide) rfl ?_
  have hL_1 : ∀ (N : Nat) (pl : va_W) (k_2 : Nat) (g_3 : Nat → Int64), True → tt_ok rt_tk cA Kd pl → tt_fr Kd [] pl0 pl → tt_fa Kd [2] pl0 pl → rl_m pl h0 aw aa at0 ai af ap → tt_lc pl at0 f → tt_lc pl aw g_3 → (∀ i : Nat, i < k_2 → g_3 i = f i) → (0 : Int) ≤ (k_2 : Int) → (k_2 : Int) ≤ 399 → (2147483648 - (k_2 : Int) ≤ (N : Int)) → jj_J p l e (jj_rm 0 0 0 0) s m args below meth c 3 A (vx_MQ below (jj_q D A (tt_O (fun rx pl1 r => rx = [] ∧ tt_ok rt_tk cA Kd pl1 ∧ tt_fr Kd [] pl0 pl1 ∧ tt_fa Kd [2] pl0 pl1 ∧ ((∃ g : Nat → Int64, tt_lc pl1 aw g ∧ (∀ i : Nat, i < 334 → g i = f i) ∧ r = none))))) (jj_x D A (tt_OX (fun _ _ _ => False))) args s 0 0 A) (jj_X D A ([] ++ pl)) 0 0 2 [(2, .int (nI k_2)), (0, .ref at0), (1, .ref aw)] [] := by
    intro NL_1
    induction NL_1 with
    | zero => intro pl k_2 g_3 _ hok hfr hfa hm hC hC_4 hD_5 lk_2 uk_2 hNL_1; exfalso; omega
    | succ NL_1 ihL_1 =>
      intro pl k_2 g_3 _ hok hfr hfa hm hC hC_4 hD_5 lk_2 uk_2 hNL_1
      replace ihL_1 := fun pl k_2 g_3 h1 => ihL_1 pl k_2 g_3 trivial h1
      refine jj_iload_n C dX11_copy_2 rfl ?_
      refine jj_sipush (v := 334) C dX11_copy_3 (by decide) ?_
      refine jj_icmp_ge (tgt := 21) C dX11_copy_6 (by decide) (fun c_6 => ?_) (fun c_6 => ?_)
      · have z_c_6 := jc_le (a := 334) (b := ((k_2 : Nat) : Int)) c_6 (by decide) (rl_ti (by omega))
        exact jj_vret C ⟨[], pl, rfl, rfl, hok, hfr, hfa, ⟨g_3, hC_4, (fun i hi => hD_5 i (by omega)), rfl⟩⟩ dX11_copy_21 (jj_le rfl) (jj_le rfl)
      · have z_c_6 := jc_nle (a := 334) (b := ((k_2 : Nat) : Int)) c_6 (by decide) (rl_ti (by omega))
        refine jj_aload_n C dX11_copy_9 rfl ?_
        refine jj_iload_n C dX11_copy_10 rfl ?_
        refine jj_aload_n C dX11_copy_11 rfl ?_
        refine jj_iload_n C dX11_copy_12 rfl ?_
        refine rl_lald C hok (t := (1, (-9223372036854775808), 9223372036854775807)) hkt (by decide) rfl (k := k_2) (v := (f k_2)) (vp_in_nI (by omega) (by decide)) hC (nI_clamp (by omega)) rfl dX11_copy_13 ?_
        refine rl_last C hok (t := (1, (-9223372036854775808), 9223372036854775807)) hkw (by decide) rfl (k := k_2) (vp_in_nI (by omega) (by decide)) (tt_ja _) (nI_clamp (by omega)) dX11_copy_14 (fun pl_7 hok_8 tr tl tw => ?_)
        replace hm := hm.arr tr
        replace hfr := hfr.arr tr
        replace hC := tl _ _ (tt_ne hkt hkw (by decide)) hC
        replace hC_4 := tw _ hC_4
        replace hfa := hfa.wr hkw tl (by decide)
        refine jj_iinc (v := nI (1 + k_2)) C dX11_copy_15 rfl (rl_addR (kn := 1) (by decide) (by omega)) (by decide) rfl ?_
        refine jj_goto (tgt := 2) C dX11_copy_18 (by decide) ?_
        exact ihL_1 pl_7 (1 + k_2) (vp_updL g_3 k_2 (f k_2)) hok_8 hfr hfa hm hC hC_4 (rl_cps hD_5) (by first | omega | decide | exact tt_lo _ | exact tt_hi _) (by first | omega | decide | exact tt_lo _ | exact tt_hi _) (by first | omega | decide | exact tt_lo _ | exact tt_hi _)
  exact hL_1 _ pl0 0 g0 trivial hok hfr hfa hm hC hG (fun i hi => absurd hi (Nat.not_lt_zero _)) (by first | omega | decide | exact tt_lo _ | exact tt_hi _) (by first | omega | decide | exact tt_lo _ | exact tt_hi _) (Int.self_le_toNat _)

set_option maxHeartbeats 4000000 in
set_option maxRecDepth 100000 in
theorem rs_copy_af_aw {l : Launch} (hl : l.stackTraces = false) (D : va_G) (cA : Nat → ClassId) (ak : (Nat → Nat) × (Nat → Nat)) {Kd : Nat → Nat} {h0 aw aa at0 ai af ap : Nat} (f : Nat → Int64) (hk0 : Kd h0 = 1) (hkw : Kd aw = 2) (hka : Kd aa = 3) (hkt : Kd at0 = 4) (hki : Kd ai = 5) (hkf : Kd af = 6) (hkp : Kd ap = 7) {pl0 : va_W} (hok : tt_ok rt_tk cA Kd pl0) (hm : rl_m pl0 h0 aw aa at0 ai af ap) (hC : tt_lc pl0 af f) : jj_M l D cA ak yX11_copy (.code yX11_copy cX11_copy 3 none) 0 0 0 0 ([] ++ pl0) [.ref af, .ref aw] (tt_O (fun rx pl1 r => rx = [] ∧ tt_ok rt_tk cA Kd pl1 ∧ tt_fr Kd [] pl0 pl1 ∧ tt_fa Kd [2] pl0 pl1 ∧ ((∃ g : Nat → Int64, tt_lc pl1 aw g ∧ (∀ i : Nat, i < 334 → g i = f i) ∧ r = none)))) (tt_OX (fun _ _ _ => False)) := by
  refine jj_start hl (by decide) jw_1431b790b8 (jj_le rfl) ?_
  intro p e s m args below meth c A hargs hA C hex hmn
  have hfr := tt_fr.refl (K := Kd) (WS := []) pl0
  have hfa := tt_fa.refl (K := Kd) (WA := [2]) pl0
  obtain ⟨g0, hG⟩ := rl_lcx hok hkw (by decide) rfl
  refine jj_iconst (v := 0) C dX11_copy_0 (by decide) ?_
  refine jj_istore_n C dX11_copy_1 (by decide) rfl ?_
  have hL_1 : ∀ (N : Nat) (pl : va_W) (k_2 : Nat) (g_3 : Nat → Int64), True → tt_ok rt_tk cA Kd pl → tt_fr Kd [] pl0 pl → tt_fa Kd [2] pl0 pl → rl_m pl h0 aw aa at0 ai af ap → tt_lc pl af f → tt_lc pl aw g_3 → (∀ i : Nat, i < k_2 → g_3 i = f i) → (0 : Int) ≤ (k_2 : Int) → (k_2 : Int) ≤ 399 → (2147483648 - (k_2 : Int) ≤ (N : Int)) → jj_J p l e (jj_rm 0 0 0 0) s m args below meth c 3 A (vx_MQ below (jj_q D A (tt_O (fun rx pl1 r => rx = [] ∧ tt_ok rt_tk cA Kd pl1 ∧ tt_fr Kd [] pl0 pl1 ∧ tt_fa Kd [2] pl0 pl1 ∧ ((∃ g : Nat → Int64, tt_lc pl1 aw g ∧ (∀ i : Nat, i < 334 → g i = f i) ∧ r = none))))) (jj_x D A (tt_OX (fun _ _ _ => False))) args s 0 0 A) (jj_X D A ([] ++ pl)) 0 0 2 [(2, .int (nI k_2)), (0, .ref af), (1, .ref aw)] [] := by
    intro NL_1
    induction NL_1 with
    | zero => intro pl k_2 g_3 _ hok hfr hfa hm hC hC_4 hD_5 lk_2 uk_2 hNL_1; exfalso; omega
    | succ NL_1 ihL_1 =>
      intro pl k_2 g_3 _ hok hfr hfa hm hC hC_4 hD_5 lk_2 uk_2 hNL_1
      replace ihL_1 := fun pl k_2 g_3 h1 => ihL_1 pl k_2 g_3 trivial h1
      refine jj_iload_n C dX11_copy_2 rfl ?_
      refine jj_sipush (v := 334) C dX11_copy_3 (by decide) ?_
      refine jj_icmp_ge (tgt := 21) C dX11_copy_6 (by decide) (fun c_6 => ?_) (fun c_6 => ?_)
      · have z_c_6 := jc_le (a := 334) (b := ((k_2 : Nat) : Int)) c_6 (by decide) (rl_ti (by omega))
        exact jj_vret C ⟨[], pl, rfl, rfl, hok, hfr, hfa, ⟨g_3, hC_4, (fun i hi => hD_5 i (by omega)), rfl⟩⟩ dX11_copy_21 (jj_le rfl) (jj_le rfl)
      · have z_c_6 := jc_nle (a := 334) (b := ((k_2 : Nat) : Int)) c_6 (by decide) (rl_ti (by omega))
        refine jj_aload_n C dX11_copy_9 rfl ?_
        refine jj_iload_n C dX11_copy_10 rfl ?_
        refine jj_aload_n C dX11_copy_11 rfl ?_
        refine jj_iload_n C dX11_copy_12 rfl ?_
        refine rl_lald C hok (t := (1, (-9223372036854775808), 9223372036854775807)) hkf (by decide) rfl (k := k_2) (v := (f k_2)) (vp_in_nI (by omega) (by decide)) hC (nI_clamp (by omega)) rfl dX11_copy_13 ?_
        refine rl_last C hok (t := (1, (-9223372036854775808), 9223372036854775807)) hkw (by decide) rfl (k := k_2) (vp_in_nI (by omega) (by decide)) (tt_ja _) (nI_clamp (by omega)) dX11_copy_14 (fun pl_7 hok_8 tr tl tw => ?_)
        replace hm := hm.arr tr
        replace hfr := hfr.arr tr
        replace hC := tl _ _ (tt_ne hkf hkw (by decide)) hC
        replace hC_4 := tw _ hC_4
        replace hfa := hfa.wr hkw tl (by decide)
        refine jj_iinc (v := nI (1 + k_2)) C dX11_copy_15 rfl (rl_addR (kn := 1) (by decide) (by omega)) (by decide) rfl ?_
        refine jj_goto (tgt := 2) C dX11_copy_18 (by decide) ?_
        exact ihL_1 pl_7 (1 + k_2) (vp_updL g_3 k_2 (f k_2)) hok_8 hfr hfa hm hC hC_4 (rl_cps hD_5) (by first | omega | decide | exact tt_lo _ | exact tt_hi _) (by first | omega | decide | exact tt_lo _ | exact tt_hi _) (by first | omega | decide | exact tt_lo _ | exact tt_hi _)
  exact hL_1 _ pl0 0 g0 trivial hok hfr hfa hm hC hG (fun i hi => absurd hi (Nat.not_lt_zero _)) (by first | omega | decide | exact tt_lo _ | exact tt_hi _) (by first | omega | decide | exact tt_lo _ | exact tt_hi _) (Int.self_le_toNat _)

set_option maxHeartbeats 4000000 in
set_option maxRecDepth 100000 in
theorem rs_worthOf {l : Launch} (hl : l.stackTraces = false) (D : va_G) (cA : Nat → ClassId) (ak : (Nat → Nat) × (Nat → Nat)) {Kd : Nat → Nat} {h0 aw aa at0 ai af ap : Nat} (p1 : Int32) (B : Int) (f : Nat → Int64) (hk0 : Kd h0 = 1) (hkw : Kd aw = 2) (hka : Kd aa = 3) (hkt : Kd at0 = 4) (hki : Kd ai = 5) (hkf : Kd af = 6) (hkp : Kd ap = 7) (hI : rl_I B f) (hP : rl_P f) (hB : B ≤ 43920000000) {pl0 : va_W} (hok : tt_ok rt_tk cA Kd pl0) (hm : rl_m pl0 h0 aw aa at0 ai af ap) (hC : tt_lc pl0 aw f) : jj_M l D cA ak yX11_worthOf (.code yX11_worthOf cX11_worthOf 4 (some .long)) 5 130 0 0 ([] ++ pl0) [.ref h0, .int p1] (tt_O (fun rx pl1 r => rx = [] ∧ tt_ok rt_tk cA Kd pl1 ∧ tt_fr Kd [(1, 8), (1, 9)] pl0 pl1 ∧ tt_fa Kd [2, 5] pl0 pl1 ∧ ((∃ g : Nat → Int64, tt_lc pl1 aw g ∧ (∀ i : Nat, i < 334 → g i = f i) ∧ ∃ v : Int64, r = some (.long v))))) (tt_OX (fun _ _ _ => False)) := by
  refine jj_start hl (by decide) jw_5d049cb902 (jj_le rfl) ?_
  intro p e s m args below meth c A hargs hA C hex hmn
  have hfr := tt_fr.refl (K := Kd) (WS := [(1, 8), (1, 9)]) pl0
  have hfa := tt_fa.refl (K := Kd) (WA := [2, 5]) pl0
  have hH := hI.1.1
  obtain ⟨⟨g0a, g0b⟩, ⟨g1a, g1b⟩, ⟨g6a, g6b⟩, ⟨g7a, g7b⟩, ⟨g8a, g8b⟩⟩ := hH
  have lp1 := tt_lo p1
  have up1 := tt_hi p1
  refine jj_aload_n C dX11_worthOf_0 rfl ?_
  refine tt_getF C hok jk_12 0 (by decide) jw_34eaf3ba8b (t := (2, 2, 0)) hk0 (by decide) rfl rfl hm.1 dX11_worthOf_1 ?_
  refine jj_aload_n C dX11_worthOf_4 rfl ?_
  refine tt_getF C hok jk_12 3 (by decide) jw_bbd1efe6b1 (t := (2, 5, 0)) hk0 (by decide) rfl rfl hm.2.2.2.1 dX11_worthOf_5 ?_
  refine tt_callS (rest := []) C (rs_copy_aw_ai hl D cA ak f hk0 hkw hka hkt hki hkf hkp hok hm hC) [] [] rfl rfl (by decide) (by decide) (by decide) jw_b2f7d68e03 jw_8cf8ac8b0e jw_f96c99f44d jw_1431b790b8 jn_X11_copy rfl (jj_le rfl) (jj_le rfl) (jj_le rfl) (jj_le rfl) (jj_le rfl) dX11_worthOf_8 rfl (fun _ _ _ hX => hX.elim) (fun rx pl_1 r O_5 => ?_)
  obtain ⟨rfl, hok_2, hr_3, ha_4, hR_6⟩ := O_5
  replace hC := ha_4.at hkw (by decide) (by decide) hC
  replace hm := hm.fr hr_3 hk0 rfl
  replace hfr := hfr.trans (hr_3.sub (by decide))
  replace hfa := hfa.trans (ha_4.sub (by decide))
  obtain ⟨g_7, hC_8, he_9, rfl⟩ := hR_6
  refine jj_aload_n C dX11_worthOf_11 rfl ?_
  refine jj_lconst (v := 0) C dX11_worthOf_12 (by decide) ?_
  refine rl_put C hok_2 jk_12 9 (by decide) jw_f657bbcfa1 (t := (1, (-9223372036854775808), 9223372036854775807)) hk0 (by decide) rfl rfl rfl (tt_ja (0 : Int64)) rfl rfl dX11_worthOf_13 (fun pl_10 hok_11 tr hn tl => ?_)
  have hf_12 := hn
  replace hm := hm.put tr (by decide)
  replace hfr := hfr.put hk0 tr (by decide)
  replace hC := tl _ _ hC
  replace hC_8 := tl _ _ hC_8
  replace hfa := hfa.all tl
  refine jj_aload_n C dX11_worthOf_16 rfl ?_
  refine jj_iload_n C dX11_worthOf_17 rfl ?_
  refine jj_aload_n C dX11_worthOf_18 rfl ?_
  refine jj_iload_n C dX11_worthOf_19 rfl ?_
  obtain ⟨qc, gs, hqc⟩ := tt_recv (cx := []) hok_11 hk0 (by decide) rfl
  refine tt_callV (rest := [.int p1, .ref h0]) C (rc_X11_unitsBy_d8d95c hl D cA ak p1 _ hk0 hkw hka hkt hki hkf hkp ⟨⟨g0a, g0b⟩, ⟨g1a, g1b⟩, ⟨g6a, g6b⟩, ⟨g7a, g7b⟩, ⟨g8a, g8b⟩⟩ hok_11 hm hC) [] [] rfl rfl (by decide) (by decide) (by decide) qc hqc rfl rfl jw_d258851c0a jw_53672f19d9 jw_faff4a546a jw_f96c99f44d jw_6f23c3bc30 jn_X11_unitsBy rfl (jj_le rfl) (jj_le rfl) (jj_le rfl) (jj_le rfl) (jj_le rfl) dX11_worthOf_20 rfl (fun _ _ _ hX => hX.elim) (fun rx pl_13 r O_17 => ?_)
  obtain ⟨rfl, hok_14, hr_15, ha_16, hR_18⟩ := O_17
  replace hf_12 := hr_15.at hk0 (by decide) (by decide) hf_12
  replace hC := ha_16.at hkw (by decide) (by decide) hC
  replace hC_8 := ha_16.at hki (by decide) (by decide) hC_8
  replace hm := hm.fr hr_15 hk0 rfl
  replace hfr := hfr.trans (hr_15.sub (by decide))
  replace hfa := hfa.trans (ha_16.sub (by decide))
  obtain ⟨y_19, rfl⟩ := hR_18
  obtain ⟨qc, gs, hqc⟩ := tt_recv (cx := []) hok_14 hk0 (by decide) rfl
  refine tt_callV (rest := []) C (rs_redeemFrom hl D cA ak p1 y_19 B f hk0 hkw hka hkt hki hkf hkp hI hP hB hok_14 hm hC) [] [] rfl rfl (by decide) (by decide) (by decide) qc hqc rfl rfl jw_8c39bb3d55 jw_a7da65cb62 jw_0e8f38a851 jw_f96c99f44d jw_6c32f71905 jn_X11_redeemFrom rfl (jj_le rfl) (jj_le rfl) (jj_le rfl) (jj_le rfl) (jj_le rfl) dX11_worthOf_23 rfl (fun _ _ _ hX => hX.elim) (fun rx pl_20 r O_24 => ?_)
  obtain ⟨rfl, hok_21, hr_22, ha_23, hR_25⟩ := O_24
  replace hC_8 := ha_23.at hki (by decide) (by decide) hC_8
  replace hm := hm.fr hr_22 hk0 rfl
  replace hfr := hfr.trans (hr_22.sub (by decide))
  replace hfa := hfa.trans (ha_23.sub (by decide))
  obtain ⟨g_26, hC_27, hI_28, hq_29, hq_30, hq_31, y_32, rfl⟩ := hR_25
  obtain ⟨⟨g0ag_26, g0bg_26⟩, ⟨g1ag_26, g1bg_26⟩, ⟨g6ag_26, g6bg_26⟩, ⟨g7ag_26, g7bg_26⟩, ⟨g8ag_26, g8bg_26⟩⟩ := hI_28.1.1
  refine jj_lstore_n C dX11_worthOf_26 (by decide) rfl ?_
  refine jj_aload_n C dX11_worthOf_27 rfl ?_
  refine tt_getF C hok_21 jk_12 3 (by decide) jw_bbd1efe6b1 (t := (2, 5, 0)) hk0 (by decide) rfl rfl hm.2.2.2.1 dX11_worthOf_28 ?_
  refine jj_aload_n C dX11_worthOf_31 rfl ?_
  refine tt_getF C hok_21 jk_12 0 (by decide) jw_34eaf3ba8b (t := (2, 2, 0)) hk0 (by decide) rfl rfl hm.1 dX11_worthOf_32 ?_
  refine tt_callS (rest := []) C (rs_copy_ai_aw hl D cA ak g_7 hk0 hkw hka hkt hki hkf hkp hok_21 hm hC_8) [] [] rfl rfl (by decide) (by decide) (by decide) jw_b2f7d68e03 jw_8cf8ac8b0e jw_f96c99f44d jw_1431b790b8 jn_X11_copy rfl (jj_le rfl) (jj_le rfl) (jj_le rfl) (jj_le rfl) (jj_le rfl) dX11_worthOf_35 rfl (fun _ _ _ hX => hX.elim) (fun rx pl_33 r O_37 => ?_)
  obtain ⟨rfl, hok_34, hr_35, ha_36, hR_38⟩ := O_37
  replace hC_8 := ha_36.at hki (by decide) (by decide) hC_8
  replace hm := hm.fr hr_35 hk0 rfl
  replace hfr := hfr.trans (hr_35.sub (by decide))
  replace hfa := hfa.trans (ha_36.sub (by decide))
  obtain ⟨g_39, hC_40, he_41, rfl⟩ := hR_38
  obtain ⟨⟨g0ag_39, g0bg_39⟩, ⟨g1ag_39, g1bg_39⟩, ⟨g6ag_39, g6bg_39⟩, ⟨g7ag_39, g7bg_39⟩, ⟨g8ag_39, g8bg_39⟩⟩ := (rl_I.cong (rl_I.cong hI he_9).1 he_41).1.1.1
  refine jj_aload_n C dX11_worthOf_38 rfl ?_
  refine tt_get C hok_34 jk_12 9 (by decide) jw_f657bbcfa1 (t := (1, (-9223372036854775808), 9223372036854775807)) hk0 (by decide) rfl rfl dX11_worthOf_39 (fun v_42 hv_42 hf_43 => ?_)
  obtain ⟨y_44, rfl, -, -⟩ := tt_vj hv_42
  exact jj_lret C ⟨[], pl_33, rfl, rfl, hok_34, hfr, hfa, ⟨g_39, hC_40, (fun i hi => (he_41 i hi).trans (he_9 i hi)), y_44, rfl⟩⟩ dX11_worthOf_42 (jj_le rfl) (jj_le rfl)

set_option maxHeartbeats 4000000 in
set_option maxRecDepth 100000 in
theorem rs_isRedemption {l : Launch} (hl : l.stackTraces = false) (D : va_G) (cA : Nat → ClassId) (ak : (Nat → Nat) × (Nat → Nat)) {Kd : Nat → Nat} {h0 aw aa at0 ai af ap : Nat} (q : Nat) (f : Nat → Int64) (hk0 : Kd h0 = 1) (hkw : Kd aw = 2) (hka : Kd aa = 3) (hkt : Kd at0 = 4) (hki : Kd ai = 5) (hkf : Kd af = 6) (hkp : Kd ap = 7) (hq : q < 12) {pl0 : va_W} (hok : tt_ok rt_tk cA Kd pl0) (hm : rl_m pl0 h0 aw aa at0 ai af ap) (hC : tt_lc pl0 aw f) : jj_M l D cA ak yX11_isRedemption (.code yX11_isRedemption cX11_isRedemption 2 (some .boolean)) 1 20 0 0 ([] ++ pl0) [.ref h0, .int (nI q)] (tt_O (fun rx pl1 r => rx = [] ∧ tt_ok rt_tk cA Kd pl1 ∧ tt_fr Kd [] pl0 pl1 ∧ tt_fa Kd [] pl0 pl1 ∧ ((¬ f (287 + 4 * q) = 1 ∧ r = some (.int 0)) ∨ (f (287 + 4 * q) = 1 ∧ r = some (.int 1))))) (tt_OX (fun _ _ _ => False)) := by
  refine jj_start hl (by decide) jw_978e8f4c07 (jj_le rfl) ?_
  intro p e s m args below meth c A hargs hA C hex hmn
  have hfr := tt_fr.refl (K := Kd) (WS := []) pl0
  have hfa := tt_fa.refl (K := Kd) (WA := []) pl0
  refine jj_aload_n C dX11_isRedemption_0 rfl ?_
  refine tt_getF C hok jk_12 0 (by decide) jw_34eaf3ba8b (t := (2, 2, 0)) hk0 (by decide) rfl rfl hm.1 dX11_isRedemption_1 ?_
  refine jj_iload_n C dX11_isRedemption_4 rfl ?_
  refine tt_call0S (rest := [.ref aw]) C (rn_requestAt hl D cA ak q (286 + 4 * q) (by omega)) jw_b399766b1e jw_c583cc9526 jw_f96c99f44d jw_595411e0f2 jn_X11_requestAt rfl (jj_le rfl) (jj_le rfl) (jj_le rfl) (jj_le rfl) (jj_le rfl) dX11_isRedemption_5 rfl (fun w1 r hO => ?_)
  obtain ⟨-, rfl⟩ := hO
  refine jj_iconst (v := 1) C dX11_isRedemption_8 (by decide) ?_
  refine jj_iadd (v := nI (287 + 4 * q)) C dX11_isRedemption_9 (rl_addR (kn := 1) (by decide) (by omega)) ?_
  refine rl_lald C hok (t := (1, (-9223372036854775808), 9223372036854775807)) hkw (by decide) rfl (k := 287 + 4 * q) (v := (f (287 + 4 * q))) (vp_in_nI (by omega) (by decide)) hC (nI_clamp (by omega)) rfl dX11_isRedemption_10 ?_
  refine jj_lconst (v := 1) C dX11_isRedemption_11 (by decide) ?_
  refine jj_lcmp_ne (tgt := 20) C dX11_isRedemption_12 dX11_isRedemption_13 (by decide) (fun c_1 => ?_) (fun c_1 => ?_)
  · have z_c_1 := jc_neqL (a := (f (287 + 4 * q)).toInt) (b := 1) c_1 rfl (by decide)
    refine jj_iconst (v := 0) C dX11_isRedemption_20 (by decide) ?_
    exact jj_zret C rfl ⟨[], pl0, rfl, rfl, hok, hfr, hfa, (Or.inl ⟨c_1, rfl⟩)⟩ dX11_isRedemption_21 (jj_le rfl) (jj_le rfl)
  · have z_c_1 := jc_eqL (a := (f (287 + 4 * q)).toInt) (b := 1) c_1 rfl (by decide)
    refine jj_iconst (v := 1) C dX11_isRedemption_16 (by decide) ?_
    refine jj_goto (tgt := 21) C dX11_isRedemption_17 (by decide) ?_
    exact jj_zret C rfl ⟨[], pl0, rfl, rfl, hok, hfr, hfa, (Or.inr ⟨c_1, rfl⟩)⟩ dX11_isRedemption_21 (jj_le rfl) (jj_le rfl)

set_option maxHeartbeats 4000000 in
set_option maxRecDepth 100000 in
theorem rs_requestedBy {l : Launch} (hl : l.stackTraces = false) (D : va_G) (cA : Nat → ClassId) (ak : (Nat → Nat) × (Nat → Nat)) {Kd : Nat → Nat} {h0 aw aa at0 ai af ap : Nat} (q : Nat) (B : Int) (f : Nat → Int64) (hk0 : Kd h0 = 1) (hkw : Kd aw = 2) (hka : Kd aa = 3) (hkt : Kd at0 = 4) (hki : Kd ai = 5) (hkf : Kd af = 6) (hkp : Kd ap = 7) (hq : q < 12) (hI : rl_I B f) (hP : rl_P f) (hB : B ≤ 43920000000) {pl0 : va_W} (hok : tt_ok rt_tk cA Kd pl0) (hm : rl_m pl0 h0 aw aa at0 ai af ap) (hC : tt_lc pl0 aw f) : jj_M l D cA ak yX11_requestedBy (.code yX11_requestedBy cX11_requestedBy 4 (some .long)) 5 130 0 0 ([] ++ pl0) [.ref h0, .int (nI q)] (tt_O (fun rx pl1 r => rx = [] ∧ tt_ok rt_tk cA Kd pl1 ∧ tt_fr Kd [(1, 8), (1, 9)] pl0 pl1 ∧ tt_fa Kd [2, 5] pl0 pl1 ∧ ((∃ g : Nat → Int64, tt_lc pl1 aw g ∧ (∀ i : Nat, i < 334 → g i = f i) ∧ ∃ v : Int64, r = some (.long v))))) (tt_OX (fun _ _ _ => False)) := by
  refine jj_start hl (by decide) jw_e882cfb9cd (jj_le rfl) ?_
  intro p e s m args below meth c A hargs hA C hex hmn
  have hfr := tt_fr.refl (K := Kd) (WS := [(1, 8), (1, 9)]) pl0
  have hfa := tt_fa.refl (K := Kd) (WA := [2, 5]) pl0
  have hH := hI.1.1
  obtain ⟨⟨g0a, g0b⟩, ⟨g1a, g1b⟩, ⟨g6a, g6b⟩, ⟨g7a, g7b⟩, ⟨g8a, g8b⟩⟩ := hH
  refine jj_aload_n C dX11_requestedBy_0 rfl ?_
  refine tt_getF C hok jk_12 0 (by decide) jw_34eaf3ba8b (t := (2, 2, 0)) hk0 (by decide) rfl rfl hm.1 dX11_requestedBy_1 ?_
  refine jj_aload_n C dX11_requestedBy_4 rfl ?_
  refine tt_getF C hok jk_12 3 (by decide) jw_bbd1efe6b1 (t := (2, 5, 0)) hk0 (by decide) rfl rfl hm.2.2.2.1 dX11_requestedBy_5 ?_
  refine tt_callS (rest := []) C (rs_copy_aw_ai hl D cA ak f hk0 hkw hka hkt hki hkf hkp hok hm hC) [] [] rfl rfl (by decide) (by decide) (by decide) jw_b2f7d68e03 jw_8cf8ac8b0e jw_f96c99f44d jw_1431b790b8 jn_X11_copy rfl (jj_le rfl) (jj_le rfl) (jj_le rfl) (jj_le rfl) (jj_le rfl) dX11_requestedBy_8 rfl (fun _ _ _ hX => hX.elim) (fun rx pl_1 r O_5 => ?_)
  obtain ⟨rfl, hok_2, hr_3, ha_4, hR_6⟩ := O_5
  replace hC := ha_4.at hkw (by decide) (by decide) hC
  replace hm := hm.fr hr_3 hk0 rfl
  replace hfr := hfr.trans (hr_3.sub (by decide))
  replace hfa := hfa.trans (ha_4.sub (by decide))
  obtain ⟨g_7, hC_8, he_9, rfl⟩ := hR_6
  refine jj_aload_n C dX11_requestedBy_11 rfl ?_
  refine jj_lconst (v := 0) C dX11_requestedBy_12 (by decide) ?_
  refine rl_put C hok_2 jk_12 8 (by decide) jw_57bd70d95d (t := (1, (-9223372036854775808), 9223372036854775807)) hk0 (by decide) rfl rfl rfl (tt_ja (0 : Int64)) rfl rfl dX11_requestedBy_13 (fun pl_10 hok_11 tr hn tl => ?_)
  have hf_12 := hn
  replace hm := hm.put tr (by decide)
  replace hfr := hfr.put hk0 tr (by decide)
  replace hC := tl _ _ hC
  replace hC_8 := tl _ _ hC_8
  replace hfa := hfa.all tl
  refine jj_aload_n C dX11_requestedBy_16 rfl ?_
  refine jj_aload_n C dX11_requestedBy_17 rfl ?_
  refine tt_getF C hok_11 jk_12 0 (by decide) jw_34eaf3ba8b (t := (2, 2, 0)) hk0 (by decide) rfl rfl hm.1 dX11_requestedBy_18 ?_
  refine jj_iload_n C dX11_requestedBy_21 rfl ?_
  refine tt_call0S (rest := [.ref aw, .ref h0]) C (rn_requestAt hl D cA ak q (286 + 4 * q) (by omega)) jw_b399766b1e jw_c583cc9526 jw_f96c99f44d jw_595411e0f2 jn_X11_requestAt rfl (jj_le rfl) (jj_le rfl) (jj_le rfl) (jj_le rfl) (jj_le rfl) dX11_requestedBy_22 rfl (fun w1 r hO => ?_)
  obtain ⟨-, rfl⟩ := hO
  refine jj_iconst (v := 0) C dX11_requestedBy_25 (by decide) ?_
  refine jj_iadd (v := nI (286 + 4 * q)) C dX11_requestedBy_26 (rl_addR (kn := 0) (by decide) (by omega)) ?_
  refine rl_lald C hok_11 (t := (1, (-9223372036854775808), 9223372036854775807)) hkw (by decide) rfl (k := 286 + 4 * q) (v := (f (286 + 4 * q))) (vp_in_nI (by omega) (by decide)) hC (nI_clamp (by omega)) rfl dX11_requestedBy_27 ?_
  obtain ⟨x_13, ex_13⟩ : ∃ z : Int32, (f (286 + 4 * q)).toInt32 = z := ⟨_, rfl⟩
  refine jj_l2i (v := x_13) C dX11_requestedBy_28 ex_13 ?_
  refine jj_aload_n C dX11_requestedBy_29 rfl ?_
  refine tt_getF C hok_11 jk_12 0 (by decide) jw_34eaf3ba8b (t := (2, 2, 0)) hk0 (by decide) rfl rfl hm.1 dX11_requestedBy_30 ?_
  refine jj_iload_n C dX11_requestedBy_33 rfl ?_
  refine tt_call0S (rest := [.ref aw, .int x_13, .ref h0]) C (rn_requestAt hl D cA ak q (286 + 4 * q) (by omega)) jw_b399766b1e jw_c583cc9526 jw_f96c99f44d jw_595411e0f2 jn_X11_requestAt rfl (jj_le rfl) (jj_le rfl) (jj_le rfl) (jj_le rfl) (jj_le rfl) dX11_requestedBy_34 rfl (fun w1 r hO => ?_)
  obtain ⟨-, rfl⟩ := hO
  refine jj_iconst (v := 2) C dX11_requestedBy_37 (by decide) ?_
  refine jj_iadd (v := nI (288 + 4 * q)) C dX11_requestedBy_38 (rl_addR (kn := 2) (by decide) (by omega)) ?_
  refine rl_lald C hok_11 (t := (1, (-9223372036854775808), 9223372036854775807)) hkw (by decide) rfl (k := 288 + 4 * q) (v := (f (288 + 4 * q))) (vp_in_nI (by omega) (by decide)) hC (nI_clamp (by omega)) rfl dX11_requestedBy_39 ?_
  obtain ⟨qc, gs, hqc⟩ := tt_recv (cx := []) hok_11 hk0 (by decide) rfl
  refine tt_callV (rest := []) C (rs_redeemFrom hl D cA ak x_13 (f (288 + 4 * q)) B f hk0 hkw hka hkt hki hkf hkp hI hP hB hok_11 hm hC) [] [] rfl rfl (by decide) (by decide) (by decide) qc hqc rfl rfl jw_8c39bb3d55 jw_a7da65cb62 jw_0e8f38a851 jw_f96c99f44d jw_6c32f71905 jn_X11_redeemFrom rfl (jj_le rfl) (jj_le rfl) (jj_le rfl) (jj_le rfl) (jj_le rfl) dX11_requestedBy_40 rfl (fun _ _ _ hX => hX.elim) (fun rx pl_14 r O_18 => ?_)
  obtain ⟨rfl, hok_15, hr_16, ha_17, hR_19⟩ := O_18
  replace hC_8 := ha_17.at hki (by decide) (by decide) hC_8
  replace hm := hm.fr hr_16 hk0 rfl
  replace hfr := hfr.trans (hr_16.sub (by decide))
  replace hfa := hfa.trans (ha_17.sub (by decide))
  obtain ⟨g_20, hC_21, hI_22, hq_23, hq_24, hq_25, y_26, rfl⟩ := hR_19
  obtain ⟨⟨g0ag_20, g0bg_20⟩, ⟨g1ag_20, g1bg_20⟩, ⟨g6ag_20, g6bg_20⟩, ⟨g7ag_20, g7bg_20⟩, ⟨g8ag_20, g8bg_20⟩⟩ := hI_22.1.1
  refine jj_lstore_n C dX11_requestedBy_43 (by decide) rfl ?_
  refine jj_aload_n C dX11_requestedBy_44 rfl ?_
  refine tt_getF C hok_15 jk_12 3 (by decide) jw_bbd1efe6b1 (t := (2, 5, 0)) hk0 (by decide) rfl rfl hm.2.2.2.1 dX11_requestedBy_45 ?_
  refine jj_aload_n C dX11_requestedBy_48 rfl ?_
  refine tt_getF C hok_15 jk_12 0 (by decide) jw_34eaf3ba8b (t := (2, 2, 0)) hk0 (by decide) rfl rfl hm.1 dX11_requestedBy_49 ?_
  refine tt_callS (rest := []) C (rs_copy_ai_aw hl D cA ak g_7 hk0 hkw hka hkt hki hkf hkp hok_15 hm hC_8) [] [] rfl rfl (by decide) (by decide) (by decide) jw_b2f7d68e03 jw_8cf8ac8b0e jw_f96c99f44d jw_1431b790b8 jn_X11_copy rfl (jj_le rfl) (jj_le rfl) (jj_le rfl) (jj_le rfl) (jj_le rfl) dX11_requestedBy_52 rfl (fun _ _ _ hX => hX.elim) (fun rx pl_27 r O_31 => ?_)
  obtain ⟨rfl, hok_28, hr_29, ha_30, hR_32⟩ := O_31
  replace hC_8 := ha_30.at hki (by decide) (by decide) hC_8
  replace hm := hm.fr hr_29 hk0 rfl
  replace hfr := hfr.trans (hr_29.sub (by decide))
  replace hfa := hfa.trans (ha_30.sub (by decide))
  obtain ⟨g_33, hC_34, he_35, rfl⟩ := hR_32
  obtain ⟨⟨g0ag_33, g0bg_33⟩, ⟨g1ag_33, g1bg_33⟩, ⟨g6ag_33, g6bg_33⟩, ⟨g7ag_33, g7bg_33⟩, ⟨g8ag_33, g8bg_33⟩⟩ := (rl_I.cong (rl_I.cong hI he_9).1 he_35).1.1.1
  refine jj_aload_n C dX11_requestedBy_55 rfl ?_
  refine tt_get C hok_28 jk_12 8 (by decide) jw_57bd70d95d (t := (1, (-9223372036854775808), 9223372036854775807)) hk0 (by decide) rfl rfl dX11_requestedBy_56 (fun v_36 hv_36 hf_37 => ?_)
  obtain ⟨y_38, rfl, -, -⟩ := tt_vj hv_36
  exact jj_lret C ⟨[], pl_27, rfl, rfl, hok_28, hfr, hfa, ⟨g_33, hC_34, (fun i hi => (he_35 i hi).trans (he_9 i hi)), y_38, rfl⟩⟩ dX11_requestedBy_59 (jj_le rfl) (jj_le rfl)

set_option maxHeartbeats 4000000 in
set_option maxRecDepth 100000 in
theorem rs_requested {l : Launch} (hl : l.stackTraces = false) (D : va_G) (cA : Nat → ClassId) (ak : (Nat → Nat) × (Nat → Nat)) {Kd : Nat → Nat} {h0 aw aa at0 ai af ap : Nat} (B : Int) (f : Nat → Int64) (hk0 : Kd h0 = 1) (hkw : Kd aw = 2) (hka : Kd aa = 3) (hkt : Kd at0 = 4) (hki : Kd ai = 5) (hkf : Kd af = 6) (hkp : Kd ap = 7) (hI : rl_I B f) (hP : rl_P f) (hB : B ≤ 43920000000) {pl0 : va_W} (hok : tt_ok rt_tk cA Kd pl0) (hm : rl_m pl0 h0 aw aa at0 ai af ap) (hC : tt_lc pl0 aw f) : jj_M l D cA ak yX11_requested (.code yX11_requested cX11_requested 4 (some .long)) 6 153 0 0 ([] ++ pl0) [.ref h0] (tt_O (fun rx pl1 r => rx = [] ∧ tt_ok rt_tk cA Kd pl1 ∧ tt_fr Kd [(1, 8), (1, 9)] pl0 pl1 ∧ tt_fa Kd [2, 5] pl0 pl1 ∧ ((∃ g : Nat → Int64, tt_lc pl1 aw g ∧ (∀ i : Nat, i < 334 → g i = f i) ∧ ∃ v : Int64, r = some (.long v))))) (tt_OX (fun _ _ _ => False)) := by
  refine jj_start hl (by decide) jw_a76c2ff852 (jj_le rfl) ?_
  intro p e s m args below meth c A hargs hA C hex hmn
  have hfr := tt_fr.refl (K := Kd) (WS := [(1, 8), (1, 9)]) pl0
  have hfa := tt_fa.refl (K := Kd) (WA := [2, 5]) pl0
  have hH := hI.1.1
  obtain ⟨⟨g0a, g0b⟩, ⟨g1a, g1b⟩, ⟨g6a, g6b⟩, ⟨g7a, g7b⟩, ⟨g8a, g8b⟩⟩ := hH
  refine jj_lconst (v := 0) C dX11_requested_0 (by decide) ?_
  refine jj_lstore_n C dX11_requested_1 (by decide) rfl ?_
  refine jj_iconst (v := 0) C dX11_requested_2 (by decide) ?_
  refine jj_istore_n C dX11_requested_3 (by decide) rfl ?_
  have hL_1 : ∀ (N : Nat) (pl : va_W) (k_2 : Nat) (y_3 : Int64) (g_4 : Nat → Int64), True → tt_ok rt_tk cA Kd pl → tt_fr Kd [(1, 8), (1, 9)] pl0 pl → tt_fa Kd [2, 5] pl0 pl → rl_m pl h0 aw aa at0 ai af ap → tt_lc pl aw g_4 → (∀ i : Nat, i < 334 → g_4 i = f i) → (0 : Int) ≤ (k_2 : Int) → (k_2 : Int) ≤ 12 → (2147483648 - (k_2 : Int) ≤ (N : Int)) → jj_J p l e (jj_rm 6 153 0 0) s m args below meth c 4 A (vx_MQ below (jj_q D A (tt_O (fun rx pl1 r => rx = [] ∧ tt_ok rt_tk cA Kd pl1 ∧ tt_fr Kd [(1, 8), (1, 9)] pl0 pl1 ∧ tt_fa Kd [2, 5] pl0 pl1 ∧ ((∃ g : Nat → Int64, tt_lc pl1 aw g ∧ (∀ i : Nat, i < 334 → g i = f i) ∧ ∃ v : Int64, r = some (.long v)))))) (jj_x D A (tt_OX (fun _ _ _ => False))) args s 0 0 A) (jj_X D A ([] ++ pl)) 0 0 4 [(3, .int (nI k_2)), (1, .long y_3), (0, .ref h0)] [] := by
    intro NL_1
    induction NL_1 with
    | zero => intro pl k_2 y_3 g_4 _ hok hfr hfa hm hC_5 hD_6 lk_2 uk_2 hNL_1; exfalso; omega
    | succ NL_1 ihL_1 =>
      intro pl k_2 y_3 g_4 _ hok hfr hfa hm hC_5 hD_6 lk_2 uk_2 hNL_1
      replace ihL_1 := fun pl k_2 y_3 g_4 h1 => ihL_1 pl k_2 y_3 g_4 trivial h1
      obtain ⟨⟨g0ag_4, g0bg_4⟩, ⟨g1ag_4, g1bg_4⟩, ⟨g6ag_4, g6bg_4⟩, ⟨g7ag_4, g7bg_4⟩, ⟨g8ag_4, g8bg_4⟩⟩ := ((rl_I.cong hI hD_6).1).1.1
      refine jj_iload_n C dX11_requested_4 rfl ?_
      refine jj_i2l C dX11_requested_5 rfl ?_
      refine jj_aload_n C dX11_requested_6 rfl ?_
      refine tt_getF C hok jk_12 0 (by decide) jw_34eaf3ba8b (t := (2, 2, 0)) hk0 (by decide) rfl rfl hm.1 dX11_requested_7 ?_
      refine jj_bipush (v := 8) C dX11_requested_10 (by decide) ?_
      refine rl_lald C hok (t := (1, (-9223372036854775808), 9223372036854775807)) hkw (by decide) rfl (k := 8) (v := (g_4 8)) (vp_in_iff.mpr (by decide)) hC_5 (by decide) rfl dX11_requested_12 ?_
      refine jj_lcmp_ge (tgt := 43) C dX11_requested_13 dX11_requested_14 (by decide) (fun c_7 => ?_) (fun c_7 => ?_)
      · have z_c_7 := jc_leL (a := (g_4 8).toInt) (b := ((k_2 : Nat) : Int)) c_7 rfl (rl_tl (by omega))
        refine jj_lload_n C dX11_requested_43 rfl ?_
        exact jj_lret C ⟨[], pl, rfl, rfl, hok, hfr, hfa, ⟨g_4, hC_5, hD_6, y_3, rfl⟩⟩ dX11_requested_44 (jj_le rfl) (jj_le rfl)
      · have z_c_7 := jc_nleL (a := (g_4 8).toInt) (b := ((k_2 : Nat) : Int)) c_7 rfl (rl_tl (by omega))
        refine jj_lload_n C dX11_requested_17 rfl ?_
        refine jj_aload_n C dX11_requested_18 rfl ?_
        refine jj_iload_n C dX11_requested_19 rfl ?_
        obtain ⟨qc, gs, hqc⟩ := tt_recv (cx := []) hok hk0 (by decide) rfl
        refine tt_callV (rest := [.long y_3]) C (rs_isRedemption hl D cA ak k_2 g_4 hk0 hkw hka hkt hki hkf hkp (by omega) hok hm hC_5) [] [] rfl rfl (by decide) (by decide) (by decide) qc hqc rfl rfl jw_4afadc9e32 jw_d8b192ed60 jw_21f07d63b9 jw_f96c99f44d jw_978e8f4c07 jn_X11_isRedemption rfl (jj_le rfl) (jj_le rfl) (jj_le rfl) (jj_le rfl) (jj_le rfl) dX11_requested_20 rfl (fun _ _ _ hX => hX.elim) (fun rx pl_8 r O_12 => ?_)
        obtain ⟨rfl, hok_9, hr_10, ha_11, hR_13⟩ := O_12
        replace hC_5 := ha_11.at hkw (by decide) (by decide) hC_5
        replace hm := hm.fr hr_10 hk0 rfl
        replace hfr := hfr.trans (hr_10.sub (by decide))
        replace hfa := hfa.trans (ha_11.sub (by decide))
        rcases hR_13 with ⟨c_14, rfl⟩ | ⟨c_15, rfl⟩
        · refine jj_if_eqT (tgt := 34) C dX11_requested_23 (by decide) (by decide) ?_
          refine jj_lconst (v := 0) C dX11_requested_34 (by decide) ?_
          refine jj_ladd C dX11_requested_35 rfl ?_
          refine jj_lstore_n C dX11_requested_36 (by decide) rfl ?_
          refine jj_iinc (v := nI (1 + k_2)) C dX11_requested_37 rfl (rl_addR (kn := 1) (by decide) (by omega)) (by decide) rfl ?_
          refine jj_goto (tgt := 4) C dX11_requested_40 (by decide) ?_
          exact ihL_1 pl_8 (1 + k_2) (y_3 + (0 : Int64)) g_4 hok_9 hfr hfa hm hC_5 hD_6 (by first | omega | decide | exact tt_lo _ | exact tt_hi _) (by first | omega | decide | exact tt_lo _ | exact tt_hi _) (by first | omega | decide | exact tt_lo _ | exact tt_hi _)
        · refine jj_if_eqF (tgt := 34) C dX11_requested_23 (by decide) (by decide) ?_
          refine jj_aload_n C dX11_requested_26 rfl ?_
          refine jj_iload_n C dX11_requested_27 rfl ?_
          obtain ⟨qc, gs, hqc⟩ := tt_recv (cx := []) hok_9 hk0 (by decide) rfl
          refine tt_callV (rest := [.long y_3]) C (rs_requestedBy hl D cA ak k_2 B g_4 hk0 hkw hka hkt hki hkf hkp (by omega) (rl_I.cong hI hD_6).1 (hP.cong hI hD_6) hB hok_9 hm hC_5) [] [] rfl rfl (by decide) (by decide) (by decide) qc hqc rfl rfl jw_e61895ae51 jw_79e626601d jw_f411ac9281 jw_f96c99f44d jw_e882cfb9cd jn_X11_requestedBy rfl (jj_le rfl) (jj_le rfl) (jj_le rfl) (jj_le rfl) (jj_le rfl) dX11_requested_28 rfl (fun _ _ _ hX => hX.elim) (fun rx pl_16 r O_20 => ?_)
          obtain ⟨rfl, hok_17, hr_18, ha_19, hR_21⟩ := O_20
          replace hm := hm.fr hr_18 hk0 rfl
          replace hfr := hfr.trans (hr_18.sub (by decide))
          replace hfa := hfa.trans (ha_19.sub (by decide))
          obtain ⟨g_22, hC_23, he_24, y_25, rfl⟩ := hR_21
          obtain ⟨⟨g0ag_22, g0bg_22⟩, ⟨g1ag_22, g1bg_22⟩, ⟨g6ag_22, g6bg_22⟩, ⟨g7ag_22, g7bg_22⟩, ⟨g8ag_22, g8bg_22⟩⟩ := (rl_I.cong (rl_I.cong hI hD_6).1 he_24).1.1.1
          refine jj_goto (tgt := 35) C dX11_requested_31 (by decide) ?_
          refine jj_ladd C dX11_requested_35 rfl ?_
          refine jj_lstore_n C dX11_requested_36 (by decide) rfl ?_
          refine jj_iinc (v := nI (1 + k_2)) C dX11_requested_37 rfl (rl_addR (kn := 1) (by decide) (by omega)) (by decide) rfl ?_
          refine jj_goto (tgt := 4) C dX11_requested_40 (by decide) ?_
          exact ihL_1 pl_16 (1 + k_2) (y_3 + y_25) g_22 hok_17 hfr hfa hm hC_23 (fun i hi => (he_24 i hi).trans (hD_6 i hi)) (by first | omega | decide | exact tt_lo _ | exact tt_hi _) (by first | omega | decide | exact tt_lo _ | exact tt_hi _) (by first | omega | decide | exact tt_lo _ | exact tt_hi _)
  exact hL_1 _ pl0 0 (0 : Int64) f trivial hok hfr hfa hm hC (fun _ _ => rfl) (by first | omega | decide | exact tt_lo _ | exact tt_hi _) (by first | omega | decide | exact tt_lo _ | exact tt_hi _) (Int.self_le_toNat _)

set_option maxHeartbeats 4000000 in
set_option maxRecDepth 100000 in
theorem rs_netAll {l : Launch} (hl : l.stackTraces = false) (D : va_G) (cA : Nat → ClassId) (ak : (Nat → Nat) × (Nat → Nat)) {Kd : Nat → Nat} {h0 aw aa at0 ai af ap : Nat} (B : Int) (f : Nat → Int64) (hk0 : Kd h0 = 1) (hkw : Kd aw = 2) (hka : Kd aa = 3) (hkt : Kd at0 = 4) (hki : Kd ai = 5) (hkf : Kd af = 6) (hkp : Kd ap = 7) (hI : rl_I B f) (hB : B ≤ 43920000000) {pl0 : va_W} (hok : tt_ok rt_tk cA Kd pl0) (hm : rl_m pl0 h0 aw aa at0 ai af ap) (hC : tt_lc pl0 aw f) : jj_M l D cA ak yX11_netAll (.code yX11_netAll cX11_netAll 4 (some .long)) 3 67 0 0 ([] ++ pl0) [.ref h0] (tt_O (fun rx pl1 r => rx = [] ∧ tt_ok rt_tk cA Kd pl1 ∧ tt_fr Kd [] pl0 pl1 ∧ tt_fa Kd [] pl0 pl1 ∧ ((∃ v : Int64, 0 ≤ v.toInt ∧ v.toInt ≤ 131760000000 ∧ r = some (.long v))))) (tt_OX (fun _ _ _ => False)) := by
  refine jj_start hl (by decide) jw_8369135f54 (jj_le rfl) ?_
  intro p e s m args below meth c A hargs hA C hex hmn
  have hfr := tt_fr.refl (K := Kd) (WS := []) pl0
  have hfa := tt_fa.refl (K := Kd) (WA := []) pl0
  have hH := hI.1.1
  obtain ⟨⟨g0a, g0b⟩, ⟨g1a, g1b⟩, ⟨g6a, g6b⟩, ⟨g7a, g7b⟩, ⟨g8a, g8b⟩⟩ := hH
  refine jj_lconst (v := 0) C dX11_netAll_0 (by decide) ?_
  refine jj_lstore_n C dX11_netAll_1 (by decide) rfl ?_
  refine jj_iconst (v := 0) C dX11_netAll_2 (by decide) ?_
  refine jj_istore_n C dX11_netAll_3 (by decide) rfl ?_
  have hL_1 : ∀ (N : Nat) (pl : va_W) (k_2 : Nat) (y_3 : Int64), True → tt_ok rt_tk cA Kd pl → tt_fr Kd [] pl0 pl → tt_fa Kd [] pl0 pl → rl_m pl h0 aw aa at0 ai af ap → tt_lc pl aw f → (0 : Int) ≤ (k_2 : Int) → (k_2 : Int) ≤ 6 → (0 ≤ y_3.toInt ∧ y_3.toInt ≤ 21960000000 * ((k_2 : Nat) : Int)) → (2147483648 - (k_2 : Int) ≤ (N : Int)) → jj_J p l e (jj_rm 3 67 0 0) s m args below meth c 4 A (vx_MQ below (jj_q D A (tt_O (fun rx pl1 r => rx = [] ∧ tt_ok rt_tk cA Kd pl1 ∧ tt_fr Kd [] pl0 pl1 ∧ tt_fa Kd [] pl0 pl1 ∧ ((∃ v : Int64, 0 ≤ v.toInt ∧ v.toInt ≤ 131760000000 ∧ r = some (.long v)))))) (jj_x D A (tt_OX (fun _ _ _ => False))) args s 0 0 A) (jj_X D A ([] ++ pl)) 0 0 4 [(3, .int (nI k_2)), (1, .long y_3), (0, .ref h0)] [] := by
    intro NL_1
    induction NL_1 with
    | zero => intro pl k_2 y_3 _ hok hfr hfa hm hC lk_2 uk_2 hS9 hNL_1; exfalso; omega
    | succ NL_1 ihL_1 =>
      intro pl k_2 y_3 _ hok hfr hfa hm hC lk_2 uk_2 hS9 hNL_1
      replace ihL_1 := fun pl k_2 y_3 h1 => ihL_1 pl k_2 y_3 trivial h1
      refine jj_iload_n C dX11_netAll_4 rfl ?_
      refine jj_i2l C dX11_netAll_5 rfl ?_
      refine jj_aload_n C dX11_netAll_6 rfl ?_
      refine tt_getF C hok jk_12 0 (by decide) jw_34eaf3ba8b (t := (2, 2, 0)) hk0 (by decide) rfl rfl hm.1 dX11_netAll_7 ?_
      refine jj_bipush (v := 6) C dX11_netAll_10 (by decide) ?_
      refine rl_lald C hok (t := (1, (-9223372036854775808), 9223372036854775807)) hkw (by decide) rfl (k := 6) (v := (f 6)) (vp_in_iff.mpr (by decide)) hC (by decide) rfl dX11_netAll_12 ?_
      refine jj_lcmp_ge (tgt := 34) C dX11_netAll_13 dX11_netAll_14 (by decide) (fun c_4 => ?_) (fun c_4 => ?_)
      · have z_c_4 := jc_leL (a := (f 6).toInt) (b := ((k_2 : Nat) : Int)) c_4 rfl (rl_tl (by omega))
        refine jj_lload_n C dX11_netAll_34 rfl ?_
        exact jj_lret C ⟨[], pl, rfl, rfl, hok, hfr, hfa, ⟨y_3, hS9.1, (by omega), rfl⟩⟩ dX11_netAll_35 (jj_le rfl) (jj_le rfl)
      · have z_c_4 := jc_nleL (a := (f 6).toInt) (b := ((k_2 : Nat) : Int)) c_4 rfl (rl_tl (by omega))
        refine jj_lload_n C dX11_netAll_17 rfl ?_
        refine jj_aload_n C dX11_netAll_18 rfl ?_
        refine jj_iload_n C dX11_netAll_19 rfl ?_
        refine tt_call0S (rest := [.ref h0, .long y_3]) C (rn_seriesAt hl D cA ak k_2 (16 + 5 * k_2) (by omega)) jw_6251557f40 jw_b2cd40a13f jw_f96c99f44d jw_6245231363 jn_X11_seriesAt rfl (jj_le rfl) (jj_le rfl) (jj_le rfl) (jj_le rfl) (jj_le rfl) dX11_netAll_20 rfl (fun w1 r hO => ?_)
        obtain ⟨-, rfl⟩ := hO
        obtain ⟨qc, gs, hqc⟩ := tt_recv (cx := []) hok hk0 (by decide) rfl
        refine tt_callV (rest := [.long y_3]) C (rs_net hl D cA ak k_2 f hk0 hkw hka hkt hki hkf hkp (by omega) hok hm hC) [] [] rfl rfl (by decide) (by decide) (by decide) qc hqc rfl rfl jw_097701ac65 jw_3078c54111 jw_c9e42407ff jw_f96c99f44d jw_02915e3ff9 jn_X11_net rfl (jj_le rfl) (jj_le rfl) (jj_le rfl) (jj_le rfl) (jj_le rfl) dX11_netAll_23 rfl (fun _ _ _ hX => hX.elim) (fun rx pl_5 r O_9 => ?_)
        obtain ⟨rfl, hok_6, hr_7, ha_8, hR_10⟩ := O_9
        replace hC := ha_8.at hkw (by decide) (by decide) hC
        replace hm := hm.fr hr_7 hk0 rfl
        replace hfr := hfr.trans (hr_7.sub (by decide))
        replace hfa := hfa.trans (ha_8.sub (by decide))
        obtain rfl := hR_10
        refine jj_ladd C dX11_netAll_26 rfl ?_
        refine jj_lstore_n C dX11_netAll_27 (by decide) rfl ?_
        refine jj_iinc (v := nI (1 + k_2)) C dX11_netAll_28 rfl (rl_addR (kn := 1) (by decide) (by omega)) (by decide) rfl ?_
        refine jj_goto (tgt := 4) C dX11_netAll_31 (by decide) ?_
        exact ihL_1 pl_5 (1 + k_2) (y_3 + (f (18 + 5 * k_2) - rg_acc f k_2)) hok_6 hfr hfa hm hC (by first | omega | decide | exact tt_lo _ | exact tt_hi _) (by first | omega | decide | exact tt_lo _ | exact tt_hi _) (rl_nets hI hB (by unfold rnS; omega) hS9) (by first | omega | decide | exact tt_lo _ | exact tt_hi _)
  exact hL_1 _ pl0 0 (0 : Int64) trivial hok hfr hfa hm hC (by first | omega | decide | exact tt_lo _ | exact tt_hi _) (by first | omega | decide | exact tt_lo _ | exact tt_hi _) ⟨by decide, by decide⟩ (Int.self_le_toNat _)

set_option maxHeartbeats 4000000 in
set_option maxRecDepth 100000 in
theorem rs_limit {l : Launch} (hl : l.stackTraces = false) (D : va_G) (cA : Nat → ClassId) (ak : (Nat → Nat) × (Nat → Nat)) {Kd : Nat → Nat} {h0 aw aa at0 ai af ap : Nat} (B : Int) (f : Nat → Int64) (hk0 : Kd h0 = 1) (hkw : Kd aw = 2) (hka : Kd aa = 3) (hkt : Kd at0 = 4) (hki : Kd ai = 5) (hkf : Kd af = 6) (hkp : Kd ap = 7) (hI : rl_I B f) (hB : B ≤ 43920000000) {pl0 : va_W} (hok : tt_ok rt_tk cA Kd pl0) (hm : rl_m pl0 h0 aw aa at0 ai af ap) (hC : tt_lc pl0 aw f) : jj_M l D cA ak yX11_limit (.code yX11_limit cX11_limit 1 (some .long)) 4 90 0 0 ([] ++ pl0) [.ref h0] (tt_O (fun rx pl1 r => rx = [] ∧ tt_ok rt_tk cA Kd pl1 ∧ tt_fr Kd [] pl0 pl1 ∧ tt_fa Kd [] pl0 pl1 ∧ ((∃ v : Int64, 0 ≤ v.toInt ∧ v.toInt ≤ 131760000000 ∧ r = some (.long v))))) (tt_OX (fun _ _ _ => False)) := by
  refine jj_start hl (by decide) jw_a61f223924 (jj_le rfl) ?_
  intro p e s m args below meth c A hargs hA C hex hmn
  have hfr := tt_fr.refl (K := Kd) (WS := []) pl0
  have hfa := tt_fa.refl (K := Kd) (WA := []) pl0
  have hH := hI.1.1
  obtain ⟨⟨g0a, g0b⟩, ⟨g1a, g1b⟩, ⟨g6a, g6b⟩, ⟨g7a, g7b⟩, ⟨g8a, g8b⟩⟩ := hH
  refine jj_aload_n C dX11_limit_0 rfl ?_
  obtain ⟨qc, gs, hqc⟩ := tt_recv (cx := []) hok hk0 (by decide) rfl
  refine tt_callV (rest := []) C (rs_netAll hl D cA ak B f hk0 hkw hka hkt hki hkf hkp hI hB hok hm hC) [] [] rfl rfl (by decide) (by decide) (by decide) qc hqc rfl rfl jw_2839123437 jw_0539aa951d jw_9a758300b1 jw_f96c99f44d jw_8369135f54 jn_X11_netAll rfl (jj_le rfl) (jj_le rfl) (jj_le rfl) (jj_le rfl) (jj_le rfl) dX11_limit_1 rfl (fun _ _ _ hX => hX.elim) (fun rx pl_1 r O_5 => ?_)
  obtain ⟨rfl, hok_2, hr_3, ha_4, hR_6⟩ := O_5
  replace hC := ha_4.at hkw (by decide) (by decide) hC
  replace hm := hm.fr hr_3 hk0 rfl
  replace hfr := hfr.trans (hr_3.sub (by decide))
  replace hfa := hfa.trans (ha_4.sub (by decide))
  obtain ⟨y_7, ly_7, uy_7, rfl⟩ := hR_6
  refine jj_aload_n C dX11_limit_4 rfl ?_
  refine tt_getF C hok_2 jk_12 0 (by decide) jw_34eaf3ba8b (t := (2, 2, 0)) hk0 (by decide) rfl rfl hm.1 dX11_limit_5 ?_
  refine jj_iconst (v := 4) C dX11_limit_8 (by decide) ?_
  refine rl_lald C hok_2 (t := (1, (-9223372036854775808), 9223372036854775807)) hkw (by decide) rfl (k := 4) (v := (f 4)) (vp_in_iff.mpr (by decide)) hC (by decide) rfl dX11_limit_9 ?_
  refine jj_lmul C dX11_limit_10 rfl ?_
  refine jj_ldc2 (v := 100) C dX11_limit_11 jw_0cface3231 ?_
  refine jj_ldiv C dX11_limit_14 (by decide) rfl ?_
  exact jj_lret C ⟨[], pl_1, rfl, rfl, hok_2, hfr, hfa, (by have q9 := rl_lim ⟨ly_7, uy_7⟩ hI.1.2.2.2.1; exact ⟨_, q9.1, q9.2, rfl⟩)⟩ dX11_limit_15 (jj_le rfl) (jj_le rfl)
