


set_option maxHeartbeats 4000000 in
set_option maxRecDepth 100000 in
theorem re_runScript {l : Launch} (hl : l.stackTraces = false) (D : va_G) (cA : Nat → ClassId) (ak : (Nat → Nat) × (Nat → Nat)) {Kd : Nat → Nat} {h0 aw aa at0 ai af ap : Nat} (x18 : Int32) (n17 : Nat) (n13 : Nat) (n6 : Nat) (B C9 : Int) (f P : Nat → Int64) (hk0 : Kd h0 = 1) (hkw : Kd aw = 2) (hka : Kd aa = 3) (hkt : Kd at0 = 4) (hki : Kd ai = 5) (hkf : Kd af = 6) (hkp : Kd ap = 7) (lx18 : (-2147483648 : Int) ≤ x18.toInt) (ux18 : x18.toInt ≤ 2147483647) (ln17 : (0 : Int) ≤ (n17 : Int)) (un17 : (n17 : Int) ≤ 3) (ln13 : (0 : Int) ≤ (n13 : Int)) (un13 : (n13 : Int) ≤ 400) (ln6 : (0 : Int) ≤ (n6 : Int)) (un6 : (n6 : Int) ≤ 10) (hK : rl_K B C9 f) (hHP : rl_HP B C9 P n6) (hB5 : B + 3000000 * (n13 : Int) ≤ 43520000000) (hB0 : 12760000000 ≤ B) (hC9 : 0 ≤ C9 ∧ C9 ≤ 4000000000000000000) {pl0 : va_W} (hok : tt_ok rt_tk cA Kd pl0) (hm : rl_m pl0 h0 aw aa at0 ai af ap) (hC : tt_lc pl0 aw f) (hCp : tt_lc pl0 ap P) (hs6 : tt_at pl0 h0 6 (.int (nI n6))) (hs13 : tt_at pl0 h0 13 (.int (nI n13))) (hs17 : tt_at pl0 h0 17 (.int (nI n17))) (hs18 : tt_at pl0 h0 18 (.int x18)) : jj_M l D cA ak yX11_runScript (.code yX11_runScript cX11_runScript 5 (some .int)) 11 273 0 0 ([] ++ pl0) [.ref h0] (tt_O (fun rx pl1 r => rx = [] ∧ tt_ok rt_tk cA Kd pl1 ∧ tt_fr Kd [(1, 6), (1, 7), (1, 8), (1, 9), (1, 13), (1, 14), (1, 15), (1, 16), (1, 17), (1, 18), (1, 19), (1, 20)] pl0 pl1 ∧ tt_fa Kd [2, 3, 5, 7, 8, 9] pl0 pl1 ∧ ((rl_M (B + 3000000 * (n13 : Int)) (C9 + 5000) pl1 h0 aw ap ∧ tt_at pl1 h0 13 (.int 0) ∧ tt_at pl1 h0 17 (.int (nI n17)) ∧ tt_at pl1 h0 18 (.int x18) ∧ ∃ v : Int32, r = some (.int v))))) (tt_OX (fun _ _ _ => False)) := by
  refine jj_start hl (by decide) jw_e962e6245a (jj_le rfl) ?_
  intro p e s m args below meth c9 A hargs hA C hex hmn
  have hfr := tt_fr.refl (K := Kd) (WS := [(1, 6), (1, 7), (1, 8), (1, 9), (1, 13), (1, 14), (1, 15), (1, 16), (1, 17), (1, 18), (1, 19), (1, 20)]) pl0
  have hfa := tt_fa.refl (K := Kd) (WA := [2, 3, 5, 7, 8, 9]) pl0
  have hI := hK.1
  have hP := hK.2.1
  have hH := hI.1.1
  obtain ⟨⟨g0a, g0b⟩, ⟨g1a, g1b⟩, ⟨g6a, g6b⟩, ⟨g7a, g7b⟩, ⟨g8a, g8b⟩⟩ := hH
  refine jj_aload_n C dX11_runScript_0 rfl ?_
  refine jj_iconst (v := 0) C dX11_runScript_1 (by decide) ?_
  refine rl_put C hok jk_12 7 (by decide) jw_0a65e3738e (t := (0, (-2147483648), 2147483647)) hk0 (by decide) rfl rfl rfl (tt_ia (0 : Int32)) rfl rfl dX11_runScript_2 (fun pl_1 hok_2 tr hn tl => ?_)
  replace hs6 := tr _ _ _ (Or.inr (by decide)) hs6
  replace hs13 := tr _ _ _ (Or.inr (by decide)) hs13
  replace hs17 := tr _ _ _ (Or.inr (by decide)) hs17
  replace hs18 := tr _ _ _ (Or.inr (by decide)) hs18
  have hf_3 := hn
  replace hm := hm.put tr (by decide)
  replace hfr := hfr.put hk0 tr (by decide)
  replace hC := tl _ _ hC
  replace hCp := tl _ _ hCp
  replace hfa := hfa.all tl
  refine jj_aload_n C dX11_runScript_5 rfl ?_
  refine tt_getF C hok_2 jk_12 17 (by decide) jw_17e99f0710 (t := (0, (-2147483648), 2147483647)) hk0 (by decide) rfl rfl hs17 dX11_runScript_6 ?_
  refine jj_istore_n C dX11_runScript_9 (by decide) rfl ?_
  refine jj_aload_n C dX11_runScript_10 rfl ?_
  refine tt_getF C hok_2 jk_12 18 (by decide) jw_a8ef26b797 (t := (0, (-2147483648), 2147483647)) hk0 (by decide) rfl rfl hs18 dX11_runScript_11 ?_
  refine jj_istore_n C dX11_runScript_14 (by decide) rfl ?_
  refine jj_aload_n C dX11_runScript_15 rfl ?_
  refine tt_getF C hok_2 jk_12 0 (by decide) jw_34eaf3ba8b (t := (2, 2, 0)) hk0 (by decide) rfl rfl hm.1 dX11_runScript_16 ?_
  refine jj_aload_n C dX11_runScript_19 rfl ?_
  refine tt_getF C hok_2 jk_12 1 (by decide) jw_25762f0b98 (t := (2, 3, 0)) hk0 (by decide) rfl rfl hm.2.1 dX11_runScript_20 ?_
  refine tt_callS (rest := []) C (rs_copy_aw_aa hl D cA ak f hk0 hkw hka hkt hki hkf hkp hok_2 hm hC) [] [] rfl rfl (by decide) (by decide) (by decide) jw_b2f7d68e03 jw_8cf8ac8b0e jw_f96c99f44d jw_1431b790b8 jn_X11_copy rfl (jj_le rfl) (jj_le rfl) (jj_le rfl) (jj_le rfl) (jj_le rfl) dX11_runScript_23 rfl (fun _ _ _ hX => hX.elim) (fun rx pl_4 r O_8 => ?_)
  obtain ⟨rfl, hok_5, hr_6, ha_7, hR_9⟩ := O_8
  replace hs6 := hr_6.at hk0 (by decide) (by decide) hs6
  replace hs13 := hr_6.at hk0 (by decide) (by decide) hs13
  replace hs17 := hr_6.at hk0 (by decide) (by decide) hs17
  replace hs18 := hr_6.at hk0 (by decide) (by decide) hs18
  replace hf_3 := hr_6.at hk0 (by decide) (by decide) hf_3
  replace hC := ha_7.at hkw (by decide) (by decide) hC
  replace hCp := ha_7.at hkp (by decide) (by decide) hCp
  replace hm := hm.fr hr_6 hk0 rfl
  replace hfr := hfr.trans (hr_6.sub (by decide))
  replace hfa := hfa.trans (ha_7.sub (by decide))
  obtain ⟨g_10, hC_11, he_12, rfl⟩ := hR_9
  refine jj_aload_n C dX11_runScript_26 rfl ?_
  obtain ⟨qc, gs, hqc⟩ := tt_recv (cx := []) hok_5 hk0 (by decide) rfl
  refine tt_callV (rest := []) C (rs_begin hl D cA ak n13 hk0 hkw hka hkt hki hkf hkp (by first | omega | decide) (by first | omega | decide) hok_5 hm hs13) [] [] rfl rfl (by decide) (by decide) (by decide) qc hqc rfl rfl jw_1025d8fa7d jw_5db37f4e19 jw_57740f6cb0 jw_f96c99f44d jw_10a65a4ad6 jn_X11_begin rfl (jj_le rfl) (jj_le rfl) (jj_le rfl) (jj_le rfl) (jj_le rfl) dX11_runScript_27 rfl (fun _ _ _ hX => hX.elim) (fun rx pl_13 r O_17 => ?_)
  obtain ⟨rfl, hok_14, hr_15, ha_16, hR_18⟩ := O_17
  replace hs6 := hr_15.at hk0 (by decide) (by decide) hs6
  replace hs18 := hr_15.at hk0 (by decide) (by decide) hs18
  replace hf_3 := hr_15.at hk0 (by decide) (by decide) hf_3
  replace hC := ha_16.at hkw (by decide) (by decide) hC
  replace hCp := ha_16.at hkp (by decide) (by decide) hCp
  replace hC_11 := ha_16.at hka (by decide) (by decide) hC_11
  replace hm := hm.fr hr_15 hk0 rfl
  replace hfr := hfr.trans (hr_15.sub (by decide))
  replace hfa := hfa.trans (ha_16.sub (by decide))
  obtain ⟨n_19, n_20, hf_21, hf_22, hf_23, hf_24, hf_25, hq_26, hq_27, rfl⟩ := hR_18
  refine jj_iconst (v := 0) C dX11_runScript_30 (by decide) ?_
  refine jj_istore_n C dX11_runScript_31 (by decide) rfl ?_
  have hL_28 : ∀ (N : Nat) (pl : va_W) (x_29 : Int32) (g_30 : Nat → Int64) (n_34 : Nat) (n_35 : Nat) (n_36 : Nat), True → tt_ok rt_tk cA Kd pl → tt_fr Kd [(1, 6), (1, 7), (1, 8), (1, 9), (1, 13), (1, 14), (1, 15), (1, 16), (1, 17), (1, 18), (1, 19), (1, 20)] pl0 pl → tt_fa Kd [2, 3, 5, 7, 8, 9] pl0 pl → rl_m pl h0 aw aa at0 ai af ap → tt_at pl h0 6 (.int (nI n6)) → tt_at pl h0 16 (.int (nI n13)) → tt_at pl h0 13 (.int 0) → tt_lc pl ap P → tt_lc pl aa g_10 → tt_lc pl aw g_30 → (n_36 = 0 → rl_K (B + 3000000 * (n_34 : Int)) (C9 + 12 * (n_34 : Int)) g_30) → tt_at pl h0 14 (.int (nI n_34)) → tt_at pl h0 15 (.int (nI n_35)) → tt_at pl h0 17 (.int (nI n_36)) → (-2147483648 : Int) ≤ x_29.toInt → x_29.toInt ≤ 2147483647 → (0 : Int) ≤ (n_34 : Int) → (n_34 : Int) ≤ 400 → (0 : Int) ≤ (n_35 : Int) → (n_35 : Int) ≤ 400 → (0 : Int) ≤ (n_36 : Int) → (n_36 : Int) ≤ 3 → (((n_34 : Nat) : Int) ≤ ((n_35 : Nat) : Int) ∧ ((n_35 : Nat) : Int) ≤ ((n13 : Nat) : Int)) → (1000 * (3 - ((n_36 : Nat) : Int)) + (((n13 : Nat) : Int) - ((n_34 : Nat) : Int)) + 1 ≤ (N : Int)) → jj_J p l e (jj_rm 11 273 0 0) s m args below meth c9 5 A (vx_MQ below (jj_q D A (tt_O (fun rx pl1 r => rx = [] ∧ tt_ok rt_tk cA Kd pl1 ∧ tt_fr Kd [(1, 6), (1, 7), (1, 8), (1, 9), (1, 13), (1, 14), (1, 15), (1, 16), (1, 17), (1, 18), (1, 19), (1, 20)] pl0 pl1 ∧ tt_fa Kd [2, 3, 5, 7, 8, 9] pl0 pl1 ∧ ((rl_M (B + 3000000 * (n13 : Int)) (C9 + 5000) pl1 h0 aw ap ∧ tt_at pl1 h0 13 (.int 0) ∧ tt_at pl1 h0 17 (.int (nI n17)) ∧ tt_at pl1 h0 18 (.int x18) ∧ ∃ v : Int32, r = some (.int v)))))) (jj_x D A (tt_OX (fun _ _ _ => False))) args s 0 0 A) (jj_X D A ([] ++ pl)) 0 0 32 [(3, .int x_29), (2, .int x18), (1, .int (nI n17)), (0, .ref h0)] [] := by
    intro NL_28
    induction NL_28 with
    | zero => intro pl x_29 g_30 n_34 n_35 n_36 _ hok hfr hfa hm hf_31 hf_32 hf_33 hCp hC_11 hC_37 hD_38 hf_39 hf_40 hf_41 lx_29 ux_29 ln_34 un_34 ln_35 un_35 ln_36 un_36 hS9 hNL_28; exfalso; omega
    | succ NL_28 ihL_28 =>
      intro pl x_29 g_30 n_34 n_35 n_36 _ hok hfr hfa hm hf_31 hf_32 hf_33 hCp hC_11 hC_37 hD_38 hf_39 hf_40 hf_41 lx_29 ux_29 ln_34 un_34 ln_35 un_35 ln_36 un_36 hS9 hNL_28
      replace ihL_28 := fun pl x_29 g_30 n_34 n_35 n_36 h1 => ihL_28 pl x_29 g_30 n_34 n_35 n_36 trivial h1
      refine jj_aload_n C dX11_runScript_32 rfl ?_
      refine tt_getF C hok jk_12 17 (by decide) jw_17e99f0710 (t := (0, (-2147483648), 2147483647)) hk0 (by decide) rfl rfl hf_41 dX11_runScript_33 ?_
      refine jj_if_ne (tgt := 64) C dX11_runScript_36 (by decide) (fun c_42 => ?_) (fun c_42 => ?_)
      · have z_c_42 := jc_neq (a := ((n_36 : Nat) : Int)) (b := 0) c_42 (rl_ti (by omega)) (by decide)
        refine jj_aload_n C dX11_runScript_64 rfl ?_
        refine tt_getF C hok jk_12 17 (by decide) jw_17e99f0710 (t := (0, (-2147483648), 2147483647)) hk0 (by decide) rfl rfl hf_41 dX11_runScript_65 ?_
        refine jj_if_ne (tgt := 75) C dX11_runScript_68 (by decide) (fun c_43 => ?_) (fun c_43 => ?_)
        · have z_c_43 := jc_neq (a := ((n_36 : Nat) : Int)) (b := 0) c_43 (rl_ti (by omega)) (by decide)
          refine jj_iconst (v := (-1)) C dX11_runScript_75 (by decide) ?_
          refine jj_aload_n C dX11_runScript_76 rfl ?_
          refine tt_get C hok jk_12 18 (by decide) jw_a8ef26b797 (t := (0, (-2147483648), 2147483647)) hk0 (by decide) rfl rfl dX11_runScript_77 (fun v_44 hv_44 hf_45 => ?_)
          obtain ⟨x_46, rfl, lx_46, ux_46⟩ := tt_vi hv_44
          obtain ⟨x_47, ex_47⟩ : ∃ z : Int32, ((-1) : Int32) - x_46 = z := ⟨_, rfl⟩
          refine jj_isub (v := x_47) C dX11_runScript_80 ex_47 ?_
          refine jj_istore C dX11_runScript_81 (by decide) rfl ?_
          refine jj_aload_n C dX11_runScript_83 rfl ?_
          refine tt_getF C hok jk_12 17 (by decide) jw_17e99f0710 (t := (0, (-2147483648), 2147483647)) hk0 (by decide) rfl rfl hf_41 dX11_runScript_84 ?_
          refine jj_if_ne (tgt := 97) C dX11_runScript_87 (by decide) (fun c_48 => ?_) (fun c_48 => ?_)
          · have z_c_48 := jc_neq (a := ((n_36 : Nat) : Int)) (b := 0) c_48 (rl_ti (by omega)) (by decide)
            refine jj_aload_n C dX11_runScript_97 rfl ?_
            refine tt_getF C hok jk_12 1 (by decide) jw_25762f0b98 (t := (2, 3, 0)) hk0 (by decide) rfl rfl hm.2.1 dX11_runScript_98 ?_
            refine jj_aload_n C dX11_runScript_101 rfl ?_
            refine tt_getF C hok jk_12 0 (by decide) jw_34eaf3ba8b (t := (2, 2, 0)) hk0 (by decide) rfl rfl hm.1 dX11_runScript_102 ?_
            refine tt_callS (rest := []) C (rs_copy_aa_aw hl D cA ak g_10 hk0 hkw hka hkt hki hkf hkp hok hm hC_11) [] [] rfl rfl (by decide) (by decide) (by decide) jw_b2f7d68e03 jw_8cf8ac8b0e jw_f96c99f44d jw_1431b790b8 jn_X11_copy rfl (jj_le rfl) (jj_le rfl) (jj_le rfl) (jj_le rfl) (jj_le rfl) dX11_runScript_105 rfl (fun _ _ _ hX => hX.elim) (fun rx pl_49 r O_53 => ?_)
            obtain ⟨rfl, hok_50, hr_51, ha_52, hR_54⟩ := O_53
            replace hf_31 := hr_51.at hk0 (by decide) (by decide) hf_31
            replace hf_32 := hr_51.at hk0 (by decide) (by decide) hf_32
            replace hf_33 := hr_51.at hk0 (by decide) (by decide) hf_33
            replace hf_39 := hr_51.at hk0 (by decide) (by decide) hf_39
            replace hf_40 := hr_51.at hk0 (by decide) (by decide) hf_40
            replace hf_41 := hr_51.at hk0 (by decide) (by decide) hf_41
            replace hf_45 := hr_51.at hk0 (by decide) (by decide) hf_45
            replace hCp := ha_52.at hkp (by decide) (by decide) hCp
            replace hC_11 := ha_52.at hka (by decide) (by decide) hC_11
            replace hm := hm.fr hr_51 hk0 rfl
            replace hfr := hfr.trans (hr_51.sub (by decide))
            replace hfa := hfa.trans (ha_52.sub (by decide))
            obtain ⟨g_55, hC_56, he_57, rfl⟩ := hR_54
            obtain ⟨⟨g0ag_55, g0bg_55⟩, ⟨g1ag_55, g1bg_55⟩, ⟨g6ag_55, g6bg_55⟩, ⟨g7ag_55, g7bg_55⟩, ⟨g8ag_55, g8bg_55⟩⟩ := (rl_I.cong (rl_I.cong hI he_12).1 he_57).1.1.1
            refine jj_aload_n C dX11_runScript_108 rfl ?_
            refine jj_iload_n C dX11_runScript_109 rfl ?_
            refine rl_put C hok_50 jk_12 17 (by decide) jw_17e99f0710 (t := (0, (-2147483648), 2147483647)) hk0 (by decide) rfl rfl rfl (tt_ia (nI n17)) rfl rfl dX11_runScript_110 (fun pl_58 hok_59 tr hn tl => ?_)
            replace hf_31 := tr _ _ _ (Or.inr (by decide)) hf_31
            replace hf_32 := tr _ _ _ (Or.inr (by decide)) hf_32
            replace hf_33 := tr _ _ _ (Or.inr (by decide)) hf_33
            replace hf_39 := tr _ _ _ (Or.inr (by decide)) hf_39
            replace hf_40 := tr _ _ _ (Or.inr (by decide)) hf_40
            replace hf_45 := tr _ _ _ (Or.inr (by decide)) hf_45
            have hf_60 := hn
            replace hm := hm.put tr (by decide)
            replace hfr := hfr.put hk0 tr (by decide)
            replace hCp := tl _ _ hCp
            replace hC_11 := tl _ _ hC_11
            replace hC_56 := tl _ _ hC_56
            replace hfa := hfa.all tl
            refine jj_aload_n C dX11_runScript_113 rfl ?_
            refine jj_iload_n C dX11_runScript_114 rfl ?_
            refine rl_put C hok_59 jk_12 18 (by decide) jw_a8ef26b797 (t := (0, (-2147483648), 2147483647)) hk0 (by decide) rfl rfl rfl (tt_ia x18) rfl rfl dX11_runScript_115 (fun pl_61 hok_62 tr hn tl => ?_)
            replace hf_31 := tr _ _ _ (Or.inr (by decide)) hf_31
            replace hf_32 := tr _ _ _ (Or.inr (by decide)) hf_32
            replace hf_33 := tr _ _ _ (Or.inr (by decide)) hf_33
            replace hf_39 := tr _ _ _ (Or.inr (by decide)) hf_39
            replace hf_40 := tr _ _ _ (Or.inr (by decide)) hf_40
            replace hf_60 := tr _ _ _ (Or.inr (by decide)) hf_60
            have hf_63 := hn
            replace hm := hm.put tr (by decide)
            replace hfr := hfr.put hk0 tr (by decide)
            replace hCp := tl _ _ hCp
            replace hC_11 := tl _ _ hC_11
            replace hC_56 := tl _ _ hC_56
            replace hfa := hfa.all tl
            refine jj_iload C dX11_runScript_118 rfl ?_
            exact jj_iret C ⟨[], pl_61, rfl, rfl, hok_62, hfr, hfa, ⟨⟨_, _, n6, hC_56, hCp, hf_31, (by omega), (((hK.cong he_12).cong he_57).mono (by omega) (by omega)), hHP.mono (by omega) (by omega)⟩, hf_33, hf_60, hf_63, x_47, rfl⟩⟩ dX11_runScript_120 (jj_le rfl) (jj_le rfl)
          · have z_c_48 := jc_eq (a := ((n_36 : Nat) : Int)) (b := 0) c_48 (rl_ti (by omega)) (by decide)
            exfalso; omega
        · have z_c_43 := jc_eq (a := ((n_36 : Nat) : Int)) (b := 0) c_43 (rl_ti (by omega)) (by decide)
          exfalso; omega
      · have z_c_42 := jc_eq (a := ((n_36 : Nat) : Int)) (b := 0) c_42 (rl_ti (by omega)) (by decide)
        refine jj_aload_n C dX11_runScript_39 rfl ?_
        refine tt_getF C hok jk_12 14 (by decide) jw_6446e1fd81 (t := (0, 0, 400)) hk0 (by decide) rfl rfl hf_39 dX11_runScript_40 ?_
        refine jj_aload_n C dX11_runScript_43 rfl ?_
        refine tt_getF C hok jk_12 16 (by decide) jw_28b46cb90c (t := (0, 0, 400)) hk0 (by decide) rfl rfl hf_32 dX11_runScript_44 ?_
        refine jj_icmp_ge (tgt := 64) C dX11_runScript_47 (by decide) (fun c_64 => ?_) (fun c_64 => ?_)
        · have z_c_64 := jc_le (a := ((n13 : Nat) : Int)) (b := ((n_34 : Nat) : Int)) c_64 (rl_ti (by omega)) (rl_ti (by omega))
          refine jj_aload_n C dX11_runScript_64 rfl ?_
          refine tt_getF C hok jk_12 17 (by decide) jw_17e99f0710 (t := (0, (-2147483648), 2147483647)) hk0 (by decide) rfl rfl hf_41 dX11_runScript_65 ?_
          refine jj_if_ne (tgt := 75) C dX11_runScript_68 (by decide) (fun c_65 => ?_) (fun c_65 => ?_)
          · have z_c_65 := jc_neq (a := ((n_36 : Nat) : Int)) (b := 0) c_65 (rl_ti (by omega)) (by decide)
            exfalso; omega
          · have z_c_65 := jc_eq (a := ((n_36 : Nat) : Int)) (b := 0) c_65 (rl_ti (by omega)) (by decide)
            refine jj_iload_n C dX11_runScript_71 rfl ?_
            refine jj_goto (tgt := 81) C dX11_runScript_72 (by decide) ?_
            refine jj_istore C dX11_runScript_81 (by decide) rfl ?_
            refine jj_aload_n C dX11_runScript_83 rfl ?_
            refine tt_getF C hok jk_12 17 (by decide) jw_17e99f0710 (t := (0, (-2147483648), 2147483647)) hk0 (by decide) rfl rfl hf_41 dX11_runScript_84 ?_
            refine jj_if_ne (tgt := 97) C dX11_runScript_87 (by decide) (fun c_66 => ?_) (fun c_66 => ?_)
            · have z_c_66 := jc_neq (a := ((n_36 : Nat) : Int)) (b := 0) c_66 (rl_ti (by omega)) (by decide)
              exfalso; omega
            · have z_c_66 := jc_eq (a := ((n_36 : Nat) : Int)) (b := 0) c_66 (rl_ti (by omega)) (by decide)
              refine jj_aload_n C dX11_runScript_90 rfl ?_
              obtain ⟨qc, gs, hqc⟩ := tt_recv (cx := []) hok hk0 (by decide) rfl
              refine tt_callV (rest := []) C (rs_push hl D cA ak n6 B C9 g_10 P hk0 hkw hka hkt hki hkf hkp (by first | omega | decide) (by first | omega | decide) hHP (hK.cong he_12) hok hm hC_11 hCp hf_31) [] [] rfl rfl (by decide) (by decide) (by decide) qc hqc rfl rfl jw_c80a63daf0 jw_785b532b41 jw_195b7eab6b jw_f96c99f44d jw_74a0b28c12 jn_X11_push rfl (jj_le rfl) (jj_le rfl) (jj_le rfl) (jj_le rfl) (jj_le rfl) dX11_runScript_91 rfl (fun _ _ _ hX => hX.elim) (fun rx pl_67 r O_71 => ?_)
              obtain ⟨rfl, hok_68, hr_69, ha_70, hR_72⟩ := O_71
              replace hf_32 := hr_69.at hk0 (by decide) (by decide) hf_32
              replace hf_33 := hr_69.at hk0 (by decide) (by decide) hf_33
              replace hf_39 := hr_69.at hk0 (by decide) (by decide) hf_39
              replace hf_40 := hr_69.at hk0 (by decide) (by decide) hf_40
              replace hf_41 := hr_69.at hk0 (by decide) (by decide) hf_41
              replace hC_11 := ha_70.at hka (by decide) (by decide) hC_11
              replace hC_37 := ha_70.at hkw (by decide) (by decide) hC_37
              replace hm := hm.fr hr_69 hk0 rfl
              replace hfr := hfr.trans (hr_69.sub (by decide))
              replace hfa := hfa.trans (ha_70.sub (by decide))
              obtain ⟨g_73, n_74, hC_75, hf_76, hn_77, hQ_78, rfl⟩ := hR_72
              refine jj_goto (tgt := 108) C dX11_runScript_94 (by decide) ?_
              refine jj_aload_n C dX11_runScript_108 rfl ?_
              refine jj_iload_n C dX11_runScript_109 rfl ?_
              refine rl_put C hok_68 jk_12 17 (by decide) jw_17e99f0710 (t := (0, (-2147483648), 2147483647)) hk0 (by decide) rfl rfl rfl (tt_ia (nI n17)) rfl rfl dX11_runScript_110 (fun pl_79 hok_80 tr hn tl => ?_)
              replace hf_32 := tr _ _ _ (Or.inr (by decide)) hf_32
              replace hf_33 := tr _ _ _ (Or.inr (by decide)) hf_33
              replace hf_39 := tr _ _ _ (Or.inr (by decide)) hf_39
              replace hf_40 := tr _ _ _ (Or.inr (by decide)) hf_40
              replace hf_76 := tr _ _ _ (Or.inr (by decide)) hf_76
              have hf_81 := hn
              replace hm := hm.put tr (by decide)
              replace hfr := hfr.put hk0 tr (by decide)
              replace hC_11 := tl _ _ hC_11
              replace hC_37 := tl _ _ hC_37
              replace hC_75 := tl _ _ hC_75
              replace hfa := hfa.all tl
              refine jj_aload_n C dX11_runScript_113 rfl ?_
              refine jj_iload_n C dX11_runScript_114 rfl ?_
              refine rl_put C hok_80 jk_12 18 (by decide) jw_a8ef26b797 (t := (0, (-2147483648), 2147483647)) hk0 (by decide) rfl rfl rfl (tt_ia x18) rfl rfl dX11_runScript_115 (fun pl_82 hok_83 tr hn tl => ?_)
              replace hf_32 := tr _ _ _ (Or.inr (by decide)) hf_32
              replace hf_33 := tr _ _ _ (Or.inr (by decide)) hf_33
              replace hf_39 := tr _ _ _ (Or.inr (by decide)) hf_39
              replace hf_40 := tr _ _ _ (Or.inr (by decide)) hf_40
              replace hf_76 := tr _ _ _ (Or.inr (by decide)) hf_76
              replace hf_81 := tr _ _ _ (Or.inr (by decide)) hf_81
              have hf_84 := hn
              replace hm := hm.put tr (by decide)
              replace hfr := hfr.put hk0 tr (by decide)
              replace hC_11 := tl _ _ hC_11
              replace hC_37 := tl _ _ hC_37
              replace hC_75 := tl _ _ hC_75
              replace hfa := hfa.all tl
              refine jj_iload C dX11_runScript_118 rfl ?_
              exact jj_iret C ⟨[], pl_82, rfl, rfl, hok_83, hfr, hfa, ⟨⟨_, _, n_74, hC_37, hC_75, hf_76, (by omega), ((hD_38 (by omega)).mono (by omega) (by omega)), hQ_78.mono (by omega) (by omega)⟩, hf_33, hf_81, hf_84, x_29, rfl⟩⟩ dX11_runScript_120 (jj_le rfl) (jj_le rfl)
        · have z_c_64 := jc_nle (a := ((n13 : Nat) : Int)) (b := ((n_34 : Nat) : Int)) c_64 (rl_ti (by omega)) (rl_ti (by omega))
          refine jj_aload_n C dX11_runScript_50 rfl ?_
          obtain ⟨qc, gs, hqc⟩ := tt_recv (cx := []) hok hk0 (by decide) rfl
          refine tt_callV (rest := []) C (rs_goesThrough hl D cA ak n_36 n13 n_35 n_34 B C9 g_30 hk0 hkw hka hkt hki hkf hkp (by first | omega | decide) (by first | omega | decide) (by first | omega | decide) (by first | omega | decide) (by first | omega | decide) (by first | omega | decide) (by first | omega | decide) (by first | omega | decide) (by omega) (by omega) (by omega) (hD_38 (by omega)) hB5 hB0 ⟨hC9.1, by omega⟩ hok hm hC_37 hf_39 hf_40 hf_32 hf_41) [] [] rfl rfl (by decide) (by decide) (by decide) qc hqc rfl rfl jw_b62f4a35d5 jw_531f8b3049 jw_8b3ca5a371 jw_f96c99f44d jw_7bdeb2db1f jn_X11_goesThrough rfl (jj_le rfl) (jj_le rfl) (jj_le rfl) (jj_le rfl) (jj_le rfl) dX11_runScript_51 rfl (fun _ _ _ hX => hX.elim) (fun rx pl_85 r O_89 => ?_)
          obtain ⟨rfl, hok_86, hr_87, ha_88, hR_90⟩ := O_89
          replace hf_31 := hr_87.at hk0 (by decide) (by decide) hf_31
          replace hf_32 := hr_87.at hk0 (by decide) (by decide) hf_32
          replace hf_33 := hr_87.at hk0 (by decide) (by decide) hf_33
          replace hCp := ha_88.at hkp (by decide) (by decide) hCp
          replace hC_11 := ha_88.at hka (by decide) (by decide) hC_11
          replace hm := hm.fr hr_87 hk0 rfl
          replace hfr := hfr.trans (hr_87.sub (by decide))
          replace hfa := hfa.trans (ha_88.sub (by decide))
          obtain ⟨g_91, n_93, n_94, n_95, hC_92, hf_96, hf_97, hf_98, hq_99, hq_100, hq_101, hq_102, hq_103, hq_104, rfl⟩ := hR_90
          refine jj_aload_n C dX11_runScript_54 rfl ?_
          obtain ⟨qc, gs, hqc⟩ := tt_recv (cx := []) hok_86 hk0 (by decide) rfl
          refine tt_callV (rest := []) C (rs_pass hl D cA ak n_95 n13 n_94 n_93 hk0 hkw hka hkt hki hkf hkp (by first | omega | decide) (by first | omega | decide) (by first | omega | decide) (by first | omega | decide) (by first | omega | decide) (by first | omega | decide) (by first | omega | decide) (by first | omega | decide) (by omega) (by omega) hok_86 hm hf_96 hf_97 hf_32 hf_98) [] [] rfl rfl (by decide) (by decide) (by decide) qc hqc rfl rfl jw_b8e803331f jw_409849e3da jw_7cfaf31817 jw_f96c99f44d jw_3d0e41f30f jn_X11_pass rfl (jj_le rfl) (jj_le rfl) (jj_le rfl) (jj_le rfl) (jj_le rfl) dX11_runScript_55 rfl (fun _ _ _ hX => hX.elim) (fun rx pl_105 r O_109 => ?_)
          obtain ⟨rfl, hok_106, hr_107, ha_108, hR_110⟩ := O_109
          replace hf_31 := hr_107.at hk0 (by decide) (by decide) hf_31
          replace hf_32 := hr_107.at hk0 (by decide) (by decide) hf_32
          replace hf_33 := hr_107.at hk0 (by decide) (by decide) hf_33
          replace hf_98 := hr_107.at hk0 (by decide) (by decide) hf_98
          replace hCp := ha_108.at hkp (by decide) (by decide) hCp
          replace hC_11 := ha_108.at hka (by decide) (by decide) hC_11
          replace hC_92 := ha_108.at hkw (by decide) (by decide) hC_92
          replace hm := hm.fr hr_107 hk0 rfl
          replace hfr := hfr.trans (hr_107.sub (by decide))
          replace hfa := hfa.trans (ha_108.sub (by decide))
          obtain ⟨n_111, n_112, hf_113, hf_114, hq_115, hq_116, hq_117, hq_118, rfl⟩ := hR_110
          obtain ⟨x_119, ex_119⟩ : ∃ z : Int32, x_29 + Int32.ofInt 1 = z := ⟨_, rfl⟩
          refine jj_iinc (v := x_119) C dX11_runScript_58 rfl ex_119 (by decide) rfl ?_
          refine jj_goto (tgt := 32) C dX11_runScript_61 (by decide) ?_
          exact ihL_28 pl_105 x_119 g_91 n_111 n_112 n_95 hok_106 hfr hfa hm hf_31 hf_32 hf_33 hCp hC_11 hC_92 (fun z9 => (hq_104 (by omega)).mono (by omega) (by omega)) hf_113 hf_114 hf_98 (by first | omega | decide | exact tt_lo _ | exact tt_hi _) (by first | omega | decide | exact tt_lo _ | exact tt_hi _) (by first | omega | decide | exact tt_lo _ | exact tt_hi _) (by first | omega | decide | exact tt_lo _ | exact tt_hi _) (by first | omega | decide | exact tt_lo _ | exact tt_hi _) (by first | omega | decide | exact tt_lo _ | exact tt_hi _) (by first | omega | decide | exact tt_lo _ | exact tt_hi _) (by first | omega | decide | exact tt_lo _ | exact tt_hi _) ⟨by omega, by omega⟩ (by first | omega | decide | exact tt_lo _ | exact tt_hi _)
  exact hL_28 _ pl_13 (0 : Int32) f n_19 n_20 0 trivial hok_14 hfr hfa hm hs6 hf_24 hf_21 hCp hC_11 hC (fun _ => hK.mono (by omega) (by omega)) hf_22 hf_23 hf_25 (by first | omega | decide | exact tt_lo _ | exact tt_hi _) (by first | omega | decide | exact tt_lo _ | exact tt_hi _) (by first | omega | decide | exact tt_lo _ | exact tt_hi _) (by first | omega | decide | exact tt_lo _ | exact tt_hi _) (by first | omega | decide | exact tt_lo _ | exact tt_hi _) (by first | omega | decide | exact tt_lo _ | exact tt_hi _) (by first | omega | decide | exact tt_lo _ | exact tt_hi _) (by first | omega | decide | exact tt_lo _ | exact tt_hi _) ⟨by omega, by omega⟩ (Int.self_le_toNat _)

set_option maxHeartbeats 4000000 in
set_option maxRecDepth 100000 in
theorem re_errorCode {l : Launch} (hl : l.stackTraces = false) (D : va_G) (cA : Nat → ClassId) (ak : (Nat → Nat) × (Nat → Nat)) {Kd : Nat → Nat} {h0 aw aa at0 ai af ap : Nat} (x17 : Int32) (hk0 : Kd h0 = 1) (hkw : Kd aw = 2) (hka : Kd aa = 3) (hkt : Kd at0 = 4) (hki : Kd ai = 5) (hkf : Kd af = 6) (hkp : Kd ap = 7) (lx17 : (-2147483648 : Int) ≤ x17.toInt) (ux17 : x17.toInt ≤ 2147483647) {pl0 : va_W} (hok : tt_ok rt_tk cA Kd pl0) (hm : rl_m pl0 h0 aw aa at0 ai af ap) (hs17 : tt_at pl0 h0 17 (.int x17)) : jj_M l D cA ak yX11_errorCode (.code yX11_errorCode cX11_errorCode 1 (some .int)) 0 0 0 0 ([] ++ pl0) [.ref h0] (tt_O (fun rx pl1 r => rx = [] ∧ tt_ok rt_tk cA Kd pl1 ∧ tt_fr Kd [(1, 7)] pl0 pl1 ∧ tt_fa Kd [] pl0 pl1 ∧ ((r = some (.int x17))))) (tt_OX (fun _ _ _ => False)) := by
  refine jj_start hl (by decide) jw_120a4e68f7 (jj_le rfl) ?_
  intro p e s m args below meth c9 A hargs hA C hex hmn
  have hfr := tt_fr.refl (K := Kd) (WS := [(1, 7)]) pl0
  have hfa := tt_fa.refl (K := Kd) (WA := []) pl0
  refine jj_aload_n C dX11_errorCode_0 rfl ?_
  refine jj_iconst (v := 0) C dX11_errorCode_1 (by decide) ?_
  refine rl_put C hok jk_12 7 (by decide) jw_0a65e3738e (t := (0, (-2147483648), 2147483647)) hk0 (by decide) rfl rfl rfl (tt_ia (0 : Int32)) rfl rfl dX11_errorCode_2 (fun pl_1 hok_2 tr hn tl => ?_)
  replace hs17 := tr _ _ _ (Or.inr (by decide)) hs17
  have hf_3 := hn
  replace hm := hm.put tr (by decide)
  replace hfr := hfr.put hk0 tr (by decide)
  replace hfa := hfa.all tl
  refine jj_aload_n C dX11_errorCode_5 rfl ?_
  refine tt_getF C hok_2 jk_12 17 (by decide) jw_17e99f0710 (t := (0, (-2147483648), 2147483647)) hk0 (by decide) rfl rfl hs17 dX11_errorCode_6 ?_
  exact jj_iret C ⟨[], pl_1, rfl, rfl, hok_2, hfr, hfa, rfl⟩ dX11_errorCode_9 (jj_le rfl) (jj_le rfl)

set_option maxHeartbeats 4000000 in
set_option maxRecDepth 100000 in
theorem re_errorPosition {l : Launch} (hl : l.stackTraces = false) (D : va_G) (cA : Nat → ClassId) (ak : (Nat → Nat) × (Nat → Nat)) {Kd : Nat → Nat} {h0 aw aa at0 ai af ap : Nat} (x18 : Int32) (hk0 : Kd h0 = 1) (hkw : Kd aw = 2) (hka : Kd aa = 3) (hkt : Kd at0 = 4) (hki : Kd ai = 5) (hkf : Kd af = 6) (hkp : Kd ap = 7) (lx18 : (-2147483648 : Int) ≤ x18.toInt) (ux18 : x18.toInt ≤ 2147483647) {pl0 : va_W} (hok : tt_ok rt_tk cA Kd pl0) (hm : rl_m pl0 h0 aw aa at0 ai af ap) (hs18 : tt_at pl0 h0 18 (.int x18)) : jj_M l D cA ak yX11_errorPosition (.code yX11_errorPosition cX11_errorPosition 1 (some .int)) 0 0 0 0 ([] ++ pl0) [.ref h0] (tt_O (fun rx pl1 r => rx = [] ∧ tt_ok rt_tk cA Kd pl1 ∧ tt_fr Kd [(1, 7)] pl0 pl1 ∧ tt_fa Kd [] pl0 pl1 ∧ ((r = some (.int x18))))) (tt_OX (fun _ _ _ => False)) := by
  refine jj_start hl (by decide) jw_89585a2ded (jj_le rfl) ?_
  intro p e s m args below meth c9 A hargs hA C hex hmn
  have hfr := tt_fr.refl (K := Kd) (WS := [(1, 7)]) pl0
  have hfa := tt_fa.refl (K := Kd) (WA := []) pl0
  refine jj_aload_n C dX11_errorPosition_0 rfl ?_
  refine jj_iconst (v := 0) C dX11_errorPosition_1 (by decide) ?_
  refine rl_put C hok jk_12 7 (by decide) jw_0a65e3738e (t := (0, (-2147483648), 2147483647)) hk0 (by decide) rfl rfl rfl (tt_ia (0 : Int32)) rfl rfl dX11_errorPosition_2 (fun pl_1 hok_2 tr hn tl => ?_)
  replace hs18 := tr _ _ _ (Or.inr (by decide)) hs18
  have hf_3 := hn
  replace hm := hm.put tr (by decide)
  replace hfr := hfr.put hk0 tr (by decide)
  replace hfa := hfa.all tl
  refine jj_aload_n C dX11_errorPosition_5 rfl ?_
  refine tt_getF C hok_2 jk_12 18 (by decide) jw_a8ef26b797 (t := (0, (-2147483648), 2147483647)) hk0 (by decide) rfl rfl hs18 dX11_errorPosition_6 ?_
  exact jj_iret C ⟨[], pl_1, rfl, rfl, hok_2, hfr, hfa, rfl⟩ dX11_errorPosition_9 (jj_le rfl) (jj_le rfl)

set_option maxHeartbeats 4000000 in
set_option maxRecDepth 100000 in
theorem re_byteAt {l : Launch} (hl : l.stackTraces = false) (D : va_G) (cA : Nat → ClassId) (ak : (Nat → Nat) × (Nat → Nat)) {Kd : Nat → Nat} {h0 aw aa at0 ai af ap : Nat} (n16 : Nat) (at9 : Nat) (u : Nat → Int32) (q : Nat) (c : Nat → Int) (hk0 : Kd h0 = 1) (hkw : Kd aw = 2) (hka : Kd aa = 3) (hkt : Kd at0 = 4) (hki : Kd ai = 5) (hkf : Kd af = 6) (hkp : Kd ap = 7) (ln16 : (0 : Int) ≤ (n16 : Int)) (un16 : (n16 : Int) ≤ 400) (hk9 : Kd at9 = 10) (hq : q < 1000000) (hc : ∀ k : Nat, k < n16 → c k = ((u k) &&& 255).toInt) {pl0 : va_W} (hok : tt_ok rt_tk cA Kd pl0) (hm : rl_m pl0 h0 aw aa at0 ai af ap) (hs12 : tt_at pl0 h0 12 (.ref at9)) (hu : tt_ic pl0 at9 u) (hs16 : tt_at pl0 h0 16 (.int (nI n16))) : jj_M l D cA ak yX11_byteAt (.code yX11_byteAt cX11_byteAt 2 (some .int)) 0 0 0 0 ([] ++ pl0) [.ref h0, .int (nI q)] (tt_O (fun rx pl1 r => rx = [] ∧ tt_ok rt_tk cA Kd pl1 ∧ tt_fr Kd [] pl0 pl1 ∧ tt_fa Kd [] pl0 pl1 ∧ ((n16 ≤ q ∧ r = some (.int (-1))) ∨ (q < n16 ∧ ∃ v : Int32, v.toInt = c q ∧ r = some (.int v))))) (tt_OX (fun _ _ _ => False)) := by
  refine jj_start hl (by decide) jw_4737f96f0a (jj_le rfl) ?_
  intro p e s m args below meth c9 A hargs hA C hex hmn
  have hfr := tt_fr.refl (K := Kd) (WS := []) pl0
  have hfa := tt_fa.refl (K := Kd) (WA := []) pl0
  refine jj_iload_n C dX11_byteAt_0 rfl ?_
  refine jj_aload_n C dX11_byteAt_1 rfl ?_
  refine tt_getF C hok jk_12 16 (by decide) jw_28b46cb90c (t := (0, 0, 400)) hk0 (by decide) rfl rfl hs16 dX11_byteAt_2 ?_
  refine jj_icmp_ge (tgt := 21) C dX11_byteAt_5 (by decide) (fun c_1 => ?_) (fun c_1 => ?_)
  · have z_c_1 := jc_le (a := ((n16 : Nat) : Int)) (b := ((q : Nat) : Int)) c_1 (rl_ti (by omega)) (rl_ti (by omega))
    refine jj_iconst (v := (-1)) C dX11_byteAt_21 (by decide) ?_
    exact jj_iret C ⟨[], pl0, rfl, rfl, hok, hfr, hfa, (Or.inl ⟨by omega, rfl⟩)⟩ dX11_byteAt_22 (jj_le rfl) (jj_le rfl)
  · have z_c_1 := jc_nle (a := ((n16 : Nat) : Int)) (b := ((q : Nat) : Int)) c_1 (rl_ti (by omega)) (rl_ti (by omega))
    refine jj_aload_n C dX11_byteAt_8 rfl ?_
    refine tt_getF C hok jk_12 12 (by decide) jw_a4b356c796 (t := (2, 10, 0)) hk0 (by decide) rfl rfl hs12 dX11_byteAt_9 ?_
    refine jj_iload_n C dX11_byteAt_12 rfl ?_
    refine tl_baldF C hok (t := (0, (-2147483648), 2147483647)) hk9 (by decide) rfl (k := q) (vp_in_nI (by omega) (by decide)) hu (nI_clamp (by omega)) rfl dX11_byteAt_13 ?_
    refine jj_sipush (v := 255) C dX11_byteAt_14 (by decide) ?_
    obtain ⟨x_2, ex_2⟩ : ∃ z : Int32, (u q) &&& (255 : Int32) = z := ⟨_, rfl⟩
    refine jj_iand (v := x_2) C dX11_byteAt_17 ex_2 ?_
    refine jj_goto (tgt := 22) C dX11_byteAt_18 (by decide) ?_
    exact jj_iret C ⟨[], pl0, rfl, rfl, hok, hfr, hfa, (Or.inr ⟨by omega, x_2, (by rw [hc q (by omega), ex_2]), rfl⟩)⟩ dX11_byteAt_22 (jj_le rfl) (jj_le rfl)

set_option maxHeartbeats 4000000 in
set_option maxRecDepth 100000 in
theorem re_next {l : Launch} (hl : l.stackTraces = false) (D : va_G) (cA : Nat → ClassId) (ak : (Nat → Nat) × (Nat → Nat)) {Kd : Nat → Nat} {h0 aw aa at0 ai af ap : Nat} (n16 : Nat) (n15 : Nat) (at9 : Nat) (u : Nat → Int32) (c : Nat → Int) (hk0 : Kd h0 = 1) (hkw : Kd aw = 2) (hka : Kd aa = 3) (hkt : Kd at0 = 4) (hki : Kd ai = 5) (hkf : Kd af = 6) (hkp : Kd ap = 7) (ln16 : (0 : Int) ≤ (n16 : Int)) (un16 : (n16 : Int) ≤ 400) (ln15 : (0 : Int) ≤ (n15 : Int)) (un15 : (n15 : Int) ≤ 400) (hk9 : Kd at9 = 10) (h56 : n15 ≤ n16) (hc : ∀ k : Nat, k < n16 → c k = ((u k) &&& 255).toInt) {pl0 : va_W} (hok : tt_ok rt_tk cA Kd pl0) (hm : rl_m pl0 h0 aw aa at0 ai af ap) (hs12 : tt_at pl0 h0 12 (.ref at9)) (hu : tt_ic pl0 at9 u) (hs15 : tt_at pl0 h0 15 (.int (nI n15))) (hs16 : tt_at pl0 h0 16 (.int (nI n16))) : jj_M l D cA ak yX11_next (.code yX11_next cX11_next 1 none) 1 25 0 0 ([] ++ pl0) [.ref h0] (tt_O (fun rx pl1 r => rx = [] ∧ tt_ok rt_tk cA Kd pl1 ∧ tt_fr Kd [(1, 14), (1, 15)] pl0 pl1 ∧ tt_fa Kd [] pl0 pl1 ∧ ((∃ a b : Nat, tt_at pl1 h0 14 (.int (nI a)) ∧ tt_at pl1 h0 15 (.int (nI b)) ∧ ps_tok c n16 n15 a b ∧ r = none)))) (tt_OX (fun _ _ _ => False)) := by
  refine jj_start hl (by decide) jw_8631b7212c (jj_le rfl) ?_
  intro p e s m args below meth c9 A hargs hA C hex hmn
  have hfr := tt_fr.refl (K := Kd) (WS := [(1, 14), (1, 15)]) pl0
  have hfa := tt_fa.refl (K := Kd) (WA := []) pl0
  refine jj_aload_n C dX11_next_0 rfl ?_
  refine jj_aload_n C dX11_next_1 rfl ?_
  refine tt_getF C hok jk_12 15 (by decide) jw_165232ba7c (t := (0, 0, 400)) hk0 (by decide) rfl rfl hs15 dX11_next_2 ?_
  refine rl_put C hok jk_12 14 (by decide) jw_6446e1fd81 (t := (0, 0, 400)) hk0 (by decide) rfl rfl rfl (rl_iv (by omega) (by omega)) rfl rfl dX11_next_5 (fun pl_1 hok_2 tr hn tl => ?_)
  replace hs12 := tr _ _ _ (Or.inr (by decide)) hs12
  replace hs15 := tr _ _ _ (Or.inr (by decide)) hs15
  replace hs16 := tr _ _ _ (Or.inr (by decide)) hs16
  have hf_3 := hn
  replace hm := hm.put tr (by decide)
  replace hfr := hfr.put hk0 tr (by decide)
  replace hu := tl _ _ hu
  replace hfa := hfa.all tl
  have hL_4 : ∀ (N : Nat) (pl : va_W) (n_8 : Nat), True → tt_ok rt_tk cA Kd pl → tt_fr Kd [(1, 14), (1, 15)] pl0 pl → tt_fa Kd [] pl0 pl → rl_m pl h0 aw aa at0 ai af ap → tt_at pl h0 12 (.ref at9) → tt_at pl h0 15 (.int (nI n15)) → tt_at pl h0 16 (.int (nI n16)) → tt_ic pl at9 u → tt_at pl h0 14 (.int (nI n_8)) → (0 : Int) ≤ (n_8 : Int) → (n_8 : Int) ≤ 400 → (n15 ≤ n_8 ∧ n_8 ≤ n16 ∧ ∀ k : Nat, n15 ≤ k → k < n_8 → k < n16 ∧ ps_bl (c k)) → (((n16 : Nat) : Int) - ((n_8 : Nat) : Int) + 1 ≤ (N : Int)) → jj_J p l e (jj_rm 1 25 0 0) s m args below meth c9 1 A (vx_MQ below (jj_q D A (tt_O (fun rx pl1 r => rx = [] ∧ tt_ok rt_tk cA Kd pl1 ∧ tt_fr Kd [(1, 14), (1, 15)] pl0 pl1 ∧ tt_fa Kd [] pl0 pl1 ∧ ((∃ a b : Nat, tt_at pl1 h0 14 (.int (nI a)) ∧ tt_at pl1 h0 15 (.int (nI b)) ∧ ps_tok c n16 n15 a b ∧ r = none))))) (jj_x D A (tt_OX (fun _ _ _ => False))) args s 0 0 A) (jj_X D A ([] ++ pl)) 0 0 8 [(0, .ref h0)] [] := by
    intro NL_4
    induction NL_4 with
    | zero => intro pl n_8 _ hok hfr hfa hm hf_5 hf_6 hf_7 hu hf_9 ln_8 un_8 hS1 hNL_4; exfalso; omega
    | succ NL_4 ihL_4 =>
      intro pl n_8 _ hok hfr hfa hm hf_5 hf_6 hf_7 hu hf_9 ln_8 un_8 hS1 hNL_4
      replace ihL_4 := fun pl n_8 h1 => ihL_4 pl n_8 trivial h1
      refine jj_aload_n C dX11_next_8 rfl ?_
      refine jj_aload_n C dX11_next_9 rfl ?_
      refine tt_getF C hok jk_12 14 (by decide) jw_6446e1fd81 (t := (0, 0, 400)) hk0 (by decide) rfl rfl hf_9 dX11_next_10 ?_
      obtain ⟨qc, gs, hqc⟩ := tt_recv (cx := []) hok hk0 (by decide) rfl
      refine tt_callV (rest := []) C (re_byteAt hl D cA ak n16 at9 u n_8 c hk0 hkw hka hkt hki hkf hkp (by first | omega | decide) (by first | omega | decide) hk9 (by omega) hc hok hm hf_5 hu hf_7) [] [] rfl rfl (by decide) (by decide) (by decide) qc hqc rfl rfl jw_98db775389 jw_8e26deba02 jw_8ef34ac32e jw_f96c99f44d jw_4737f96f0a jn_X11_byteAt rfl (jj_le rfl) (jj_le rfl) (jj_le rfl) (jj_le rfl) (jj_le rfl) dX11_next_13 rfl (fun _ _ _ hX => hX.elim) (fun rx pl_10 r O_14 => ?_)
      obtain ⟨rfl, hok_11, hr_12, ha_13, hR_15⟩ := O_14
      replace hf_5 := hr_12.at hk0 (by decide) (by decide) hf_5
      replace hf_6 := hr_12.at hk0 (by decide) (by decide) hf_6
      replace hf_7 := hr_12.at hk0 (by decide) (by decide) hf_7
      replace hf_9 := hr_12.at hk0 (by decide) (by decide) hf_9
      replace hu := ha_13.at hk9 (by decide) (by decide) hu
      replace hm := hm.fr hr_12 hk0 rfl
      replace hfr := hfr.trans (hr_12.sub (by decide))
      replace hfa := hfa.trans (ha_13.sub (by decide))
      rcases hR_15 with ⟨hb_16, rfl⟩ | ⟨hb_17, x_18, hb_19, rfl⟩
      · refine jj_bipush (v := 32) C dX11_next_16 (by decide) ?_
        refine jj_icmp_eqF (tgt := 34) C dX11_next_18 (by decide) (by decide) ?_
        refine jj_aload_n C dX11_next_21 rfl ?_
        refine jj_aload_n C dX11_next_22 rfl ?_
        refine tt_getF C hok_11 jk_12 14 (by decide) jw_6446e1fd81 (t := (0, 0, 400)) hk0 (by decide) rfl rfl hf_9 dX11_next_23 ?_
        obtain ⟨qc, gs, hqc⟩ := tt_recv (cx := []) hok_11 hk0 (by decide) rfl
        refine tt_callV (rest := []) C (re_byteAt hl D cA ak n16 at9 u n_8 c hk0 hkw hka hkt hki hkf hkp (by first | omega | decide) (by first | omega | decide) hk9 (by omega) hc hok_11 hm hf_5 hu hf_7) [] [] rfl rfl (by decide) (by decide) (by decide) qc hqc rfl rfl jw_98db775389 jw_8e26deba02 jw_8ef34ac32e jw_f96c99f44d jw_4737f96f0a jn_X11_byteAt rfl (jj_le rfl) (jj_le rfl) (jj_le rfl) (jj_le rfl) (jj_le rfl) dX11_next_26 rfl (fun _ _ _ hX => hX.elim) (fun rx pl_20 r O_24 => ?_)
        obtain ⟨rfl, hok_21, hr_22, ha_23, hR_25⟩ := O_24
        replace hf_5 := hr_22.at hk0 (by decide) (by decide) hf_5
        replace hf_6 := hr_22.at hk0 (by decide) (by decide) hf_6
        replace hf_7 := hr_22.at hk0 (by decide) (by decide) hf_7
        replace hf_9 := hr_22.at hk0 (by decide) (by decide) hf_9
        replace hu := ha_23.at hk9 (by decide) (by decide) hu
        replace hm := hm.fr hr_22 hk0 rfl
        replace hfr := hfr.trans (hr_22.sub (by decide))
        replace hfa := hfa.trans (ha_23.sub (by decide))
        rcases hR_25 with ⟨hb_26, rfl⟩ | ⟨hb_27, x_28, hb_29, rfl⟩
        · refine jj_bipush (v := 10) C dX11_next_29 (by decide) ?_
          refine jj_icmp_neT (tgt := 47) C dX11_next_31 (by decide) (by decide) ?_
          refine jj_aload_n C dX11_next_47 rfl ?_
          refine jj_aload_n C dX11_next_48 rfl ?_
          refine tt_getF C hok_21 jk_12 14 (by decide) jw_6446e1fd81 (t := (0, 0, 400)) hk0 (by decide) rfl rfl hf_9 dX11_next_49 ?_
          refine rl_put C hok_21 jk_12 15 (by decide) jw_165232ba7c (t := (0, 0, 400)) hk0 (by decide) rfl rfl rfl (rl_iv (by omega) (by omega)) rfl rfl dX11_next_52 (fun pl_30 hok_31 tr hn tl => ?_)
          replace hf_5 := tr _ _ _ (Or.inr (by decide)) hf_5
          replace hf_7 := tr _ _ _ (Or.inr (by decide)) hf_7
          replace hf_9 := tr _ _ _ (Or.inr (by decide)) hf_9
          have hf_32 := hn
          replace hm := hm.put tr (by decide)
          replace hfr := hfr.put hk0 tr (by decide)
          replace hu := tl _ _ hu
          replace hfa := hfa.all tl
          refine jj_aload_n C dX11_next_55 rfl ?_
          refine jj_aload_n C dX11_next_56 rfl ?_
          refine tt_getF C hok_31 jk_12 15 (by decide) jw_165232ba7c (t := (0, 0, 400)) hk0 (by decide) rfl rfl hf_32 dX11_next_57 ?_
          obtain ⟨qc, gs, hqc⟩ := tt_recv (cx := []) hok_31 hk0 (by decide) rfl
          refine tt_callV (rest := []) C (re_byteAt hl D cA ak n16 at9 u n_8 c hk0 hkw hka hkt hki hkf hkp (by first | omega | decide) (by first | omega | decide) hk9 (by omega) hc hok_31 hm hf_5 hu hf_7) [] [] rfl rfl (by decide) (by decide) (by decide) qc hqc rfl rfl jw_98db775389 jw_8e26deba02 jw_8ef34ac32e jw_f96c99f44d jw_4737f96f0a jn_X11_byteAt rfl (jj_le rfl) (jj_le rfl) (jj_le rfl) (jj_le rfl) (jj_le rfl) dX11_next_60 rfl (fun _ _ _ hX => hX.elim) (fun rx pl_33 r O_37 => ?_)
          obtain ⟨rfl, hok_34, hr_35, ha_36, hR_38⟩ := O_37
          replace hf_5 := hr_35.at hk0 (by decide) (by decide) hf_5
          replace hf_7 := hr_35.at hk0 (by decide) (by decide) hf_7
          replace hf_9 := hr_35.at hk0 (by decide) (by decide) hf_9
          replace hf_32 := hr_35.at hk0 (by decide) (by decide) hf_32
          replace hu := ha_36.at hk9 (by decide) (by decide) hu
          replace hm := hm.fr hr_35 hk0 rfl
          replace hfr := hfr.trans (hr_35.sub (by decide))
          replace hfa := hfa.trans (ha_36.sub (by decide))
          rcases hR_38 with ⟨hb_39, rfl⟩ | ⟨hb_40, x_41, hb_42, rfl⟩
          · refine jj_i2l (v := (-1)) C dX11_next_63 (by decide) ?_
            refine jj_ldc2 (v := 97) C dX11_next_64 jw_39d46451b9 ?_
            refine jj_ldc2 (v := 122) C dX11_next_67 jw_33d5fc8685 ?_
            refine tt_call0S (rest := []) C (ct_X11_in_s10 hl D cA ak) jw_2a24feddee jw_12f28ccfda jw_f96c99f44d jw_e07c9ada56 jn_X11_in rfl (jj_le rfl) (jj_le rfl) (jj_le rfl) (jj_le rfl) (jj_le rfl) dX11_next_70 rfl (fun w1 r O_43 => ?_)
            obtain ⟨-, rfl⟩ := O_43
            refine jj_if_eqT (tgt := 110) C dX11_next_73 (by decide) (by decide) ?_
            refine jj_aload_n C dX11_next_110 rfl ?_
            refine jj_aload_n C dX11_next_111 rfl ?_
            refine tt_getF C hok_34 jk_12 15 (by decide) jw_165232ba7c (t := (0, 0, 400)) hk0 (by decide) rfl rfl hf_32 dX11_next_112 ?_
            obtain ⟨qc, gs, hqc⟩ := tt_recv (cx := []) hok_34 hk0 (by decide) rfl
            refine tt_callV (rest := []) C (re_byteAt hl D cA ak n16 at9 u n_8 c hk0 hkw hka hkt hki hkf hkp (by first | omega | decide) (by first | omega | decide) hk9 (by omega) hc hok_34 hm hf_5 hu hf_7) [] [] rfl rfl (by decide) (by decide) (by decide) qc hqc rfl rfl jw_98db775389 jw_8e26deba02 jw_8ef34ac32e jw_f96c99f44d jw_4737f96f0a jn_X11_byteAt rfl (jj_le rfl) (jj_le rfl) (jj_le rfl) (jj_le rfl) (jj_le rfl) dX11_next_115 rfl (fun _ _ _ hX => hX.elim) (fun rx pl_44 r O_48 => ?_)
            obtain ⟨rfl, hok_45, hr_46, ha_47, hR_49⟩ := O_48
            replace hf_5 := hr_46.at hk0 (by decide) (by decide) hf_5
            replace hf_7 := hr_46.at hk0 (by decide) (by decide) hf_7
            replace hf_9 := hr_46.at hk0 (by decide) (by decide) hf_9
            replace hf_32 := hr_46.at hk0 (by decide) (by decide) hf_32
            replace hu := ha_47.at hk9 (by decide) (by decide) hu
            replace hm := hm.fr hr_46 hk0 rfl
            replace hfr := hfr.trans (hr_46.sub (by decide))
            replace hfa := hfa.trans (ha_47.sub (by decide))
            rcases hR_49 with ⟨hb_50, rfl⟩ | ⟨hb_51, x_52, hb_53, rfl⟩
            · refine jj_i2l (v := (-1)) C dX11_next_118 (by decide) ?_
              refine jj_ldc2 (v := 48) C dX11_next_119 jw_d6cfdd4319 ?_
              refine jj_ldc2 (v := 57) C dX11_next_122 jw_8c7ed3b7a5 ?_
              refine tt_call0S (rest := []) C (ct_X11_in_s11 hl D cA ak) jw_2a24feddee jw_12f28ccfda jw_f96c99f44d jw_e07c9ada56 jn_X11_in rfl (jj_le rfl) (jj_le rfl) (jj_le rfl) (jj_le rfl) (jj_le rfl) dX11_next_125 rfl (fun w1 r O_54 => ?_)
              obtain ⟨-, rfl⟩ := O_54
              refine jj_if_eqT (tgt := 165) C dX11_next_128 (by decide) (by decide) ?_
              refine jj_aload_n C dX11_next_165 rfl ?_
              refine tt_getF C hok_45 jk_12 15 (by decide) jw_165232ba7c (t := (0, 0, 400)) hk0 (by decide) rfl rfl hf_32 dX11_next_166 ?_
              refine jj_aload_n C dX11_next_169 rfl ?_
              refine tt_getF C hok_45 jk_12 16 (by decide) jw_28b46cb90c (t := (0, 0, 400)) hk0 (by decide) rfl rfl hf_7 dX11_next_170 ?_
              refine jj_icmp_ge (tgt := 186) C dX11_next_173 (by decide) (fun c_55 => ?_) (fun c_55 => ?_)
              · have z_c_55 := jc_le (a := ((n16 : Nat) : Int)) (b := ((n_8 : Nat) : Int)) c_55 (rl_ti (by omega)) (rl_ti (by omega))
                exact jj_vret C ⟨[], pl_44, rfl, rfl, hok_45, hfr, hfa, ⟨n_8, n_8, hf_9, hf_32, (by first | (exfalso; omega) | exact ⟨⟨hS1.1, hS1.2.2, (fun q => by have q8 := q.2; unfold ps_bl at q8; omega)⟩, Or.inl ⟨by omega, by omega⟩⟩ | exact ⟨⟨hS1.1, hS1.2.2, (fun q => by have q8 := q.2; unfold ps_bl at q8; omega)⟩, Or.inr (Or.inl ⟨by omega, (by unfold ps_le; omega), ⟨hS2.1, hS2.2.2, (fun q => by have q8 := q.2; unfold ps_le at q8; omega)⟩⟩)⟩ | exact ⟨⟨hS1.1, hS1.2.2, (fun q => by have q8 := q.2; unfold ps_bl at q8; omega)⟩, Or.inr (Or.inr (Or.inl ⟨by omega, (fun q => by unfold ps_le at q; omega), (by unfold ps_di; omega), ⟨hS3.1, hS3.2.2, (fun q => by have q8 := q.2; unfold ps_di at q8; omega)⟩⟩))⟩ | exact ⟨⟨hS1.1, hS1.2.2, (fun q => by have q8 := q.2; unfold ps_bl at q8; omega)⟩, Or.inr (Or.inr (Or.inr ⟨by omega, (fun q => by unfold ps_le at q; omega), (fun q => by unfold ps_di at q; omega), by omega⟩))⟩), rfl⟩⟩ dX11_next_186 (jj_le rfl) (jj_le rfl)
              · have z_c_55 := jc_nle (a := ((n16 : Nat) : Int)) (b := ((n_8 : Nat) : Int)) c_55 (rl_ti (by omega)) (rl_ti (by omega))
                refine jj_aload_n C dX11_next_176 rfl ?_
                refine jj_dup C dX11_next_177 rfl ?_
                refine tt_getF C hok_45 jk_12 15 (by decide) jw_165232ba7c (t := (0, 0, 400)) hk0 (by decide) rfl rfl hf_32 dX11_next_178 ?_
                refine jj_iconst (v := 1) C dX11_next_181 (by decide) ?_
                refine jj_iadd (v := nI (1 + n_8)) C dX11_next_182 (rl_addR (kn := 1) (by decide) (by omega)) ?_
                refine rl_put C hok_45 jk_12 15 (by decide) jw_165232ba7c (t := (0, 0, 400)) hk0 (by decide) rfl rfl rfl (rl_iv (by omega) (by omega)) rfl rfl dX11_next_183 (fun pl_56 hok_57 tr hn tl => ?_)
                replace hf_5 := tr _ _ _ (Or.inr (by decide)) hf_5
                replace hf_7 := tr _ _ _ (Or.inr (by decide)) hf_7
                replace hf_9 := tr _ _ _ (Or.inr (by decide)) hf_9
                have hf_58 := hn
                replace hm := hm.put tr (by decide)
                replace hfr := hfr.put hk0 tr (by decide)
                replace hu := tl _ _ hu
                replace hfa := hfa.all tl
                exact jj_vret C ⟨[], pl_56, rfl, rfl, hok_57, hfr, hfa, ⟨n_8, (1 + n_8), hf_9, hf_58, (by first | (exfalso; omega) | exact ⟨⟨hS1.1, hS1.2.2, (fun q => by have q8 := q.2; unfold ps_bl at q8; omega)⟩, Or.inl ⟨by omega, by omega⟩⟩ | exact ⟨⟨hS1.1, hS1.2.2, (fun q => by have q8 := q.2; unfold ps_bl at q8; omega)⟩, Or.inr (Or.inl ⟨by omega, (by unfold ps_le; omega), ⟨hS2.1, hS2.2.2, (fun q => by have q8 := q.2; unfold ps_le at q8; omega)⟩⟩)⟩ | exact ⟨⟨hS1.1, hS1.2.2, (fun q => by have q8 := q.2; unfold ps_bl at q8; omega)⟩, Or.inr (Or.inr (Or.inl ⟨by omega, (fun q => by unfold ps_le at q; omega), (by unfold ps_di; omega), ⟨hS3.1, hS3.2.2, (fun q => by have q8 := q.2; unfold ps_di at q8; omega)⟩⟩))⟩ | exact ⟨⟨hS1.1, hS1.2.2, (fun q => by have q8 := q.2; unfold ps_bl at q8; omega)⟩, Or.inr (Or.inr (Or.inr ⟨by omega, (fun q => by unfold ps_le at q; omega), (fun q => by unfold ps_di at q; omega), by omega⟩))⟩), rfl⟩⟩ dX11_next_186 (jj_le rfl) (jj_le rfl)
            · have lx_52 := tt_lo x_52
              have ux_52 := tt_hi x_52
              exfalso; omega
          · have lx_41 := tt_lo x_41
            have ux_41 := tt_hi x_41
            exfalso; omega
        · have lx_28 := tt_lo x_28
          have ux_28 := tt_hi x_28
          exfalso; omega
      · have lx_18 := tt_lo x_18
        have ux_18 := tt_hi x_18
        refine jj_bipush (v := 32) C dX11_next_16 (by decide) ?_
        refine jj_icmp_eq (tgt := 34) C dX11_next_18 (by decide) (fun c_59 => ?_) (fun c_59 => ?_)
        · have z_c_59 := jc_eq (a := x_18.toInt) (b := 32) c_59 rfl (by decide)
          refine jj_aload_n C dX11_next_34 rfl ?_
          refine jj_dup C dX11_next_35 rfl ?_
          refine tt_getF C hok_11 jk_12 14 (by decide) jw_6446e1fd81 (t := (0, 0, 400)) hk0 (by decide) rfl rfl hf_9 dX11_next_36 ?_
          refine jj_iconst (v := 1) C dX11_next_39 (by decide) ?_
          refine jj_iadd (v := nI (1 + n_8)) C dX11_next_40 (rl_addR (kn := 1) (by decide) (by omega)) ?_
          refine rl_put C hok_11 jk_12 14 (by decide) jw_6446e1fd81 (t := (0, 0, 400)) hk0 (by decide) rfl rfl rfl (rl_iv (by omega) (by omega)) rfl rfl dX11_next_41 (fun pl_60 hok_61 tr hn tl => ?_)
          replace hf_5 := tr _ _ _ (Or.inr (by decide)) hf_5
          replace hf_6 := tr _ _ _ (Or.inr (by decide)) hf_6
          replace hf_7 := tr _ _ _ (Or.inr (by decide)) hf_7
          have hf_62 := hn
          replace hm := hm.put tr (by decide)
          replace hfr := hfr.put hk0 tr (by decide)
          replace hu := tl _ _ hu
          replace hfa := hfa.all tl
          refine jj_goto (tgt := 8) C dX11_next_44 (by decide) ?_
          have hT : ∀ k : Nat, n15 ≤ k → k < 1 + n_8 → k < n16 ∧ ps_bl (c k) := fun k p q => by
            by_cases e9 : k = n_8
            · rw [e9]; exact ⟨by omega, by unfold ps_bl; omega⟩
            · exact hS1.2.2 k p (by omega)
          exact ihL_4 pl_60 (1 + n_8) hok_61 hfr hfa hm hf_5 hf_6 hf_7 hu hf_62 (by first | omega | decide | exact tt_lo _ | exact tt_hi _) (by first | omega | decide | exact tt_lo _ | exact tt_hi _) ⟨by omega, by omega, hT⟩ (by first | omega | decide | exact tt_lo _ | exact tt_hi _)
        · have z_c_59 := jc_neq (a := x_18.toInt) (b := 32) c_59 rfl (by decide)
          refine jj_aload_n C dX11_next_21 rfl ?_
          refine jj_aload_n C dX11_next_22 rfl ?_
          refine tt_getF C hok_11 jk_12 14 (by decide) jw_6446e1fd81 (t := (0, 0, 400)) hk0 (by decide) rfl rfl hf_9 dX11_next_23 ?_
          obtain ⟨qc, gs, hqc⟩ := tt_recv (cx := []) hok_11 hk0 (by decide) rfl
          refine tt_callV (rest := []) C (re_byteAt hl D cA ak n16 at9 u n_8 c hk0 hkw hka hkt hki hkf hkp (by first | omega | decide) (by first | omega | decide) hk9 (by omega) hc hok_11 hm hf_5 hu hf_7) [] [] rfl rfl (by decide) (by decide) (by decide) qc hqc rfl rfl jw_98db775389 jw_8e26deba02 jw_8ef34ac32e jw_f96c99f44d jw_4737f96f0a jn_X11_byteAt rfl (jj_le rfl) (jj_le rfl) (jj_le rfl) (jj_le rfl) (jj_le rfl) dX11_next_26 rfl (fun _ _ _ hX => hX.elim) (fun rx pl_63 r O_67 => ?_)
          obtain ⟨rfl, hok_64, hr_65, ha_66, hR_68⟩ := O_67
          replace hf_5 := hr_65.at hk0 (by decide) (by decide) hf_5
          replace hf_6 := hr_65.at hk0 (by decide) (by decide) hf_6
          replace hf_7 := hr_65.at hk0 (by decide) (by decide) hf_7
          replace hf_9 := hr_65.at hk0 (by decide) (by decide) hf_9
          replace hu := ha_66.at hk9 (by decide) (by decide) hu
          replace hm := hm.fr hr_65 hk0 rfl
          replace hfr := hfr.trans (hr_65.sub (by decide))
          replace hfa := hfa.trans (ha_66.sub (by decide))
          rcases hR_68 with ⟨hb_69, rfl⟩ | ⟨hb_70, x_71, hb_72, rfl⟩
          · exfalso; omega
          · have lx_71 := tt_lo x_71
            have ux_71 := tt_hi x_71
            refine jj_bipush (v := 10) C dX11_next_29 (by decide) ?_
            refine jj_icmp_ne (tgt := 47) C dX11_next_31 (by decide) (fun c_73 => ?_) (fun c_73 => ?_)
            · have z_c_73 := jc_neq (a := x_71.toInt) (b := 10) c_73 rfl (by decide)
              refine jj_aload_n C dX11_next_47 rfl ?_
              refine jj_aload_n C dX11_next_48 rfl ?_
              refine tt_getF C hok_64 jk_12 14 (by decide) jw_6446e1fd81 (t := (0, 0, 400)) hk0 (by decide) rfl rfl hf_9 dX11_next_49 ?_
              refine rl_put C hok_64 jk_12 15 (by decide) jw_165232ba7c (t := (0, 0, 400)) hk0 (by decide) rfl rfl rfl (rl_iv (by omega) (by omega)) rfl rfl dX11_next_52 (fun pl_74 hok_75 tr hn tl => ?_)
              replace hf_5 := tr _ _ _ (Or.inr (by decide)) hf_5
              replace hf_7 := tr _ _ _ (Or.inr (by decide)) hf_7
              replace hf_9 := tr _ _ _ (Or.inr (by decide)) hf_9
              have hf_76 := hn
              replace hm := hm.put tr (by decide)
              replace hfr := hfr.put hk0 tr (by decide)
              replace hu := tl _ _ hu
              replace hfa := hfa.all tl
              refine jj_aload_n C dX11_next_55 rfl ?_
              refine jj_aload_n C dX11_next_56 rfl ?_
              refine tt_getF C hok_75 jk_12 15 (by decide) jw_165232ba7c (t := (0, 0, 400)) hk0 (by decide) rfl rfl hf_76 dX11_next_57 ?_
              obtain ⟨qc, gs, hqc⟩ := tt_recv (cx := []) hok_75 hk0 (by decide) rfl
              refine tt_callV (rest := []) C (re_byteAt hl D cA ak n16 at9 u n_8 c hk0 hkw hka hkt hki hkf hkp (by first | omega | decide) (by first | omega | decide) hk9 (by omega) hc hok_75 hm hf_5 hu hf_7) [] [] rfl rfl (by decide) (by decide) (by decide) qc hqc rfl rfl jw_98db775389 jw_8e26deba02 jw_8ef34ac32e jw_f96c99f44d jw_4737f96f0a jn_X11_byteAt rfl (jj_le rfl) (jj_le rfl) (jj_le rfl) (jj_le rfl) (jj_le rfl) dX11_next_60 rfl (fun _ _ _ hX => hX.elim) (fun rx pl_77 r O_81 => ?_)
              obtain ⟨rfl, hok_78, hr_79, ha_80, hR_82⟩ := O_81
              replace hf_5 := hr_79.at hk0 (by decide) (by decide) hf_5
              replace hf_7 := hr_79.at hk0 (by decide) (by decide) hf_7
              replace hf_9 := hr_79.at hk0 (by decide) (by decide) hf_9
              replace hf_76 := hr_79.at hk0 (by decide) (by decide) hf_76
              replace hu := ha_80.at hk9 (by decide) (by decide) hu
              replace hm := hm.fr hr_79 hk0 rfl
              replace hfr := hfr.trans (hr_79.sub (by decide))
              replace hfa := hfa.trans (ha_80.sub (by decide))
              rcases hR_82 with ⟨hb_83, rfl⟩ | ⟨hb_84, x_85, hb_86, rfl⟩
              · exfalso; omega
              · have lx_85 := tt_lo x_85
                have ux_85 := tt_hi x_85
                obtain ⟨y_87, ey_87, vy_87⟩ := tt_i2l x_85
                refine jj_i2l (v := y_87) C dX11_next_63 ey_87 ?_
                refine jj_ldc2 (v := 97) C dX11_next_64 jw_39d46451b9 ?_
                refine jj_ldc2 (v := 122) C dX11_next_67 jw_33d5fc8685 ?_
                refine tt_call0S (rest := []) C (ct_X11_in_s13 hl D cA ak y_87) jw_2a24feddee jw_12f28ccfda jw_f96c99f44d jw_e07c9ada56 jn_X11_in rfl (jj_le rfl) (jj_le rfl) (jj_le rfl) (jj_le rfl) (jj_le rfl) dX11_next_70 rfl (fun w1 r O_88 => ?_)
                rcases O_88 with ⟨c_89, -, rfl⟩ | ⟨c_90, c_91, -, rfl⟩ | ⟨c_92, c_93, -, rfl⟩
                · have z_c_89 := jc_ltL (a := y_87.toInt) (b := 97) c_89 rfl (by decide)
                  refine jj_if_eqT (tgt := 110) C dX11_next_73 (by decide) (by decide) ?_
                  refine jj_aload_n C dX11_next_110 rfl ?_
                  refine jj_aload_n C dX11_next_111 rfl ?_
                  refine tt_getF C hok_78 jk_12 15 (by decide) jw_165232ba7c (t := (0, 0, 400)) hk0 (by decide) rfl rfl hf_76 dX11_next_112 ?_
                  obtain ⟨qc, gs, hqc⟩ := tt_recv (cx := []) hok_78 hk0 (by decide) rfl
                  refine tt_callV (rest := []) C (re_byteAt hl D cA ak n16 at9 u n_8 c hk0 hkw hka hkt hki hkf hkp (by first | omega | decide) (by first | omega | decide) hk9 (by omega) hc hok_78 hm hf_5 hu hf_7) [] [] rfl rfl (by decide) (by decide) (by decide) qc hqc rfl rfl jw_98db775389 jw_8e26deba02 jw_8ef34ac32e jw_f96c99f44d jw_4737f96f0a jn_X11_byteAt rfl (jj_le rfl) (jj_le rfl) (jj_le rfl) (jj_le rfl) (jj_le rfl) dX11_next_115 rfl (fun _ _ _ hX => hX.elim) (fun rx pl_94 r O_98 => ?_)
                  obtain ⟨rfl, hok_95, hr_96, ha_97, hR_99⟩ := O_98
                  replace hf_5 := hr_96.at hk0 (by decide) (by decide) hf_5
                  replace hf_7 := hr_96.at hk0 (by decide) (by decide) hf_7
                  replace hf_9 := hr_96.at hk0 (by decide) (by decide) hf_9
                  replace hf_76 := hr_96.at hk0 (by decide) (by decide) hf_76
                  replace hu := ha_97.at hk9 (by decide) (by decide) hu
                  replace hm := hm.fr hr_96 hk0 rfl
                  replace hfr := hfr.trans (hr_96.sub (by decide))
                  replace hfa := hfa.trans (ha_97.sub (by decide))
                  rcases hR_99 with ⟨hb_100, rfl⟩ | ⟨hb_101, x_102, hb_103, rfl⟩
                  · exfalso; omega
                  · have lx_102 := tt_lo x_102
                    have ux_102 := tt_hi x_102
                    obtain ⟨y_104, ey_104, vy_104⟩ := tt_i2l x_102
                    refine jj_i2l (v := y_104) C dX11_next_118 ey_104 ?_
                    refine jj_ldc2 (v := 48) C dX11_next_119 jw_d6cfdd4319 ?_
                    refine jj_ldc2 (v := 57) C dX11_next_122 jw_8c7ed3b7a5 ?_
                    refine tt_call0S (rest := []) C (ct_X11_in_s12 hl D cA ak y_104) jw_2a24feddee jw_12f28ccfda jw_f96c99f44d jw_e07c9ada56 jn_X11_in rfl (jj_le rfl) (jj_le rfl) (jj_le rfl) (jj_le rfl) (jj_le rfl) dX11_next_125 rfl (fun w1 r O_105 => ?_)
                    rcases O_105 with ⟨c_106, -, rfl⟩ | ⟨c_107, c_108, -, rfl⟩ | ⟨c_109, c_110, -, rfl⟩
                    · have z_c_106 := jc_ltL (a := y_104.toInt) (b := 48) c_106 rfl (by decide)
                      refine jj_if_eqT (tgt := 165) C dX11_next_128 (by decide) (by decide) ?_
                      refine jj_aload_n C dX11_next_165 rfl ?_
                      refine tt_getF C hok_95 jk_12 15 (by decide) jw_165232ba7c (t := (0, 0, 400)) hk0 (by decide) rfl rfl hf_76 dX11_next_166 ?_
                      refine jj_aload_n C dX11_next_169 rfl ?_
                      refine tt_getF C hok_95 jk_12 16 (by decide) jw_28b46cb90c (t := (0, 0, 400)) hk0 (by decide) rfl rfl hf_7 dX11_next_170 ?_
                      refine jj_icmp_ge (tgt := 186) C dX11_next_173 (by decide) (fun c_111 => ?_) (fun c_111 => ?_)
                      · have z_c_111 := jc_le (a := ((n16 : Nat) : Int)) (b := ((n_8 : Nat) : Int)) c_111 (rl_ti (by omega)) (rl_ti (by omega))
                        exact jj_vret C ⟨[], pl_94, rfl, rfl, hok_95, hfr, hfa, ⟨n_8, n_8, hf_9, hf_76, (by first | (exfalso; omega) | exact ⟨⟨hS1.1, hS1.2.2, (fun q => by have q8 := q.2; unfold ps_bl at q8; omega)⟩, Or.inl ⟨by omega, by omega⟩⟩ | exact ⟨⟨hS1.1, hS1.2.2, (fun q => by have q8 := q.2; unfold ps_bl at q8; omega)⟩, Or.inr (Or.inl ⟨by omega, (by unfold ps_le; omega), ⟨hS2.1, hS2.2.2, (fun q => by have q8 := q.2; unfold ps_le at q8; omega)⟩⟩)⟩ | exact ⟨⟨hS1.1, hS1.2.2, (fun q => by have q8 := q.2; unfold ps_bl at q8; omega)⟩, Or.inr (Or.inr (Or.inl ⟨by omega, (fun q => by unfold ps_le at q; omega), (by unfold ps_di; omega), ⟨hS3.1, hS3.2.2, (fun q => by have q8 := q.2; unfold ps_di at q8; omega)⟩⟩))⟩ | exact ⟨⟨hS1.1, hS1.2.2, (fun q => by have q8 := q.2; unfold ps_bl at q8; omega)⟩, Or.inr (Or.inr (Or.inr ⟨by omega, (fun q => by unfold ps_le at q; omega), (fun q => by unfold ps_di at q; omega), by omega⟩))⟩), rfl⟩⟩ dX11_next_186 (jj_le rfl) (jj_le rfl)
                      · have z_c_111 := jc_nle (a := ((n16 : Nat) : Int)) (b := ((n_8 : Nat) : Int)) c_111 (rl_ti (by omega)) (rl_ti (by omega))
                        refine jj_aload_n C dX11_next_176 rfl ?_
                        refine jj_dup C dX11_next_177 rfl ?_
                        refine tt_getF C hok_95 jk_12 15 (by decide) jw_165232ba7c (t := (0, 0, 400)) hk0 (by decide) rfl rfl hf_76 dX11_next_178 ?_
                        refine jj_iconst (v := 1) C dX11_next_181 (by decide) ?_
                        refine jj_iadd (v := nI (1 + n_8)) C dX11_next_182 (rl_addR (kn := 1) (by decide) (by omega)) ?_
                        refine rl_put C hok_95 jk_12 15 (by decide) jw_165232ba7c (t := (0, 0, 400)) hk0 (by decide) rfl rfl rfl (rl_iv (by omega) (by omega)) rfl rfl dX11_next_183 (fun pl_112 hok_113 tr hn tl => ?_)
                        replace hf_5 := tr _ _ _ (Or.inr (by decide)) hf_5
                        replace hf_7 := tr _ _ _ (Or.inr (by decide)) hf_7
                        replace hf_9 := tr _ _ _ (Or.inr (by decide)) hf_9
                        have hf_114 := hn
                        replace hm := hm.put tr (by decide)
                        replace hfr := hfr.put hk0 tr (by decide)
                        replace hu := tl _ _ hu
                        replace hfa := hfa.all tl
                        exact jj_vret C ⟨[], pl_112, rfl, rfl, hok_113, hfr, hfa, ⟨n_8, (1 + n_8), hf_9, hf_114, (by first | (exfalso; omega) | exact ⟨⟨hS1.1, hS1.2.2, (fun q => by have q8 := q.2; unfold ps_bl at q8; omega)⟩, Or.inl ⟨by omega, by omega⟩⟩ | exact ⟨⟨hS1.1, hS1.2.2, (fun q => by have q8 := q.2; unfold ps_bl at q8; omega)⟩, Or.inr (Or.inl ⟨by omega, (by unfold ps_le; omega), ⟨hS2.1, hS2.2.2, (fun q => by have q8 := q.2; unfold ps_le at q8; omega)⟩⟩)⟩ | exact ⟨⟨hS1.1, hS1.2.2, (fun q => by have q8 := q.2; unfold ps_bl at q8; omega)⟩, Or.inr (Or.inr (Or.inl ⟨by omega, (fun q => by unfold ps_le at q; omega), (by unfold ps_di; omega), ⟨hS3.1, hS3.2.2, (fun q => by have q8 := q.2; unfold ps_di at q8; omega)⟩⟩))⟩ | exact ⟨⟨hS1.1, hS1.2.2, (fun q => by have q8 := q.2; unfold ps_bl at q8; omega)⟩, Or.inr (Or.inr (Or.inr ⟨by omega, (fun q => by unfold ps_le at q; omega), (fun q => by unfold ps_di at q; omega), by omega⟩))⟩), rfl⟩⟩ dX11_next_186 (jj_le rfl) (jj_le rfl)
                    · have z_c_107 := jc_nltL (a := y_104.toInt) (b := 48) c_107 rfl (by decide)
                      have z_c_108 := jc_ltL (a := 57) (b := y_104.toInt) c_108 (by decide) rfl
                      refine jj_if_eqT (tgt := 165) C dX11_next_128 (by decide) (by decide) ?_
                      refine jj_aload_n C dX11_next_165 rfl ?_
                      refine tt_getF C hok_95 jk_12 15 (by decide) jw_165232ba7c (t := (0, 0, 400)) hk0 (by decide) rfl rfl hf_76 dX11_next_166 ?_
                      refine jj_aload_n C dX11_next_169 rfl ?_
                      refine tt_getF C hok_95 jk_12 16 (by decide) jw_28b46cb90c (t := (0, 0, 400)) hk0 (by decide) rfl rfl hf_7 dX11_next_170 ?_
                      refine jj_icmp_ge (tgt := 186) C dX11_next_173 (by decide) (fun c_115 => ?_) (fun c_115 => ?_)
                      · have z_c_115 := jc_le (a := ((n16 : Nat) : Int)) (b := ((n_8 : Nat) : Int)) c_115 (rl_ti (by omega)) (rl_ti (by omega))
                        exact jj_vret C ⟨[], pl_94, rfl, rfl, hok_95, hfr, hfa, ⟨n_8, n_8, hf_9, hf_76, (by first | (exfalso; omega) | exact ⟨⟨hS1.1, hS1.2.2, (fun q => by have q8 := q.2; unfold ps_bl at q8; omega)⟩, Or.inl ⟨by omega, by omega⟩⟩ | exact ⟨⟨hS1.1, hS1.2.2, (fun q => by have q8 := q.2; unfold ps_bl at q8; omega)⟩, Or.inr (Or.inl ⟨by omega, (by unfold ps_le; omega), ⟨hS2.1, hS2.2.2, (fun q => by have q8 := q.2; unfold ps_le at q8; omega)⟩⟩)⟩ | exact ⟨⟨hS1.1, hS1.2.2, (fun q => by have q8 := q.2; unfold ps_bl at q8; omega)⟩, Or.inr (Or.inr (Or.inl ⟨by omega, (fun q => by unfold ps_le at q; omega), (by unfold ps_di; omega), ⟨hS3.1, hS3.2.2, (fun q => by have q8 := q.2; unfold ps_di at q8; omega)⟩⟩))⟩ | exact ⟨⟨hS1.1, hS1.2.2, (fun q => by have q8 := q.2; unfold ps_bl at q8; omega)⟩, Or.inr (Or.inr (Or.inr ⟨by omega, (fun q => by unfold ps_le at q; omega), (fun q => by unfold ps_di at q; omega), by omega⟩))⟩), rfl⟩⟩ dX11_next_186 (jj_le rfl) (jj_le rfl)
                      · have z_c_115 := jc_nle (a := ((n16 : Nat) : Int)) (b := ((n_8 : Nat) : Int)) c_115 (rl_ti (by omega)) (rl_ti (by omega))
                        refine jj_aload_n C dX11_next_176 rfl ?_
                        refine jj_dup C dX11_next_177 rfl ?_
                        refine tt_getF C hok_95 jk_12 15 (by decide) jw_165232ba7c (t := (0, 0, 400)) hk0 (by decide) rfl rfl hf_76 dX11_next_178 ?_
                        refine jj_iconst (v := 1) C dX11_next_181 (by decide) ?_
                        refine jj_iadd (v := nI (1 + n_8)) C dX11_next_182 (rl_addR (kn := 1) (by decide) (by omega)) ?_
                        refine rl_put C hok_95 jk_12 15 (by decide) jw_165232ba7c (t := (0, 0, 400)) hk0 (by decide) rfl rfl rfl (rl_iv (by omega) (by omega)) rfl rfl dX11_next_183 (fun pl_116 hok_117 tr hn tl => ?_)
                        replace hf_5 := tr _ _ _ (Or.inr (by decide)) hf_5
                        replace hf_7 := tr _ _ _ (Or.inr (by decide)) hf_7
                        replace hf_9 := tr _ _ _ (Or.inr (by decide)) hf_9
                        have hf_118 := hn
                        replace hm := hm.put tr (by decide)
                        replace hfr := hfr.put hk0 tr (by decide)
                        replace hu := tl _ _ hu
                        replace hfa := hfa.all tl
                        exact jj_vret C ⟨[], pl_116, rfl, rfl, hok_117, hfr, hfa, ⟨n_8, (1 + n_8), hf_9, hf_118, (by first | (exfalso; omega) | exact ⟨⟨hS1.1, hS1.2.2, (fun q => by have q8 := q.2; unfold ps_bl at q8; omega)⟩, Or.inl ⟨by omega, by omega⟩⟩ | exact ⟨⟨hS1.1, hS1.2.2, (fun q => by have q8 := q.2; unfold ps_bl at q8; omega)⟩, Or.inr (Or.inl ⟨by omega, (by unfold ps_le; omega), ⟨hS2.1, hS2.2.2, (fun q => by have q8 := q.2; unfold ps_le at q8; omega)⟩⟩)⟩ | exact ⟨⟨hS1.1, hS1.2.2, (fun q => by have q8 := q.2; unfold ps_bl at q8; omega)⟩, Or.inr (Or.inr (Or.inl ⟨by omega, (fun q => by unfold ps_le at q; omega), (by unfold ps_di; omega), ⟨hS3.1, hS3.2.2, (fun q => by have q8 := q.2; unfold ps_di at q8; omega)⟩⟩))⟩ | exact ⟨⟨hS1.1, hS1.2.2, (fun q => by have q8 := q.2; unfold ps_bl at q8; omega)⟩, Or.inr (Or.inr (Or.inr ⟨by omega, (fun q => by unfold ps_le at q; omega), (fun q => by unfold ps_di at q; omega), by omega⟩))⟩), rfl⟩⟩ dX11_next_186 (jj_le rfl) (jj_le rfl)
                    · have z_c_109 := jc_nltL (a := y_104.toInt) (b := 48) c_109 rfl (by decide)
                      have z_c_110 := jc_nltL (a := 57) (b := y_104.toInt) c_110 (by decide) rfl
                      refine jj_if_eqF (tgt := 165) C dX11_next_128 (by decide) (by decide) ?_
                      have hL_119 : ∀ (N : Nat) (pl : va_W) (n_123 : Nat), True → tt_ok rt_tk cA Kd pl → tt_fr Kd [(1, 14), (1, 15)] pl0 pl → tt_fa Kd [] pl0 pl → rl_m pl h0 aw aa at0 ai af ap → tt_at pl h0 12 (.ref at9) → tt_at pl h0 16 (.int (nI n16)) → tt_at pl h0 14 (.int (nI n_8)) → tt_ic pl at9 u → tt_at pl h0 15 (.int (nI n_123)) → (0 : Int) ≤ (n_123 : Int) → (n_123 : Int) ≤ 400 → (n_8 ≤ n_123 ∧ n_123 ≤ n16 ∧ ∀ k : Nat, n_8 ≤ k → k < n_123 → k < n16 ∧ ps_di (c k)) → (((n16 : Nat) : Int) - ((n_123 : Nat) : Int) + 1 ≤ (N : Int)) → jj_J p l e (jj_rm 1 25 0 0) s m args below meth c9 1 A (vx_MQ below (jj_q D A (tt_O (fun rx pl1 r => rx = [] ∧ tt_ok rt_tk cA Kd pl1 ∧ tt_fr Kd [(1, 14), (1, 15)] pl0 pl1 ∧ tt_fa Kd [] pl0 pl1 ∧ ((∃ a b : Nat, tt_at pl1 h0 14 (.int (nI a)) ∧ tt_at pl1 h0 15 (.int (nI b)) ∧ ps_tok c n16 n15 a b ∧ r = none))))) (jj_x D A (tt_OX (fun _ _ _ => False))) args s 0 0 A) (jj_X D A ([] ++ pl)) 0 0 131 [(0, .ref h0)] [] := by
                        intro NL_119
                        induction NL_119 with
                        | zero => intro pl n_123 _ hok hfr hfa hm hf_120 hf_121 hf_122 hu hf_124 ln_123 un_123 hS3 hNL_119; exfalso; omega
                        | succ NL_119 ihL_119 =>
                          intro pl n_123 _ hok hfr hfa hm hf_120 hf_121 hf_122 hu hf_124 ln_123 un_123 hS3 hNL_119
                          replace ihL_119 := fun pl n_123 h1 => ihL_119 pl n_123 trivial h1
                          refine jj_aload_n C dX11_next_131 rfl ?_
                          refine jj_aload_n C dX11_next_132 rfl ?_
                          refine tt_getF C hok jk_12 15 (by decide) jw_165232ba7c (t := (0, 0, 400)) hk0 (by decide) rfl rfl hf_124 dX11_next_133 ?_
                          obtain ⟨qc, gs, hqc⟩ := tt_recv (cx := []) hok hk0 (by decide) rfl
                          refine tt_callV (rest := []) C (re_byteAt hl D cA ak n16 at9 u n_123 c hk0 hkw hka hkt hki hkf hkp (by first | omega | decide) (by first | omega | decide) hk9 (by omega) hc hok hm hf_120 hu hf_121) [] [] rfl rfl (by decide) (by decide) (by decide) qc hqc rfl rfl jw_98db775389 jw_8e26deba02 jw_8ef34ac32e jw_f96c99f44d jw_4737f96f0a jn_X11_byteAt rfl (jj_le rfl) (jj_le rfl) (jj_le rfl) (jj_le rfl) (jj_le rfl) dX11_next_136 rfl (fun _ _ _ hX => hX.elim) (fun rx pl_125 r O_129 => ?_)
                          obtain ⟨rfl, hok_126, hr_127, ha_128, hR_130⟩ := O_129
                          replace hf_120 := hr_127.at hk0 (by decide) (by decide) hf_120
                          replace hf_121 := hr_127.at hk0 (by decide) (by decide) hf_121
                          replace hf_122 := hr_127.at hk0 (by decide) (by decide) hf_122
                          replace hf_124 := hr_127.at hk0 (by decide) (by decide) hf_124
                          replace hu := ha_128.at hk9 (by decide) (by decide) hu
                          replace hm := hm.fr hr_127 hk0 rfl
                          replace hfr := hfr.trans (hr_127.sub (by decide))
                          replace hfa := hfa.trans (ha_128.sub (by decide))
                          rcases hR_130 with ⟨hb_131, rfl⟩ | ⟨hb_132, x_133, hb_134, rfl⟩
                          · refine jj_i2l (v := (-1)) C dX11_next_139 (by decide) ?_
                            refine jj_ldc2 (v := 48) C dX11_next_140 jw_d6cfdd4319 ?_
                            refine jj_ldc2 (v := 57) C dX11_next_143 jw_8c7ed3b7a5 ?_
                            refine tt_call0S (rest := []) C (ct_X11_in_s11 hl D cA ak) jw_2a24feddee jw_12f28ccfda jw_f96c99f44d jw_e07c9ada56 jn_X11_in rfl (jj_le rfl) (jj_le rfl) (jj_le rfl) (jj_le rfl) (jj_le rfl) dX11_next_146 rfl (fun w1 r O_135 => ?_)
                            obtain ⟨-, rfl⟩ := O_135
                            refine jj_if_eqT (tgt := 186) C dX11_next_149 (by decide) (by decide) ?_
                            exact jj_vret C ⟨[], pl_125, rfl, rfl, hok_126, hfr, hfa, ⟨n_8, n_123, hf_122, hf_124, (by first | (exfalso; omega) | exact ⟨⟨hS1.1, hS1.2.2, (fun q => by have q8 := q.2; unfold ps_bl at q8; omega)⟩, Or.inl ⟨by omega, by omega⟩⟩ | exact ⟨⟨hS1.1, hS1.2.2, (fun q => by have q8 := q.2; unfold ps_bl at q8; omega)⟩, Or.inr (Or.inl ⟨by omega, (by unfold ps_le; omega), ⟨hS2.1, hS2.2.2, (fun q => by have q8 := q.2; unfold ps_le at q8; omega)⟩⟩)⟩ | exact ⟨⟨hS1.1, hS1.2.2, (fun q => by have q8 := q.2; unfold ps_bl at q8; omega)⟩, Or.inr (Or.inr (Or.inl ⟨by omega, (fun q => by unfold ps_le at q; omega), (by unfold ps_di; omega), ⟨hS3.1, hS3.2.2, (fun q => by have q8 := q.2; unfold ps_di at q8; omega)⟩⟩))⟩ | exact ⟨⟨hS1.1, hS1.2.2, (fun q => by have q8 := q.2; unfold ps_bl at q8; omega)⟩, Or.inr (Or.inr (Or.inr ⟨by omega, (fun q => by unfold ps_le at q; omega), (fun q => by unfold ps_di at q; omega), by omega⟩))⟩), rfl⟩⟩ dX11_next_186 (jj_le rfl) (jj_le rfl)
                          · have lx_133 := tt_lo x_133
                            have ux_133 := tt_hi x_133
                            obtain ⟨y_136, ey_136, vy_136⟩ := tt_i2l x_133
                            refine jj_i2l (v := y_136) C dX11_next_139 ey_136 ?_
                            refine jj_ldc2 (v := 48) C dX11_next_140 jw_d6cfdd4319 ?_
                            refine jj_ldc2 (v := 57) C dX11_next_143 jw_8c7ed3b7a5 ?_
                            refine tt_call0S (rest := []) C (ct_X11_in_s12 hl D cA ak y_136) jw_2a24feddee jw_12f28ccfda jw_f96c99f44d jw_e07c9ada56 jn_X11_in rfl (jj_le rfl) (jj_le rfl) (jj_le rfl) (jj_le rfl) (jj_le rfl) dX11_next_146 rfl (fun w1 r O_137 => ?_)
                            rcases O_137 with ⟨c_138, -, rfl⟩ | ⟨c_139, c_140, -, rfl⟩ | ⟨c_141, c_142, -, rfl⟩
                            · have z_c_138 := jc_ltL (a := y_136.toInt) (b := 48) c_138 rfl (by decide)
                              refine jj_if_eqT (tgt := 186) C dX11_next_149 (by decide) (by decide) ?_
                              exact jj_vret C ⟨[], pl_125, rfl, rfl, hok_126, hfr, hfa, ⟨n_8, n_123, hf_122, hf_124, (by first | (exfalso; omega) | exact ⟨⟨hS1.1, hS1.2.2, (fun q => by have q8 := q.2; unfold ps_bl at q8; omega)⟩, Or.inl ⟨by omega, by omega⟩⟩ | exact ⟨⟨hS1.1, hS1.2.2, (fun q => by have q8 := q.2; unfold ps_bl at q8; omega)⟩, Or.inr (Or.inl ⟨by omega, (by unfold ps_le; omega), ⟨hS2.1, hS2.2.2, (fun q => by have q8 := q.2; unfold ps_le at q8; omega)⟩⟩)⟩ | exact ⟨⟨hS1.1, hS1.2.2, (fun q => by have q8 := q.2; unfold ps_bl at q8; omega)⟩, Or.inr (Or.inr (Or.inl ⟨by omega, (fun q => by unfold ps_le at q; omega), (by unfold ps_di; omega), ⟨hS3.1, hS3.2.2, (fun q => by have q8 := q.2; unfold ps_di at q8; omega)⟩⟩))⟩ | exact ⟨⟨hS1.1, hS1.2.2, (fun q => by have q8 := q.2; unfold ps_bl at q8; omega)⟩, Or.inr (Or.inr (Or.inr ⟨by omega, (fun q => by unfold ps_le at q; omega), (fun q => by unfold ps_di at q; omega), by omega⟩))⟩), rfl⟩⟩ dX11_next_186 (jj_le rfl) (jj_le rfl)
                            · have z_c_139 := jc_nltL (a := y_136.toInt) (b := 48) c_139 rfl (by decide)
                              have z_c_140 := jc_ltL (a := 57) (b := y_136.toInt) c_140 (by decide) rfl
                              refine jj_if_eqT (tgt := 186) C dX11_next_149 (by decide) (by decide) ?_
                              exact jj_vret C ⟨[], pl_125, rfl, rfl, hok_126, hfr, hfa, ⟨n_8, n_123, hf_122, hf_124, (by first | (exfalso; omega) | exact ⟨⟨hS1.1, hS1.2.2, (fun q => by have q8 := q.2; unfold ps_bl at q8; omega)⟩, Or.inl ⟨by omega, by omega⟩⟩ | exact ⟨⟨hS1.1, hS1.2.2, (fun q => by have q8 := q.2; unfold ps_bl at q8; omega)⟩, Or.inr (Or.inl ⟨by omega, (by unfold ps_le; omega), ⟨hS2.1, hS2.2.2, (fun q => by have q8 := q.2; unfold ps_le at q8; omega)⟩⟩)⟩ | exact ⟨⟨hS1.1, hS1.2.2, (fun q => by have q8 := q.2; unfold ps_bl at q8; omega)⟩, Or.inr (Or.inr (Or.inl ⟨by omega, (fun q => by unfold ps_le at q; omega), (by unfold ps_di; omega), ⟨hS3.1, hS3.2.2, (fun q => by have q8 := q.2; unfold ps_di at q8; omega)⟩⟩))⟩ | exact ⟨⟨hS1.1, hS1.2.2, (fun q => by have q8 := q.2; unfold ps_bl at q8; omega)⟩, Or.inr (Or.inr (Or.inr ⟨by omega, (fun q => by unfold ps_le at q; omega), (fun q => by unfold ps_di at q; omega), by omega⟩))⟩), rfl⟩⟩ dX11_next_186 (jj_le rfl) (jj_le rfl)
                            · have z_c_141 := jc_nltL (a := y_136.toInt) (b := 48) c_141 rfl (by decide)
                              have z_c_142 := jc_nltL (a := 57) (b := y_136.toInt) c_142 (by decide) rfl
                              refine jj_if_eqF (tgt := 186) C dX11_next_149 (by decide) (by decide) ?_
                              refine jj_aload_n C dX11_next_152 rfl ?_
                              refine jj_dup C dX11_next_153 rfl ?_
                              refine tt_getF C hok_126 jk_12 15 (by decide) jw_165232ba7c (t := (0, 0, 400)) hk0 (by decide) rfl rfl hf_124 dX11_next_154 ?_
                              refine jj_iconst (v := 1) C dX11_next_157 (by decide) ?_
                              refine jj_iadd (v := nI (1 + n_123)) C dX11_next_158 (rl_addR (kn := 1) (by decide) (by omega)) ?_
                              refine rl_put C hok_126 jk_12 15 (by decide) jw_165232ba7c (t := (0, 0, 400)) hk0 (by decide) rfl rfl rfl (rl_iv (by omega) (by omega)) rfl rfl dX11_next_159 (fun pl_143 hok_144 tr hn tl => ?_)
                              replace hf_120 := tr _ _ _ (Or.inr (by decide)) hf_120
                              replace hf_121 := tr _ _ _ (Or.inr (by decide)) hf_121
                              replace hf_122 := tr _ _ _ (Or.inr (by decide)) hf_122
                              have hf_145 := hn
                              replace hm := hm.put tr (by decide)
                              replace hfr := hfr.put hk0 tr (by decide)
                              replace hu := tl _ _ hu
                              replace hfa := hfa.all tl
                              refine jj_goto (tgt := 131) C dX11_next_162 (by decide) ?_
                              have hT : ∀ k : Nat, n_8 ≤ k → k < 1 + n_123 → k < n16 ∧ ps_di (c k) := fun k p q => by
                                by_cases e9 : k = n_123
                                · rw [e9]; exact ⟨by omega, by unfold ps_di; omega⟩
                                · exact hS3.2.2 k p (by omega)
                              exact ihL_119 pl_143 (1 + n_123) hok_144 hfr hfa hm hf_120 hf_121 hf_122 hu hf_145 (by first | omega | decide | exact tt_lo _ | exact tt_hi _) (by first | omega | decide | exact tt_lo _ | exact tt_hi _) ⟨by omega, by omega, hT⟩ (by first | omega | decide | exact tt_lo _ | exact tt_hi _)
                      exact hL_119 _ pl_94 n_8 trivial hok_95 hfr hfa hm hf_5 hf_7 hf_9 hu hf_76 (by first | omega | decide | exact tt_lo _ | exact tt_hi _) (by first | omega | decide | exact tt_lo _ | exact tt_hi _) ⟨by omega, by omega, fun k p q => absurd q (by omega)⟩ (Int.self_le_toNat _)
                · have z_c_90 := jc_nltL (a := y_87.toInt) (b := 97) c_90 rfl (by decide)
                  have z_c_91 := jc_ltL (a := 122) (b := y_87.toInt) c_91 (by decide) rfl
                  refine jj_if_eqT (tgt := 110) C dX11_next_73 (by decide) (by decide) ?_
                  refine jj_aload_n C dX11_next_110 rfl ?_
                  refine jj_aload_n C dX11_next_111 rfl ?_
                  refine tt_getF C hok_78 jk_12 15 (by decide) jw_165232ba7c (t := (0, 0, 400)) hk0 (by decide) rfl rfl hf_76 dX11_next_112 ?_
                  obtain ⟨qc, gs, hqc⟩ := tt_recv (cx := []) hok_78 hk0 (by decide) rfl
                  refine tt_callV (rest := []) C (re_byteAt hl D cA ak n16 at9 u n_8 c hk0 hkw hka hkt hki hkf hkp (by first | omega | decide) (by first | omega | decide) hk9 (by omega) hc hok_78 hm hf_5 hu hf_7) [] [] rfl rfl (by decide) (by decide) (by decide) qc hqc rfl rfl jw_98db775389 jw_8e26deba02 jw_8ef34ac32e jw_f96c99f44d jw_4737f96f0a jn_X11_byteAt rfl (jj_le rfl) (jj_le rfl) (jj_le rfl) (jj_le rfl) (jj_le rfl) dX11_next_115 rfl (fun _ _ _ hX => hX.elim) (fun rx pl_146 r O_150 => ?_)
                  obtain ⟨rfl, hok_147, hr_148, ha_149, hR_151⟩ := O_150
                  replace hf_5 := hr_148.at hk0 (by decide) (by decide) hf_5
                  replace hf_7 := hr_148.at hk0 (by decide) (by decide) hf_7
                  replace hf_9 := hr_148.at hk0 (by decide) (by decide) hf_9
                  replace hf_76 := hr_148.at hk0 (by decide) (by decide) hf_76
                  replace hu := ha_149.at hk9 (by decide) (by decide) hu
                  replace hm := hm.fr hr_148 hk0 rfl
                  replace hfr := hfr.trans (hr_148.sub (by decide))
                  replace hfa := hfa.trans (ha_149.sub (by decide))
                  rcases hR_151 with ⟨hb_152, rfl⟩ | ⟨hb_153, x_154, hb_155, rfl⟩
                  · exfalso; omega
                  · have lx_154 := tt_lo x_154
                    have ux_154 := tt_hi x_154
                    obtain ⟨y_156, ey_156, vy_156⟩ := tt_i2l x_154
                    refine jj_i2l (v := y_156) C dX11_next_118 ey_156 ?_
                    refine jj_ldc2 (v := 48) C dX11_next_119 jw_d6cfdd4319 ?_
                    refine jj_ldc2 (v := 57) C dX11_next_122 jw_8c7ed3b7a5 ?_
                    refine tt_call0S (rest := []) C (ct_X11_in_s12 hl D cA ak y_156) jw_2a24feddee jw_12f28ccfda jw_f96c99f44d jw_e07c9ada56 jn_X11_in rfl (jj_le rfl) (jj_le rfl) (jj_le rfl) (jj_le rfl) (jj_le rfl) dX11_next_125 rfl (fun w1 r O_157 => ?_)
                    rcases O_157 with ⟨c_158, -, rfl⟩ | ⟨c_159, c_160, -, rfl⟩ | ⟨c_161, c_162, -, rfl⟩
                    · have z_c_158 := jc_ltL (a := y_156.toInt) (b := 48) c_158 rfl (by decide)
                      exfalso; omega
                    · have z_c_159 := jc_nltL (a := y_156.toInt) (b := 48) c_159 rfl (by decide)
                      have z_c_160 := jc_ltL (a := 57) (b := y_156.toInt) c_160 (by decide) rfl
                      refine jj_if_eqT (tgt := 165) C dX11_next_128 (by decide) (by decide) ?_
                      refine jj_aload_n C dX11_next_165 rfl ?_
                      refine tt_getF C hok_147 jk_12 15 (by decide) jw_165232ba7c (t := (0, 0, 400)) hk0 (by decide) rfl rfl hf_76 dX11_next_166 ?_
                      refine jj_aload_n C dX11_next_169 rfl ?_
                      refine tt_getF C hok_147 jk_12 16 (by decide) jw_28b46cb90c (t := (0, 0, 400)) hk0 (by decide) rfl rfl hf_7 dX11_next_170 ?_
                      refine jj_icmp_ge (tgt := 186) C dX11_next_173 (by decide) (fun c_163 => ?_) (fun c_163 => ?_)
                      · have z_c_163 := jc_le (a := ((n16 : Nat) : Int)) (b := ((n_8 : Nat) : Int)) c_163 (rl_ti (by omega)) (rl_ti (by omega))
                        exact jj_vret C ⟨[], pl_146, rfl, rfl, hok_147, hfr, hfa, ⟨n_8, n_8, hf_9, hf_76, (by first | (exfalso; omega) | exact ⟨⟨hS1.1, hS1.2.2, (fun q => by have q8 := q.2; unfold ps_bl at q8; omega)⟩, Or.inl ⟨by omega, by omega⟩⟩ | exact ⟨⟨hS1.1, hS1.2.2, (fun q => by have q8 := q.2; unfold ps_bl at q8; omega)⟩, Or.inr (Or.inl ⟨by omega, (by unfold ps_le; omega), ⟨hS2.1, hS2.2.2, (fun q => by have q8 := q.2; unfold ps_le at q8; omega)⟩⟩)⟩ | exact ⟨⟨hS1.1, hS1.2.2, (fun q => by have q8 := q.2; unfold ps_bl at q8; omega)⟩, Or.inr (Or.inr (Or.inl ⟨by omega, (fun q => by unfold ps_le at q; omega), (by unfold ps_di; omega), ⟨hS3.1, hS3.2.2, (fun q => by have q8 := q.2; unfold ps_di at q8; omega)⟩⟩))⟩ | exact ⟨⟨hS1.1, hS1.2.2, (fun q => by have q8 := q.2; unfold ps_bl at q8; omega)⟩, Or.inr (Or.inr (Or.inr ⟨by omega, (fun q => by unfold ps_le at q; omega), (fun q => by unfold ps_di at q; omega), by omega⟩))⟩), rfl⟩⟩ dX11_next_186 (jj_le rfl) (jj_le rfl)
                      · have z_c_163 := jc_nle (a := ((n16 : Nat) : Int)) (b := ((n_8 : Nat) : Int)) c_163 (rl_ti (by omega)) (rl_ti (by omega))
                        refine jj_aload_n C dX11_next_176 rfl ?_
                        refine jj_dup C dX11_next_177 rfl ?_
                        refine tt_getF C hok_147 jk_12 15 (by decide) jw_165232ba7c (t := (0, 0, 400)) hk0 (by decide) rfl rfl hf_76 dX11_next_178 ?_
                        refine jj_iconst (v := 1) C dX11_next_181 (by decide) ?_
                        refine jj_iadd (v := nI (1 + n_8)) C dX11_next_182 (rl_addR (kn := 1) (by decide) (by omega)) ?_
                        refine rl_put C hok_147 jk_12 15 (by decide) jw_165232ba7c (t := (0, 0, 400)) hk0 (by decide) rfl rfl rfl (rl_iv (by omega) (by omega)) rfl rfl dX11_next_183 (fun pl_164 hok_165 tr hn tl => ?_)
                        replace hf_5 := tr _ _ _ (Or.inr (by decide)) hf_5
                        replace hf_7 := tr _ _ _ (Or.inr (by decide)) hf_7
                        replace hf_9 := tr _ _ _ (Or.inr (by decide)) hf_9
                        have hf_166 := hn
                        replace hm := hm.put tr (by decide)
                        replace hfr := hfr.put hk0 tr (by decide)
                        replace hu := tl _ _ hu
                        replace hfa := hfa.all tl
                        exact jj_vret C ⟨[], pl_164, rfl, rfl, hok_165, hfr, hfa, ⟨n_8, (1 + n_8), hf_9, hf_166, (by first | (exfalso; omega) | exact ⟨⟨hS1.1, hS1.2.2, (fun q => by have q8 := q.2; unfold ps_bl at q8; omega)⟩, Or.inl ⟨by omega, by omega⟩⟩ | exact ⟨⟨hS1.1, hS1.2.2, (fun q => by have q8 := q.2; unfold ps_bl at q8; omega)⟩, Or.inr (Or.inl ⟨by omega, (by unfold ps_le; omega), ⟨hS2.1, hS2.2.2, (fun q => by have q8 := q.2; unfold ps_le at q8; omega)⟩⟩)⟩ | exact ⟨⟨hS1.1, hS1.2.2, (fun q => by have q8 := q.2; unfold ps_bl at q8; omega)⟩, Or.inr (Or.inr (Or.inl ⟨by omega, (fun q => by unfold ps_le at q; omega), (by unfold ps_di; omega), ⟨hS3.1, hS3.2.2, (fun q => by have q8 := q.2; unfold ps_di at q8; omega)⟩⟩))⟩ | exact ⟨⟨hS1.1, hS1.2.2, (fun q => by have q8 := q.2; unfold ps_bl at q8; omega)⟩, Or.inr (Or.inr (Or.inr ⟨by omega, (fun q => by unfold ps_le at q; omega), (fun q => by unfold ps_di at q; omega), by omega⟩))⟩), rfl⟩⟩ dX11_next_186 (jj_le rfl) (jj_le rfl)
                    · have z_c_161 := jc_nltL (a := y_156.toInt) (b := 48) c_161 rfl (by decide)
                      have z_c_162 := jc_nltL (a := 57) (b := y_156.toInt) c_162 (by decide) rfl
                      exfalso; omega
                · have z_c_92 := jc_nltL (a := y_87.toInt) (b := 97) c_92 rfl (by decide)
                  have z_c_93 := jc_nltL (a := 122) (b := y_87.toInt) c_93 (by decide) rfl
                  refine jj_if_eqF (tgt := 110) C dX11_next_73 (by decide) (by decide) ?_
                  have hL_167 : ∀ (N : Nat) (pl : va_W) (n_171 : Nat), True → tt_ok rt_tk cA Kd pl → tt_fr Kd [(1, 14), (1, 15)] pl0 pl → tt_fa Kd [] pl0 pl → rl_m pl h0 aw aa at0 ai af ap → tt_at pl h0 12 (.ref at9) → tt_at pl h0 16 (.int (nI n16)) → tt_at pl h0 14 (.int (nI n_8)) → tt_ic pl at9 u → tt_at pl h0 15 (.int (nI n_171)) → (0 : Int) ≤ (n_171 : Int) → (n_171 : Int) ≤ 400 → (n_8 ≤ n_171 ∧ n_171 ≤ n16 ∧ ∀ k : Nat, n_8 ≤ k → k < n_171 → k < n16 ∧ ps_le (c k)) → (((n16 : Nat) : Int) - ((n_171 : Nat) : Int) + 1 ≤ (N : Int)) → jj_J p l e (jj_rm 1 25 0 0) s m args below meth c9 1 A (vx_MQ below (jj_q D A (tt_O (fun rx pl1 r => rx = [] ∧ tt_ok rt_tk cA Kd pl1 ∧ tt_fr Kd [(1, 14), (1, 15)] pl0 pl1 ∧ tt_fa Kd [] pl0 pl1 ∧ ((∃ a b : Nat, tt_at pl1 h0 14 (.int (nI a)) ∧ tt_at pl1 h0 15 (.int (nI b)) ∧ ps_tok c n16 n15 a b ∧ r = none))))) (jj_x D A (tt_OX (fun _ _ _ => False))) args s 0 0 A) (jj_X D A ([] ++ pl)) 0 0 76 [(0, .ref h0)] [] := by
                    intro NL_167
                    induction NL_167 with
                    | zero => intro pl n_171 _ hok hfr hfa hm hf_168 hf_169 hf_170 hu hf_172 ln_171 un_171 hS2 hNL_167; exfalso; omega
                    | succ NL_167 ihL_167 =>
                      intro pl n_171 _ hok hfr hfa hm hf_168 hf_169 hf_170 hu hf_172 ln_171 un_171 hS2 hNL_167
                      replace ihL_167 := fun pl n_171 h1 => ihL_167 pl n_171 trivial h1
                      refine jj_aload_n C dX11_next_76 rfl ?_
                      refine jj_aload_n C dX11_next_77 rfl ?_
                      refine tt_getF C hok jk_12 15 (by decide) jw_165232ba7c (t := (0, 0, 400)) hk0 (by decide) rfl rfl hf_172 dX11_next_78 ?_
                      obtain ⟨qc, gs, hqc⟩ := tt_recv (cx := []) hok hk0 (by decide) rfl
                      refine tt_callV (rest := []) C (re_byteAt hl D cA ak n16 at9 u n_171 c hk0 hkw hka hkt hki hkf hkp (by first | omega | decide) (by first | omega | decide) hk9 (by omega) hc hok hm hf_168 hu hf_169) [] [] rfl rfl (by decide) (by decide) (by decide) qc hqc rfl rfl jw_98db775389 jw_8e26deba02 jw_8ef34ac32e jw_f96c99f44d jw_4737f96f0a jn_X11_byteAt rfl (jj_le rfl) (jj_le rfl) (jj_le rfl) (jj_le rfl) (jj_le rfl) dX11_next_81 rfl (fun _ _ _ hX => hX.elim) (fun rx pl_173 r O_177 => ?_)
                      obtain ⟨rfl, hok_174, hr_175, ha_176, hR_178⟩ := O_177
                      replace hf_168 := hr_175.at hk0 (by decide) (by decide) hf_168
                      replace hf_169 := hr_175.at hk0 (by decide) (by decide) hf_169
                      replace hf_170 := hr_175.at hk0 (by decide) (by decide) hf_170
                      replace hf_172 := hr_175.at hk0 (by decide) (by decide) hf_172
                      replace hu := ha_176.at hk9 (by decide) (by decide) hu
                      replace hm := hm.fr hr_175 hk0 rfl
                      replace hfr := hfr.trans (hr_175.sub (by decide))
                      replace hfa := hfa.trans (ha_176.sub (by decide))
                      rcases hR_178 with ⟨hb_179, rfl⟩ | ⟨hb_180, x_181, hb_182, rfl⟩
                      · refine jj_i2l (v := (-1)) C dX11_next_84 (by decide) ?_
                        refine jj_ldc2 (v := 97) C dX11_next_85 jw_39d46451b9 ?_
                        refine jj_ldc2 (v := 122) C dX11_next_88 jw_33d5fc8685 ?_
                        refine tt_call0S (rest := []) C (ct_X11_in_s10 hl D cA ak) jw_2a24feddee jw_12f28ccfda jw_f96c99f44d jw_e07c9ada56 jn_X11_in rfl (jj_le rfl) (jj_le rfl) (jj_le rfl) (jj_le rfl) (jj_le rfl) dX11_next_91 rfl (fun w1 r O_183 => ?_)
                        obtain ⟨-, rfl⟩ := O_183
                        refine jj_if_eqT (tgt := 186) C dX11_next_94 (by decide) (by decide) ?_
                        exact jj_vret C ⟨[], pl_173, rfl, rfl, hok_174, hfr, hfa, ⟨n_8, n_171, hf_170, hf_172, (by first | (exfalso; omega) | exact ⟨⟨hS1.1, hS1.2.2, (fun q => by have q8 := q.2; unfold ps_bl at q8; omega)⟩, Or.inl ⟨by omega, by omega⟩⟩ | exact ⟨⟨hS1.1, hS1.2.2, (fun q => by have q8 := q.2; unfold ps_bl at q8; omega)⟩, Or.inr (Or.inl ⟨by omega, (by unfold ps_le; omega), ⟨hS2.1, hS2.2.2, (fun q => by have q8 := q.2; unfold ps_le at q8; omega)⟩⟩)⟩ | exact ⟨⟨hS1.1, hS1.2.2, (fun q => by have q8 := q.2; unfold ps_bl at q8; omega)⟩, Or.inr (Or.inr (Or.inl ⟨by omega, (fun q => by unfold ps_le at q; omega), (by unfold ps_di; omega), ⟨hS3.1, hS3.2.2, (fun q => by have q8 := q.2; unfold ps_di at q8; omega)⟩⟩))⟩ | exact ⟨⟨hS1.1, hS1.2.2, (fun q => by have q8 := q.2; unfold ps_bl at q8; omega)⟩, Or.inr (Or.inr (Or.inr ⟨by omega, (fun q => by unfold ps_le at q; omega), (fun q => by unfold ps_di at q; omega), by omega⟩))⟩), rfl⟩⟩ dX11_next_186 (jj_le rfl) (jj_le rfl)
                      · have lx_181 := tt_lo x_181
                        have ux_181 := tt_hi x_181
                        obtain ⟨y_184, ey_184, vy_184⟩ := tt_i2l x_181
                        refine jj_i2l (v := y_184) C dX11_next_84 ey_184 ?_
                        refine jj_ldc2 (v := 97) C dX11_next_85 jw_39d46451b9 ?_
                        refine jj_ldc2 (v := 122) C dX11_next_88 jw_33d5fc8685 ?_
                        refine tt_call0S (rest := []) C (ct_X11_in_s13 hl D cA ak y_184) jw_2a24feddee jw_12f28ccfda jw_f96c99f44d jw_e07c9ada56 jn_X11_in rfl (jj_le rfl) (jj_le rfl) (jj_le rfl) (jj_le rfl) (jj_le rfl) dX11_next_91 rfl (fun w1 r O_185 => ?_)
                        rcases O_185 with ⟨c_186, -, rfl⟩ | ⟨c_187, c_188, -, rfl⟩ | ⟨c_189, c_190, -, rfl⟩
                        · have z_c_186 := jc_ltL (a := y_184.toInt) (b := 97) c_186 rfl (by decide)
                          refine jj_if_eqT (tgt := 186) C dX11_next_94 (by decide) (by decide) ?_
                          exact jj_vret C ⟨[], pl_173, rfl, rfl, hok_174, hfr, hfa, ⟨n_8, n_171, hf_170, hf_172, (by first | (exfalso; omega) | exact ⟨⟨hS1.1, hS1.2.2, (fun q => by have q8 := q.2; unfold ps_bl at q8; omega)⟩, Or.inl ⟨by omega, by omega⟩⟩ | exact ⟨⟨hS1.1, hS1.2.2, (fun q => by have q8 := q.2; unfold ps_bl at q8; omega)⟩, Or.inr (Or.inl ⟨by omega, (by unfold ps_le; omega), ⟨hS2.1, hS2.2.2, (fun q => by have q8 := q.2; unfold ps_le at q8; omega)⟩⟩)⟩ | exact ⟨⟨hS1.1, hS1.2.2, (fun q => by have q8 := q.2; unfold ps_bl at q8; omega)⟩, Or.inr (Or.inr (Or.inl ⟨by omega, (fun q => by unfold ps_le at q; omega), (by unfold ps_di; omega), ⟨hS3.1, hS3.2.2, (fun q => by have q8 := q.2; unfold ps_di at q8; omega)⟩⟩))⟩ | exact ⟨⟨hS1.1, hS1.2.2, (fun q => by have q8 := q.2; unfold ps_bl at q8; omega)⟩, Or.inr (Or.inr (Or.inr ⟨by omega, (fun q => by unfold ps_le at q; omega), (fun q => by unfold ps_di at q; omega), by omega⟩))⟩), rfl⟩⟩ dX11_next_186 (jj_le rfl) (jj_le rfl)
                        · have z_c_187 := jc_nltL (a := y_184.toInt) (b := 97) c_187 rfl (by decide)
                          have z_c_188 := jc_ltL (a := 122) (b := y_184.toInt) c_188 (by decide) rfl
                          refine jj_if_eqT (tgt := 186) C dX11_next_94 (by decide) (by decide) ?_
                          exact jj_vret C ⟨[], pl_173, rfl, rfl, hok_174, hfr, hfa, ⟨n_8, n_171, hf_170, hf_172, (by first | (exfalso; omega) | exact ⟨⟨hS1.1, hS1.2.2, (fun q => by have q8 := q.2; unfold ps_bl at q8; omega)⟩, Or.inl ⟨by omega, by omega⟩⟩ | exact ⟨⟨hS1.1, hS1.2.2, (fun q => by have q8 := q.2; unfold ps_bl at q8; omega)⟩, Or.inr (Or.inl ⟨by omega, (by unfold ps_le; omega), ⟨hS2.1, hS2.2.2, (fun q => by have q8 := q.2; unfold ps_le at q8; omega)⟩⟩)⟩ | exact ⟨⟨hS1.1, hS1.2.2, (fun q => by have q8 := q.2; unfold ps_bl at q8; omega)⟩, Or.inr (Or.inr (Or.inl ⟨by omega, (fun q => by unfold ps_le at q; omega), (by unfold ps_di; omega), ⟨hS3.1, hS3.2.2, (fun q => by have q8 := q.2; unfold ps_di at q8; omega)⟩⟩))⟩ | exact ⟨⟨hS1.1, hS1.2.2, (fun q => by have q8 := q.2; unfold ps_bl at q8; omega)⟩, Or.inr (Or.inr (Or.inr ⟨by omega, (fun q => by unfold ps_le at q; omega), (fun q => by unfold ps_di at q; omega), by omega⟩))⟩), rfl⟩⟩ dX11_next_186 (jj_le rfl) (jj_le rfl)
                        · have z_c_189 := jc_nltL (a := y_184.toInt) (b := 97) c_189 rfl (by decide)
                          have z_c_190 := jc_nltL (a := 122) (b := y_184.toInt) c_190 (by decide) rfl
                          refine jj_if_eqF (tgt := 186) C dX11_next_94 (by decide) (by decide) ?_
                          refine jj_aload_n C dX11_next_97 rfl ?_
                          refine jj_dup C dX11_next_98 rfl ?_
                          refine tt_getF C hok_174 jk_12 15 (by decide) jw_165232ba7c (t := (0, 0, 400)) hk0 (by decide) rfl rfl hf_172 dX11_next_99 ?_
                          refine jj_iconst (v := 1) C dX11_next_102 (by decide) ?_
                          refine jj_iadd (v := nI (1 + n_171)) C dX11_next_103 (rl_addR (kn := 1) (by decide) (by omega)) ?_
                          refine rl_put C hok_174 jk_12 15 (by decide) jw_165232ba7c (t := (0, 0, 400)) hk0 (by decide) rfl rfl rfl (rl_iv (by omega) (by omega)) rfl rfl dX11_next_104 (fun pl_191 hok_192 tr hn tl => ?_)
                          replace hf_168 := tr _ _ _ (Or.inr (by decide)) hf_168
                          replace hf_169 := tr _ _ _ (Or.inr (by decide)) hf_169
                          replace hf_170 := tr _ _ _ (Or.inr (by decide)) hf_170
                          have hf_193 := hn
                          replace hm := hm.put tr (by decide)
                          replace hfr := hfr.put hk0 tr (by decide)
                          replace hu := tl _ _ hu
                          replace hfa := hfa.all tl
                          refine jj_goto (tgt := 76) C dX11_next_107 (by decide) ?_
                          have hT : ∀ k : Nat, n_8 ≤ k → k < 1 + n_171 → k < n16 ∧ ps_le (c k) := fun k p q => by
                            by_cases e9 : k = n_171
                            · rw [e9]; exact ⟨by omega, by unfold ps_le; omega⟩
                            · exact hS2.2.2 k p (by omega)
                          exact ihL_167 pl_191 (1 + n_171) hok_192 hfr hfa hm hf_168 hf_169 hf_170 hu hf_193 (by first | omega | decide | exact tt_lo _ | exact tt_hi _) (by first | omega | decide | exact tt_lo _ | exact tt_hi _) ⟨by omega, by omega, hT⟩ (by first | omega | decide | exact tt_lo _ | exact tt_hi _)
                  exact hL_167 _ pl_77 n_8 trivial hok_78 hfr hfa hm hf_5 hf_7 hf_9 hu hf_76 (by first | omega | decide | exact tt_lo _ | exact tt_hi _) (by first | omega | decide | exact tt_lo _ | exact tt_hi _) ⟨by omega, by omega, fun k p q => absurd q (by omega)⟩ (Int.self_le_toNat _)
            · have z_c_73 := jc_eq (a := x_71.toInt) (b := 10) c_73 rfl (by decide)
              refine jj_aload_n C dX11_next_34 rfl ?_
              refine jj_dup C dX11_next_35 rfl ?_
              refine tt_getF C hok_64 jk_12 14 (by decide) jw_6446e1fd81 (t := (0, 0, 400)) hk0 (by decide) rfl rfl hf_9 dX11_next_36 ?_
              refine jj_iconst (v := 1) C dX11_next_39 (by decide) ?_
              refine jj_iadd (v := nI (1 + n_8)) C dX11_next_40 (rl_addR (kn := 1) (by decide) (by omega)) ?_
              refine rl_put C hok_64 jk_12 14 (by decide) jw_6446e1fd81 (t := (0, 0, 400)) hk0 (by decide) rfl rfl rfl (rl_iv (by omega) (by omega)) rfl rfl dX11_next_41 (fun pl_194 hok_195 tr hn tl => ?_)
              replace hf_5 := tr _ _ _ (Or.inr (by decide)) hf_5
              replace hf_6 := tr _ _ _ (Or.inr (by decide)) hf_6
              replace hf_7 := tr _ _ _ (Or.inr (by decide)) hf_7
              have hf_196 := hn
              replace hm := hm.put tr (by decide)
              replace hfr := hfr.put hk0 tr (by decide)
              replace hu := tl _ _ hu
              replace hfa := hfa.all tl
              refine jj_goto (tgt := 8) C dX11_next_44 (by decide) ?_
              have hT : ∀ k : Nat, n15 ≤ k → k < 1 + n_8 → k < n16 ∧ ps_bl (c k) := fun k p q => by
                by_cases e9 : k = n_8
                · rw [e9]; exact ⟨by omega, by unfold ps_bl; omega⟩
                · exact hS1.2.2 k p (by omega)
              exact ihL_4 pl_194 (1 + n_8) hok_195 hfr hfa hm hf_5 hf_6 hf_7 hu hf_196 (by first | omega | decide | exact tt_lo _ | exact tt_hi _) (by first | omega | decide | exact tt_lo _ | exact tt_hi _) ⟨by omega, by omega, hT⟩ (by first | omega | decide | exact tt_lo _ | exact tt_hi _)
  exact hL_4 _ pl_1 n15 trivial hok_2 hfr hfa hm hs12 hs15 hs16 hu hf_3 (by first | omega | decide | exact tt_lo _ | exact tt_hi _) (by first | omega | decide | exact tt_lo _ | exact tt_hi _) ⟨by omega, by omega, fun k p q => absurd q (by omega)⟩ (Int.self_le_toNat _)
