set_option maxHeartbeats 4000000 in
set_option maxRecDepth 100000 in
theorem tc_X1_subscribeWaiting_1 {l : Launch} (hl : l.stackTraces = false) (D : va_G) (cA : Nat → ClassId) (ak : (Nat → Nat) × (Nat → Nat)) {Kd : Nat → Nat} (h0 : Nat) (h1 : Nat) (hk0 : Kd h0 = 9) (hk1 : Kd h1 = 1) {pl0 : va_W} (hok : tt_ok tt_tk cA Kd pl0) : jj_M l D cA ak yX1_subscribeWaiting (.code yX1_subscribeWaiting cX1_subscribeWaiting 5 none) 3 82 0 0 ([] ++ pl0) [.ref h0, .ref h1] (tt_O (fun rx pl1 r => rx = [] ∧ tt_ok tt_tk cA Kd pl1 ∧ tt_fr Kd [(1, 6), (1, 7), (1, 8), (2, 0), (2, 1), (2, 2), (2, 3), (2, 4), (3, 0), (3, 1), (3, 2), (3, 3), (3, 4), (3, 5), (4, 3)] pl0 pl1 ∧ tt_fa Kd [5] pl0 pl1 ∧ ((r = none)))) (tt_OX (fun _ _ _ => False)) := by
  refine jj_start hl (by decide) jw_869633d7b1 (jj_le rfl) ?_
  intro p e s m args below meth c A hargs hA C hex hmn
  have hfr := tt_fr.refl (K := Kd) (WS := [(1, 6), (1, 7), (1, 8), (2, 0), (2, 1), (2, 2), (2, 3), (2, 4), (3, 0), (3, 1), (3, 2), (3, 3), (3, 4), (3, 5), (4, 3)]) pl0
  have hfa := tt_fa.refl (K := Kd) (WA := [5]) pl0
  refine jj_aload_n C dX1_subscribeWaiting_0 rfl ?_
  refine tt_get C hok jk_2 1 (by decide) jw_23f70347f5 (t := (0, (-2147483648), 2147483647)) hk1 (by decide) rfl rfl dX1_subscribeWaiting_1 (fun v_1 hv_1 hf_2 => ?_)
  obtain ⟨x_3, rfl, lx_3, ux_3⟩ := tt_vi hv_1
  refine jj_iconst (v := 1) C dX1_subscribeWaiting_4 (by decide) ?_
  refine jj_icmp_ne (tgt := 19) C dX1_subscribeWaiting_5 (by decide) (fun c_4 => ?_) (fun c_4 => ?_)
  · have z_c_4 := jc_neq (a := (x_3).toInt) (b := (1)) c_4 rfl (by decide)
    refine jj_iconst (v := (-1)) C dX1_subscribeWaiting_19 (by decide) ?_
    refine jj_istore_n C dX1_subscribeWaiting_20 (by decide) rfl ?_
    refine jj_iconst (v := 0) C dX1_subscribeWaiting_21 (by decide) ?_
    refine jj_istore_n C dX1_subscribeWaiting_22 (by decide) rfl ?_
    have hL_5 : ∀ (N : Nat) (pl : va_W) (x_6 : Int32) (x_7 : Int32), True → tt_ok tt_tk cA Kd pl → tt_fr Kd [(1, 6), (1, 7), (1, 8), (2, 0), (2, 1), (2, 2), (2, 3), (2, 4), (3, 0), (3, 1), (3, 2), (3, 3), (3, 4), (3, 5), (4, 3)] pl0 pl → tt_fa Kd [5] pl0 pl → tt_at pl h1 1 (.int x_3) → (0 : Int) ≤ x_6.toInt → x_6.toInt ≤ 12 → (-1 : Int) ≤ x_7.toInt → x_7.toInt ≤ 5 → (2147483648 - x_6.toInt ≤ (N : Int)) → jj_J p l e (jj_rm 3 82 0 0) s m args below meth c 5 A (vx_MQ below (jj_q D A (tt_O (fun rx pl1 r => rx = [] ∧ tt_ok tt_tk cA Kd pl1 ∧ tt_fr Kd [(1, 6), (1, 7), (1, 8), (2, 0), (2, 1), (2, 2), (2, 3), (2, 4), (3, 0), (3, 1), (3, 2), (3, 3), (3, 4), (3, 5), (4, 3)] pl0 pl1 ∧ tt_fa Kd [5] pl0 pl1 ∧ ((r = none))))) (jj_x D A (tt_OX (fun _ _ _ => False))) args s 0 0 A) (jj_X D A ([] ++ pl)) 0 0 23 [(3, .int x_6), (2, .int x_7), (0, .ref h0), (1, .ref h1)] [] := by
      intro NL_5
      induction NL_5 with
      | zero => intro pl x_6 x_7 _ hok hfr hfa hf_8 lx_6 ux_6 lx_7 ux_7 hNL_5; exfalso; omega
      | succ NL_5 ihL_5 =>
        intro pl x_6 x_7 _ hok hfr hfa hf_8 lx_6 ux_6 lx_7 ux_7 hNL_5
        replace ihL_5 := fun pl x_6 x_7 h1 => ihL_5 pl x_6 x_7 trivial h1
        refine jj_iload_n C dX1_subscribeWaiting_23 rfl ?_
        refine jj_aload_n C dX1_subscribeWaiting_24 rfl ?_
        refine tt_get C hok jk_2 9 (by decide) jw_106092f028 (t := (0, 0, 12)) hk1 (by decide) rfl rfl dX1_subscribeWaiting_25 (fun v_9 hv_9 hf_10 => ?_)
        obtain ⟨x_11, rfl, lx_11, ux_11⟩ := tt_vi hv_9
        refine jj_icmp_ge (tgt := 86) C dX1_subscribeWaiting_28 (by decide) (fun c_12 => ?_) (fun c_12 => ?_)
        · have z_c_12 := jc_le (a := (x_11).toInt) (b := (x_6).toInt) c_12 rfl rfl
          exact jj_vret C ⟨[], pl, rfl, rfl, hok, hfr, hfa, rfl⟩ dX1_subscribeWaiting_86 (jj_le rfl) (jj_le rfl)
        · have z_c_12 := jc_nle (a := (x_11).toInt) (b := (x_6).toInt) c_12 rfl rfl
          refine jj_aload_n C dX1_subscribeWaiting_31 rfl ?_
          refine tt_get C hok jk_2 13 (by decide) jw_cb3eb05d91 (t := (2, 8, 0)) hk1 (by decide) rfl rfl dX1_subscribeWaiting_32 (fun v_13 hv_13 hf_14 => ?_)
          obtain ⟨a_15, rfl, ka_15⟩ := tt_vr hv_13
          refine jj_iload_n C dX1_subscribeWaiting_35 rfl ?_
          refine tt_aald C hok (t := (2, 4, 0)) ka_15 (by decide) rfl rfl rfl (vp_in_iff.mpr ⟨by omega, by omega⟩) dX1_subscribeWaiting_36 (fun v_16 hv_16 => ?_)
          obtain ⟨a_17, rfl, ka_17⟩ := tt_vr hv_16
          refine jj_astore C dX1_subscribeWaiting_37 (by decide) rfl ?_
          refine jj_aload C dX1_subscribeWaiting_39 rfl ?_
          refine tt_get C hok jk_7 2 (by decide) jw_500886c681 (t := (0, 0, 1)) ka_17 (by decide) rfl rfl dX1_subscribeWaiting_41 (fun v_18 hv_18 hf_19 => ?_)
          obtain ⟨x_20, rfl, lx_20, ux_20⟩ := tt_vi hv_18
          refine jj_if_ne (tgt := 80) C dX1_subscribeWaiting_44 (by decide) (fun c_21 => ?_) (fun c_21 => ?_)
          · have z_c_21 := jc_neq (a := (x_20).toInt) (b := (0)) c_21 rfl (by decide)
            obtain ⟨x_22, ex_22, vx_22⟩ := tt_inc (x := x_6) (n := 1) (by omega) (by omega)
            refine jj_iinc (v := x_22) C dX1_subscribeWaiting_80 rfl ex_22 (by decide) rfl ?_
            refine jj_goto (tgt := 23) C dX1_subscribeWaiting_83 (by decide) ?_
            refine jj_loc [0, 2, 3, 4] rfl ?_
            exact ihL_5 pl x_22 x_7 hok hfr hfa hf_8 (by first | omega | decide | exact tt_lo _ | exact tt_hi _) (by first | omega | decide | exact tt_lo _ | exact tt_hi _) (by first | omega | decide | exact tt_lo _ | exact tt_hi _) (by first | omega | decide | exact tt_lo _ | exact tt_hi _) (by first | omega | decide | exact tt_lo _ | exact tt_hi _)
          · have z_c_21 := jc_eq (a := (x_20).toInt) (b := (0)) c_21 rfl (by decide)
            refine jj_aload_n C dX1_subscribeWaiting_47 rfl ?_
            refine jj_aload_n C dX1_subscribeWaiting_48 rfl ?_
            refine jj_aload C dX1_subscribeWaiting_49 rfl ?_
            refine jj_iload_n C dX1_subscribeWaiting_51 rfl ?_
            obtain ⟨qc, gs, hqc⟩ := tt_recv (cx := []) hok hk0 (by decide) rfl
            refine tt_callV (rest := []) C (tc_X1_takeIn_2 hl D cA ak h0 h1 a_17 x_7 hk0 hk1 ka_17 (by omega) (by omega) hok) [] [] rfl rfl (by decide) (by decide) (by decide) qc hqc rfl rfl jw_f8b562a13a jw_21a15b8ce7 jw_132c0f9459 jw_944cf9c3ab jw_ab8304a739 jn_X1_takeIn rfl (jj_le rfl) (jj_le rfl) (jj_le rfl) (jj_le rfl) (jj_le rfl) dX1_subscribeWaiting_52 rfl (fun _ _ _ hX => hX.elim) (fun rx pl_23 r O_26 => ?_)
            obtain ⟨rfl, hok_24, hr_25, hfa9, hR_28⟩ := O_26
            replace hf_8 := hr_25.at hk1 (by decide) (by decide) hf_8
            replace hf_10 := hr_25.at hk1 (by decide) (by decide) hf_10
            replace hf_14 := hr_25.at hk1 (by decide) (by decide) hf_14
            replace hf_19 := hr_25.at ka_17 (by decide) (by decide) hf_19
            replace hfr := hfr.trans (hr_25.sub (by decide))
            replace hfa := hfa.trans (hfa9.sub (by decide))
            rcases hR_28 with rfl | rfl
            · refine jj_if_eqT (tgt := 80) C dX1_subscribeWaiting_55 (by decide) (by decide) ?_
              obtain ⟨x_31, ex_31, vx_31⟩ := tt_inc (x := x_6) (n := 1) (by omega) (by omega)
              refine jj_iinc (v := x_31) C dX1_subscribeWaiting_80 rfl ex_31 (by decide) rfl ?_
              refine jj_goto (tgt := 23) C dX1_subscribeWaiting_83 (by decide) ?_
              refine jj_loc [0, 2, 3, 4] rfl ?_
              exact ihL_5 pl_23 x_31 x_7 hok_24 hfr hfa hf_8 (by first | omega | decide | exact tt_lo _ | exact tt_hi _) (by first | omega | decide | exact tt_lo _ | exact tt_hi _) (by first | omega | decide | exact tt_lo _ | exact tt_hi _) (by first | omega | decide | exact tt_lo _ | exact tt_hi _) (by first | omega | decide | exact tt_lo _ | exact tt_hi _)
            · refine jj_if_eqF (tgt := 80) C dX1_subscribeWaiting_55 (by decide) (by decide) ?_
              refine jj_aload C dX1_subscribeWaiting_58 rfl ?_
              refine jj_lconst (v := 0) C dX1_subscribeWaiting_60 (by decide) ?_
              refine rl_put C hok_24 jk_7 3 (by decide) jw_1a2f98b2b0 (t := (1, (-9223372036854775808), 9223372036854775807)) ka_17 (by decide) rfl rfl rfl (tt_ja (0 : Int64)) rfl rfl dX1_subscribeWaiting_61 (fun pl_32 hok_33 tr hn tl => ?_)
              replace hf_8 := tr _ _ _ (Or.inl (tt_ne hk1 ka_17 (by decide))) hf_8
              replace hf_10 := tr _ _ _ (Or.inl (tt_ne hk1 ka_17 (by decide))) hf_10
              replace hf_14 := tr _ _ _ (Or.inl (tt_ne hk1 ka_17 (by decide))) hf_14
              replace hf_19 := tr _ _ _ (Or.inr (by decide)) hf_19
              have hf_34 := hn
              replace hfr := hfr.put ka_17 tr (by decide)
              replace hfa := hfa.all tl
              refine jj_iload_n C dX1_subscribeWaiting_64 rfl ?_
              refine jj_iconst (v := (-1)) C dX1_subscribeWaiting_65 (by decide) ?_
              refine jj_icmp_ne (tgt := 78) C dX1_subscribeWaiting_66 (by decide) (fun c_35 => ?_) (fun c_35 => ?_)
              · have z_c_35 := jc_neq (a := (x_7).toInt) (b := (-1)) c_35 rfl (by decide)
                refine jj_iload_n C dX1_subscribeWaiting_78 rfl ?_
                refine jj_istore_n C dX1_subscribeWaiting_79 (by decide) rfl ?_
                obtain ⟨x_36, ex_36, vx_36⟩ := tt_inc (x := x_6) (n := 1) (by omega) (by omega)
                refine jj_iinc (v := x_36) C dX1_subscribeWaiting_80 rfl ex_36 (by decide) rfl ?_
                refine jj_goto (tgt := 23) C dX1_subscribeWaiting_83 (by decide) ?_
                refine jj_loc [0, 1, 3, 4] rfl ?_
                exact ihL_5 pl_32 x_36 x_7 hok_33 hfr hfa hf_8 (by first | omega | decide | exact tt_lo _ | exact tt_hi _) (by first | omega | decide | exact tt_lo _ | exact tt_hi _) (by first | omega | decide | exact tt_lo _ | exact tt_hi _) (by first | omega | decide | exact tt_lo _ | exact tt_hi _) (by first | omega | decide | exact tt_lo _ | exact tt_hi _)
              · have z_c_35 := jc_eq (a := (x_7).toInt) (b := (-1)) c_35 rfl (by decide)
                refine jj_aload_n C dX1_subscribeWaiting_69 rfl ?_
                refine tt_get C hok_33 jk_2 7 (by decide) jw_1a34255153 (t := (0, 0, 6)) hk1 (by decide) rfl rfl dX1_subscribeWaiting_70 (fun v_37 hv_37 hf_38 => ?_)
                obtain ⟨x_39, rfl, lx_39, ux_39⟩ := tt_vi hv_37
                refine jj_iconst (v := 1) C dX1_subscribeWaiting_73 (by decide) ?_
                obtain ⟨x_40, ex_40, vx_40⟩ := tt_isub (x := x_39) (y := (1 : Int32)) (a := x_39.toInt) rfl (b := 1) (by decide) (by omega) (by omega)
                refine jj_isub (v := x_40) C dX1_subscribeWaiting_74 ex_40 ?_
                refine jj_goto (tgt := 79) C dX1_subscribeWaiting_75 (by decide) ?_
                refine jj_istore_n C dX1_subscribeWaiting_79 (by decide) rfl ?_
                obtain ⟨x_41, ex_41, vx_41⟩ := tt_inc (x := x_6) (n := 1) (by omega) (by omega)
                refine jj_iinc (v := x_41) C dX1_subscribeWaiting_80 rfl ex_41 (by decide) rfl ?_
                refine jj_goto (tgt := 23) C dX1_subscribeWaiting_83 (by decide) ?_
                refine jj_loc [0, 1, 3, 4] rfl ?_
                exact ihL_5 pl_32 x_41 x_40 hok_33 hfr hfa hf_8 (by first | omega | decide | exact tt_lo _ | exact tt_hi _) (by first | omega | decide | exact tt_lo _ | exact tt_hi _) (by first | omega | decide | exact tt_lo _ | exact tt_hi _) (by first | omega | decide | exact tt_lo _ | exact tt_hi _) (by first | omega | decide | exact tt_lo _ | exact tt_hi _)
    exact hL_5 _ pl0 (0 : Int32) ((-1) : Int32) trivial hok hfr hfa hf_2 (by first | omega | decide | exact tt_lo _ | exact tt_hi _) (by first | omega | decide | exact tt_lo _ | exact tt_hi _) (by first | omega | decide | exact tt_lo _ | exact tt_hi _) (by first | omega | decide | exact tt_lo _ | exact tt_hi _) (Int.self_le_toNat _)
  · have z_c_4 := jc_eq (a := (x_3).toInt) (b := (1)) c_4 rfl (by decide)
    refine jj_aload_n C dX1_subscribeWaiting_8 rfl ?_
    refine tt_get C hok jk_2 7 (by decide) jw_1a34255153 (t := (0, 0, 6)) hk1 (by decide) rfl rfl dX1_subscribeWaiting_9 (fun v_42 hv_42 hf_43 => ?_)
    obtain ⟨x_44, rfl, lx_44, ux_44⟩ := tt_vi hv_42
    refine jj_if_le (tgt := 19) C dX1_subscribeWaiting_12 (by decide) (fun c_45 => ?_) (fun c_45 => ?_)
    · have z_c_45 := jc_le (a := (x_44).toInt) (b := (0)) c_45 rfl (by decide)
      refine jj_iconst (v := (-1)) C dX1_subscribeWaiting_19 (by decide) ?_
      refine jj_istore_n C dX1_subscribeWaiting_20 (by decide) rfl ?_
      refine jj_iconst (v := 0) C dX1_subscribeWaiting_21 (by decide) ?_
      refine jj_istore_n C dX1_subscribeWaiting_22 (by decide) rfl ?_
      have hL_46 : ∀ (N : Nat) (pl : va_W) (x_47 : Int32) (x_48 : Int32), True → tt_ok tt_tk cA Kd pl → tt_fr Kd [(1, 6), (1, 7), (1, 8), (2, 0), (2, 1), (2, 2), (2, 3), (2, 4), (3, 0), (3, 1), (3, 2), (3, 3), (3, 4), (3, 5), (4, 3)] pl0 pl → tt_fa Kd [5] pl0 pl → tt_at pl h1 1 (.int x_3) → (0 : Int) ≤ x_47.toInt → x_47.toInt ≤ 12 → (-1 : Int) ≤ x_48.toInt → x_48.toInt ≤ 5 → (2147483648 - x_47.toInt ≤ (N : Int)) → jj_J p l e (jj_rm 3 82 0 0) s m args below meth c 5 A (vx_MQ below (jj_q D A (tt_O (fun rx pl1 r => rx = [] ∧ tt_ok tt_tk cA Kd pl1 ∧ tt_fr Kd [(1, 6), (1, 7), (1, 8), (2, 0), (2, 1), (2, 2), (2, 3), (2, 4), (3, 0), (3, 1), (3, 2), (3, 3), (3, 4), (3, 5), (4, 3)] pl0 pl1 ∧ tt_fa Kd [5] pl0 pl1 ∧ ((r = none))))) (jj_x D A (tt_OX (fun _ _ _ => False))) args s 0 0 A) (jj_X D A ([] ++ pl)) 0 0 23 [(3, .int x_47), (2, .int x_48), (0, .ref h0), (1, .ref h1)] [] := by
        intro NL_46
        induction NL_46 with
        | zero => intro pl x_47 x_48 _ hok hfr hfa hf_49 lx_47 ux_47 lx_48 ux_48 hNL_46; exfalso; omega
        | succ NL_46 ihL_46 =>
          intro pl x_47 x_48 _ hok hfr hfa hf_49 lx_47 ux_47 lx_48 ux_48 hNL_46
          replace ihL_46 := fun pl x_47 x_48 h1 => ihL_46 pl x_47 x_48 trivial h1
          refine jj_iload_n C dX1_subscribeWaiting_23 rfl ?_
          refine jj_aload_n C dX1_subscribeWaiting_24 rfl ?_
          refine tt_get C hok jk_2 9 (by decide) jw_106092f028 (t := (0, 0, 12)) hk1 (by decide) rfl rfl dX1_subscribeWaiting_25 (fun v_50 hv_50 hf_51 => ?_)
          obtain ⟨x_52, rfl, lx_52, ux_52⟩ := tt_vi hv_50
          refine jj_icmp_ge (tgt := 86) C dX1_subscribeWaiting_28 (by decide) (fun c_53 => ?_) (fun c_53 => ?_)
          · have z_c_53 := jc_le (a := (x_52).toInt) (b := (x_47).toInt) c_53 rfl rfl
            exact jj_vret C ⟨[], pl, rfl, rfl, hok, hfr, hfa, rfl⟩ dX1_subscribeWaiting_86 (jj_le rfl) (jj_le rfl)
          · have z_c_53 := jc_nle (a := (x_52).toInt) (b := (x_47).toInt) c_53 rfl rfl
            refine jj_aload_n C dX1_subscribeWaiting_31 rfl ?_
            refine tt_get C hok jk_2 13 (by decide) jw_cb3eb05d91 (t := (2, 8, 0)) hk1 (by decide) rfl rfl dX1_subscribeWaiting_32 (fun v_54 hv_54 hf_55 => ?_)
            obtain ⟨a_56, rfl, ka_56⟩ := tt_vr hv_54
            refine jj_iload_n C dX1_subscribeWaiting_35 rfl ?_
            refine tt_aald C hok (t := (2, 4, 0)) ka_56 (by decide) rfl rfl rfl (vp_in_iff.mpr ⟨by omega, by omega⟩) dX1_subscribeWaiting_36 (fun v_57 hv_57 => ?_)
            obtain ⟨a_58, rfl, ka_58⟩ := tt_vr hv_57
            refine jj_astore C dX1_subscribeWaiting_37 (by decide) rfl ?_
            refine jj_aload C dX1_subscribeWaiting_39 rfl ?_
            refine tt_get C hok jk_7 2 (by decide) jw_500886c681 (t := (0, 0, 1)) ka_58 (by decide) rfl rfl dX1_subscribeWaiting_41 (fun v_59 hv_59 hf_60 => ?_)
            obtain ⟨x_61, rfl, lx_61, ux_61⟩ := tt_vi hv_59
            refine jj_if_ne (tgt := 80) C dX1_subscribeWaiting_44 (by decide) (fun c_62 => ?_) (fun c_62 => ?_)
            · have z_c_62 := jc_neq (a := (x_61).toInt) (b := (0)) c_62 rfl (by decide)
              obtain ⟨x_63, ex_63, vx_63⟩ := tt_inc (x := x_47) (n := 1) (by omega) (by omega)
              refine jj_iinc (v := x_63) C dX1_subscribeWaiting_80 rfl ex_63 (by decide) rfl ?_
              refine jj_goto (tgt := 23) C dX1_subscribeWaiting_83 (by decide) ?_
              refine jj_loc [0, 2, 3, 4] rfl ?_
              exact ihL_46 pl x_63 x_48 hok hfr hfa hf_49 (by first | omega | decide | exact tt_lo _ | exact tt_hi _) (by first | omega | decide | exact tt_lo _ | exact tt_hi _) (by first | omega | decide | exact tt_lo _ | exact tt_hi _) (by first | omega | decide | exact tt_lo _ | exact tt_hi _) (by first | omega | decide | exact tt_lo _ | exact tt_hi _)
            · have z_c_62 := jc_eq (a := (x_61).toInt) (b := (0)) c_62 rfl (by decide)
              refine jj_aload_n C dX1_subscribeWaiting_47 rfl ?_
              refine jj_aload_n C dX1_subscribeWaiting_48 rfl ?_
              refine jj_aload C dX1_subscribeWaiting_49 rfl ?_
              refine jj_iload_n C dX1_subscribeWaiting_51 rfl ?_
              obtain ⟨qc, gs, hqc⟩ := tt_recv (cx := []) hok hk0 (by decide) rfl
              refine tt_callV (rest := []) C (tc_X1_takeIn_2 hl D cA ak h0 h1 a_58 x_48 hk0 hk1 ka_58 (by omega) (by omega) hok) [] [] rfl rfl (by decide) (by decide) (by decide) qc hqc rfl rfl jw_f8b562a13a jw_21a15b8ce7 jw_132c0f9459 jw_944cf9c3ab jw_ab8304a739 jn_X1_takeIn rfl (jj_le rfl) (jj_le rfl) (jj_le rfl) (jj_le rfl) (jj_le rfl) dX1_subscribeWaiting_52 rfl (fun _ _ _ hX => hX.elim) (fun rx pl_64 r O_67 => ?_)
              obtain ⟨rfl, hok_65, hr_66, hfa9, hR_69⟩ := O_67
              replace hf_49 := hr_66.at hk1 (by decide) (by decide) hf_49
              replace hf_51 := hr_66.at hk1 (by decide) (by decide) hf_51
              replace hf_55 := hr_66.at hk1 (by decide) (by decide) hf_55
              replace hf_60 := hr_66.at ka_58 (by decide) (by decide) hf_60
              replace hfr := hfr.trans (hr_66.sub (by decide))
              replace hfa := hfa.trans (hfa9.sub (by decide))
              rcases hR_69 with rfl | rfl
              · refine jj_if_eqT (tgt := 80) C dX1_subscribeWaiting_55 (by decide) (by decide) ?_
                obtain ⟨x_72, ex_72, vx_72⟩ := tt_inc (x := x_47) (n := 1) (by omega) (by omega)
                refine jj_iinc (v := x_72) C dX1_subscribeWaiting_80 rfl ex_72 (by decide) rfl ?_
                refine jj_goto (tgt := 23) C dX1_subscribeWaiting_83 (by decide) ?_
                refine jj_loc [0, 2, 3, 4] rfl ?_
                exact ihL_46 pl_64 x_72 x_48 hok_65 hfr hfa hf_49 (by first | omega | decide | exact tt_lo _ | exact tt_hi _) (by first | omega | decide | exact tt_lo _ | exact tt_hi _) (by first | omega | decide | exact tt_lo _ | exact tt_hi _) (by first | omega | decide | exact tt_lo _ | exact tt_hi _) (by first | omega | decide | exact tt_lo _ | exact tt_hi _)
              · refine jj_if_eqF (tgt := 80) C dX1_subscribeWaiting_55 (by decide) (by decide) ?_
                refine jj_aload C dX1_subscribeWaiting_58 rfl ?_
                refine jj_lconst (v := 0) C dX1_subscribeWaiting_60 (by decide) ?_
                refine rl_put C hok_65 jk_7 3 (by decide) jw_1a2f98b2b0 (t := (1, (-9223372036854775808), 9223372036854775807)) ka_58 (by decide) rfl rfl rfl (tt_ja (0 : Int64)) rfl rfl dX1_subscribeWaiting_61 (fun pl_73 hok_74 tr hn tl => ?_)
                replace hf_49 := tr _ _ _ (Or.inl (tt_ne hk1 ka_58 (by decide))) hf_49
                replace hf_51 := tr _ _ _ (Or.inl (tt_ne hk1 ka_58 (by decide))) hf_51
                replace hf_55 := tr _ _ _ (Or.inl (tt_ne hk1 ka_58 (by decide))) hf_55
                replace hf_60 := tr _ _ _ (Or.inr (by decide)) hf_60
                have hf_75 := hn
                replace hfr := hfr.put ka_58 tr (by decide)
                replace hfa := hfa.all tl
                refine jj_iload_n C dX1_subscribeWaiting_64 rfl ?_
                refine jj_iconst (v := (-1)) C dX1_subscribeWaiting_65 (by decide) ?_
                refine jj_icmp_ne (tgt := 78) C dX1_subscribeWaiting_66 (by decide) (fun c_76 => ?_) (fun c_76 => ?_)
                · have z_c_76 := jc_neq (a := (x_48).toInt) (b := (-1)) c_76 rfl (by decide)
                  refine jj_iload_n C dX1_subscribeWaiting_78 rfl ?_
                  refine jj_istore_n C dX1_subscribeWaiting_79 (by decide) rfl ?_
                  obtain ⟨x_77, ex_77, vx_77⟩ := tt_inc (x := x_47) (n := 1) (by omega) (by omega)
                  refine jj_iinc (v := x_77) C dX1_subscribeWaiting_80 rfl ex_77 (by decide) rfl ?_
                  refine jj_goto (tgt := 23) C dX1_subscribeWaiting_83 (by decide) ?_
                  refine jj_loc [0, 1, 3, 4] rfl ?_
                  exact ihL_46 pl_73 x_77 x_48 hok_74 hfr hfa hf_49 (by first | omega | decide | exact tt_lo _ | exact tt_hi _) (by first | omega | decide | exact tt_lo _ | exact tt_hi _) (by first | omega | decide | exact tt_lo _ | exact tt_hi _) (by first | omega | decide | exact tt_lo _ | exact tt_hi _) (by first | omega | decide | exact tt_lo _ | exact tt_hi _)
                · have z_c_76 := jc_eq (a := (x_48).toInt) (b := (-1)) c_76 rfl (by decide)
                  refine jj_aload_n C dX1_subscribeWaiting_69 rfl ?_
                  refine tt_get C hok_74 jk_2 7 (by decide) jw_1a34255153 (t := (0, 0, 6)) hk1 (by decide) rfl rfl dX1_subscribeWaiting_70 (fun v_78 hv_78 hf_79 => ?_)
                  obtain ⟨x_80, rfl, lx_80, ux_80⟩ := tt_vi hv_78
                  refine jj_iconst (v := 1) C dX1_subscribeWaiting_73 (by decide) ?_
                  obtain ⟨x_81, ex_81, vx_81⟩ := tt_isub (x := x_80) (y := (1 : Int32)) (a := x_80.toInt) rfl (b := 1) (by decide) (by omega) (by omega)
                  refine jj_isub (v := x_81) C dX1_subscribeWaiting_74 ex_81 ?_
                  refine jj_goto (tgt := 79) C dX1_subscribeWaiting_75 (by decide) ?_
                  refine jj_istore_n C dX1_subscribeWaiting_79 (by decide) rfl ?_
                  obtain ⟨x_82, ex_82, vx_82⟩ := tt_inc (x := x_47) (n := 1) (by omega) (by omega)
                  refine jj_iinc (v := x_82) C dX1_subscribeWaiting_80 rfl ex_82 (by decide) rfl ?_
                  refine jj_goto (tgt := 23) C dX1_subscribeWaiting_83 (by decide) ?_
                  refine jj_loc [0, 1, 3, 4] rfl ?_
                  exact ihL_46 pl_73 x_82 x_81 hok_74 hfr hfa hf_49 (by first | omega | decide | exact tt_lo _ | exact tt_hi _) (by first | omega | decide | exact tt_lo _ | exact tt_hi _) (by first | omega | decide | exact tt_lo _ | exact tt_hi _) (by first | omega | decide | exact tt_lo _ | exact tt_hi _) (by first | omega | decide | exact tt_lo _ | exact tt_hi _)
      exact hL_46 _ pl0 (0 : Int32) ((-1) : Int32) trivial hok hfr hfa hf_2 (by first | omega | decide | exact tt_lo _ | exact tt_hi _) (by first | omega | decide | exact tt_lo _ | exact tt_hi _) (by first | omega | decide | exact tt_lo _ | exact tt_hi _) (by first | omega | decide | exact tt_lo _ | exact tt_hi _) (Int.self_le_toNat _)
    · have z_c_45 := jc_nle (a := (x_44).toInt) (b := (0)) c_45 rfl (by decide)
      refine jj_iconst (v := 0) C dX1_subscribeWaiting_15 (by decide) ?_
      refine jj_goto (tgt := 20) C dX1_subscribeWaiting_16 (by decide) ?_
      refine jj_istore_n C dX1_subscribeWaiting_20 (by decide) rfl ?_
      refine jj_iconst (v := 0) C dX1_subscribeWaiting_21 (by decide) ?_
      refine jj_istore_n C dX1_subscribeWaiting_22 (by decide) rfl ?_
      have hL_83 : ∀ (N : Nat) (pl : va_W) (x_84 : Int32) (x_85 : Int32), True → tt_ok tt_tk cA Kd pl → tt_fr Kd [(1, 6), (1, 7), (1, 8), (2, 0), (2, 1), (2, 2), (2, 3), (2, 4), (3, 0), (3, 1), (3, 2), (3, 3), (3, 4), (3, 5), (4, 3)] pl0 pl → tt_fa Kd [5] pl0 pl → tt_at pl h1 1 (.int x_3) → (0 : Int) ≤ x_84.toInt → x_84.toInt ≤ 12 → (-1 : Int) ≤ x_85.toInt → x_85.toInt ≤ 5 → (2147483648 - x_84.toInt ≤ (N : Int)) → jj_J p l e (jj_rm 3 82 0 0) s m args below meth c 5 A (vx_MQ below (jj_q D A (tt_O (fun rx pl1 r => rx = [] ∧ tt_ok tt_tk cA Kd pl1 ∧ tt_fr Kd [(1, 6), (1, 7), (1, 8), (2, 0), (2, 1), (2, 2), (2, 3), (2, 4), (3, 0), (3, 1), (3, 2), (3, 3), (3, 4), (3, 5), (4, 3)] pl0 pl1 ∧ tt_fa Kd [5] pl0 pl1 ∧ ((r = none))))) (jj_x D A (tt_OX (fun _ _ _ => False))) args s 0 0 A) (jj_X D A ([] ++ pl)) 0 0 23 [(3, .int x_84), (2, .int x_85), (0, .ref h0), (1, .ref h1)] [] := by
        intro NL_83
        induction NL_83 with
        | zero => intro pl x_84 x_85 _ hok hfr hfa hf_86 lx_84 ux_84 lx_85 ux_85 hNL_83; exfalso; omega
        | succ NL_83 ihL_83 =>
          intro pl x_84 x_85 _ hok hfr hfa hf_86 lx_84 ux_84 lx_85 ux_85 hNL_83
          replace ihL_83 := fun pl x_84 x_85 h1 => ihL_83 pl x_84 x_85 trivial h1
          refine jj_iload_n C dX1_subscribeWaiting_23 rfl ?_
          refine jj_aload_n C dX1_subscribeWaiting_24 rfl ?_
          refine tt_get C hok jk_2 9 (by decide) jw_106092f028 (t := (0, 0, 12)) hk1 (by decide) rfl rfl dX1_subscribeWaiting_25 (fun v_87 hv_87 hf_88 => ?_)
          obtain ⟨x_89, rfl, lx_89, ux_89⟩ := tt_vi hv_87
          refine jj_icmp_ge (tgt := 86) C dX1_subscribeWaiting_28 (by decide) (fun c_90 => ?_) (fun c_90 => ?_)
          · have z_c_90 := jc_le (a := (x_89).toInt) (b := (x_84).toInt) c_90 rfl rfl
            exact jj_vret C ⟨[], pl, rfl, rfl, hok, hfr, hfa, rfl⟩ dX1_subscribeWaiting_86 (jj_le rfl) (jj_le rfl)
          · have z_c_90 := jc_nle (a := (x_89).toInt) (b := (x_84).toInt) c_90 rfl rfl
            refine jj_aload_n C dX1_subscribeWaiting_31 rfl ?_
            refine tt_get C hok jk_2 13 (by decide) jw_cb3eb05d91 (t := (2, 8, 0)) hk1 (by decide) rfl rfl dX1_subscribeWaiting_32 (fun v_91 hv_91 hf_92 => ?_)
            obtain ⟨a_93, rfl, ka_93⟩ := tt_vr hv_91
            refine jj_iload_n C dX1_subscribeWaiting_35 rfl ?_
            refine tt_aald C hok (t := (2, 4, 0)) ka_93 (by decide) rfl rfl rfl (vp_in_iff.mpr ⟨by omega, by omega⟩) dX1_subscribeWaiting_36 (fun v_94 hv_94 => ?_)
            obtain ⟨a_95, rfl, ka_95⟩ := tt_vr hv_94
            refine jj_astore C dX1_subscribeWaiting_37 (by decide) rfl ?_
            refine jj_aload C dX1_subscribeWaiting_39 rfl ?_
            refine tt_get C hok jk_7 2 (by decide) jw_500886c681 (t := (0, 0, 1)) ka_95 (by decide) rfl rfl dX1_subscribeWaiting_41 (fun v_96 hv_96 hf_97 => ?_)
            obtain ⟨x_98, rfl, lx_98, ux_98⟩ := tt_vi hv_96
            refine jj_if_ne (tgt := 80) C dX1_subscribeWaiting_44 (by decide) (fun c_99 => ?_) (fun c_99 => ?_)
            · have z_c_99 := jc_neq (a := (x_98).toInt) (b := (0)) c_99 rfl (by decide)
              obtain ⟨x_100, ex_100, vx_100⟩ := tt_inc (x := x_84) (n := 1) (by omega) (by omega)
              refine jj_iinc (v := x_100) C dX1_subscribeWaiting_80 rfl ex_100 (by decide) rfl ?_
              refine jj_goto (tgt := 23) C dX1_subscribeWaiting_83 (by decide) ?_
              refine jj_loc [0, 2, 3, 4] rfl ?_
              exact ihL_83 pl x_100 x_85 hok hfr hfa hf_86 (by first | omega | decide | exact tt_lo _ | exact tt_hi _) (by first | omega | decide | exact tt_lo _ | exact tt_hi _) (by first | omega | decide | exact tt_lo _ | exact tt_hi _) (by first | omega | decide | exact tt_lo _ | exact tt_hi _) (by first | omega | decide | exact tt_lo _ | exact tt_hi _)
            · have z_c_99 := jc_eq (a := (x_98).toInt) (b := (0)) c_99 rfl (by decide)
              refine jj_aload_n C dX1_subscribeWaiting_47 rfl ?_
              refine jj_aload_n C dX1_subscribeWaiting_48 rfl ?_
              refine jj_aload C dX1_subscribeWaiting_49 rfl ?_
              refine jj_iload_n C dX1_subscribeWaiting_51 rfl ?_
              obtain ⟨qc, gs, hqc⟩ := tt_recv (cx := []) hok hk0 (by decide) rfl
              refine tt_callV (rest := []) C (tc_X1_takeIn_2 hl D cA ak h0 h1 a_95 x_85 hk0 hk1 ka_95 (by omega) (by omega) hok) [] [] rfl rfl (by decide) (by decide) (by decide) qc hqc rfl rfl jw_f8b562a13a jw_21a15b8ce7 jw_132c0f9459 jw_944cf9c3ab jw_ab8304a739 jn_X1_takeIn rfl (jj_le rfl) (jj_le rfl) (jj_le rfl) (jj_le rfl) (jj_le rfl) dX1_subscribeWaiting_52 rfl (fun _ _ _ hX => hX.elim) (fun rx pl_101 r O_104 => ?_)
              obtain ⟨rfl, hok_102, hr_103, hfa9, hR_106⟩ := O_104
              replace hf_86 := hr_103.at hk1 (by decide) (by decide) hf_86
              replace hf_88 := hr_103.at hk1 (by decide) (by decide) hf_88
              replace hf_92 := hr_103.at hk1 (by decide) (by decide) hf_92
              replace hf_97 := hr_103.at ka_95 (by decide) (by decide) hf_97
              replace hfr := hfr.trans (hr_103.sub (by decide))
              replace hfa := hfa.trans (hfa9.sub (by decide))
              rcases hR_106 with rfl | rfl
              · refine jj_if_eqT (tgt := 80) C dX1_subscribeWaiting_55 (by decide) (by decide) ?_
                obtain ⟨x_109, ex_109, vx_109⟩ := tt_inc (x := x_84) (n := 1) (by omega) (by omega)
                refine jj_iinc (v := x_109) C dX1_subscribeWaiting_80 rfl ex_109 (by decide) rfl ?_
                refine jj_goto (tgt := 23) C dX1_subscribeWaiting_83 (by decide) ?_
                refine jj_loc [0, 2, 3, 4] rfl ?_
                exact ihL_83 pl_101 x_109 x_85 hok_102 hfr hfa hf_86 (by first | omega | decide | exact tt_lo _ | exact tt_hi _) (by first | omega | decide | exact tt_lo _ | exact tt_hi _) (by first | omega | decide | exact tt_lo _ | exact tt_hi _) (by first | omega | decide | exact tt_lo _ | exact tt_hi _) (by first | omega | decide | exact tt_lo _ | exact tt_hi _)
              · refine jj_if_eqF (tgt := 80) C dX1_subscribeWaiting_55 (by decide) (by decide) ?_
                refine jj_aload C dX1_subscribeWaiting_58 rfl ?_
                refine jj_lconst (v := 0) C dX1_subscribeWaiting_60 (by decide) ?_
                refine rl_put C hok_102 jk_7 3 (by decide) jw_1a2f98b2b0 (t := (1, (-9223372036854775808), 9223372036854775807)) ka_95 (by decide) rfl rfl rfl (tt_ja (0 : Int64)) rfl rfl dX1_subscribeWaiting_61 (fun pl_110 hok_111 tr hn tl => ?_)
                replace hf_86 := tr _ _ _ (Or.inl (tt_ne hk1 ka_95 (by decide))) hf_86
                replace hf_88 := tr _ _ _ (Or.inl (tt_ne hk1 ka_95 (by decide))) hf_88
                replace hf_92 := tr _ _ _ (Or.inl (tt_ne hk1 ka_95 (by decide))) hf_92
                replace hf_97 := tr _ _ _ (Or.inr (by decide)) hf_97
                have hf_112 := hn
                replace hfr := hfr.put ka_95 tr (by decide)
                replace hfa := hfa.all tl
                refine jj_iload_n C dX1_subscribeWaiting_64 rfl ?_
                refine jj_iconst (v := (-1)) C dX1_subscribeWaiting_65 (by decide) ?_
                refine jj_icmp_ne (tgt := 78) C dX1_subscribeWaiting_66 (by decide) (fun c_113 => ?_) (fun c_113 => ?_)
                · have z_c_113 := jc_neq (a := (x_85).toInt) (b := (-1)) c_113 rfl (by decide)
                  refine jj_iload_n C dX1_subscribeWaiting_78 rfl ?_
                  refine jj_istore_n C dX1_subscribeWaiting_79 (by decide) rfl ?_
                  obtain ⟨x_114, ex_114, vx_114⟩ := tt_inc (x := x_84) (n := 1) (by omega) (by omega)
                  refine jj_iinc (v := x_114) C dX1_subscribeWaiting_80 rfl ex_114 (by decide) rfl ?_
                  refine jj_goto (tgt := 23) C dX1_subscribeWaiting_83 (by decide) ?_
                  refine jj_loc [0, 1, 3, 4] rfl ?_
                  exact ihL_83 pl_110 x_114 x_85 hok_111 hfr hfa hf_86 (by first | omega | decide | exact tt_lo _ | exact tt_hi _) (by first | omega | decide | exact tt_lo _ | exact tt_hi _) (by first | omega | decide | exact tt_lo _ | exact tt_hi _) (by first | omega | decide | exact tt_lo _ | exact tt_hi _) (by first | omega | decide | exact tt_lo _ | exact tt_hi _)
                · have z_c_113 := jc_eq (a := (x_85).toInt) (b := (-1)) c_113 rfl (by decide)
                  refine jj_aload_n C dX1_subscribeWaiting_69 rfl ?_
                  refine tt_get C hok_111 jk_2 7 (by decide) jw_1a34255153 (t := (0, 0, 6)) hk1 (by decide) rfl rfl dX1_subscribeWaiting_70 (fun v_115 hv_115 hf_116 => ?_)
                  obtain ⟨x_117, rfl, lx_117, ux_117⟩ := tt_vi hv_115
                  refine jj_iconst (v := 1) C dX1_subscribeWaiting_73 (by decide) ?_
                  obtain ⟨x_118, ex_118, vx_118⟩ := tt_isub (x := x_117) (y := (1 : Int32)) (a := x_117.toInt) rfl (b := 1) (by decide) (by omega) (by omega)
                  refine jj_isub (v := x_118) C dX1_subscribeWaiting_74 ex_118 ?_
                  refine jj_goto (tgt := 79) C dX1_subscribeWaiting_75 (by decide) ?_
                  refine jj_istore_n C dX1_subscribeWaiting_79 (by decide) rfl ?_
                  obtain ⟨x_119, ex_119, vx_119⟩ := tt_inc (x := x_84) (n := 1) (by omega) (by omega)
                  refine jj_iinc (v := x_119) C dX1_subscribeWaiting_80 rfl ex_119 (by decide) rfl ?_
                  refine jj_goto (tgt := 23) C dX1_subscribeWaiting_83 (by decide) ?_
                  refine jj_loc [0, 1, 3, 4] rfl ?_
                  exact ihL_83 pl_110 x_119 x_118 hok_111 hfr hfa hf_86 (by first | omega | decide | exact tt_lo _ | exact tt_hi _) (by first | omega | decide | exact tt_lo _ | exact tt_hi _) (by first | omega | decide | exact tt_lo _ | exact tt_hi _) (by first | omega | decide | exact tt_lo _ | exact tt_hi _) (by first | omega | decide | exact tt_lo _ | exact tt_hi _)
      exact hL_83 _ pl0 (0 : Int32) (0 : Int32) trivial hok hfr hfa hf_2 (by first | omega | decide | exact tt_lo _ | exact tt_hi _) (by first | omega | decide | exact tt_lo _ | exact tt_hi _) (by first | omega | decide | exact tt_lo _ | exact tt_hi _) (by first | omega | decide | exact tt_lo _ | exact tt_hi _) (Int.self_le_toNat _)

set_option maxHeartbeats 4000000 in
set_option maxRecDepth 100000 in
theorem tc_X0_doneBefore_1 {l : Launch} (hl : l.stackTraces = false) (D : va_G) (cA : Nat → ClassId) (ak : (Nat → Nat) × (Nat → Nat)) {Kd : Nat → Nat} (h0 : Nat) (p1 : Int32) (hk0 : Kd h0 = 1) (lp1 : (0 : Int) ≤ p1.toInt) (up1 : p1.toInt ≤ 11) {pl0 : va_W} (hok : tt_ok tt_tk cA Kd pl0) : jj_M l D cA ak yX0_doneBefore (.code yX0_doneBefore cX0_doneBefore 4 (some .int)) 0 0 0 0 ([] ++ pl0) [.ref h0, .int p1] (tt_O (fun rx pl1 r => rx = [] ∧ tt_ok tt_tk cA Kd pl1 ∧ tt_fr Kd [] pl0 pl1 ∧ tt_fa Kd [] pl0 pl1 ∧ ((∃ v : Int32, (-2147483648 : Int) ≤ v.toInt ∧ v.toInt ≤ 2147483647 ∧ r = some (.int v))))) (tt_OX (fun _ _ _ => False)) := by
  refine jj_start hl (by decide) jw_470e53a243 (jj_le rfl) ?_
  intro p e s m args below meth c A hargs hA C hex hmn
  have hfr := tt_fr.refl (K := Kd) (WS := []) pl0
  have hfa := tt_fa.refl (K := Kd) (WA := []) pl0
  refine jj_iconst (v := 0) C dX0_doneBefore_0 (by decide) ?_
  refine jj_istore_n C dX0_doneBefore_1 (by decide) rfl ?_
  refine jj_iconst (v := 0) C dX0_doneBefore_2 (by decide) ?_
  refine jj_istore_n C dX0_doneBefore_3 (by decide) rfl ?_
  have hL_1 : ∀ (N : Nat) (pl : va_W) (x_2 : Int32) (x_3 : Int32), True → tt_ok tt_tk cA Kd pl → tt_fr Kd [] pl0 pl → tt_fa Kd [] pl0 pl → (0 : Int) ≤ x_2.toInt → x_2.toInt ≤ 11 → (-2147483648 : Int) ≤ x_3.toInt → x_3.toInt ≤ 2147483647 → (2147483648 - x_2.toInt ≤ (N : Int)) → jj_J p l e (jj_rm 0 0 0 0) s m args below meth c 4 A (vx_MQ below (jj_q D A (tt_O (fun rx pl1 r => rx = [] ∧ tt_ok tt_tk cA Kd pl1 ∧ tt_fr Kd [] pl0 pl1 ∧ tt_fa Kd [] pl0 pl1 ∧ ((∃ v : Int32, (-2147483648 : Int) ≤ v.toInt ∧ v.toInt ≤ 2147483647 ∧ r = some (.int v)))))) (jj_x D A (tt_OX (fun _ _ _ => False))) args s 0 0 A) (jj_X D A ([] ++ pl)) 0 0 4 [(3, .int x_2), (2, .int x_3), (0, .ref h0), (1, .int p1)] [] := by
    intro NL_1
    induction NL_1 with
    | zero => intro pl x_2 x_3 _ hok hfr hfa lx_2 ux_2 lx_3 ux_3 hNL_1; exfalso; omega
    | succ NL_1 ihL_1 =>
      intro pl x_2 x_3 _ hok hfr hfa lx_2 ux_2 lx_3 ux_3 hNL_1
      replace ihL_1 := fun pl x_2 x_3 h1 => ihL_1 pl x_2 x_3 trivial h1
      refine jj_iload_n C dX0_doneBefore_4 rfl ?_
      refine jj_iload_n C dX0_doneBefore_5 rfl ?_
      refine jj_icmp_ge (tgt := 40) C dX0_doneBefore_6 (by decide) (fun c_4 => ?_) (fun c_4 => ?_)
      · have z_c_4 := jc_le (a := (p1).toInt) (b := (x_2).toInt) c_4 rfl rfl
        refine jj_iload_n C dX0_doneBefore_40 rfl ?_
        exact jj_iret C ⟨[], pl, rfl, rfl, hok, hfr, hfa, ⟨x_3, (by first | omega | exact tt_lo _ | exact tt_hi _), (by first | omega | exact tt_lo _ | exact tt_hi _), rfl⟩⟩ dX0_doneBefore_41 (jj_le rfl) (jj_le rfl)
      · have z_c_4 := jc_nle (a := (p1).toInt) (b := (x_2).toInt) c_4 rfl rfl
        refine jj_iload_n C dX0_doneBefore_9 rfl ?_
        refine jj_aload_n C dX0_doneBefore_10 rfl ?_
        refine tt_get C hok jk_2 9 (by decide) jw_a6a6052378 (t := (0, 0, 12)) hk0 (by decide) rfl rfl dX0_doneBefore_11 (fun v_5 hv_5 hf_6 => ?_)
        obtain ⟨x_7, rfl, lx_7, ux_7⟩ := tt_vi hv_5
        refine jj_icmp_ge (tgt := 40) C dX0_doneBefore_14 (by decide) (fun c_8 => ?_) (fun c_8 => ?_)
        · have z_c_8 := jc_le (a := (x_7).toInt) (b := (x_2).toInt) c_8 rfl rfl
          refine jj_iload_n C dX0_doneBefore_40 rfl ?_
          exact jj_iret C ⟨[], pl, rfl, rfl, hok, hfr, hfa, ⟨x_3, (by first | omega | exact tt_lo _ | exact tt_hi _), (by first | omega | exact tt_lo _ | exact tt_hi _), rfl⟩⟩ dX0_doneBefore_41 (jj_le rfl) (jj_le rfl)
        · have z_c_8 := jc_nle (a := (x_7).toInt) (b := (x_2).toInt) c_8 rfl rfl
          refine jj_aload_n C dX0_doneBefore_17 rfl ?_
          refine tt_get C hok jk_2 13 (by decide) jw_241b9bc751 (t := (2, 8, 0)) hk0 (by decide) rfl rfl dX0_doneBefore_18 (fun v_9 hv_9 hf_10 => ?_)
          obtain ⟨a_11, rfl, ka_11⟩ := tt_vr hv_9
          refine jj_iload_n C dX0_doneBefore_21 rfl ?_
          refine tt_aald C hok (t := (2, 4, 0)) ka_11 (by decide) rfl rfl rfl (vp_in_iff.mpr ⟨by omega, by omega⟩) dX0_doneBefore_22 (fun v_12 hv_12 => ?_)
          obtain ⟨a_13, rfl, ka_13⟩ := tt_vr hv_12
          refine tt_get C hok jk_7 3 (by decide) jw_bfa82f796d (t := (1, (-9223372036854775808), 9223372036854775807)) ka_13 (by decide) rfl rfl dX0_doneBefore_23 (fun v_14 hv_14 hf_15 => ?_)
          obtain ⟨y_16, rfl, -, -⟩ := tt_vj hv_14
          refine jj_lconst (v := 0) C dX0_doneBefore_26 (by decide) ?_
          refine jj_lcmp_ne (tgt := 34) C dX0_doneBefore_27 dX0_doneBefore_28 (by decide) (fun c_17 => ?_) (fun c_17 => ?_)
          · obtain ⟨x_18, ex_18, vx_18⟩ := tt_inc (x := x_2) (n := 1) (by omega) (by omega)
            refine jj_iinc (v := x_18) C dX0_doneBefore_34 rfl ex_18 (by decide) rfl ?_
            refine jj_goto (tgt := 4) C dX0_doneBefore_37 (by decide) ?_
            exact ihL_1 pl x_18 x_3 hok hfr hfa (by first | omega | decide | exact tt_lo _ | exact tt_hi _) (by first | omega | decide | exact tt_lo _ | exact tt_hi _) (by first | omega | decide | exact tt_lo _ | exact tt_hi _) (by first | omega | decide | exact tt_lo _ | exact tt_hi _) (by first | omega | decide | exact tt_lo _ | exact tt_hi _)
          · obtain ⟨x_19, ex_19⟩ : ∃ z : Int32, x_3 + Int32.ofInt 1 = z := ⟨_, rfl⟩
            refine jj_iinc (v := x_19) C dX0_doneBefore_31 rfl ex_19 (by decide) rfl ?_
            obtain ⟨x_20, ex_20, vx_20⟩ := tt_inc (x := x_2) (n := 1) (by omega) (by omega)
            refine jj_iinc (v := x_20) C dX0_doneBefore_34 rfl ex_20 (by decide) rfl ?_
            refine jj_goto (tgt := 4) C dX0_doneBefore_37 (by decide) ?_
            exact ihL_1 pl x_20 x_19 hok hfr hfa (by first | omega | decide | exact tt_lo _ | exact tt_hi _) (by first | omega | decide | exact tt_lo _ | exact tt_hi _) (by first | omega | decide | exact tt_lo _ | exact tt_hi _) (by first | omega | decide | exact tt_lo _ | exact tt_hi _) (by first | omega | decide | exact tt_lo _ | exact tt_hi _)
  exact hL_1 _ pl0 (0 : Int32) (0 : Int32) trivial hok hfr hfa (by first | omega | decide | exact tt_lo _ | exact tt_hi _) (by first | omega | decide | exact tt_lo _ | exact tt_hi _) (by first | omega | decide | exact tt_lo _ | exact tt_hi _) (by first | omega | decide | exact tt_lo _ | exact tt_hi _) (Int.self_le_toNat _)

set_option maxHeartbeats 4000000 in
set_option maxRecDepth 100000 in
theorem tc_X0_dropDoneRequests_1 {l : Launch} (hl : l.stackTraces = false) (D : va_G) (cA : Nat → ClassId) (ak : (Nat → Nat) × (Nat → Nat)) {Kd : Nat → Nat} (h0 : Nat) (hk0 : Kd h0 = 1) {pl0 : va_W} (hok : tt_ok tt_tk cA Kd pl0) : jj_M l D cA ak yX0_dropDoneRequests (.code yX0_dropDoneRequests cX0_dropDoneRequests 4 (some .int)) 0 0 0 0 ([] ++ pl0) [.ref h0] (tt_O (fun rx pl1 r => rx = [] ∧ tt_ok tt_tk cA Kd pl1 ∧ tt_fr Kd [(1, 9)] pl0 pl1 ∧ tt_fa Kd [] pl0 pl1 ∧ ((∃ v : Int32, (-12 : Int) ≤ v.toInt ∧ v.toInt ≤ 12 ∧ r = some (.int v))))) (tt_OX (fun _ _ _ => False)) := by
  refine jj_start hl (by decide) jw_77bdbcf71c (jj_le rfl) ?_
  intro p e s m args below meth c A hargs hA C hex hmn
  have hfr := tt_fr.refl (K := Kd) (WS := [(1, 9)]) pl0
  have hfa := tt_fa.refl (K := Kd) (WA := []) pl0
  refine jj_iconst (v := 0) C dX0_dropDoneRequests_0 (by decide) ?_
  refine jj_istore_n C dX0_dropDoneRequests_1 (by decide) rfl ?_
  refine jj_iconst (v := 0) C dX0_dropDoneRequests_2 (by decide) ?_
  refine jj_istore_n C dX0_dropDoneRequests_3 (by decide) rfl ?_
  have hL_1 : ∀ (N : Nat) (pl : va_W) (x_2 : Int32) (x_3 : Int32), True → tt_ok tt_tk cA Kd pl → tt_fr Kd [(1, 9)] pl0 pl → tt_fa Kd [] pl0 pl → (0 : Int) ≤ x_2.toInt → x_2.toInt ≤ 12 → (0 : Int) ≤ x_3.toInt → x_3.toInt ≤ 12 → x_3.toInt ≤ x_2.toInt → (2147483648 - x_2.toInt ≤ (N : Int)) → jj_J p l e (jj_rm 0 0 0 0) s m args below meth c 4 A (vx_MQ below (jj_q D A (tt_O (fun rx pl1 r => rx = [] ∧ tt_ok tt_tk cA Kd pl1 ∧ tt_fr Kd [(1, 9)] pl0 pl1 ∧ tt_fa Kd [] pl0 pl1 ∧ ((∃ v : Int32, (-12 : Int) ≤ v.toInt ∧ v.toInt ≤ 12 ∧ r = some (.int v)))))) (jj_x D A (tt_OX (fun _ _ _ => False))) args s 0 0 A) (jj_X D A ([] ++ pl)) 0 0 4 [(2, .int x_2), (1, .int x_3), (0, .ref h0)] [] := by
    intro NL_1
    induction NL_1 with
    | zero => intro pl x_2 x_3 _ hok hfr hfa lx_2 ux_2 lx_3 ux_3 r1_2 hNL_1; exfalso; omega
    | succ NL_1 ihL_1 =>
      intro pl x_2 x_3 _ hok hfr hfa lx_2 ux_2 lx_3 ux_3 r1_2 hNL_1
      replace ihL_1 := fun pl x_2 x_3 h1 => ihL_1 pl x_2 x_3 trivial h1
      refine jj_iload_n C dX0_dropDoneRequests_4 rfl ?_
      refine jj_aload_n C dX0_dropDoneRequests_5 rfl ?_
      refine tt_get C hok jk_2 9 (by decide) jw_a6a6052378 (t := (0, 0, 12)) hk0 (by decide) rfl rfl dX0_dropDoneRequests_6 (fun v_4 hv_4 hf_5 => ?_)
      obtain ⟨x_6, rfl, lx_6, ux_6⟩ := tt_vi hv_4
      refine jj_icmp_ge (tgt := 56) C dX0_dropDoneRequests_9 (by decide) (fun c_7 => ?_) (fun c_7 => ?_)
      · have z_c_7 := jc_le (a := (x_6).toInt) (b := (x_2).toInt) c_7 rfl rfl
        refine jj_aload_n C dX0_dropDoneRequests_56 rfl ?_
        refine tt_getF C hok jk_2 9 (by decide) jw_a6a6052378 (t := (0, 0, 12)) hk0 (by decide) rfl rfl hf_5 dX0_dropDoneRequests_57 ?_
        refine jj_iload_n C dX0_dropDoneRequests_60 rfl ?_
        obtain ⟨x_8, ex_8, vx_8⟩ := tt_isub (x := x_6) (y := x_3) (a := x_6.toInt) rfl (b := x_3.toInt) rfl (by omega) (by omega)
        refine jj_isub (v := x_8) C dX0_dropDoneRequests_61 ex_8 ?_
        refine jj_istore_n C dX0_dropDoneRequests_62 (by decide) rfl ?_
        refine jj_aload_n C dX0_dropDoneRequests_63 rfl ?_
        refine jj_iload_n C dX0_dropDoneRequests_64 rfl ?_
        refine rl_put C hok jk_2 9 (by decide) jw_a6a6052378 (t := (0, 0, 12)) hk0 (by decide) rfl rfl rfl (tt_iv (by omega) (by omega)) rfl rfl dX0_dropDoneRequests_65 (fun pl_9 hok_10 tr hn tl => ?_)
        have hf_11 := hn
        replace hfr := hfr.put hk0 tr (by decide)
        replace hfa := hfa.all tl
        refine jj_iload_n C dX0_dropDoneRequests_68 rfl ?_
        exact jj_iret C ⟨[], pl_9, rfl, rfl, hok_10, hfr, hfa, ⟨x_8, (by first | omega | exact tt_lo _ | exact tt_hi _), (by first | omega | exact tt_lo _ | exact tt_hi _), rfl⟩⟩ dX0_dropDoneRequests_69 (jj_le rfl) (jj_le rfl)
      · have z_c_7 := jc_nle (a := (x_6).toInt) (b := (x_2).toInt) c_7 rfl rfl
        refine jj_aload_n C dX0_dropDoneRequests_12 rfl ?_
        refine tt_get C hok jk_2 13 (by decide) jw_241b9bc751 (t := (2, 8, 0)) hk0 (by decide) rfl rfl dX0_dropDoneRequests_13 (fun v_12 hv_12 hf_13 => ?_)
        obtain ⟨a_14, rfl, ka_14⟩ := tt_vr hv_12
        refine jj_iload_n C dX0_dropDoneRequests_16 rfl ?_
        refine tt_aald C hok (t := (2, 4, 0)) ka_14 (by decide) rfl rfl rfl (vp_in_iff.mpr ⟨by omega, by omega⟩) dX0_dropDoneRequests_17 (fun v_15 hv_15 => ?_)
        obtain ⟨a_16, rfl, ka_16⟩ := tt_vr hv_15
        refine jj_astore_n C dX0_dropDoneRequests_18 (by decide) rfl ?_
        refine jj_aload_n C dX0_dropDoneRequests_19 rfl ?_
        refine tt_get C hok jk_7 3 (by decide) jw_bfa82f796d (t := (1, (-9223372036854775808), 9223372036854775807)) ka_16 (by decide) rfl rfl dX0_dropDoneRequests_20 (fun v_17 hv_17 hf_18 => ?_)
        obtain ⟨y_19, rfl, -, -⟩ := tt_vj hv_17
        refine jj_lconst (v := 0) C dX0_dropDoneRequests_23 (by decide) ?_
        refine jj_lcmp_le (tgt := 50) C dX0_dropDoneRequests_24 dX0_dropDoneRequests_25 (by decide) (fun c_20 => ?_) (fun c_20 => ?_)
        · obtain ⟨x_21, ex_21, vx_21⟩ := tt_inc (x := x_2) (n := 1) (by omega) (by omega)
          refine jj_iinc (v := x_21) C dX0_dropDoneRequests_50 rfl ex_21 (by decide) rfl ?_
          refine jj_goto (tgt := 4) C dX0_dropDoneRequests_53 (by decide) ?_
          refine jj_loc [0, 2, 3] rfl ?_
          exact ihL_1 pl x_21 x_3 hok hfr hfa (by first | omega | decide | exact tt_lo _ | exact tt_hi _) (by first | omega | decide | exact tt_lo _ | exact tt_hi _) (by first | omega | decide | exact tt_lo _ | exact tt_hi _) (by first | omega | decide | exact tt_lo _ | exact tt_hi _) (by first | omega | decide | exact tt_lo _ | exact tt_hi _) (by first | omega | decide | exact tt_lo _ | exact tt_hi _)
        · refine jj_aload_n C dX0_dropDoneRequests_28 rfl ?_
          refine tt_getF C hok jk_2 13 (by decide) jw_241b9bc751 (t := (2, 8, 0)) hk0 (by decide) rfl rfl hf_13 dX0_dropDoneRequests_29 ?_
          refine jj_iload_n C dX0_dropDoneRequests_32 rfl ?_
          refine jj_aload_n C dX0_dropDoneRequests_33 rfl ?_
          refine tt_getF C hok jk_2 13 (by decide) jw_241b9bc751 (t := (2, 8, 0)) hk0 (by decide) rfl rfl hf_13 dX0_dropDoneRequests_34 ?_
          refine jj_iload_n C dX0_dropDoneRequests_37 rfl ?_
          refine tt_aald C hok (t := (2, 4, 0)) ka_14 (by decide) rfl rfl rfl (vp_in_iff.mpr ⟨by omega, by omega⟩) dX0_dropDoneRequests_38 (fun v_22 hv_22 => ?_)
          obtain ⟨a_23, rfl, ka_23⟩ := tt_vr hv_22
          refine tl_aast C hok (t := (2, 4, 0)) ka_14 (by decide) rfl rfl rfl ka_23 (by decide) rfl rfl (vp_in_iff.mpr ⟨by omega, by omega⟩) (tt_rv ka_23) dX0_dropDoneRequests_39 (fun pl_24 hok_25 tr hne tl => ?_)
          replace hf_5 := tr _ _ _ hf_5
          replace hf_13 := tr _ _ _ hf_13
          replace hf_18 := tr _ _ _ hf_18
          replace hfr := hfr.arr tr
          replace hfa := hfa.all tl
          refine jj_aload_n C dX0_dropDoneRequests_40 rfl ?_
          refine tt_getF C hok_25 jk_2 13 (by decide) jw_241b9bc751 (t := (2, 8, 0)) hk0 (by decide) rfl rfl hf_13 dX0_dropDoneRequests_41 ?_
          refine jj_iload_n C dX0_dropDoneRequests_44 rfl ?_
          refine jj_aload_n C dX0_dropDoneRequests_45 rfl ?_
          refine tl_aast C hok_25 (t := (2, 4, 0)) ka_14 (by decide) rfl rfl rfl ka_16 (by decide) rfl rfl (vp_in_iff.mpr ⟨by omega, by omega⟩) (tt_rv ka_16) dX0_dropDoneRequests_46 (fun pl_26 hok_27 tr hne tl => ?_)
          replace hf_5 := tr _ _ _ hf_5
          replace hf_13 := tr _ _ _ hf_13
          replace hf_18 := tr _ _ _ hf_18
          replace hfr := hfr.arr tr
          replace hfa := hfa.all tl
          obtain ⟨x_28, ex_28, vx_28⟩ := tt_inc (x := x_3) (n := 1) (by omega) (by omega)
          refine jj_iinc (v := x_28) C dX0_dropDoneRequests_47 rfl ex_28 (by decide) rfl ?_
          obtain ⟨x_29, ex_29, vx_29⟩ := tt_inc (x := x_2) (n := 1) (by omega) (by omega)
          refine jj_iinc (v := x_29) C dX0_dropDoneRequests_50 rfl ex_29 (by decide) rfl ?_
          refine jj_goto (tgt := 4) C dX0_dropDoneRequests_53 (by decide) ?_
          refine jj_loc [0, 1, 3] rfl ?_
          exact ihL_1 pl_26 x_29 x_28 hok_27 hfr hfa (by first | omega | decide | exact tt_lo _ | exact tt_hi _) (by first | omega | decide | exact tt_lo _ | exact tt_hi _) (by first | omega | decide | exact tt_lo _ | exact tt_hi _) (by first | omega | decide | exact tt_lo _ | exact tt_hi _) (by first | omega | decide | exact tt_lo _ | exact tt_hi _) (by first | omega | decide | exact tt_lo _ | exact tt_hi _)
  exact hL_1 _ pl0 (0 : Int32) (0 : Int32) trivial hok hfr hfa (by first | omega | decide | exact tt_lo _ | exact tt_hi _) (by first | omega | decide | exact tt_lo _ | exact tt_hi _) (by first | omega | decide | exact tt_lo _ | exact tt_hi _) (by first | omega | decide | exact tt_lo _ | exact tt_hi _) (by first | omega | decide | exact tt_lo _ | exact tt_hi _) (Int.self_le_toNat _)

set_option maxHeartbeats 4000000 in
set_option maxRecDepth 100000 in
theorem tc_X0_isDone_2 {l : Launch} (hl : l.stackTraces = false) (D : va_G) (cA : Nat → ClassId) (ak : (Nat → Nat) × (Nat → Nat)) {Kd : Nat → Nat} (h0 : Nat) (p1 : Int32) (hk0 : Kd h0 = 1) {pl0 : va_W} (hok : tt_ok tt_tk cA Kd pl0) : jj_M l D cA ak yX0_isDone (.code yX0_isDone cX0_isDone 2 (some .boolean)) 0 0 0 0 ([] ++ pl0) [.ref h0, .int p1] (tt_O (fun rx pl1 r => rx = [] ∧ tt_ok tt_tk cA Kd pl1 ∧ tt_fr Kd [] pl0 pl1 ∧ tt_fa Kd [] pl0 pl1 ∧ ((r = some (.int 0)) ∨ ((0 : Int) ≤ p1.toInt ∧ p1.toInt ≤ 11 ∧ r = some (.int 1))))) (tt_OX (fun _ _ _ => False)) := by
  refine jj_start hl (by decide) jw_6fd96817b4 (jj_le rfl) ?_
  intro p e s m args below meth c A hargs hA C hex hmn
  have hfr := tt_fr.refl (K := Kd) (WS := []) pl0
  have hfa := tt_fa.refl (K := Kd) (WA := []) pl0
  have lp1 := tt_lo p1
  have up1 := tt_hi p1
  refine jj_iload_n C dX0_isDone_0 rfl ?_
  refine jj_if_lt (tgt := 30) C dX0_isDone_1 (by decide) (fun c_1 => ?_) (fun c_1 => ?_)
  · have z_c_1 := jc_lt (a := (p1).toInt) (b := (0)) c_1 rfl (by decide)
    refine jj_iconst (v := 0) C dX0_isDone_30 (by decide) ?_
    exact jj_zret C rfl ⟨[], pl0, rfl, rfl, hok, hfr, hfa, (Or.inl rfl)⟩ dX0_isDone_31 (jj_le rfl) (jj_le rfl)
  · have z_c_1 := jc_nlt (a := (p1).toInt) (b := (0)) c_1 rfl (by decide)
    refine jj_iload_n C dX0_isDone_4 rfl ?_
    refine jj_aload_n C dX0_isDone_5 rfl ?_
    refine tt_get C hok jk_2 9 (by decide) jw_a6a6052378 (t := (0, 0, 12)) hk0 (by decide) rfl rfl dX0_isDone_6 (fun v_2 hv_2 hf_3 => ?_)
    obtain ⟨x_4, rfl, lx_4, ux_4⟩ := tt_vi hv_2
    refine jj_icmp_ge (tgt := 30) C dX0_isDone_9 (by decide) (fun c_5 => ?_) (fun c_5 => ?_)
    · have z_c_5 := jc_le (a := (x_4).toInt) (b := (p1).toInt) c_5 rfl rfl
      refine jj_iconst (v := 0) C dX0_isDone_30 (by decide) ?_
      exact jj_zret C rfl ⟨[], pl0, rfl, rfl, hok, hfr, hfa, (Or.inl rfl)⟩ dX0_isDone_31 (jj_le rfl) (jj_le rfl)
    · have z_c_5 := jc_nle (a := (x_4).toInt) (b := (p1).toInt) c_5 rfl rfl
      refine jj_aload_n C dX0_isDone_12 rfl ?_
      refine tt_get C hok jk_2 13 (by decide) jw_241b9bc751 (t := (2, 8, 0)) hk0 (by decide) rfl rfl dX0_isDone_13 (fun v_6 hv_6 hf_7 => ?_)
      obtain ⟨a_8, rfl, ka_8⟩ := tt_vr hv_6
      refine jj_iload_n C dX0_isDone_16 rfl ?_
      refine tt_aald C hok (t := (2, 4, 0)) ka_8 (by decide) rfl rfl rfl (vp_in_iff.mpr ⟨by omega, by omega⟩) dX0_isDone_17 (fun v_9 hv_9 => ?_)
      obtain ⟨a_10, rfl, ka_10⟩ := tt_vr hv_9
      refine tt_get C hok jk_7 3 (by decide) jw_bfa82f796d (t := (1, (-9223372036854775808), 9223372036854775807)) ka_10 (by decide) rfl rfl dX0_isDone_18 (fun v_11 hv_11 hf_12 => ?_)
      obtain ⟨y_13, rfl, -, -⟩ := tt_vj hv_11
      refine jj_lconst (v := 0) C dX0_isDone_21 (by decide) ?_
      refine jj_lcmp_ne (tgt := 30) C dX0_isDone_22 dX0_isDone_23 (by decide) (fun c_14 => ?_) (fun c_14 => ?_)
      · refine jj_iconst (v := 0) C dX0_isDone_30 (by decide) ?_
        exact jj_zret C rfl ⟨[], pl0, rfl, rfl, hok, hfr, hfa, (Or.inl rfl)⟩ dX0_isDone_31 (jj_le rfl) (jj_le rfl)
      · refine jj_iconst (v := 1) C dX0_isDone_26 (by decide) ?_
        refine jj_goto (tgt := 31) C dX0_isDone_27 (by decide) ?_
        exact jj_zret C rfl ⟨[], pl0, rfl, rfl, hok, hfr, hfa, (Or.inr ⟨(by first | omega | exact tt_lo _ | exact tt_hi _), (by first | omega | exact tt_lo _ | exact tt_hi _), rfl⟩)⟩ dX0_isDone_31 (jj_le rfl) (jj_le rfl)

set_option maxHeartbeats 4000000 in
set_option maxRecDepth 100000 in
theorem tc_X0_doneBefore_2 {l : Launch} (hl : l.stackTraces = false) (D : va_G) (cA : Nat → ClassId) (ak : (Nat → Nat) × (Nat → Nat)) {Kd : Nat → Nat} (h0 : Nat) (p1 : Int32) (hk0 : Kd h0 = 1) {pl0 : va_W} (hok : tt_ok tt_tk cA Kd pl0) : jj_M l D cA ak yX0_doneBefore (.code yX0_doneBefore cX0_doneBefore 4 (some .int)) 0 0 0 0 ([] ++ pl0) [.ref h0, .int p1] (tt_O (fun rx pl1 r => rx = [] ∧ tt_ok tt_tk cA Kd pl1 ∧ tt_fr Kd [] pl0 pl1 ∧ tt_fa Kd [] pl0 pl1 ∧ ((∃ v : Int32, (-2147483648 : Int) ≤ v.toInt ∧ v.toInt ≤ 2147483647 ∧ r = some (.int v))))) (tt_OX (fun _ _ _ => False)) := by
  refine jj_start hl (by decide) jw_470e53a243 (jj_le rfl) ?_
  intro p e s m args below meth c A hargs hA C hex hmn
  have hfr := tt_fr.refl (K := Kd) (WS := []) pl0
  have hfa := tt_fa.refl (K := Kd) (WA := []) pl0
  have lp1 := tt_lo p1
  have up1 := tt_hi p1
  refine jj_iconst (v := 0) C dX0_doneBefore_0 (by decide) ?_
  refine jj_istore_n C dX0_doneBefore_1 (by decide) rfl ?_
  refine jj_iconst (v := 0) C dX0_doneBefore_2 (by decide) ?_
  refine jj_istore_n C dX0_doneBefore_3 (by decide) rfl ?_
  have hL_1 : ∀ (N : Nat) (pl : va_W) (x_2 : Int32) (x_3 : Int32), True → tt_ok tt_tk cA Kd pl → tt_fr Kd [] pl0 pl → tt_fa Kd [] pl0 pl → (0 : Int) ≤ x_2.toInt → x_2.toInt ≤ 12 → (-2147483648 : Int) ≤ x_3.toInt → x_3.toInt ≤ 2147483647 → (2147483648 - x_2.toInt ≤ (N : Int)) → jj_J p l e (jj_rm 0 0 0 0) s m args below meth c 4 A (vx_MQ below (jj_q D A (tt_O (fun rx pl1 r => rx = [] ∧ tt_ok tt_tk cA Kd pl1 ∧ tt_fr Kd [] pl0 pl1 ∧ tt_fa Kd [] pl0 pl1 ∧ ((∃ v : Int32, (-2147483648 : Int) ≤ v.toInt ∧ v.toInt ≤ 2147483647 ∧ r = some (.int v)))))) (jj_x D A (tt_OX (fun _ _ _ => False))) args s 0 0 A) (jj_X D A ([] ++ pl)) 0 0 4 [(3, .int x_2), (2, .int x_3), (0, .ref h0), (1, .int p1)] [] := by
    intro NL_1
    induction NL_1 with
    | zero => intro pl x_2 x_3 _ hok hfr hfa lx_2 ux_2 lx_3 ux_3 hNL_1; exfalso; omega
    | succ NL_1 ihL_1 =>
      intro pl x_2 x_3 _ hok hfr hfa lx_2 ux_2 lx_3 ux_3 hNL_1
      replace ihL_1 := fun pl x_2 x_3 h1 => ihL_1 pl x_2 x_3 trivial h1
      refine jj_iload_n C dX0_doneBefore_4 rfl ?_
      refine jj_iload_n C dX0_doneBefore_5 rfl ?_
      refine jj_icmp_ge (tgt := 40) C dX0_doneBefore_6 (by decide) (fun c_4 => ?_) (fun c_4 => ?_)
      · have z_c_4 := jc_le (a := (p1).toInt) (b := (x_2).toInt) c_4 rfl rfl
        refine jj_iload_n C dX0_doneBefore_40 rfl ?_
        exact jj_iret C ⟨[], pl, rfl, rfl, hok, hfr, hfa, ⟨x_3, (by first | omega | exact tt_lo _ | exact tt_hi _), (by first | omega | exact tt_lo _ | exact tt_hi _), rfl⟩⟩ dX0_doneBefore_41 (jj_le rfl) (jj_le rfl)
      · have z_c_4 := jc_nle (a := (p1).toInt) (b := (x_2).toInt) c_4 rfl rfl
        refine jj_iload_n C dX0_doneBefore_9 rfl ?_
        refine jj_aload_n C dX0_doneBefore_10 rfl ?_
        refine tt_get C hok jk_2 9 (by decide) jw_a6a6052378 (t := (0, 0, 12)) hk0 (by decide) rfl rfl dX0_doneBefore_11 (fun v_5 hv_5 hf_6 => ?_)
        obtain ⟨x_7, rfl, lx_7, ux_7⟩ := tt_vi hv_5
        refine jj_icmp_ge (tgt := 40) C dX0_doneBefore_14 (by decide) (fun c_8 => ?_) (fun c_8 => ?_)
        · have z_c_8 := jc_le (a := (x_7).toInt) (b := (x_2).toInt) c_8 rfl rfl
          refine jj_iload_n C dX0_doneBefore_40 rfl ?_
          exact jj_iret C ⟨[], pl, rfl, rfl, hok, hfr, hfa, ⟨x_3, (by first | omega | exact tt_lo _ | exact tt_hi _), (by first | omega | exact tt_lo _ | exact tt_hi _), rfl⟩⟩ dX0_doneBefore_41 (jj_le rfl) (jj_le rfl)
        · have z_c_8 := jc_nle (a := (x_7).toInt) (b := (x_2).toInt) c_8 rfl rfl
          refine jj_aload_n C dX0_doneBefore_17 rfl ?_
          refine tt_get C hok jk_2 13 (by decide) jw_241b9bc751 (t := (2, 8, 0)) hk0 (by decide) rfl rfl dX0_doneBefore_18 (fun v_9 hv_9 hf_10 => ?_)
          obtain ⟨a_11, rfl, ka_11⟩ := tt_vr hv_9
          refine jj_iload_n C dX0_doneBefore_21 rfl ?_
          refine tt_aald C hok (t := (2, 4, 0)) ka_11 (by decide) rfl rfl rfl (vp_in_iff.mpr ⟨by omega, by omega⟩) dX0_doneBefore_22 (fun v_12 hv_12 => ?_)
          obtain ⟨a_13, rfl, ka_13⟩ := tt_vr hv_12
          refine tt_get C hok jk_7 3 (by decide) jw_bfa82f796d (t := (1, (-9223372036854775808), 9223372036854775807)) ka_13 (by decide) rfl rfl dX0_doneBefore_23 (fun v_14 hv_14 hf_15 => ?_)
          obtain ⟨y_16, rfl, -, -⟩ := tt_vj hv_14
          refine jj_lconst (v := 0) C dX0_doneBefore_26 (by decide) ?_
          refine jj_lcmp_ne (tgt := 34) C dX0_doneBefore_27 dX0_doneBefore_28 (by decide) (fun c_17 => ?_) (fun c_17 => ?_)
          · obtain ⟨x_18, ex_18, vx_18⟩ := tt_inc (x := x_2) (n := 1) (by omega) (by omega)
            refine jj_iinc (v := x_18) C dX0_doneBefore_34 rfl ex_18 (by decide) rfl ?_
            refine jj_goto (tgt := 4) C dX0_doneBefore_37 (by decide) ?_
            exact ihL_1 pl x_18 x_3 hok hfr hfa (by first | omega | decide | exact tt_lo _ | exact tt_hi _) (by first | omega | decide | exact tt_lo _ | exact tt_hi _) (by first | omega | decide | exact tt_lo _ | exact tt_hi _) (by first | omega | decide | exact tt_lo _ | exact tt_hi _) (by first | omega | decide | exact tt_lo _ | exact tt_hi _)
          · obtain ⟨x_19, ex_19⟩ : ∃ z : Int32, x_3 + Int32.ofInt 1 = z := ⟨_, rfl⟩
            refine jj_iinc (v := x_19) C dX0_doneBefore_31 rfl ex_19 (by decide) rfl ?_
            obtain ⟨x_20, ex_20, vx_20⟩ := tt_inc (x := x_2) (n := 1) (by omega) (by omega)
            refine jj_iinc (v := x_20) C dX0_doneBefore_34 rfl ex_20 (by decide) rfl ?_
            refine jj_goto (tgt := 4) C dX0_doneBefore_37 (by decide) ?_
            exact ihL_1 pl x_20 x_19 hok hfr hfa (by first | omega | decide | exact tt_lo _ | exact tt_hi _) (by first | omega | decide | exact tt_lo _ | exact tt_hi _) (by first | omega | decide | exact tt_lo _ | exact tt_hi _) (by first | omega | decide | exact tt_lo _ | exact tt_hi _) (by first | omega | decide | exact tt_lo _ | exact tt_hi _)
  exact hL_1 _ pl0 (0 : Int32) (0 : Int32) trivial hok hfr hfa (by first | omega | decide | exact tt_lo _ | exact tt_hi _) (by first | omega | decide | exact tt_lo _ | exact tt_hi _) (by first | omega | decide | exact tt_lo _ | exact tt_hi _) (by first | omega | decide | exact tt_lo _ | exact tt_hi _) (Int.self_le_toNat _)

set_option maxHeartbeats 4000000 in
set_option maxRecDepth 100000 in
theorem tc_X10_dealsUntilDone_1 {l : Launch} (hl : l.stackTraces = false) (D : va_G) (cA : Nat → ClassId) (ak : (Nat → Nat) × (Nat → Nat)) {Kd : Nat → Nat} (h0 : Nat) (p1 : Int32) (hk0 : Kd h0 = 15) {pl0 : va_W} (hok : tt_ok tt_tk cA Kd pl0) : jj_M l D cA ak yX10_dealsUntilDone (.code yX10_dealsUntilDone cX10_dealsUntilDone 4 (some .int)) 8 123 1 6 ([] ++ pl0) [.ref h0, .int p1] (tt_O (fun rx pl1 r => rx = [] ∧ tt_ok tt_tk cA Kd pl1 ∧ tt_fr Kd [(1, 0), (1, 1), (1, 2), (1, 3), (1, 4), (1, 5), (1, 6), (1, 7), (1, 8), (1, 9), (2, 0), (2, 1), (2, 2), (2, 3), (2, 4), (3, 0), (3, 1), (3, 2), (3, 3), (3, 4), (3, 5), (4, 0), (4, 1), (4, 2), (4, 3), (4, 4), (9, 1), (9, 2), (9, 3), (9, 4), (9, 5)] pl0 pl1 ∧ tt_fa Kd [5] pl0 pl1 ∧ (((0 : Int) ≤ p1.toInt ∧ p1.toInt ≤ 11 ∧ r = some (.int (-1))) ∨ (∃ v : Int32, (1 : Int) ≤ v.toInt ∧ v.toInt ≤ 100 ∧ (0 : Int) ≤ p1.toInt ∧ p1.toInt ≤ 11 ∧ r = some (.int v))))) (tt_OX (fun E rx pl1 => rx = [] ∧ tt_ok tt_tk cA Kd pl1 ∧ tt_fr Kd [(1, 0), (1, 1), (1, 2), (1, 3), (1, 4), (1, 5), (1, 6), (1, 7), (1, 8), (1, 9), (2, 0), (2, 1), (2, 2), (2, 3), (2, 4), (3, 0), (3, 1), (3, 2), (3, 3), (3, 4), (3, 5), (4, 0), (4, 1), (4, 2), (4, 3), (4, 4), (9, 1), (9, 2), (9, 3), (9, 4), (9, 5)] pl0 pl1 ∧ tt_fa Kd [5] pl0 pl1 ∧ (E = "java/lang/IndexOutOfBoundsException"))) := by
  refine jj_start hl (by decide) jw_2b2f2630e6 (jj_le rfl) ?_
  intro p e s m args below meth c A hargs hA C hex hmn
  have hfr := tt_fr.refl (K := Kd) (WS := [(1, 0), (1, 1), (1, 2), (1, 3), (1, 4), (1, 5), (1, 6), (1, 7), (1, 8), (1, 9), (2, 0), (2, 1), (2, 2), (2, 3), (2, 4), (3, 0), (3, 1), (3, 2), (3, 3), (3, 4), (3, 5), (4, 0), (4, 1), (4, 2), (4, 3), (4, 4), (9, 1), (9, 2), (9, 3), (9, 4), (9, 5)]) pl0
  have hfa := tt_fa.refl (K := Kd) (WA := [5]) pl0
  have lp1 := tt_lo p1
  have up1 := tt_hi p1
  refine jj_aload_n C dX10_dealsUntilDone_0 rfl ?_
  refine jj_iload_n C dX10_dealsUntilDone_1 rfl ?_
  obtain ⟨qc, gs, hqc⟩ := tt_recv (cx := []) hok hk0 (by decide) rfl
  refine tt_callV (rest := []) C (tc_X10_checkRequest_1 hl D cA ak h0 p1 hk0 hok) [] [] rfl rfl (by decide) (by decide) (by decide) qc hqc rfl rfl jw_8393dc7999 jw_19ebf3d629 jw_0700398a86 jw_6f6d707074 jw_31f2a3897e jn_X10_checkRequest rfl (jj_le rfl) (jj_le rfl) (jj_le rfl) (jj_le rfl) (jj_le rfl) dX10_dealsUntilDone_2 rfl (fun E rx pl_1 X_5 => ?_) (fun rx pl_1 r O_4 => ?_)
  · obtain ⟨rfl, hok_2, hr_3, hfa9, hE_6⟩ := X_5
    replace hfr := hfr.trans (hr_3.sub (by decide))
    replace hfa := hfa.trans (hfa9.sub (by decide))
    obtain rfl := hE_6
    exact jj_out C hex ⟨[], pl_1, rfl, rfl, hok_2, hfr, hfa, rfl⟩ (jj_le rfl) (jj_le rfl)
  · obtain ⟨rfl, hok_2, hr_3, hfa9, hR_9⟩ := O_4
    replace hfr := hfr.trans (hr_3.sub (by decide))
    replace hfa := hfa.trans (hfa9.sub (by decide))
    obtain ⟨l_12, u_13, rfl⟩ := hR_9
    refine jj_aload_n C dX10_dealsUntilDone_5 rfl ?_
    refine tt_get C hok_2 jk_11 4 (by decide) jw_a0e4d790fa (t := (2, 1, 0)) hk0 (by decide) rfl rfl dX10_dealsUntilDone_6 (fun v_14 hv_14 hf_15 => ?_)
    obtain ⟨a_16, rfl, ka_16⟩ := tt_vr hv_14
    refine jj_aload_n C dX10_dealsUntilDone_9 rfl ?_
    refine tt_get C hok_2 jk_11 3 (by decide) jw_f82a97e333 (t := (2, 1, 0)) hk0 (by decide) rfl rfl dX10_dealsUntilDone_10 (fun v_17 hv_17 hf_18 => ?_)
    obtain ⟨a_19, rfl, ka_19⟩ := tt_vr hv_17
    obtain ⟨qc, gs, hqc⟩ := tt_recv (cx := []) hok_2 ka_16 (by decide) rfl
    refine tt_callV (rest := []) C (tc_X0_copyFrom_1 hl D cA ak a_16 a_19 ka_16 ka_19 hok_2) [] [] rfl rfl (by decide) (by decide) (by decide) qc hqc rfl rfl jw_4d0cb05860 jw_8aa1bdb2cc jw_ac98d74d03 jw_7d25d4fd32 jw_58241735d3 jn_X0_copyFrom rfl (jj_le rfl) (jj_le rfl) (jj_le rfl) (jj_le rfl) (jj_le rfl) dX10_dealsUntilDone_13 rfl (fun _ _ _ hX => hX.elim) (fun rx pl_20 r O_23 => ?_)
    obtain ⟨rfl, hok_21, hr_22, hfa9, hR_25⟩ := O_23
    replace hf_15 := hr_22.at hk0 (by decide) (by decide) hf_15
    replace hf_18 := hr_22.at hk0 (by decide) (by decide) hf_18
    replace hfr := hfr.trans (hr_22.sub (by decide))
    replace hfa := hfa.trans (hfa9.sub (by decide))
    obtain rfl := hR_25
    refine jj_iload_n C dX10_dealsUntilDone_16 rfl ?_
    refine jj_istore_n C dX10_dealsUntilDone_17 (by decide) rfl ?_
    refine jj_iconst (v := 1) C dX10_dealsUntilDone_18 (by decide) ?_
    refine jj_istore_n C dX10_dealsUntilDone_19 (by decide) rfl ?_
    have hL_28 : ∀ (N : Nat) (pl : va_W) (x_29 : Int32) (x_30 : Int32), True → tt_ok tt_tk cA Kd pl → tt_fr Kd [(1, 0), (1, 1), (1, 2), (1, 3), (1, 4), (1, 5), (1, 6), (1, 7), (1, 8), (1, 9), (2, 0), (2, 1), (2, 2), (2, 3), (2, 4), (3, 0), (3, 1), (3, 2), (3, 3), (3, 4), (3, 5), (4, 0), (4, 1), (4, 2), (4, 3), (4, 4), (9, 1), (9, 2), (9, 3), (9, 4), (9, 5)] pl0 pl → tt_fa Kd [5] pl0 pl → tt_at pl h0 4 (.ref a_16) → tt_at pl h0 3 (.ref a_19) → (1 : Int) ≤ x_29.toInt → x_29.toInt ≤ 399 → (-2147483648 : Int) ≤ x_30.toInt → x_30.toInt ≤ 2147483647 → (2147483648 - x_29.toInt ≤ (N : Int)) → jj_J p l e (jj_rm 8 123 1 6) s m args below meth c 4 A (vx_MQ below (jj_q D A (tt_O (fun rx pl1 r => rx = [] ∧ tt_ok tt_tk cA Kd pl1 ∧ tt_fr Kd [(1, 0), (1, 1), (1, 2), (1, 3), (1, 4), (1, 5), (1, 6), (1, 7), (1, 8), (1, 9), (2, 0), (2, 1), (2, 2), (2, 3), (2, 4), (3, 0), (3, 1), (3, 2), (3, 3), (3, 4), (3, 5), (4, 0), (4, 1), (4, 2), (4, 3), (4, 4), (9, 1), (9, 2), (9, 3), (9, 4), (9, 5)] pl0 pl1 ∧ tt_fa Kd [5] pl0 pl1 ∧ (((0 : Int) ≤ p1.toInt ∧ p1.toInt ≤ 11 ∧ r = some (.int (-1))) ∨ (∃ v : Int32, (1 : Int) ≤ v.toInt ∧ v.toInt ≤ 100 ∧ (0 : Int) ≤ p1.toInt ∧ p1.toInt ≤ 11 ∧ r = some (.int v)))))) (jj_x D A (tt_OX (fun E rx pl1 => rx = [] ∧ tt_ok tt_tk cA Kd pl1 ∧ tt_fr Kd [(1, 0), (1, 1), (1, 2), (1, 3), (1, 4), (1, 5), (1, 6), (1, 7), (1, 8), (1, 9), (2, 0), (2, 1), (2, 2), (2, 3), (2, 4), (3, 0), (3, 1), (3, 2), (3, 3), (3, 4), (3, 5), (4, 0), (4, 1), (4, 2), (4, 3), (4, 4), (9, 1), (9, 2), (9, 3), (9, 4), (9, 5)] pl0 pl1 ∧ tt_fa Kd [5] pl0 pl1 ∧ (E = "java/lang/IndexOutOfBoundsException")))) args s 1 6 A) (jj_X D A ([] ++ pl)) 1 6 20 [(3, .int x_29), (2, .int x_30), (0, .ref h0), (1, .int p1)] [] := by
      intro NL_28
      induction NL_28 with
      | zero => intro pl x_29 x_30 _ hok hfr hfa hf_31 hf_32 lx_29 ux_29 lx_30 ux_30 hNL_28; exfalso; omega
      | succ NL_28 ihL_28 =>
        intro pl x_29 x_30 _ hok hfr hfa hf_31 hf_32 lx_29 ux_29 lx_30 ux_30 hNL_28
        replace ihL_28 := fun pl x_29 x_30 h1 => ihL_28 pl x_29 x_30 trivial h1
        refine jj_iload_n C dX10_dealsUntilDone_20 rfl ?_
        refine jj_bipush (v := 100) C dX10_dealsUntilDone_21 (by decide) ?_
        refine jj_icmp_gt (tgt := 97) C dX10_dealsUntilDone_23 (by decide) (fun c_33 => ?_) (fun c_33 => ?_)
        · have z_c_33 := jc_lt (a := (100)) (b := (x_29).toInt) c_33 (by decide) rfl
          refine jj_iconst (v := (-1)) C dX10_dealsUntilDone_97 (by decide) ?_
          exact jj_iret C ⟨[], pl, rfl, rfl, hok, hfr, hfa, (Or.inl ⟨(by first | omega | exact tt_lo _ | exact tt_hi _), (by first | omega | exact tt_lo _ | exact tt_hi _), rfl⟩)⟩ dX10_dealsUntilDone_98 (jj_le rfl) (jj_le rfl)
        · have z_c_33 := jc_nlt (a := (100)) (b := (x_29).toInt) c_33 (by decide) rfl
          refine jj_aload_n C dX10_dealsUntilDone_26 rfl ?_
          refine tt_get C hok jk_11 5 (by decide) jw_34b8702fe2 (t := (2, 9, 0)) hk0 (by decide) rfl rfl dX10_dealsUntilDone_27 (fun v_34 hv_34 hf_35 => ?_)
          obtain ⟨a_36, rfl, ka_36⟩ := tt_vr hv_34
          refine jj_aload_n C dX10_dealsUntilDone_30 rfl ?_
          refine tt_getF C hok jk_11 4 (by decide) jw_a0e4d790fa (t := (2, 1, 0)) hk0 (by decide) rfl rfl hf_31 dX10_dealsUntilDone_31 ?_
          refine jj_aload_n C dX10_dealsUntilDone_34 rfl ?_
          refine tt_getF C hok jk_11 5 (by decide) jw_34b8702fe2 (t := (2, 9, 0)) hk0 (by decide) rfl rfl hf_35 dX10_dealsUntilDone_35 ?_
          refine jj_aload_n C dX10_dealsUntilDone_38 rfl ?_
          refine tt_getF C hok jk_11 4 (by decide) jw_a0e4d790fa (t := (2, 1, 0)) hk0 (by decide) rfl rfl hf_31 dX10_dealsUntilDone_39 ?_
          obtain ⟨qc, gs, hqc⟩ := tt_recv (cx := []) hok ka_36 (by decide) rfl
          refine tt_callV (rest := [.ref a_16, .ref a_36]) C (tc_X1_baseOfRedemptions_1 hl D cA ak a_36 a_16 ka_36 ka_16 hok) [] [] rfl rfl (by decide) (by decide) (by decide) qc hqc rfl rfl jw_0c87748527 jw_36bb45001b jw_b21f9198d3 jw_944cf9c3ab jw_77ee4174d9 jn_X1_baseOfRedemptions rfl (jj_le rfl) (jj_le rfl) (jj_le rfl) (jj_le rfl) (jj_le rfl) dX10_dealsUntilDone_42 rfl (fun _ _ _ hX => hX.elim) (fun rx pl_37 r O_40 => ?_)
          obtain ⟨rfl, hok_38, hr_39, hfa9, hR_42⟩ := O_40
          replace hf_31 := hr_39.at hk0 (by decide) (by decide) hf_31
          replace hf_32 := hr_39.at hk0 (by decide) (by decide) hf_32
          replace hf_35 := hr_39.at hk0 (by decide) (by decide) hf_35
          replace hfr := hfr.trans (hr_39.sub (by decide))
          replace hfa := hfa.trans (hfa9.sub (by decide))
          obtain ⟨y_45, rfl⟩ := hR_42
          obtain ⟨qc, gs, hqc⟩ := tt_recv (cx := []) hok_38 ka_36 (by decide) rfl
          refine tt_callV (rest := []) C (tc_X1_redeemWaiting_1 hl D cA ak a_36 a_16 y_45 ka_36 ka_16 hok_38) [] [] rfl rfl (by decide) (by decide) (by decide) qc hqc rfl rfl jw_4ebc084d1c jw_1a80919bc4 jw_88c712b448 jw_944cf9c3ab jw_4b6b3c5714 jn_X1_redeemWaiting rfl (jj_le rfl) (jj_le rfl) (jj_le rfl) (jj_le rfl) (jj_le rfl) dX10_dealsUntilDone_45 rfl (fun _ _ _ hX => hX.elim) (fun rx pl_46 r O_49 => ?_)
          obtain ⟨rfl, hok_47, hr_48, hfa9, hR_51⟩ := O_49
          replace hf_31 := hr_48.at hk0 (by decide) (by decide) hf_31
          replace hf_32 := hr_48.at hk0 (by decide) (by decide) hf_32
          replace hf_35 := hr_48.at hk0 (by decide) (by decide) hf_35
          replace hfr := hfr.trans (hr_48.sub (by decide))
          replace hfa := hfa.trans (hfa9.sub (by decide))
          obtain rfl := hR_51
          refine jj_aload_n C dX10_dealsUntilDone_48 rfl ?_
          refine tt_getF C hok_47 jk_11 5 (by decide) jw_34b8702fe2 (t := (2, 9, 0)) hk0 (by decide) rfl rfl hf_35 dX10_dealsUntilDone_49 ?_
          refine jj_aload_n C dX10_dealsUntilDone_52 rfl ?_
          refine tt_getF C hok_47 jk_11 4 (by decide) jw_a0e4d790fa (t := (2, 1, 0)) hk0 (by decide) rfl rfl hf_31 dX10_dealsUntilDone_53 ?_
          obtain ⟨qc, gs, hqc⟩ := tt_recv (cx := []) hok_47 ka_36 (by decide) rfl
          refine tt_callV (rest := []) C (tc_X1_subscribeWaiting_1 hl D cA ak a_36 a_16 ka_36 ka_16 hok_47) [] [] rfl rfl (by decide) (by decide) (by decide) qc hqc rfl rfl jw_3c741f7fe7 jw_fbad23a485 jw_3bcef26e8b jw_944cf9c3ab jw_869633d7b1 jn_X1_subscribeWaiting rfl (jj_le rfl) (jj_le rfl) (jj_le rfl) (jj_le rfl) (jj_le rfl) dX10_dealsUntilDone_56 rfl (fun _ _ _ hX => hX.elim) (fun rx pl_54 r O_57 => ?_)
          obtain ⟨rfl, hok_55, hr_56, hfa9, hR_59⟩ := O_57
          replace hf_31 := hr_56.at hk0 (by decide) (by decide) hf_31
          replace hf_32 := hr_56.at hk0 (by decide) (by decide) hf_32
          replace hf_35 := hr_56.at hk0 (by decide) (by decide) hf_35
          replace hfr := hfr.trans (hr_56.sub (by decide))
          replace hfa := hfa.trans (hfa9.sub (by decide))
          obtain rfl := hR_59
          refine jj_aload_n C dX10_dealsUntilDone_59 rfl ?_
          refine tt_getF C hok_55 jk_11 4 (by decide) jw_a0e4d790fa (t := (2, 1, 0)) hk0 (by decide) rfl rfl hf_31 dX10_dealsUntilDone_60 ?_
          refine jj_iload_n C dX10_dealsUntilDone_63 rfl ?_
          obtain ⟨qc, gs, hqc⟩ := tt_recv (cx := []) hok_55 ka_16 (by decide) rfl
          refine tt_callV (rest := []) C (tc_X0_isDone_2 hl D cA ak a_16 x_30 ka_16 hok_55) [] [] rfl rfl (by decide) (by decide) (by decide) qc hqc rfl rfl jw_f02a789dc3 jw_e1b2fb4f9f jw_abc4721ff3 jw_7d25d4fd32 jw_6fd96817b4 jn_X0_isDone rfl (jj_le rfl) (jj_le rfl) (jj_le rfl) (jj_le rfl) (jj_le rfl) dX10_dealsUntilDone_64 rfl (fun _ _ _ hX => hX.elim) (fun rx pl_62 r O_65 => ?_)
          obtain ⟨rfl, hok_63, hr_64, hfa9, hR_67⟩ := O_65
          replace hf_31 := hr_64.at hk0 (by decide) (by decide) hf_31
          replace hf_32 := hr_64.at hk0 (by decide) (by decide) hf_32
          replace hf_35 := hr_64.at hk0 (by decide) (by decide) hf_35
          replace hfr := hfr.trans (hr_64.sub (by decide))
          replace hfa := hfa.trans (hfa9.sub (by decide))
          rcases hR_67 with rfl | ⟨l_70, u_71, rfl⟩
          · refine jj_if_eqT (tgt := 72) C dX10_dealsUntilDone_67 (by decide) (by decide) ?_
            refine jj_iload_n C dX10_dealsUntilDone_72 rfl ?_
            refine jj_aload_n C dX10_dealsUntilDone_73 rfl ?_
            refine tt_getF C hok_63 jk_11 4 (by decide) jw_a0e4d790fa (t := (2, 1, 0)) hk0 (by decide) rfl rfl hf_31 dX10_dealsUntilDone_74 ?_
            refine jj_iload_n C dX10_dealsUntilDone_77 rfl ?_
            obtain ⟨qc, gs, hqc⟩ := tt_recv (cx := []) hok_63 ka_16 (by decide) rfl
            refine tt_callV (rest := [.int x_30]) C (tc_X0_doneBefore_2 hl D cA ak a_16 x_30 ka_16 hok_63) [] [] rfl rfl (by decide) (by decide) (by decide) qc hqc rfl rfl jw_48ce033fa0 jw_edc8c890e5 jw_8742f05eea jw_7d25d4fd32 jw_470e53a243 jn_X0_doneBefore rfl (jj_le rfl) (jj_le rfl) (jj_le rfl) (jj_le rfl) (jj_le rfl) dX10_dealsUntilDone_78 rfl (fun _ _ _ hX => hX.elim) (fun rx pl_72 r O_75 => ?_)
            obtain ⟨rfl, hok_73, hr_74, hfa9, hR_77⟩ := O_75
            replace hf_31 := hr_74.at hk0 (by decide) (by decide) hf_31
            replace hf_32 := hr_74.at hk0 (by decide) (by decide) hf_32
            replace hf_35 := hr_74.at hk0 (by decide) (by decide) hf_35
            replace hfr := hfr.trans (hr_74.sub (by decide))
            replace hfa := hfa.trans (hfa9.sub (by decide))
            obtain ⟨x_80, lx_80, ux_80, rfl⟩ := hR_77
            obtain ⟨x_81, ex_81⟩ : ∃ z : Int32, x_30 - x_80 = z := ⟨_, rfl⟩
            refine jj_isub (v := x_81) C dX10_dealsUntilDone_81 ex_81 ?_
            refine jj_istore_n C dX10_dealsUntilDone_82 (by decide) rfl ?_
            refine jj_aload_n C dX10_dealsUntilDone_83 rfl ?_
            refine tt_getF C hok_73 jk_11 4 (by decide) jw_a0e4d790fa (t := (2, 1, 0)) hk0 (by decide) rfl rfl hf_31 dX10_dealsUntilDone_84 ?_
            obtain ⟨qc, gs, hqc⟩ := tt_recv (cx := []) hok_73 ka_16 (by decide) rfl
            refine tt_callV (rest := []) C (tc_X0_dropDoneRequests_1 hl D cA ak a_16 ka_16 hok_73) [] [] rfl rfl (by decide) (by decide) (by decide) qc hqc rfl rfl jw_327622d677 jw_8c2aa441ca jw_a9b330a1c3 jw_7d25d4fd32 jw_77bdbcf71c jn_X0_dropDoneRequests rfl (jj_le rfl) (jj_le rfl) (jj_le rfl) (jj_le rfl) (jj_le rfl) dX10_dealsUntilDone_87 rfl (fun _ _ _ hX => hX.elim) (fun rx pl_82 r O_85 => ?_)
            obtain ⟨rfl, hok_83, hr_84, hfa9, hR_87⟩ := O_85
            replace hf_31 := hr_84.at hk0 (by decide) (by decide) hf_31
            replace hf_32 := hr_84.at hk0 (by decide) (by decide) hf_32
            replace hf_35 := hr_84.at hk0 (by decide) (by decide) hf_35
            replace hfr := hfr.trans (hr_84.sub (by decide))
            replace hfa := hfa.trans (hfa9.sub (by decide))
            obtain ⟨x_90, lx_90, ux_90, rfl⟩ := hR_87
            refine jj_pop C dX10_dealsUntilDone_90 rfl ?_
            obtain ⟨x_91, ex_91, vx_91⟩ := tt_inc (x := x_29) (n := 1) (by omega) (by omega)
            refine jj_iinc (v := x_91) C dX10_dealsUntilDone_91 rfl ex_91 (by decide) rfl ?_
            refine jj_goto (tgt := 20) C dX10_dealsUntilDone_94 (by decide) ?_
            exact ihL_28 pl_82 x_91 x_81 hok_83 hfr hfa hf_31 hf_32 (by first | omega | decide | exact tt_lo _ | exact tt_hi _) (by first | omega | decide | exact tt_lo _ | exact tt_hi _) (by first | omega | decide | exact tt_lo _ | exact tt_hi _) (by first | omega | decide | exact tt_lo _ | exact tt_hi _) (by first | omega | decide | exact tt_lo _ | exact tt_hi _)
          · refine jj_if_eqF (tgt := 72) C dX10_dealsUntilDone_67 (by decide) (by decide) ?_
            refine jj_iload_n C dX10_dealsUntilDone_70 rfl ?_
            exact jj_iret C ⟨[], pl_62, rfl, rfl, hok_63, hfr, hfa, (Or.inr ⟨x_29, (by first | omega | exact tt_lo _ | exact tt_hi _), (by first | omega | exact tt_lo _ | exact tt_hi _), (by first | omega | exact tt_lo _ | exact tt_hi _), (by first | omega | exact tt_lo _ | exact tt_hi _), rfl⟩)⟩ dX10_dealsUntilDone_71 (jj_le rfl) (jj_le rfl)
    exact hL_28 _ pl_20 (1 : Int32) p1 trivial hok_21 hfr hfa hf_15 hf_18 (by first | omega | decide | exact tt_lo _ | exact tt_hi _) (by first | omega | decide | exact tt_lo _ | exact tt_hi _) (by first | omega | decide | exact tt_lo _ | exact tt_hi _) (by first | omega | decide | exact tt_lo _ | exact tt_hi _) (Int.self_le_toNat _)

set_option maxHeartbeats 4000000 in
set_option maxRecDepth 100000 in
theorem tc_X2_earningFault_1 {l : Launch} (hl : l.stackTraces = false) (D : va_G) (cA : Nat → ClassId) (ak : (Nat → Nat) × (Nat → Nat)) {Kd : Nat → Nat} (h0 : Nat) (p1 : Int32) (hk0 : Kd h0 = 1) {pl0 : va_W} (hok : tt_ok tt_tk cA Kd pl0) : jj_M l D cA ak yX2_earningFault (.code yX2_earningFault cX2_earningFault 5 (some .int)) 1 22 0 0 ([] ++ pl0) [.ref h0, .int p1] (tt_O (fun rx pl1 r => rx = [] ∧ tt_ok tt_tk cA Kd pl1 ∧ tt_fr Kd [] pl0 pl1 ∧ tt_fa Kd [] pl0 pl1 ∧ ((r = some (.int 2)) ∨ ((-9000 : Int) ≤ p1.toInt ∧ p1.toInt ≤ 9999 ∧ r = some (.int 0)) ∨ ((1 : Int) ≤ p1.toInt ∧ p1.toInt ≤ 9999 ∧ r = some (.int 3))))) (tt_OX (fun _ _ _ => False)) := by
  refine jj_start hl (by decide) jw_4786ed9c56 (jj_le rfl) ?_
  intro p e s m args below meth c A hargs hA C hex hmn
  have hfr := tt_fr.refl (K := Kd) (WS := []) pl0
  have hfa := tt_fa.refl (K := Kd) (WA := []) pl0
  have lp1 := tt_lo p1
  have up1 := tt_hi p1
  refine jj_iload_n C dX2_earningFault_0 rfl ?_
  refine jj_sipush (v := (-9000)) C dX2_earningFault_1 (by decide) ?_
  refine jj_icmp_lt (tgt := 14) C dX2_earningFault_4 (by decide) (fun c_1 => ?_) (fun c_1 => ?_)
  · have z_c_1 := jc_lt (a := (p1).toInt) (b := (-9000)) c_1 rfl (by decide)
    refine jj_iconst (v := 2) C dX2_earningFault_14 (by decide) ?_
    exact jj_iret C ⟨[], pl0, rfl, rfl, hok, hfr, hfa, (Or.inl rfl)⟩ dX2_earningFault_15 (jj_le rfl) (jj_le rfl)
  · have z_c_1 := jc_nlt (a := (p1).toInt) (b := (-9000)) c_1 rfl (by decide)
    refine jj_iload_n C dX2_earningFault_7 rfl ?_
    refine jj_sipush (v := 9999) C dX2_earningFault_8 (by decide) ?_
    refine jj_icmp_le (tgt := 16) C dX2_earningFault_11 (by decide) (fun c_2 => ?_) (fun c_2 => ?_)
    · have z_c_2 := jc_le (a := (p1).toInt) (b := (9999)) c_2 rfl (by decide)
      refine jj_iconst (v := 0) C dX2_earningFault_16 (by decide) ?_
      refine jj_istore_n C dX2_earningFault_17 (by decide) rfl ?_
      have hL_3 : ∀ (N : Nat) (pl : va_W) (x_4 : Int32), True → tt_ok tt_tk cA Kd pl → tt_fr Kd [] pl0 pl → tt_fa Kd [] pl0 pl → (0 : Int) ≤ x_4.toInt → x_4.toInt ≤ 6 → (2147483648 - x_4.toInt ≤ (N : Int)) → jj_J p l e (jj_rm 1 22 0 0) s m args below meth c 5 A (vx_MQ below (jj_q D A (tt_O (fun rx pl1 r => rx = [] ∧ tt_ok tt_tk cA Kd pl1 ∧ tt_fr Kd [] pl0 pl1 ∧ tt_fa Kd [] pl0 pl1 ∧ ((r = some (.int 2)) ∨ ((-9000 : Int) ≤ p1.toInt ∧ p1.toInt ≤ 9999 ∧ r = some (.int 0)) ∨ ((1 : Int) ≤ p1.toInt ∧ p1.toInt ≤ 9999 ∧ r = some (.int 3)))))) (jj_x D A (tt_OX (fun _ _ _ => False))) args s 0 0 A) (jj_X D A ([] ++ pl)) 0 0 18 [(2, .int x_4), (0, .ref h0), (1, .int p1)] [] := by
        intro NL_3
        induction NL_3 with
        | zero => intro pl x_4 _ hok hfr hfa lx_4 ux_4 hNL_3; exfalso; omega
        | succ NL_3 ihL_3 =>
          intro pl x_4 _ hok hfr hfa lx_4 ux_4 hNL_3
          replace ihL_3 := fun pl x_4 h1 => ihL_3 pl x_4 trivial h1
          refine jj_iload_n C dX2_earningFault_18 rfl ?_
          refine jj_aload_n C dX2_earningFault_19 rfl ?_
          refine tt_get C hok jk_2 7 (by decide) jw_fcf7ccfd1e (t := (0, 0, 6)) hk0 (by decide) rfl rfl dX2_earningFault_20 (fun v_5 hv_5 hf_6 => ?_)
          obtain ⟨x_7, rfl, lx_7, ux_7⟩ := tt_vi hv_5
          refine jj_icmp_ge (tgt := 74) C dX2_earningFault_23 (by decide) (fun c_8 => ?_) (fun c_8 => ?_)
          · have z_c_8 := jc_le (a := (x_7).toInt) (b := (x_4).toInt) c_8 rfl rfl
            refine jj_iconst (v := 0) C dX2_earningFault_74 (by decide) ?_
            exact jj_iret C ⟨[], pl, rfl, rfl, hok, hfr, hfa, (Or.inr (Or.inl ⟨(by first | omega | exact tt_lo _ | exact tt_hi _), (by first | omega | exact tt_lo _ | exact tt_hi _), rfl⟩))⟩ dX2_earningFault_75 (jj_le rfl) (jj_le rfl)
          · have z_c_8 := jc_nle (a := (x_7).toInt) (b := (x_4).toInt) c_8 rfl rfl
            refine jj_iload_n C dX2_earningFault_26 rfl ?_
            refine jj_if_le (tgt := 74) C dX2_earningFault_27 (by decide) (fun c_9 => ?_) (fun c_9 => ?_)
            · have z_c_9 := jc_le (a := (p1).toInt) (b := (0)) c_9 rfl (by decide)
              refine jj_iconst (v := 0) C dX2_earningFault_74 (by decide) ?_
              exact jj_iret C ⟨[], pl, rfl, rfl, hok, hfr, hfa, (Or.inr (Or.inl ⟨(by first | omega | exact tt_lo _ | exact tt_hi _), (by first | omega | exact tt_lo _ | exact tt_hi _), rfl⟩))⟩ dX2_earningFault_75 (jj_le rfl) (jj_le rfl)
            · have z_c_9 := jc_nle (a := (p1).toInt) (b := (0)) c_9 rfl (by decide)
              refine jj_aload_n C dX2_earningFault_30 rfl ?_
              refine tt_get C hok jk_2 11 (by decide) jw_2bd072191f (t := (2, 6, 0)) hk0 (by decide) rfl rfl dX2_earningFault_31 (fun v_10 hv_10 hf_11 => ?_)
              obtain ⟨a_12, rfl, ka_12⟩ := tt_vr hv_10
              refine jj_iload_n C dX2_earningFault_34 rfl ?_
              refine tt_aald C hok (t := (2, 2, 0)) ka_12 (by decide) rfl rfl rfl (vp_in_iff.mpr ⟨by omega, by omega⟩) dX2_earningFault_35 (fun v_13 hv_13 => ?_)
              obtain ⟨a_14, rfl, ka_14⟩ := tt_vr hv_13
              refine jj_iload_n C dX2_earningFault_36 rfl ?_
              obtain ⟨qc, gs, hqc⟩ := tt_recv (cx := []) hok ka_14 (by decide) rfl
              refine tt_callV (rest := []) C (tc_X8_assetsAfter_3 hl D cA ak a_14 p1 ka_14 hok) [] [] rfl rfl (by decide) (by decide) (by decide) qc hqc rfl rfl jw_ce40e6c69a jw_f7b9340b8f jw_ed03d6c861 jw_364e75910d jw_37a3f39914 jn_X8_assetsAfter rfl (jj_le rfl) (jj_le rfl) (jj_le rfl) (jj_le rfl) (jj_le rfl) dX2_earningFault_37 rfl (fun _ _ _ hX => hX.elim) (fun rx pl_15 r O_18 => ?_)
              obtain ⟨rfl, hok_16, hr_17, hfa9, hR_20⟩ := O_18
              replace hf_6 := hr_17.at hk0 (by decide) (by decide) hf_6
              replace hf_11 := hr_17.at hk0 (by decide) (by decide) hf_11
              replace hfr := hfr.trans (hr_17.sub (by decide))
              replace hfa := hfa.trans (hfa9.sub (by decide))
              obtain ⟨y_23, rfl⟩ := hR_20
              refine jj_lstore_n C dX2_earningFault_40 (by decide) rfl ?_
              refine jj_lload_n C dX2_earningFault_41 rfl ?_
              refine jj_ldc2 (v := 1000000000) C dX2_earningFault_42 jw_aeeb253457 ?_
              refine jj_lcmp_gt (tgt := 66) C dX2_earningFault_45 dX2_earningFault_46 (by decide) (fun c_24 => ?_) (fun c_24 => ?_)
              · refine jj_iconst (v := 3) C dX2_earningFault_66 (by decide) ?_
                exact jj_iret C ⟨[], pl_15, rfl, rfl, hok_16, hfr, hfa, (Or.inr (Or.inr ⟨(by first | omega | exact tt_lo _ | exact tt_hi _), (by first | omega | exact tt_lo _ | exact tt_hi _), rfl⟩))⟩ dX2_earningFault_67 (jj_le rfl) (jj_le rfl)
              · refine jj_aload_n C dX2_earningFault_49 rfl ?_
                refine tt_getF C hok_16 jk_2 11 (by decide) jw_2bd072191f (t := (2, 6, 0)) hk0 (by decide) rfl rfl hf_11 dX2_earningFault_50 ?_
                refine jj_iload_n C dX2_earningFault_53 rfl ?_
                refine tt_aald C hok_16 (t := (2, 2, 0)) ka_12 (by decide) rfl rfl rfl (vp_in_iff.mpr ⟨by omega, by omega⟩) dX2_earningFault_54 (fun v_25 hv_25 => ?_)
                obtain ⟨a_26, rfl, ka_26⟩ := tt_vr hv_25
                refine jj_lload_n C dX2_earningFault_55 rfl ?_
                obtain ⟨qc, gs, hqc⟩ := tt_recv (cx := []) hok_16 ka_26 (by decide) rfl
                refine tt_callV (rest := []) C (tc_X8_priceWith_1 hl D cA ak a_26 y_23 ka_26 hok_16) [] [] rfl rfl (by decide) (by decide) (by decide) qc hqc rfl rfl jw_4bde7a86c3 jw_2e72231b40 jw_b9c09a9015 jw_364e75910d jw_62a4e9d3ce jn_X8_priceWith rfl (jj_le rfl) (jj_le rfl) (jj_le rfl) (jj_le rfl) (jj_le rfl) dX2_earningFault_56 rfl (fun _ _ _ hX => hX.elim) (fun rx pl_27 r O_30 => ?_)
                obtain ⟨rfl, hok_28, hr_29, hfa9, hR_32⟩ := O_30
                replace hf_6 := hr_29.at hk0 (by decide) (by decide) hf_6
                replace hf_11 := hr_29.at hk0 (by decide) (by decide) hf_11
                replace hfr := hfr.trans (hr_29.sub (by decide))
                replace hfa := hfa.trans (hfa9.sub (by decide))
                rcases hR_32 with rfl | ⟨y_35, rfl⟩
                · refine jj_ldc2 (v := 100000000) C dX2_earningFault_59 jw_d09b6db76b ?_
                  refine jj_lcmp_leT (tgt := 68) C dX2_earningFault_62 dX2_earningFault_63 (by decide) (by decide) ?_
                  obtain ⟨x_36, ex_36, vx_36⟩ := tt_inc (x := x_4) (n := 1) (by omega) (by omega)
                  refine jj_iinc (v := x_36) C dX2_earningFault_68 rfl ex_36 (by decide) rfl ?_
                  refine jj_goto (tgt := 18) C dX2_earningFault_71 (by decide) ?_
                  refine jj_loc [0, 2, 3] rfl ?_
                  exact ihL_3 pl_27 x_36 hok_28 hfr hfa (by first | omega | decide | exact tt_lo _ | exact tt_hi _) (by first | omega | decide | exact tt_lo _ | exact tt_hi _) (by first | omega | decide | exact tt_lo _ | exact tt_hi _)
                · refine jj_ldc2 (v := 100000000) C dX2_earningFault_59 jw_d09b6db76b ?_
                  refine jj_lcmp_le (tgt := 68) C dX2_earningFault_62 dX2_earningFault_63 (by decide) (fun c_37 => ?_) (fun c_37 => ?_)
                  · obtain ⟨x_38, ex_38, vx_38⟩ := tt_inc (x := x_4) (n := 1) (by omega) (by omega)
                    refine jj_iinc (v := x_38) C dX2_earningFault_68 rfl ex_38 (by decide) rfl ?_
                    refine jj_goto (tgt := 18) C dX2_earningFault_71 (by decide) ?_
                    refine jj_loc [0, 2, 3] rfl ?_
                    exact ihL_3 pl_27 x_38 hok_28 hfr hfa (by first | omega | decide | exact tt_lo _ | exact tt_hi _) (by first | omega | decide | exact tt_lo _ | exact tt_hi _) (by first | omega | decide | exact tt_lo _ | exact tt_hi _)
                  · refine jj_iconst (v := 3) C dX2_earningFault_66 (by decide) ?_
                    exact jj_iret C ⟨[], pl_27, rfl, rfl, hok_28, hfr, hfa, (Or.inr (Or.inr ⟨(by first | omega | exact tt_lo _ | exact tt_hi _), (by first | omega | exact tt_lo _ | exact tt_hi _), rfl⟩))⟩ dX2_earningFault_67 (jj_le rfl) (jj_le rfl)
      exact hL_3 _ pl0 (0 : Int32) trivial hok hfr hfa (by first | omega | decide | exact tt_lo _ | exact tt_hi _) (by first | omega | decide | exact tt_lo _ | exact tt_hi _) (Int.self_le_toNat _)
    · have z_c_2 := jc_nle (a := (p1).toInt) (b := (9999)) c_2 rfl (by decide)
      refine jj_iconst (v := 2) C dX2_earningFault_14 (by decide) ?_
      exact jj_iret C ⟨[], pl0, rfl, rfl, hok, hfr, hfa, (Or.inl rfl)⟩ dX2_earningFault_15 (jj_le rfl) (jj_le rfl)

set_option maxHeartbeats 4000000 in
set_option maxRecDepth 100000 in
theorem tc_X10_refuse_3 {l : Launch} (hl : l.stackTraces = false) (D : va_G) (cA : Nat → ClassId) (ak : (Nat → Nat) × (Nat → Nat)) {Kd : Nat → Nat} {pl0 : va_W} (hok : tt_ok tt_tk cA Kd pl0) : jj_M l D cA ak yX10_refuse (.code yX10_refuse cX10_refuse 1 none) 6 82 1 6 ([] ++ pl0) [.int 2] (tt_O (fun rx pl1 r => False)) (tt_OX (fun E rx pl1 => rx = [] ∧ tt_ok tt_tk cA Kd pl1 ∧ tt_fr Kd [] pl0 pl1 ∧ tt_fa Kd [] pl0 pl1 ∧ (E = "java/lang/IllegalArgumentException"))) := by
  refine jj_start hl (by decide) jw_57df353171 (jj_le rfl) ?_
  intro p e s m args below meth c A hargs hA C hex hmn
  have hfr := tt_fr.refl (K := Kd) (WS := []) pl0
  have hfa := tt_fa.refl (K := Kd) (WA := []) pl0
  refine jj_iload_n C dX10_refuse_0 rfl ?_
  refine jj_iconst (v := 1) C dX10_refuse_1 (by decide) ?_
  refine jj_icmp_neT (tgt := 15) C dX10_refuse_2 (by decide) (by decide) ?_
  refine jj_iload_n C dX10_refuse_15 rfl ?_
  refine jj_iconst (v := 2) C dX10_refuse_16 (by decide) ?_
  refine jj_icmp_neF (tgt := 30) C dX10_refuse_17 (by decide) (by decide) ?_
  exact jj_throw (k := 39) (text := "an argument is out of its range") C jt_RX10_75 jw_0e6c957e85 (by decide +kernel) dX10_refuse_20 dX10_refuse_23 dX10_refuse_24 dX10_refuse_26 dX10_refuse_29 hex (jj_le rfl) (jj_le rfl) (jj_le rfl) (jj_le rfl) ⟨[], pl0, rfl, rfl, hok, hfr, hfa, rfl⟩ (jj_le rfl) (jj_le rfl)

set_option maxHeartbeats 4000000 in
set_option maxRecDepth 100000 in
theorem tc_X2_earnRate_1 {l : Launch} (hl : l.stackTraces = false) (D : va_G) (cA : Nat → ClassId) (ak : (Nat → Nat) × (Nat → Nat)) {Kd : Nat → Nat} (h0 : Nat) (p1 : Int32) (hk0 : Kd h0 = 1) {pl0 : va_W} (hok : tt_ok tt_tk cA Kd pl0) : jj_M l D cA ak yX2_earnRate (.code yX2_earnRate cX2_earnRate 7 (some .long)) 1 21 0 0 ([] ++ pl0) [.ref h0, .int p1] (tt_O (fun rx pl1 r => rx = [] ∧ tt_ok tt_tk cA Kd pl1 ∧ tt_fr Kd [(2, 2)] pl0 pl1 ∧ tt_fa Kd [5] pl0 pl1 ∧ ((∃ v : Int64, r = some (.long v))))) (tt_OX (fun _ _ _ => False)) := by
  refine jj_start hl (by decide) jw_806a366152 (jj_le rfl) ?_
  intro p e s m args below meth c A hargs hA C hex hmn
  have hfr := tt_fr.refl (K := Kd) (WS := [(2, 2)]) pl0
  have hfa := tt_fa.refl (K := Kd) (WA := [5]) pl0
  have lp1 := tt_lo p1
  have up1 := tt_hi p1
  refine jj_lconst (v := 0) C dX2_earnRate_0 (by decide) ?_
  refine jj_lstore_n C dX2_earnRate_1 (by decide) rfl ?_
  refine jj_iconst (v := 0) C dX2_earnRate_2 (by decide) ?_
  refine jj_istore C dX2_earnRate_3 (by decide) rfl ?_
  have hL_1 : ∀ (N : Nat) (pl : va_W) (x_2 : Int32) (y_3 : Int64), True → tt_ok tt_tk cA Kd pl → tt_fr Kd [(2, 2)] pl0 pl → tt_fa Kd [5] pl0 pl → (0 : Int) ≤ x_2.toInt → x_2.toInt ≤ 6 → (2147483648 - x_2.toInt ≤ (N : Int)) → jj_J p l e (jj_rm 1 21 0 0) s m args below meth c 7 A (vx_MQ below (jj_q D A (tt_O (fun rx pl1 r => rx = [] ∧ tt_ok tt_tk cA Kd pl1 ∧ tt_fr Kd [(2, 2)] pl0 pl1 ∧ tt_fa Kd [5] pl0 pl1 ∧ ((∃ v : Int64, r = some (.long v)))))) (jj_x D A (tt_OX (fun _ _ _ => False))) args s 0 0 A) (jj_X D A ([] ++ pl)) 0 0 5 [(4, .int x_2), (2, .long y_3), (0, .ref h0), (1, .int p1)] [] := by
    intro NL_1
    induction NL_1 with
    | zero => intro pl x_2 y_3 _ hok hfr hfa lx_2 ux_2 hNL_1; exfalso; omega
    | succ NL_1 ihL_1 =>
      intro pl x_2 y_3 _ hok hfr hfa lx_2 ux_2 hNL_1
      replace ihL_1 := fun pl x_2 y_3 h1 => ihL_1 pl x_2 y_3 trivial h1
      refine jj_iload C dX2_earnRate_5 rfl ?_
      refine jj_aload_n C dX2_earnRate_7 rfl ?_
      refine tt_get C hok jk_2 7 (by decide) jw_fcf7ccfd1e (t := (0, 0, 6)) hk0 (by decide) rfl rfl dX2_earnRate_8 (fun v_4 hv_4 hf_5 => ?_)
      obtain ⟨x_6, rfl, lx_6, ux_6⟩ := tt_vi hv_4
      refine jj_icmp_ge (tgt := 61) C dX2_earnRate_11 (by decide) (fun c_7 => ?_) (fun c_7 => ?_)
      · have z_c_7 := jc_le (a := (x_6).toInt) (b := (x_2).toInt) c_7 rfl rfl
        refine jj_aload_n C dX2_earnRate_61 rfl ?_
        refine tt_get C hok jk_2 10 (by decide) jw_d4020bdca8 (t := (2, 5, 0)) hk0 (by decide) rfl rfl dX2_earnRate_62 (fun v_8 hv_8 hf_9 => ?_)
        obtain ⟨a_10, rfl, ka_10⟩ := tt_vr hv_8
        refine jj_iconst (v := 4) C dX2_earnRate_65 (by decide) ?_
        refine jj_dup2 C dX2_earnRate_66 rfl rfl ?_
        refine tt_lald C hok (t := (1, (-9223372036854775808), 9223372036854775807)) ka_10 (by decide) rfl (vp_in_iff.mpr (by decide)) dX2_earnRate_67 (fun v_11 hv_11 => ?_)
        refine jj_lload_n C dX2_earnRate_68 rfl ?_
        obtain ⟨y_12, ey_12⟩ : ∃ z : Int64, v_11 + y_3 = z := ⟨_, rfl⟩
        refine jj_ladd (v := y_12) C dX2_earnRate_69 ey_12 ?_
        refine tl_last C hok (t := (1, (-9223372036854775808), 9223372036854775807)) ka_10 (by decide) rfl (vp_in_iff.mpr (by decide)) (tt_ja _) dX2_earnRate_70 (fun pl_13 hok_14 tr tl => ?_)
        replace hf_5 := tr _ _ _ hf_5
        replace hf_9 := tr _ _ _ hf_9
        replace hfr := hfr.arr tr
        replace hfa := hfa.wr ka_10 tl (by decide)
        refine jj_lload_n C dX2_earnRate_71 rfl ?_
        exact jj_lret C ⟨[], pl_13, rfl, rfl, hok_14, hfr, hfa, ⟨y_3, rfl⟩⟩ dX2_earnRate_72 (jj_le rfl) (jj_le rfl)
      · have z_c_7 := jc_nle (a := (x_6).toInt) (b := (x_2).toInt) c_7 rfl rfl
        refine jj_aload_n C dX2_earnRate_14 rfl ?_
        refine tt_get C hok jk_2 11 (by decide) jw_2bd072191f (t := (2, 6, 0)) hk0 (by decide) rfl rfl dX2_earnRate_15 (fun v_15 hv_15 hf_16 => ?_)
        obtain ⟨a_17, rfl, ka_17⟩ := tt_vr hv_15
        refine jj_iload C dX2_earnRate_18 rfl ?_
        refine tt_aald C hok (t := (2, 2, 0)) ka_17 (by decide) rfl rfl rfl (vp_in_iff.mpr ⟨by omega, by omega⟩) dX2_earnRate_20 (fun v_18 hv_18 => ?_)
        obtain ⟨a_19, rfl, ka_19⟩ := tt_vr hv_18
        refine jj_iload_n C dX2_earnRate_21 rfl ?_
        obtain ⟨qc, gs, hqc⟩ := tt_recv (cx := []) hok ka_19 (by decide) rfl
        refine tt_callV (rest := []) C (tc_X8_assetsAfter_3 hl D cA ak a_19 p1 ka_19 hok) [] [] rfl rfl (by decide) (by decide) (by decide) qc hqc rfl rfl jw_ce40e6c69a jw_f7b9340b8f jw_ed03d6c861 jw_364e75910d jw_37a3f39914 jn_X8_assetsAfter rfl (jj_le rfl) (jj_le rfl) (jj_le rfl) (jj_le rfl) (jj_le rfl) dX2_earnRate_22 rfl (fun _ _ _ hX => hX.elim) (fun rx pl_20 r O_23 => ?_)
        obtain ⟨rfl, hok_21, hr_22, hfa9, hR_25⟩ := O_23
        replace hf_5 := hr_22.at hk0 (by decide) (by decide) hf_5
        replace hf_16 := hr_22.at hk0 (by decide) (by decide) hf_16
        replace hfr := hfr.trans (hr_22.sub (by decide))
        replace hfa := hfa.trans (hfa9.sub (by decide))
        obtain ⟨y_28, rfl⟩ := hR_25
        refine jj_lstore C dX2_earnRate_25 (by decide) rfl ?_
        refine jj_lload_n C dX2_earnRate_27 rfl ?_
        refine jj_lload C dX2_earnRate_28 rfl ?_
        refine jj_aload_n C dX2_earnRate_30 rfl ?_
        refine tt_getF C hok_21 jk_2 11 (by decide) jw_2bd072191f (t := (2, 6, 0)) hk0 (by decide) rfl rfl hf_16 dX2_earnRate_31 ?_
        refine jj_iload C dX2_earnRate_34 rfl ?_
        refine tt_aald C hok_21 (t := (2, 2, 0)) ka_17 (by decide) rfl rfl rfl (vp_in_iff.mpr ⟨by omega, by omega⟩) dX2_earnRate_36 (fun v_29 hv_29 => ?_)
        obtain ⟨a_30, rfl, ka_30⟩ := tt_vr hv_29
        refine tt_get C hok_21 jk_9 2 (by decide) jw_5719898240 (t := (1, (-9223372036854775808), 9223372036854775807)) ka_30 (by decide) rfl rfl dX2_earnRate_37 (fun v_31 hv_31 hf_32 => ?_)
        obtain ⟨y_33, rfl, -, -⟩ := tt_vj hv_31
        obtain ⟨y_34, ey_34⟩ : ∃ z : Int64, y_28 - y_33 = z := ⟨_, rfl⟩
        refine jj_lsub (v := y_34) C dX2_earnRate_40 ey_34 ?_
        obtain ⟨y_35, ey_35⟩ : ∃ z : Int64, y_3 + y_34 = z := ⟨_, rfl⟩
        refine jj_ladd (v := y_35) C dX2_earnRate_41 ey_35 ?_
        refine jj_lstore_n C dX2_earnRate_42 (by decide) rfl ?_
        refine jj_aload_n C dX2_earnRate_43 rfl ?_
        refine tt_getF C hok_21 jk_2 11 (by decide) jw_2bd072191f (t := (2, 6, 0)) hk0 (by decide) rfl rfl hf_16 dX2_earnRate_44 ?_
        refine jj_iload C dX2_earnRate_47 rfl ?_
        refine tt_aald C hok_21 (t := (2, 2, 0)) ka_17 (by decide) rfl rfl rfl (vp_in_iff.mpr ⟨by omega, by omega⟩) dX2_earnRate_49 (fun v_36 hv_36 => ?_)
        obtain ⟨a_37, rfl, ka_37⟩ := tt_vr hv_36
        refine jj_lload C dX2_earnRate_50 rfl ?_
        refine rl_put C hok_21 jk_9 2 (by decide) jw_5719898240 (t := (1, (-9223372036854775808), 9223372036854775807)) ka_37 (by decide) rfl rfl rfl (tt_ja y_28) rfl rfl dX2_earnRate_52 (fun pl_38 hok_39 tr hn tl => ?_)
        replace hf_5 := tr _ _ _ (Or.inl (tt_ne hk0 ka_37 (by decide))) hf_5
        replace hf_16 := tr _ _ _ (Or.inl (tt_ne hk0 ka_37 (by decide))) hf_16
        have hf_40 := hn
        replace hfr := hfr.put ka_37 tr (by decide)
        replace hfa := hfa.all tl
        obtain ⟨x_41, ex_41, vx_41⟩ := tt_inc (x := x_2) (n := 1) (by omega) (by omega)
        refine jj_iinc (v := x_41) C dX2_earnRate_55 rfl ex_41 (by decide) rfl ?_
        refine jj_goto (tgt := 5) C dX2_earnRate_58 (by decide) ?_
        refine jj_loc [0, 1, 3, 4] rfl ?_
        exact ihL_1 pl_38 x_41 y_35 hok_39 hfr hfa (by first | omega | decide | exact tt_lo _ | exact tt_hi _) (by first | omega | decide | exact tt_lo _ | exact tt_hi _) (by first | omega | decide | exact tt_lo _ | exact tt_hi _)
  exact hL_1 _ pl0 (0 : Int32) (0 : Int64) trivial hok hfr hfa (by first | omega | decide | exact tt_lo _ | exact tt_hi _) (by first | omega | decide | exact tt_lo _ | exact tt_hi _) (Int.self_le_toNat _)

set_option maxHeartbeats 4000000 in
set_option maxRecDepth 100000 in
theorem tc_X10_refuse_4 {l : Launch} (hl : l.stackTraces = false) (D : va_G) (cA : Nat → ClassId) (ak : (Nat → Nat) × (Nat → Nat)) {Kd : Nat → Nat} {pl0 : va_W} (hok : tt_ok tt_tk cA Kd pl0) : jj_M l D cA ak yX10_refuse (.code yX10_refuse cX10_refuse 1 none) 6 82 1 6 ([] ++ pl0) [.int 3] (tt_O (fun rx pl1 r => False)) (tt_OX (fun E rx pl1 => rx = [] ∧ tt_ok tt_tk cA Kd pl1 ∧ tt_fr Kd [] pl0 pl1 ∧ tt_fa Kd [] pl0 pl1 ∧ (E = "java/lang/IllegalStateException"))) := by
  refine jj_start hl (by decide) jw_57df353171 (jj_le rfl) ?_
  intro p e s m args below meth c A hargs hA C hex hmn
  have hfr := tt_fr.refl (K := Kd) (WS := []) pl0
  have hfa := tt_fa.refl (K := Kd) (WA := []) pl0
  refine jj_iload_n C dX10_refuse_0 rfl ?_
  refine jj_iconst (v := 1) C dX10_refuse_1 (by decide) ?_
  refine jj_icmp_neT (tgt := 15) C dX10_refuse_2 (by decide) (by decide) ?_
  refine jj_iload_n C dX10_refuse_15 rfl ?_
  refine jj_iconst (v := 2) C dX10_refuse_16 (by decide) ?_
  refine jj_icmp_neT (tgt := 30) C dX10_refuse_17 (by decide) (by decide) ?_
  refine jj_iload_n C dX10_refuse_30 rfl ?_
  refine jj_iconst (v := 3) C dX10_refuse_31 (by decide) ?_
  refine jj_icmp_neF (tgt := 45) C dX10_refuse_32 (by decide) (by decide) ?_
  exact jj_throw (k := 40) (text := "this cannot be done now") C jt_RX10_64 jw_2e653062aa (by decide +kernel) dX10_refuse_35 dX10_refuse_38 dX10_refuse_39 dX10_refuse_41 dX10_refuse_44 hex (jj_le rfl) (jj_le rfl) (jj_le rfl) (jj_le rfl) ⟨[], pl0, rfl, rfl, hok, hfr, hfa, rfl⟩ (jj_le rfl) (jj_le rfl)

set_option maxHeartbeats 4000000 in
set_option maxRecDepth 100000 in
theorem tc_X10_feesIf_1 {l : Launch} (hl : l.stackTraces = false) (D : va_G) (cA : Nat → ClassId) (ak : (Nat → Nat) × (Nat → Nat)) {Kd : Nat → Nat} (h0 : Nat) (p1 : Int32) (hk0 : Kd h0 = 15) {pl0 : va_W} (hok : tt_ok tt_tk cA Kd pl0) : jj_M l D cA ak yX10_feesIf (.code yX10_feesIf cX10_feesIf 5 (some .long)) 6 82 1 6 ([] ++ pl0) [.ref h0, .int p1] (tt_O (fun rx pl1 r => rx = [] ∧ tt_ok tt_tk cA Kd pl1 ∧ tt_fr Kd [(1, 0), (1, 1), (1, 2), (1, 3), (1, 4), (1, 5), (1, 6), (1, 7), (1, 8), (1, 9), (2, 0), (2, 1), (2, 2), (2, 3), (2, 4), (3, 0), (3, 1), (3, 2), (3, 3), (3, 4), (3, 5), (4, 0), (4, 1), (4, 2), (4, 3), (4, 4)] pl0 pl1 ∧ tt_fa Kd [5] pl0 pl1 ∧ ((∃ v : Int64, (-9000 : Int) ≤ p1.toInt ∧ p1.toInt ≤ 9999 ∧ r = some (.long v))))) (tt_OX (fun E rx pl1 => rx = [] ∧ tt_ok tt_tk cA Kd pl1 ∧ tt_fr Kd [(1, 0), (1, 1), (1, 2), (1, 3), (1, 4), (1, 5), (1, 6), (1, 7), (1, 8), (1, 9), (2, 0), (2, 1), (2, 2), (2, 3), (2, 4), (3, 0), (3, 1), (3, 2), (3, 3), (3, 4), (3, 5), (4, 0), (4, 1), (4, 2), (4, 3), (4, 4)] pl0 pl1 ∧ tt_fa Kd [5] pl0 pl1 ∧ (E = "java/lang/IllegalArgumentException"))) := by
  refine jj_start hl (by decide) jw_95d9388292 (jj_le rfl) ?_
  intro p e s m args below meth c A hargs hA C hex hmn
  have hfr := tt_fr.refl (K := Kd) (WS := [(1, 0), (1, 1), (1, 2), (1, 3), (1, 4), (1, 5), (1, 6), (1, 7), (1, 8), (1, 9), (2, 0), (2, 1), (2, 2), (2, 3), (2, 4), (3, 0), (3, 1), (3, 2), (3, 3), (3, 4), (3, 5), (4, 0), (4, 1), (4, 2), (4, 3), (4, 4)]) pl0
  have hfa := tt_fa.refl (K := Kd) (WA := [5]) pl0
  have lp1 := tt_lo p1
  have up1 := tt_hi p1
  refine jj_iload_n C dX10_feesIf_0 rfl ?_
  refine jj_sipush (v := (-9000)) C dX10_feesIf_1 (by decide) ?_
  refine jj_icmp_lt (tgt := 14) C dX10_feesIf_4 (by decide) (fun c_1 => ?_) (fun c_1 => ?_)
  · have z_c_1 := jc_lt (a := (p1).toInt) (b := (-9000)) c_1 rfl (by decide)
    exact jj_throwW (k := 48) (text := "no such rate") C jt_RX10_75 jw_0e6c957e85 (by decide +kernel) dX10_feesIf_14 dX10_feesIf_17 dX10_feesIf_18 dX10_feesIf_21 dX10_feesIf_24 hex (jj_le rfl) (jj_le rfl) (jj_le rfl) (jj_le rfl) ⟨[], pl0, rfl, rfl, hok, hfr, hfa, rfl⟩ (jj_le rfl) (jj_le rfl)
  · have z_c_1 := jc_nlt (a := (p1).toInt) (b := (-9000)) c_1 rfl (by decide)
    refine jj_iload_n C dX10_feesIf_7 rfl ?_
    refine jj_sipush (v := 9999) C dX10_feesIf_8 (by decide) ?_
    refine jj_icmp_le (tgt := 25) C dX10_feesIf_11 (by decide) (fun c_2 => ?_) (fun c_2 => ?_)
    · have z_c_2 := jc_le (a := (p1).toInt) (b := (9999)) c_2 rfl (by decide)
      refine jj_aload_n C dX10_feesIf_25 rfl ?_
      refine tt_get C hok jk_11 4 (by decide) jw_a0e4d790fa (t := (2, 1, 0)) hk0 (by decide) rfl rfl dX10_feesIf_26 (fun v_3 hv_3 hf_4 => ?_)
      obtain ⟨a_5, rfl, ka_5⟩ := tt_vr hv_3
      refine jj_aload_n C dX10_feesIf_29 rfl ?_
      refine tt_get C hok jk_11 3 (by decide) jw_f82a97e333 (t := (2, 1, 0)) hk0 (by decide) rfl rfl dX10_feesIf_30 (fun v_6 hv_6 hf_7 => ?_)
      obtain ⟨a_8, rfl, ka_8⟩ := tt_vr hv_6
      obtain ⟨qc, gs, hqc⟩ := tt_recv (cx := []) hok ka_5 (by decide) rfl
      refine tt_callV (rest := []) C (tc_X0_copyFrom_1 hl D cA ak a_5 a_8 ka_5 ka_8 hok) [] [] rfl rfl (by decide) (by decide) (by decide) qc hqc rfl rfl jw_4d0cb05860 jw_8aa1bdb2cc jw_ac98d74d03 jw_7d25d4fd32 jw_58241735d3 jn_X0_copyFrom rfl (jj_le rfl) (jj_le rfl) (jj_le rfl) (jj_le rfl) (jj_le rfl) dX10_feesIf_33 rfl (fun _ _ _ hX => hX.elim) (fun rx pl_9 r O_12 => ?_)
      obtain ⟨rfl, hok_10, hr_11, hfa9, hR_14⟩ := O_12
      replace hf_4 := hr_11.at hk0 (by decide) (by decide) hf_4
      replace hf_7 := hr_11.at hk0 (by decide) (by decide) hf_7
      replace hfr := hfr.trans (hr_11.sub (by decide))
      replace hfa := hfa.trans (hfa9.sub (by decide))
      obtain rfl := hR_14
      refine jj_aload_n C dX10_feesIf_36 rfl ?_
      refine tt_getF C hok_10 jk_11 4 (by decide) jw_a0e4d790fa (t := (2, 1, 0)) hk0 (by decide) rfl rfl hf_4 dX10_feesIf_37 ?_
      refine jj_iload_n C dX10_feesIf_40 rfl ?_
      refine tt_callS (rest := []) C (tc_X2_earnRate_1 hl D cA ak a_5 p1 ka_5 hok_10) [] [] rfl rfl (by decide) (by decide) (by decide) jw_dcfc2cf167 jw_545b666dd9 jw_79af3f4029 jw_806a366152 jn_X2_earnRate rfl (jj_le rfl) (jj_le rfl) (jj_le rfl) (jj_le rfl) (jj_le rfl) dX10_feesIf_41 rfl (fun _ _ _ hX => hX.elim) (fun rx pl_17 r O_20 => ?_)
      obtain ⟨rfl, hok_18, hr_19, hfa9, hR_22⟩ := O_20
      replace hf_4 := hr_19.at hk0 (by decide) (by decide) hf_4
      replace hf_7 := hr_19.at hk0 (by decide) (by decide) hf_7
      replace hfr := hfr.trans (hr_19.sub (by decide))
      replace hfa := hfa.trans (hfa9.sub (by decide))
      obtain ⟨y_25, rfl⟩ := hR_22
      refine jj_pop2 C dX10_feesIf_44 rfl ?_
      refine jj_lconst (v := 0) C dX10_feesIf_45 (by decide) ?_
      refine jj_lstore_n C dX10_feesIf_46 (by decide) rfl ?_
      refine jj_iconst (v := 0) C dX10_feesIf_47 (by decide) ?_
      refine jj_istore C dX10_feesIf_48 (by decide) rfl ?_
      have hL_26 : ∀ (N : Nat) (pl : va_W) (x_27 : Int32) (y_28 : Int64), True → tt_ok tt_tk cA Kd pl → tt_fr Kd [(1, 0), (1, 1), (1, 2), (1, 3), (1, 4), (1, 5), (1, 6), (1, 7), (1, 8), (1, 9), (2, 0), (2, 1), (2, 2), (2, 3), (2, 4), (3, 0), (3, 1), (3, 2), (3, 3), (3, 4), (3, 5), (4, 0), (4, 1), (4, 2), (4, 3), (4, 4)] pl0 pl → tt_fa Kd [5] pl0 pl → tt_at pl h0 4 (.ref a_5) → tt_at pl h0 3 (.ref a_8) → (0 : Int) ≤ x_27.toInt → x_27.toInt ≤ 6 → (2147483648 - x_27.toInt ≤ (N : Int)) → jj_J p l e (jj_rm 6 82 1 6) s m args below meth c 5 A (vx_MQ below (jj_q D A (tt_O (fun rx pl1 r => rx = [] ∧ tt_ok tt_tk cA Kd pl1 ∧ tt_fr Kd [(1, 0), (1, 1), (1, 2), (1, 3), (1, 4), (1, 5), (1, 6), (1, 7), (1, 8), (1, 9), (2, 0), (2, 1), (2, 2), (2, 3), (2, 4), (3, 0), (3, 1), (3, 2), (3, 3), (3, 4), (3, 5), (4, 0), (4, 1), (4, 2), (4, 3), (4, 4)] pl0 pl1 ∧ tt_fa Kd [5] pl0 pl1 ∧ ((∃ v : Int64, (-9000 : Int) ≤ p1.toInt ∧ p1.toInt ≤ 9999 ∧ r = some (.long v)))))) (jj_x D A (tt_OX (fun E rx pl1 => rx = [] ∧ tt_ok tt_tk cA Kd pl1 ∧ tt_fr Kd [(1, 0), (1, 1), (1, 2), (1, 3), (1, 4), (1, 5), (1, 6), (1, 7), (1, 8), (1, 9), (2, 0), (2, 1), (2, 2), (2, 3), (2, 4), (3, 0), (3, 1), (3, 2), (3, 3), (3, 4), (3, 5), (4, 0), (4, 1), (4, 2), (4, 3), (4, 4)] pl0 pl1 ∧ tt_fa Kd [5] pl0 pl1 ∧ (E = "java/lang/IllegalArgumentException")))) args s 1 6 A) (jj_X D A ([] ++ pl)) 0 0 50 [(4, .int x_27), (2, .long y_28), (0, .ref h0), (1, .int p1)] [] := by
        intro NL_26
        induction NL_26 with
        | zero => intro pl x_27 y_28 _ hok hfr hfa hf_29 hf_30 lx_27 ux_27 hNL_26; exfalso; omega
        | succ NL_26 ihL_26 =>
          intro pl x_27 y_28 _ hok hfr hfa hf_29 hf_30 lx_27 ux_27 hNL_26
          replace ihL_26 := fun pl x_27 y_28 h1 => ihL_26 pl x_27 y_28 trivial h1
          refine jj_iload C dX10_feesIf_50 rfl ?_
          refine jj_aload_n C dX10_feesIf_52 rfl ?_
          refine tt_getF C hok jk_11 4 (by decide) jw_a0e4d790fa (t := (2, 1, 0)) hk0 (by decide) rfl rfl hf_29 dX10_feesIf_53 ?_
          refine tt_get C hok jk_2 7 (by decide) jw_cf775c5646 (t := (0, 0, 6)) ka_5 (by decide) rfl rfl dX10_feesIf_56 (fun v_31 hv_31 hf_32 => ?_)
          obtain ⟨x_33, rfl, lx_33, ux_33⟩ := tt_vi hv_31
          refine jj_icmp_ge (tgt := 91) C dX10_feesIf_59 (by decide) (fun c_34 => ?_) (fun c_34 => ?_)
          · have z_c_34 := jc_le (a := (x_33).toInt) (b := (x_27).toInt) c_34 rfl rfl
            refine jj_lload_n C dX10_feesIf_91 rfl ?_
            exact jj_lret C ⟨[], pl, rfl, rfl, hok, hfr, hfa, ⟨y_28, (by first | omega | exact tt_lo _ | exact tt_hi _), (by first | omega | exact tt_lo _ | exact tt_hi _), rfl⟩⟩ dX10_feesIf_92 (jj_le rfl) (jj_le rfl)
          · have z_c_34 := jc_nle (a := (x_33).toInt) (b := (x_27).toInt) c_34 rfl rfl
            refine jj_lload_n C dX10_feesIf_62 rfl ?_
            refine jj_aload_n C dX10_feesIf_63 rfl ?_
            refine tt_getF C hok jk_11 4 (by decide) jw_a0e4d790fa (t := (2, 1, 0)) hk0 (by decide) rfl rfl hf_29 dX10_feesIf_64 ?_
            refine tt_get C hok jk_2 11 (by decide) jw_5e6427264b (t := (2, 6, 0)) ka_5 (by decide) rfl rfl dX10_feesIf_67 (fun v_35 hv_35 hf_36 => ?_)
            obtain ⟨a_37, rfl, ka_37⟩ := tt_vr hv_35
            refine jj_iload C dX10_feesIf_70 rfl ?_
            refine tt_aald C hok (t := (2, 2, 0)) ka_37 (by decide) rfl rfl rfl (vp_in_iff.mpr ⟨by omega, by omega⟩) dX10_feesIf_72 (fun v_38 hv_38 => ?_)
            obtain ⟨a_39, rfl, ka_39⟩ := tt_vr hv_38
            refine jj_aload_n C dX10_feesIf_73 rfl ?_
            refine tt_getF C hok jk_11 4 (by decide) jw_a0e4d790fa (t := (2, 1, 0)) hk0 (by decide) rfl rfl hf_29 dX10_feesIf_74 ?_
            refine tt_get C hok jk_2 3 (by decide) jw_649edee56e (t := (0, (-2147483648), 2147483647)) ka_5 (by decide) rfl rfl dX10_feesIf_77 (fun v_40 hv_40 hf_41 => ?_)
            obtain ⟨x_42, rfl, lx_42, ux_42⟩ := tt_vi hv_40
            obtain ⟨qc, gs, hqc⟩ := tt_recv (cx := []) hok ka_39 (by decide) rfl
            refine tt_callV (rest := [.long y_28]) C (tc_X8_accruedFee_1 hl D cA ak a_39 x_42 ka_39 hok) [] [] rfl rfl (by decide) (by decide) (by decide) qc hqc rfl rfl jw_8ae5fd1562 jw_16e73d269e jw_e0ac78627f jw_364e75910d jw_449e8f4cf4 jn_X8_accruedFee rfl (jj_le rfl) (jj_le rfl) (jj_le rfl) (jj_le rfl) (jj_le rfl) dX10_feesIf_80 rfl (fun _ _ _ hX => hX.elim) (fun rx pl_43 r O_46 => ?_)
            obtain ⟨rfl, hok_44, hr_45, hfa9, hR_48⟩ := O_46
            replace hf_29 := hr_45.at hk0 (by decide) (by decide) hf_29
            replace hf_30 := hr_45.at hk0 (by decide) (by decide) hf_30
            replace hf_32 := hr_45.at ka_5 (by decide) (by decide) hf_32
            replace hf_36 := hr_45.at ka_5 (by decide) (by decide) hf_36
            replace hf_41 := hr_45.at ka_5 (by decide) (by decide) hf_41
            replace hfr := hfr.trans (hr_45.sub (by decide))
            replace hfa := hfa.trans (hfa9.sub (by decide))
            rcases hR_48 with rfl | ⟨y_51, rfl⟩
            · obtain ⟨y_52, ey_52⟩ : ∃ z : Int64, y_28 + (0 : Int64) = z := ⟨_, rfl⟩
              refine jj_ladd (v := y_52) C dX10_feesIf_83 ey_52 ?_
              refine jj_lstore_n C dX10_feesIf_84 (by decide) rfl ?_
              obtain ⟨x_53, ex_53, vx_53⟩ := tt_inc (x := x_27) (n := 1) (by omega) (by omega)
              refine jj_iinc (v := x_53) C dX10_feesIf_85 rfl ex_53 (by decide) rfl ?_
              refine jj_goto (tgt := 50) C dX10_feesIf_88 (by decide) ?_
              exact ihL_26 pl_43 x_53 y_52 hok_44 hfr hfa hf_29 hf_30 (by first | omega | decide | exact tt_lo _ | exact tt_hi _) (by first | omega | decide | exact tt_lo _ | exact tt_hi _) (by first | omega | decide | exact tt_lo _ | exact tt_hi _)
            · obtain ⟨y_54, ey_54⟩ : ∃ z : Int64, y_28 + y_51 = z := ⟨_, rfl⟩
              refine jj_ladd (v := y_54) C dX10_feesIf_83 ey_54 ?_
              refine jj_lstore_n C dX10_feesIf_84 (by decide) rfl ?_
              obtain ⟨x_55, ex_55, vx_55⟩ := tt_inc (x := x_27) (n := 1) (by omega) (by omega)
              refine jj_iinc (v := x_55) C dX10_feesIf_85 rfl ex_55 (by decide) rfl ?_
              refine jj_goto (tgt := 50) C dX10_feesIf_88 (by decide) ?_
              exact ihL_26 pl_43 x_55 y_54 hok_44 hfr hfa hf_29 hf_30 (by first | omega | decide | exact tt_lo _ | exact tt_hi _) (by first | omega | decide | exact tt_lo _ | exact tt_hi _) (by first | omega | decide | exact tt_lo _ | exact tt_hi _)
      exact hL_26 _ pl_17 (0 : Int32) (0 : Int64) trivial hok_18 hfr hfa hf_4 hf_7 (by first | omega | decide | exact tt_lo _ | exact tt_hi _) (by first | omega | decide | exact tt_lo _ | exact tt_hi _) (Int.self_le_toNat _)
    · have z_c_2 := jc_nle (a := (p1).toInt) (b := (9999)) c_2 rfl (by decide)
      exact jj_throwW (k := 48) (text := "no such rate") C jt_RX10_75 jw_0e6c957e85 (by decide +kernel) dX10_feesIf_14 dX10_feesIf_17 dX10_feesIf_18 dX10_feesIf_21 dX10_feesIf_24 hex (jj_le rfl) (jj_le rfl) (jj_le rfl) (jj_le rfl) ⟨[], pl0, rfl, rfl, hok, hfr, hfa, rfl⟩ (jj_le rfl) (jj_le rfl)

