set_option maxHeartbeats 4000000 in
set_option maxRecDepth 100000 in
theorem tc_X1_subscribeWaiting_1 {l : Launch} (hl : l.stackTraces = false) (D : va_G) (cA : Nat → ClassId) (ak : (Nat → Nat) × (Nat → Nat)) {Kd : Nat → Nat} (h0 : Nat) (h1 : Nat) (hk0 : Kd h0 = 9) (hk1 : Kd h1 = 1) {pl0 : va_W} (hok : tt_ok tt_tk cA Kd pl0) : jj_M l D cA ak yX1_subscribeWaiting (.code yX1_subscribeWaiting cX1_subscribeWaiting 5 none) 3 82 0 0 ([] ++ pl0) [.ref h0, .ref h1] (tt_O (fun rx pl1 r => rx = [] ∧ tt_ok tt_tk cA Kd pl1 ∧ tt_fr Kd [(1, 6), (1, 7), (1, 8), (2, 0), (2, 1), (2, 2), (2, 3), (2, 4), (3, 0), (3, 1), (3, 2), (3, 3), (3, 4), (3, 5), (4, 3)] pl0 pl1 ∧ ((r = none)))) (tt_OX (fun _ _ _ => False)) := by
  refine jj_start hl (by decide) jw_327 (jj_le rfl) ?_
  intro p e s m args below meth c A hargs hA C hex hmn
  have hfr := tt_fr.refl (K := Kd) (WS := [(1, 6), (1, 7), (1, 8), (2, 0), (2, 1), (2, 2), (2, 3), (2, 4), (3, 0), (3, 1), (3, 2), (3, 3), (3, 4), (3, 5), (4, 3)]) pl0
  refine jj_aload_n C dX1_subscribeWaiting_0 rfl ?_
  refine tt_get C hok jk_2 1 (by decide) jw_164 (t := (0, (-2147483648), 2147483647)) hk1 (by decide) rfl rfl dX1_subscribeWaiting_1 (fun v_1 hv_1 hf_2 => ?_)
  obtain ⟨x_3, rfl, lx_3, ux_3⟩ := tt_vi hv_1
  refine jj_iconst (v := 1) C dX1_subscribeWaiting_4 (by decide) ?_
  refine jj_icmp_ne (tgt := 19) C dX1_subscribeWaiting_5 (by decide) (fun c_4 => ?_) (fun c_4 => ?_)
  · have z_c_4 := jc_neq (a := (x_3).toInt) (b := (1)) c_4 rfl (by decide)
    refine jj_iconst (v := (-1)) C dX1_subscribeWaiting_19 (by decide) ?_
    refine jj_istore_n C dX1_subscribeWaiting_20 (by decide) rfl ?_
    refine jj_iconst (v := 0) C dX1_subscribeWaiting_21 (by decide) ?_
    refine jj_istore_n C dX1_subscribeWaiting_22 (by decide) rfl ?_
    have hL_5 : ∀ (N : Nat) (pl : va_W) (x_6 : Int32) (x_7 : Int32), True → tt_ok tt_tk cA Kd pl → tt_fr Kd [(1, 6), (1, 7), (1, 8), (2, 0), (2, 1), (2, 2), (2, 3), (2, 4), (3, 0), (3, 1), (3, 2), (3, 3), (3, 4), (3, 5), (4, 3)] pl0 pl → tt_at pl h1 1 (.int x_3) → (0 : Int) ≤ x_6.toInt → x_6.toInt ≤ 12 → (-1 : Int) ≤ x_7.toInt → x_7.toInt ≤ 5 → (2147483648 - x_6.toInt ≤ (N : Int)) → jj_J p l e (jj_rm 3 82 0 0) s m args below meth c 5 A (vx_MQ below (jj_q D A (tt_O (fun rx pl1 r => rx = [] ∧ tt_ok tt_tk cA Kd pl1 ∧ tt_fr Kd [(1, 6), (1, 7), (1, 8), (2, 0), (2, 1), (2, 2), (2, 3), (2, 4), (3, 0), (3, 1), (3, 2), (3, 3), (3, 4), (3, 5), (4, 3)] pl0 pl1 ∧ ((r = none))))) (jj_x D A (tt_OX (fun _ _ _ => False))) args s 0 0 A) (jj_X D A ([] ++ pl)) 0 0 23 [(3, .int x_6), (2, .int x_7), (0, .ref h0), (1, .ref h1)] [] := by
      intro NL_5
      induction NL_5 with
      | zero => intro pl x_6 x_7 _ hok hfr hf_8 lx_6 ux_6 lx_7 ux_7 hNL_5; exfalso; omega
      | succ NL_5 ihL_5 =>
        intro pl x_6 x_7 _ hok hfr hf_8 lx_6 ux_6 lx_7 ux_7 hNL_5
        replace ihL_5 := fun pl x_6 x_7 h1 => ihL_5 pl x_6 x_7 trivial h1
        refine jj_iload_n C dX1_subscribeWaiting_23 rfl ?_
        refine jj_aload_n C dX1_subscribeWaiting_24 rfl ?_
        refine tt_get C hok jk_2 9 (by decide) jw_75 (t := (0, 0, 12)) hk1 (by decide) rfl rfl dX1_subscribeWaiting_25 (fun v_9 hv_9 hf_10 => ?_)
        obtain ⟨x_11, rfl, lx_11, ux_11⟩ := tt_vi hv_9
        refine jj_icmp_ge (tgt := 86) C dX1_subscribeWaiting_28 (by decide) (fun c_12 => ?_) (fun c_12 => ?_)
        · have z_c_12 := jc_le (a := (x_11).toInt) (b := (x_6).toInt) c_12 rfl rfl
          exact jj_vret C ⟨[], pl, rfl, rfl, hok, hfr, rfl⟩ dX1_subscribeWaiting_86 (jj_le rfl) (jj_le rfl)
        · have z_c_12 := jc_nle (a := (x_11).toInt) (b := (x_6).toInt) c_12 rfl rfl
          refine jj_aload_n C dX1_subscribeWaiting_31 rfl ?_
          refine tt_get C hok jk_2 13 (by decide) jw_76 (t := (2, 8, 0)) hk1 (by decide) rfl rfl dX1_subscribeWaiting_32 (fun v_13 hv_13 hf_14 => ?_)
          obtain ⟨a_15, rfl, ka_15⟩ := tt_vr hv_13
          refine jj_iload_n C dX1_subscribeWaiting_35 rfl ?_
          refine tt_aald C hok (t := (2, 4, 0)) ka_15 (by decide) rfl rfl rfl (vp_in_iff.mpr ⟨by omega, by omega⟩) dX1_subscribeWaiting_36 (fun v_16 hv_16 => ?_)
          obtain ⟨a_17, rfl, ka_17⟩ := tt_vr hv_16
          refine jj_astore C dX1_subscribeWaiting_37 (by decide) rfl ?_
          refine jj_aload C dX1_subscribeWaiting_39 rfl ?_
          refine tt_get C hok jk_7 2 (by decide) jw_77 (t := (0, 0, 1)) ka_17 (by decide) rfl rfl dX1_subscribeWaiting_41 (fun v_18 hv_18 hf_19 => ?_)
          obtain ⟨x_20, rfl, lx_20, ux_20⟩ := tt_vi hv_18
          refine jj_if_ne (tgt := 80) C dX1_subscribeWaiting_44 (by decide) (fun c_21 => ?_) (fun c_21 => ?_)
          · have z_c_21 := jc_neq (a := (x_20).toInt) (b := (0)) c_21 rfl (by decide)
            obtain ⟨x_22, ex_22, vx_22⟩ := tt_inc (x := x_6) (n := 1) (by omega) (by omega)
            refine jj_iinc (v := x_22) C dX1_subscribeWaiting_80 rfl ex_22 (by decide) rfl ?_
            refine jj_goto (tgt := 23) C dX1_subscribeWaiting_83 (by decide) ?_
            refine jj_loc [0, 2, 3, 4] rfl ?_
            exact ihL_5 pl x_22 x_7 hok hfr hf_8 (by first | omega | decide | exact tt_lo _ | exact tt_hi _) (by first | omega | decide | exact tt_lo _ | exact tt_hi _) (by first | omega | decide | exact tt_lo _ | exact tt_hi _) (by first | omega | decide | exact tt_lo _ | exact tt_hi _) (by first | omega | decide | exact tt_lo _ | exact tt_hi _)
          · have z_c_21 := jc_eq (a := (x_20).toInt) (b := (0)) c_21 rfl (by decide)
            refine jj_aload_n C dX1_subscribeWaiting_47 rfl ?_
            refine jj_aload_n C dX1_subscribeWaiting_48 rfl ?_
            refine jj_aload C dX1_subscribeWaiting_49 rfl ?_
            refine jj_iload_n C dX1_subscribeWaiting_51 rfl ?_
            obtain ⟨qc, gs, hqc⟩ := tt_recv (cx := []) hok hk0 (by decide) rfl
            refine tt_callV (rest := []) C (tc_X1_takeIn_2 hl D cA ak h0 h1 a_17 x_7 hk0 hk1 ka_17 (by omega) (by omega) hok) [] [] rfl rfl (by decide) (by decide) (by decide) qc hqc rfl rfl jw_328 jw_357 jw_358 jw_74 jw_329 jn_X1_takeIn rfl (jj_le rfl) (jj_le rfl) (jj_le rfl) (jj_le rfl) (jj_le rfl) dX1_subscribeWaiting_52 rfl (fun _ _ _ hX => hX.elim) (fun rx pl_23 r O_26 => ?_)
            obtain ⟨rfl, hok_24, hr_25, hR_28⟩ := O_26
            replace hf_8 := hr_25.at hk1 (by decide) (by decide) hf_8
            replace hf_10 := hr_25.at hk1 (by decide) (by decide) hf_10
            replace hf_14 := hr_25.at hk1 (by decide) (by decide) hf_14
            replace hf_19 := hr_25.at ka_17 (by decide) (by decide) hf_19
            replace hfr := hfr.trans (hr_25.sub (by decide))
            rcases hR_28 with rfl | rfl
            · refine jj_if_eqT (tgt := 80) C dX1_subscribeWaiting_55 (by decide) (by decide) ?_
              obtain ⟨x_29, ex_29, vx_29⟩ := tt_inc (x := x_6) (n := 1) (by omega) (by omega)
              refine jj_iinc (v := x_29) C dX1_subscribeWaiting_80 rfl ex_29 (by decide) rfl ?_
              refine jj_goto (tgt := 23) C dX1_subscribeWaiting_83 (by decide) ?_
              refine jj_loc [0, 2, 3, 4] rfl ?_
              exact ihL_5 pl_23 x_29 x_7 hok_24 hfr hf_8 (by first | omega | decide | exact tt_lo _ | exact tt_hi _) (by first | omega | decide | exact tt_lo _ | exact tt_hi _) (by first | omega | decide | exact tt_lo _ | exact tt_hi _) (by first | omega | decide | exact tt_lo _ | exact tt_hi _) (by first | omega | decide | exact tt_lo _ | exact tt_hi _)
            · refine jj_if_eqF (tgt := 80) C dX1_subscribeWaiting_55 (by decide) (by decide) ?_
              refine jj_aload C dX1_subscribeWaiting_58 rfl ?_
              refine jj_lconst (v := 0) C dX1_subscribeWaiting_60 (by decide) ?_
              refine tt_put C hok_24 jk_7 3 (by decide) jw_118 (t := (1, (-9223372036854775808), 9223372036854775807)) ka_17 (by decide) rfl rfl rfl (tt_ja (0 : Int64)) rfl rfl dX1_subscribeWaiting_61 (fun pl_30 hok_31 tr hn => ?_)
              replace hf_8 := tr _ _ _ (Or.inl (tt_ne hk1 ka_17 (by decide))) hf_8
              replace hf_10 := tr _ _ _ (Or.inl (tt_ne hk1 ka_17 (by decide))) hf_10
              replace hf_14 := tr _ _ _ (Or.inl (tt_ne hk1 ka_17 (by decide))) hf_14
              replace hf_19 := tr _ _ _ (Or.inr (by decide)) hf_19
              have hf_32 := hn
              replace hfr := hfr.put ka_17 tr (by decide)
              refine jj_iload_n C dX1_subscribeWaiting_64 rfl ?_
              refine jj_iconst (v := (-1)) C dX1_subscribeWaiting_65 (by decide) ?_
              refine jj_icmp_ne (tgt := 78) C dX1_subscribeWaiting_66 (by decide) (fun c_33 => ?_) (fun c_33 => ?_)
              · have z_c_33 := jc_neq (a := (x_7).toInt) (b := (-1)) c_33 rfl (by decide)
                refine jj_iload_n C dX1_subscribeWaiting_78 rfl ?_
                refine jj_istore_n C dX1_subscribeWaiting_79 (by decide) rfl ?_
                obtain ⟨x_34, ex_34, vx_34⟩ := tt_inc (x := x_6) (n := 1) (by omega) (by omega)
                refine jj_iinc (v := x_34) C dX1_subscribeWaiting_80 rfl ex_34 (by decide) rfl ?_
                refine jj_goto (tgt := 23) C dX1_subscribeWaiting_83 (by decide) ?_
                refine jj_loc [0, 1, 3, 4] rfl ?_
                exact ihL_5 pl_30 x_34 x_7 hok_31 hfr hf_8 (by first | omega | decide | exact tt_lo _ | exact tt_hi _) (by first | omega | decide | exact tt_lo _ | exact tt_hi _) (by first | omega | decide | exact tt_lo _ | exact tt_hi _) (by first | omega | decide | exact tt_lo _ | exact tt_hi _) (by first | omega | decide | exact tt_lo _ | exact tt_hi _)
              · have z_c_33 := jc_eq (a := (x_7).toInt) (b := (-1)) c_33 rfl (by decide)
                refine jj_aload_n C dX1_subscribeWaiting_69 rfl ?_
                refine tt_get C hok_31 jk_2 7 (by decide) jw_80 (t := (0, 0, 6)) hk1 (by decide) rfl rfl dX1_subscribeWaiting_70 (fun v_35 hv_35 hf_36 => ?_)
                obtain ⟨x_37, rfl, lx_37, ux_37⟩ := tt_vi hv_35
                refine jj_iconst (v := 1) C dX1_subscribeWaiting_73 (by decide) ?_
                obtain ⟨x_38, ex_38, vx_38⟩ := tt_isub (x := x_37) (y := (1 : Int32)) (a := x_37.toInt) rfl (b := 1) (by decide) (by omega) (by omega)
                refine jj_isub (v := x_38) C dX1_subscribeWaiting_74 ex_38 ?_
                refine jj_goto (tgt := 79) C dX1_subscribeWaiting_75 (by decide) ?_
                refine jj_istore_n C dX1_subscribeWaiting_79 (by decide) rfl ?_
                obtain ⟨x_39, ex_39, vx_39⟩ := tt_inc (x := x_6) (n := 1) (by omega) (by omega)
                refine jj_iinc (v := x_39) C dX1_subscribeWaiting_80 rfl ex_39 (by decide) rfl ?_
                refine jj_goto (tgt := 23) C dX1_subscribeWaiting_83 (by decide) ?_
                refine jj_loc [0, 1, 3, 4] rfl ?_
                exact ihL_5 pl_30 x_39 x_38 hok_31 hfr hf_8 (by first | omega | decide | exact tt_lo _ | exact tt_hi _) (by first | omega | decide | exact tt_lo _ | exact tt_hi _) (by first | omega | decide | exact tt_lo _ | exact tt_hi _) (by first | omega | decide | exact tt_lo _ | exact tt_hi _) (by first | omega | decide | exact tt_lo _ | exact tt_hi _)
    exact hL_5 _ pl0 (0 : Int32) ((-1) : Int32) trivial hok hfr hf_2 (by first | omega | decide | exact tt_lo _ | exact tt_hi _) (by first | omega | decide | exact tt_lo _ | exact tt_hi _) (by first | omega | decide | exact tt_lo _ | exact tt_hi _) (by first | omega | decide | exact tt_lo _ | exact tt_hi _) (Int.self_le_toNat _)
  · have z_c_4 := jc_eq (a := (x_3).toInt) (b := (1)) c_4 rfl (by decide)
    refine jj_aload_n C dX1_subscribeWaiting_8 rfl ?_
    refine tt_get C hok jk_2 7 (by decide) jw_80 (t := (0, 0, 6)) hk1 (by decide) rfl rfl dX1_subscribeWaiting_9 (fun v_40 hv_40 hf_41 => ?_)
    obtain ⟨x_42, rfl, lx_42, ux_42⟩ := tt_vi hv_40
    refine jj_if_le (tgt := 19) C dX1_subscribeWaiting_12 (by decide) (fun c_43 => ?_) (fun c_43 => ?_)
    · have z_c_43 := jc_le (a := (x_42).toInt) (b := (0)) c_43 rfl (by decide)
      refine jj_iconst (v := (-1)) C dX1_subscribeWaiting_19 (by decide) ?_
      refine jj_istore_n C dX1_subscribeWaiting_20 (by decide) rfl ?_
      refine jj_iconst (v := 0) C dX1_subscribeWaiting_21 (by decide) ?_
      refine jj_istore_n C dX1_subscribeWaiting_22 (by decide) rfl ?_
      have hL_44 : ∀ (N : Nat) (pl : va_W) (x_45 : Int32) (x_46 : Int32), True → tt_ok tt_tk cA Kd pl → tt_fr Kd [(1, 6), (1, 7), (1, 8), (2, 0), (2, 1), (2, 2), (2, 3), (2, 4), (3, 0), (3, 1), (3, 2), (3, 3), (3, 4), (3, 5), (4, 3)] pl0 pl → tt_at pl h1 1 (.int x_3) → (0 : Int) ≤ x_45.toInt → x_45.toInt ≤ 12 → (-1 : Int) ≤ x_46.toInt → x_46.toInt ≤ 5 → (2147483648 - x_45.toInt ≤ (N : Int)) → jj_J p l e (jj_rm 3 82 0 0) s m args below meth c 5 A (vx_MQ below (jj_q D A (tt_O (fun rx pl1 r => rx = [] ∧ tt_ok tt_tk cA Kd pl1 ∧ tt_fr Kd [(1, 6), (1, 7), (1, 8), (2, 0), (2, 1), (2, 2), (2, 3), (2, 4), (3, 0), (3, 1), (3, 2), (3, 3), (3, 4), (3, 5), (4, 3)] pl0 pl1 ∧ ((r = none))))) (jj_x D A (tt_OX (fun _ _ _ => False))) args s 0 0 A) (jj_X D A ([] ++ pl)) 0 0 23 [(3, .int x_45), (2, .int x_46), (0, .ref h0), (1, .ref h1)] [] := by
        intro NL_44
        induction NL_44 with
        | zero => intro pl x_45 x_46 _ hok hfr hf_47 lx_45 ux_45 lx_46 ux_46 hNL_44; exfalso; omega
        | succ NL_44 ihL_44 =>
          intro pl x_45 x_46 _ hok hfr hf_47 lx_45 ux_45 lx_46 ux_46 hNL_44
          replace ihL_44 := fun pl x_45 x_46 h1 => ihL_44 pl x_45 x_46 trivial h1
          refine jj_iload_n C dX1_subscribeWaiting_23 rfl ?_
          refine jj_aload_n C dX1_subscribeWaiting_24 rfl ?_
          refine tt_get C hok jk_2 9 (by decide) jw_75 (t := (0, 0, 12)) hk1 (by decide) rfl rfl dX1_subscribeWaiting_25 (fun v_48 hv_48 hf_49 => ?_)
          obtain ⟨x_50, rfl, lx_50, ux_50⟩ := tt_vi hv_48
          refine jj_icmp_ge (tgt := 86) C dX1_subscribeWaiting_28 (by decide) (fun c_51 => ?_) (fun c_51 => ?_)
          · have z_c_51 := jc_le (a := (x_50).toInt) (b := (x_45).toInt) c_51 rfl rfl
            exact jj_vret C ⟨[], pl, rfl, rfl, hok, hfr, rfl⟩ dX1_subscribeWaiting_86 (jj_le rfl) (jj_le rfl)
          · have z_c_51 := jc_nle (a := (x_50).toInt) (b := (x_45).toInt) c_51 rfl rfl
            refine jj_aload_n C dX1_subscribeWaiting_31 rfl ?_
            refine tt_get C hok jk_2 13 (by decide) jw_76 (t := (2, 8, 0)) hk1 (by decide) rfl rfl dX1_subscribeWaiting_32 (fun v_52 hv_52 hf_53 => ?_)
            obtain ⟨a_54, rfl, ka_54⟩ := tt_vr hv_52
            refine jj_iload_n C dX1_subscribeWaiting_35 rfl ?_
            refine tt_aald C hok (t := (2, 4, 0)) ka_54 (by decide) rfl rfl rfl (vp_in_iff.mpr ⟨by omega, by omega⟩) dX1_subscribeWaiting_36 (fun v_55 hv_55 => ?_)
            obtain ⟨a_56, rfl, ka_56⟩ := tt_vr hv_55
            refine jj_astore C dX1_subscribeWaiting_37 (by decide) rfl ?_
            refine jj_aload C dX1_subscribeWaiting_39 rfl ?_
            refine tt_get C hok jk_7 2 (by decide) jw_77 (t := (0, 0, 1)) ka_56 (by decide) rfl rfl dX1_subscribeWaiting_41 (fun v_57 hv_57 hf_58 => ?_)
            obtain ⟨x_59, rfl, lx_59, ux_59⟩ := tt_vi hv_57
            refine jj_if_ne (tgt := 80) C dX1_subscribeWaiting_44 (by decide) (fun c_60 => ?_) (fun c_60 => ?_)
            · have z_c_60 := jc_neq (a := (x_59).toInt) (b := (0)) c_60 rfl (by decide)
              obtain ⟨x_61, ex_61, vx_61⟩ := tt_inc (x := x_45) (n := 1) (by omega) (by omega)
              refine jj_iinc (v := x_61) C dX1_subscribeWaiting_80 rfl ex_61 (by decide) rfl ?_
              refine jj_goto (tgt := 23) C dX1_subscribeWaiting_83 (by decide) ?_
              refine jj_loc [0, 2, 3, 4] rfl ?_
              exact ihL_44 pl x_61 x_46 hok hfr hf_47 (by first | omega | decide | exact tt_lo _ | exact tt_hi _) (by first | omega | decide | exact tt_lo _ | exact tt_hi _) (by first | omega | decide | exact tt_lo _ | exact tt_hi _) (by first | omega | decide | exact tt_lo _ | exact tt_hi _) (by first | omega | decide | exact tt_lo _ | exact tt_hi _)
            · have z_c_60 := jc_eq (a := (x_59).toInt) (b := (0)) c_60 rfl (by decide)
              refine jj_aload_n C dX1_subscribeWaiting_47 rfl ?_
              refine jj_aload_n C dX1_subscribeWaiting_48 rfl ?_
              refine jj_aload C dX1_subscribeWaiting_49 rfl ?_
              refine jj_iload_n C dX1_subscribeWaiting_51 rfl ?_
              obtain ⟨qc, gs, hqc⟩ := tt_recv (cx := []) hok hk0 (by decide) rfl
              refine tt_callV (rest := []) C (tc_X1_takeIn_2 hl D cA ak h0 h1 a_56 x_46 hk0 hk1 ka_56 (by omega) (by omega) hok) [] [] rfl rfl (by decide) (by decide) (by decide) qc hqc rfl rfl jw_328 jw_357 jw_358 jw_74 jw_329 jn_X1_takeIn rfl (jj_le rfl) (jj_le rfl) (jj_le rfl) (jj_le rfl) (jj_le rfl) dX1_subscribeWaiting_52 rfl (fun _ _ _ hX => hX.elim) (fun rx pl_62 r O_65 => ?_)
              obtain ⟨rfl, hok_63, hr_64, hR_67⟩ := O_65
              replace hf_47 := hr_64.at hk1 (by decide) (by decide) hf_47
              replace hf_49 := hr_64.at hk1 (by decide) (by decide) hf_49
              replace hf_53 := hr_64.at hk1 (by decide) (by decide) hf_53
              replace hf_58 := hr_64.at ka_56 (by decide) (by decide) hf_58
              replace hfr := hfr.trans (hr_64.sub (by decide))
              rcases hR_67 with rfl | rfl
              · refine jj_if_eqT (tgt := 80) C dX1_subscribeWaiting_55 (by decide) (by decide) ?_
                obtain ⟨x_68, ex_68, vx_68⟩ := tt_inc (x := x_45) (n := 1) (by omega) (by omega)
                refine jj_iinc (v := x_68) C dX1_subscribeWaiting_80 rfl ex_68 (by decide) rfl ?_
                refine jj_goto (tgt := 23) C dX1_subscribeWaiting_83 (by decide) ?_
                refine jj_loc [0, 2, 3, 4] rfl ?_
                exact ihL_44 pl_62 x_68 x_46 hok_63 hfr hf_47 (by first | omega | decide | exact tt_lo _ | exact tt_hi _) (by first | omega | decide | exact tt_lo _ | exact tt_hi _) (by first | omega | decide | exact tt_lo _ | exact tt_hi _) (by first | omega | decide | exact tt_lo _ | exact tt_hi _) (by first | omega | decide | exact tt_lo _ | exact tt_hi _)
              · refine jj_if_eqF (tgt := 80) C dX1_subscribeWaiting_55 (by decide) (by decide) ?_
                refine jj_aload C dX1_subscribeWaiting_58 rfl ?_
                refine jj_lconst (v := 0) C dX1_subscribeWaiting_60 (by decide) ?_
                refine tt_put C hok_63 jk_7 3 (by decide) jw_118 (t := (1, (-9223372036854775808), 9223372036854775807)) ka_56 (by decide) rfl rfl rfl (tt_ja (0 : Int64)) rfl rfl dX1_subscribeWaiting_61 (fun pl_69 hok_70 tr hn => ?_)
                replace hf_47 := tr _ _ _ (Or.inl (tt_ne hk1 ka_56 (by decide))) hf_47
                replace hf_49 := tr _ _ _ (Or.inl (tt_ne hk1 ka_56 (by decide))) hf_49
                replace hf_53 := tr _ _ _ (Or.inl (tt_ne hk1 ka_56 (by decide))) hf_53
                replace hf_58 := tr _ _ _ (Or.inr (by decide)) hf_58
                have hf_71 := hn
                replace hfr := hfr.put ka_56 tr (by decide)
                refine jj_iload_n C dX1_subscribeWaiting_64 rfl ?_
                refine jj_iconst (v := (-1)) C dX1_subscribeWaiting_65 (by decide) ?_
                refine jj_icmp_ne (tgt := 78) C dX1_subscribeWaiting_66 (by decide) (fun c_72 => ?_) (fun c_72 => ?_)
                · have z_c_72 := jc_neq (a := (x_46).toInt) (b := (-1)) c_72 rfl (by decide)
                  refine jj_iload_n C dX1_subscribeWaiting_78 rfl ?_
                  refine jj_istore_n C dX1_subscribeWaiting_79 (by decide) rfl ?_
                  obtain ⟨x_73, ex_73, vx_73⟩ := tt_inc (x := x_45) (n := 1) (by omega) (by omega)
                  refine jj_iinc (v := x_73) C dX1_subscribeWaiting_80 rfl ex_73 (by decide) rfl ?_
                  refine jj_goto (tgt := 23) C dX1_subscribeWaiting_83 (by decide) ?_
                  refine jj_loc [0, 1, 3, 4] rfl ?_
                  exact ihL_44 pl_69 x_73 x_46 hok_70 hfr hf_47 (by first | omega | decide | exact tt_lo _ | exact tt_hi _) (by first | omega | decide | exact tt_lo _ | exact tt_hi _) (by first | omega | decide | exact tt_lo _ | exact tt_hi _) (by first | omega | decide | exact tt_lo _ | exact tt_hi _) (by first | omega | decide | exact tt_lo _ | exact tt_hi _)
                · have z_c_72 := jc_eq (a := (x_46).toInt) (b := (-1)) c_72 rfl (by decide)
                  refine jj_aload_n C dX1_subscribeWaiting_69 rfl ?_
                  refine tt_get C hok_70 jk_2 7 (by decide) jw_80 (t := (0, 0, 6)) hk1 (by decide) rfl rfl dX1_subscribeWaiting_70 (fun v_74 hv_74 hf_75 => ?_)
                  obtain ⟨x_76, rfl, lx_76, ux_76⟩ := tt_vi hv_74
                  refine jj_iconst (v := 1) C dX1_subscribeWaiting_73 (by decide) ?_
                  obtain ⟨x_77, ex_77, vx_77⟩ := tt_isub (x := x_76) (y := (1 : Int32)) (a := x_76.toInt) rfl (b := 1) (by decide) (by omega) (by omega)
                  refine jj_isub (v := x_77) C dX1_subscribeWaiting_74 ex_77 ?_
                  refine jj_goto (tgt := 79) C dX1_subscribeWaiting_75 (by decide) ?_
                  refine jj_istore_n C dX1_subscribeWaiting_79 (by decide) rfl ?_
                  obtain ⟨x_78, ex_78, vx_78⟩ := tt_inc (x := x_45) (n := 1) (by omega) (by omega)
                  refine jj_iinc (v := x_78) C dX1_subscribeWaiting_80 rfl ex_78 (by decide) rfl ?_
                  refine jj_goto (tgt := 23) C dX1_subscribeWaiting_83 (by decide) ?_
                  refine jj_loc [0, 1, 3, 4] rfl ?_
                  exact ihL_44 pl_69 x_78 x_77 hok_70 hfr hf_47 (by first | omega | decide | exact tt_lo _ | exact tt_hi _) (by first | omega | decide | exact tt_lo _ | exact tt_hi _) (by first | omega | decide | exact tt_lo _ | exact tt_hi _) (by first | omega | decide | exact tt_lo _ | exact tt_hi _) (by first | omega | decide | exact tt_lo _ | exact tt_hi _)
      exact hL_44 _ pl0 (0 : Int32) ((-1) : Int32) trivial hok hfr hf_2 (by first | omega | decide | exact tt_lo _ | exact tt_hi _) (by first | omega | decide | exact tt_lo _ | exact tt_hi _) (by first | omega | decide | exact tt_lo _ | exact tt_hi _) (by first | omega | decide | exact tt_lo _ | exact tt_hi _) (Int.self_le_toNat _)
    · have z_c_43 := jc_nle (a := (x_42).toInt) (b := (0)) c_43 rfl (by decide)
      refine jj_iconst (v := 0) C dX1_subscribeWaiting_15 (by decide) ?_
      refine jj_goto (tgt := 20) C dX1_subscribeWaiting_16 (by decide) ?_
      refine jj_istore_n C dX1_subscribeWaiting_20 (by decide) rfl ?_
      refine jj_iconst (v := 0) C dX1_subscribeWaiting_21 (by decide) ?_
      refine jj_istore_n C dX1_subscribeWaiting_22 (by decide) rfl ?_
      have hL_79 : ∀ (N : Nat) (pl : va_W) (x_80 : Int32) (x_81 : Int32), True → tt_ok tt_tk cA Kd pl → tt_fr Kd [(1, 6), (1, 7), (1, 8), (2, 0), (2, 1), (2, 2), (2, 3), (2, 4), (3, 0), (3, 1), (3, 2), (3, 3), (3, 4), (3, 5), (4, 3)] pl0 pl → tt_at pl h1 1 (.int x_3) → (0 : Int) ≤ x_80.toInt → x_80.toInt ≤ 12 → (-1 : Int) ≤ x_81.toInt → x_81.toInt ≤ 5 → (2147483648 - x_80.toInt ≤ (N : Int)) → jj_J p l e (jj_rm 3 82 0 0) s m args below meth c 5 A (vx_MQ below (jj_q D A (tt_O (fun rx pl1 r => rx = [] ∧ tt_ok tt_tk cA Kd pl1 ∧ tt_fr Kd [(1, 6), (1, 7), (1, 8), (2, 0), (2, 1), (2, 2), (2, 3), (2, 4), (3, 0), (3, 1), (3, 2), (3, 3), (3, 4), (3, 5), (4, 3)] pl0 pl1 ∧ ((r = none))))) (jj_x D A (tt_OX (fun _ _ _ => False))) args s 0 0 A) (jj_X D A ([] ++ pl)) 0 0 23 [(3, .int x_80), (2, .int x_81), (0, .ref h0), (1, .ref h1)] [] := by
        intro NL_79
        induction NL_79 with
        | zero => intro pl x_80 x_81 _ hok hfr hf_82 lx_80 ux_80 lx_81 ux_81 hNL_79; exfalso; omega
        | succ NL_79 ihL_79 =>
          intro pl x_80 x_81 _ hok hfr hf_82 lx_80 ux_80 lx_81 ux_81 hNL_79
          replace ihL_79 := fun pl x_80 x_81 h1 => ihL_79 pl x_80 x_81 trivial h1
          refine jj_iload_n C dX1_subscribeWaiting_23 rfl ?_
          refine jj_aload_n C dX1_subscribeWaiting_24 rfl ?_
          refine tt_get C hok jk_2 9 (by decide) jw_75 (t := (0, 0, 12)) hk1 (by decide) rfl rfl dX1_subscribeWaiting_25 (fun v_83 hv_83 hf_84 => ?_)
          obtain ⟨x_85, rfl, lx_85, ux_85⟩ := tt_vi hv_83
          refine jj_icmp_ge (tgt := 86) C dX1_subscribeWaiting_28 (by decide) (fun c_86 => ?_) (fun c_86 => ?_)
          · have z_c_86 := jc_le (a := (x_85).toInt) (b := (x_80).toInt) c_86 rfl rfl
            exact jj_vret C ⟨[], pl, rfl, rfl, hok, hfr, rfl⟩ dX1_subscribeWaiting_86 (jj_le rfl) (jj_le rfl)
          · have z_c_86 := jc_nle (a := (x_85).toInt) (b := (x_80).toInt) c_86 rfl rfl
            refine jj_aload_n C dX1_subscribeWaiting_31 rfl ?_
            refine tt_get C hok jk_2 13 (by decide) jw_76 (t := (2, 8, 0)) hk1 (by decide) rfl rfl dX1_subscribeWaiting_32 (fun v_87 hv_87 hf_88 => ?_)
            obtain ⟨a_89, rfl, ka_89⟩ := tt_vr hv_87
            refine jj_iload_n C dX1_subscribeWaiting_35 rfl ?_
            refine tt_aald C hok (t := (2, 4, 0)) ka_89 (by decide) rfl rfl rfl (vp_in_iff.mpr ⟨by omega, by omega⟩) dX1_subscribeWaiting_36 (fun v_90 hv_90 => ?_)
            obtain ⟨a_91, rfl, ka_91⟩ := tt_vr hv_90
            refine jj_astore C dX1_subscribeWaiting_37 (by decide) rfl ?_
            refine jj_aload C dX1_subscribeWaiting_39 rfl ?_
            refine tt_get C hok jk_7 2 (by decide) jw_77 (t := (0, 0, 1)) ka_91 (by decide) rfl rfl dX1_subscribeWaiting_41 (fun v_92 hv_92 hf_93 => ?_)
            obtain ⟨x_94, rfl, lx_94, ux_94⟩ := tt_vi hv_92
            refine jj_if_ne (tgt := 80) C dX1_subscribeWaiting_44 (by decide) (fun c_95 => ?_) (fun c_95 => ?_)
            · have z_c_95 := jc_neq (a := (x_94).toInt) (b := (0)) c_95 rfl (by decide)
              obtain ⟨x_96, ex_96, vx_96⟩ := tt_inc (x := x_80) (n := 1) (by omega) (by omega)
              refine jj_iinc (v := x_96) C dX1_subscribeWaiting_80 rfl ex_96 (by decide) rfl ?_
              refine jj_goto (tgt := 23) C dX1_subscribeWaiting_83 (by decide) ?_
              refine jj_loc [0, 2, 3, 4] rfl ?_
              exact ihL_79 pl x_96 x_81 hok hfr hf_82 (by first | omega | decide | exact tt_lo _ | exact tt_hi _) (by first | omega | decide | exact tt_lo _ | exact tt_hi _) (by first | omega | decide | exact tt_lo _ | exact tt_hi _) (by first | omega | decide | exact tt_lo _ | exact tt_hi _) (by first | omega | decide | exact tt_lo _ | exact tt_hi _)
            · have z_c_95 := jc_eq (a := (x_94).toInt) (b := (0)) c_95 rfl (by decide)
              refine jj_aload_n C dX1_subscribeWaiting_47 rfl ?_
              refine jj_aload_n C dX1_subscribeWaiting_48 rfl ?_
              refine jj_aload C dX1_subscribeWaiting_49 rfl ?_
              refine jj_iload_n C dX1_subscribeWaiting_51 rfl ?_
              obtain ⟨qc, gs, hqc⟩ := tt_recv (cx := []) hok hk0 (by decide) rfl
              refine tt_callV (rest := []) C (tc_X1_takeIn_2 hl D cA ak h0 h1 a_91 x_81 hk0 hk1 ka_91 (by omega) (by omega) hok) [] [] rfl rfl (by decide) (by decide) (by decide) qc hqc rfl rfl jw_328 jw_357 jw_358 jw_74 jw_329 jn_X1_takeIn rfl (jj_le rfl) (jj_le rfl) (jj_le rfl) (jj_le rfl) (jj_le rfl) dX1_subscribeWaiting_52 rfl (fun _ _ _ hX => hX.elim) (fun rx pl_97 r O_100 => ?_)
              obtain ⟨rfl, hok_98, hr_99, hR_102⟩ := O_100
              replace hf_82 := hr_99.at hk1 (by decide) (by decide) hf_82
              replace hf_84 := hr_99.at hk1 (by decide) (by decide) hf_84
              replace hf_88 := hr_99.at hk1 (by decide) (by decide) hf_88
              replace hf_93 := hr_99.at ka_91 (by decide) (by decide) hf_93
              replace hfr := hfr.trans (hr_99.sub (by decide))
              rcases hR_102 with rfl | rfl
              · refine jj_if_eqT (tgt := 80) C dX1_subscribeWaiting_55 (by decide) (by decide) ?_
                obtain ⟨x_103, ex_103, vx_103⟩ := tt_inc (x := x_80) (n := 1) (by omega) (by omega)
                refine jj_iinc (v := x_103) C dX1_subscribeWaiting_80 rfl ex_103 (by decide) rfl ?_
                refine jj_goto (tgt := 23) C dX1_subscribeWaiting_83 (by decide) ?_
                refine jj_loc [0, 2, 3, 4] rfl ?_
                exact ihL_79 pl_97 x_103 x_81 hok_98 hfr hf_82 (by first | omega | decide | exact tt_lo _ | exact tt_hi _) (by first | omega | decide | exact tt_lo _ | exact tt_hi _) (by first | omega | decide | exact tt_lo _ | exact tt_hi _) (by first | omega | decide | exact tt_lo _ | exact tt_hi _) (by first | omega | decide | exact tt_lo _ | exact tt_hi _)
              · refine jj_if_eqF (tgt := 80) C dX1_subscribeWaiting_55 (by decide) (by decide) ?_
                refine jj_aload C dX1_subscribeWaiting_58 rfl ?_
                refine jj_lconst (v := 0) C dX1_subscribeWaiting_60 (by decide) ?_
                refine tt_put C hok_98 jk_7 3 (by decide) jw_118 (t := (1, (-9223372036854775808), 9223372036854775807)) ka_91 (by decide) rfl rfl rfl (tt_ja (0 : Int64)) rfl rfl dX1_subscribeWaiting_61 (fun pl_104 hok_105 tr hn => ?_)
                replace hf_82 := tr _ _ _ (Or.inl (tt_ne hk1 ka_91 (by decide))) hf_82
                replace hf_84 := tr _ _ _ (Or.inl (tt_ne hk1 ka_91 (by decide))) hf_84
                replace hf_88 := tr _ _ _ (Or.inl (tt_ne hk1 ka_91 (by decide))) hf_88
                replace hf_93 := tr _ _ _ (Or.inr (by decide)) hf_93
                have hf_106 := hn
                replace hfr := hfr.put ka_91 tr (by decide)
                refine jj_iload_n C dX1_subscribeWaiting_64 rfl ?_
                refine jj_iconst (v := (-1)) C dX1_subscribeWaiting_65 (by decide) ?_
                refine jj_icmp_ne (tgt := 78) C dX1_subscribeWaiting_66 (by decide) (fun c_107 => ?_) (fun c_107 => ?_)
                · have z_c_107 := jc_neq (a := (x_81).toInt) (b := (-1)) c_107 rfl (by decide)
                  refine jj_iload_n C dX1_subscribeWaiting_78 rfl ?_
                  refine jj_istore_n C dX1_subscribeWaiting_79 (by decide) rfl ?_
                  obtain ⟨x_108, ex_108, vx_108⟩ := tt_inc (x := x_80) (n := 1) (by omega) (by omega)
                  refine jj_iinc (v := x_108) C dX1_subscribeWaiting_80 rfl ex_108 (by decide) rfl ?_
                  refine jj_goto (tgt := 23) C dX1_subscribeWaiting_83 (by decide) ?_
                  refine jj_loc [0, 1, 3, 4] rfl ?_
                  exact ihL_79 pl_104 x_108 x_81 hok_105 hfr hf_82 (by first | omega | decide | exact tt_lo _ | exact tt_hi _) (by first | omega | decide | exact tt_lo _ | exact tt_hi _) (by first | omega | decide | exact tt_lo _ | exact tt_hi _) (by first | omega | decide | exact tt_lo _ | exact tt_hi _) (by first | omega | decide | exact tt_lo _ | exact tt_hi _)
                · have z_c_107 := jc_eq (a := (x_81).toInt) (b := (-1)) c_107 rfl (by decide)
                  refine jj_aload_n C dX1_subscribeWaiting_69 rfl ?_
                  refine tt_get C hok_105 jk_2 7 (by decide) jw_80 (t := (0, 0, 6)) hk1 (by decide) rfl rfl dX1_subscribeWaiting_70 (fun v_109 hv_109 hf_110 => ?_)
                  obtain ⟨x_111, rfl, lx_111, ux_111⟩ := tt_vi hv_109
                  refine jj_iconst (v := 1) C dX1_subscribeWaiting_73 (by decide) ?_
                  obtain ⟨x_112, ex_112, vx_112⟩ := tt_isub (x := x_111) (y := (1 : Int32)) (a := x_111.toInt) rfl (b := 1) (by decide) (by omega) (by omega)
                  refine jj_isub (v := x_112) C dX1_subscribeWaiting_74 ex_112 ?_
                  refine jj_goto (tgt := 79) C dX1_subscribeWaiting_75 (by decide) ?_
                  refine jj_istore_n C dX1_subscribeWaiting_79 (by decide) rfl ?_
                  obtain ⟨x_113, ex_113, vx_113⟩ := tt_inc (x := x_80) (n := 1) (by omega) (by omega)
                  refine jj_iinc (v := x_113) C dX1_subscribeWaiting_80 rfl ex_113 (by decide) rfl ?_
                  refine jj_goto (tgt := 23) C dX1_subscribeWaiting_83 (by decide) ?_
                  refine jj_loc [0, 1, 3, 4] rfl ?_
                  exact ihL_79 pl_104 x_113 x_112 hok_105 hfr hf_82 (by first | omega | decide | exact tt_lo _ | exact tt_hi _) (by first | omega | decide | exact tt_lo _ | exact tt_hi _) (by first | omega | decide | exact tt_lo _ | exact tt_hi _) (by first | omega | decide | exact tt_lo _ | exact tt_hi _) (by first | omega | decide | exact tt_lo _ | exact tt_hi _)
      exact hL_79 _ pl0 (0 : Int32) (0 : Int32) trivial hok hfr hf_2 (by first | omega | decide | exact tt_lo _ | exact tt_hi _) (by first | omega | decide | exact tt_lo _ | exact tt_hi _) (by first | omega | decide | exact tt_lo _ | exact tt_hi _) (by first | omega | decide | exact tt_lo _ | exact tt_hi _) (Int.self_le_toNat _)

set_option maxHeartbeats 4000000 in
set_option maxRecDepth 100000 in
theorem tc_X0_doneBefore_1 {l : Launch} (hl : l.stackTraces = false) (D : va_G) (cA : Nat → ClassId) (ak : (Nat → Nat) × (Nat → Nat)) {Kd : Nat → Nat} (h0 : Nat) (p1 : Int32) (hk0 : Kd h0 = 1) (lp1 : (0 : Int) ≤ p1.toInt) (up1 : p1.toInt ≤ 11) {pl0 : va_W} (hok : tt_ok tt_tk cA Kd pl0) : jj_M l D cA ak yX0_doneBefore (.code yX0_doneBefore cX0_doneBefore 4 (some .int)) 0 0 0 0 ([] ++ pl0) [.ref h0, .int p1] (tt_O (fun rx pl1 r => rx = [] ∧ tt_ok tt_tk cA Kd pl1 ∧ tt_fr Kd [] pl0 pl1 ∧ ((∃ v : Int32, (-2147483648 : Int) ≤ v.toInt ∧ v.toInt ≤ 2147483647 ∧ r = some (.int v))))) (tt_OX (fun _ _ _ => False)) := by
  refine jj_start hl (by decide) jw_364 (jj_le rfl) ?_
  intro p e s m args below meth c A hargs hA C hex hmn
  have hfr := tt_fr.refl (K := Kd) (WS := []) pl0
  refine jj_iconst (v := 0) C dX0_doneBefore_0 (by decide) ?_
  refine jj_istore_n C dX0_doneBefore_1 (by decide) rfl ?_
  refine jj_iconst (v := 0) C dX0_doneBefore_2 (by decide) ?_
  refine jj_istore_n C dX0_doneBefore_3 (by decide) rfl ?_
  have hL_1 : ∀ (N : Nat) (pl : va_W) (x_2 : Int32) (x_3 : Int32), True → tt_ok tt_tk cA Kd pl → tt_fr Kd [] pl0 pl → (0 : Int) ≤ x_2.toInt → x_2.toInt ≤ 11 → (-2147483648 : Int) ≤ x_3.toInt → x_3.toInt ≤ 2147483647 → (2147483648 - x_2.toInt ≤ (N : Int)) → jj_J p l e (jj_rm 0 0 0 0) s m args below meth c 4 A (vx_MQ below (jj_q D A (tt_O (fun rx pl1 r => rx = [] ∧ tt_ok tt_tk cA Kd pl1 ∧ tt_fr Kd [] pl0 pl1 ∧ ((∃ v : Int32, (-2147483648 : Int) ≤ v.toInt ∧ v.toInt ≤ 2147483647 ∧ r = some (.int v)))))) (jj_x D A (tt_OX (fun _ _ _ => False))) args s 0 0 A) (jj_X D A ([] ++ pl)) 0 0 4 [(3, .int x_2), (2, .int x_3), (0, .ref h0), (1, .int p1)] [] := by
    intro NL_1
    induction NL_1 with
    | zero => intro pl x_2 x_3 _ hok hfr lx_2 ux_2 lx_3 ux_3 hNL_1; exfalso; omega
    | succ NL_1 ihL_1 =>
      intro pl x_2 x_3 _ hok hfr lx_2 ux_2 lx_3 ux_3 hNL_1
      replace ihL_1 := fun pl x_2 x_3 h1 => ihL_1 pl x_2 x_3 trivial h1
      refine jj_iload_n C dX0_doneBefore_4 rfl ?_
      refine jj_iload_n C dX0_doneBefore_5 rfl ?_
      refine jj_icmp_ge (tgt := 40) C dX0_doneBefore_6 (by decide) (fun c_4 => ?_) (fun c_4 => ?_)
      · have z_c_4 := jc_le (a := (p1).toInt) (b := (x_2).toInt) c_4 rfl rfl
        refine jj_iload_n C dX0_doneBefore_40 rfl ?_
        exact jj_iret C ⟨[], pl, rfl, rfl, hok, hfr, ⟨x_3, (by first | omega | exact tt_lo _ | exact tt_hi _), (by first | omega | exact tt_lo _ | exact tt_hi _), rfl⟩⟩ dX0_doneBefore_41 (jj_le rfl) (jj_le rfl)
      · have z_c_4 := jc_nle (a := (p1).toInt) (b := (x_2).toInt) c_4 rfl rfl
        refine jj_iload_n C dX0_doneBefore_9 rfl ?_
        refine jj_aload_n C dX0_doneBefore_10 rfl ?_
        refine tt_get C hok jk_2 9 (by decide) jw_200 (t := (0, 0, 12)) hk0 (by decide) rfl rfl dX0_doneBefore_11 (fun v_5 hv_5 hf_6 => ?_)
        obtain ⟨x_7, rfl, lx_7, ux_7⟩ := tt_vi hv_5
        refine jj_icmp_ge (tgt := 40) C dX0_doneBefore_14 (by decide) (fun c_8 => ?_) (fun c_8 => ?_)
        · have z_c_8 := jc_le (a := (x_7).toInt) (b := (x_2).toInt) c_8 rfl rfl
          refine jj_iload_n C dX0_doneBefore_40 rfl ?_
          exact jj_iret C ⟨[], pl, rfl, rfl, hok, hfr, ⟨x_3, (by first | omega | exact tt_lo _ | exact tt_hi _), (by first | omega | exact tt_lo _ | exact tt_hi _), rfl⟩⟩ dX0_doneBefore_41 (jj_le rfl) (jj_le rfl)
        · have z_c_8 := jc_nle (a := (x_7).toInt) (b := (x_2).toInt) c_8 rfl rfl
          refine jj_aload_n C dX0_doneBefore_17 rfl ?_
          refine tt_get C hok jk_2 13 (by decide) jw_202 (t := (2, 8, 0)) hk0 (by decide) rfl rfl dX0_doneBefore_18 (fun v_9 hv_9 hf_10 => ?_)
          obtain ⟨a_11, rfl, ka_11⟩ := tt_vr hv_9
          refine jj_iload_n C dX0_doneBefore_21 rfl ?_
          refine tt_aald C hok (t := (2, 4, 0)) ka_11 (by decide) rfl rfl rfl (vp_in_iff.mpr ⟨by omega, by omega⟩) dX0_doneBefore_22 (fun v_12 hv_12 => ?_)
          obtain ⟨a_13, rfl, ka_13⟩ := tt_vr hv_12
          refine tt_get C hok jk_7 3 (by decide) jw_282 (t := (1, (-9223372036854775808), 9223372036854775807)) ka_13 (by decide) rfl rfl dX0_doneBefore_23 (fun v_14 hv_14 hf_15 => ?_)
          obtain ⟨y_16, rfl, -, -⟩ := tt_vj hv_14
          refine jj_lconst (v := 0) C dX0_doneBefore_26 (by decide) ?_
          refine jj_lcmp_ne (tgt := 34) C dX0_doneBefore_27 dX0_doneBefore_28 (by decide) (fun c_17 => ?_) (fun c_17 => ?_)
          · obtain ⟨x_18, ex_18, vx_18⟩ := tt_inc (x := x_2) (n := 1) (by omega) (by omega)
            refine jj_iinc (v := x_18) C dX0_doneBefore_34 rfl ex_18 (by decide) rfl ?_
            refine jj_goto (tgt := 4) C dX0_doneBefore_37 (by decide) ?_
            exact ihL_1 pl x_18 x_3 hok hfr (by first | omega | decide | exact tt_lo _ | exact tt_hi _) (by first | omega | decide | exact tt_lo _ | exact tt_hi _) (by first | omega | decide | exact tt_lo _ | exact tt_hi _) (by first | omega | decide | exact tt_lo _ | exact tt_hi _) (by first | omega | decide | exact tt_lo _ | exact tt_hi _)
          · obtain ⟨x_19, ex_19⟩ : ∃ z : Int32, x_3 + Int32.ofInt 1 = z := ⟨_, rfl⟩
            refine jj_iinc (v := x_19) C dX0_doneBefore_31 rfl ex_19 (by decide) rfl ?_
            obtain ⟨x_20, ex_20, vx_20⟩ := tt_inc (x := x_2) (n := 1) (by omega) (by omega)
            refine jj_iinc (v := x_20) C dX0_doneBefore_34 rfl ex_20 (by decide) rfl ?_
            refine jj_goto (tgt := 4) C dX0_doneBefore_37 (by decide) ?_
            exact ihL_1 pl x_20 x_19 hok hfr (by first | omega | decide | exact tt_lo _ | exact tt_hi _) (by first | omega | decide | exact tt_lo _ | exact tt_hi _) (by first | omega | decide | exact tt_lo _ | exact tt_hi _) (by first | omega | decide | exact tt_lo _ | exact tt_hi _) (by first | omega | decide | exact tt_lo _ | exact tt_hi _)
  exact hL_1 _ pl0 (0 : Int32) (0 : Int32) trivial hok hfr (by first | omega | decide | exact tt_lo _ | exact tt_hi _) (by first | omega | decide | exact tt_lo _ | exact tt_hi _) (by first | omega | decide | exact tt_lo _ | exact tt_hi _) (by first | omega | decide | exact tt_lo _ | exact tt_hi _) (Int.self_le_toNat _)

set_option maxHeartbeats 4000000 in
set_option maxRecDepth 100000 in
theorem tc_X0_dropDoneRequests_1 {l : Launch} (hl : l.stackTraces = false) (D : va_G) (cA : Nat → ClassId) (ak : (Nat → Nat) × (Nat → Nat)) {Kd : Nat → Nat} (h0 : Nat) (hk0 : Kd h0 = 1) {pl0 : va_W} (hok : tt_ok tt_tk cA Kd pl0) : jj_M l D cA ak yX0_dropDoneRequests (.code yX0_dropDoneRequests cX0_dropDoneRequests 4 (some .int)) 0 0 0 0 ([] ++ pl0) [.ref h0] (tt_O (fun rx pl1 r => rx = [] ∧ tt_ok tt_tk cA Kd pl1 ∧ tt_fr Kd [(1, 9)] pl0 pl1 ∧ ((∃ v : Int32, (-12 : Int) ≤ v.toInt ∧ v.toInt ≤ 12 ∧ r = some (.int v))))) (tt_OX (fun _ _ _ => False)) := by
  refine jj_start hl (by decide) jw_369 (jj_le rfl) ?_
  intro p e s m args below meth c A hargs hA C hex hmn
  have hfr := tt_fr.refl (K := Kd) (WS := [(1, 9)]) pl0
  refine jj_iconst (v := 0) C dX0_dropDoneRequests_0 (by decide) ?_
  refine jj_istore_n C dX0_dropDoneRequests_1 (by decide) rfl ?_
  refine jj_iconst (v := 0) C dX0_dropDoneRequests_2 (by decide) ?_
  refine jj_istore_n C dX0_dropDoneRequests_3 (by decide) rfl ?_
  have hL_1 : ∀ (N : Nat) (pl : va_W) (x_2 : Int32) (x_3 : Int32), True → tt_ok tt_tk cA Kd pl → tt_fr Kd [(1, 9)] pl0 pl → (0 : Int) ≤ x_2.toInt → x_2.toInt ≤ 12 → (0 : Int) ≤ x_3.toInt → x_3.toInt ≤ 12 → x_3.toInt ≤ x_2.toInt → (2147483648 - x_2.toInt ≤ (N : Int)) → jj_J p l e (jj_rm 0 0 0 0) s m args below meth c 4 A (vx_MQ below (jj_q D A (tt_O (fun rx pl1 r => rx = [] ∧ tt_ok tt_tk cA Kd pl1 ∧ tt_fr Kd [(1, 9)] pl0 pl1 ∧ ((∃ v : Int32, (-12 : Int) ≤ v.toInt ∧ v.toInt ≤ 12 ∧ r = some (.int v)))))) (jj_x D A (tt_OX (fun _ _ _ => False))) args s 0 0 A) (jj_X D A ([] ++ pl)) 0 0 4 [(2, .int x_2), (1, .int x_3), (0, .ref h0)] [] := by
    intro NL_1
    induction NL_1 with
    | zero => intro pl x_2 x_3 _ hok hfr lx_2 ux_2 lx_3 ux_3 r1_2 hNL_1; exfalso; omega
    | succ NL_1 ihL_1 =>
      intro pl x_2 x_3 _ hok hfr lx_2 ux_2 lx_3 ux_3 r1_2 hNL_1
      replace ihL_1 := fun pl x_2 x_3 h1 => ihL_1 pl x_2 x_3 trivial h1
      refine jj_iload_n C dX0_dropDoneRequests_4 rfl ?_
      refine jj_aload_n C dX0_dropDoneRequests_5 rfl ?_
      refine tt_get C hok jk_2 9 (by decide) jw_200 (t := (0, 0, 12)) hk0 (by decide) rfl rfl dX0_dropDoneRequests_6 (fun v_4 hv_4 hf_5 => ?_)
      obtain ⟨x_6, rfl, lx_6, ux_6⟩ := tt_vi hv_4
      refine jj_icmp_ge (tgt := 56) C dX0_dropDoneRequests_9 (by decide) (fun c_7 => ?_) (fun c_7 => ?_)
      · have z_c_7 := jc_le (a := (x_6).toInt) (b := (x_2).toInt) c_7 rfl rfl
        refine jj_aload_n C dX0_dropDoneRequests_56 rfl ?_
        refine tt_getF C hok jk_2 9 (by decide) jw_200 (t := (0, 0, 12)) hk0 (by decide) rfl rfl hf_5 dX0_dropDoneRequests_57 ?_
        refine jj_iload_n C dX0_dropDoneRequests_60 rfl ?_
        obtain ⟨x_8, ex_8, vx_8⟩ := tt_isub (x := x_6) (y := x_3) (a := x_6.toInt) rfl (b := x_3.toInt) rfl (by omega) (by omega)
        refine jj_isub (v := x_8) C dX0_dropDoneRequests_61 ex_8 ?_
        refine jj_istore_n C dX0_dropDoneRequests_62 (by decide) rfl ?_
        refine jj_aload_n C dX0_dropDoneRequests_63 rfl ?_
        refine jj_iload_n C dX0_dropDoneRequests_64 rfl ?_
        refine tt_put C hok jk_2 9 (by decide) jw_200 (t := (0, 0, 12)) hk0 (by decide) rfl rfl rfl (tt_iv (by omega) (by omega)) rfl rfl dX0_dropDoneRequests_65 (fun pl_9 hok_10 tr hn => ?_)
        have hf_11 := hn
        replace hfr := hfr.put hk0 tr (by decide)
        refine jj_iload_n C dX0_dropDoneRequests_68 rfl ?_
        exact jj_iret C ⟨[], pl_9, rfl, rfl, hok_10, hfr, ⟨x_8, (by first | omega | exact tt_lo _ | exact tt_hi _), (by first | omega | exact tt_lo _ | exact tt_hi _), rfl⟩⟩ dX0_dropDoneRequests_69 (jj_le rfl) (jj_le rfl)
      · have z_c_7 := jc_nle (a := (x_6).toInt) (b := (x_2).toInt) c_7 rfl rfl
        refine jj_aload_n C dX0_dropDoneRequests_12 rfl ?_
        refine tt_get C hok jk_2 13 (by decide) jw_202 (t := (2, 8, 0)) hk0 (by decide) rfl rfl dX0_dropDoneRequests_13 (fun v_12 hv_12 hf_13 => ?_)
        obtain ⟨a_14, rfl, ka_14⟩ := tt_vr hv_12
        refine jj_iload_n C dX0_dropDoneRequests_16 rfl ?_
        refine tt_aald C hok (t := (2, 4, 0)) ka_14 (by decide) rfl rfl rfl (vp_in_iff.mpr ⟨by omega, by omega⟩) dX0_dropDoneRequests_17 (fun v_15 hv_15 => ?_)
        obtain ⟨a_16, rfl, ka_16⟩ := tt_vr hv_15
        refine jj_astore_n C dX0_dropDoneRequests_18 (by decide) rfl ?_
        refine jj_aload_n C dX0_dropDoneRequests_19 rfl ?_
        refine tt_get C hok jk_7 3 (by decide) jw_282 (t := (1, (-9223372036854775808), 9223372036854775807)) ka_16 (by decide) rfl rfl dX0_dropDoneRequests_20 (fun v_17 hv_17 hf_18 => ?_)
        obtain ⟨y_19, rfl, -, -⟩ := tt_vj hv_17
        refine jj_lconst (v := 0) C dX0_dropDoneRequests_23 (by decide) ?_
        refine jj_lcmp_le (tgt := 50) C dX0_dropDoneRequests_24 dX0_dropDoneRequests_25 (by decide) (fun c_20 => ?_) (fun c_20 => ?_)
        · obtain ⟨x_21, ex_21, vx_21⟩ := tt_inc (x := x_2) (n := 1) (by omega) (by omega)
          refine jj_iinc (v := x_21) C dX0_dropDoneRequests_50 rfl ex_21 (by decide) rfl ?_
          refine jj_goto (tgt := 4) C dX0_dropDoneRequests_53 (by decide) ?_
          refine jj_loc [0, 2, 3] rfl ?_
          exact ihL_1 pl x_21 x_3 hok hfr (by first | omega | decide | exact tt_lo _ | exact tt_hi _) (by first | omega | decide | exact tt_lo _ | exact tt_hi _) (by first | omega | decide | exact tt_lo _ | exact tt_hi _) (by first | omega | decide | exact tt_lo _ | exact tt_hi _) (by first | omega | decide | exact tt_lo _ | exact tt_hi _) (by first | omega | decide | exact tt_lo _ | exact tt_hi _)
        · refine jj_aload_n C dX0_dropDoneRequests_28 rfl ?_
          refine tt_getF C hok jk_2 13 (by decide) jw_202 (t := (2, 8, 0)) hk0 (by decide) rfl rfl hf_13 dX0_dropDoneRequests_29 ?_
          refine jj_iload_n C dX0_dropDoneRequests_32 rfl ?_
          refine jj_aload_n C dX0_dropDoneRequests_33 rfl ?_
          refine tt_getF C hok jk_2 13 (by decide) jw_202 (t := (2, 8, 0)) hk0 (by decide) rfl rfl hf_13 dX0_dropDoneRequests_34 ?_
          refine jj_iload_n C dX0_dropDoneRequests_37 rfl ?_
          refine tt_aald C hok (t := (2, 4, 0)) ka_14 (by decide) rfl rfl rfl (vp_in_iff.mpr ⟨by omega, by omega⟩) dX0_dropDoneRequests_38 (fun v_22 hv_22 => ?_)
          obtain ⟨a_23, rfl, ka_23⟩ := tt_vr hv_22
          refine tt_aast C hok (t := (2, 4, 0)) ka_14 (by decide) rfl rfl rfl ka_23 (by decide) rfl rfl (vp_in_iff.mpr ⟨by omega, by omega⟩) (tt_rv ka_23) dX0_dropDoneRequests_39 (fun pl_24 hok_25 tr hne => ?_)
          replace hf_5 := tr _ _ _ hf_5
          replace hf_13 := tr _ _ _ hf_13
          replace hf_18 := tr _ _ _ hf_18
          replace hfr := hfr.arr tr
          refine jj_aload_n C dX0_dropDoneRequests_40 rfl ?_
          refine tt_getF C hok_25 jk_2 13 (by decide) jw_202 (t := (2, 8, 0)) hk0 (by decide) rfl rfl hf_13 dX0_dropDoneRequests_41 ?_
          refine jj_iload_n C dX0_dropDoneRequests_44 rfl ?_
          refine jj_aload_n C dX0_dropDoneRequests_45 rfl ?_
          refine tt_aast C hok_25 (t := (2, 4, 0)) ka_14 (by decide) rfl rfl rfl ka_16 (by decide) rfl rfl (vp_in_iff.mpr ⟨by omega, by omega⟩) (tt_rv ka_16) dX0_dropDoneRequests_46 (fun pl_26 hok_27 tr hne => ?_)
          replace hf_5 := tr _ _ _ hf_5
          replace hf_13 := tr _ _ _ hf_13
          replace hf_18 := tr _ _ _ hf_18
          replace hfr := hfr.arr tr
          obtain ⟨x_28, ex_28, vx_28⟩ := tt_inc (x := x_3) (n := 1) (by omega) (by omega)
          refine jj_iinc (v := x_28) C dX0_dropDoneRequests_47 rfl ex_28 (by decide) rfl ?_
          obtain ⟨x_29, ex_29, vx_29⟩ := tt_inc (x := x_2) (n := 1) (by omega) (by omega)
          refine jj_iinc (v := x_29) C dX0_dropDoneRequests_50 rfl ex_29 (by decide) rfl ?_
          refine jj_goto (tgt := 4) C dX0_dropDoneRequests_53 (by decide) ?_
          refine jj_loc [0, 1, 3] rfl ?_
          exact ihL_1 pl_26 x_29 x_28 hok_27 hfr (by first | omega | decide | exact tt_lo _ | exact tt_hi _) (by first | omega | decide | exact tt_lo _ | exact tt_hi _) (by first | omega | decide | exact tt_lo _ | exact tt_hi _) (by first | omega | decide | exact tt_lo _ | exact tt_hi _) (by first | omega | decide | exact tt_lo _ | exact tt_hi _) (by first | omega | decide | exact tt_lo _ | exact tt_hi _)
  exact hL_1 _ pl0 (0 : Int32) (0 : Int32) trivial hok hfr (by first | omega | decide | exact tt_lo _ | exact tt_hi _) (by first | omega | decide | exact tt_lo _ | exact tt_hi _) (by first | omega | decide | exact tt_lo _ | exact tt_hi _) (by first | omega | decide | exact tt_lo _ | exact tt_hi _) (by first | omega | decide | exact tt_lo _ | exact tt_hi _) (Int.self_le_toNat _)

set_option maxHeartbeats 4000000 in
set_option maxRecDepth 100000 in
theorem tc_X0_isDone_2 {l : Launch} (hl : l.stackTraces = false) (D : va_G) (cA : Nat → ClassId) (ak : (Nat → Nat) × (Nat → Nat)) {Kd : Nat → Nat} (h0 : Nat) (p1 : Int32) (hk0 : Kd h0 = 1) {pl0 : va_W} (hok : tt_ok tt_tk cA Kd pl0) : jj_M l D cA ak yX0_isDone (.code yX0_isDone cX0_isDone 2 (some .boolean)) 0 0 0 0 ([] ++ pl0) [.ref h0, .int p1] (tt_O (fun rx pl1 r => rx = [] ∧ tt_ok tt_tk cA Kd pl1 ∧ tt_fr Kd [] pl0 pl1 ∧ ((r = some (.int 0)) ∨ ((0 : Int) ≤ p1.toInt ∧ p1.toInt ≤ 11 ∧ r = some (.int 1))))) (tt_OX (fun _ _ _ => False)) := by
  refine jj_start hl (by decide) jw_281 (jj_le rfl) ?_
  intro p e s m args below meth c A hargs hA C hex hmn
  have hfr := tt_fr.refl (K := Kd) (WS := []) pl0
  have lp1 := tt_lo p1
  have up1 := tt_hi p1
  refine jj_iload_n C dX0_isDone_0 rfl ?_
  refine jj_if_lt (tgt := 30) C dX0_isDone_1 (by decide) (fun c_1 => ?_) (fun c_1 => ?_)
  · have z_c_1 := jc_lt (a := (p1).toInt) (b := (0)) c_1 rfl (by decide)
    refine jj_iconst (v := 0) C dX0_isDone_30 (by decide) ?_
    exact jj_zret C rfl ⟨[], pl0, rfl, rfl, hok, hfr, (Or.inl rfl)⟩ dX0_isDone_31 (jj_le rfl) (jj_le rfl)
  · have z_c_1 := jc_nlt (a := (p1).toInt) (b := (0)) c_1 rfl (by decide)
    refine jj_iload_n C dX0_isDone_4 rfl ?_
    refine jj_aload_n C dX0_isDone_5 rfl ?_
    refine tt_get C hok jk_2 9 (by decide) jw_200 (t := (0, 0, 12)) hk0 (by decide) rfl rfl dX0_isDone_6 (fun v_2 hv_2 hf_3 => ?_)
    obtain ⟨x_4, rfl, lx_4, ux_4⟩ := tt_vi hv_2
    refine jj_icmp_ge (tgt := 30) C dX0_isDone_9 (by decide) (fun c_5 => ?_) (fun c_5 => ?_)
    · have z_c_5 := jc_le (a := (x_4).toInt) (b := (p1).toInt) c_5 rfl rfl
      refine jj_iconst (v := 0) C dX0_isDone_30 (by decide) ?_
      exact jj_zret C rfl ⟨[], pl0, rfl, rfl, hok, hfr, (Or.inl rfl)⟩ dX0_isDone_31 (jj_le rfl) (jj_le rfl)
    · have z_c_5 := jc_nle (a := (x_4).toInt) (b := (p1).toInt) c_5 rfl rfl
      refine jj_aload_n C dX0_isDone_12 rfl ?_
      refine tt_get C hok jk_2 13 (by decide) jw_202 (t := (2, 8, 0)) hk0 (by decide) rfl rfl dX0_isDone_13 (fun v_6 hv_6 hf_7 => ?_)
      obtain ⟨a_8, rfl, ka_8⟩ := tt_vr hv_6
      refine jj_iload_n C dX0_isDone_16 rfl ?_
      refine tt_aald C hok (t := (2, 4, 0)) ka_8 (by decide) rfl rfl rfl (vp_in_iff.mpr ⟨by omega, by omega⟩) dX0_isDone_17 (fun v_9 hv_9 => ?_)
      obtain ⟨a_10, rfl, ka_10⟩ := tt_vr hv_9
      refine tt_get C hok jk_7 3 (by decide) jw_282 (t := (1, (-9223372036854775808), 9223372036854775807)) ka_10 (by decide) rfl rfl dX0_isDone_18 (fun v_11 hv_11 hf_12 => ?_)
      obtain ⟨y_13, rfl, -, -⟩ := tt_vj hv_11
      refine jj_lconst (v := 0) C dX0_isDone_21 (by decide) ?_
      refine jj_lcmp_ne (tgt := 30) C dX0_isDone_22 dX0_isDone_23 (by decide) (fun c_14 => ?_) (fun c_14 => ?_)
      · refine jj_iconst (v := 0) C dX0_isDone_30 (by decide) ?_
        exact jj_zret C rfl ⟨[], pl0, rfl, rfl, hok, hfr, (Or.inl rfl)⟩ dX0_isDone_31 (jj_le rfl) (jj_le rfl)
      · refine jj_iconst (v := 1) C dX0_isDone_26 (by decide) ?_
        refine jj_goto (tgt := 31) C dX0_isDone_27 (by decide) ?_
        exact jj_zret C rfl ⟨[], pl0, rfl, rfl, hok, hfr, (Or.inr ⟨(by first | omega | exact tt_lo _ | exact tt_hi _), (by first | omega | exact tt_lo _ | exact tt_hi _), rfl⟩)⟩ dX0_isDone_31 (jj_le rfl) (jj_le rfl)

set_option maxHeartbeats 4000000 in
set_option maxRecDepth 100000 in
theorem tc_X0_doneBefore_2 {l : Launch} (hl : l.stackTraces = false) (D : va_G) (cA : Nat → ClassId) (ak : (Nat → Nat) × (Nat → Nat)) {Kd : Nat → Nat} (h0 : Nat) (p1 : Int32) (hk0 : Kd h0 = 1) {pl0 : va_W} (hok : tt_ok tt_tk cA Kd pl0) : jj_M l D cA ak yX0_doneBefore (.code yX0_doneBefore cX0_doneBefore 4 (some .int)) 0 0 0 0 ([] ++ pl0) [.ref h0, .int p1] (tt_O (fun rx pl1 r => rx = [] ∧ tt_ok tt_tk cA Kd pl1 ∧ tt_fr Kd [] pl0 pl1 ∧ ((∃ v : Int32, (-2147483648 : Int) ≤ v.toInt ∧ v.toInt ≤ 2147483647 ∧ r = some (.int v))))) (tt_OX (fun _ _ _ => False)) := by
  refine jj_start hl (by decide) jw_364 (jj_le rfl) ?_
  intro p e s m args below meth c A hargs hA C hex hmn
  have hfr := tt_fr.refl (K := Kd) (WS := []) pl0
  have lp1 := tt_lo p1
  have up1 := tt_hi p1
  refine jj_iconst (v := 0) C dX0_doneBefore_0 (by decide) ?_
  refine jj_istore_n C dX0_doneBefore_1 (by decide) rfl ?_
  refine jj_iconst (v := 0) C dX0_doneBefore_2 (by decide) ?_
  refine jj_istore_n C dX0_doneBefore_3 (by decide) rfl ?_
  have hL_1 : ∀ (N : Nat) (pl : va_W) (x_2 : Int32) (x_3 : Int32), True → tt_ok tt_tk cA Kd pl → tt_fr Kd [] pl0 pl → (0 : Int) ≤ x_2.toInt → x_2.toInt ≤ 12 → (-2147483648 : Int) ≤ x_3.toInt → x_3.toInt ≤ 2147483647 → (2147483648 - x_2.toInt ≤ (N : Int)) → jj_J p l e (jj_rm 0 0 0 0) s m args below meth c 4 A (vx_MQ below (jj_q D A (tt_O (fun rx pl1 r => rx = [] ∧ tt_ok tt_tk cA Kd pl1 ∧ tt_fr Kd [] pl0 pl1 ∧ ((∃ v : Int32, (-2147483648 : Int) ≤ v.toInt ∧ v.toInt ≤ 2147483647 ∧ r = some (.int v)))))) (jj_x D A (tt_OX (fun _ _ _ => False))) args s 0 0 A) (jj_X D A ([] ++ pl)) 0 0 4 [(3, .int x_2), (2, .int x_3), (0, .ref h0), (1, .int p1)] [] := by
    intro NL_1
    induction NL_1 with
    | zero => intro pl x_2 x_3 _ hok hfr lx_2 ux_2 lx_3 ux_3 hNL_1; exfalso; omega
    | succ NL_1 ihL_1 =>
      intro pl x_2 x_3 _ hok hfr lx_2 ux_2 lx_3 ux_3 hNL_1
      replace ihL_1 := fun pl x_2 x_3 h1 => ihL_1 pl x_2 x_3 trivial h1
      refine jj_iload_n C dX0_doneBefore_4 rfl ?_
      refine jj_iload_n C dX0_doneBefore_5 rfl ?_
      refine jj_icmp_ge (tgt := 40) C dX0_doneBefore_6 (by decide) (fun c_4 => ?_) (fun c_4 => ?_)
      · have z_c_4 := jc_le (a := (p1).toInt) (b := (x_2).toInt) c_4 rfl rfl
        refine jj_iload_n C dX0_doneBefore_40 rfl ?_
        exact jj_iret C ⟨[], pl, rfl, rfl, hok, hfr, ⟨x_3, (by first | omega | exact tt_lo _ | exact tt_hi _), (by first | omega | exact tt_lo _ | exact tt_hi _), rfl⟩⟩ dX0_doneBefore_41 (jj_le rfl) (jj_le rfl)
      · have z_c_4 := jc_nle (a := (p1).toInt) (b := (x_2).toInt) c_4 rfl rfl
        refine jj_iload_n C dX0_doneBefore_9 rfl ?_
        refine jj_aload_n C dX0_doneBefore_10 rfl ?_
        refine tt_get C hok jk_2 9 (by decide) jw_200 (t := (0, 0, 12)) hk0 (by decide) rfl rfl dX0_doneBefore_11 (fun v_5 hv_5 hf_6 => ?_)
        obtain ⟨x_7, rfl, lx_7, ux_7⟩ := tt_vi hv_5
        refine jj_icmp_ge (tgt := 40) C dX0_doneBefore_14 (by decide) (fun c_8 => ?_) (fun c_8 => ?_)
        · have z_c_8 := jc_le (a := (x_7).toInt) (b := (x_2).toInt) c_8 rfl rfl
          refine jj_iload_n C dX0_doneBefore_40 rfl ?_
          exact jj_iret C ⟨[], pl, rfl, rfl, hok, hfr, ⟨x_3, (by first | omega | exact tt_lo _ | exact tt_hi _), (by first | omega | exact tt_lo _ | exact tt_hi _), rfl⟩⟩ dX0_doneBefore_41 (jj_le rfl) (jj_le rfl)
        · have z_c_8 := jc_nle (a := (x_7).toInt) (b := (x_2).toInt) c_8 rfl rfl
          refine jj_aload_n C dX0_doneBefore_17 rfl ?_
          refine tt_get C hok jk_2 13 (by decide) jw_202 (t := (2, 8, 0)) hk0 (by decide) rfl rfl dX0_doneBefore_18 (fun v_9 hv_9 hf_10 => ?_)
          obtain ⟨a_11, rfl, ka_11⟩ := tt_vr hv_9
          refine jj_iload_n C dX0_doneBefore_21 rfl ?_
          refine tt_aald C hok (t := (2, 4, 0)) ka_11 (by decide) rfl rfl rfl (vp_in_iff.mpr ⟨by omega, by omega⟩) dX0_doneBefore_22 (fun v_12 hv_12 => ?_)
          obtain ⟨a_13, rfl, ka_13⟩ := tt_vr hv_12
          refine tt_get C hok jk_7 3 (by decide) jw_282 (t := (1, (-9223372036854775808), 9223372036854775807)) ka_13 (by decide) rfl rfl dX0_doneBefore_23 (fun v_14 hv_14 hf_15 => ?_)
          obtain ⟨y_16, rfl, -, -⟩ := tt_vj hv_14
          refine jj_lconst (v := 0) C dX0_doneBefore_26 (by decide) ?_
          refine jj_lcmp_ne (tgt := 34) C dX0_doneBefore_27 dX0_doneBefore_28 (by decide) (fun c_17 => ?_) (fun c_17 => ?_)
          · obtain ⟨x_18, ex_18, vx_18⟩ := tt_inc (x := x_2) (n := 1) (by omega) (by omega)
            refine jj_iinc (v := x_18) C dX0_doneBefore_34 rfl ex_18 (by decide) rfl ?_
            refine jj_goto (tgt := 4) C dX0_doneBefore_37 (by decide) ?_
            exact ihL_1 pl x_18 x_3 hok hfr (by first | omega | decide | exact tt_lo _ | exact tt_hi _) (by first | omega | decide | exact tt_lo _ | exact tt_hi _) (by first | omega | decide | exact tt_lo _ | exact tt_hi _) (by first | omega | decide | exact tt_lo _ | exact tt_hi _) (by first | omega | decide | exact tt_lo _ | exact tt_hi _)
          · obtain ⟨x_19, ex_19⟩ : ∃ z : Int32, x_3 + Int32.ofInt 1 = z := ⟨_, rfl⟩
            refine jj_iinc (v := x_19) C dX0_doneBefore_31 rfl ex_19 (by decide) rfl ?_
            obtain ⟨x_20, ex_20, vx_20⟩ := tt_inc (x := x_2) (n := 1) (by omega) (by omega)
            refine jj_iinc (v := x_20) C dX0_doneBefore_34 rfl ex_20 (by decide) rfl ?_
            refine jj_goto (tgt := 4) C dX0_doneBefore_37 (by decide) ?_
            exact ihL_1 pl x_20 x_19 hok hfr (by first | omega | decide | exact tt_lo _ | exact tt_hi _) (by first | omega | decide | exact tt_lo _ | exact tt_hi _) (by first | omega | decide | exact tt_lo _ | exact tt_hi _) (by first | omega | decide | exact tt_lo _ | exact tt_hi _) (by first | omega | decide | exact tt_lo _ | exact tt_hi _)
  exact hL_1 _ pl0 (0 : Int32) (0 : Int32) trivial hok hfr (by first | omega | decide | exact tt_lo _ | exact tt_hi _) (by first | omega | decide | exact tt_lo _ | exact tt_hi _) (by first | omega | decide | exact tt_lo _ | exact tt_hi _) (by first | omega | decide | exact tt_lo _ | exact tt_hi _) (Int.self_le_toNat _)

set_option maxHeartbeats 4000000 in
set_option maxRecDepth 100000 in
theorem tc_X10_dealsUntilDone_1 {l : Launch} (hl : l.stackTraces = false) (D : va_G) (cA : Nat → ClassId) (ak : (Nat → Nat) × (Nat → Nat)) {Kd : Nat → Nat} (h0 : Nat) (p1 : Int32) (hk0 : Kd h0 = 15) {pl0 : va_W} (hok : tt_ok tt_tk cA Kd pl0) : jj_M l D cA ak yX10_dealsUntilDone (.code yX10_dealsUntilDone cX10_dealsUntilDone 4 (some .int)) 8 123 1 6 ([] ++ pl0) [.ref h0, .int p1] (tt_O (fun rx pl1 r => rx = [] ∧ tt_ok tt_tk cA Kd pl1 ∧ tt_fr Kd [(1, 0), (1, 1), (1, 2), (1, 3), (1, 4), (1, 5), (1, 6), (1, 7), (1, 8), (1, 9), (2, 0), (2, 1), (2, 2), (2, 3), (2, 4), (3, 0), (3, 1), (3, 2), (3, 3), (3, 4), (3, 5), (4, 0), (4, 1), (4, 2), (4, 3), (4, 4), (9, 1), (9, 2), (9, 3), (9, 4), (9, 5)] pl0 pl1 ∧ (((0 : Int) ≤ p1.toInt ∧ p1.toInt ≤ 11 ∧ r = some (.int (-1))) ∨ (∃ v : Int32, (1 : Int) ≤ v.toInt ∧ v.toInt ≤ 100 ∧ (0 : Int) ≤ p1.toInt ∧ p1.toInt ≤ 11 ∧ r = some (.int v))))) (tt_OX (fun E rx pl1 => rx = [] ∧ tt_ok tt_tk cA Kd pl1 ∧ tt_fr Kd [(1, 0), (1, 1), (1, 2), (1, 3), (1, 4), (1, 5), (1, 6), (1, 7), (1, 8), (1, 9), (2, 0), (2, 1), (2, 2), (2, 3), (2, 4), (3, 0), (3, 1), (3, 2), (3, 3), (3, 4), (3, 5), (4, 0), (4, 1), (4, 2), (4, 3), (4, 4), (9, 1), (9, 2), (9, 3), (9, 4), (9, 5)] pl0 pl1 ∧ (E = "java/lang/IndexOutOfBoundsException"))) := by
  refine jj_start hl (by decide) jw_845 (jj_le rfl) ?_
  intro p e s m args below meth c A hargs hA C hex hmn
  have hfr := tt_fr.refl (K := Kd) (WS := [(1, 0), (1, 1), (1, 2), (1, 3), (1, 4), (1, 5), (1, 6), (1, 7), (1, 8), (1, 9), (2, 0), (2, 1), (2, 2), (2, 3), (2, 4), (3, 0), (3, 1), (3, 2), (3, 3), (3, 4), (3, 5), (4, 0), (4, 1), (4, 2), (4, 3), (4, 4), (9, 1), (9, 2), (9, 3), (9, 4), (9, 5)]) pl0
  have lp1 := tt_lo p1
  have up1 := tt_hi p1
  refine jj_aload_n C dX10_dealsUntilDone_0 rfl ?_
  refine jj_iload_n C dX10_dealsUntilDone_1 rfl ?_
  obtain ⟨qc, gs, hqc⟩ := tt_recv (cx := []) hok hk0 (by decide) rfl
  refine tt_callV (rest := []) C (tc_X10_checkRequest_1 hl D cA ak h0 p1 hk0 hok) [] [] rfl rfl (by decide) (by decide) (by decide) qc hqc rfl rfl jw_50 jw_60 jw_61 jw_52 jw_51 jn_X10_checkRequest rfl (jj_le rfl) (jj_le rfl) (jj_le rfl) (jj_le rfl) (jj_le rfl) dX10_dealsUntilDone_2 rfl (fun E rx pl_1 X_5 => ?_) (fun rx pl_1 r O_4 => ?_)
  · obtain ⟨rfl, hok_2, hr_3, hE_6⟩ := X_5
    replace hfr := hfr.trans (hr_3.sub (by decide))
    obtain rfl := hE_6
    exact jj_out C hex ⟨[], pl_1, rfl, rfl, hok_2, hfr, rfl⟩ (jj_le rfl) (jj_le rfl)
  · obtain ⟨rfl, hok_2, hr_3, hR_7⟩ := O_4
    replace hfr := hfr.trans (hr_3.sub (by decide))
    obtain ⟨l_8, u_9, rfl⟩ := hR_7
    refine jj_aload_n C dX10_dealsUntilDone_5 rfl ?_
    refine tt_get C hok_2 jk_11 4 (by decide) jw_189 (t := (2, 1, 0)) hk0 (by decide) rfl rfl dX10_dealsUntilDone_6 (fun v_10 hv_10 hf_11 => ?_)
    obtain ⟨a_12, rfl, ka_12⟩ := tt_vr hv_10
    refine jj_aload_n C dX10_dealsUntilDone_9 rfl ?_
    refine tt_get C hok_2 jk_11 3 (by decide) jw_2 (t := (2, 1, 0)) hk0 (by decide) rfl rfl dX10_dealsUntilDone_10 (fun v_13 hv_13 hf_14 => ?_)
    obtain ⟨a_15, rfl, ka_15⟩ := tt_vr hv_13
    obtain ⟨qc, gs, hqc⟩ := tt_recv (cx := []) hok_2 ka_12 (by decide) rfl
    refine tt_callV (rest := []) C (tc_X0_copyFrom_1 hl D cA ak a_12 a_15 ka_12 ka_15 hok_2) [] [] rfl rfl (by decide) (by decide) (by decide) qc hqc rfl rfl jw_190 jw_228 jw_229 jw_133 jw_191 jn_X0_copyFrom rfl (jj_le rfl) (jj_le rfl) (jj_le rfl) (jj_le rfl) (jj_le rfl) dX10_dealsUntilDone_13 rfl (fun _ _ _ hX => hX.elim) (fun rx pl_16 r O_19 => ?_)
    obtain ⟨rfl, hok_17, hr_18, hR_21⟩ := O_19
    replace hf_11 := hr_18.at hk0 (by decide) (by decide) hf_11
    replace hf_14 := hr_18.at hk0 (by decide) (by decide) hf_14
    replace hfr := hfr.trans (hr_18.sub (by decide))
    obtain rfl := hR_21
    refine jj_iload_n C dX10_dealsUntilDone_16 rfl ?_
    refine jj_istore_n C dX10_dealsUntilDone_17 (by decide) rfl ?_
    refine jj_iconst (v := 1) C dX10_dealsUntilDone_18 (by decide) ?_
    refine jj_istore_n C dX10_dealsUntilDone_19 (by decide) rfl ?_
    have hL_22 : ∀ (N : Nat) (pl : va_W) (x_23 : Int32) (x_24 : Int32), True → tt_ok tt_tk cA Kd pl → tt_fr Kd [(1, 0), (1, 1), (1, 2), (1, 3), (1, 4), (1, 5), (1, 6), (1, 7), (1, 8), (1, 9), (2, 0), (2, 1), (2, 2), (2, 3), (2, 4), (3, 0), (3, 1), (3, 2), (3, 3), (3, 4), (3, 5), (4, 0), (4, 1), (4, 2), (4, 3), (4, 4), (9, 1), (9, 2), (9, 3), (9, 4), (9, 5)] pl0 pl → tt_at pl h0 4 (.ref a_12) → tt_at pl h0 3 (.ref a_15) → (1 : Int) ≤ x_23.toInt → x_23.toInt ≤ 399 → (-2147483648 : Int) ≤ x_24.toInt → x_24.toInt ≤ 2147483647 → (2147483648 - x_23.toInt ≤ (N : Int)) → jj_J p l e (jj_rm 8 123 1 6) s m args below meth c 4 A (vx_MQ below (jj_q D A (tt_O (fun rx pl1 r => rx = [] ∧ tt_ok tt_tk cA Kd pl1 ∧ tt_fr Kd [(1, 0), (1, 1), (1, 2), (1, 3), (1, 4), (1, 5), (1, 6), (1, 7), (1, 8), (1, 9), (2, 0), (2, 1), (2, 2), (2, 3), (2, 4), (3, 0), (3, 1), (3, 2), (3, 3), (3, 4), (3, 5), (4, 0), (4, 1), (4, 2), (4, 3), (4, 4), (9, 1), (9, 2), (9, 3), (9, 4), (9, 5)] pl0 pl1 ∧ (((0 : Int) ≤ p1.toInt ∧ p1.toInt ≤ 11 ∧ r = some (.int (-1))) ∨ (∃ v : Int32, (1 : Int) ≤ v.toInt ∧ v.toInt ≤ 100 ∧ (0 : Int) ≤ p1.toInt ∧ p1.toInt ≤ 11 ∧ r = some (.int v)))))) (jj_x D A (tt_OX (fun E rx pl1 => rx = [] ∧ tt_ok tt_tk cA Kd pl1 ∧ tt_fr Kd [(1, 0), (1, 1), (1, 2), (1, 3), (1, 4), (1, 5), (1, 6), (1, 7), (1, 8), (1, 9), (2, 0), (2, 1), (2, 2), (2, 3), (2, 4), (3, 0), (3, 1), (3, 2), (3, 3), (3, 4), (3, 5), (4, 0), (4, 1), (4, 2), (4, 3), (4, 4), (9, 1), (9, 2), (9, 3), (9, 4), (9, 5)] pl0 pl1 ∧ (E = "java/lang/IndexOutOfBoundsException")))) args s 1 6 A) (jj_X D A ([] ++ pl)) 1 6 20 [(3, .int x_23), (2, .int x_24), (0, .ref h0), (1, .int p1)] [] := by
      intro NL_22
      induction NL_22 with
      | zero => intro pl x_23 x_24 _ hok hfr hf_25 hf_26 lx_23 ux_23 lx_24 ux_24 hNL_22; exfalso; omega
      | succ NL_22 ihL_22 =>
        intro pl x_23 x_24 _ hok hfr hf_25 hf_26 lx_23 ux_23 lx_24 ux_24 hNL_22
        replace ihL_22 := fun pl x_23 x_24 h1 => ihL_22 pl x_23 x_24 trivial h1
        refine jj_iload_n C dX10_dealsUntilDone_20 rfl ?_
        refine jj_bipush (v := 100) C dX10_dealsUntilDone_21 (by decide) ?_
        refine jj_icmp_gt (tgt := 97) C dX10_dealsUntilDone_23 (by decide) (fun c_27 => ?_) (fun c_27 => ?_)
        · have z_c_27 := jc_lt (a := (100)) (b := (x_23).toInt) c_27 (by decide) rfl
          refine jj_iconst (v := (-1)) C dX10_dealsUntilDone_97 (by decide) ?_
          exact jj_iret C ⟨[], pl, rfl, rfl, hok, hfr, (Or.inl ⟨(by first | omega | exact tt_lo _ | exact tt_hi _), (by first | omega | exact tt_lo _ | exact tt_hi _), rfl⟩)⟩ dX10_dealsUntilDone_98 (jj_le rfl) (jj_le rfl)
        · have z_c_27 := jc_nlt (a := (100)) (b := (x_23).toInt) c_27 (by decide) rfl
          refine jj_aload_n C dX10_dealsUntilDone_26 rfl ?_
          refine tt_get C hok jk_11 5 (by decide) jw_71 (t := (2, 9, 0)) hk0 (by decide) rfl rfl dX10_dealsUntilDone_27 (fun v_28 hv_28 hf_29 => ?_)
          obtain ⟨a_30, rfl, ka_30⟩ := tt_vr hv_28
          refine jj_aload_n C dX10_dealsUntilDone_30 rfl ?_
          refine tt_getF C hok jk_11 4 (by decide) jw_189 (t := (2, 1, 0)) hk0 (by decide) rfl rfl hf_25 dX10_dealsUntilDone_31 ?_
          refine jj_aload_n C dX10_dealsUntilDone_34 rfl ?_
          refine tt_getF C hok jk_11 5 (by decide) jw_71 (t := (2, 9, 0)) hk0 (by decide) rfl rfl hf_29 dX10_dealsUntilDone_35 ?_
          refine jj_aload_n C dX10_dealsUntilDone_38 rfl ?_
          refine tt_getF C hok jk_11 4 (by decide) jw_189 (t := (2, 1, 0)) hk0 (by decide) rfl rfl hf_25 dX10_dealsUntilDone_39 ?_
          obtain ⟨qc, gs, hqc⟩ := tt_recv (cx := []) hok ka_30 (by decide) rfl
          refine tt_callV (rest := [.ref a_12, .ref a_30]) C (tc_X1_baseOfRedemptions_1 hl D cA ak a_30 a_12 ka_30 ka_12 hok) [] [] rfl rfl (by decide) (by decide) (by decide) qc hqc rfl rfl jw_72 jw_186 jw_187 jw_74 jw_73 jn_X1_baseOfRedemptions rfl (jj_le rfl) (jj_le rfl) (jj_le rfl) (jj_le rfl) (jj_le rfl) dX10_dealsUntilDone_42 rfl (fun _ _ _ hX => hX.elim) (fun rx pl_31 r O_34 => ?_)
          obtain ⟨rfl, hok_32, hr_33, hR_36⟩ := O_34
          replace hf_25 := hr_33.at hk0 (by decide) (by decide) hf_25
          replace hf_26 := hr_33.at hk0 (by decide) (by decide) hf_26
          replace hf_29 := hr_33.at hk0 (by decide) (by decide) hf_29
          replace hfr := hfr.trans (hr_33.sub (by decide))
          obtain ⟨y_37, rfl⟩ := hR_36
          obtain ⟨qc, gs, hqc⟩ := tt_recv (cx := []) hok_32 ka_30 (by decide) rfl
          refine tt_callV (rest := []) C (tc_X1_redeemWaiting_1 hl D cA ak a_30 a_12 y_37 ka_30 ka_12 hok_32) [] [] rfl rfl (by decide) (by decide) (by decide) qc hqc rfl rfl jw_232 jw_277 jw_278 jw_74 jw_233 jn_X1_redeemWaiting rfl (jj_le rfl) (jj_le rfl) (jj_le rfl) (jj_le rfl) (jj_le rfl) dX10_dealsUntilDone_45 rfl (fun _ _ _ hX => hX.elim) (fun rx pl_38 r O_41 => ?_)
          obtain ⟨rfl, hok_39, hr_40, hR_43⟩ := O_41
          replace hf_25 := hr_40.at hk0 (by decide) (by decide) hf_25
          replace hf_26 := hr_40.at hk0 (by decide) (by decide) hf_26
          replace hf_29 := hr_40.at hk0 (by decide) (by decide) hf_29
          replace hfr := hfr.trans (hr_40.sub (by decide))
          obtain rfl := hR_43
          refine jj_aload_n C dX10_dealsUntilDone_48 rfl ?_
          refine tt_getF C hok_39 jk_11 5 (by decide) jw_71 (t := (2, 9, 0)) hk0 (by decide) rfl rfl hf_29 dX10_dealsUntilDone_49 ?_
          refine jj_aload_n C dX10_dealsUntilDone_52 rfl ?_
          refine tt_getF C hok_39 jk_11 4 (by decide) jw_189 (t := (2, 1, 0)) hk0 (by decide) rfl rfl hf_25 dX10_dealsUntilDone_53 ?_
          obtain ⟨qc, gs, hqc⟩ := tt_recv (cx := []) hok_39 ka_30 (by decide) rfl
          refine tt_callV (rest := []) C (tc_X1_subscribeWaiting_1 hl D cA ak a_30 a_12 ka_30 ka_12 hok_39) [] [] rfl rfl (by decide) (by decide) (by decide) qc hqc rfl rfl jw_326 jw_360 jw_361 jw_74 jw_327 jn_X1_subscribeWaiting rfl (jj_le rfl) (jj_le rfl) (jj_le rfl) (jj_le rfl) (jj_le rfl) dX10_dealsUntilDone_56 rfl (fun _ _ _ hX => hX.elim) (fun rx pl_44 r O_47 => ?_)
          obtain ⟨rfl, hok_45, hr_46, hR_49⟩ := O_47
          replace hf_25 := hr_46.at hk0 (by decide) (by decide) hf_25
          replace hf_26 := hr_46.at hk0 (by decide) (by decide) hf_26
          replace hf_29 := hr_46.at hk0 (by decide) (by decide) hf_29
          replace hfr := hfr.trans (hr_46.sub (by decide))
          obtain rfl := hR_49
          refine jj_aload_n C dX10_dealsUntilDone_59 rfl ?_
          refine tt_getF C hok_45 jk_11 4 (by decide) jw_189 (t := (2, 1, 0)) hk0 (by decide) rfl rfl hf_25 dX10_dealsUntilDone_60 ?_
          refine jj_iload_n C dX10_dealsUntilDone_63 rfl ?_
          obtain ⟨qc, gs, hqc⟩ := tt_recv (cx := []) hok_45 ka_12 (by decide) rfl
          refine tt_callV (rest := []) C (tc_X0_isDone_2 hl D cA ak a_12 x_24 ka_12 hok_45) [] [] rfl rfl (by decide) (by decide) (by decide) qc hqc rfl rfl jw_280 jw_283 jw_284 jw_133 jw_281 jn_X0_isDone rfl (jj_le rfl) (jj_le rfl) (jj_le rfl) (jj_le rfl) (jj_le rfl) dX10_dealsUntilDone_64 rfl (fun _ _ _ hX => hX.elim) (fun rx pl_50 r O_53 => ?_)
          obtain ⟨rfl, hok_51, hr_52, hR_55⟩ := O_53
          replace hf_25 := hr_52.at hk0 (by decide) (by decide) hf_25
          replace hf_26 := hr_52.at hk0 (by decide) (by decide) hf_26
          replace hf_29 := hr_52.at hk0 (by decide) (by decide) hf_29
          replace hfr := hfr.trans (hr_52.sub (by decide))
          rcases hR_55 with rfl | ⟨l_56, u_57, rfl⟩
          · refine jj_if_eqT (tgt := 72) C dX10_dealsUntilDone_67 (by decide) (by decide) ?_
            refine jj_iload_n C dX10_dealsUntilDone_72 rfl ?_
            refine jj_aload_n C dX10_dealsUntilDone_73 rfl ?_
            refine tt_getF C hok_51 jk_11 4 (by decide) jw_189 (t := (2, 1, 0)) hk0 (by decide) rfl rfl hf_25 dX10_dealsUntilDone_74 ?_
            refine jj_iload_n C dX10_dealsUntilDone_77 rfl ?_
            obtain ⟨qc, gs, hqc⟩ := tt_recv (cx := []) hok_51 ka_12 (by decide) rfl
            refine tt_callV (rest := [.int x_24]) C (tc_X0_doneBefore_2 hl D cA ak a_12 x_24 ka_12 hok_51) [] [] rfl rfl (by decide) (by decide) (by decide) qc hqc rfl rfl jw_363 jw_365 jw_366 jw_133 jw_364 jn_X0_doneBefore rfl (jj_le rfl) (jj_le rfl) (jj_le rfl) (jj_le rfl) (jj_le rfl) dX10_dealsUntilDone_78 rfl (fun _ _ _ hX => hX.elim) (fun rx pl_58 r O_61 => ?_)
            obtain ⟨rfl, hok_59, hr_60, hR_63⟩ := O_61
            replace hf_25 := hr_60.at hk0 (by decide) (by decide) hf_25
            replace hf_26 := hr_60.at hk0 (by decide) (by decide) hf_26
            replace hf_29 := hr_60.at hk0 (by decide) (by decide) hf_29
            replace hfr := hfr.trans (hr_60.sub (by decide))
            obtain ⟨x_64, lx_64, ux_64, rfl⟩ := hR_63
            obtain ⟨x_65, ex_65⟩ : ∃ z : Int32, x_24 - x_64 = z := ⟨_, rfl⟩
            refine jj_isub (v := x_65) C dX10_dealsUntilDone_81 ex_65 ?_
            refine jj_istore_n C dX10_dealsUntilDone_82 (by decide) rfl ?_
            refine jj_aload_n C dX10_dealsUntilDone_83 rfl ?_
            refine tt_getF C hok_59 jk_11 4 (by decide) jw_189 (t := (2, 1, 0)) hk0 (by decide) rfl rfl hf_25 dX10_dealsUntilDone_84 ?_
            obtain ⟨qc, gs, hqc⟩ := tt_recv (cx := []) hok_59 ka_12 (by decide) rfl
            refine tt_callV (rest := []) C (tc_X0_dropDoneRequests_1 hl D cA ak a_12 ka_12 hok_59) [] [] rfl rfl (by decide) (by decide) (by decide) qc hqc rfl rfl jw_368 jw_370 jw_371 jw_133 jw_369 jn_X0_dropDoneRequests rfl (jj_le rfl) (jj_le rfl) (jj_le rfl) (jj_le rfl) (jj_le rfl) dX10_dealsUntilDone_87 rfl (fun _ _ _ hX => hX.elim) (fun rx pl_66 r O_69 => ?_)
            obtain ⟨rfl, hok_67, hr_68, hR_71⟩ := O_69
            replace hf_25 := hr_68.at hk0 (by decide) (by decide) hf_25
            replace hf_26 := hr_68.at hk0 (by decide) (by decide) hf_26
            replace hf_29 := hr_68.at hk0 (by decide) (by decide) hf_29
            replace hfr := hfr.trans (hr_68.sub (by decide))
            obtain ⟨x_72, lx_72, ux_72, rfl⟩ := hR_71
            refine jj_pop C dX10_dealsUntilDone_90 rfl ?_
            obtain ⟨x_73, ex_73, vx_73⟩ := tt_inc (x := x_23) (n := 1) (by omega) (by omega)
            refine jj_iinc (v := x_73) C dX10_dealsUntilDone_91 rfl ex_73 (by decide) rfl ?_
            refine jj_goto (tgt := 20) C dX10_dealsUntilDone_94 (by decide) ?_
            exact ihL_22 pl_66 x_73 x_65 hok_67 hfr hf_25 hf_26 (by first | omega | decide | exact tt_lo _ | exact tt_hi _) (by first | omega | decide | exact tt_lo _ | exact tt_hi _) (by first | omega | decide | exact tt_lo _ | exact tt_hi _) (by first | omega | decide | exact tt_lo _ | exact tt_hi _) (by first | omega | decide | exact tt_lo _ | exact tt_hi _)
          · refine jj_if_eqF (tgt := 72) C dX10_dealsUntilDone_67 (by decide) (by decide) ?_
            refine jj_iload_n C dX10_dealsUntilDone_70 rfl ?_
            exact jj_iret C ⟨[], pl_50, rfl, rfl, hok_51, hfr, (Or.inr ⟨x_23, (by first | omega | exact tt_lo _ | exact tt_hi _), (by first | omega | exact tt_lo _ | exact tt_hi _), (by first | omega | exact tt_lo _ | exact tt_hi _), (by first | omega | exact tt_lo _ | exact tt_hi _), rfl⟩)⟩ dX10_dealsUntilDone_71 (jj_le rfl) (jj_le rfl)
    exact hL_22 _ pl_16 (1 : Int32) p1 trivial hok_17 hfr hf_11 hf_14 (by first | omega | decide | exact tt_lo _ | exact tt_hi _) (by first | omega | decide | exact tt_lo _ | exact tt_hi _) (by first | omega | decide | exact tt_lo _ | exact tt_hi _) (by first | omega | decide | exact tt_lo _ | exact tt_hi _) (Int.self_le_toNat _)

set_option maxHeartbeats 4000000 in
set_option maxRecDepth 100000 in
theorem tc_X2_earningFault_1 {l : Launch} (hl : l.stackTraces = false) (D : va_G) (cA : Nat → ClassId) (ak : (Nat → Nat) × (Nat → Nat)) {Kd : Nat → Nat} (h0 : Nat) (p1 : Int32) (hk0 : Kd h0 = 1) {pl0 : va_W} (hok : tt_ok tt_tk cA Kd pl0) : jj_M l D cA ak yX2_earningFault (.code yX2_earningFault cX2_earningFault 5 (some .int)) 1 22 0 0 ([] ++ pl0) [.ref h0, .int p1] (tt_O (fun rx pl1 r => rx = [] ∧ tt_ok tt_tk cA Kd pl1 ∧ tt_fr Kd [] pl0 pl1 ∧ ((r = some (.int 2)) ∨ ((-9000 : Int) ≤ p1.toInt ∧ p1.toInt ≤ 9999 ∧ r = some (.int 0)) ∨ ((1 : Int) ≤ p1.toInt ∧ p1.toInt ≤ 9999 ∧ r = some (.int 3))))) (tt_OX (fun _ _ _ => False)) := by
  refine jj_start hl (by decide) jw_374 (jj_le rfl) ?_
  intro p e s m args below meth c A hargs hA C hex hmn
  have hfr := tt_fr.refl (K := Kd) (WS := []) pl0
  have lp1 := tt_lo p1
  have up1 := tt_hi p1
  refine jj_iload_n C dX2_earningFault_0 rfl ?_
  refine jj_sipush (v := (-9000)) C dX2_earningFault_1 (by decide) ?_
  refine jj_icmp_lt (tgt := 14) C dX2_earningFault_4 (by decide) (fun c_1 => ?_) (fun c_1 => ?_)
  · have z_c_1 := jc_lt (a := (p1).toInt) (b := (-9000)) c_1 rfl (by decide)
    refine jj_iconst (v := 2) C dX2_earningFault_14 (by decide) ?_
    exact jj_iret C ⟨[], pl0, rfl, rfl, hok, hfr, (Or.inl rfl)⟩ dX2_earningFault_15 (jj_le rfl) (jj_le rfl)
  · have z_c_1 := jc_nlt (a := (p1).toInt) (b := (-9000)) c_1 rfl (by decide)
    refine jj_iload_n C dX2_earningFault_7 rfl ?_
    refine jj_sipush (v := 9999) C dX2_earningFault_8 (by decide) ?_
    refine jj_icmp_le (tgt := 16) C dX2_earningFault_11 (by decide) (fun c_2 => ?_) (fun c_2 => ?_)
    · have z_c_2 := jc_le (a := (p1).toInt) (b := (9999)) c_2 rfl (by decide)
      refine jj_iconst (v := 0) C dX2_earningFault_16 (by decide) ?_
      refine jj_istore_n C dX2_earningFault_17 (by decide) rfl ?_
      have hL_3 : ∀ (N : Nat) (pl : va_W) (x_4 : Int32), True → tt_ok tt_tk cA Kd pl → tt_fr Kd [] pl0 pl → (0 : Int) ≤ x_4.toInt → x_4.toInt ≤ 6 → (2147483648 - x_4.toInt ≤ (N : Int)) → jj_J p l e (jj_rm 1 22 0 0) s m args below meth c 5 A (vx_MQ below (jj_q D A (tt_O (fun rx pl1 r => rx = [] ∧ tt_ok tt_tk cA Kd pl1 ∧ tt_fr Kd [] pl0 pl1 ∧ ((r = some (.int 2)) ∨ ((-9000 : Int) ≤ p1.toInt ∧ p1.toInt ≤ 9999 ∧ r = some (.int 0)) ∨ ((1 : Int) ≤ p1.toInt ∧ p1.toInt ≤ 9999 ∧ r = some (.int 3)))))) (jj_x D A (tt_OX (fun _ _ _ => False))) args s 0 0 A) (jj_X D A ([] ++ pl)) 0 0 18 [(2, .int x_4), (0, .ref h0), (1, .int p1)] [] := by
        intro NL_3
        induction NL_3 with
        | zero => intro pl x_4 _ hok hfr lx_4 ux_4 hNL_3; exfalso; omega
        | succ NL_3 ihL_3 =>
          intro pl x_4 _ hok hfr lx_4 ux_4 hNL_3
          replace ihL_3 := fun pl x_4 h1 => ihL_3 pl x_4 trivial h1
          refine jj_iload_n C dX2_earningFault_18 rfl ?_
          refine jj_aload_n C dX2_earningFault_19 rfl ?_
          refine tt_get C hok jk_2 7 (by decide) jw_317 (t := (0, 0, 6)) hk0 (by decide) rfl rfl dX2_earningFault_20 (fun v_5 hv_5 hf_6 => ?_)
          obtain ⟨x_7, rfl, lx_7, ux_7⟩ := tt_vi hv_5
          refine jj_icmp_ge (tgt := 74) C dX2_earningFault_23 (by decide) (fun c_8 => ?_) (fun c_8 => ?_)
          · have z_c_8 := jc_le (a := (x_7).toInt) (b := (x_4).toInt) c_8 rfl rfl
            refine jj_iconst (v := 0) C dX2_earningFault_74 (by decide) ?_
            exact jj_iret C ⟨[], pl, rfl, rfl, hok, hfr, (Or.inr (Or.inl ⟨(by first | omega | exact tt_lo _ | exact tt_hi _), (by first | omega | exact tt_lo _ | exact tt_hi _), rfl⟩))⟩ dX2_earningFault_75 (jj_le rfl) (jj_le rfl)
          · have z_c_8 := jc_nle (a := (x_7).toInt) (b := (x_4).toInt) c_8 rfl rfl
            refine jj_iload_n C dX2_earningFault_26 rfl ?_
            refine jj_if_le (tgt := 74) C dX2_earningFault_27 (by decide) (fun c_9 => ?_) (fun c_9 => ?_)
            · have z_c_9 := jc_le (a := (p1).toInt) (b := (0)) c_9 rfl (by decide)
              refine jj_iconst (v := 0) C dX2_earningFault_74 (by decide) ?_
              exact jj_iret C ⟨[], pl, rfl, rfl, hok, hfr, (Or.inr (Or.inl ⟨(by first | omega | exact tt_lo _ | exact tt_hi _), (by first | omega | exact tt_lo _ | exact tt_hi _), rfl⟩))⟩ dX2_earningFault_75 (jj_le rfl) (jj_le rfl)
            · have z_c_9 := jc_nle (a := (p1).toInt) (b := (0)) c_9 rfl (by decide)
              refine jj_aload_n C dX2_earningFault_30 rfl ?_
              refine tt_get C hok jk_2 11 (by decide) jw_320 (t := (2, 6, 0)) hk0 (by decide) rfl rfl dX2_earningFault_31 (fun v_10 hv_10 hf_11 => ?_)
              obtain ⟨a_12, rfl, ka_12⟩ := tt_vr hv_10
              refine jj_iload_n C dX2_earningFault_34 rfl ?_
              refine tt_aald C hok (t := (2, 2, 0)) ka_12 (by decide) rfl rfl rfl (vp_in_iff.mpr ⟨by omega, by omega⟩) dX2_earningFault_35 (fun v_13 hv_13 => ?_)
              obtain ⟨a_14, rfl, ka_14⟩ := tt_vr hv_13
              refine jj_iload_n C dX2_earningFault_36 rfl ?_
              obtain ⟨qc, gs, hqc⟩ := tt_recv (cx := []) hok ka_14 (by decide) rfl
              refine tt_callV (rest := []) C (tc_X8_assetsAfter_3 hl D cA ak a_14 p1 ka_14 hok) [] [] rfl rfl (by decide) (by decide) (by decide) qc hqc rfl rfl jw_375 jw_110 jw_111 jw_92 jw_108 jn_X8_assetsAfter rfl (jj_le rfl) (jj_le rfl) (jj_le rfl) (jj_le rfl) (jj_le rfl) dX2_earningFault_37 rfl (fun _ _ _ hX => hX.elim) (fun rx pl_15 r O_18 => ?_)
              obtain ⟨rfl, hok_16, hr_17, hR_20⟩ := O_18
              replace hf_6 := hr_17.at hk0 (by decide) (by decide) hf_6
              replace hf_11 := hr_17.at hk0 (by decide) (by decide) hf_11
              replace hfr := hfr.trans (hr_17.sub (by decide))
              obtain ⟨y_21, rfl⟩ := hR_20
              refine jj_lstore_n C dX2_earningFault_40 (by decide) rfl ?_
              refine jj_lload_n C dX2_earningFault_41 rfl ?_
              refine jj_ldc2 (v := 1000000000) C dX2_earningFault_42 jw_376 ?_
              refine jj_lcmp_gt (tgt := 66) C dX2_earningFault_45 dX2_earningFault_46 (by decide) (fun c_22 => ?_) (fun c_22 => ?_)
              · refine jj_iconst (v := 3) C dX2_earningFault_66 (by decide) ?_
                exact jj_iret C ⟨[], pl_15, rfl, rfl, hok_16, hfr, (Or.inr (Or.inr ⟨(by first | omega | exact tt_lo _ | exact tt_hi _), (by first | omega | exact tt_lo _ | exact tt_hi _), rfl⟩))⟩ dX2_earningFault_67 (jj_le rfl) (jj_le rfl)
              · refine jj_aload_n C dX2_earningFault_49 rfl ?_
                refine tt_getF C hok_16 jk_2 11 (by decide) jw_320 (t := (2, 6, 0)) hk0 (by decide) rfl rfl hf_11 dX2_earningFault_50 ?_
                refine jj_iload_n C dX2_earningFault_53 rfl ?_
                refine tt_aald C hok_16 (t := (2, 2, 0)) ka_12 (by decide) rfl rfl rfl (vp_in_iff.mpr ⟨by omega, by omega⟩) dX2_earningFault_54 (fun v_23 hv_23 => ?_)
                obtain ⟨a_24, rfl, ka_24⟩ := tt_vr hv_23
                refine jj_lload_n C dX2_earningFault_55 rfl ?_
                obtain ⟨qc, gs, hqc⟩ := tt_recv (cx := []) hok_16 ka_24 (by decide) rfl
                refine tt_callV (rest := []) C (tc_X8_priceWith_1 hl D cA ak a_24 y_21 ka_24 hok_16) [] [] rfl rfl (by decide) (by decide) (by decide) qc hqc rfl rfl jw_377 jw_296 jw_297 jw_92 jw_295 jn_X8_priceWith rfl (jj_le rfl) (jj_le rfl) (jj_le rfl) (jj_le rfl) (jj_le rfl) dX2_earningFault_56 rfl (fun _ _ _ hX => hX.elim) (fun rx pl_25 r O_28 => ?_)
                obtain ⟨rfl, hok_26, hr_27, hR_30⟩ := O_28
                replace hf_6 := hr_27.at hk0 (by decide) (by decide) hf_6
                replace hf_11 := hr_27.at hk0 (by decide) (by decide) hf_11
                replace hfr := hfr.trans (hr_27.sub (by decide))
                rcases hR_30 with rfl | ⟨y_31, rfl⟩
                · refine jj_ldc2 (v := 100000000) C dX2_earningFault_59 jw_378 ?_
                  refine jj_lcmp_leT (tgt := 68) C dX2_earningFault_62 dX2_earningFault_63 (by decide) (by decide) ?_
                  obtain ⟨x_32, ex_32, vx_32⟩ := tt_inc (x := x_4) (n := 1) (by omega) (by omega)
                  refine jj_iinc (v := x_32) C dX2_earningFault_68 rfl ex_32 (by decide) rfl ?_
                  refine jj_goto (tgt := 18) C dX2_earningFault_71 (by decide) ?_
                  refine jj_loc [0, 2, 3] rfl ?_
                  exact ihL_3 pl_25 x_32 hok_26 hfr (by first | omega | decide | exact tt_lo _ | exact tt_hi _) (by first | omega | decide | exact tt_lo _ | exact tt_hi _) (by first | omega | decide | exact tt_lo _ | exact tt_hi _)
                · refine jj_ldc2 (v := 100000000) C dX2_earningFault_59 jw_378 ?_
                  refine jj_lcmp_le (tgt := 68) C dX2_earningFault_62 dX2_earningFault_63 (by decide) (fun c_33 => ?_) (fun c_33 => ?_)
                  · obtain ⟨x_34, ex_34, vx_34⟩ := tt_inc (x := x_4) (n := 1) (by omega) (by omega)
                    refine jj_iinc (v := x_34) C dX2_earningFault_68 rfl ex_34 (by decide) rfl ?_
                    refine jj_goto (tgt := 18) C dX2_earningFault_71 (by decide) ?_
                    refine jj_loc [0, 2, 3] rfl ?_
                    exact ihL_3 pl_25 x_34 hok_26 hfr (by first | omega | decide | exact tt_lo _ | exact tt_hi _) (by first | omega | decide | exact tt_lo _ | exact tt_hi _) (by first | omega | decide | exact tt_lo _ | exact tt_hi _)
                  · refine jj_iconst (v := 3) C dX2_earningFault_66 (by decide) ?_
                    exact jj_iret C ⟨[], pl_25, rfl, rfl, hok_26, hfr, (Or.inr (Or.inr ⟨(by first | omega | exact tt_lo _ | exact tt_hi _), (by first | omega | exact tt_lo _ | exact tt_hi _), rfl⟩))⟩ dX2_earningFault_67 (jj_le rfl) (jj_le rfl)
      exact hL_3 _ pl0 (0 : Int32) trivial hok hfr (by first | omega | decide | exact tt_lo _ | exact tt_hi _) (by first | omega | decide | exact tt_lo _ | exact tt_hi _) (Int.self_le_toNat _)
    · have z_c_2 := jc_nle (a := (p1).toInt) (b := (9999)) c_2 rfl (by decide)
      refine jj_iconst (v := 2) C dX2_earningFault_14 (by decide) ?_
      exact jj_iret C ⟨[], pl0, rfl, rfl, hok, hfr, (Or.inl rfl)⟩ dX2_earningFault_15 (jj_le rfl) (jj_le rfl)

set_option maxHeartbeats 4000000 in
set_option maxRecDepth 100000 in
theorem tc_X10_refuse_3 {l : Launch} (hl : l.stackTraces = false) (D : va_G) (cA : Nat → ClassId) (ak : (Nat → Nat) × (Nat → Nat)) {Kd : Nat → Nat} {pl0 : va_W} (hok : tt_ok tt_tk cA Kd pl0) : jj_M l D cA ak yX10_refuse (.code yX10_refuse cX10_refuse 1 none) 6 82 1 6 ([] ++ pl0) [.int 2] (tt_O (fun rx pl1 r => False)) (tt_OX (fun E rx pl1 => rx = [] ∧ tt_ok tt_tk cA Kd pl1 ∧ tt_fr Kd [] pl0 pl1 ∧ (E = "java/lang/IllegalArgumentException"))) := by
  refine jj_start hl (by decide) jw_54 (jj_le rfl) ?_
  intro p e s m args below meth c A hargs hA C hex hmn
  have hfr := tt_fr.refl (K := Kd) (WS := []) pl0
  refine jj_iload_n C dX10_refuse_0 rfl ?_
  refine jj_iconst (v := 1) C dX10_refuse_1 (by decide) ?_
  refine jj_icmp_neT (tgt := 15) C dX10_refuse_2 (by decide) (by decide) ?_
  refine jj_iload_n C dX10_refuse_15 rfl ?_
  refine jj_iconst (v := 2) C dX10_refuse_16 (by decide) ?_
  refine jj_icmp_neF (tgt := 30) C dX10_refuse_17 (by decide) (by decide) ?_
  exact jj_throw (k := 39) (text := "an argument is out of its range") C jt_RX10_75 jw_1 (by decide +kernel) dX10_refuse_20 dX10_refuse_23 dX10_refuse_24 dX10_refuse_26 dX10_refuse_29 hex (jj_le rfl) (jj_le rfl) (jj_le rfl) (jj_le rfl) ⟨[], pl0, rfl, rfl, hok, hfr, rfl⟩ (jj_le rfl) (jj_le rfl)

set_option maxHeartbeats 4000000 in
set_option maxRecDepth 100000 in
theorem tc_X2_earnRate_1 {l : Launch} (hl : l.stackTraces = false) (D : va_G) (cA : Nat → ClassId) (ak : (Nat → Nat) × (Nat → Nat)) {Kd : Nat → Nat} (h0 : Nat) (p1 : Int32) (hk0 : Kd h0 = 1) {pl0 : va_W} (hok : tt_ok tt_tk cA Kd pl0) : jj_M l D cA ak yX2_earnRate (.code yX2_earnRate cX2_earnRate 7 (some .long)) 1 21 0 0 ([] ++ pl0) [.ref h0, .int p1] (tt_O (fun rx pl1 r => rx = [] ∧ tt_ok tt_tk cA Kd pl1 ∧ tt_fr Kd [(2, 2)] pl0 pl1 ∧ ((∃ v : Int64, r = some (.long v))))) (tt_OX (fun _ _ _ => False)) := by
  refine jj_start hl (by decide) jw_390 (jj_le rfl) ?_
  intro p e s m args below meth c A hargs hA C hex hmn
  have hfr := tt_fr.refl (K := Kd) (WS := [(2, 2)]) pl0
  have lp1 := tt_lo p1
  have up1 := tt_hi p1
  refine jj_lconst (v := 0) C dX2_earnRate_0 (by decide) ?_
  refine jj_lstore_n C dX2_earnRate_1 (by decide) rfl ?_
  refine jj_iconst (v := 0) C dX2_earnRate_2 (by decide) ?_
  refine jj_istore C dX2_earnRate_3 (by decide) rfl ?_
  have hL_1 : ∀ (N : Nat) (pl : va_W) (x_2 : Int32) (y_3 : Int64), True → tt_ok tt_tk cA Kd pl → tt_fr Kd [(2, 2)] pl0 pl → (0 : Int) ≤ x_2.toInt → x_2.toInt ≤ 6 → (2147483648 - x_2.toInt ≤ (N : Int)) → jj_J p l e (jj_rm 1 21 0 0) s m args below meth c 7 A (vx_MQ below (jj_q D A (tt_O (fun rx pl1 r => rx = [] ∧ tt_ok tt_tk cA Kd pl1 ∧ tt_fr Kd [(2, 2)] pl0 pl1 ∧ ((∃ v : Int64, r = some (.long v)))))) (jj_x D A (tt_OX (fun _ _ _ => False))) args s 0 0 A) (jj_X D A ([] ++ pl)) 0 0 5 [(4, .int x_2), (2, .long y_3), (0, .ref h0), (1, .int p1)] [] := by
    intro NL_1
    induction NL_1 with
    | zero => intro pl x_2 y_3 _ hok hfr lx_2 ux_2 hNL_1; exfalso; omega
    | succ NL_1 ihL_1 =>
      intro pl x_2 y_3 _ hok hfr lx_2 ux_2 hNL_1
      replace ihL_1 := fun pl x_2 y_3 h1 => ihL_1 pl x_2 y_3 trivial h1
      refine jj_iload C dX2_earnRate_5 rfl ?_
      refine jj_aload_n C dX2_earnRate_7 rfl ?_
      refine tt_get C hok jk_2 7 (by decide) jw_317 (t := (0, 0, 6)) hk0 (by decide) rfl rfl dX2_earnRate_8 (fun v_4 hv_4 hf_5 => ?_)
      obtain ⟨x_6, rfl, lx_6, ux_6⟩ := tt_vi hv_4
      refine jj_icmp_ge (tgt := 61) C dX2_earnRate_11 (by decide) (fun c_7 => ?_) (fun c_7 => ?_)
      · have z_c_7 := jc_le (a := (x_6).toInt) (b := (x_2).toInt) c_7 rfl rfl
        refine jj_aload_n C dX2_earnRate_61 rfl ?_
        refine tt_get C hok jk_2 10 (by decide) jw_319 (t := (2, 5, 0)) hk0 (by decide) rfl rfl dX2_earnRate_62 (fun v_8 hv_8 hf_9 => ?_)
        obtain ⟨a_10, rfl, ka_10⟩ := tt_vr hv_8
        refine jj_iconst (v := 4) C dX2_earnRate_65 (by decide) ?_
        refine jj_dup2 C dX2_earnRate_66 rfl rfl ?_
        refine tt_lald C hok (t := (1, (-9223372036854775808), 9223372036854775807)) ka_10 (by decide) rfl (vp_in_iff.mpr (by decide)) dX2_earnRate_67 (fun v_11 hv_11 => ?_)
        refine jj_lload_n C dX2_earnRate_68 rfl ?_
        obtain ⟨y_12, ey_12⟩ : ∃ z : Int64, v_11 + y_3 = z := ⟨_, rfl⟩
        refine jj_ladd (v := y_12) C dX2_earnRate_69 ey_12 ?_
        refine tt_last C hok (t := (1, (-9223372036854775808), 9223372036854775807)) ka_10 (by decide) rfl (vp_in_iff.mpr (by decide)) (tt_ja _) dX2_earnRate_70 (fun pl_13 hok_14 tr => ?_)
        replace hf_5 := tr _ _ _ hf_5
        replace hf_9 := tr _ _ _ hf_9
        replace hfr := hfr.arr tr
        refine jj_lload_n C dX2_earnRate_71 rfl ?_
        exact jj_lret C ⟨[], pl_13, rfl, rfl, hok_14, hfr, ⟨y_3, rfl⟩⟩ dX2_earnRate_72 (jj_le rfl) (jj_le rfl)
      · have z_c_7 := jc_nle (a := (x_6).toInt) (b := (x_2).toInt) c_7 rfl rfl
        refine jj_aload_n C dX2_earnRate_14 rfl ?_
        refine tt_get C hok jk_2 11 (by decide) jw_320 (t := (2, 6, 0)) hk0 (by decide) rfl rfl dX2_earnRate_15 (fun v_15 hv_15 hf_16 => ?_)
        obtain ⟨a_17, rfl, ka_17⟩ := tt_vr hv_15
        refine jj_iload C dX2_earnRate_18 rfl ?_
        refine tt_aald C hok (t := (2, 2, 0)) ka_17 (by decide) rfl rfl rfl (vp_in_iff.mpr ⟨by omega, by omega⟩) dX2_earnRate_20 (fun v_18 hv_18 => ?_)
        obtain ⟨a_19, rfl, ka_19⟩ := tt_vr hv_18
        refine jj_iload_n C dX2_earnRate_21 rfl ?_
        obtain ⟨qc, gs, hqc⟩ := tt_recv (cx := []) hok ka_19 (by decide) rfl
        refine tt_callV (rest := []) C (tc_X8_assetsAfter_3 hl D cA ak a_19 p1 ka_19 hok) [] [] rfl rfl (by decide) (by decide) (by decide) qc hqc rfl rfl jw_375 jw_110 jw_111 jw_92 jw_108 jn_X8_assetsAfter rfl (jj_le rfl) (jj_le rfl) (jj_le rfl) (jj_le rfl) (jj_le rfl) dX2_earnRate_22 rfl (fun _ _ _ hX => hX.elim) (fun rx pl_20 r O_23 => ?_)
        obtain ⟨rfl, hok_21, hr_22, hR_25⟩ := O_23
        replace hf_5 := hr_22.at hk0 (by decide) (by decide) hf_5
        replace hf_16 := hr_22.at hk0 (by decide) (by decide) hf_16
        replace hfr := hfr.trans (hr_22.sub (by decide))
        obtain ⟨y_26, rfl⟩ := hR_25
        refine jj_lstore C dX2_earnRate_25 (by decide) rfl ?_
        refine jj_lload_n C dX2_earnRate_27 rfl ?_
        refine jj_lload C dX2_earnRate_28 rfl ?_
        refine jj_aload_n C dX2_earnRate_30 rfl ?_
        refine tt_getF C hok_21 jk_2 11 (by decide) jw_320 (t := (2, 6, 0)) hk0 (by decide) rfl rfl hf_16 dX2_earnRate_31 ?_
        refine jj_iload C dX2_earnRate_34 rfl ?_
        refine tt_aald C hok_21 (t := (2, 2, 0)) ka_17 (by decide) rfl rfl rfl (vp_in_iff.mpr ⟨by omega, by omega⟩) dX2_earnRate_36 (fun v_27 hv_27 => ?_)
        obtain ⟨a_28, rfl, ka_28⟩ := tt_vr hv_27
        refine tt_get C hok_21 jk_9 2 (by decide) jw_321 (t := (1, (-9223372036854775808), 9223372036854775807)) ka_28 (by decide) rfl rfl dX2_earnRate_37 (fun v_29 hv_29 hf_30 => ?_)
        obtain ⟨y_31, rfl, -, -⟩ := tt_vj hv_29
        obtain ⟨y_32, ey_32⟩ : ∃ z : Int64, y_26 - y_31 = z := ⟨_, rfl⟩
        refine jj_lsub (v := y_32) C dX2_earnRate_40 ey_32 ?_
        obtain ⟨y_33, ey_33⟩ : ∃ z : Int64, y_3 + y_32 = z := ⟨_, rfl⟩
        refine jj_ladd (v := y_33) C dX2_earnRate_41 ey_33 ?_
        refine jj_lstore_n C dX2_earnRate_42 (by decide) rfl ?_
        refine jj_aload_n C dX2_earnRate_43 rfl ?_
        refine tt_getF C hok_21 jk_2 11 (by decide) jw_320 (t := (2, 6, 0)) hk0 (by decide) rfl rfl hf_16 dX2_earnRate_44 ?_
        refine jj_iload C dX2_earnRate_47 rfl ?_
        refine tt_aald C hok_21 (t := (2, 2, 0)) ka_17 (by decide) rfl rfl rfl (vp_in_iff.mpr ⟨by omega, by omega⟩) dX2_earnRate_49 (fun v_34 hv_34 => ?_)
        obtain ⟨a_35, rfl, ka_35⟩ := tt_vr hv_34
        refine jj_lload C dX2_earnRate_50 rfl ?_
        refine tt_put C hok_21 jk_9 2 (by decide) jw_321 (t := (1, (-9223372036854775808), 9223372036854775807)) ka_35 (by decide) rfl rfl rfl (tt_ja y_26) rfl rfl dX2_earnRate_52 (fun pl_36 hok_37 tr hn => ?_)
        replace hf_5 := tr _ _ _ (Or.inl (tt_ne hk0 ka_35 (by decide))) hf_5
        replace hf_16 := tr _ _ _ (Or.inl (tt_ne hk0 ka_35 (by decide))) hf_16
        have hf_38 := hn
        replace hfr := hfr.put ka_35 tr (by decide)
        obtain ⟨x_39, ex_39, vx_39⟩ := tt_inc (x := x_2) (n := 1) (by omega) (by omega)
        refine jj_iinc (v := x_39) C dX2_earnRate_55 rfl ex_39 (by decide) rfl ?_
        refine jj_goto (tgt := 5) C dX2_earnRate_58 (by decide) ?_
        refine jj_loc [0, 1, 3, 4] rfl ?_
        exact ihL_1 pl_36 x_39 y_33 hok_37 hfr (by first | omega | decide | exact tt_lo _ | exact tt_hi _) (by first | omega | decide | exact tt_lo _ | exact tt_hi _) (by first | omega | decide | exact tt_lo _ | exact tt_hi _)
  exact hL_1 _ pl0 (0 : Int32) (0 : Int64) trivial hok hfr (by first | omega | decide | exact tt_lo _ | exact tt_hi _) (by first | omega | decide | exact tt_lo _ | exact tt_hi _) (Int.self_le_toNat _)

set_option maxHeartbeats 4000000 in
set_option maxRecDepth 100000 in
theorem tc_X10_refuse_4 {l : Launch} (hl : l.stackTraces = false) (D : va_G) (cA : Nat → ClassId) (ak : (Nat → Nat) × (Nat → Nat)) {Kd : Nat → Nat} {pl0 : va_W} (hok : tt_ok tt_tk cA Kd pl0) : jj_M l D cA ak yX10_refuse (.code yX10_refuse cX10_refuse 1 none) 6 82 1 6 ([] ++ pl0) [.int 3] (tt_O (fun rx pl1 r => False)) (tt_OX (fun E rx pl1 => rx = [] ∧ tt_ok tt_tk cA Kd pl1 ∧ tt_fr Kd [] pl0 pl1 ∧ (E = "java/lang/IllegalStateException"))) := by
  refine jj_start hl (by decide) jw_54 (jj_le rfl) ?_
  intro p e s m args below meth c A hargs hA C hex hmn
  have hfr := tt_fr.refl (K := Kd) (WS := []) pl0
  refine jj_iload_n C dX10_refuse_0 rfl ?_
  refine jj_iconst (v := 1) C dX10_refuse_1 (by decide) ?_
  refine jj_icmp_neT (tgt := 15) C dX10_refuse_2 (by decide) (by decide) ?_
  refine jj_iload_n C dX10_refuse_15 rfl ?_
  refine jj_iconst (v := 2) C dX10_refuse_16 (by decide) ?_
  refine jj_icmp_neT (tgt := 30) C dX10_refuse_17 (by decide) (by decide) ?_
  refine jj_iload_n C dX10_refuse_30 rfl ?_
  refine jj_iconst (v := 3) C dX10_refuse_31 (by decide) ?_
  refine jj_icmp_neF (tgt := 45) C dX10_refuse_32 (by decide) (by decide) ?_
  exact jj_throw (k := 40) (text := "this cannot be done now") C jt_RX10_64 jw_49 (by decide +kernel) dX10_refuse_35 dX10_refuse_38 dX10_refuse_39 dX10_refuse_41 dX10_refuse_44 hex (jj_le rfl) (jj_le rfl) (jj_le rfl) (jj_le rfl) ⟨[], pl0, rfl, rfl, hok, hfr, rfl⟩ (jj_le rfl) (jj_le rfl)

set_option maxHeartbeats 4000000 in
set_option maxRecDepth 100000 in
theorem tc_X10_feesIf_1 {l : Launch} (hl : l.stackTraces = false) (D : va_G) (cA : Nat → ClassId) (ak : (Nat → Nat) × (Nat → Nat)) {Kd : Nat → Nat} (h0 : Nat) (p1 : Int32) (hk0 : Kd h0 = 15) {pl0 : va_W} (hok : tt_ok tt_tk cA Kd pl0) : jj_M l D cA ak yX10_feesIf (.code yX10_feesIf cX10_feesIf 5 (some .long)) 6 82 1 6 ([] ++ pl0) [.ref h0, .int p1] (tt_O (fun rx pl1 r => rx = [] ∧ tt_ok tt_tk cA Kd pl1 ∧ tt_fr Kd [(1, 0), (1, 1), (1, 2), (1, 3), (1, 4), (1, 5), (1, 6), (1, 7), (1, 8), (1, 9), (2, 0), (2, 1), (2, 2), (2, 3), (2, 4), (3, 0), (3, 1), (3, 2), (3, 3), (3, 4), (3, 5), (4, 0), (4, 1), (4, 2), (4, 3), (4, 4)] pl0 pl1 ∧ ((∃ v : Int64, (-9000 : Int) ≤ p1.toInt ∧ p1.toInt ≤ 9999 ∧ r = some (.long v))))) (tt_OX (fun E rx pl1 => rx = [] ∧ tt_ok tt_tk cA Kd pl1 ∧ tt_fr Kd [(1, 0), (1, 1), (1, 2), (1, 3), (1, 4), (1, 5), (1, 6), (1, 7), (1, 8), (1, 9), (2, 0), (2, 1), (2, 2), (2, 3), (2, 4), (3, 0), (3, 1), (3, 2), (3, 3), (3, 4), (3, 5), (4, 0), (4, 1), (4, 2), (4, 3), (4, 4)] pl0 pl1 ∧ (E = "java/lang/IllegalArgumentException"))) := by
  refine jj_start hl (by decide) jw_847 (jj_le rfl) ?_
  intro p e s m args below meth c A hargs hA C hex hmn
  have hfr := tt_fr.refl (K := Kd) (WS := [(1, 0), (1, 1), (1, 2), (1, 3), (1, 4), (1, 5), (1, 6), (1, 7), (1, 8), (1, 9), (2, 0), (2, 1), (2, 2), (2, 3), (2, 4), (3, 0), (3, 1), (3, 2), (3, 3), (3, 4), (3, 5), (4, 0), (4, 1), (4, 2), (4, 3), (4, 4)]) pl0
  have lp1 := tt_lo p1
  have up1 := tt_hi p1
  refine jj_iload_n C dX10_feesIf_0 rfl ?_
  refine jj_sipush (v := (-9000)) C dX10_feesIf_1 (by decide) ?_
  refine jj_icmp_lt (tgt := 14) C dX10_feesIf_4 (by decide) (fun c_1 => ?_) (fun c_1 => ?_)
  · have z_c_1 := jc_lt (a := (p1).toInt) (b := (-9000)) c_1 rfl (by decide)
    exact jj_throwW (k := 48) (text := "no such rate") C jt_RX10_75 jw_1 (by decide +kernel) dX10_feesIf_14 dX10_feesIf_17 dX10_feesIf_18 dX10_feesIf_21 dX10_feesIf_24 hex (jj_le rfl) (jj_le rfl) (jj_le rfl) (jj_le rfl) ⟨[], pl0, rfl, rfl, hok, hfr, rfl⟩ (jj_le rfl) (jj_le rfl)
  · have z_c_1 := jc_nlt (a := (p1).toInt) (b := (-9000)) c_1 rfl (by decide)
    refine jj_iload_n C dX10_feesIf_7 rfl ?_
    refine jj_sipush (v := 9999) C dX10_feesIf_8 (by decide) ?_
    refine jj_icmp_le (tgt := 25) C dX10_feesIf_11 (by decide) (fun c_2 => ?_) (fun c_2 => ?_)
    · have z_c_2 := jc_le (a := (p1).toInt) (b := (9999)) c_2 rfl (by decide)
      refine jj_aload_n C dX10_feesIf_25 rfl ?_
      refine tt_get C hok jk_11 4 (by decide) jw_189 (t := (2, 1, 0)) hk0 (by decide) rfl rfl dX10_feesIf_26 (fun v_3 hv_3 hf_4 => ?_)
      obtain ⟨a_5, rfl, ka_5⟩ := tt_vr hv_3
      refine jj_aload_n C dX10_feesIf_29 rfl ?_
      refine tt_get C hok jk_11 3 (by decide) jw_2 (t := (2, 1, 0)) hk0 (by decide) rfl rfl dX10_feesIf_30 (fun v_6 hv_6 hf_7 => ?_)
      obtain ⟨a_8, rfl, ka_8⟩ := tt_vr hv_6
      obtain ⟨qc, gs, hqc⟩ := tt_recv (cx := []) hok ka_5 (by decide) rfl
      refine tt_callV (rest := []) C (tc_X0_copyFrom_1 hl D cA ak a_5 a_8 ka_5 ka_8 hok) [] [] rfl rfl (by decide) (by decide) (by decide) qc hqc rfl rfl jw_190 jw_228 jw_229 jw_133 jw_191 jn_X0_copyFrom rfl (jj_le rfl) (jj_le rfl) (jj_le rfl) (jj_le rfl) (jj_le rfl) dX10_feesIf_33 rfl (fun _ _ _ hX => hX.elim) (fun rx pl_9 r O_12 => ?_)
      obtain ⟨rfl, hok_10, hr_11, hR_14⟩ := O_12
      replace hf_4 := hr_11.at hk0 (by decide) (by decide) hf_4
      replace hf_7 := hr_11.at hk0 (by decide) (by decide) hf_7
      replace hfr := hfr.trans (hr_11.sub (by decide))
      obtain rfl := hR_14
      refine jj_aload_n C dX10_feesIf_36 rfl ?_
      refine tt_getF C hok_10 jk_11 4 (by decide) jw_189 (t := (2, 1, 0)) hk0 (by decide) rfl rfl hf_4 dX10_feesIf_37 ?_
      refine jj_iload_n C dX10_feesIf_40 rfl ?_
      refine tt_callS (rest := []) C (tc_X2_earnRate_1 hl D cA ak a_5 p1 ka_5 hok_10) [] [] rfl rfl (by decide) (by decide) (by decide) jw_389 jw_391 jw_175 jw_390 jn_X2_earnRate rfl (jj_le rfl) (jj_le rfl) (jj_le rfl) (jj_le rfl) (jj_le rfl) dX10_feesIf_41 rfl (fun _ _ _ hX => hX.elim) (fun rx pl_15 r O_18 => ?_)
      obtain ⟨rfl, hok_16, hr_17, hR_20⟩ := O_18
      replace hf_4 := hr_17.at hk0 (by decide) (by decide) hf_4
      replace hf_7 := hr_17.at hk0 (by decide) (by decide) hf_7
      replace hfr := hfr.trans (hr_17.sub (by decide))
      obtain ⟨y_21, rfl⟩ := hR_20
      refine jj_pop2 C dX10_feesIf_44 rfl ?_
      refine jj_lconst (v := 0) C dX10_feesIf_45 (by decide) ?_
      refine jj_lstore_n C dX10_feesIf_46 (by decide) rfl ?_
      refine jj_iconst (v := 0) C dX10_feesIf_47 (by decide) ?_
      refine jj_istore C dX10_feesIf_48 (by decide) rfl ?_
      have hL_22 : ∀ (N : Nat) (pl : va_W) (x_23 : Int32) (y_24 : Int64), True → tt_ok tt_tk cA Kd pl → tt_fr Kd [(1, 0), (1, 1), (1, 2), (1, 3), (1, 4), (1, 5), (1, 6), (1, 7), (1, 8), (1, 9), (2, 0), (2, 1), (2, 2), (2, 3), (2, 4), (3, 0), (3, 1), (3, 2), (3, 3), (3, 4), (3, 5), (4, 0), (4, 1), (4, 2), (4, 3), (4, 4)] pl0 pl → tt_at pl h0 4 (.ref a_5) → tt_at pl h0 3 (.ref a_8) → (0 : Int) ≤ x_23.toInt → x_23.toInt ≤ 6 → (2147483648 - x_23.toInt ≤ (N : Int)) → jj_J p l e (jj_rm 6 82 1 6) s m args below meth c 5 A (vx_MQ below (jj_q D A (tt_O (fun rx pl1 r => rx = [] ∧ tt_ok tt_tk cA Kd pl1 ∧ tt_fr Kd [(1, 0), (1, 1), (1, 2), (1, 3), (1, 4), (1, 5), (1, 6), (1, 7), (1, 8), (1, 9), (2, 0), (2, 1), (2, 2), (2, 3), (2, 4), (3, 0), (3, 1), (3, 2), (3, 3), (3, 4), (3, 5), (4, 0), (4, 1), (4, 2), (4, 3), (4, 4)] pl0 pl1 ∧ ((∃ v : Int64, (-9000 : Int) ≤ p1.toInt ∧ p1.toInt ≤ 9999 ∧ r = some (.long v)))))) (jj_x D A (tt_OX (fun E rx pl1 => rx = [] ∧ tt_ok tt_tk cA Kd pl1 ∧ tt_fr Kd [(1, 0), (1, 1), (1, 2), (1, 3), (1, 4), (1, 5), (1, 6), (1, 7), (1, 8), (1, 9), (2, 0), (2, 1), (2, 2), (2, 3), (2, 4), (3, 0), (3, 1), (3, 2), (3, 3), (3, 4), (3, 5), (4, 0), (4, 1), (4, 2), (4, 3), (4, 4)] pl0 pl1 ∧ (E = "java/lang/IllegalArgumentException")))) args s 1 6 A) (jj_X D A ([] ++ pl)) 0 0 50 [(4, .int x_23), (2, .long y_24), (0, .ref h0), (1, .int p1)] [] := by
        intro NL_22
        induction NL_22 with
        | zero => intro pl x_23 y_24 _ hok hfr hf_25 hf_26 lx_23 ux_23 hNL_22; exfalso; omega
        | succ NL_22 ihL_22 =>
          intro pl x_23 y_24 _ hok hfr hf_25 hf_26 lx_23 ux_23 hNL_22
          replace ihL_22 := fun pl x_23 y_24 h1 => ihL_22 pl x_23 y_24 trivial h1
          refine jj_iload C dX10_feesIf_50 rfl ?_
          refine jj_aload_n C dX10_feesIf_52 rfl ?_
          refine tt_getF C hok jk_11 4 (by decide) jw_189 (t := (2, 1, 0)) hk0 (by decide) rfl rfl hf_25 dX10_feesIf_53 ?_
          refine tt_get C hok jk_2 7 (by decide) jw_311 (t := (0, 0, 6)) ka_5 (by decide) rfl rfl dX10_feesIf_56 (fun v_27 hv_27 hf_28 => ?_)
          obtain ⟨x_29, rfl, lx_29, ux_29⟩ := tt_vi hv_27
          refine jj_icmp_ge (tgt := 91) C dX10_feesIf_59 (by decide) (fun c_30 => ?_) (fun c_30 => ?_)
          · have z_c_30 := jc_le (a := (x_29).toInt) (b := (x_23).toInt) c_30 rfl rfl
            refine jj_lload_n C dX10_feesIf_91 rfl ?_
            exact jj_lret C ⟨[], pl, rfl, rfl, hok, hfr, ⟨y_24, (by first | omega | exact tt_lo _ | exact tt_hi _), (by first | omega | exact tt_lo _ | exact tt_hi _), rfl⟩⟩ dX10_feesIf_92 (jj_le rfl) (jj_le rfl)
          · have z_c_30 := jc_nle (a := (x_29).toInt) (b := (x_23).toInt) c_30 rfl rfl
            refine jj_lload_n C dX10_feesIf_62 rfl ?_
            refine jj_aload_n C dX10_feesIf_63 rfl ?_
            refine tt_getF C hok jk_11 4 (by decide) jw_189 (t := (2, 1, 0)) hk0 (by decide) rfl rfl hf_25 dX10_feesIf_64 ?_
            refine tt_get C hok jk_2 11 (by decide) jw_286 (t := (2, 6, 0)) ka_5 (by decide) rfl rfl dX10_feesIf_67 (fun v_31 hv_31 hf_32 => ?_)
            obtain ⟨a_33, rfl, ka_33⟩ := tt_vr hv_31
            refine jj_iload C dX10_feesIf_70 rfl ?_
            refine tt_aald C hok (t := (2, 2, 0)) ka_33 (by decide) rfl rfl rfl (vp_in_iff.mpr ⟨by omega, by omega⟩) dX10_feesIf_72 (fun v_34 hv_34 => ?_)
            obtain ⟨a_35, rfl, ka_35⟩ := tt_vr hv_34
            refine jj_aload_n C dX10_feesIf_73 rfl ?_
            refine tt_getF C hok jk_11 4 (by decide) jw_189 (t := (2, 1, 0)) hk0 (by decide) rfl rfl hf_25 dX10_feesIf_74 ?_
            refine tt_get C hok jk_2 3 (by decide) jw_309 (t := (0, (-2147483648), 2147483647)) ka_5 (by decide) rfl rfl dX10_feesIf_77 (fun v_36 hv_36 hf_37 => ?_)
            obtain ⟨x_38, rfl, lx_38, ux_38⟩ := tt_vi hv_36
            obtain ⟨qc, gs, hqc⟩ := tt_recv (cx := []) hok ka_35 (by decide) rfl
            refine tt_callV (rest := [.long y_24]) C (tc_X8_accruedFee_1 hl D cA ak a_35 x_38 ka_35 hok) [] [] rfl rfl (by decide) (by decide) (by decide) qc hqc rfl rfl jw_393 jw_154 jw_155 jw_92 jw_151 jn_X8_accruedFee rfl (jj_le rfl) (jj_le rfl) (jj_le rfl) (jj_le rfl) (jj_le rfl) dX10_feesIf_80 rfl (fun _ _ _ hX => hX.elim) (fun rx pl_39 r O_42 => ?_)
            obtain ⟨rfl, hok_40, hr_41, hR_44⟩ := O_42
            replace hf_25 := hr_41.at hk0 (by decide) (by decide) hf_25
            replace hf_26 := hr_41.at hk0 (by decide) (by decide) hf_26
            replace hf_28 := hr_41.at ka_5 (by decide) (by decide) hf_28
            replace hf_32 := hr_41.at ka_5 (by decide) (by decide) hf_32
            replace hf_37 := hr_41.at ka_5 (by decide) (by decide) hf_37
            replace hfr := hfr.trans (hr_41.sub (by decide))
            rcases hR_44 with rfl | ⟨y_45, rfl⟩
            · obtain ⟨y_46, ey_46⟩ : ∃ z : Int64, y_24 + (0 : Int64) = z := ⟨_, rfl⟩
              refine jj_ladd (v := y_46) C dX10_feesIf_83 ey_46 ?_
              refine jj_lstore_n C dX10_feesIf_84 (by decide) rfl ?_
              obtain ⟨x_47, ex_47, vx_47⟩ := tt_inc (x := x_23) (n := 1) (by omega) (by omega)
              refine jj_iinc (v := x_47) C dX10_feesIf_85 rfl ex_47 (by decide) rfl ?_
              refine jj_goto (tgt := 50) C dX10_feesIf_88 (by decide) ?_
              exact ihL_22 pl_39 x_47 y_46 hok_40 hfr hf_25 hf_26 (by first | omega | decide | exact tt_lo _ | exact tt_hi _) (by first | omega | decide | exact tt_lo _ | exact tt_hi _) (by first | omega | decide | exact tt_lo _ | exact tt_hi _)
            · obtain ⟨y_48, ey_48⟩ : ∃ z : Int64, y_24 + y_45 = z := ⟨_, rfl⟩
              refine jj_ladd (v := y_48) C dX10_feesIf_83 ey_48 ?_
              refine jj_lstore_n C dX10_feesIf_84 (by decide) rfl ?_
              obtain ⟨x_49, ex_49, vx_49⟩ := tt_inc (x := x_23) (n := 1) (by omega) (by omega)
              refine jj_iinc (v := x_49) C dX10_feesIf_85 rfl ex_49 (by decide) rfl ?_
              refine jj_goto (tgt := 50) C dX10_feesIf_88 (by decide) ?_
              exact ihL_22 pl_39 x_49 y_48 hok_40 hfr hf_25 hf_26 (by first | omega | decide | exact tt_lo _ | exact tt_hi _) (by first | omega | decide | exact tt_lo _ | exact tt_hi _) (by first | omega | decide | exact tt_lo _ | exact tt_hi _)
      exact hL_22 _ pl_15 (0 : Int32) (0 : Int64) trivial hok_16 hfr hf_4 hf_7 (by first | omega | decide | exact tt_lo _ | exact tt_hi _) (by first | omega | decide | exact tt_lo _ | exact tt_hi _) (Int.self_le_toNat _)
    · have z_c_2 := jc_nle (a := (p1).toInt) (b := (9999)) c_2 rfl (by decide)
      exact jj_throwW (k := 48) (text := "no such rate") C jt_RX10_75 jw_1 (by decide +kernel) dX10_feesIf_14 dX10_feesIf_17 dX10_feesIf_18 dX10_feesIf_21 dX10_feesIf_24 hex (jj_le rfl) (jj_le rfl) (jj_le rfl) (jj_le rfl) ⟨[], pl0, rfl, rfl, hok, hfr, rfl⟩ (jj_le rfl) (jj_le rfl)

set_option maxHeartbeats 4000000 in
set_option maxRecDepth 100000 in
theorem tc_X0_hasInvestor_1 {l : Launch} (hl : l.stackTraces = false) (D : va_G) (cA : Nat → ClassId) (ak : (Nat → Nat) × (Nat → Nat)) {Kd : Nat → Nat} (h0 : Nat) (p1 : Int32) (hk0 : Kd h0 = 1) {pl0 : va_W} (hok : tt_ok tt_tk cA Kd pl0) : jj_M l D cA ak yX0_hasInvestor (.code yX0_hasInvestor cX0_hasInvestor 2 (some .boolean)) 0 0 0 0 ([] ++ pl0) [.ref h0, .int p1] (tt_O (fun rx pl1 r => rx = [] ∧ tt_ok tt_tk cA Kd pl1 ∧ tt_fr Kd [] pl0 pl1 ∧ ((r = some (.int 0)) ∨ ((0 : Int) ≤ p1.toInt ∧ p1.toInt ≤ 2147483646 ∧ r = some (.int 1))))) (tt_OX (fun _ _ _ => False)) := by
  refine jj_start hl (by decide) jw_397 (jj_le rfl) ?_
  intro p e s m args below meth c A hargs hA C hex hmn
  have hfr := tt_fr.refl (K := Kd) (WS := []) pl0
  have lp1 := tt_lo p1
  have up1 := tt_hi p1
  refine jj_iload_n C dX0_hasInvestor_0 rfl ?_
  refine jj_if_lt (tgt := 16) C dX0_hasInvestor_1 (by decide) (fun c_1 => ?_) (fun c_1 => ?_)
  · have z_c_1 := jc_lt (a := (p1).toInt) (b := (0)) c_1 rfl (by decide)
    refine jj_iconst (v := 0) C dX0_hasInvestor_16 (by decide) ?_
    exact jj_zret C rfl ⟨[], pl0, rfl, rfl, hok, hfr, (Or.inl rfl)⟩ dX0_hasInvestor_17 (jj_le rfl) (jj_le rfl)
  · have z_c_1 := jc_nlt (a := (p1).toInt) (b := (0)) c_1 rfl (by decide)
    refine jj_iload_n C dX0_hasInvestor_4 rfl ?_
    refine jj_aload_n C dX0_hasInvestor_5 rfl ?_
    refine tt_get C hok jk_2 0 (by decide) jw_192 (t := (0, (-2147483648), 2147483647)) hk0 (by decide) rfl rfl dX0_hasInvestor_6 (fun v_2 hv_2 hf_3 => ?_)
    obtain ⟨x_4, rfl, lx_4, ux_4⟩ := tt_vi hv_2
    refine jj_icmp_ge (tgt := 16) C dX0_hasInvestor_9 (by decide) (fun c_5 => ?_) (fun c_5 => ?_)
    · have z_c_5 := jc_le (a := (x_4).toInt) (b := (p1).toInt) c_5 rfl rfl
      refine jj_iconst (v := 0) C dX0_hasInvestor_16 (by decide) ?_
      exact jj_zret C rfl ⟨[], pl0, rfl, rfl, hok, hfr, (Or.inl rfl)⟩ dX0_hasInvestor_17 (jj_le rfl) (jj_le rfl)
    · have z_c_5 := jc_nle (a := (x_4).toInt) (b := (p1).toInt) c_5 rfl rfl
      refine jj_iconst (v := 1) C dX0_hasInvestor_12 (by decide) ?_
      refine jj_goto (tgt := 17) C dX0_hasInvestor_13 (by decide) ?_
      exact jj_zret C rfl ⟨[], pl0, rfl, rfl, hok, hfr, (Or.inr ⟨(by first | omega | exact tt_lo _ | exact tt_hi _), (by first | omega | exact tt_lo _ | exact tt_hi _), rfl⟩)⟩ dX0_hasInvestor_17 (jj_le rfl) (jj_le rfl)

