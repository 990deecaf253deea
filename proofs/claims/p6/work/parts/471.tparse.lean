
set_option maxHeartbeats 4000000 in
set_option maxRecDepth 100000 in
theorem te_isWord_fund {l : Launch} (hl : l.stackTraces = false) (D : va_G) (cA : Nat → ClassId) (ak : (Nat → Nat) × (Nat → Nat)) {Kd : Nat → Nat} (h0 a9 : Nat) (n2 n3 n4 : Nat) (kd : Int32) (u : Nat → Int32) (c : Nat → Int) (hk0 : Kd h0 = 10) (hk9 : Kd a9 = 11) (l2 : n2 ≤ 400) (h43 : n4 ≤ n3) (h32 : n3 ≤ n2) (hc : ∀ k : Nat, k < n2 → c k = (u k).toInt) (hkd : kd = 1 ↔ (n4 < n2 ∧ ps_le (c n4))) {pl0 : va_W} (hok : tt_ok tt_tk cA Kd pl0) (hs0 : tt_at pl0 h0 0 (.ref a9)) (hs3 : tt_at pl0 h0 3 (.int (nI n3))) (hs4 : tt_at pl0 h0 4 (.int (nI n4))) (hs5 : tt_at pl0 h0 5 (.int kd)) (hu : tt_ic pl0 a9 u) : jj_M l D cA ak yX9_isWord (.code yX9_isWord cX9_isWord 3 (some .boolean)) 4 85 0 0 ([] ++ pl0) [.ref h0, .ref (ak.1 0)] (tt_O (fun rx pl1 r => rx = [] ∧ tt_ok tt_tk cA Kd pl1 ∧ tt_fr Kd [] pl0 pl1 ∧ tt_fa Kd [] pl0 pl1 ∧ ((¬ ps_isw c n4 n3 ps_fund ∧ r = some (.int 0)) ∨ (ps_isw c n4 n3 ps_fund ∧ r = some (.int 1))))) (tt_OX (fun _ _ _ => False)) := by
  refine jj_start hl (by decide) jw_ce1c1f12e9 (jj_le rfl) ?_
  intro p e s m args below meth c9 A hargs hA C hex hmn
  have hfr := tt_fr.refl (K := Kd) (WS := []) pl0
  have hfa := tt_fa.refl (K := Kd) (WA := []) pl0
  refine jj_aload_n C dX9_isWord_0 rfl ?_
  refine tt_getF C hok jk_10 5 (by decide) jw_bde5c0d1a5 (t := (0, (-2147483648), 2147483647)) hk0 (by decide) rfl rfl hs5 dX9_isWord_1 ?_
  refine jj_iconst (v := 1) C dX9_isWord_4 (by decide) ?_
  refine jj_icmp_ne (tgt := 24) C dX9_isWord_5 (by decide) (fun c_1 => ?_) (fun c_1 => ?_)
  · have z_c_1 := jc_neq (a := kd.toInt) (b := 1) c_1 rfl (by decide)
    refine jj_iconst (v := 0) C dX9_isWord_24 (by decide) ?_
    exact jj_zret C rfl ⟨[], pl0, rfl, rfl, hok, hfr, hfa, (Or.inl ⟨fun q => by first | exact absurd (hkd.mpr (q.one (by decide) (by unfold ps_le; decide) h32)) c_1 | (have q1 : n3 = n4 + 4 := q.1; omega) | (have q1 : n3 = n4 + 4 := q.1; have q2 : c n4 = 102 := q.2 0 (by decide); have q9 := hc n4 (by omega); omega) | (have q1 : n3 = n4 + 4 := q.1; have q2 : c (n4 + 1) = 117 := q.2 1 (by decide); rw [Nat.add_comm n4 1] at q2; have q9 := hc (1 + n4) (by omega); omega) | (have q1 : n3 = n4 + 4 := q.1; have q2 : c (n4 + 2) = 110 := q.2 2 (by decide); rw [Nat.add_comm n4 2] at q2; have q9 := hc (2 + n4) (by omega); omega) | (have q1 : n3 = n4 + 4 := q.1; have q2 : c (n4 + 3) = 100 := q.2 3 (by decide); rw [Nat.add_comm n4 3] at q2; have q9 := hc (3 + n4) (by omega); omega), rfl⟩)⟩ dX9_isWord_25 (jj_le rfl) (jj_le rfl)
  · have z_c_1 := jc_eq (a := kd.toInt) (b := 1) c_1 rfl (by decide)
    refine jj_aload_n C dX9_isWord_8 rfl ?_
    refine tt_getF C hok jk_10 3 (by decide) jw_f99bd0ca2b (t := (0, 0, 400)) hk0 (by decide) rfl rfl hs3 dX9_isWord_9 ?_
    refine jj_aload_n C dX9_isWord_12 rfl ?_
    refine tt_getF C hok jk_10 4 (by decide) jw_66bda6962a (t := (0, 0, 400)) hk0 (by decide) rfl rfl hs4 dX9_isWord_13 ?_
    obtain ⟨x_2, ex_2, vx_2⟩ := tt_isub (x := (nI n3)) (y := (nI n4)) (a := ((n3 : Nat) : Int)) (rl_ti (by omega)) (b := ((n4 : Nat) : Int)) (rl_ti (by omega)) (by omega) (by omega)
    refine jj_isub (v := x_2) C dX9_isWord_16 ex_2 ?_
    refine jj_aload_n C dX9_isWord_17 rfl ?_
    refine tt_call0Vs (rest := [.int x_2]) C (ct_J0_length_8abf5_1 hl D cA ak) 0 (by decide) rfl jw_f27063fded jw_b1ce304435 jw_d08f03a22e jw_4ea6285965 jw_bbc7045666 jn_J0_length_8abf5 rfl (jj_le rfl) (jj_le rfl) (jj_le rfl) (jj_le rfl) (jj_le rfl) dX9_isWord_18 rfl (fun w1 r O_3 => ?_)
    obtain ⟨-, rfl⟩ := O_3
    refine jj_icmp_eq (tgt := 26) C dX9_isWord_21 (by decide) (fun c_4 => ?_) (fun c_4 => ?_)
    · have z_c_4 := jc_eq (a := x_2.toInt) (b := 4) c_4 rfl (by decide)
      refine jj_iconst (v := 0) C dX9_isWord_26 (by decide) ?_
      refine jj_istore_n C dX9_isWord_27 (by decide) rfl ?_
      refine jj_iload_n C dX9_isWord_28 rfl ?_
      refine jj_aload_n C dX9_isWord_29 rfl ?_
      refine tt_call0Vs (rest := [.int 0]) C (ct_J0_length_8abf5_1 hl D cA ak) 0 (by decide) rfl jw_f27063fded jw_b1ce304435 jw_d08f03a22e jw_4ea6285965 jw_bbc7045666 jn_J0_length_8abf5 rfl (jj_le rfl) (jj_le rfl) (jj_le rfl) (jj_le rfl) (jj_le rfl) dX9_isWord_30 rfl (fun w1 r O_5 => ?_)
      obtain ⟨-, rfl⟩ := O_5
      refine jj_icmp_geF (tgt := 63) C dX9_isWord_33 (by decide) (by decide) ?_
      refine jj_aload_n C dX9_isWord_36 rfl ?_
      refine tt_getF C hok jk_10 0 (by decide) jw_0664e1e086 (t := (2, 11, 0)) hk0 (by decide) rfl rfl hs0 dX9_isWord_37 ?_
      refine jj_aload_n C dX9_isWord_40 rfl ?_
      refine tt_getF C hok jk_10 4 (by decide) jw_66bda6962a (t := (0, 0, 400)) hk0 (by decide) rfl rfl hs4 dX9_isWord_41 ?_
      refine jj_iload_n C dX9_isWord_44 rfl ?_
      refine jj_iadd (v := nI n4) C dX9_isWord_45 (rl_addR (kn := 0) (by decide) (by omega)) ?_
      refine tl_caldF C hok (t := (0, (-2147483648), 2147483647)) hk9 (by decide) rfl (k := n4) (vp_in_nI (by omega) (by decide)) hu (nI_clamp (by omega)) rfl dX9_isWord_46 ?_
      refine jj_aload_n C dX9_isWord_47 rfl ?_
      refine jj_iload_n C dX9_isWord_48 rfl ?_
      refine tt_call0Vs (rest := [.int (u n4)]) C (ct_J0_charAt_5068e_1 hl D cA ak) 0 (by decide) rfl jw_076e8de8e0 jw_acb9174fef jw_675efe837b jw_4ea6285965 jw_391c0f56bd jn_J0_charAt_5068e rfl (jj_le rfl) (jj_le rfl) (jj_le rfl) (jj_le rfl) (jj_le rfl) dX9_isWord_49 rfl (fun w1 r O_6 => ?_)
      obtain ⟨-, rfl⟩ := O_6
      refine jj_icmp_eq (tgt := 57) C dX9_isWord_52 (by decide) (fun c_7 => ?_) (fun c_7 => ?_)
      · have z_c_7 := jc_eq (a := (u n4).toInt) (b := 102) c_7 rfl (by decide)
        refine jj_iinc (v := 1) C dX9_isWord_57 rfl (by decide) (by decide) rfl ?_
        refine jj_goto (tgt := 28) C dX9_isWord_60 (by decide) ?_
        refine jj_iload_n C dX9_isWord_28 rfl ?_
        refine jj_aload_n C dX9_isWord_29 rfl ?_
        refine tt_call0Vs (rest := [.int 1]) C (ct_J0_length_8abf5_1 hl D cA ak) 0 (by decide) rfl jw_f27063fded jw_b1ce304435 jw_d08f03a22e jw_4ea6285965 jw_bbc7045666 jn_J0_length_8abf5 rfl (jj_le rfl) (jj_le rfl) (jj_le rfl) (jj_le rfl) (jj_le rfl) dX9_isWord_30 rfl (fun w1 r O_8 => ?_)
        obtain ⟨-, rfl⟩ := O_8
        refine jj_icmp_geF (tgt := 63) C dX9_isWord_33 (by decide) (by decide) ?_
        refine jj_aload_n C dX9_isWord_36 rfl ?_
        refine tt_getF C hok jk_10 0 (by decide) jw_0664e1e086 (t := (2, 11, 0)) hk0 (by decide) rfl rfl hs0 dX9_isWord_37 ?_
        refine jj_aload_n C dX9_isWord_40 rfl ?_
        refine tt_getF C hok jk_10 4 (by decide) jw_66bda6962a (t := (0, 0, 400)) hk0 (by decide) rfl rfl hs4 dX9_isWord_41 ?_
        refine jj_iload_n C dX9_isWord_44 rfl ?_
        refine jj_iadd (v := nI (1 + n4)) C dX9_isWord_45 (rl_addR (kn := 1) (by decide) (by omega)) ?_
        refine tl_caldF C hok (t := (0, (-2147483648), 2147483647)) hk9 (by decide) rfl (k := 1 + n4) (vp_in_nI (by omega) (by decide)) hu (nI_clamp (by omega)) rfl dX9_isWord_46 ?_
        refine jj_aload_n C dX9_isWord_47 rfl ?_
        refine jj_iload_n C dX9_isWord_48 rfl ?_
        refine tt_call0Vs (rest := [.int (u (1 + n4))]) C (ct_J0_charAt_5068e_2 hl D cA ak) 0 (by decide) rfl jw_076e8de8e0 jw_acb9174fef jw_675efe837b jw_4ea6285965 jw_391c0f56bd jn_J0_charAt_5068e rfl (jj_le rfl) (jj_le rfl) (jj_le rfl) (jj_le rfl) (jj_le rfl) dX9_isWord_49 rfl (fun w1 r O_9 => ?_)
        obtain ⟨-, rfl⟩ := O_9
        refine jj_icmp_eq (tgt := 57) C dX9_isWord_52 (by decide) (fun c_10 => ?_) (fun c_10 => ?_)
        · have z_c_10 := jc_eq (a := (u (1 + n4)).toInt) (b := 117) c_10 rfl (by decide)
          refine jj_iinc (v := 2) C dX9_isWord_57 rfl (by decide) (by decide) rfl ?_
          refine jj_goto (tgt := 28) C dX9_isWord_60 (by decide) ?_
          refine jj_iload_n C dX9_isWord_28 rfl ?_
          refine jj_aload_n C dX9_isWord_29 rfl ?_
          refine tt_call0Vs (rest := [.int 2]) C (ct_J0_length_8abf5_1 hl D cA ak) 0 (by decide) rfl jw_f27063fded jw_b1ce304435 jw_d08f03a22e jw_4ea6285965 jw_bbc7045666 jn_J0_length_8abf5 rfl (jj_le rfl) (jj_le rfl) (jj_le rfl) (jj_le rfl) (jj_le rfl) dX9_isWord_30 rfl (fun w1 r O_11 => ?_)
          obtain ⟨-, rfl⟩ := O_11
          refine jj_icmp_geF (tgt := 63) C dX9_isWord_33 (by decide) (by decide) ?_
          refine jj_aload_n C dX9_isWord_36 rfl ?_
          refine tt_getF C hok jk_10 0 (by decide) jw_0664e1e086 (t := (2, 11, 0)) hk0 (by decide) rfl rfl hs0 dX9_isWord_37 ?_
          refine jj_aload_n C dX9_isWord_40 rfl ?_
          refine tt_getF C hok jk_10 4 (by decide) jw_66bda6962a (t := (0, 0, 400)) hk0 (by decide) rfl rfl hs4 dX9_isWord_41 ?_
          refine jj_iload_n C dX9_isWord_44 rfl ?_
          refine jj_iadd (v := nI (2 + n4)) C dX9_isWord_45 (rl_addR (kn := 2) (by decide) (by omega)) ?_
          refine tl_caldF C hok (t := (0, (-2147483648), 2147483647)) hk9 (by decide) rfl (k := 2 + n4) (vp_in_nI (by omega) (by decide)) hu (nI_clamp (by omega)) rfl dX9_isWord_46 ?_
          refine jj_aload_n C dX9_isWord_47 rfl ?_
          refine jj_iload_n C dX9_isWord_48 rfl ?_
          refine tt_call0Vs (rest := [.int (u (2 + n4))]) C (ct_J0_charAt_5068e_3 hl D cA ak) 0 (by decide) rfl jw_076e8de8e0 jw_acb9174fef jw_675efe837b jw_4ea6285965 jw_391c0f56bd jn_J0_charAt_5068e rfl (jj_le rfl) (jj_le rfl) (jj_le rfl) (jj_le rfl) (jj_le rfl) dX9_isWord_49 rfl (fun w1 r O_12 => ?_)
          obtain ⟨-, rfl⟩ := O_12
          refine jj_icmp_eq (tgt := 57) C dX9_isWord_52 (by decide) (fun c_13 => ?_) (fun c_13 => ?_)
          · have z_c_13 := jc_eq (a := (u (2 + n4)).toInt) (b := 110) c_13 rfl (by decide)
            refine jj_iinc (v := 3) C dX9_isWord_57 rfl (by decide) (by decide) rfl ?_
            refine jj_goto (tgt := 28) C dX9_isWord_60 (by decide) ?_
            refine jj_iload_n C dX9_isWord_28 rfl ?_
            refine jj_aload_n C dX9_isWord_29 rfl ?_
            refine tt_call0Vs (rest := [.int 3]) C (ct_J0_length_8abf5_1 hl D cA ak) 0 (by decide) rfl jw_f27063fded jw_b1ce304435 jw_d08f03a22e jw_4ea6285965 jw_bbc7045666 jn_J0_length_8abf5 rfl (jj_le rfl) (jj_le rfl) (jj_le rfl) (jj_le rfl) (jj_le rfl) dX9_isWord_30 rfl (fun w1 r O_14 => ?_)
            obtain ⟨-, rfl⟩ := O_14
            refine jj_icmp_geF (tgt := 63) C dX9_isWord_33 (by decide) (by decide) ?_
            refine jj_aload_n C dX9_isWord_36 rfl ?_
            refine tt_getF C hok jk_10 0 (by decide) jw_0664e1e086 (t := (2, 11, 0)) hk0 (by decide) rfl rfl hs0 dX9_isWord_37 ?_
            refine jj_aload_n C dX9_isWord_40 rfl ?_
            refine tt_getF C hok jk_10 4 (by decide) jw_66bda6962a (t := (0, 0, 400)) hk0 (by decide) rfl rfl hs4 dX9_isWord_41 ?_
            refine jj_iload_n C dX9_isWord_44 rfl ?_
            refine jj_iadd (v := nI (3 + n4)) C dX9_isWord_45 (rl_addR (kn := 3) (by decide) (by omega)) ?_
            refine tl_caldF C hok (t := (0, (-2147483648), 2147483647)) hk9 (by decide) rfl (k := 3 + n4) (vp_in_nI (by omega) (by decide)) hu (nI_clamp (by omega)) rfl dX9_isWord_46 ?_
            refine jj_aload_n C dX9_isWord_47 rfl ?_
            refine jj_iload_n C dX9_isWord_48 rfl ?_
            refine tt_call0Vs (rest := [.int (u (3 + n4))]) C (ct_J0_charAt_5068e_4 hl D cA ak) 0 (by decide) rfl jw_076e8de8e0 jw_acb9174fef jw_675efe837b jw_4ea6285965 jw_391c0f56bd jn_J0_charAt_5068e rfl (jj_le rfl) (jj_le rfl) (jj_le rfl) (jj_le rfl) (jj_le rfl) dX9_isWord_49 rfl (fun w1 r O_15 => ?_)
            obtain ⟨-, rfl⟩ := O_15
            refine jj_icmp_eq (tgt := 57) C dX9_isWord_52 (by decide) (fun c_16 => ?_) (fun c_16 => ?_)
            · have z_c_16 := jc_eq (a := (u (3 + n4)).toInt) (b := 100) c_16 rfl (by decide)
              refine jj_iinc (v := 4) C dX9_isWord_57 rfl (by decide) (by decide) rfl ?_
              refine jj_goto (tgt := 28) C dX9_isWord_60 (by decide) ?_
              refine jj_iload_n C dX9_isWord_28 rfl ?_
              refine jj_aload_n C dX9_isWord_29 rfl ?_
              refine tt_call0Vs (rest := [.int 4]) C (ct_J0_length_8abf5_1 hl D cA ak) 0 (by decide) rfl jw_f27063fded jw_b1ce304435 jw_d08f03a22e jw_4ea6285965 jw_bbc7045666 jn_J0_length_8abf5 rfl (jj_le rfl) (jj_le rfl) (jj_le rfl) (jj_le rfl) (jj_le rfl) dX9_isWord_30 rfl (fun w1 r O_17 => ?_)
              obtain ⟨-, rfl⟩ := O_17
              refine jj_icmp_geT (tgt := 63) C dX9_isWord_33 (by decide) (by decide) ?_
              refine jj_iconst (v := 1) C dX9_isWord_63 (by decide) ?_
              exact jj_zret C rfl ⟨[], pl0, rfl, rfl, hok, hfr, hfa, (Or.inr ⟨ps_alls.isw ⟨(show c n4 = 102 from by have q9 := hc n4 (by omega); omega), (show c (n4 + 1) = 117 from by rw [Nat.add_comm n4 1]; have q9 := hc (1 + n4) (by omega); omega), (show c (n4 + 2) = 110 from by rw [Nat.add_comm n4 2]; have q9 := hc (2 + n4) (by omega); omega), (show c (n4 + 3) = 100 from by rw [Nat.add_comm n4 3]; have q9 := hc (3 + n4) (by omega); omega), trivial⟩ (show n3 = n4 + 4 from by omega), rfl⟩)⟩ dX9_isWord_64 (jj_le rfl) (jj_le rfl)
            · have z_c_16 := jc_neq (a := (u (3 + n4)).toInt) (b := 100) c_16 rfl (by decide)
              refine jj_iconst (v := 0) C dX9_isWord_55 (by decide) ?_
              exact jj_zret C rfl ⟨[], pl0, rfl, rfl, hok, hfr, hfa, (Or.inl ⟨fun q => by first | (have q1 : n3 = n4 + 4 := q.1; omega) | (have q1 : n3 = n4 + 4 := q.1; have q2 : c n4 = 102 := q.2 0 (by decide); have q9 := hc n4 (by omega); omega) | (have q1 : n3 = n4 + 4 := q.1; have q2 : c (n4 + 1) = 117 := q.2 1 (by decide); rw [Nat.add_comm n4 1] at q2; have q9 := hc (1 + n4) (by omega); omega) | (have q1 : n3 = n4 + 4 := q.1; have q2 : c (n4 + 2) = 110 := q.2 2 (by decide); rw [Nat.add_comm n4 2] at q2; have q9 := hc (2 + n4) (by omega); omega) | (have q1 : n3 = n4 + 4 := q.1; have q2 : c (n4 + 3) = 100 := q.2 3 (by decide); rw [Nat.add_comm n4 3] at q2; have q9 := hc (3 + n4) (by omega); omega), rfl⟩)⟩ dX9_isWord_56 (jj_le rfl) (jj_le rfl)
          · have z_c_13 := jc_neq (a := (u (2 + n4)).toInt) (b := 110) c_13 rfl (by decide)
            refine jj_iconst (v := 0) C dX9_isWord_55 (by decide) ?_
            exact jj_zret C rfl ⟨[], pl0, rfl, rfl, hok, hfr, hfa, (Or.inl ⟨fun q => by first | (have q1 : n3 = n4 + 4 := q.1; omega) | (have q1 : n3 = n4 + 4 := q.1; have q2 : c n4 = 102 := q.2 0 (by decide); have q9 := hc n4 (by omega); omega) | (have q1 : n3 = n4 + 4 := q.1; have q2 : c (n4 + 1) = 117 := q.2 1 (by decide); rw [Nat.add_comm n4 1] at q2; have q9 := hc (1 + n4) (by omega); omega) | (have q1 : n3 = n4 + 4 := q.1; have q2 : c (n4 + 2) = 110 := q.2 2 (by decide); rw [Nat.add_comm n4 2] at q2; have q9 := hc (2 + n4) (by omega); omega) | (have q1 : n3 = n4 + 4 := q.1; have q2 : c (n4 + 3) = 100 := q.2 3 (by decide); rw [Nat.add_comm n4 3] at q2; have q9 := hc (3 + n4) (by omega); omega), rfl⟩)⟩ dX9_isWord_56 (jj_le rfl) (jj_le rfl)
        · have z_c_10 := jc_neq (a := (u (1 + n4)).toInt) (b := 117) c_10 rfl (by decide)
          refine jj_iconst (v := 0) C dX9_isWord_55 (by decide) ?_
          exact jj_zret C rfl ⟨[], pl0, rfl, rfl, hok, hfr, hfa, (Or.inl ⟨fun q => by first | (have q1 : n3 = n4 + 4 := q.1; omega) | (have q1 : n3 = n4 + 4 := q.1; have q2 : c n4 = 102 := q.2 0 (by decide); have q9 := hc n4 (by omega); omega) | (have q1 : n3 = n4 + 4 := q.1; have q2 : c (n4 + 1) = 117 := q.2 1 (by decide); rw [Nat.add_comm n4 1] at q2; have q9 := hc (1 + n4) (by omega); omega) | (have q1 : n3 = n4 + 4 := q.1; have q2 : c (n4 + 2) = 110 := q.2 2 (by decide); rw [Nat.add_comm n4 2] at q2; have q9 := hc (2 + n4) (by omega); omega) | (have q1 : n3 = n4 + 4 := q.1; have q2 : c (n4 + 3) = 100 := q.2 3 (by decide); rw [Nat.add_comm n4 3] at q2; have q9 := hc (3 + n4) (by omega); omega), rfl⟩)⟩ dX9_isWord_56 (jj_le rfl) (jj_le rfl)
      · have z_c_7 := jc_neq (a := (u n4).toInt) (b := 102) c_7 rfl (by decide)
        refine jj_iconst (v := 0) C dX9_isWord_55 (by decide) ?_
        exact jj_zret C rfl ⟨[], pl0, rfl, rfl, hok, hfr, hfa, (Or.inl ⟨fun q => by first | (have q1 : n3 = n4 + 4 := q.1; omega) | (have q1 : n3 = n4 + 4 := q.1; have q2 : c n4 = 102 := q.2 0 (by decide); have q9 := hc n4 (by omega); omega) | (have q1 : n3 = n4 + 4 := q.1; have q2 : c (n4 + 1) = 117 := q.2 1 (by decide); rw [Nat.add_comm n4 1] at q2; have q9 := hc (1 + n4) (by omega); omega) | (have q1 : n3 = n4 + 4 := q.1; have q2 : c (n4 + 2) = 110 := q.2 2 (by decide); rw [Nat.add_comm n4 2] at q2; have q9 := hc (2 + n4) (by omega); omega) | (have q1 : n3 = n4 + 4 := q.1; have q2 : c (n4 + 3) = 100 := q.2 3 (by decide); rw [Nat.add_comm n4 3] at q2; have q9 := hc (3 + n4) (by omega); omega), rfl⟩)⟩ dX9_isWord_56 (jj_le rfl) (jj_le rfl)
    · have z_c_4 := jc_neq (a := x_2.toInt) (b := 4) c_4 rfl (by decide)
      refine jj_iconst (v := 0) C dX9_isWord_24 (by decide) ?_
      exact jj_zret C rfl ⟨[], pl0, rfl, rfl, hok, hfr, hfa, (Or.inl ⟨fun q => by first | (have q1 : n3 = n4 + 4 := q.1; omega) | (have q1 : n3 = n4 + 4 := q.1; have q2 : c n4 = 102 := q.2 0 (by decide); have q9 := hc n4 (by omega); omega) | (have q1 : n3 = n4 + 4 := q.1; have q2 : c (n4 + 1) = 117 := q.2 1 (by decide); rw [Nat.add_comm n4 1] at q2; have q9 := hc (1 + n4) (by omega); omega) | (have q1 : n3 = n4 + 4 := q.1; have q2 : c (n4 + 2) = 110 := q.2 2 (by decide); rw [Nat.add_comm n4 2] at q2; have q9 := hc (2 + n4) (by omega); omega) | (have q1 : n3 = n4 + 4 := q.1; have q2 : c (n4 + 3) = 100 := q.2 3 (by decide); rw [Nat.add_comm n4 3] at q2; have q9 := hc (3 + n4) (by omega); omega), rfl⟩)⟩ dX9_isWord_25 (jj_le rfl) (jj_le rfl)

set_option maxHeartbeats 4000000 in
set_option maxRecDepth 100000 in
theorem te_isWord_equal {l : Launch} (hl : l.stackTraces = false) (D : va_G) (cA : Nat → ClassId) (ak : (Nat → Nat) × (Nat → Nat)) {Kd : Nat → Nat} (h0 a9 : Nat) (n2 n3 n4 : Nat) (kd : Int32) (u : Nat → Int32) (c : Nat → Int) (hk0 : Kd h0 = 10) (hk9 : Kd a9 = 11) (l2 : n2 ≤ 400) (h43 : n4 ≤ n3) (h32 : n3 ≤ n2) (hc : ∀ k : Nat, k < n2 → c k = (u k).toInt) (hkd : kd = 1 ↔ (n4 < n2 ∧ ps_le (c n4))) {pl0 : va_W} (hok : tt_ok tt_tk cA Kd pl0) (hs0 : tt_at pl0 h0 0 (.ref a9)) (hs3 : tt_at pl0 h0 3 (.int (nI n3))) (hs4 : tt_at pl0 h0 4 (.int (nI n4))) (hs5 : tt_at pl0 h0 5 (.int kd)) (hu : tt_ic pl0 a9 u) : jj_M l D cA ak yX9_isWord (.code yX9_isWord cX9_isWord 3 (some .boolean)) 4 85 0 0 ([] ++ pl0) [.ref h0, .ref (ak.1 1)] (tt_O (fun rx pl1 r => rx = [] ∧ tt_ok tt_tk cA Kd pl1 ∧ tt_fr Kd [] pl0 pl1 ∧ tt_fa Kd [] pl0 pl1 ∧ ((¬ ps_isw c n4 n3 ps_equal ∧ r = some (.int 0)) ∨ (ps_isw c n4 n3 ps_equal ∧ r = some (.int 1))))) (tt_OX (fun _ _ _ => False)) := by
  refine jj_start hl (by decide) jw_ce1c1f12e9 (jj_le rfl) ?_
  intro p e s m args below meth c9 A hargs hA C hex hmn
  have hfr := tt_fr.refl (K := Kd) (WS := []) pl0
  have hfa := tt_fa.refl (K := Kd) (WA := []) pl0
  refine jj_aload_n C dX9_isWord_0 rfl ?_
  refine tt_getF C hok jk_10 5 (by decide) jw_bde5c0d1a5 (t := (0, (-2147483648), 2147483647)) hk0 (by decide) rfl rfl hs5 dX9_isWord_1 ?_
  refine jj_iconst (v := 1) C dX9_isWord_4 (by decide) ?_
  refine jj_icmp_ne (tgt := 24) C dX9_isWord_5 (by decide) (fun c_1 => ?_) (fun c_1 => ?_)
  · have z_c_1 := jc_neq (a := kd.toInt) (b := 1) c_1 rfl (by decide)
    refine jj_iconst (v := 0) C dX9_isWord_24 (by decide) ?_
    exact jj_zret C rfl ⟨[], pl0, rfl, rfl, hok, hfr, hfa, (Or.inl ⟨fun q => by first | exact absurd (hkd.mpr (q.one (by decide) (by unfold ps_le; decide) h32)) c_1 | (have q1 : n3 = n4 + 5 := q.1; omega) | (have q1 : n3 = n4 + 5 := q.1; have q2 : c n4 = 101 := q.2 0 (by decide); have q9 := hc n4 (by omega); omega) | (have q1 : n3 = n4 + 5 := q.1; have q2 : c (n4 + 1) = 113 := q.2 1 (by decide); rw [Nat.add_comm n4 1] at q2; have q9 := hc (1 + n4) (by omega); omega) | (have q1 : n3 = n4 + 5 := q.1; have q2 : c (n4 + 2) = 117 := q.2 2 (by decide); rw [Nat.add_comm n4 2] at q2; have q9 := hc (2 + n4) (by omega); omega) | (have q1 : n3 = n4 + 5 := q.1; have q2 : c (n4 + 3) = 97 := q.2 3 (by decide); rw [Nat.add_comm n4 3] at q2; have q9 := hc (3 + n4) (by omega); omega) | (have q1 : n3 = n4 + 5 := q.1; have q2 : c (n4 + 4) = 108 := q.2 4 (by decide); rw [Nat.add_comm n4 4] at q2; have q9 := hc (4 + n4) (by omega); omega), rfl⟩)⟩ dX9_isWord_25 (jj_le rfl) (jj_le rfl)
  · have z_c_1 := jc_eq (a := kd.toInt) (b := 1) c_1 rfl (by decide)
    refine jj_aload_n C dX9_isWord_8 rfl ?_
    refine tt_getF C hok jk_10 3 (by decide) jw_f99bd0ca2b (t := (0, 0, 400)) hk0 (by decide) rfl rfl hs3 dX9_isWord_9 ?_
    refine jj_aload_n C dX9_isWord_12 rfl ?_
    refine tt_getF C hok jk_10 4 (by decide) jw_66bda6962a (t := (0, 0, 400)) hk0 (by decide) rfl rfl hs4 dX9_isWord_13 ?_
    obtain ⟨x_2, ex_2, vx_2⟩ := tt_isub (x := (nI n3)) (y := (nI n4)) (a := ((n3 : Nat) : Int)) (rl_ti (by omega)) (b := ((n4 : Nat) : Int)) (rl_ti (by omega)) (by omega) (by omega)
    refine jj_isub (v := x_2) C dX9_isWord_16 ex_2 ?_
    refine jj_aload_n C dX9_isWord_17 rfl ?_
    refine tt_call0Vs (rest := [.int x_2]) C (ct_J0_length_8abf5_2 hl D cA ak) 1 (by decide) rfl jw_f27063fded jw_b1ce304435 jw_d08f03a22e jw_4ea6285965 jw_bbc7045666 jn_J0_length_8abf5 rfl (jj_le rfl) (jj_le rfl) (jj_le rfl) (jj_le rfl) (jj_le rfl) dX9_isWord_18 rfl (fun w1 r O_3 => ?_)
    obtain ⟨-, rfl⟩ := O_3
    refine jj_icmp_eq (tgt := 26) C dX9_isWord_21 (by decide) (fun c_4 => ?_) (fun c_4 => ?_)
    · have z_c_4 := jc_eq (a := x_2.toInt) (b := 5) c_4 rfl (by decide)
      refine jj_iconst (v := 0) C dX9_isWord_26 (by decide) ?_
      refine jj_istore_n C dX9_isWord_27 (by decide) rfl ?_
      refine jj_iload_n C dX9_isWord_28 rfl ?_
      refine jj_aload_n C dX9_isWord_29 rfl ?_
      refine tt_call0Vs (rest := [.int 0]) C (ct_J0_length_8abf5_2 hl D cA ak) 1 (by decide) rfl jw_f27063fded jw_b1ce304435 jw_d08f03a22e jw_4ea6285965 jw_bbc7045666 jn_J0_length_8abf5 rfl (jj_le rfl) (jj_le rfl) (jj_le rfl) (jj_le rfl) (jj_le rfl) dX9_isWord_30 rfl (fun w1 r O_5 => ?_)
      obtain ⟨-, rfl⟩ := O_5
      refine jj_icmp_geF (tgt := 63) C dX9_isWord_33 (by decide) (by decide) ?_
      refine jj_aload_n C dX9_isWord_36 rfl ?_
      refine tt_getF C hok jk_10 0 (by decide) jw_0664e1e086 (t := (2, 11, 0)) hk0 (by decide) rfl rfl hs0 dX9_isWord_37 ?_
      refine jj_aload_n C dX9_isWord_40 rfl ?_
      refine tt_getF C hok jk_10 4 (by decide) jw_66bda6962a (t := (0, 0, 400)) hk0 (by decide) rfl rfl hs4 dX9_isWord_41 ?_
      refine jj_iload_n C dX9_isWord_44 rfl ?_
      refine jj_iadd (v := nI n4) C dX9_isWord_45 (rl_addR (kn := 0) (by decide) (by omega)) ?_
      refine tl_caldF C hok (t := (0, (-2147483648), 2147483647)) hk9 (by decide) rfl (k := n4) (vp_in_nI (by omega) (by decide)) hu (nI_clamp (by omega)) rfl dX9_isWord_46 ?_
      refine jj_aload_n C dX9_isWord_47 rfl ?_
      refine jj_iload_n C dX9_isWord_48 rfl ?_
      refine tt_call0Vs (rest := [.int (u n4)]) C (ct_J0_charAt_5068e_5 hl D cA ak) 1 (by decide) rfl jw_076e8de8e0 jw_acb9174fef jw_675efe837b jw_4ea6285965 jw_391c0f56bd jn_J0_charAt_5068e rfl (jj_le rfl) (jj_le rfl) (jj_le rfl) (jj_le rfl) (jj_le rfl) dX9_isWord_49 rfl (fun w1 r O_6 => ?_)
      obtain ⟨-, rfl⟩ := O_6
      refine jj_icmp_eq (tgt := 57) C dX9_isWord_52 (by decide) (fun c_7 => ?_) (fun c_7 => ?_)
      · have z_c_7 := jc_eq (a := (u n4).toInt) (b := 101) c_7 rfl (by decide)
        refine jj_iinc (v := 1) C dX9_isWord_57 rfl (by decide) (by decide) rfl ?_
        refine jj_goto (tgt := 28) C dX9_isWord_60 (by decide) ?_
        refine jj_iload_n C dX9_isWord_28 rfl ?_
        refine jj_aload_n C dX9_isWord_29 rfl ?_
        refine tt_call0Vs (rest := [.int 1]) C (ct_J0_length_8abf5_2 hl D cA ak) 1 (by decide) rfl jw_f27063fded jw_b1ce304435 jw_d08f03a22e jw_4ea6285965 jw_bbc7045666 jn_J0_length_8abf5 rfl (jj_le rfl) (jj_le rfl) (jj_le rfl) (jj_le rfl) (jj_le rfl) dX9_isWord_30 rfl (fun w1 r O_8 => ?_)
        obtain ⟨-, rfl⟩ := O_8
        refine jj_icmp_geF (tgt := 63) C dX9_isWord_33 (by decide) (by decide) ?_
        refine jj_aload_n C dX9_isWord_36 rfl ?_
        refine tt_getF C hok jk_10 0 (by decide) jw_0664e1e086 (t := (2, 11, 0)) hk0 (by decide) rfl rfl hs0 dX9_isWord_37 ?_
        refine jj_aload_n C dX9_isWord_40 rfl ?_
        refine tt_getF C hok jk_10 4 (by decide) jw_66bda6962a (t := (0, 0, 400)) hk0 (by decide) rfl rfl hs4 dX9_isWord_41 ?_
        refine jj_iload_n C dX9_isWord_44 rfl ?_
        refine jj_iadd (v := nI (1 + n4)) C dX9_isWord_45 (rl_addR (kn := 1) (by decide) (by omega)) ?_
        refine tl_caldF C hok (t := (0, (-2147483648), 2147483647)) hk9 (by decide) rfl (k := 1 + n4) (vp_in_nI (by omega) (by decide)) hu (nI_clamp (by omega)) rfl dX9_isWord_46 ?_
        refine jj_aload_n C dX9_isWord_47 rfl ?_
        refine jj_iload_n C dX9_isWord_48 rfl ?_
        refine tt_call0Vs (rest := [.int (u (1 + n4))]) C (ct_J0_charAt_5068e_6 hl D cA ak) 1 (by decide) rfl jw_076e8de8e0 jw_acb9174fef jw_675efe837b jw_4ea6285965 jw_391c0f56bd jn_J0_charAt_5068e rfl (jj_le rfl) (jj_le rfl) (jj_le rfl) (jj_le rfl) (jj_le rfl) dX9_isWord_49 rfl (fun w1 r O_9 => ?_)
        obtain ⟨-, rfl⟩ := O_9
        refine jj_icmp_eq (tgt := 57) C dX9_isWord_52 (by decide) (fun c_10 => ?_) (fun c_10 => ?_)
        · have z_c_10 := jc_eq (a := (u (1 + n4)).toInt) (b := 113) c_10 rfl (by decide)
          refine jj_iinc (v := 2) C dX9_isWord_57 rfl (by decide) (by decide) rfl ?_
          refine jj_goto (tgt := 28) C dX9_isWord_60 (by decide) ?_
          refine jj_iload_n C dX9_isWord_28 rfl ?_
          refine jj_aload_n C dX9_isWord_29 rfl ?_
          refine tt_call0Vs (rest := [.int 2]) C (ct_J0_length_8abf5_2 hl D cA ak) 1 (by decide) rfl jw_f27063fded jw_b1ce304435 jw_d08f03a22e jw_4ea6285965 jw_bbc7045666 jn_J0_length_8abf5 rfl (jj_le rfl) (jj_le rfl) (jj_le rfl) (jj_le rfl) (jj_le rfl) dX9_isWord_30 rfl (fun w1 r O_11 => ?_)
          obtain ⟨-, rfl⟩ := O_11
          refine jj_icmp_geF (tgt := 63) C dX9_isWord_33 (by decide) (by decide) ?_
          refine jj_aload_n C dX9_isWord_36 rfl ?_
          refine tt_getF C hok jk_10 0 (by decide) jw_0664e1e086 (t := (2, 11, 0)) hk0 (by decide) rfl rfl hs0 dX9_isWord_37 ?_
          refine jj_aload_n C dX9_isWord_40 rfl ?_
          refine tt_getF C hok jk_10 4 (by decide) jw_66bda6962a (t := (0, 0, 400)) hk0 (by decide) rfl rfl hs4 dX9_isWord_41 ?_
          refine jj_iload_n C dX9_isWord_44 rfl ?_
          refine jj_iadd (v := nI (2 + n4)) C dX9_isWord_45 (rl_addR (kn := 2) (by decide) (by omega)) ?_
          refine tl_caldF C hok (t := (0, (-2147483648), 2147483647)) hk9 (by decide) rfl (k := 2 + n4) (vp_in_nI (by omega) (by decide)) hu (nI_clamp (by omega)) rfl dX9_isWord_46 ?_
          refine jj_aload_n C dX9_isWord_47 rfl ?_
          refine jj_iload_n C dX9_isWord_48 rfl ?_
          refine tt_call0Vs (rest := [.int (u (2 + n4))]) C (ct_J0_charAt_5068e_7 hl D cA ak) 1 (by decide) rfl jw_076e8de8e0 jw_acb9174fef jw_675efe837b jw_4ea6285965 jw_391c0f56bd jn_J0_charAt_5068e rfl (jj_le rfl) (jj_le rfl) (jj_le rfl) (jj_le rfl) (jj_le rfl) dX9_isWord_49 rfl (fun w1 r O_12 => ?_)
          obtain ⟨-, rfl⟩ := O_12
          refine jj_icmp_eq (tgt := 57) C dX9_isWord_52 (by decide) (fun c_13 => ?_) (fun c_13 => ?_)
          · have z_c_13 := jc_eq (a := (u (2 + n4)).toInt) (b := 117) c_13 rfl (by decide)
            refine jj_iinc (v := 3) C dX9_isWord_57 rfl (by decide) (by decide) rfl ?_
            refine jj_goto (tgt := 28) C dX9_isWord_60 (by decide) ?_
            refine jj_iload_n C dX9_isWord_28 rfl ?_
            refine jj_aload_n C dX9_isWord_29 rfl ?_
            refine tt_call0Vs (rest := [.int 3]) C (ct_J0_length_8abf5_2 hl D cA ak) 1 (by decide) rfl jw_f27063fded jw_b1ce304435 jw_d08f03a22e jw_4ea6285965 jw_bbc7045666 jn_J0_length_8abf5 rfl (jj_le rfl) (jj_le rfl) (jj_le rfl) (jj_le rfl) (jj_le rfl) dX9_isWord_30 rfl (fun w1 r O_14 => ?_)
            obtain ⟨-, rfl⟩ := O_14
            refine jj_icmp_geF (tgt := 63) C dX9_isWord_33 (by decide) (by decide) ?_
            refine jj_aload_n C dX9_isWord_36 rfl ?_
            refine tt_getF C hok jk_10 0 (by decide) jw_0664e1e086 (t := (2, 11, 0)) hk0 (by decide) rfl rfl hs0 dX9_isWord_37 ?_
            refine jj_aload_n C dX9_isWord_40 rfl ?_
            refine tt_getF C hok jk_10 4 (by decide) jw_66bda6962a (t := (0, 0, 400)) hk0 (by decide) rfl rfl hs4 dX9_isWord_41 ?_
            refine jj_iload_n C dX9_isWord_44 rfl ?_
            refine jj_iadd (v := nI (3 + n4)) C dX9_isWord_45 (rl_addR (kn := 3) (by decide) (by omega)) ?_
            refine tl_caldF C hok (t := (0, (-2147483648), 2147483647)) hk9 (by decide) rfl (k := 3 + n4) (vp_in_nI (by omega) (by decide)) hu (nI_clamp (by omega)) rfl dX9_isWord_46 ?_
            refine jj_aload_n C dX9_isWord_47 rfl ?_
            refine jj_iload_n C dX9_isWord_48 rfl ?_
            refine tt_call0Vs (rest := [.int (u (3 + n4))]) C (ct_J0_charAt_5068e_8 hl D cA ak) 1 (by decide) rfl jw_076e8de8e0 jw_acb9174fef jw_675efe837b jw_4ea6285965 jw_391c0f56bd jn_J0_charAt_5068e rfl (jj_le rfl) (jj_le rfl) (jj_le rfl) (jj_le rfl) (jj_le rfl) dX9_isWord_49 rfl (fun w1 r O_15 => ?_)
            obtain ⟨-, rfl⟩ := O_15
            refine jj_icmp_eq (tgt := 57) C dX9_isWord_52 (by decide) (fun c_16 => ?_) (fun c_16 => ?_)
            · have z_c_16 := jc_eq (a := (u (3 + n4)).toInt) (b := 97) c_16 rfl (by decide)
              refine jj_iinc (v := 4) C dX9_isWord_57 rfl (by decide) (by decide) rfl ?_
              refine jj_goto (tgt := 28) C dX9_isWord_60 (by decide) ?_
              refine jj_iload_n C dX9_isWord_28 rfl ?_
              refine jj_aload_n C dX9_isWord_29 rfl ?_
              refine tt_call0Vs (rest := [.int 4]) C (ct_J0_length_8abf5_2 hl D cA ak) 1 (by decide) rfl jw_f27063fded jw_b1ce304435 jw_d08f03a22e jw_4ea6285965 jw_bbc7045666 jn_J0_length_8abf5 rfl (jj_le rfl) (jj_le rfl) (jj_le rfl) (jj_le rfl) (jj_le rfl) dX9_isWord_30 rfl (fun w1 r O_17 => ?_)
              obtain ⟨-, rfl⟩ := O_17
              refine jj_icmp_geF (tgt := 63) C dX9_isWord_33 (by decide) (by decide) ?_
              refine jj_aload_n C dX9_isWord_36 rfl ?_
              refine tt_getF C hok jk_10 0 (by decide) jw_0664e1e086 (t := (2, 11, 0)) hk0 (by decide) rfl rfl hs0 dX9_isWord_37 ?_
              refine jj_aload_n C dX9_isWord_40 rfl ?_
              refine tt_getF C hok jk_10 4 (by decide) jw_66bda6962a (t := (0, 0, 400)) hk0 (by decide) rfl rfl hs4 dX9_isWord_41 ?_
              refine jj_iload_n C dX9_isWord_44 rfl ?_
              refine jj_iadd (v := nI (4 + n4)) C dX9_isWord_45 (rl_addR (kn := 4) (by decide) (by omega)) ?_
              refine tl_caldF C hok (t := (0, (-2147483648), 2147483647)) hk9 (by decide) rfl (k := 4 + n4) (vp_in_nI (by omega) (by decide)) hu (nI_clamp (by omega)) rfl dX9_isWord_46 ?_
              refine jj_aload_n C dX9_isWord_47 rfl ?_
              refine jj_iload_n C dX9_isWord_48 rfl ?_
              refine tt_call0Vs (rest := [.int (u (4 + n4))]) C (ct_J0_charAt_5068e_9 hl D cA ak) 1 (by decide) rfl jw_076e8de8e0 jw_acb9174fef jw_675efe837b jw_4ea6285965 jw_391c0f56bd jn_J0_charAt_5068e rfl (jj_le rfl) (jj_le rfl) (jj_le rfl) (jj_le rfl) (jj_le rfl) dX9_isWord_49 rfl (fun w1 r O_18 => ?_)
              obtain ⟨-, rfl⟩ := O_18
              refine jj_icmp_eq (tgt := 57) C dX9_isWord_52 (by decide) (fun c_19 => ?_) (fun c_19 => ?_)
              · have z_c_19 := jc_eq (a := (u (4 + n4)).toInt) (b := 108) c_19 rfl (by decide)
                refine jj_iinc (v := 5) C dX9_isWord_57 rfl (by decide) (by decide) rfl ?_
                refine jj_goto (tgt := 28) C dX9_isWord_60 (by decide) ?_
                refine jj_iload_n C dX9_isWord_28 rfl ?_
                refine jj_aload_n C dX9_isWord_29 rfl ?_
                refine tt_call0Vs (rest := [.int 5]) C (ct_J0_length_8abf5_2 hl D cA ak) 1 (by decide) rfl jw_f27063fded jw_b1ce304435 jw_d08f03a22e jw_4ea6285965 jw_bbc7045666 jn_J0_length_8abf5 rfl (jj_le rfl) (jj_le rfl) (jj_le rfl) (jj_le rfl) (jj_le rfl) dX9_isWord_30 rfl (fun w1 r O_20 => ?_)
                obtain ⟨-, rfl⟩ := O_20
                refine jj_icmp_geT (tgt := 63) C dX9_isWord_33 (by decide) (by decide) ?_
                refine jj_iconst (v := 1) C dX9_isWord_63 (by decide) ?_
                exact jj_zret C rfl ⟨[], pl0, rfl, rfl, hok, hfr, hfa, (Or.inr ⟨ps_alls.isw ⟨(show c n4 = 101 from by have q9 := hc n4 (by omega); omega), (show c (n4 + 1) = 113 from by rw [Nat.add_comm n4 1]; have q9 := hc (1 + n4) (by omega); omega), (show c (n4 + 2) = 117 from by rw [Nat.add_comm n4 2]; have q9 := hc (2 + n4) (by omega); omega), (show c (n4 + 3) = 97 from by rw [Nat.add_comm n4 3]; have q9 := hc (3 + n4) (by omega); omega), (show c (n4 + 4) = 108 from by rw [Nat.add_comm n4 4]; have q9 := hc (4 + n4) (by omega); omega), trivial⟩ (show n3 = n4 + 5 from by omega), rfl⟩)⟩ dX9_isWord_64 (jj_le rfl) (jj_le rfl)
              · have z_c_19 := jc_neq (a := (u (4 + n4)).toInt) (b := 108) c_19 rfl (by decide)
                refine jj_iconst (v := 0) C dX9_isWord_55 (by decide) ?_
                exact jj_zret C rfl ⟨[], pl0, rfl, rfl, hok, hfr, hfa, (Or.inl ⟨fun q => by first | (have q1 : n3 = n4 + 5 := q.1; omega) | (have q1 : n3 = n4 + 5 := q.1; have q2 : c n4 = 101 := q.2 0 (by decide); have q9 := hc n4 (by omega); omega) | (have q1 : n3 = n4 + 5 := q.1; have q2 : c (n4 + 1) = 113 := q.2 1 (by decide); rw [Nat.add_comm n4 1] at q2; have q9 := hc (1 + n4) (by omega); omega) | (have q1 : n3 = n4 + 5 := q.1; have q2 : c (n4 + 2) = 117 := q.2 2 (by decide); rw [Nat.add_comm n4 2] at q2; have q9 := hc (2 + n4) (by omega); omega) | (have q1 : n3 = n4 + 5 := q.1; have q2 : c (n4 + 3) = 97 := q.2 3 (by decide); rw [Nat.add_comm n4 3] at q2; have q9 := hc (3 + n4) (by omega); omega) | (have q1 : n3 = n4 + 5 := q.1; have q2 : c (n4 + 4) = 108 := q.2 4 (by decide); rw [Nat.add_comm n4 4] at q2; have q9 := hc (4 + n4) (by omega); omega), rfl⟩)⟩ dX9_isWord_56 (jj_le rfl) (jj_le rfl)
            · have z_c_16 := jc_neq (a := (u (3 + n4)).toInt) (b := 97) c_16 rfl (by decide)
              refine jj_iconst (v := 0) C dX9_isWord_55 (by decide) ?_
              exact jj_zret C rfl ⟨[], pl0, rfl, rfl, hok, hfr, hfa, (Or.inl ⟨fun q => by first | (have q1 : n3 = n4 + 5 := q.1; omega) | (have q1 : n3 = n4 + 5 := q.1; have q2 : c n4 = 101 := q.2 0 (by decide); have q9 := hc n4 (by omega); omega) | (have q1 : n3 = n4 + 5 := q.1; have q2 : c (n4 + 1) = 113 := q.2 1 (by decide); rw [Nat.add_comm n4 1] at q2; have q9 := hc (1 + n4) (by omega); omega) | (have q1 : n3 = n4 + 5 := q.1; have q2 : c (n4 + 2) = 117 := q.2 2 (by decide); rw [Nat.add_comm n4 2] at q2; have q9 := hc (2 + n4) (by omega); omega) | (have q1 : n3 = n4 + 5 := q.1; have q2 : c (n4 + 3) = 97 := q.2 3 (by decide); rw [Nat.add_comm n4 3] at q2; have q9 := hc (3 + n4) (by omega); omega) | (have q1 : n3 = n4 + 5 := q.1; have q2 : c (n4 + 4) = 108 := q.2 4 (by decide); rw [Nat.add_comm n4 4] at q2; have q9 := hc (4 + n4) (by omega); omega), rfl⟩)⟩ dX9_isWord_56 (jj_le rfl) (jj_le rfl)
          · have z_c_13 := jc_neq (a := (u (2 + n4)).toInt) (b := 117) c_13 rfl (by decide)
            refine jj_iconst (v := 0) C dX9_isWord_55 (by decide) ?_
            exact jj_zret C rfl ⟨[], pl0, rfl, rfl, hok, hfr, hfa, (Or.inl ⟨fun q => by first | (have q1 : n3 = n4 + 5 := q.1; omega) | (have q1 : n3 = n4 + 5 := q.1; have q2 : c n4 = 101 := q.2 0 (by decide); have q9 := hc n4 (by omega); omega) | (have q1 : n3 = n4 + 5 := q.1; have q2 : c (n4 + 1) = 113 := q.2 1 (by decide); rw [Nat.add_comm n4 1] at q2; have q9 := hc (1 + n4) (by omega); omega) | (have q1 : n3 = n4 + 5 := q.1; have q2 : c (n4 + 2) = 117 := q.2 2 (by decide); rw [Nat.add_comm n4 2] at q2; have q9 := hc (2 + n4) (by omega); omega) | (have q1 : n3 = n4 + 5 := q.1; have q2 : c (n4 + 3) = 97 := q.2 3 (by decide); rw [Nat.add_comm n4 3] at q2; have q9 := hc (3 + n4) (by omega); omega) | (have q1 : n3 = n4 + 5 := q.1; have q2 : c (n4 + 4) = 108 := q.2 4 (by decide); rw [Nat.add_comm n4 4] at q2; have q9 := hc (4 + n4) (by omega); omega), rfl⟩)⟩ dX9_isWord_56 (jj_le rfl) (jj_le rfl)
        · have z_c_10 := jc_neq (a := (u (1 + n4)).toInt) (b := 113) c_10 rfl (by decide)
          refine jj_iconst (v := 0) C dX9_isWord_55 (by decide) ?_
          exact jj_zret C rfl ⟨[], pl0, rfl, rfl, hok, hfr, hfa, (Or.inl ⟨fun q => by first | (have q1 : n3 = n4 + 5 := q.1; omega) | (have q1 : n3 = n4 + 5 := q.1; have q2 : c n4 = 101 := q.2 0 (by decide); have q9 := hc n4 (by omega); omega) | (have q1 : n3 = n4 + 5 := q.1; have q2 : c (n4 + 1) = 113 := q.2 1 (by decide); rw [Nat.add_comm n4 1] at q2; have q9 := hc (1 + n4) (by omega); omega) | (have q1 : n3 = n4 + 5 := q.1; have q2 : c (n4 + 2) = 117 := q.2 2 (by decide); rw [Nat.add_comm n4 2] at q2; have q9 := hc (2 + n4) (by omega); omega) | (have q1 : n3 = n4 + 5 := q.1; have q2 : c (n4 + 3) = 97 := q.2 3 (by decide); rw [Nat.add_comm n4 3] at q2; have q9 := hc (3 + n4) (by omega); omega) | (have q1 : n3 = n4 + 5 := q.1; have q2 : c (n4 + 4) = 108 := q.2 4 (by decide); rw [Nat.add_comm n4 4] at q2; have q9 := hc (4 + n4) (by omega); omega), rfl⟩)⟩ dX9_isWord_56 (jj_le rfl) (jj_le rfl)
      · have z_c_7 := jc_neq (a := (u n4).toInt) (b := 101) c_7 rfl (by decide)
        refine jj_iconst (v := 0) C dX9_isWord_55 (by decide) ?_
        exact jj_zret C rfl ⟨[], pl0, rfl, rfl, hok, hfr, hfa, (Or.inl ⟨fun q => by first | (have q1 : n3 = n4 + 5 := q.1; omega) | (have q1 : n3 = n4 + 5 := q.1; have q2 : c n4 = 101 := q.2 0 (by decide); have q9 := hc n4 (by omega); omega) | (have q1 : n3 = n4 + 5 := q.1; have q2 : c (n4 + 1) = 113 := q.2 1 (by decide); rw [Nat.add_comm n4 1] at q2; have q9 := hc (1 + n4) (by omega); omega) | (have q1 : n3 = n4 + 5 := q.1; have q2 : c (n4 + 2) = 117 := q.2 2 (by decide); rw [Nat.add_comm n4 2] at q2; have q9 := hc (2 + n4) (by omega); omega) | (have q1 : n3 = n4 + 5 := q.1; have q2 : c (n4 + 3) = 97 := q.2 3 (by decide); rw [Nat.add_comm n4 3] at q2; have q9 := hc (3 + n4) (by omega); omega) | (have q1 : n3 = n4 + 5 := q.1; have q2 : c (n4 + 4) = 108 := q.2 4 (by decide); rw [Nat.add_comm n4 4] at q2; have q9 := hc (4 + n4) (by omega); omega), rfl⟩)⟩ dX9_isWord_56 (jj_le rfl) (jj_le rfl)
    · have z_c_4 := jc_neq (a := x_2.toInt) (b := 5) c_4 rfl (by decide)
      refine jj_iconst (v := 0) C dX9_isWord_24 (by decide) ?_
      exact jj_zret C rfl ⟨[], pl0, rfl, rfl, hok, hfr, hfa, (Or.inl ⟨fun q => by first | (have q1 : n3 = n4 + 5 := q.1; omega) | (have q1 : n3 = n4 + 5 := q.1; have q2 : c n4 = 101 := q.2 0 (by decide); have q9 := hc n4 (by omega); omega) | (have q1 : n3 = n4 + 5 := q.1; have q2 : c (n4 + 1) = 113 := q.2 1 (by decide); rw [Nat.add_comm n4 1] at q2; have q9 := hc (1 + n4) (by omega); omega) | (have q1 : n3 = n4 + 5 := q.1; have q2 : c (n4 + 2) = 117 := q.2 2 (by decide); rw [Nat.add_comm n4 2] at q2; have q9 := hc (2 + n4) (by omega); omega) | (have q1 : n3 = n4 + 5 := q.1; have q2 : c (n4 + 3) = 97 := q.2 3 (by decide); rw [Nat.add_comm n4 3] at q2; have q9 := hc (3 + n4) (by omega); omega) | (have q1 : n3 = n4 + 5 := q.1; have q2 : c (n4 + 4) = 108 := q.2 4 (by decide); rw [Nat.add_comm n4 4] at q2; have q9 := hc (4 + n4) (by omega); omega), rfl⟩)⟩ dX9_isWord_25 (jj_le rfl) (jj_le rfl)

set_option maxHeartbeats 4000000 in
set_option maxRecDepth 100000 in
theorem te_isWord_series {l : Launch} (hl : l.stackTraces = false) (D : va_G) (cA : Nat → ClassId) (ak : (Nat → Nat) × (Nat → Nat)) {Kd : Nat → Nat} (h0 a9 : Nat) (n2 n3 n4 : Nat) (kd : Int32) (u : Nat → Int32) (c : Nat → Int) (hk0 : Kd h0 = 10) (hk9 : Kd a9 = 11) (l2 : n2 ≤ 400) (h43 : n4 ≤ n3) (h32 : n3 ≤ n2) (hc : ∀ k : Nat, k < n2 → c k = (u k).toInt) (hkd : kd = 1 ↔ (n4 < n2 ∧ ps_le (c n4))) {pl0 : va_W} (hok : tt_ok tt_tk cA Kd pl0) (hs0 : tt_at pl0 h0 0 (.ref a9)) (hs3 : tt_at pl0 h0 3 (.int (nI n3))) (hs4 : tt_at pl0 h0 4 (.int (nI n4))) (hs5 : tt_at pl0 h0 5 (.int kd)) (hu : tt_ic pl0 a9 u) : jj_M l D cA ak yX9_isWord (.code yX9_isWord cX9_isWord 3 (some .boolean)) 4 85 0 0 ([] ++ pl0) [.ref h0, .ref (ak.1 2)] (tt_O (fun rx pl1 r => rx = [] ∧ tt_ok tt_tk cA Kd pl1 ∧ tt_fr Kd [] pl0 pl1 ∧ tt_fa Kd [] pl0 pl1 ∧ ((¬ ps_isw c n4 n3 ps_series ∧ r = some (.int 0)) ∨ (ps_isw c n4 n3 ps_series ∧ r = some (.int 1))))) (tt_OX (fun _ _ _ => False)) := by
  refine jj_start hl (by decide) jw_ce1c1f12e9 (jj_le rfl) ?_
  intro p e s m args below meth c9 A hargs hA C hex hmn
  have hfr := tt_fr.refl (K := Kd) (WS := []) pl0
  have hfa := tt_fa.refl (K := Kd) (WA := []) pl0
  refine jj_aload_n C dX9_isWord_0 rfl ?_
  refine tt_getF C hok jk_10 5 (by decide) jw_bde5c0d1a5 (t := (0, (-2147483648), 2147483647)) hk0 (by decide) rfl rfl hs5 dX9_isWord_1 ?_
  refine jj_iconst (v := 1) C dX9_isWord_4 (by decide) ?_
  refine jj_icmp_ne (tgt := 24) C dX9_isWord_5 (by decide) (fun c_1 => ?_) (fun c_1 => ?_)
  · have z_c_1 := jc_neq (a := kd.toInt) (b := 1) c_1 rfl (by decide)
    refine jj_iconst (v := 0) C dX9_isWord_24 (by decide) ?_
    exact jj_zret C rfl ⟨[], pl0, rfl, rfl, hok, hfr, hfa, (Or.inl ⟨fun q => by first | exact absurd (hkd.mpr (q.one (by decide) (by unfold ps_le; decide) h32)) c_1 | (have q1 : n3 = n4 + 6 := q.1; omega) | (have q1 : n3 = n4 + 6 := q.1; have q2 : c n4 = 115 := q.2 0 (by decide); have q9 := hc n4 (by omega); omega) | (have q1 : n3 = n4 + 6 := q.1; have q2 : c (n4 + 1) = 101 := q.2 1 (by decide); rw [Nat.add_comm n4 1] at q2; have q9 := hc (1 + n4) (by omega); omega) | (have q1 : n3 = n4 + 6 := q.1; have q2 : c (n4 + 2) = 114 := q.2 2 (by decide); rw [Nat.add_comm n4 2] at q2; have q9 := hc (2 + n4) (by omega); omega) | (have q1 : n3 = n4 + 6 := q.1; have q2 : c (n4 + 3) = 105 := q.2 3 (by decide); rw [Nat.add_comm n4 3] at q2; have q9 := hc (3 + n4) (by omega); omega) | (have q1 : n3 = n4 + 6 := q.1; have q2 : c (n4 + 4) = 101 := q.2 4 (by decide); rw [Nat.add_comm n4 4] at q2; have q9 := hc (4 + n4) (by omega); omega) | (have q1 : n3 = n4 + 6 := q.1; have q2 : c (n4 + 5) = 115 := q.2 5 (by decide); rw [Nat.add_comm n4 5] at q2; have q9 := hc (5 + n4) (by omega); omega), rfl⟩)⟩ dX9_isWord_25 (jj_le rfl) (jj_le rfl)
  · have z_c_1 := jc_eq (a := kd.toInt) (b := 1) c_1 rfl (by decide)
    refine jj_aload_n C dX9_isWord_8 rfl ?_
    refine tt_getF C hok jk_10 3 (by decide) jw_f99bd0ca2b (t := (0, 0, 400)) hk0 (by decide) rfl rfl hs3 dX9_isWord_9 ?_
    refine jj_aload_n C dX9_isWord_12 rfl ?_
    refine tt_getF C hok jk_10 4 (by decide) jw_66bda6962a (t := (0, 0, 400)) hk0 (by decide) rfl rfl hs4 dX9_isWord_13 ?_
    obtain ⟨x_2, ex_2, vx_2⟩ := tt_isub (x := (nI n3)) (y := (nI n4)) (a := ((n3 : Nat) : Int)) (rl_ti (by omega)) (b := ((n4 : Nat) : Int)) (rl_ti (by omega)) (by omega) (by omega)
    refine jj_isub (v := x_2) C dX9_isWord_16 ex_2 ?_
    refine jj_aload_n C dX9_isWord_17 rfl ?_
    refine tt_call0Vs (rest := [.int x_2]) C (ct_J0_length_8abf5_3 hl D cA ak) 2 (by decide) rfl jw_f27063fded jw_b1ce304435 jw_d08f03a22e jw_4ea6285965 jw_bbc7045666 jn_J0_length_8abf5 rfl (jj_le rfl) (jj_le rfl) (jj_le rfl) (jj_le rfl) (jj_le rfl) dX9_isWord_18 rfl (fun w1 r O_3 => ?_)
    obtain ⟨-, rfl⟩ := O_3
    refine jj_icmp_eq (tgt := 26) C dX9_isWord_21 (by decide) (fun c_4 => ?_) (fun c_4 => ?_)
    · have z_c_4 := jc_eq (a := x_2.toInt) (b := 6) c_4 rfl (by decide)
      refine jj_iconst (v := 0) C dX9_isWord_26 (by decide) ?_
      refine jj_istore_n C dX9_isWord_27 (by decide) rfl ?_
      refine jj_iload_n C dX9_isWord_28 rfl ?_
      refine jj_aload_n C dX9_isWord_29 rfl ?_
      refine tt_call0Vs (rest := [.int 0]) C (ct_J0_length_8abf5_3 hl D cA ak) 2 (by decide) rfl jw_f27063fded jw_b1ce304435 jw_d08f03a22e jw_4ea6285965 jw_bbc7045666 jn_J0_length_8abf5 rfl (jj_le rfl) (jj_le rfl) (jj_le rfl) (jj_le rfl) (jj_le rfl) dX9_isWord_30 rfl (fun w1 r O_5 => ?_)
      obtain ⟨-, rfl⟩ := O_5
      refine jj_icmp_geF (tgt := 63) C dX9_isWord_33 (by decide) (by decide) ?_
      refine jj_aload_n C dX9_isWord_36 rfl ?_
      refine tt_getF C hok jk_10 0 (by decide) jw_0664e1e086 (t := (2, 11, 0)) hk0 (by decide) rfl rfl hs0 dX9_isWord_37 ?_
      refine jj_aload_n C dX9_isWord_40 rfl ?_
      refine tt_getF C hok jk_10 4 (by decide) jw_66bda6962a (t := (0, 0, 400)) hk0 (by decide) rfl rfl hs4 dX9_isWord_41 ?_
      refine jj_iload_n C dX9_isWord_44 rfl ?_
      refine jj_iadd (v := nI n4) C dX9_isWord_45 (rl_addR (kn := 0) (by decide) (by omega)) ?_
      refine tl_caldF C hok (t := (0, (-2147483648), 2147483647)) hk9 (by decide) rfl (k := n4) (vp_in_nI (by omega) (by decide)) hu (nI_clamp (by omega)) rfl dX9_isWord_46 ?_
      refine jj_aload_n C dX9_isWord_47 rfl ?_
      refine jj_iload_n C dX9_isWord_48 rfl ?_
      refine tt_call0Vs (rest := [.int (u n4)]) C (ct_J0_charAt_5068e_10 hl D cA ak) 2 (by decide) rfl jw_076e8de8e0 jw_acb9174fef jw_675efe837b jw_4ea6285965 jw_391c0f56bd jn_J0_charAt_5068e rfl (jj_le rfl) (jj_le rfl) (jj_le rfl) (jj_le rfl) (jj_le rfl) dX9_isWord_49 rfl (fun w1 r O_6 => ?_)
      obtain ⟨-, rfl⟩ := O_6
      refine jj_icmp_eq (tgt := 57) C dX9_isWord_52 (by decide) (fun c_7 => ?_) (fun c_7 => ?_)
      · have z_c_7 := jc_eq (a := (u n4).toInt) (b := 115) c_7 rfl (by decide)
        refine jj_iinc (v := 1) C dX9_isWord_57 rfl (by decide) (by decide) rfl ?_
        refine jj_goto (tgt := 28) C dX9_isWord_60 (by decide) ?_
        refine jj_iload_n C dX9_isWord_28 rfl ?_
        refine jj_aload_n C dX9_isWord_29 rfl ?_
        refine tt_call0Vs (rest := [.int 1]) C (ct_J0_length_8abf5_3 hl D cA ak) 2 (by decide) rfl jw_f27063fded jw_b1ce304435 jw_d08f03a22e jw_4ea6285965 jw_bbc7045666 jn_J0_length_8abf5 rfl (jj_le rfl) (jj_le rfl) (jj_le rfl) (jj_le rfl) (jj_le rfl) dX9_isWord_30 rfl (fun w1 r O_8 => ?_)
        obtain ⟨-, rfl⟩ := O_8
        refine jj_icmp_geF (tgt := 63) C dX9_isWord_33 (by decide) (by decide) ?_
        refine jj_aload_n C dX9_isWord_36 rfl ?_
        refine tt_getF C hok jk_10 0 (by decide) jw_0664e1e086 (t := (2, 11, 0)) hk0 (by decide) rfl rfl hs0 dX9_isWord_37 ?_
        refine jj_aload_n C dX9_isWord_40 rfl ?_
        refine tt_getF C hok jk_10 4 (by decide) jw_66bda6962a (t := (0, 0, 400)) hk0 (by decide) rfl rfl hs4 dX9_isWord_41 ?_
        refine jj_iload_n C dX9_isWord_44 rfl ?_
        refine jj_iadd (v := nI (1 + n4)) C dX9_isWord_45 (rl_addR (kn := 1) (by decide) (by omega)) ?_
        refine tl_caldF C hok (t := (0, (-2147483648), 2147483647)) hk9 (by decide) rfl (k := 1 + n4) (vp_in_nI (by omega) (by decide)) hu (nI_clamp (by omega)) rfl dX9_isWord_46 ?_
        refine jj_aload_n C dX9_isWord_47 rfl ?_
        refine jj_iload_n C dX9_isWord_48 rfl ?_
        refine tt_call0Vs (rest := [.int (u (1 + n4))]) C (ct_J0_charAt_5068e_11 hl D cA ak) 2 (by decide) rfl jw_076e8de8e0 jw_acb9174fef jw_675efe837b jw_4ea6285965 jw_391c0f56bd jn_J0_charAt_5068e rfl (jj_le rfl) (jj_le rfl) (jj_le rfl) (jj_le rfl) (jj_le rfl) dX9_isWord_49 rfl (fun w1 r O_9 => ?_)
        obtain ⟨-, rfl⟩ := O_9
        refine jj_icmp_eq (tgt := 57) C dX9_isWord_52 (by decide) (fun c_10 => ?_) (fun c_10 => ?_)
        · have z_c_10 := jc_eq (a := (u (1 + n4)).toInt) (b := 101) c_10 rfl (by decide)
          refine jj_iinc (v := 2) C dX9_isWord_57 rfl (by decide) (by decide) rfl ?_
          refine jj_goto (tgt := 28) C dX9_isWord_60 (by decide) ?_
          refine jj_iload_n C dX9_isWord_28 rfl ?_
          refine jj_aload_n C dX9_isWord_29 rfl ?_
          refine tt_call0Vs (rest := [.int 2]) C (ct_J0_length_8abf5_3 hl D cA ak) 2 (by decide) rfl jw_f27063fded jw_b1ce304435 jw_d08f03a22e jw_4ea6285965 jw_bbc7045666 jn_J0_length_8abf5 rfl (jj_le rfl) (jj_le rfl) (jj_le rfl) (jj_le rfl) (jj_le rfl) dX9_isWord_30 rfl (fun w1 r O_11 => ?_)
          obtain ⟨-, rfl⟩ := O_11
          refine jj_icmp_geF (tgt := 63) C dX9_isWord_33 (by decide) (by decide) ?_
          refine jj_aload_n C dX9_isWord_36 rfl ?_
          refine tt_getF C hok jk_10 0 (by decide) jw_0664e1e086 (t := (2, 11, 0)) hk0 (by decide) rfl rfl hs0 dX9_isWord_37 ?_
          refine jj_aload_n C dX9_isWord_40 rfl ?_
          refine tt_getF C hok jk_10 4 (by decide) jw_66bda6962a (t := (0, 0, 400)) hk0 (by decide) rfl rfl hs4 dX9_isWord_41 ?_
          refine jj_iload_n C dX9_isWord_44 rfl ?_
          refine jj_iadd (v := nI (2 + n4)) C dX9_isWord_45 (rl_addR (kn := 2) (by decide) (by omega)) ?_
          refine tl_caldF C hok (t := (0, (-2147483648), 2147483647)) hk9 (by decide) rfl (k := 2 + n4) (vp_in_nI (by omega) (by decide)) hu (nI_clamp (by omega)) rfl dX9_isWord_46 ?_
          refine jj_aload_n C dX9_isWord_47 rfl ?_
          refine jj_iload_n C dX9_isWord_48 rfl ?_
          refine tt_call0Vs (rest := [.int (u (2 + n4))]) C (ct_J0_charAt_5068e_12 hl D cA ak) 2 (by decide) rfl jw_076e8de8e0 jw_acb9174fef jw_675efe837b jw_4ea6285965 jw_391c0f56bd jn_J0_charAt_5068e rfl (jj_le rfl) (jj_le rfl) (jj_le rfl) (jj_le rfl) (jj_le rfl) dX9_isWord_49 rfl (fun w1 r O_12 => ?_)
          obtain ⟨-, rfl⟩ := O_12
          refine jj_icmp_eq (tgt := 57) C dX9_isWord_52 (by decide) (fun c_13 => ?_) (fun c_13 => ?_)
          · have z_c_13 := jc_eq (a := (u (2 + n4)).toInt) (b := 114) c_13 rfl (by decide)
            refine jj_iinc (v := 3) C dX9_isWord_57 rfl (by decide) (by decide) rfl ?_
            refine jj_goto (tgt := 28) C dX9_isWord_60 (by decide) ?_
            refine jj_iload_n C dX9_isWord_28 rfl ?_
            refine jj_aload_n C dX9_isWord_29 rfl ?_
            refine tt_call0Vs (rest := [.int 3]) C (ct_J0_length_8abf5_3 hl D cA ak) 2 (by decide) rfl jw_f27063fded jw_b1ce304435 jw_d08f03a22e jw_4ea6285965 jw_bbc7045666 jn_J0_length_8abf5 rfl (jj_le rfl) (jj_le rfl) (jj_le rfl) (jj_le rfl) (jj_le rfl) dX9_isWord_30 rfl (fun w1 r O_14 => ?_)
            obtain ⟨-, rfl⟩ := O_14
            refine jj_icmp_geF (tgt := 63) C dX9_isWord_33 (by decide) (by decide) ?_
            refine jj_aload_n C dX9_isWord_36 rfl ?_
            refine tt_getF C hok jk_10 0 (by decide) jw_0664e1e086 (t := (2, 11, 0)) hk0 (by decide) rfl rfl hs0 dX9_isWord_37 ?_
            refine jj_aload_n C dX9_isWord_40 rfl ?_
            refine tt_getF C hok jk_10 4 (by decide) jw_66bda6962a (t := (0, 0, 400)) hk0 (by decide) rfl rfl hs4 dX9_isWord_41 ?_
            refine jj_iload_n C dX9_isWord_44 rfl ?_
            refine jj_iadd (v := nI (3 + n4)) C dX9_isWord_45 (rl_addR (kn := 3) (by decide) (by omega)) ?_
            refine tl_caldF C hok (t := (0, (-2147483648), 2147483647)) hk9 (by decide) rfl (k := 3 + n4) (vp_in_nI (by omega) (by decide)) hu (nI_clamp (by omega)) rfl dX9_isWord_46 ?_
            refine jj_aload_n C dX9_isWord_47 rfl ?_
            refine jj_iload_n C dX9_isWord_48 rfl ?_
            refine tt_call0Vs (rest := [.int (u (3 + n4))]) C (ct_J0_charAt_5068e_13 hl D cA ak) 2 (by decide) rfl jw_076e8de8e0 jw_acb9174fef jw_675efe837b jw_4ea6285965 jw_391c0f56bd jn_J0_charAt_5068e rfl (jj_le rfl) (jj_le rfl) (jj_le rfl) (jj_le rfl) (jj_le rfl) dX9_isWord_49 rfl (fun w1 r O_15 => ?_)
            obtain ⟨-, rfl⟩ := O_15
            refine jj_icmp_eq (tgt := 57) C dX9_isWord_52 (by decide) (fun c_16 => ?_) (fun c_16 => ?_)
            · have z_c_16 := jc_eq (a := (u (3 + n4)).toInt) (b := 105) c_16 rfl (by decide)
              refine jj_iinc (v := 4) C dX9_isWord_57 rfl (by decide) (by decide) rfl ?_
              refine jj_goto (tgt := 28) C dX9_isWord_60 (by decide) ?_
              refine jj_iload_n C dX9_isWord_28 rfl ?_
              refine jj_aload_n C dX9_isWord_29 rfl ?_
              refine tt_call0Vs (rest := [.int 4]) C (ct_J0_length_8abf5_3 hl D cA ak) 2 (by decide) rfl jw_f27063fded jw_b1ce304435 jw_d08f03a22e jw_4ea6285965 jw_bbc7045666 jn_J0_length_8abf5 rfl (jj_le rfl) (jj_le rfl) (jj_le rfl) (jj_le rfl) (jj_le rfl) dX9_isWord_30 rfl (fun w1 r O_17 => ?_)
              obtain ⟨-, rfl⟩ := O_17
              refine jj_icmp_geF (tgt := 63) C dX9_isWord_33 (by decide) (by decide) ?_
              refine jj_aload_n C dX9_isWord_36 rfl ?_
              refine tt_getF C hok jk_10 0 (by decide) jw_0664e1e086 (t := (2, 11, 0)) hk0 (by decide) rfl rfl hs0 dX9_isWord_37 ?_
              refine jj_aload_n C dX9_isWord_40 rfl ?_
              refine tt_getF C hok jk_10 4 (by decide) jw_66bda6962a (t := (0, 0, 400)) hk0 (by decide) rfl rfl hs4 dX9_isWord_41 ?_
              refine jj_iload_n C dX9_isWord_44 rfl ?_
              refine jj_iadd (v := nI (4 + n4)) C dX9_isWord_45 (rl_addR (kn := 4) (by decide) (by omega)) ?_
              refine tl_caldF C hok (t := (0, (-2147483648), 2147483647)) hk9 (by decide) rfl (k := 4 + n4) (vp_in_nI (by omega) (by decide)) hu (nI_clamp (by omega)) rfl dX9_isWord_46 ?_
              refine jj_aload_n C dX9_isWord_47 rfl ?_
              refine jj_iload_n C dX9_isWord_48 rfl ?_
              refine tt_call0Vs (rest := [.int (u (4 + n4))]) C (ct_J0_charAt_5068e_14 hl D cA ak) 2 (by decide) rfl jw_076e8de8e0 jw_acb9174fef jw_675efe837b jw_4ea6285965 jw_391c0f56bd jn_J0_charAt_5068e rfl (jj_le rfl) (jj_le rfl) (jj_le rfl) (jj_le rfl) (jj_le rfl) dX9_isWord_49 rfl (fun w1 r O_18 => ?_)
              obtain ⟨-, rfl⟩ := O_18
              refine jj_icmp_eq (tgt := 57) C dX9_isWord_52 (by decide) (fun c_19 => ?_) (fun c_19 => ?_)
              · have z_c_19 := jc_eq (a := (u (4 + n4)).toInt) (b := 101) c_19 rfl (by decide)
                refine jj_iinc (v := 5) C dX9_isWord_57 rfl (by decide) (by decide) rfl ?_
                refine jj_goto (tgt := 28) C dX9_isWord_60 (by decide) ?_
                refine jj_iload_n C dX9_isWord_28 rfl ?_
                refine jj_aload_n C dX9_isWord_29 rfl ?_
                refine tt_call0Vs (rest := [.int 5]) C (ct_J0_length_8abf5_3 hl D cA ak) 2 (by decide) rfl jw_f27063fded jw_b1ce304435 jw_d08f03a22e jw_4ea6285965 jw_bbc7045666 jn_J0_length_8abf5 rfl (jj_le rfl) (jj_le rfl) (jj_le rfl) (jj_le rfl) (jj_le rfl) dX9_isWord_30 rfl (fun w1 r O_20 => ?_)
                obtain ⟨-, rfl⟩ := O_20
                refine jj_icmp_geF (tgt := 63) C dX9_isWord_33 (by decide) (by decide) ?_
                refine jj_aload_n C dX9_isWord_36 rfl ?_
                refine tt_getF C hok jk_10 0 (by decide) jw_0664e1e086 (t := (2, 11, 0)) hk0 (by decide) rfl rfl hs0 dX9_isWord_37 ?_
                refine jj_aload_n C dX9_isWord_40 rfl ?_
                refine tt_getF C hok jk_10 4 (by decide) jw_66bda6962a (t := (0, 0, 400)) hk0 (by decide) rfl rfl hs4 dX9_isWord_41 ?_
                refine jj_iload_n C dX9_isWord_44 rfl ?_
                refine jj_iadd (v := nI (5 + n4)) C dX9_isWord_45 (rl_addR (kn := 5) (by decide) (by omega)) ?_
                refine tl_caldF C hok (t := (0, (-2147483648), 2147483647)) hk9 (by decide) rfl (k := 5 + n4) (vp_in_nI (by omega) (by decide)) hu (nI_clamp (by omega)) rfl dX9_isWord_46 ?_
                refine jj_aload_n C dX9_isWord_47 rfl ?_
                refine jj_iload_n C dX9_isWord_48 rfl ?_
                refine tt_call0Vs (rest := [.int (u (5 + n4))]) C (ct_J0_charAt_5068e_15 hl D cA ak) 2 (by decide) rfl jw_076e8de8e0 jw_acb9174fef jw_675efe837b jw_4ea6285965 jw_391c0f56bd jn_J0_charAt_5068e rfl (jj_le rfl) (jj_le rfl) (jj_le rfl) (jj_le rfl) (jj_le rfl) dX9_isWord_49 rfl (fun w1 r O_21 => ?_)
                obtain ⟨-, rfl⟩ := O_21
                refine jj_icmp_eq (tgt := 57) C dX9_isWord_52 (by decide) (fun c_22 => ?_) (fun c_22 => ?_)
                · have z_c_22 := jc_eq (a := (u (5 + n4)).toInt) (b := 115) c_22 rfl (by decide)
                  refine jj_iinc (v := 6) C dX9_isWord_57 rfl (by decide) (by decide) rfl ?_
                  refine jj_goto (tgt := 28) C dX9_isWord_60 (by decide) ?_
                  refine jj_iload_n C dX9_isWord_28 rfl ?_
                  refine jj_aload_n C dX9_isWord_29 rfl ?_
                  refine tt_call0Vs (rest := [.int 6]) C (ct_J0_length_8abf5_3 hl D cA ak) 2 (by decide) rfl jw_f27063fded jw_b1ce304435 jw_d08f03a22e jw_4ea6285965 jw_bbc7045666 jn_J0_length_8abf5 rfl (jj_le rfl) (jj_le rfl) (jj_le rfl) (jj_le rfl) (jj_le rfl) dX9_isWord_30 rfl (fun w1 r O_23 => ?_)
                  obtain ⟨-, rfl⟩ := O_23
                  refine jj_icmp_geT (tgt := 63) C dX9_isWord_33 (by decide) (by decide) ?_
                  refine jj_iconst (v := 1) C dX9_isWord_63 (by decide) ?_
                  exact jj_zret C rfl ⟨[], pl0, rfl, rfl, hok, hfr, hfa, (Or.inr ⟨ps_alls.isw ⟨(show c n4 = 115 from by have q9 := hc n4 (by omega); omega), (show c (n4 + 1) = 101 from by rw [Nat.add_comm n4 1]; have q9 := hc (1 + n4) (by omega); omega), (show c (n4 + 2) = 114 from by rw [Nat.add_comm n4 2]; have q9 := hc (2 + n4) (by omega); omega), (show c (n4 + 3) = 105 from by rw [Nat.add_comm n4 3]; have q9 := hc (3 + n4) (by omega); omega), (show c (n4 + 4) = 101 from by rw [Nat.add_comm n4 4]; have q9 := hc (4 + n4) (by omega); omega), (show c (n4 + 5) = 115 from by rw [Nat.add_comm n4 5]; have q9 := hc (5 + n4) (by omega); omega), trivial⟩ (show n3 = n4 + 6 from by omega), rfl⟩)⟩ dX9_isWord_64 (jj_le rfl) (jj_le rfl)
                · have z_c_22 := jc_neq (a := (u (5 + n4)).toInt) (b := 115) c_22 rfl (by decide)
                  refine jj_iconst (v := 0) C dX9_isWord_55 (by decide) ?_
                  exact jj_zret C rfl ⟨[], pl0, rfl, rfl, hok, hfr, hfa, (Or.inl ⟨fun q => by first | (have q1 : n3 = n4 + 6 := q.1; omega) | (have q1 : n3 = n4 + 6 := q.1; have q2 : c n4 = 115 := q.2 0 (by decide); have q9 := hc n4 (by omega); omega) | (have q1 : n3 = n4 + 6 := q.1; have q2 : c (n4 + 1) = 101 := q.2 1 (by decide); rw [Nat.add_comm n4 1] at q2; have q9 := hc (1 + n4) (by omega); omega) | (have q1 : n3 = n4 + 6 := q.1; have q2 : c (n4 + 2) = 114 := q.2 2 (by decide); rw [Nat.add_comm n4 2] at q2; have q9 := hc (2 + n4) (by omega); omega) | (have q1 : n3 = n4 + 6 := q.1; have q2 : c (n4 + 3) = 105 := q.2 3 (by decide); rw [Nat.add_comm n4 3] at q2; have q9 := hc (3 + n4) (by omega); omega) | (have q1 : n3 = n4 + 6 := q.1; have q2 : c (n4 + 4) = 101 := q.2 4 (by decide); rw [Nat.add_comm n4 4] at q2; have q9 := hc (4 + n4) (by omega); omega) | (have q1 : n3 = n4 + 6 := q.1; have q2 : c (n4 + 5) = 115 := q.2 5 (by decide); rw [Nat.add_comm n4 5] at q2; have q9 := hc (5 + n4) (by omega); omega), rfl⟩)⟩ dX9_isWord_56 (jj_le rfl) (jj_le rfl)
              · have z_c_19 := jc_neq (a := (u (4 + n4)).toInt) (b := 101) c_19 rfl (by decide)
                refine jj_iconst (v := 0) C dX9_isWord_55 (by decide) ?_
                exact jj_zret C rfl ⟨[], pl0, rfl, rfl, hok, hfr, hfa, (Or.inl ⟨fun q => by first | (have q1 : n3 = n4 + 6 := q.1; omega) | (have q1 : n3 = n4 + 6 := q.1; have q2 : c n4 = 115 := q.2 0 (by decide); have q9 := hc n4 (by omega); omega) | (have q1 : n3 = n4 + 6 := q.1; have q2 : c (n4 + 1) = 101 := q.2 1 (by decide); rw [Nat.add_comm n4 1] at q2; have q9 := hc (1 + n4) (by omega); omega) | (have q1 : n3 = n4 + 6 := q.1; have q2 : c (n4 + 2) = 114 := q.2 2 (by decide); rw [Nat.add_comm n4 2] at q2; have q9 := hc (2 + n4) (by omega); omega) | (have q1 : n3 = n4 + 6 := q.1; have q2 : c (n4 + 3) = 105 := q.2 3 (by decide); rw [Nat.add_comm n4 3] at q2; have q9 := hc (3 + n4) (by omega); omega) | (have q1 : n3 = n4 + 6 := q.1; have q2 : c (n4 + 4) = 101 := q.2 4 (by decide); rw [Nat.add_comm n4 4] at q2; have q9 := hc (4 + n4) (by omega); omega) | (have q1 : n3 = n4 + 6 := q.1; have q2 : c (n4 + 5) = 115 := q.2 5 (by decide); rw [Nat.add_comm n4 5] at q2; have q9 := hc (5 + n4) (by omega); omega), rfl⟩)⟩ dX9_isWord_56 (jj_le rfl) (jj_le rfl)
            · have z_c_16 := jc_neq (a := (u (3 + n4)).toInt) (b := 105) c_16 rfl (by decide)
              refine jj_iconst (v := 0) C dX9_isWord_55 (by decide) ?_
              exact jj_zret C rfl ⟨[], pl0, rfl, rfl, hok, hfr, hfa, (Or.inl ⟨fun q => by first | (have q1 : n3 = n4 + 6 := q.1; omega) | (have q1 : n3 = n4 + 6 := q.1; have q2 : c n4 = 115 := q.2 0 (by decide); have q9 := hc n4 (by omega); omega) | (have q1 : n3 = n4 + 6 := q.1; have q2 : c (n4 + 1) = 101 := q.2 1 (by decide); rw [Nat.add_comm n4 1] at q2; have q9 := hc (1 + n4) (by omega); omega) | (have q1 : n3 = n4 + 6 := q.1; have q2 : c (n4 + 2) = 114 := q.2 2 (by decide); rw [Nat.add_comm n4 2] at q2; have q9 := hc (2 + n4) (by omega); omega) | (have q1 : n3 = n4 + 6 := q.1; have q2 : c (n4 + 3) = 105 := q.2 3 (by decide); rw [Nat.add_comm n4 3] at q2; have q9 := hc (3 + n4) (by omega); omega) | (have q1 : n3 = n4 + 6 := q.1; have q2 : c (n4 + 4) = 101 := q.2 4 (by decide); rw [Nat.add_comm n4 4] at q2; have q9 := hc (4 + n4) (by omega); omega) | (have q1 : n3 = n4 + 6 := q.1; have q2 : c (n4 + 5) = 115 := q.2 5 (by decide); rw [Nat.add_comm n4 5] at q2; have q9 := hc (5 + n4) (by omega); omega), rfl⟩)⟩ dX9_isWord_56 (jj_le rfl) (jj_le rfl)
          · have z_c_13 := jc_neq (a := (u (2 + n4)).toInt) (b := 114) c_13 rfl (by decide)
            refine jj_iconst (v := 0) C dX9_isWord_55 (by decide) ?_
            exact jj_zret C rfl ⟨[], pl0, rfl, rfl, hok, hfr, hfa, (Or.inl ⟨fun q => by first | (have q1 : n3 = n4 + 6 := q.1; omega) | (have q1 : n3 = n4 + 6 := q.1; have q2 : c n4 = 115 := q.2 0 (by decide); have q9 := hc n4 (by omega); omega) | (have q1 : n3 = n4 + 6 := q.1; have q2 : c (n4 + 1) = 101 := q.2 1 (by decide); rw [Nat.add_comm n4 1] at q2; have q9 := hc (1 + n4) (by omega); omega) | (have q1 : n3 = n4 + 6 := q.1; have q2 : c (n4 + 2) = 114 := q.2 2 (by decide); rw [Nat.add_comm n4 2] at q2; have q9 := hc (2 + n4) (by omega); omega) | (have q1 : n3 = n4 + 6 := q.1; have q2 : c (n4 + 3) = 105 := q.2 3 (by decide); rw [Nat.add_comm n4 3] at q2; have q9 := hc (3 + n4) (by omega); omega) | (have q1 : n3 = n4 + 6 := q.1; have q2 : c (n4 + 4) = 101 := q.2 4 (by decide); rw [Nat.add_comm n4 4] at q2; have q9 := hc (4 + n4) (by omega); omega) | (have q1 : n3 = n4 + 6 := q.1; have q2 : c (n4 + 5) = 115 := q.2 5 (by decide); rw [Nat.add_comm n4 5] at q2; have q9 := hc (5 + n4) (by omega); omega), rfl⟩)⟩ dX9_isWord_56 (jj_le rfl) (jj_le rfl)
        · have z_c_10 := jc_neq (a := (u (1 + n4)).toInt) (b := 101) c_10 rfl (by decide)
          refine jj_iconst (v := 0) C dX9_isWord_55 (by decide) ?_
          exact jj_zret C rfl ⟨[], pl0, rfl, rfl, hok, hfr, hfa, (Or.inl ⟨fun q => by first | (have q1 : n3 = n4 + 6 := q.1; omega) | (have q1 : n3 = n4 + 6 := q.1; have q2 : c n4 = 115 := q.2 0 (by decide); have q9 := hc n4 (by omega); omega) | (have q1 : n3 = n4 + 6 := q.1; have q2 : c (n4 + 1) = 101 := q.2 1 (by decide); rw [Nat.add_comm n4 1] at q2; have q9 := hc (1 + n4) (by omega); omega) | (have q1 : n3 = n4 + 6 := q.1; have q2 : c (n4 + 2) = 114 := q.2 2 (by decide); rw [Nat.add_comm n4 2] at q2; have q9 := hc (2 + n4) (by omega); omega) | (have q1 : n3 = n4 + 6 := q.1; have q2 : c (n4 + 3) = 105 := q.2 3 (by decide); rw [Nat.add_comm n4 3] at q2; have q9 := hc (3 + n4) (by omega); omega) | (have q1 : n3 = n4 + 6 := q.1; have q2 : c (n4 + 4) = 101 := q.2 4 (by decide); rw [Nat.add_comm n4 4] at q2; have q9 := hc (4 + n4) (by omega); omega) | (have q1 : n3 = n4 + 6 := q.1; have q2 : c (n4 + 5) = 115 := q.2 5 (by decide); rw [Nat.add_comm n4 5] at q2; have q9 := hc (5 + n4) (by omega); omega), rfl⟩)⟩ dX9_isWord_56 (jj_le rfl) (jj_le rfl)
      · have z_c_7 := jc_neq (a := (u n4).toInt) (b := 115) c_7 rfl (by decide)
        refine jj_iconst (v := 0) C dX9_isWord_55 (by decide) ?_
        exact jj_zret C rfl ⟨[], pl0, rfl, rfl, hok, hfr, hfa, (Or.inl ⟨fun q => by first | (have q1 : n3 = n4 + 6 := q.1; omega) | (have q1 : n3 = n4 + 6 := q.1; have q2 : c n4 = 115 := q.2 0 (by decide); have q9 := hc n4 (by omega); omega) | (have q1 : n3 = n4 + 6 := q.1; have q2 : c (n4 + 1) = 101 := q.2 1 (by decide); rw [Nat.add_comm n4 1] at q2; have q9 := hc (1 + n4) (by omega); omega) | (have q1 : n3 = n4 + 6 := q.1; have q2 : c (n4 + 2) = 114 := q.2 2 (by decide); rw [Nat.add_comm n4 2] at q2; have q9 := hc (2 + n4) (by omega); omega) | (have q1 : n3 = n4 + 6 := q.1; have q2 : c (n4 + 3) = 105 := q.2 3 (by decide); rw [Nat.add_comm n4 3] at q2; have q9 := hc (3 + n4) (by omega); omega) | (have q1 : n3 = n4 + 6 := q.1; have q2 : c (n4 + 4) = 101 := q.2 4 (by decide); rw [Nat.add_comm n4 4] at q2; have q9 := hc (4 + n4) (by omega); omega) | (have q1 : n3 = n4 + 6 := q.1; have q2 : c (n4 + 5) = 115 := q.2 5 (by decide); rw [Nat.add_comm n4 5] at q2; have q9 := hc (5 + n4) (by omega); omega), rfl⟩)⟩ dX9_isWord_56 (jj_le rfl) (jj_le rfl)
    · have z_c_4 := jc_neq (a := x_2.toInt) (b := 6) c_4 rfl (by decide)
      refine jj_iconst (v := 0) C dX9_isWord_24 (by decide) ?_
      exact jj_zret C rfl ⟨[], pl0, rfl, rfl, hok, hfr, hfa, (Or.inl ⟨fun q => by first | (have q1 : n3 = n4 + 6 := q.1; omega) | (have q1 : n3 = n4 + 6 := q.1; have q2 : c n4 = 115 := q.2 0 (by decide); have q9 := hc n4 (by omega); omega) | (have q1 : n3 = n4 + 6 := q.1; have q2 : c (n4 + 1) = 101 := q.2 1 (by decide); rw [Nat.add_comm n4 1] at q2; have q9 := hc (1 + n4) (by omega); omega) | (have q1 : n3 = n4 + 6 := q.1; have q2 : c (n4 + 2) = 114 := q.2 2 (by decide); rw [Nat.add_comm n4 2] at q2; have q9 := hc (2 + n4) (by omega); omega) | (have q1 : n3 = n4 + 6 := q.1; have q2 : c (n4 + 3) = 105 := q.2 3 (by decide); rw [Nat.add_comm n4 3] at q2; have q9 := hc (3 + n4) (by omega); omega) | (have q1 : n3 = n4 + 6 := q.1; have q2 : c (n4 + 4) = 101 := q.2 4 (by decide); rw [Nat.add_comm n4 4] at q2; have q9 := hc (4 + n4) (by omega); omega) | (have q1 : n3 = n4 + 6 := q.1; have q2 : c (n4 + 5) = 115 := q.2 5 (by decide); rw [Nat.add_comm n4 5] at q2; have q9 := hc (5 + n4) (by omega); omega), rfl⟩)⟩ dX9_isWord_25 (jj_le rfl) (jj_le rfl)

set_option maxHeartbeats 4000000 in
set_option maxRecDepth 100000 in
theorem te_isWord_investors {l : Launch} (hl : l.stackTraces = false) (D : va_G) (cA : Nat → ClassId) (ak : (Nat → Nat) × (Nat → Nat)) {Kd : Nat → Nat} (h0 a9 : Nat) (n2 n3 n4 : Nat) (kd : Int32) (u : Nat → Int32) (c : Nat → Int) (hk0 : Kd h0 = 10) (hk9 : Kd a9 = 11) (l2 : n2 ≤ 400) (h43 : n4 ≤ n3) (h32 : n3 ≤ n2) (hc : ∀ k : Nat, k < n2 → c k = (u k).toInt) (hkd : kd = 1 ↔ (n4 < n2 ∧ ps_le (c n4))) {pl0 : va_W} (hok : tt_ok tt_tk cA Kd pl0) (hs0 : tt_at pl0 h0 0 (.ref a9)) (hs3 : tt_at pl0 h0 3 (.int (nI n3))) (hs4 : tt_at pl0 h0 4 (.int (nI n4))) (hs5 : tt_at pl0 h0 5 (.int kd)) (hu : tt_ic pl0 a9 u) : jj_M l D cA ak yX9_isWord (.code yX9_isWord cX9_isWord 3 (some .boolean)) 4 85 0 0 ([] ++ pl0) [.ref h0, .ref (ak.1 3)] (tt_O (fun rx pl1 r => rx = [] ∧ tt_ok tt_tk cA Kd pl1 ∧ tt_fr Kd [] pl0 pl1 ∧ tt_fa Kd [] pl0 pl1 ∧ ((¬ ps_isw c n4 n3 ps_investors ∧ r = some (.int 0)) ∨ (ps_isw c n4 n3 ps_investors ∧ r = some (.int 1))))) (tt_OX (fun _ _ _ => False)) := by
  refine jj_start hl (by decide) jw_ce1c1f12e9 (jj_le rfl) ?_
  intro p e s m args below meth c9 A hargs hA C hex hmn
  have hfr := tt_fr.refl (K := Kd) (WS := []) pl0
  have hfa := tt_fa.refl (K := Kd) (WA := []) pl0
  refine jj_aload_n C dX9_isWord_0 rfl ?_
  refine tt_getF C hok jk_10 5 (by decide) jw_bde5c0d1a5 (t := (0, (-2147483648), 2147483647)) hk0 (by decide) rfl rfl hs5 dX9_isWord_1 ?_
  refine jj_iconst (v := 1) C dX9_isWord_4 (by decide) ?_
  refine jj_icmp_ne (tgt := 24) C dX9_isWord_5 (by decide) (fun c_1 => ?_) (fun c_1 => ?_)
  · have z_c_1 := jc_neq (a := kd.toInt) (b := 1) c_1 rfl (by decide)
    refine jj_iconst (v := 0) C dX9_isWord_24 (by decide) ?_
    exact jj_zret C rfl ⟨[], pl0, rfl, rfl, hok, hfr, hfa, (Or.inl ⟨fun q => by first | exact absurd (hkd.mpr (q.one (by decide) (by unfold ps_le; decide) h32)) c_1 | (have q1 : n3 = n4 + 9 := q.1; omega) | (have q1 : n3 = n4 + 9 := q.1; have q2 : c n4 = 105 := q.2 0 (by decide); have q9 := hc n4 (by omega); omega) | (have q1 : n3 = n4 + 9 := q.1; have q2 : c (n4 + 1) = 110 := q.2 1 (by decide); rw [Nat.add_comm n4 1] at q2; have q9 := hc (1 + n4) (by omega); omega) | (have q1 : n3 = n4 + 9 := q.1; have q2 : c (n4 + 2) = 118 := q.2 2 (by decide); rw [Nat.add_comm n4 2] at q2; have q9 := hc (2 + n4) (by omega); omega) | (have q1 : n3 = n4 + 9 := q.1; have q2 : c (n4 + 3) = 101 := q.2 3 (by decide); rw [Nat.add_comm n4 3] at q2; have q9 := hc (3 + n4) (by omega); omega) | (have q1 : n3 = n4 + 9 := q.1; have q2 : c (n4 + 4) = 115 := q.2 4 (by decide); rw [Nat.add_comm n4 4] at q2; have q9 := hc (4 + n4) (by omega); omega) | (have q1 : n3 = n4 + 9 := q.1; have q2 : c (n4 + 5) = 116 := q.2 5 (by decide); rw [Nat.add_comm n4 5] at q2; have q9 := hc (5 + n4) (by omega); omega) | (have q1 : n3 = n4 + 9 := q.1; have q2 : c (n4 + 6) = 111 := q.2 6 (by decide); rw [Nat.add_comm n4 6] at q2; have q9 := hc (6 + n4) (by omega); omega) | (have q1 : n3 = n4 + 9 := q.1; have q2 : c (n4 + 7) = 114 := q.2 7 (by decide); rw [Nat.add_comm n4 7] at q2; have q9 := hc (7 + n4) (by omega); omega) | (have q1 : n3 = n4 + 9 := q.1; have q2 : c (n4 + 8) = 115 := q.2 8 (by decide); rw [Nat.add_comm n4 8] at q2; have q9 := hc (8 + n4) (by omega); omega), rfl⟩)⟩ dX9_isWord_25 (jj_le rfl) (jj_le rfl)
  · have z_c_1 := jc_eq (a := kd.toInt) (b := 1) c_1 rfl (by decide)
    refine jj_aload_n C dX9_isWord_8 rfl ?_
    refine tt_getF C hok jk_10 3 (by decide) jw_f99bd0ca2b (t := (0, 0, 400)) hk0 (by decide) rfl rfl hs3 dX9_isWord_9 ?_
    refine jj_aload_n C dX9_isWord_12 rfl ?_
    refine tt_getF C hok jk_10 4 (by decide) jw_66bda6962a (t := (0, 0, 400)) hk0 (by decide) rfl rfl hs4 dX9_isWord_13 ?_
    obtain ⟨x_2, ex_2, vx_2⟩ := tt_isub (x := (nI n3)) (y := (nI n4)) (a := ((n3 : Nat) : Int)) (rl_ti (by omega)) (b := ((n4 : Nat) : Int)) (rl_ti (by omega)) (by omega) (by omega)
    refine jj_isub (v := x_2) C dX9_isWord_16 ex_2 ?_
    refine jj_aload_n C dX9_isWord_17 rfl ?_
    refine tt_call0Vs (rest := [.int x_2]) C (ct_J0_length_8abf5_4 hl D cA ak) 3 (by decide) rfl jw_f27063fded jw_b1ce304435 jw_d08f03a22e jw_4ea6285965 jw_bbc7045666 jn_J0_length_8abf5 rfl (jj_le rfl) (jj_le rfl) (jj_le rfl) (jj_le rfl) (jj_le rfl) dX9_isWord_18 rfl (fun w1 r O_3 => ?_)
    obtain ⟨-, rfl⟩ := O_3
    refine jj_icmp_eq (tgt := 26) C dX9_isWord_21 (by decide) (fun c_4 => ?_) (fun c_4 => ?_)
    · have z_c_4 := jc_eq (a := x_2.toInt) (b := 9) c_4 rfl (by decide)
      refine jj_iconst (v := 0) C dX9_isWord_26 (by decide) ?_
      refine jj_istore_n C dX9_isWord_27 (by decide) rfl ?_
      refine jj_iload_n C dX9_isWord_28 rfl ?_
      refine jj_aload_n C dX9_isWord_29 rfl ?_
      refine tt_call0Vs (rest := [.int 0]) C (ct_J0_length_8abf5_4 hl D cA ak) 3 (by decide) rfl jw_f27063fded jw_b1ce304435 jw_d08f03a22e jw_4ea6285965 jw_bbc7045666 jn_J0_length_8abf5 rfl (jj_le rfl) (jj_le rfl) (jj_le rfl) (jj_le rfl) (jj_le rfl) dX9_isWord_30 rfl (fun w1 r O_5 => ?_)
      obtain ⟨-, rfl⟩ := O_5
      refine jj_icmp_geF (tgt := 63) C dX9_isWord_33 (by decide) (by decide) ?_
      refine jj_aload_n C dX9_isWord_36 rfl ?_
      refine tt_getF C hok jk_10 0 (by decide) jw_0664e1e086 (t := (2, 11, 0)) hk0 (by decide) rfl rfl hs0 dX9_isWord_37 ?_
      refine jj_aload_n C dX9_isWord_40 rfl ?_
      refine tt_getF C hok jk_10 4 (by decide) jw_66bda6962a (t := (0, 0, 400)) hk0 (by decide) rfl rfl hs4 dX9_isWord_41 ?_
      refine jj_iload_n C dX9_isWord_44 rfl ?_
      refine jj_iadd (v := nI n4) C dX9_isWord_45 (rl_addR (kn := 0) (by decide) (by omega)) ?_
      refine tl_caldF C hok (t := (0, (-2147483648), 2147483647)) hk9 (by decide) rfl (k := n4) (vp_in_nI (by omega) (by decide)) hu (nI_clamp (by omega)) rfl dX9_isWord_46 ?_
      refine jj_aload_n C dX9_isWord_47 rfl ?_
      refine jj_iload_n C dX9_isWord_48 rfl ?_
      refine tt_call0Vs (rest := [.int (u n4)]) C (ct_J0_charAt_5068e_16 hl D cA ak) 3 (by decide) rfl jw_076e8de8e0 jw_acb9174fef jw_675efe837b jw_4ea6285965 jw_391c0f56bd jn_J0_charAt_5068e rfl (jj_le rfl) (jj_le rfl) (jj_le rfl) (jj_le rfl) (jj_le rfl) dX9_isWord_49 rfl (fun w1 r O_6 => ?_)
      obtain ⟨-, rfl⟩ := O_6
      refine jj_icmp_eq (tgt := 57) C dX9_isWord_52 (by decide) (fun c_7 => ?_) (fun c_7 => ?_)
      · have z_c_7 := jc_eq (a := (u n4).toInt) (b := 105) c_7 rfl (by decide)
        refine jj_iinc (v := 1) C dX9_isWord_57 rfl (by decide) (by decide) rfl ?_
        refine jj_goto (tgt := 28) C dX9_isWord_60 (by decide) ?_
        refine jj_iload_n C dX9_isWord_28 rfl ?_
        refine jj_aload_n C dX9_isWord_29 rfl ?_
        refine tt_call0Vs (rest := [.int 1]) C (ct_J0_length_8abf5_4 hl D cA ak) 3 (by decide) rfl jw_f27063fded jw_b1ce304435 jw_d08f03a22e jw_4ea6285965 jw_bbc7045666 jn_J0_length_8abf5 rfl (jj_le rfl) (jj_le rfl) (jj_le rfl) (jj_le rfl) (jj_le rfl) dX9_isWord_30 rfl (fun w1 r O_8 => ?_)
        obtain ⟨-, rfl⟩ := O_8
        refine jj_icmp_geF (tgt := 63) C dX9_isWord_33 (by decide) (by decide) ?_
        refine jj_aload_n C dX9_isWord_36 rfl ?_
        refine tt_getF C hok jk_10 0 (by decide) jw_0664e1e086 (t := (2, 11, 0)) hk0 (by decide) rfl rfl hs0 dX9_isWord_37 ?_
        refine jj_aload_n C dX9_isWord_40 rfl ?_
        refine tt_getF C hok jk_10 4 (by decide) jw_66bda6962a (t := (0, 0, 400)) hk0 (by decide) rfl rfl hs4 dX9_isWord_41 ?_
        refine jj_iload_n C dX9_isWord_44 rfl ?_
        refine jj_iadd (v := nI (1 + n4)) C dX9_isWord_45 (rl_addR (kn := 1) (by decide) (by omega)) ?_
        refine tl_caldF C hok (t := (0, (-2147483648), 2147483647)) hk9 (by decide) rfl (k := 1 + n4) (vp_in_nI (by omega) (by decide)) hu (nI_clamp (by omega)) rfl dX9_isWord_46 ?_
        refine jj_aload_n C dX9_isWord_47 rfl ?_
        refine jj_iload_n C dX9_isWord_48 rfl ?_
        refine tt_call0Vs (rest := [.int (u (1 + n4))]) C (ct_J0_charAt_5068e_17 hl D cA ak) 3 (by decide) rfl jw_076e8de8e0 jw_acb9174fef jw_675efe837b jw_4ea6285965 jw_391c0f56bd jn_J0_charAt_5068e rfl (jj_le rfl) (jj_le rfl) (jj_le rfl) (jj_le rfl) (jj_le rfl) dX9_isWord_49 rfl (fun w1 r O_9 => ?_)
        obtain ⟨-, rfl⟩ := O_9
        refine jj_icmp_eq (tgt := 57) C dX9_isWord_52 (by decide) (fun c_10 => ?_) (fun c_10 => ?_)
        · have z_c_10 := jc_eq (a := (u (1 + n4)).toInt) (b := 110) c_10 rfl (by decide)
          refine jj_iinc (v := 2) C dX9_isWord_57 rfl (by decide) (by decide) rfl ?_
          refine jj_goto (tgt := 28) C dX9_isWord_60 (by decide) ?_
          refine jj_iload_n C dX9_isWord_28 rfl ?_
          refine jj_aload_n C dX9_isWord_29 rfl ?_
          refine tt_call0Vs (rest := [.int 2]) C (ct_J0_length_8abf5_4 hl D cA ak) 3 (by decide) rfl jw_f27063fded jw_b1ce304435 jw_d08f03a22e jw_4ea6285965 jw_bbc7045666 jn_J0_length_8abf5 rfl (jj_le rfl) (jj_le rfl) (jj_le rfl) (jj_le rfl) (jj_le rfl) dX9_isWord_30 rfl (fun w1 r O_11 => ?_)
          obtain ⟨-, rfl⟩ := O_11
          refine jj_icmp_geF (tgt := 63) C dX9_isWord_33 (by decide) (by decide) ?_
          refine jj_aload_n C dX9_isWord_36 rfl ?_
          refine tt_getF C hok jk_10 0 (by decide) jw_0664e1e086 (t := (2, 11, 0)) hk0 (by decide) rfl rfl hs0 dX9_isWord_37 ?_
          refine jj_aload_n C dX9_isWord_40 rfl ?_
          refine tt_getF C hok jk_10 4 (by decide) jw_66bda6962a (t := (0, 0, 400)) hk0 (by decide) rfl rfl hs4 dX9_isWord_41 ?_
          refine jj_iload_n C dX9_isWord_44 rfl ?_
          refine jj_iadd (v := nI (2 + n4)) C dX9_isWord_45 (rl_addR (kn := 2) (by decide) (by omega)) ?_
          refine tl_caldF C hok (t := (0, (-2147483648), 2147483647)) hk9 (by decide) rfl (k := 2 + n4) (vp_in_nI (by omega) (by decide)) hu (nI_clamp (by omega)) rfl dX9_isWord_46 ?_
          refine jj_aload_n C dX9_isWord_47 rfl ?_
          refine jj_iload_n C dX9_isWord_48 rfl ?_
          refine tt_call0Vs (rest := [.int (u (2 + n4))]) C (ct_J0_charAt_5068e_18 hl D cA ak) 3 (by decide) rfl jw_076e8de8e0 jw_acb9174fef jw_675efe837b jw_4ea6285965 jw_391c0f56bd jn_J0_charAt_5068e rfl (jj_le rfl) (jj_le rfl) (jj_le rfl) (jj_le rfl) (jj_le rfl) dX9_isWord_49 rfl (fun w1 r O_12 => ?_)
          obtain ⟨-, rfl⟩ := O_12
          refine jj_icmp_eq (tgt := 57) C dX9_isWord_52 (by decide) (fun c_13 => ?_) (fun c_13 => ?_)
          · have z_c_13 := jc_eq (a := (u (2 + n4)).toInt) (b := 118) c_13 rfl (by decide)
            refine jj_iinc (v := 3) C dX9_isWord_57 rfl (by decide) (by decide) rfl ?_
            refine jj_goto (tgt := 28) C dX9_isWord_60 (by decide) ?_
            refine jj_iload_n C dX9_isWord_28 rfl ?_
            refine jj_aload_n C dX9_isWord_29 rfl ?_
            refine tt_call0Vs (rest := [.int 3]) C (ct_J0_length_8abf5_4 hl D cA ak) 3 (by decide) rfl jw_f27063fded jw_b1ce304435 jw_d08f03a22e jw_4ea6285965 jw_bbc7045666 jn_J0_length_8abf5 rfl (jj_le rfl) (jj_le rfl) (jj_le rfl) (jj_le rfl) (jj_le rfl) dX9_isWord_30 rfl (fun w1 r O_14 => ?_)
            obtain ⟨-, rfl⟩ := O_14
            refine jj_icmp_geF (tgt := 63) C dX9_isWord_33 (by decide) (by decide) ?_
            refine jj_aload_n C dX9_isWord_36 rfl ?_
            refine tt_getF C hok jk_10 0 (by decide) jw_0664e1e086 (t := (2, 11, 0)) hk0 (by decide) rfl rfl hs0 dX9_isWord_37 ?_
            refine jj_aload_n C dX9_isWord_40 rfl ?_
            refine tt_getF C hok jk_10 4 (by decide) jw_66bda6962a (t := (0, 0, 400)) hk0 (by decide) rfl rfl hs4 dX9_isWord_41 ?_
            refine jj_iload_n C dX9_isWord_44 rfl ?_
            refine jj_iadd (v := nI (3 + n4)) C dX9_isWord_45 (rl_addR (kn := 3) (by decide) (by omega)) ?_
            refine tl_caldF C hok (t := (0, (-2147483648), 2147483647)) hk9 (by decide) rfl (k := 3 + n4) (vp_in_nI (by omega) (by decide)) hu (nI_clamp (by omega)) rfl dX9_isWord_46 ?_
            refine jj_aload_n C dX9_isWord_47 rfl ?_
            refine jj_iload_n C dX9_isWord_48 rfl ?_
            refine tt_call0Vs (rest := [.int (u (3 + n4))]) C (ct_J0_charAt_5068e_19 hl D cA ak) 3 (by decide) rfl jw_076e8de8e0 jw_acb9174fef jw_675efe837b jw_4ea6285965 jw_391c0f56bd jn_J0_charAt_5068e rfl (jj_le rfl) (jj_le rfl) (jj_le rfl) (jj_le rfl) (jj_le rfl) dX9_isWord_49 rfl (fun w1 r O_15 => ?_)
            obtain ⟨-, rfl⟩ := O_15
            refine jj_icmp_eq (tgt := 57) C dX9_isWord_52 (by decide) (fun c_16 => ?_) (fun c_16 => ?_)
            · have z_c_16 := jc_eq (a := (u (3 + n4)).toInt) (b := 101) c_16 rfl (by decide)
              refine jj_iinc (v := 4) C dX9_isWord_57 rfl (by decide) (by decide) rfl ?_
              refine jj_goto (tgt := 28) C dX9_isWord_60 (by decide) ?_
              refine jj_iload_n C dX9_isWord_28 rfl ?_
              refine jj_aload_n C dX9_isWord_29 rfl ?_
              refine tt_call0Vs (rest := [.int 4]) C (ct_J0_length_8abf5_4 hl D cA ak) 3 (by decide) rfl jw_f27063fded jw_b1ce304435 jw_d08f03a22e jw_4ea6285965 jw_bbc7045666 jn_J0_length_8abf5 rfl (jj_le rfl) (jj_le rfl) (jj_le rfl) (jj_le rfl) (jj_le rfl) dX9_isWord_30 rfl (fun w1 r O_17 => ?_)
              obtain ⟨-, rfl⟩ := O_17
              refine jj_icmp_geF (tgt := 63) C dX9_isWord_33 (by decide) (by decide) ?_
              refine jj_aload_n C dX9_isWord_36 rfl ?_
              refine tt_getF C hok jk_10 0 (by decide) jw_0664e1e086 (t := (2, 11, 0)) hk0 (by decide) rfl rfl hs0 dX9_isWord_37 ?_
              refine jj_aload_n C dX9_isWord_40 rfl ?_
              refine tt_getF C hok jk_10 4 (by decide) jw_66bda6962a (t := (0, 0, 400)) hk0 (by decide) rfl rfl hs4 dX9_isWord_41 ?_
              refine jj_iload_n C dX9_isWord_44 rfl ?_
              refine jj_iadd (v := nI (4 + n4)) C dX9_isWord_45 (rl_addR (kn := 4) (by decide) (by omega)) ?_
              refine tl_caldF C hok (t := (0, (-2147483648), 2147483647)) hk9 (by decide) rfl (k := 4 + n4) (vp_in_nI (by omega) (by decide)) hu (nI_clamp (by omega)) rfl dX9_isWord_46 ?_
              refine jj_aload_n C dX9_isWord_47 rfl ?_
              refine jj_iload_n C dX9_isWord_48 rfl ?_
              refine tt_call0Vs (rest := [.int (u (4 + n4))]) C (ct_J0_charAt_5068e_20 hl D cA ak) 3 (by decide) rfl jw_076e8de8e0 jw_acb9174fef jw_675efe837b jw_4ea6285965 jw_391c0f56bd jn_J0_charAt_5068e rfl (jj_le rfl) (jj_le rfl) (jj_le rfl) (jj_le rfl) (jj_le rfl) dX9_isWord_49 rfl (fun w1 r O_18 => ?_)
              obtain ⟨-, rfl⟩ := O_18
              refine jj_icmp_eq (tgt := 57) C dX9_isWord_52 (by decide) (fun c_19 => ?_) (fun c_19 => ?_)
              · have z_c_19 := jc_eq (a := (u (4 + n4)).toInt) (b := 115) c_19 rfl (by decide)
                refine jj_iinc (v := 5) C dX9_isWord_57 rfl (by decide) (by decide) rfl ?_
                refine jj_goto (tgt := 28) C dX9_isWord_60 (by decide) ?_
                refine jj_iload_n C dX9_isWord_28 rfl ?_
                refine jj_aload_n C dX9_isWord_29 rfl ?_
                refine tt_call0Vs (rest := [.int 5]) C (ct_J0_length_8abf5_4 hl D cA ak) 3 (by decide) rfl jw_f27063fded jw_b1ce304435 jw_d08f03a22e jw_4ea6285965 jw_bbc7045666 jn_J0_length_8abf5 rfl (jj_le rfl) (jj_le rfl) (jj_le rfl) (jj_le rfl) (jj_le rfl) dX9_isWord_30 rfl (fun w1 r O_20 => ?_)
                obtain ⟨-, rfl⟩ := O_20
                refine jj_icmp_geF (tgt := 63) C dX9_isWord_33 (by decide) (by decide) ?_
                refine jj_aload_n C dX9_isWord_36 rfl ?_
                refine tt_getF C hok jk_10 0 (by decide) jw_0664e1e086 (t := (2, 11, 0)) hk0 (by decide) rfl rfl hs0 dX9_isWord_37 ?_
                refine jj_aload_n C dX9_isWord_40 rfl ?_
                refine tt_getF C hok jk_10 4 (by decide) jw_66bda6962a (t := (0, 0, 400)) hk0 (by decide) rfl rfl hs4 dX9_isWord_41 ?_
                refine jj_iload_n C dX9_isWord_44 rfl ?_
                refine jj_iadd (v := nI (5 + n4)) C dX9_isWord_45 (rl_addR (kn := 5) (by decide) (by omega)) ?_
                refine tl_caldF C hok (t := (0, (-2147483648), 2147483647)) hk9 (by decide) rfl (k := 5 + n4) (vp_in_nI (by omega) (by decide)) hu (nI_clamp (by omega)) rfl dX9_isWord_46 ?_
                refine jj_aload_n C dX9_isWord_47 rfl ?_
                refine jj_iload_n C dX9_isWord_48 rfl ?_
                refine tt_call0Vs (rest := [.int (u (5 + n4))]) C (ct_J0_charAt_5068e_21 hl D cA ak) 3 (by decide) rfl jw_076e8de8e0 jw_acb9174fef jw_675efe837b jw_4ea6285965 jw_391c0f56bd jn_J0_charAt_5068e rfl (jj_le rfl) (jj_le rfl) (jj_le rfl) (jj_le rfl) (jj_le rfl) dX9_isWord_49 rfl (fun w1 r O_21 => ?_)
                obtain ⟨-, rfl⟩ := O_21
                refine jj_icmp_eq (tgt := 57) C dX9_isWord_52 (by decide) (fun c_22 => ?_) (fun c_22 => ?_)
                · have z_c_22 := jc_eq (a := (u (5 + n4)).toInt) (b := 116) c_22 rfl (by decide)
                  refine jj_iinc (v := 6) C dX9_isWord_57 rfl (by decide) (by decide) rfl ?_
                  refine jj_goto (tgt := 28) C dX9_isWord_60 (by decide) ?_
                  refine jj_iload_n C dX9_isWord_28 rfl ?_
                  refine jj_aload_n C dX9_isWord_29 rfl ?_
                  refine tt_call0Vs (rest := [.int 6]) C (ct_J0_length_8abf5_4 hl D cA ak) 3 (by decide) rfl jw_f27063fded jw_b1ce304435 jw_d08f03a22e jw_4ea6285965 jw_bbc7045666 jn_J0_length_8abf5 rfl (jj_le rfl) (jj_le rfl) (jj_le rfl) (jj_le rfl) (jj_le rfl) dX9_isWord_30 rfl (fun w1 r O_23 => ?_)
                  obtain ⟨-, rfl⟩ := O_23
                  refine jj_icmp_geF (tgt := 63) C dX9_isWord_33 (by decide) (by decide) ?_
                  refine jj_aload_n C dX9_isWord_36 rfl ?_
                  refine tt_getF C hok jk_10 0 (by decide) jw_0664e1e086 (t := (2, 11, 0)) hk0 (by decide) rfl rfl hs0 dX9_isWord_37 ?_
                  refine jj_aload_n C dX9_isWord_40 rfl ?_
                  refine tt_getF C hok jk_10 4 (by decide) jw_66bda6962a (t := (0, 0, 400)) hk0 (by decide) rfl rfl hs4 dX9_isWord_41 ?_
                  refine jj_iload_n C dX9_isWord_44 rfl ?_
                  refine jj_iadd (v := nI (6 + n4)) C dX9_isWord_45 (rl_addR (kn := 6) (by decide) (by omega)) ?_
                  refine tl_caldF C hok (t := (0, (-2147483648), 2147483647)) hk9 (by decide) rfl (k := 6 + n4) (vp_in_nI (by omega) (by decide)) hu (nI_clamp (by omega)) rfl dX9_isWord_46 ?_
                  refine jj_aload_n C dX9_isWord_47 rfl ?_
                  refine jj_iload_n C dX9_isWord_48 rfl ?_
                  refine tt_call0Vs (rest := [.int (u (6 + n4))]) C (ct_J0_charAt_5068e_22 hl D cA ak) 3 (by decide) rfl jw_076e8de8e0 jw_acb9174fef jw_675efe837b jw_4ea6285965 jw_391c0f56bd jn_J0_charAt_5068e rfl (jj_le rfl) (jj_le rfl) (jj_le rfl) (jj_le rfl) (jj_le rfl) dX9_isWord_49 rfl (fun w1 r O_24 => ?_)
                  obtain ⟨-, rfl⟩ := O_24
                  refine jj_icmp_eq (tgt := 57) C dX9_isWord_52 (by decide) (fun c_25 => ?_) (fun c_25 => ?_)
                  · have z_c_25 := jc_eq (a := (u (6 + n4)).toInt) (b := 111) c_25 rfl (by decide)
                    refine jj_iinc (v := 7) C dX9_isWord_57 rfl (by decide) (by decide) rfl ?_
                    refine jj_goto (tgt := 28) C dX9_isWord_60 (by decide) ?_
                    refine jj_iload_n C dX9_isWord_28 rfl ?_
                    refine jj_aload_n C dX9_isWord_29 rfl ?_
                    refine tt_call0Vs (rest := [.int 7]) C (ct_J0_length_8abf5_4 hl D cA ak) 3 (by decide) rfl jw_f27063fded jw_b1ce304435 jw_d08f03a22e jw_4ea6285965 jw_bbc7045666 jn_J0_length_8abf5 rfl (jj_le rfl) (jj_le rfl) (jj_le rfl) (jj_le rfl) (jj_le rfl) dX9_isWord_30 rfl (fun w1 r O_26 => ?_)
                    obtain ⟨-, rfl⟩ := O_26
                    refine jj_icmp_geF (tgt := 63) C dX9_isWord_33 (by decide) (by decide) ?_
                    refine jj_aload_n C dX9_isWord_36 rfl ?_
                    refine tt_getF C hok jk_10 0 (by decide) jw_0664e1e086 (t := (2, 11, 0)) hk0 (by decide) rfl rfl hs0 dX9_isWord_37 ?_
                    refine jj_aload_n C dX9_isWord_40 rfl ?_
                    refine tt_getF C hok jk_10 4 (by decide) jw_66bda6962a (t := (0, 0, 400)) hk0 (by decide) rfl rfl hs4 dX9_isWord_41 ?_
                    refine jj_iload_n C dX9_isWord_44 rfl ?_
                    refine jj_iadd (v := nI (7 + n4)) C dX9_isWord_45 (rl_addR (kn := 7) (by decide) (by omega)) ?_
                    refine tl_caldF C hok (t := (0, (-2147483648), 2147483647)) hk9 (by decide) rfl (k := 7 + n4) (vp_in_nI (by omega) (by decide)) hu (nI_clamp (by omega)) rfl dX9_isWord_46 ?_
                    refine jj_aload_n C dX9_isWord_47 rfl ?_
                    refine jj_iload_n C dX9_isWord_48 rfl ?_
                    refine tt_call0Vs (rest := [.int (u (7 + n4))]) C (ct_J0_charAt_5068e_23 hl D cA ak) 3 (by decide) rfl jw_076e8de8e0 jw_acb9174fef jw_675efe837b jw_4ea6285965 jw_391c0f56bd jn_J0_charAt_5068e rfl (jj_le rfl) (jj_le rfl) (jj_le rfl) (jj_le rfl) (jj_le rfl) dX9_isWord_49 rfl (fun w1 r O_27 => ?_)
                    obtain ⟨-, rfl⟩ := O_27
                    refine jj_icmp_eq (tgt := 57) C dX9_isWord_52 (by decide) (fun c_28 => ?_) (fun c_28 => ?_)
                    · have z_c_28 := jc_eq (a := (u (7 + n4)).toInt) (b := 114) c_28 rfl (by decide)
                      refine jj_iinc (v := 8) C dX9_isWord_57 rfl (by decide) (by decide) rfl ?_
                      refine jj_goto (tgt := 28) C dX9_isWord_60 (by decide) ?_
                      refine jj_iload_n C dX9_isWord_28 rfl ?_
                      refine jj_aload_n C dX9_isWord_29 rfl ?_
                      refine tt_call0Vs (rest := [.int 8]) C (ct_J0_length_8abf5_4 hl D cA ak) 3 (by decide) rfl jw_f27063fded jw_b1ce304435 jw_d08f03a22e jw_4ea6285965 jw_bbc7045666 jn_J0_length_8abf5 rfl (jj_le rfl) (jj_le rfl) (jj_le rfl) (jj_le rfl) (jj_le rfl) dX9_isWord_30 rfl (fun w1 r O_29 => ?_)
                      obtain ⟨-, rfl⟩ := O_29
                      refine jj_icmp_geF (tgt := 63) C dX9_isWord_33 (by decide) (by decide) ?_
                      refine jj_aload_n C dX9_isWord_36 rfl ?_
                      refine tt_getF C hok jk_10 0 (by decide) jw_0664e1e086 (t := (2, 11, 0)) hk0 (by decide) rfl rfl hs0 dX9_isWord_37 ?_
                      refine jj_aload_n C dX9_isWord_40 rfl ?_
                      refine tt_getF C hok jk_10 4 (by decide) jw_66bda6962a (t := (0, 0, 400)) hk0 (by decide) rfl rfl hs4 dX9_isWord_41 ?_
                      refine jj_iload_n C dX9_isWord_44 rfl ?_
                      refine jj_iadd (v := nI (8 + n4)) C dX9_isWord_45 (rl_addR (kn := 8) (by decide) (by omega)) ?_
                      refine tl_caldF C hok (t := (0, (-2147483648), 2147483647)) hk9 (by decide) rfl (k := 8 + n4) (vp_in_nI (by omega) (by decide)) hu (nI_clamp (by omega)) rfl dX9_isWord_46 ?_
                      refine jj_aload_n C dX9_isWord_47 rfl ?_
                      refine jj_iload_n C dX9_isWord_48 rfl ?_
                      refine tt_call0Vs (rest := [.int (u (8 + n4))]) C (ct_J0_charAt_5068e_24 hl D cA ak) 3 (by decide) rfl jw_076e8de8e0 jw_acb9174fef jw_675efe837b jw_4ea6285965 jw_391c0f56bd jn_J0_charAt_5068e rfl (jj_le rfl) (jj_le rfl) (jj_le rfl) (jj_le rfl) (jj_le rfl) dX9_isWord_49 rfl (fun w1 r O_30 => ?_)
                      obtain ⟨-, rfl⟩ := O_30
                      refine jj_icmp_eq (tgt := 57) C dX9_isWord_52 (by decide) (fun c_31 => ?_) (fun c_31 => ?_)
                      · have z_c_31 := jc_eq (a := (u (8 + n4)).toInt) (b := 115) c_31 rfl (by decide)
                        refine jj_iinc (v := 9) C dX9_isWord_57 rfl (by decide) (by decide) rfl ?_
                        refine jj_goto (tgt := 28) C dX9_isWord_60 (by decide) ?_
                        refine jj_iload_n C dX9_isWord_28 rfl ?_
                        refine jj_aload_n C dX9_isWord_29 rfl ?_
                        refine tt_call0Vs (rest := [.int 9]) C (ct_J0_length_8abf5_4 hl D cA ak) 3 (by decide) rfl jw_f27063fded jw_b1ce304435 jw_d08f03a22e jw_4ea6285965 jw_bbc7045666 jn_J0_length_8abf5 rfl (jj_le rfl) (jj_le rfl) (jj_le rfl) (jj_le rfl) (jj_le rfl) dX9_isWord_30 rfl (fun w1 r O_32 => ?_)
                        obtain ⟨-, rfl⟩ := O_32
                        refine jj_icmp_geT (tgt := 63) C dX9_isWord_33 (by decide) (by decide) ?_
                        refine jj_iconst (v := 1) C dX9_isWord_63 (by decide) ?_
                        exact jj_zret C rfl ⟨[], pl0, rfl, rfl, hok, hfr, hfa, (Or.inr ⟨ps_alls.isw ⟨(show c n4 = 105 from by have q9 := hc n4 (by omega); omega), (show c (n4 + 1) = 110 from by rw [Nat.add_comm n4 1]; have q9 := hc (1 + n4) (by omega); omega), (show c (n4 + 2) = 118 from by rw [Nat.add_comm n4 2]; have q9 := hc (2 + n4) (by omega); omega), (show c (n4 + 3) = 101 from by rw [Nat.add_comm n4 3]; have q9 := hc (3 + n4) (by omega); omega), (show c (n4 + 4) = 115 from by rw [Nat.add_comm n4 4]; have q9 := hc (4 + n4) (by omega); omega), (show c (n4 + 5) = 116 from by rw [Nat.add_comm n4 5]; have q9 := hc (5 + n4) (by omega); omega), (show c (n4 + 6) = 111 from by rw [Nat.add_comm n4 6]; have q9 := hc (6 + n4) (by omega); omega), (show c (n4 + 7) = 114 from by rw [Nat.add_comm n4 7]; have q9 := hc (7 + n4) (by omega); omega), (show c (n4 + 8) = 115 from by rw [Nat.add_comm n4 8]; have q9 := hc (8 + n4) (by omega); omega), trivial⟩ (show n3 = n4 + 9 from by omega), rfl⟩)⟩ dX9_isWord_64 (jj_le rfl) (jj_le rfl)
                      · have z_c_31 := jc_neq (a := (u (8 + n4)).toInt) (b := 115) c_31 rfl (by decide)
                        refine jj_iconst (v := 0) C dX9_isWord_55 (by decide) ?_
                        exact jj_zret C rfl ⟨[], pl0, rfl, rfl, hok, hfr, hfa, (Or.inl ⟨fun q => by first | (have q1 : n3 = n4 + 9 := q.1; omega) | (have q1 : n3 = n4 + 9 := q.1; have q2 : c n4 = 105 := q.2 0 (by decide); have q9 := hc n4 (by omega); omega) | (have q1 : n3 = n4 + 9 := q.1; have q2 : c (n4 + 1) = 110 := q.2 1 (by decide); rw [Nat.add_comm n4 1] at q2; have q9 := hc (1 + n4) (by omega); omega) | (have q1 : n3 = n4 + 9 := q.1; have q2 : c (n4 + 2) = 118 := q.2 2 (by decide); rw [Nat.add_comm n4 2] at q2; have q9 := hc (2 + n4) (by omega); omega) | (have q1 : n3 = n4 + 9 := q.1; have q2 : c (n4 + 3) = 101 := q.2 3 (by decide); rw [Nat.add_comm n4 3] at q2; have q9 := hc (3 + n4) (by omega); omega) | (have q1 : n3 = n4 + 9 := q.1; have q2 : c (n4 + 4) = 115 := q.2 4 (by decide); rw [Nat.add_comm n4 4] at q2; have q9 := hc (4 + n4) (by omega); omega) | (have q1 : n3 = n4 + 9 := q.1; have q2 : c (n4 + 5) = 116 := q.2 5 (by decide); rw [Nat.add_comm n4 5] at q2; have q9 := hc (5 + n4) (by omega); omega) | (have q1 : n3 = n4 + 9 := q.1; have q2 : c (n4 + 6) = 111 := q.2 6 (by decide); rw [Nat.add_comm n4 6] at q2; have q9 := hc (6 + n4) (by omega); omega) | (have q1 : n3 = n4 + 9 := q.1; have q2 : c (n4 + 7) = 114 := q.2 7 (by decide); rw [Nat.add_comm n4 7] at q2; have q9 := hc (7 + n4) (by omega); omega) | (have q1 : n3 = n4 + 9 := q.1; have q2 : c (n4 + 8) = 115 := q.2 8 (by decide); rw [Nat.add_comm n4 8] at q2; have q9 := hc (8 + n4) (by omega); omega), rfl⟩)⟩ dX9_isWord_56 (jj_le rfl) (jj_le rfl)
                    · have z_c_28 := jc_neq (a := (u (7 + n4)).toInt) (b := 114) c_28 rfl (by decide)
                      refine jj_iconst (v := 0) C dX9_isWord_55 (by decide) ?_
                      exact jj_zret C rfl ⟨[], pl0, rfl, rfl, hok, hfr, hfa, (Or.inl ⟨fun q => by first | (have q1 : n3 = n4 + 9 := q.1; omega) | (have q1 : n3 = n4 + 9 := q.1; have q2 : c n4 = 105 := q.2 0 (by decide); have q9 := hc n4 (by omega); omega) | (have q1 : n3 = n4 + 9 := q.1; have q2 : c (n4 + 1) = 110 := q.2 1 (by decide); rw [Nat.add_comm n4 1] at q2; have q9 := hc (1 + n4) (by omega); omega) | (have q1 : n3 = n4 + 9 := q.1; have q2 : c (n4 + 2) = 118 := q.2 2 (by decide); rw [Nat.add_comm n4 2] at q2; have q9 := hc (2 + n4) (by omega); omega) | (have q1 : n3 = n4 + 9 := q.1; have q2 : c (n4 + 3) = 101 := q.2 3 (by decide); rw [Nat.add_comm n4 3] at q2; have q9 := hc (3 + n4) (by omega); omega) | (have q1 : n3 = n4 + 9 := q.1; have q2 : c (n4 + 4) = 115 := q.2 4 (by decide); rw [Nat.add_comm n4 4] at q2; have q9 := hc (4 + n4) (by omega); omega) | (have q1 : n3 = n4 + 9 := q.1; have q2 : c (n4 + 5) = 116 := q.2 5 (by decide); rw [Nat.add_comm n4 5] at q2; have q9 := hc (5 + n4) (by omega); omega) | (have q1 : n3 = n4 + 9 := q.1; have q2 : c (n4 + 6) = 111 := q.2 6 (by decide); rw [Nat.add_comm n4 6] at q2; have q9 := hc (6 + n4) (by omega); omega) | (have q1 : n3 = n4 + 9 := q.1; have q2 : c (n4 + 7) = 114 := q.2 7 (by decide); rw [Nat.add_comm n4 7] at q2; have q9 := hc (7 + n4) (by omega); omega) | (have q1 : n3 = n4 + 9 := q.1; have q2 : c (n4 + 8) = 115 := q.2 8 (by decide); rw [Nat.add_comm n4 8] at q2; have q9 := hc (8 + n4) (by omega); omega), rfl⟩)⟩ dX9_isWord_56 (jj_le rfl) (jj_le rfl)
                  · have z_c_25 := jc_neq (a := (u (6 + n4)).toInt) (b := 111) c_25 rfl (by decide)
                    refine jj_iconst (v := 0) C dX9_isWord_55 (by decide) ?_
                    exact jj_zret C rfl ⟨[], pl0, rfl, rfl, hok, hfr, hfa, (Or.inl ⟨fun q => by first | (have q1 : n3 = n4 + 9 := q.1; omega) | (have q1 : n3 = n4 + 9 := q.1; have q2 : c n4 = 105 := q.2 0 (by decide); have q9 := hc n4 (by omega); omega) | (have q1 : n3 = n4 + 9 := q.1; have q2 : c (n4 + 1) = 110 := q.2 1 (by decide); rw [Nat.add_comm n4 1] at q2; have q9 := hc (1 + n4) (by omega); omega) | (have q1 : n3 = n4 + 9 := q.1; have q2 : c (n4 + 2) = 118 := q.2 2 (by decide); rw [Nat.add_comm n4 2] at q2; have q9 := hc (2 + n4) (by omega); omega) | (have q1 : n3 = n4 + 9 := q.1; have q2 : c (n4 + 3) = 101 := q.2 3 (by decide); rw [Nat.add_comm n4 3] at q2; have q9 := hc (3 + n4) (by omega); omega) | (have q1 : n3 = n4 + 9 := q.1; have q2 : c (n4 + 4) = 115 := q.2 4 (by decide); rw [Nat.add_comm n4 4] at q2; have q9 := hc (4 + n4) (by omega); omega) | (have q1 : n3 = n4 + 9 := q.1; have q2 : c (n4 + 5) = 116 := q.2 5 (by decide); rw [Nat.add_comm n4 5] at q2; have q9 := hc (5 + n4) (by omega); omega) | (have q1 : n3 = n4 + 9 := q.1; have q2 : c (n4 + 6) = 111 := q.2 6 (by decide); rw [Nat.add_comm n4 6] at q2; have q9 := hc (6 + n4) (by omega); omega) | (have q1 : n3 = n4 + 9 := q.1; have q2 : c (n4 + 7) = 114 := q.2 7 (by decide); rw [Nat.add_comm n4 7] at q2; have q9 := hc (7 + n4) (by omega); omega) | (have q1 : n3 = n4 + 9 := q.1; have q2 : c (n4 + 8) = 115 := q.2 8 (by decide); rw [Nat.add_comm n4 8] at q2; have q9 := hc (8 + n4) (by omega); omega), rfl⟩)⟩ dX9_isWord_56 (jj_le rfl) (jj_le rfl)
                · have z_c_22 := jc_neq (a := (u (5 + n4)).toInt) (b := 116) c_22 rfl (by decide)
                  refine jj_iconst (v := 0) C dX9_isWord_55 (by decide) ?_
                  exact jj_zret C rfl ⟨[], pl0, rfl, rfl, hok, hfr, hfa, (Or.inl ⟨fun q => by first | (have q1 : n3 = n4 + 9 := q.1; omega) | (have q1 : n3 = n4 + 9 := q.1; have q2 : c n4 = 105 := q.2 0 (by decide); have q9 := hc n4 (by omega); omega) | (have q1 : n3 = n4 + 9 := q.1; have q2 : c (n4 + 1) = 110 := q.2 1 (by decide); rw [Nat.add_comm n4 1] at q2; have q9 := hc (1 + n4) (by omega); omega) | (have q1 : n3 = n4 + 9 := q.1; have q2 : c (n4 + 2) = 118 := q.2 2 (by decide); rw [Nat.add_comm n4 2] at q2; have q9 := hc (2 + n4) (by omega); omega) | (have q1 : n3 = n4 + 9 := q.1; have q2 : c (n4 + 3) = 101 := q.2 3 (by decide); rw [Nat.add_comm n4 3] at q2; have q9 := hc (3 + n4) (by omega); omega) | (have q1 : n3 = n4 + 9 := q.1; have q2 : c (n4 + 4) = 115 := q.2 4 (by decide); rw [Nat.add_comm n4 4] at q2; have q9 := hc (4 + n4) (by omega); omega) | (have q1 : n3 = n4 + 9 := q.1; have q2 : c (n4 + 5) = 116 := q.2 5 (by decide); rw [Nat.add_comm n4 5] at q2; have q9 := hc (5 + n4) (by omega); omega) | (have q1 : n3 = n4 + 9 := q.1; have q2 : c (n4 + 6) = 111 := q.2 6 (by decide); rw [Nat.add_comm n4 6] at q2; have q9 := hc (6 + n4) (by omega); omega) | (have q1 : n3 = n4 + 9 := q.1; have q2 : c (n4 + 7) = 114 := q.2 7 (by decide); rw [Nat.add_comm n4 7] at q2; have q9 := hc (7 + n4) (by omega); omega) | (have q1 : n3 = n4 + 9 := q.1; have q2 : c (n4 + 8) = 115 := q.2 8 (by decide); rw [Nat.add_comm n4 8] at q2; have q9 := hc (8 + n4) (by omega); omega), rfl⟩)⟩ dX9_isWord_56 (jj_le rfl) (jj_le rfl)
              · have z_c_19 := jc_neq (a := (u (4 + n4)).toInt) (b := 115) c_19 rfl (by decide)
                refine jj_iconst (v := 0) C dX9_isWord_55 (by decide) ?_
                exact jj_zret C rfl ⟨[], pl0, rfl, rfl, hok, hfr, hfa, (Or.inl ⟨fun q => by first | (have q1 : n3 = n4 + 9 := q.1; omega) | (have q1 : n3 = n4 + 9 := q.1; have q2 : c n4 = 105 := q.2 0 (by decide); have q9 := hc n4 (by omega); omega) | (have q1 : n3 = n4 + 9 := q.1; have q2 : c (n4 + 1) = 110 := q.2 1 (by decide); rw [Nat.add_comm n4 1] at q2; have q9 := hc (1 + n4) (by omega); omega) | (have q1 : n3 = n4 + 9 := q.1; have q2 : c (n4 + 2) = 118 := q.2 2 (by decide); rw [Nat.add_comm n4 2] at q2; have q9 := hc (2 + n4) (by omega); omega) | (have q1 : n3 = n4 + 9 := q.1; have q2 : c (n4 + 3) = 101 := q.2 3 (by decide); rw [Nat.add_comm n4 3] at q2; have q9 := hc (3 + n4) (by omega); omega) | (have q1 : n3 = n4 + 9 := q.1; have q2 : c (n4 + 4) = 115 := q.2 4 (by decide); rw [Nat.add_comm n4 4] at q2; have q9 := hc (4 + n4) (by omega); omega) | (have q1 : n3 = n4 + 9 := q.1; have q2 : c (n4 + 5) = 116 := q.2 5 (by decide); rw [Nat.add_comm n4 5] at q2; have q9 := hc (5 + n4) (by omega); omega) | (have q1 : n3 = n4 + 9 := q.1; have q2 : c (n4 + 6) = 111 := q.2 6 (by decide); rw [Nat.add_comm n4 6] at q2; have q9 := hc (6 + n4) (by omega); omega) | (have q1 : n3 = n4 + 9 := q.1; have q2 : c (n4 + 7) = 114 := q.2 7 (by decide); rw [Nat.add_comm n4 7] at q2; have q9 := hc (7 + n4) (by omega); omega) | (have q1 : n3 = n4 + 9 := q.1; have q2 : c (n4 + 8) = 115 := q.2 8 (by decide); rw [Nat.add_comm n4 8] at q2; have q9 := hc (8 + n4) (by omega); omega), rfl⟩)⟩ dX9_isWord_56 (jj_le rfl) (jj_le rfl)
            · have z_c_16 := jc_neq (a := (u (3 + n4)).toInt) (b := 101) c_16 rfl (by decide)
              refine jj_iconst (v := 0) C dX9_isWord_55 (by decide) ?_
              exact jj_zret C rfl ⟨[], pl0, rfl, rfl, hok, hfr, hfa, (Or.inl ⟨fun q => by first | (have q1 : n3 = n4 + 9 := q.1; omega) | (have q1 : n3 = n4 + 9 := q.1; have q2 : c n4 = 105 := q.2 0 (by decide); have q9 := hc n4 (by omega); omega) | (have q1 : n3 = n4 + 9 := q.1; have q2 : c (n4 + 1) = 110 := q.2 1 (by decide); rw [Nat.add_comm n4 1] at q2; have q9 := hc (1 + n4) (by omega); omega) | (have q1 : n3 = n4 + 9 := q.1; have q2 : c (n4 + 2) = 118 := q.2 2 (by decide); rw [Nat.add_comm n4 2] at q2; have q9 := hc (2 + n4) (by omega); omega) | (have q1 : n3 = n4 + 9 := q.1; have q2 : c (n4 + 3) = 101 := q.2 3 (by decide); rw [Nat.add_comm n4 3] at q2; have q9 := hc (3 + n4) (by omega); omega) | (have q1 : n3 = n4 + 9 := q.1; have q2 : c (n4 + 4) = 115 := q.2 4 (by decide); rw [Nat.add_comm n4 4] at q2; have q9 := hc (4 + n4) (by omega); omega) | (have q1 : n3 = n4 + 9 := q.1; have q2 : c (n4 + 5) = 116 := q.2 5 (by decide); rw [Nat.add_comm n4 5] at q2; have q9 := hc (5 + n4) (by omega); omega) | (have q1 : n3 = n4 + 9 := q.1; have q2 : c (n4 + 6) = 111 := q.2 6 (by decide); rw [Nat.add_comm n4 6] at q2; have q9 := hc (6 + n4) (by omega); omega) | (have q1 : n3 = n4 + 9 := q.1; have q2 : c (n4 + 7) = 114 := q.2 7 (by decide); rw [Nat.add_comm n4 7] at q2; have q9 := hc (7 + n4) (by omega); omega) | (have q1 : n3 = n4 + 9 := q.1; have q2 : c (n4 + 8) = 115 := q.2 8 (by decide); rw [Nat.add_comm n4 8] at q2; have q9 := hc (8 + n4) (by omega); omega), rfl⟩)⟩ dX9_isWord_56 (jj_le rfl) (jj_le rfl)
          · have z_c_13 := jc_neq (a := (u (2 + n4)).toInt) (b := 118) c_13 rfl (by decide)
            refine jj_iconst (v := 0) C dX9_isWord_55 (by decide) ?_
            exact jj_zret C rfl ⟨[], pl0, rfl, rfl, hok, hfr, hfa, (Or.inl ⟨fun q => by first | (have q1 : n3 = n4 + 9 := q.1; omega) | (have q1 : n3 = n4 + 9 := q.1; have q2 : c n4 = 105 := q.2 0 (by decide); have q9 := hc n4 (by omega); omega) | (have q1 : n3 = n4 + 9 := q.1; have q2 : c (n4 + 1) = 110 := q.2 1 (by decide); rw [Nat.add_comm n4 1] at q2; have q9 := hc (1 + n4) (by omega); omega) | (have q1 : n3 = n4 + 9 := q.1; have q2 : c (n4 + 2) = 118 := q.2 2 (by decide); rw [Nat.add_comm n4 2] at q2; have q9 := hc (2 + n4) (by omega); omega) | (have q1 : n3 = n4 + 9 := q.1; have q2 : c (n4 + 3) = 101 := q.2 3 (by decide); rw [Nat.add_comm n4 3] at q2; have q9 := hc (3 + n4) (by omega); omega) | (have q1 : n3 = n4 + 9 := q.1; have q2 : c (n4 + 4) = 115 := q.2 4 (by decide); rw [Nat.add_comm n4 4] at q2; have q9 := hc (4 + n4) (by omega); omega) | (have q1 : n3 = n4 + 9 := q.1; have q2 : c (n4 + 5) = 116 := q.2 5 (by decide); rw [Nat.add_comm n4 5] at q2; have q9 := hc (5 + n4) (by omega); omega) | (have q1 : n3 = n4 + 9 := q.1; have q2 : c (n4 + 6) = 111 := q.2 6 (by decide); rw [Nat.add_comm n4 6] at q2; have q9 := hc (6 + n4) (by omega); omega) | (have q1 : n3 = n4 + 9 := q.1; have q2 : c (n4 + 7) = 114 := q.2 7 (by decide); rw [Nat.add_comm n4 7] at q2; have q9 := hc (7 + n4) (by omega); omega) | (have q1 : n3 = n4 + 9 := q.1; have q2 : c (n4 + 8) = 115 := q.2 8 (by decide); rw [Nat.add_comm n4 8] at q2; have q9 := hc (8 + n4) (by omega); omega), rfl⟩)⟩ dX9_isWord_56 (jj_le rfl) (jj_le rfl)
        · have z_c_10 := jc_neq (a := (u (1 + n4)).toInt) (b := 110) c_10 rfl (by decide)
          refine jj_iconst (v := 0) C dX9_isWord_55 (by decide) ?_
          exact jj_zret C rfl ⟨[], pl0, rfl, rfl, hok, hfr, hfa, (Or.inl ⟨fun q => by first | (have q1 : n3 = n4 + 9 := q.1; omega) | (have q1 : n3 = n4 + 9 := q.1; have q2 : c n4 = 105 := q.2 0 (by decide); have q9 := hc n4 (by omega); omega) | (have q1 : n3 = n4 + 9 := q.1; have q2 : c (n4 + 1) = 110 := q.2 1 (by decide); rw [Nat.add_comm n4 1] at q2; have q9 := hc (1 + n4) (by omega); omega) | (have q1 : n3 = n4 + 9 := q.1; have q2 : c (n4 + 2) = 118 := q.2 2 (by decide); rw [Nat.add_comm n4 2] at q2; have q9 := hc (2 + n4) (by omega); omega) | (have q1 : n3 = n4 + 9 := q.1; have q2 : c (n4 + 3) = 101 := q.2 3 (by decide); rw [Nat.add_comm n4 3] at q2; have q9 := hc (3 + n4) (by omega); omega) | (have q1 : n3 = n4 + 9 := q.1; have q2 : c (n4 + 4) = 115 := q.2 4 (by decide); rw [Nat.add_comm n4 4] at q2; have q9 := hc (4 + n4) (by omega); omega) | (have q1 : n3 = n4 + 9 := q.1; have q2 : c (n4 + 5) = 116 := q.2 5 (by decide); rw [Nat.add_comm n4 5] at q2; have q9 := hc (5 + n4) (by omega); omega) | (have q1 : n3 = n4 + 9 := q.1; have q2 : c (n4 + 6) = 111 := q.2 6 (by decide); rw [Nat.add_comm n4 6] at q2; have q9 := hc (6 + n4) (by omega); omega) | (have q1 : n3 = n4 + 9 := q.1; have q2 : c (n4 + 7) = 114 := q.2 7 (by decide); rw [Nat.add_comm n4 7] at q2; have q9 := hc (7 + n4) (by omega); omega) | (have q1 : n3 = n4 + 9 := q.1; have q2 : c (n4 + 8) = 115 := q.2 8 (by decide); rw [Nat.add_comm n4 8] at q2; have q9 := hc (8 + n4) (by omega); omega), rfl⟩)⟩ dX9_isWord_56 (jj_le rfl) (jj_le rfl)
      · have z_c_7 := jc_neq (a := (u n4).toInt) (b := 105) c_7 rfl (by decide)
        refine jj_iconst (v := 0) C dX9_isWord_55 (by decide) ?_
        exact jj_zret C rfl ⟨[], pl0, rfl, rfl, hok, hfr, hfa, (Or.inl ⟨fun q => by first | (have q1 : n3 = n4 + 9 := q.1; omega) | (have q1 : n3 = n4 + 9 := q.1; have q2 : c n4 = 105 := q.2 0 (by decide); have q9 := hc n4 (by omega); omega) | (have q1 : n3 = n4 + 9 := q.1; have q2 : c (n4 + 1) = 110 := q.2 1 (by decide); rw [Nat.add_comm n4 1] at q2; have q9 := hc (1 + n4) (by omega); omega) | (have q1 : n3 = n4 + 9 := q.1; have q2 : c (n4 + 2) = 118 := q.2 2 (by decide); rw [Nat.add_comm n4 2] at q2; have q9 := hc (2 + n4) (by omega); omega) | (have q1 : n3 = n4 + 9 := q.1; have q2 : c (n4 + 3) = 101 := q.2 3 (by decide); rw [Nat.add_comm n4 3] at q2; have q9 := hc (3 + n4) (by omega); omega) | (have q1 : n3 = n4 + 9 := q.1; have q2 : c (n4 + 4) = 115 := q.2 4 (by decide); rw [Nat.add_comm n4 4] at q2; have q9 := hc (4 + n4) (by omega); omega) | (have q1 : n3 = n4 + 9 := q.1; have q2 : c (n4 + 5) = 116 := q.2 5 (by decide); rw [Nat.add_comm n4 5] at q2; have q9 := hc (5 + n4) (by omega); omega) | (have q1 : n3 = n4 + 9 := q.1; have q2 : c (n4 + 6) = 111 := q.2 6 (by decide); rw [Nat.add_comm n4 6] at q2; have q9 := hc (6 + n4) (by omega); omega) | (have q1 : n3 = n4 + 9 := q.1; have q2 : c (n4 + 7) = 114 := q.2 7 (by decide); rw [Nat.add_comm n4 7] at q2; have q9 := hc (7 + n4) (by omega); omega) | (have q1 : n3 = n4 + 9 := q.1; have q2 : c (n4 + 8) = 115 := q.2 8 (by decide); rw [Nat.add_comm n4 8] at q2; have q9 := hc (8 + n4) (by omega); omega), rfl⟩)⟩ dX9_isWord_56 (jj_le rfl) (jj_le rfl)
    · have z_c_4 := jc_neq (a := x_2.toInt) (b := 9) c_4 rfl (by decide)
      refine jj_iconst (v := 0) C dX9_isWord_24 (by decide) ?_
      exact jj_zret C rfl ⟨[], pl0, rfl, rfl, hok, hfr, hfa, (Or.inl ⟨fun q => by first | (have q1 : n3 = n4 + 9 := q.1; omega) | (have q1 : n3 = n4 + 9 := q.1; have q2 : c n4 = 105 := q.2 0 (by decide); have q9 := hc n4 (by omega); omega) | (have q1 : n3 = n4 + 9 := q.1; have q2 : c (n4 + 1) = 110 := q.2 1 (by decide); rw [Nat.add_comm n4 1] at q2; have q9 := hc (1 + n4) (by omega); omega) | (have q1 : n3 = n4 + 9 := q.1; have q2 : c (n4 + 2) = 118 := q.2 2 (by decide); rw [Nat.add_comm n4 2] at q2; have q9 := hc (2 + n4) (by omega); omega) | (have q1 : n3 = n4 + 9 := q.1; have q2 : c (n4 + 3) = 101 := q.2 3 (by decide); rw [Nat.add_comm n4 3] at q2; have q9 := hc (3 + n4) (by omega); omega) | (have q1 : n3 = n4 + 9 := q.1; have q2 : c (n4 + 4) = 115 := q.2 4 (by decide); rw [Nat.add_comm n4 4] at q2; have q9 := hc (4 + n4) (by omega); omega) | (have q1 : n3 = n4 + 9 := q.1; have q2 : c (n4 + 5) = 116 := q.2 5 (by decide); rw [Nat.add_comm n4 5] at q2; have q9 := hc (5 + n4) (by omega); omega) | (have q1 : n3 = n4 + 9 := q.1; have q2 : c (n4 + 6) = 111 := q.2 6 (by decide); rw [Nat.add_comm n4 6] at q2; have q9 := hc (6 + n4) (by omega); omega) | (have q1 : n3 = n4 + 9 := q.1; have q2 : c (n4 + 7) = 114 := q.2 7 (by decide); rw [Nat.add_comm n4 7] at q2; have q9 := hc (7 + n4) (by omega); omega) | (have q1 : n3 = n4 + 9 := q.1; have q2 : c (n4 + 8) = 115 := q.2 8 (by decide); rw [Nat.add_comm n4 8] at q2; have q9 := hc (8 + n4) (by omega); omega), rfl⟩)⟩ dX9_isWord_25 (jj_le rfl) (jj_le rfl)

set_option maxHeartbeats 4000000 in
set_option maxRecDepth 100000 in
theorem te_isWord_subscribe {l : Launch} (hl : l.stackTraces = false) (D : va_G) (cA : Nat → ClassId) (ak : (Nat → Nat) × (Nat → Nat)) {Kd : Nat → Nat} (h0 a9 : Nat) (n2 n3 n4 : Nat) (kd : Int32) (u : Nat → Int32) (c : Nat → Int) (hk0 : Kd h0 = 10) (hk9 : Kd a9 = 11) (l2 : n2 ≤ 400) (h43 : n4 ≤ n3) (h32 : n3 ≤ n2) (hc : ∀ k : Nat, k < n2 → c k = (u k).toInt) (hkd : kd = 1 ↔ (n4 < n2 ∧ ps_le (c n4))) {pl0 : va_W} (hok : tt_ok tt_tk cA Kd pl0) (hs0 : tt_at pl0 h0 0 (.ref a9)) (hs3 : tt_at pl0 h0 3 (.int (nI n3))) (hs4 : tt_at pl0 h0 4 (.int (nI n4))) (hs5 : tt_at pl0 h0 5 (.int kd)) (hu : tt_ic pl0 a9 u) : jj_M l D cA ak yX9_isWord (.code yX9_isWord cX9_isWord 3 (some .boolean)) 4 85 0 0 ([] ++ pl0) [.ref h0, .ref (ak.1 4)] (tt_O (fun rx pl1 r => rx = [] ∧ tt_ok tt_tk cA Kd pl1 ∧ tt_fr Kd [] pl0 pl1 ∧ tt_fa Kd [] pl0 pl1 ∧ ((¬ ps_isw c n4 n3 ps_subscribe ∧ r = some (.int 0)) ∨ (ps_isw c n4 n3 ps_subscribe ∧ r = some (.int 1))))) (tt_OX (fun _ _ _ => False)) := by
  refine jj_start hl (by decide) jw_ce1c1f12e9 (jj_le rfl) ?_
  intro p e s m args below meth c9 A hargs hA C hex hmn
  have hfr := tt_fr.refl (K := Kd) (WS := []) pl0
  have hfa := tt_fa.refl (K := Kd) (WA := []) pl0
  refine jj_aload_n C dX9_isWord_0 rfl ?_
  refine tt_getF C hok jk_10 5 (by decide) jw_bde5c0d1a5 (t := (0, (-2147483648), 2147483647)) hk0 (by decide) rfl rfl hs5 dX9_isWord_1 ?_
  refine jj_iconst (v := 1) C dX9_isWord_4 (by decide) ?_
  refine jj_icmp_ne (tgt := 24) C dX9_isWord_5 (by decide) (fun c_1 => ?_) (fun c_1 => ?_)
  · have z_c_1 := jc_neq (a := kd.toInt) (b := 1) c_1 rfl (by decide)
    refine jj_iconst (v := 0) C dX9_isWord_24 (by decide) ?_
    exact jj_zret C rfl ⟨[], pl0, rfl, rfl, hok, hfr, hfa, (Or.inl ⟨fun q => by first | exact absurd (hkd.mpr (q.one (by decide) (by unfold ps_le; decide) h32)) c_1 | (have q1 : n3 = n4 + 9 := q.1; omega) | (have q1 : n3 = n4 + 9 := q.1; have q2 : c n4 = 115 := q.2 0 (by decide); have q9 := hc n4 (by omega); omega) | (have q1 : n3 = n4 + 9 := q.1; have q2 : c (n4 + 1) = 117 := q.2 1 (by decide); rw [Nat.add_comm n4 1] at q2; have q9 := hc (1 + n4) (by omega); omega) | (have q1 : n3 = n4 + 9 := q.1; have q2 : c (n4 + 2) = 98 := q.2 2 (by decide); rw [Nat.add_comm n4 2] at q2; have q9 := hc (2 + n4) (by omega); omega) | (have q1 : n3 = n4 + 9 := q.1; have q2 : c (n4 + 3) = 115 := q.2 3 (by decide); rw [Nat.add_comm n4 3] at q2; have q9 := hc (3 + n4) (by omega); omega) | (have q1 : n3 = n4 + 9 := q.1; have q2 : c (n4 + 4) = 99 := q.2 4 (by decide); rw [Nat.add_comm n4 4] at q2; have q9 := hc (4 + n4) (by omega); omega) | (have q1 : n3 = n4 + 9 := q.1; have q2 : c (n4 + 5) = 114 := q.2 5 (by decide); rw [Nat.add_comm n4 5] at q2; have q9 := hc (5 + n4) (by omega); omega) | (have q1 : n3 = n4 + 9 := q.1; have q2 : c (n4 + 6) = 105 := q.2 6 (by decide); rw [Nat.add_comm n4 6] at q2; have q9 := hc (6 + n4) (by omega); omega) | (have q1 : n3 = n4 + 9 := q.1; have q2 : c (n4 + 7) = 98 := q.2 7 (by decide); rw [Nat.add_comm n4 7] at q2; have q9 := hc (7 + n4) (by omega); omega) | (have q1 : n3 = n4 + 9 := q.1; have q2 : c (n4 + 8) = 101 := q.2 8 (by decide); rw [Nat.add_comm n4 8] at q2; have q9 := hc (8 + n4) (by omega); omega), rfl⟩)⟩ dX9_isWord_25 (jj_le rfl) (jj_le rfl)
  · have z_c_1 := jc_eq (a := kd.toInt) (b := 1) c_1 rfl (by decide)
    refine jj_aload_n C dX9_isWord_8 rfl ?_
    refine tt_getF C hok jk_10 3 (by decide) jw_f99bd0ca2b (t := (0, 0, 400)) hk0 (by decide) rfl rfl hs3 dX9_isWord_9 ?_
    refine jj_aload_n C dX9_isWord_12 rfl ?_
    refine tt_getF C hok jk_10 4 (by decide) jw_66bda6962a (t := (0, 0, 400)) hk0 (by decide) rfl rfl hs4 dX9_isWord_13 ?_
    obtain ⟨x_2, ex_2, vx_2⟩ := tt_isub (x := (nI n3)) (y := (nI n4)) (a := ((n3 : Nat) : Int)) (rl_ti (by omega)) (b := ((n4 : Nat) : Int)) (rl_ti (by omega)) (by omega) (by omega)
    refine jj_isub (v := x_2) C dX9_isWord_16 ex_2 ?_
    refine jj_aload_n C dX9_isWord_17 rfl ?_
    refine tt_call0Vs (rest := [.int x_2]) C (ct_J0_length_8abf5_5 hl D cA ak) 4 (by decide) rfl jw_f27063fded jw_b1ce304435 jw_d08f03a22e jw_4ea6285965 jw_bbc7045666 jn_J0_length_8abf5 rfl (jj_le rfl) (jj_le rfl) (jj_le rfl) (jj_le rfl) (jj_le rfl) dX9_isWord_18 rfl (fun w1 r O_3 => ?_)
    obtain ⟨-, rfl⟩ := O_3
    refine jj_icmp_eq (tgt := 26) C dX9_isWord_21 (by decide) (fun c_4 => ?_) (fun c_4 => ?_)
    · have z_c_4 := jc_eq (a := x_2.toInt) (b := 9) c_4 rfl (by decide)
      refine jj_iconst (v := 0) C dX9_isWord_26 (by decide) ?_
      refine jj_istore_n C dX9_isWord_27 (by decide) rfl ?_
      refine jj_iload_n C dX9_isWord_28 rfl ?_
      refine jj_aload_n C dX9_isWord_29 rfl ?_
      refine tt_call0Vs (rest := [.int 0]) C (ct_J0_length_8abf5_5 hl D cA ak) 4 (by decide) rfl jw_f27063fded jw_b1ce304435 jw_d08f03a22e jw_4ea6285965 jw_bbc7045666 jn_J0_length_8abf5 rfl (jj_le rfl) (jj_le rfl) (jj_le rfl) (jj_le rfl) (jj_le rfl) dX9_isWord_30 rfl (fun w1 r O_5 => ?_)
      obtain ⟨-, rfl⟩ := O_5
      refine jj_icmp_geF (tgt := 63) C dX9_isWord_33 (by decide) (by decide) ?_
      refine jj_aload_n C dX9_isWord_36 rfl ?_
      refine tt_getF C hok jk_10 0 (by decide) jw_0664e1e086 (t := (2, 11, 0)) hk0 (by decide) rfl rfl hs0 dX9_isWord_37 ?_
      refine jj_aload_n C dX9_isWord_40 rfl ?_
      refine tt_getF C hok jk_10 4 (by decide) jw_66bda6962a (t := (0, 0, 400)) hk0 (by decide) rfl rfl hs4 dX9_isWord_41 ?_
      refine jj_iload_n C dX9_isWord_44 rfl ?_
      refine jj_iadd (v := nI n4) C dX9_isWord_45 (rl_addR (kn := 0) (by decide) (by omega)) ?_
      refine tl_caldF C hok (t := (0, (-2147483648), 2147483647)) hk9 (by decide) rfl (k := n4) (vp_in_nI (by omega) (by decide)) hu (nI_clamp (by omega)) rfl dX9_isWord_46 ?_
      refine jj_aload_n C dX9_isWord_47 rfl ?_
      refine jj_iload_n C dX9_isWord_48 rfl ?_
      refine tt_call0Vs (rest := [.int (u n4)]) C (ct_J0_charAt_5068e_25 hl D cA ak) 4 (by decide) rfl jw_076e8de8e0 jw_acb9174fef jw_675efe837b jw_4ea6285965 jw_391c0f56bd jn_J0_charAt_5068e rfl (jj_le rfl) (jj_le rfl) (jj_le rfl) (jj_le rfl) (jj_le rfl) dX9_isWord_49 rfl (fun w1 r O_6 => ?_)
      obtain ⟨-, rfl⟩ := O_6
      refine jj_icmp_eq (tgt := 57) C dX9_isWord_52 (by decide) (fun c_7 => ?_) (fun c_7 => ?_)
      · have z_c_7 := jc_eq (a := (u n4).toInt) (b := 115) c_7 rfl (by decide)
        refine jj_iinc (v := 1) C dX9_isWord_57 rfl (by decide) (by decide) rfl ?_
        refine jj_goto (tgt := 28) C dX9_isWord_60 (by decide) ?_
        refine jj_iload_n C dX9_isWord_28 rfl ?_
        refine jj_aload_n C dX9_isWord_29 rfl ?_
        refine tt_call0Vs (rest := [.int 1]) C (ct_J0_length_8abf5_5 hl D cA ak) 4 (by decide) rfl jw_f27063fded jw_b1ce304435 jw_d08f03a22e jw_4ea6285965 jw_bbc7045666 jn_J0_length_8abf5 rfl (jj_le rfl) (jj_le rfl) (jj_le rfl) (jj_le rfl) (jj_le rfl) dX9_isWord_30 rfl (fun w1 r O_8 => ?_)
        obtain ⟨-, rfl⟩ := O_8
        refine jj_icmp_geF (tgt := 63) C dX9_isWord_33 (by decide) (by decide) ?_
        refine jj_aload_n C dX9_isWord_36 rfl ?_
        refine tt_getF C hok jk_10 0 (by decide) jw_0664e1e086 (t := (2, 11, 0)) hk0 (by decide) rfl rfl hs0 dX9_isWord_37 ?_
        refine jj_aload_n C dX9_isWord_40 rfl ?_
        refine tt_getF C hok jk_10 4 (by decide) jw_66bda6962a (t := (0, 0, 400)) hk0 (by decide) rfl rfl hs4 dX9_isWord_41 ?_
        refine jj_iload_n C dX9_isWord_44 rfl ?_
        refine jj_iadd (v := nI (1 + n4)) C dX9_isWord_45 (rl_addR (kn := 1) (by decide) (by omega)) ?_
        refine tl_caldF C hok (t := (0, (-2147483648), 2147483647)) hk9 (by decide) rfl (k := 1 + n4) (vp_in_nI (by omega) (by decide)) hu (nI_clamp (by omega)) rfl dX9_isWord_46 ?_
        refine jj_aload_n C dX9_isWord_47 rfl ?_
        refine jj_iload_n C dX9_isWord_48 rfl ?_
        refine tt_call0Vs (rest := [.int (u (1 + n4))]) C (ct_J0_charAt_5068e_26 hl D cA ak) 4 (by decide) rfl jw_076e8de8e0 jw_acb9174fef jw_675efe837b jw_4ea6285965 jw_391c0f56bd jn_J0_charAt_5068e rfl (jj_le rfl) (jj_le rfl) (jj_le rfl) (jj_le rfl) (jj_le rfl) dX9_isWord_49 rfl (fun w1 r O_9 => ?_)
        obtain ⟨-, rfl⟩ := O_9
        refine jj_icmp_eq (tgt := 57) C dX9_isWord_52 (by decide) (fun c_10 => ?_) (fun c_10 => ?_)
        · have z_c_10 := jc_eq (a := (u (1 + n4)).toInt) (b := 117) c_10 rfl (by decide)
          refine jj_iinc (v := 2) C dX9_isWord_57 rfl (by decide) (by decide) rfl ?_
          refine jj_goto (tgt := 28) C dX9_isWord_60 (by decide) ?_
          refine jj_iload_n C dX9_isWord_28 rfl ?_
          refine jj_aload_n C dX9_isWord_29 rfl ?_
          refine tt_call0Vs (rest := [.int 2]) C (ct_J0_length_8abf5_5 hl D cA ak) 4 (by decide) rfl jw_f27063fded jw_b1ce304435 jw_d08f03a22e jw_4ea6285965 jw_bbc7045666 jn_J0_length_8abf5 rfl (jj_le rfl) (jj_le rfl) (jj_le rfl) (jj_le rfl) (jj_le rfl) dX9_isWord_30 rfl (fun w1 r O_11 => ?_)
          obtain ⟨-, rfl⟩ := O_11
          refine jj_icmp_geF (tgt := 63) C dX9_isWord_33 (by decide) (by decide) ?_
          refine jj_aload_n C dX9_isWord_36 rfl ?_
          refine tt_getF C hok jk_10 0 (by decide) jw_0664e1e086 (t := (2, 11, 0)) hk0 (by decide) rfl rfl hs0 dX9_isWord_37 ?_
          refine jj_aload_n C dX9_isWord_40 rfl ?_
          refine tt_getF C hok jk_10 4 (by decide) jw_66bda6962a (t := (0, 0, 400)) hk0 (by decide) rfl rfl hs4 dX9_isWord_41 ?_
          refine jj_iload_n C dX9_isWord_44 rfl ?_
          refine jj_iadd (v := nI (2 + n4)) C dX9_isWord_45 (rl_addR (kn := 2) (by decide) (by omega)) ?_
          refine tl_caldF C hok (t := (0, (-2147483648), 2147483647)) hk9 (by decide) rfl (k := 2 + n4) (vp_in_nI (by omega) (by decide)) hu (nI_clamp (by omega)) rfl dX9_isWord_46 ?_
          refine jj_aload_n C dX9_isWord_47 rfl ?_
          refine jj_iload_n C dX9_isWord_48 rfl ?_
          refine tt_call0Vs (rest := [.int (u (2 + n4))]) C (ct_J0_charAt_5068e_27 hl D cA ak) 4 (by decide) rfl jw_076e8de8e0 jw_acb9174fef jw_675efe837b jw_4ea6285965 jw_391c0f56bd jn_J0_charAt_5068e rfl (jj_le rfl) (jj_le rfl) (jj_le rfl) (jj_le rfl) (jj_le rfl) dX9_isWord_49 rfl (fun w1 r O_12 => ?_)
          obtain ⟨-, rfl⟩ := O_12
          refine jj_icmp_eq (tgt := 57) C dX9_isWord_52 (by decide) (fun c_13 => ?_) (fun c_13 => ?_)
          · have z_c_13 := jc_eq (a := (u (2 + n4)).toInt) (b := 98) c_13 rfl (by decide)
            refine jj_iinc (v := 3) C dX9_isWord_57 rfl (by decide) (by decide) rfl ?_
            refine jj_goto (tgt := 28) C dX9_isWord_60 (by decide) ?_
            refine jj_iload_n C dX9_isWord_28 rfl ?_
            refine jj_aload_n C dX9_isWord_29 rfl ?_
            refine tt_call0Vs (rest := [.int 3]) C (ct_J0_length_8abf5_5 hl D cA ak) 4 (by decide) rfl jw_f27063fded jw_b1ce304435 jw_d08f03a22e jw_4ea6285965 jw_bbc7045666 jn_J0_length_8abf5 rfl (jj_le rfl) (jj_le rfl) (jj_le rfl) (jj_le rfl) (jj_le rfl) dX9_isWord_30 rfl (fun w1 r O_14 => ?_)
            obtain ⟨-, rfl⟩ := O_14
            refine jj_icmp_geF (tgt := 63) C dX9_isWord_33 (by decide) (by decide) ?_
            refine jj_aload_n C dX9_isWord_36 rfl ?_
            refine tt_getF C hok jk_10 0 (by decide) jw_0664e1e086 (t := (2, 11, 0)) hk0 (by decide) rfl rfl hs0 dX9_isWord_37 ?_
            refine jj_aload_n C dX9_isWord_40 rfl ?_
            refine tt_getF C hok jk_10 4 (by decide) jw_66bda6962a (t := (0, 0, 400)) hk0 (by decide) rfl rfl hs4 dX9_isWord_41 ?_
            refine jj_iload_n C dX9_isWord_44 rfl ?_
            refine jj_iadd (v := nI (3 + n4)) C dX9_isWord_45 (rl_addR (kn := 3) (by decide) (by omega)) ?_
            refine tl_caldF C hok (t := (0, (-2147483648), 2147483647)) hk9 (by decide) rfl (k := 3 + n4) (vp_in_nI (by omega) (by decide)) hu (nI_clamp (by omega)) rfl dX9_isWord_46 ?_
            refine jj_aload_n C dX9_isWord_47 rfl ?_
            refine jj_iload_n C dX9_isWord_48 rfl ?_
            refine tt_call0Vs (rest := [.int (u (3 + n4))]) C (ct_J0_charAt_5068e_28 hl D cA ak) 4 (by decide) rfl jw_076e8de8e0 jw_acb9174fef jw_675efe837b jw_4ea6285965 jw_391c0f56bd jn_J0_charAt_5068e rfl (jj_le rfl) (jj_le rfl) (jj_le rfl) (jj_le rfl) (jj_le rfl) dX9_isWord_49 rfl (fun w1 r O_15 => ?_)
            obtain ⟨-, rfl⟩ := O_15
            refine jj_icmp_eq (tgt := 57) C dX9_isWord_52 (by decide) (fun c_16 => ?_) (fun c_16 => ?_)
            · have z_c_16 := jc_eq (a := (u (3 + n4)).toInt) (b := 115) c_16 rfl (by decide)
              refine jj_iinc (v := 4) C dX9_isWord_57 rfl (by decide) (by decide) rfl ?_
              refine jj_goto (tgt := 28) C dX9_isWord_60 (by decide) ?_
              refine jj_iload_n C dX9_isWord_28 rfl ?_
              refine jj_aload_n C dX9_isWord_29 rfl ?_
              refine tt_call0Vs (rest := [.int 4]) C (ct_J0_length_8abf5_5 hl D cA ak) 4 (by decide) rfl jw_f27063fded jw_b1ce304435 jw_d08f03a22e jw_4ea6285965 jw_bbc7045666 jn_J0_length_8abf5 rfl (jj_le rfl) (jj_le rfl) (jj_le rfl) (jj_le rfl) (jj_le rfl) dX9_isWord_30 rfl (fun w1 r O_17 => ?_)
              obtain ⟨-, rfl⟩ := O_17
              refine jj_icmp_geF (tgt := 63) C dX9_isWord_33 (by decide) (by decide) ?_
              refine jj_aload_n C dX9_isWord_36 rfl ?_
              refine tt_getF C hok jk_10 0 (by decide) jw_0664e1e086 (t := (2, 11, 0)) hk0 (by decide) rfl rfl hs0 dX9_isWord_37 ?_
              refine jj_aload_n C dX9_isWord_40 rfl ?_
              refine tt_getF C hok jk_10 4 (by decide) jw_66bda6962a (t := (0, 0, 400)) hk0 (by decide) rfl rfl hs4 dX9_isWord_41 ?_
              refine jj_iload_n C dX9_isWord_44 rfl ?_
              refine jj_iadd (v := nI (4 + n4)) C dX9_isWord_45 (rl_addR (kn := 4) (by decide) (by omega)) ?_
              refine tl_caldF C hok (t := (0, (-2147483648), 2147483647)) hk9 (by decide) rfl (k := 4 + n4) (vp_in_nI (by omega) (by decide)) hu (nI_clamp (by omega)) rfl dX9_isWord_46 ?_
              refine jj_aload_n C dX9_isWord_47 rfl ?_
              refine jj_iload_n C dX9_isWord_48 rfl ?_
              refine tt_call0Vs (rest := [.int (u (4 + n4))]) C (ct_J0_charAt_5068e_29 hl D cA ak) 4 (by decide) rfl jw_076e8de8e0 jw_acb9174fef jw_675efe837b jw_4ea6285965 jw_391c0f56bd jn_J0_charAt_5068e rfl (jj_le rfl) (jj_le rfl) (jj_le rfl) (jj_le rfl) (jj_le rfl) dX9_isWord_49 rfl (fun w1 r O_18 => ?_)
              obtain ⟨-, rfl⟩ := O_18
              refine jj_icmp_eq (tgt := 57) C dX9_isWord_52 (by decide) (fun c_19 => ?_) (fun c_19 => ?_)
              · have z_c_19 := jc_eq (a := (u (4 + n4)).toInt) (b := 99) c_19 rfl (by decide)
                refine jj_iinc (v := 5) C dX9_isWord_57 rfl (by decide) (by decide) rfl ?_
                refine jj_goto (tgt := 28) C dX9_isWord_60 (by decide) ?_
                refine jj_iload_n C dX9_isWord_28 rfl ?_
                refine jj_aload_n C dX9_isWord_29 rfl ?_
                refine tt_call0Vs (rest := [.int 5]) C (ct_J0_length_8abf5_5 hl D cA ak) 4 (by decide) rfl jw_f27063fded jw_b1ce304435 jw_d08f03a22e jw_4ea6285965 jw_bbc7045666 jn_J0_length_8abf5 rfl (jj_le rfl) (jj_le rfl) (jj_le rfl) (jj_le rfl) (jj_le rfl) dX9_isWord_30 rfl (fun w1 r O_20 => ?_)
                obtain ⟨-, rfl⟩ := O_20
                refine jj_icmp_geF (tgt := 63) C dX9_isWord_33 (by decide) (by decide) ?_
                refine jj_aload_n C dX9_isWord_36 rfl ?_
                refine tt_getF C hok jk_10 0 (by decide) jw_0664e1e086 (t := (2, 11, 0)) hk0 (by decide) rfl rfl hs0 dX9_isWord_37 ?_
                refine jj_aload_n C dX9_isWord_40 rfl ?_
                refine tt_getF C hok jk_10 4 (by decide) jw_66bda6962a (t := (0, 0, 400)) hk0 (by decide) rfl rfl hs4 dX9_isWord_41 ?_
                refine jj_iload_n C dX9_isWord_44 rfl ?_
                refine jj_iadd (v := nI (5 + n4)) C dX9_isWord_45 (rl_addR (kn := 5) (by decide) (by omega)) ?_
                refine tl_caldF C hok (t := (0, (-2147483648), 2147483647)) hk9 (by decide) rfl (k := 5 + n4) (vp_in_nI (by omega) (by decide)) hu (nI_clamp (by omega)) rfl dX9_isWord_46 ?_
                refine jj_aload_n C dX9_isWord_47 rfl ?_
                refine jj_iload_n C dX9_isWord_48 rfl ?_
                refine tt_call0Vs (rest := [.int (u (5 + n4))]) C (ct_J0_charAt_5068e_30 hl D cA ak) 4 (by decide) rfl jw_076e8de8e0 jw_acb9174fef jw_675efe837b jw_4ea6285965 jw_391c0f56bd jn_J0_charAt_5068e rfl (jj_le rfl) (jj_le rfl) (jj_le rfl) (jj_le rfl) (jj_le rfl) dX9_isWord_49 rfl (fun w1 r O_21 => ?_)
                obtain ⟨-, rfl⟩ := O_21
                refine jj_icmp_eq (tgt := 57) C dX9_isWord_52 (by decide) (fun c_22 => ?_) (fun c_22 => ?_)
                · have z_c_22 := jc_eq (a := (u (5 + n4)).toInt) (b := 114) c_22 rfl (by decide)
                  refine jj_iinc (v := 6) C dX9_isWord_57 rfl (by decide) (by decide) rfl ?_
                  refine jj_goto (tgt := 28) C dX9_isWord_60 (by decide) ?_
                  refine jj_iload_n C dX9_isWord_28 rfl ?_
                  refine jj_aload_n C dX9_isWord_29 rfl ?_
                  refine tt_call0Vs (rest := [.int 6]) C (ct_J0_length_8abf5_5 hl D cA ak) 4 (by decide) rfl jw_f27063fded jw_b1ce304435 jw_d08f03a22e jw_4ea6285965 jw_bbc7045666 jn_J0_length_8abf5 rfl (jj_le rfl) (jj_le rfl) (jj_le rfl) (jj_le rfl) (jj_le rfl) dX9_isWord_30 rfl (fun w1 r O_23 => ?_)
                  obtain ⟨-, rfl⟩ := O_23
                  refine jj_icmp_geF (tgt := 63) C dX9_isWord_33 (by decide) (by decide) ?_
                  refine jj_aload_n C dX9_isWord_36 rfl ?_
                  refine tt_getF C hok jk_10 0 (by decide) jw_0664e1e086 (t := (2, 11, 0)) hk0 (by decide) rfl rfl hs0 dX9_isWord_37 ?_
                  refine jj_aload_n C dX9_isWord_40 rfl ?_
                  refine tt_getF C hok jk_10 4 (by decide) jw_66bda6962a (t := (0, 0, 400)) hk0 (by decide) rfl rfl hs4 dX9_isWord_41 ?_
                  refine jj_iload_n C dX9_isWord_44 rfl ?_
                  refine jj_iadd (v := nI (6 + n4)) C dX9_isWord_45 (rl_addR (kn := 6) (by decide) (by omega)) ?_
                  refine tl_caldF C hok (t := (0, (-2147483648), 2147483647)) hk9 (by decide) rfl (k := 6 + n4) (vp_in_nI (by omega) (by decide)) hu (nI_clamp (by omega)) rfl dX9_isWord_46 ?_
                  refine jj_aload_n C dX9_isWord_47 rfl ?_
                  refine jj_iload_n C dX9_isWord_48 rfl ?_
                  refine tt_call0Vs (rest := [.int (u (6 + n4))]) C (ct_J0_charAt_5068e_31 hl D cA ak) 4 (by decide) rfl jw_076e8de8e0 jw_acb9174fef jw_675efe837b jw_4ea6285965 jw_391c0f56bd jn_J0_charAt_5068e rfl (jj_le rfl) (jj_le rfl) (jj_le rfl) (jj_le rfl) (jj_le rfl) dX9_isWord_49 rfl (fun w1 r O_24 => ?_)
                  obtain ⟨-, rfl⟩ := O_24
                  refine jj_icmp_eq (tgt := 57) C dX9_isWord_52 (by decide) (fun c_25 => ?_) (fun c_25 => ?_)
                  · have z_c_25 := jc_eq (a := (u (6 + n4)).toInt) (b := 105) c_25 rfl (by decide)
                    refine jj_iinc (v := 7) C dX9_isWord_57 rfl (by decide) (by decide) rfl ?_
                    refine jj_goto (tgt := 28) C dX9_isWord_60 (by decide) ?_
                    refine jj_iload_n C dX9_isWord_28 rfl ?_
                    refine jj_aload_n C dX9_isWord_29 rfl ?_
                    refine tt_call0Vs (rest := [.int 7]) C (ct_J0_length_8abf5_5 hl D cA ak) 4 (by decide) rfl jw_f27063fded jw_b1ce304435 jw_d08f03a22e jw_4ea6285965 jw_bbc7045666 jn_J0_length_8abf5 rfl (jj_le rfl) (jj_le rfl) (jj_le rfl) (jj_le rfl) (jj_le rfl) dX9_isWord_30 rfl (fun w1 r O_26 => ?_)
                    obtain ⟨-, rfl⟩ := O_26
                    refine jj_icmp_geF (tgt := 63) C dX9_isWord_33 (by decide) (by decide) ?_
                    refine jj_aload_n C dX9_isWord_36 rfl ?_
                    refine tt_getF C hok jk_10 0 (by decide) jw_0664e1e086 (t := (2, 11, 0)) hk0 (by decide) rfl rfl hs0 dX9_isWord_37 ?_
                    refine jj_aload_n C dX9_isWord_40 rfl ?_
                    refine tt_getF C hok jk_10 4 (by decide) jw_66bda6962a (t := (0, 0, 400)) hk0 (by decide) rfl rfl hs4 dX9_isWord_41 ?_
                    refine jj_iload_n C dX9_isWord_44 rfl ?_
                    refine jj_iadd (v := nI (7 + n4)) C dX9_isWord_45 (rl_addR (kn := 7) (by decide) (by omega)) ?_
                    refine tl_caldF C hok (t := (0, (-2147483648), 2147483647)) hk9 (by decide) rfl (k := 7 + n4) (vp_in_nI (by omega) (by decide)) hu (nI_clamp (by omega)) rfl dX9_isWord_46 ?_
                    refine jj_aload_n C dX9_isWord_47 rfl ?_
                    refine jj_iload_n C dX9_isWord_48 rfl ?_
                    refine tt_call0Vs (rest := [.int (u (7 + n4))]) C (ct_J0_charAt_5068e_32 hl D cA ak) 4 (by decide) rfl jw_076e8de8e0 jw_acb9174fef jw_675efe837b jw_4ea6285965 jw_391c0f56bd jn_J0_charAt_5068e rfl (jj_le rfl) (jj_le rfl) (jj_le rfl) (jj_le rfl) (jj_le rfl) dX9_isWord_49 rfl (fun w1 r O_27 => ?_)
                    obtain ⟨-, rfl⟩ := O_27
                    refine jj_icmp_eq (tgt := 57) C dX9_isWord_52 (by decide) (fun c_28 => ?_) (fun c_28 => ?_)
                    · have z_c_28 := jc_eq (a := (u (7 + n4)).toInt) (b := 98) c_28 rfl (by decide)
                      refine jj_iinc (v := 8) C dX9_isWord_57 rfl (by decide) (by decide) rfl ?_
                      refine jj_goto (tgt := 28) C dX9_isWord_60 (by decide) ?_
                      refine jj_iload_n C dX9_isWord_28 rfl ?_
                      refine jj_aload_n C dX9_isWord_29 rfl ?_
                      refine tt_call0Vs (rest := [.int 8]) C (ct_J0_length_8abf5_5 hl D cA ak) 4 (by decide) rfl jw_f27063fded jw_b1ce304435 jw_d08f03a22e jw_4ea6285965 jw_bbc7045666 jn_J0_length_8abf5 rfl (jj_le rfl) (jj_le rfl) (jj_le rfl) (jj_le rfl) (jj_le rfl) dX9_isWord_30 rfl (fun w1 r O_29 => ?_)
                      obtain ⟨-, rfl⟩ := O_29
                      refine jj_icmp_geF (tgt := 63) C dX9_isWord_33 (by decide) (by decide) ?_
                      refine jj_aload_n C dX9_isWord_36 rfl ?_
                      refine tt_getF C hok jk_10 0 (by decide) jw_0664e1e086 (t := (2, 11, 0)) hk0 (by decide) rfl rfl hs0 dX9_isWord_37 ?_
                      refine jj_aload_n C dX9_isWord_40 rfl ?_
                      refine tt_getF C hok jk_10 4 (by decide) jw_66bda6962a (t := (0, 0, 400)) hk0 (by decide) rfl rfl hs4 dX9_isWord_41 ?_
                      refine jj_iload_n C dX9_isWord_44 rfl ?_
                      refine jj_iadd (v := nI (8 + n4)) C dX9_isWord_45 (rl_addR (kn := 8) (by decide) (by omega)) ?_
                      refine tl_caldF C hok (t := (0, (-2147483648), 2147483647)) hk9 (by decide) rfl (k := 8 + n4) (vp_in_nI (by omega) (by decide)) hu (nI_clamp (by omega)) rfl dX9_isWord_46 ?_
                      refine jj_aload_n C dX9_isWord_47 rfl ?_
                      refine jj_iload_n C dX9_isWord_48 rfl ?_
                      refine tt_call0Vs (rest := [.int (u (8 + n4))]) C (ct_J0_charAt_5068e_33 hl D cA ak) 4 (by decide) rfl jw_076e8de8e0 jw_acb9174fef jw_675efe837b jw_4ea6285965 jw_391c0f56bd jn_J0_charAt_5068e rfl (jj_le rfl) (jj_le rfl) (jj_le rfl) (jj_le rfl) (jj_le rfl) dX9_isWord_49 rfl (fun w1 r O_30 => ?_)
                      obtain ⟨-, rfl⟩ := O_30
                      refine jj_icmp_eq (tgt := 57) C dX9_isWord_52 (by decide) (fun c_31 => ?_) (fun c_31 => ?_)
                      · have z_c_31 := jc_eq (a := (u (8 + n4)).toInt) (b := 101) c_31 rfl (by decide)
                        refine jj_iinc (v := 9) C dX9_isWord_57 rfl (by decide) (by decide) rfl ?_
                        refine jj_goto (tgt := 28) C dX9_isWord_60 (by decide) ?_
                        refine jj_iload_n C dX9_isWord_28 rfl ?_
                        refine jj_aload_n C dX9_isWord_29 rfl ?_
                        refine tt_call0Vs (rest := [.int 9]) C (ct_J0_length_8abf5_5 hl D cA ak) 4 (by decide) rfl jw_f27063fded jw_b1ce304435 jw_d08f03a22e jw_4ea6285965 jw_bbc7045666 jn_J0_length_8abf5 rfl (jj_le rfl) (jj_le rfl) (jj_le rfl) (jj_le rfl) (jj_le rfl) dX9_isWord_30 rfl (fun w1 r O_32 => ?_)
                        obtain ⟨-, rfl⟩ := O_32
                        refine jj_icmp_geT (tgt := 63) C dX9_isWord_33 (by decide) (by decide) ?_
                        refine jj_iconst (v := 1) C dX9_isWord_63 (by decide) ?_
                        exact jj_zret C rfl ⟨[], pl0, rfl, rfl, hok, hfr, hfa, (Or.inr ⟨ps_alls.isw ⟨(show c n4 = 115 from by have q9 := hc n4 (by omega); omega), (show c (n4 + 1) = 117 from by rw [Nat.add_comm n4 1]; have q9 := hc (1 + n4) (by omega); omega), (show c (n4 + 2) = 98 from by rw [Nat.add_comm n4 2]; have q9 := hc (2 + n4) (by omega); omega), (show c (n4 + 3) = 115 from by rw [Nat.add_comm n4 3]; have q9 := hc (3 + n4) (by omega); omega), (show c (n4 + 4) = 99 from by rw [Nat.add_comm n4 4]; have q9 := hc (4 + n4) (by omega); omega), (show c (n4 + 5) = 114 from by rw [Nat.add_comm n4 5]; have q9 := hc (5 + n4) (by omega); omega), (show c (n4 + 6) = 105 from by rw [Nat.add_comm n4 6]; have q9 := hc (6 + n4) (by omega); omega), (show c (n4 + 7) = 98 from by rw [Nat.add_comm n4 7]; have q9 := hc (7 + n4) (by omega); omega), (show c (n4 + 8) = 101 from by rw [Nat.add_comm n4 8]; have q9 := hc (8 + n4) (by omega); omega), trivial⟩ (show n3 = n4 + 9 from by omega), rfl⟩)⟩ dX9_isWord_64 (jj_le rfl) (jj_le rfl)
                      · have z_c_31 := jc_neq (a := (u (8 + n4)).toInt) (b := 101) c_31 rfl (by decide)
                        refine jj_iconst (v := 0) C dX9_isWord_55 (by decide) ?_
                        exact jj_zret C rfl ⟨[], pl0, rfl, rfl, hok, hfr, hfa, (Or.inl ⟨fun q => by first | (have q1 : n3 = n4 + 9 := q.1; omega) | (have q1 : n3 = n4 + 9 := q.1; have q2 : c n4 = 115 := q.2 0 (by decide); have q9 := hc n4 (by omega); omega) | (have q1 : n3 = n4 + 9 := q.1; have q2 : c (n4 + 1) = 117 := q.2 1 (by decide); rw [Nat.add_comm n4 1] at q2; have q9 := hc (1 + n4) (by omega); omega) | (have q1 : n3 = n4 + 9 := q.1; have q2 : c (n4 + 2) = 98 := q.2 2 (by decide); rw [Nat.add_comm n4 2] at q2; have q9 := hc (2 + n4) (by omega); omega) | (have q1 : n3 = n4 + 9 := q.1; have q2 : c (n4 + 3) = 115 := q.2 3 (by decide); rw [Nat.add_comm n4 3] at q2; have q9 := hc (3 + n4) (by omega); omega) | (have q1 : n3 = n4 + 9 := q.1; have q2 : c (n4 + 4) = 99 := q.2 4 (by decide); rw [Nat.add_comm n4 4] at q2; have q9 := hc (4 + n4) (by omega); omega) | (have q1 : n3 = n4 + 9 := q.1; have q2 : c (n4 + 5) = 114 := q.2 5 (by decide); rw [Nat.add_comm n4 5] at q2; have q9 := hc (5 + n4) (by omega); omega) | (have q1 : n3 = n4 + 9 := q.1; have q2 : c (n4 + 6) = 105 := q.2 6 (by decide); rw [Nat.add_comm n4 6] at q2; have q9 := hc (6 + n4) (by omega); omega) | (have q1 : n3 = n4 + 9 := q.1; have q2 : c (n4 + 7) = 98 := q.2 7 (by decide); rw [Nat.add_comm n4 7] at q2; have q9 := hc (7 + n4) (by omega); omega) | (have q1 : n3 = n4 + 9 := q.1; have q2 : c (n4 + 8) = 101 := q.2 8 (by decide); rw [Nat.add_comm n4 8] at q2; have q9 := hc (8 + n4) (by omega); omega), rfl⟩)⟩ dX9_isWord_56 (jj_le rfl) (jj_le rfl)
                    · have z_c_28 := jc_neq (a := (u (7 + n4)).toInt) (b := 98) c_28 rfl (by decide)
                      refine jj_iconst (v := 0) C dX9_isWord_55 (by decide) ?_
                      exact jj_zret C rfl ⟨[], pl0, rfl, rfl, hok, hfr, hfa, (Or.inl ⟨fun q => by first | (have q1 : n3 = n4 + 9 := q.1; omega) | (have q1 : n3 = n4 + 9 := q.1; have q2 : c n4 = 115 := q.2 0 (by decide); have q9 := hc n4 (by omega); omega) | (have q1 : n3 = n4 + 9 := q.1; have q2 : c (n4 + 1) = 117 := q.2 1 (by decide); rw [Nat.add_comm n4 1] at q2; have q9 := hc (1 + n4) (by omega); omega) | (have q1 : n3 = n4 + 9 := q.1; have q2 : c (n4 + 2) = 98 := q.2 2 (by decide); rw [Nat.add_comm n4 2] at q2; have q9 := hc (2 + n4) (by omega); omega) | (have q1 : n3 = n4 + 9 := q.1; have q2 : c (n4 + 3) = 115 := q.2 3 (by decide); rw [Nat.add_comm n4 3] at q2; have q9 := hc (3 + n4) (by omega); omega) | (have q1 : n3 = n4 + 9 := q.1; have q2 : c (n4 + 4) = 99 := q.2 4 (by decide); rw [Nat.add_comm n4 4] at q2; have q9 := hc (4 + n4) (by omega); omega) | (have q1 : n3 = n4 + 9 := q.1; have q2 : c (n4 + 5) = 114 := q.2 5 (by decide); rw [Nat.add_comm n4 5] at q2; have q9 := hc (5 + n4) (by omega); omega) | (have q1 : n3 = n4 + 9 := q.1; have q2 : c (n4 + 6) = 105 := q.2 6 (by decide); rw [Nat.add_comm n4 6] at q2; have q9 := hc (6 + n4) (by omega); omega) | (have q1 : n3 = n4 + 9 := q.1; have q2 : c (n4 + 7) = 98 := q.2 7 (by decide); rw [Nat.add_comm n4 7] at q2; have q9 := hc (7 + n4) (by omega); omega) | (have q1 : n3 = n4 + 9 := q.1; have q2 : c (n4 + 8) = 101 := q.2 8 (by decide); rw [Nat.add_comm n4 8] at q2; have q9 := hc (8 + n4) (by omega); omega), rfl⟩)⟩ dX9_isWord_56 (jj_le rfl) (jj_le rfl)
                  · have z_c_25 := jc_neq (a := (u (6 + n4)).toInt) (b := 105) c_25 rfl (by decide)
                    refine jj_iconst (v := 0) C dX9_isWord_55 (by decide) ?_
                    exact jj_zret C rfl ⟨[], pl0, rfl, rfl, hok, hfr, hfa, (Or.inl ⟨fun q => by first | (have q1 : n3 = n4 + 9 := q.1; omega) | (have q1 : n3 = n4 + 9 := q.1; have q2 : c n4 = 115 := q.2 0 (by decide); have q9 := hc n4 (by omega); omega) | (have q1 : n3 = n4 + 9 := q.1; have q2 : c (n4 + 1) = 117 := q.2 1 (by decide); rw [Nat.add_comm n4 1] at q2; have q9 := hc (1 + n4) (by omega); omega) | (have q1 : n3 = n4 + 9 := q.1; have q2 : c (n4 + 2) = 98 := q.2 2 (by decide); rw [Nat.add_comm n4 2] at q2; have q9 := hc (2 + n4) (by omega); omega) | (have q1 : n3 = n4 + 9 := q.1; have q2 : c (n4 + 3) = 115 := q.2 3 (by decide); rw [Nat.add_comm n4 3] at q2; have q9 := hc (3 + n4) (by omega); omega) | (have q1 : n3 = n4 + 9 := q.1; have q2 : c (n4 + 4) = 99 := q.2 4 (by decide); rw [Nat.add_comm n4 4] at q2; have q9 := hc (4 + n4) (by omega); omega) | (have q1 : n3 = n4 + 9 := q.1; have q2 : c (n4 + 5) = 114 := q.2 5 (by decide); rw [Nat.add_comm n4 5] at q2; have q9 := hc (5 + n4) (by omega); omega) | (have q1 : n3 = n4 + 9 := q.1; have q2 : c (n4 + 6) = 105 := q.2 6 (by decide); rw [Nat.add_comm n4 6] at q2; have q9 := hc (6 + n4) (by omega); omega) | (have q1 : n3 = n4 + 9 := q.1; have q2 : c (n4 + 7) = 98 := q.2 7 (by decide); rw [Nat.add_comm n4 7] at q2; have q9 := hc (7 + n4) (by omega); omega) | (have q1 : n3 = n4 + 9 := q.1; have q2 : c (n4 + 8) = 101 := q.2 8 (by decide); rw [Nat.add_comm n4 8] at q2; have q9 := hc (8 + n4) (by omega); omega), rfl⟩)⟩ dX9_isWord_56 (jj_le rfl) (jj_le rfl)
                · have z_c_22 := jc_neq (a := (u (5 + n4)).toInt) (b := 114) c_22 rfl (by decide)
                  refine jj_iconst (v := 0) C dX9_isWord_55 (by decide) ?_
                  exact jj_zret C rfl ⟨[], pl0, rfl, rfl, hok, hfr, hfa, (Or.inl ⟨fun q => by first | (have q1 : n3 = n4 + 9 := q.1; omega) | (have q1 : n3 = n4 + 9 := q.1; have q2 : c n4 = 115 := q.2 0 (by decide); have q9 := hc n4 (by omega); omega) | (have q1 : n3 = n4 + 9 := q.1; have q2 : c (n4 + 1) = 117 := q.2 1 (by decide); rw [Nat.add_comm n4 1] at q2; have q9 := hc (1 + n4) (by omega); omega) | (have q1 : n3 = n4 + 9 := q.1; have q2 : c (n4 + 2) = 98 := q.2 2 (by decide); rw [Nat.add_comm n4 2] at q2; have q9 := hc (2 + n4) (by omega); omega) | (have q1 : n3 = n4 + 9 := q.1; have q2 : c (n4 + 3) = 115 := q.2 3 (by decide); rw [Nat.add_comm n4 3] at q2; have q9 := hc (3 + n4) (by omega); omega) | (have q1 : n3 = n4 + 9 := q.1; have q2 : c (n4 + 4) = 99 := q.2 4 (by decide); rw [Nat.add_comm n4 4] at q2; have q9 := hc (4 + n4) (by omega); omega) | (have q1 : n3 = n4 + 9 := q.1; have q2 : c (n4 + 5) = 114 := q.2 5 (by decide); rw [Nat.add_comm n4 5] at q2; have q9 := hc (5 + n4) (by omega); omega) | (have q1 : n3 = n4 + 9 := q.1; have q2 : c (n4 + 6) = 105 := q.2 6 (by decide); rw [Nat.add_comm n4 6] at q2; have q9 := hc (6 + n4) (by omega); omega) | (have q1 : n3 = n4 + 9 := q.1; have q2 : c (n4 + 7) = 98 := q.2 7 (by decide); rw [Nat.add_comm n4 7] at q2; have q9 := hc (7 + n4) (by omega); omega) | (have q1 : n3 = n4 + 9 := q.1; have q2 : c (n4 + 8) = 101 := q.2 8 (by decide); rw [Nat.add_comm n4 8] at q2; have q9 := hc (8 + n4) (by omega); omega), rfl⟩)⟩ dX9_isWord_56 (jj_le rfl) (jj_le rfl)
              · have z_c_19 := jc_neq (a := (u (4 + n4)).toInt) (b := 99) c_19 rfl (by decide)
                refine jj_iconst (v := 0) C dX9_isWord_55 (by decide) ?_
                exact jj_zret C rfl ⟨[], pl0, rfl, rfl, hok, hfr, hfa, (Or.inl ⟨fun q => by first | (have q1 : n3 = n4 + 9 := q.1; omega) | (have q1 : n3 = n4 + 9 := q.1; have q2 : c n4 = 115 := q.2 0 (by decide); have q9 := hc n4 (by omega); omega) | (have q1 : n3 = n4 + 9 := q.1; have q2 : c (n4 + 1) = 117 := q.2 1 (by decide); rw [Nat.add_comm n4 1] at q2; have q9 := hc (1 + n4) (by omega); omega) | (have q1 : n3 = n4 + 9 := q.1; have q2 : c (n4 + 2) = 98 := q.2 2 (by decide); rw [Nat.add_comm n4 2] at q2; have q9 := hc (2 + n4) (by omega); omega) | (have q1 : n3 = n4 + 9 := q.1; have q2 : c (n4 + 3) = 115 := q.2 3 (by decide); rw [Nat.add_comm n4 3] at q2; have q9 := hc (3 + n4) (by omega); omega) | (have q1 : n3 = n4 + 9 := q.1; have q2 : c (n4 + 4) = 99 := q.2 4 (by decide); rw [Nat.add_comm n4 4] at q2; have q9 := hc (4 + n4) (by omega); omega) | (have q1 : n3 = n4 + 9 := q.1; have q2 : c (n4 + 5) = 114 := q.2 5 (by decide); rw [Nat.add_comm n4 5] at q2; have q9 := hc (5 + n4) (by omega); omega) | (have q1 : n3 = n4 + 9 := q.1; have q2 : c (n4 + 6) = 105 := q.2 6 (by decide); rw [Nat.add_comm n4 6] at q2; have q9 := hc (6 + n4) (by omega); omega) | (have q1 : n3 = n4 + 9 := q.1; have q2 : c (n4 + 7) = 98 := q.2 7 (by decide); rw [Nat.add_comm n4 7] at q2; have q9 := hc (7 + n4) (by omega); omega) | (have q1 : n3 = n4 + 9 := q.1; have q2 : c (n4 + 8) = 101 := q.2 8 (by decide); rw [Nat.add_comm n4 8] at q2; have q9 := hc (8 + n4) (by omega); omega), rfl⟩)⟩ dX9_isWord_56 (jj_le rfl) (jj_le rfl)
            · have z_c_16 := jc_neq (a := (u (3 + n4)).toInt) (b := 115) c_16 rfl (by decide)
              refine jj_iconst (v := 0) C dX9_isWord_55 (by decide) ?_
              exact jj_zret C rfl ⟨[], pl0, rfl, rfl, hok, hfr, hfa, (Or.inl ⟨fun q => by first | (have q1 : n3 = n4 + 9 := q.1; omega) | (have q1 : n3 = n4 + 9 := q.1; have q2 : c n4 = 115 := q.2 0 (by decide); have q9 := hc n4 (by omega); omega) | (have q1 : n3 = n4 + 9 := q.1; have q2 : c (n4 + 1) = 117 := q.2 1 (by decide); rw [Nat.add_comm n4 1] at q2; have q9 := hc (1 + n4) (by omega); omega) | (have q1 : n3 = n4 + 9 := q.1; have q2 : c (n4 + 2) = 98 := q.2 2 (by decide); rw [Nat.add_comm n4 2] at q2; have q9 := hc (2 + n4) (by omega); omega) | (have q1 : n3 = n4 + 9 := q.1; have q2 : c (n4 + 3) = 115 := q.2 3 (by decide); rw [Nat.add_comm n4 3] at q2; have q9 := hc (3 + n4) (by omega); omega) | (have q1 : n3 = n4 + 9 := q.1; have q2 : c (n4 + 4) = 99 := q.2 4 (by decide); rw [Nat.add_comm n4 4] at q2; have q9 := hc (4 + n4) (by omega); omega) | (have q1 : n3 = n4 + 9 := q.1; have q2 : c (n4 + 5) = 114 := q.2 5 (by decide); rw [Nat.add_comm n4 5] at q2; have q9 := hc (5 + n4) (by omega); omega) | (have q1 : n3 = n4 + 9 := q.1; have q2 : c (n4 + 6) = 105 := q.2 6 (by decide); rw [Nat.add_comm n4 6] at q2; have q9 := hc (6 + n4) (by omega); omega) | (have q1 : n3 = n4 + 9 := q.1; have q2 : c (n4 + 7) = 98 := q.2 7 (by decide); rw [Nat.add_comm n4 7] at q2; have q9 := hc (7 + n4) (by omega); omega) | (have q1 : n3 = n4 + 9 := q.1; have q2 : c (n4 + 8) = 101 := q.2 8 (by decide); rw [Nat.add_comm n4 8] at q2; have q9 := hc (8 + n4) (by omega); omega), rfl⟩)⟩ dX9_isWord_56 (jj_le rfl) (jj_le rfl)
          · have z_c_13 := jc_neq (a := (u (2 + n4)).toInt) (b := 98) c_13 rfl (by decide)
            refine jj_iconst (v := 0) C dX9_isWord_55 (by decide) ?_
            exact jj_zret C rfl ⟨[], pl0, rfl, rfl, hok, hfr, hfa, (Or.inl ⟨fun q => by first | (have q1 : n3 = n4 + 9 := q.1; omega) | (have q1 : n3 = n4 + 9 := q.1; have q2 : c n4 = 115 := q.2 0 (by decide); have q9 := hc n4 (by omega); omega) | (have q1 : n3 = n4 + 9 := q.1; have q2 : c (n4 + 1) = 117 := q.2 1 (by decide); rw [Nat.add_comm n4 1] at q2; have q9 := hc (1 + n4) (by omega); omega) | (have q1 : n3 = n4 + 9 := q.1; have q2 : c (n4 + 2) = 98 := q.2 2 (by decide); rw [Nat.add_comm n4 2] at q2; have q9 := hc (2 + n4) (by omega); omega) | (have q1 : n3 = n4 + 9 := q.1; have q2 : c (n4 + 3) = 115 := q.2 3 (by decide); rw [Nat.add_comm n4 3] at q2; have q9 := hc (3 + n4) (by omega); omega) | (have q1 : n3 = n4 + 9 := q.1; have q2 : c (n4 + 4) = 99 := q.2 4 (by decide); rw [Nat.add_comm n4 4] at q2; have q9 := hc (4 + n4) (by omega); omega) | (have q1 : n3 = n4 + 9 := q.1; have q2 : c (n4 + 5) = 114 := q.2 5 (by decide); rw [Nat.add_comm n4 5] at q2; have q9 := hc (5 + n4) (by omega); omega) | (have q1 : n3 = n4 + 9 := q.1; have q2 : c (n4 + 6) = 105 := q.2 6 (by decide); rw [Nat.add_comm n4 6] at q2; have q9 := hc (6 + n4) (by omega); omega) | (have q1 : n3 = n4 + 9 := q.1; have q2 : c (n4 + 7) = 98 := q.2 7 (by decide); rw [Nat.add_comm n4 7] at q2; have q9 := hc (7 + n4) (by omega); omega) | (have q1 : n3 = n4 + 9 := q.1; have q2 : c (n4 + 8) = 101 := q.2 8 (by decide); rw [Nat.add_comm n4 8] at q2; have q9 := hc (8 + n4) (by omega); omega), rfl⟩)⟩ dX9_isWord_56 (jj_le rfl) (jj_le rfl)
        · have z_c_10 := jc_neq (a := (u (1 + n4)).toInt) (b := 117) c_10 rfl (by decide)
          refine jj_iconst (v := 0) C dX9_isWord_55 (by decide) ?_
          exact jj_zret C rfl ⟨[], pl0, rfl, rfl, hok, hfr, hfa, (Or.inl ⟨fun q => by first | (have q1 : n3 = n4 + 9 := q.1; omega) | (have q1 : n3 = n4 + 9 := q.1; have q2 : c n4 = 115 := q.2 0 (by decide); have q9 := hc n4 (by omega); omega) | (have q1 : n3 = n4 + 9 := q.1; have q2 : c (n4 + 1) = 117 := q.2 1 (by decide); rw [Nat.add_comm n4 1] at q2; have q9 := hc (1 + n4) (by omega); omega) | (have q1 : n3 = n4 + 9 := q.1; have q2 : c (n4 + 2) = 98 := q.2 2 (by decide); rw [Nat.add_comm n4 2] at q2; have q9 := hc (2 + n4) (by omega); omega) | (have q1 : n3 = n4 + 9 := q.1; have q2 : c (n4 + 3) = 115 := q.2 3 (by decide); rw [Nat.add_comm n4 3] at q2; have q9 := hc (3 + n4) (by omega); omega) | (have q1 : n3 = n4 + 9 := q.1; have q2 : c (n4 + 4) = 99 := q.2 4 (by decide); rw [Nat.add_comm n4 4] at q2; have q9 := hc (4 + n4) (by omega); omega) | (have q1 : n3 = n4 + 9 := q.1; have q2 : c (n4 + 5) = 114 := q.2 5 (by decide); rw [Nat.add_comm n4 5] at q2; have q9 := hc (5 + n4) (by omega); omega) | (have q1 : n3 = n4 + 9 := q.1; have q2 : c (n4 + 6) = 105 := q.2 6 (by decide); rw [Nat.add_comm n4 6] at q2; have q9 := hc (6 + n4) (by omega); omega) | (have q1 : n3 = n4 + 9 := q.1; have q2 : c (n4 + 7) = 98 := q.2 7 (by decide); rw [Nat.add_comm n4 7] at q2; have q9 := hc (7 + n4) (by omega); omega) | (have q1 : n3 = n4 + 9 := q.1; have q2 : c (n4 + 8) = 101 := q.2 8 (by decide); rw [Nat.add_comm n4 8] at q2; have q9 := hc (8 + n4) (by omega); omega), rfl⟩)⟩ dX9_isWord_56 (jj_le rfl) (jj_le rfl)
      · have z_c_7 := jc_neq (a := (u n4).toInt) (b := 115) c_7 rfl (by decide)
        refine jj_iconst (v := 0) C dX9_isWord_55 (by decide) ?_
        exact jj_zret C rfl ⟨[], pl0, rfl, rfl, hok, hfr, hfa, (Or.inl ⟨fun q => by first | (have q1 : n3 = n4 + 9 := q.1; omega) | (have q1 : n3 = n4 + 9 := q.1; have q2 : c n4 = 115 := q.2 0 (by decide); have q9 := hc n4 (by omega); omega) | (have q1 : n3 = n4 + 9 := q.1; have q2 : c (n4 + 1) = 117 := q.2 1 (by decide); rw [Nat.add_comm n4 1] at q2; have q9 := hc (1 + n4) (by omega); omega) | (have q1 : n3 = n4 + 9 := q.1; have q2 : c (n4 + 2) = 98 := q.2 2 (by decide); rw [Nat.add_comm n4 2] at q2; have q9 := hc (2 + n4) (by omega); omega) | (have q1 : n3 = n4 + 9 := q.1; have q2 : c (n4 + 3) = 115 := q.2 3 (by decide); rw [Nat.add_comm n4 3] at q2; have q9 := hc (3 + n4) (by omega); omega) | (have q1 : n3 = n4 + 9 := q.1; have q2 : c (n4 + 4) = 99 := q.2 4 (by decide); rw [Nat.add_comm n4 4] at q2; have q9 := hc (4 + n4) (by omega); omega) | (have q1 : n3 = n4 + 9 := q.1; have q2 : c (n4 + 5) = 114 := q.2 5 (by decide); rw [Nat.add_comm n4 5] at q2; have q9 := hc (5 + n4) (by omega); omega) | (have q1 : n3 = n4 + 9 := q.1; have q2 : c (n4 + 6) = 105 := q.2 6 (by decide); rw [Nat.add_comm n4 6] at q2; have q9 := hc (6 + n4) (by omega); omega) | (have q1 : n3 = n4 + 9 := q.1; have q2 : c (n4 + 7) = 98 := q.2 7 (by decide); rw [Nat.add_comm n4 7] at q2; have q9 := hc (7 + n4) (by omega); omega) | (have q1 : n3 = n4 + 9 := q.1; have q2 : c (n4 + 8) = 101 := q.2 8 (by decide); rw [Nat.add_comm n4 8] at q2; have q9 := hc (8 + n4) (by omega); omega), rfl⟩)⟩ dX9_isWord_56 (jj_le rfl) (jj_le rfl)
    · have z_c_4 := jc_neq (a := x_2.toInt) (b := 9) c_4 rfl (by decide)
      refine jj_iconst (v := 0) C dX9_isWord_24 (by decide) ?_
      exact jj_zret C rfl ⟨[], pl0, rfl, rfl, hok, hfr, hfa, (Or.inl ⟨fun q => by first | (have q1 : n3 = n4 + 9 := q.1; omega) | (have q1 : n3 = n4 + 9 := q.1; have q2 : c n4 = 115 := q.2 0 (by decide); have q9 := hc n4 (by omega); omega) | (have q1 : n3 = n4 + 9 := q.1; have q2 : c (n4 + 1) = 117 := q.2 1 (by decide); rw [Nat.add_comm n4 1] at q2; have q9 := hc (1 + n4) (by omega); omega) | (have q1 : n3 = n4 + 9 := q.1; have q2 : c (n4 + 2) = 98 := q.2 2 (by decide); rw [Nat.add_comm n4 2] at q2; have q9 := hc (2 + n4) (by omega); omega) | (have q1 : n3 = n4 + 9 := q.1; have q2 : c (n4 + 3) = 115 := q.2 3 (by decide); rw [Nat.add_comm n4 3] at q2; have q9 := hc (3 + n4) (by omega); omega) | (have q1 : n3 = n4 + 9 := q.1; have q2 : c (n4 + 4) = 99 := q.2 4 (by decide); rw [Nat.add_comm n4 4] at q2; have q9 := hc (4 + n4) (by omega); omega) | (have q1 : n3 = n4 + 9 := q.1; have q2 : c (n4 + 5) = 114 := q.2 5 (by decide); rw [Nat.add_comm n4 5] at q2; have q9 := hc (5 + n4) (by omega); omega) | (have q1 : n3 = n4 + 9 := q.1; have q2 : c (n4 + 6) = 105 := q.2 6 (by decide); rw [Nat.add_comm n4 6] at q2; have q9 := hc (6 + n4) (by omega); omega) | (have q1 : n3 = n4 + 9 := q.1; have q2 : c (n4 + 7) = 98 := q.2 7 (by decide); rw [Nat.add_comm n4 7] at q2; have q9 := hc (7 + n4) (by omega); omega) | (have q1 : n3 = n4 + 9 := q.1; have q2 : c (n4 + 8) = 101 := q.2 8 (by decide); rw [Nat.add_comm n4 8] at q2; have q9 := hc (8 + n4) (by omega); omega), rfl⟩)⟩ dX9_isWord_25 (jj_le rfl) (jj_le rfl)
