
set_option maxHeartbeats 4000000 in
set_option maxRecDepth 100000 in
theorem re_isWord_fund {l : Launch} (hl : l.stackTraces = false) (D : va_G) (cA : Nat → ClassId) (ak : (Nat → Nat) × (Nat → Nat)) {Kd : Nat → Nat} {h0 aw aa at0 ai af ap : Nat} (n16 : Nat) (n15 : Nat) (n14 : Nat) (at9 : Nat) (u : Nat → Int32) (c : Nat → Int) (hk0 : Kd h0 = 1) (hkw : Kd aw = 2) (hka : Kd aa = 3) (hkt : Kd at0 = 4) (hki : Kd ai = 5) (hkf : Kd af = 6) (hkp : Kd ap = 7) (ln16 : (0 : Int) ≤ (n16 : Int)) (un16 : (n16 : Int) ≤ 400) (ln15 : (0 : Int) ≤ (n15 : Int)) (un15 : (n15 : Int) ≤ 400) (ln14 : (0 : Int) ≤ (n14 : Int)) (un14 : (n14 : Int) ≤ 400) (hk9 : Kd at9 = 10) (h45 : n14 ≤ n15) (h56 : n15 ≤ n16) (hc : ∀ k : Nat, k < n16 → c k = ((u k) &&& 255).toInt) {pl0 : va_W} (hok : tt_ok rt_tk cA Kd pl0) (hm : rl_m pl0 h0 aw aa at0 ai af ap) (hs12 : tt_at pl0 h0 12 (.ref at9)) (hu : tt_ic pl0 at9 u) (hs14 : tt_at pl0 h0 14 (.int (nI n14))) (hs15 : tt_at pl0 h0 15 (.int (nI n15))) (hs16 : tt_at pl0 h0 16 (.int (nI n16))) : jj_M l D cA ak yX11_isWord (.code yX11_isWord cX11_isWord 4 (some .boolean)) 4 85 0 0 ([] ++ pl0) [.ref h0, .ref (ak.1 20)] (tt_O (fun rx pl1 r => rx = [] ∧ tt_ok rt_tk cA Kd pl1 ∧ tt_fr Kd [] pl0 pl1 ∧ tt_fa Kd [] pl0 pl1 ∧ ((¬ ps_isw c n14 n15 ps_fund ∧ r = some (.int 0)) ∨ (ps_isw c n14 n15 ps_fund ∧ r = some (.int 1))))) (tt_OX (fun _ _ _ => False)) := by
  refine jj_start hl (by decide) jw_f54d9c537b (jj_le rfl) ?_
  intro p e s m args below meth c9 A hargs hA C hex hmn
  have hfr := tt_fr.refl (K := Kd) (WS := []) pl0
  have hfa := tt_fa.refl (K := Kd) (WA := []) pl0
  refine jj_aload_n C dX11_isWord_0 rfl ?_
  refine tt_getF C hok jk_12 15 (by decide) jw_165232ba7c (t := (0, 0, 400)) hk0 (by decide) rfl rfl hs15 dX11_isWord_1 ?_
  refine jj_aload_n C dX11_isWord_4 rfl ?_
  refine tt_getF C hok jk_12 14 (by decide) jw_6446e1fd81 (t := (0, 0, 400)) hk0 (by decide) rfl rfl hs14 dX11_isWord_5 ?_
  obtain ⟨x_1, ex_1, vx_1⟩ := tt_isub (x := (nI n15)) (y := (nI n14)) (a := ((n15 : Nat) : Int)) (rl_ti (by omega)) (b := ((n14 : Nat) : Int)) (rl_ti (by omega)) (by omega) (by omega)
  refine jj_isub (v := x_1) C dX11_isWord_8 ex_1 ?_
  refine jj_aload_n C dX11_isWord_9 rfl ?_
  refine tt_call0Vs (rest := [.int x_1]) C (ct_J0_length_8abf5_s4 hl D cA ak) 20 (by decide) rfl jw_b95c722318 jw_b1ce304435 jw_d08f03a22e jw_4ea6285965 jw_bbc7045666 jn_J0_length_8abf5 rfl (jj_le rfl) (jj_le rfl) (jj_le rfl) (jj_le rfl) (jj_le rfl) dX11_isWord_10 rfl (fun w1 r O_2 => ?_)
  obtain ⟨-, rfl⟩ := O_2
  refine jj_icmp_ne (tgt := 20) C dX11_isWord_13 (by decide) (fun c_3 => ?_) (fun c_3 => ?_)
  · have z_c_3 := jc_neq (a := x_1.toInt) (b := 4) c_3 rfl (by decide)
    refine jj_iconst (v := 0) C dX11_isWord_20 (by decide) ?_
    refine jj_istore_n C dX11_isWord_21 (by decide) rfl ?_
    refine jj_iconst (v := 0) C dX11_isWord_22 (by decide) ?_
    refine jj_istore_n C dX11_isWord_23 (by decide) rfl ?_
    refine jj_iload_n C dX11_isWord_24 rfl ?_
    refine jj_aload_n C dX11_isWord_25 rfl ?_
    refine tt_call0Vs (rest := [.int 0]) C (ct_J0_length_8abf5_s4 hl D cA ak) 20 (by decide) rfl jw_b95c722318 jw_b1ce304435 jw_d08f03a22e jw_4ea6285965 jw_bbc7045666 jn_J0_length_8abf5 rfl (jj_le rfl) (jj_le rfl) (jj_le rfl) (jj_le rfl) (jj_le rfl) dX11_isWord_26 rfl (fun w1 r O_4 => ?_)
    obtain ⟨-, rfl⟩ := O_4
    refine jj_icmp_geF (tgt := 66) C dX11_isWord_29 (by decide) (by decide) ?_
    refine jj_iload_n C dX11_isWord_32 rfl ?_
    refine jj_if_eqT (tgt := 66) C dX11_isWord_33 (by decide) (by decide) ?_
    refine jj_iload_n C dX11_isWord_66 rfl ?_
    exact jj_zret C rfl ⟨[], pl0, rfl, rfl, hok, hfr, hfa, (Or.inl ⟨fun q => by first | (have q1 : n15 = n14 + 4 := q.1; omega) | (have q1 : n15 = n14 + 4 := q.1; have q2 : c n14 = 102 := q.2 0 (by decide); omega) | (have q1 : n15 = n14 + 4 := q.1; have q2 : c (n14 + 1) = 117 := q.2 1 (by decide); rw [Nat.add_comm n14 1] at q2; omega) | (have q1 : n15 = n14 + 4 := q.1; have q2 : c (n14 + 2) = 110 := q.2 2 (by decide); rw [Nat.add_comm n14 2] at q2; omega) | (have q1 : n15 = n14 + 4 := q.1; have q2 : c (n14 + 3) = 100 := q.2 3 (by decide); rw [Nat.add_comm n14 3] at q2; omega), rfl⟩)⟩ dX11_isWord_67 (jj_le rfl) (jj_le rfl)
  · have z_c_3 := jc_eq (a := x_1.toInt) (b := 4) c_3 rfl (by decide)
    refine jj_iconst (v := 1) C dX11_isWord_16 (by decide) ?_
    refine jj_goto (tgt := 21) C dX11_isWord_17 (by decide) ?_
    refine jj_istore_n C dX11_isWord_21 (by decide) rfl ?_
    refine jj_iconst (v := 0) C dX11_isWord_22 (by decide) ?_
    refine jj_istore_n C dX11_isWord_23 (by decide) rfl ?_
    refine jj_iload_n C dX11_isWord_24 rfl ?_
    refine jj_aload_n C dX11_isWord_25 rfl ?_
    refine tt_call0Vs (rest := [.int 0]) C (ct_J0_length_8abf5_s4 hl D cA ak) 20 (by decide) rfl jw_b95c722318 jw_b1ce304435 jw_d08f03a22e jw_4ea6285965 jw_bbc7045666 jn_J0_length_8abf5 rfl (jj_le rfl) (jj_le rfl) (jj_le rfl) (jj_le rfl) (jj_le rfl) dX11_isWord_26 rfl (fun w1 r O_5 => ?_)
    obtain ⟨-, rfl⟩ := O_5
    refine jj_icmp_geF (tgt := 66) C dX11_isWord_29 (by decide) (by decide) ?_
    refine jj_iload_n C dX11_isWord_32 rfl ?_
    refine jj_if_eqF (tgt := 66) C dX11_isWord_33 (by decide) (by decide) ?_
    refine jj_aload_n C dX11_isWord_36 rfl ?_
    refine jj_aload_n C dX11_isWord_37 rfl ?_
    refine tt_getF C hok jk_12 14 (by decide) jw_6446e1fd81 (t := (0, 0, 400)) hk0 (by decide) rfl rfl hs14 dX11_isWord_38 ?_
    refine jj_iload_n C dX11_isWord_41 rfl ?_
    refine jj_iadd (v := nI n14) C dX11_isWord_42 (rl_addR (kn := 0) (by decide) (by omega)) ?_
    obtain ⟨qc, gs, hqc⟩ := tt_recv (cx := []) hok hk0 (by decide) rfl
    refine tt_callV (rest := []) C (re_byteAt hl D cA ak n16 at9 u n14 c hk0 hkw hka hkt hki hkf hkp (by first | omega | decide) (by first | omega | decide) hk9 (by omega) hc hok hm hs12 hu hs16) [] [] rfl rfl (by decide) (by decide) (by decide) qc hqc rfl rfl jw_98db775389 jw_8e26deba02 jw_8ef34ac32e jw_f96c99f44d jw_4737f96f0a jn_X11_byteAt rfl (jj_le rfl) (jj_le rfl) (jj_le rfl) (jj_le rfl) (jj_le rfl) dX11_isWord_43 rfl (fun _ _ _ hX => hX.elim) (fun rx pl_6 r O_10 => ?_)
    obtain ⟨rfl, hok_7, hr_8, ha_9, hR_11⟩ := O_10
    replace hs12 := hr_8.at hk0 (by decide) (by decide) hs12
    replace hs14 := hr_8.at hk0 (by decide) (by decide) hs14
    replace hs15 := hr_8.at hk0 (by decide) (by decide) hs15
    replace hs16 := hr_8.at hk0 (by decide) (by decide) hs16
    replace hu := ha_9.at hk9 (by decide) (by decide) hu
    replace hm := hm.fr hr_8 hk0 rfl
    replace hfr := hfr.trans (hr_8.sub (by decide))
    replace hfa := hfa.trans (ha_9.sub (by decide))
    rcases hR_11 with ⟨hb_12, rfl⟩ | ⟨hb_13, x_14, hb_15, rfl⟩
    · refine jj_aload_n C dX11_isWord_46 rfl ?_
      refine jj_iload_n C dX11_isWord_47 rfl ?_
      refine tt_call0Vs (rest := [.int (-1)]) C (ct_J0_charAt_5068e_s20 hl D cA ak) 20 (by decide) rfl jw_0b21ef6890 jw_acb9174fef jw_675efe837b jw_4ea6285965 jw_391c0f56bd jn_J0_charAt_5068e rfl (jj_le rfl) (jj_le rfl) (jj_le rfl) (jj_le rfl) (jj_le rfl) dX11_isWord_48 rfl (fun w1 r O_16 => ?_)
      obtain ⟨-, rfl⟩ := O_16
      refine jj_icmp_neT (tgt := 58) C dX11_isWord_51 (by decide) (by decide) ?_
      refine jj_iconst (v := 0) C dX11_isWord_58 (by decide) ?_
      refine jj_istore_n C dX11_isWord_59 (by decide) rfl ?_
      refine jj_iinc (v := 1) C dX11_isWord_60 rfl (by decide) (by decide) rfl ?_
      refine jj_goto (tgt := 24) C dX11_isWord_63 (by decide) ?_
      refine jj_iload_n C dX11_isWord_24 rfl ?_
      refine jj_aload_n C dX11_isWord_25 rfl ?_
      refine tt_call0Vs (rest := [.int 1]) C (ct_J0_length_8abf5_s4 hl D cA ak) 20 (by decide) rfl jw_b95c722318 jw_b1ce304435 jw_d08f03a22e jw_4ea6285965 jw_bbc7045666 jn_J0_length_8abf5 rfl (jj_le rfl) (jj_le rfl) (jj_le rfl) (jj_le rfl) (jj_le rfl) dX11_isWord_26 rfl (fun w1 r O_17 => ?_)
      obtain ⟨-, rfl⟩ := O_17
      refine jj_icmp_geF (tgt := 66) C dX11_isWord_29 (by decide) (by decide) ?_
      refine jj_iload_n C dX11_isWord_32 rfl ?_
      refine jj_if_eqT (tgt := 66) C dX11_isWord_33 (by decide) (by decide) ?_
      refine jj_iload_n C dX11_isWord_66 rfl ?_
      exact jj_zret C rfl ⟨[], pl_6, rfl, rfl, hok_7, hfr, hfa, (Or.inl ⟨fun q => by first | (have q1 : n15 = n14 + 4 := q.1; omega) | (have q1 : n15 = n14 + 4 := q.1; have q2 : c n14 = 102 := q.2 0 (by decide); omega) | (have q1 : n15 = n14 + 4 := q.1; have q2 : c (n14 + 1) = 117 := q.2 1 (by decide); rw [Nat.add_comm n14 1] at q2; omega) | (have q1 : n15 = n14 + 4 := q.1; have q2 : c (n14 + 2) = 110 := q.2 2 (by decide); rw [Nat.add_comm n14 2] at q2; omega) | (have q1 : n15 = n14 + 4 := q.1; have q2 : c (n14 + 3) = 100 := q.2 3 (by decide); rw [Nat.add_comm n14 3] at q2; omega), rfl⟩)⟩ dX11_isWord_67 (jj_le rfl) (jj_le rfl)
    · have lx_14 := tt_lo x_14
      have ux_14 := tt_hi x_14
      refine jj_aload_n C dX11_isWord_46 rfl ?_
      refine jj_iload_n C dX11_isWord_47 rfl ?_
      refine tt_call0Vs (rest := [.int x_14]) C (ct_J0_charAt_5068e_s20 hl D cA ak) 20 (by decide) rfl jw_0b21ef6890 jw_acb9174fef jw_675efe837b jw_4ea6285965 jw_391c0f56bd jn_J0_charAt_5068e rfl (jj_le rfl) (jj_le rfl) (jj_le rfl) (jj_le rfl) (jj_le rfl) dX11_isWord_48 rfl (fun w1 r O_18 => ?_)
      obtain ⟨-, rfl⟩ := O_18
      refine jj_icmp_ne (tgt := 58) C dX11_isWord_51 (by decide) (fun c_19 => ?_) (fun c_19 => ?_)
      · have z_c_19 := jc_neq (a := x_14.toInt) (b := 102) c_19 rfl (by decide)
        refine jj_iconst (v := 0) C dX11_isWord_58 (by decide) ?_
        refine jj_istore_n C dX11_isWord_59 (by decide) rfl ?_
        refine jj_iinc (v := 1) C dX11_isWord_60 rfl (by decide) (by decide) rfl ?_
        refine jj_goto (tgt := 24) C dX11_isWord_63 (by decide) ?_
        refine jj_iload_n C dX11_isWord_24 rfl ?_
        refine jj_aload_n C dX11_isWord_25 rfl ?_
        refine tt_call0Vs (rest := [.int 1]) C (ct_J0_length_8abf5_s4 hl D cA ak) 20 (by decide) rfl jw_b95c722318 jw_b1ce304435 jw_d08f03a22e jw_4ea6285965 jw_bbc7045666 jn_J0_length_8abf5 rfl (jj_le rfl) (jj_le rfl) (jj_le rfl) (jj_le rfl) (jj_le rfl) dX11_isWord_26 rfl (fun w1 r O_20 => ?_)
        obtain ⟨-, rfl⟩ := O_20
        refine jj_icmp_geF (tgt := 66) C dX11_isWord_29 (by decide) (by decide) ?_
        refine jj_iload_n C dX11_isWord_32 rfl ?_
        refine jj_if_eqT (tgt := 66) C dX11_isWord_33 (by decide) (by decide) ?_
        refine jj_iload_n C dX11_isWord_66 rfl ?_
        exact jj_zret C rfl ⟨[], pl_6, rfl, rfl, hok_7, hfr, hfa, (Or.inl ⟨fun q => by first | (have q1 : n15 = n14 + 4 := q.1; omega) | (have q1 : n15 = n14 + 4 := q.1; have q2 : c n14 = 102 := q.2 0 (by decide); omega) | (have q1 : n15 = n14 + 4 := q.1; have q2 : c (n14 + 1) = 117 := q.2 1 (by decide); rw [Nat.add_comm n14 1] at q2; omega) | (have q1 : n15 = n14 + 4 := q.1; have q2 : c (n14 + 2) = 110 := q.2 2 (by decide); rw [Nat.add_comm n14 2] at q2; omega) | (have q1 : n15 = n14 + 4 := q.1; have q2 : c (n14 + 3) = 100 := q.2 3 (by decide); rw [Nat.add_comm n14 3] at q2; omega), rfl⟩)⟩ dX11_isWord_67 (jj_le rfl) (jj_le rfl)
      · have z_c_19 := jc_eq (a := x_14.toInt) (b := 102) c_19 rfl (by decide)
        refine jj_iconst (v := 1) C dX11_isWord_54 (by decide) ?_
        refine jj_goto (tgt := 59) C dX11_isWord_55 (by decide) ?_
        refine jj_istore_n C dX11_isWord_59 (by decide) rfl ?_
        refine jj_iinc (v := 1) C dX11_isWord_60 rfl (by decide) (by decide) rfl ?_
        refine jj_goto (tgt := 24) C dX11_isWord_63 (by decide) ?_
        refine jj_iload_n C dX11_isWord_24 rfl ?_
        refine jj_aload_n C dX11_isWord_25 rfl ?_
        refine tt_call0Vs (rest := [.int 1]) C (ct_J0_length_8abf5_s4 hl D cA ak) 20 (by decide) rfl jw_b95c722318 jw_b1ce304435 jw_d08f03a22e jw_4ea6285965 jw_bbc7045666 jn_J0_length_8abf5 rfl (jj_le rfl) (jj_le rfl) (jj_le rfl) (jj_le rfl) (jj_le rfl) dX11_isWord_26 rfl (fun w1 r O_21 => ?_)
        obtain ⟨-, rfl⟩ := O_21
        refine jj_icmp_geF (tgt := 66) C dX11_isWord_29 (by decide) (by decide) ?_
        refine jj_iload_n C dX11_isWord_32 rfl ?_
        refine jj_if_eqF (tgt := 66) C dX11_isWord_33 (by decide) (by decide) ?_
        refine jj_aload_n C dX11_isWord_36 rfl ?_
        refine jj_aload_n C dX11_isWord_37 rfl ?_
        refine tt_getF C hok_7 jk_12 14 (by decide) jw_6446e1fd81 (t := (0, 0, 400)) hk0 (by decide) rfl rfl hs14 dX11_isWord_38 ?_
        refine jj_iload_n C dX11_isWord_41 rfl ?_
        refine jj_iadd (v := nI (1 + n14)) C dX11_isWord_42 (rl_addR (kn := 1) (by decide) (by omega)) ?_
        obtain ⟨qc, gs, hqc⟩ := tt_recv (cx := []) hok_7 hk0 (by decide) rfl
        refine tt_callV (rest := []) C (re_byteAt hl D cA ak n16 at9 u (1 + n14) c hk0 hkw hka hkt hki hkf hkp (by first | omega | decide) (by first | omega | decide) hk9 (by omega) hc hok_7 hm hs12 hu hs16) [] [] rfl rfl (by decide) (by decide) (by decide) qc hqc rfl rfl jw_98db775389 jw_8e26deba02 jw_8ef34ac32e jw_f96c99f44d jw_4737f96f0a jn_X11_byteAt rfl (jj_le rfl) (jj_le rfl) (jj_le rfl) (jj_le rfl) (jj_le rfl) dX11_isWord_43 rfl (fun _ _ _ hX => hX.elim) (fun rx pl_22 r O_26 => ?_)
        obtain ⟨rfl, hok_23, hr_24, ha_25, hR_27⟩ := O_26
        replace hs12 := hr_24.at hk0 (by decide) (by decide) hs12
        replace hs14 := hr_24.at hk0 (by decide) (by decide) hs14
        replace hs15 := hr_24.at hk0 (by decide) (by decide) hs15
        replace hs16 := hr_24.at hk0 (by decide) (by decide) hs16
        replace hu := ha_25.at hk9 (by decide) (by decide) hu
        replace hm := hm.fr hr_24 hk0 rfl
        replace hfr := hfr.trans (hr_24.sub (by decide))
        replace hfa := hfa.trans (ha_25.sub (by decide))
        rcases hR_27 with ⟨hb_28, rfl⟩ | ⟨hb_29, x_30, hb_31, rfl⟩
        · refine jj_aload_n C dX11_isWord_46 rfl ?_
          refine jj_iload_n C dX11_isWord_47 rfl ?_
          refine tt_call0Vs (rest := [.int (-1)]) C (ct_J0_charAt_5068e_s21 hl D cA ak) 20 (by decide) rfl jw_0b21ef6890 jw_acb9174fef jw_675efe837b jw_4ea6285965 jw_391c0f56bd jn_J0_charAt_5068e rfl (jj_le rfl) (jj_le rfl) (jj_le rfl) (jj_le rfl) (jj_le rfl) dX11_isWord_48 rfl (fun w1 r O_32 => ?_)
          obtain ⟨-, rfl⟩ := O_32
          refine jj_icmp_neT (tgt := 58) C dX11_isWord_51 (by decide) (by decide) ?_
          refine jj_iconst (v := 0) C dX11_isWord_58 (by decide) ?_
          refine jj_istore_n C dX11_isWord_59 (by decide) rfl ?_
          refine jj_iinc (v := 2) C dX11_isWord_60 rfl (by decide) (by decide) rfl ?_
          refine jj_goto (tgt := 24) C dX11_isWord_63 (by decide) ?_
          refine jj_iload_n C dX11_isWord_24 rfl ?_
          refine jj_aload_n C dX11_isWord_25 rfl ?_
          refine tt_call0Vs (rest := [.int 2]) C (ct_J0_length_8abf5_s4 hl D cA ak) 20 (by decide) rfl jw_b95c722318 jw_b1ce304435 jw_d08f03a22e jw_4ea6285965 jw_bbc7045666 jn_J0_length_8abf5 rfl (jj_le rfl) (jj_le rfl) (jj_le rfl) (jj_le rfl) (jj_le rfl) dX11_isWord_26 rfl (fun w1 r O_33 => ?_)
          obtain ⟨-, rfl⟩ := O_33
          refine jj_icmp_geF (tgt := 66) C dX11_isWord_29 (by decide) (by decide) ?_
          refine jj_iload_n C dX11_isWord_32 rfl ?_
          refine jj_if_eqT (tgt := 66) C dX11_isWord_33 (by decide) (by decide) ?_
          refine jj_iload_n C dX11_isWord_66 rfl ?_
          exact jj_zret C rfl ⟨[], pl_22, rfl, rfl, hok_23, hfr, hfa, (Or.inl ⟨fun q => by first | (have q1 : n15 = n14 + 4 := q.1; omega) | (have q1 : n15 = n14 + 4 := q.1; have q2 : c n14 = 102 := q.2 0 (by decide); omega) | (have q1 : n15 = n14 + 4 := q.1; have q2 : c (n14 + 1) = 117 := q.2 1 (by decide); rw [Nat.add_comm n14 1] at q2; omega) | (have q1 : n15 = n14 + 4 := q.1; have q2 : c (n14 + 2) = 110 := q.2 2 (by decide); rw [Nat.add_comm n14 2] at q2; omega) | (have q1 : n15 = n14 + 4 := q.1; have q2 : c (n14 + 3) = 100 := q.2 3 (by decide); rw [Nat.add_comm n14 3] at q2; omega), rfl⟩)⟩ dX11_isWord_67 (jj_le rfl) (jj_le rfl)
        · have lx_30 := tt_lo x_30
          have ux_30 := tt_hi x_30
          refine jj_aload_n C dX11_isWord_46 rfl ?_
          refine jj_iload_n C dX11_isWord_47 rfl ?_
          refine tt_call0Vs (rest := [.int x_30]) C (ct_J0_charAt_5068e_s21 hl D cA ak) 20 (by decide) rfl jw_0b21ef6890 jw_acb9174fef jw_675efe837b jw_4ea6285965 jw_391c0f56bd jn_J0_charAt_5068e rfl (jj_le rfl) (jj_le rfl) (jj_le rfl) (jj_le rfl) (jj_le rfl) dX11_isWord_48 rfl (fun w1 r O_34 => ?_)
          obtain ⟨-, rfl⟩ := O_34
          refine jj_icmp_ne (tgt := 58) C dX11_isWord_51 (by decide) (fun c_35 => ?_) (fun c_35 => ?_)
          · have z_c_35 := jc_neq (a := x_30.toInt) (b := 117) c_35 rfl (by decide)
            refine jj_iconst (v := 0) C dX11_isWord_58 (by decide) ?_
            refine jj_istore_n C dX11_isWord_59 (by decide) rfl ?_
            refine jj_iinc (v := 2) C dX11_isWord_60 rfl (by decide) (by decide) rfl ?_
            refine jj_goto (tgt := 24) C dX11_isWord_63 (by decide) ?_
            refine jj_iload_n C dX11_isWord_24 rfl ?_
            refine jj_aload_n C dX11_isWord_25 rfl ?_
            refine tt_call0Vs (rest := [.int 2]) C (ct_J0_length_8abf5_s4 hl D cA ak) 20 (by decide) rfl jw_b95c722318 jw_b1ce304435 jw_d08f03a22e jw_4ea6285965 jw_bbc7045666 jn_J0_length_8abf5 rfl (jj_le rfl) (jj_le rfl) (jj_le rfl) (jj_le rfl) (jj_le rfl) dX11_isWord_26 rfl (fun w1 r O_36 => ?_)
            obtain ⟨-, rfl⟩ := O_36
            refine jj_icmp_geF (tgt := 66) C dX11_isWord_29 (by decide) (by decide) ?_
            refine jj_iload_n C dX11_isWord_32 rfl ?_
            refine jj_if_eqT (tgt := 66) C dX11_isWord_33 (by decide) (by decide) ?_
            refine jj_iload_n C dX11_isWord_66 rfl ?_
            exact jj_zret C rfl ⟨[], pl_22, rfl, rfl, hok_23, hfr, hfa, (Or.inl ⟨fun q => by first | (have q1 : n15 = n14 + 4 := q.1; omega) | (have q1 : n15 = n14 + 4 := q.1; have q2 : c n14 = 102 := q.2 0 (by decide); omega) | (have q1 : n15 = n14 + 4 := q.1; have q2 : c (n14 + 1) = 117 := q.2 1 (by decide); rw [Nat.add_comm n14 1] at q2; omega) | (have q1 : n15 = n14 + 4 := q.1; have q2 : c (n14 + 2) = 110 := q.2 2 (by decide); rw [Nat.add_comm n14 2] at q2; omega) | (have q1 : n15 = n14 + 4 := q.1; have q2 : c (n14 + 3) = 100 := q.2 3 (by decide); rw [Nat.add_comm n14 3] at q2; omega), rfl⟩)⟩ dX11_isWord_67 (jj_le rfl) (jj_le rfl)
          · have z_c_35 := jc_eq (a := x_30.toInt) (b := 117) c_35 rfl (by decide)
            refine jj_iconst (v := 1) C dX11_isWord_54 (by decide) ?_
            refine jj_goto (tgt := 59) C dX11_isWord_55 (by decide) ?_
            refine jj_istore_n C dX11_isWord_59 (by decide) rfl ?_
            refine jj_iinc (v := 2) C dX11_isWord_60 rfl (by decide) (by decide) rfl ?_
            refine jj_goto (tgt := 24) C dX11_isWord_63 (by decide) ?_
            refine jj_iload_n C dX11_isWord_24 rfl ?_
            refine jj_aload_n C dX11_isWord_25 rfl ?_
            refine tt_call0Vs (rest := [.int 2]) C (ct_J0_length_8abf5_s4 hl D cA ak) 20 (by decide) rfl jw_b95c722318 jw_b1ce304435 jw_d08f03a22e jw_4ea6285965 jw_bbc7045666 jn_J0_length_8abf5 rfl (jj_le rfl) (jj_le rfl) (jj_le rfl) (jj_le rfl) (jj_le rfl) dX11_isWord_26 rfl (fun w1 r O_37 => ?_)
            obtain ⟨-, rfl⟩ := O_37
            refine jj_icmp_geF (tgt := 66) C dX11_isWord_29 (by decide) (by decide) ?_
            refine jj_iload_n C dX11_isWord_32 rfl ?_
            refine jj_if_eqF (tgt := 66) C dX11_isWord_33 (by decide) (by decide) ?_
            refine jj_aload_n C dX11_isWord_36 rfl ?_
            refine jj_aload_n C dX11_isWord_37 rfl ?_
            refine tt_getF C hok_23 jk_12 14 (by decide) jw_6446e1fd81 (t := (0, 0, 400)) hk0 (by decide) rfl rfl hs14 dX11_isWord_38 ?_
            refine jj_iload_n C dX11_isWord_41 rfl ?_
            refine jj_iadd (v := nI (2 + n14)) C dX11_isWord_42 (rl_addR (kn := 2) (by decide) (by omega)) ?_
            obtain ⟨qc, gs, hqc⟩ := tt_recv (cx := []) hok_23 hk0 (by decide) rfl
            refine tt_callV (rest := []) C (re_byteAt hl D cA ak n16 at9 u (2 + n14) c hk0 hkw hka hkt hki hkf hkp (by first | omega | decide) (by first | omega | decide) hk9 (by omega) hc hok_23 hm hs12 hu hs16) [] [] rfl rfl (by decide) (by decide) (by decide) qc hqc rfl rfl jw_98db775389 jw_8e26deba02 jw_8ef34ac32e jw_f96c99f44d jw_4737f96f0a jn_X11_byteAt rfl (jj_le rfl) (jj_le rfl) (jj_le rfl) (jj_le rfl) (jj_le rfl) dX11_isWord_43 rfl (fun _ _ _ hX => hX.elim) (fun rx pl_38 r O_42 => ?_)
            obtain ⟨rfl, hok_39, hr_40, ha_41, hR_43⟩ := O_42
            replace hs12 := hr_40.at hk0 (by decide) (by decide) hs12
            replace hs14 := hr_40.at hk0 (by decide) (by decide) hs14
            replace hs15 := hr_40.at hk0 (by decide) (by decide) hs15
            replace hs16 := hr_40.at hk0 (by decide) (by decide) hs16
            replace hu := ha_41.at hk9 (by decide) (by decide) hu
            replace hm := hm.fr hr_40 hk0 rfl
            replace hfr := hfr.trans (hr_40.sub (by decide))
            replace hfa := hfa.trans (ha_41.sub (by decide))
            rcases hR_43 with ⟨hb_44, rfl⟩ | ⟨hb_45, x_46, hb_47, rfl⟩
            · refine jj_aload_n C dX11_isWord_46 rfl ?_
              refine jj_iload_n C dX11_isWord_47 rfl ?_
              refine tt_call0Vs (rest := [.int (-1)]) C (ct_J0_charAt_5068e_s22 hl D cA ak) 20 (by decide) rfl jw_0b21ef6890 jw_acb9174fef jw_675efe837b jw_4ea6285965 jw_391c0f56bd jn_J0_charAt_5068e rfl (jj_le rfl) (jj_le rfl) (jj_le rfl) (jj_le rfl) (jj_le rfl) dX11_isWord_48 rfl (fun w1 r O_48 => ?_)
              obtain ⟨-, rfl⟩ := O_48
              refine jj_icmp_neT (tgt := 58) C dX11_isWord_51 (by decide) (by decide) ?_
              refine jj_iconst (v := 0) C dX11_isWord_58 (by decide) ?_
              refine jj_istore_n C dX11_isWord_59 (by decide) rfl ?_
              refine jj_iinc (v := 3) C dX11_isWord_60 rfl (by decide) (by decide) rfl ?_
              refine jj_goto (tgt := 24) C dX11_isWord_63 (by decide) ?_
              refine jj_iload_n C dX11_isWord_24 rfl ?_
              refine jj_aload_n C dX11_isWord_25 rfl ?_
              refine tt_call0Vs (rest := [.int 3]) C (ct_J0_length_8abf5_s4 hl D cA ak) 20 (by decide) rfl jw_b95c722318 jw_b1ce304435 jw_d08f03a22e jw_4ea6285965 jw_bbc7045666 jn_J0_length_8abf5 rfl (jj_le rfl) (jj_le rfl) (jj_le rfl) (jj_le rfl) (jj_le rfl) dX11_isWord_26 rfl (fun w1 r O_49 => ?_)
              obtain ⟨-, rfl⟩ := O_49
              refine jj_icmp_geF (tgt := 66) C dX11_isWord_29 (by decide) (by decide) ?_
              refine jj_iload_n C dX11_isWord_32 rfl ?_
              refine jj_if_eqT (tgt := 66) C dX11_isWord_33 (by decide) (by decide) ?_
              refine jj_iload_n C dX11_isWord_66 rfl ?_
              exact jj_zret C rfl ⟨[], pl_38, rfl, rfl, hok_39, hfr, hfa, (Or.inl ⟨fun q => by first | (have q1 : n15 = n14 + 4 := q.1; omega) | (have q1 : n15 = n14 + 4 := q.1; have q2 : c n14 = 102 := q.2 0 (by decide); omega) | (have q1 : n15 = n14 + 4 := q.1; have q2 : c (n14 + 1) = 117 := q.2 1 (by decide); rw [Nat.add_comm n14 1] at q2; omega) | (have q1 : n15 = n14 + 4 := q.1; have q2 : c (n14 + 2) = 110 := q.2 2 (by decide); rw [Nat.add_comm n14 2] at q2; omega) | (have q1 : n15 = n14 + 4 := q.1; have q2 : c (n14 + 3) = 100 := q.2 3 (by decide); rw [Nat.add_comm n14 3] at q2; omega), rfl⟩)⟩ dX11_isWord_67 (jj_le rfl) (jj_le rfl)
            · have lx_46 := tt_lo x_46
              have ux_46 := tt_hi x_46
              refine jj_aload_n C dX11_isWord_46 rfl ?_
              refine jj_iload_n C dX11_isWord_47 rfl ?_
              refine tt_call0Vs (rest := [.int x_46]) C (ct_J0_charAt_5068e_s22 hl D cA ak) 20 (by decide) rfl jw_0b21ef6890 jw_acb9174fef jw_675efe837b jw_4ea6285965 jw_391c0f56bd jn_J0_charAt_5068e rfl (jj_le rfl) (jj_le rfl) (jj_le rfl) (jj_le rfl) (jj_le rfl) dX11_isWord_48 rfl (fun w1 r O_50 => ?_)
              obtain ⟨-, rfl⟩ := O_50
              refine jj_icmp_ne (tgt := 58) C dX11_isWord_51 (by decide) (fun c_51 => ?_) (fun c_51 => ?_)
              · have z_c_51 := jc_neq (a := x_46.toInt) (b := 110) c_51 rfl (by decide)
                refine jj_iconst (v := 0) C dX11_isWord_58 (by decide) ?_
                refine jj_istore_n C dX11_isWord_59 (by decide) rfl ?_
                refine jj_iinc (v := 3) C dX11_isWord_60 rfl (by decide) (by decide) rfl ?_
                refine jj_goto (tgt := 24) C dX11_isWord_63 (by decide) ?_
                refine jj_iload_n C dX11_isWord_24 rfl ?_
                refine jj_aload_n C dX11_isWord_25 rfl ?_
                refine tt_call0Vs (rest := [.int 3]) C (ct_J0_length_8abf5_s4 hl D cA ak) 20 (by decide) rfl jw_b95c722318 jw_b1ce304435 jw_d08f03a22e jw_4ea6285965 jw_bbc7045666 jn_J0_length_8abf5 rfl (jj_le rfl) (jj_le rfl) (jj_le rfl) (jj_le rfl) (jj_le rfl) dX11_isWord_26 rfl (fun w1 r O_52 => ?_)
                obtain ⟨-, rfl⟩ := O_52
                refine jj_icmp_geF (tgt := 66) C dX11_isWord_29 (by decide) (by decide) ?_
                refine jj_iload_n C dX11_isWord_32 rfl ?_
                refine jj_if_eqT (tgt := 66) C dX11_isWord_33 (by decide) (by decide) ?_
                refine jj_iload_n C dX11_isWord_66 rfl ?_
                exact jj_zret C rfl ⟨[], pl_38, rfl, rfl, hok_39, hfr, hfa, (Or.inl ⟨fun q => by first | (have q1 : n15 = n14 + 4 := q.1; omega) | (have q1 : n15 = n14 + 4 := q.1; have q2 : c n14 = 102 := q.2 0 (by decide); omega) | (have q1 : n15 = n14 + 4 := q.1; have q2 : c (n14 + 1) = 117 := q.2 1 (by decide); rw [Nat.add_comm n14 1] at q2; omega) | (have q1 : n15 = n14 + 4 := q.1; have q2 : c (n14 + 2) = 110 := q.2 2 (by decide); rw [Nat.add_comm n14 2] at q2; omega) | (have q1 : n15 = n14 + 4 := q.1; have q2 : c (n14 + 3) = 100 := q.2 3 (by decide); rw [Nat.add_comm n14 3] at q2; omega), rfl⟩)⟩ dX11_isWord_67 (jj_le rfl) (jj_le rfl)
              · have z_c_51 := jc_eq (a := x_46.toInt) (b := 110) c_51 rfl (by decide)
                refine jj_iconst (v := 1) C dX11_isWord_54 (by decide) ?_
                refine jj_goto (tgt := 59) C dX11_isWord_55 (by decide) ?_
                refine jj_istore_n C dX11_isWord_59 (by decide) rfl ?_
                refine jj_iinc (v := 3) C dX11_isWord_60 rfl (by decide) (by decide) rfl ?_
                refine jj_goto (tgt := 24) C dX11_isWord_63 (by decide) ?_
                refine jj_iload_n C dX11_isWord_24 rfl ?_
                refine jj_aload_n C dX11_isWord_25 rfl ?_
                refine tt_call0Vs (rest := [.int 3]) C (ct_J0_length_8abf5_s4 hl D cA ak) 20 (by decide) rfl jw_b95c722318 jw_b1ce304435 jw_d08f03a22e jw_4ea6285965 jw_bbc7045666 jn_J0_length_8abf5 rfl (jj_le rfl) (jj_le rfl) (jj_le rfl) (jj_le rfl) (jj_le rfl) dX11_isWord_26 rfl (fun w1 r O_53 => ?_)
                obtain ⟨-, rfl⟩ := O_53
                refine jj_icmp_geF (tgt := 66) C dX11_isWord_29 (by decide) (by decide) ?_
                refine jj_iload_n C dX11_isWord_32 rfl ?_
                refine jj_if_eqF (tgt := 66) C dX11_isWord_33 (by decide) (by decide) ?_
                refine jj_aload_n C dX11_isWord_36 rfl ?_
                refine jj_aload_n C dX11_isWord_37 rfl ?_
                refine tt_getF C hok_39 jk_12 14 (by decide) jw_6446e1fd81 (t := (0, 0, 400)) hk0 (by decide) rfl rfl hs14 dX11_isWord_38 ?_
                refine jj_iload_n C dX11_isWord_41 rfl ?_
                refine jj_iadd (v := nI (3 + n14)) C dX11_isWord_42 (rl_addR (kn := 3) (by decide) (by omega)) ?_
                obtain ⟨qc, gs, hqc⟩ := tt_recv (cx := []) hok_39 hk0 (by decide) rfl
                refine tt_callV (rest := []) C (re_byteAt hl D cA ak n16 at9 u (3 + n14) c hk0 hkw hka hkt hki hkf hkp (by first | omega | decide) (by first | omega | decide) hk9 (by omega) hc hok_39 hm hs12 hu hs16) [] [] rfl rfl (by decide) (by decide) (by decide) qc hqc rfl rfl jw_98db775389 jw_8e26deba02 jw_8ef34ac32e jw_f96c99f44d jw_4737f96f0a jn_X11_byteAt rfl (jj_le rfl) (jj_le rfl) (jj_le rfl) (jj_le rfl) (jj_le rfl) dX11_isWord_43 rfl (fun _ _ _ hX => hX.elim) (fun rx pl_54 r O_58 => ?_)
                obtain ⟨rfl, hok_55, hr_56, ha_57, hR_59⟩ := O_58
                replace hs12 := hr_56.at hk0 (by decide) (by decide) hs12
                replace hs14 := hr_56.at hk0 (by decide) (by decide) hs14
                replace hs15 := hr_56.at hk0 (by decide) (by decide) hs15
                replace hs16 := hr_56.at hk0 (by decide) (by decide) hs16
                replace hu := ha_57.at hk9 (by decide) (by decide) hu
                replace hm := hm.fr hr_56 hk0 rfl
                replace hfr := hfr.trans (hr_56.sub (by decide))
                replace hfa := hfa.trans (ha_57.sub (by decide))
                rcases hR_59 with ⟨hb_60, rfl⟩ | ⟨hb_61, x_62, hb_63, rfl⟩
                · refine jj_aload_n C dX11_isWord_46 rfl ?_
                  refine jj_iload_n C dX11_isWord_47 rfl ?_
                  refine tt_call0Vs (rest := [.int (-1)]) C (ct_J0_charAt_5068e_s23 hl D cA ak) 20 (by decide) rfl jw_0b21ef6890 jw_acb9174fef jw_675efe837b jw_4ea6285965 jw_391c0f56bd jn_J0_charAt_5068e rfl (jj_le rfl) (jj_le rfl) (jj_le rfl) (jj_le rfl) (jj_le rfl) dX11_isWord_48 rfl (fun w1 r O_64 => ?_)
                  obtain ⟨-, rfl⟩ := O_64
                  refine jj_icmp_neT (tgt := 58) C dX11_isWord_51 (by decide) (by decide) ?_
                  refine jj_iconst (v := 0) C dX11_isWord_58 (by decide) ?_
                  refine jj_istore_n C dX11_isWord_59 (by decide) rfl ?_
                  refine jj_iinc (v := 4) C dX11_isWord_60 rfl (by decide) (by decide) rfl ?_
                  refine jj_goto (tgt := 24) C dX11_isWord_63 (by decide) ?_
                  refine jj_iload_n C dX11_isWord_24 rfl ?_
                  refine jj_aload_n C dX11_isWord_25 rfl ?_
                  refine tt_call0Vs (rest := [.int 4]) C (ct_J0_length_8abf5_s4 hl D cA ak) 20 (by decide) rfl jw_b95c722318 jw_b1ce304435 jw_d08f03a22e jw_4ea6285965 jw_bbc7045666 jn_J0_length_8abf5 rfl (jj_le rfl) (jj_le rfl) (jj_le rfl) (jj_le rfl) (jj_le rfl) dX11_isWord_26 rfl (fun w1 r O_65 => ?_)
                  obtain ⟨-, rfl⟩ := O_65
                  refine jj_icmp_geT (tgt := 66) C dX11_isWord_29 (by decide) (by decide) ?_
                  refine jj_iload_n C dX11_isWord_66 rfl ?_
                  exact jj_zret C rfl ⟨[], pl_54, rfl, rfl, hok_55, hfr, hfa, (Or.inl ⟨fun q => by first | (have q1 : n15 = n14 + 4 := q.1; omega) | (have q1 : n15 = n14 + 4 := q.1; have q2 : c n14 = 102 := q.2 0 (by decide); omega) | (have q1 : n15 = n14 + 4 := q.1; have q2 : c (n14 + 1) = 117 := q.2 1 (by decide); rw [Nat.add_comm n14 1] at q2; omega) | (have q1 : n15 = n14 + 4 := q.1; have q2 : c (n14 + 2) = 110 := q.2 2 (by decide); rw [Nat.add_comm n14 2] at q2; omega) | (have q1 : n15 = n14 + 4 := q.1; have q2 : c (n14 + 3) = 100 := q.2 3 (by decide); rw [Nat.add_comm n14 3] at q2; omega), rfl⟩)⟩ dX11_isWord_67 (jj_le rfl) (jj_le rfl)
                · have lx_62 := tt_lo x_62
                  have ux_62 := tt_hi x_62
                  refine jj_aload_n C dX11_isWord_46 rfl ?_
                  refine jj_iload_n C dX11_isWord_47 rfl ?_
                  refine tt_call0Vs (rest := [.int x_62]) C (ct_J0_charAt_5068e_s23 hl D cA ak) 20 (by decide) rfl jw_0b21ef6890 jw_acb9174fef jw_675efe837b jw_4ea6285965 jw_391c0f56bd jn_J0_charAt_5068e rfl (jj_le rfl) (jj_le rfl) (jj_le rfl) (jj_le rfl) (jj_le rfl) dX11_isWord_48 rfl (fun w1 r O_66 => ?_)
                  obtain ⟨-, rfl⟩ := O_66
                  refine jj_icmp_ne (tgt := 58) C dX11_isWord_51 (by decide) (fun c_67 => ?_) (fun c_67 => ?_)
                  · have z_c_67 := jc_neq (a := x_62.toInt) (b := 100) c_67 rfl (by decide)
                    refine jj_iconst (v := 0) C dX11_isWord_58 (by decide) ?_
                    refine jj_istore_n C dX11_isWord_59 (by decide) rfl ?_
                    refine jj_iinc (v := 4) C dX11_isWord_60 rfl (by decide) (by decide) rfl ?_
                    refine jj_goto (tgt := 24) C dX11_isWord_63 (by decide) ?_
                    refine jj_iload_n C dX11_isWord_24 rfl ?_
                    refine jj_aload_n C dX11_isWord_25 rfl ?_
                    refine tt_call0Vs (rest := [.int 4]) C (ct_J0_length_8abf5_s4 hl D cA ak) 20 (by decide) rfl jw_b95c722318 jw_b1ce304435 jw_d08f03a22e jw_4ea6285965 jw_bbc7045666 jn_J0_length_8abf5 rfl (jj_le rfl) (jj_le rfl) (jj_le rfl) (jj_le rfl) (jj_le rfl) dX11_isWord_26 rfl (fun w1 r O_68 => ?_)
                    obtain ⟨-, rfl⟩ := O_68
                    refine jj_icmp_geT (tgt := 66) C dX11_isWord_29 (by decide) (by decide) ?_
                    refine jj_iload_n C dX11_isWord_66 rfl ?_
                    exact jj_zret C rfl ⟨[], pl_54, rfl, rfl, hok_55, hfr, hfa, (Or.inl ⟨fun q => by first | (have q1 : n15 = n14 + 4 := q.1; omega) | (have q1 : n15 = n14 + 4 := q.1; have q2 : c n14 = 102 := q.2 0 (by decide); omega) | (have q1 : n15 = n14 + 4 := q.1; have q2 : c (n14 + 1) = 117 := q.2 1 (by decide); rw [Nat.add_comm n14 1] at q2; omega) | (have q1 : n15 = n14 + 4 := q.1; have q2 : c (n14 + 2) = 110 := q.2 2 (by decide); rw [Nat.add_comm n14 2] at q2; omega) | (have q1 : n15 = n14 + 4 := q.1; have q2 : c (n14 + 3) = 100 := q.2 3 (by decide); rw [Nat.add_comm n14 3] at q2; omega), rfl⟩)⟩ dX11_isWord_67 (jj_le rfl) (jj_le rfl)
                  · have z_c_67 := jc_eq (a := x_62.toInt) (b := 100) c_67 rfl (by decide)
                    refine jj_iconst (v := 1) C dX11_isWord_54 (by decide) ?_
                    refine jj_goto (tgt := 59) C dX11_isWord_55 (by decide) ?_
                    refine jj_istore_n C dX11_isWord_59 (by decide) rfl ?_
                    refine jj_iinc (v := 4) C dX11_isWord_60 rfl (by decide) (by decide) rfl ?_
                    refine jj_goto (tgt := 24) C dX11_isWord_63 (by decide) ?_
                    refine jj_iload_n C dX11_isWord_24 rfl ?_
                    refine jj_aload_n C dX11_isWord_25 rfl ?_
                    refine tt_call0Vs (rest := [.int 4]) C (ct_J0_length_8abf5_s4 hl D cA ak) 20 (by decide) rfl jw_b95c722318 jw_b1ce304435 jw_d08f03a22e jw_4ea6285965 jw_bbc7045666 jn_J0_length_8abf5 rfl (jj_le rfl) (jj_le rfl) (jj_le rfl) (jj_le rfl) (jj_le rfl) dX11_isWord_26 rfl (fun w1 r O_69 => ?_)
                    obtain ⟨-, rfl⟩ := O_69
                    refine jj_icmp_geT (tgt := 66) C dX11_isWord_29 (by decide) (by decide) ?_
                    refine jj_iload_n C dX11_isWord_66 rfl ?_
                    exact jj_zret C rfl ⟨[], pl_54, rfl, rfl, hok_55, hfr, hfa, (Or.inr ⟨ps_alls.isw ⟨(show c n14 = 102 from by omega), (show c (n14 + 1) = 117 from by rw [Nat.add_comm n14 1]; omega), (show c (n14 + 2) = 110 from by rw [Nat.add_comm n14 2]; omega), (show c (n14 + 3) = 100 from by rw [Nat.add_comm n14 3]; omega), trivial⟩ (show n15 = n14 + 4 from by omega), rfl⟩)⟩ dX11_isWord_67 (jj_le rfl) (jj_le rfl)

set_option maxHeartbeats 4000000 in
set_option maxRecDepth 100000 in
theorem re_isWord_equal {l : Launch} (hl : l.stackTraces = false) (D : va_G) (cA : Nat → ClassId) (ak : (Nat → Nat) × (Nat → Nat)) {Kd : Nat → Nat} {h0 aw aa at0 ai af ap : Nat} (n16 : Nat) (n15 : Nat) (n14 : Nat) (at9 : Nat) (u : Nat → Int32) (c : Nat → Int) (hk0 : Kd h0 = 1) (hkw : Kd aw = 2) (hka : Kd aa = 3) (hkt : Kd at0 = 4) (hki : Kd ai = 5) (hkf : Kd af = 6) (hkp : Kd ap = 7) (ln16 : (0 : Int) ≤ (n16 : Int)) (un16 : (n16 : Int) ≤ 400) (ln15 : (0 : Int) ≤ (n15 : Int)) (un15 : (n15 : Int) ≤ 400) (ln14 : (0 : Int) ≤ (n14 : Int)) (un14 : (n14 : Int) ≤ 400) (hk9 : Kd at9 = 10) (h45 : n14 ≤ n15) (h56 : n15 ≤ n16) (hc : ∀ k : Nat, k < n16 → c k = ((u k) &&& 255).toInt) {pl0 : va_W} (hok : tt_ok rt_tk cA Kd pl0) (hm : rl_m pl0 h0 aw aa at0 ai af ap) (hs12 : tt_at pl0 h0 12 (.ref at9)) (hu : tt_ic pl0 at9 u) (hs14 : tt_at pl0 h0 14 (.int (nI n14))) (hs15 : tt_at pl0 h0 15 (.int (nI n15))) (hs16 : tt_at pl0 h0 16 (.int (nI n16))) : jj_M l D cA ak yX11_isWord (.code yX11_isWord cX11_isWord 4 (some .boolean)) 4 85 0 0 ([] ++ pl0) [.ref h0, .ref (ak.1 21)] (tt_O (fun rx pl1 r => rx = [] ∧ tt_ok rt_tk cA Kd pl1 ∧ tt_fr Kd [] pl0 pl1 ∧ tt_fa Kd [] pl0 pl1 ∧ ((¬ ps_isw c n14 n15 ps_equal ∧ r = some (.int 0)) ∨ (ps_isw c n14 n15 ps_equal ∧ r = some (.int 1))))) (tt_OX (fun _ _ _ => False)) := by
  refine jj_start hl (by decide) jw_f54d9c537b (jj_le rfl) ?_
  intro p e s m args below meth c9 A hargs hA C hex hmn
  have hfr := tt_fr.refl (K := Kd) (WS := []) pl0
  have hfa := tt_fa.refl (K := Kd) (WA := []) pl0
  refine jj_aload_n C dX11_isWord_0 rfl ?_
  refine tt_getF C hok jk_12 15 (by decide) jw_165232ba7c (t := (0, 0, 400)) hk0 (by decide) rfl rfl hs15 dX11_isWord_1 ?_
  refine jj_aload_n C dX11_isWord_4 rfl ?_
  refine tt_getF C hok jk_12 14 (by decide) jw_6446e1fd81 (t := (0, 0, 400)) hk0 (by decide) rfl rfl hs14 dX11_isWord_5 ?_
  obtain ⟨x_1, ex_1, vx_1⟩ := tt_isub (x := (nI n15)) (y := (nI n14)) (a := ((n15 : Nat) : Int)) (rl_ti (by omega)) (b := ((n14 : Nat) : Int)) (rl_ti (by omega)) (by omega) (by omega)
  refine jj_isub (v := x_1) C dX11_isWord_8 ex_1 ?_
  refine jj_aload_n C dX11_isWord_9 rfl ?_
  refine tt_call0Vs (rest := [.int x_1]) C (ct_J0_length_8abf5_s5 hl D cA ak) 21 (by decide) rfl jw_b95c722318 jw_b1ce304435 jw_d08f03a22e jw_4ea6285965 jw_bbc7045666 jn_J0_length_8abf5 rfl (jj_le rfl) (jj_le rfl) (jj_le rfl) (jj_le rfl) (jj_le rfl) dX11_isWord_10 rfl (fun w1 r O_2 => ?_)
  obtain ⟨-, rfl⟩ := O_2
  refine jj_icmp_ne (tgt := 20) C dX11_isWord_13 (by decide) (fun c_3 => ?_) (fun c_3 => ?_)
  · have z_c_3 := jc_neq (a := x_1.toInt) (b := 5) c_3 rfl (by decide)
    refine jj_iconst (v := 0) C dX11_isWord_20 (by decide) ?_
    refine jj_istore_n C dX11_isWord_21 (by decide) rfl ?_
    refine jj_iconst (v := 0) C dX11_isWord_22 (by decide) ?_
    refine jj_istore_n C dX11_isWord_23 (by decide) rfl ?_
    refine jj_iload_n C dX11_isWord_24 rfl ?_
    refine jj_aload_n C dX11_isWord_25 rfl ?_
    refine tt_call0Vs (rest := [.int 0]) C (ct_J0_length_8abf5_s5 hl D cA ak) 21 (by decide) rfl jw_b95c722318 jw_b1ce304435 jw_d08f03a22e jw_4ea6285965 jw_bbc7045666 jn_J0_length_8abf5 rfl (jj_le rfl) (jj_le rfl) (jj_le rfl) (jj_le rfl) (jj_le rfl) dX11_isWord_26 rfl (fun w1 r O_4 => ?_)
    obtain ⟨-, rfl⟩ := O_4
    refine jj_icmp_geF (tgt := 66) C dX11_isWord_29 (by decide) (by decide) ?_
    refine jj_iload_n C dX11_isWord_32 rfl ?_
    refine jj_if_eqT (tgt := 66) C dX11_isWord_33 (by decide) (by decide) ?_
    refine jj_iload_n C dX11_isWord_66 rfl ?_
    exact jj_zret C rfl ⟨[], pl0, rfl, rfl, hok, hfr, hfa, (Or.inl ⟨fun q => by first | (have q1 : n15 = n14 + 5 := q.1; omega) | (have q1 : n15 = n14 + 5 := q.1; have q2 : c n14 = 101 := q.2 0 (by decide); omega) | (have q1 : n15 = n14 + 5 := q.1; have q2 : c (n14 + 1) = 113 := q.2 1 (by decide); rw [Nat.add_comm n14 1] at q2; omega) | (have q1 : n15 = n14 + 5 := q.1; have q2 : c (n14 + 2) = 117 := q.2 2 (by decide); rw [Nat.add_comm n14 2] at q2; omega) | (have q1 : n15 = n14 + 5 := q.1; have q2 : c (n14 + 3) = 97 := q.2 3 (by decide); rw [Nat.add_comm n14 3] at q2; omega) | (have q1 : n15 = n14 + 5 := q.1; have q2 : c (n14 + 4) = 108 := q.2 4 (by decide); rw [Nat.add_comm n14 4] at q2; omega), rfl⟩)⟩ dX11_isWord_67 (jj_le rfl) (jj_le rfl)
  · have z_c_3 := jc_eq (a := x_1.toInt) (b := 5) c_3 rfl (by decide)
    refine jj_iconst (v := 1) C dX11_isWord_16 (by decide) ?_
    refine jj_goto (tgt := 21) C dX11_isWord_17 (by decide) ?_
    refine jj_istore_n C dX11_isWord_21 (by decide) rfl ?_
    refine jj_iconst (v := 0) C dX11_isWord_22 (by decide) ?_
    refine jj_istore_n C dX11_isWord_23 (by decide) rfl ?_
    refine jj_iload_n C dX11_isWord_24 rfl ?_
    refine jj_aload_n C dX11_isWord_25 rfl ?_
    refine tt_call0Vs (rest := [.int 0]) C (ct_J0_length_8abf5_s5 hl D cA ak) 21 (by decide) rfl jw_b95c722318 jw_b1ce304435 jw_d08f03a22e jw_4ea6285965 jw_bbc7045666 jn_J0_length_8abf5 rfl (jj_le rfl) (jj_le rfl) (jj_le rfl) (jj_le rfl) (jj_le rfl) dX11_isWord_26 rfl (fun w1 r O_5 => ?_)
    obtain ⟨-, rfl⟩ := O_5
    refine jj_icmp_geF (tgt := 66) C dX11_isWord_29 (by decide) (by decide) ?_
    refine jj_iload_n C dX11_isWord_32 rfl ?_
    refine jj_if_eqF (tgt := 66) C dX11_isWord_33 (by decide) (by decide) ?_
    refine jj_aload_n C dX11_isWord_36 rfl ?_
    refine jj_aload_n C dX11_isWord_37 rfl ?_
    refine tt_getF C hok jk_12 14 (by decide) jw_6446e1fd81 (t := (0, 0, 400)) hk0 (by decide) rfl rfl hs14 dX11_isWord_38 ?_
    refine jj_iload_n C dX11_isWord_41 rfl ?_
    refine jj_iadd (v := nI n14) C dX11_isWord_42 (rl_addR (kn := 0) (by decide) (by omega)) ?_
    obtain ⟨qc, gs, hqc⟩ := tt_recv (cx := []) hok hk0 (by decide) rfl
    refine tt_callV (rest := []) C (re_byteAt hl D cA ak n16 at9 u n14 c hk0 hkw hka hkt hki hkf hkp (by first | omega | decide) (by first | omega | decide) hk9 (by omega) hc hok hm hs12 hu hs16) [] [] rfl rfl (by decide) (by decide) (by decide) qc hqc rfl rfl jw_98db775389 jw_8e26deba02 jw_8ef34ac32e jw_f96c99f44d jw_4737f96f0a jn_X11_byteAt rfl (jj_le rfl) (jj_le rfl) (jj_le rfl) (jj_le rfl) (jj_le rfl) dX11_isWord_43 rfl (fun _ _ _ hX => hX.elim) (fun rx pl_6 r O_10 => ?_)
    obtain ⟨rfl, hok_7, hr_8, ha_9, hR_11⟩ := O_10
    replace hs12 := hr_8.at hk0 (by decide) (by decide) hs12
    replace hs14 := hr_8.at hk0 (by decide) (by decide) hs14
    replace hs15 := hr_8.at hk0 (by decide) (by decide) hs15
    replace hs16 := hr_8.at hk0 (by decide) (by decide) hs16
    replace hu := ha_9.at hk9 (by decide) (by decide) hu
    replace hm := hm.fr hr_8 hk0 rfl
    replace hfr := hfr.trans (hr_8.sub (by decide))
    replace hfa := hfa.trans (ha_9.sub (by decide))
    rcases hR_11 with ⟨hb_12, rfl⟩ | ⟨hb_13, x_14, hb_15, rfl⟩
    · refine jj_aload_n C dX11_isWord_46 rfl ?_
      refine jj_iload_n C dX11_isWord_47 rfl ?_
      refine tt_call0Vs (rest := [.int (-1)]) C (ct_J0_charAt_5068e_s24 hl D cA ak) 21 (by decide) rfl jw_0b21ef6890 jw_acb9174fef jw_675efe837b jw_4ea6285965 jw_391c0f56bd jn_J0_charAt_5068e rfl (jj_le rfl) (jj_le rfl) (jj_le rfl) (jj_le rfl) (jj_le rfl) dX11_isWord_48 rfl (fun w1 r O_16 => ?_)
      obtain ⟨-, rfl⟩ := O_16
      refine jj_icmp_neT (tgt := 58) C dX11_isWord_51 (by decide) (by decide) ?_
      refine jj_iconst (v := 0) C dX11_isWord_58 (by decide) ?_
      refine jj_istore_n C dX11_isWord_59 (by decide) rfl ?_
      refine jj_iinc (v := 1) C dX11_isWord_60 rfl (by decide) (by decide) rfl ?_
      refine jj_goto (tgt := 24) C dX11_isWord_63 (by decide) ?_
      refine jj_iload_n C dX11_isWord_24 rfl ?_
      refine jj_aload_n C dX11_isWord_25 rfl ?_
      refine tt_call0Vs (rest := [.int 1]) C (ct_J0_length_8abf5_s5 hl D cA ak) 21 (by decide) rfl jw_b95c722318 jw_b1ce304435 jw_d08f03a22e jw_4ea6285965 jw_bbc7045666 jn_J0_length_8abf5 rfl (jj_le rfl) (jj_le rfl) (jj_le rfl) (jj_le rfl) (jj_le rfl) dX11_isWord_26 rfl (fun w1 r O_17 => ?_)
      obtain ⟨-, rfl⟩ := O_17
      refine jj_icmp_geF (tgt := 66) C dX11_isWord_29 (by decide) (by decide) ?_
      refine jj_iload_n C dX11_isWord_32 rfl ?_
      refine jj_if_eqT (tgt := 66) C dX11_isWord_33 (by decide) (by decide) ?_
      refine jj_iload_n C dX11_isWord_66 rfl ?_
      exact jj_zret C rfl ⟨[], pl_6, rfl, rfl, hok_7, hfr, hfa, (Or.inl ⟨fun q => by first | (have q1 : n15 = n14 + 5 := q.1; omega) | (have q1 : n15 = n14 + 5 := q.1; have q2 : c n14 = 101 := q.2 0 (by decide); omega) | (have q1 : n15 = n14 + 5 := q.1; have q2 : c (n14 + 1) = 113 := q.2 1 (by decide); rw [Nat.add_comm n14 1] at q2; omega) | (have q1 : n15 = n14 + 5 := q.1; have q2 : c (n14 + 2) = 117 := q.2 2 (by decide); rw [Nat.add_comm n14 2] at q2; omega) | (have q1 : n15 = n14 + 5 := q.1; have q2 : c (n14 + 3) = 97 := q.2 3 (by decide); rw [Nat.add_comm n14 3] at q2; omega) | (have q1 : n15 = n14 + 5 := q.1; have q2 : c (n14 + 4) = 108 := q.2 4 (by decide); rw [Nat.add_comm n14 4] at q2; omega), rfl⟩)⟩ dX11_isWord_67 (jj_le rfl) (jj_le rfl)
    · have lx_14 := tt_lo x_14
      have ux_14 := tt_hi x_14
      refine jj_aload_n C dX11_isWord_46 rfl ?_
      refine jj_iload_n C dX11_isWord_47 rfl ?_
      refine tt_call0Vs (rest := [.int x_14]) C (ct_J0_charAt_5068e_s24 hl D cA ak) 21 (by decide) rfl jw_0b21ef6890 jw_acb9174fef jw_675efe837b jw_4ea6285965 jw_391c0f56bd jn_J0_charAt_5068e rfl (jj_le rfl) (jj_le rfl) (jj_le rfl) (jj_le rfl) (jj_le rfl) dX11_isWord_48 rfl (fun w1 r O_18 => ?_)
      obtain ⟨-, rfl⟩ := O_18
      refine jj_icmp_ne (tgt := 58) C dX11_isWord_51 (by decide) (fun c_19 => ?_) (fun c_19 => ?_)
      · have z_c_19 := jc_neq (a := x_14.toInt) (b := 101) c_19 rfl (by decide)
        refine jj_iconst (v := 0) C dX11_isWord_58 (by decide) ?_
        refine jj_istore_n C dX11_isWord_59 (by decide) rfl ?_
        refine jj_iinc (v := 1) C dX11_isWord_60 rfl (by decide) (by decide) rfl ?_
        refine jj_goto (tgt := 24) C dX11_isWord_63 (by decide) ?_
        refine jj_iload_n C dX11_isWord_24 rfl ?_
        refine jj_aload_n C dX11_isWord_25 rfl ?_
        refine tt_call0Vs (rest := [.int 1]) C (ct_J0_length_8abf5_s5 hl D cA ak) 21 (by decide) rfl jw_b95c722318 jw_b1ce304435 jw_d08f03a22e jw_4ea6285965 jw_bbc7045666 jn_J0_length_8abf5 rfl (jj_le rfl) (jj_le rfl) (jj_le rfl) (jj_le rfl) (jj_le rfl) dX11_isWord_26 rfl (fun w1 r O_20 => ?_)
        obtain ⟨-, rfl⟩ := O_20
        refine jj_icmp_geF (tgt := 66) C dX11_isWord_29 (by decide) (by decide) ?_
        refine jj_iload_n C dX11_isWord_32 rfl ?_
        refine jj_if_eqT (tgt := 66) C dX11_isWord_33 (by decide) (by decide) ?_
        refine jj_iload_n C dX11_isWord_66 rfl ?_
        exact jj_zret C rfl ⟨[], pl_6, rfl, rfl, hok_7, hfr, hfa, (Or.inl ⟨fun q => by first | (have q1 : n15 = n14 + 5 := q.1; omega) | (have q1 : n15 = n14 + 5 := q.1; have q2 : c n14 = 101 := q.2 0 (by decide); omega) | (have q1 : n15 = n14 + 5 := q.1; have q2 : c (n14 + 1) = 113 := q.2 1 (by decide); rw [Nat.add_comm n14 1] at q2; omega) | (have q1 : n15 = n14 + 5 := q.1; have q2 : c (n14 + 2) = 117 := q.2 2 (by decide); rw [Nat.add_comm n14 2] at q2; omega) | (have q1 : n15 = n14 + 5 := q.1; have q2 : c (n14 + 3) = 97 := q.2 3 (by decide); rw [Nat.add_comm n14 3] at q2; omega) | (have q1 : n15 = n14 + 5 := q.1; have q2 : c (n14 + 4) = 108 := q.2 4 (by decide); rw [Nat.add_comm n14 4] at q2; omega), rfl⟩)⟩ dX11_isWord_67 (jj_le rfl) (jj_le rfl)
      · have z_c_19 := jc_eq (a := x_14.toInt) (b := 101) c_19 rfl (by decide)
        refine jj_iconst (v := 1) C dX11_isWord_54 (by decide) ?_
        refine jj_goto (tgt := 59) C dX11_isWord_55 (by decide) ?_
        refine jj_istore_n C dX11_isWord_59 (by decide) rfl ?_
        refine jj_iinc (v := 1) C dX11_isWord_60 rfl (by decide) (by decide) rfl ?_
        refine jj_goto (tgt := 24) C dX11_isWord_63 (by decide) ?_
        refine jj_iload_n C dX11_isWord_24 rfl ?_
        refine jj_aload_n C dX11_isWord_25 rfl ?_
        refine tt_call0Vs (rest := [.int 1]) C (ct_J0_length_8abf5_s5 hl D cA ak) 21 (by decide) rfl jw_b95c722318 jw_b1ce304435 jw_d08f03a22e jw_4ea6285965 jw_bbc7045666 jn_J0_length_8abf5 rfl (jj_le rfl) (jj_le rfl) (jj_le rfl) (jj_le rfl) (jj_le rfl) dX11_isWord_26 rfl (fun w1 r O_21 => ?_)
        obtain ⟨-, rfl⟩ := O_21
        refine jj_icmp_geF (tgt := 66) C dX11_isWord_29 (by decide) (by decide) ?_
        refine jj_iload_n C dX11_isWord_32 rfl ?_
        refine jj_if_eqF (tgt := 66) C dX11_isWord_33 (by decide) (by decide) ?_
        refine jj_aload_n C dX11_isWord_36 rfl ?_
        refine jj_aload_n C dX11_isWord_37 rfl ?_
        refine tt_getF C hok_7 jk_12 14 (by decide) jw_6446e1fd81 (t := (0, 0, 400)) hk0 (by decide) rfl rfl hs14 dX11_isWord_38 ?_
        refine jj_iload_n C dX11_isWord_41 rfl ?_
        refine jj_iadd (v := nI (1 + n14)) C dX11_isWord_42 (rl_addR (kn := 1) (by decide) (by omega)) ?_
        obtain ⟨qc, gs, hqc⟩ := tt_recv (cx := []) hok_7 hk0 (by decide) rfl
        refine tt_callV (rest := []) C (re_byteAt hl D cA ak n16 at9 u (1 + n14) c hk0 hkw hka hkt hki hkf hkp (by first | omega | decide) (by first | omega | decide) hk9 (by omega) hc hok_7 hm hs12 hu hs16) [] [] rfl rfl (by decide) (by decide) (by decide) qc hqc rfl rfl jw_98db775389 jw_8e26deba02 jw_8ef34ac32e jw_f96c99f44d jw_4737f96f0a jn_X11_byteAt rfl (jj_le rfl) (jj_le rfl) (jj_le rfl) (jj_le rfl) (jj_le rfl) dX11_isWord_43 rfl (fun _ _ _ hX => hX.elim) (fun rx pl_22 r O_26 => ?_)
        obtain ⟨rfl, hok_23, hr_24, ha_25, hR_27⟩ := O_26
        replace hs12 := hr_24.at hk0 (by decide) (by decide) hs12
        replace hs14 := hr_24.at hk0 (by decide) (by decide) hs14
        replace hs15 := hr_24.at hk0 (by decide) (by decide) hs15
        replace hs16 := hr_24.at hk0 (by decide) (by decide) hs16
        replace hu := ha_25.at hk9 (by decide) (by decide) hu
        replace hm := hm.fr hr_24 hk0 rfl
        replace hfr := hfr.trans (hr_24.sub (by decide))
        replace hfa := hfa.trans (ha_25.sub (by decide))
        rcases hR_27 with ⟨hb_28, rfl⟩ | ⟨hb_29, x_30, hb_31, rfl⟩
        · refine jj_aload_n C dX11_isWord_46 rfl ?_
          refine jj_iload_n C dX11_isWord_47 rfl ?_
          refine tt_call0Vs (rest := [.int (-1)]) C (ct_J0_charAt_5068e_s25 hl D cA ak) 21 (by decide) rfl jw_0b21ef6890 jw_acb9174fef jw_675efe837b jw_4ea6285965 jw_391c0f56bd jn_J0_charAt_5068e rfl (jj_le rfl) (jj_le rfl) (jj_le rfl) (jj_le rfl) (jj_le rfl) dX11_isWord_48 rfl (fun w1 r O_32 => ?_)
          obtain ⟨-, rfl⟩ := O_32
          refine jj_icmp_neT (tgt := 58) C dX11_isWord_51 (by decide) (by decide) ?_
          refine jj_iconst (v := 0) C dX11_isWord_58 (by decide) ?_
          refine jj_istore_n C dX11_isWord_59 (by decide) rfl ?_
          refine jj_iinc (v := 2) C dX11_isWord_60 rfl (by decide) (by decide) rfl ?_
          refine jj_goto (tgt := 24) C dX11_isWord_63 (by decide) ?_
          refine jj_iload_n C dX11_isWord_24 rfl ?_
          refine jj_aload_n C dX11_isWord_25 rfl ?_
          refine tt_call0Vs (rest := [.int 2]) C (ct_J0_length_8abf5_s5 hl D cA ak) 21 (by decide) rfl jw_b95c722318 jw_b1ce304435 jw_d08f03a22e jw_4ea6285965 jw_bbc7045666 jn_J0_length_8abf5 rfl (jj_le rfl) (jj_le rfl) (jj_le rfl) (jj_le rfl) (jj_le rfl) dX11_isWord_26 rfl (fun w1 r O_33 => ?_)
          obtain ⟨-, rfl⟩ := O_33
          refine jj_icmp_geF (tgt := 66) C dX11_isWord_29 (by decide) (by decide) ?_
          refine jj_iload_n C dX11_isWord_32 rfl ?_
          refine jj_if_eqT (tgt := 66) C dX11_isWord_33 (by decide) (by decide) ?_
          refine jj_iload_n C dX11_isWord_66 rfl ?_
          exact jj_zret C rfl ⟨[], pl_22, rfl, rfl, hok_23, hfr, hfa, (Or.inl ⟨fun q => by first | (have q1 : n15 = n14 + 5 := q.1; omega) | (have q1 : n15 = n14 + 5 := q.1; have q2 : c n14 = 101 := q.2 0 (by decide); omega) | (have q1 : n15 = n14 + 5 := q.1; have q2 : c (n14 + 1) = 113 := q.2 1 (by decide); rw [Nat.add_comm n14 1] at q2; omega) | (have q1 : n15 = n14 + 5 := q.1; have q2 : c (n14 + 2) = 117 := q.2 2 (by decide); rw [Nat.add_comm n14 2] at q2; omega) | (have q1 : n15 = n14 + 5 := q.1; have q2 : c (n14 + 3) = 97 := q.2 3 (by decide); rw [Nat.add_comm n14 3] at q2; omega) | (have q1 : n15 = n14 + 5 := q.1; have q2 : c (n14 + 4) = 108 := q.2 4 (by decide); rw [Nat.add_comm n14 4] at q2; omega), rfl⟩)⟩ dX11_isWord_67 (jj_le rfl) (jj_le rfl)
        · have lx_30 := tt_lo x_30
          have ux_30 := tt_hi x_30
          refine jj_aload_n C dX11_isWord_46 rfl ?_
          refine jj_iload_n C dX11_isWord_47 rfl ?_
          refine tt_call0Vs (rest := [.int x_30]) C (ct_J0_charAt_5068e_s25 hl D cA ak) 21 (by decide) rfl jw_0b21ef6890 jw_acb9174fef jw_675efe837b jw_4ea6285965 jw_391c0f56bd jn_J0_charAt_5068e rfl (jj_le rfl) (jj_le rfl) (jj_le rfl) (jj_le rfl) (jj_le rfl) dX11_isWord_48 rfl (fun w1 r O_34 => ?_)
          obtain ⟨-, rfl⟩ := O_34
          refine jj_icmp_ne (tgt := 58) C dX11_isWord_51 (by decide) (fun c_35 => ?_) (fun c_35 => ?_)
          · have z_c_35 := jc_neq (a := x_30.toInt) (b := 113) c_35 rfl (by decide)
            refine jj_iconst (v := 0) C dX11_isWord_58 (by decide) ?_
            refine jj_istore_n C dX11_isWord_59 (by decide) rfl ?_
            refine jj_iinc (v := 2) C dX11_isWord_60 rfl (by decide) (by decide) rfl ?_
            refine jj_goto (tgt := 24) C dX11_isWord_63 (by decide) ?_
            refine jj_iload_n C dX11_isWord_24 rfl ?_
            refine jj_aload_n C dX11_isWord_25 rfl ?_
            refine tt_call0Vs (rest := [.int 2]) C (ct_J0_length_8abf5_s5 hl D cA ak) 21 (by decide) rfl jw_b95c722318 jw_b1ce304435 jw_d08f03a22e jw_4ea6285965 jw_bbc7045666 jn_J0_length_8abf5 rfl (jj_le rfl) (jj_le rfl) (jj_le rfl) (jj_le rfl) (jj_le rfl) dX11_isWord_26 rfl (fun w1 r O_36 => ?_)
            obtain ⟨-, rfl⟩ := O_36
            refine jj_icmp_geF (tgt := 66) C dX11_isWord_29 (by decide) (by decide) ?_
            refine jj_iload_n C dX11_isWord_32 rfl ?_
            refine jj_if_eqT (tgt := 66) C dX11_isWord_33 (by decide) (by decide) ?_
            refine jj_iload_n C dX11_isWord_66 rfl ?_
            exact jj_zret C rfl ⟨[], pl_22, rfl, rfl, hok_23, hfr, hfa, (Or.inl ⟨fun q => by first | (have q1 : n15 = n14 + 5 := q.1; omega) | (have q1 : n15 = n14 + 5 := q.1; have q2 : c n14 = 101 := q.2 0 (by decide); omega) | (have q1 : n15 = n14 + 5 := q.1; have q2 : c (n14 + 1) = 113 := q.2 1 (by decide); rw [Nat.add_comm n14 1] at q2; omega) | (have q1 : n15 = n14 + 5 := q.1; have q2 : c (n14 + 2) = 117 := q.2 2 (by decide); rw [Nat.add_comm n14 2] at q2; omega) | (have q1 : n15 = n14 + 5 := q.1; have q2 : c (n14 + 3) = 97 := q.2 3 (by decide); rw [Nat.add_comm n14 3] at q2; omega) | (have q1 : n15 = n14 + 5 := q.1; have q2 : c (n14 + 4) = 108 := q.2 4 (by decide); rw [Nat.add_comm n14 4] at q2; omega), rfl⟩)⟩ dX11_isWord_67 (jj_le rfl) (jj_le rfl)
          · have z_c_35 := jc_eq (a := x_30.toInt) (b := 113) c_35 rfl (by decide)
            refine jj_iconst (v := 1) C dX11_isWord_54 (by decide) ?_
            refine jj_goto (tgt := 59) C dX11_isWord_55 (by decide) ?_
            refine jj_istore_n C dX11_isWord_59 (by decide) rfl ?_
            refine jj_iinc (v := 2) C dX11_isWord_60 rfl (by decide) (by decide) rfl ?_
            refine jj_goto (tgt := 24) C dX11_isWord_63 (by decide) ?_
            refine jj_iload_n C dX11_isWord_24 rfl ?_
            refine jj_aload_n C dX11_isWord_25 rfl ?_
            refine tt_call0Vs (rest := [.int 2]) C (ct_J0_length_8abf5_s5 hl D cA ak) 21 (by decide) rfl jw_b95c722318 jw_b1ce304435 jw_d08f03a22e jw_4ea6285965 jw_bbc7045666 jn_J0_length_8abf5 rfl (jj_le rfl) (jj_le rfl) (jj_le rfl) (jj_le rfl) (jj_le rfl) dX11_isWord_26 rfl (fun w1 r O_37 => ?_)
            obtain ⟨-, rfl⟩ := O_37
            refine jj_icmp_geF (tgt := 66) C dX11_isWord_29 (by decide) (by decide) ?_
            refine jj_iload_n C dX11_isWord_32 rfl ?_
            refine jj_if_eqF (tgt := 66) C dX11_isWord_33 (by decide) (by decide) ?_
            refine jj_aload_n C dX11_isWord_36 rfl ?_
            refine jj_aload_n C dX11_isWord_37 rfl ?_
            refine tt_getF C hok_23 jk_12 14 (by decide) jw_6446e1fd81 (t := (0, 0, 400)) hk0 (by decide) rfl rfl hs14 dX11_isWord_38 ?_
            refine jj_iload_n C dX11_isWord_41 rfl ?_
            refine jj_iadd (v := nI (2 + n14)) C dX11_isWord_42 (rl_addR (kn := 2) (by decide) (by omega)) ?_
            obtain ⟨qc, gs, hqc⟩ := tt_recv (cx := []) hok_23 hk0 (by decide) rfl
            refine tt_callV (rest := []) C (re_byteAt hl D cA ak n16 at9 u (2 + n14) c hk0 hkw hka hkt hki hkf hkp (by first | omega | decide) (by first | omega | decide) hk9 (by omega) hc hok_23 hm hs12 hu hs16) [] [] rfl rfl (by decide) (by decide) (by decide) qc hqc rfl rfl jw_98db775389 jw_8e26deba02 jw_8ef34ac32e jw_f96c99f44d jw_4737f96f0a jn_X11_byteAt rfl (jj_le rfl) (jj_le rfl) (jj_le rfl) (jj_le rfl) (jj_le rfl) dX11_isWord_43 rfl (fun _ _ _ hX => hX.elim) (fun rx pl_38 r O_42 => ?_)
            obtain ⟨rfl, hok_39, hr_40, ha_41, hR_43⟩ := O_42
            replace hs12 := hr_40.at hk0 (by decide) (by decide) hs12
            replace hs14 := hr_40.at hk0 (by decide) (by decide) hs14
            replace hs15 := hr_40.at hk0 (by decide) (by decide) hs15
            replace hs16 := hr_40.at hk0 (by decide) (by decide) hs16
            replace hu := ha_41.at hk9 (by decide) (by decide) hu
            replace hm := hm.fr hr_40 hk0 rfl
            replace hfr := hfr.trans (hr_40.sub (by decide))
            replace hfa := hfa.trans (ha_41.sub (by decide))
            rcases hR_43 with ⟨hb_44, rfl⟩ | ⟨hb_45, x_46, hb_47, rfl⟩
            · refine jj_aload_n C dX11_isWord_46 rfl ?_
              refine jj_iload_n C dX11_isWord_47 rfl ?_
              refine tt_call0Vs (rest := [.int (-1)]) C (ct_J0_charAt_5068e_s26 hl D cA ak) 21 (by decide) rfl jw_0b21ef6890 jw_acb9174fef jw_675efe837b jw_4ea6285965 jw_391c0f56bd jn_J0_charAt_5068e rfl (jj_le rfl) (jj_le rfl) (jj_le rfl) (jj_le rfl) (jj_le rfl) dX11_isWord_48 rfl (fun w1 r O_48 => ?_)
              obtain ⟨-, rfl⟩ := O_48
              refine jj_icmp_neT (tgt := 58) C dX11_isWord_51 (by decide) (by decide) ?_
              refine jj_iconst (v := 0) C dX11_isWord_58 (by decide) ?_
              refine jj_istore_n C dX11_isWord_59 (by decide) rfl ?_
              refine jj_iinc (v := 3) C dX11_isWord_60 rfl (by decide) (by decide) rfl ?_
              refine jj_goto (tgt := 24) C dX11_isWord_63 (by decide) ?_
              refine jj_iload_n C dX11_isWord_24 rfl ?_
              refine jj_aload_n C dX11_isWord_25 rfl ?_
              refine tt_call0Vs (rest := [.int 3]) C (ct_J0_length_8abf5_s5 hl D cA ak) 21 (by decide) rfl jw_b95c722318 jw_b1ce304435 jw_d08f03a22e jw_4ea6285965 jw_bbc7045666 jn_J0_length_8abf5 rfl (jj_le rfl) (jj_le rfl) (jj_le rfl) (jj_le rfl) (jj_le rfl) dX11_isWord_26 rfl (fun w1 r O_49 => ?_)
              obtain ⟨-, rfl⟩ := O_49
              refine jj_icmp_geF (tgt := 66) C dX11_isWord_29 (by decide) (by decide) ?_
              refine jj_iload_n C dX11_isWord_32 rfl ?_
              refine jj_if_eqT (tgt := 66) C dX11_isWord_33 (by decide) (by decide) ?_
              refine jj_iload_n C dX11_isWord_66 rfl ?_
              exact jj_zret C rfl ⟨[], pl_38, rfl, rfl, hok_39, hfr, hfa, (Or.inl ⟨fun q => by first | (have q1 : n15 = n14 + 5 := q.1; omega) | (have q1 : n15 = n14 + 5 := q.1; have q2 : c n14 = 101 := q.2 0 (by decide); omega) | (have q1 : n15 = n14 + 5 := q.1; have q2 : c (n14 + 1) = 113 := q.2 1 (by decide); rw [Nat.add_comm n14 1] at q2; omega) | (have q1 : n15 = n14 + 5 := q.1; have q2 : c (n14 + 2) = 117 := q.2 2 (by decide); rw [Nat.add_comm n14 2] at q2; omega) | (have q1 : n15 = n14 + 5 := q.1; have q2 : c (n14 + 3) = 97 := q.2 3 (by decide); rw [Nat.add_comm n14 3] at q2; omega) | (have q1 : n15 = n14 + 5 := q.1; have q2 : c (n14 + 4) = 108 := q.2 4 (by decide); rw [Nat.add_comm n14 4] at q2; omega), rfl⟩)⟩ dX11_isWord_67 (jj_le rfl) (jj_le rfl)
            · have lx_46 := tt_lo x_46
              have ux_46 := tt_hi x_46
              refine jj_aload_n C dX11_isWord_46 rfl ?_
              refine jj_iload_n C dX11_isWord_47 rfl ?_
              refine tt_call0Vs (rest := [.int x_46]) C (ct_J0_charAt_5068e_s26 hl D cA ak) 21 (by decide) rfl jw_0b21ef6890 jw_acb9174fef jw_675efe837b jw_4ea6285965 jw_391c0f56bd jn_J0_charAt_5068e rfl (jj_le rfl) (jj_le rfl) (jj_le rfl) (jj_le rfl) (jj_le rfl) dX11_isWord_48 rfl (fun w1 r O_50 => ?_)
              obtain ⟨-, rfl⟩ := O_50
              refine jj_icmp_ne (tgt := 58) C dX11_isWord_51 (by decide) (fun c_51 => ?_) (fun c_51 => ?_)
              · have z_c_51 := jc_neq (a := x_46.toInt) (b := 117) c_51 rfl (by decide)
                refine jj_iconst (v := 0) C dX11_isWord_58 (by decide) ?_
                refine jj_istore_n C dX11_isWord_59 (by decide) rfl ?_
                refine jj_iinc (v := 3) C dX11_isWord_60 rfl (by decide) (by decide) rfl ?_
                refine jj_goto (tgt := 24) C dX11_isWord_63 (by decide) ?_
                refine jj_iload_n C dX11_isWord_24 rfl ?_
                refine jj_aload_n C dX11_isWord_25 rfl ?_
                refine tt_call0Vs (rest := [.int 3]) C (ct_J0_length_8abf5_s5 hl D cA ak) 21 (by decide) rfl jw_b95c722318 jw_b1ce304435 jw_d08f03a22e jw_4ea6285965 jw_bbc7045666 jn_J0_length_8abf5 rfl (jj_le rfl) (jj_le rfl) (jj_le rfl) (jj_le rfl) (jj_le rfl) dX11_isWord_26 rfl (fun w1 r O_52 => ?_)
                obtain ⟨-, rfl⟩ := O_52
                refine jj_icmp_geF (tgt := 66) C dX11_isWord_29 (by decide) (by decide) ?_
                refine jj_iload_n C dX11_isWord_32 rfl ?_
                refine jj_if_eqT (tgt := 66) C dX11_isWord_33 (by decide) (by decide) ?_
                refine jj_iload_n C dX11_isWord_66 rfl ?_
                exact jj_zret C rfl ⟨[], pl_38, rfl, rfl, hok_39, hfr, hfa, (Or.inl ⟨fun q => by first | (have q1 : n15 = n14 + 5 := q.1; omega) | (have q1 : n15 = n14 + 5 := q.1; have q2 : c n14 = 101 := q.2 0 (by decide); omega) | (have q1 : n15 = n14 + 5 := q.1; have q2 : c (n14 + 1) = 113 := q.2 1 (by decide); rw [Nat.add_comm n14 1] at q2; omega) | (have q1 : n15 = n14 + 5 := q.1; have q2 : c (n14 + 2) = 117 := q.2 2 (by decide); rw [Nat.add_comm n14 2] at q2; omega) | (have q1 : n15 = n14 + 5 := q.1; have q2 : c (n14 + 3) = 97 := q.2 3 (by decide); rw [Nat.add_comm n14 3] at q2; omega) | (have q1 : n15 = n14 + 5 := q.1; have q2 : c (n14 + 4) = 108 := q.2 4 (by decide); rw [Nat.add_comm n14 4] at q2; omega), rfl⟩)⟩ dX11_isWord_67 (jj_le rfl) (jj_le rfl)
              · have z_c_51 := jc_eq (a := x_46.toInt) (b := 117) c_51 rfl (by decide)
                refine jj_iconst (v := 1) C dX11_isWord_54 (by decide) ?_
                refine jj_goto (tgt := 59) C dX11_isWord_55 (by decide) ?_
                refine jj_istore_n C dX11_isWord_59 (by decide) rfl ?_
                refine jj_iinc (v := 3) C dX11_isWord_60 rfl (by decide) (by decide) rfl ?_
                refine jj_goto (tgt := 24) C dX11_isWord_63 (by decide) ?_
                refine jj_iload_n C dX11_isWord_24 rfl ?_
                refine jj_aload_n C dX11_isWord_25 rfl ?_
                refine tt_call0Vs (rest := [.int 3]) C (ct_J0_length_8abf5_s5 hl D cA ak) 21 (by decide) rfl jw_b95c722318 jw_b1ce304435 jw_d08f03a22e jw_4ea6285965 jw_bbc7045666 jn_J0_length_8abf5 rfl (jj_le rfl) (jj_le rfl) (jj_le rfl) (jj_le rfl) (jj_le rfl) dX11_isWord_26 rfl (fun w1 r O_53 => ?_)
                obtain ⟨-, rfl⟩ := O_53
                refine jj_icmp_geF (tgt := 66) C dX11_isWord_29 (by decide) (by decide) ?_
                refine jj_iload_n C dX11_isWord_32 rfl ?_
                refine jj_if_eqF (tgt := 66) C dX11_isWord_33 (by decide) (by decide) ?_
                refine jj_aload_n C dX11_isWord_36 rfl ?_
                refine jj_aload_n C dX11_isWord_37 rfl ?_
                refine tt_getF C hok_39 jk_12 14 (by decide) jw_6446e1fd81 (t := (0, 0, 400)) hk0 (by decide) rfl rfl hs14 dX11_isWord_38 ?_
                refine jj_iload_n C dX11_isWord_41 rfl ?_
                refine jj_iadd (v := nI (3 + n14)) C dX11_isWord_42 (rl_addR (kn := 3) (by decide) (by omega)) ?_
                obtain ⟨qc, gs, hqc⟩ := tt_recv (cx := []) hok_39 hk0 (by decide) rfl
                refine tt_callV (rest := []) C (re_byteAt hl D cA ak n16 at9 u (3 + n14) c hk0 hkw hka hkt hki hkf hkp (by first | omega | decide) (by first | omega | decide) hk9 (by omega) hc hok_39 hm hs12 hu hs16) [] [] rfl rfl (by decide) (by decide) (by decide) qc hqc rfl rfl jw_98db775389 jw_8e26deba02 jw_8ef34ac32e jw_f96c99f44d jw_4737f96f0a jn_X11_byteAt rfl (jj_le rfl) (jj_le rfl) (jj_le rfl) (jj_le rfl) (jj_le rfl) dX11_isWord_43 rfl (fun _ _ _ hX => hX.elim) (fun rx pl_54 r O_58 => ?_)
                obtain ⟨rfl, hok_55, hr_56, ha_57, hR_59⟩ := O_58
                replace hs12 := hr_56.at hk0 (by decide) (by decide) hs12
                replace hs14 := hr_56.at hk0 (by decide) (by decide) hs14
                replace hs15 := hr_56.at hk0 (by decide) (by decide) hs15
                replace hs16 := hr_56.at hk0 (by decide) (by decide) hs16
                replace hu := ha_57.at hk9 (by decide) (by decide) hu
                replace hm := hm.fr hr_56 hk0 rfl
                replace hfr := hfr.trans (hr_56.sub (by decide))
                replace hfa := hfa.trans (ha_57.sub (by decide))
                rcases hR_59 with ⟨hb_60, rfl⟩ | ⟨hb_61, x_62, hb_63, rfl⟩
                · refine jj_aload_n C dX11_isWord_46 rfl ?_
                  refine jj_iload_n C dX11_isWord_47 rfl ?_
                  refine tt_call0Vs (rest := [.int (-1)]) C (ct_J0_charAt_5068e_s27 hl D cA ak) 21 (by decide) rfl jw_0b21ef6890 jw_acb9174fef jw_675efe837b jw_4ea6285965 jw_391c0f56bd jn_J0_charAt_5068e rfl (jj_le rfl) (jj_le rfl) (jj_le rfl) (jj_le rfl) (jj_le rfl) dX11_isWord_48 rfl (fun w1 r O_64 => ?_)
                  obtain ⟨-, rfl⟩ := O_64
                  refine jj_icmp_neT (tgt := 58) C dX11_isWord_51 (by decide) (by decide) ?_
                  refine jj_iconst (v := 0) C dX11_isWord_58 (by decide) ?_
                  refine jj_istore_n C dX11_isWord_59 (by decide) rfl ?_
                  refine jj_iinc (v := 4) C dX11_isWord_60 rfl (by decide) (by decide) rfl ?_
                  refine jj_goto (tgt := 24) C dX11_isWord_63 (by decide) ?_
                  refine jj_iload_n C dX11_isWord_24 rfl ?_
                  refine jj_aload_n C dX11_isWord_25 rfl ?_
                  refine tt_call0Vs (rest := [.int 4]) C (ct_J0_length_8abf5_s5 hl D cA ak) 21 (by decide) rfl jw_b95c722318 jw_b1ce304435 jw_d08f03a22e jw_4ea6285965 jw_bbc7045666 jn_J0_length_8abf5 rfl (jj_le rfl) (jj_le rfl) (jj_le rfl) (jj_le rfl) (jj_le rfl) dX11_isWord_26 rfl (fun w1 r O_65 => ?_)
                  obtain ⟨-, rfl⟩ := O_65
                  refine jj_icmp_geF (tgt := 66) C dX11_isWord_29 (by decide) (by decide) ?_
                  refine jj_iload_n C dX11_isWord_32 rfl ?_
                  refine jj_if_eqT (tgt := 66) C dX11_isWord_33 (by decide) (by decide) ?_
                  refine jj_iload_n C dX11_isWord_66 rfl ?_
                  exact jj_zret C rfl ⟨[], pl_54, rfl, rfl, hok_55, hfr, hfa, (Or.inl ⟨fun q => by first | (have q1 : n15 = n14 + 5 := q.1; omega) | (have q1 : n15 = n14 + 5 := q.1; have q2 : c n14 = 101 := q.2 0 (by decide); omega) | (have q1 : n15 = n14 + 5 := q.1; have q2 : c (n14 + 1) = 113 := q.2 1 (by decide); rw [Nat.add_comm n14 1] at q2; omega) | (have q1 : n15 = n14 + 5 := q.1; have q2 : c (n14 + 2) = 117 := q.2 2 (by decide); rw [Nat.add_comm n14 2] at q2; omega) | (have q1 : n15 = n14 + 5 := q.1; have q2 : c (n14 + 3) = 97 := q.2 3 (by decide); rw [Nat.add_comm n14 3] at q2; omega) | (have q1 : n15 = n14 + 5 := q.1; have q2 : c (n14 + 4) = 108 := q.2 4 (by decide); rw [Nat.add_comm n14 4] at q2; omega), rfl⟩)⟩ dX11_isWord_67 (jj_le rfl) (jj_le rfl)
                · have lx_62 := tt_lo x_62
                  have ux_62 := tt_hi x_62
                  refine jj_aload_n C dX11_isWord_46 rfl ?_
                  refine jj_iload_n C dX11_isWord_47 rfl ?_
                  refine tt_call0Vs (rest := [.int x_62]) C (ct_J0_charAt_5068e_s27 hl D cA ak) 21 (by decide) rfl jw_0b21ef6890 jw_acb9174fef jw_675efe837b jw_4ea6285965 jw_391c0f56bd jn_J0_charAt_5068e rfl (jj_le rfl) (jj_le rfl) (jj_le rfl) (jj_le rfl) (jj_le rfl) dX11_isWord_48 rfl (fun w1 r O_66 => ?_)
                  obtain ⟨-, rfl⟩ := O_66
                  refine jj_icmp_ne (tgt := 58) C dX11_isWord_51 (by decide) (fun c_67 => ?_) (fun c_67 => ?_)
                  · have z_c_67 := jc_neq (a := x_62.toInt) (b := 97) c_67 rfl (by decide)
                    refine jj_iconst (v := 0) C dX11_isWord_58 (by decide) ?_
                    refine jj_istore_n C dX11_isWord_59 (by decide) rfl ?_
                    refine jj_iinc (v := 4) C dX11_isWord_60 rfl (by decide) (by decide) rfl ?_
                    refine jj_goto (tgt := 24) C dX11_isWord_63 (by decide) ?_
                    refine jj_iload_n C dX11_isWord_24 rfl ?_
                    refine jj_aload_n C dX11_isWord_25 rfl ?_
                    refine tt_call0Vs (rest := [.int 4]) C (ct_J0_length_8abf5_s5 hl D cA ak) 21 (by decide) rfl jw_b95c722318 jw_b1ce304435 jw_d08f03a22e jw_4ea6285965 jw_bbc7045666 jn_J0_length_8abf5 rfl (jj_le rfl) (jj_le rfl) (jj_le rfl) (jj_le rfl) (jj_le rfl) dX11_isWord_26 rfl (fun w1 r O_68 => ?_)
                    obtain ⟨-, rfl⟩ := O_68
                    refine jj_icmp_geF (tgt := 66) C dX11_isWord_29 (by decide) (by decide) ?_
                    refine jj_iload_n C dX11_isWord_32 rfl ?_
                    refine jj_if_eqT (tgt := 66) C dX11_isWord_33 (by decide) (by decide) ?_
                    refine jj_iload_n C dX11_isWord_66 rfl ?_
                    exact jj_zret C rfl ⟨[], pl_54, rfl, rfl, hok_55, hfr, hfa, (Or.inl ⟨fun q => by first | (have q1 : n15 = n14 + 5 := q.1; omega) | (have q1 : n15 = n14 + 5 := q.1; have q2 : c n14 = 101 := q.2 0 (by decide); omega) | (have q1 : n15 = n14 + 5 := q.1; have q2 : c (n14 + 1) = 113 := q.2 1 (by decide); rw [Nat.add_comm n14 1] at q2; omega) | (have q1 : n15 = n14 + 5 := q.1; have q2 : c (n14 + 2) = 117 := q.2 2 (by decide); rw [Nat.add_comm n14 2] at q2; omega) | (have q1 : n15 = n14 + 5 := q.1; have q2 : c (n14 + 3) = 97 := q.2 3 (by decide); rw [Nat.add_comm n14 3] at q2; omega) | (have q1 : n15 = n14 + 5 := q.1; have q2 : c (n14 + 4) = 108 := q.2 4 (by decide); rw [Nat.add_comm n14 4] at q2; omega), rfl⟩)⟩ dX11_isWord_67 (jj_le rfl) (jj_le rfl)
                  · have z_c_67 := jc_eq (a := x_62.toInt) (b := 97) c_67 rfl (by decide)
                    refine jj_iconst (v := 1) C dX11_isWord_54 (by decide) ?_
                    refine jj_goto (tgt := 59) C dX11_isWord_55 (by decide) ?_
                    refine jj_istore_n C dX11_isWord_59 (by decide) rfl ?_
                    refine jj_iinc (v := 4) C dX11_isWord_60 rfl (by decide) (by decide) rfl ?_
                    refine jj_goto (tgt := 24) C dX11_isWord_63 (by decide) ?_
                    refine jj_iload_n C dX11_isWord_24 rfl ?_
                    refine jj_aload_n C dX11_isWord_25 rfl ?_
                    refine tt_call0Vs (rest := [.int 4]) C (ct_J0_length_8abf5_s5 hl D cA ak) 21 (by decide) rfl jw_b95c722318 jw_b1ce304435 jw_d08f03a22e jw_4ea6285965 jw_bbc7045666 jn_J0_length_8abf5 rfl (jj_le rfl) (jj_le rfl) (jj_le rfl) (jj_le rfl) (jj_le rfl) dX11_isWord_26 rfl (fun w1 r O_69 => ?_)
                    obtain ⟨-, rfl⟩ := O_69
                    refine jj_icmp_geF (tgt := 66) C dX11_isWord_29 (by decide) (by decide) ?_
                    refine jj_iload_n C dX11_isWord_32 rfl ?_
                    refine jj_if_eqF (tgt := 66) C dX11_isWord_33 (by decide) (by decide) ?_
                    refine jj_aload_n C dX11_isWord_36 rfl ?_
                    refine jj_aload_n C dX11_isWord_37 rfl ?_
                    refine tt_getF C hok_55 jk_12 14 (by decide) jw_6446e1fd81 (t := (0, 0, 400)) hk0 (by decide) rfl rfl hs14 dX11_isWord_38 ?_
                    refine jj_iload_n C dX11_isWord_41 rfl ?_
                    refine jj_iadd (v := nI (4 + n14)) C dX11_isWord_42 (rl_addR (kn := 4) (by decide) (by omega)) ?_
                    obtain ⟨qc, gs, hqc⟩ := tt_recv (cx := []) hok_55 hk0 (by decide) rfl
                    refine tt_callV (rest := []) C (re_byteAt hl D cA ak n16 at9 u (4 + n14) c hk0 hkw hka hkt hki hkf hkp (by first | omega | decide) (by first | omega | decide) hk9 (by omega) hc hok_55 hm hs12 hu hs16) [] [] rfl rfl (by decide) (by decide) (by decide) qc hqc rfl rfl jw_98db775389 jw_8e26deba02 jw_8ef34ac32e jw_f96c99f44d jw_4737f96f0a jn_X11_byteAt rfl (jj_le rfl) (jj_le rfl) (jj_le rfl) (jj_le rfl) (jj_le rfl) dX11_isWord_43 rfl (fun _ _ _ hX => hX.elim) (fun rx pl_70 r O_74 => ?_)
                    obtain ⟨rfl, hok_71, hr_72, ha_73, hR_75⟩ := O_74
                    replace hs12 := hr_72.at hk0 (by decide) (by decide) hs12
                    replace hs14 := hr_72.at hk0 (by decide) (by decide) hs14
                    replace hs15 := hr_72.at hk0 (by decide) (by decide) hs15
                    replace hs16 := hr_72.at hk0 (by decide) (by decide) hs16
                    replace hu := ha_73.at hk9 (by decide) (by decide) hu
                    replace hm := hm.fr hr_72 hk0 rfl
                    replace hfr := hfr.trans (hr_72.sub (by decide))
                    replace hfa := hfa.trans (ha_73.sub (by decide))
                    rcases hR_75 with ⟨hb_76, rfl⟩ | ⟨hb_77, x_78, hb_79, rfl⟩
                    · refine jj_aload_n C dX11_isWord_46 rfl ?_
                      refine jj_iload_n C dX11_isWord_47 rfl ?_
                      refine tt_call0Vs (rest := [.int (-1)]) C (ct_J0_charAt_5068e_s28 hl D cA ak) 21 (by decide) rfl jw_0b21ef6890 jw_acb9174fef jw_675efe837b jw_4ea6285965 jw_391c0f56bd jn_J0_charAt_5068e rfl (jj_le rfl) (jj_le rfl) (jj_le rfl) (jj_le rfl) (jj_le rfl) dX11_isWord_48 rfl (fun w1 r O_80 => ?_)
                      obtain ⟨-, rfl⟩ := O_80
                      refine jj_icmp_neT (tgt := 58) C dX11_isWord_51 (by decide) (by decide) ?_
                      refine jj_iconst (v := 0) C dX11_isWord_58 (by decide) ?_
                      refine jj_istore_n C dX11_isWord_59 (by decide) rfl ?_
                      refine jj_iinc (v := 5) C dX11_isWord_60 rfl (by decide) (by decide) rfl ?_
                      refine jj_goto (tgt := 24) C dX11_isWord_63 (by decide) ?_
                      refine jj_iload_n C dX11_isWord_24 rfl ?_
                      refine jj_aload_n C dX11_isWord_25 rfl ?_
                      refine tt_call0Vs (rest := [.int 5]) C (ct_J0_length_8abf5_s5 hl D cA ak) 21 (by decide) rfl jw_b95c722318 jw_b1ce304435 jw_d08f03a22e jw_4ea6285965 jw_bbc7045666 jn_J0_length_8abf5 rfl (jj_le rfl) (jj_le rfl) (jj_le rfl) (jj_le rfl) (jj_le rfl) dX11_isWord_26 rfl (fun w1 r O_81 => ?_)
                      obtain ⟨-, rfl⟩ := O_81
                      refine jj_icmp_geT (tgt := 66) C dX11_isWord_29 (by decide) (by decide) ?_
                      refine jj_iload_n C dX11_isWord_66 rfl ?_
                      exact jj_zret C rfl ⟨[], pl_70, rfl, rfl, hok_71, hfr, hfa, (Or.inl ⟨fun q => by first | (have q1 : n15 = n14 + 5 := q.1; omega) | (have q1 : n15 = n14 + 5 := q.1; have q2 : c n14 = 101 := q.2 0 (by decide); omega) | (have q1 : n15 = n14 + 5 := q.1; have q2 : c (n14 + 1) = 113 := q.2 1 (by decide); rw [Nat.add_comm n14 1] at q2; omega) | (have q1 : n15 = n14 + 5 := q.1; have q2 : c (n14 + 2) = 117 := q.2 2 (by decide); rw [Nat.add_comm n14 2] at q2; omega) | (have q1 : n15 = n14 + 5 := q.1; have q2 : c (n14 + 3) = 97 := q.2 3 (by decide); rw [Nat.add_comm n14 3] at q2; omega) | (have q1 : n15 = n14 + 5 := q.1; have q2 : c (n14 + 4) = 108 := q.2 4 (by decide); rw [Nat.add_comm n14 4] at q2; omega), rfl⟩)⟩ dX11_isWord_67 (jj_le rfl) (jj_le rfl)
                    · have lx_78 := tt_lo x_78
                      have ux_78 := tt_hi x_78
                      refine jj_aload_n C dX11_isWord_46 rfl ?_
                      refine jj_iload_n C dX11_isWord_47 rfl ?_
                      refine tt_call0Vs (rest := [.int x_78]) C (ct_J0_charAt_5068e_s28 hl D cA ak) 21 (by decide) rfl jw_0b21ef6890 jw_acb9174fef jw_675efe837b jw_4ea6285965 jw_391c0f56bd jn_J0_charAt_5068e rfl (jj_le rfl) (jj_le rfl) (jj_le rfl) (jj_le rfl) (jj_le rfl) dX11_isWord_48 rfl (fun w1 r O_82 => ?_)
                      obtain ⟨-, rfl⟩ := O_82
                      refine jj_icmp_ne (tgt := 58) C dX11_isWord_51 (by decide) (fun c_83 => ?_) (fun c_83 => ?_)
                      · have z_c_83 := jc_neq (a := x_78.toInt) (b := 108) c_83 rfl (by decide)
                        refine jj_iconst (v := 0) C dX11_isWord_58 (by decide) ?_
                        refine jj_istore_n C dX11_isWord_59 (by decide) rfl ?_
                        refine jj_iinc (v := 5) C dX11_isWord_60 rfl (by decide) (by decide) rfl ?_
                        refine jj_goto (tgt := 24) C dX11_isWord_63 (by decide) ?_
                        refine jj_iload_n C dX11_isWord_24 rfl ?_
                        refine jj_aload_n C dX11_isWord_25 rfl ?_
                        refine tt_call0Vs (rest := [.int 5]) C (ct_J0_length_8abf5_s5 hl D cA ak) 21 (by decide) rfl jw_b95c722318 jw_b1ce304435 jw_d08f03a22e jw_4ea6285965 jw_bbc7045666 jn_J0_length_8abf5 rfl (jj_le rfl) (jj_le rfl) (jj_le rfl) (jj_le rfl) (jj_le rfl) dX11_isWord_26 rfl (fun w1 r O_84 => ?_)
                        obtain ⟨-, rfl⟩ := O_84
                        refine jj_icmp_geT (tgt := 66) C dX11_isWord_29 (by decide) (by decide) ?_
                        refine jj_iload_n C dX11_isWord_66 rfl ?_
                        exact jj_zret C rfl ⟨[], pl_70, rfl, rfl, hok_71, hfr, hfa, (Or.inl ⟨fun q => by first | (have q1 : n15 = n14 + 5 := q.1; omega) | (have q1 : n15 = n14 + 5 := q.1; have q2 : c n14 = 101 := q.2 0 (by decide); omega) | (have q1 : n15 = n14 + 5 := q.1; have q2 : c (n14 + 1) = 113 := q.2 1 (by decide); rw [Nat.add_comm n14 1] at q2; omega) | (have q1 : n15 = n14 + 5 := q.1; have q2 : c (n14 + 2) = 117 := q.2 2 (by decide); rw [Nat.add_comm n14 2] at q2; omega) | (have q1 : n15 = n14 + 5 := q.1; have q2 : c (n14 + 3) = 97 := q.2 3 (by decide); rw [Nat.add_comm n14 3] at q2; omega) | (have q1 : n15 = n14 + 5 := q.1; have q2 : c (n14 + 4) = 108 := q.2 4 (by decide); rw [Nat.add_comm n14 4] at q2; omega), rfl⟩)⟩ dX11_isWord_67 (jj_le rfl) (jj_le rfl)
                      · have z_c_83 := jc_eq (a := x_78.toInt) (b := 108) c_83 rfl (by decide)
                        refine jj_iconst (v := 1) C dX11_isWord_54 (by decide) ?_
                        refine jj_goto (tgt := 59) C dX11_isWord_55 (by decide) ?_
                        refine jj_istore_n C dX11_isWord_59 (by decide) rfl ?_
                        refine jj_iinc (v := 5) C dX11_isWord_60 rfl (by decide) (by decide) rfl ?_
                        refine jj_goto (tgt := 24) C dX11_isWord_63 (by decide) ?_
                        refine jj_iload_n C dX11_isWord_24 rfl ?_
                        refine jj_aload_n C dX11_isWord_25 rfl ?_
                        refine tt_call0Vs (rest := [.int 5]) C (ct_J0_length_8abf5_s5 hl D cA ak) 21 (by decide) rfl jw_b95c722318 jw_b1ce304435 jw_d08f03a22e jw_4ea6285965 jw_bbc7045666 jn_J0_length_8abf5 rfl (jj_le rfl) (jj_le rfl) (jj_le rfl) (jj_le rfl) (jj_le rfl) dX11_isWord_26 rfl (fun w1 r O_85 => ?_)
                        obtain ⟨-, rfl⟩ := O_85
                        refine jj_icmp_geT (tgt := 66) C dX11_isWord_29 (by decide) (by decide) ?_
                        refine jj_iload_n C dX11_isWord_66 rfl ?_
                        exact jj_zret C rfl ⟨[], pl_70, rfl, rfl, hok_71, hfr, hfa, (Or.inr ⟨ps_alls.isw ⟨(show c n14 = 101 from by omega), (show c (n14 + 1) = 113 from by rw [Nat.add_comm n14 1]; omega), (show c (n14 + 2) = 117 from by rw [Nat.add_comm n14 2]; omega), (show c (n14 + 3) = 97 from by rw [Nat.add_comm n14 3]; omega), (show c (n14 + 4) = 108 from by rw [Nat.add_comm n14 4]; omega), trivial⟩ (show n15 = n14 + 5 from by omega), rfl⟩)⟩ dX11_isWord_67 (jj_le rfl) (jj_le rfl)

set_option maxHeartbeats 4000000 in
set_option maxRecDepth 100000 in
theorem re_isWord_series {l : Launch} (hl : l.stackTraces = false) (D : va_G) (cA : Nat → ClassId) (ak : (Nat → Nat) × (Nat → Nat)) {Kd : Nat → Nat} {h0 aw aa at0 ai af ap : Nat} (n16 : Nat) (n15 : Nat) (n14 : Nat) (at9 : Nat) (u : Nat → Int32) (c : Nat → Int) (hk0 : Kd h0 = 1) (hkw : Kd aw = 2) (hka : Kd aa = 3) (hkt : Kd at0 = 4) (hki : Kd ai = 5) (hkf : Kd af = 6) (hkp : Kd ap = 7) (ln16 : (0 : Int) ≤ (n16 : Int)) (un16 : (n16 : Int) ≤ 400) (ln15 : (0 : Int) ≤ (n15 : Int)) (un15 : (n15 : Int) ≤ 400) (ln14 : (0 : Int) ≤ (n14 : Int)) (un14 : (n14 : Int) ≤ 400) (hk9 : Kd at9 = 10) (h45 : n14 ≤ n15) (h56 : n15 ≤ n16) (hc : ∀ k : Nat, k < n16 → c k = ((u k) &&& 255).toInt) {pl0 : va_W} (hok : tt_ok rt_tk cA Kd pl0) (hm : rl_m pl0 h0 aw aa at0 ai af ap) (hs12 : tt_at pl0 h0 12 (.ref at9)) (hu : tt_ic pl0 at9 u) (hs14 : tt_at pl0 h0 14 (.int (nI n14))) (hs15 : tt_at pl0 h0 15 (.int (nI n15))) (hs16 : tt_at pl0 h0 16 (.int (nI n16))) : jj_M l D cA ak yX11_isWord (.code yX11_isWord cX11_isWord 4 (some .boolean)) 4 85 0 0 ([] ++ pl0) [.ref h0, .ref (ak.1 22)] (tt_O (fun rx pl1 r => rx = [] ∧ tt_ok rt_tk cA Kd pl1 ∧ tt_fr Kd [] pl0 pl1 ∧ tt_fa Kd [] pl0 pl1 ∧ ((¬ ps_isw c n14 n15 ps_series ∧ r = some (.int 0)) ∨ (ps_isw c n14 n15 ps_series ∧ r = some (.int 1))))) (tt_OX (fun _ _ _ => False)) := by
  refine jj_start hl (by decide) jw_f54d9c537b (jj_le rfl) ?_
  intro p e s m args below meth c9 A hargs hA C hex hmn
  have hfr := tt_fr.refl (K := Kd) (WS := []) pl0
  have hfa := tt_fa.refl (K := Kd) (WA := []) pl0
  refine jj_aload_n C dX11_isWord_0 rfl ?_
  refine tt_getF C hok jk_12 15 (by decide) jw_165232ba7c (t := (0, 0, 400)) hk0 (by decide) rfl rfl hs15 dX11_isWord_1 ?_
  refine jj_aload_n C dX11_isWord_4 rfl ?_
  refine tt_getF C hok jk_12 14 (by decide) jw_6446e1fd81 (t := (0, 0, 400)) hk0 (by decide) rfl rfl hs14 dX11_isWord_5 ?_
  obtain ⟨x_1, ex_1, vx_1⟩ := tt_isub (x := (nI n15)) (y := (nI n14)) (a := ((n15 : Nat) : Int)) (rl_ti (by omega)) (b := ((n14 : Nat) : Int)) (rl_ti (by omega)) (by omega) (by omega)
  refine jj_isub (v := x_1) C dX11_isWord_8 ex_1 ?_
  refine jj_aload_n C dX11_isWord_9 rfl ?_
  refine tt_call0Vs (rest := [.int x_1]) C (ct_J0_length_8abf5_s6 hl D cA ak) 22 (by decide) rfl jw_b95c722318 jw_b1ce304435 jw_d08f03a22e jw_4ea6285965 jw_bbc7045666 jn_J0_length_8abf5 rfl (jj_le rfl) (jj_le rfl) (jj_le rfl) (jj_le rfl) (jj_le rfl) dX11_isWord_10 rfl (fun w1 r O_2 => ?_)
  obtain ⟨-, rfl⟩ := O_2
  refine jj_icmp_ne (tgt := 20) C dX11_isWord_13 (by decide) (fun c_3 => ?_) (fun c_3 => ?_)
  · have z_c_3 := jc_neq (a := x_1.toInt) (b := 6) c_3 rfl (by decide)
    refine jj_iconst (v := 0) C dX11_isWord_20 (by decide) ?_
    refine jj_istore_n C dX11_isWord_21 (by decide) rfl ?_
    refine jj_iconst (v := 0) C dX11_isWord_22 (by decide) ?_
    refine jj_istore_n C dX11_isWord_23 (by decide) rfl ?_
    refine jj_iload_n C dX11_isWord_24 rfl ?_
    refine jj_aload_n C dX11_isWord_25 rfl ?_
    refine tt_call0Vs (rest := [.int 0]) C (ct_J0_length_8abf5_s6 hl D cA ak) 22 (by decide) rfl jw_b95c722318 jw_b1ce304435 jw_d08f03a22e jw_4ea6285965 jw_bbc7045666 jn_J0_length_8abf5 rfl (jj_le rfl) (jj_le rfl) (jj_le rfl) (jj_le rfl) (jj_le rfl) dX11_isWord_26 rfl (fun w1 r O_4 => ?_)
    obtain ⟨-, rfl⟩ := O_4
    refine jj_icmp_geF (tgt := 66) C dX11_isWord_29 (by decide) (by decide) ?_
    refine jj_iload_n C dX11_isWord_32 rfl ?_
    refine jj_if_eqT (tgt := 66) C dX11_isWord_33 (by decide) (by decide) ?_
    refine jj_iload_n C dX11_isWord_66 rfl ?_
    exact jj_zret C rfl ⟨[], pl0, rfl, rfl, hok, hfr, hfa, (Or.inl ⟨fun q => by first | (have q1 : n15 = n14 + 6 := q.1; omega) | (have q1 : n15 = n14 + 6 := q.1; have q2 : c n14 = 115 := q.2 0 (by decide); omega) | (have q1 : n15 = n14 + 6 := q.1; have q2 : c (n14 + 1) = 101 := q.2 1 (by decide); rw [Nat.add_comm n14 1] at q2; omega) | (have q1 : n15 = n14 + 6 := q.1; have q2 : c (n14 + 2) = 114 := q.2 2 (by decide); rw [Nat.add_comm n14 2] at q2; omega) | (have q1 : n15 = n14 + 6 := q.1; have q2 : c (n14 + 3) = 105 := q.2 3 (by decide); rw [Nat.add_comm n14 3] at q2; omega) | (have q1 : n15 = n14 + 6 := q.1; have q2 : c (n14 + 4) = 101 := q.2 4 (by decide); rw [Nat.add_comm n14 4] at q2; omega) | (have q1 : n15 = n14 + 6 := q.1; have q2 : c (n14 + 5) = 115 := q.2 5 (by decide); rw [Nat.add_comm n14 5] at q2; omega), rfl⟩)⟩ dX11_isWord_67 (jj_le rfl) (jj_le rfl)
  · have z_c_3 := jc_eq (a := x_1.toInt) (b := 6) c_3 rfl (by decide)
    refine jj_iconst (v := 1) C dX11_isWord_16 (by decide) ?_
    refine jj_goto (tgt := 21) C dX11_isWord_17 (by decide) ?_
    refine jj_istore_n C dX11_isWord_21 (by decide) rfl ?_
    refine jj_iconst (v := 0) C dX11_isWord_22 (by decide) ?_
    refine jj_istore_n C dX11_isWord_23 (by decide) rfl ?_
    refine jj_iload_n C dX11_isWord_24 rfl ?_
    refine jj_aload_n C dX11_isWord_25 rfl ?_
    refine tt_call0Vs (rest := [.int 0]) C (ct_J0_length_8abf5_s6 hl D cA ak) 22 (by decide) rfl jw_b95c722318 jw_b1ce304435 jw_d08f03a22e jw_4ea6285965 jw_bbc7045666 jn_J0_length_8abf5 rfl (jj_le rfl) (jj_le rfl) (jj_le rfl) (jj_le rfl) (jj_le rfl) dX11_isWord_26 rfl (fun w1 r O_5 => ?_)
    obtain ⟨-, rfl⟩ := O_5
    refine jj_icmp_geF (tgt := 66) C dX11_isWord_29 (by decide) (by decide) ?_
    refine jj_iload_n C dX11_isWord_32 rfl ?_
    refine jj_if_eqF (tgt := 66) C dX11_isWord_33 (by decide) (by decide) ?_
    refine jj_aload_n C dX11_isWord_36 rfl ?_
    refine jj_aload_n C dX11_isWord_37 rfl ?_
    refine tt_getF C hok jk_12 14 (by decide) jw_6446e1fd81 (t := (0, 0, 400)) hk0 (by decide) rfl rfl hs14 dX11_isWord_38 ?_
    refine jj_iload_n C dX11_isWord_41 rfl ?_
    refine jj_iadd (v := nI n14) C dX11_isWord_42 (rl_addR (kn := 0) (by decide) (by omega)) ?_
    obtain ⟨qc, gs, hqc⟩ := tt_recv (cx := []) hok hk0 (by decide) rfl
    refine tt_callV (rest := []) C (re_byteAt hl D cA ak n16 at9 u n14 c hk0 hkw hka hkt hki hkf hkp (by first | omega | decide) (by first | omega | decide) hk9 (by omega) hc hok hm hs12 hu hs16) [] [] rfl rfl (by decide) (by decide) (by decide) qc hqc rfl rfl jw_98db775389 jw_8e26deba02 jw_8ef34ac32e jw_f96c99f44d jw_4737f96f0a jn_X11_byteAt rfl (jj_le rfl) (jj_le rfl) (jj_le rfl) (jj_le rfl) (jj_le rfl) dX11_isWord_43 rfl (fun _ _ _ hX => hX.elim) (fun rx pl_6 r O_10 => ?_)
    obtain ⟨rfl, hok_7, hr_8, ha_9, hR_11⟩ := O_10
    replace hs12 := hr_8.at hk0 (by decide) (by decide) hs12
    replace hs14 := hr_8.at hk0 (by decide) (by decide) hs14
    replace hs15 := hr_8.at hk0 (by decide) (by decide) hs15
    replace hs16 := hr_8.at hk0 (by decide) (by decide) hs16
    replace hu := ha_9.at hk9 (by decide) (by decide) hu
    replace hm := hm.fr hr_8 hk0 rfl
    replace hfr := hfr.trans (hr_8.sub (by decide))
    replace hfa := hfa.trans (ha_9.sub (by decide))
    rcases hR_11 with ⟨hb_12, rfl⟩ | ⟨hb_13, x_14, hb_15, rfl⟩
    · refine jj_aload_n C dX11_isWord_46 rfl ?_
      refine jj_iload_n C dX11_isWord_47 rfl ?_
      refine tt_call0Vs (rest := [.int (-1)]) C (ct_J0_charAt_5068e_s29 hl D cA ak) 22 (by decide) rfl jw_0b21ef6890 jw_acb9174fef jw_675efe837b jw_4ea6285965 jw_391c0f56bd jn_J0_charAt_5068e rfl (jj_le rfl) (jj_le rfl) (jj_le rfl) (jj_le rfl) (jj_le rfl) dX11_isWord_48 rfl (fun w1 r O_16 => ?_)
      obtain ⟨-, rfl⟩ := O_16
      refine jj_icmp_neT (tgt := 58) C dX11_isWord_51 (by decide) (by decide) ?_
      refine jj_iconst (v := 0) C dX11_isWord_58 (by decide) ?_
      refine jj_istore_n C dX11_isWord_59 (by decide) rfl ?_
      refine jj_iinc (v := 1) C dX11_isWord_60 rfl (by decide) (by decide) rfl ?_
      refine jj_goto (tgt := 24) C dX11_isWord_63 (by decide) ?_
      refine jj_iload_n C dX11_isWord_24 rfl ?_
      refine jj_aload_n C dX11_isWord_25 rfl ?_
      refine tt_call0Vs (rest := [.int 1]) C (ct_J0_length_8abf5_s6 hl D cA ak) 22 (by decide) rfl jw_b95c722318 jw_b1ce304435 jw_d08f03a22e jw_4ea6285965 jw_bbc7045666 jn_J0_length_8abf5 rfl (jj_le rfl) (jj_le rfl) (jj_le rfl) (jj_le rfl) (jj_le rfl) dX11_isWord_26 rfl (fun w1 r O_17 => ?_)
      obtain ⟨-, rfl⟩ := O_17
      refine jj_icmp_geF (tgt := 66) C dX11_isWord_29 (by decide) (by decide) ?_
      refine jj_iload_n C dX11_isWord_32 rfl ?_
      refine jj_if_eqT (tgt := 66) C dX11_isWord_33 (by decide) (by decide) ?_
      refine jj_iload_n C dX11_isWord_66 rfl ?_
      exact jj_zret C rfl ⟨[], pl_6, rfl, rfl, hok_7, hfr, hfa, (Or.inl ⟨fun q => by first | (have q1 : n15 = n14 + 6 := q.1; omega) | (have q1 : n15 = n14 + 6 := q.1; have q2 : c n14 = 115 := q.2 0 (by decide); omega) | (have q1 : n15 = n14 + 6 := q.1; have q2 : c (n14 + 1) = 101 := q.2 1 (by decide); rw [Nat.add_comm n14 1] at q2; omega) | (have q1 : n15 = n14 + 6 := q.1; have q2 : c (n14 + 2) = 114 := q.2 2 (by decide); rw [Nat.add_comm n14 2] at q2; omega) | (have q1 : n15 = n14 + 6 := q.1; have q2 : c (n14 + 3) = 105 := q.2 3 (by decide); rw [Nat.add_comm n14 3] at q2; omega) | (have q1 : n15 = n14 + 6 := q.1; have q2 : c (n14 + 4) = 101 := q.2 4 (by decide); rw [Nat.add_comm n14 4] at q2; omega) | (have q1 : n15 = n14 + 6 := q.1; have q2 : c (n14 + 5) = 115 := q.2 5 (by decide); rw [Nat.add_comm n14 5] at q2; omega), rfl⟩)⟩ dX11_isWord_67 (jj_le rfl) (jj_le rfl)
    · have lx_14 := tt_lo x_14
      have ux_14 := tt_hi x_14
      refine jj_aload_n C dX11_isWord_46 rfl ?_
      refine jj_iload_n C dX11_isWord_47 rfl ?_
      refine tt_call0Vs (rest := [.int x_14]) C (ct_J0_charAt_5068e_s29 hl D cA ak) 22 (by decide) rfl jw_0b21ef6890 jw_acb9174fef jw_675efe837b jw_4ea6285965 jw_391c0f56bd jn_J0_charAt_5068e rfl (jj_le rfl) (jj_le rfl) (jj_le rfl) (jj_le rfl) (jj_le rfl) dX11_isWord_48 rfl (fun w1 r O_18 => ?_)
      obtain ⟨-, rfl⟩ := O_18
      refine jj_icmp_ne (tgt := 58) C dX11_isWord_51 (by decide) (fun c_19 => ?_) (fun c_19 => ?_)
      · have z_c_19 := jc_neq (a := x_14.toInt) (b := 115) c_19 rfl (by decide)
        refine jj_iconst (v := 0) C dX11_isWord_58 (by decide) ?_
        refine jj_istore_n C dX11_isWord_59 (by decide) rfl ?_
        refine jj_iinc (v := 1) C dX11_isWord_60 rfl (by decide) (by decide) rfl ?_
        refine jj_goto (tgt := 24) C dX11_isWord_63 (by decide) ?_
        refine jj_iload_n C dX11_isWord_24 rfl ?_
        refine jj_aload_n C dX11_isWord_25 rfl ?_
        refine tt_call0Vs (rest := [.int 1]) C (ct_J0_length_8abf5_s6 hl D cA ak) 22 (by decide) rfl jw_b95c722318 jw_b1ce304435 jw_d08f03a22e jw_4ea6285965 jw_bbc7045666 jn_J0_length_8abf5 rfl (jj_le rfl) (jj_le rfl) (jj_le rfl) (jj_le rfl) (jj_le rfl) dX11_isWord_26 rfl (fun w1 r O_20 => ?_)
        obtain ⟨-, rfl⟩ := O_20
        refine jj_icmp_geF (tgt := 66) C dX11_isWord_29 (by decide) (by decide) ?_
        refine jj_iload_n C dX11_isWord_32 rfl ?_
        refine jj_if_eqT (tgt := 66) C dX11_isWord_33 (by decide) (by decide) ?_
        refine jj_iload_n C dX11_isWord_66 rfl ?_
        exact jj_zret C rfl ⟨[], pl_6, rfl, rfl, hok_7, hfr, hfa, (Or.inl ⟨fun q => by first | (have q1 : n15 = n14 + 6 := q.1; omega) | (have q1 : n15 = n14 + 6 := q.1; have q2 : c n14 = 115 := q.2 0 (by decide); omega) | (have q1 : n15 = n14 + 6 := q.1; have q2 : c (n14 + 1) = 101 := q.2 1 (by decide); rw [Nat.add_comm n14 1] at q2; omega) | (have q1 : n15 = n14 + 6 := q.1; have q2 : c (n14 + 2) = 114 := q.2 2 (by decide); rw [Nat.add_comm n14 2] at q2; omega) | (have q1 : n15 = n14 + 6 := q.1; have q2 : c (n14 + 3) = 105 := q.2 3 (by decide); rw [Nat.add_comm n14 3] at q2; omega) | (have q1 : n15 = n14 + 6 := q.1; have q2 : c (n14 + 4) = 101 := q.2 4 (by decide); rw [Nat.add_comm n14 4] at q2; omega) | (have q1 : n15 = n14 + 6 := q.1; have q2 : c (n14 + 5) = 115 := q.2 5 (by decide); rw [Nat.add_comm n14 5] at q2; omega), rfl⟩)⟩ dX11_isWord_67 (jj_le rfl) (jj_le rfl)
      · have z_c_19 := jc_eq (a := x_14.toInt) (b := 115) c_19 rfl (by decide)
        refine jj_iconst (v := 1) C dX11_isWord_54 (by decide) ?_
        refine jj_goto (tgt := 59) C dX11_isWord_55 (by decide) ?_
        refine jj_istore_n C dX11_isWord_59 (by decide) rfl ?_
        refine jj_iinc (v := 1) C dX11_isWord_60 rfl (by decide) (by decide) rfl ?_
        refine jj_goto (tgt := 24) C dX11_isWord_63 (by decide) ?_
        refine jj_iload_n C dX11_isWord_24 rfl ?_
        refine jj_aload_n C dX11_isWord_25 rfl ?_
        refine tt_call0Vs (rest := [.int 1]) C (ct_J0_length_8abf5_s6 hl D cA ak) 22 (by decide) rfl jw_b95c722318 jw_b1ce304435 jw_d08f03a22e jw_4ea6285965 jw_bbc7045666 jn_J0_length_8abf5 rfl (jj_le rfl) (jj_le rfl) (jj_le rfl) (jj_le rfl) (jj_le rfl) dX11_isWord_26 rfl (fun w1 r O_21 => ?_)
        obtain ⟨-, rfl⟩ := O_21
        refine jj_icmp_geF (tgt := 66) C dX11_isWord_29 (by decide) (by decide) ?_
        refine jj_iload_n C dX11_isWord_32 rfl ?_
        refine jj_if_eqF (tgt := 66) C dX11_isWord_33 (by decide) (by decide) ?_
        refine jj_aload_n C dX11_isWord_36 rfl ?_
        refine jj_aload_n C dX11_isWord_37 rfl ?_
        refine tt_getF C hok_7 jk_12 14 (by decide) jw_6446e1fd81 (t := (0, 0, 400)) hk0 (by decide) rfl rfl hs14 dX11_isWord_38 ?_
        refine jj_iload_n C dX11_isWord_41 rfl ?_
        refine jj_iadd (v := nI (1 + n14)) C dX11_isWord_42 (rl_addR (kn := 1) (by decide) (by omega)) ?_
        obtain ⟨qc, gs, hqc⟩ := tt_recv (cx := []) hok_7 hk0 (by decide) rfl
        refine tt_callV (rest := []) C (re_byteAt hl D cA ak n16 at9 u (1 + n14) c hk0 hkw hka hkt hki hkf hkp (by first | omega | decide) (by first | omega | decide) hk9 (by omega) hc hok_7 hm hs12 hu hs16) [] [] rfl rfl (by decide) (by decide) (by decide) qc hqc rfl rfl jw_98db775389 jw_8e26deba02 jw_8ef34ac32e jw_f96c99f44d jw_4737f96f0a jn_X11_byteAt rfl (jj_le rfl) (jj_le rfl) (jj_le rfl) (jj_le rfl) (jj_le rfl) dX11_isWord_43 rfl (fun _ _ _ hX => hX.elim) (fun rx pl_22 r O_26 => ?_)
        obtain ⟨rfl, hok_23, hr_24, ha_25, hR_27⟩ := O_26
        replace hs12 := hr_24.at hk0 (by decide) (by decide) hs12
        replace hs14 := hr_24.at hk0 (by decide) (by decide) hs14
        replace hs15 := hr_24.at hk0 (by decide) (by decide) hs15
        replace hs16 := hr_24.at hk0 (by decide) (by decide) hs16
        replace hu := ha_25.at hk9 (by decide) (by decide) hu
        replace hm := hm.fr hr_24 hk0 rfl
        replace hfr := hfr.trans (hr_24.sub (by decide))
        replace hfa := hfa.trans (ha_25.sub (by decide))
        rcases hR_27 with ⟨hb_28, rfl⟩ | ⟨hb_29, x_30, hb_31, rfl⟩
        · refine jj_aload_n C dX11_isWord_46 rfl ?_
          refine jj_iload_n C dX11_isWord_47 rfl ?_
          refine tt_call0Vs (rest := [.int (-1)]) C (ct_J0_charAt_5068e_s30 hl D cA ak) 22 (by decide) rfl jw_0b21ef6890 jw_acb9174fef jw_675efe837b jw_4ea6285965 jw_391c0f56bd jn_J0_charAt_5068e rfl (jj_le rfl) (jj_le rfl) (jj_le rfl) (jj_le rfl) (jj_le rfl) dX11_isWord_48 rfl (fun w1 r O_32 => ?_)
          obtain ⟨-, rfl⟩ := O_32
          refine jj_icmp_neT (tgt := 58) C dX11_isWord_51 (by decide) (by decide) ?_
          refine jj_iconst (v := 0) C dX11_isWord_58 (by decide) ?_
          refine jj_istore_n C dX11_isWord_59 (by decide) rfl ?_
          refine jj_iinc (v := 2) C dX11_isWord_60 rfl (by decide) (by decide) rfl ?_
          refine jj_goto (tgt := 24) C dX11_isWord_63 (by decide) ?_
          refine jj_iload_n C dX11_isWord_24 rfl ?_
          refine jj_aload_n C dX11_isWord_25 rfl ?_
          refine tt_call0Vs (rest := [.int 2]) C (ct_J0_length_8abf5_s6 hl D cA ak) 22 (by decide) rfl jw_b95c722318 jw_b1ce304435 jw_d08f03a22e jw_4ea6285965 jw_bbc7045666 jn_J0_length_8abf5 rfl (jj_le rfl) (jj_le rfl) (jj_le rfl) (jj_le rfl) (jj_le rfl) dX11_isWord_26 rfl (fun w1 r O_33 => ?_)
          obtain ⟨-, rfl⟩ := O_33
          refine jj_icmp_geF (tgt := 66) C dX11_isWord_29 (by decide) (by decide) ?_
          refine jj_iload_n C dX11_isWord_32 rfl ?_
          refine jj_if_eqT (tgt := 66) C dX11_isWord_33 (by decide) (by decide) ?_
          refine jj_iload_n C dX11_isWord_66 rfl ?_
          exact jj_zret C rfl ⟨[], pl_22, rfl, rfl, hok_23, hfr, hfa, (Or.inl ⟨fun q => by first | (have q1 : n15 = n14 + 6 := q.1; omega) | (have q1 : n15 = n14 + 6 := q.1; have q2 : c n14 = 115 := q.2 0 (by decide); omega) | (have q1 : n15 = n14 + 6 := q.1; have q2 : c (n14 + 1) = 101 := q.2 1 (by decide); rw [Nat.add_comm n14 1] at q2; omega) | (have q1 : n15 = n14 + 6 := q.1; have q2 : c (n14 + 2) = 114 := q.2 2 (by decide); rw [Nat.add_comm n14 2] at q2; omega) | (have q1 : n15 = n14 + 6 := q.1; have q2 : c (n14 + 3) = 105 := q.2 3 (by decide); rw [Nat.add_comm n14 3] at q2; omega) | (have q1 : n15 = n14 + 6 := q.1; have q2 : c (n14 + 4) = 101 := q.2 4 (by decide); rw [Nat.add_comm n14 4] at q2; omega) | (have q1 : n15 = n14 + 6 := q.1; have q2 : c (n14 + 5) = 115 := q.2 5 (by decide); rw [Nat.add_comm n14 5] at q2; omega), rfl⟩)⟩ dX11_isWord_67 (jj_le rfl) (jj_le rfl)
        · have lx_30 := tt_lo x_30
          have ux_30 := tt_hi x_30
          refine jj_aload_n C dX11_isWord_46 rfl ?_
          refine jj_iload_n C dX11_isWord_47 rfl ?_
          refine tt_call0Vs (rest := [.int x_30]) C (ct_J0_charAt_5068e_s30 hl D cA ak) 22 (by decide) rfl jw_0b21ef6890 jw_acb9174fef jw_675efe837b jw_4ea6285965 jw_391c0f56bd jn_J0_charAt_5068e rfl (jj_le rfl) (jj_le rfl) (jj_le rfl) (jj_le rfl) (jj_le rfl) dX11_isWord_48 rfl (fun w1 r O_34 => ?_)
          obtain ⟨-, rfl⟩ := O_34
          refine jj_icmp_ne (tgt := 58) C dX11_isWord_51 (by decide) (fun c_35 => ?_) (fun c_35 => ?_)
          · have z_c_35 := jc_neq (a := x_30.toInt) (b := 101) c_35 rfl (by decide)
            refine jj_iconst (v := 0) C dX11_isWord_58 (by decide) ?_
            refine jj_istore_n C dX11_isWord_59 (by decide) rfl ?_
            refine jj_iinc (v := 2) C dX11_isWord_60 rfl (by decide) (by decide) rfl ?_
            refine jj_goto (tgt := 24) C dX11_isWord_63 (by decide) ?_
            refine jj_iload_n C dX11_isWord_24 rfl ?_
            refine jj_aload_n C dX11_isWord_25 rfl ?_
            refine tt_call0Vs (rest := [.int 2]) C (ct_J0_length_8abf5_s6 hl D cA ak) 22 (by decide) rfl jw_b95c722318 jw_b1ce304435 jw_d08f03a22e jw_4ea6285965 jw_bbc7045666 jn_J0_length_8abf5 rfl (jj_le rfl) (jj_le rfl) (jj_le rfl) (jj_le rfl) (jj_le rfl) dX11_isWord_26 rfl (fun w1 r O_36 => ?_)
            obtain ⟨-, rfl⟩ := O_36
            refine jj_icmp_geF (tgt := 66) C dX11_isWord_29 (by decide) (by decide) ?_
            refine jj_iload_n C dX11_isWord_32 rfl ?_
            refine jj_if_eqT (tgt := 66) C dX11_isWord_33 (by decide) (by decide) ?_
            refine jj_iload_n C dX11_isWord_66 rfl ?_
            exact jj_zret C rfl ⟨[], pl_22, rfl, rfl, hok_23, hfr, hfa, (Or.inl ⟨fun q => by first | (have q1 : n15 = n14 + 6 := q.1; omega) | (have q1 : n15 = n14 + 6 := q.1; have q2 : c n14 = 115 := q.2 0 (by decide); omega) | (have q1 : n15 = n14 + 6 := q.1; have q2 : c (n14 + 1) = 101 := q.2 1 (by decide); rw [Nat.add_comm n14 1] at q2; omega) | (have q1 : n15 = n14 + 6 := q.1; have q2 : c (n14 + 2) = 114 := q.2 2 (by decide); rw [Nat.add_comm n14 2] at q2; omega) | (have q1 : n15 = n14 + 6 := q.1; have q2 : c (n14 + 3) = 105 := q.2 3 (by decide); rw [Nat.add_comm n14 3] at q2; omega) | (have q1 : n15 = n14 + 6 := q.1; have q2 : c (n14 + 4) = 101 := q.2 4 (by decide); rw [Nat.add_comm n14 4] at q2; omega) | (have q1 : n15 = n14 + 6 := q.1; have q2 : c (n14 + 5) = 115 := q.2 5 (by decide); rw [Nat.add_comm n14 5] at q2; omega), rfl⟩)⟩ dX11_isWord_67 (jj_le rfl) (jj_le rfl)
          · have z_c_35 := jc_eq (a := x_30.toInt) (b := 101) c_35 rfl (by decide)
            refine jj_iconst (v := 1) C dX11_isWord_54 (by decide) ?_
            refine jj_goto (tgt := 59) C dX11_isWord_55 (by decide) ?_
            refine jj_istore_n C dX11_isWord_59 (by decide) rfl ?_
            refine jj_iinc (v := 2) C dX11_isWord_60 rfl (by decide) (by decide) rfl ?_
            refine jj_goto (tgt := 24) C dX11_isWord_63 (by decide) ?_
            refine jj_iload_n C dX11_isWord_24 rfl ?_
            refine jj_aload_n C dX11_isWord_25 rfl ?_
            refine tt_call0Vs (rest := [.int 2]) C (ct_J0_length_8abf5_s6 hl D cA ak) 22 (by decide) rfl jw_b95c722318 jw_b1ce304435 jw_d08f03a22e jw_4ea6285965 jw_bbc7045666 jn_J0_length_8abf5 rfl (jj_le rfl) (jj_le rfl) (jj_le rfl) (jj_le rfl) (jj_le rfl) dX11_isWord_26 rfl (fun w1 r O_37 => ?_)
            obtain ⟨-, rfl⟩ := O_37
            refine jj_icmp_geF (tgt := 66) C dX11_isWord_29 (by decide) (by decide) ?_
            refine jj_iload_n C dX11_isWord_32 rfl ?_
            refine jj_if_eqF (tgt := 66) C dX11_isWord_33 (by decide) (by decide) ?_
            refine jj_aload_n C dX11_isWord_36 rfl ?_
            refine jj_aload_n C dX11_isWord_37 rfl ?_
            refine tt_getF C hok_23 jk_12 14 (by decide) jw_6446e1fd81 (t := (0, 0, 400)) hk0 (by decide) rfl rfl hs14 dX11_isWord_38 ?_
            refine jj_iload_n C dX11_isWord_41 rfl ?_
            refine jj_iadd (v := nI (2 + n14)) C dX11_isWord_42 (rl_addR (kn := 2) (by decide) (by omega)) ?_
            obtain ⟨qc, gs, hqc⟩ := tt_recv (cx := []) hok_23 hk0 (by decide) rfl
            refine tt_callV (rest := []) C (re_byteAt hl D cA ak n16 at9 u (2 + n14) c hk0 hkw hka hkt hki hkf hkp (by first | omega | decide) (by first | omega | decide) hk9 (by omega) hc hok_23 hm hs12 hu hs16) [] [] rfl rfl (by decide) (by decide) (by decide) qc hqc rfl rfl jw_98db775389 jw_8e26deba02 jw_8ef34ac32e jw_f96c99f44d jw_4737f96f0a jn_X11_byteAt rfl (jj_le rfl) (jj_le rfl) (jj_le rfl) (jj_le rfl) (jj_le rfl) dX11_isWord_43 rfl (fun _ _ _ hX => hX.elim) (fun rx pl_38 r O_42 => ?_)
            obtain ⟨rfl, hok_39, hr_40, ha_41, hR_43⟩ := O_42
            replace hs12 := hr_40.at hk0 (by decide) (by decide) hs12
            replace hs14 := hr_40.at hk0 (by decide) (by decide) hs14
            replace hs15 := hr_40.at hk0 (by decide) (by decide) hs15
            replace hs16 := hr_40.at hk0 (by decide) (by decide) hs16
            replace hu := ha_41.at hk9 (by decide) (by decide) hu
            replace hm := hm.fr hr_40 hk0 rfl
            replace hfr := hfr.trans (hr_40.sub (by decide))
            replace hfa := hfa.trans (ha_41.sub (by decide))
            rcases hR_43 with ⟨hb_44, rfl⟩ | ⟨hb_45, x_46, hb_47, rfl⟩
            · refine jj_aload_n C dX11_isWord_46 rfl ?_
              refine jj_iload_n C dX11_isWord_47 rfl ?_
              refine tt_call0Vs (rest := [.int (-1)]) C (ct_J0_charAt_5068e_s31 hl D cA ak) 22 (by decide) rfl jw_0b21ef6890 jw_acb9174fef jw_675efe837b jw_4ea6285965 jw_391c0f56bd jn_J0_charAt_5068e rfl (jj_le rfl) (jj_le rfl) (jj_le rfl) (jj_le rfl) (jj_le rfl) dX11_isWord_48 rfl (fun w1 r O_48 => ?_)
              obtain ⟨-, rfl⟩ := O_48
              refine jj_icmp_neT (tgt := 58) C dX11_isWord_51 (by decide) (by decide) ?_
              refine jj_iconst (v := 0) C dX11_isWord_58 (by decide) ?_
              refine jj_istore_n C dX11_isWord_59 (by decide) rfl ?_
              refine jj_iinc (v := 3) C dX11_isWord_60 rfl (by decide) (by decide) rfl ?_
              refine jj_goto (tgt := 24) C dX11_isWord_63 (by decide) ?_
              refine jj_iload_n C dX11_isWord_24 rfl ?_
              refine jj_aload_n C dX11_isWord_25 rfl ?_
              refine tt_call0Vs (rest := [.int 3]) C (ct_J0_length_8abf5_s6 hl D cA ak) 22 (by decide) rfl jw_b95c722318 jw_b1ce304435 jw_d08f03a22e jw_4ea6285965 jw_bbc7045666 jn_J0_length_8abf5 rfl (jj_le rfl) (jj_le rfl) (jj_le rfl) (jj_le rfl) (jj_le rfl) dX11_isWord_26 rfl (fun w1 r O_49 => ?_)
              obtain ⟨-, rfl⟩ := O_49
              refine jj_icmp_geF (tgt := 66) C dX11_isWord_29 (by decide) (by decide) ?_
              refine jj_iload_n C dX11_isWord_32 rfl ?_
              refine jj_if_eqT (tgt := 66) C dX11_isWord_33 (by decide) (by decide) ?_
              refine jj_iload_n C dX11_isWord_66 rfl ?_
              exact jj_zret C rfl ⟨[], pl_38, rfl, rfl, hok_39, hfr, hfa, (Or.inl ⟨fun q => by first | (have q1 : n15 = n14 + 6 := q.1; omega) | (have q1 : n15 = n14 + 6 := q.1; have q2 : c n14 = 115 := q.2 0 (by decide); omega) | (have q1 : n15 = n14 + 6 := q.1; have q2 : c (n14 + 1) = 101 := q.2 1 (by decide); rw [Nat.add_comm n14 1] at q2; omega) | (have q1 : n15 = n14 + 6 := q.1; have q2 : c (n14 + 2) = 114 := q.2 2 (by decide); rw [Nat.add_comm n14 2] at q2; omega) | (have q1 : n15 = n14 + 6 := q.1; have q2 : c (n14 + 3) = 105 := q.2 3 (by decide); rw [Nat.add_comm n14 3] at q2; omega) | (have q1 : n15 = n14 + 6 := q.1; have q2 : c (n14 + 4) = 101 := q.2 4 (by decide); rw [Nat.add_comm n14 4] at q2; omega) | (have q1 : n15 = n14 + 6 := q.1; have q2 : c (n14 + 5) = 115 := q.2 5 (by decide); rw [Nat.add_comm n14 5] at q2; omega), rfl⟩)⟩ dX11_isWord_67 (jj_le rfl) (jj_le rfl)
            · have lx_46 := tt_lo x_46
              have ux_46 := tt_hi x_46
              refine jj_aload_n C dX11_isWord_46 rfl ?_
              refine jj_iload_n C dX11_isWord_47 rfl ?_
              refine tt_call0Vs (rest := [.int x_46]) C (ct_J0_charAt_5068e_s31 hl D cA ak) 22 (by decide) rfl jw_0b21ef6890 jw_acb9174fef jw_675efe837b jw_4ea6285965 jw_391c0f56bd jn_J0_charAt_5068e rfl (jj_le rfl) (jj_le rfl) (jj_le rfl) (jj_le rfl) (jj_le rfl) dX11_isWord_48 rfl (fun w1 r O_50 => ?_)
              obtain ⟨-, rfl⟩ := O_50
              refine jj_icmp_ne (tgt := 58) C dX11_isWord_51 (by decide) (fun c_51 => ?_) (fun c_51 => ?_)
              · have z_c_51 := jc_neq (a := x_46.toInt) (b := 114) c_51 rfl (by decide)
                refine jj_iconst (v := 0) C dX11_isWord_58 (by decide) ?_
                refine jj_istore_n C dX11_isWord_59 (by decide) rfl ?_
                refine jj_iinc (v := 3) C dX11_isWord_60 rfl (by decide) (by decide) rfl ?_
                refine jj_goto (tgt := 24) C dX11_isWord_63 (by decide) ?_
                refine jj_iload_n C dX11_isWord_24 rfl ?_
                refine jj_aload_n C dX11_isWord_25 rfl ?_
                refine tt_call0Vs (rest := [.int 3]) C (ct_J0_length_8abf5_s6 hl D cA ak) 22 (by decide) rfl jw_b95c722318 jw_b1ce304435 jw_d08f03a22e jw_4ea6285965 jw_bbc7045666 jn_J0_length_8abf5 rfl (jj_le rfl) (jj_le rfl) (jj_le rfl) (jj_le rfl) (jj_le rfl) dX11_isWord_26 rfl (fun w1 r O_52 => ?_)
                obtain ⟨-, rfl⟩ := O_52
                refine jj_icmp_geF (tgt := 66) C dX11_isWord_29 (by decide) (by decide) ?_
                refine jj_iload_n C dX11_isWord_32 rfl ?_
                refine jj_if_eqT (tgt := 66) C dX11_isWord_33 (by decide) (by decide) ?_
                refine jj_iload_n C dX11_isWord_66 rfl ?_
                exact jj_zret C rfl ⟨[], pl_38, rfl, rfl, hok_39, hfr, hfa, (Or.inl ⟨fun q => by first | (have q1 : n15 = n14 + 6 := q.1; omega) | (have q1 : n15 = n14 + 6 := q.1; have q2 : c n14 = 115 := q.2 0 (by decide); omega) | (have q1 : n15 = n14 + 6 := q.1; have q2 : c (n14 + 1) = 101 := q.2 1 (by decide); rw [Nat.add_comm n14 1] at q2; omega) | (have q1 : n15 = n14 + 6 := q.1; have q2 : c (n14 + 2) = 114 := q.2 2 (by decide); rw [Nat.add_comm n14 2] at q2; omega) | (have q1 : n15 = n14 + 6 := q.1; have q2 : c (n14 + 3) = 105 := q.2 3 (by decide); rw [Nat.add_comm n14 3] at q2; omega) | (have q1 : n15 = n14 + 6 := q.1; have q2 : c (n14 + 4) = 101 := q.2 4 (by decide); rw [Nat.add_comm n14 4] at q2; omega) | (have q1 : n15 = n14 + 6 := q.1; have q2 : c (n14 + 5) = 115 := q.2 5 (by decide); rw [Nat.add_comm n14 5] at q2; omega), rfl⟩)⟩ dX11_isWord_67 (jj_le rfl) (jj_le rfl)
              · have z_c_51 := jc_eq (a := x_46.toInt) (b := 114) c_51 rfl (by decide)
                refine jj_iconst (v := 1) C dX11_isWord_54 (by decide) ?_
                refine jj_goto (tgt := 59) C dX11_isWord_55 (by decide) ?_
                refine jj_istore_n C dX11_isWord_59 (by decide) rfl ?_
                refine jj_iinc (v := 3) C dX11_isWord_60 rfl (by decide) (by decide) rfl ?_
                refine jj_goto (tgt := 24) C dX11_isWord_63 (by decide) ?_
                refine jj_iload_n C dX11_isWord_24 rfl ?_
                refine jj_aload_n C dX11_isWord_25 rfl ?_
                refine tt_call0Vs (rest := [.int 3]) C (ct_J0_length_8abf5_s6 hl D cA ak) 22 (by decide) rfl jw_b95c722318 jw_b1ce304435 jw_d08f03a22e jw_4ea6285965 jw_bbc7045666 jn_J0_length_8abf5 rfl (jj_le rfl) (jj_le rfl) (jj_le rfl) (jj_le rfl) (jj_le rfl) dX11_isWord_26 rfl (fun w1 r O_53 => ?_)
                obtain ⟨-, rfl⟩ := O_53
                refine jj_icmp_geF (tgt := 66) C dX11_isWord_29 (by decide) (by decide) ?_
                refine jj_iload_n C dX11_isWord_32 rfl ?_
                refine jj_if_eqF (tgt := 66) C dX11_isWord_33 (by decide) (by decide) ?_
                refine jj_aload_n C dX11_isWord_36 rfl ?_
                refine jj_aload_n C dX11_isWord_37 rfl ?_
                refine tt_getF C hok_39 jk_12 14 (by decide) jw_6446e1fd81 (t := (0, 0, 400)) hk0 (by decide) rfl rfl hs14 dX11_isWord_38 ?_
                refine jj_iload_n C dX11_isWord_41 rfl ?_
                refine jj_iadd (v := nI (3 + n14)) C dX11_isWord_42 (rl_addR (kn := 3) (by decide) (by omega)) ?_
                obtain ⟨qc, gs, hqc⟩ := tt_recv (cx := []) hok_39 hk0 (by decide) rfl
                refine tt_callV (rest := []) C (re_byteAt hl D cA ak n16 at9 u (3 + n14) c hk0 hkw hka hkt hki hkf hkp (by first | omega | decide) (by first | omega | decide) hk9 (by omega) hc hok_39 hm hs12 hu hs16) [] [] rfl rfl (by decide) (by decide) (by decide) qc hqc rfl rfl jw_98db775389 jw_8e26deba02 jw_8ef34ac32e jw_f96c99f44d jw_4737f96f0a jn_X11_byteAt rfl (jj_le rfl) (jj_le rfl) (jj_le rfl) (jj_le rfl) (jj_le rfl) dX11_isWord_43 rfl (fun _ _ _ hX => hX.elim) (fun rx pl_54 r O_58 => ?_)
                obtain ⟨rfl, hok_55, hr_56, ha_57, hR_59⟩ := O_58
                replace hs12 := hr_56.at hk0 (by decide) (by decide) hs12
                replace hs14 := hr_56.at hk0 (by decide) (by decide) hs14
                replace hs15 := hr_56.at hk0 (by decide) (by decide) hs15
                replace hs16 := hr_56.at hk0 (by decide) (by decide) hs16
                replace hu := ha_57.at hk9 (by decide) (by decide) hu
                replace hm := hm.fr hr_56 hk0 rfl
                replace hfr := hfr.trans (hr_56.sub (by decide))
                replace hfa := hfa.trans (ha_57.sub (by decide))
                rcases hR_59 with ⟨hb_60, rfl⟩ | ⟨hb_61, x_62, hb_63, rfl⟩
                · refine jj_aload_n C dX11_isWord_46 rfl ?_
                  refine jj_iload_n C dX11_isWord_47 rfl ?_
                  refine tt_call0Vs (rest := [.int (-1)]) C (ct_J0_charAt_5068e_s32 hl D cA ak) 22 (by decide) rfl jw_0b21ef6890 jw_acb9174fef jw_675efe837b jw_4ea6285965 jw_391c0f56bd jn_J0_charAt_5068e rfl (jj_le rfl) (jj_le rfl) (jj_le rfl) (jj_le rfl) (jj_le rfl) dX11_isWord_48 rfl (fun w1 r O_64 => ?_)
                  obtain ⟨-, rfl⟩ := O_64
                  refine jj_icmp_neT (tgt := 58) C dX11_isWord_51 (by decide) (by decide) ?_
                  refine jj_iconst (v := 0) C dX11_isWord_58 (by decide) ?_
                  refine jj_istore_n C dX11_isWord_59 (by decide) rfl ?_
                  refine jj_iinc (v := 4) C dX11_isWord_60 rfl (by decide) (by decide) rfl ?_
                  refine jj_goto (tgt := 24) C dX11_isWord_63 (by decide) ?_
                  refine jj_iload_n C dX11_isWord_24 rfl ?_
                  refine jj_aload_n C dX11_isWord_25 rfl ?_
                  refine tt_call0Vs (rest := [.int 4]) C (ct_J0_length_8abf5_s6 hl D cA ak) 22 (by decide) rfl jw_b95c722318 jw_b1ce304435 jw_d08f03a22e jw_4ea6285965 jw_bbc7045666 jn_J0_length_8abf5 rfl (jj_le rfl) (jj_le rfl) (jj_le rfl) (jj_le rfl) (jj_le rfl) dX11_isWord_26 rfl (fun w1 r O_65 => ?_)
                  obtain ⟨-, rfl⟩ := O_65
                  refine jj_icmp_geF (tgt := 66) C dX11_isWord_29 (by decide) (by decide) ?_
                  refine jj_iload_n C dX11_isWord_32 rfl ?_
                  refine jj_if_eqT (tgt := 66) C dX11_isWord_33 (by decide) (by decide) ?_
                  refine jj_iload_n C dX11_isWord_66 rfl ?_
                  exact jj_zret C rfl ⟨[], pl_54, rfl, rfl, hok_55, hfr, hfa, (Or.inl ⟨fun q => by first | (have q1 : n15 = n14 + 6 := q.1; omega) | (have q1 : n15 = n14 + 6 := q.1; have q2 : c n14 = 115 := q.2 0 (by decide); omega) | (have q1 : n15 = n14 + 6 := q.1; have q2 : c (n14 + 1) = 101 := q.2 1 (by decide); rw [Nat.add_comm n14 1] at q2; omega) | (have q1 : n15 = n14 + 6 := q.1; have q2 : c (n14 + 2) = 114 := q.2 2 (by decide); rw [Nat.add_comm n14 2] at q2; omega) | (have q1 : n15 = n14 + 6 := q.1; have q2 : c (n14 + 3) = 105 := q.2 3 (by decide); rw [Nat.add_comm n14 3] at q2; omega) | (have q1 : n15 = n14 + 6 := q.1; have q2 : c (n14 + 4) = 101 := q.2 4 (by decide); rw [Nat.add_comm n14 4] at q2; omega) | (have q1 : n15 = n14 + 6 := q.1; have q2 : c (n14 + 5) = 115 := q.2 5 (by decide); rw [Nat.add_comm n14 5] at q2; omega), rfl⟩)⟩ dX11_isWord_67 (jj_le rfl) (jj_le rfl)
                · have lx_62 := tt_lo x_62
                  have ux_62 := tt_hi x_62
                  refine jj_aload_n C dX11_isWord_46 rfl ?_
                  refine jj_iload_n C dX11_isWord_47 rfl ?_
                  refine tt_call0Vs (rest := [.int x_62]) C (ct_J0_charAt_5068e_s32 hl D cA ak) 22 (by decide) rfl jw_0b21ef6890 jw_acb9174fef jw_675efe837b jw_4ea6285965 jw_391c0f56bd jn_J0_charAt_5068e rfl (jj_le rfl) (jj_le rfl) (jj_le rfl) (jj_le rfl) (jj_le rfl) dX11_isWord_48 rfl (fun w1 r O_66 => ?_)
                  obtain ⟨-, rfl⟩ := O_66
                  refine jj_icmp_ne (tgt := 58) C dX11_isWord_51 (by decide) (fun c_67 => ?_) (fun c_67 => ?_)
                  · have z_c_67 := jc_neq (a := x_62.toInt) (b := 105) c_67 rfl (by decide)
                    refine jj_iconst (v := 0) C dX11_isWord_58 (by decide) ?_
                    refine jj_istore_n C dX11_isWord_59 (by decide) rfl ?_
                    refine jj_iinc (v := 4) C dX11_isWord_60 rfl (by decide) (by decide) rfl ?_
                    refine jj_goto (tgt := 24) C dX11_isWord_63 (by decide) ?_
                    refine jj_iload_n C dX11_isWord_24 rfl ?_
                    refine jj_aload_n C dX11_isWord_25 rfl ?_
                    refine tt_call0Vs (rest := [.int 4]) C (ct_J0_length_8abf5_s6 hl D cA ak) 22 (by decide) rfl jw_b95c722318 jw_b1ce304435 jw_d08f03a22e jw_4ea6285965 jw_bbc7045666 jn_J0_length_8abf5 rfl (jj_le rfl) (jj_le rfl) (jj_le rfl) (jj_le rfl) (jj_le rfl) dX11_isWord_26 rfl (fun w1 r O_68 => ?_)
                    obtain ⟨-, rfl⟩ := O_68
                    refine jj_icmp_geF (tgt := 66) C dX11_isWord_29 (by decide) (by decide) ?_
                    refine jj_iload_n C dX11_isWord_32 rfl ?_
                    refine jj_if_eqT (tgt := 66) C dX11_isWord_33 (by decide) (by decide) ?_
                    refine jj_iload_n C dX11_isWord_66 rfl ?_
                    exact jj_zret C rfl ⟨[], pl_54, rfl, rfl, hok_55, hfr, hfa, (Or.inl ⟨fun q => by first | (have q1 : n15 = n14 + 6 := q.1; omega) | (have q1 : n15 = n14 + 6 := q.1; have q2 : c n14 = 115 := q.2 0 (by decide); omega) | (have q1 : n15 = n14 + 6 := q.1; have q2 : c (n14 + 1) = 101 := q.2 1 (by decide); rw [Nat.add_comm n14 1] at q2; omega) | (have q1 : n15 = n14 + 6 := q.1; have q2 : c (n14 + 2) = 114 := q.2 2 (by decide); rw [Nat.add_comm n14 2] at q2; omega) | (have q1 : n15 = n14 + 6 := q.1; have q2 : c (n14 + 3) = 105 := q.2 3 (by decide); rw [Nat.add_comm n14 3] at q2; omega) | (have q1 : n15 = n14 + 6 := q.1; have q2 : c (n14 + 4) = 101 := q.2 4 (by decide); rw [Nat.add_comm n14 4] at q2; omega) | (have q1 : n15 = n14 + 6 := q.1; have q2 : c (n14 + 5) = 115 := q.2 5 (by decide); rw [Nat.add_comm n14 5] at q2; omega), rfl⟩)⟩ dX11_isWord_67 (jj_le rfl) (jj_le rfl)
                  · have z_c_67 := jc_eq (a := x_62.toInt) (b := 105) c_67 rfl (by decide)
                    refine jj_iconst (v := 1) C dX11_isWord_54 (by decide) ?_
                    refine jj_goto (tgt := 59) C dX11_isWord_55 (by decide) ?_
                    refine jj_istore_n C dX11_isWord_59 (by decide) rfl ?_
                    refine jj_iinc (v := 4) C dX11_isWord_60 rfl (by decide) (by decide) rfl ?_
                    refine jj_goto (tgt := 24) C dX11_isWord_63 (by decide) ?_
                    refine jj_iload_n C dX11_isWord_24 rfl ?_
                    refine jj_aload_n C dX11_isWord_25 rfl ?_
                    refine tt_call0Vs (rest := [.int 4]) C (ct_J0_length_8abf5_s6 hl D cA ak) 22 (by decide) rfl jw_b95c722318 jw_b1ce304435 jw_d08f03a22e jw_4ea6285965 jw_bbc7045666 jn_J0_length_8abf5 rfl (jj_le rfl) (jj_le rfl) (jj_le rfl) (jj_le rfl) (jj_le rfl) dX11_isWord_26 rfl (fun w1 r O_69 => ?_)
                    obtain ⟨-, rfl⟩ := O_69
                    refine jj_icmp_geF (tgt := 66) C dX11_isWord_29 (by decide) (by decide) ?_
                    refine jj_iload_n C dX11_isWord_32 rfl ?_
                    refine jj_if_eqF (tgt := 66) C dX11_isWord_33 (by decide) (by decide) ?_
                    refine jj_aload_n C dX11_isWord_36 rfl ?_
                    refine jj_aload_n C dX11_isWord_37 rfl ?_
                    refine tt_getF C hok_55 jk_12 14 (by decide) jw_6446e1fd81 (t := (0, 0, 400)) hk0 (by decide) rfl rfl hs14 dX11_isWord_38 ?_
                    refine jj_iload_n C dX11_isWord_41 rfl ?_
                    refine jj_iadd (v := nI (4 + n14)) C dX11_isWord_42 (rl_addR (kn := 4) (by decide) (by omega)) ?_
                    obtain ⟨qc, gs, hqc⟩ := tt_recv (cx := []) hok_55 hk0 (by decide) rfl
                    refine tt_callV (rest := []) C (re_byteAt hl D cA ak n16 at9 u (4 + n14) c hk0 hkw hka hkt hki hkf hkp (by first | omega | decide) (by first | omega | decide) hk9 (by omega) hc hok_55 hm hs12 hu hs16) [] [] rfl rfl (by decide) (by decide) (by decide) qc hqc rfl rfl jw_98db775389 jw_8e26deba02 jw_8ef34ac32e jw_f96c99f44d jw_4737f96f0a jn_X11_byteAt rfl (jj_le rfl) (jj_le rfl) (jj_le rfl) (jj_le rfl) (jj_le rfl) dX11_isWord_43 rfl (fun _ _ _ hX => hX.elim) (fun rx pl_70 r O_74 => ?_)
                    obtain ⟨rfl, hok_71, hr_72, ha_73, hR_75⟩ := O_74
                    replace hs12 := hr_72.at hk0 (by decide) (by decide) hs12
                    replace hs14 := hr_72.at hk0 (by decide) (by decide) hs14
                    replace hs15 := hr_72.at hk0 (by decide) (by decide) hs15
                    replace hs16 := hr_72.at hk0 (by decide) (by decide) hs16
                    replace hu := ha_73.at hk9 (by decide) (by decide) hu
                    replace hm := hm.fr hr_72 hk0 rfl
                    replace hfr := hfr.trans (hr_72.sub (by decide))
                    replace hfa := hfa.trans (ha_73.sub (by decide))
                    rcases hR_75 with ⟨hb_76, rfl⟩ | ⟨hb_77, x_78, hb_79, rfl⟩
                    · refine jj_aload_n C dX11_isWord_46 rfl ?_
                      refine jj_iload_n C dX11_isWord_47 rfl ?_
                      refine tt_call0Vs (rest := [.int (-1)]) C (ct_J0_charAt_5068e_s33 hl D cA ak) 22 (by decide) rfl jw_0b21ef6890 jw_acb9174fef jw_675efe837b jw_4ea6285965 jw_391c0f56bd jn_J0_charAt_5068e rfl (jj_le rfl) (jj_le rfl) (jj_le rfl) (jj_le rfl) (jj_le rfl) dX11_isWord_48 rfl (fun w1 r O_80 => ?_)
                      obtain ⟨-, rfl⟩ := O_80
                      refine jj_icmp_neT (tgt := 58) C dX11_isWord_51 (by decide) (by decide) ?_
                      refine jj_iconst (v := 0) C dX11_isWord_58 (by decide) ?_
                      refine jj_istore_n C dX11_isWord_59 (by decide) rfl ?_
                      refine jj_iinc (v := 5) C dX11_isWord_60 rfl (by decide) (by decide) rfl ?_
                      refine jj_goto (tgt := 24) C dX11_isWord_63 (by decide) ?_
                      refine jj_iload_n C dX11_isWord_24 rfl ?_
                      refine jj_aload_n C dX11_isWord_25 rfl ?_
                      refine tt_call0Vs (rest := [.int 5]) C (ct_J0_length_8abf5_s6 hl D cA ak) 22 (by decide) rfl jw_b95c722318 jw_b1ce304435 jw_d08f03a22e jw_4ea6285965 jw_bbc7045666 jn_J0_length_8abf5 rfl (jj_le rfl) (jj_le rfl) (jj_le rfl) (jj_le rfl) (jj_le rfl) dX11_isWord_26 rfl (fun w1 r O_81 => ?_)
                      obtain ⟨-, rfl⟩ := O_81
                      refine jj_icmp_geF (tgt := 66) C dX11_isWord_29 (by decide) (by decide) ?_
                      refine jj_iload_n C dX11_isWord_32 rfl ?_
                      refine jj_if_eqT (tgt := 66) C dX11_isWord_33 (by decide) (by decide) ?_
                      refine jj_iload_n C dX11_isWord_66 rfl ?_
                      exact jj_zret C rfl ⟨[], pl_70, rfl, rfl, hok_71, hfr, hfa, (Or.inl ⟨fun q => by first | (have q1 : n15 = n14 + 6 := q.1; omega) | (have q1 : n15 = n14 + 6 := q.1; have q2 : c n14 = 115 := q.2 0 (by decide); omega) | (have q1 : n15 = n14 + 6 := q.1; have q2 : c (n14 + 1) = 101 := q.2 1 (by decide); rw [Nat.add_comm n14 1] at q2; omega) | (have q1 : n15 = n14 + 6 := q.1; have q2 : c (n14 + 2) = 114 := q.2 2 (by decide); rw [Nat.add_comm n14 2] at q2; omega) | (have q1 : n15 = n14 + 6 := q.1; have q2 : c (n14 + 3) = 105 := q.2 3 (by decide); rw [Nat.add_comm n14 3] at q2; omega) | (have q1 : n15 = n14 + 6 := q.1; have q2 : c (n14 + 4) = 101 := q.2 4 (by decide); rw [Nat.add_comm n14 4] at q2; omega) | (have q1 : n15 = n14 + 6 := q.1; have q2 : c (n14 + 5) = 115 := q.2 5 (by decide); rw [Nat.add_comm n14 5] at q2; omega), rfl⟩)⟩ dX11_isWord_67 (jj_le rfl) (jj_le rfl)
                    · have lx_78 := tt_lo x_78
                      have ux_78 := tt_hi x_78
                      refine jj_aload_n C dX11_isWord_46 rfl ?_
                      refine jj_iload_n C dX11_isWord_47 rfl ?_
                      refine tt_call0Vs (rest := [.int x_78]) C (ct_J0_charAt_5068e_s33 hl D cA ak) 22 (by decide) rfl jw_0b21ef6890 jw_acb9174fef jw_675efe837b jw_4ea6285965 jw_391c0f56bd jn_J0_charAt_5068e rfl (jj_le rfl) (jj_le rfl) (jj_le rfl) (jj_le rfl) (jj_le rfl) dX11_isWord_48 rfl (fun w1 r O_82 => ?_)
                      obtain ⟨-, rfl⟩ := O_82
                      refine jj_icmp_ne (tgt := 58) C dX11_isWord_51 (by decide) (fun c_83 => ?_) (fun c_83 => ?_)
                      · have z_c_83 := jc_neq (a := x_78.toInt) (b := 101) c_83 rfl (by decide)
                        refine jj_iconst (v := 0) C dX11_isWord_58 (by decide) ?_
                        refine jj_istore_n C dX11_isWord_59 (by decide) rfl ?_
                        refine jj_iinc (v := 5) C dX11_isWord_60 rfl (by decide) (by decide) rfl ?_
                        refine jj_goto (tgt := 24) C dX11_isWord_63 (by decide) ?_
                        refine jj_iload_n C dX11_isWord_24 rfl ?_
                        refine jj_aload_n C dX11_isWord_25 rfl ?_
                        refine tt_call0Vs (rest := [.int 5]) C (ct_J0_length_8abf5_s6 hl D cA ak) 22 (by decide) rfl jw_b95c722318 jw_b1ce304435 jw_d08f03a22e jw_4ea6285965 jw_bbc7045666 jn_J0_length_8abf5 rfl (jj_le rfl) (jj_le rfl) (jj_le rfl) (jj_le rfl) (jj_le rfl) dX11_isWord_26 rfl (fun w1 r O_84 => ?_)
                        obtain ⟨-, rfl⟩ := O_84
                        refine jj_icmp_geF (tgt := 66) C dX11_isWord_29 (by decide) (by decide) ?_
                        refine jj_iload_n C dX11_isWord_32 rfl ?_
                        refine jj_if_eqT (tgt := 66) C dX11_isWord_33 (by decide) (by decide) ?_
                        refine jj_iload_n C dX11_isWord_66 rfl ?_
                        exact jj_zret C rfl ⟨[], pl_70, rfl, rfl, hok_71, hfr, hfa, (Or.inl ⟨fun q => by first | (have q1 : n15 = n14 + 6 := q.1; omega) | (have q1 : n15 = n14 + 6 := q.1; have q2 : c n14 = 115 := q.2 0 (by decide); omega) | (have q1 : n15 = n14 + 6 := q.1; have q2 : c (n14 + 1) = 101 := q.2 1 (by decide); rw [Nat.add_comm n14 1] at q2; omega) | (have q1 : n15 = n14 + 6 := q.1; have q2 : c (n14 + 2) = 114 := q.2 2 (by decide); rw [Nat.add_comm n14 2] at q2; omega) | (have q1 : n15 = n14 + 6 := q.1; have q2 : c (n14 + 3) = 105 := q.2 3 (by decide); rw [Nat.add_comm n14 3] at q2; omega) | (have q1 : n15 = n14 + 6 := q.1; have q2 : c (n14 + 4) = 101 := q.2 4 (by decide); rw [Nat.add_comm n14 4] at q2; omega) | (have q1 : n15 = n14 + 6 := q.1; have q2 : c (n14 + 5) = 115 := q.2 5 (by decide); rw [Nat.add_comm n14 5] at q2; omega), rfl⟩)⟩ dX11_isWord_67 (jj_le rfl) (jj_le rfl)
                      · have z_c_83 := jc_eq (a := x_78.toInt) (b := 101) c_83 rfl (by decide)
                        refine jj_iconst (v := 1) C dX11_isWord_54 (by decide) ?_
                        refine jj_goto (tgt := 59) C dX11_isWord_55 (by decide) ?_
                        refine jj_istore_n C dX11_isWord_59 (by decide) rfl ?_
                        refine jj_iinc (v := 5) C dX11_isWord_60 rfl (by decide) (by decide) rfl ?_
                        refine jj_goto (tgt := 24) C dX11_isWord_63 (by decide) ?_
                        refine jj_iload_n C dX11_isWord_24 rfl ?_
                        refine jj_aload_n C dX11_isWord_25 rfl ?_
                        refine tt_call0Vs (rest := [.int 5]) C (ct_J0_length_8abf5_s6 hl D cA ak) 22 (by decide) rfl jw_b95c722318 jw_b1ce304435 jw_d08f03a22e jw_4ea6285965 jw_bbc7045666 jn_J0_length_8abf5 rfl (jj_le rfl) (jj_le rfl) (jj_le rfl) (jj_le rfl) (jj_le rfl) dX11_isWord_26 rfl (fun w1 r O_85 => ?_)
                        obtain ⟨-, rfl⟩ := O_85
                        refine jj_icmp_geF (tgt := 66) C dX11_isWord_29 (by decide) (by decide) ?_
                        refine jj_iload_n C dX11_isWord_32 rfl ?_
                        refine jj_if_eqF (tgt := 66) C dX11_isWord_33 (by decide) (by decide) ?_
                        refine jj_aload_n C dX11_isWord_36 rfl ?_
                        refine jj_aload_n C dX11_isWord_37 rfl ?_
                        refine tt_getF C hok_71 jk_12 14 (by decide) jw_6446e1fd81 (t := (0, 0, 400)) hk0 (by decide) rfl rfl hs14 dX11_isWord_38 ?_
                        refine jj_iload_n C dX11_isWord_41 rfl ?_
                        refine jj_iadd (v := nI (5 + n14)) C dX11_isWord_42 (rl_addR (kn := 5) (by decide) (by omega)) ?_
                        obtain ⟨qc, gs, hqc⟩ := tt_recv (cx := []) hok_71 hk0 (by decide) rfl
                        refine tt_callV (rest := []) C (re_byteAt hl D cA ak n16 at9 u (5 + n14) c hk0 hkw hka hkt hki hkf hkp (by first | omega | decide) (by first | omega | decide) hk9 (by omega) hc hok_71 hm hs12 hu hs16) [] [] rfl rfl (by decide) (by decide) (by decide) qc hqc rfl rfl jw_98db775389 jw_8e26deba02 jw_8ef34ac32e jw_f96c99f44d jw_4737f96f0a jn_X11_byteAt rfl (jj_le rfl) (jj_le rfl) (jj_le rfl) (jj_le rfl) (jj_le rfl) dX11_isWord_43 rfl (fun _ _ _ hX => hX.elim) (fun rx pl_86 r O_90 => ?_)
                        obtain ⟨rfl, hok_87, hr_88, ha_89, hR_91⟩ := O_90
                        replace hs12 := hr_88.at hk0 (by decide) (by decide) hs12
                        replace hs14 := hr_88.at hk0 (by decide) (by decide) hs14
                        replace hs15 := hr_88.at hk0 (by decide) (by decide) hs15
                        replace hs16 := hr_88.at hk0 (by decide) (by decide) hs16
                        replace hu := ha_89.at hk9 (by decide) (by decide) hu
                        replace hm := hm.fr hr_88 hk0 rfl
                        replace hfr := hfr.trans (hr_88.sub (by decide))
                        replace hfa := hfa.trans (ha_89.sub (by decide))
                        rcases hR_91 with ⟨hb_92, rfl⟩ | ⟨hb_93, x_94, hb_95, rfl⟩
                        · refine jj_aload_n C dX11_isWord_46 rfl ?_
                          refine jj_iload_n C dX11_isWord_47 rfl ?_
                          refine tt_call0Vs (rest := [.int (-1)]) C (ct_J0_charAt_5068e_s34 hl D cA ak) 22 (by decide) rfl jw_0b21ef6890 jw_acb9174fef jw_675efe837b jw_4ea6285965 jw_391c0f56bd jn_J0_charAt_5068e rfl (jj_le rfl) (jj_le rfl) (jj_le rfl) (jj_le rfl) (jj_le rfl) dX11_isWord_48 rfl (fun w1 r O_96 => ?_)
                          obtain ⟨-, rfl⟩ := O_96
                          refine jj_icmp_neT (tgt := 58) C dX11_isWord_51 (by decide) (by decide) ?_
                          refine jj_iconst (v := 0) C dX11_isWord_58 (by decide) ?_
                          refine jj_istore_n C dX11_isWord_59 (by decide) rfl ?_
                          refine jj_iinc (v := 6) C dX11_isWord_60 rfl (by decide) (by decide) rfl ?_
                          refine jj_goto (tgt := 24) C dX11_isWord_63 (by decide) ?_
                          refine jj_iload_n C dX11_isWord_24 rfl ?_
                          refine jj_aload_n C dX11_isWord_25 rfl ?_
                          refine tt_call0Vs (rest := [.int 6]) C (ct_J0_length_8abf5_s6 hl D cA ak) 22 (by decide) rfl jw_b95c722318 jw_b1ce304435 jw_d08f03a22e jw_4ea6285965 jw_bbc7045666 jn_J0_length_8abf5 rfl (jj_le rfl) (jj_le rfl) (jj_le rfl) (jj_le rfl) (jj_le rfl) dX11_isWord_26 rfl (fun w1 r O_97 => ?_)
                          obtain ⟨-, rfl⟩ := O_97
                          refine jj_icmp_geT (tgt := 66) C dX11_isWord_29 (by decide) (by decide) ?_
                          refine jj_iload_n C dX11_isWord_66 rfl ?_
                          exact jj_zret C rfl ⟨[], pl_86, rfl, rfl, hok_87, hfr, hfa, (Or.inl ⟨fun q => by first | (have q1 : n15 = n14 + 6 := q.1; omega) | (have q1 : n15 = n14 + 6 := q.1; have q2 : c n14 = 115 := q.2 0 (by decide); omega) | (have q1 : n15 = n14 + 6 := q.1; have q2 : c (n14 + 1) = 101 := q.2 1 (by decide); rw [Nat.add_comm n14 1] at q2; omega) | (have q1 : n15 = n14 + 6 := q.1; have q2 : c (n14 + 2) = 114 := q.2 2 (by decide); rw [Nat.add_comm n14 2] at q2; omega) | (have q1 : n15 = n14 + 6 := q.1; have q2 : c (n14 + 3) = 105 := q.2 3 (by decide); rw [Nat.add_comm n14 3] at q2; omega) | (have q1 : n15 = n14 + 6 := q.1; have q2 : c (n14 + 4) = 101 := q.2 4 (by decide); rw [Nat.add_comm n14 4] at q2; omega) | (have q1 : n15 = n14 + 6 := q.1; have q2 : c (n14 + 5) = 115 := q.2 5 (by decide); rw [Nat.add_comm n14 5] at q2; omega), rfl⟩)⟩ dX11_isWord_67 (jj_le rfl) (jj_le rfl)
                        · have lx_94 := tt_lo x_94
                          have ux_94 := tt_hi x_94
                          refine jj_aload_n C dX11_isWord_46 rfl ?_
                          refine jj_iload_n C dX11_isWord_47 rfl ?_
                          refine tt_call0Vs (rest := [.int x_94]) C (ct_J0_charAt_5068e_s34 hl D cA ak) 22 (by decide) rfl jw_0b21ef6890 jw_acb9174fef jw_675efe837b jw_4ea6285965 jw_391c0f56bd jn_J0_charAt_5068e rfl (jj_le rfl) (jj_le rfl) (jj_le rfl) (jj_le rfl) (jj_le rfl) dX11_isWord_48 rfl (fun w1 r O_98 => ?_)
                          obtain ⟨-, rfl⟩ := O_98
                          refine jj_icmp_ne (tgt := 58) C dX11_isWord_51 (by decide) (fun c_99 => ?_) (fun c_99 => ?_)
                          · have z_c_99 := jc_neq (a := x_94.toInt) (b := 115) c_99 rfl (by decide)
                            refine jj_iconst (v := 0) C dX11_isWord_58 (by decide) ?_
                            refine jj_istore_n C dX11_isWord_59 (by decide) rfl ?_
                            refine jj_iinc (v := 6) C dX11_isWord_60 rfl (by decide) (by decide) rfl ?_
                            refine jj_goto (tgt := 24) C dX11_isWord_63 (by decide) ?_
                            refine jj_iload_n C dX11_isWord_24 rfl ?_
                            refine jj_aload_n C dX11_isWord_25 rfl ?_
                            refine tt_call0Vs (rest := [.int 6]) C (ct_J0_length_8abf5_s6 hl D cA ak) 22 (by decide) rfl jw_b95c722318 jw_b1ce304435 jw_d08f03a22e jw_4ea6285965 jw_bbc7045666 jn_J0_length_8abf5 rfl (jj_le rfl) (jj_le rfl) (jj_le rfl) (jj_le rfl) (jj_le rfl) dX11_isWord_26 rfl (fun w1 r O_100 => ?_)
                            obtain ⟨-, rfl⟩ := O_100
                            refine jj_icmp_geT (tgt := 66) C dX11_isWord_29 (by decide) (by decide) ?_
                            refine jj_iload_n C dX11_isWord_66 rfl ?_
                            exact jj_zret C rfl ⟨[], pl_86, rfl, rfl, hok_87, hfr, hfa, (Or.inl ⟨fun q => by first | (have q1 : n15 = n14 + 6 := q.1; omega) | (have q1 : n15 = n14 + 6 := q.1; have q2 : c n14 = 115 := q.2 0 (by decide); omega) | (have q1 : n15 = n14 + 6 := q.1; have q2 : c (n14 + 1) = 101 := q.2 1 (by decide); rw [Nat.add_comm n14 1] at q2; omega) | (have q1 : n15 = n14 + 6 := q.1; have q2 : c (n14 + 2) = 114 := q.2 2 (by decide); rw [Nat.add_comm n14 2] at q2; omega) | (have q1 : n15 = n14 + 6 := q.1; have q2 : c (n14 + 3) = 105 := q.2 3 (by decide); rw [Nat.add_comm n14 3] at q2; omega) | (have q1 : n15 = n14 + 6 := q.1; have q2 : c (n14 + 4) = 101 := q.2 4 (by decide); rw [Nat.add_comm n14 4] at q2; omega) | (have q1 : n15 = n14 + 6 := q.1; have q2 : c (n14 + 5) = 115 := q.2 5 (by decide); rw [Nat.add_comm n14 5] at q2; omega), rfl⟩)⟩ dX11_isWord_67 (jj_le rfl) (jj_le rfl)
                          · have z_c_99 := jc_eq (a := x_94.toInt) (b := 115) c_99 rfl (by decide)
                            refine jj_iconst (v := 1) C dX11_isWord_54 (by decide) ?_
                            refine jj_goto (tgt := 59) C dX11_isWord_55 (by decide) ?_
                            refine jj_istore_n C dX11_isWord_59 (by decide) rfl ?_
                            refine jj_iinc (v := 6) C dX11_isWord_60 rfl (by decide) (by decide) rfl ?_
                            refine jj_goto (tgt := 24) C dX11_isWord_63 (by decide) ?_
                            refine jj_iload_n C dX11_isWord_24 rfl ?_
                            refine jj_aload_n C dX11_isWord_25 rfl ?_
                            refine tt_call0Vs (rest := [.int 6]) C (ct_J0_length_8abf5_s6 hl D cA ak) 22 (by decide) rfl jw_b95c722318 jw_b1ce304435 jw_d08f03a22e jw_4ea6285965 jw_bbc7045666 jn_J0_length_8abf5 rfl (jj_le rfl) (jj_le rfl) (jj_le rfl) (jj_le rfl) (jj_le rfl) dX11_isWord_26 rfl (fun w1 r O_101 => ?_)
                            obtain ⟨-, rfl⟩ := O_101
                            refine jj_icmp_geT (tgt := 66) C dX11_isWord_29 (by decide) (by decide) ?_
                            refine jj_iload_n C dX11_isWord_66 rfl ?_
                            exact jj_zret C rfl ⟨[], pl_86, rfl, rfl, hok_87, hfr, hfa, (Or.inr ⟨ps_alls.isw ⟨(show c n14 = 115 from by omega), (show c (n14 + 1) = 101 from by rw [Nat.add_comm n14 1]; omega), (show c (n14 + 2) = 114 from by rw [Nat.add_comm n14 2]; omega), (show c (n14 + 3) = 105 from by rw [Nat.add_comm n14 3]; omega), (show c (n14 + 4) = 101 from by rw [Nat.add_comm n14 4]; omega), (show c (n14 + 5) = 115 from by rw [Nat.add_comm n14 5]; omega), trivial⟩ (show n15 = n14 + 6 from by omega), rfl⟩)⟩ dX11_isWord_67 (jj_le rfl) (jj_le rfl)
