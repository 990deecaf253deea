
set_option maxHeartbeats 4000000 in
set_option maxRecDepth 100000 in
theorem re_bring {l : Launch} (hl : l.stackTraces = false) (D : va_G) (cA : Nat → ClassId) (ak : (Nat → Nat) × (Nat → Nat)) {Kd : Nat → Nat} {h0 aw aa at0 ai af ap : Nat} (n13 : Nat) (at9 : Nat) (u : Nat → Int32) (p1 : Int32) (hk0 : Kd h0 = 1) (hkw : Kd aw = 2) (hka : Kd aa = 3) (hkt : Kd at0 = 4) (hki : Kd ai = 5) (hkf : Kd af = 6) (hkp : Kd ap = 7) (ln13 : (0 : Int) ≤ (n13 : Int)) (un13 : (n13 : Int) ≤ 396) (hk9 : Kd at9 = 10) {pl0 : va_W} (hok : tt_ok rt_tk cA Kd pl0) (hm : rl_m pl0 h0 aw aa at0 ai af ap) (hs12 : tt_at pl0 h0 12 (.ref at9)) (hu : tt_ic pl0 at9 u) (hs13 : tt_at pl0 h0 13 (.int (nI n13))) : jj_M l D cA ak yX11_bring (.code yX11_bring cX11_bring 3 none) 0 0 0 0 ([] ++ pl0) [.ref h0, .int p1] (tt_O (fun rx pl1 r => rx = [] ∧ tt_ok rt_tk cA Kd pl1 ∧ tt_fr Kd [(1, 13)] pl0 pl1 ∧ tt_fa Kd [10] pl0 pl1 ∧ ((tt_at pl1 h0 13 (.int (nI (4 + n13))) ∧ (∃ v : Nat → Int32, tt_ic pl1 at9 v ∧ (∀ k : Nat, k < n13 → v k = u k) ∧ v (n13) = te_m p1 24 ∧ v (1 + n13) = te_m p1 16 ∧ v (2 + n13) = te_m p1 8 ∧ v (3 + n13) = te_m p1 0) ∧ r = none)))) (tt_OX (fun _ _ _ => False)) := by
  refine jj_start hl (by decide) jw_6cee2b55dc (jj_le rfl) ?_
  intro p e s m args below meth c9 A hargs hA C hex hmn
  have hfr := tt_fr.refl (K := Kd) (WS := [(1, 13)]) pl0
  have hfa := tt_fa.refl (K := Kd) (WA := [10]) pl0
  have lp1 := tt_lo p1
  have up1 := tt_hi p1
  refine jj_iconst (v := 3) C dX11_bring_0 (by decide) ?_
  refine jj_istore_n C dX11_bring_1 (by decide) rfl ?_
  refine jj_iload_n C dX11_bring_2 rfl ?_
  refine jj_if_ltF (tgt := 35) C dX11_bring_3 (by decide) (by decide) ?_
  refine jj_aload_n C dX11_bring_6 rfl ?_
  refine tt_getF C hok jk_12 12 (by decide) jw_a4b356c796 (t := (2, 10, 0)) hk0 (by decide) rfl rfl hs12 dX11_bring_7 ?_
  refine jj_aload_n C dX11_bring_10 rfl ?_
  refine jj_dup C dX11_bring_11 rfl ?_
  refine tt_getF C hok jk_12 13 (by decide) jw_fabf3762b1 (t := (0, 0, 400)) hk0 (by decide) rfl rfl hs13 dX11_bring_12 ?_
  refine jj_dup_x1 C dX11_bring_15 rfl rfl ?_
  refine jj_iconst (v := 1) C dX11_bring_16 (by decide) ?_
  refine jj_iadd (v := nI (1 + n13)) C dX11_bring_17 (rl_addR (kn := 1) (by decide) (by omega)) ?_
  refine rl_put C hok jk_12 13 (by decide) jw_fabf3762b1 (t := (0, 0, 400)) hk0 (by decide) rfl rfl rfl (rl_iv (by omega) (by omega)) rfl rfl dX11_bring_18 (fun pl_1 hok_2 tr hn tl => ?_)
  replace hs12 := tr _ _ _ (Or.inr (by decide)) hs12
  have hf_3 := hn
  replace hm := hm.put tr (by decide)
  replace hfr := hfr.put hk0 tr (by decide)
  replace hu := tl _ _ hu
  replace hfa := hfa.all tl
  refine jj_iload_n C dX11_bring_21 rfl ?_
  refine jj_bipush (v := 8) C dX11_bring_22 (by decide) ?_
  refine jj_iload_n C dX11_bring_24 rfl ?_
  refine jj_imul (v := 24) C dX11_bring_25 (by decide) ?_
  obtain ⟨x_4, ex_4⟩ : ∃ z : Int32, p1 >>> ((24 : Int32) &&& 31) = z := ⟨_, rfl⟩
  refine jj_ishr (v := x_4) C dX11_bring_26 ex_4 ?_
  obtain ⟨x_5, ex_5⟩ : ∃ z : Int32, x_4.toInt8.toInt32 = z := ⟨_, rfl⟩
  refine jj_i2b (v := x_5) C dX11_bring_27 ex_5 ?_
  refine tl_bastF C hok_2 (t := (0, (-2147483648), 2147483647)) hk9 (by decide) rfl (k0 := n13) (vp_in_nI (by omega) (by decide)) (nI_clamp (by omega)) (tt_ia _) dX11_bring_28 (fun pl_6 hok_7 tr tl tw => ?_)
  replace hs12 := tr _ _ _ hs12
  replace hf_3 := tr _ _ _ hf_3
  replace hm := hm.arr tr
  replace hfr := hfr.arr tr
  replace hu := tw _ hu
  replace hfa := hfa.wr hk9 tl (by decide)
  refine jj_iinc (v := 2) C dX11_bring_29 rfl (by decide) (by decide) rfl ?_
  refine jj_goto (tgt := 2) C dX11_bring_32 (by decide) ?_
  refine jj_iload_n C dX11_bring_2 rfl ?_
  refine jj_if_ltF (tgt := 35) C dX11_bring_3 (by decide) (by decide) ?_
  refine jj_aload_n C dX11_bring_6 rfl ?_
  refine tt_getF C hok_7 jk_12 12 (by decide) jw_a4b356c796 (t := (2, 10, 0)) hk0 (by decide) rfl rfl hs12 dX11_bring_7 ?_
  refine jj_aload_n C dX11_bring_10 rfl ?_
  refine jj_dup C dX11_bring_11 rfl ?_
  refine tt_getF C hok_7 jk_12 13 (by decide) jw_fabf3762b1 (t := (0, 0, 400)) hk0 (by decide) rfl rfl hf_3 dX11_bring_12 ?_
  refine jj_dup_x1 C dX11_bring_15 rfl rfl ?_
  refine jj_iconst (v := 1) C dX11_bring_16 (by decide) ?_
  refine jj_iadd (v := nI (2 + n13)) C dX11_bring_17 (rl_addR (kn := 1) (by decide) (by omega)) ?_
  refine rl_put C hok_7 jk_12 13 (by decide) jw_fabf3762b1 (t := (0, 0, 400)) hk0 (by decide) rfl rfl rfl (rl_iv (by omega) (by omega)) rfl rfl dX11_bring_18 (fun pl_8 hok_9 tr hn tl => ?_)
  replace hs12 := tr _ _ _ (Or.inr (by decide)) hs12
  have hf_10 := hn
  replace hm := hm.put tr (by decide)
  replace hfr := hfr.put hk0 tr (by decide)
  replace hu := tl _ _ hu
  replace hfa := hfa.all tl
  refine jj_iload_n C dX11_bring_21 rfl ?_
  refine jj_bipush (v := 8) C dX11_bring_22 (by decide) ?_
  refine jj_iload_n C dX11_bring_24 rfl ?_
  refine jj_imul (v := 16) C dX11_bring_25 (by decide) ?_
  obtain ⟨x_11, ex_11⟩ : ∃ z : Int32, p1 >>> ((16 : Int32) &&& 31) = z := ⟨_, rfl⟩
  refine jj_ishr (v := x_11) C dX11_bring_26 ex_11 ?_
  obtain ⟨x_12, ex_12⟩ : ∃ z : Int32, x_11.toInt8.toInt32 = z := ⟨_, rfl⟩
  refine jj_i2b (v := x_12) C dX11_bring_27 ex_12 ?_
  refine tl_bastF C hok_9 (t := (0, (-2147483648), 2147483647)) hk9 (by decide) rfl (k0 := 1 + n13) (vp_in_nI (by omega) (by decide)) (nI_clamp (by omega)) (tt_ia _) dX11_bring_28 (fun pl_13 hok_14 tr tl tw => ?_)
  replace hs12 := tr _ _ _ hs12
  replace hf_10 := tr _ _ _ hf_10
  replace hm := hm.arr tr
  replace hfr := hfr.arr tr
  replace hu := tw _ hu
  replace hfa := hfa.wr hk9 tl (by decide)
  refine jj_iinc (v := 1) C dX11_bring_29 rfl (by decide) (by decide) rfl ?_
  refine jj_goto (tgt := 2) C dX11_bring_32 (by decide) ?_
  refine jj_iload_n C dX11_bring_2 rfl ?_
  refine jj_if_ltF (tgt := 35) C dX11_bring_3 (by decide) (by decide) ?_
  refine jj_aload_n C dX11_bring_6 rfl ?_
  refine tt_getF C hok_14 jk_12 12 (by decide) jw_a4b356c796 (t := (2, 10, 0)) hk0 (by decide) rfl rfl hs12 dX11_bring_7 ?_
  refine jj_aload_n C dX11_bring_10 rfl ?_
  refine jj_dup C dX11_bring_11 rfl ?_
  refine tt_getF C hok_14 jk_12 13 (by decide) jw_fabf3762b1 (t := (0, 0, 400)) hk0 (by decide) rfl rfl hf_10 dX11_bring_12 ?_
  refine jj_dup_x1 C dX11_bring_15 rfl rfl ?_
  refine jj_iconst (v := 1) C dX11_bring_16 (by decide) ?_
  refine jj_iadd (v := nI (3 + n13)) C dX11_bring_17 (rl_addR (kn := 1) (by decide) (by omega)) ?_
  refine rl_put C hok_14 jk_12 13 (by decide) jw_fabf3762b1 (t := (0, 0, 400)) hk0 (by decide) rfl rfl rfl (rl_iv (by omega) (by omega)) rfl rfl dX11_bring_18 (fun pl_15 hok_16 tr hn tl => ?_)
  replace hs12 := tr _ _ _ (Or.inr (by decide)) hs12
  have hf_17 := hn
  replace hm := hm.put tr (by decide)
  replace hfr := hfr.put hk0 tr (by decide)
  replace hu := tl _ _ hu
  replace hfa := hfa.all tl
  refine jj_iload_n C dX11_bring_21 rfl ?_
  refine jj_bipush (v := 8) C dX11_bring_22 (by decide) ?_
  refine jj_iload_n C dX11_bring_24 rfl ?_
  refine jj_imul (v := 8) C dX11_bring_25 (by decide) ?_
  obtain ⟨x_18, ex_18⟩ : ∃ z : Int32, p1 >>> ((8 : Int32) &&& 31) = z := ⟨_, rfl⟩
  refine jj_ishr (v := x_18) C dX11_bring_26 ex_18 ?_
  obtain ⟨x_19, ex_19⟩ : ∃ z : Int32, x_18.toInt8.toInt32 = z := ⟨_, rfl⟩
  refine jj_i2b (v := x_19) C dX11_bring_27 ex_19 ?_
  refine tl_bastF C hok_16 (t := (0, (-2147483648), 2147483647)) hk9 (by decide) rfl (k0 := 2 + n13) (vp_in_nI (by omega) (by decide)) (nI_clamp (by omega)) (tt_ia _) dX11_bring_28 (fun pl_20 hok_21 tr tl tw => ?_)
  replace hs12 := tr _ _ _ hs12
  replace hf_17 := tr _ _ _ hf_17
  replace hm := hm.arr tr
  replace hfr := hfr.arr tr
  replace hu := tw _ hu
  replace hfa := hfa.wr hk9 tl (by decide)
  refine jj_iinc (v := 0) C dX11_bring_29 rfl (by decide) (by decide) rfl ?_
  refine jj_goto (tgt := 2) C dX11_bring_32 (by decide) ?_
  refine jj_iload_n C dX11_bring_2 rfl ?_
  refine jj_if_ltF (tgt := 35) C dX11_bring_3 (by decide) (by decide) ?_
  refine jj_aload_n C dX11_bring_6 rfl ?_
  refine tt_getF C hok_21 jk_12 12 (by decide) jw_a4b356c796 (t := (2, 10, 0)) hk0 (by decide) rfl rfl hs12 dX11_bring_7 ?_
  refine jj_aload_n C dX11_bring_10 rfl ?_
  refine jj_dup C dX11_bring_11 rfl ?_
  refine tt_getF C hok_21 jk_12 13 (by decide) jw_fabf3762b1 (t := (0, 0, 400)) hk0 (by decide) rfl rfl hf_17 dX11_bring_12 ?_
  refine jj_dup_x1 C dX11_bring_15 rfl rfl ?_
  refine jj_iconst (v := 1) C dX11_bring_16 (by decide) ?_
  refine jj_iadd (v := nI (4 + n13)) C dX11_bring_17 (rl_addR (kn := 1) (by decide) (by omega)) ?_
  refine rl_put C hok_21 jk_12 13 (by decide) jw_fabf3762b1 (t := (0, 0, 400)) hk0 (by decide) rfl rfl rfl (rl_iv (by omega) (by omega)) rfl rfl dX11_bring_18 (fun pl_22 hok_23 tr hn tl => ?_)
  replace hs12 := tr _ _ _ (Or.inr (by decide)) hs12
  have hf_24 := hn
  replace hm := hm.put tr (by decide)
  replace hfr := hfr.put hk0 tr (by decide)
  replace hu := tl _ _ hu
  replace hfa := hfa.all tl
  refine jj_iload_n C dX11_bring_21 rfl ?_
  refine jj_bipush (v := 8) C dX11_bring_22 (by decide) ?_
  refine jj_iload_n C dX11_bring_24 rfl ?_
  refine jj_imul (v := 0) C dX11_bring_25 (by decide) ?_
  obtain ⟨x_25, ex_25⟩ : ∃ z : Int32, p1 >>> ((0 : Int32) &&& 31) = z := ⟨_, rfl⟩
  refine jj_ishr (v := x_25) C dX11_bring_26 ex_25 ?_
  obtain ⟨x_26, ex_26⟩ : ∃ z : Int32, x_25.toInt8.toInt32 = z := ⟨_, rfl⟩
  refine jj_i2b (v := x_26) C dX11_bring_27 ex_26 ?_
  refine tl_bastF C hok_23 (t := (0, (-2147483648), 2147483647)) hk9 (by decide) rfl (k0 := 3 + n13) (vp_in_nI (by omega) (by decide)) (nI_clamp (by omega)) (tt_ia _) dX11_bring_28 (fun pl_27 hok_28 tr tl tw => ?_)
  replace hs12 := tr _ _ _ hs12
  replace hf_24 := tr _ _ _ hf_24
  replace hm := hm.arr tr
  replace hfr := hfr.arr tr
  replace hu := tw _ hu
  replace hfa := hfa.wr hk9 tl (by decide)
  refine jj_iinc (v := (-1)) C dX11_bring_29 rfl (by decide) (by decide) rfl ?_
  refine jj_goto (tgt := 2) C dX11_bring_32 (by decide) ?_
  refine jj_iload_n C dX11_bring_2 rfl ?_
  refine jj_if_ltT (tgt := 35) C dX11_bring_3 (by decide) (by decide) ?_
  exact jj_vret C ⟨[], pl_27, rfl, rfl, hok_28, hfr, hfa, ⟨(by have e9 : 4 + n13 = 4 + n13 := (by omega); rw [← e9]; exact hf_24), ⟨_, hu, (fun k hk => by rw [te_upN (by omega), te_upN (by omega), te_upN (by omega), te_upN (by omega)]), (by rw [te_upN (by omega), te_upN (by omega), te_upN (by omega), te_upS]; exact te_byt ex_4 ex_5), (by rw [te_upN (by omega), te_upN (by omega), te_upS]; exact te_byt ex_11 ex_12), (by rw [te_upN (by omega), te_upS]; exact te_byt ex_18 ex_19), (by rw [te_upS]; exact te_byt ex_25 ex_26)⟩, rfl⟩⟩ dX11_bring_35 (jj_le rfl) (jj_le rfl)

set_option maxHeartbeats 4000000 in
set_option maxRecDepth 100000 in
theorem re_appendText {l : Launch} (hl : l.stackTraces = false) (D : va_G) (cA : Nat → ClassId) (ak : (Nat → Nat) × (Nat → Nat)) {Kd : Nat → Nat} {h0 aw aa at0 ai af ap : Nat} (n13 : Nat) (at9 : Nat) (u : Nat → Int32) (p1 : Int32) (p2 : Int32) (p3 : Int32) (p4 : Int32) (p5 : Int32) (hk0 : Kd h0 = 1) (hkw : Kd aw = 2) (hka : Kd aa = 3) (hkt : Kd at0 = 4) (hki : Kd ai = 5) (hkf : Kd af = 6) (hkp : Kd ap = 7) (ln13 : (0 : Int) ≤ (n13 : Int)) (un13 : (n13 : Int) ≤ 400) (hk9 : Kd at9 = 10) {pl0 : va_W} (hok : tt_ok rt_tk cA Kd pl0) (hm : rl_m pl0 h0 aw aa at0 ai af ap) (hs12 : tt_at pl0 h0 12 (.ref at9)) (hu : tt_ic pl0 at9 u) (hs13 : tt_at pl0 h0 13 (.int (nI n13))) : jj_M l D cA ak yX11_appendText (.code yX11_appendText cX11_appendText 6 (some .int)) 1 22 0 0 ([] ++ pl0) [.ref h0, .int p1, .int p2, .int p3, .int p4, .int p5] (tt_O (fun rx pl1 r => rx = [] ∧ tt_ok rt_tk cA Kd pl1 ∧ tt_fr Kd [(1, 7), (1, 13)] pl0 pl1 ∧ tt_fa Kd [10] pl0 pl1 ∧ ((n13 ≤ 380 ∧ tt_at pl1 h0 7 (.int 0) ∧ tt_at pl1 h0 13 (.int (nI (20 + n13))) ∧ (∃ v : Nat → Int32, tt_ic pl1 at9 v ∧ (∀ k : Nat, k < n13 → v k = u k) ∧ v (n13) = te_m p1 24 ∧ v (1 + n13) = te_m p1 16 ∧ v (2 + n13) = te_m p1 8 ∧ v (3 + n13) = te_m p1 0 ∧ v (4 + n13) = te_m p2 24 ∧ v (5 + n13) = te_m p2 16 ∧ v (6 + n13) = te_m p2 8 ∧ v (7 + n13) = te_m p2 0 ∧ v (8 + n13) = te_m p3 24 ∧ v (9 + n13) = te_m p3 16 ∧ v (10 + n13) = te_m p3 8 ∧ v (11 + n13) = te_m p3 0 ∧ v (12 + n13) = te_m p4 24 ∧ v (13 + n13) = te_m p4 16 ∧ v (14 + n13) = te_m p4 8 ∧ v (15 + n13) = te_m p4 0 ∧ v (16 + n13) = te_m p5 24 ∧ v (17 + n13) = te_m p5 16 ∧ v (18 + n13) = te_m p5 8 ∧ v (19 + n13) = te_m p5 0) ∧ r = some (.int (nI (20 + n13)))) ∨ (380 < n13 ∧ tt_at pl1 h0 7 (.int 1) ∧ tt_at pl1 h0 13 (.int (nI n13)) ∧ tt_ic pl1 at9 u ∧ r = some (.int 0))))) (tt_OX (fun _ _ _ => False)) := by
  refine jj_start hl (by decide) jw_650770dc87 (jj_le rfl) ?_
  intro p e s m args below meth c9 A hargs hA C hex hmn
  have hfr := tt_fr.refl (K := Kd) (WS := [(1, 7), (1, 13)]) pl0
  have hfa := tt_fa.refl (K := Kd) (WA := [10]) pl0
  have lp1 := tt_lo p1
  have up1 := tt_hi p1
  have lp2 := tt_lo p2
  have up2 := tt_hi p2
  have lp3 := tt_lo p3
  have up3 := tt_hi p3
  have lp4 := tt_lo p4
  have up4 := tt_hi p4
  have lp5 := tt_lo p5
  have up5 := tt_hi p5
  refine jj_aload_n C dX11_appendText_0 rfl ?_
  refine tt_getF C hok jk_12 13 (by decide) jw_fabf3762b1 (t := (0, 0, 400)) hk0 (by decide) rfl rfl hs13 dX11_appendText_1 ?_
  refine jj_bipush (v := 20) C dX11_appendText_4 (by decide) ?_
  refine jj_iadd (v := nI (20 + n13)) C dX11_appendText_6 (rl_addR (kn := 20) (by decide) (by omega)) ?_
  refine jj_sipush (v := 400) C dX11_appendText_7 (by decide) ?_
  refine jj_icmp_le (tgt := 19) C dX11_appendText_10 (by decide) (fun c_1 => ?_) (fun c_1 => ?_)
  · have z_c_1 := jc_le (a := ((20 + n13 : Nat) : Int)) (b := 400) c_1 (rl_ti (by omega)) (by decide)
    refine jj_aload_n C dX11_appendText_19 rfl ?_
    refine jj_iconst (v := 0) C dX11_appendText_20 (by decide) ?_
    refine rl_put C hok jk_12 7 (by decide) jw_0a65e3738e (t := (0, (-2147483648), 2147483647)) hk0 (by decide) rfl rfl rfl (tt_ia (0 : Int32)) rfl rfl dX11_appendText_21 (fun pl_2 hok_3 tr hn tl => ?_)
    replace hs12 := tr _ _ _ (Or.inr (by decide)) hs12
    replace hs13 := tr _ _ _ (Or.inr (by decide)) hs13
    have hf_4 := hn
    replace hm := hm.put tr (by decide)
    replace hfr := hfr.put hk0 tr (by decide)
    replace hu := tl _ _ hu
    replace hfa := hfa.all tl
    refine jj_aload_n C dX11_appendText_24 rfl ?_
    refine jj_iload_n C dX11_appendText_25 rfl ?_
    obtain ⟨qc, gs, hqc⟩ := tt_recv (cx := []) hok_3 hk0 (by decide) rfl
    refine tt_callV (rest := []) C (re_bring hl D cA ak n13 at9 u p1 hk0 hkw hka hkt hki hkf hkp (by first | omega | decide) (by first | omega | decide) hk9 hok_3 hm hs12 hu hs13) [] [] rfl rfl (by decide) (by decide) (by decide) qc hqc rfl rfl jw_02ef8376e2 jw_4078efbb51 jw_c999e79975 jw_f96c99f44d jw_6cee2b55dc jn_X11_bring rfl (jj_le rfl) (jj_le rfl) (jj_le rfl) (jj_le rfl) (jj_le rfl) dX11_appendText_26 rfl (fun _ _ _ hX => hX.elim) (fun rx pl_5 r O_9 => ?_)
    obtain ⟨rfl, hok_6, hr_7, ha_8, hR_10⟩ := O_9
    replace hs12 := hr_7.at hk0 (by decide) (by decide) hs12
    replace hf_4 := hr_7.at hk0 (by decide) (by decide) hf_4
    replace hm := hm.fr hr_7 hk0 rfl
    replace hfr := hfr.trans (hr_7.sub (by decide))
    replace hfa := hfa.trans (ha_8.sub (by decide))
    obtain ⟨hf_11, ⟨u_12, hu_13, hk_14, hb_15, hb_16, hb_17, hb_18⟩, rfl⟩ := hR_10
    refine jj_aload_n C dX11_appendText_29 rfl ?_
    refine jj_iload_n C dX11_appendText_30 rfl ?_
    obtain ⟨qc, gs, hqc⟩ := tt_recv (cx := []) hok_6 hk0 (by decide) rfl
    refine tt_callV (rest := []) C (re_bring hl D cA ak (4 + n13) at9 u_12 p2 hk0 hkw hka hkt hki hkf hkp (by first | omega | decide) (by first | omega | decide) hk9 hok_6 hm hs12 hu_13 hf_11) [] [] rfl rfl (by decide) (by decide) (by decide) qc hqc rfl rfl jw_02ef8376e2 jw_4078efbb51 jw_c999e79975 jw_f96c99f44d jw_6cee2b55dc jn_X11_bring rfl (jj_le rfl) (jj_le rfl) (jj_le rfl) (jj_le rfl) (jj_le rfl) dX11_appendText_31 rfl (fun _ _ _ hX => hX.elim) (fun rx pl_19 r O_23 => ?_)
    obtain ⟨rfl, hok_20, hr_21, ha_22, hR_24⟩ := O_23
    replace hs12 := hr_21.at hk0 (by decide) (by decide) hs12
    replace hf_4 := hr_21.at hk0 (by decide) (by decide) hf_4
    replace hm := hm.fr hr_21 hk0 rfl
    replace hfr := hfr.trans (hr_21.sub (by decide))
    replace hfa := hfa.trans (ha_22.sub (by decide))
    obtain ⟨hf_25, ⟨u_26, hu_27, hk_28, hb_29, hb_30, hb_31, hb_32⟩, rfl⟩ := hR_24
    rw [show 4 + (4 + n13) = 8 + n13 from by omega] at hf_25
    refine jj_aload_n C dX11_appendText_34 rfl ?_
    refine jj_iload_n C dX11_appendText_35 rfl ?_
    obtain ⟨qc, gs, hqc⟩ := tt_recv (cx := []) hok_20 hk0 (by decide) rfl
    refine tt_callV (rest := []) C (re_bring hl D cA ak (8 + n13) at9 u_26 p3 hk0 hkw hka hkt hki hkf hkp (by first | omega | decide) (by first | omega | decide) hk9 hok_20 hm hs12 hu_27 hf_25) [] [] rfl rfl (by decide) (by decide) (by decide) qc hqc rfl rfl jw_02ef8376e2 jw_4078efbb51 jw_c999e79975 jw_f96c99f44d jw_6cee2b55dc jn_X11_bring rfl (jj_le rfl) (jj_le rfl) (jj_le rfl) (jj_le rfl) (jj_le rfl) dX11_appendText_36 rfl (fun _ _ _ hX => hX.elim) (fun rx pl_33 r O_37 => ?_)
    obtain ⟨rfl, hok_34, hr_35, ha_36, hR_38⟩ := O_37
    replace hs12 := hr_35.at hk0 (by decide) (by decide) hs12
    replace hf_4 := hr_35.at hk0 (by decide) (by decide) hf_4
    replace hm := hm.fr hr_35 hk0 rfl
    replace hfr := hfr.trans (hr_35.sub (by decide))
    replace hfa := hfa.trans (ha_36.sub (by decide))
    obtain ⟨hf_39, ⟨u_40, hu_41, hk_42, hb_43, hb_44, hb_45, hb_46⟩, rfl⟩ := hR_38
    rw [show 4 + (8 + n13) = 12 + n13 from by omega] at hf_39
    refine jj_aload_n C dX11_appendText_39 rfl ?_
    refine jj_iload C dX11_appendText_40 rfl ?_
    obtain ⟨qc, gs, hqc⟩ := tt_recv (cx := []) hok_34 hk0 (by decide) rfl
    refine tt_callV (rest := []) C (re_bring hl D cA ak (12 + n13) at9 u_40 p4 hk0 hkw hka hkt hki hkf hkp (by first | omega | decide) (by first | omega | decide) hk9 hok_34 hm hs12 hu_41 hf_39) [] [] rfl rfl (by decide) (by decide) (by decide) qc hqc rfl rfl jw_02ef8376e2 jw_4078efbb51 jw_c999e79975 jw_f96c99f44d jw_6cee2b55dc jn_X11_bring rfl (jj_le rfl) (jj_le rfl) (jj_le rfl) (jj_le rfl) (jj_le rfl) dX11_appendText_42 rfl (fun _ _ _ hX => hX.elim) (fun rx pl_47 r O_51 => ?_)
    obtain ⟨rfl, hok_48, hr_49, ha_50, hR_52⟩ := O_51
    replace hs12 := hr_49.at hk0 (by decide) (by decide) hs12
    replace hf_4 := hr_49.at hk0 (by decide) (by decide) hf_4
    replace hm := hm.fr hr_49 hk0 rfl
    replace hfr := hfr.trans (hr_49.sub (by decide))
    replace hfa := hfa.trans (ha_50.sub (by decide))
    obtain ⟨hf_53, ⟨u_54, hu_55, hk_56, hb_57, hb_58, hb_59, hb_60⟩, rfl⟩ := hR_52
    rw [show 4 + (12 + n13) = 16 + n13 from by omega] at hf_53
    refine jj_aload_n C dX11_appendText_45 rfl ?_
    refine jj_iload C dX11_appendText_46 rfl ?_
    obtain ⟨qc, gs, hqc⟩ := tt_recv (cx := []) hok_48 hk0 (by decide) rfl
    refine tt_callV (rest := []) C (re_bring hl D cA ak (16 + n13) at9 u_54 p5 hk0 hkw hka hkt hki hkf hkp (by first | omega | decide) (by first | omega | decide) hk9 hok_48 hm hs12 hu_55 hf_53) [] [] rfl rfl (by decide) (by decide) (by decide) qc hqc rfl rfl jw_02ef8376e2 jw_4078efbb51 jw_c999e79975 jw_f96c99f44d jw_6cee2b55dc jn_X11_bring rfl (jj_le rfl) (jj_le rfl) (jj_le rfl) (jj_le rfl) (jj_le rfl) dX11_appendText_48 rfl (fun _ _ _ hX => hX.elim) (fun rx pl_61 r O_65 => ?_)
    obtain ⟨rfl, hok_62, hr_63, ha_64, hR_66⟩ := O_65
    replace hs12 := hr_63.at hk0 (by decide) (by decide) hs12
    replace hf_4 := hr_63.at hk0 (by decide) (by decide) hf_4
    replace hm := hm.fr hr_63 hk0 rfl
    replace hfr := hfr.trans (hr_63.sub (by decide))
    replace hfa := hfa.trans (ha_64.sub (by decide))
    obtain ⟨hf_67, ⟨u_68, hu_69, hk_70, hb_71, hb_72, hb_73, hb_74⟩, rfl⟩ := hR_66
    rw [show 4 + (16 + n13) = 20 + n13 from by omega] at hf_67
    refine jj_aload_n C dX11_appendText_51 rfl ?_
    refine tt_getF C hok_62 jk_12 13 (by decide) jw_fabf3762b1 (t := (0, 0, 400)) hk0 (by decide) rfl rfl hf_67 dX11_appendText_52 ?_
    exact jj_iret C ⟨[], pl_61, rfl, rfl, hok_62, hfr, hfa, (Or.inl (by have e9 : 20 + n13 = 20 + n13 := (by omega); exact ⟨by omega, hf_4, (by rw [← e9]; exact hf_67), ⟨_, hu_69, (fun k hk => (hk_70 k (by omega)).trans ((hk_56 k (by omega)).trans ((hk_42 k (by omega)).trans ((hk_28 k (by omega)).trans (hk_14 k (by omega)))))), ((hk_70 _ (by omega)).trans ((hk_56 _ (by omega)).trans ((hk_42 _ (by omega)).trans ((hk_28 _ (by omega)).trans hb_15)))), ((hk_70 _ (by omega)).trans ((hk_56 _ (by omega)).trans ((hk_42 _ (by omega)).trans ((hk_28 _ (by omega)).trans hb_16)))), ((hk_70 _ (by omega)).trans ((hk_56 _ (by omega)).trans ((hk_42 _ (by omega)).trans ((hk_28 _ (by omega)).trans hb_17)))), ((hk_70 _ (by omega)).trans ((hk_56 _ (by omega)).trans ((hk_42 _ (by omega)).trans ((hk_28 _ (by omega)).trans hb_18)))), (by rw [show 4 + n13 = (4 + n13) from by omega]; exact ((hk_70 _ (by omega)).trans ((hk_56 _ (by omega)).trans ((hk_42 _ (by omega)).trans hb_29)))), (by rw [show 5 + n13 = 1 + (4 + n13) from by omega]; exact ((hk_70 _ (by omega)).trans ((hk_56 _ (by omega)).trans ((hk_42 _ (by omega)).trans hb_30)))), (by rw [show 6 + n13 = 2 + (4 + n13) from by omega]; exact ((hk_70 _ (by omega)).trans ((hk_56 _ (by omega)).trans ((hk_42 _ (by omega)).trans hb_31)))), (by rw [show 7 + n13 = 3 + (4 + n13) from by omega]; exact ((hk_70 _ (by omega)).trans ((hk_56 _ (by omega)).trans ((hk_42 _ (by omega)).trans hb_32)))), (by rw [show 8 + n13 = (8 + n13) from by omega]; exact ((hk_70 _ (by omega)).trans ((hk_56 _ (by omega)).trans hb_43))), (by rw [show 9 + n13 = 1 + (8 + n13) from by omega]; exact ((hk_70 _ (by omega)).trans ((hk_56 _ (by omega)).trans hb_44))), (by rw [show 10 + n13 = 2 + (8 + n13) from by omega]; exact ((hk_70 _ (by omega)).trans ((hk_56 _ (by omega)).trans hb_45))), (by rw [show 11 + n13 = 3 + (8 + n13) from by omega]; exact ((hk_70 _ (by omega)).trans ((hk_56 _ (by omega)).trans hb_46))), (by rw [show 12 + n13 = (12 + n13) from by omega]; exact ((hk_70 _ (by omega)).trans hb_57)), (by rw [show 13 + n13 = 1 + (12 + n13) from by omega]; exact ((hk_70 _ (by omega)).trans hb_58)), (by rw [show 14 + n13 = 2 + (12 + n13) from by omega]; exact ((hk_70 _ (by omega)).trans hb_59)), (by rw [show 15 + n13 = 3 + (12 + n13) from by omega]; exact ((hk_70 _ (by omega)).trans hb_60)), (by rw [show 16 + n13 = (16 + n13) from by omega]; exact hb_71), (by rw [show 17 + n13 = 1 + (16 + n13) from by omega]; exact hb_72), (by rw [show 18 + n13 = 2 + (16 + n13) from by omega]; exact hb_73), (by rw [show 19 + n13 = 3 + (16 + n13) from by omega]; exact hb_74)⟩, (by rw [← e9])⟩))⟩ dX11_appendText_55 (jj_le rfl) (jj_le rfl)
  · have z_c_1 := jc_nle (a := ((20 + n13 : Nat) : Int)) (b := 400) c_1 (rl_ti (by omega)) (by decide)
    refine jj_aload_n C dX11_appendText_13 rfl ?_
    refine jj_iconst (v := 1) C dX11_appendText_14 (by decide) ?_
    obtain ⟨qc, gs, hqc⟩ := tt_recv (cx := []) hok hk0 (by decide) rfl
    refine tt_callV (rest := []) C (rs_no1 hl D cA ak hk0 hkw hka hkt hki hkf hkp hok hm) [] [] rfl rfl (by decide) (by decide) (by decide) qc hqc rfl rfl jw_d1b9c9bc08 jw_0a7e47b48e jw_ae3979bf43 jw_f96c99f44d jw_db0108e47b jn_X11_no rfl (jj_le rfl) (jj_le rfl) (jj_le rfl) (jj_le rfl) (jj_le rfl) dX11_appendText_15 rfl (fun _ _ _ hX => hX.elim) (fun rx pl_75 r O_79 => ?_)
    obtain ⟨rfl, hok_76, hr_77, ha_78, hR_80⟩ := O_79
    replace hs12 := hr_77.at hk0 (by decide) (by decide) hs12
    replace hs13 := hr_77.at hk0 (by decide) (by decide) hs13
    replace hu := ha_78.at hk9 (by decide) (by decide) hu
    replace hm := hm.fr hr_77 hk0 rfl
    replace hfr := hfr.trans (hr_77.sub (by decide))
    replace hfa := hfa.trans (ha_78.sub (by decide))
    obtain ⟨hf_81, rfl⟩ := hR_80
    exact jj_iret C ⟨[], pl_75, rfl, rfl, hok_76, hfr, hfa, (Or.inr ⟨by omega, hf_81, hs13, hu, rfl⟩)⟩ dX11_appendText_18 (jj_le rfl) (jj_le rfl)
