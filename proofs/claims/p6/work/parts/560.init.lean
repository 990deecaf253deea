theorem jw_799315d096 : Cond.methodLink RX11 1 objectInit ∈ jj_G := jj_t6 (List.mem_of_getElem? (i := 149) (by decide +kernel)) rfl
theorem jd_12 : ∀ j, j < 25 → defaultValue (tyX11 j) = vp_V [.null, .null, .null, .null, .null, .null, .int 0, .int 0, .long 0, .long 0, .null, .null, .null, .int 0, .int 0, .int 0, .int 0, .int 0, .int 0, .int 0, .int 0, .null, .null, .null, .int 0] j := by
  intro j hj
  match j, hj with
  | 0, _ => rfl
  | 1, _ => rfl
  | 2, _ => rfl
  | 3, _ => rfl
  | 4, _ => rfl
  | 5, _ => rfl
  | 6, _ => rfl
  | 7, _ => rfl
  | 8, _ => rfl
  | 9, _ => rfl
  | 10, _ => rfl
  | 11, _ => rfl
  | 12, _ => rfl
  | 13, _ => rfl
  | 14, _ => rfl
  | 15, _ => rfl
  | 16, _ => rfl
  | 17, _ => rfl
  | 18, _ => rfl
  | 19, _ => rfl
  | 20, _ => rfl
  | 21, _ => rfl
  | 22, _ => rfl
  | 23, _ => rfl
  | 24, _ => rfl
  | n + 25, hj => exact absurd hj (by omega)
theorem jw_6307cb4fd2 : Cond.arrayClass .boolean ∈ jj_G := jj_t6 (List.mem_of_getElem? (i := 230) (by decide +kernel)) rfl
theorem jw_db21bb81c3 : Cond.code yX11_init cX11_init 1 none ∈ jj_G := jj_t6 (List.mem_of_getElem? (i := 148) (by decide +kernel)) rfl
theorem jw_17924af022 : Cond.classLink RL 8 RX10 ∈ jj_G := jj_t1 (List.mem_of_getElem? (i := 27) (by decide +kernel)) rfl
theorem jw_9ac8912626 : Cond.instantiable RX10 10 ∈ jj_G := jj_t1 (List.mem_of_getElem? (i := 28) (by decide +kernel)) rfl
theorem jw_b49e6c4ac3 : Cond.methodLink RL 116 yX10_init ∈ jj_G := jj_t1 (List.mem_of_getElem? (i := 29) (by decide +kernel)) rfl
theorem jw_22323451ff : Cond.instanceMethod yX10_init ∈ jj_G := jj_t1 (List.mem_of_getElem? (i := 30) (by decide +kernel)) rfl
theorem jn_X10_init : jj_N yX10_init 0 := by unfold jj_N; decide +kernel
theorem jw_1106c1129e : Cond.classLink RL 117 RX11 ∈ jj_G := jj_t6 (List.mem_of_getElem? (i := 144) (by decide +kernel)) rfl
theorem jw_9c731ad32f : Cond.instantiable RX11 25 ∈ jj_G := jj_t6 (List.mem_of_getElem? (i := 145) (by decide +kernel)) rfl
theorem jw_757ba84672 : Cond.methodLink RL 119 yX11_init ∈ jj_G := jj_t6 (List.mem_of_getElem? (i := 146) (by decide +kernel)) rfl
theorem jw_079017e2b9 : Cond.instanceMethod yX11_init ∈ jj_G := jj_t6 (List.mem_of_getElem? (i := 147) (by decide +kernel)) rfl
theorem jn_X11_init : jj_N yX11_init 0 := by unfold jj_N; decide +kernel
theorem jw_41313426ed : Cond.arrayClass .double ∈ jj_G := jj_t9 (List.mem_of_getElem? (i := 56) (by decide +kernel)) rfl
set_option maxHeartbeats 4000000 in
set_option maxRecDepth 100000 in
theorem ct_X11_lay_i1 {l : Launch} (hl : l.stackTraces = false) (D : va_G) (cA : Nat → ClassId) (ak : (Nat → Nat) × (Nat → Nat)) (h0 : Nat) : jj_M l D cA ak yX11_lay (.code yX11_lay cX11_lay 2 none) 0 0 0 0 [(h0, .inl (cA 2, 334, .inr (.inl (fun _ => 0))))] [.ref h0] (fun (w : va_W) (r : Option Value) => (w = [(h0, .inl (cA 2, 334, .inr (.inl (vp_updL (vp_updL (fun _ => 0) 0 1) 4 100))))] ∧ r = none)) jj_noX := by
  refine jj_start hl (by decide) jw_62f637beca (jj_le rfl) ?_
  intro p e s m args below meth c A hargs hA C hex hmn
  refine jj_iconst (v := 0) C dX11_lay_0 (by decide) ?_
  refine jj_istore_n C dX11_lay_1 (by decide) rfl ?_
  have hL1 : ∀ (n i : Nat), i + n = 334 → jj_J p l e (jj_rm 0 0 0 0) s m args below meth c 2 A (vx_MQ below (jj_q D A (fun (w : va_W) (r : Option Value) => (w = [(h0, .inl (cA 2, 334, .inr (.inl (vp_updL (vp_updL (fun _ => 0) 0 1) 4 100))))] ∧ r = none))) (jj_x D A jj_noX) args s 0 0 A) (jj_X D A [(h0, .inl (cA 2, 334, .inr (.inl (fun _ => 0))))]) 0 0 2 [(1, .int (nI i)), (0, .ref h0)] [] := by
    intro n
    induction n with
    | zero =>
      intro i hin
      obtain rfl : i = 334 := by omega
      show jj_J p l e (jj_rm 0 0 0 0) s m args below meth c 2 A (vx_MQ below (jj_q D A (fun (w : va_W) (r : Option Value) => (w = [(h0, .inl (cA 2, 334, .inr (.inl (vp_updL (vp_updL (fun _ => 0) 0 1) 4 100))))] ∧ r = none))) (jj_x D A jj_noX) args s 0 0 A) (jj_X D A [(h0, .inl (cA 2, 334, .inr (.inl (fun _ => 0))))]) 0 0 2 [(1, .int 334), (0, .ref h0)] []
      refine jj_iload_n C dX11_lay_2 rfl ?_
      refine jj_sipush (v := 334) C dX11_lay_3 (by decide) ?_
      refine jj_icmp_geT (tgt := 19) C dX11_lay_6 (by decide) (by decide) ?_
      refine jj_aload_n C dX11_lay_19 rfl ?_
      refine jj_iconst (v := 0) C dX11_lay_20 (by decide) ?_
      refine jj_lconst (v := 1) C dX11_lay_21 (by decide) ?_
      refine jj_last C 0 rfl (vp_in_iff.mpr (by decide)) (g := (vp_updL (fun _ => 0) 0 1)) rfl rfl dX11_lay_22 ?_
      refine jj_aload_n C dX11_lay_23 rfl ?_
      refine jj_iconst (v := 4) C dX11_lay_24 (by decide) ?_
      refine jj_ldc2 (v := 100) C dX11_lay_25 jw_0cface3231 ?_
      refine jj_last C 0 rfl (vp_in_iff.mpr (by decide)) (g := (vp_updL (vp_updL (fun _ => 0) 0 1) 4 100)) rfl rfl dX11_lay_28 ?_
      exact jj_vret C ⟨rfl, rfl⟩ dX11_lay_29 (jj_le rfl) (jj_le rfl)
    | succ n ih =>
      intro i hin
      refine jj_iload_n C dX11_lay_2 rfl ?_
      refine jj_sipush (v := 334) C dX11_lay_3 (by decide) ?_
      refine jj_icmp_geF (tgt := 19) C dX11_lay_6 (by decide) (jj_ixF (i := i) (N := 334) (by omega) (by decide) (by decide)) ?_
      refine jj_aload_n C dX11_lay_9 rfl ?_
      refine jj_iload_n C dX11_lay_10 rfl ?_
      refine jj_lconst (v := 0) C dX11_lay_11 (by decide) ?_
      refine jj_last C 0 rfl (vp_in_nI (by omega) (by decide)) (g := (vp_updL (fun _ => 0) ((nI i)).toNatClampNeg 0)) rfl rfl dX11_lay_12 ?_
      refine jj_iinc (v := nI (i + 1)) C dX11_lay_13 rfl (jj_ni i) (by decide) rfl ?_
      refine jj_goto (tgt := 2) C dX11_lay_16 (by decide) ?_
      rw [jj_z0]
      exact ih (i + 1) (by omega)
  exact hL1 334 0 rfl

set_option maxHeartbeats 4000000 in
set_option maxRecDepth 100000 in
theorem ct_X11_init_i1 {l : Launch} (hl : l.stackTraces = false) (D : va_G) (cA : Nat → ClassId) (ak : (Nat → Nat) × (Nat → Nat)) (h0 : Nat) : jj_I l D cA ak yX11_init (.code yX11_init cX11_init 1 none) 1 21 12 7846 [(h0, .inr (12, [.null, .null, .null, .null, .null, .null, .int 0, .int 0, .long 0, .long 0, .null, .null, .null, .int 0, .int 0, .int 0, .int 0, .int 0, .int 0, .int 0, .int 0, .null, .null, .null, .int 0]))] [.ref h0] (fun (w : va_W) (r : Option Value) => (∃ q_1 q_2 q_3 q_4 q_5 q_6 q_7 q_8 q_9 q_10 q_11 q_12 : Nat, w = [(h0, .inr (12, [.ref q_1, .ref q_2, .ref q_3, .ref q_4, .ref q_5, .ref q_6, .int 0, .int 0, .long 0, .long 0, .ref q_7, .ref q_8, .ref q_9, .int 0, .int 0, .int 0, .int 0, .int 0, .int (-1), .int 0, .int 0, .ref q_10, .ref q_11, .ref q_12, .int 0])), (q_2, .inl (cA 2, 334, .inr (.inl (fun _ => 0)))), (q_3, .inl (cA 2, 334, .inr (.inl (fun _ => 0)))), (q_4, .inl (cA 2, 334, .inr (.inl (fun _ => 0)))), (q_5, .inl (cA 2, 334, .inr (.inl (fun _ => 0)))), (q_6, .inl (cA 2, 3340, .inr (.inl (fun _ => 0)))), (q_7, .inl (cA 2, 12, .inr (.inl (fun _ => 0)))), (q_8, .inl (cA 3, 12, .inl (fun _ => 0))), (q_9, .inl (cA 0, 400, .inl (fun _ => 0))), (q_10, .inl (cA 2, 6, .inr (.inl (fun _ => 0)))), (q_11, .inl (cA 2, 6, .inr (.inl (fun _ => 0)))), (q_12, .inl (cA 0, 2400, .inl (fun _ => 0))), (q_1, .inl (cA 2, 334, .inr (.inl (vp_updL (vp_updL (fun _ => 0) 0 1) 4 100))))] ∧ r = none)) := by
  refine jj_startI hl (by decide) jw_db21bb81c3 (jj_le rfl) ?_
  intro p e s m args below meth c A hargs hA C hmn
  refine jj_aload_n C dX11_init_0 rfl ?_
  refine jj_objInit C jw_799315d096 jw_449f795db0 jw_679af8422a (jj_le rfl) (jj_le rfl) dX11_init_1 ?_
  refine jj_aload_n C dX11_init_4 rfl ?_
  refine jj_sipush (v := 334) C dX11_init_5 (by decide) ?_
  refine jj_newa (atype := .long) (fty := .long) (N' := 334) C 2 rfl rfl jw_2603678b77 (a0 := (334, .inr (.inl (fun _ => 0)))) (fun _ => rfl) (by decide) (by decide) (jj_le rfl) (jj_le rfl) (jj_le rfl) dX11_init_8 (fun q_1 => ?_)
  refine jj_apd rfl ?_
  refine jj_putF C jk_12 0 (by decide) jw_34eaf3ba8b rfl hmn rfl 0 rfl rfl rfl rfl rfl dX11_init_10 ?_
  refine jj_aload_n C dX11_init_13 rfl ?_
  refine jj_sipush (v := 334) C dX11_init_14 (by decide) ?_
  refine jj_newa (atype := .long) (fty := .long) (N' := 334) C 2 rfl rfl jw_2603678b77 (a0 := (334, .inr (.inl (fun _ => 0)))) (fun _ => rfl) (by decide) (by decide) (jj_le rfl) (jj_le rfl) (jj_le rfl) dX11_init_17 (fun q_2 => ?_)
  refine jj_apd rfl ?_
  refine jj_putF C jk_12 1 (by decide) jw_25762f0b98 rfl hmn rfl 0 rfl rfl rfl rfl rfl dX11_init_19 ?_
  refine jj_aload_n C dX11_init_22 rfl ?_
  refine jj_sipush (v := 334) C dX11_init_23 (by decide) ?_
  refine jj_newa (atype := .long) (fty := .long) (N' := 334) C 2 rfl rfl jw_2603678b77 (a0 := (334, .inr (.inl (fun _ => 0)))) (fun _ => rfl) (by decide) (by decide) (jj_le rfl) (jj_le rfl) (jj_le rfl) dX11_init_26 (fun q_3 => ?_)
  refine jj_apd rfl ?_
  refine jj_putF C jk_12 2 (by decide) jw_bca200ef97 rfl hmn rfl 0 rfl rfl rfl rfl rfl dX11_init_28 ?_
  refine jj_aload_n C dX11_init_31 rfl ?_
  refine jj_sipush (v := 334) C dX11_init_32 (by decide) ?_
  refine jj_newa (atype := .long) (fty := .long) (N' := 334) C 2 rfl rfl jw_2603678b77 (a0 := (334, .inr (.inl (fun _ => 0)))) (fun _ => rfl) (by decide) (by decide) (jj_le rfl) (jj_le rfl) (jj_le rfl) dX11_init_35 (fun q_4 => ?_)
  refine jj_apd rfl ?_
  refine jj_putF C jk_12 3 (by decide) jw_bbd1efe6b1 rfl hmn rfl 0 rfl rfl rfl rfl rfl dX11_init_37 ?_
  refine jj_aload_n C dX11_init_40 rfl ?_
  refine jj_sipush (v := 334) C dX11_init_41 (by decide) ?_
  refine jj_newa (atype := .long) (fty := .long) (N' := 334) C 2 rfl rfl jw_2603678b77 (a0 := (334, .inr (.inl (fun _ => 0)))) (fun _ => rfl) (by decide) (by decide) (jj_le rfl) (jj_le rfl) (jj_le rfl) dX11_init_44 (fun q_5 => ?_)
  refine jj_apd rfl ?_
  refine jj_putF C jk_12 4 (by decide) jw_69cfdf3f6e rfl hmn rfl 0 rfl rfl rfl rfl rfl dX11_init_46 ?_
  refine jj_aload_n C dX11_init_49 rfl ?_
  refine jj_sipush (v := 3340) C dX11_init_50 (by decide) ?_
  refine jj_newa (atype := .long) (fty := .long) (N' := 3340) C 2 rfl rfl jw_2603678b77 (a0 := (3340, .inr (.inl (fun _ => 0)))) (fun _ => rfl) (by decide) (by decide) (jj_le rfl) (jj_le rfl) (jj_le rfl) dX11_init_53 (fun q_6 => ?_)
  refine jj_apd rfl ?_
  refine jj_putF C jk_12 5 (by decide) jw_99581c8f4d rfl hmn rfl 0 rfl rfl rfl rfl rfl dX11_init_55 ?_
  refine jj_aload_n C dX11_init_58 rfl ?_
  refine jj_bipush (v := 12) C dX11_init_59 (by decide) ?_
  refine jj_newa (atype := .long) (fty := .long) (N' := 12) C 2 rfl rfl jw_2603678b77 (a0 := (12, .inr (.inl (fun _ => 0)))) (fun _ => rfl) (by decide) (by decide) (jj_le rfl) (jj_le rfl) (jj_le rfl) dX11_init_61 (fun q_7 => ?_)
  refine jj_apd rfl ?_
  refine jj_putF C jk_12 10 (by decide) jw_72d4a0d46a rfl hmn rfl 0 rfl rfl rfl rfl rfl dX11_init_63 ?_
  refine jj_aload_n C dX11_init_66 rfl ?_
  refine jj_bipush (v := 12) C dX11_init_67 (by decide) ?_
  refine jj_newa (atype := .boolean) (fty := .boolean) (N' := 12) C 3 rfl rfl jw_6307cb4fd2 (a0 := (12, .inl (fun _ => 0))) (fun _ => rfl) (by decide) (by decide) (jj_le rfl) (jj_le rfl) (jj_le rfl) dX11_init_69 (fun q_8 => ?_)
  refine jj_apd rfl ?_
  refine jj_putF C jk_12 11 (by decide) jw_dca952cae2 rfl hmn rfl 0 rfl rfl rfl rfl rfl dX11_init_71 ?_
  refine jj_aload_n C dX11_init_74 rfl ?_
  refine jj_sipush (v := 400) C dX11_init_75 (by decide) ?_
  refine jj_newa (atype := .byte) (fty := .byte) (N' := 400) C 0 rfl rfl jw_2871d6408a (a0 := (400, .inl (fun _ => 0))) (fun _ => rfl) (by decide) (by decide) (jj_le rfl) (jj_le rfl) (jj_le rfl) dX11_init_78 (fun q_9 => ?_)
  refine jj_apd rfl ?_
  refine jj_putF C jk_12 12 (by decide) jw_a4b356c796 rfl hmn rfl 0 rfl rfl rfl rfl rfl dX11_init_80 ?_
  refine jj_aload_n C dX11_init_83 rfl ?_
  refine jj_iconst (v := (-1)) C dX11_init_84 (by decide) ?_
  refine jj_put C jk_12 18 (by decide) jw_a8ef26b797 rfl 0 rfl rfl rfl rfl rfl dX11_init_85 ?_
  refine jj_aload_n C dX11_init_88 rfl ?_
  refine jj_bipush (v := 6) C dX11_init_89 (by decide) ?_
  refine jj_newa (atype := .long) (fty := .long) (N' := 6) C 2 rfl rfl jw_2603678b77 (a0 := (6, .inr (.inl (fun _ => 0)))) (fun _ => rfl) (by decide) (by decide) (jj_le rfl) (jj_le rfl) (jj_le rfl) dX11_init_91 (fun q_10 => ?_)
  refine jj_apd rfl ?_
  refine jj_putF C jk_12 21 (by decide) jw_0571619de0 rfl hmn rfl 0 rfl rfl rfl rfl rfl dX11_init_93 ?_
  refine jj_aload_n C dX11_init_96 rfl ?_
  refine jj_bipush (v := 6) C dX11_init_97 (by decide) ?_
  refine jj_newa (atype := .long) (fty := .long) (N' := 6) C 2 rfl rfl jw_2603678b77 (a0 := (6, .inr (.inl (fun _ => 0)))) (fun _ => rfl) (by decide) (by decide) (jj_le rfl) (jj_le rfl) (jj_le rfl) dX11_init_99 (fun q_11 => ?_)
  refine jj_apd rfl ?_
  refine jj_putF C jk_12 22 (by decide) jw_24c56b223b rfl hmn rfl 0 rfl rfl rfl rfl rfl dX11_init_101 ?_
  refine jj_aload_n C dX11_init_104 rfl ?_
  refine jj_sipush (v := 2400) C dX11_init_105 (by decide) ?_
  refine jj_newa (atype := .byte) (fty := .byte) (N' := 2400) C 0 rfl rfl jw_2871d6408a (a0 := (2400, .inl (fun _ => 0))) (fun _ => rfl) (by decide) (by decide) (jj_le rfl) (jj_le rfl) (jj_le rfl) dX11_init_108 (fun q_12 => ?_)
  refine jj_apd rfl ?_
  refine jj_putF C jk_12 23 (by decide) jw_31f1259aa4 rfl hmn rfl 0 rfl rfl rfl rfl rfl dX11_init_110 ?_
  refine jj_aload_n C dX11_init_113 rfl ?_
  refine jj_get C jk_12 0 (by decide) jw_34eaf3ba8b 0 rfl rfl dX11_init_114 ?_
  refine jq_callS (rest := []) C (ct_X11_lay_i1 hl D cA ak q_1) [1] [0, 2, 3, 4, 5, 6, 7, 8, 9, 10, 11, 12] rfl rfl (by decide) (by decide) (by decide) jw_3b8ecbdfcd jw_d4f8e1a641 jw_f96c99f44d jw_62f637beca jn_X11_lay rfl (jj_le rfl) (jj_le rfl) (jj_le rfl) (jj_le rfl) (jj_le rfl) dX11_init_117 rfl (fun _ _ hX => hX.elim) (fun w1 r O_14 => ?_)
  obtain ⟨rfl, rfl⟩ := O_14
  refine jj_apd rfl ?_
  exact jj_vretI C ⟨q_1, q_2, q_3, q_4, q_5, q_6, q_7, q_8, q_9, q_10, q_11, q_12, rfl, rfl⟩ dX11_init_120 (jj_le rfl) (jj_le rfl)

theorem rt_Eo {cA : Nat → ClassId} {K : Nat → Nat} {k ci : Nat} {fts : List tt_T} (hk : rt_tk k = (0, ci, 0, fts)) {fs : List Value} (h : tt_all K fts fs) : tt_E cA K (rt_tk k) (.inr (ci, fs)) := by
  rw [hk]
  have h2 := tt_all_at h
  exact ⟨fs, rfl, h2.1, h2.2⟩
theorem rt_El {cA : Nat → ClassId} {K : Nat → Nat} {k t0 n : Nat} {t : tt_T} (hk : rt_tk k = (2, t0, n, [t])) {f : Nat → Int64} (h : ∀ j : Nat, j < n → tt_V K t (.long (f j))) : tt_E cA K (rt_tk k) (.inl (cA t0, n, .inr (.inl f))) := by
  rw [hk]; exact ⟨f, rfl, h⟩
theorem rt_Ei {cA : Nat → ClassId} {K : Nat → Nat} {k t0 n : Nat} {t : tt_T} (hk : rt_tk k = (1, t0, n, [t])) {f : Nat → Int32} (h : ∀ j : Nat, j < n → tt_V K t (.int (f j))) : tt_E cA K (rt_tk k) (.inl (cA t0, n, .inl f)) := by
  rw [hk]; exact ⟨f, rfl, h⟩
theorem rl_distM {A : Nat → Prop} {a b : Nat × va_E} {M w : va_W} (hD : va_D A ((a :: b :: M) ++ w)) : ∀ (i j : Nat) (x : Nat) (e f : va_E), M[i]? = some (x, e) → M[j]? = some (x, f) → i = j := fun i j x e f h1 h2 => by
  have g : ∀ (i : Nat) (e : va_E), M[i]? = some (x, e) → ((a :: b :: M) ++ w)[i + 2]? = some (x, e) := fun i e h => by
    show (M ++ w)[i]? = _
    rw [List.getElem?_append_left (List.getElem?_eq_some_iff.mp h).1]; exact h
  have h3 := hD.1 _ _ _ _ (g i e h1) (g j f h2) rfl
  omega
theorem rw_R0f {C : Int} (hC : 0 ≤ C) {x : Nat → Int64} (h : x = vp_updL (vp_updL (fun _ => 0) 0 1) 4 100) : rl_K 12760000000 C x := by
  subst h
  have z : ∀ i : Nat, i ≠ 0 → i ≠ 4 → ((vp_updL (vp_updL (fun _ => 0) 0 1) 4 100) i).toInt = 0 := fun i a b => by rw [rl_ne b (rl_ne a rfl)]; decide
  have h0 : ((vp_updL (vp_updL (fun _ => 0) 0 1) 4 100) 0).toInt = 1 := by rw [rl_ne (by decide) (rl_eq rfl)]; decide
  have h4 : ((vp_updL (vp_updL (fun _ => 0) 0 1) 4 100) 4).toInt = 100 := by rw [rl_eq rfl]; decide
  refine (rl_FR.head (by omega) ?_ ?_ ?_ (by omega) ⟨z 6 (by decide) (by decide), z 7 (by decide) (by decide), z 8 (by decide) (by decide), z 9 (by decide) (by decide)⟩).K (by omega) hC
  · rw [z 1 (by decide) (by decide)]; omega
  · rw [z 2 (by decide) (by decide)]; omega
  · rw [z 3 (by decide) (by decide)]; omega

set_option maxHeartbeats 4000000 in
set_option maxRecDepth 100000 in
theorem law_R0 (cA : Nat → ClassId) (h1 q_1 q_2 q_3 q_4 q_5 q_6 q_7 q_8 q_9 q_10 q_11 q_12 : Nat) (hd : ∀ (i j : Nat) (x : Nat) (e f : va_E), ([(h1, .inr (12, [.ref q_1, .ref q_2, .ref q_3, .ref q_4, .ref q_5, .ref q_6, .int 0, .int 0, .long 0, .long 0, .ref q_7, .ref q_8, .ref q_9, .int 0, .int 0, .int 0, .int 0, .int 0, .int (-1), .int 0, .int 0, .ref q_10, .ref q_11, .ref q_12, .int 0])), (q_2, .inl (cA 2, 334, .inr (.inl (fun _ => 0)))), (q_3, .inl (cA 2, 334, .inr (.inl (fun _ => 0)))), (q_4, .inl (cA 2, 334, .inr (.inl (fun _ => 0)))), (q_5, .inl (cA 2, 334, .inr (.inl (fun _ => 0)))), (q_6, .inl (cA 2, 3340, .inr (.inl (fun _ => 0)))), (q_7, .inl (cA 2, 12, .inr (.inl (fun _ => 0)))), (q_8, .inl (cA 3, 12, .inl (fun _ => 0))), (q_9, .inl (cA 0, 400, .inl (fun _ => 0))), (q_10, .inl (cA 2, 6, .inr (.inl (fun _ => 0)))), (q_11, .inl (cA 2, 6, .inr (.inl (fun _ => 0)))), (q_12, .inl (cA 0, 2400, .inl (fun _ => 0))), (q_1, .inl (cA 2, 334, .inr (.inl (vp_updL (vp_updL (fun _ => 0) 0 1) 4 100))))] : va_W)[i]? = some (x, e) → ([(h1, .inr (12, [.ref q_1, .ref q_2, .ref q_3, .ref q_4, .ref q_5, .ref q_6, .int 0, .int 0, .long 0, .long 0, .ref q_7, .ref q_8, .ref q_9, .int 0, .int 0, .int 0, .int 0, .int 0, .int (-1), .int 0, .int 0, .ref q_10, .ref q_11, .ref q_12, .int 0])), (q_2, .inl (cA 2, 334, .inr (.inl (fun _ => 0)))), (q_3, .inl (cA 2, 334, .inr (.inl (fun _ => 0)))), (q_4, .inl (cA 2, 334, .inr (.inl (fun _ => 0)))), (q_5, .inl (cA 2, 334, .inr (.inl (fun _ => 0)))), (q_6, .inl (cA 2, 3340, .inr (.inl (fun _ => 0)))), (q_7, .inl (cA 2, 12, .inr (.inl (fun _ => 0)))), (q_8, .inl (cA 3, 12, .inl (fun _ => 0))), (q_9, .inl (cA 0, 400, .inl (fun _ => 0))), (q_10, .inl (cA 2, 6, .inr (.inl (fun _ => 0)))), (q_11, .inl (cA 2, 6, .inr (.inl (fun _ => 0)))), (q_12, .inl (cA 0, 2400, .inl (fun _ => 0))), (q_1, .inl (cA 2, 334, .inr (.inl (vp_updL (vp_updL (fun _ => 0) 0 1) 4 100))))] : va_W)[j]? = some (x, f) → i = j) : rw_R cA 0 h1 0 (fun _ => 0) 0 (-1) [(h1, .inr (12, [.ref q_1, .ref q_2, .ref q_3, .ref q_4, .ref q_5, .ref q_6, .int 0, .int 0, .long 0, .long 0, .ref q_7, .ref q_8, .ref q_9, .int 0, .int 0, .int 0, .int 0, .int 0, .int (-1), .int 0, .int 0, .ref q_10, .ref q_11, .ref q_12, .int 0])), (q_2, .inl (cA 2, 334, .inr (.inl (fun _ => 0)))), (q_3, .inl (cA 2, 334, .inr (.inl (fun _ => 0)))), (q_4, .inl (cA 2, 334, .inr (.inl (fun _ => 0)))), (q_5, .inl (cA 2, 334, .inr (.inl (fun _ => 0)))), (q_6, .inl (cA 2, 3340, .inr (.inl (fun _ => 0)))), (q_7, .inl (cA 2, 12, .inr (.inl (fun _ => 0)))), (q_8, .inl (cA 3, 12, .inl (fun _ => 0))), (q_9, .inl (cA 0, 400, .inl (fun _ => 0))), (q_10, .inl (cA 2, 6, .inr (.inl (fun _ => 0)))), (q_11, .inl (cA 2, 6, .inr (.inl (fun _ => 0)))), (q_12, .inl (cA 0, 2400, .inl (fun _ => 0))), (q_1, .inl (cA 2, 334, .inr (.inl (vp_updL (vp_updL (fun _ => 0) 0 1) 4 100))))] := by
  have k_h1 : rl_K0 [(h1, .inr (12, [.ref q_1, .ref q_2, .ref q_3, .ref q_4, .ref q_5, .ref q_6, .int 0, .int 0, .long 0, .long 0, .ref q_7, .ref q_8, .ref q_9, .int 0, .int 0, .int 0, .int 0, .int 0, .int (-1), .int 0, .int 0, .ref q_10, .ref q_11, .ref q_12, .int 0])), (q_2, .inl (cA 2, 334, .inr (.inl (fun _ => 0)))), (q_3, .inl (cA 2, 334, .inr (.inl (fun _ => 0)))), (q_4, .inl (cA 2, 334, .inr (.inl (fun _ => 0)))), (q_5, .inl (cA 2, 334, .inr (.inl (fun _ => 0)))), (q_6, .inl (cA 2, 3340, .inr (.inl (fun _ => 0)))), (q_7, .inl (cA 2, 12, .inr (.inl (fun _ => 0)))), (q_8, .inl (cA 3, 12, .inl (fun _ => 0))), (q_9, .inl (cA 0, 400, .inl (fun _ => 0))), (q_10, .inl (cA 2, 6, .inr (.inl (fun _ => 0)))), (q_11, .inl (cA 2, 6, .inr (.inl (fun _ => 0)))), (q_12, .inl (cA 0, 2400, .inl (fun _ => 0))), (q_1, .inl (cA 2, 334, .inr (.inl (vp_updL (vp_updL (fun _ => 0) 0 1) 4 100))))] [1, 3, 4, 5, 6, 7, 8, 9, 10, 11, 12, 13, 2] h1 = 1 := rl_K0_at (i := 0) hd rfl rfl
  have k_q_2 : rl_K0 [(h1, .inr (12, [.ref q_1, .ref q_2, .ref q_3, .ref q_4, .ref q_5, .ref q_6, .int 0, .int 0, .long 0, .long 0, .ref q_7, .ref q_8, .ref q_9, .int 0, .int 0, .int 0, .int 0, .int 0, .int (-1), .int 0, .int 0, .ref q_10, .ref q_11, .ref q_12, .int 0])), (q_2, .inl (cA 2, 334, .inr (.inl (fun _ => 0)))), (q_3, .inl (cA 2, 334, .inr (.inl (fun _ => 0)))), (q_4, .inl (cA 2, 334, .inr (.inl (fun _ => 0)))), (q_5, .inl (cA 2, 334, .inr (.inl (fun _ => 0)))), (q_6, .inl (cA 2, 3340, .inr (.inl (fun _ => 0)))), (q_7, .inl (cA 2, 12, .inr (.inl (fun _ => 0)))), (q_8, .inl (cA 3, 12, .inl (fun _ => 0))), (q_9, .inl (cA 0, 400, .inl (fun _ => 0))), (q_10, .inl (cA 2, 6, .inr (.inl (fun _ => 0)))), (q_11, .inl (cA 2, 6, .inr (.inl (fun _ => 0)))), (q_12, .inl (cA 0, 2400, .inl (fun _ => 0))), (q_1, .inl (cA 2, 334, .inr (.inl (vp_updL (vp_updL (fun _ => 0) 0 1) 4 100))))] [1, 3, 4, 5, 6, 7, 8, 9, 10, 11, 12, 13, 2] q_2 = 3 := rl_K0_at (i := 1) hd rfl rfl
  have k_q_3 : rl_K0 [(h1, .inr (12, [.ref q_1, .ref q_2, .ref q_3, .ref q_4, .ref q_5, .ref q_6, .int 0, .int 0, .long 0, .long 0, .ref q_7, .ref q_8, .ref q_9, .int 0, .int 0, .int 0, .int 0, .int 0, .int (-1), .int 0, .int 0, .ref q_10, .ref q_11, .ref q_12, .int 0])), (q_2, .inl (cA 2, 334, .inr (.inl (fun _ => 0)))), (q_3, .inl (cA 2, 334, .inr (.inl (fun _ => 0)))), (q_4, .inl (cA 2, 334, .inr (.inl (fun _ => 0)))), (q_5, .inl (cA 2, 334, .inr (.inl (fun _ => 0)))), (q_6, .inl (cA 2, 3340, .inr (.inl (fun _ => 0)))), (q_7, .inl (cA 2, 12, .inr (.inl (fun _ => 0)))), (q_8, .inl (cA 3, 12, .inl (fun _ => 0))), (q_9, .inl (cA 0, 400, .inl (fun _ => 0))), (q_10, .inl (cA 2, 6, .inr (.inl (fun _ => 0)))), (q_11, .inl (cA 2, 6, .inr (.inl (fun _ => 0)))), (q_12, .inl (cA 0, 2400, .inl (fun _ => 0))), (q_1, .inl (cA 2, 334, .inr (.inl (vp_updL (vp_updL (fun _ => 0) 0 1) 4 100))))] [1, 3, 4, 5, 6, 7, 8, 9, 10, 11, 12, 13, 2] q_3 = 4 := rl_K0_at (i := 2) hd rfl rfl
  have k_q_4 : rl_K0 [(h1, .inr (12, [.ref q_1, .ref q_2, .ref q_3, .ref q_4, .ref q_5, .ref q_6, .int 0, .int 0, .long 0, .long 0, .ref q_7, .ref q_8, .ref q_9, .int 0, .int 0, .int 0, .int 0, .int 0, .int (-1), .int 0, .int 0, .ref q_10, .ref q_11, .ref q_12, .int 0])), (q_2, .inl (cA 2, 334, .inr (.inl (fun _ => 0)))), (q_3, .inl (cA 2, 334, .inr (.inl (fun _ => 0)))), (q_4, .inl (cA 2, 334, .inr (.inl (fun _ => 0)))), (q_5, .inl (cA 2, 334, .inr (.inl (fun _ => 0)))), (q_6, .inl (cA 2, 3340, .inr (.inl (fun _ => 0)))), (q_7, .inl (cA 2, 12, .inr (.inl (fun _ => 0)))), (q_8, .inl (cA 3, 12, .inl (fun _ => 0))), (q_9, .inl (cA 0, 400, .inl (fun _ => 0))), (q_10, .inl (cA 2, 6, .inr (.inl (fun _ => 0)))), (q_11, .inl (cA 2, 6, .inr (.inl (fun _ => 0)))), (q_12, .inl (cA 0, 2400, .inl (fun _ => 0))), (q_1, .inl (cA 2, 334, .inr (.inl (vp_updL (vp_updL (fun _ => 0) 0 1) 4 100))))] [1, 3, 4, 5, 6, 7, 8, 9, 10, 11, 12, 13, 2] q_4 = 5 := rl_K0_at (i := 3) hd rfl rfl
  have k_q_5 : rl_K0 [(h1, .inr (12, [.ref q_1, .ref q_2, .ref q_3, .ref q_4, .ref q_5, .ref q_6, .int 0, .int 0, .long 0, .long 0, .ref q_7, .ref q_8, .ref q_9, .int 0, .int 0, .int 0, .int 0, .int 0, .int (-1), .int 0, .int 0, .ref q_10, .ref q_11, .ref q_12, .int 0])), (q_2, .inl (cA 2, 334, .inr (.inl (fun _ => 0)))), (q_3, .inl (cA 2, 334, .inr (.inl (fun _ => 0)))), (q_4, .inl (cA 2, 334, .inr (.inl (fun _ => 0)))), (q_5, .inl (cA 2, 334, .inr (.inl (fun _ => 0)))), (q_6, .inl (cA 2, 3340, .inr (.inl (fun _ => 0)))), (q_7, .inl (cA 2, 12, .inr (.inl (fun _ => 0)))), (q_8, .inl (cA 3, 12, .inl (fun _ => 0))), (q_9, .inl (cA 0, 400, .inl (fun _ => 0))), (q_10, .inl (cA 2, 6, .inr (.inl (fun _ => 0)))), (q_11, .inl (cA 2, 6, .inr (.inl (fun _ => 0)))), (q_12, .inl (cA 0, 2400, .inl (fun _ => 0))), (q_1, .inl (cA 2, 334, .inr (.inl (vp_updL (vp_updL (fun _ => 0) 0 1) 4 100))))] [1, 3, 4, 5, 6, 7, 8, 9, 10, 11, 12, 13, 2] q_5 = 6 := rl_K0_at (i := 4) hd rfl rfl
  have k_q_6 : rl_K0 [(h1, .inr (12, [.ref q_1, .ref q_2, .ref q_3, .ref q_4, .ref q_5, .ref q_6, .int 0, .int 0, .long 0, .long 0, .ref q_7, .ref q_8, .ref q_9, .int 0, .int 0, .int 0, .int 0, .int 0, .int (-1), .int 0, .int 0, .ref q_10, .ref q_11, .ref q_12, .int 0])), (q_2, .inl (cA 2, 334, .inr (.inl (fun _ => 0)))), (q_3, .inl (cA 2, 334, .inr (.inl (fun _ => 0)))), (q_4, .inl (cA 2, 334, .inr (.inl (fun _ => 0)))), (q_5, .inl (cA 2, 334, .inr (.inl (fun _ => 0)))), (q_6, .inl (cA 2, 3340, .inr (.inl (fun _ => 0)))), (q_7, .inl (cA 2, 12, .inr (.inl (fun _ => 0)))), (q_8, .inl (cA 3, 12, .inl (fun _ => 0))), (q_9, .inl (cA 0, 400, .inl (fun _ => 0))), (q_10, .inl (cA 2, 6, .inr (.inl (fun _ => 0)))), (q_11, .inl (cA 2, 6, .inr (.inl (fun _ => 0)))), (q_12, .inl (cA 0, 2400, .inl (fun _ => 0))), (q_1, .inl (cA 2, 334, .inr (.inl (vp_updL (vp_updL (fun _ => 0) 0 1) 4 100))))] [1, 3, 4, 5, 6, 7, 8, 9, 10, 11, 12, 13, 2] q_6 = 7 := rl_K0_at (i := 5) hd rfl rfl
  have k_q_7 : rl_K0 [(h1, .inr (12, [.ref q_1, .ref q_2, .ref q_3, .ref q_4, .ref q_5, .ref q_6, .int 0, .int 0, .long 0, .long 0, .ref q_7, .ref q_8, .ref q_9, .int 0, .int 0, .int 0, .int 0, .int 0, .int (-1), .int 0, .int 0, .ref q_10, .ref q_11, .ref q_12, .int 0])), (q_2, .inl (cA 2, 334, .inr (.inl (fun _ => 0)))), (q_3, .inl (cA 2, 334, .inr (.inl (fun _ => 0)))), (q_4, .inl (cA 2, 334, .inr (.inl (fun _ => 0)))), (q_5, .inl (cA 2, 334, .inr (.inl (fun _ => 0)))), (q_6, .inl (cA 2, 3340, .inr (.inl (fun _ => 0)))), (q_7, .inl (cA 2, 12, .inr (.inl (fun _ => 0)))), (q_8, .inl (cA 3, 12, .inl (fun _ => 0))), (q_9, .inl (cA 0, 400, .inl (fun _ => 0))), (q_10, .inl (cA 2, 6, .inr (.inl (fun _ => 0)))), (q_11, .inl (cA 2, 6, .inr (.inl (fun _ => 0)))), (q_12, .inl (cA 0, 2400, .inl (fun _ => 0))), (q_1, .inl (cA 2, 334, .inr (.inl (vp_updL (vp_updL (fun _ => 0) 0 1) 4 100))))] [1, 3, 4, 5, 6, 7, 8, 9, 10, 11, 12, 13, 2] q_7 = 8 := rl_K0_at (i := 6) hd rfl rfl
  have k_q_8 : rl_K0 [(h1, .inr (12, [.ref q_1, .ref q_2, .ref q_3, .ref q_4, .ref q_5, .ref q_6, .int 0, .int 0, .long 0, .long 0, .ref q_7, .ref q_8, .ref q_9, .int 0, .int 0, .int 0, .int 0, .int 0, .int (-1), .int 0, .int 0, .ref q_10, .ref q_11, .ref q_12, .int 0])), (q_2, .inl (cA 2, 334, .inr (.inl (fun _ => 0)))), (q_3, .inl (cA 2, 334, .inr (.inl (fun _ => 0)))), (q_4, .inl (cA 2, 334, .inr (.inl (fun _ => 0)))), (q_5, .inl (cA 2, 334, .inr (.inl (fun _ => 0)))), (q_6, .inl (cA 2, 3340, .inr (.inl (fun _ => 0)))), (q_7, .inl (cA 2, 12, .inr (.inl (fun _ => 0)))), (q_8, .inl (cA 3, 12, .inl (fun _ => 0))), (q_9, .inl (cA 0, 400, .inl (fun _ => 0))), (q_10, .inl (cA 2, 6, .inr (.inl (fun _ => 0)))), (q_11, .inl (cA 2, 6, .inr (.inl (fun _ => 0)))), (q_12, .inl (cA 0, 2400, .inl (fun _ => 0))), (q_1, .inl (cA 2, 334, .inr (.inl (vp_updL (vp_updL (fun _ => 0) 0 1) 4 100))))] [1, 3, 4, 5, 6, 7, 8, 9, 10, 11, 12, 13, 2] q_8 = 9 := rl_K0_at (i := 7) hd rfl rfl
  have k_q_9 : rl_K0 [(h1, .inr (12, [.ref q_1, .ref q_2, .ref q_3, .ref q_4, .ref q_5, .ref q_6, .int 0, .int 0, .long 0, .long 0, .ref q_7, .ref q_8, .ref q_9, .int 0, .int 0, .int 0, .int 0, .int 0, .int (-1), .int 0, .int 0, .ref q_10, .ref q_11, .ref q_12, .int 0])), (q_2, .inl (cA 2, 334, .inr (.inl (fun _ => 0)))), (q_3, .inl (cA 2, 334, .inr (.inl (fun _ => 0)))), (q_4, .inl (cA 2, 334, .inr (.inl (fun _ => 0)))), (q_5, .inl (cA 2, 334, .inr (.inl (fun _ => 0)))), (q_6, .inl (cA 2, 3340, .inr (.inl (fun _ => 0)))), (q_7, .inl (cA 2, 12, .inr (.inl (fun _ => 0)))), (q_8, .inl (cA 3, 12, .inl (fun _ => 0))), (q_9, .inl (cA 0, 400, .inl (fun _ => 0))), (q_10, .inl (cA 2, 6, .inr (.inl (fun _ => 0)))), (q_11, .inl (cA 2, 6, .inr (.inl (fun _ => 0)))), (q_12, .inl (cA 0, 2400, .inl (fun _ => 0))), (q_1, .inl (cA 2, 334, .inr (.inl (vp_updL (vp_updL (fun _ => 0) 0 1) 4 100))))] [1, 3, 4, 5, 6, 7, 8, 9, 10, 11, 12, 13, 2] q_9 = 10 := rl_K0_at (i := 8) hd rfl rfl
  have k_q_10 : rl_K0 [(h1, .inr (12, [.ref q_1, .ref q_2, .ref q_3, .ref q_4, .ref q_5, .ref q_6, .int 0, .int 0, .long 0, .long 0, .ref q_7, .ref q_8, .ref q_9, .int 0, .int 0, .int 0, .int 0, .int 0, .int (-1), .int 0, .int 0, .ref q_10, .ref q_11, .ref q_12, .int 0])), (q_2, .inl (cA 2, 334, .inr (.inl (fun _ => 0)))), (q_3, .inl (cA 2, 334, .inr (.inl (fun _ => 0)))), (q_4, .inl (cA 2, 334, .inr (.inl (fun _ => 0)))), (q_5, .inl (cA 2, 334, .inr (.inl (fun _ => 0)))), (q_6, .inl (cA 2, 3340, .inr (.inl (fun _ => 0)))), (q_7, .inl (cA 2, 12, .inr (.inl (fun _ => 0)))), (q_8, .inl (cA 3, 12, .inl (fun _ => 0))), (q_9, .inl (cA 0, 400, .inl (fun _ => 0))), (q_10, .inl (cA 2, 6, .inr (.inl (fun _ => 0)))), (q_11, .inl (cA 2, 6, .inr (.inl (fun _ => 0)))), (q_12, .inl (cA 0, 2400, .inl (fun _ => 0))), (q_1, .inl (cA 2, 334, .inr (.inl (vp_updL (vp_updL (fun _ => 0) 0 1) 4 100))))] [1, 3, 4, 5, 6, 7, 8, 9, 10, 11, 12, 13, 2] q_10 = 11 := rl_K0_at (i := 9) hd rfl rfl
  have k_q_11 : rl_K0 [(h1, .inr (12, [.ref q_1, .ref q_2, .ref q_3, .ref q_4, .ref q_5, .ref q_6, .int 0, .int 0, .long 0, .long 0, .ref q_7, .ref q_8, .ref q_9, .int 0, .int 0, .int 0, .int 0, .int 0, .int (-1), .int 0, .int 0, .ref q_10, .ref q_11, .ref q_12, .int 0])), (q_2, .inl (cA 2, 334, .inr (.inl (fun _ => 0)))), (q_3, .inl (cA 2, 334, .inr (.inl (fun _ => 0)))), (q_4, .inl (cA 2, 334, .inr (.inl (fun _ => 0)))), (q_5, .inl (cA 2, 334, .inr (.inl (fun _ => 0)))), (q_6, .inl (cA 2, 3340, .inr (.inl (fun _ => 0)))), (q_7, .inl (cA 2, 12, .inr (.inl (fun _ => 0)))), (q_8, .inl (cA 3, 12, .inl (fun _ => 0))), (q_9, .inl (cA 0, 400, .inl (fun _ => 0))), (q_10, .inl (cA 2, 6, .inr (.inl (fun _ => 0)))), (q_11, .inl (cA 2, 6, .inr (.inl (fun _ => 0)))), (q_12, .inl (cA 0, 2400, .inl (fun _ => 0))), (q_1, .inl (cA 2, 334, .inr (.inl (vp_updL (vp_updL (fun _ => 0) 0 1) 4 100))))] [1, 3, 4, 5, 6, 7, 8, 9, 10, 11, 12, 13, 2] q_11 = 12 := rl_K0_at (i := 10) hd rfl rfl
  have k_q_12 : rl_K0 [(h1, .inr (12, [.ref q_1, .ref q_2, .ref q_3, .ref q_4, .ref q_5, .ref q_6, .int 0, .int 0, .long 0, .long 0, .ref q_7, .ref q_8, .ref q_9, .int 0, .int 0, .int 0, .int 0, .int 0, .int (-1), .int 0, .int 0, .ref q_10, .ref q_11, .ref q_12, .int 0])), (q_2, .inl (cA 2, 334, .inr (.inl (fun _ => 0)))), (q_3, .inl (cA 2, 334, .inr (.inl (fun _ => 0)))), (q_4, .inl (cA 2, 334, .inr (.inl (fun _ => 0)))), (q_5, .inl (cA 2, 334, .inr (.inl (fun _ => 0)))), (q_6, .inl (cA 2, 3340, .inr (.inl (fun _ => 0)))), (q_7, .inl (cA 2, 12, .inr (.inl (fun _ => 0)))), (q_8, .inl (cA 3, 12, .inl (fun _ => 0))), (q_9, .inl (cA 0, 400, .inl (fun _ => 0))), (q_10, .inl (cA 2, 6, .inr (.inl (fun _ => 0)))), (q_11, .inl (cA 2, 6, .inr (.inl (fun _ => 0)))), (q_12, .inl (cA 0, 2400, .inl (fun _ => 0))), (q_1, .inl (cA 2, 334, .inr (.inl (vp_updL (vp_updL (fun _ => 0) 0 1) 4 100))))] [1, 3, 4, 5, 6, 7, 8, 9, 10, 11, 12, 13, 2] q_12 = 13 := rl_K0_at (i := 11) hd rfl rfl
  have k_q_1 : rl_K0 [(h1, .inr (12, [.ref q_1, .ref q_2, .ref q_3, .ref q_4, .ref q_5, .ref q_6, .int 0, .int 0, .long 0, .long 0, .ref q_7, .ref q_8, .ref q_9, .int 0, .int 0, .int 0, .int 0, .int 0, .int (-1), .int 0, .int 0, .ref q_10, .ref q_11, .ref q_12, .int 0])), (q_2, .inl (cA 2, 334, .inr (.inl (fun _ => 0)))), (q_3, .inl (cA 2, 334, .inr (.inl (fun _ => 0)))), (q_4, .inl (cA 2, 334, .inr (.inl (fun _ => 0)))), (q_5, .inl (cA 2, 334, .inr (.inl (fun _ => 0)))), (q_6, .inl (cA 2, 3340, .inr (.inl (fun _ => 0)))), (q_7, .inl (cA 2, 12, .inr (.inl (fun _ => 0)))), (q_8, .inl (cA 3, 12, .inl (fun _ => 0))), (q_9, .inl (cA 0, 400, .inl (fun _ => 0))), (q_10, .inl (cA 2, 6, .inr (.inl (fun _ => 0)))), (q_11, .inl (cA 2, 6, .inr (.inl (fun _ => 0)))), (q_12, .inl (cA 0, 2400, .inl (fun _ => 0))), (q_1, .inl (cA 2, 334, .inr (.inl (vp_updL (vp_updL (fun _ => 0) 0 1) 4 100))))] [1, 3, 4, 5, 6, 7, 8, 9, 10, 11, 12, 13, 2] q_1 = 2 := rl_K0_at (i := 12) hd rfl rfl
  refine ⟨rl_K0 [(h1, .inr (12, [.ref q_1, .ref q_2, .ref q_3, .ref q_4, .ref q_5, .ref q_6, .int 0, .int 0, .long 0, .long 0, .ref q_7, .ref q_8, .ref q_9, .int 0, .int 0, .int 0, .int 0, .int 0, .int (-1), .int 0, .int 0, .ref q_10, .ref q_11, .ref q_12, .int 0])), (q_2, .inl (cA 2, 334, .inr (.inl (fun _ => 0)))), (q_3, .inl (cA 2, 334, .inr (.inl (fun _ => 0)))), (q_4, .inl (cA 2, 334, .inr (.inl (fun _ => 0)))), (q_5, .inl (cA 2, 334, .inr (.inl (fun _ => 0)))), (q_6, .inl (cA 2, 3340, .inr (.inl (fun _ => 0)))), (q_7, .inl (cA 2, 12, .inr (.inl (fun _ => 0)))), (q_8, .inl (cA 3, 12, .inl (fun _ => 0))), (q_9, .inl (cA 0, 400, .inl (fun _ => 0))), (q_10, .inl (cA 2, 6, .inr (.inl (fun _ => 0)))), (q_11, .inl (cA 2, 6, .inr (.inl (fun _ => 0)))), (q_12, .inl (cA 0, 2400, .inl (fun _ => 0))), (q_1, .inl (cA 2, 334, .inr (.inl (vp_updL (vp_updL (fun _ => 0) 0 1) 4 100))))] [1, 3, 4, 5, 6, 7, 8, 9, 10, 11, 12, 13, 2], q_1, q_2, q_3, q_4, q_5, q_6, q_9, 12760000000, (fun _ => 0), ⟨k_h1, k_q_1, k_q_2, k_q_3, k_q_4, k_q_5, k_q_6⟩, k_q_9, rl_K0_tt (fun i k a e hi hk => ?_), ?_, ⟨0, 12, _, rfl, rfl⟩, ?_, ⟨8, _, _, rfl⟩, (fun k hk => absurd hk (Nat.not_lt_zero _)), ⟨0, 12, _, rfl, rfl⟩, ⟨0, 12, _, rfl, rfl⟩, (by decide), ?_, (by decide), (by decide)⟩
  · match i, hi, hk with
    | 0, hi, hk => cases hi; cases hk; exact rt_Eo (fts := [(2, 2, 0), (2, 3, 0), (2, 4, 0), (2, 5, 0), (2, 6, 0), (2, 7, 0), (0, 0, 10), (0, (-2147483648), 2147483647), (1, (-9223372036854775808), 9223372036854775807), (1, (-9223372036854775808), 9223372036854775807), (2, 8, 0), (2, 9, 0), (2, 10, 0), (0, 0, 400), (0, 0, 400), (0, 0, 400), (0, 0, 400), (0, (-2147483648), 2147483647), (0, (-2147483648), 2147483647), (0, (-2147483648), 2147483647), (0, (-2147483648), 2147483647), (2, 11, 0), (2, 12, 0), (2, 13, 0), (0, 0, 2400)]) rfl ⟨tt_rv k_q_1, tt_rv k_q_2, tt_rv k_q_3, tt_rv k_q_4, tt_rv k_q_5, tt_rv k_q_6, tt_iv (by decide) (by decide), tt_iv (by decide) (by decide), tt_ja _, tt_ja _, tt_rv k_q_7, tt_rv k_q_8, tt_rv k_q_9, tt_iv (by decide) (by decide), tt_iv (by decide) (by decide), tt_iv (by decide) (by decide), tt_iv (by decide) (by decide), tt_iv (by decide) (by decide), tt_iv (by decide) (by decide), tt_iv (by decide) (by decide), tt_iv (by decide) (by decide), tt_rv k_q_10, tt_rv k_q_11, tt_rv k_q_12, tt_iv (by decide) (by decide), trivial⟩
    | 1, hi, hk => cases hi; cases hk; exact rt_El (t := (1, (-9223372036854775808), 9223372036854775807)) rfl (fun j _ => tt_ja _)
    | 2, hi, hk => cases hi; cases hk; exact rt_El (t := (1, (-9223372036854775808), 9223372036854775807)) rfl (fun j _ => tt_ja _)
    | 3, hi, hk => cases hi; cases hk; exact rt_El (t := (1, (-9223372036854775808), 9223372036854775807)) rfl (fun j _ => tt_ja _)
    | 4, hi, hk => cases hi; cases hk; exact rt_El (t := (1, (-9223372036854775808), 9223372036854775807)) rfl (fun j _ => tt_ja _)
    | 5, hi, hk => cases hi; cases hk; exact rt_El (t := (1, (-9223372036854775808), 9223372036854775807)) rfl (fun j _ => tt_ja _)
    | 6, hi, hk => cases hi; cases hk; exact rt_El (t := (1, (-9223372036854775808), 9223372036854775807)) rfl (fun j _ => tt_ja _)
    | 7, hi, hk => cases hi; cases hk; exact rt_Ei (t := (0, (-2147483648), 2147483647)) rfl (fun j _ => tt_ia _)
    | 8, hi, hk => cases hi; cases hk; exact rt_Ei (t := (0, (-2147483648), 2147483647)) rfl (fun j _ => tt_ia _)
    | 9, hi, hk => cases hi; cases hk; exact rt_El (t := (1, (-9223372036854775808), 9223372036854775807)) rfl (fun j _ => tt_ja _)
    | 10, hi, hk => cases hi; cases hk; exact rt_El (t := (1, (-9223372036854775808), 9223372036854775807)) rfl (fun j _ => tt_ja _)
    | 11, hi, hk => cases hi; cases hk; exact rt_Ei (t := (0, (-2147483648), 2147483647)) rfl (fun j _ => tt_ia _)
    | 12, hi, hk => cases hi; cases hk; exact rt_El (t := (1, (-9223372036854775808), 9223372036854775807)) rfl (fun j _ => tt_ja _)
    | i + 13, hi, hk => simp at hk
  · exact ⟨⟨0, 12, _, rfl, rfl⟩, ⟨0, 12, _, rfl, rfl⟩, ⟨0, 12, _, rfl, rfl⟩, ⟨0, 12, _, rfl, rfl⟩, ⟨0, 12, _, rfl, rfl⟩, ⟨0, 12, _, rfl, rfl⟩⟩
  · exact ⟨0, 12, _, rfl, rfl⟩
  · exact ⟨(vp_updL (vp_updL (fun _ => 0) 0 1) 4 100), (fun _ => 0), 0, ⟨12, _, _, rfl⟩, ⟨5, _, _, rfl⟩, ⟨0, 12, _, rfl, rfl⟩, (by decide), rw_R0f (by decide) rfl, rl_HP.zero _ _ _⟩
set_option maxHeartbeats 4000000 in
set_option maxRecDepth 100000 in
theorem law_to28 {p : Program} {l : Launch} {e : Env} {s : State} {m : MethodId} {below : List Frame} {meth : Method} {c : Code} (hl : l.stackTraces = false) {D : va_G} {cA : Nat → ClassId} {ak : (Nat → Nat) × (Nat → Nat)} {A : Nat → Prop} {b : Nat} {Q : State → Prop} (C : jj_C p l s m #[Value.ref b] meth c code 9 R_law ret D cA A ak) (hgo : ∀ (h0 h1 ho hd : Nat) (g : Nat → Int64) (gd : Nat → UInt64) (x : Nat) (cz : Nat → Int) (e1 : Nat) (e2 : Int32) (pR pC : va_W), x ≤ 400 → rw_C cA h0 x cz e1 e2 pC → rw_R cA 0 h1 x cz e1 e2 pR → jj_J p l e room_1 s m #[Value.ref b] below meth c 9 A Q (jj_X D A (((ho, .inl (cA 2, 1, .inr (.inl g))) :: (hd, .inl (cA 4, 1, .inr (.inr (.inr (.inl gd))))) :: pR) ++ pC)) (200 + 64 * 0) (20000 + 414 * 0) 28 [(0, .ref b), (1, .ref h0), (2, .ref h1), (3, .ref ho), (4, .ref hd), (5, .int (nI (6 * 0)))] []) : jj_J p l e room_1 s m #[Value.ref b] below meth c 9 A Q (jj_X D A []) 0 0 0 [(0, .ref b)] [] := by
  refine jj_new (wt := []) C jk_11 jw_17924af022 jw_9ac8912626 jw_6f6d707074 jd_11 (jj_le rfl) (jj_le rfl) dL_law_0 (fun h0 => ?_)
  refine jj_apd rfl ?_
  refine jj_dup C dL_law_3 rfl ?_
  refine jq_callI (rest := [.ref h0]) C (tc_X10_init hl D cA ak h0) [0] [] rfl rfl (by decide) (by decide) (by decide) jw_b49e6c4ac3 jw_22323451ff jw_6f6d707074 jw_575d763d66 rfl jn_X10_init rfl (jj_le rfl) (jj_le rfl) (jj_le rfl) (jj_le rfl) (jj_le rfl) dL_law_4 rfl (fun w1 r O => ?_)
  obtain ⟨rfl, Kc, kc1, okc, a0, kc2, fc1, fc2, fc3, fc4⟩ := O
  obtain ⟨a9, u9, kc9, fc0, hu9⟩ := rw_txt okc kc2
  have hC0 : rw_C cA h0 0 (fun _ => 0) 0 (-1) w1 := ⟨Kc, a0, a9, u9, kc1, kc2, kc9, okc, fc1, fc0, (by rw [← rz_n0]; exact fc2), hu9, (fun k hk => absurd hk (Nat.not_lt_zero _)), (by rw [← rz_n0]; exact fc3), fc4⟩
  refine jj_astore_n C dL_law_7 (by decide) rfl ?_
  refine jj_new (wt := []) C jk_12 jw_1106c1129e jw_9c731ad32f jw_f96c99f44d jd_12 (jj_le rfl) (jj_le rfl) dL_law_8 (fun h1 => ?_)
  refine tt_swp (X := []) rfl ?_
  refine jj_dup C dL_law_11 rfl ?_
  refine tt_callI0 (rest := [.ref h1]) C (ct_X11_init_i1 hl D cA ak h1) [0] [] rfl rfl (by decide) (by decide) (by decide) jw_757ba84672 jw_079017e2b9 jw_f96c99f44d jw_db21bb81c3 rfl jn_X11_init rfl (jj_le rfl) (jj_le rfl) (jj_le rfl) (jj_le rfl) (jj_le rfl) dL_law_12 rfl (fun w2 r O => ?_)
  obtain ⟨q_1, q_2, q_3, q_4, q_5, q_6, q_7, q_8, q_9, q_10, q_11, q_12, rfl, rfl⟩ := O
  refine tt_apd rfl ?_
  refine jj_astore_n C dL_law_15 (by decide) rfl ?_
  refine jj_iconst (v := 1) C dL_law_16 (by decide) ?_
  refine jj_newa (atype := .long) (fty := .long) (N' := 1) C 2 rfl rfl jw_2603678b77 (a0 := (1, .inr (.inl (fun _ => 0)))) (fun _ => rfl) (by decide) (by decide) (jj_le rfl) (jj_le rfl) (jj_le rfl) dL_law_17 (fun ho => ?_)
  refine tt_swp rfl ?_
  refine jj_astore_n C dL_law_19 (by decide) rfl ?_
  refine jj_iconst (v := 1) C dL_law_20 (by decide) ?_
  refine jj_newa (atype := .double) (fty := .double) (N' := 1) C 4 rfl rfl jw_41313426ed (a0 := (1, .inr (.inr (.inr (.inl (fun _ => 0)))))) (fun _ => rfl) (by decide) (by decide) (jj_le rfl) (jj_le rfl) (jj_le rfl) dL_law_21 (fun hd => ?_)
  refine tt_swp rfl ?_
  refine jj_astore C dL_law_23 (by decide) rfl ?_
  refine jj_iconst (v := 0) C dL_law_25 (by decide) ?_
  refine jj_istore C dL_law_26 (by decide) rfl ?_
  refine tt_perm [13, 14, 0, 1, 2, 3, 4, 5, 6, 7, 8, 9, 10, 11, 12] rfl (by decide) ?_
  refine jj_loc [5, 4, 3, 2, 1, 0] rfl ?_
  refine jj_widen (k := 200 + 64 * 0) (n := 20000 + 414 * 0) (jj_le rfl) (jj_le rfl) ?_
  intro H locs ls hW hS hl2
  exact hgo h0 h1 ho hd (fun _ => 0) (fun _ => 0) 0 (fun _ => 0) 0 (-1) [(h1, .inr (12, [.ref q_1, .ref q_2, .ref q_3, .ref q_4, .ref q_5, .ref q_6, .int 0, .int 0, .long 0, .long 0, .ref q_7, .ref q_8, .ref q_9, .int 0, .int 0, .int 0, .int 0, .int 0, .int (-1), .int 0, .int 0, .ref q_10, .ref q_11, .ref q_12, .int 0])), (q_2, .inl (cA 2, 334, .inr (.inl (fun _ => 0)))), (q_3, .inl (cA 2, 334, .inr (.inl (fun _ => 0)))), (q_4, .inl (cA 2, 334, .inr (.inl (fun _ => 0)))), (q_5, .inl (cA 2, 334, .inr (.inl (fun _ => 0)))), (q_6, .inl (cA 2, 3340, .inr (.inl (fun _ => 0)))), (q_7, .inl (cA 2, 12, .inr (.inl (fun _ => 0)))), (q_8, .inl (cA 3, 12, .inl (fun _ => 0))), (q_9, .inl (cA 0, 400, .inl (fun _ => 0))), (q_10, .inl (cA 2, 6, .inr (.inl (fun _ => 0)))), (q_11, .inl (cA 2, 6, .inr (.inl (fun _ => 0)))), (q_12, .inl (cA 0, 2400, .inl (fun _ => 0))), (q_1, .inl (cA 2, 334, .inr (.inl (vp_updL (vp_updL (fun _ => 0) 0 1) 4 100))))] w1 (by decide) hC0 (law_R0 cA h1 q_1 q_2 q_3 q_4 q_5 q_6 q_7 q_8 q_9 q_10 q_11 q_12 (rl_distM hW.2)) H locs ls hW hS hl2
