set_option maxHeartbeats 4000000 in
set_option maxRecDepth 100000 in
theorem ct_X9_init_1 {l : Launch} (hl : l.stackTraces = false) (D : va_G) (cA : Nat → ClassId) (ak : (Nat → Nat) × (Nat → Nat)) (h0 : Nat) : jj_I l D cA ak yX9_init (.code yX9_init cX9_init 1 none) 1 12 1 400 [(h0, .inr (10, [.null, .int 0, .int 0, .int 0, .int 0, .int 0, .int 0]))] [.ref h0] (fun (w : va_W) (r : Option Value) => (∃ q_1 : Nat, w = [(h0, .inr (10, [.ref q_1, .int 0, .int 0, .int 0, .int 0, .int 0, .int (-1)])), (q_1, .inl (cA 1, 400, .inl (fun _ => 0)))] ∧ r = none)) := by
  refine jj_startI hl (by decide) jw_23 (jj_le rfl) ?_
  intro p e s m args below meth c A hargs hA C hmn
  refine jj_aload_n C dX9_init_0 rfl ?_
  refine jj_objInit C jw_14 jw_1 jw_2 (jj_le rfl) (jj_le rfl) dX9_init_1 ?_
  refine jj_aload_n C dX9_init_4 rfl ?_
  refine jj_sipush (v := 400) C dX9_init_5 (by decide) ?_
  refine jj_newa (atype := .char) (fty := .char) (N' := 400) C 1 rfl rfl jw_15 (a0 := (400, .inl (fun _ => 0))) (fun _ => rfl) (by decide) (by decide) (jj_le rfl) (jj_le rfl) (jj_le rfl) dX9_init_8 (fun q_1 => ?_)
  refine jj_apd rfl ?_
  refine jj_putF C jk_10 0 (by decide) jw_16 rfl hmn rfl 0 rfl rfl rfl rfl rfl dX9_init_10 ?_
  refine jj_aload_n C dX9_init_13 rfl ?_
  refine jj_iconst (v := 0) C dX9_init_14 (by decide) ?_
  refine jj_put C jk_10 1 (by decide) jw_17 rfl 0 rfl rfl rfl rfl rfl dX9_init_15 ?_
  refine jj_aload_n C dX9_init_18 rfl ?_
  refine jj_iconst (v := 0) C dX9_init_19 (by decide) ?_
  refine jj_put C jk_10 2 (by decide) jw_18 rfl 0 rfl rfl rfl rfl rfl dX9_init_20 ?_
  refine jj_aload_n C dX9_init_23 rfl ?_
  refine jj_iconst (v := 0) C dX9_init_24 (by decide) ?_
  refine jj_put C jk_10 3 (by decide) jw_19 rfl 0 rfl rfl rfl rfl rfl dX9_init_25 ?_
  refine jj_aload_n C dX9_init_28 rfl ?_
  refine jj_iconst (v := 0) C dX9_init_29 (by decide) ?_
  refine jj_put C jk_10 4 (by decide) jw_20 rfl 0 rfl rfl rfl rfl rfl dX9_init_30 ?_
  refine jj_aload_n C dX9_init_33 rfl ?_
  refine jj_iconst (v := 0) C dX9_init_34 (by decide) ?_
  refine jj_put C jk_10 5 (by decide) jw_21 rfl 0 rfl rfl rfl rfl rfl dX9_init_35 ?_
  refine jj_aload_n C dX9_init_38 rfl ?_
  refine jj_iconst (v := (-1)) C dX9_init_39 (by decide) ?_
  refine jj_put C jk_10 6 (by decide) jw_22 rfl 0 rfl rfl rfl rfl rfl dX9_init_40 ?_
  exact jj_vretI C ⟨q_1, rfl, rfl⟩ dX9_init_43 (jj_le rfl) (jj_le rfl)


set_option maxHeartbeats 4000000 in
set_option maxRecDepth 100000 in
theorem ct_X6_init_1 {l : Launch} (hl : l.stackTraces = false) (D : va_G) (cA : Nat → ClassId) (ak : (Nat → Nat) × (Nat → Nat)) (h0 : Nat) : jj_I l D cA ak yX6_init (.code yX6_init cX6_init 1 none) 1 12 0 0 [(h0, .inr (7, [.int 0, .int 0, .int 0, .long 0, .long 0]))] [.ref h0] (fun (w : va_W) (r : Option Value) => (w = [(h0, .inr (7, [.int 0, .int 0, .int 0, .long 0, .long 0]))] ∧ r = none)) := by
  refine jj_startI hl (by decide) jw_91 (jj_le rfl) ?_
  intro p e s m args below meth c A hargs hA C hmn
  refine jj_aload_n C dX6_init_0 rfl ?_
  refine jj_objInit C jw_85 jw_1 jw_2 (jj_le rfl) (jj_le rfl) dX6_init_1 ?_
  refine jj_aload_n C dX6_init_4 rfl ?_
  refine jj_iconst (v := 0) C dX6_init_5 (by decide) ?_
  refine jj_put C jk_7 0 (by decide) jw_86 rfl 0 rfl rfl rfl rfl rfl dX6_init_6 ?_
  refine jj_aload_n C dX6_init_9 rfl ?_
  refine jj_iconst (v := 0) C dX6_init_10 (by decide) ?_
  refine jj_put C jk_7 1 (by decide) jw_87 rfl 0 rfl rfl rfl rfl rfl dX6_init_11 ?_
  refine jj_aload_n C dX6_init_14 rfl ?_
  refine jj_iconst (v := 0) C dX6_init_15 (by decide) ?_
  refine jj_put C jk_7 2 (by decide) jw_88 rfl 0 rfl rfl rfl rfl rfl dX6_init_16 ?_
  refine jj_aload_n C dX6_init_19 rfl ?_
  refine jj_lconst (v := 0) C dX6_init_20 (by decide) ?_
  refine jj_put C jk_7 3 (by decide) jw_89 rfl 0 rfl rfl rfl rfl rfl dX6_init_21 ?_
  refine jj_aload_n C dX6_init_24 rfl ?_
  refine jj_lconst (v := 0) C dX6_init_25 (by decide) ?_
  refine jj_put C jk_7 4 (by decide) jw_90 rfl 0 rfl rfl rfl rfl rfl dX6_init_26 ?_
  exact jj_vretI C ⟨rfl, rfl⟩ dX6_init_29 (jj_le rfl) (jj_le rfl)


set_option maxHeartbeats 4000000 in
set_option maxRecDepth 100000 in
theorem ct_X4_init_1 {l : Launch} (hl : l.stackTraces = false) (D : va_G) (cA : Nat → ClassId) (ak : (Nat → Nat) × (Nat → Nat)) (h0 : Nat) : jj_I l D cA ak yX4_init (.code yX4_init cX4_init 1 none) 1 12 0 0 [(h0, .inr (5, [.int 0, .int 0, .int 0, .long 0, .long 0, .long 0]))] [.ref h0] (fun (w : va_W) (r : Option Value) => (w = [(h0, .inr (5, [.int 0, .int 0, .int 0, .long 0, .long 0, .long 0]))] ∧ r = none)) := by
  refine jj_startI hl (by decide) jw_110 (jj_le rfl) ?_
  intro p e s m args below meth c A hargs hA C hmn
  refine jj_aload_n C dX4_init_0 rfl ?_
  refine jj_objInit C jw_103 jw_1 jw_2 (jj_le rfl) (jj_le rfl) dX4_init_1 ?_
  refine jj_aload_n C dX4_init_4 rfl ?_
  refine jj_iconst (v := 0) C dX4_init_5 (by decide) ?_
  refine jj_put C jk_5 0 (by decide) jw_104 rfl 0 rfl rfl rfl rfl rfl dX4_init_6 ?_
  refine jj_aload_n C dX4_init_9 rfl ?_
  refine jj_iconst (v := 0) C dX4_init_10 (by decide) ?_
  refine jj_put C jk_5 1 (by decide) jw_105 rfl 0 rfl rfl rfl rfl rfl dX4_init_11 ?_
  refine jj_aload_n C dX4_init_14 rfl ?_
  refine jj_iconst (v := 0) C dX4_init_15 (by decide) ?_
  refine jj_put C jk_5 2 (by decide) jw_106 rfl 0 rfl rfl rfl rfl rfl dX4_init_16 ?_
  refine jj_aload_n C dX4_init_19 rfl ?_
  refine jj_lconst (v := 0) C dX4_init_20 (by decide) ?_
  refine jj_put C jk_5 3 (by decide) jw_107 rfl 0 rfl rfl rfl rfl rfl dX4_init_21 ?_
  refine jj_aload_n C dX4_init_24 rfl ?_
  refine jj_lconst (v := 0) C dX4_init_25 (by decide) ?_
  refine jj_put C jk_5 4 (by decide) jw_108 rfl 0 rfl rfl rfl rfl rfl dX4_init_26 ?_
  refine jj_aload_n C dX4_init_29 rfl ?_
  refine jj_lconst (v := 0) C dX4_init_30 (by decide) ?_
  refine jj_put C jk_5 5 (by decide) jw_109 rfl 0 rfl rfl rfl rfl rfl dX4_init_31 ?_
  exact jj_vretI C ⟨rfl, rfl⟩ dX4_init_34 (jj_le rfl) (jj_le rfl)


set_option maxHeartbeats 4000000 in
set_option maxRecDepth 100000 in
theorem ct_X8_init_1 {l : Launch} (hl : l.stackTraces = false) (D : va_G) (cA : Nat → ClassId) (ak : (Nat → Nat) × (Nat → Nat)) (h0 : Nat) : jj_I l D cA ak yX8_init (.code yX8_init cX8_init 1 none) 1 12 0 0 [(h0, .inr (9, [.int 0, .int 0, .long 0, .long 0, .long 0]))] [.ref h0] (fun (w : va_W) (r : Option Value) => (w = [(h0, .inr (9, [.int 0, .int 0, .long 0, .long 0, .long 1000000]))] ∧ r = none)) := by
  refine jj_startI hl (by decide) jw_128 (jj_le rfl) ?_
  intro p e s m args below meth c A hargs hA C hmn
  refine jj_aload_n C dX8_init_0 rfl ?_
  refine jj_objInit C jw_121 jw_1 jw_2 (jj_le rfl) (jj_le rfl) dX8_init_1 ?_
  refine jj_aload_n C dX8_init_4 rfl ?_
  refine jj_iconst (v := 0) C dX8_init_5 (by decide) ?_
  refine jj_put C jk_9 0 (by decide) jw_122 rfl 0 rfl rfl rfl rfl rfl dX8_init_6 ?_
  refine jj_aload_n C dX8_init_9 rfl ?_
  refine jj_iconst (v := 0) C dX8_init_10 (by decide) ?_
  refine jj_put C jk_9 1 (by decide) jw_123 rfl 0 rfl rfl rfl rfl rfl dX8_init_11 ?_
  refine jj_aload_n C dX8_init_14 rfl ?_
  refine jj_lconst (v := 0) C dX8_init_15 (by decide) ?_
  refine jj_put C jk_9 2 (by decide) jw_124 rfl 0 rfl rfl rfl rfl rfl dX8_init_16 ?_
  refine jj_aload_n C dX8_init_19 rfl ?_
  refine jj_lconst (v := 0) C dX8_init_20 (by decide) ?_
  refine jj_put C jk_9 3 (by decide) jw_125 rfl 0 rfl rfl rfl rfl rfl dX8_init_21 ?_
  refine jj_aload_n C dX8_init_24 rfl ?_
  refine jj_ldc2 (v := 1000000) C dX8_init_25 jw_126 ?_
  refine jj_put C jk_9 4 (by decide) jw_127 rfl 0 rfl rfl rfl rfl rfl dX8_init_28 ?_
  exact jj_vretI C ⟨rfl, rfl⟩ dX8_init_31 (jj_le rfl) (jj_le rfl)


set_option maxHeartbeats 4000000 in
set_option maxRecDepth 100000 in
theorem ct_X0_init_1 {l : Launch} (hl : l.stackTraces = false) (D : va_G) (cA : Nat → ClassId) (ak : (Nat → Nat) × (Nat → Nat)) (h0 : Nat) : jj_I l D cA ak yX0_init (.code yX0_init cX0_init 2 none) 2 32 62 394 [(h0, .inr (2, [.int 0, .int 0, .int 0, .int 0, .int 0, .int 0, .int 0, .int 0, .int 0, .int 0, .null, .null, .null, .null]))] [.ref h0] (fun (w : va_W) (r : Option Value) => (∃ q_1 q_2 q_3 q_4 q_5 : Nat, ∃ (f : Nat → Option Nat), f 0 = some q_5 ∧ w = [(h0, .inr (2, [.int 1, .int 0, .int 0, .int 0, .int 100, .int 0, .int 0, .int 0, .int 0, .int 0, .ref q_1, .ref q_2, .ref q_3, .ref q_4])), (q_1, .inl (cA 2, 6, .inr (.inl (fun _ => 0)))), (q_4, .inl (cA 7, 12, .inr (.inr (.inr (.inr f))))), (q_5, .inr (7, [.int 0, .int 0, .int 0, .long 0, .long 0]))] ∧ r = none)) := by
  refine jj_startI hl (by decide) jw_131 (jj_le rfl) ?_
  intro p e s m args below meth c A hargs hA C hmn
  refine jj_aload_n C dX0_init_0 rfl ?_
  refine jj_objInit C jw_58 jw_1 jw_2 (jj_le rfl) (jj_le rfl) dX0_init_1 ?_
  refine jj_aload_n C dX0_init_4 rfl ?_
  refine jj_iconst (v := 1) C dX0_init_5 (by decide) ?_
  refine jj_put C jk_2 0 (by decide) jw_59 rfl 0 rfl rfl rfl rfl rfl dX0_init_6 ?_
  refine jj_aload_n C dX0_init_9 rfl ?_
  refine jj_iconst (v := 0) C dX0_init_10 (by decide) ?_
  refine jj_put C jk_2 1 (by decide) jw_60 rfl 0 rfl rfl rfl rfl rfl dX0_init_11 ?_
  refine jj_aload_n C dX0_init_14 rfl ?_
  refine jj_iconst (v := 0) C dX0_init_15 (by decide) ?_
  refine jj_put C jk_2 2 (by decide) jw_61 rfl 0 rfl rfl rfl rfl rfl dX0_init_16 ?_
  refine jj_aload_n C dX0_init_19 rfl ?_
  refine jj_iconst (v := 0) C dX0_init_20 (by decide) ?_
  refine jj_put C jk_2 3 (by decide) jw_62 rfl 0 rfl rfl rfl rfl rfl dX0_init_21 ?_
  refine jj_aload_n C dX0_init_24 rfl ?_
  refine jj_bipush (v := 100) C dX0_init_25 (by decide) ?_
  refine jj_put C jk_2 4 (by decide) jw_63 rfl 0 rfl rfl rfl rfl rfl dX0_init_27 ?_
  refine jj_aload_n C dX0_init_30 rfl ?_
  refine jj_iconst (v := 0) C dX0_init_31 (by decide) ?_
  refine jj_put C jk_2 5 (by decide) jw_64 rfl 0 rfl rfl rfl rfl rfl dX0_init_32 ?_
  refine jj_aload_n C dX0_init_35 rfl ?_
  refine jj_iconst (v := 0) C dX0_init_36 (by decide) ?_
  refine jj_put C jk_2 6 (by decide) jw_65 rfl 0 rfl rfl rfl rfl rfl dX0_init_37 ?_
  refine jj_aload_n C dX0_init_40 rfl ?_
  refine jj_iconst (v := 0) C dX0_init_41 (by decide) ?_
  refine jj_put C jk_2 7 (by decide) jw_66 rfl 0 rfl rfl rfl rfl rfl dX0_init_42 ?_
  refine jj_aload_n C dX0_init_45 rfl ?_
  refine jj_iconst (v := 0) C dX0_init_46 (by decide) ?_
  refine jj_put C jk_2 8 (by decide) jw_67 rfl 0 rfl rfl rfl rfl rfl dX0_init_47 ?_
  refine jj_aload_n C dX0_init_50 rfl ?_
  refine jj_iconst (v := 0) C dX0_init_51 (by decide) ?_
  refine jj_put C jk_2 9 (by decide) jw_68 rfl 0 rfl rfl rfl rfl rfl dX0_init_52 ?_
  refine jj_aload_n C dX0_init_55 rfl ?_
  refine jj_bipush (v := 6) C dX0_init_56 (by decide) ?_
  refine jj_newa (atype := .long) (fty := .long) (N' := 6) C 2 rfl rfl jw_69 (a0 := (6, .inr (.inl (fun _ => 0)))) (fun _ => rfl) (by decide) (by decide) (jj_le rfl) (jj_le rfl) (jj_le rfl) dX0_init_58 (fun q_1 => ?_)
  refine jj_apd rfl ?_
  refine jj_putF C jk_2 10 (by decide) jw_70 rfl hmn rfl 0 rfl rfl rfl rfl rfl dX0_init_60 ?_
  refine jj_aload_n C dX0_init_63 rfl ?_
  refine jj_bipush (v := 6) C dX0_init_64 (by decide) ?_
  refine jj_newq (N' := 6) C 8 rfl jw_71 (by decide) (by decide) (by decide) (jj_le rfl) (jj_le rfl) (jj_le rfl) dX0_init_66 (fun q_2 => ?_)
  refine jj_apd rfl ?_
  refine jj_putF C jk_2 11 (by decide) jw_72 rfl hmn rfl 0 rfl rfl rfl rfl rfl dX0_init_69 ?_
  refine jj_aload_n C dX0_init_72 rfl ?_
  refine jj_bipush (v := 40) C dX0_init_73 (by decide) ?_
  refine jj_newq (N' := 40) C 6 rfl jw_73 (by decide) (by decide) (by decide) (jj_le rfl) (jj_le rfl) (jj_le rfl) dX0_init_75 (fun q_3 => ?_)
  refine jj_apd rfl ?_
  refine jj_putF C jk_2 12 (by decide) jw_74 rfl hmn rfl 0 rfl rfl rfl rfl rfl dX0_init_78 ?_
  refine jj_aload_n C dX0_init_81 rfl ?_
  refine jj_bipush (v := 12) C dX0_init_82 (by decide) ?_
  refine jj_newq (N' := 12) C 7 rfl jw_75 (by decide) (by decide) (by decide) (jj_le rfl) (jj_le rfl) (jj_le rfl) dX0_init_84 (fun q_4 => ?_)
  refine jj_apd rfl ?_
  refine jj_putF C jk_2 13 (by decide) jw_76 rfl hmn rfl 0 rfl rfl rfl rfl rfl dX0_init_87 ?_
  refine jj_iconst (v := 0) C dX0_init_90 (by decide) ?_
  refine jj_istore_n C dX0_init_91 (by decide) rfl ?_
  have hL1 : ∀ (n i : Nat) (f : Nat → Option Nat), i + n = 6 → jj_J p l e (jj_rm 2 32 62 394) s m args below meth c 2 A (MQ below (jj_q D A (fun (w : va_W) (r : Option Value) => (∃ q_1 q_2 q_3 q_4 q_5 : Nat, ∃ (f : Nat → Option Nat), f 0 = some q_5 ∧ w = [(h0, .inr (2, [.int 1, .int 0, .int 0, .int 0, .int 100, .int 0, .int 0, .int 0, .int 0, .int 0, .ref q_1, .ref q_2, .ref q_3, .ref q_4])), (q_1, .inl (cA 2, 6, .inr (.inl (fun _ => 0)))), (q_4, .inl (cA 7, 12, .inr (.inr (.inr (.inr f))))), (q_5, .inr (7, [.int 0, .int 0, .int 0, .long 0, .long 0]))] ∧ r = none))) args s 62 394 A) (jj_X D A [(h0, .inr (2, [.int 1, .int 0, .int 0, .int 0, .int 100, .int 0, .int 0, .int 0, .int 0, .int 0, .ref q_1, .ref q_2, .ref q_3, .ref q_4])), (q_1, .inl (cA 2, 6, .inr (.inl (fun _ => 0)))), (q_2, .inl (cA 8, 6, .inr (.inr (.inr (.inr f))))), (q_3, .inl (cA 6, 40, .inr (.inr (.inr (.inr (fun _ => none)))))), (q_4, .inl (cA 7, 12, .inr (.inr (.inr (.inr (fun _ => none))))))]) (4 + 1 * i) (64 + 5 * i) 92 [(1, .int (nI i)), (0, .ref h0)] [] := by
    intro n
    induction n with
    | zero =>
      intro i f hin
      obtain rfl : i = 6 := by omega
      show jj_J p l e (jj_rm 2 32 62 394) s m args below meth c 2 A (MQ below (jj_q D A (fun (w : va_W) (r : Option Value) => (∃ q_1 q_2 q_3 q_4 q_5 : Nat, ∃ (f : Nat → Option Nat), f 0 = some q_5 ∧ w = [(h0, .inr (2, [.int 1, .int 0, .int 0, .int 0, .int 100, .int 0, .int 0, .int 0, .int 0, .int 0, .ref q_1, .ref q_2, .ref q_3, .ref q_4])), (q_1, .inl (cA 2, 6, .inr (.inl (fun _ => 0)))), (q_4, .inl (cA 7, 12, .inr (.inr (.inr (.inr f))))), (q_5, .inr (7, [.int 0, .int 0, .int 0, .long 0, .long 0]))] ∧ r = none))) args s 62 394 A) (jj_X D A [(h0, .inr (2, [.int 1, .int 0, .int 0, .int 0, .int 100, .int 0, .int 0, .int 0, .int 0, .int 0, .ref q_1, .ref q_2, .ref q_3, .ref q_4])), (q_1, .inl (cA 2, 6, .inr (.inl (fun _ => 0)))), (q_2, .inl (cA 8, 6, .inr (.inr (.inr (.inr f))))), (q_3, .inl (cA 6, 40, .inr (.inr (.inr (.inr (fun _ => none)))))), (q_4, .inl (cA 7, 12, .inr (.inr (.inr (.inr (fun _ => none))))))]) 10 94 92 [(1, .int 6), (0, .ref h0)] []
      refine jj_drop [0, 1, 3, 4] rfl (by decide) ?_
      refine jj_iload_n C dX0_init_92 rfl ?_
      refine jj_bipush (v := 6) C dX0_init_93 (by decide) ?_
      refine jj_icmp_geT (tgt := 117) C dX0_init_95 (by decide) (by decide) ?_
      refine jj_iconst (v := 0) C dX0_init_117 (by decide) ?_
      refine jj_istore_n C dX0_init_118 (by decide) rfl ?_
      have hL2 : ∀ (n i : Nat) (f : Nat → Option Nat), i + n = 40 → jj_J p l e (jj_rm 2 32 62 394) s m args below meth c 2 A (MQ below (jj_q D A (fun (w : va_W) (r : Option Value) => (∃ q_1 q_2 q_3 q_4 q_5 : Nat, ∃ (f : Nat → Option Nat), f 0 = some q_5 ∧ w = [(h0, .inr (2, [.int 1, .int 0, .int 0, .int 0, .int 100, .int 0, .int 0, .int 0, .int 0, .int 0, .ref q_1, .ref q_2, .ref q_3, .ref q_4])), (q_1, .inl (cA 2, 6, .inr (.inl (fun _ => 0)))), (q_4, .inl (cA 7, 12, .inr (.inr (.inr (.inr f))))), (q_5, .inr (7, [.int 0, .int 0, .int 0, .long 0, .long 0]))] ∧ r = none))) args s 62 394 A) (jj_X D A [(h0, .inr (2, [.int 1, .int 0, .int 0, .int 0, .int 100, .int 0, .int 0, .int 0, .int 0, .int 0, .ref q_1, .ref q_2, .ref q_3, .ref q_4])), (q_1, .inl (cA 2, 6, .inr (.inl (fun _ => 0)))), (q_3, .inl (cA 6, 40, .inr (.inr (.inr (.inr f))))), (q_4, .inl (cA 7, 12, .inr (.inr (.inr (.inr (fun _ => none))))))]) (10 + 1 * i) (94 + 6 * i) 119 [(1, .int (nI i)), (0, .ref h0)] [] := by
        intro n
        induction n with
        | zero =>
          intro i f hin
          obtain rfl : i = 40 := by omega
          show jj_J p l e (jj_rm 2 32 62 394) s m args below meth c 2 A (MQ below (jj_q D A (fun (w : va_W) (r : Option Value) => (∃ q_1 q_2 q_3 q_4 q_5 : Nat, ∃ (f : Nat → Option Nat), f 0 = some q_5 ∧ w = [(h0, .inr (2, [.int 1, .int 0, .int 0, .int 0, .int 100, .int 0, .int 0, .int 0, .int 0, .int 0, .ref q_1, .ref q_2, .ref q_3, .ref q_4])), (q_1, .inl (cA 2, 6, .inr (.inl (fun _ => 0)))), (q_4, .inl (cA 7, 12, .inr (.inr (.inr (.inr f))))), (q_5, .inr (7, [.int 0, .int 0, .int 0, .long 0, .long 0]))] ∧ r = none))) args s 62 394 A) (jj_X D A [(h0, .inr (2, [.int 1, .int 0, .int 0, .int 0, .int 100, .int 0, .int 0, .int 0, .int 0, .int 0, .ref q_1, .ref q_2, .ref q_3, .ref q_4])), (q_1, .inl (cA 2, 6, .inr (.inl (fun _ => 0)))), (q_3, .inl (cA 6, 40, .inr (.inr (.inr (.inr f))))), (q_4, .inl (cA 7, 12, .inr (.inr (.inr (.inr (fun _ => none))))))]) 50 334 119 [(1, .int 40), (0, .ref h0)] []
          refine jj_drop [0, 1, 3] rfl (by decide) ?_
          refine jj_iload_n C dX0_init_119 rfl ?_
          refine jj_bipush (v := 40) C dX0_init_120 (by decide) ?_
          refine jj_icmp_geT (tgt := 144) C dX0_init_122 (by decide) (by decide) ?_
          refine jj_iconst (v := 0) C dX0_init_144 (by decide) ?_
          refine jj_istore_n C dX0_init_145 (by decide) rfl ?_
          refine jj_iload_n C dX0_init_146 rfl ?_
          refine jj_bipush (v := 12) C dX0_init_147 (by decide) ?_
          refine jj_icmp_geF (tgt := 171) C dX0_init_149 (by decide) (by decide) ?_
          refine jj_aload_n C dX0_init_152 rfl ?_
          refine jj_get C jk_2 13 (by decide) jw_76 0 rfl rfl dX0_init_153 ?_
          refine jj_iload_n C dX0_init_156 rfl ?_
          refine jj_new (wt := []) C jk_7 jw_75 jw_83 jw_84 jd_7 (jj_le rfl) (jj_le rfl) dX0_init_157 (fun q_5 => ?_)
          refine jj_apd rfl ?_
          refine jj_dup C dX0_init_160 rfl ?_
          refine jq_callIN (host := "SeriesFund") (rest := [.ref q_5, .int 0, .ref q_4]) C (ct_X6_init_1 hl D cA ak q_5) [3] [0, 1, 2] rfl rfl (by decide) (by decide) (by decide) (by decide +kernel) jw_92 jw_84 jw_91 rfl jn_X6_init rfl (jj_le rfl) (jj_le rfl) (jj_le rfl) (jj_le rfl) (jj_le rfl) dX0_init_161 rfl (fun w1 r O_7 => ?_)
          obtain ⟨rfl, rfl⟩ := O_7
          refine jj_apd rfl ?_
          refine jj_aast C 2 7 3 rfl rfl rfl rfl (vp_in_iff.mpr (by decide)) (g := (va_up (fun _ => none) 0 (some q_5))) rfl rfl dX0_init_164 ?_
          refine jj_iinc (v := 1) C dX0_init_165 rfl (by decide) (by decide) rfl ?_
          refine jj_goto (tgt := 146) C dX0_init_168 (by decide) ?_
          have hL3 : ∀ (n i : Nat) (f : Nat → Option Nat), i + n = 12 → 1 ≤ i → f 0 = some q_5 → jj_J p l e (jj_rm 2 32 62 394) s m args below meth c 2 A (MQ below (jj_q D A (fun (w : va_W) (r : Option Value) => (∃ q_1 q_2 q_3 q_4 q_5 : Nat, ∃ (f : Nat → Option Nat), f 0 = some q_5 ∧ w = [(h0, .inr (2, [.int 1, .int 0, .int 0, .int 0, .int 100, .int 0, .int 0, .int 0, .int 0, .int 0, .ref q_1, .ref q_2, .ref q_3, .ref q_4])), (q_1, .inl (cA 2, 6, .inr (.inl (fun _ => 0)))), (q_4, .inl (cA 7, 12, .inr (.inr (.inr (.inr f))))), (q_5, .inr (7, [.int 0, .int 0, .int 0, .long 0, .long 0]))] ∧ r = none))) args s 62 394 A) (jj_X D A [(h0, .inr (2, [.int 1, .int 0, .int 0, .int 0, .int 100, .int 0, .int 0, .int 0, .int 0, .int 0, .ref q_1, .ref q_2, .ref q_3, .ref q_4])), (q_1, .inl (cA 2, 6, .inr (.inl (fun _ => 0)))), (q_4, .inl (cA 7, 12, .inr (.inr (.inr (.inr f))))), (q_5, .inr (7, [.int 0, .int 0, .int 0, .long 0, .long 0]))]) (50 + 1 * i) (334 + 5 * i) 146 [(1, .int (nI i)), (0, .ref h0)] [] := by
            intro n
            induction n with
            | zero =>
              intro i f hin hi1 hf0
              obtain rfl : i = 12 := by omega
              show jj_J p l e (jj_rm 2 32 62 394) s m args below meth c 2 A (MQ below (jj_q D A (fun (w : va_W) (r : Option Value) => (∃ q_1 q_2 q_3 q_4 q_5 : Nat, ∃ (f : Nat → Option Nat), f 0 = some q_5 ∧ w = [(h0, .inr (2, [.int 1, .int 0, .int 0, .int 0, .int 100, .int 0, .int 0, .int 0, .int 0, .int 0, .ref q_1, .ref q_2, .ref q_3, .ref q_4])), (q_1, .inl (cA 2, 6, .inr (.inl (fun _ => 0)))), (q_4, .inl (cA 7, 12, .inr (.inr (.inr (.inr f))))), (q_5, .inr (7, [.int 0, .int 0, .int 0, .long 0, .long 0]))] ∧ r = none))) args s 62 394 A) (jj_X D A [(h0, .inr (2, [.int 1, .int 0, .int 0, .int 0, .int 100, .int 0, .int 0, .int 0, .int 0, .int 0, .ref q_1, .ref q_2, .ref q_3, .ref q_4])), (q_1, .inl (cA 2, 6, .inr (.inl (fun _ => 0)))), (q_4, .inl (cA 7, 12, .inr (.inr (.inr (.inr f))))), (q_5, .inr (7, [.int 0, .int 0, .int 0, .long 0, .long 0]))]) 62 394 146 [(1, .int 12), (0, .ref h0)] []
              refine jj_iload_n C dX0_init_146 rfl ?_
              refine jj_bipush (v := 12) C dX0_init_147 (by decide) ?_
              refine jj_icmp_geT (tgt := 171) C dX0_init_149 (by decide) (by decide) ?_
              exact jj_vretI C ⟨q_1, q_2, q_3, q_4, q_5, f, hf0, rfl, rfl⟩ dX0_init_171 (jj_le rfl) (jj_le rfl)
            | succ n ih =>
              intro i f hin hi1 hf0
              refine jj_iload_n C dX0_init_146 rfl ?_
              refine jj_bipush (v := 12) C dX0_init_147 (by decide) ?_
              refine jj_icmp_geF (tgt := 171) C dX0_init_149 (by decide) (jj_ixF (i := i) (N := 12) (by omega) (by decide) (by decide)) ?_
              refine jj_aload_n C dX0_init_152 rfl ?_
              refine jj_get C jk_2 13 (by decide) jw_76 0 rfl rfl dX0_init_153 ?_
              refine jj_iload_n C dX0_init_156 rfl ?_
              refine jj_new (wt := []) C jk_7 jw_75 jw_83 jw_84 jd_7 (by show _ ≤ 62; omega) (by show _ ≤ 394; omega) dX0_init_157 (fun q_8 => ?_)
              refine jj_apd rfl ?_
              refine jj_dup C dX0_init_160 rfl ?_
              refine jq_callIN (host := "SeriesFund") (rest := [.ref q_8, .int (nI i), .ref q_4]) C (ct_X6_init_1 hl D cA ak q_8) [4] [0, 1, 2, 3] rfl rfl (by decide) (by decide) (by decide) (by decide +kernel) jw_92 jw_84 jw_91 rfl jn_X6_init rfl (jj_le rfl) (jj_le rfl) (by show _ ≤ 62; omega) (by show _ ≤ 394; omega) (jj_le rfl) dX0_init_161 rfl (fun w1 r O_10 => ?_)
              obtain ⟨rfl, rfl⟩ := O_10
              refine jj_apd rfl ?_
              refine jj_aast C 2 7 4 rfl rfl rfl rfl (vp_in_nI (by omega) (by decide)) (g := (va_up f ((nI i)).toNatClampNeg (some q_8))) rfl rfl dX0_init_164 ?_
              refine jj_iinc (v := nI (i + 1)) C dX0_init_165 rfl (jj_ni i) (by decide) rfl ?_
              refine jj_goto (tgt := 146) C dX0_init_168 (by decide) ?_
              refine jj_drop [0, 1, 2, 3] rfl (by decide) ?_
              refine jj_widen (k := (50 + 1 * (i + 1))) (n := (334 + 5 * (i + 1))) (by omega) (by omega) ?_
              exact ih (i + 1) (va_up f ((nI i)).toNatClampNeg (some q_8)) (by omega) (by omega) (by show (if 0 = (nI i).toNatClampNeg then _ else _) = _; rw [nI_clamp (by omega), if_neg (by omega)]; exact hf0)
          exact hL3 11 1 (va_up (fun _ => none) 0 (some q_5)) rfl (by decide) rfl
        | succ n ih =>
          intro i f hin
          refine jj_iload_n C dX0_init_119 rfl ?_
          refine jj_bipush (v := 40) C dX0_init_120 (by decide) ?_
          refine jj_icmp_geF (tgt := 144) C dX0_init_122 (by decide) (jj_ixF (i := i) (N := 40) (by omega) (by decide) (by decide)) ?_
          refine jj_aload_n C dX0_init_125 rfl ?_
          refine jj_get C jk_2 12 (by decide) jw_74 0 rfl rfl dX0_init_126 ?_
          refine jj_iload_n C dX0_init_129 rfl ?_
          refine jj_new (wt := []) C jk_5 jw_73 jw_101 jw_102 jd_5 (by show _ ≤ 62; omega) (by show _ ≤ 394; omega) dX0_init_130 (fun q_11 => ?_)
          refine jj_apd rfl ?_
          refine jj_dup C dX0_init_133 rfl ?_
          refine jq_callIN (host := "SeriesFund") (rest := [.ref q_11, .int (nI i), .ref q_3]) C (ct_X4_init_1 hl D cA ak q_11) [4] [0, 1, 2, 3] rfl rfl (by decide) (by decide) (by decide) (by decide +kernel) jw_111 jw_102 jw_110 rfl jn_X4_init rfl (jj_le rfl) (jj_le rfl) (by show _ ≤ 62; omega) (by show _ ≤ 394; omega) (jj_le rfl) dX0_init_134 rfl (fun w1 r O_13 => ?_)
          obtain ⟨rfl, rfl⟩ := O_13
          refine jj_apd rfl ?_
          refine jj_aast C 2 6 4 rfl rfl rfl rfl (vp_in_nI (by omega) (by decide)) (g := (va_up f ((nI i)).toNatClampNeg (some q_11))) rfl rfl dX0_init_137 ?_
          refine jj_iinc (v := nI (i + 1)) C dX0_init_138 rfl (jj_ni i) (by decide) rfl ?_
          refine jj_goto (tgt := 119) C dX0_init_141 (by decide) ?_
          refine jj_drop [0, 1, 2, 3] rfl (by decide) ?_
          refine jj_widen (k := (10 + 1 * (i + 1))) (n := (94 + 6 * (i + 1))) (by omega) (by omega) ?_
          exact ih (i + 1) (va_up f ((nI i)).toNatClampNeg (some q_11)) (by omega)
      exact hL2 40 0 (fun _ => none) rfl
    | succ n ih =>
      intro i f hin
      refine jj_iload_n C dX0_init_92 rfl ?_
      refine jj_bipush (v := 6) C dX0_init_93 (by decide) ?_
      refine jj_icmp_geF (tgt := 117) C dX0_init_95 (by decide) (jj_ixF (i := i) (N := 6) (by omega) (by decide) (by decide)) ?_
      refine jj_aload_n C dX0_init_98 rfl ?_
      refine jj_get C jk_2 11 (by decide) jw_72 0 rfl rfl dX0_init_99 ?_
      refine jj_iload_n C dX0_init_102 rfl ?_
      refine jj_new (wt := []) C jk_9 jw_71 jw_119 jw_120 jd_9 (by show _ ≤ 62; omega) (by show _ ≤ 394; omega) dX0_init_103 (fun q_14 => ?_)
      refine jj_apd rfl ?_
      refine jj_dup C dX0_init_106 rfl ?_
      refine jq_callIN (host := "SeriesFund") (rest := [.ref q_14, .int (nI i), .ref q_2]) C (ct_X8_init_1 hl D cA ak q_14) [5] [0, 1, 2, 3, 4] rfl rfl (by decide) (by decide) (by decide) (by decide +kernel) jw_129 jw_120 jw_128 rfl jn_X8_init rfl (jj_le rfl) (jj_le rfl) (by show _ ≤ 62; omega) (by show _ ≤ 394; omega) (jj_le rfl) dX0_init_107 rfl (fun w1 r O_16 => ?_)
      obtain ⟨rfl, rfl⟩ := O_16
      refine jj_apd rfl ?_
      refine jj_aast C 2 8 5 rfl rfl rfl rfl (vp_in_nI (by omega) (by decide)) (g := (va_up f ((nI i)).toNatClampNeg (some q_14))) rfl rfl dX0_init_110 ?_
      refine jj_iinc (v := nI (i + 1)) C dX0_init_111 rfl (jj_ni i) (by decide) rfl ?_
      refine jj_goto (tgt := 92) C dX0_init_114 (by decide) ?_
      refine jj_drop [0, 1, 2, 3, 4] rfl (by decide) ?_
      refine jj_widen (k := (4 + 1 * (i + 1))) (n := (64 + 5 * (i + 1))) (by omega) (by omega) ?_
      exact ih (i + 1) (va_up f ((nI i)).toNatClampNeg (some q_14)) (by omega)
  exact hL1 6 0 (fun _ => none) rfl


set_option maxHeartbeats 4000000 in
set_option maxRecDepth 100000 in
theorem ct_X1_init_1 {l : Launch} (hl : l.stackTraces = false) (D : va_G) (cA : Nat → ClassId) (ak : (Nat → Nat) × (Nat → Nat)) (h0 : Nat) : jj_I l D cA ak yX1_init (.code yX1_init cX1_init 2 none) 2 32 7 36 [(h0, .inr (3, [.null, .long 0, .long 0, .long 0, .long 0, .long 0]))] [.ref h0] (fun (w : va_W) (r : Option Value) => (∃ q_1 : Nat, w = [(h0, .inr (3, [.ref q_1, .long 0, .long 0, .long 0, .long 0, .long 0]))] ∧ r = none)) := by
  refine jj_startI hl (by decide) jw_155 (jj_le rfl) ?_
  intro p e s m args below meth c A hargs hA C hmn
  refine jj_aload_n C dX1_init_0 rfl ?_
  refine jj_objInit C jw_147 jw_1 jw_2 (jj_le rfl) (jj_le rfl) dX1_init_1 ?_
  refine jj_aload_n C dX1_init_4 rfl ?_
  refine jj_bipush (v := 6) C dX1_init_5 (by decide) ?_
  refine jj_newq (N' := 6) C 8 rfl jw_148 (by decide) (by decide) (by decide) (jj_le rfl) (jj_le rfl) (jj_le rfl) dX1_init_7 (fun q_1 => ?_)
  refine jj_apd rfl ?_
  refine jj_putF C jk_3 0 (by decide) jw_149 rfl hmn rfl 0 rfl rfl rfl rfl rfl dX1_init_10 ?_
  refine jj_aload_n C dX1_init_13 rfl ?_
  refine jj_lconst (v := 0) C dX1_init_14 (by decide) ?_
  refine jj_put C jk_3 1 (by decide) jw_150 rfl 0 rfl rfl rfl rfl rfl dX1_init_15 ?_
  refine jj_aload_n C dX1_init_18 rfl ?_
  refine jj_lconst (v := 0) C dX1_init_19 (by decide) ?_
  refine jj_put C jk_3 2 (by decide) jw_151 rfl 0 rfl rfl rfl rfl rfl dX1_init_20 ?_
  refine jj_aload_n C dX1_init_23 rfl ?_
  refine jj_lconst (v := 0) C dX1_init_24 (by decide) ?_
  refine jj_put C jk_3 3 (by decide) jw_152 rfl 0 rfl rfl rfl rfl rfl dX1_init_25 ?_
  refine jj_aload_n C dX1_init_28 rfl ?_
  refine jj_lconst (v := 0) C dX1_init_29 (by decide) ?_
  refine jj_put C jk_3 4 (by decide) jw_153 rfl 0 rfl rfl rfl rfl rfl dX1_init_30 ?_
  refine jj_aload_n C dX1_init_33 rfl ?_
  refine jj_lconst (v := 0) C dX1_init_34 (by decide) ?_
  refine jj_put C jk_3 5 (by decide) jw_154 rfl 0 rfl rfl rfl rfl rfl dX1_init_35 ?_
  refine jj_iconst (v := 0) C dX1_init_38 (by decide) ?_
  refine jj_istore_n C dX1_init_39 (by decide) rfl ?_
  have hL1 : ∀ (n i : Nat) (f : Nat → Option Nat), i + n = 6 → jj_J p l e (jj_rm 2 32 7 36) s m args below meth c 2 A (MQ below (jj_q D A (fun (w : va_W) (r : Option Value) => (∃ q_1 : Nat, w = [(h0, .inr (3, [.ref q_1, .long 0, .long 0, .long 0, .long 0, .long 0]))] ∧ r = none))) args s 7 36 A) (jj_X D A [(h0, .inr (3, [.ref q_1, .long 0, .long 0, .long 0, .long 0, .long 0])), (q_1, .inl (cA 8, 6, .inr (.inr (.inr (.inr f)))))]) (1 + 1 * i) (6 + 5 * i) 40 [(1, .int (nI i)), (0, .ref h0)] [] := by
    intro n
    induction n with
    | zero =>
      intro i f hin
      obtain rfl : i = 6 := by omega
      show jj_J p l e (jj_rm 2 32 7 36) s m args below meth c 2 A (MQ below (jj_q D A (fun (w : va_W) (r : Option Value) => (∃ q_1 : Nat, w = [(h0, .inr (3, [.ref q_1, .long 0, .long 0, .long 0, .long 0, .long 0]))] ∧ r = none))) args s 7 36 A) (jj_X D A [(h0, .inr (3, [.ref q_1, .long 0, .long 0, .long 0, .long 0, .long 0])), (q_1, .inl (cA 8, 6, .inr (.inr (.inr (.inr f)))))]) 7 36 40 [(1, .int 6), (0, .ref h0)] []
      refine jj_drop [0] rfl (by decide) ?_
      refine jj_iload_n C dX1_init_40 rfl ?_
      refine jj_bipush (v := 6) C dX1_init_41 (by decide) ?_
      refine jj_icmp_geT (tgt := 65) C dX1_init_43 (by decide) (by decide) ?_
      exact jj_vretI C ⟨q_1, rfl, rfl⟩ dX1_init_65 (jj_le rfl) (jj_le rfl)
    | succ n ih =>
      intro i f hin
      refine jj_iload_n C dX1_init_40 rfl ?_
      refine jj_bipush (v := 6) C dX1_init_41 (by decide) ?_
      refine jj_icmp_geF (tgt := 65) C dX1_init_43 (by decide) (jj_ixF (i := i) (N := 6) (by omega) (by decide) (by decide)) ?_
      refine jj_aload_n C dX1_init_46 rfl ?_
      refine jj_get C jk_3 0 (by decide) jw_149 0 rfl rfl dX1_init_47 ?_
      refine jj_iload_n C dX1_init_50 rfl ?_
      refine jj_new (wt := []) C jk_9 jw_148 jw_119 jw_120 jd_9 (by show _ ≤ 7; omega) (by show _ ≤ 36; omega) dX1_init_51 (fun q_2 => ?_)
      refine jj_apd rfl ?_
      refine jj_dup C dX1_init_54 rfl ?_
      refine jq_callIN (host := "SeriesFund") (rest := [.ref q_2, .int (nI i), .ref q_1]) C (ct_X8_init_1 hl D cA ak q_2) [2] [0, 1] rfl rfl (by decide) (by decide) (by decide) (by decide +kernel) jw_129 jw_120 jw_128 rfl jn_X8_init rfl (jj_le rfl) (jj_le rfl) (by show _ ≤ 7; omega) (by show _ ≤ 36; omega) (jj_le rfl) dX1_init_55 rfl (fun w1 r O_4 => ?_)
      obtain ⟨rfl, rfl⟩ := O_4
      refine jj_apd rfl ?_
      refine jj_aast C 1 8 2 rfl rfl rfl rfl (vp_in_nI (by omega) (by decide)) (g := (va_up f ((nI i)).toNatClampNeg (some q_2))) rfl rfl dX1_init_58 ?_
      refine jj_iinc (v := nI (i + 1)) C dX1_init_59 rfl (jj_ni i) (by decide) rfl ?_
      refine jj_goto (tgt := 40) C dX1_init_62 (by decide) ?_
      refine jj_drop [0, 1] rfl (by decide) ?_
      refine jj_widen (k := (1 + 1 * (i + 1))) (n := (6 + 5 * (i + 1))) (by omega) (by omega) ?_
      exact ih (i + 1) (va_up f ((nI i)).toNatClampNeg (some q_2)) (by omega)
  exact hL1 6 0 (fun _ => none) rfl


set_option maxHeartbeats 4000000 in
set_option maxRecDepth 100000 in
theorem ct_X5_init_1 {l : Launch} (hl : l.stackTraces = false) (D : va_G) (cA : Nat → ClassId) (ak : (Nat → Nat) × (Nat → Nat)) (h0 : Nat) : jj_I l D cA ak yX5_init (.code yX5_init cX5_init 1 none) 1 12 2 1320 [(h0, .inr (6, [.null, .int 0, .null]))] [.ref h0] (fun (w : va_W) (r : Option Value) => (∃ q_1 q_2 : Nat, w = [(h0, .inr (6, [.ref q_1, .int 0, .ref q_2])), (q_1, .inl (cA 0, 1300, .inl (fun _ => 0))), (q_2, .inl (cA 0, 20, .inl (fun _ => 0)))] ∧ r = none)) := by
  refine jj_startI hl (by decide) jw_175 (jj_le rfl) ?_
  intro p e s m args below meth c A hargs hA C hmn
  refine jj_aload_n C dX5_init_0 rfl ?_
  refine jj_objInit C jw_170 jw_1 jw_2 (jj_le rfl) (jj_le rfl) dX5_init_1 ?_
  refine jj_aload_n C dX5_init_4 rfl ?_
  refine jj_sipush (v := 1300) C dX5_init_5 (by decide) ?_
  refine jj_newa (atype := .byte) (fty := .byte) (N' := 1300) C 0 rfl rfl jw_171 (a0 := (1300, .inl (fun _ => 0))) (fun _ => rfl) (by decide) (by decide) (jj_le rfl) (jj_le rfl) (jj_le rfl) dX5_init_8 (fun q_1 => ?_)
  refine jj_apd rfl ?_
  refine jj_putF C jk_6 0 (by decide) jw_172 rfl hmn rfl 0 rfl rfl rfl rfl rfl dX5_init_10 ?_
  refine jj_aload_n C dX5_init_13 rfl ?_
  refine jj_iconst (v := 0) C dX5_init_14 (by decide) ?_
  refine jj_put C jk_6 1 (by decide) jw_173 rfl 0 rfl rfl rfl rfl rfl dX5_init_15 ?_
  refine jj_aload_n C dX5_init_18 rfl ?_
  refine jj_bipush (v := 20) C dX5_init_19 (by decide) ?_
  refine jj_newa (atype := .byte) (fty := .byte) (N' := 20) C 0 rfl rfl jw_171 (a0 := (20, .inl (fun _ => 0))) (fun _ => rfl) (by decide) (by decide) (jj_le rfl) (jj_le rfl) (jj_le rfl) dX5_init_21 (fun q_2 => ?_)
  refine jj_apd rfl ?_
  refine jj_putF C jk_6 2 (by decide) jw_174 rfl hmn rfl 0 rfl rfl rfl rfl rfl dX5_init_23 ?_
  exact jj_vretI C ⟨q_1, q_2, rfl, rfl⟩ dX5_init_26 (jj_le rfl) (jj_le rfl)


set_option maxHeartbeats 4000000 in
set_option maxRecDepth 100000 in
theorem ct_X10_init_1 {l : Launch} (hl : l.stackTraces = false) (D : va_G) (cA : Nat → ClassId) (ak : (Nat → Nat) × (Nat → Nat)) (h0 : Nat) : jj_I l D cA ak yX10_init (.code yX10_init cX10_init 1 none) 3 53 140 2598 [(h0, .inr (11, [.null, .int 0, .int 0, .null, .null, .null, .null, .int 0, .int 0, .null]))] [.ref h0] (fun (w : va_W) (r : Option Value) => (∃ q_1 q_4 q_5 q_8 q_9 q_10 q_11 q_12 q_15 q_18 q_19 q_20 q_21 q_22 q_25 q_28 q_29 q_30 q_33 q_34 : Nat, ∃ (f_13 : Nat → Option Nat) (f_23 : Nat → Option Nat), f_13 0 = some q_12 ∧ f_23 0 = some q_22 ∧ w = [(h0, .inr (11, [.ref q_1, .int 0, .int (-1), .ref q_5, .ref q_15, .ref q_25, .ref q_29, .int 0, .int 0, .ref q_30])), (q_1, .inr (10, [.ref q_4, .int 0, .int 0, .int 0, .int 0, .int 0, .int (-1)])), (q_4, .inl (cA 1, 400, .inl (fun _ => 0))), (q_5, .inr (2, [.int 1, .int 0, .int 0, .int 0, .int 100, .int 0, .int 0, .int 0, .int 0, .int 0, .ref q_8, .ref q_9, .ref q_10, .ref q_11])), (q_8, .inl (cA 2, 6, .inr (.inl (fun _ => 0)))), (q_11, .inl (cA 7, 12, .inr (.inr (.inr (.inr f_13))))), (q_12, .inr (7, [.int 0, .int 0, .int 0, .long 0, .long 0])), (q_15, .inr (2, [.int 1, .int 0, .int 0, .int 0, .int 100, .int 0, .int 0, .int 0, .int 0, .int 0, .ref q_18, .ref q_19, .ref q_20, .ref q_21])), (q_18, .inl (cA 2, 6, .inr (.inl (fun _ => 0)))), (q_21, .inl (cA 7, 12, .inr (.inr (.inr (.inr f_23))))), (q_22, .inr (7, [.int 0, .int 0, .int 0, .long 0, .long 0])), (q_25, .inr (3, [.ref q_28, .long 0, .long 0, .long 0, .long 0, .long 0])), (q_29, .inl (cA 5, 10, .inr (.inr (.inr (.inr (fun _ => none)))))), (q_30, .inr (6, [.ref q_33, .int 0, .ref q_34])), (q_33, .inl (cA 0, 1300, .inl (fun _ => 0))), (q_34, .inl (cA 0, 20, .inl (fun _ => 0)))] ∧ r = none)) := by
  refine jj_startI hl (by decide) jw_179 (jj_le rfl) ?_
  intro p e s m args below meth c A hargs hA C hmn
  refine jj_aload_n C dX10_init_0 rfl ?_
  refine jj_objInit C jw_0 jw_1 jw_2 (jj_le rfl) (jj_le rfl) dX10_init_1 ?_
  refine jj_aload_n C dX10_init_4 rfl ?_
  refine jj_new (wt := []) C jk_10 jw_11 jw_12 jw_13 jd_10 (jj_le rfl) (jj_le rfl) dX10_init_5 (fun q_1 => ?_)
  refine jj_apd rfl ?_
  refine jj_dup C dX10_init_8 rfl ?_
  refine jq_callIN (host := "SeriesFund") (rest := [.ref q_1, .ref h0]) C (ct_X9_init_1 hl D cA ak q_1) [1] [0] rfl rfl (by decide) (by decide) (by decide) (by decide +kernel) jw_24 jw_13 jw_23 rfl jn_X9_init rfl (jj_le rfl) (jj_le rfl) (jj_le rfl) (jj_le rfl) (jj_le rfl) dX10_init_9 rfl (fun w1 r O_3 => ?_)
  obtain ⟨q_4, rfl, rfl⟩ := O_3
  refine jj_apd rfl ?_
  refine jj_putF C jk_11 0 (by decide) jw_26 rfl hmn rfl 0 rfl rfl rfl rfl rfl dX10_init_12 ?_
  refine jj_aload_n C dX10_init_15 rfl ?_
  refine jj_iconst (v := 0) C dX10_init_16 (by decide) ?_
  refine jj_put C jk_11 1 (by decide) jw_38 rfl 0 rfl rfl rfl rfl rfl dX10_init_17 ?_
  refine jj_aload_n C dX10_init_20 rfl ?_
  refine jj_iconst (v := (-1)) C dX10_init_21 (by decide) ?_
  refine jj_put C jk_11 2 (by decide) jw_39 rfl 0 rfl rfl rfl rfl rfl dX10_init_22 ?_
  refine jj_aload_n C dX10_init_25 rfl ?_
  refine jj_new (wt := []) C jk_2 jw_55 jw_56 jw_57 jd_2 (jj_le rfl) (jj_le rfl) dX10_init_26 (fun q_5 => ?_)
  refine jj_apd rfl ?_
  refine jj_dup C dX10_init_29 rfl ?_
  refine jq_callI (rest := [.ref q_5, .ref h0]) C (ct_X0_init_1 hl D cA ak q_5) [3] [0, 1, 2] rfl rfl (by decide) (by decide) (by decide) jw_132 jw_133 jw_57 jw_131 rfl jn_X0_init rfl (jj_le rfl) (jj_le rfl) (jj_le rfl) (jj_le rfl) (jj_le rfl) dX10_init_30 rfl (fun w1 r O_7 => ?_)
  obtain ⟨q_8, q_9, q_10, q_11, q_12, f_13, c_14, rfl, rfl⟩ := O_7
  refine jj_apd rfl ?_
  refine jj_putF C jk_11 3 (by decide) jw_135 rfl hmn rfl 0 rfl rfl rfl rfl rfl dX10_init_33 ?_
  refine jj_aload_n C dX10_init_36 rfl ?_
  refine jj_new (wt := []) C jk_2 jw_55 jw_56 jw_57 jd_2 (jj_le rfl) (jj_le rfl) dX10_init_37 (fun q_15 => ?_)
  refine jj_apd rfl ?_
  refine jj_dup C dX10_init_40 rfl ?_
  refine jq_callI (rest := [.ref q_15, .ref h0]) C (ct_X0_init_1 hl D cA ak q_15) [7] [0, 1, 2, 3, 4, 5, 6] rfl rfl (by decide) (by decide) (by decide) jw_132 jw_133 jw_57 jw_131 rfl jn_X0_init rfl (jj_le rfl) (jj_le rfl) (jj_le rfl) (jj_le rfl) (jj_le rfl) dX10_init_41 rfl (fun w1 r O_17 => ?_)
  obtain ⟨q_18, q_19, q_20, q_21, q_22, f_23, c_24, rfl, rfl⟩ := O_17
  refine jj_apd rfl ?_
  refine jj_putF C jk_11 4 (by decide) jw_136 rfl hmn rfl 0 rfl rfl rfl rfl rfl dX10_init_44 ?_
  refine jj_aload_n C dX10_init_47 rfl ?_
  refine jj_new (wt := []) C jk_3 jw_144 jw_145 jw_146 jd_3 (jj_le rfl) (jj_le rfl) dX10_init_48 (fun q_25 => ?_)
  refine jj_apd rfl ?_
  refine jj_dup C dX10_init_51 rfl ?_
  refine jq_callI (rest := [.ref q_25, .ref h0]) C (ct_X1_init_1 hl D cA ak q_25) [11] [0, 1, 2, 3, 4, 5, 6, 7, 8, 9, 10] rfl rfl (by decide) (by decide) (by decide) jw_156 jw_157 jw_146 jw_155 rfl jn_X1_init rfl (jj_le rfl) (jj_le rfl) (jj_le rfl) (jj_le rfl) (jj_le rfl) dX10_init_52 rfl (fun w1 r O_27 => ?_)
  obtain ⟨q_28, rfl, rfl⟩ := O_27
  refine jj_apd rfl ?_
  refine jj_putF C jk_11 5 (by decide) jw_159 rfl hmn rfl 0 rfl rfl rfl rfl rfl dX10_init_55 ?_
  refine jj_aload_n C dX10_init_58 rfl ?_
  refine jj_bipush (v := 10) C dX10_init_59 (by decide) ?_
  refine jj_newq (N' := 10) C 5 rfl jw_55 (by decide) (by decide) (by decide) (jj_le rfl) (jj_le rfl) (jj_le rfl) dX10_init_61 (fun q_29 => ?_)
  refine jj_apd rfl ?_
  refine jj_putF C jk_11 6 (by decide) jw_160 rfl hmn rfl 0 rfl rfl rfl rfl rfl dX10_init_64 ?_
  refine jj_aload_n C dX10_init_67 rfl ?_
  refine jj_iconst (v := 0) C dX10_init_68 (by decide) ?_
  refine jj_put C jk_11 7 (by decide) jw_161 rfl 0 rfl rfl rfl rfl rfl dX10_init_69 ?_
  refine jj_aload_n C dX10_init_72 rfl ?_
  refine jj_iconst (v := 0) C dX10_init_73 (by decide) ?_
  refine jj_put C jk_11 8 (by decide) jw_162 rfl 0 rfl rfl rfl rfl rfl dX10_init_74 ?_
  refine jj_aload_n C dX10_init_77 rfl ?_
  refine jj_new (wt := []) C jk_6 jw_167 jw_168 jw_169 jd_6 (jj_le rfl) (jj_le rfl) dX10_init_78 (fun q_30 => ?_)
  refine jj_apd rfl ?_
  refine jj_dup C dX10_init_81 rfl ?_
  refine jq_callIN (host := "SeriesFund") (rest := [.ref q_30, .ref h0]) C (ct_X5_init_1 hl D cA ak q_30) [13] [0, 1, 2, 3, 4, 5, 6, 7, 8, 9, 10, 11, 12] rfl rfl (by decide) (by decide) (by decide) (by decide +kernel) jw_176 jw_169 jw_175 rfl jn_X5_init rfl (jj_le rfl) (jj_le rfl) (jj_le rfl) (jj_le rfl) (jj_le rfl) dX10_init_82 rfl (fun w1 r O_32 => ?_)
  obtain ⟨q_33, q_34, rfl, rfl⟩ := O_32
  refine jj_apd rfl ?_
  refine jj_putF C jk_11 9 (by decide) jw_178 rfl hmn rfl 0 rfl rfl rfl rfl rfl dX10_init_85 ?_
  exact jj_vretI C ⟨q_1, q_4, q_5, q_8, q_9, q_10, q_11, q_12, q_15, q_18, q_19, q_20, q_21, q_22, q_25, q_28, q_29, q_30, q_33, q_34, f_13, f_23, c_14, c_24, rfl, rfl⟩ dX10_init_88 (jj_le rfl) (jj_le rfl)


set_option maxHeartbeats 4000000 in
set_option maxRecDepth 100000 in
theorem ct_X11_lay_1 {l : Launch} (hl : l.stackTraces = false) (D : va_G) (cA : Nat → ClassId) (ak : (Nat → Nat) × (Nat → Nat)) (h0 : Nat) : jj_M l D cA ak yX11_lay (.code yX11_lay cX11_lay 2 none) 0 0 0 0 [(h0, .inl (cA 2, 334, .inr (.inl (fun _ => 0))))] [.ref h0] (fun (w : va_W) (r : Option Value) => (w = [(h0, .inl (cA 2, 334, .inr (.inl (vp_updL (vp_updL (fun _ => 0) 0 1) 4 100))))] ∧ r = none)) jj_noX := by
  refine jj_start hl (by decide) jw_222 (jj_le rfl) ?_
  intro p e s m args below meth c A hargs hA C hex hmn
  refine jj_iconst (v := 0) C dX11_lay_0 (by decide) ?_
  refine jj_istore_n C dX11_lay_1 (by decide) rfl ?_
  have hL1 : ∀ (n i : Nat), i + n = 334 → jj_J p l e (jj_rm 0 0 0 0) s m args below meth c 2 A (vx_MQ below (jj_q D A (fun (w : va_W) (r : Option Value) => (w = [(h0, .inl (cA 2, 334, .inr (.inl (vp_updL (vp_updL (fun _ => 0) 0 1) 4 100))))] ∧ r = none))) (jj_x D A jj_noX) args s 0 0 A) (jj_X D A [(h0, .inl (cA 2, 334, .inr (.inl (fun _ => 0))))]) 0 0 2 [(1, .int (nI i)), (0, .ref h0)] [] := by
    intro n
    induction n with
    | zero =>
      intro i hin
      obtain rfl : i = 334 := by omega
      show jj_J p l e (jj_rm 0 0 0 0) s m args below meth c 2 A (vx_MQ below (jj_q D A (fun (w : va_W) (r : Option Value) => (w = [(h0, .inl (cA 2, 334, .inr (.inl (vp_updL (vp_updL (fun _ => 0) 0 1) 4 100))))] ∧ r = none))) (jj_x D A jj_noX) args s 0 0 A) (jj_X D A [(h0, .inl (cA 2, 334, .inr (.inl (fun _ => 0))))]) 0 0 2 [(1, .int 334), (0, .ref h0)] []
      refine jj_iload_n C dX11_lay_2 rfl ?_
      refine jj_sipush (v := 334) C dX11_lay_3 (by decide) ?_
      refine jj_icmp_geT (tgt := 19) C dX11_lay_6 (by decide) (by decide) ?_
      refine jj_aload_n C dX11_lay_19 rfl ?_
      refine jj_iconst (v := 0) C dX11_lay_20 (by decide) ?_
      refine jj_lconst (v := 1) C dX11_lay_21 (by decide) ?_
      refine jj_last C 0 rfl (vp_in_iff.mpr (by decide)) (g := (vp_updL (fun _ => 0) 0 1)) rfl rfl dX11_lay_22 ?_
      refine jj_aload_n C dX11_lay_23 rfl ?_
      refine jj_iconst (v := 4) C dX11_lay_24 (by decide) ?_
      refine jj_ldc2 (v := 100) C dX11_lay_25 jw_221 ?_
      refine jj_last C 0 rfl (vp_in_iff.mpr (by decide)) (g := (vp_updL (vp_updL (fun _ => 0) 0 1) 4 100)) rfl rfl dX11_lay_28 ?_
      exact jj_vret C ⟨rfl, rfl⟩ dX11_lay_29 (jj_le rfl) (jj_le rfl)
    | succ n ih =>
      intro i hin
      refine jj_iload_n C dX11_lay_2 rfl ?_
      refine jj_sipush (v := 334) C dX11_lay_3 (by decide) ?_
      refine jj_icmp_geF (tgt := 19) C dX11_lay_6 (by decide) (jj_ixF (i := i) (N := 334) (by omega) (by decide) (by decide)) ?_
      refine jj_aload_n C dX11_lay_9 rfl ?_
      refine jj_iload_n C dX11_lay_10 rfl ?_
      refine jj_lconst (v := 0) C dX11_lay_11 (by decide) ?_
      refine jj_last C 0 rfl (vp_in_nI (by omega) (by decide)) (g := (vp_updL (fun _ => 0) ((nI i)).toNatClampNeg 0)) rfl rfl dX11_lay_12 ?_
      refine jj_iinc (v := nI (i + 1)) C dX11_lay_13 rfl (jj_ni i) (by decide) rfl ?_
      refine jj_goto (tgt := 2) C dX11_lay_16 (by decide) ?_
      rw [jj_z0]
      exact ih (i + 1) (by omega)
  exact hL1 334 0 rfl


set_option maxHeartbeats 4000000 in
set_option maxRecDepth 100000 in
theorem ct_X11_init_1 {l : Launch} (hl : l.stackTraces = false) (D : va_G) (cA : Nat → ClassId) (ak : (Nat → Nat) × (Nat → Nat)) (h0 : Nat) : jj_I l D cA ak yX11_init (.code yX11_init cX11_init 1 none) 1 21 12 7846 [(h0, .inr (12, [.null, .null, .null, .null, .null, .null, .int 0, .int 0, .long 0, .long 0, .null, .null, .null, .int 0, .int 0, .int 0, .int 0, .int 0, .int 0, .int 0, .int 0, .null, .null, .null, .int 0]))] [.ref h0] (fun (w : va_W) (r : Option Value) => (∃ q_1 q_2 q_3 q_4 q_5 q_6 q_7 q_8 q_9 q_10 q_11 q_12 : Nat, w = [(h0, .inr (12, [.ref q_1, .ref q_2, .ref q_3, .ref q_4, .ref q_5, .ref q_6, .int 0, .int 0, .long 0, .long 0, .ref q_7, .ref q_8, .ref q_9, .int 0, .int 0, .int 0, .int 0, .int 0, .int (-1), .int 0, .int 0, .ref q_10, .ref q_11, .ref q_12, .int 0])), (q_2, .inl (cA 2, 334, .inr (.inl (fun _ => 0)))), (q_3, .inl (cA 2, 334, .inr (.inl (fun _ => 0)))), (q_4, .inl (cA 2, 334, .inr (.inl (fun _ => 0)))), (q_5, .inl (cA 2, 334, .inr (.inl (fun _ => 0)))), (q_6, .inl (cA 2, 3340, .inr (.inl (fun _ => 0)))), (q_7, .inl (cA 2, 12, .inr (.inl (fun _ => 0)))), (q_8, .inl (cA 3, 12, .inl (fun _ => 0))), (q_9, .inl (cA 0, 400, .inl (fun _ => 0))), (q_10, .inl (cA 2, 6, .inr (.inl (fun _ => 0)))), (q_11, .inl (cA 2, 6, .inr (.inl (fun _ => 0)))), (q_12, .inl (cA 0, 2400, .inl (fun _ => 0))), (q_1, .inl (cA 2, 334, .inr (.inl (vp_updL (vp_updL (fun _ => 0) 0 1) 4 100))))] ∧ r = none)) := by
  refine jj_startI hl (by decide) jw_227 (jj_le rfl) ?_
  intro p e s m args below meth c A hargs hA C hmn
  refine jj_aload_n C dX11_init_0 rfl ?_
  refine jj_objInit C jw_180 jw_1 jw_2 (jj_le rfl) (jj_le rfl) dX11_init_1 ?_
  refine jj_aload_n C dX11_init_4 rfl ?_
  refine jj_sipush (v := 334) C dX11_init_5 (by decide) ?_
  refine jj_newa (atype := .long) (fty := .long) (N' := 334) C 2 rfl rfl jw_69 (a0 := (334, .inr (.inl (fun _ => 0)))) (fun _ => rfl) (by decide) (by decide) (jj_le rfl) (jj_le rfl) (jj_le rfl) dX11_init_8 (fun q_1 => ?_)
  refine jj_apd rfl ?_
  refine jj_putF C jk_12 0 (by decide) jw_181 rfl hmn rfl 0 rfl rfl rfl rfl rfl dX11_init_10 ?_
  refine jj_aload_n C dX11_init_13 rfl ?_
  refine jj_sipush (v := 334) C dX11_init_14 (by decide) ?_
  refine jj_newa (atype := .long) (fty := .long) (N' := 334) C 2 rfl rfl jw_69 (a0 := (334, .inr (.inl (fun _ => 0)))) (fun _ => rfl) (by decide) (by decide) (jj_le rfl) (jj_le rfl) (jj_le rfl) dX11_init_17 (fun q_2 => ?_)
  refine jj_apd rfl ?_
  refine jj_putF C jk_12 1 (by decide) jw_208 rfl hmn rfl 0 rfl rfl rfl rfl rfl dX11_init_19 ?_
  refine jj_aload_n C dX11_init_22 rfl ?_
  refine jj_sipush (v := 334) C dX11_init_23 (by decide) ?_
  refine jj_newa (atype := .long) (fty := .long) (N' := 334) C 2 rfl rfl jw_69 (a0 := (334, .inr (.inl (fun _ => 0)))) (fun _ => rfl) (by decide) (by decide) (jj_le rfl) (jj_le rfl) (jj_le rfl) dX11_init_26 (fun q_3 => ?_)
  refine jj_apd rfl ?_
  refine jj_putF C jk_12 2 (by decide) jw_209 rfl hmn rfl 0 rfl rfl rfl rfl rfl dX11_init_28 ?_
  refine jj_aload_n C dX11_init_31 rfl ?_
  refine jj_sipush (v := 334) C dX11_init_32 (by decide) ?_
  refine jj_newa (atype := .long) (fty := .long) (N' := 334) C 2 rfl rfl jw_69 (a0 := (334, .inr (.inl (fun _ => 0)))) (fun _ => rfl) (by decide) (by decide) (jj_le rfl) (jj_le rfl) (jj_le rfl) dX11_init_35 (fun q_4 => ?_)
  refine jj_apd rfl ?_
  refine jj_putF C jk_12 3 (by decide) jw_210 rfl hmn rfl 0 rfl rfl rfl rfl rfl dX11_init_37 ?_
  refine jj_aload_n C dX11_init_40 rfl ?_
  refine jj_sipush (v := 334) C dX11_init_41 (by decide) ?_
  refine jj_newa (atype := .long) (fty := .long) (N' := 334) C 2 rfl rfl jw_69 (a0 := (334, .inr (.inl (fun _ => 0)))) (fun _ => rfl) (by decide) (by decide) (jj_le rfl) (jj_le rfl) (jj_le rfl) dX11_init_44 (fun q_5 => ?_)
  refine jj_apd rfl ?_
  refine jj_putF C jk_12 4 (by decide) jw_211 rfl hmn rfl 0 rfl rfl rfl rfl rfl dX11_init_46 ?_
  refine jj_aload_n C dX11_init_49 rfl ?_
  refine jj_sipush (v := 3340) C dX11_init_50 (by decide) ?_
  refine jj_newa (atype := .long) (fty := .long) (N' := 3340) C 2 rfl rfl jw_69 (a0 := (3340, .inr (.inl (fun _ => 0)))) (fun _ => rfl) (by decide) (by decide) (jj_le rfl) (jj_le rfl) (jj_le rfl) dX11_init_53 (fun q_6 => ?_)
  refine jj_apd rfl ?_
  refine jj_putF C jk_12 5 (by decide) jw_212 rfl hmn rfl 0 rfl rfl rfl rfl rfl dX11_init_55 ?_
  refine jj_aload_n C dX11_init_58 rfl ?_
  refine jj_bipush (v := 12) C dX11_init_59 (by decide) ?_
  refine jj_newa (atype := .long) (fty := .long) (N' := 12) C 2 rfl rfl jw_69 (a0 := (12, .inr (.inl (fun _ => 0)))) (fun _ => rfl) (by decide) (by decide) (jj_le rfl) (jj_le rfl) (jj_le rfl) dX11_init_61 (fun q_7 => ?_)
  refine jj_apd rfl ?_
  refine jj_putF C jk_12 10 (by decide) jw_213 rfl hmn rfl 0 rfl rfl rfl rfl rfl dX11_init_63 ?_
  refine jj_aload_n C dX11_init_66 rfl ?_
  refine jj_bipush (v := 12) C dX11_init_67 (by decide) ?_
  refine jj_newa (atype := .boolean) (fty := .boolean) (N' := 12) C 3 rfl rfl jw_214 (a0 := (12, .inl (fun _ => 0))) (fun _ => rfl) (by decide) (by decide) (jj_le rfl) (jj_le rfl) (jj_le rfl) dX11_init_69 (fun q_8 => ?_)
  refine jj_apd rfl ?_
  refine jj_putF C jk_12 11 (by decide) jw_215 rfl hmn rfl 0 rfl rfl rfl rfl rfl dX11_init_71 ?_
  refine jj_aload_n C dX11_init_74 rfl ?_
  refine jj_sipush (v := 400) C dX11_init_75 (by decide) ?_
  refine jj_newa (atype := .byte) (fty := .byte) (N' := 400) C 0 rfl rfl jw_171 (a0 := (400, .inl (fun _ => 0))) (fun _ => rfl) (by decide) (by decide) (jj_le rfl) (jj_le rfl) (jj_le rfl) dX11_init_78 (fun q_9 => ?_)
  refine jj_apd rfl ?_
  refine jj_putF C jk_12 12 (by decide) jw_216 rfl hmn rfl 0 rfl rfl rfl rfl rfl dX11_init_80 ?_
  refine jj_aload_n C dX11_init_83 rfl ?_
  refine jj_iconst (v := (-1)) C dX11_init_84 (by decide) ?_
  refine jj_put C jk_12 18 (by decide) jw_217 rfl 0 rfl rfl rfl rfl rfl dX11_init_85 ?_
  refine jj_aload_n C dX11_init_88 rfl ?_
  refine jj_bipush (v := 6) C dX11_init_89 (by decide) ?_
  refine jj_newa (atype := .long) (fty := .long) (N' := 6) C 2 rfl rfl jw_69 (a0 := (6, .inr (.inl (fun _ => 0)))) (fun _ => rfl) (by decide) (by decide) (jj_le rfl) (jj_le rfl) (jj_le rfl) dX11_init_91 (fun q_10 => ?_)
  refine jj_apd rfl ?_
  refine jj_putF C jk_12 21 (by decide) jw_218 rfl hmn rfl 0 rfl rfl rfl rfl rfl dX11_init_93 ?_
  refine jj_aload_n C dX11_init_96 rfl ?_
  refine jj_bipush (v := 6) C dX11_init_97 (by decide) ?_
  refine jj_newa (atype := .long) (fty := .long) (N' := 6) C 2 rfl rfl jw_69 (a0 := (6, .inr (.inl (fun _ => 0)))) (fun _ => rfl) (by decide) (by decide) (jj_le rfl) (jj_le rfl) (jj_le rfl) dX11_init_99 (fun q_11 => ?_)
  refine jj_apd rfl ?_
  refine jj_putF C jk_12 22 (by decide) jw_219 rfl hmn rfl 0 rfl rfl rfl rfl rfl dX11_init_101 ?_
  refine jj_aload_n C dX11_init_104 rfl ?_
  refine jj_sipush (v := 2400) C dX11_init_105 (by decide) ?_
  refine jj_newa (atype := .byte) (fty := .byte) (N' := 2400) C 0 rfl rfl jw_171 (a0 := (2400, .inl (fun _ => 0))) (fun _ => rfl) (by decide) (by decide) (jj_le rfl) (jj_le rfl) (jj_le rfl) dX11_init_108 (fun q_12 => ?_)
  refine jj_apd rfl ?_
  refine jj_putF C jk_12 23 (by decide) jw_220 rfl hmn rfl 0 rfl rfl rfl rfl rfl dX11_init_110 ?_
  refine jj_aload_n C dX11_init_113 rfl ?_
  refine jj_get C jk_12 0 (by decide) jw_181 0 rfl rfl dX11_init_114 ?_
  refine jq_callS (rest := []) C (ct_X11_lay_1 hl D cA ak q_1) [1] [0, 2, 3, 4, 5, 6, 7, 8, 9, 10, 11, 12] rfl rfl (by decide) (by decide) (by decide) jw_223 jw_225 jw_224 jw_222 jn_X11_lay rfl (jj_le rfl) (jj_le rfl) (jj_le rfl) (jj_le rfl) (jj_le rfl) dX11_init_117 rfl (fun _ _ hX => hX.elim) (fun w1 r O_14 => ?_)
  obtain ⟨rfl, rfl⟩ := O_14
  refine jj_apd rfl ?_
  exact jj_vretI C ⟨q_1, q_2, q_3, q_4, q_5, q_6, q_7, q_8, q_9, q_10, q_11, q_12, rfl, rfl⟩ dX11_init_120 (jj_le rfl) (jj_le rfl)


set_option maxHeartbeats 4000000 in
set_option maxRecDepth 100000 in
theorem ct_X9_putFour_1 {l : Launch} (hl : l.stackTraces = false) (D : va_G) (cA : Nat → ClassId) (ak : (Nat → Nat) × (Nat → Nat)) (h0 h1 : Nat) (a0 : Int32) : jj_M l D cA ak yX9_putFour (.code yX9_putFour cX9_putFour 3 none) 0 0 0 0 [(h0, .inr (10, [.ref h1, .int 0, .int 0, .int 0, .int 0, .int 0, .int (-1)])), (h1, .inl (cA 1, 400, .inl (fun _ => 0)))] [.ref h0, .int a0] (fun (w : va_W) (r : Option Value) => (∃ (g_4 : Nat → Int32), w = [(h0, .inr (10, [.ref h1, .int 4, .int 0, .int 0, .int 0, .int 0, .int (-1)])), (h1, .inl (cA 1, 400, .inl g_4))] ∧ r = none)) jj_noX := by
  refine jj_start hl (by decide) jw_229 (jj_le rfl) ?_
  intro p e s m args below meth c A hargs hA C hex hmn
  refine jj_bipush (v := 24) C dX9_putFour_0 (by decide) ?_
  refine jj_istore_n C dX9_putFour_2 (by decide) rfl ?_
  refine jj_iload_n C dX9_putFour_3 rfl ?_
  refine jj_if_ltF (tgt := 50) C dX9_putFour_4 (by decide) (by decide) ?_
  refine jj_aload_n C dX9_putFour_7 rfl ?_
  refine jj_get C jk_10 1 (by decide) jw_17 0 rfl rfl dX9_putFour_8 ?_
  refine jj_sipush (v := 400) C dX9_putFour_11 (by decide) ?_
  refine jj_icmp_geF (tgt := 50) C dX9_putFour_14 (by decide) (by decide) ?_
  refine jj_aload_n C dX9_putFour_17 rfl ?_
  refine jj_get C jk_10 0 (by decide) jw_16 0 rfl rfl dX9_putFour_18 ?_
  refine jj_aload_n C dX9_putFour_21 rfl ?_
  refine jj_get C jk_10 1 (by decide) jw_17 0 rfl rfl dX9_putFour_22 ?_
  refine jj_iload_n C dX9_putFour_25 rfl ?_
  refine jj_iload_n C dX9_putFour_26 rfl ?_
  refine jj_iushr C dX9_putFour_27 rfl ?_
  refine jj_sipush (v := 255) C dX9_putFour_28 (by decide) ?_
  refine jj_iand C dX9_putFour_31 rfl ?_
  refine jj_i2c C dX9_putFour_32 rfl ?_
  obtain ⟨g_1, eg_1⟩ : ∃ g : Nat → Int32, upd (fun _ => 0) (0 : Int32).toNatClampNeg (vp_nar .char (((((a0.toUInt32 >>> ((24 : Int32).toUInt32 &&& Int32.toUInt32 31)).toInt32) &&& 255).toUInt32 % 65536).toInt32)) = g := ⟨_, rfl⟩
  refine jj_cast C 1 rfl (vp_in_iff.mpr (by decide)) eg_1 rfl dX9_putFour_33 ?_
  refine jj_aload_n C dX9_putFour_34 rfl ?_
  refine jj_dup C dX9_putFour_35 rfl ?_
  refine jj_get C jk_10 1 (by decide) jw_17 0 rfl rfl dX9_putFour_36 ?_
  refine jj_iconst (v := 1) C dX9_putFour_39 (by decide) ?_
  refine jj_iadd (v := 1) C dX9_putFour_40 (by decide) ?_
  refine jj_put C jk_10 1 (by decide) jw_17 rfl 0 rfl rfl rfl rfl rfl dX9_putFour_41 ?_
  refine jj_iinc (v := 16) C dX9_putFour_44 rfl (by decide) (by decide) rfl ?_
  refine jj_goto (tgt := 3) C dX9_putFour_47 (by decide) ?_
  refine jj_iload_n C dX9_putFour_3 rfl ?_
  refine jj_if_ltF (tgt := 50) C dX9_putFour_4 (by decide) (by decide) ?_
  refine jj_aload_n C dX9_putFour_7 rfl ?_
  refine jj_get C jk_10 1 (by decide) jw_17 0 rfl rfl dX9_putFour_8 ?_
  refine jj_sipush (v := 400) C dX9_putFour_11 (by decide) ?_
  refine jj_icmp_geF (tgt := 50) C dX9_putFour_14 (by decide) (by decide) ?_
  refine jj_aload_n C dX9_putFour_17 rfl ?_
  refine jj_get C jk_10 0 (by decide) jw_16 0 rfl rfl dX9_putFour_18 ?_
  refine jj_aload_n C dX9_putFour_21 rfl ?_
  refine jj_get C jk_10 1 (by decide) jw_17 0 rfl rfl dX9_putFour_22 ?_
  refine jj_iload_n C dX9_putFour_25 rfl ?_
  refine jj_iload_n C dX9_putFour_26 rfl ?_
  refine jj_iushr C dX9_putFour_27 rfl ?_
  refine jj_sipush (v := 255) C dX9_putFour_28 (by decide) ?_
  refine jj_iand C dX9_putFour_31 rfl ?_
  refine jj_i2c C dX9_putFour_32 rfl ?_
  obtain ⟨g_2, eg_2⟩ : ∃ g : Nat → Int32, upd g_1 (1 : Int32).toNatClampNeg (vp_nar .char (((((a0.toUInt32 >>> ((16 : Int32).toUInt32 &&& Int32.toUInt32 31)).toInt32) &&& 255).toUInt32 % 65536).toInt32)) = g := ⟨_, rfl⟩
  refine jj_cast C 1 rfl (vp_in_iff.mpr (by decide)) eg_2 rfl dX9_putFour_33 ?_
  refine jj_aload_n C dX9_putFour_34 rfl ?_
  refine jj_dup C dX9_putFour_35 rfl ?_
  refine jj_get C jk_10 1 (by decide) jw_17 0 rfl rfl dX9_putFour_36 ?_
  refine jj_iconst (v := 1) C dX9_putFour_39 (by decide) ?_
  refine jj_iadd (v := 2) C dX9_putFour_40 (by decide) ?_
  refine jj_put C jk_10 1 (by decide) jw_17 rfl 0 rfl rfl rfl rfl rfl dX9_putFour_41 ?_
  refine jj_iinc (v := 8) C dX9_putFour_44 rfl (by decide) (by decide) rfl ?_
  refine jj_goto (tgt := 3) C dX9_putFour_47 (by decide) ?_
  refine jj_iload_n C dX9_putFour_3 rfl ?_
  refine jj_if_ltF (tgt := 50) C dX9_putFour_4 (by decide) (by decide) ?_
  refine jj_aload_n C dX9_putFour_7 rfl ?_
  refine jj_get C jk_10 1 (by decide) jw_17 0 rfl rfl dX9_putFour_8 ?_
  refine jj_sipush (v := 400) C dX9_putFour_11 (by decide) ?_
  refine jj_icmp_geF (tgt := 50) C dX9_putFour_14 (by decide) (by decide) ?_
  refine jj_aload_n C dX9_putFour_17 rfl ?_
  refine jj_get C jk_10 0 (by decide) jw_16 0 rfl rfl dX9_putFour_18 ?_
  refine jj_aload_n C dX9_putFour_21 rfl ?_
  refine jj_get C jk_10 1 (by decide) jw_17 0 rfl rfl dX9_putFour_22 ?_
  refine jj_iload_n C dX9_putFour_25 rfl ?_
  refine jj_iload_n C dX9_putFour_26 rfl ?_
  refine jj_iushr C dX9_putFour_27 rfl ?_
  refine jj_sipush (v := 255) C dX9_putFour_28 (by decide) ?_
  refine jj_iand C dX9_putFour_31 rfl ?_
  refine jj_i2c C dX9_putFour_32 rfl ?_
  obtain ⟨g_3, eg_3⟩ : ∃ g : Nat → Int32, upd g_2 (2 : Int32).toNatClampNeg (vp_nar .char (((((a0.toUInt32 >>> ((8 : Int32).toUInt32 &&& Int32.toUInt32 31)).toInt32) &&& 255).toUInt32 % 65536).toInt32)) = g := ⟨_, rfl⟩
  refine jj_cast C 1 rfl (vp_in_iff.mpr (by decide)) eg_3 rfl dX9_putFour_33 ?_
  refine jj_aload_n C dX9_putFour_34 rfl ?_
  refine jj_dup C dX9_putFour_35 rfl ?_
  refine jj_get C jk_10 1 (by decide) jw_17 0 rfl rfl dX9_putFour_36 ?_
  refine jj_iconst (v := 1) C dX9_putFour_39 (by decide) ?_
  refine jj_iadd (v := 3) C dX9_putFour_40 (by decide) ?_
  refine jj_put C jk_10 1 (by decide) jw_17 rfl 0 rfl rfl rfl rfl rfl dX9_putFour_41 ?_
  refine jj_iinc (v := 0) C dX9_putFour_44 rfl (by decide) (by decide) rfl ?_
  refine jj_goto (tgt := 3) C dX9_putFour_47 (by decide) ?_
  refine jj_iload_n C dX9_putFour_3 rfl ?_
  refine jj_if_ltF (tgt := 50) C dX9_putFour_4 (by decide) (by decide) ?_
  refine jj_aload_n C dX9_putFour_7 rfl ?_
  refine jj_get C jk_10 1 (by decide) jw_17 0 rfl rfl dX9_putFour_8 ?_
  refine jj_sipush (v := 400) C dX9_putFour_11 (by decide) ?_
  refine jj_icmp_geF (tgt := 50) C dX9_putFour_14 (by decide) (by decide) ?_
  refine jj_aload_n C dX9_putFour_17 rfl ?_
  refine jj_get C jk_10 0 (by decide) jw_16 0 rfl rfl dX9_putFour_18 ?_
  refine jj_aload_n C dX9_putFour_21 rfl ?_
  refine jj_get C jk_10 1 (by decide) jw_17 0 rfl rfl dX9_putFour_22 ?_
  refine jj_iload_n C dX9_putFour_25 rfl ?_
  refine jj_iload_n C dX9_putFour_26 rfl ?_
  refine jj_iushr C dX9_putFour_27 rfl ?_
  refine jj_sipush (v := 255) C dX9_putFour_28 (by decide) ?_
  refine jj_iand C dX9_putFour_31 rfl ?_
  refine jj_i2c C dX9_putFour_32 rfl ?_
  obtain ⟨g_4, eg_4⟩ : ∃ g : Nat → Int32, upd g_3 (3 : Int32).toNatClampNeg (vp_nar .char (((((a0.toUInt32 >>> ((0 : Int32).toUInt32 &&& Int32.toUInt32 31)).toInt32) &&& 255).toUInt32 % 65536).toInt32)) = g := ⟨_, rfl⟩
  refine jj_cast C 1 rfl (vp_in_iff.mpr (by decide)) eg_4 rfl dX9_putFour_33 ?_
  refine jj_aload_n C dX9_putFour_34 rfl ?_
  refine jj_dup C dX9_putFour_35 rfl ?_
  refine jj_get C jk_10 1 (by decide) jw_17 0 rfl rfl dX9_putFour_36 ?_
  refine jj_iconst (v := 1) C dX9_putFour_39 (by decide) ?_
  refine jj_iadd (v := 4) C dX9_putFour_40 (by decide) ?_
  refine jj_put C jk_10 1 (by decide) jw_17 rfl 0 rfl rfl rfl rfl rfl dX9_putFour_41 ?_
  refine jj_iinc (v := (-8)) C dX9_putFour_44 rfl (by decide) (by decide) rfl ?_
  refine jj_goto (tgt := 3) C dX9_putFour_47 (by decide) ?_
  refine jj_iload_n C dX9_putFour_3 rfl ?_
  refine jj_if_ltT (tgt := 50) C dX9_putFour_4 (by decide) (by decide) ?_
  exact jj_vret C ⟨g_4, rfl, rfl⟩ dX9_putFour_50 (jj_le rfl) (jj_le rfl)


set_option maxHeartbeats 4000000 in
set_option maxRecDepth 100000 in
theorem ct_X9_putFour_2 {l : Launch} (hl : l.stackTraces = false) (D : va_G) (cA : Nat → ClassId) (ak : (Nat → Nat) × (Nat → Nat)) (h0 h1 : Nat) (a0 : Int32) (f1 : Nat → Int32) : jj_M l D cA ak yX9_putFour (.code yX9_putFour cX9_putFour 3 none) 0 0 0 0 [(h0, .inr (10, [.ref h1, .int 4, .int 0, .int 0, .int 0, .int 0, .int (-1)])), (h1, .inl (cA 1, 400, .inl f1))] [.ref h0, .int a0] (fun (w : va_W) (r : Option Value) => (∃ (g_4 : Nat → Int32), w = [(h0, .inr (10, [.ref h1, .int 8, .int 0, .int 0, .int 0, .int 0, .int (-1)])), (h1, .inl (cA 1, 400, .inl g_4))] ∧ r = none)) jj_noX := by
  refine jj_start hl (by decide) jw_229 (jj_le rfl) ?_
  intro p e s m args below meth c A hargs hA C hex hmn
  refine jj_bipush (v := 24) C dX9_putFour_0 (by decide) ?_
  refine jj_istore_n C dX9_putFour_2 (by decide) rfl ?_
  refine jj_iload_n C dX9_putFour_3 rfl ?_
  refine jj_if_ltF (tgt := 50) C dX9_putFour_4 (by decide) (by decide) ?_
  refine jj_aload_n C dX9_putFour_7 rfl ?_
  refine jj_get C jk_10 1 (by decide) jw_17 0 rfl rfl dX9_putFour_8 ?_
  refine jj_sipush (v := 400) C dX9_putFour_11 (by decide) ?_
  refine jj_icmp_geF (tgt := 50) C dX9_putFour_14 (by decide) (by decide) ?_
  refine jj_aload_n C dX9_putFour_17 rfl ?_
  refine jj_get C jk_10 0 (by decide) jw_16 0 rfl rfl dX9_putFour_18 ?_
  refine jj_aload_n C dX9_putFour_21 rfl ?_
  refine jj_get C jk_10 1 (by decide) jw_17 0 rfl rfl dX9_putFour_22 ?_
  refine jj_iload_n C dX9_putFour_25 rfl ?_
  refine jj_iload_n C dX9_putFour_26 rfl ?_
  refine jj_iushr C dX9_putFour_27 rfl ?_
  refine jj_sipush (v := 255) C dX9_putFour_28 (by decide) ?_
  refine jj_iand C dX9_putFour_31 rfl ?_
  refine jj_i2c C dX9_putFour_32 rfl ?_
  obtain ⟨g_1, eg_1⟩ : ∃ g : Nat → Int32, upd f1 (4 : Int32).toNatClampNeg (vp_nar .char (((((a0.toUInt32 >>> ((24 : Int32).toUInt32 &&& Int32.toUInt32 31)).toInt32) &&& 255).toUInt32 % 65536).toInt32)) = g := ⟨_, rfl⟩
  refine jj_cast C 1 rfl (vp_in_iff.mpr (by decide)) eg_1 rfl dX9_putFour_33 ?_
  refine jj_aload_n C dX9_putFour_34 rfl ?_
  refine jj_dup C dX9_putFour_35 rfl ?_
  refine jj_get C jk_10 1 (by decide) jw_17 0 rfl rfl dX9_putFour_36 ?_
  refine jj_iconst (v := 1) C dX9_putFour_39 (by decide) ?_
  refine jj_iadd (v := 5) C dX9_putFour_40 (by decide) ?_
  refine jj_put C jk_10 1 (by decide) jw_17 rfl 0 rfl rfl rfl rfl rfl dX9_putFour_41 ?_
  refine jj_iinc (v := 16) C dX9_putFour_44 rfl (by decide) (by decide) rfl ?_
  refine jj_goto (tgt := 3) C dX9_putFour_47 (by decide) ?_
  refine jj_iload_n C dX9_putFour_3 rfl ?_
  refine jj_if_ltF (tgt := 50) C dX9_putFour_4 (by decide) (by decide) ?_
  refine jj_aload_n C dX9_putFour_7 rfl ?_
  refine jj_get C jk_10 1 (by decide) jw_17 0 rfl rfl dX9_putFour_8 ?_
  refine jj_sipush (v := 400) C dX9_putFour_11 (by decide) ?_
  refine jj_icmp_geF (tgt := 50) C dX9_putFour_14 (by decide) (by decide) ?_
  refine jj_aload_n C dX9_putFour_17 rfl ?_
  refine jj_get C jk_10 0 (by decide) jw_16 0 rfl rfl dX9_putFour_18 ?_
  refine jj_aload_n C dX9_putFour_21 rfl ?_
  refine jj_get C jk_10 1 (by decide) jw_17 0 rfl rfl dX9_putFour_22 ?_
  refine jj_iload_n C dX9_putFour_25 rfl ?_
  refine jj_iload_n C dX9_putFour_26 rfl ?_
  refine jj_iushr C dX9_putFour_27 rfl ?_
  refine jj_sipush (v := 255) C dX9_putFour_28 (by decide) ?_
  refine jj_iand C dX9_putFour_31 rfl ?_
  refine jj_i2c C dX9_putFour_32 rfl ?_
  obtain ⟨g_2, eg_2⟩ : ∃ g : Nat → Int32, upd g_1 (5 : Int32).toNatClampNeg (vp_nar .char (((((a0.toUInt32 >>> ((16 : Int32).toUInt32 &&& Int32.toUInt32 31)).toInt32) &&& 255).toUInt32 % 65536).toInt32)) = g := ⟨_, rfl⟩
  refine jj_cast C 1 rfl (vp_in_iff.mpr (by decide)) eg_2 rfl dX9_putFour_33 ?_
  refine jj_aload_n C dX9_putFour_34 rfl ?_
  refine jj_dup C dX9_putFour_35 rfl ?_
  refine jj_get C jk_10 1 (by decide) jw_17 0 rfl rfl dX9_putFour_36 ?_
  refine jj_iconst (v := 1) C dX9_putFour_39 (by decide) ?_
  refine jj_iadd (v := 6) C dX9_putFour_40 (by decide) ?_
  refine jj_put C jk_10 1 (by decide) jw_17 rfl 0 rfl rfl rfl rfl rfl dX9_putFour_41 ?_
  refine jj_iinc (v := 8) C dX9_putFour_44 rfl (by decide) (by decide) rfl ?_
  refine jj_goto (tgt := 3) C dX9_putFour_47 (by decide) ?_
  refine jj_iload_n C dX9_putFour_3 rfl ?_
  refine jj_if_ltF (tgt := 50) C dX9_putFour_4 (by decide) (by decide) ?_
  refine jj_aload_n C dX9_putFour_7 rfl ?_
  refine jj_get C jk_10 1 (by decide) jw_17 0 rfl rfl dX9_putFour_8 ?_
  refine jj_sipush (v := 400) C dX9_putFour_11 (by decide) ?_
  refine jj_icmp_geF (tgt := 50) C dX9_putFour_14 (by decide) (by decide) ?_
  refine jj_aload_n C dX9_putFour_17 rfl ?_
  refine jj_get C jk_10 0 (by decide) jw_16 0 rfl rfl dX9_putFour_18 ?_
  refine jj_aload_n C dX9_putFour_21 rfl ?_
  refine jj_get C jk_10 1 (by decide) jw_17 0 rfl rfl dX9_putFour_22 ?_
  refine jj_iload_n C dX9_putFour_25 rfl ?_
  refine jj_iload_n C dX9_putFour_26 rfl ?_
  refine jj_iushr C dX9_putFour_27 rfl ?_
  refine jj_sipush (v := 255) C dX9_putFour_28 (by decide) ?_
  refine jj_iand C dX9_putFour_31 rfl ?_
  refine jj_i2c C dX9_putFour_32 rfl ?_
  obtain ⟨g_3, eg_3⟩ : ∃ g : Nat → Int32, upd g_2 (6 : Int32).toNatClampNeg (vp_nar .char (((((a0.toUInt32 >>> ((8 : Int32).toUInt32 &&& Int32.toUInt32 31)).toInt32) &&& 255).toUInt32 % 65536).toInt32)) = g := ⟨_, rfl⟩
  refine jj_cast C 1 rfl (vp_in_iff.mpr (by decide)) eg_3 rfl dX9_putFour_33 ?_
  refine jj_aload_n C dX9_putFour_34 rfl ?_
  refine jj_dup C dX9_putFour_35 rfl ?_
  refine jj_get C jk_10 1 (by decide) jw_17 0 rfl rfl dX9_putFour_36 ?_
  refine jj_iconst (v := 1) C dX9_putFour_39 (by decide) ?_
  refine jj_iadd (v := 7) C dX9_putFour_40 (by decide) ?_
  refine jj_put C jk_10 1 (by decide) jw_17 rfl 0 rfl rfl rfl rfl rfl dX9_putFour_41 ?_
  refine jj_iinc (v := 0) C dX9_putFour_44 rfl (by decide) (by decide) rfl ?_
  refine jj_goto (tgt := 3) C dX9_putFour_47 (by decide) ?_
  refine jj_iload_n C dX9_putFour_3 rfl ?_
  refine jj_if_ltF (tgt := 50) C dX9_putFour_4 (by decide) (by decide) ?_
  refine jj_aload_n C dX9_putFour_7 rfl ?_
  refine jj_get C jk_10 1 (by decide) jw_17 0 rfl rfl dX9_putFour_8 ?_
  refine jj_sipush (v := 400) C dX9_putFour_11 (by decide) ?_
  refine jj_icmp_geF (tgt := 50) C dX9_putFour_14 (by decide) (by decide) ?_
  refine jj_aload_n C dX9_putFour_17 rfl ?_
  refine jj_get C jk_10 0 (by decide) jw_16 0 rfl rfl dX9_putFour_18 ?_
  refine jj_aload_n C dX9_putFour_21 rfl ?_
  refine jj_get C jk_10 1 (by decide) jw_17 0 rfl rfl dX9_putFour_22 ?_
  refine jj_iload_n C dX9_putFour_25 rfl ?_
  refine jj_iload_n C dX9_putFour_26 rfl ?_
  refine jj_iushr C dX9_putFour_27 rfl ?_
  refine jj_sipush (v := 255) C dX9_putFour_28 (by decide) ?_
  refine jj_iand C dX9_putFour_31 rfl ?_
  refine jj_i2c C dX9_putFour_32 rfl ?_
  obtain ⟨g_4, eg_4⟩ : ∃ g : Nat → Int32, upd g_3 (7 : Int32).toNatClampNeg (vp_nar .char (((((a0.toUInt32 >>> ((0 : Int32).toUInt32 &&& Int32.toUInt32 31)).toInt32) &&& 255).toUInt32 % 65536).toInt32)) = g := ⟨_, rfl⟩
  refine jj_cast C 1 rfl (vp_in_iff.mpr (by decide)) eg_4 rfl dX9_putFour_33 ?_
  refine jj_aload_n C dX9_putFour_34 rfl ?_
  refine jj_dup C dX9_putFour_35 rfl ?_
  refine jj_get C jk_10 1 (by decide) jw_17 0 rfl rfl dX9_putFour_36 ?_
  refine jj_iconst (v := 1) C dX9_putFour_39 (by decide) ?_
  refine jj_iadd (v := 8) C dX9_putFour_40 (by decide) ?_
  refine jj_put C jk_10 1 (by decide) jw_17 rfl 0 rfl rfl rfl rfl rfl dX9_putFour_41 ?_
  refine jj_iinc (v := (-8)) C dX9_putFour_44 rfl (by decide) (by decide) rfl ?_
  refine jj_goto (tgt := 3) C dX9_putFour_47 (by decide) ?_
  refine jj_iload_n C dX9_putFour_3 rfl ?_
  refine jj_if_ltT (tgt := 50) C dX9_putFour_4 (by decide) (by decide) ?_
  exact jj_vret C ⟨g_4, rfl, rfl⟩ dX9_putFour_50 (jj_le rfl) (jj_le rfl)


set_option maxHeartbeats 4000000 in
set_option maxRecDepth 100000 in
theorem ct_X9_putFour_3 {l : Launch} (hl : l.stackTraces = false) (D : va_G) (cA : Nat → ClassId) (ak : (Nat → Nat) × (Nat → Nat)) (h0 h1 : Nat) (a0 : Int32) (f1 : Nat → Int32) : jj_M l D cA ak yX9_putFour (.code yX9_putFour cX9_putFour 3 none) 0 0 0 0 [(h0, .inr (10, [.ref h1, .int 8, .int 0, .int 0, .int 0, .int 0, .int (-1)])), (h1, .inl (cA 1, 400, .inl f1))] [.ref h0, .int a0] (fun (w : va_W) (r : Option Value) => (∃ (g_4 : Nat → Int32), w = [(h0, .inr (10, [.ref h1, .int 12, .int 0, .int 0, .int 0, .int 0, .int (-1)])), (h1, .inl (cA 1, 400, .inl g_4))] ∧ r = none)) jj_noX := by
  refine jj_start hl (by decide) jw_229 (jj_le rfl) ?_
  intro p e s m args below meth c A hargs hA C hex hmn
  refine jj_bipush (v := 24) C dX9_putFour_0 (by decide) ?_
  refine jj_istore_n C dX9_putFour_2 (by decide) rfl ?_
  refine jj_iload_n C dX9_putFour_3 rfl ?_
  refine jj_if_ltF (tgt := 50) C dX9_putFour_4 (by decide) (by decide) ?_
  refine jj_aload_n C dX9_putFour_7 rfl ?_
  refine jj_get C jk_10 1 (by decide) jw_17 0 rfl rfl dX9_putFour_8 ?_
  refine jj_sipush (v := 400) C dX9_putFour_11 (by decide) ?_
  refine jj_icmp_geF (tgt := 50) C dX9_putFour_14 (by decide) (by decide) ?_
  refine jj_aload_n C dX9_putFour_17 rfl ?_
  refine jj_get C jk_10 0 (by decide) jw_16 0 rfl rfl dX9_putFour_18 ?_
  refine jj_aload_n C dX9_putFour_21 rfl ?_
  refine jj_get C jk_10 1 (by decide) jw_17 0 rfl rfl dX9_putFour_22 ?_
  refine jj_iload_n C dX9_putFour_25 rfl ?_
  refine jj_iload_n C dX9_putFour_26 rfl ?_
  refine jj_iushr C dX9_putFour_27 rfl ?_
  refine jj_sipush (v := 255) C dX9_putFour_28 (by decide) ?_
  refine jj_iand C dX9_putFour_31 rfl ?_
  refine jj_i2c C dX9_putFour_32 rfl ?_
  obtain ⟨g_1, eg_1⟩ : ∃ g : Nat → Int32, upd f1 (8 : Int32).toNatClampNeg (vp_nar .char (((((a0.toUInt32 >>> ((24 : Int32).toUInt32 &&& Int32.toUInt32 31)).toInt32) &&& 255).toUInt32 % 65536).toInt32)) = g := ⟨_, rfl⟩
  refine jj_cast C 1 rfl (vp_in_iff.mpr (by decide)) eg_1 rfl dX9_putFour_33 ?_
  refine jj_aload_n C dX9_putFour_34 rfl ?_
  refine jj_dup C dX9_putFour_35 rfl ?_
  refine jj_get C jk_10 1 (by decide) jw_17 0 rfl rfl dX9_putFour_36 ?_
  refine jj_iconst (v := 1) C dX9_putFour_39 (by decide) ?_
  refine jj_iadd (v := 9) C dX9_putFour_40 (by decide) ?_
  refine jj_put C jk_10 1 (by decide) jw_17 rfl 0 rfl rfl rfl rfl rfl dX9_putFour_41 ?_
  refine jj_iinc (v := 16) C dX9_putFour_44 rfl (by decide) (by decide) rfl ?_
  refine jj_goto (tgt := 3) C dX9_putFour_47 (by decide) ?_
  refine jj_iload_n C dX9_putFour_3 rfl ?_
  refine jj_if_ltF (tgt := 50) C dX9_putFour_4 (by decide) (by decide) ?_
  refine jj_aload_n C dX9_putFour_7 rfl ?_
  refine jj_get C jk_10 1 (by decide) jw_17 0 rfl rfl dX9_putFour_8 ?_
  refine jj_sipush (v := 400) C dX9_putFour_11 (by decide) ?_
  refine jj_icmp_geF (tgt := 50) C dX9_putFour_14 (by decide) (by decide) ?_
  refine jj_aload_n C dX9_putFour_17 rfl ?_
  refine jj_get C jk_10 0 (by decide) jw_16 0 rfl rfl dX9_putFour_18 ?_
  refine jj_aload_n C dX9_putFour_21 rfl ?_
  refine jj_get C jk_10 1 (by decide) jw_17 0 rfl rfl dX9_putFour_22 ?_
  refine jj_iload_n C dX9_putFour_25 rfl ?_
  refine jj_iload_n C dX9_putFour_26 rfl ?_
  refine jj_iushr C dX9_putFour_27 rfl ?_
  refine jj_sipush (v := 255) C dX9_putFour_28 (by decide) ?_
  refine jj_iand C dX9_putFour_31 rfl ?_
  refine jj_i2c C dX9_putFour_32 rfl ?_
  obtain ⟨g_2, eg_2⟩ : ∃ g : Nat → Int32, upd g_1 (9 : Int32).toNatClampNeg (vp_nar .char (((((a0.toUInt32 >>> ((16 : Int32).toUInt32 &&& Int32.toUInt32 31)).toInt32) &&& 255).toUInt32 % 65536).toInt32)) = g := ⟨_, rfl⟩
  refine jj_cast C 1 rfl (vp_in_iff.mpr (by decide)) eg_2 rfl dX9_putFour_33 ?_
  refine jj_aload_n C dX9_putFour_34 rfl ?_
  refine jj_dup C dX9_putFour_35 rfl ?_
  refine jj_get C jk_10 1 (by decide) jw_17 0 rfl rfl dX9_putFour_36 ?_
  refine jj_iconst (v := 1) C dX9_putFour_39 (by decide) ?_
  refine jj_iadd (v := 10) C dX9_putFour_40 (by decide) ?_
  refine jj_put C jk_10 1 (by decide) jw_17 rfl 0 rfl rfl rfl rfl rfl dX9_putFour_41 ?_
  refine jj_iinc (v := 8) C dX9_putFour_44 rfl (by decide) (by decide) rfl ?_
  refine jj_goto (tgt := 3) C dX9_putFour_47 (by decide) ?_
  refine jj_iload_n C dX9_putFour_3 rfl ?_
  refine jj_if_ltF (tgt := 50) C dX9_putFour_4 (by decide) (by decide) ?_
  refine jj_aload_n C dX9_putFour_7 rfl ?_
  refine jj_get C jk_10 1 (by decide) jw_17 0 rfl rfl dX9_putFour_8 ?_
  refine jj_sipush (v := 400) C dX9_putFour_11 (by decide) ?_
  refine jj_icmp_geF (tgt := 50) C dX9_putFour_14 (by decide) (by decide) ?_
  refine jj_aload_n C dX9_putFour_17 rfl ?_
  refine jj_get C jk_10 0 (by decide) jw_16 0 rfl rfl dX9_putFour_18 ?_
  refine jj_aload_n C dX9_putFour_21 rfl ?_
  refine jj_get C jk_10 1 (by decide) jw_17 0 rfl rfl dX9_putFour_22 ?_
  refine jj_iload_n C dX9_putFour_25 rfl ?_
  refine jj_iload_n C dX9_putFour_26 rfl ?_
  refine jj_iushr C dX9_putFour_27 rfl ?_
  refine jj_sipush (v := 255) C dX9_putFour_28 (by decide) ?_
  refine jj_iand C dX9_putFour_31 rfl ?_
  refine jj_i2c C dX9_putFour_32 rfl ?_
  obtain ⟨g_3, eg_3⟩ : ∃ g : Nat → Int32, upd g_2 (10 : Int32).toNatClampNeg (vp_nar .char (((((a0.toUInt32 >>> ((8 : Int32).toUInt32 &&& Int32.toUInt32 31)).toInt32) &&& 255).toUInt32 % 65536).toInt32)) = g := ⟨_, rfl⟩
  refine jj_cast C 1 rfl (vp_in_iff.mpr (by decide)) eg_3 rfl dX9_putFour_33 ?_
  refine jj_aload_n C dX9_putFour_34 rfl ?_
  refine jj_dup C dX9_putFour_35 rfl ?_
  refine jj_get C jk_10 1 (by decide) jw_17 0 rfl rfl dX9_putFour_36 ?_
  refine jj_iconst (v := 1) C dX9_putFour_39 (by decide) ?_
  refine jj_iadd (v := 11) C dX9_putFour_40 (by decide) ?_
  refine jj_put C jk_10 1 (by decide) jw_17 rfl 0 rfl rfl rfl rfl rfl dX9_putFour_41 ?_
  refine jj_iinc (v := 0) C dX9_putFour_44 rfl (by decide) (by decide) rfl ?_
  refine jj_goto (tgt := 3) C dX9_putFour_47 (by decide) ?_
  refine jj_iload_n C dX9_putFour_3 rfl ?_
  refine jj_if_ltF (tgt := 50) C dX9_putFour_4 (by decide) (by decide) ?_
  refine jj_aload_n C dX9_putFour_7 rfl ?_
  refine jj_get C jk_10 1 (by decide) jw_17 0 rfl rfl dX9_putFour_8 ?_
  refine jj_sipush (v := 400) C dX9_putFour_11 (by decide) ?_
  refine jj_icmp_geF (tgt := 50) C dX9_putFour_14 (by decide) (by decide) ?_
  refine jj_aload_n C dX9_putFour_17 rfl ?_
  refine jj_get C jk_10 0 (by decide) jw_16 0 rfl rfl dX9_putFour_18 ?_
  refine jj_aload_n C dX9_putFour_21 rfl ?_
  refine jj_get C jk_10 1 (by decide) jw_17 0 rfl rfl dX9_putFour_22 ?_
  refine jj_iload_n C dX9_putFour_25 rfl ?_
  refine jj_iload_n C dX9_putFour_26 rfl ?_
  refine jj_iushr C dX9_putFour_27 rfl ?_
  refine jj_sipush (v := 255) C dX9_putFour_28 (by decide) ?_
  refine jj_iand C dX9_putFour_31 rfl ?_
  refine jj_i2c C dX9_putFour_32 rfl ?_
  obtain ⟨g_4, eg_4⟩ : ∃ g : Nat → Int32, upd g_3 (11 : Int32).toNatClampNeg (vp_nar .char (((((a0.toUInt32 >>> ((0 : Int32).toUInt32 &&& Int32.toUInt32 31)).toInt32) &&& 255).toUInt32 % 65536).toInt32)) = g := ⟨_, rfl⟩
  refine jj_cast C 1 rfl (vp_in_iff.mpr (by decide)) eg_4 rfl dX9_putFour_33 ?_
  refine jj_aload_n C dX9_putFour_34 rfl ?_
  refine jj_dup C dX9_putFour_35 rfl ?_
  refine jj_get C jk_10 1 (by decide) jw_17 0 rfl rfl dX9_putFour_36 ?_
  refine jj_iconst (v := 1) C dX9_putFour_39 (by decide) ?_
  refine jj_iadd (v := 12) C dX9_putFour_40 (by decide) ?_
  refine jj_put C jk_10 1 (by decide) jw_17 rfl 0 rfl rfl rfl rfl rfl dX9_putFour_41 ?_
  refine jj_iinc (v := (-8)) C dX9_putFour_44 rfl (by decide) (by decide) rfl ?_
  refine jj_goto (tgt := 3) C dX9_putFour_47 (by decide) ?_
  refine jj_iload_n C dX9_putFour_3 rfl ?_
  refine jj_if_ltT (tgt := 50) C dX9_putFour_4 (by decide) (by decide) ?_
  exact jj_vret C ⟨g_4, rfl, rfl⟩ dX9_putFour_50 (jj_le rfl) (jj_le rfl)


set_option maxHeartbeats 4000000 in
set_option maxRecDepth 100000 in
theorem ct_X9_putFour_4 {l : Launch} (hl : l.stackTraces = false) (D : va_G) (cA : Nat → ClassId) (ak : (Nat → Nat) × (Nat → Nat)) (h0 h1 : Nat) (a0 : Int32) (f1 : Nat → Int32) : jj_M l D cA ak yX9_putFour (.code yX9_putFour cX9_putFour 3 none) 0 0 0 0 [(h0, .inr (10, [.ref h1, .int 12, .int 0, .int 0, .int 0, .int 0, .int (-1)])), (h1, .inl (cA 1, 400, .inl f1))] [.ref h0, .int a0] (fun (w : va_W) (r : Option Value) => (∃ (g_4 : Nat → Int32), w = [(h0, .inr (10, [.ref h1, .int 16, .int 0, .int 0, .int 0, .int 0, .int (-1)])), (h1, .inl (cA 1, 400, .inl g_4))] ∧ r = none)) jj_noX := by
  refine jj_start hl (by decide) jw_229 (jj_le rfl) ?_
  intro p e s m args below meth c A hargs hA C hex hmn
  refine jj_bipush (v := 24) C dX9_putFour_0 (by decide) ?_
  refine jj_istore_n C dX9_putFour_2 (by decide) rfl ?_
  refine jj_iload_n C dX9_putFour_3 rfl ?_
  refine jj_if_ltF (tgt := 50) C dX9_putFour_4 (by decide) (by decide) ?_
  refine jj_aload_n C dX9_putFour_7 rfl ?_
  refine jj_get C jk_10 1 (by decide) jw_17 0 rfl rfl dX9_putFour_8 ?_
  refine jj_sipush (v := 400) C dX9_putFour_11 (by decide) ?_
  refine jj_icmp_geF (tgt := 50) C dX9_putFour_14 (by decide) (by decide) ?_
  refine jj_aload_n C dX9_putFour_17 rfl ?_
  refine jj_get C jk_10 0 (by decide) jw_16 0 rfl rfl dX9_putFour_18 ?_
  refine jj_aload_n C dX9_putFour_21 rfl ?_
  refine jj_get C jk_10 1 (by decide) jw_17 0 rfl rfl dX9_putFour_22 ?_
  refine jj_iload_n C dX9_putFour_25 rfl ?_
  refine jj_iload_n C dX9_putFour_26 rfl ?_
  refine jj_iushr C dX9_putFour_27 rfl ?_
  refine jj_sipush (v := 255) C dX9_putFour_28 (by decide) ?_
  refine jj_iand C dX9_putFour_31 rfl ?_
  refine jj_i2c C dX9_putFour_32 rfl ?_
  obtain ⟨g_1, eg_1⟩ : ∃ g : Nat → Int32, upd f1 (12 : Int32).toNatClampNeg (vp_nar .char (((((a0.toUInt32 >>> ((24 : Int32).toUInt32 &&& Int32.toUInt32 31)).toInt32) &&& 255).toUInt32 % 65536).toInt32)) = g := ⟨_, rfl⟩
  refine jj_cast C 1 rfl (vp_in_iff.mpr (by decide)) eg_1 rfl dX9_putFour_33 ?_
  refine jj_aload_n C dX9_putFour_34 rfl ?_
  refine jj_dup C dX9_putFour_35 rfl ?_
  refine jj_get C jk_10 1 (by decide) jw_17 0 rfl rfl dX9_putFour_36 ?_
  refine jj_iconst (v := 1) C dX9_putFour_39 (by decide) ?_
  refine jj_iadd (v := 13) C dX9_putFour_40 (by decide) ?_
  refine jj_put C jk_10 1 (by decide) jw_17 rfl 0 rfl rfl rfl rfl rfl dX9_putFour_41 ?_
  refine jj_iinc (v := 16) C dX9_putFour_44 rfl (by decide) (by decide) rfl ?_
  refine jj_goto (tgt := 3) C dX9_putFour_47 (by decide) ?_
  refine jj_iload_n C dX9_putFour_3 rfl ?_
  refine jj_if_ltF (tgt := 50) C dX9_putFour_4 (by decide) (by decide) ?_
  refine jj_aload_n C dX9_putFour_7 rfl ?_
  refine jj_get C jk_10 1 (by decide) jw_17 0 rfl rfl dX9_putFour_8 ?_
  refine jj_sipush (v := 400) C dX9_putFour_11 (by decide) ?_
  refine jj_icmp_geF (tgt := 50) C dX9_putFour_14 (by decide) (by decide) ?_
  refine jj_aload_n C dX9_putFour_17 rfl ?_
  refine jj_get C jk_10 0 (by decide) jw_16 0 rfl rfl dX9_putFour_18 ?_
  refine jj_aload_n C dX9_putFour_21 rfl ?_
  refine jj_get C jk_10 1 (by decide) jw_17 0 rfl rfl dX9_putFour_22 ?_
  refine jj_iload_n C dX9_putFour_25 rfl ?_
  refine jj_iload_n C dX9_putFour_26 rfl ?_
  refine jj_iushr C dX9_putFour_27 rfl ?_
  refine jj_sipush (v := 255) C dX9_putFour_28 (by decide) ?_
  refine jj_iand C dX9_putFour_31 rfl ?_
  refine jj_i2c C dX9_putFour_32 rfl ?_
  obtain ⟨g_2, eg_2⟩ : ∃ g : Nat → Int32, upd g_1 (13 : Int32).toNatClampNeg (vp_nar .char (((((a0.toUInt32 >>> ((16 : Int32).toUInt32 &&& Int32.toUInt32 31)).toInt32) &&& 255).toUInt32 % 65536).toInt32)) = g := ⟨_, rfl⟩
  refine jj_cast C 1 rfl (vp_in_iff.mpr (by decide)) eg_2 rfl dX9_putFour_33 ?_
  refine jj_aload_n C dX9_putFour_34 rfl ?_
  refine jj_dup C dX9_putFour_35 rfl ?_
  refine jj_get C jk_10 1 (by decide) jw_17 0 rfl rfl dX9_putFour_36 ?_
  refine jj_iconst (v := 1) C dX9_putFour_39 (by decide) ?_
  refine jj_iadd (v := 14) C dX9_putFour_40 (by decide) ?_
  refine jj_put C jk_10 1 (by decide) jw_17 rfl 0 rfl rfl rfl rfl rfl dX9_putFour_41 ?_
  refine jj_iinc (v := 8) C dX9_putFour_44 rfl (by decide) (by decide) rfl ?_
  refine jj_goto (tgt := 3) C dX9_putFour_47 (by decide) ?_
  refine jj_iload_n C dX9_putFour_3 rfl ?_
  refine jj_if_ltF (tgt := 50) C dX9_putFour_4 (by decide) (by decide) ?_
  refine jj_aload_n C dX9_putFour_7 rfl ?_
  refine jj_get C jk_10 1 (by decide) jw_17 0 rfl rfl dX9_putFour_8 ?_
  refine jj_sipush (v := 400) C dX9_putFour_11 (by decide) ?_
  refine jj_icmp_geF (tgt := 50) C dX9_putFour_14 (by decide) (by decide) ?_
  refine jj_aload_n C dX9_putFour_17 rfl ?_
  refine jj_get C jk_10 0 (by decide) jw_16 0 rfl rfl dX9_putFour_18 ?_
  refine jj_aload_n C dX9_putFour_21 rfl ?_
  refine jj_get C jk_10 1 (by decide) jw_17 0 rfl rfl dX9_putFour_22 ?_
  refine jj_iload_n C dX9_putFour_25 rfl ?_
  refine jj_iload_n C dX9_putFour_26 rfl ?_
  refine jj_iushr C dX9_putFour_27 rfl ?_
  refine jj_sipush (v := 255) C dX9_putFour_28 (by decide) ?_
  refine jj_iand C dX9_putFour_31 rfl ?_
  refine jj_i2c C dX9_putFour_32 rfl ?_
  obtain ⟨g_3, eg_3⟩ : ∃ g : Nat → Int32, upd g_2 (14 : Int32).toNatClampNeg (vp_nar .char (((((a0.toUInt32 >>> ((8 : Int32).toUInt32 &&& Int32.toUInt32 31)).toInt32) &&& 255).toUInt32 % 65536).toInt32)) = g := ⟨_, rfl⟩
  refine jj_cast C 1 rfl (vp_in_iff.mpr (by decide)) eg_3 rfl dX9_putFour_33 ?_
  refine jj_aload_n C dX9_putFour_34 rfl ?_
  refine jj_dup C dX9_putFour_35 rfl ?_
  refine jj_get C jk_10 1 (by decide) jw_17 0 rfl rfl dX9_putFour_36 ?_
  refine jj_iconst (v := 1) C dX9_putFour_39 (by decide) ?_
  refine jj_iadd (v := 15) C dX9_putFour_40 (by decide) ?_
  refine jj_put C jk_10 1 (by decide) jw_17 rfl 0 rfl rfl rfl rfl rfl dX9_putFour_41 ?_
  refine jj_iinc (v := 0) C dX9_putFour_44 rfl (by decide) (by decide) rfl ?_
  refine jj_goto (tgt := 3) C dX9_putFour_47 (by decide) ?_
  refine jj_iload_n C dX9_putFour_3 rfl ?_
  refine jj_if_ltF (tgt := 50) C dX9_putFour_4 (by decide) (by decide) ?_
  refine jj_aload_n C dX9_putFour_7 rfl ?_
  refine jj_get C jk_10 1 (by decide) jw_17 0 rfl rfl dX9_putFour_8 ?_
  refine jj_sipush (v := 400) C dX9_putFour_11 (by decide) ?_
  refine jj_icmp_geF (tgt := 50) C dX9_putFour_14 (by decide) (by decide) ?_
  refine jj_aload_n C dX9_putFour_17 rfl ?_
  refine jj_get C jk_10 0 (by decide) jw_16 0 rfl rfl dX9_putFour_18 ?_
  refine jj_aload_n C dX9_putFour_21 rfl ?_
  refine jj_get C jk_10 1 (by decide) jw_17 0 rfl rfl dX9_putFour_22 ?_
  refine jj_iload_n C dX9_putFour_25 rfl ?_
  refine jj_iload_n C dX9_putFour_26 rfl ?_
  refine jj_iushr C dX9_putFour_27 rfl ?_
  refine jj_sipush (v := 255) C dX9_putFour_28 (by decide) ?_
  refine jj_iand C dX9_putFour_31 rfl ?_
  refine jj_i2c C dX9_putFour_32 rfl ?_
  obtain ⟨g_4, eg_4⟩ : ∃ g : Nat → Int32, upd g_3 (15 : Int32).toNatClampNeg (vp_nar .char (((((a0.toUInt32 >>> ((0 : Int32).toUInt32 &&& Int32.toUInt32 31)).toInt32) &&& 255).toUInt32 % 65536).toInt32)) = g := ⟨_, rfl⟩
  refine jj_cast C 1 rfl (vp_in_iff.mpr (by decide)) eg_4 rfl dX9_putFour_33 ?_
  refine jj_aload_n C dX9_putFour_34 rfl ?_
  refine jj_dup C dX9_putFour_35 rfl ?_
  refine jj_get C jk_10 1 (by decide) jw_17 0 rfl rfl dX9_putFour_36 ?_
  refine jj_iconst (v := 1) C dX9_putFour_39 (by decide) ?_
  refine jj_iadd (v := 16) C dX9_putFour_40 (by decide) ?_
  refine jj_put C jk_10 1 (by decide) jw_17 rfl 0 rfl rfl rfl rfl rfl dX9_putFour_41 ?_
  refine jj_iinc (v := (-8)) C dX9_putFour_44 rfl (by decide) (by decide) rfl ?_
  refine jj_goto (tgt := 3) C dX9_putFour_47 (by decide) ?_
  refine jj_iload_n C dX9_putFour_3 rfl ?_
  refine jj_if_ltT (tgt := 50) C dX9_putFour_4 (by decide) (by decide) ?_
  exact jj_vret C ⟨g_4, rfl, rfl⟩ dX9_putFour_50 (jj_le rfl) (jj_le rfl)


