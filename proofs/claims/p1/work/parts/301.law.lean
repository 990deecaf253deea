set_option maxHeartbeats 4000000 in
set_option maxRecDepth 100000 in
theorem law_c7 {p : Program} {l : Launch} {e : Env} {s : State} {m : MethodId} {below : List Frame} {meth : Method} {c : Code} (hl : l.stackTraces = false) {D : va_G} {cA : Nat → ClassId} {ak : (Nat → Nat) × (Nat → Nat)} {A : Nat → Prop} {b : Nat} {xs : Nat → Int32} {Q : State → Prop} (C : jj_C p l s m #[Value.ref b] meth c code 9 R_law ret D cA A ak) (hX : va_X b 6 xs s s.heap) (hbl : b < s.heap.size) (hbA : ¬ A b) (hend : jj_J p l e room_1 s m #[Value.ref b] below meth c 9 A Q (jj_X D A []) 600006 7302072 2259 [(0, .ref b), (5, .int 0)] []) (q_1 q_4 q_5 q_6 q_7 q_8 q_9 q_10 q_11 q_12 q_13 q_14 q_15 q_16 q_17 q_18 q_19 q_20 q_21 q_22 q_23 q_28 q_31 q_32 q_33 q_34 q_35 q_36 q_37 q_38 q_39 q_40 q_41 q_42 q_43 q_44 : Nat) (f_24 : Nat → Option Nat) (f_25 : Nat → Option Nat) (c_26 : f_24 0 = some q_11) (c_27 : f_25 0 = some q_17) : jj_J p l e room_1 s m #[Value.ref b] below meth c 9 A Q (jj_X D A [(q_1, .inr (11, [.ref q_4, .int 0, .int (-1), .ref q_6, .ref q_12, .ref q_18, .ref q_20, .int 0, .int 0, .ref q_21])), (q_4, .inr (10, [.ref q_5, .int 0, .int 0, .int 0, .int 0, .int 0, .int (-1)])), (q_5, .inl (cA 1, 400, .inl (fun _ => 0))), (q_6, .inr (2, [.int 1, .int 0, .int 0, .int 0, .int 100, .int 0, .int 0, .int 0, .int 0, .int 0, .ref q_7, .ref q_8, .ref q_9, .ref q_10])), (q_7, .inl (cA 2, 6, .inr (.inl (fun _ => 0)))), (q_10, .inl (cA 7, 12, .inr (.inr (.inr (.inr f_24))))), (q_11, .inr (7, [.int 0, .int 0, .int 0, .long 0, .long 0])), (q_12, .inr (2, [.int 1, .int 0, .int 0, .int 0, .int 100, .int 0, .int 0, .int 0, .int 0, .int 0, .ref q_13, .ref q_14, .ref q_15, .ref q_16])), (q_13, .inl (cA 2, 6, .inr (.inl (fun _ => 0)))), (q_16, .inl (cA 7, 12, .inr (.inr (.inr (.inr f_25))))), (q_17, .inr (7, [.int 0, .int 0, .int 0, .long 0, .long 0])), (q_18, .inr (3, [.ref q_19, .long 0, .long 0, .long 0, .long 0, .long 0])), (q_20, .inl (cA 5, 10, .inr (.inr (.inr (.inr (fun _ => none)))))), (q_21, .inr (6, [.ref q_22, .int 0, .ref q_23])), (q_22, .inl (cA 0, 1300, .inl (fun _ => 0))), (q_23, .inl (cA 0, 20, .inl (fun _ => 0))), (q_28, .inr (12, [.ref q_31, .ref q_32, .ref q_33, .ref q_34, .ref q_35, .ref q_36, .int 0, .int 0, .long 0, .long 0, .ref q_37, .ref q_38, .ref q_39, .int 0, .int 0, .int 0, .int 0, .int 0, .int (-1), .int 0, .int 0, .ref q_40, .ref q_41, .ref q_42, .int 0])), (q_32, .inl (cA 2, 334, .inr (.inl (fun _ => 0)))), (q_33, .inl (cA 2, 334, .inr (.inl (fun _ => 0)))), (q_34, .inl (cA 2, 334, .inr (.inl (fun _ => 0)))), (q_35, .inl (cA 2, 334, .inr (.inl (fun _ => 0)))), (q_36, .inl (cA 2, 3340, .inr (.inl (fun _ => 0)))), (q_37, .inl (cA 2, 12, .inr (.inl (fun _ => 0)))), (q_38, .inl (cA 3, 12, .inl (fun _ => 0))), (q_39, .inl (cA 0, 400, .inl (fun _ => 0))), (q_40, .inl (cA 2, 6, .inr (.inl (fun _ => 0)))), (q_41, .inl (cA 2, 6, .inr (.inl (fun _ => 0)))), (q_42, .inl (cA 0, 2400, .inl (fun _ => 0))), (q_31, .inl (cA 2, 334, .inr (.inl (vp_updL (vp_updL (fun _ => 0) 0 1) 4 100)))), (q_43, .inl (cA 2, 1, .inr (.inl (fun _ => 0)))), (q_44, .inl (cA 4, 1, .inr (.inr (.inr (.inl (fun _ => 0))))))]) 156 10481 567 [(5, .int 0), (4, .ref q_44), (3, .ref q_43), (2, .ref q_28), (1, .ref q_1), (0, .ref b)] [] := by
  refine jj_aload_n C dL_law_567 rfl ?_
  refine jj_aload_n C dL_law_568 rfl ?_
  refine jj_iload C dL_law_569 rfl ?_
  refine jj_iconst (v := 1) C dL_law_571 (by decide) ?_
  refine jj_iadd (v := 1) C dL_law_572 (by decide) ?_
  refine jj_xld (v := xs 1) C hX hbl hbA (vp_in_iff.mpr (by decide)) rfl dL_law_573 ?_
  refine jj_aload_n C dL_law_574 rfl ?_
  refine jq_callSW (rest := []) C (ct_L_withdraw_1 hl D cA ak q_1 q_6 q_43 q_4 q_12 q_18 q_20 q_21 q_7 q_8 q_9 q_10 (xs 1)) [0, 3] [1, 2, 4, 5, 6, 7, 8, 9, 10, 11, 12, 13, 14, 15, 16, 17, 18, 19, 20, 21, 22, 23, 24, 25, 26, 27, 28, 29, 30] rfl rfl (by decide) (by decide) (by decide) jw_1065 jw_1066 jw_985 jw_1064 jn_L_withdraw rfl (jj_le rfl) (jj_le rfl) (jj_le rfl) (jj_le rfl) (jj_le rfl) dL_law_575 rfl (fun _ _ hX => hX.elim) (fun w1 r O_47 => ?_)
  rcases O_47 with ⟨c_48, rfl, rfl⟩ | ⟨c_49, rfl, rfl⟩
  · refine jj_apd rfl ?_
    refine jj_istore C dL_law_578 (by decide) rfl ?_
    refine jj_aload_n C dL_law_580 rfl ?_
    refine jj_aload_n C dL_law_581 rfl ?_
    refine jj_iload C dL_law_582 rfl ?_
    refine jj_iconst (v := 1) C dL_law_584 (by decide) ?_
    refine jj_iadd (v := 1) C dL_law_585 (by decide) ?_
    refine jj_xld (v := xs 1) C hX hbl hbA (vp_in_iff.mpr (by decide)) rfl dL_law_586 ?_
    refine jq_callV (rest := []) C (ct_X11_withdraw_1 hl D cA ak q_28 q_31 q_32 q_33 q_34 q_35 q_36 q_37 q_38 q_39 q_40 q_41 q_42 (xs 1)) [14, 26] [0, 1, 2, 3, 4, 5, 6, 7, 8, 9, 10, 11, 12, 13, 15, 16, 17, 18, 19, 20, 21, 22, 23, 24, 25, 27, 28] rfl rfl (by decide) (by decide) (by decide) 0 rfl rfl rfl jw_1068 jw_1069 jw_1070 jw_224 jw_403 jn_X11_withdraw rfl (jj_le rfl) (jj_le rfl) (jj_le rfl) (jj_le rfl) (jj_le rfl) dL_law_587 rfl (fun _ _ hX => hX.elim) (fun w1 r O_51 => ?_)
    rcases O_51 with ⟨c_52, rfl, rfl⟩ | ⟨c_53, rfl, rfl⟩
    · refine jj_apd rfl ?_
      refine jj_lstore C dL_law_590 (by decide) rfl ?_
      refine jj_aload_n C dL_law_592 rfl ?_
      refine jq_callV (rest := []) C (ct_X11_thrown_2 hl D cA ak q_28 q_31 q_32 q_33 q_34 q_35 q_36 q_37 q_38 q_39 q_40 q_41 q_42) [28] [0, 1, 2, 3, 4, 5, 6, 7, 8, 9, 10, 11, 12, 13, 14, 15, 16, 17, 18, 19, 20, 21, 22, 23, 24, 25, 26, 27] rfl rfl (by decide) (by decide) (by decide) 0 rfl rfl rfl jw_993 jw_994 jw_995 jw_224 jw_992 jn_X11_thrown rfl (jj_le rfl) (jj_le rfl) (jj_le rfl) (jj_le rfl) (jj_le rfl) dL_law_593 rfl (fun _ _ hX => hX.elim) (fun w1 r O_55 => ?_)
      obtain ⟨rfl, rfl⟩ := O_55
      refine jj_apd rfl ?_
      refine jj_iload C dL_law_596 rfl ?_
      refine jj_icmp_eqT (tgt := 603) C dL_law_598 (by decide) (by decide) ?_
      refine jj_iload C dL_law_603 rfl ?_
      refine jj_if_neT (tgt := 619) C dL_law_605 (by decide) (by decide) ?_
      refine jj_goto (tgt := 2259) C dL_law_619 (by decide) ?_
      exact jj_loc [7, 2] rfl (jj_drop [] rfl (by decide) (jj_widen (k := 600006) (n := 7302072) (jj_le rfl) (jj_le rfl) hend))
    · refine jj_apd rfl ?_
      refine jj_lstore C dL_law_590 (by decide) rfl ?_
      refine jj_aload_n C dL_law_592 rfl ?_
      refine jq_callV (rest := []) C (ct_X11_thrown_2 hl D cA ak q_28 q_31 q_32 q_33 q_34 q_35 q_36 q_37 q_38 q_39 q_40 q_41 q_42) [28] [0, 1, 2, 3, 4, 5, 6, 7, 8, 9, 10, 11, 12, 13, 14, 15, 16, 17, 18, 19, 20, 21, 22, 23, 24, 25, 26, 27] rfl rfl (by decide) (by decide) (by decide) 0 rfl rfl rfl jw_993 jw_994 jw_995 jw_224 jw_992 jn_X11_thrown rfl (jj_le rfl) (jj_le rfl) (jj_le rfl) (jj_le rfl) (jj_le rfl) dL_law_593 rfl (fun _ _ hX => hX.elim) (fun w1 r O_57 => ?_)
      obtain ⟨rfl, rfl⟩ := O_57
      refine jj_apd rfl ?_
      refine jj_iload C dL_law_596 rfl ?_
      refine jj_icmp_eqT (tgt := 603) C dL_law_598 (by decide) (by decide) ?_
      refine jj_iload C dL_law_603 rfl ?_
      refine jj_if_neT (tgt := 619) C dL_law_605 (by decide) (by decide) ?_
      refine jj_goto (tgt := 2259) C dL_law_619 (by decide) ?_
      exact jj_loc [7, 2] rfl (jj_drop [] rfl (by decide) (jj_widen (k := 600006) (n := 7302072) (jj_le rfl) (jj_le rfl) hend))
  · refine jj_apd rfl ?_
    refine jj_istore C dL_law_578 (by decide) rfl ?_
    refine jj_aload_n C dL_law_580 rfl ?_
    refine jj_aload_n C dL_law_581 rfl ?_
    refine jj_iload C dL_law_582 rfl ?_
    refine jj_iconst (v := 1) C dL_law_584 (by decide) ?_
    refine jj_iadd (v := 1) C dL_law_585 (by decide) ?_
    refine jj_xld (v := xs 1) C hX hbl hbA (vp_in_iff.mpr (by decide)) rfl dL_law_586 ?_
    refine jq_callV (rest := []) C (ct_X11_withdraw_1 hl D cA ak q_28 q_31 q_32 q_33 q_34 q_35 q_36 q_37 q_38 q_39 q_40 q_41 q_42 (xs 1)) [14, 26] [0, 1, 2, 3, 4, 5, 6, 7, 8, 9, 10, 11, 12, 13, 15, 16, 17, 18, 19, 20, 21, 22, 23, 24, 25, 27, 28] rfl rfl (by decide) (by decide) (by decide) 0 rfl rfl rfl jw_1068 jw_1069 jw_1070 jw_224 jw_403 jn_X11_withdraw rfl (jj_le rfl) (jj_le rfl) (jj_le rfl) (jj_le rfl) (jj_le rfl) dL_law_587 rfl (fun _ _ hX => hX.elim) (fun w1 r O_59 => ?_)
    rcases O_59 with ⟨c_60, rfl, rfl⟩ | ⟨c_61, rfl, rfl⟩
    · refine jj_apd rfl ?_
      refine jj_lstore C dL_law_590 (by decide) rfl ?_
      refine jj_aload_n C dL_law_592 rfl ?_
      refine jq_callV (rest := []) C (ct_X11_thrown_2 hl D cA ak q_28 q_31 q_32 q_33 q_34 q_35 q_36 q_37 q_38 q_39 q_40 q_41 q_42) [28] [0, 1, 2, 3, 4, 5, 6, 7, 8, 9, 10, 11, 12, 13, 14, 15, 16, 17, 18, 19, 20, 21, 22, 23, 24, 25, 26, 27] rfl rfl (by decide) (by decide) (by decide) 0 rfl rfl rfl jw_993 jw_994 jw_995 jw_224 jw_992 jn_X11_thrown rfl (jj_le rfl) (jj_le rfl) (jj_le rfl) (jj_le rfl) (jj_le rfl) dL_law_593 rfl (fun _ _ hX => hX.elim) (fun w1 r O_63 => ?_)
      obtain ⟨rfl, rfl⟩ := O_63
      refine jj_apd rfl ?_
      refine jj_iload C dL_law_596 rfl ?_
      refine jj_icmp_eqT (tgt := 603) C dL_law_598 (by decide) (by decide) ?_
      refine jj_iload C dL_law_603 rfl ?_
      refine jj_if_neT (tgt := 619) C dL_law_605 (by decide) (by decide) ?_
      refine jj_goto (tgt := 2259) C dL_law_619 (by decide) ?_
      exact jj_loc [7, 2] rfl (jj_drop [] rfl (by decide) (jj_widen (k := 600006) (n := 7302072) (jj_le rfl) (jj_le rfl) hend))
    · refine jj_apd rfl ?_
      refine jj_lstore C dL_law_590 (by decide) rfl ?_
      refine jj_aload_n C dL_law_592 rfl ?_
      refine jq_callV (rest := []) C (ct_X11_thrown_2 hl D cA ak q_28 q_31 q_32 q_33 q_34 q_35 q_36 q_37 q_38 q_39 q_40 q_41 q_42) [28] [0, 1, 2, 3, 4, 5, 6, 7, 8, 9, 10, 11, 12, 13, 14, 15, 16, 17, 18, 19, 20, 21, 22, 23, 24, 25, 26, 27] rfl rfl (by decide) (by decide) (by decide) 0 rfl rfl rfl jw_993 jw_994 jw_995 jw_224 jw_992 jn_X11_thrown rfl (jj_le rfl) (jj_le rfl) (jj_le rfl) (jj_le rfl) (jj_le rfl) dL_law_593 rfl (fun _ _ hX => hX.elim) (fun w1 r O_65 => ?_)
      obtain ⟨rfl, rfl⟩ := O_65
      refine jj_apd rfl ?_
      refine jj_iload C dL_law_596 rfl ?_
      refine jj_icmp_eqT (tgt := 603) C dL_law_598 (by decide) (by decide) ?_
      refine jj_iload C dL_law_603 rfl ?_
      refine jj_if_neT (tgt := 619) C dL_law_605 (by decide) (by decide) ?_
      refine jj_goto (tgt := 2259) C dL_law_619 (by decide) ?_
      exact jj_loc [7, 2] rfl (jj_drop [] rfl (by decide) (jj_widen (k := 600006) (n := 7302072) (jj_le rfl) (jj_le rfl) hend))

set_option maxHeartbeats 4000000 in
set_option maxRecDepth 100000 in
theorem law_c8 {p : Program} {l : Launch} {e : Env} {s : State} {m : MethodId} {below : List Frame} {meth : Method} {c : Code} (hl : l.stackTraces = false) {D : va_G} {cA : Nat → ClassId} {ak : (Nat → Nat) × (Nat → Nat)} {A : Nat → Prop} {b : Nat} {xs : Nat → Int32} {Q : State → Prop} (C : jj_C p l s m #[Value.ref b] meth c code 9 R_law ret D cA A ak) (hX : va_X b 6 xs s s.heap) (hbl : b < s.heap.size) (hbA : ¬ A b) (hend : jj_J p l e room_1 s m #[Value.ref b] below meth c 9 A Q (jj_X D A []) 600006 7302072 2259 [(0, .ref b), (5, .int 0)] []) (q_1 q_4 q_5 q_6 q_7 q_8 q_9 q_10 q_11 q_12 q_13 q_14 q_15 q_16 q_17 q_18 q_19 q_20 q_21 q_22 q_23 q_28 q_31 q_32 q_33 q_34 q_35 q_36 q_37 q_38 q_39 q_40 q_41 q_42 q_43 q_44 : Nat) (f_24 : Nat → Option Nat) (f_25 : Nat → Option Nat) (c_26 : f_24 0 = some q_11) (c_27 : f_25 0 = some q_17) : jj_J p l e room_1 s m #[Value.ref b] below meth c 9 A Q (jj_X D A [(q_1, .inr (11, [.ref q_4, .int 0, .int (-1), .ref q_6, .ref q_12, .ref q_18, .ref q_20, .int 0, .int 0, .ref q_21])), (q_4, .inr (10, [.ref q_5, .int 0, .int 0, .int 0, .int 0, .int 0, .int (-1)])), (q_5, .inl (cA 1, 400, .inl (fun _ => 0))), (q_6, .inr (2, [.int 1, .int 0, .int 0, .int 0, .int 100, .int 0, .int 0, .int 0, .int 0, .int 0, .ref q_7, .ref q_8, .ref q_9, .ref q_10])), (q_7, .inl (cA 2, 6, .inr (.inl (fun _ => 0)))), (q_10, .inl (cA 7, 12, .inr (.inr (.inr (.inr f_24))))), (q_11, .inr (7, [.int 0, .int 0, .int 0, .long 0, .long 0])), (q_12, .inr (2, [.int 1, .int 0, .int 0, .int 0, .int 100, .int 0, .int 0, .int 0, .int 0, .int 0, .ref q_13, .ref q_14, .ref q_15, .ref q_16])), (q_13, .inl (cA 2, 6, .inr (.inl (fun _ => 0)))), (q_16, .inl (cA 7, 12, .inr (.inr (.inr (.inr f_25))))), (q_17, .inr (7, [.int 0, .int 0, .int 0, .long 0, .long 0])), (q_18, .inr (3, [.ref q_19, .long 0, .long 0, .long 0, .long 0, .long 0])), (q_20, .inl (cA 5, 10, .inr (.inr (.inr (.inr (fun _ => none)))))), (q_21, .inr (6, [.ref q_22, .int 0, .ref q_23])), (q_22, .inl (cA 0, 1300, .inl (fun _ => 0))), (q_23, .inl (cA 0, 20, .inl (fun _ => 0))), (q_28, .inr (12, [.ref q_31, .ref q_32, .ref q_33, .ref q_34, .ref q_35, .ref q_36, .int 0, .int 0, .long 0, .long 0, .ref q_37, .ref q_38, .ref q_39, .int 0, .int 0, .int 0, .int 0, .int 0, .int (-1), .int 0, .int 0, .ref q_40, .ref q_41, .ref q_42, .int 0])), (q_32, .inl (cA 2, 334, .inr (.inl (fun _ => 0)))), (q_33, .inl (cA 2, 334, .inr (.inl (fun _ => 0)))), (q_34, .inl (cA 2, 334, .inr (.inl (fun _ => 0)))), (q_35, .inl (cA 2, 334, .inr (.inl (fun _ => 0)))), (q_36, .inl (cA 2, 3340, .inr (.inl (fun _ => 0)))), (q_37, .inl (cA 2, 12, .inr (.inl (fun _ => 0)))), (q_38, .inl (cA 3, 12, .inl (fun _ => 0))), (q_39, .inl (cA 0, 400, .inl (fun _ => 0))), (q_40, .inl (cA 2, 6, .inr (.inl (fun _ => 0)))), (q_41, .inl (cA 2, 6, .inr (.inl (fun _ => 0)))), (q_42, .inl (cA 0, 2400, .inl (fun _ => 0))), (q_31, .inl (cA 2, 334, .inr (.inl (vp_updL (vp_updL (fun _ => 0) 0 1) 4 100)))), (q_43, .inl (cA 2, 1, .inr (.inl (fun _ => 0)))), (q_44, .inl (cA 4, 1, .inr (.inr (.inr (.inl (fun _ => 0))))))]) 156 10481 622 [(5, .int 0), (4, .ref q_44), (3, .ref q_43), (2, .ref q_28), (1, .ref q_1), (0, .ref b)] [] := by
  refine jj_aload_n C dL_law_622 rfl ?_
  refine jq_callV (rest := []) C (ct_X10_deal_1 hl D cA ak q_1 q_6 q_18 q_20 q_7 q_4 q_12 q_21 q_8 q_9 q_10 q_19) [0, 3, 11, 12, 4] [1, 2, 5, 6, 7, 8, 9, 10, 13, 14, 15, 16, 17, 18, 19, 20, 21, 22, 23, 24, 25, 26, 27, 28, 29, 30] rfl rfl (by decide) (by decide) (by decide) 0 rfl rfl rfl jw_1072 jw_1073 jw_1074 jw_271 jw_795 jn_X10_deal rfl (jj_le rfl) (jj_le rfl) (jj_le rfl) (jj_le rfl) (jj_le rfl) dL_law_623 rfl (fun _ _ hX => hX.elim) (fun w1 r O_47 => ?_)
  obtain rfl := O_47
  refine jj_left ?_
  refine jj_aload_n C dL_law_626 rfl ?_
  refine jq_callV (rest := [.int 0]) C (ct_X11_deal_1 hl D cA ak q_28 q_31 q_32 q_36 q_33 q_34 q_35 q_37 q_38 q_39 q_40 q_41 q_42) [11, 23, 12, 16] [0, 1, 2, 3, 4, 5, 6, 7, 8, 9, 10, 13, 14, 15, 17, 18, 19, 20, 21, 22, 24, 25] rfl rfl (by decide) (by decide) (by decide) 0 rfl rfl rfl jw_1076 jw_1077 jw_1078 jw_224 jw_821 jn_X11_deal rfl (jj_le rfl) (jj_le rfl) (jj_le rfl) (jj_le rfl) (jj_le rfl) dL_law_627 rfl (fun _ _ hX => hX.elim) (fun w1 r O_49 => ?_)
  obtain ⟨f_50, rfl, rfl⟩ := O_49
  refine jj_apd rfl ?_
  refine jj_icmp_eqT (tgt := 2259) C dL_law_630 (by decide) (by decide) ?_
  exact jj_loc [5, 0] rfl (jj_drop [] rfl (by decide) (jj_widen (k := 600006) (n := 7302072) (jj_le rfl) (jj_le rfl) hend))

set_option maxHeartbeats 4000000 in
set_option maxRecDepth 100000 in
theorem law_c9 {p : Program} {l : Launch} {e : Env} {s : State} {m : MethodId} {below : List Frame} {meth : Method} {c : Code} (hl : l.stackTraces = false) {D : va_G} {cA : Nat → ClassId} {ak : (Nat → Nat) × (Nat → Nat)} {A : Nat → Prop} {b : Nat} {xs : Nat → Int32} {Q : State → Prop} (C : jj_C p l s m #[Value.ref b] meth c code 9 R_law ret D cA A ak) (hX : va_X b 6 xs s s.heap) (hbl : b < s.heap.size) (hbA : ¬ A b) (hend : jj_J p l e room_1 s m #[Value.ref b] below meth c 9 A Q (jj_X D A []) 600006 7302072 2259 [(0, .ref b), (5, .int 0)] []) (q_1 q_4 q_5 q_6 q_7 q_8 q_9 q_10 q_11 q_12 q_13 q_14 q_15 q_16 q_17 q_18 q_19 q_20 q_21 q_22 q_23 q_28 q_31 q_32 q_33 q_34 q_35 q_36 q_37 q_38 q_39 q_40 q_41 q_42 q_43 q_44 : Nat) (f_24 : Nat → Option Nat) (f_25 : Nat → Option Nat) (c_26 : f_24 0 = some q_11) (c_27 : f_25 0 = some q_17) : jj_J p l e room_1 s m #[Value.ref b] below meth c 9 A Q (jj_X D A [(q_1, .inr (11, [.ref q_4, .int 0, .int (-1), .ref q_6, .ref q_12, .ref q_18, .ref q_20, .int 0, .int 0, .ref q_21])), (q_4, .inr (10, [.ref q_5, .int 0, .int 0, .int 0, .int 0, .int 0, .int (-1)])), (q_5, .inl (cA 1, 400, .inl (fun _ => 0))), (q_6, .inr (2, [.int 1, .int 0, .int 0, .int 0, .int 100, .int 0, .int 0, .int 0, .int 0, .int 0, .ref q_7, .ref q_8, .ref q_9, .ref q_10])), (q_7, .inl (cA 2, 6, .inr (.inl (fun _ => 0)))), (q_10, .inl (cA 7, 12, .inr (.inr (.inr (.inr f_24))))), (q_11, .inr (7, [.int 0, .int 0, .int 0, .long 0, .long 0])), (q_12, .inr (2, [.int 1, .int 0, .int 0, .int 0, .int 100, .int 0, .int 0, .int 0, .int 0, .int 0, .ref q_13, .ref q_14, .ref q_15, .ref q_16])), (q_13, .inl (cA 2, 6, .inr (.inl (fun _ => 0)))), (q_16, .inl (cA 7, 12, .inr (.inr (.inr (.inr f_25))))), (q_17, .inr (7, [.int 0, .int 0, .int 0, .long 0, .long 0])), (q_18, .inr (3, [.ref q_19, .long 0, .long 0, .long 0, .long 0, .long 0])), (q_20, .inl (cA 5, 10, .inr (.inr (.inr (.inr (fun _ => none)))))), (q_21, .inr (6, [.ref q_22, .int 0, .ref q_23])), (q_22, .inl (cA 0, 1300, .inl (fun _ => 0))), (q_23, .inl (cA 0, 20, .inl (fun _ => 0))), (q_28, .inr (12, [.ref q_31, .ref q_32, .ref q_33, .ref q_34, .ref q_35, .ref q_36, .int 0, .int 0, .long 0, .long 0, .ref q_37, .ref q_38, .ref q_39, .int 0, .int 0, .int 0, .int 0, .int 0, .int (-1), .int 0, .int 0, .ref q_40, .ref q_41, .ref q_42, .int 0])), (q_32, .inl (cA 2, 334, .inr (.inl (fun _ => 0)))), (q_33, .inl (cA 2, 334, .inr (.inl (fun _ => 0)))), (q_34, .inl (cA 2, 334, .inr (.inl (fun _ => 0)))), (q_35, .inl (cA 2, 334, .inr (.inl (fun _ => 0)))), (q_36, .inl (cA 2, 3340, .inr (.inl (fun _ => 0)))), (q_37, .inl (cA 2, 12, .inr (.inl (fun _ => 0)))), (q_38, .inl (cA 3, 12, .inl (fun _ => 0))), (q_39, .inl (cA 0, 400, .inl (fun _ => 0))), (q_40, .inl (cA 2, 6, .inr (.inl (fun _ => 0)))), (q_41, .inl (cA 2, 6, .inr (.inl (fun _ => 0)))), (q_42, .inl (cA 0, 2400, .inl (fun _ => 0))), (q_31, .inl (cA 2, 334, .inr (.inl (vp_updL (vp_updL (fun _ => 0) 0 1) 4 100)))), (q_43, .inl (cA 2, 1, .inr (.inl (fun _ => 0)))), (q_44, .inl (cA 4, 1, .inr (.inr (.inr (.inl (fun _ => 0))))))]) 156 10481 635 [(5, .int 0), (4, .ref q_44), (3, .ref q_43), (2, .ref q_28), (1, .ref q_1), (0, .ref b)] [] := by
  refine jj_aload_n C dL_law_635 rfl ?_
  refine jj_aload_n C dL_law_636 rfl ?_
  refine jj_iload C dL_law_637 rfl ?_
  refine jj_iconst (v := 1) C dL_law_639 (by decide) ?_
  refine jj_iadd (v := 1) C dL_law_640 (by decide) ?_
  refine jj_xld (v := xs 1) C hX hbl hbA (vp_in_iff.mpr (by decide)) rfl dL_law_641 ?_
  refine jj_aload_n C dL_law_642 rfl ?_
  refine jq_callSW (rest := []) C (ct_L_earn_1 hl D cA ak q_1 q_43 q_6 q_20 q_7 q_4 q_12 q_18 q_21 q_8 q_9 q_10 (xs 1)) [0, 29, 3, 12, 4] [1, 2, 5, 6, 7, 8, 9, 10, 11, 13, 14, 15, 16, 17, 18, 19, 20, 21, 22, 23, 24, 25, 26, 27, 28, 30] rfl rfl (by decide) (by decide) (by decide) jw_1085 jw_1086 jw_985 jw_1084 jn_L_earn rfl (jj_le rfl) (jj_le rfl) (jj_le rfl) (jj_le rfl) (jj_le rfl) dL_law_643 rfl (fun _ _ hX => hX.elim) (fun w1 r O_47 => ?_)
  rcases O_47 with ⟨c_48, rfl, rfl⟩ | ⟨c_49, c_50, rfl, rfl⟩ | ⟨c_51, c_52, rfl, rfl⟩
  · refine jj_apd rfl ?_
    refine jj_istore C dL_law_646 (by decide) rfl ?_
    refine jj_aload_n C dL_law_648 rfl ?_
    refine jj_aload_n C dL_law_649 rfl ?_
    refine jj_iload C dL_law_650 rfl ?_
    refine jj_iconst (v := 1) C dL_law_652 (by decide) ?_
    refine jj_iadd (v := 1) C dL_law_653 (by decide) ?_
    refine jj_xld (v := xs 1) C hX hbl hbA (vp_in_iff.mpr (by decide)) rfl dL_law_654 ?_
    refine jq_callV (rest := []) C (ct_X11_earn_1 hl D cA ak q_28 q_31 q_32 q_36 q_33 q_34 q_35 q_37 q_38 q_39 q_40 q_41 q_42 (xs 1)) [12, 24, 13, 17] [0, 1, 2, 3, 4, 5, 6, 7, 8, 9, 10, 11, 14, 15, 16, 18, 19, 20, 21, 22, 23, 25, 26] rfl rfl (by decide) (by decide) (by decide) 0 rfl rfl rfl jw_1088 jw_1089 jw_1090 jw_224 jw_432 jn_X11_earn rfl (jj_le rfl) (jj_le rfl) (jj_le rfl) (jj_le rfl) (jj_le rfl) dL_law_655 rfl (fun _ _ hX => hX.elim) (fun w1 r O_54 => ?_)
    rcases O_54 with ⟨c_55, rfl, rfl⟩ | ⟨c_56, c_57, rfl, rfl⟩ | ⟨f_58, c_59, c_60, rfl, rfl⟩
    · refine jj_apd rfl ?_
      refine jj_lstore C dL_law_658 (by decide) rfl ?_
      refine jj_aload_n C dL_law_660 rfl ?_
      refine jq_callV (rest := []) C (ct_X11_thrown_2 hl D cA ak q_28 q_31 q_32 q_33 q_34 q_35 q_36 q_37 q_38 q_39 q_40 q_41 q_42) [26] [0, 1, 2, 3, 4, 5, 6, 7, 8, 9, 10, 11, 12, 13, 14, 15, 16, 17, 18, 19, 20, 21, 22, 23, 24, 25] rfl rfl (by decide) (by decide) (by decide) 0 rfl rfl rfl jw_993 jw_994 jw_995 jw_224 jw_992 jn_X11_thrown rfl (jj_le rfl) (jj_le rfl) (jj_le rfl) (jj_le rfl) (jj_le rfl) dL_law_661 rfl (fun _ _ hX => hX.elim) (fun w1 r O_62 => ?_)
      obtain ⟨rfl, rfl⟩ := O_62
      refine jj_apd rfl ?_
      refine jj_iload C dL_law_664 rfl ?_
      refine jj_icmp_eqT (tgt := 671) C dL_law_666 (by decide) (by decide) ?_
      refine jj_iload C dL_law_671 rfl ?_
      refine jj_if_neT (tgt := 687) C dL_law_673 (by decide) (by decide) ?_
      refine jj_goto (tgt := 2259) C dL_law_687 (by decide) ?_
      exact jj_loc [7, 2] rfl (jj_drop [] rfl (by decide) (jj_widen (k := 600006) (n := 7302072) (jj_le rfl) (jj_le rfl) hend))
    · refine jj_apd rfl ?_
      refine jj_lstore C dL_law_658 (by decide) rfl ?_
      refine jj_aload_n C dL_law_660 rfl ?_
      refine jq_callV (rest := []) C (ct_X11_thrown_2 hl D cA ak q_28 q_31 q_32 q_33 q_34 q_35 q_36 q_37 q_38 q_39 q_40 q_41 q_42) [26] [0, 1, 2, 3, 4, 5, 6, 7, 8, 9, 10, 11, 12, 13, 14, 15, 16, 17, 18, 19, 20, 21, 22, 23, 24, 25] rfl rfl (by decide) (by decide) (by decide) 0 rfl rfl rfl jw_993 jw_994 jw_995 jw_224 jw_992 jn_X11_thrown rfl (jj_le rfl) (jj_le rfl) (jj_le rfl) (jj_le rfl) (jj_le rfl) dL_law_661 rfl (fun _ _ hX => hX.elim) (fun w1 r O_64 => ?_)
      obtain ⟨rfl, rfl⟩ := O_64
      refine jj_apd rfl ?_
      refine jj_iload C dL_law_664 rfl ?_
      refine jj_icmp_eqT (tgt := 671) C dL_law_666 (by decide) (by decide) ?_
      refine jj_iload C dL_law_671 rfl ?_
      refine jj_if_neT (tgt := 687) C dL_law_673 (by decide) (by decide) ?_
      refine jj_goto (tgt := 2259) C dL_law_687 (by decide) ?_
      exact jj_loc [7, 2] rfl (jj_drop [] rfl (by decide) (jj_widen (k := 600006) (n := 7302072) (jj_le rfl) (jj_le rfl) hend))
    · refine jj_apd rfl ?_
      refine jj_lstore C dL_law_658 (by decide) rfl ?_
      refine jj_aload_n C dL_law_660 rfl ?_
      refine jq_callV (rest := []) C (ct_X11_thrown_5 hl D cA ak q_28 q_31 q_32 q_33 q_34 q_35 q_36 q_37 q_38 q_39 q_40 q_41 q_42) [25] [0, 1, 2, 3, 4, 5, 6, 7, 8, 9, 10, 11, 12, 13, 14, 15, 16, 17, 18, 19, 20, 21, 22, 23, 24, 26] rfl rfl (by decide) (by decide) (by decide) 0 rfl rfl rfl jw_993 jw_994 jw_995 jw_224 jw_992 jn_X11_thrown rfl (jj_le rfl) (jj_le rfl) (jj_le rfl) (jj_le rfl) (jj_le rfl) dL_law_661 rfl (fun _ _ hX => hX.elim) (fun w1 r O_66 => ?_)
      obtain ⟨rfl, rfl⟩ := O_66
      refine jj_apd rfl ?_
      refine jj_iload C dL_law_664 rfl ?_
      refine jj_icmp_eqF (tgt := 671) C dL_law_666 (by decide) (by decide) ?_
      refine jj_iconst (v := 0) C dL_law_669 (by decide) ?_
      exfalso; have z0 := jc_lt (a := (xs 1).toInt) (b := (-9000)) c_48 rfl (by decide); have z1 := jc_nltL (a := (xs 1).toInt) (b := (-9000)) c_59 (Int32.toInt_toInt64 _) (by decide); have z2 := jc_nltL (a := (9999)) (b := (xs 1).toInt) c_60 (by decide) (Int32.toInt_toInt64 _); omega
  · refine jj_apd rfl ?_
    refine jj_istore C dL_law_646 (by decide) rfl ?_
    refine jj_aload_n C dL_law_648 rfl ?_
    refine jj_aload_n C dL_law_649 rfl ?_
    refine jj_iload C dL_law_650 rfl ?_
    refine jj_iconst (v := 1) C dL_law_652 (by decide) ?_
    refine jj_iadd (v := 1) C dL_law_653 (by decide) ?_
    refine jj_xld (v := xs 1) C hX hbl hbA (vp_in_iff.mpr (by decide)) rfl dL_law_654 ?_
    refine jq_callV (rest := []) C (ct_X11_earn_1 hl D cA ak q_28 q_31 q_32 q_36 q_33 q_34 q_35 q_37 q_38 q_39 q_40 q_41 q_42 (xs 1)) [12, 24, 13, 17] [0, 1, 2, 3, 4, 5, 6, 7, 8, 9, 10, 11, 14, 15, 16, 18, 19, 20, 21, 22, 23, 25, 26] rfl rfl (by decide) (by decide) (by decide) 0 rfl rfl rfl jw_1088 jw_1089 jw_1090 jw_224 jw_432 jn_X11_earn rfl (jj_le rfl) (jj_le rfl) (jj_le rfl) (jj_le rfl) (jj_le rfl) dL_law_655 rfl (fun _ _ hX => hX.elim) (fun w1 r O_68 => ?_)
    rcases O_68 with ⟨c_69, rfl, rfl⟩ | ⟨c_70, c_71, rfl, rfl⟩ | ⟨f_72, c_73, c_74, rfl, rfl⟩
    · refine jj_apd rfl ?_
      refine jj_lstore C dL_law_658 (by decide) rfl ?_
      refine jj_aload_n C dL_law_660 rfl ?_
      refine jq_callV (rest := []) C (ct_X11_thrown_2 hl D cA ak q_28 q_31 q_32 q_33 q_34 q_35 q_36 q_37 q_38 q_39 q_40 q_41 q_42) [26] [0, 1, 2, 3, 4, 5, 6, 7, 8, 9, 10, 11, 12, 13, 14, 15, 16, 17, 18, 19, 20, 21, 22, 23, 24, 25] rfl rfl (by decide) (by decide) (by decide) 0 rfl rfl rfl jw_993 jw_994 jw_995 jw_224 jw_992 jn_X11_thrown rfl (jj_le rfl) (jj_le rfl) (jj_le rfl) (jj_le rfl) (jj_le rfl) dL_law_661 rfl (fun _ _ hX => hX.elim) (fun w1 r O_76 => ?_)
      obtain ⟨rfl, rfl⟩ := O_76
      refine jj_apd rfl ?_
      refine jj_iload C dL_law_664 rfl ?_
      refine jj_icmp_eqT (tgt := 671) C dL_law_666 (by decide) (by decide) ?_
      refine jj_iload C dL_law_671 rfl ?_
      refine jj_if_neT (tgt := 687) C dL_law_673 (by decide) (by decide) ?_
      refine jj_goto (tgt := 2259) C dL_law_687 (by decide) ?_
      exact jj_loc [7, 2] rfl (jj_drop [] rfl (by decide) (jj_widen (k := 600006) (n := 7302072) (jj_le rfl) (jj_le rfl) hend))
    · refine jj_apd rfl ?_
      refine jj_lstore C dL_law_658 (by decide) rfl ?_
      refine jj_aload_n C dL_law_660 rfl ?_
      refine jq_callV (rest := []) C (ct_X11_thrown_2 hl D cA ak q_28 q_31 q_32 q_33 q_34 q_35 q_36 q_37 q_38 q_39 q_40 q_41 q_42) [26] [0, 1, 2, 3, 4, 5, 6, 7, 8, 9, 10, 11, 12, 13, 14, 15, 16, 17, 18, 19, 20, 21, 22, 23, 24, 25] rfl rfl (by decide) (by decide) (by decide) 0 rfl rfl rfl jw_993 jw_994 jw_995 jw_224 jw_992 jn_X11_thrown rfl (jj_le rfl) (jj_le rfl) (jj_le rfl) (jj_le rfl) (jj_le rfl) dL_law_661 rfl (fun _ _ hX => hX.elim) (fun w1 r O_78 => ?_)
      obtain ⟨rfl, rfl⟩ := O_78
      refine jj_apd rfl ?_
      refine jj_iload C dL_law_664 rfl ?_
      refine jj_icmp_eqT (tgt := 671) C dL_law_666 (by decide) (by decide) ?_
      refine jj_iload C dL_law_671 rfl ?_
      refine jj_if_neT (tgt := 687) C dL_law_673 (by decide) (by decide) ?_
      refine jj_goto (tgt := 2259) C dL_law_687 (by decide) ?_
      exact jj_loc [7, 2] rfl (jj_drop [] rfl (by decide) (jj_widen (k := 600006) (n := 7302072) (jj_le rfl) (jj_le rfl) hend))
    · refine jj_apd rfl ?_
      refine jj_lstore C dL_law_658 (by decide) rfl ?_
      refine jj_aload_n C dL_law_660 rfl ?_
      refine jq_callV (rest := []) C (ct_X11_thrown_5 hl D cA ak q_28 q_31 q_32 q_33 q_34 q_35 q_36 q_37 q_38 q_39 q_40 q_41 q_42) [25] [0, 1, 2, 3, 4, 5, 6, 7, 8, 9, 10, 11, 12, 13, 14, 15, 16, 17, 18, 19, 20, 21, 22, 23, 24, 26] rfl rfl (by decide) (by decide) (by decide) 0 rfl rfl rfl jw_993 jw_994 jw_995 jw_224 jw_992 jn_X11_thrown rfl (jj_le rfl) (jj_le rfl) (jj_le rfl) (jj_le rfl) (jj_le rfl) dL_law_661 rfl (fun _ _ hX => hX.elim) (fun w1 r O_80 => ?_)
      obtain ⟨rfl, rfl⟩ := O_80
      refine jj_apd rfl ?_
      refine jj_iload C dL_law_664 rfl ?_
      refine jj_icmp_eqF (tgt := 671) C dL_law_666 (by decide) (by decide) ?_
      refine jj_iconst (v := 0) C dL_law_669 (by decide) ?_
      exfalso; have z0 := jc_nlt (a := (xs 1).toInt) (b := (-9000)) c_49 rfl (by decide); have z1 := jc_nle (a := (xs 1).toInt) (b := (9999)) c_50 rfl (by decide); have z2 := jc_nltL (a := (xs 1).toInt) (b := (-9000)) c_73 (Int32.toInt_toInt64 _) (by decide); have z3 := jc_nltL (a := (9999)) (b := (xs 1).toInt) c_74 (by decide) (Int32.toInt_toInt64 _); omega
  · refine jj_apd rfl ?_
    refine jj_istore C dL_law_646 (by decide) rfl ?_
    refine jj_aload_n C dL_law_648 rfl ?_
    refine jj_aload_n C dL_law_649 rfl ?_
    refine jj_iload C dL_law_650 rfl ?_
    refine jj_iconst (v := 1) C dL_law_652 (by decide) ?_
    refine jj_iadd (v := 1) C dL_law_653 (by decide) ?_
    refine jj_xld (v := xs 1) C hX hbl hbA (vp_in_iff.mpr (by decide)) rfl dL_law_654 ?_
    refine jq_callV (rest := []) C (ct_X11_earn_1 hl D cA ak q_28 q_31 q_32 q_36 q_33 q_34 q_35 q_37 q_38 q_39 q_40 q_41 q_42 (xs 1)) [12, 24, 13, 17] [0, 1, 2, 3, 4, 5, 6, 7, 8, 9, 10, 11, 14, 15, 16, 18, 19, 20, 21, 22, 23, 25, 26] rfl rfl (by decide) (by decide) (by decide) 0 rfl rfl rfl jw_1088 jw_1089 jw_1090 jw_224 jw_432 jn_X11_earn rfl (jj_le rfl) (jj_le rfl) (jj_le rfl) (jj_le rfl) (jj_le rfl) dL_law_655 rfl (fun _ _ hX => hX.elim) (fun w1 r O_82 => ?_)
    rcases O_82 with ⟨c_83, rfl, rfl⟩ | ⟨c_84, c_85, rfl, rfl⟩ | ⟨f_86, c_87, c_88, rfl, rfl⟩
    · refine jj_apd rfl ?_
      refine jj_lstore C dL_law_658 (by decide) rfl ?_
      refine jj_aload_n C dL_law_660 rfl ?_
      refine jq_callV (rest := []) C (ct_X11_thrown_2 hl D cA ak q_28 q_31 q_32 q_33 q_34 q_35 q_36 q_37 q_38 q_39 q_40 q_41 q_42) [26] [0, 1, 2, 3, 4, 5, 6, 7, 8, 9, 10, 11, 12, 13, 14, 15, 16, 17, 18, 19, 20, 21, 22, 23, 24, 25] rfl rfl (by decide) (by decide) (by decide) 0 rfl rfl rfl jw_993 jw_994 jw_995 jw_224 jw_992 jn_X11_thrown rfl (jj_le rfl) (jj_le rfl) (jj_le rfl) (jj_le rfl) (jj_le rfl) dL_law_661 rfl (fun _ _ hX => hX.elim) (fun w1 r O_90 => ?_)
      obtain ⟨rfl, rfl⟩ := O_90
      refine jj_apd rfl ?_
      refine jj_iload C dL_law_664 rfl ?_
      refine jj_icmp_eqF (tgt := 671) C dL_law_666 (by decide) (by decide) ?_
      refine jj_iconst (v := 0) C dL_law_669 (by decide) ?_
      exfalso; have z0 := jc_nlt (a := (xs 1).toInt) (b := (-9000)) c_51 rfl (by decide); have z1 := jc_le (a := (xs 1).toInt) (b := (9999)) c_52 rfl (by decide); have z2 := jc_ltL (a := (xs 1).toInt) (b := (-9000)) c_83 (Int32.toInt_toInt64 _) (by decide); omega
    · refine jj_apd rfl ?_
      refine jj_lstore C dL_law_658 (by decide) rfl ?_
      refine jj_aload_n C dL_law_660 rfl ?_
      refine jq_callV (rest := []) C (ct_X11_thrown_2 hl D cA ak q_28 q_31 q_32 q_33 q_34 q_35 q_36 q_37 q_38 q_39 q_40 q_41 q_42) [26] [0, 1, 2, 3, 4, 5, 6, 7, 8, 9, 10, 11, 12, 13, 14, 15, 16, 17, 18, 19, 20, 21, 22, 23, 24, 25] rfl rfl (by decide) (by decide) (by decide) 0 rfl rfl rfl jw_993 jw_994 jw_995 jw_224 jw_992 jn_X11_thrown rfl (jj_le rfl) (jj_le rfl) (jj_le rfl) (jj_le rfl) (jj_le rfl) dL_law_661 rfl (fun _ _ hX => hX.elim) (fun w1 r O_92 => ?_)
      obtain ⟨rfl, rfl⟩ := O_92
      refine jj_apd rfl ?_
      refine jj_iload C dL_law_664 rfl ?_
      refine jj_icmp_eqF (tgt := 671) C dL_law_666 (by decide) (by decide) ?_
      refine jj_iconst (v := 0) C dL_law_669 (by decide) ?_
      exfalso; have z0 := jc_nlt (a := (xs 1).toInt) (b := (-9000)) c_51 rfl (by decide); have z1 := jc_le (a := (xs 1).toInt) (b := (9999)) c_52 rfl (by decide); have z2 := jc_nltL (a := (xs 1).toInt) (b := (-9000)) c_84 (Int32.toInt_toInt64 _) (by decide); have z3 := jc_ltL (a := (9999)) (b := (xs 1).toInt) c_85 (by decide) (Int32.toInt_toInt64 _); omega
    · refine jj_apd rfl ?_
      refine jj_lstore C dL_law_658 (by decide) rfl ?_
      refine jj_aload_n C dL_law_660 rfl ?_
      refine jq_callV (rest := []) C (ct_X11_thrown_5 hl D cA ak q_28 q_31 q_32 q_33 q_34 q_35 q_36 q_37 q_38 q_39 q_40 q_41 q_42) [25] [0, 1, 2, 3, 4, 5, 6, 7, 8, 9, 10, 11, 12, 13, 14, 15, 16, 17, 18, 19, 20, 21, 22, 23, 24, 26] rfl rfl (by decide) (by decide) (by decide) 0 rfl rfl rfl jw_993 jw_994 jw_995 jw_224 jw_992 jn_X11_thrown rfl (jj_le rfl) (jj_le rfl) (jj_le rfl) (jj_le rfl) (jj_le rfl) dL_law_661 rfl (fun _ _ hX => hX.elim) (fun w1 r O_94 => ?_)
      obtain ⟨rfl, rfl⟩ := O_94
      refine jj_apd rfl ?_
      refine jj_iload C dL_law_664 rfl ?_
      refine jj_icmp_eqT (tgt := 671) C dL_law_666 (by decide) (by decide) ?_
      refine jj_iload C dL_law_671 rfl ?_
      refine jj_if_neF (tgt := 687) C dL_law_673 (by decide) (by decide) ?_
      refine jj_aload_n C dL_law_676 rfl ?_
      refine jj_iconst (v := 0) C dL_law_677 (by decide) ?_
      refine jj_lald (v := 0) C 22 rfl (vp_in_iff.mpr (by decide)) rfl dL_law_678 ?_
      refine jj_lload C dL_law_679 rfl ?_
      refine jj_lcmp_eqT (tgt := 687) C dL_law_681 dL_law_682 (by decide) (by decide) ?_
      refine jj_goto (tgt := 2259) C dL_law_687 (by decide) ?_
      exact jj_loc [7, 2] rfl (jj_drop [] rfl (by decide) (jj_widen (k := 600006) (n := 7302072) (jj_le rfl) (jj_le rfl) hend))

set_option maxHeartbeats 4000000 in
set_option maxRecDepth 100000 in
theorem law_c10 {p : Program} {l : Launch} {e : Env} {s : State} {m : MethodId} {below : List Frame} {meth : Method} {c : Code} (hl : l.stackTraces = false) {D : va_G} {cA : Nat → ClassId} {ak : (Nat → Nat) × (Nat → Nat)} {A : Nat → Prop} {b : Nat} {xs : Nat → Int32} {Q : State → Prop} (C : jj_C p l s m #[Value.ref b] meth c code 9 R_law ret D cA A ak) (hX : va_X b 6 xs s s.heap) (hbl : b < s.heap.size) (hbA : ¬ A b) (hend : jj_J p l e room_1 s m #[Value.ref b] below meth c 9 A Q (jj_X D A []) 600006 7302072 2259 [(0, .ref b), (5, .int 0)] []) (q_1 q_4 q_5 q_6 q_7 q_8 q_9 q_10 q_11 q_12 q_13 q_14 q_15 q_16 q_17 q_18 q_19 q_20 q_21 q_22 q_23 q_28 q_31 q_32 q_33 q_34 q_35 q_36 q_37 q_38 q_39 q_40 q_41 q_42 q_43 q_44 : Nat) (f_24 : Nat → Option Nat) (f_25 : Nat → Option Nat) (c_26 : f_24 0 = some q_11) (c_27 : f_25 0 = some q_17) : jj_J p l e room_1 s m #[Value.ref b] below meth c 9 A Q (jj_X D A [(q_1, .inr (11, [.ref q_4, .int 0, .int (-1), .ref q_6, .ref q_12, .ref q_18, .ref q_20, .int 0, .int 0, .ref q_21])), (q_4, .inr (10, [.ref q_5, .int 0, .int 0, .int 0, .int 0, .int 0, .int (-1)])), (q_5, .inl (cA 1, 400, .inl (fun _ => 0))), (q_6, .inr (2, [.int 1, .int 0, .int 0, .int 0, .int 100, .int 0, .int 0, .int 0, .int 0, .int 0, .ref q_7, .ref q_8, .ref q_9, .ref q_10])), (q_7, .inl (cA 2, 6, .inr (.inl (fun _ => 0)))), (q_10, .inl (cA 7, 12, .inr (.inr (.inr (.inr f_24))))), (q_11, .inr (7, [.int 0, .int 0, .int 0, .long 0, .long 0])), (q_12, .inr (2, [.int 1, .int 0, .int 0, .int 0, .int 100, .int 0, .int 0, .int 0, .int 0, .int 0, .ref q_13, .ref q_14, .ref q_15, .ref q_16])), (q_13, .inl (cA 2, 6, .inr (.inl (fun _ => 0)))), (q_16, .inl (cA 7, 12, .inr (.inr (.inr (.inr f_25))))), (q_17, .inr (7, [.int 0, .int 0, .int 0, .long 0, .long 0])), (q_18, .inr (3, [.ref q_19, .long 0, .long 0, .long 0, .long 0, .long 0])), (q_20, .inl (cA 5, 10, .inr (.inr (.inr (.inr (fun _ => none)))))), (q_21, .inr (6, [.ref q_22, .int 0, .ref q_23])), (q_22, .inl (cA 0, 1300, .inl (fun _ => 0))), (q_23, .inl (cA 0, 20, .inl (fun _ => 0))), (q_28, .inr (12, [.ref q_31, .ref q_32, .ref q_33, .ref q_34, .ref q_35, .ref q_36, .int 0, .int 0, .long 0, .long 0, .ref q_37, .ref q_38, .ref q_39, .int 0, .int 0, .int 0, .int 0, .int 0, .int (-1), .int 0, .int 0, .ref q_40, .ref q_41, .ref q_42, .int 0])), (q_32, .inl (cA 2, 334, .inr (.inl (fun _ => 0)))), (q_33, .inl (cA 2, 334, .inr (.inl (fun _ => 0)))), (q_34, .inl (cA 2, 334, .inr (.inl (fun _ => 0)))), (q_35, .inl (cA 2, 334, .inr (.inl (fun _ => 0)))), (q_36, .inl (cA 2, 3340, .inr (.inl (fun _ => 0)))), (q_37, .inl (cA 2, 12, .inr (.inl (fun _ => 0)))), (q_38, .inl (cA 3, 12, .inl (fun _ => 0))), (q_39, .inl (cA 0, 400, .inl (fun _ => 0))), (q_40, .inl (cA 2, 6, .inr (.inl (fun _ => 0)))), (q_41, .inl (cA 2, 6, .inr (.inl (fun _ => 0)))), (q_42, .inl (cA 0, 2400, .inl (fun _ => 0))), (q_31, .inl (cA 2, 334, .inr (.inl (vp_updL (vp_updL (fun _ => 0) 0 1) 4 100)))), (q_43, .inl (cA 2, 1, .inr (.inl (fun _ => 0)))), (q_44, .inl (cA 4, 1, .inr (.inr (.inr (.inl (fun _ => 0))))))]) 156 10481 690 [(5, .int 0), (4, .ref q_44), (3, .ref q_43), (2, .ref q_28), (1, .ref q_1), (0, .ref b)] [] := by
  refine jj_aload_n C dL_law_690 rfl ?_
  refine jj_aload_n C dL_law_691 rfl ?_
  refine jj_iload C dL_law_692 rfl ?_
  refine jj_iconst (v := 1) C dL_law_694 (by decide) ?_
  refine jj_iadd (v := 1) C dL_law_695 (by decide) ?_
  refine jj_xld (v := xs 1) C hX hbl hbA (vp_in_iff.mpr (by decide)) rfl dL_law_696 ?_
  refine jj_aload_n C dL_law_697 rfl ?_
  refine jq_callSW (rest := []) C (ct_L_passDays_1 hl D cA ak q_1 q_43 q_6 q_20 q_7 q_4 q_12 q_18 q_21 q_8 q_9 q_10 (xs 1)) [0, 29, 3, 12, 4] [1, 2, 5, 6, 7, 8, 9, 10, 11, 13, 14, 15, 16, 17, 18, 19, 20, 21, 22, 23, 24, 25, 26, 27, 28, 30] rfl rfl (by decide) (by decide) (by decide) jw_1097 jw_1098 jw_985 jw_1096 jn_L_passDays rfl (jj_le rfl) (jj_le rfl) (jj_le rfl) (jj_le rfl) (jj_le rfl) dL_law_698 rfl (fun _ _ hX => hX.elim) (fun w1 r O_47 => ?_)
  rcases O_47 with ⟨c_48, rfl, rfl⟩ | ⟨c_49, c_50, rfl, rfl⟩ | ⟨c_51, c_52, rfl, rfl⟩
  · refine jj_apd rfl ?_
    refine jj_istore C dL_law_701 (by decide) rfl ?_
    refine jj_aload_n C dL_law_703 rfl ?_
    refine jj_aload_n C dL_law_704 rfl ?_
    refine jj_iload C dL_law_705 rfl ?_
    refine jj_iconst (v := 1) C dL_law_707 (by decide) ?_
    refine jj_iadd (v := 1) C dL_law_708 (by decide) ?_
    refine jj_xld (v := xs 1) C hX hbl hbA (vp_in_iff.mpr (by decide)) rfl dL_law_709 ?_
    refine jq_callV (rest := []) C (ct_X11_passDays_1 hl D cA ak q_28 q_31 q_32 q_36 q_33 q_34 q_35 q_37 q_38 q_39 q_40 q_41 q_42 (xs 1)) [12, 24, 13, 17] [0, 1, 2, 3, 4, 5, 6, 7, 8, 9, 10, 11, 14, 15, 16, 18, 19, 20, 21, 22, 23, 25, 26] rfl rfl (by decide) (by decide) (by decide) 0 rfl rfl rfl jw_1100 jw_1101 jw_1102 jw_224 jw_449 jn_X11_passDays rfl (jj_le rfl) (jj_le rfl) (jj_le rfl) (jj_le rfl) (jj_le rfl) dL_law_710 rfl (fun _ _ hX => hX.elim) (fun w1 r O_54 => ?_)
    rcases O_54 with ⟨c_55, rfl, rfl⟩ | ⟨c_56, c_57, rfl, rfl⟩ | ⟨f_58, c_59, c_60, rfl, rfl⟩
    · refine jj_apd rfl ?_
      refine jj_lstore C dL_law_713 (by decide) rfl ?_
      refine jj_aload_n C dL_law_715 rfl ?_
      refine jq_callV (rest := []) C (ct_X11_thrown_2 hl D cA ak q_28 q_31 q_32 q_33 q_34 q_35 q_36 q_37 q_38 q_39 q_40 q_41 q_42) [26] [0, 1, 2, 3, 4, 5, 6, 7, 8, 9, 10, 11, 12, 13, 14, 15, 16, 17, 18, 19, 20, 21, 22, 23, 24, 25] rfl rfl (by decide) (by decide) (by decide) 0 rfl rfl rfl jw_993 jw_994 jw_995 jw_224 jw_992 jn_X11_thrown rfl (jj_le rfl) (jj_le rfl) (jj_le rfl) (jj_le rfl) (jj_le rfl) dL_law_716 rfl (fun _ _ hX => hX.elim) (fun w1 r O_62 => ?_)
      obtain ⟨rfl, rfl⟩ := O_62
      refine jj_apd rfl ?_
      refine jj_iload C dL_law_719 rfl ?_
      refine jj_icmp_eqT (tgt := 726) C dL_law_721 (by decide) (by decide) ?_
      refine jj_iload C dL_law_726 rfl ?_
      refine jj_if_neT (tgt := 742) C dL_law_728 (by decide) (by decide) ?_
      refine jj_goto (tgt := 2259) C dL_law_742 (by decide) ?_
      exact jj_loc [7, 2] rfl (jj_drop [] rfl (by decide) (jj_widen (k := 600006) (n := 7302072) (jj_le rfl) (jj_le rfl) hend))
    · refine jj_apd rfl ?_
      refine jj_lstore C dL_law_713 (by decide) rfl ?_
      refine jj_aload_n C dL_law_715 rfl ?_
      refine jq_callV (rest := []) C (ct_X11_thrown_2 hl D cA ak q_28 q_31 q_32 q_33 q_34 q_35 q_36 q_37 q_38 q_39 q_40 q_41 q_42) [26] [0, 1, 2, 3, 4, 5, 6, 7, 8, 9, 10, 11, 12, 13, 14, 15, 16, 17, 18, 19, 20, 21, 22, 23, 24, 25] rfl rfl (by decide) (by decide) (by decide) 0 rfl rfl rfl jw_993 jw_994 jw_995 jw_224 jw_992 jn_X11_thrown rfl (jj_le rfl) (jj_le rfl) (jj_le rfl) (jj_le rfl) (jj_le rfl) dL_law_716 rfl (fun _ _ hX => hX.elim) (fun w1 r O_64 => ?_)
      obtain ⟨rfl, rfl⟩ := O_64
      refine jj_apd rfl ?_
      refine jj_iload C dL_law_719 rfl ?_
      refine jj_icmp_eqT (tgt := 726) C dL_law_721 (by decide) (by decide) ?_
      refine jj_iload C dL_law_726 rfl ?_
      refine jj_if_neT (tgt := 742) C dL_law_728 (by decide) (by decide) ?_
      refine jj_goto (tgt := 2259) C dL_law_742 (by decide) ?_
      exact jj_loc [7, 2] rfl (jj_drop [] rfl (by decide) (jj_widen (k := 600006) (n := 7302072) (jj_le rfl) (jj_le rfl) hend))
    · refine jj_apd rfl ?_
      refine jj_lstore C dL_law_713 (by decide) rfl ?_
      refine jj_aload_n C dL_law_715 rfl ?_
      refine jq_callV (rest := []) C (ct_X11_thrown_5 hl D cA ak q_28 q_31 q_32 q_33 q_34 q_35 q_36 q_37 q_38 q_39 q_40 q_41 q_42) [25] [0, 1, 2, 3, 4, 5, 6, 7, 8, 9, 10, 11, 12, 13, 14, 15, 16, 17, 18, 19, 20, 21, 22, 23, 24] rfl rfl (by decide) (by decide) (by decide) 0 rfl rfl rfl jw_993 jw_994 jw_995 jw_224 jw_992 jn_X11_thrown rfl (jj_le rfl) (jj_le rfl) (jj_le rfl) (jj_le rfl) (jj_le rfl) dL_law_716 rfl (fun _ _ hX => hX.elim) (fun w1 r O_66 => ?_)
      obtain ⟨rfl, rfl⟩ := O_66
      refine jj_apd rfl ?_
      refine jj_iload C dL_law_719 rfl ?_
      refine jj_icmp_eqF (tgt := 726) C dL_law_721 (by decide) (by decide) ?_
      refine jj_iconst (v := 0) C dL_law_724 (by decide) ?_
      exfalso; have z0 := jc_lt (a := (xs 1).toInt) (b := (1)) c_48 rfl (by decide); have z1 := jc_nltL (a := (xs 1).toInt) (b := (1)) c_59 (Int32.toInt_toInt64 _) (by decide); have z2 := jc_nltL (a := (400)) (b := (xs 1).toInt) c_60 (by decide) (Int32.toInt_toInt64 _); omega
  · refine jj_apd rfl ?_
    refine jj_istore C dL_law_701 (by decide) rfl ?_
    refine jj_aload_n C dL_law_703 rfl ?_
    refine jj_aload_n C dL_law_704 rfl ?_
    refine jj_iload C dL_law_705 rfl ?_
    refine jj_iconst (v := 1) C dL_law_707 (by decide) ?_
    refine jj_iadd (v := 1) C dL_law_708 (by decide) ?_
    refine jj_xld (v := xs 1) C hX hbl hbA (vp_in_iff.mpr (by decide)) rfl dL_law_709 ?_
    refine jq_callV (rest := []) C (ct_X11_passDays_1 hl D cA ak q_28 q_31 q_32 q_36 q_33 q_34 q_35 q_37 q_38 q_39 q_40 q_41 q_42 (xs 1)) [12, 24, 13, 17] [0, 1, 2, 3, 4, 5, 6, 7, 8, 9, 10, 11, 14, 15, 16, 18, 19, 20, 21, 22, 23, 25, 26] rfl rfl (by decide) (by decide) (by decide) 0 rfl rfl rfl jw_1100 jw_1101 jw_1102 jw_224 jw_449 jn_X11_passDays rfl (jj_le rfl) (jj_le rfl) (jj_le rfl) (jj_le rfl) (jj_le rfl) dL_law_710 rfl (fun _ _ hX => hX.elim) (fun w1 r O_68 => ?_)
    rcases O_68 with ⟨c_69, rfl, rfl⟩ | ⟨c_70, c_71, rfl, rfl⟩ | ⟨f_72, c_73, c_74, rfl, rfl⟩
    · refine jj_apd rfl ?_
      refine jj_lstore C dL_law_713 (by decide) rfl ?_
      refine jj_aload_n C dL_law_715 rfl ?_
      refine jq_callV (rest := []) C (ct_X11_thrown_2 hl D cA ak q_28 q_31 q_32 q_33 q_34 q_35 q_36 q_37 q_38 q_39 q_40 q_41 q_42) [26] [0, 1, 2, 3, 4, 5, 6, 7, 8, 9, 10, 11, 12, 13, 14, 15, 16, 17, 18, 19, 20, 21, 22, 23, 24, 25] rfl rfl (by decide) (by decide) (by decide) 0 rfl rfl rfl jw_993 jw_994 jw_995 jw_224 jw_992 jn_X11_thrown rfl (jj_le rfl) (jj_le rfl) (jj_le rfl) (jj_le rfl) (jj_le rfl) dL_law_716 rfl (fun _ _ hX => hX.elim) (fun w1 r O_76 => ?_)
      obtain ⟨rfl, rfl⟩ := O_76
      refine jj_apd rfl ?_
      refine jj_iload C dL_law_719 rfl ?_
      refine jj_icmp_eqT (tgt := 726) C dL_law_721 (by decide) (by decide) ?_
      refine jj_iload C dL_law_726 rfl ?_
      refine jj_if_neT (tgt := 742) C dL_law_728 (by decide) (by decide) ?_
      refine jj_goto (tgt := 2259) C dL_law_742 (by decide) ?_
      exact jj_loc [7, 2] rfl (jj_drop [] rfl (by decide) (jj_widen (k := 600006) (n := 7302072) (jj_le rfl) (jj_le rfl) hend))
    · refine jj_apd rfl ?_
      refine jj_lstore C dL_law_713 (by decide) rfl ?_
      refine jj_aload_n C dL_law_715 rfl ?_
      refine jq_callV (rest := []) C (ct_X11_thrown_2 hl D cA ak q_28 q_31 q_32 q_33 q_34 q_35 q_36 q_37 q_38 q_39 q_40 q_41 q_42) [26] [0, 1, 2, 3, 4, 5, 6, 7, 8, 9, 10, 11, 12, 13, 14, 15, 16, 17, 18, 19, 20, 21, 22, 23, 24, 25] rfl rfl (by decide) (by decide) (by decide) 0 rfl rfl rfl jw_993 jw_994 jw_995 jw_224 jw_992 jn_X11_thrown rfl (jj_le rfl) (jj_le rfl) (jj_le rfl) (jj_le rfl) (jj_le rfl) dL_law_716 rfl (fun _ _ hX => hX.elim) (fun w1 r O_78 => ?_)
      obtain ⟨rfl, rfl⟩ := O_78
      refine jj_apd rfl ?_
      refine jj_iload C dL_law_719 rfl ?_
      refine jj_icmp_eqT (tgt := 726) C dL_law_721 (by decide) (by decide) ?_
      refine jj_iload C dL_law_726 rfl ?_
      refine jj_if_neT (tgt := 742) C dL_law_728 (by decide) (by decide) ?_
      refine jj_goto (tgt := 2259) C dL_law_742 (by decide) ?_
      exact jj_loc [7, 2] rfl (jj_drop [] rfl (by decide) (jj_widen (k := 600006) (n := 7302072) (jj_le rfl) (jj_le rfl) hend))
    · refine jj_apd rfl ?_
      refine jj_lstore C dL_law_713 (by decide) rfl ?_
      refine jj_aload_n C dL_law_715 rfl ?_
      refine jq_callV (rest := []) C (ct_X11_thrown_5 hl D cA ak q_28 q_31 q_32 q_33 q_34 q_35 q_36 q_37 q_38 q_39 q_40 q_41 q_42) [25] [0, 1, 2, 3, 4, 5, 6, 7, 8, 9, 10, 11, 12, 13, 14, 15, 16, 17, 18, 19, 20, 21, 22, 23, 24] rfl rfl (by decide) (by decide) (by decide) 0 rfl rfl rfl jw_993 jw_994 jw_995 jw_224 jw_992 jn_X11_thrown rfl (jj_le rfl) (jj_le rfl) (jj_le rfl) (jj_le rfl) (jj_le rfl) dL_law_716 rfl (fun _ _ hX => hX.elim) (fun w1 r O_80 => ?_)
      obtain ⟨rfl, rfl⟩ := O_80
      refine jj_apd rfl ?_
      refine jj_iload C dL_law_719 rfl ?_
      refine jj_icmp_eqF (tgt := 726) C dL_law_721 (by decide) (by decide) ?_
      refine jj_iconst (v := 0) C dL_law_724 (by decide) ?_
      exfalso; have z0 := jc_nlt (a := (xs 1).toInt) (b := (1)) c_49 rfl (by decide); have z1 := jc_nle (a := (xs 1).toInt) (b := (400)) c_50 rfl (by decide); have z2 := jc_nltL (a := (xs 1).toInt) (b := (1)) c_73 (Int32.toInt_toInt64 _) (by decide); have z3 := jc_nltL (a := (400)) (b := (xs 1).toInt) c_74 (by decide) (Int32.toInt_toInt64 _); omega
  · refine jj_apd rfl ?_
    refine jj_istore C dL_law_701 (by decide) rfl ?_
    refine jj_aload_n C dL_law_703 rfl ?_
    refine jj_aload_n C dL_law_704 rfl ?_
    refine jj_iload C dL_law_705 rfl ?_
    refine jj_iconst (v := 1) C dL_law_707 (by decide) ?_
    refine jj_iadd (v := 1) C dL_law_708 (by decide) ?_
    refine jj_xld (v := xs 1) C hX hbl hbA (vp_in_iff.mpr (by decide)) rfl dL_law_709 ?_
    refine jq_callV (rest := []) C (ct_X11_passDays_1 hl D cA ak q_28 q_31 q_32 q_36 q_33 q_34 q_35 q_37 q_38 q_39 q_40 q_41 q_42 (xs 1)) [12, 24, 13, 17] [0, 1, 2, 3, 4, 5, 6, 7, 8, 9, 10, 11, 14, 15, 16, 18, 19, 20, 21, 22, 23, 25, 26] rfl rfl (by decide) (by decide) (by decide) 0 rfl rfl rfl jw_1100 jw_1101 jw_1102 jw_224 jw_449 jn_X11_passDays rfl (jj_le rfl) (jj_le rfl) (jj_le rfl) (jj_le rfl) (jj_le rfl) dL_law_710 rfl (fun _ _ hX => hX.elim) (fun w1 r O_82 => ?_)
    rcases O_82 with ⟨c_83, rfl, rfl⟩ | ⟨c_84, c_85, rfl, rfl⟩ | ⟨f_86, c_87, c_88, rfl, rfl⟩
    · refine jj_apd rfl ?_
      refine jj_lstore C dL_law_713 (by decide) rfl ?_
      refine jj_aload_n C dL_law_715 rfl ?_
      refine jq_callV (rest := []) C (ct_X11_thrown_2 hl D cA ak q_28 q_31 q_32 q_33 q_34 q_35 q_36 q_37 q_38 q_39 q_40 q_41 q_42) [26] [0, 1, 2, 3, 4, 5, 6, 7, 8, 9, 10, 11, 12, 13, 14, 15, 16, 17, 18, 19, 20, 21, 22, 23, 24, 25] rfl rfl (by decide) (by decide) (by decide) 0 rfl rfl rfl jw_993 jw_994 jw_995 jw_224 jw_992 jn_X11_thrown rfl (jj_le rfl) (jj_le rfl) (jj_le rfl) (jj_le rfl) (jj_le rfl) dL_law_716 rfl (fun _ _ hX => hX.elim) (fun w1 r O_90 => ?_)
      obtain ⟨rfl, rfl⟩ := O_90
      refine jj_apd rfl ?_
      refine jj_iload C dL_law_719 rfl ?_
      refine jj_icmp_eqF (tgt := 726) C dL_law_721 (by decide) (by decide) ?_
      refine jj_iconst (v := 0) C dL_law_724 (by decide) ?_
      exfalso; have z0 := jc_nlt (a := (xs 1).toInt) (b := (1)) c_51 rfl (by decide); have z1 := jc_le (a := (xs 1).toInt) (b := (400)) c_52 rfl (by decide); have z2 := jc_ltL (a := (xs 1).toInt) (b := (1)) c_83 (Int32.toInt_toInt64 _) (by decide); omega
    · refine jj_apd rfl ?_
      refine jj_lstore C dL_law_713 (by decide) rfl ?_
      refine jj_aload_n C dL_law_715 rfl ?_
      refine jq_callV (rest := []) C (ct_X11_thrown_2 hl D cA ak q_28 q_31 q_32 q_33 q_34 q_35 q_36 q_37 q_38 q_39 q_40 q_41 q_42) [26] [0, 1, 2, 3, 4, 5, 6, 7, 8, 9, 10, 11, 12, 13, 14, 15, 16, 17, 18, 19, 20, 21, 22, 23, 24, 25] rfl rfl (by decide) (by decide) (by decide) 0 rfl rfl rfl jw_993 jw_994 jw_995 jw_224 jw_992 jn_X11_thrown rfl (jj_le rfl) (jj_le rfl) (jj_le rfl) (jj_le rfl) (jj_le rfl) dL_law_716 rfl (fun _ _ hX => hX.elim) (fun w1 r O_92 => ?_)
      obtain ⟨rfl, rfl⟩ := O_92
      refine jj_apd rfl ?_
      refine jj_iload C dL_law_719 rfl ?_
      refine jj_icmp_eqF (tgt := 726) C dL_law_721 (by decide) (by decide) ?_
      refine jj_iconst (v := 0) C dL_law_724 (by decide) ?_
      exfalso; have z0 := jc_nlt (a := (xs 1).toInt) (b := (1)) c_51 rfl (by decide); have z1 := jc_le (a := (xs 1).toInt) (b := (400)) c_52 rfl (by decide); have z2 := jc_nltL (a := (xs 1).toInt) (b := (1)) c_84 (Int32.toInt_toInt64 _) (by decide); have z3 := jc_ltL (a := (400)) (b := (xs 1).toInt) c_85 (by decide) (Int32.toInt_toInt64 _); omega
    · refine jj_apd rfl ?_
      refine jj_lstore C dL_law_713 (by decide) rfl ?_
      refine jj_aload_n C dL_law_715 rfl ?_
      refine jq_callV (rest := []) C (ct_X11_thrown_5 hl D cA ak q_28 q_31 q_32 q_33 q_34 q_35 q_36 q_37 q_38 q_39 q_40 q_41 q_42) [25] [0, 1, 2, 3, 4, 5, 6, 7, 8, 9, 10, 11, 12, 13, 14, 15, 16, 17, 18, 19, 20, 21, 22, 23, 24] rfl rfl (by decide) (by decide) (by decide) 0 rfl rfl rfl jw_993 jw_994 jw_995 jw_224 jw_992 jn_X11_thrown rfl (jj_le rfl) (jj_le rfl) (jj_le rfl) (jj_le rfl) (jj_le rfl) dL_law_716 rfl (fun _ _ hX => hX.elim) (fun w1 r O_94 => ?_)
      obtain ⟨rfl, rfl⟩ := O_94
      refine jj_apd rfl ?_
      refine jj_iload C dL_law_719 rfl ?_
      refine jj_icmp_eqT (tgt := 726) C dL_law_721 (by decide) (by decide) ?_
      refine jj_iload C dL_law_726 rfl ?_
      refine jj_if_neF (tgt := 742) C dL_law_728 (by decide) (by decide) ?_
      refine jj_aload_n C dL_law_731 rfl ?_
      refine jj_iconst (v := 0) C dL_law_732 (by decide) ?_
      refine jj_lald (v := 0) C 22 rfl (vp_in_iff.mpr (by decide)) rfl dL_law_733 ?_
      refine jj_lload C dL_law_734 rfl ?_
      refine jj_lcmp_eqT (tgt := 742) C dL_law_736 dL_law_737 (by decide) (by decide) ?_
      refine jj_goto (tgt := 2259) C dL_law_742 (by decide) ?_
      exact jj_loc [7, 2] rfl (jj_drop [] rfl (by decide) (jj_widen (k := 600006) (n := 7302072) (jj_le rfl) (jj_le rfl) hend))

set_option maxHeartbeats 4000000 in
set_option maxRecDepth 100000 in
theorem law_c11 {p : Program} {l : Launch} {e : Env} {s : State} {m : MethodId} {below : List Frame} {meth : Method} {c : Code} (hl : l.stackTraces = false) {D : va_G} {cA : Nat → ClassId} {ak : (Nat → Nat) × (Nat → Nat)} {A : Nat → Prop} {b : Nat} {xs : Nat → Int32} {Q : State → Prop} (C : jj_C p l s m #[Value.ref b] meth c code 9 R_law ret D cA A ak) (hX : va_X b 6 xs s s.heap) (hbl : b < s.heap.size) (hbA : ¬ A b) (hend : jj_J p l e room_1 s m #[Value.ref b] below meth c 9 A Q (jj_X D A []) 600006 7302072 2259 [(0, .ref b), (5, .int 0)] []) (q_1 q_4 q_5 q_6 q_7 q_8 q_9 q_10 q_11 q_12 q_13 q_14 q_15 q_16 q_17 q_18 q_19 q_20 q_21 q_22 q_23 q_28 q_31 q_32 q_33 q_34 q_35 q_36 q_37 q_38 q_39 q_40 q_41 q_42 q_43 q_44 : Nat) (f_24 : Nat → Option Nat) (f_25 : Nat → Option Nat) (c_26 : f_24 0 = some q_11) (c_27 : f_25 0 = some q_17) : jj_J p l e room_1 s m #[Value.ref b] below meth c 9 A Q (jj_X D A [(q_1, .inr (11, [.ref q_4, .int 0, .int (-1), .ref q_6, .ref q_12, .ref q_18, .ref q_20, .int 0, .int 0, .ref q_21])), (q_4, .inr (10, [.ref q_5, .int 0, .int 0, .int 0, .int 0, .int 0, .int (-1)])), (q_5, .inl (cA 1, 400, .inl (fun _ => 0))), (q_6, .inr (2, [.int 1, .int 0, .int 0, .int 0, .int 100, .int 0, .int 0, .int 0, .int 0, .int 0, .ref q_7, .ref q_8, .ref q_9, .ref q_10])), (q_7, .inl (cA 2, 6, .inr (.inl (fun _ => 0)))), (q_10, .inl (cA 7, 12, .inr (.inr (.inr (.inr f_24))))), (q_11, .inr (7, [.int 0, .int 0, .int 0, .long 0, .long 0])), (q_12, .inr (2, [.int 1, .int 0, .int 0, .int 0, .int 100, .int 0, .int 0, .int 0, .int 0, .int 0, .ref q_13, .ref q_14, .ref q_15, .ref q_16])), (q_13, .inl (cA 2, 6, .inr (.inl (fun _ => 0)))), (q_16, .inl (cA 7, 12, .inr (.inr (.inr (.inr f_25))))), (q_17, .inr (7, [.int 0, .int 0, .int 0, .long 0, .long 0])), (q_18, .inr (3, [.ref q_19, .long 0, .long 0, .long 0, .long 0, .long 0])), (q_20, .inl (cA 5, 10, .inr (.inr (.inr (.inr (fun _ => none)))))), (q_21, .inr (6, [.ref q_22, .int 0, .ref q_23])), (q_22, .inl (cA 0, 1300, .inl (fun _ => 0))), (q_23, .inl (cA 0, 20, .inl (fun _ => 0))), (q_28, .inr (12, [.ref q_31, .ref q_32, .ref q_33, .ref q_34, .ref q_35, .ref q_36, .int 0, .int 0, .long 0, .long 0, .ref q_37, .ref q_38, .ref q_39, .int 0, .int 0, .int 0, .int 0, .int 0, .int (-1), .int 0, .int 0, .ref q_40, .ref q_41, .ref q_42, .int 0])), (q_32, .inl (cA 2, 334, .inr (.inl (fun _ => 0)))), (q_33, .inl (cA 2, 334, .inr (.inl (fun _ => 0)))), (q_34, .inl (cA 2, 334, .inr (.inl (fun _ => 0)))), (q_35, .inl (cA 2, 334, .inr (.inl (fun _ => 0)))), (q_36, .inl (cA 2, 3340, .inr (.inl (fun _ => 0)))), (q_37, .inl (cA 2, 12, .inr (.inl (fun _ => 0)))), (q_38, .inl (cA 3, 12, .inl (fun _ => 0))), (q_39, .inl (cA 0, 400, .inl (fun _ => 0))), (q_40, .inl (cA 2, 6, .inr (.inl (fun _ => 0)))), (q_41, .inl (cA 2, 6, .inr (.inl (fun _ => 0)))), (q_42, .inl (cA 0, 2400, .inl (fun _ => 0))), (q_31, .inl (cA 2, 334, .inr (.inl (vp_updL (vp_updL (fun _ => 0) 0 1) 4 100)))), (q_43, .inl (cA 2, 1, .inr (.inl (fun _ => 0)))), (q_44, .inl (cA 4, 1, .inr (.inr (.inr (.inl (fun _ => 0))))))]) 156 10481 745 [(5, .int 0), (4, .ref q_44), (3, .ref q_43), (2, .ref q_28), (1, .ref q_1), (0, .ref b)] [] := by
  refine jj_aload_n C dL_law_745 rfl ?_
  refine jq_callV (rest := []) C (ct_X10_crystallize_1 hl D cA ak q_1 q_6 q_20 q_7 q_4 q_12 q_18 q_21 q_8 q_9 q_10) [0, 3, 12, 4] [1, 2, 5, 6, 7, 8, 9, 10, 11, 13, 14, 15, 16, 17, 18, 19, 20, 21, 22, 23, 24, 25, 26, 27, 28, 29, 30] rfl rfl (by decide) (by decide) (by decide) 0 rfl rfl rfl jw_1104 jw_1105 jw_1106 jw_271 jw_836 jn_X10_crystallize rfl (jj_le rfl) (jj_le rfl) (jj_le rfl) (jj_le rfl) (jj_le rfl) dL_law_746 rfl (fun _ _ hX => hX.elim) (fun w1 r O_47 => ?_)
  obtain rfl := O_47
  refine jj_left ?_
  refine jj_aload_n C dL_law_749 rfl ?_
  refine jq_callV (rest := [.long 0]) C (ct_X11_crystallize_1 hl D cA ak q_28 q_31 q_32 q_36 q_33 q_34 q_35 q_37 q_38 q_39 q_40 q_41 q_42) [12, 24, 13, 17] [0, 1, 2, 3, 4, 5, 6, 7, 8, 9, 10, 11, 14, 15, 16, 18, 19, 20, 21, 22, 23, 25, 26] rfl rfl (by decide) (by decide) (by decide) 0 rfl rfl rfl jw_1108 jw_1109 jw_1110 jw_224 jw_842 jn_X11_crystallize rfl (jj_le rfl) (jj_le rfl) (jj_le rfl) (jj_le rfl) (jj_le rfl) dL_law_750 rfl (fun _ _ hX => hX.elim) (fun w1 r O_49 => ?_)
  obtain ⟨f_50, rfl, rfl⟩ := O_49
  refine jj_apd rfl ?_
  refine jj_lcmp_eqT (tgt := 2259) C dL_law_753 dL_law_754 (by decide) (by decide) ?_
  exact jj_loc [5, 0] rfl (jj_drop [] rfl (by decide) (jj_widen (k := 600006) (n := 7302072) (jj_le rfl) (jj_le rfl) hend))

set_option maxHeartbeats 4000000 in
set_option maxRecDepth 100000 in
theorem law_c12 {p : Program} {l : Launch} {e : Env} {s : State} {m : MethodId} {below : List Frame} {meth : Method} {c : Code} (hl : l.stackTraces = false) {D : va_G} {cA : Nat → ClassId} {ak : (Nat → Nat) × (Nat → Nat)} {A : Nat → Prop} {b : Nat} {xs : Nat → Int32} {Q : State → Prop} (C : jj_C p l s m #[Value.ref b] meth c code 9 R_law ret D cA A ak) (hX : va_X b 6 xs s s.heap) (hbl : b < s.heap.size) (hbA : ¬ A b) (hend : jj_J p l e room_1 s m #[Value.ref b] below meth c 9 A Q (jj_X D A []) 600006 7302072 2259 [(0, .ref b), (5, .int 0)] []) (q_1 q_4 q_5 q_6 q_7 q_8 q_9 q_10 q_11 q_12 q_13 q_14 q_15 q_16 q_17 q_18 q_19 q_20 q_21 q_22 q_23 q_28 q_31 q_32 q_33 q_34 q_35 q_36 q_37 q_38 q_39 q_40 q_41 q_42 q_43 q_44 : Nat) (f_24 : Nat → Option Nat) (f_25 : Nat → Option Nat) (c_26 : f_24 0 = some q_11) (c_27 : f_25 0 = some q_17) : jj_J p l e room_1 s m #[Value.ref b] below meth c 9 A Q (jj_X D A [(q_1, .inr (11, [.ref q_4, .int 0, .int (-1), .ref q_6, .ref q_12, .ref q_18, .ref q_20, .int 0, .int 0, .ref q_21])), (q_4, .inr (10, [.ref q_5, .int 0, .int 0, .int 0, .int 0, .int 0, .int (-1)])), (q_5, .inl (cA 1, 400, .inl (fun _ => 0))), (q_6, .inr (2, [.int 1, .int 0, .int 0, .int 0, .int 100, .int 0, .int 0, .int 0, .int 0, .int 0, .ref q_7, .ref q_8, .ref q_9, .ref q_10])), (q_7, .inl (cA 2, 6, .inr (.inl (fun _ => 0)))), (q_10, .inl (cA 7, 12, .inr (.inr (.inr (.inr f_24))))), (q_11, .inr (7, [.int 0, .int 0, .int 0, .long 0, .long 0])), (q_12, .inr (2, [.int 1, .int 0, .int 0, .int 0, .int 100, .int 0, .int 0, .int 0, .int 0, .int 0, .ref q_13, .ref q_14, .ref q_15, .ref q_16])), (q_13, .inl (cA 2, 6, .inr (.inl (fun _ => 0)))), (q_16, .inl (cA 7, 12, .inr (.inr (.inr (.inr f_25))))), (q_17, .inr (7, [.int 0, .int 0, .int 0, .long 0, .long 0])), (q_18, .inr (3, [.ref q_19, .long 0, .long 0, .long 0, .long 0, .long 0])), (q_20, .inl (cA 5, 10, .inr (.inr (.inr (.inr (fun _ => none)))))), (q_21, .inr (6, [.ref q_22, .int 0, .ref q_23])), (q_22, .inl (cA 0, 1300, .inl (fun _ => 0))), (q_23, .inl (cA 0, 20, .inl (fun _ => 0))), (q_28, .inr (12, [.ref q_31, .ref q_32, .ref q_33, .ref q_34, .ref q_35, .ref q_36, .int 0, .int 0, .long 0, .long 0, .ref q_37, .ref q_38, .ref q_39, .int 0, .int 0, .int 0, .int 0, .int 0, .int (-1), .int 0, .int 0, .ref q_40, .ref q_41, .ref q_42, .int 0])), (q_32, .inl (cA 2, 334, .inr (.inl (fun _ => 0)))), (q_33, .inl (cA 2, 334, .inr (.inl (fun _ => 0)))), (q_34, .inl (cA 2, 334, .inr (.inl (fun _ => 0)))), (q_35, .inl (cA 2, 334, .inr (.inl (fun _ => 0)))), (q_36, .inl (cA 2, 3340, .inr (.inl (fun _ => 0)))), (q_37, .inl (cA 2, 12, .inr (.inl (fun _ => 0)))), (q_38, .inl (cA 3, 12, .inl (fun _ => 0))), (q_39, .inl (cA 0, 400, .inl (fun _ => 0))), (q_40, .inl (cA 2, 6, .inr (.inl (fun _ => 0)))), (q_41, .inl (cA 2, 6, .inr (.inl (fun _ => 0)))), (q_42, .inl (cA 0, 2400, .inl (fun _ => 0))), (q_31, .inl (cA 2, 334, .inr (.inl (vp_updL (vp_updL (fun _ => 0) 0 1) 4 100)))), (q_43, .inl (cA 2, 1, .inr (.inl (fun _ => 0)))), (q_44, .inl (cA 4, 1, .inr (.inr (.inr (.inl (fun _ => 0))))))]) 156 10481 759 [(5, .int 0), (4, .ref q_44), (3, .ref q_43), (2, .ref q_28), (1, .ref q_1), (0, .ref b)] [] := by
  refine jj_aload_n C dL_law_759 rfl ?_
  refine jq_callV (rest := []) C (ct_X10_merge_1 hl D cA ak q_1 q_6 q_20 q_7 q_4 q_12 q_18 q_21 q_8 q_9 q_10) [0, 3, 12, 4] [1, 2, 5, 6, 7, 8, 9, 10, 11, 13, 14, 15, 16, 17, 18, 19, 20, 21, 22, 23, 24, 25, 26, 27, 28, 29, 30] rfl rfl (by decide) (by decide) (by decide) 0 rfl rfl rfl jw_1112 jw_1113 jw_1114 jw_271 jw_848 jn_X10_merge rfl (jj_le rfl) (jj_le rfl) (jj_le rfl) (jj_le rfl) (jj_le rfl) dL_law_760 rfl (fun _ _ hX => hX.elim) (fun w1 r O_47 => ?_)
  obtain rfl := O_47
  refine jj_left ?_
  refine jj_aload_n C dL_law_763 rfl ?_
  refine jq_callV (rest := [.int 0]) C (ct_X11_merge_1 hl D cA ak q_28 q_31 q_32 q_36 q_33 q_34 q_35 q_37 q_38 q_39 q_40 q_41 q_42) [12, 24, 13, 17] [0, 1, 2, 3, 4, 5, 6, 7, 8, 9, 10, 11, 14, 15, 16, 18, 19, 20, 21, 22, 23, 25, 26] rfl rfl (by decide) (by decide) (by decide) 0 rfl rfl rfl jw_1116 jw_1117 jw_1118 jw_224 jw_854 jn_X11_merge rfl (jj_le rfl) (jj_le rfl) (jj_le rfl) (jj_le rfl) (jj_le rfl) dL_law_764 rfl (fun _ _ hX => hX.elim) (fun w1 r O_49 => ?_)
  obtain ⟨f_50, rfl, rfl⟩ := O_49
  refine jj_apd rfl ?_
  refine jj_icmp_eqT (tgt := 2259) C dL_law_767 (by decide) (by decide) ?_
  exact jj_loc [5, 0] rfl (jj_drop [] rfl (by decide) (jj_widen (k := 600006) (n := 7302072) (jj_le rfl) (jj_le rfl) hend))

set_option maxHeartbeats 4000000 in
set_option maxRecDepth 100000 in
theorem law_c13 {p : Program} {l : Launch} {e : Env} {s : State} {m : MethodId} {below : List Frame} {meth : Method} {c : Code} (hl : l.stackTraces = false) {D : va_G} {cA : Nat → ClassId} {ak : (Nat → Nat) × (Nat → Nat)} {A : Nat → Prop} {b : Nat} {xs : Nat → Int32} {Q : State → Prop} (C : jj_C p l s m #[Value.ref b] meth c code 9 R_law ret D cA A ak) (hX : va_X b 6 xs s s.heap) (hbl : b < s.heap.size) (hbA : ¬ A b) (hend : jj_J p l e room_1 s m #[Value.ref b] below meth c 9 A Q (jj_X D A []) 600006 7302072 2259 [(0, .ref b), (5, .int 0)] []) (q_1 q_4 q_5 q_6 q_7 q_8 q_9 q_10 q_11 q_12 q_13 q_14 q_15 q_16 q_17 q_18 q_19 q_20 q_21 q_22 q_23 q_28 q_31 q_32 q_33 q_34 q_35 q_36 q_37 q_38 q_39 q_40 q_41 q_42 q_43 q_44 : Nat) (f_24 : Nat → Option Nat) (f_25 : Nat → Option Nat) (c_26 : f_24 0 = some q_11) (c_27 : f_25 0 = some q_17) : jj_J p l e room_1 s m #[Value.ref b] below meth c 9 A Q (jj_X D A [(q_1, .inr (11, [.ref q_4, .int 0, .int (-1), .ref q_6, .ref q_12, .ref q_18, .ref q_20, .int 0, .int 0, .ref q_21])), (q_4, .inr (10, [.ref q_5, .int 0, .int 0, .int 0, .int 0, .int 0, .int (-1)])), (q_5, .inl (cA 1, 400, .inl (fun _ => 0))), (q_6, .inr (2, [.int 1, .int 0, .int 0, .int 0, .int 100, .int 0, .int 0, .int 0, .int 0, .int 0, .ref q_7, .ref q_8, .ref q_9, .ref q_10])), (q_7, .inl (cA 2, 6, .inr (.inl (fun _ => 0)))), (q_10, .inl (cA 7, 12, .inr (.inr (.inr (.inr f_24))))), (q_11, .inr (7, [.int 0, .int 0, .int 0, .long 0, .long 0])), (q_12, .inr (2, [.int 1, .int 0, .int 0, .int 0, .int 100, .int 0, .int 0, .int 0, .int 0, .int 0, .ref q_13, .ref q_14, .ref q_15, .ref q_16])), (q_13, .inl (cA 2, 6, .inr (.inl (fun _ => 0)))), (q_16, .inl (cA 7, 12, .inr (.inr (.inr (.inr f_25))))), (q_17, .inr (7, [.int 0, .int 0, .int 0, .long 0, .long 0])), (q_18, .inr (3, [.ref q_19, .long 0, .long 0, .long 0, .long 0, .long 0])), (q_20, .inl (cA 5, 10, .inr (.inr (.inr (.inr (fun _ => none)))))), (q_21, .inr (6, [.ref q_22, .int 0, .ref q_23])), (q_22, .inl (cA 0, 1300, .inl (fun _ => 0))), (q_23, .inl (cA 0, 20, .inl (fun _ => 0))), (q_28, .inr (12, [.ref q_31, .ref q_32, .ref q_33, .ref q_34, .ref q_35, .ref q_36, .int 0, .int 0, .long 0, .long 0, .ref q_37, .ref q_38, .ref q_39, .int 0, .int 0, .int 0, .int 0, .int 0, .int (-1), .int 0, .int 0, .ref q_40, .ref q_41, .ref q_42, .int 0])), (q_32, .inl (cA 2, 334, .inr (.inl (fun _ => 0)))), (q_33, .inl (cA 2, 334, .inr (.inl (fun _ => 0)))), (q_34, .inl (cA 2, 334, .inr (.inl (fun _ => 0)))), (q_35, .inl (cA 2, 334, .inr (.inl (fun _ => 0)))), (q_36, .inl (cA 2, 3340, .inr (.inl (fun _ => 0)))), (q_37, .inl (cA 2, 12, .inr (.inl (fun _ => 0)))), (q_38, .inl (cA 3, 12, .inl (fun _ => 0))), (q_39, .inl (cA 0, 400, .inl (fun _ => 0))), (q_40, .inl (cA 2, 6, .inr (.inl (fun _ => 0)))), (q_41, .inl (cA 2, 6, .inr (.inl (fun _ => 0)))), (q_42, .inl (cA 0, 2400, .inl (fun _ => 0))), (q_31, .inl (cA 2, 334, .inr (.inl (vp_updL (vp_updL (fun _ => 0) 0 1) 4 100)))), (q_43, .inl (cA 2, 1, .inr (.inl (fun _ => 0)))), (q_44, .inl (cA 4, 1, .inr (.inr (.inr (.inl (fun _ => 0))))))]) 156 10481 772 [(5, .int 0), (4, .ref q_44), (3, .ref q_43), (2, .ref q_28), (1, .ref q_1), (0, .ref b)] [] := by
  refine jj_aload_n C dL_law_772 rfl ?_
  refine jj_aload_n C dL_law_773 rfl ?_
  refine jj_iload C dL_law_774 rfl ?_
  refine jj_iconst (v := 1) C dL_law_776 (by decide) ?_
  refine jj_iadd (v := 1) C dL_law_777 (by decide) ?_
  refine jj_xld (v := xs 1) C hX hbl hbA (vp_in_iff.mpr (by decide)) rfl dL_law_778 ?_
  refine jj_aload_n C dL_law_779 rfl ?_
  refine jj_iload C dL_law_780 rfl ?_
  refine jj_iconst (v := 2) C dL_law_782 (by decide) ?_
  refine jj_iadd (v := 2) C dL_law_783 (by decide) ?_
  refine jj_xld (v := xs 2) C hX hbl hbA (vp_in_iff.mpr (by decide)) rfl dL_law_784 ?_
  refine jj_aload_n C dL_law_785 rfl ?_
  refine jj_iload C dL_law_786 rfl ?_
  refine jj_iconst (v := 3) C dL_law_788 (by decide) ?_
  refine jj_iadd (v := 3) C dL_law_789 (by decide) ?_
  refine jj_xld (v := xs 3) C hX hbl hbA (vp_in_iff.mpr (by decide)) rfl dL_law_790 ?_
  refine jj_aload_n C dL_law_791 rfl ?_
  refine jq_callSW (rest := []) C (ct_L_transfer_1 hl D cA ak q_1 q_43 q_6 q_20 q_7 q_4 q_12 q_18 q_21 q_8 q_9 q_10 (xs 1) (xs 2) (xs 3)) [0, 29, 3, 12, 4] [1, 2, 5, 6, 7, 8, 9, 10, 11, 13, 14, 15, 16, 17, 18, 19, 20, 21, 22, 23, 24, 25, 26, 27, 28, 30] rfl rfl (by decide) (by decide) (by decide) jw_1125 jw_1126 jw_985 jw_1124 jn_L_transfer rfl (jj_le rfl) (jj_le rfl) (jj_le rfl) (jj_le rfl) (jj_le rfl) dL_law_792 rfl (fun _ _ hX => hX.elim) (fun w1 r O_47 => ?_)
  rcases O_47 with ⟨c_48, rfl, rfl⟩ | ⟨c_49, c_50, rfl, rfl⟩ | ⟨c_51, c_52, c_53, rfl, rfl⟩ | ⟨c_54, c_55, c_56, c_57, rfl, rfl⟩ | ⟨c_58, c_59, c_60, c_61, c_62, rfl, rfl⟩ | ⟨c_63, c_64, c_65, c_66, c_67, c_68, rfl, rfl⟩ | ⟨c_69, c_70, c_71, c_72, c_73, c_74, c_75, c_76, rfl, rfl⟩ | ⟨c_77, c_78, c_79, c_80, c_81, c_82, c_83, rfl, rfl⟩ | ⟨c_84, c_85, c_86, c_87, c_88, c_89, c_90, c_91, rfl, rfl⟩
  · refine jj_apd rfl ?_
    refine jj_istore C dL_law_795 (by decide) rfl ?_
    refine jj_aload_n C dL_law_797 rfl ?_
    refine jj_aload_n C dL_law_798 rfl ?_
    refine jj_iload C dL_law_799 rfl ?_
    refine jj_iconst (v := 1) C dL_law_801 (by decide) ?_
    refine jj_iadd (v := 1) C dL_law_802 (by decide) ?_
    refine jj_xld (v := xs 1) C hX hbl hbA (vp_in_iff.mpr (by decide)) rfl dL_law_803 ?_
    refine jj_aload_n C dL_law_804 rfl ?_
    refine jj_iload C dL_law_805 rfl ?_
    refine jj_iconst (v := 2) C dL_law_807 (by decide) ?_
    refine jj_iadd (v := 2) C dL_law_808 (by decide) ?_
    refine jj_xld (v := xs 2) C hX hbl hbA (vp_in_iff.mpr (by decide)) rfl dL_law_809 ?_
    refine jj_aload_n C dL_law_810 rfl ?_
    refine jj_iload C dL_law_811 rfl ?_
    refine jj_iconst (v := 3) C dL_law_813 (by decide) ?_
    refine jj_iadd (v := 3) C dL_law_814 (by decide) ?_
    refine jj_xld (v := xs 3) C hX hbl hbA (vp_in_iff.mpr (by decide)) rfl dL_law_815 ?_
    refine jq_callV (rest := []) C (ct_X11_transfer_1 hl D cA ak q_28 q_31 q_32 q_36 q_33 q_34 q_35 q_37 q_38 q_39 q_40 q_41 q_42 (xs 1) (xs 2) (xs 3)) [12, 24, 13, 17] [0, 1, 2, 3, 4, 5, 6, 7, 8, 9, 10, 11, 14, 15, 16, 18, 19, 20, 21, 22, 23, 25, 26] rfl rfl (by decide) (by decide) (by decide) 0 rfl rfl rfl jw_1128 jw_1129 jw_1130 jw_224 jw_468 jn_X11_transfer rfl (jj_le rfl) (jj_le rfl) (jj_le rfl) (jj_le rfl) (jj_le rfl) dL_law_816 rfl (fun _ _ hX => hX.elim) (fun w1 r O_93 => ?_)
    rcases O_93 with ⟨c_94, rfl, rfl⟩ | ⟨c_95, c_96, rfl, rfl⟩ | ⟨c_97, c_98, c_99, rfl, rfl⟩ | ⟨c_100, c_101, c_102, c_103, rfl, rfl⟩ | ⟨c_104, c_105, c_106, c_107, c_108, rfl, rfl⟩ | ⟨c_109, c_110, c_111, c_112, c_113, c_114, rfl, rfl⟩ | ⟨c_115, c_116, c_117, c_118, c_119, c_120, c_121, rfl, rfl⟩ | ⟨c_122, c_123, c_124, c_125, c_126, c_127, c_128, c_129, rfl, rfl⟩ | ⟨f_130, c_131, c_132, c_133, c_134, c_135, c_136, c_137, c_138, rfl, rfl⟩
    · refine jj_apd rfl ?_
      refine jj_lstore C dL_law_819 (by decide) rfl ?_
      refine jj_aload_n C dL_law_821 rfl ?_
      refine jq_callV (rest := []) C (ct_X11_thrown_2 hl D cA ak q_28 q_31 q_32 q_33 q_34 q_35 q_36 q_37 q_38 q_39 q_40 q_41 q_42) [26] [0, 1, 2, 3, 4, 5, 6, 7, 8, 9, 10, 11, 12, 13, 14, 15, 16, 17, 18, 19, 20, 21, 22, 23, 24, 25] rfl rfl (by decide) (by decide) (by decide) 0 rfl rfl rfl jw_993 jw_994 jw_995 jw_224 jw_992 jn_X11_thrown rfl (jj_le rfl) (jj_le rfl) (jj_le rfl) (jj_le rfl) (jj_le rfl) dL_law_822 rfl (fun _ _ hX => hX.elim) (fun w1 r O_140 => ?_)
      obtain ⟨rfl, rfl⟩ := O_140
      refine jj_apd rfl ?_
      refine jj_iload C dL_law_825 rfl ?_
      refine jj_icmp_eqT (tgt := 832) C dL_law_827 (by decide) (by decide) ?_
      refine jj_iload C dL_law_832 rfl ?_
      refine jj_if_neT (tgt := 848) C dL_law_834 (by decide) (by decide) ?_
      refine jj_goto (tgt := 2259) C dL_law_848 (by decide) ?_
      exact jj_loc [7, 2] rfl (jj_drop [] rfl (by decide) (jj_widen (k := 600006) (n := 7302072) (jj_le rfl) (jj_le rfl) hend))
    · refine jj_apd rfl ?_
      refine jj_lstore C dL_law_819 (by decide) rfl ?_
      refine jj_aload_n C dL_law_821 rfl ?_
      refine jq_callV (rest := []) C (ct_X11_thrown_2 hl D cA ak q_28 q_31 q_32 q_33 q_34 q_35 q_36 q_37 q_38 q_39 q_40 q_41 q_42) [26] [0, 1, 2, 3, 4, 5, 6, 7, 8, 9, 10, 11, 12, 13, 14, 15, 16, 17, 18, 19, 20, 21, 22, 23, 24, 25] rfl rfl (by decide) (by decide) (by decide) 0 rfl rfl rfl jw_993 jw_994 jw_995 jw_224 jw_992 jn_X11_thrown rfl (jj_le rfl) (jj_le rfl) (jj_le rfl) (jj_le rfl) (jj_le rfl) dL_law_822 rfl (fun _ _ hX => hX.elim) (fun w1 r O_142 => ?_)
      obtain ⟨rfl, rfl⟩ := O_142
      refine jj_apd rfl ?_
      refine jj_iload C dL_law_825 rfl ?_
      refine jj_icmp_eqT (tgt := 832) C dL_law_827 (by decide) (by decide) ?_
      refine jj_iload C dL_law_832 rfl ?_
      refine jj_if_neT (tgt := 848) C dL_law_834 (by decide) (by decide) ?_
      refine jj_goto (tgt := 2259) C dL_law_848 (by decide) ?_
      exact jj_loc [7, 2] rfl (jj_drop [] rfl (by decide) (jj_widen (k := 600006) (n := 7302072) (jj_le rfl) (jj_le rfl) hend))
    · refine jj_apd rfl ?_
      refine jj_lstore C dL_law_819 (by decide) rfl ?_
      refine jj_aload_n C dL_law_821 rfl ?_
      refine jq_callV (rest := []) C (ct_X11_thrown_2 hl D cA ak q_28 q_31 q_32 q_33 q_34 q_35 q_36 q_37 q_38 q_39 q_40 q_41 q_42) [26] [0, 1, 2, 3, 4, 5, 6, 7, 8, 9, 10, 11, 12, 13, 14, 15, 16, 17, 18, 19, 20, 21, 22, 23, 24, 25] rfl rfl (by decide) (by decide) (by decide) 0 rfl rfl rfl jw_993 jw_994 jw_995 jw_224 jw_992 jn_X11_thrown rfl (jj_le rfl) (jj_le rfl) (jj_le rfl) (jj_le rfl) (jj_le rfl) dL_law_822 rfl (fun _ _ hX => hX.elim) (fun w1 r O_144 => ?_)
      obtain ⟨rfl, rfl⟩ := O_144
      refine jj_apd rfl ?_
      refine jj_iload C dL_law_825 rfl ?_
      refine jj_icmp_eqT (tgt := 832) C dL_law_827 (by decide) (by decide) ?_
      refine jj_iload C dL_law_832 rfl ?_
      refine jj_if_neT (tgt := 848) C dL_law_834 (by decide) (by decide) ?_
      refine jj_goto (tgt := 2259) C dL_law_848 (by decide) ?_
      exact jj_loc [7, 2] rfl (jj_drop [] rfl (by decide) (jj_widen (k := 600006) (n := 7302072) (jj_le rfl) (jj_le rfl) hend))
    · refine jj_apd rfl ?_
      refine jj_lstore C dL_law_819 (by decide) rfl ?_
      refine jj_aload_n C dL_law_821 rfl ?_
      refine jq_callV (rest := []) C (ct_X11_thrown_2 hl D cA ak q_28 q_31 q_32 q_33 q_34 q_35 q_36 q_37 q_38 q_39 q_40 q_41 q_42) [26] [0, 1, 2, 3, 4, 5, 6, 7, 8, 9, 10, 11, 12, 13, 14, 15, 16, 17, 18, 19, 20, 21, 22, 23, 24, 25] rfl rfl (by decide) (by decide) (by decide) 0 rfl rfl rfl jw_993 jw_994 jw_995 jw_224 jw_992 jn_X11_thrown rfl (jj_le rfl) (jj_le rfl) (jj_le rfl) (jj_le rfl) (jj_le rfl) dL_law_822 rfl (fun _ _ hX => hX.elim) (fun w1 r O_146 => ?_)
      obtain ⟨rfl, rfl⟩ := O_146
      refine jj_apd rfl ?_
      refine jj_iload C dL_law_825 rfl ?_
      refine jj_icmp_eqT (tgt := 832) C dL_law_827 (by decide) (by decide) ?_
      refine jj_iload C dL_law_832 rfl ?_
      refine jj_if_neT (tgt := 848) C dL_law_834 (by decide) (by decide) ?_
      refine jj_goto (tgt := 2259) C dL_law_848 (by decide) ?_
      exact jj_loc [7, 2] rfl (jj_drop [] rfl (by decide) (jj_widen (k := 600006) (n := 7302072) (jj_le rfl) (jj_le rfl) hend))
    · refine jj_apd rfl ?_
      refine jj_lstore C dL_law_819 (by decide) rfl ?_
      refine jj_aload_n C dL_law_821 rfl ?_
      refine jq_callV (rest := []) C (ct_X11_thrown_4 hl D cA ak q_28 q_31 q_32 q_33 q_34 q_35 q_36 q_37 q_38 q_39 q_40 q_41 q_42) [26] [0, 1, 2, 3, 4, 5, 6, 7, 8, 9, 10, 11, 12, 13, 14, 15, 16, 17, 18, 19, 20, 21, 22, 23, 24, 25] rfl rfl (by decide) (by decide) (by decide) 0 rfl rfl rfl jw_993 jw_994 jw_995 jw_224 jw_992 jn_X11_thrown rfl (jj_le rfl) (jj_le rfl) (jj_le rfl) (jj_le rfl) (jj_le rfl) dL_law_822 rfl (fun _ _ hX => hX.elim) (fun w1 r O_148 => ?_)
      obtain ⟨rfl, rfl⟩ := O_148
      refine jj_apd rfl ?_
      refine jj_iload C dL_law_825 rfl ?_
      refine jj_icmp_eqF (tgt := 832) C dL_law_827 (by decide) (by decide) ?_
      refine jj_iconst (v := 0) C dL_law_830 (by decide) ?_
      exfalso; have z0 := jc_lt (a := (xs 1).toInt) (b := (0)) c_48 rfl (by decide); have z1 := jc_nltL (a := (xs 1).toInt) (b := (0)) c_104 (Int32.toInt_toInt64 _) (by decide); have z2 := jc_nltL (a := (0)) (b := (xs 1).toInt) c_105 (by decide) (Int32.toInt_toInt64 _); have z3 := jc_nltL (a := (xs 2).toInt) (b := (0)) c_106 (Int32.toInt_toInt64 _) (by decide); have z4 := jc_nltL (a := (0)) (b := (xs 2).toInt) c_107 (by decide) (Int32.toInt_toInt64 _); have z5 := jc_eq (a := (xs 1).toInt) (b := (xs 2).toInt) c_108 rfl rfl; omega
    · refine jj_apd rfl ?_
      refine jj_lstore C dL_law_819 (by decide) rfl ?_
      refine jj_aload_n C dL_law_821 rfl ?_
      refine jq_callV (rest := []) C (ct_X11_thrown_4 hl D cA ak q_28 q_31 q_32 q_33 q_34 q_35 q_36 q_37 q_38 q_39 q_40 q_41 q_42) [26] [0, 1, 2, 3, 4, 5, 6, 7, 8, 9, 10, 11, 12, 13, 14, 15, 16, 17, 18, 19, 20, 21, 22, 23, 24, 25] rfl rfl (by decide) (by decide) (by decide) 0 rfl rfl rfl jw_993 jw_994 jw_995 jw_224 jw_992 jn_X11_thrown rfl (jj_le rfl) (jj_le rfl) (jj_le rfl) (jj_le rfl) (jj_le rfl) dL_law_822 rfl (fun _ _ hX => hX.elim) (fun w1 r O_150 => ?_)
      obtain ⟨rfl, rfl⟩ := O_150
      refine jj_apd rfl ?_
      refine jj_iload C dL_law_825 rfl ?_
      refine jj_icmp_eqF (tgt := 832) C dL_law_827 (by decide) (by decide) ?_
      refine jj_iconst (v := 0) C dL_law_830 (by decide) ?_
      exfalso; have z0 := jc_lt (a := (xs 1).toInt) (b := (0)) c_48 rfl (by decide); have z1 := jc_nltL (a := (xs 1).toInt) (b := (0)) c_109 (Int32.toInt_toInt64 _) (by decide); have z2 := jc_nltL (a := (0)) (b := (xs 1).toInt) c_110 (by decide) (Int32.toInt_toInt64 _); have z3 := jc_nltL (a := (xs 2).toInt) (b := (0)) c_111 (Int32.toInt_toInt64 _) (by decide); have z4 := jc_nltL (a := (0)) (b := (xs 2).toInt) c_112 (by decide) (Int32.toInt_toInt64 _); have z5 := jc_neq (a := (xs 1).toInt) (b := (xs 2).toInt) c_113 rfl rfl; have z6 := jc_ltL (a := (xs 3).toInt) (b := (1)) c_114 (Int32.toInt_toInt64 _) (by decide); omega
    · refine jj_apd rfl ?_
      refine jj_lstore C dL_law_819 (by decide) rfl ?_
      refine jj_aload_n C dL_law_821 rfl ?_
      refine jq_callV (rest := []) C (ct_X11_thrown_4 hl D cA ak q_28 q_31 q_32 q_33 q_34 q_35 q_36 q_37 q_38 q_39 q_40 q_41 q_42) [26] [0, 1, 2, 3, 4, 5, 6, 7, 8, 9, 10, 11, 12, 13, 14, 15, 16, 17, 18, 19, 20, 21, 22, 23, 24, 25] rfl rfl (by decide) (by decide) (by decide) 0 rfl rfl rfl jw_993 jw_994 jw_995 jw_224 jw_992 jn_X11_thrown rfl (jj_le rfl) (jj_le rfl) (jj_le rfl) (jj_le rfl) (jj_le rfl) dL_law_822 rfl (fun _ _ hX => hX.elim) (fun w1 r O_152 => ?_)
      obtain ⟨rfl, rfl⟩ := O_152
      refine jj_apd rfl ?_
      refine jj_iload C dL_law_825 rfl ?_
      refine jj_icmp_eqF (tgt := 832) C dL_law_827 (by decide) (by decide) ?_
      refine jj_iconst (v := 0) C dL_law_830 (by decide) ?_
      exfalso; have z0 := jc_lt (a := (xs 1).toInt) (b := (0)) c_48 rfl (by decide); have z1 := jc_nltL (a := (xs 1).toInt) (b := (0)) c_115 (Int32.toInt_toInt64 _) (by decide); have z2 := jc_nltL (a := (0)) (b := (xs 1).toInt) c_116 (by decide) (Int32.toInt_toInt64 _); have z3 := jc_nltL (a := (xs 2).toInt) (b := (0)) c_117 (Int32.toInt_toInt64 _) (by decide); have z4 := jc_nltL (a := (0)) (b := (xs 2).toInt) c_118 (by decide) (Int32.toInt_toInt64 _); have z5 := jc_neq (a := (xs 1).toInt) (b := (xs 2).toInt) c_119 rfl rfl; have z6 := jc_nltL (a := (xs 3).toInt) (b := (1)) c_120 (Int32.toInt_toInt64 _) (by decide); have z7 := jc_ltL (a := (99999999)) (b := (xs 3).toInt) c_121 (by decide) (Int32.toInt_toInt64 _); omega
    · refine jj_apd rfl ?_
      refine jj_lstore C dL_law_819 (by decide) rfl ?_
      refine jj_aload_n C dL_law_821 rfl ?_
      refine jq_callV (rest := []) C (ct_X11_thrown_6 hl D cA ak q_28 q_31 q_32 q_33 q_34 q_35 q_36 q_37 q_38 q_39 q_40 q_41 q_42) [26] [0, 1, 2, 3, 4, 5, 6, 7, 8, 9, 10, 11, 12, 13, 14, 15, 16, 17, 18, 19, 20, 21, 22, 23, 24, 25] rfl rfl (by decide) (by decide) (by decide) 0 rfl rfl rfl jw_993 jw_994 jw_995 jw_224 jw_992 jn_X11_thrown rfl (jj_le rfl) (jj_le rfl) (jj_le rfl) (jj_le rfl) (jj_le rfl) dL_law_822 rfl (fun _ _ hX => hX.elim) (fun w1 r O_154 => ?_)
      obtain ⟨rfl, rfl⟩ := O_154
      refine jj_apd rfl ?_
      refine jj_iload C dL_law_825 rfl ?_
      refine jj_icmp_eqF (tgt := 832) C dL_law_827 (by decide) (by decide) ?_
      refine jj_iconst (v := 0) C dL_law_830 (by decide) ?_
      exfalso; have z0 := jc_lt (a := (xs 1).toInt) (b := (0)) c_48 rfl (by decide); have z1 := jc_nltL (a := (xs 1).toInt) (b := (0)) c_122 (Int32.toInt_toInt64 _) (by decide); have z2 := jc_nltL (a := (0)) (b := (xs 1).toInt) c_123 (by decide) (Int32.toInt_toInt64 _); have z3 := jc_nltL (a := (xs 2).toInt) (b := (0)) c_124 (Int32.toInt_toInt64 _) (by decide); have z4 := jc_nltL (a := (0)) (b := (xs 2).toInt) c_125 (by decide) (Int32.toInt_toInt64 _); have z5 := jc_neq (a := (xs 1).toInt) (b := (xs 2).toInt) c_126 rfl rfl; have z6 := jc_nltL (a := (xs 3).toInt) (b := (1)) c_127 (Int32.toInt_toInt64 _) (by decide); have z7 := jc_nltL (a := (99999999)) (b := (xs 3).toInt) c_128 (by decide) (Int32.toInt_toInt64 _); have z8 := jc_ltL (a := (0)) (b := ((xs 3).toInt64 + 0).toInt) c_129 (by decide) rfl; omega
    · refine jj_apd rfl ?_
      refine jj_lstore C dL_law_819 (by decide) rfl ?_
      refine jj_aload_n C dL_law_821 rfl ?_
      refine jq_callV (rest := []) C (ct_X11_thrown_5 hl D cA ak q_28 q_31 q_32 q_33 q_34 q_35 q_36 q_37 q_38 q_39 q_40 q_41 q_42) [25] [0, 1, 2, 3, 4, 5, 6, 7, 8, 9, 10, 11, 12, 13, 14, 15, 16, 17, 18, 19, 20, 21, 22, 23, 24, 26] rfl rfl (by decide) (by decide) (by decide) 0 rfl rfl rfl jw_993 jw_994 jw_995 jw_224 jw_992 jn_X11_thrown rfl (jj_le rfl) (jj_le rfl) (jj_le rfl) (jj_le rfl) (jj_le rfl) dL_law_822 rfl (fun _ _ hX => hX.elim) (fun w1 r O_156 => ?_)
      obtain ⟨rfl, rfl⟩ := O_156
      refine jj_apd rfl ?_
      refine jj_iload C dL_law_825 rfl ?_
      refine jj_icmp_eqF (tgt := 832) C dL_law_827 (by decide) (by decide) ?_
      refine jj_iconst (v := 0) C dL_law_830 (by decide) ?_
      exfalso; have z0 := jc_lt (a := (xs 1).toInt) (b := (0)) c_48 rfl (by decide); have z1 := jc_nltL (a := (xs 1).toInt) (b := (0)) c_131 (Int32.toInt_toInt64 _) (by decide); have z2 := jc_nltL (a := (0)) (b := (xs 1).toInt) c_132 (by decide) (Int32.toInt_toInt64 _); have z3 := jc_nltL (a := (xs 2).toInt) (b := (0)) c_133 (Int32.toInt_toInt64 _) (by decide); have z4 := jc_nltL (a := (0)) (b := (xs 2).toInt) c_134 (by decide) (Int32.toInt_toInt64 _); have z5 := jc_neq (a := (xs 1).toInt) (b := (xs 2).toInt) c_135 rfl rfl; have z6 := jc_nltL (a := (xs 3).toInt) (b := (1)) c_136 (Int32.toInt_toInt64 _) (by decide); have z7 := jc_nltL (a := (99999999)) (b := (xs 3).toInt) c_137 (by decide) (Int32.toInt_toInt64 _); have z8 := jc_nltL (a := (0)) (b := ((xs 3).toInt64 + 0).toInt) c_138 (by decide) rfl; omega
  · refine jj_apd rfl ?_
    refine jj_istore C dL_law_795 (by decide) rfl ?_
    refine jj_aload_n C dL_law_797 rfl ?_
    refine jj_aload_n C dL_law_798 rfl ?_
    refine jj_iload C dL_law_799 rfl ?_
    refine jj_iconst (v := 1) C dL_law_801 (by decide) ?_
    refine jj_iadd (v := 1) C dL_law_802 (by decide) ?_
    refine jj_xld (v := xs 1) C hX hbl hbA (vp_in_iff.mpr (by decide)) rfl dL_law_803 ?_
    refine jj_aload_n C dL_law_804 rfl ?_
    refine jj_iload C dL_law_805 rfl ?_
    refine jj_iconst (v := 2) C dL_law_807 (by decide) ?_
    refine jj_iadd (v := 2) C dL_law_808 (by decide) ?_
    refine jj_xld (v := xs 2) C hX hbl hbA (vp_in_iff.mpr (by decide)) rfl dL_law_809 ?_
    refine jj_aload_n C dL_law_810 rfl ?_
    refine jj_iload C dL_law_811 rfl ?_
    refine jj_iconst (v := 3) C dL_law_813 (by decide) ?_
    refine jj_iadd (v := 3) C dL_law_814 (by decide) ?_
    refine jj_xld (v := xs 3) C hX hbl hbA (vp_in_iff.mpr (by decide)) rfl dL_law_815 ?_
    refine jq_callV (rest := []) C (ct_X11_transfer_1 hl D cA ak q_28 q_31 q_32 q_36 q_33 q_34 q_35 q_37 q_38 q_39 q_40 q_41 q_42 (xs 1) (xs 2) (xs 3)) [12, 24, 13, 17] [0, 1, 2, 3, 4, 5, 6, 7, 8, 9, 10, 11, 14, 15, 16, 18, 19, 20, 21, 22, 23, 25, 26] rfl rfl (by decide) (by decide) (by decide) 0 rfl rfl rfl jw_1128 jw_1129 jw_1130 jw_224 jw_468 jn_X11_transfer rfl (jj_le rfl) (jj_le rfl) (jj_le rfl) (jj_le rfl) (jj_le rfl) dL_law_816 rfl (fun _ _ hX => hX.elim) (fun w1 r O_158 => ?_)
    rcases O_158 with ⟨c_159, rfl, rfl⟩ | ⟨c_160, c_161, rfl, rfl⟩ | ⟨c_162, c_163, c_164, rfl, rfl⟩ | ⟨c_165, c_166, c_167, c_168, rfl, rfl⟩ | ⟨c_169, c_170, c_171, c_172, c_173, rfl, rfl⟩ | ⟨c_174, c_175, c_176, c_177, c_178, c_179, rfl, rfl⟩ | ⟨c_180, c_181, c_182, c_183, c_184, c_185, c_186, rfl, rfl⟩ | ⟨c_187, c_188, c_189, c_190, c_191, c_192, c_193, c_194, rfl, rfl⟩ | ⟨f_195, c_196, c_197, c_198, c_199, c_200, c_201, c_202, c_203, rfl, rfl⟩
    · refine jj_apd rfl ?_
      refine jj_lstore C dL_law_819 (by decide) rfl ?_
      refine jj_aload_n C dL_law_821 rfl ?_
      refine jq_callV (rest := []) C (ct_X11_thrown_2 hl D cA ak q_28 q_31 q_32 q_33 q_34 q_35 q_36 q_37 q_38 q_39 q_40 q_41 q_42) [26] [0, 1, 2, 3, 4, 5, 6, 7, 8, 9, 10, 11, 12, 13, 14, 15, 16, 17, 18, 19, 20, 21, 22, 23, 24, 25] rfl rfl (by decide) (by decide) (by decide) 0 rfl rfl rfl jw_993 jw_994 jw_995 jw_224 jw_992 jn_X11_thrown rfl (jj_le rfl) (jj_le rfl) (jj_le rfl) (jj_le rfl) (jj_le rfl) dL_law_822 rfl (fun _ _ hX => hX.elim) (fun w1 r O_205 => ?_)
      obtain ⟨rfl, rfl⟩ := O_205
      refine jj_apd rfl ?_
      refine jj_iload C dL_law_825 rfl ?_
      refine jj_icmp_eqT (tgt := 832) C dL_law_827 (by decide) (by decide) ?_
      refine jj_iload C dL_law_832 rfl ?_
      refine jj_if_neT (tgt := 848) C dL_law_834 (by decide) (by decide) ?_
      refine jj_goto (tgt := 2259) C dL_law_848 (by decide) ?_
      exact jj_loc [7, 2] rfl (jj_drop [] rfl (by decide) (jj_widen (k := 600006) (n := 7302072) (jj_le rfl) (jj_le rfl) hend))
    · refine jj_apd rfl ?_
      refine jj_lstore C dL_law_819 (by decide) rfl ?_
      refine jj_aload_n C dL_law_821 rfl ?_
      refine jq_callV (rest := []) C (ct_X11_thrown_2 hl D cA ak q_28 q_31 q_32 q_33 q_34 q_35 q_36 q_37 q_38 q_39 q_40 q_41 q_42) [26] [0, 1, 2, 3, 4, 5, 6, 7, 8, 9, 10, 11, 12, 13, 14, 15, 16, 17, 18, 19, 20, 21, 22, 23, 24, 25] rfl rfl (by decide) (by decide) (by decide) 0 rfl rfl rfl jw_993 jw_994 jw_995 jw_224 jw_992 jn_X11_thrown rfl (jj_le rfl) (jj_le rfl) (jj_le rfl) (jj_le rfl) (jj_le rfl) dL_law_822 rfl (fun _ _ hX => hX.elim) (fun w1 r O_207 => ?_)
      obtain ⟨rfl, rfl⟩ := O_207
      refine jj_apd rfl ?_
      refine jj_iload C dL_law_825 rfl ?_
      refine jj_icmp_eqT (tgt := 832) C dL_law_827 (by decide) (by decide) ?_
      refine jj_iload C dL_law_832 rfl ?_
      refine jj_if_neT (tgt := 848) C dL_law_834 (by decide) (by decide) ?_
      refine jj_goto (tgt := 2259) C dL_law_848 (by decide) ?_
      exact jj_loc [7, 2] rfl (jj_drop [] rfl (by decide) (jj_widen (k := 600006) (n := 7302072) (jj_le rfl) (jj_le rfl) hend))
    · refine jj_apd rfl ?_
      refine jj_lstore C dL_law_819 (by decide) rfl ?_
      refine jj_aload_n C dL_law_821 rfl ?_
      refine jq_callV (rest := []) C (ct_X11_thrown_2 hl D cA ak q_28 q_31 q_32 q_33 q_34 q_35 q_36 q_37 q_38 q_39 q_40 q_41 q_42) [26] [0, 1, 2, 3, 4, 5, 6, 7, 8, 9, 10, 11, 12, 13, 14, 15, 16, 17, 18, 19, 20, 21, 22, 23, 24, 25] rfl rfl (by decide) (by decide) (by decide) 0 rfl rfl rfl jw_993 jw_994 jw_995 jw_224 jw_992 jn_X11_thrown rfl (jj_le rfl) (jj_le rfl) (jj_le rfl) (jj_le rfl) (jj_le rfl) dL_law_822 rfl (fun _ _ hX => hX.elim) (fun w1 r O_209 => ?_)
      obtain ⟨rfl, rfl⟩ := O_209
      refine jj_apd rfl ?_
      refine jj_iload C dL_law_825 rfl ?_
      refine jj_icmp_eqT (tgt := 832) C dL_law_827 (by decide) (by decide) ?_
      refine jj_iload C dL_law_832 rfl ?_
      refine jj_if_neT (tgt := 848) C dL_law_834 (by decide) (by decide) ?_
      refine jj_goto (tgt := 2259) C dL_law_848 (by decide) ?_
      exact jj_loc [7, 2] rfl (jj_drop [] rfl (by decide) (jj_widen (k := 600006) (n := 7302072) (jj_le rfl) (jj_le rfl) hend))
    · refine jj_apd rfl ?_
      refine jj_lstore C dL_law_819 (by decide) rfl ?_
      refine jj_aload_n C dL_law_821 rfl ?_
      refine jq_callV (rest := []) C (ct_X11_thrown_2 hl D cA ak q_28 q_31 q_32 q_33 q_34 q_35 q_36 q_37 q_38 q_39 q_40 q_41 q_42) [26] [0, 1, 2, 3, 4, 5, 6, 7, 8, 9, 10, 11, 12, 13, 14, 15, 16, 17, 18, 19, 20, 21, 22, 23, 24, 25] rfl rfl (by decide) (by decide) (by decide) 0 rfl rfl rfl jw_993 jw_994 jw_995 jw_224 jw_992 jn_X11_thrown rfl (jj_le rfl) (jj_le rfl) (jj_le rfl) (jj_le rfl) (jj_le rfl) dL_law_822 rfl (fun _ _ hX => hX.elim) (fun w1 r O_211 => ?_)
      obtain ⟨rfl, rfl⟩ := O_211
      refine jj_apd rfl ?_
      refine jj_iload C dL_law_825 rfl ?_
      refine jj_icmp_eqT (tgt := 832) C dL_law_827 (by decide) (by decide) ?_
      refine jj_iload C dL_law_832 rfl ?_
      refine jj_if_neT (tgt := 848) C dL_law_834 (by decide) (by decide) ?_
      refine jj_goto (tgt := 2259) C dL_law_848 (by decide) ?_
      exact jj_loc [7, 2] rfl (jj_drop [] rfl (by decide) (jj_widen (k := 600006) (n := 7302072) (jj_le rfl) (jj_le rfl) hend))
    · refine jj_apd rfl ?_
      refine jj_lstore C dL_law_819 (by decide) rfl ?_
      refine jj_aload_n C dL_law_821 rfl ?_
      refine jq_callV (rest := []) C (ct_X11_thrown_4 hl D cA ak q_28 q_31 q_32 q_33 q_34 q_35 q_36 q_37 q_38 q_39 q_40 q_41 q_42) [26] [0, 1, 2, 3, 4, 5, 6, 7, 8, 9, 10, 11, 12, 13, 14, 15, 16, 17, 18, 19, 20, 21, 22, 23, 24, 25] rfl rfl (by decide) (by decide) (by decide) 0 rfl rfl rfl jw_993 jw_994 jw_995 jw_224 jw_992 jn_X11_thrown rfl (jj_le rfl) (jj_le rfl) (jj_le rfl) (jj_le rfl) (jj_le rfl) dL_law_822 rfl (fun _ _ hX => hX.elim) (fun w1 r O_213 => ?_)
      obtain ⟨rfl, rfl⟩ := O_213
      refine jj_apd rfl ?_
      refine jj_iload C dL_law_825 rfl ?_
      refine jj_icmp_eqF (tgt := 832) C dL_law_827 (by decide) (by decide) ?_
      refine jj_iconst (v := 0) C dL_law_830 (by decide) ?_
      exfalso; have z0 := jc_nlt (a := (xs 1).toInt) (b := (0)) c_49 rfl (by decide); have z1 := jc_le (a := (1)) (b := (xs 1).toInt) c_50 (by decide) rfl; have z2 := jc_nltL (a := (xs 1).toInt) (b := (0)) c_169 (Int32.toInt_toInt64 _) (by decide); have z3 := jc_nltL (a := (0)) (b := (xs 1).toInt) c_170 (by decide) (Int32.toInt_toInt64 _); have z4 := jc_nltL (a := (xs 2).toInt) (b := (0)) c_171 (Int32.toInt_toInt64 _) (by decide); have z5 := jc_nltL (a := (0)) (b := (xs 2).toInt) c_172 (by decide) (Int32.toInt_toInt64 _); have z6 := jc_eq (a := (xs 1).toInt) (b := (xs 2).toInt) c_173 rfl rfl; omega
    · refine jj_apd rfl ?_
      refine jj_lstore C dL_law_819 (by decide) rfl ?_
      refine jj_aload_n C dL_law_821 rfl ?_
      refine jq_callV (rest := []) C (ct_X11_thrown_4 hl D cA ak q_28 q_31 q_32 q_33 q_34 q_35 q_36 q_37 q_38 q_39 q_40 q_41 q_42) [26] [0, 1, 2, 3, 4, 5, 6, 7, 8, 9, 10, 11, 12, 13, 14, 15, 16, 17, 18, 19, 20, 21, 22, 23, 24, 25] rfl rfl (by decide) (by decide) (by decide) 0 rfl rfl rfl jw_993 jw_994 jw_995 jw_224 jw_992 jn_X11_thrown rfl (jj_le rfl) (jj_le rfl) (jj_le rfl) (jj_le rfl) (jj_le rfl) dL_law_822 rfl (fun _ _ hX => hX.elim) (fun w1 r O_215 => ?_)
      obtain ⟨rfl, rfl⟩ := O_215
      refine jj_apd rfl ?_
      refine jj_iload C dL_law_825 rfl ?_
      refine jj_icmp_eqF (tgt := 832) C dL_law_827 (by decide) (by decide) ?_
      refine jj_iconst (v := 0) C dL_law_830 (by decide) ?_
      exfalso; have z0 := jc_nlt (a := (xs 1).toInt) (b := (0)) c_49 rfl (by decide); have z1 := jc_le (a := (1)) (b := (xs 1).toInt) c_50 (by decide) rfl; have z2 := jc_nltL (a := (xs 1).toInt) (b := (0)) c_174 (Int32.toInt_toInt64 _) (by decide); have z3 := jc_nltL (a := (0)) (b := (xs 1).toInt) c_175 (by decide) (Int32.toInt_toInt64 _); have z4 := jc_nltL (a := (xs 2).toInt) (b := (0)) c_176 (Int32.toInt_toInt64 _) (by decide); have z5 := jc_nltL (a := (0)) (b := (xs 2).toInt) c_177 (by decide) (Int32.toInt_toInt64 _); have z6 := jc_neq (a := (xs 1).toInt) (b := (xs 2).toInt) c_178 rfl rfl; have z7 := jc_ltL (a := (xs 3).toInt) (b := (1)) c_179 (Int32.toInt_toInt64 _) (by decide); omega
    · refine jj_apd rfl ?_
      refine jj_lstore C dL_law_819 (by decide) rfl ?_
      refine jj_aload_n C dL_law_821 rfl ?_
      refine jq_callV (rest := []) C (ct_X11_thrown_4 hl D cA ak q_28 q_31 q_32 q_33 q_34 q_35 q_36 q_37 q_38 q_39 q_40 q_41 q_42) [26] [0, 1, 2, 3, 4, 5, 6, 7, 8, 9, 10, 11, 12, 13, 14, 15, 16, 17, 18, 19, 20, 21, 22, 23, 24, 25] rfl rfl (by decide) (by decide) (by decide) 0 rfl rfl rfl jw_993 jw_994 jw_995 jw_224 jw_992 jn_X11_thrown rfl (jj_le rfl) (jj_le rfl) (jj_le rfl) (jj_le rfl) (jj_le rfl) dL_law_822 rfl (fun _ _ hX => hX.elim) (fun w1 r O_217 => ?_)
      obtain ⟨rfl, rfl⟩ := O_217
      refine jj_apd rfl ?_
      refine jj_iload C dL_law_825 rfl ?_
      refine jj_icmp_eqF (tgt := 832) C dL_law_827 (by decide) (by decide) ?_
      refine jj_iconst (v := 0) C dL_law_830 (by decide) ?_
      exfalso; have z0 := jc_nlt (a := (xs 1).toInt) (b := (0)) c_49 rfl (by decide); have z1 := jc_le (a := (1)) (b := (xs 1).toInt) c_50 (by decide) rfl; have z2 := jc_nltL (a := (xs 1).toInt) (b := (0)) c_180 (Int32.toInt_toInt64 _) (by decide); have z3 := jc_nltL (a := (0)) (b := (xs 1).toInt) c_181 (by decide) (Int32.toInt_toInt64 _); have z4 := jc_nltL (a := (xs 2).toInt) (b := (0)) c_182 (Int32.toInt_toInt64 _) (by decide); have z5 := jc_nltL (a := (0)) (b := (xs 2).toInt) c_183 (by decide) (Int32.toInt_toInt64 _); have z6 := jc_neq (a := (xs 1).toInt) (b := (xs 2).toInt) c_184 rfl rfl; have z7 := jc_nltL (a := (xs 3).toInt) (b := (1)) c_185 (Int32.toInt_toInt64 _) (by decide); have z8 := jc_ltL (a := (99999999)) (b := (xs 3).toInt) c_186 (by decide) (Int32.toInt_toInt64 _); omega
    · refine jj_apd rfl ?_
      refine jj_lstore C dL_law_819 (by decide) rfl ?_
      refine jj_aload_n C dL_law_821 rfl ?_
      refine jq_callV (rest := []) C (ct_X11_thrown_6 hl D cA ak q_28 q_31 q_32 q_33 q_34 q_35 q_36 q_37 q_38 q_39 q_40 q_41 q_42) [26] [0, 1, 2, 3, 4, 5, 6, 7, 8, 9, 10, 11, 12, 13, 14, 15, 16, 17, 18, 19, 20, 21, 22, 23, 24, 25] rfl rfl (by decide) (by decide) (by decide) 0 rfl rfl rfl jw_993 jw_994 jw_995 jw_224 jw_992 jn_X11_thrown rfl (jj_le rfl) (jj_le rfl) (jj_le rfl) (jj_le rfl) (jj_le rfl) dL_law_822 rfl (fun _ _ hX => hX.elim) (fun w1 r O_219 => ?_)
      obtain ⟨rfl, rfl⟩ := O_219
      refine jj_apd rfl ?_
      refine jj_iload C dL_law_825 rfl ?_
      refine jj_icmp_eqF (tgt := 832) C dL_law_827 (by decide) (by decide) ?_
      refine jj_iconst (v := 0) C dL_law_830 (by decide) ?_
      exfalso; have z0 := jc_nlt (a := (xs 1).toInt) (b := (0)) c_49 rfl (by decide); have z1 := jc_le (a := (1)) (b := (xs 1).toInt) c_50 (by decide) rfl; have z2 := jc_nltL (a := (xs 1).toInt) (b := (0)) c_187 (Int32.toInt_toInt64 _) (by decide); have z3 := jc_nltL (a := (0)) (b := (xs 1).toInt) c_188 (by decide) (Int32.toInt_toInt64 _); have z4 := jc_nltL (a := (xs 2).toInt) (b := (0)) c_189 (Int32.toInt_toInt64 _) (by decide); have z5 := jc_nltL (a := (0)) (b := (xs 2).toInt) c_190 (by decide) (Int32.toInt_toInt64 _); have z6 := jc_neq (a := (xs 1).toInt) (b := (xs 2).toInt) c_191 rfl rfl; have z7 := jc_nltL (a := (xs 3).toInt) (b := (1)) c_192 (Int32.toInt_toInt64 _) (by decide); have z8 := jc_nltL (a := (99999999)) (b := (xs 3).toInt) c_193 (by decide) (Int32.toInt_toInt64 _); have z9 := jc_ltL (a := (0)) (b := ((xs 3).toInt64 + 0).toInt) c_194 (by decide) rfl; omega
    · refine jj_apd rfl ?_
      refine jj_lstore C dL_law_819 (by decide) rfl ?_
      refine jj_aload_n C dL_law_821 rfl ?_
      refine jq_callV (rest := []) C (ct_X11_thrown_5 hl D cA ak q_28 q_31 q_32 q_33 q_34 q_35 q_36 q_37 q_38 q_39 q_40 q_41 q_42) [25] [0, 1, 2, 3, 4, 5, 6, 7, 8, 9, 10, 11, 12, 13, 14, 15, 16, 17, 18, 19, 20, 21, 22, 23, 24, 26] rfl rfl (by decide) (by decide) (by decide) 0 rfl rfl rfl jw_993 jw_994 jw_995 jw_224 jw_992 jn_X11_thrown rfl (jj_le rfl) (jj_le rfl) (jj_le rfl) (jj_le rfl) (jj_le rfl) dL_law_822 rfl (fun _ _ hX => hX.elim) (fun w1 r O_221 => ?_)
      obtain ⟨rfl, rfl⟩ := O_221
      refine jj_apd rfl ?_
      refine jj_iload C dL_law_825 rfl ?_
      refine jj_icmp_eqF (tgt := 832) C dL_law_827 (by decide) (by decide) ?_
      refine jj_iconst (v := 0) C dL_law_830 (by decide) ?_
      exfalso; have z0 := jc_nlt (a := (xs 1).toInt) (b := (0)) c_49 rfl (by decide); have z1 := jc_le (a := (1)) (b := (xs 1).toInt) c_50 (by decide) rfl; have z2 := jc_nltL (a := (xs 1).toInt) (b := (0)) c_196 (Int32.toInt_toInt64 _) (by decide); have z3 := jc_nltL (a := (0)) (b := (xs 1).toInt) c_197 (by decide) (Int32.toInt_toInt64 _); have z4 := jc_nltL (a := (xs 2).toInt) (b := (0)) c_198 (Int32.toInt_toInt64 _) (by decide); have z5 := jc_nltL (a := (0)) (b := (xs 2).toInt) c_199 (by decide) (Int32.toInt_toInt64 _); have z6 := jc_neq (a := (xs 1).toInt) (b := (xs 2).toInt) c_200 rfl rfl; have z7 := jc_nltL (a := (xs 3).toInt) (b := (1)) c_201 (Int32.toInt_toInt64 _) (by decide); have z8 := jc_nltL (a := (99999999)) (b := (xs 3).toInt) c_202 (by decide) (Int32.toInt_toInt64 _); have z9 := jc_nltL (a := (0)) (b := ((xs 3).toInt64 + 0).toInt) c_203 (by decide) rfl; omega
  · refine jj_apd rfl ?_
    refine jj_istore C dL_law_795 (by decide) rfl ?_
    refine jj_aload_n C dL_law_797 rfl ?_
    refine jj_aload_n C dL_law_798 rfl ?_
    refine jj_iload C dL_law_799 rfl ?_
    refine jj_iconst (v := 1) C dL_law_801 (by decide) ?_
    refine jj_iadd (v := 1) C dL_law_802 (by decide) ?_
    refine jj_xld (v := xs 1) C hX hbl hbA (vp_in_iff.mpr (by decide)) rfl dL_law_803 ?_
    refine jj_aload_n C dL_law_804 rfl ?_
    refine jj_iload C dL_law_805 rfl ?_
    refine jj_iconst (v := 2) C dL_law_807 (by decide) ?_
    refine jj_iadd (v := 2) C dL_law_808 (by decide) ?_
    refine jj_xld (v := xs 2) C hX hbl hbA (vp_in_iff.mpr (by decide)) rfl dL_law_809 ?_
    refine jj_aload_n C dL_law_810 rfl ?_
    refine jj_iload C dL_law_811 rfl ?_
    refine jj_iconst (v := 3) C dL_law_813 (by decide) ?_
    refine jj_iadd (v := 3) C dL_law_814 (by decide) ?_
    refine jj_xld (v := xs 3) C hX hbl hbA (vp_in_iff.mpr (by decide)) rfl dL_law_815 ?_
    refine jq_callV (rest := []) C (ct_X11_transfer_1 hl D cA ak q_28 q_31 q_32 q_36 q_33 q_34 q_35 q_37 q_38 q_39 q_40 q_41 q_42 (xs 1) (xs 2) (xs 3)) [12, 24, 13, 17] [0, 1, 2, 3, 4, 5, 6, 7, 8, 9, 10, 11, 14, 15, 16, 18, 19, 20, 21, 22, 23, 25, 26] rfl rfl (by decide) (by decide) (by decide) 0 rfl rfl rfl jw_1128 jw_1129 jw_1130 jw_224 jw_468 jn_X11_transfer rfl (jj_le rfl) (jj_le rfl) (jj_le rfl) (jj_le rfl) (jj_le rfl) dL_law_816 rfl (fun _ _ hX => hX.elim) (fun w1 r O_223 => ?_)
    rcases O_223 with ⟨c_224, rfl, rfl⟩ | ⟨c_225, c_226, rfl, rfl⟩ | ⟨c_227, c_228, c_229, rfl, rfl⟩ | ⟨c_230, c_231, c_232, c_233, rfl, rfl⟩ | ⟨c_234, c_235, c_236, c_237, c_238, rfl, rfl⟩ | ⟨c_239, c_240, c_241, c_242, c_243, c_244, rfl, rfl⟩ | ⟨c_245, c_246, c_247, c_248, c_249, c_250, c_251, rfl, rfl⟩ | ⟨c_252, c_253, c_254, c_255, c_256, c_257, c_258, c_259, rfl, rfl⟩ | ⟨f_260, c_261, c_262, c_263, c_264, c_265, c_266, c_267, c_268, rfl, rfl⟩
    · refine jj_apd rfl ?_
      refine jj_lstore C dL_law_819 (by decide) rfl ?_
      refine jj_aload_n C dL_law_821 rfl ?_
      refine jq_callV (rest := []) C (ct_X11_thrown_2 hl D cA ak q_28 q_31 q_32 q_33 q_34 q_35 q_36 q_37 q_38 q_39 q_40 q_41 q_42) [26] [0, 1, 2, 3, 4, 5, 6, 7, 8, 9, 10, 11, 12, 13, 14, 15, 16, 17, 18, 19, 20, 21, 22, 23, 24, 25] rfl rfl (by decide) (by decide) (by decide) 0 rfl rfl rfl jw_993 jw_994 jw_995 jw_224 jw_992 jn_X11_thrown rfl (jj_le rfl) (jj_le rfl) (jj_le rfl) (jj_le rfl) (jj_le rfl) dL_law_822 rfl (fun _ _ hX => hX.elim) (fun w1 r O_270 => ?_)
      obtain ⟨rfl, rfl⟩ := O_270
      refine jj_apd rfl ?_
      refine jj_iload C dL_law_825 rfl ?_
      refine jj_icmp_eqT (tgt := 832) C dL_law_827 (by decide) (by decide) ?_
      refine jj_iload C dL_law_832 rfl ?_
      refine jj_if_neT (tgt := 848) C dL_law_834 (by decide) (by decide) ?_
      refine jj_goto (tgt := 2259) C dL_law_848 (by decide) ?_
      exact jj_loc [7, 2] rfl (jj_drop [] rfl (by decide) (jj_widen (k := 600006) (n := 7302072) (jj_le rfl) (jj_le rfl) hend))
    · refine jj_apd rfl ?_
      refine jj_lstore C dL_law_819 (by decide) rfl ?_
      refine jj_aload_n C dL_law_821 rfl ?_
      refine jq_callV (rest := []) C (ct_X11_thrown_2 hl D cA ak q_28 q_31 q_32 q_33 q_34 q_35 q_36 q_37 q_38 q_39 q_40 q_41 q_42) [26] [0, 1, 2, 3, 4, 5, 6, 7, 8, 9, 10, 11, 12, 13, 14, 15, 16, 17, 18, 19, 20, 21, 22, 23, 24, 25] rfl rfl (by decide) (by decide) (by decide) 0 rfl rfl rfl jw_993 jw_994 jw_995 jw_224 jw_992 jn_X11_thrown rfl (jj_le rfl) (jj_le rfl) (jj_le rfl) (jj_le rfl) (jj_le rfl) dL_law_822 rfl (fun _ _ hX => hX.elim) (fun w1 r O_272 => ?_)
      obtain ⟨rfl, rfl⟩ := O_272
      refine jj_apd rfl ?_
      refine jj_iload C dL_law_825 rfl ?_
      refine jj_icmp_eqT (tgt := 832) C dL_law_827 (by decide) (by decide) ?_
      refine jj_iload C dL_law_832 rfl ?_
      refine jj_if_neT (tgt := 848) C dL_law_834 (by decide) (by decide) ?_
      refine jj_goto (tgt := 2259) C dL_law_848 (by decide) ?_
      exact jj_loc [7, 2] rfl (jj_drop [] rfl (by decide) (jj_widen (k := 600006) (n := 7302072) (jj_le rfl) (jj_le rfl) hend))
    · refine jj_apd rfl ?_
      refine jj_lstore C dL_law_819 (by decide) rfl ?_
      refine jj_aload_n C dL_law_821 rfl ?_
      refine jq_callV (rest := []) C (ct_X11_thrown_2 hl D cA ak q_28 q_31 q_32 q_33 q_34 q_35 q_36 q_37 q_38 q_39 q_40 q_41 q_42) [26] [0, 1, 2, 3, 4, 5, 6, 7, 8, 9, 10, 11, 12, 13, 14, 15, 16, 17, 18, 19, 20, 21, 22, 23, 24, 25] rfl rfl (by decide) (by decide) (by decide) 0 rfl rfl rfl jw_993 jw_994 jw_995 jw_224 jw_992 jn_X11_thrown rfl (jj_le rfl) (jj_le rfl) (jj_le rfl) (jj_le rfl) (jj_le rfl) dL_law_822 rfl (fun _ _ hX => hX.elim) (fun w1 r O_274 => ?_)
      obtain ⟨rfl, rfl⟩ := O_274
      refine jj_apd rfl ?_
      refine jj_iload C dL_law_825 rfl ?_
      refine jj_icmp_eqT (tgt := 832) C dL_law_827 (by decide) (by decide) ?_
      refine jj_iload C dL_law_832 rfl ?_
      refine jj_if_neT (tgt := 848) C dL_law_834 (by decide) (by decide) ?_
      refine jj_goto (tgt := 2259) C dL_law_848 (by decide) ?_
      exact jj_loc [7, 2] rfl (jj_drop [] rfl (by decide) (jj_widen (k := 600006) (n := 7302072) (jj_le rfl) (jj_le rfl) hend))
    · refine jj_apd rfl ?_
      refine jj_lstore C dL_law_819 (by decide) rfl ?_
      refine jj_aload_n C dL_law_821 rfl ?_
      refine jq_callV (rest := []) C (ct_X11_thrown_2 hl D cA ak q_28 q_31 q_32 q_33 q_34 q_35 q_36 q_37 q_38 q_39 q_40 q_41 q_42) [26] [0, 1, 2, 3, 4, 5, 6, 7, 8, 9, 10, 11, 12, 13, 14, 15, 16, 17, 18, 19, 20, 21, 22, 23, 24, 25] rfl rfl (by decide) (by decide) (by decide) 0 rfl rfl rfl jw_993 jw_994 jw_995 jw_224 jw_992 jn_X11_thrown rfl (jj_le rfl) (jj_le rfl) (jj_le rfl) (jj_le rfl) (jj_le rfl) dL_law_822 rfl (fun _ _ hX => hX.elim) (fun w1 r O_276 => ?_)
      obtain ⟨rfl, rfl⟩ := O_276
      refine jj_apd rfl ?_
      refine jj_iload C dL_law_825 rfl ?_
      refine jj_icmp_eqT (tgt := 832) C dL_law_827 (by decide) (by decide) ?_
      refine jj_iload C dL_law_832 rfl ?_
      refine jj_if_neT (tgt := 848) C dL_law_834 (by decide) (by decide) ?_
      refine jj_goto (tgt := 2259) C dL_law_848 (by decide) ?_
      exact jj_loc [7, 2] rfl (jj_drop [] rfl (by decide) (jj_widen (k := 600006) (n := 7302072) (jj_le rfl) (jj_le rfl) hend))
    · refine jj_apd rfl ?_
      refine jj_lstore C dL_law_819 (by decide) rfl ?_
      refine jj_aload_n C dL_law_821 rfl ?_
      refine jq_callV (rest := []) C (ct_X11_thrown_4 hl D cA ak q_28 q_31 q_32 q_33 q_34 q_35 q_36 q_37 q_38 q_39 q_40 q_41 q_42) [26] [0, 1, 2, 3, 4, 5, 6, 7, 8, 9, 10, 11, 12, 13, 14, 15, 16, 17, 18, 19, 20, 21, 22, 23, 24, 25] rfl rfl (by decide) (by decide) (by decide) 0 rfl rfl rfl jw_993 jw_994 jw_995 jw_224 jw_992 jn_X11_thrown rfl (jj_le rfl) (jj_le rfl) (jj_le rfl) (jj_le rfl) (jj_le rfl) dL_law_822 rfl (fun _ _ hX => hX.elim) (fun w1 r O_278 => ?_)
      obtain ⟨rfl, rfl⟩ := O_278
      refine jj_apd rfl ?_
      refine jj_iload C dL_law_825 rfl ?_
      refine jj_icmp_eqF (tgt := 832) C dL_law_827 (by decide) (by decide) ?_
      refine jj_iconst (v := 0) C dL_law_830 (by decide) ?_
      exfalso; have z0 := jc_nlt (a := (xs 1).toInt) (b := (0)) c_51 rfl (by decide); have z1 := jc_nle (a := (1)) (b := (xs 1).toInt) c_52 (by decide) rfl; have z2 := jc_lt (a := (xs 2).toInt) (b := (0)) c_53 rfl (by decide); have z3 := jc_nltL (a := (xs 1).toInt) (b := (0)) c_234 (Int32.toInt_toInt64 _) (by decide); have z4 := jc_nltL (a := (0)) (b := (xs 1).toInt) c_235 (by decide) (Int32.toInt_toInt64 _); have z5 := jc_nltL (a := (xs 2).toInt) (b := (0)) c_236 (Int32.toInt_toInt64 _) (by decide); have z6 := jc_nltL (a := (0)) (b := (xs 2).toInt) c_237 (by decide) (Int32.toInt_toInt64 _); have z7 := jc_eq (a := (xs 1).toInt) (b := (xs 2).toInt) c_238 rfl rfl; omega
    · refine jj_apd rfl ?_
      refine jj_lstore C dL_law_819 (by decide) rfl ?_
      refine jj_aload_n C dL_law_821 rfl ?_
      refine jq_callV (rest := []) C (ct_X11_thrown_4 hl D cA ak q_28 q_31 q_32 q_33 q_34 q_35 q_36 q_37 q_38 q_39 q_40 q_41 q_42) [26] [0, 1, 2, 3, 4, 5, 6, 7, 8, 9, 10, 11, 12, 13, 14, 15, 16, 17, 18, 19, 20, 21, 22, 23, 24, 25] rfl rfl (by decide) (by decide) (by decide) 0 rfl rfl rfl jw_993 jw_994 jw_995 jw_224 jw_992 jn_X11_thrown rfl (jj_le rfl) (jj_le rfl) (jj_le rfl) (jj_le rfl) (jj_le rfl) dL_law_822 rfl (fun _ _ hX => hX.elim) (fun w1 r O_280 => ?_)
      obtain ⟨rfl, rfl⟩ := O_280
      refine jj_apd rfl ?_
      refine jj_iload C dL_law_825 rfl ?_
      refine jj_icmp_eqF (tgt := 832) C dL_law_827 (by decide) (by decide) ?_
      refine jj_iconst (v := 0) C dL_law_830 (by decide) ?_
      exfalso; have z0 := jc_nlt (a := (xs 1).toInt) (b := (0)) c_51 rfl (by decide); have z1 := jc_nle (a := (1)) (b := (xs 1).toInt) c_52 (by decide) rfl; have z2 := jc_lt (a := (xs 2).toInt) (b := (0)) c_53 rfl (by decide); have z3 := jc_nltL (a := (xs 1).toInt) (b := (0)) c_239 (Int32.toInt_toInt64 _) (by decide); have z4 := jc_nltL (a := (0)) (b := (xs 1).toInt) c_240 (by decide) (Int32.toInt_toInt64 _); have z5 := jc_nltL (a := (xs 2).toInt) (b := (0)) c_241 (Int32.toInt_toInt64 _) (by decide); have z6 := jc_nltL (a := (0)) (b := (xs 2).toInt) c_242 (by decide) (Int32.toInt_toInt64 _); have z7 := jc_neq (a := (xs 1).toInt) (b := (xs 2).toInt) c_243 rfl rfl; have z8 := jc_ltL (a := (xs 3).toInt) (b := (1)) c_244 (Int32.toInt_toInt64 _) (by decide); omega
    · refine jj_apd rfl ?_
      refine jj_lstore C dL_law_819 (by decide) rfl ?_
      refine jj_aload_n C dL_law_821 rfl ?_
      refine jq_callV (rest := []) C (ct_X11_thrown_4 hl D cA ak q_28 q_31 q_32 q_33 q_34 q_35 q_36 q_37 q_38 q_39 q_40 q_41 q_42) [26] [0, 1, 2, 3, 4, 5, 6, 7, 8, 9, 10, 11, 12, 13, 14, 15, 16, 17, 18, 19, 20, 21, 22, 23, 24, 25] rfl rfl (by decide) (by decide) (by decide) 0 rfl rfl rfl jw_993 jw_994 jw_995 jw_224 jw_992 jn_X11_thrown rfl (jj_le rfl) (jj_le rfl) (jj_le rfl) (jj_le rfl) (jj_le rfl) dL_law_822 rfl (fun _ _ hX => hX.elim) (fun w1 r O_282 => ?_)
      obtain ⟨rfl, rfl⟩ := O_282
      refine jj_apd rfl ?_
      refine jj_iload C dL_law_825 rfl ?_
      refine jj_icmp_eqF (tgt := 832) C dL_law_827 (by decide) (by decide) ?_
      refine jj_iconst (v := 0) C dL_law_830 (by decide) ?_
      exfalso; have z0 := jc_nlt (a := (xs 1).toInt) (b := (0)) c_51 rfl (by decide); have z1 := jc_nle (a := (1)) (b := (xs 1).toInt) c_52 (by decide) rfl; have z2 := jc_lt (a := (xs 2).toInt) (b := (0)) c_53 rfl (by decide); have z3 := jc_nltL (a := (xs 1).toInt) (b := (0)) c_245 (Int32.toInt_toInt64 _) (by decide); have z4 := jc_nltL (a := (0)) (b := (xs 1).toInt) c_246 (by decide) (Int32.toInt_toInt64 _); have z5 := jc_nltL (a := (xs 2).toInt) (b := (0)) c_247 (Int32.toInt_toInt64 _) (by decide); have z6 := jc_nltL (a := (0)) (b := (xs 2).toInt) c_248 (by decide) (Int32.toInt_toInt64 _); have z7 := jc_neq (a := (xs 1).toInt) (b := (xs 2).toInt) c_249 rfl rfl; have z8 := jc_nltL (a := (xs 3).toInt) (b := (1)) c_250 (Int32.toInt_toInt64 _) (by decide); have z9 := jc_ltL (a := (99999999)) (b := (xs 3).toInt) c_251 (by decide) (Int32.toInt_toInt64 _); omega
    · refine jj_apd rfl ?_
      refine jj_lstore C dL_law_819 (by decide) rfl ?_
      refine jj_aload_n C dL_law_821 rfl ?_
      refine jq_callV (rest := []) C (ct_X11_thrown_6 hl D cA ak q_28 q_31 q_32 q_33 q_34 q_35 q_36 q_37 q_38 q_39 q_40 q_41 q_42) [26] [0, 1, 2, 3, 4, 5, 6, 7, 8, 9, 10, 11, 12, 13, 14, 15, 16, 17, 18, 19, 20, 21, 22, 23, 24, 25] rfl rfl (by decide) (by decide) (by decide) 0 rfl rfl rfl jw_993 jw_994 jw_995 jw_224 jw_992 jn_X11_thrown rfl (jj_le rfl) (jj_le rfl) (jj_le rfl) (jj_le rfl) (jj_le rfl) dL_law_822 rfl (fun _ _ hX => hX.elim) (fun w1 r O_284 => ?_)
      obtain ⟨rfl, rfl⟩ := O_284
      refine jj_apd rfl ?_
      refine jj_iload C dL_law_825 rfl ?_
      refine jj_icmp_eqF (tgt := 832) C dL_law_827 (by decide) (by decide) ?_
      refine jj_iconst (v := 0) C dL_law_830 (by decide) ?_
      exfalso; have z0 := jc_nlt (a := (xs 1).toInt) (b := (0)) c_51 rfl (by decide); have z1 := jc_nle (a := (1)) (b := (xs 1).toInt) c_52 (by decide) rfl; have z2 := jc_lt (a := (xs 2).toInt) (b := (0)) c_53 rfl (by decide); have z3 := jc_nltL (a := (xs 1).toInt) (b := (0)) c_252 (Int32.toInt_toInt64 _) (by decide); have z4 := jc_nltL (a := (0)) (b := (xs 1).toInt) c_253 (by decide) (Int32.toInt_toInt64 _); have z5 := jc_nltL (a := (xs 2).toInt) (b := (0)) c_254 (Int32.toInt_toInt64 _) (by decide); have z6 := jc_nltL (a := (0)) (b := (xs 2).toInt) c_255 (by decide) (Int32.toInt_toInt64 _); have z7 := jc_neq (a := (xs 1).toInt) (b := (xs 2).toInt) c_256 rfl rfl; have z8 := jc_nltL (a := (xs 3).toInt) (b := (1)) c_257 (Int32.toInt_toInt64 _) (by decide); have z9 := jc_nltL (a := (99999999)) (b := (xs 3).toInt) c_258 (by decide) (Int32.toInt_toInt64 _); have z10 := jc_ltL (a := (0)) (b := ((xs 3).toInt64 + 0).toInt) c_259 (by decide) rfl; omega
    · refine jj_apd rfl ?_
      refine jj_lstore C dL_law_819 (by decide) rfl ?_
      refine jj_aload_n C dL_law_821 rfl ?_
      refine jq_callV (rest := []) C (ct_X11_thrown_5 hl D cA ak q_28 q_31 q_32 q_33 q_34 q_35 q_36 q_37 q_38 q_39 q_40 q_41 q_42) [25] [0, 1, 2, 3, 4, 5, 6, 7, 8, 9, 10, 11, 12, 13, 14, 15, 16, 17, 18, 19, 20, 21, 22, 23, 24, 26] rfl rfl (by decide) (by decide) (by decide) 0 rfl rfl rfl jw_993 jw_994 jw_995 jw_224 jw_992 jn_X11_thrown rfl (jj_le rfl) (jj_le rfl) (jj_le rfl) (jj_le rfl) (jj_le rfl) dL_law_822 rfl (fun _ _ hX => hX.elim) (fun w1 r O_286 => ?_)
      obtain ⟨rfl, rfl⟩ := O_286
      refine jj_apd rfl ?_
      refine jj_iload C dL_law_825 rfl ?_
      refine jj_icmp_eqF (tgt := 832) C dL_law_827 (by decide) (by decide) ?_
      refine jj_iconst (v := 0) C dL_law_830 (by decide) ?_
      exfalso; have z0 := jc_nlt (a := (xs 1).toInt) (b := (0)) c_51 rfl (by decide); have z1 := jc_nle (a := (1)) (b := (xs 1).toInt) c_52 (by decide) rfl; have z2 := jc_lt (a := (xs 2).toInt) (b := (0)) c_53 rfl (by decide); have z3 := jc_nltL (a := (xs 1).toInt) (b := (0)) c_261 (Int32.toInt_toInt64 _) (by decide); have z4 := jc_nltL (a := (0)) (b := (xs 1).toInt) c_262 (by decide) (Int32.toInt_toInt64 _); have z5 := jc_nltL (a := (xs 2).toInt) (b := (0)) c_263 (Int32.toInt_toInt64 _) (by decide); have z6 := jc_nltL (a := (0)) (b := (xs 2).toInt) c_264 (by decide) (Int32.toInt_toInt64 _); have z7 := jc_neq (a := (xs 1).toInt) (b := (xs 2).toInt) c_265 rfl rfl; have z8 := jc_nltL (a := (xs 3).toInt) (b := (1)) c_266 (Int32.toInt_toInt64 _) (by decide); have z9 := jc_nltL (a := (99999999)) (b := (xs 3).toInt) c_267 (by decide) (Int32.toInt_toInt64 _); have z10 := jc_nltL (a := (0)) (b := ((xs 3).toInt64 + 0).toInt) c_268 (by decide) rfl; omega
  · refine jj_apd rfl ?_
    refine jj_istore C dL_law_795 (by decide) rfl ?_
    refine jj_aload_n C dL_law_797 rfl ?_
    refine jj_aload_n C dL_law_798 rfl ?_
    refine jj_iload C dL_law_799 rfl ?_
    refine jj_iconst (v := 1) C dL_law_801 (by decide) ?_
    refine jj_iadd (v := 1) C dL_law_802 (by decide) ?_
    refine jj_xld (v := xs 1) C hX hbl hbA (vp_in_iff.mpr (by decide)) rfl dL_law_803 ?_
    refine jj_aload_n C dL_law_804 rfl ?_
    refine jj_iload C dL_law_805 rfl ?_
    refine jj_iconst (v := 2) C dL_law_807 (by decide) ?_
    refine jj_iadd (v := 2) C dL_law_808 (by decide) ?_
    refine jj_xld (v := xs 2) C hX hbl hbA (vp_in_iff.mpr (by decide)) rfl dL_law_809 ?_
    refine jj_aload_n C dL_law_810 rfl ?_
    refine jj_iload C dL_law_811 rfl ?_
    refine jj_iconst (v := 3) C dL_law_813 (by decide) ?_
    refine jj_iadd (v := 3) C dL_law_814 (by decide) ?_
    refine jj_xld (v := xs 3) C hX hbl hbA (vp_in_iff.mpr (by decide)) rfl dL_law_815 ?_
    refine jq_callV (rest := []) C (ct_X11_transfer_1 hl D cA ak q_28 q_31 q_32 q_36 q_33 q_34 q_35 q_37 q_38 q_39 q_40 q_41 q_42 (xs 1) (xs 2) (xs 3)) [12, 24, 13, 17] [0, 1, 2, 3, 4, 5, 6, 7, 8, 9, 10, 11, 14, 15, 16, 18, 19, 20, 21, 22, 23, 25, 26] rfl rfl (by decide) (by decide) (by decide) 0 rfl rfl rfl jw_1128 jw_1129 jw_1130 jw_224 jw_468 jn_X11_transfer rfl (jj_le rfl) (jj_le rfl) (jj_le rfl) (jj_le rfl) (jj_le rfl) dL_law_816 rfl (fun _ _ hX => hX.elim) (fun w1 r O_288 => ?_)
    rcases O_288 with ⟨c_289, rfl, rfl⟩ | ⟨c_290, c_291, rfl, rfl⟩ | ⟨c_292, c_293, c_294, rfl, rfl⟩ | ⟨c_295, c_296, c_297, c_298, rfl, rfl⟩ | ⟨c_299, c_300, c_301, c_302, c_303, rfl, rfl⟩ | ⟨c_304, c_305, c_306, c_307, c_308, c_309, rfl, rfl⟩ | ⟨c_310, c_311, c_312, c_313, c_314, c_315, c_316, rfl, rfl⟩ | ⟨c_317, c_318, c_319, c_320, c_321, c_322, c_323, c_324, rfl, rfl⟩ | ⟨f_325, c_326, c_327, c_328, c_329, c_330, c_331, c_332, c_333, rfl, rfl⟩
    · refine jj_apd rfl ?_
      refine jj_lstore C dL_law_819 (by decide) rfl ?_
      refine jj_aload_n C dL_law_821 rfl ?_
      refine jq_callV (rest := []) C (ct_X11_thrown_2 hl D cA ak q_28 q_31 q_32 q_33 q_34 q_35 q_36 q_37 q_38 q_39 q_40 q_41 q_42) [26] [0, 1, 2, 3, 4, 5, 6, 7, 8, 9, 10, 11, 12, 13, 14, 15, 16, 17, 18, 19, 20, 21, 22, 23, 24, 25] rfl rfl (by decide) (by decide) (by decide) 0 rfl rfl rfl jw_993 jw_994 jw_995 jw_224 jw_992 jn_X11_thrown rfl (jj_le rfl) (jj_le rfl) (jj_le rfl) (jj_le rfl) (jj_le rfl) dL_law_822 rfl (fun _ _ hX => hX.elim) (fun w1 r O_335 => ?_)
      obtain ⟨rfl, rfl⟩ := O_335
      refine jj_apd rfl ?_
      refine jj_iload C dL_law_825 rfl ?_
      refine jj_icmp_eqT (tgt := 832) C dL_law_827 (by decide) (by decide) ?_
      refine jj_iload C dL_law_832 rfl ?_
      refine jj_if_neT (tgt := 848) C dL_law_834 (by decide) (by decide) ?_
      refine jj_goto (tgt := 2259) C dL_law_848 (by decide) ?_
      exact jj_loc [7, 2] rfl (jj_drop [] rfl (by decide) (jj_widen (k := 600006) (n := 7302072) (jj_le rfl) (jj_le rfl) hend))
    · refine jj_apd rfl ?_
      refine jj_lstore C dL_law_819 (by decide) rfl ?_
      refine jj_aload_n C dL_law_821 rfl ?_
      refine jq_callV (rest := []) C (ct_X11_thrown_2 hl D cA ak q_28 q_31 q_32 q_33 q_34 q_35 q_36 q_37 q_38 q_39 q_40 q_41 q_42) [26] [0, 1, 2, 3, 4, 5, 6, 7, 8, 9, 10, 11, 12, 13, 14, 15, 16, 17, 18, 19, 20, 21, 22, 23, 24, 25] rfl rfl (by decide) (by decide) (by decide) 0 rfl rfl rfl jw_993 jw_994 jw_995 jw_224 jw_992 jn_X11_thrown rfl (jj_le rfl) (jj_le rfl) (jj_le rfl) (jj_le rfl) (jj_le rfl) dL_law_822 rfl (fun _ _ hX => hX.elim) (fun w1 r O_337 => ?_)
      obtain ⟨rfl, rfl⟩ := O_337
      refine jj_apd rfl ?_
      refine jj_iload C dL_law_825 rfl ?_
      refine jj_icmp_eqT (tgt := 832) C dL_law_827 (by decide) (by decide) ?_
      refine jj_iload C dL_law_832 rfl ?_
      refine jj_if_neT (tgt := 848) C dL_law_834 (by decide) (by decide) ?_
      refine jj_goto (tgt := 2259) C dL_law_848 (by decide) ?_
      exact jj_loc [7, 2] rfl (jj_drop [] rfl (by decide) (jj_widen (k := 600006) (n := 7302072) (jj_le rfl) (jj_le rfl) hend))
    · refine jj_apd rfl ?_
      refine jj_lstore C dL_law_819 (by decide) rfl ?_
      refine jj_aload_n C dL_law_821 rfl ?_
      refine jq_callV (rest := []) C (ct_X11_thrown_2 hl D cA ak q_28 q_31 q_32 q_33 q_34 q_35 q_36 q_37 q_38 q_39 q_40 q_41 q_42) [26] [0, 1, 2, 3, 4, 5, 6, 7, 8, 9, 10, 11, 12, 13, 14, 15, 16, 17, 18, 19, 20, 21, 22, 23, 24, 25] rfl rfl (by decide) (by decide) (by decide) 0 rfl rfl rfl jw_993 jw_994 jw_995 jw_224 jw_992 jn_X11_thrown rfl (jj_le rfl) (jj_le rfl) (jj_le rfl) (jj_le rfl) (jj_le rfl) dL_law_822 rfl (fun _ _ hX => hX.elim) (fun w1 r O_339 => ?_)
      obtain ⟨rfl, rfl⟩ := O_339
      refine jj_apd rfl ?_
      refine jj_iload C dL_law_825 rfl ?_
      refine jj_icmp_eqT (tgt := 832) C dL_law_827 (by decide) (by decide) ?_
      refine jj_iload C dL_law_832 rfl ?_
      refine jj_if_neT (tgt := 848) C dL_law_834 (by decide) (by decide) ?_
      refine jj_goto (tgt := 2259) C dL_law_848 (by decide) ?_
      exact jj_loc [7, 2] rfl (jj_drop [] rfl (by decide) (jj_widen (k := 600006) (n := 7302072) (jj_le rfl) (jj_le rfl) hend))
    · refine jj_apd rfl ?_
      refine jj_lstore C dL_law_819 (by decide) rfl ?_
      refine jj_aload_n C dL_law_821 rfl ?_
      refine jq_callV (rest := []) C (ct_X11_thrown_2 hl D cA ak q_28 q_31 q_32 q_33 q_34 q_35 q_36 q_37 q_38 q_39 q_40 q_41 q_42) [26] [0, 1, 2, 3, 4, 5, 6, 7, 8, 9, 10, 11, 12, 13, 14, 15, 16, 17, 18, 19, 20, 21, 22, 23, 24, 25] rfl rfl (by decide) (by decide) (by decide) 0 rfl rfl rfl jw_993 jw_994 jw_995 jw_224 jw_992 jn_X11_thrown rfl (jj_le rfl) (jj_le rfl) (jj_le rfl) (jj_le rfl) (jj_le rfl) dL_law_822 rfl (fun _ _ hX => hX.elim) (fun w1 r O_341 => ?_)
      obtain ⟨rfl, rfl⟩ := O_341
      refine jj_apd rfl ?_
      refine jj_iload C dL_law_825 rfl ?_
      refine jj_icmp_eqT (tgt := 832) C dL_law_827 (by decide) (by decide) ?_
      refine jj_iload C dL_law_832 rfl ?_
      refine jj_if_neT (tgt := 848) C dL_law_834 (by decide) (by decide) ?_
      refine jj_goto (tgt := 2259) C dL_law_848 (by decide) ?_
      exact jj_loc [7, 2] rfl (jj_drop [] rfl (by decide) (jj_widen (k := 600006) (n := 7302072) (jj_le rfl) (jj_le rfl) hend))
    · refine jj_apd rfl ?_
      refine jj_lstore C dL_law_819 (by decide) rfl ?_
      refine jj_aload_n C dL_law_821 rfl ?_
      refine jq_callV (rest := []) C (ct_X11_thrown_4 hl D cA ak q_28 q_31 q_32 q_33 q_34 q_35 q_36 q_37 q_38 q_39 q_40 q_41 q_42) [26] [0, 1, 2, 3, 4, 5, 6, 7, 8, 9, 10, 11, 12, 13, 14, 15, 16, 17, 18, 19, 20, 21, 22, 23, 24, 25] rfl rfl (by decide) (by decide) (by decide) 0 rfl rfl rfl jw_993 jw_994 jw_995 jw_224 jw_992 jn_X11_thrown rfl (jj_le rfl) (jj_le rfl) (jj_le rfl) (jj_le rfl) (jj_le rfl) dL_law_822 rfl (fun _ _ hX => hX.elim) (fun w1 r O_343 => ?_)
      obtain ⟨rfl, rfl⟩ := O_343
      refine jj_apd rfl ?_
      refine jj_iload C dL_law_825 rfl ?_
      refine jj_icmp_eqF (tgt := 832) C dL_law_827 (by decide) (by decide) ?_
      refine jj_iconst (v := 0) C dL_law_830 (by decide) ?_
      exfalso; have z0 := jc_nlt (a := (xs 1).toInt) (b := (0)) c_54 rfl (by decide); have z1 := jc_nle (a := (1)) (b := (xs 1).toInt) c_55 (by decide) rfl; have z2 := jc_nlt (a := (xs 2).toInt) (b := (0)) c_56 rfl (by decide); have z3 := jc_le (a := (1)) (b := (xs 2).toInt) c_57 (by decide) rfl; have z4 := jc_nltL (a := (xs 1).toInt) (b := (0)) c_299 (Int32.toInt_toInt64 _) (by decide); have z5 := jc_nltL (a := (0)) (b := (xs 1).toInt) c_300 (by decide) (Int32.toInt_toInt64 _); have z6 := jc_nltL (a := (xs 2).toInt) (b := (0)) c_301 (Int32.toInt_toInt64 _) (by decide); have z7 := jc_nltL (a := (0)) (b := (xs 2).toInt) c_302 (by decide) (Int32.toInt_toInt64 _); have z8 := jc_eq (a := (xs 1).toInt) (b := (xs 2).toInt) c_303 rfl rfl; omega
    · refine jj_apd rfl ?_
      refine jj_lstore C dL_law_819 (by decide) rfl ?_
      refine jj_aload_n C dL_law_821 rfl ?_
      refine jq_callV (rest := []) C (ct_X11_thrown_4 hl D cA ak q_28 q_31 q_32 q_33 q_34 q_35 q_36 q_37 q_38 q_39 q_40 q_41 q_42) [26] [0, 1, 2, 3, 4, 5, 6, 7, 8, 9, 10, 11, 12, 13, 14, 15, 16, 17, 18, 19, 20, 21, 22, 23, 24, 25] rfl rfl (by decide) (by decide) (by decide) 0 rfl rfl rfl jw_993 jw_994 jw_995 jw_224 jw_992 jn_X11_thrown rfl (jj_le rfl) (jj_le rfl) (jj_le rfl) (jj_le rfl) (jj_le rfl) dL_law_822 rfl (fun _ _ hX => hX.elim) (fun w1 r O_345 => ?_)
      obtain ⟨rfl, rfl⟩ := O_345
      refine jj_apd rfl ?_
      refine jj_iload C dL_law_825 rfl ?_
      refine jj_icmp_eqF (tgt := 832) C dL_law_827 (by decide) (by decide) ?_
      refine jj_iconst (v := 0) C dL_law_830 (by decide) ?_
      exfalso; have z0 := jc_nlt (a := (xs 1).toInt) (b := (0)) c_54 rfl (by decide); have z1 := jc_nle (a := (1)) (b := (xs 1).toInt) c_55 (by decide) rfl; have z2 := jc_nlt (a := (xs 2).toInt) (b := (0)) c_56 rfl (by decide); have z3 := jc_le (a := (1)) (b := (xs 2).toInt) c_57 (by decide) rfl; have z4 := jc_nltL (a := (xs 1).toInt) (b := (0)) c_304 (Int32.toInt_toInt64 _) (by decide); have z5 := jc_nltL (a := (0)) (b := (xs 1).toInt) c_305 (by decide) (Int32.toInt_toInt64 _); have z6 := jc_nltL (a := (xs 2).toInt) (b := (0)) c_306 (Int32.toInt_toInt64 _) (by decide); have z7 := jc_nltL (a := (0)) (b := (xs 2).toInt) c_307 (by decide) (Int32.toInt_toInt64 _); have z8 := jc_neq (a := (xs 1).toInt) (b := (xs 2).toInt) c_308 rfl rfl; have z9 := jc_ltL (a := (xs 3).toInt) (b := (1)) c_309 (Int32.toInt_toInt64 _) (by decide); omega
    · refine jj_apd rfl ?_
      refine jj_lstore C dL_law_819 (by decide) rfl ?_
      refine jj_aload_n C dL_law_821 rfl ?_
      refine jq_callV (rest := []) C (ct_X11_thrown_4 hl D cA ak q_28 q_31 q_32 q_33 q_34 q_35 q_36 q_37 q_38 q_39 q_40 q_41 q_42) [26] [0, 1, 2, 3, 4, 5, 6, 7, 8, 9, 10, 11, 12, 13, 14, 15, 16, 17, 18, 19, 20, 21, 22, 23, 24, 25] rfl rfl (by decide) (by decide) (by decide) 0 rfl rfl rfl jw_993 jw_994 jw_995 jw_224 jw_992 jn_X11_thrown rfl (jj_le rfl) (jj_le rfl) (jj_le rfl) (jj_le rfl) (jj_le rfl) dL_law_822 rfl (fun _ _ hX => hX.elim) (fun w1 r O_347 => ?_)
      obtain ⟨rfl, rfl⟩ := O_347
      refine jj_apd rfl ?_
      refine jj_iload C dL_law_825 rfl ?_
      refine jj_icmp_eqF (tgt := 832) C dL_law_827 (by decide) (by decide) ?_
      refine jj_iconst (v := 0) C dL_law_830 (by decide) ?_
      exfalso; have z0 := jc_nlt (a := (xs 1).toInt) (b := (0)) c_54 rfl (by decide); have z1 := jc_nle (a := (1)) (b := (xs 1).toInt) c_55 (by decide) rfl; have z2 := jc_nlt (a := (xs 2).toInt) (b := (0)) c_56 rfl (by decide); have z3 := jc_le (a := (1)) (b := (xs 2).toInt) c_57 (by decide) rfl; have z4 := jc_nltL (a := (xs 1).toInt) (b := (0)) c_310 (Int32.toInt_toInt64 _) (by decide); have z5 := jc_nltL (a := (0)) (b := (xs 1).toInt) c_311 (by decide) (Int32.toInt_toInt64 _); have z6 := jc_nltL (a := (xs 2).toInt) (b := (0)) c_312 (Int32.toInt_toInt64 _) (by decide); have z7 := jc_nltL (a := (0)) (b := (xs 2).toInt) c_313 (by decide) (Int32.toInt_toInt64 _); have z8 := jc_neq (a := (xs 1).toInt) (b := (xs 2).toInt) c_314 rfl rfl; have z9 := jc_nltL (a := (xs 3).toInt) (b := (1)) c_315 (Int32.toInt_toInt64 _) (by decide); have z10 := jc_ltL (a := (99999999)) (b := (xs 3).toInt) c_316 (by decide) (Int32.toInt_toInt64 _); omega
    · refine jj_apd rfl ?_
      refine jj_lstore C dL_law_819 (by decide) rfl ?_
      refine jj_aload_n C dL_law_821 rfl ?_
      refine jq_callV (rest := []) C (ct_X11_thrown_6 hl D cA ak q_28 q_31 q_32 q_33 q_34 q_35 q_36 q_37 q_38 q_39 q_40 q_41 q_42) [26] [0, 1, 2, 3, 4, 5, 6, 7, 8, 9, 10, 11, 12, 13, 14, 15, 16, 17, 18, 19, 20, 21, 22, 23, 24, 25] rfl rfl (by decide) (by decide) (by decide) 0 rfl rfl rfl jw_993 jw_994 jw_995 jw_224 jw_992 jn_X11_thrown rfl (jj_le rfl) (jj_le rfl) (jj_le rfl) (jj_le rfl) (jj_le rfl) dL_law_822 rfl (fun _ _ hX => hX.elim) (fun w1 r O_349 => ?_)
      obtain ⟨rfl, rfl⟩ := O_349
      refine jj_apd rfl ?_
      refine jj_iload C dL_law_825 rfl ?_
      refine jj_icmp_eqF (tgt := 832) C dL_law_827 (by decide) (by decide) ?_
      refine jj_iconst (v := 0) C dL_law_830 (by decide) ?_
      exfalso; have z0 := jc_nlt (a := (xs 1).toInt) (b := (0)) c_54 rfl (by decide); have z1 := jc_nle (a := (1)) (b := (xs 1).toInt) c_55 (by decide) rfl; have z2 := jc_nlt (a := (xs 2).toInt) (b := (0)) c_56 rfl (by decide); have z3 := jc_le (a := (1)) (b := (xs 2).toInt) c_57 (by decide) rfl; have z4 := jc_nltL (a := (xs 1).toInt) (b := (0)) c_317 (Int32.toInt_toInt64 _) (by decide); have z5 := jc_nltL (a := (0)) (b := (xs 1).toInt) c_318 (by decide) (Int32.toInt_toInt64 _); have z6 := jc_nltL (a := (xs 2).toInt) (b := (0)) c_319 (Int32.toInt_toInt64 _) (by decide); have z7 := jc_nltL (a := (0)) (b := (xs 2).toInt) c_320 (by decide) (Int32.toInt_toInt64 _); have z8 := jc_neq (a := (xs 1).toInt) (b := (xs 2).toInt) c_321 rfl rfl; have z9 := jc_nltL (a := (xs 3).toInt) (b := (1)) c_322 (Int32.toInt_toInt64 _) (by decide); have z10 := jc_nltL (a := (99999999)) (b := (xs 3).toInt) c_323 (by decide) (Int32.toInt_toInt64 _); have z11 := jc_ltL (a := (0)) (b := ((xs 3).toInt64 + 0).toInt) c_324 (by decide) rfl; omega
    · refine jj_apd rfl ?_
      refine jj_lstore C dL_law_819 (by decide) rfl ?_
      refine jj_aload_n C dL_law_821 rfl ?_
      refine jq_callV (rest := []) C (ct_X11_thrown_5 hl D cA ak q_28 q_31 q_32 q_33 q_34 q_35 q_36 q_37 q_38 q_39 q_40 q_41 q_42) [25] [0, 1, 2, 3, 4, 5, 6, 7, 8, 9, 10, 11, 12, 13, 14, 15, 16, 17, 18, 19, 20, 21, 22, 23, 24, 26] rfl rfl (by decide) (by decide) (by decide) 0 rfl rfl rfl jw_993 jw_994 jw_995 jw_224 jw_992 jn_X11_thrown rfl (jj_le rfl) (jj_le rfl) (jj_le rfl) (jj_le rfl) (jj_le rfl) dL_law_822 rfl (fun _ _ hX => hX.elim) (fun w1 r O_351 => ?_)
      obtain ⟨rfl, rfl⟩ := O_351
      refine jj_apd rfl ?_
      refine jj_iload C dL_law_825 rfl ?_
      refine jj_icmp_eqF (tgt := 832) C dL_law_827 (by decide) (by decide) ?_
      refine jj_iconst (v := 0) C dL_law_830 (by decide) ?_
      exfalso; have z0 := jc_nlt (a := (xs 1).toInt) (b := (0)) c_54 rfl (by decide); have z1 := jc_nle (a := (1)) (b := (xs 1).toInt) c_55 (by decide) rfl; have z2 := jc_nlt (a := (xs 2).toInt) (b := (0)) c_56 rfl (by decide); have z3 := jc_le (a := (1)) (b := (xs 2).toInt) c_57 (by decide) rfl; have z4 := jc_nltL (a := (xs 1).toInt) (b := (0)) c_326 (Int32.toInt_toInt64 _) (by decide); have z5 := jc_nltL (a := (0)) (b := (xs 1).toInt) c_327 (by decide) (Int32.toInt_toInt64 _); have z6 := jc_nltL (a := (xs 2).toInt) (b := (0)) c_328 (Int32.toInt_toInt64 _) (by decide); have z7 := jc_nltL (a := (0)) (b := (xs 2).toInt) c_329 (by decide) (Int32.toInt_toInt64 _); have z8 := jc_neq (a := (xs 1).toInt) (b := (xs 2).toInt) c_330 rfl rfl; have z9 := jc_nltL (a := (xs 3).toInt) (b := (1)) c_331 (Int32.toInt_toInt64 _) (by decide); have z10 := jc_nltL (a := (99999999)) (b := (xs 3).toInt) c_332 (by decide) (Int32.toInt_toInt64 _); have z11 := jc_nltL (a := (0)) (b := ((xs 3).toInt64 + 0).toInt) c_333 (by decide) rfl; omega
  · refine jj_apd rfl ?_
    refine jj_istore C dL_law_795 (by decide) rfl ?_
    refine jj_aload_n C dL_law_797 rfl ?_
    refine jj_aload_n C dL_law_798 rfl ?_
    refine jj_iload C dL_law_799 rfl ?_
    refine jj_iconst (v := 1) C dL_law_801 (by decide) ?_
    refine jj_iadd (v := 1) C dL_law_802 (by decide) ?_
    refine jj_xld (v := xs 1) C hX hbl hbA (vp_in_iff.mpr (by decide)) rfl dL_law_803 ?_
    refine jj_aload_n C dL_law_804 rfl ?_
    refine jj_iload C dL_law_805 rfl ?_
    refine jj_iconst (v := 2) C dL_law_807 (by decide) ?_
    refine jj_iadd (v := 2) C dL_law_808 (by decide) ?_
    refine jj_xld (v := xs 2) C hX hbl hbA (vp_in_iff.mpr (by decide)) rfl dL_law_809 ?_
    refine jj_aload_n C dL_law_810 rfl ?_
    refine jj_iload C dL_law_811 rfl ?_
    refine jj_iconst (v := 3) C dL_law_813 (by decide) ?_
    refine jj_iadd (v := 3) C dL_law_814 (by decide) ?_
    refine jj_xld (v := xs 3) C hX hbl hbA (vp_in_iff.mpr (by decide)) rfl dL_law_815 ?_
    refine jq_callV (rest := []) C (ct_X11_transfer_1 hl D cA ak q_28 q_31 q_32 q_36 q_33 q_34 q_35 q_37 q_38 q_39 q_40 q_41 q_42 (xs 1) (xs 2) (xs 3)) [12, 24, 13, 17] [0, 1, 2, 3, 4, 5, 6, 7, 8, 9, 10, 11, 14, 15, 16, 18, 19, 20, 21, 22, 23, 25, 26] rfl rfl (by decide) (by decide) (by decide) 0 rfl rfl rfl jw_1128 jw_1129 jw_1130 jw_224 jw_468 jn_X11_transfer rfl (jj_le rfl) (jj_le rfl) (jj_le rfl) (jj_le rfl) (jj_le rfl) dL_law_816 rfl (fun _ _ hX => hX.elim) (fun w1 r O_353 => ?_)
    rcases O_353 with ⟨c_354, rfl, rfl⟩ | ⟨c_355, c_356, rfl, rfl⟩ | ⟨c_357, c_358, c_359, rfl, rfl⟩ | ⟨c_360, c_361, c_362, c_363, rfl, rfl⟩ | ⟨c_364, c_365, c_366, c_367, c_368, rfl, rfl⟩ | ⟨c_369, c_370, c_371, c_372, c_373, c_374, rfl, rfl⟩ | ⟨c_375, c_376, c_377, c_378, c_379, c_380, c_381, rfl, rfl⟩ | ⟨c_382, c_383, c_384, c_385, c_386, c_387, c_388, c_389, rfl, rfl⟩ | ⟨f_390, c_391, c_392, c_393, c_394, c_395, c_396, c_397, c_398, rfl, rfl⟩
    · refine jj_apd rfl ?_
      refine jj_lstore C dL_law_819 (by decide) rfl ?_
      refine jj_aload_n C dL_law_821 rfl ?_
      refine jq_callV (rest := []) C (ct_X11_thrown_2 hl D cA ak q_28 q_31 q_32 q_33 q_34 q_35 q_36 q_37 q_38 q_39 q_40 q_41 q_42) [26] [0, 1, 2, 3, 4, 5, 6, 7, 8, 9, 10, 11, 12, 13, 14, 15, 16, 17, 18, 19, 20, 21, 22, 23, 24, 25] rfl rfl (by decide) (by decide) (by decide) 0 rfl rfl rfl jw_993 jw_994 jw_995 jw_224 jw_992 jn_X11_thrown rfl (jj_le rfl) (jj_le rfl) (jj_le rfl) (jj_le rfl) (jj_le rfl) dL_law_822 rfl (fun _ _ hX => hX.elim) (fun w1 r O_400 => ?_)
      obtain ⟨rfl, rfl⟩ := O_400
      refine jj_apd rfl ?_
      refine jj_iload C dL_law_825 rfl ?_
      refine jj_icmp_eqF (tgt := 832) C dL_law_827 (by decide) (by decide) ?_
      refine jj_iconst (v := 0) C dL_law_830 (by decide) ?_
      exfalso; have z0 := jc_nlt (a := (xs 1).toInt) (b := (0)) c_58 rfl (by decide); have z1 := jc_nle (a := (1)) (b := (xs 1).toInt) c_59 (by decide) rfl; have z2 := jc_nlt (a := (xs 2).toInt) (b := (0)) c_60 rfl (by decide); have z3 := jc_nle (a := (1)) (b := (xs 2).toInt) c_61 (by decide) rfl; have z4 := jc_eq (a := (xs 1).toInt) (b := (xs 2).toInt) c_62 rfl rfl; have z5 := jc_ltL (a := (xs 1).toInt) (b := (0)) c_354 (Int32.toInt_toInt64 _) (by decide); omega
    · refine jj_apd rfl ?_
      refine jj_lstore C dL_law_819 (by decide) rfl ?_
      refine jj_aload_n C dL_law_821 rfl ?_
      refine jq_callV (rest := []) C (ct_X11_thrown_2 hl D cA ak q_28 q_31 q_32 q_33 q_34 q_35 q_36 q_37 q_38 q_39 q_40 q_41 q_42) [26] [0, 1, 2, 3, 4, 5, 6, 7, 8, 9, 10, 11, 12, 13, 14, 15, 16, 17, 18, 19, 20, 21, 22, 23, 24, 25] rfl rfl (by decide) (by decide) (by decide) 0 rfl rfl rfl jw_993 jw_994 jw_995 jw_224 jw_992 jn_X11_thrown rfl (jj_le rfl) (jj_le rfl) (jj_le rfl) (jj_le rfl) (jj_le rfl) dL_law_822 rfl (fun _ _ hX => hX.elim) (fun w1 r O_402 => ?_)
      obtain ⟨rfl, rfl⟩ := O_402
      refine jj_apd rfl ?_
      refine jj_iload C dL_law_825 rfl ?_
      refine jj_icmp_eqF (tgt := 832) C dL_law_827 (by decide) (by decide) ?_
      refine jj_iconst (v := 0) C dL_law_830 (by decide) ?_
      exfalso; have z0 := jc_nlt (a := (xs 1).toInt) (b := (0)) c_58 rfl (by decide); have z1 := jc_nle (a := (1)) (b := (xs 1).toInt) c_59 (by decide) rfl; have z2 := jc_nlt (a := (xs 2).toInt) (b := (0)) c_60 rfl (by decide); have z3 := jc_nle (a := (1)) (b := (xs 2).toInt) c_61 (by decide) rfl; have z4 := jc_eq (a := (xs 1).toInt) (b := (xs 2).toInt) c_62 rfl rfl; have z5 := jc_nltL (a := (xs 1).toInt) (b := (0)) c_355 (Int32.toInt_toInt64 _) (by decide); have z6 := jc_ltL (a := (0)) (b := (xs 1).toInt) c_356 (by decide) (Int32.toInt_toInt64 _); omega
    · refine jj_apd rfl ?_
      refine jj_lstore C dL_law_819 (by decide) rfl ?_
      refine jj_aload_n C dL_law_821 rfl ?_
      refine jq_callV (rest := []) C (ct_X11_thrown_2 hl D cA ak q_28 q_31 q_32 q_33 q_34 q_35 q_36 q_37 q_38 q_39 q_40 q_41 q_42) [26] [0, 1, 2, 3, 4, 5, 6, 7, 8, 9, 10, 11, 12, 13, 14, 15, 16, 17, 18, 19, 20, 21, 22, 23, 24, 25] rfl rfl (by decide) (by decide) (by decide) 0 rfl rfl rfl jw_993 jw_994 jw_995 jw_224 jw_992 jn_X11_thrown rfl (jj_le rfl) (jj_le rfl) (jj_le rfl) (jj_le rfl) (jj_le rfl) dL_law_822 rfl (fun _ _ hX => hX.elim) (fun w1 r O_404 => ?_)
      obtain ⟨rfl, rfl⟩ := O_404
      refine jj_apd rfl ?_
      refine jj_iload C dL_law_825 rfl ?_
      refine jj_icmp_eqF (tgt := 832) C dL_law_827 (by decide) (by decide) ?_
      refine jj_iconst (v := 0) C dL_law_830 (by decide) ?_
      exfalso; have z0 := jc_nlt (a := (xs 1).toInt) (b := (0)) c_58 rfl (by decide); have z1 := jc_nle (a := (1)) (b := (xs 1).toInt) c_59 (by decide) rfl; have z2 := jc_nlt (a := (xs 2).toInt) (b := (0)) c_60 rfl (by decide); have z3 := jc_nle (a := (1)) (b := (xs 2).toInt) c_61 (by decide) rfl; have z4 := jc_eq (a := (xs 1).toInt) (b := (xs 2).toInt) c_62 rfl rfl; have z5 := jc_nltL (a := (xs 1).toInt) (b := (0)) c_357 (Int32.toInt_toInt64 _) (by decide); have z6 := jc_nltL (a := (0)) (b := (xs 1).toInt) c_358 (by decide) (Int32.toInt_toInt64 _); have z7 := jc_ltL (a := (xs 2).toInt) (b := (0)) c_359 (Int32.toInt_toInt64 _) (by decide); omega
    · refine jj_apd rfl ?_
      refine jj_lstore C dL_law_819 (by decide) rfl ?_
      refine jj_aload_n C dL_law_821 rfl ?_
      refine jq_callV (rest := []) C (ct_X11_thrown_2 hl D cA ak q_28 q_31 q_32 q_33 q_34 q_35 q_36 q_37 q_38 q_39 q_40 q_41 q_42) [26] [0, 1, 2, 3, 4, 5, 6, 7, 8, 9, 10, 11, 12, 13, 14, 15, 16, 17, 18, 19, 20, 21, 22, 23, 24, 25] rfl rfl (by decide) (by decide) (by decide) 0 rfl rfl rfl jw_993 jw_994 jw_995 jw_224 jw_992 jn_X11_thrown rfl (jj_le rfl) (jj_le rfl) (jj_le rfl) (jj_le rfl) (jj_le rfl) dL_law_822 rfl (fun _ _ hX => hX.elim) (fun w1 r O_406 => ?_)
      obtain ⟨rfl, rfl⟩ := O_406
      refine jj_apd rfl ?_
      refine jj_iload C dL_law_825 rfl ?_
      refine jj_icmp_eqF (tgt := 832) C dL_law_827 (by decide) (by decide) ?_
      refine jj_iconst (v := 0) C dL_law_830 (by decide) ?_
      exfalso; have z0 := jc_nlt (a := (xs 1).toInt) (b := (0)) c_58 rfl (by decide); have z1 := jc_nle (a := (1)) (b := (xs 1).toInt) c_59 (by decide) rfl; have z2 := jc_nlt (a := (xs 2).toInt) (b := (0)) c_60 rfl (by decide); have z3 := jc_nle (a := (1)) (b := (xs 2).toInt) c_61 (by decide) rfl; have z4 := jc_eq (a := (xs 1).toInt) (b := (xs 2).toInt) c_62 rfl rfl; have z5 := jc_nltL (a := (xs 1).toInt) (b := (0)) c_360 (Int32.toInt_toInt64 _) (by decide); have z6 := jc_nltL (a := (0)) (b := (xs 1).toInt) c_361 (by decide) (Int32.toInt_toInt64 _); have z7 := jc_nltL (a := (xs 2).toInt) (b := (0)) c_362 (Int32.toInt_toInt64 _) (by decide); have z8 := jc_ltL (a := (0)) (b := (xs 2).toInt) c_363 (by decide) (Int32.toInt_toInt64 _); omega
    · refine jj_apd rfl ?_
      refine jj_lstore C dL_law_819 (by decide) rfl ?_
      refine jj_aload_n C dL_law_821 rfl ?_
      refine jq_callV (rest := []) C (ct_X11_thrown_4 hl D cA ak q_28 q_31 q_32 q_33 q_34 q_35 q_36 q_37 q_38 q_39 q_40 q_41 q_42) [26] [0, 1, 2, 3, 4, 5, 6, 7, 8, 9, 10, 11, 12, 13, 14, 15, 16, 17, 18, 19, 20, 21, 22, 23, 24, 25] rfl rfl (by decide) (by decide) (by decide) 0 rfl rfl rfl jw_993 jw_994 jw_995 jw_224 jw_992 jn_X11_thrown rfl (jj_le rfl) (jj_le rfl) (jj_le rfl) (jj_le rfl) (jj_le rfl) dL_law_822 rfl (fun _ _ hX => hX.elim) (fun w1 r O_408 => ?_)
      obtain ⟨rfl, rfl⟩ := O_408
      refine jj_apd rfl ?_
      refine jj_iload C dL_law_825 rfl ?_
      refine jj_icmp_eqT (tgt := 832) C dL_law_827 (by decide) (by decide) ?_
      refine jj_iload C dL_law_832 rfl ?_
      refine jj_if_neT (tgt := 848) C dL_law_834 (by decide) (by decide) ?_
      refine jj_goto (tgt := 2259) C dL_law_848 (by decide) ?_
      exact jj_loc [7, 2] rfl (jj_drop [] rfl (by decide) (jj_widen (k := 600006) (n := 7302072) (jj_le rfl) (jj_le rfl) hend))
    · refine jj_apd rfl ?_
      refine jj_lstore C dL_law_819 (by decide) rfl ?_
      refine jj_aload_n C dL_law_821 rfl ?_
      refine jq_callV (rest := []) C (ct_X11_thrown_4 hl D cA ak q_28 q_31 q_32 q_33 q_34 q_35 q_36 q_37 q_38 q_39 q_40 q_41 q_42) [26] [0, 1, 2, 3, 4, 5, 6, 7, 8, 9, 10, 11, 12, 13, 14, 15, 16, 17, 18, 19, 20, 21, 22, 23, 24, 25] rfl rfl (by decide) (by decide) (by decide) 0 rfl rfl rfl jw_993 jw_994 jw_995 jw_224 jw_992 jn_X11_thrown rfl (jj_le rfl) (jj_le rfl) (jj_le rfl) (jj_le rfl) (jj_le rfl) dL_law_822 rfl (fun _ _ hX => hX.elim) (fun w1 r O_410 => ?_)
      obtain ⟨rfl, rfl⟩ := O_410
      refine jj_apd rfl ?_
      refine jj_iload C dL_law_825 rfl ?_
      refine jj_icmp_eqT (tgt := 832) C dL_law_827 (by decide) (by decide) ?_
      refine jj_iload C dL_law_832 rfl ?_
      refine jj_if_neT (tgt := 848) C dL_law_834 (by decide) (by decide) ?_
      refine jj_goto (tgt := 2259) C dL_law_848 (by decide) ?_
      exact jj_loc [7, 2] rfl (jj_drop [] rfl (by decide) (jj_widen (k := 600006) (n := 7302072) (jj_le rfl) (jj_le rfl) hend))
    · refine jj_apd rfl ?_
      refine jj_lstore C dL_law_819 (by decide) rfl ?_
      refine jj_aload_n C dL_law_821 rfl ?_
      refine jq_callV (rest := []) C (ct_X11_thrown_4 hl D cA ak q_28 q_31 q_32 q_33 q_34 q_35 q_36 q_37 q_38 q_39 q_40 q_41 q_42) [26] [0, 1, 2, 3, 4, 5, 6, 7, 8, 9, 10, 11, 12, 13, 14, 15, 16, 17, 18, 19, 20, 21, 22, 23, 24, 25] rfl rfl (by decide) (by decide) (by decide) 0 rfl rfl rfl jw_993 jw_994 jw_995 jw_224 jw_992 jn_X11_thrown rfl (jj_le rfl) (jj_le rfl) (jj_le rfl) (jj_le rfl) (jj_le rfl) dL_law_822 rfl (fun _ _ hX => hX.elim) (fun w1 r O_412 => ?_)
      obtain ⟨rfl, rfl⟩ := O_412
      refine jj_apd rfl ?_
      refine jj_iload C dL_law_825 rfl ?_
      refine jj_icmp_eqT (tgt := 832) C dL_law_827 (by decide) (by decide) ?_
      refine jj_iload C dL_law_832 rfl ?_
      refine jj_if_neT (tgt := 848) C dL_law_834 (by decide) (by decide) ?_
      refine jj_goto (tgt := 2259) C dL_law_848 (by decide) ?_
      exact jj_loc [7, 2] rfl (jj_drop [] rfl (by decide) (jj_widen (k := 600006) (n := 7302072) (jj_le rfl) (jj_le rfl) hend))
    · refine jj_apd rfl ?_
      refine jj_lstore C dL_law_819 (by decide) rfl ?_
      refine jj_aload_n C dL_law_821 rfl ?_
      refine jq_callV (rest := []) C (ct_X11_thrown_6 hl D cA ak q_28 q_31 q_32 q_33 q_34 q_35 q_36 q_37 q_38 q_39 q_40 q_41 q_42) [26] [0, 1, 2, 3, 4, 5, 6, 7, 8, 9, 10, 11, 12, 13, 14, 15, 16, 17, 18, 19, 20, 21, 22, 23, 24, 25] rfl rfl (by decide) (by decide) (by decide) 0 rfl rfl rfl jw_993 jw_994 jw_995 jw_224 jw_992 jn_X11_thrown rfl (jj_le rfl) (jj_le rfl) (jj_le rfl) (jj_le rfl) (jj_le rfl) dL_law_822 rfl (fun _ _ hX => hX.elim) (fun w1 r O_414 => ?_)
      obtain ⟨rfl, rfl⟩ := O_414
      refine jj_apd rfl ?_
      refine jj_iload C dL_law_825 rfl ?_
      refine jj_icmp_eqF (tgt := 832) C dL_law_827 (by decide) (by decide) ?_
      refine jj_iconst (v := 0) C dL_law_830 (by decide) ?_
      exact absurd c_62 c_386
    · refine jj_apd rfl ?_
      refine jj_lstore C dL_law_819 (by decide) rfl ?_
      refine jj_aload_n C dL_law_821 rfl ?_
      refine jq_callV (rest := []) C (ct_X11_thrown_5 hl D cA ak q_28 q_31 q_32 q_33 q_34 q_35 q_36 q_37 q_38 q_39 q_40 q_41 q_42) [25] [0, 1, 2, 3, 4, 5, 6, 7, 8, 9, 10, 11, 12, 13, 14, 15, 16, 17, 18, 19, 20, 21, 22, 23, 24, 26] rfl rfl (by decide) (by decide) (by decide) 0 rfl rfl rfl jw_993 jw_994 jw_995 jw_224 jw_992 jn_X11_thrown rfl (jj_le rfl) (jj_le rfl) (jj_le rfl) (jj_le rfl) (jj_le rfl) dL_law_822 rfl (fun _ _ hX => hX.elim) (fun w1 r O_416 => ?_)
      obtain ⟨rfl, rfl⟩ := O_416
      refine jj_apd rfl ?_
      refine jj_iload C dL_law_825 rfl ?_
      refine jj_icmp_eqF (tgt := 832) C dL_law_827 (by decide) (by decide) ?_
      refine jj_iconst (v := 0) C dL_law_830 (by decide) ?_
      exact absurd c_62 c_395
  · refine jj_apd rfl ?_
    refine jj_istore C dL_law_795 (by decide) rfl ?_
    refine jj_aload_n C dL_law_797 rfl ?_
    refine jj_aload_n C dL_law_798 rfl ?_
    refine jj_iload C dL_law_799 rfl ?_
    refine jj_iconst (v := 1) C dL_law_801 (by decide) ?_
    refine jj_iadd (v := 1) C dL_law_802 (by decide) ?_
    refine jj_xld (v := xs 1) C hX hbl hbA (vp_in_iff.mpr (by decide)) rfl dL_law_803 ?_
    refine jj_aload_n C dL_law_804 rfl ?_
    refine jj_iload C dL_law_805 rfl ?_
    refine jj_iconst (v := 2) C dL_law_807 (by decide) ?_
    refine jj_iadd (v := 2) C dL_law_808 (by decide) ?_
    refine jj_xld (v := xs 2) C hX hbl hbA (vp_in_iff.mpr (by decide)) rfl dL_law_809 ?_
    refine jj_aload_n C dL_law_810 rfl ?_
    refine jj_iload C dL_law_811 rfl ?_
    refine jj_iconst (v := 3) C dL_law_813 (by decide) ?_
    refine jj_iadd (v := 3) C dL_law_814 (by decide) ?_
    refine jj_xld (v := xs 3) C hX hbl hbA (vp_in_iff.mpr (by decide)) rfl dL_law_815 ?_
    refine jq_callV (rest := []) C (ct_X11_transfer_1 hl D cA ak q_28 q_31 q_32 q_36 q_33 q_34 q_35 q_37 q_38 q_39 q_40 q_41 q_42 (xs 1) (xs 2) (xs 3)) [12, 24, 13, 17] [0, 1, 2, 3, 4, 5, 6, 7, 8, 9, 10, 11, 14, 15, 16, 18, 19, 20, 21, 22, 23, 25, 26] rfl rfl (by decide) (by decide) (by decide) 0 rfl rfl rfl jw_1128 jw_1129 jw_1130 jw_224 jw_468 jn_X11_transfer rfl (jj_le rfl) (jj_le rfl) (jj_le rfl) (jj_le rfl) (jj_le rfl) dL_law_816 rfl (fun _ _ hX => hX.elim) (fun w1 r O_418 => ?_)
    rcases O_418 with ⟨c_419, rfl, rfl⟩ | ⟨c_420, c_421, rfl, rfl⟩ | ⟨c_422, c_423, c_424, rfl, rfl⟩ | ⟨c_425, c_426, c_427, c_428, rfl, rfl⟩ | ⟨c_429, c_430, c_431, c_432, c_433, rfl, rfl⟩ | ⟨c_434, c_435, c_436, c_437, c_438, c_439, rfl, rfl⟩ | ⟨c_440, c_441, c_442, c_443, c_444, c_445, c_446, rfl, rfl⟩ | ⟨c_447, c_448, c_449, c_450, c_451, c_452, c_453, c_454, rfl, rfl⟩ | ⟨f_455, c_456, c_457, c_458, c_459, c_460, c_461, c_462, c_463, rfl, rfl⟩
    · refine jj_apd rfl ?_
      refine jj_lstore C dL_law_819 (by decide) rfl ?_
      refine jj_aload_n C dL_law_821 rfl ?_
      refine jq_callV (rest := []) C (ct_X11_thrown_2 hl D cA ak q_28 q_31 q_32 q_33 q_34 q_35 q_36 q_37 q_38 q_39 q_40 q_41 q_42) [26] [0, 1, 2, 3, 4, 5, 6, 7, 8, 9, 10, 11, 12, 13, 14, 15, 16, 17, 18, 19, 20, 21, 22, 23, 24, 25] rfl rfl (by decide) (by decide) (by decide) 0 rfl rfl rfl jw_993 jw_994 jw_995 jw_224 jw_992 jn_X11_thrown rfl (jj_le rfl) (jj_le rfl) (jj_le rfl) (jj_le rfl) (jj_le rfl) dL_law_822 rfl (fun _ _ hX => hX.elim) (fun w1 r O_465 => ?_)
      obtain ⟨rfl, rfl⟩ := O_465
      refine jj_apd rfl ?_
      refine jj_iload C dL_law_825 rfl ?_
      refine jj_icmp_eqF (tgt := 832) C dL_law_827 (by decide) (by decide) ?_
      refine jj_iconst (v := 0) C dL_law_830 (by decide) ?_
      exfalso; have z0 := jc_nlt (a := (xs 1).toInt) (b := (0)) c_63 rfl (by decide); have z1 := jc_nle (a := (1)) (b := (xs 1).toInt) c_64 (by decide) rfl; have z2 := jc_nlt (a := (xs 2).toInt) (b := (0)) c_65 rfl (by decide); have z3 := jc_nle (a := (1)) (b := (xs 2).toInt) c_66 (by decide) rfl; have z4 := jc_neq (a := (xs 1).toInt) (b := (xs 2).toInt) c_67 rfl rfl; have z5 := jc_lt (a := (xs 3).toInt) (b := (1)) c_68 rfl (by decide); have z6 := jc_ltL (a := (xs 1).toInt) (b := (0)) c_419 (Int32.toInt_toInt64 _) (by decide); omega
    · refine jj_apd rfl ?_
      refine jj_lstore C dL_law_819 (by decide) rfl ?_
      refine jj_aload_n C dL_law_821 rfl ?_
      refine jq_callV (rest := []) C (ct_X11_thrown_2 hl D cA ak q_28 q_31 q_32 q_33 q_34 q_35 q_36 q_37 q_38 q_39 q_40 q_41 q_42) [26] [0, 1, 2, 3, 4, 5, 6, 7, 8, 9, 10, 11, 12, 13, 14, 15, 16, 17, 18, 19, 20, 21, 22, 23, 24, 25] rfl rfl (by decide) (by decide) (by decide) 0 rfl rfl rfl jw_993 jw_994 jw_995 jw_224 jw_992 jn_X11_thrown rfl (jj_le rfl) (jj_le rfl) (jj_le rfl) (jj_le rfl) (jj_le rfl) dL_law_822 rfl (fun _ _ hX => hX.elim) (fun w1 r O_467 => ?_)
      obtain ⟨rfl, rfl⟩ := O_467
      refine jj_apd rfl ?_
      refine jj_iload C dL_law_825 rfl ?_
      refine jj_icmp_eqF (tgt := 832) C dL_law_827 (by decide) (by decide) ?_
      refine jj_iconst (v := 0) C dL_law_830 (by decide) ?_
      exfalso; have z0 := jc_nlt (a := (xs 1).toInt) (b := (0)) c_63 rfl (by decide); have z1 := jc_nle (a := (1)) (b := (xs 1).toInt) c_64 (by decide) rfl; have z2 := jc_nlt (a := (xs 2).toInt) (b := (0)) c_65 rfl (by decide); have z3 := jc_nle (a := (1)) (b := (xs 2).toInt) c_66 (by decide) rfl; have z4 := jc_neq (a := (xs 1).toInt) (b := (xs 2).toInt) c_67 rfl rfl; have z5 := jc_lt (a := (xs 3).toInt) (b := (1)) c_68 rfl (by decide); have z6 := jc_nltL (a := (xs 1).toInt) (b := (0)) c_420 (Int32.toInt_toInt64 _) (by decide); have z7 := jc_ltL (a := (0)) (b := (xs 1).toInt) c_421 (by decide) (Int32.toInt_toInt64 _); omega
    · refine jj_apd rfl ?_
      refine jj_lstore C dL_law_819 (by decide) rfl ?_
      refine jj_aload_n C dL_law_821 rfl ?_
      refine jq_callV (rest := []) C (ct_X11_thrown_2 hl D cA ak q_28 q_31 q_32 q_33 q_34 q_35 q_36 q_37 q_38 q_39 q_40 q_41 q_42) [26] [0, 1, 2, 3, 4, 5, 6, 7, 8, 9, 10, 11, 12, 13, 14, 15, 16, 17, 18, 19, 20, 21, 22, 23, 24, 25] rfl rfl (by decide) (by decide) (by decide) 0 rfl rfl rfl jw_993 jw_994 jw_995 jw_224 jw_992 jn_X11_thrown rfl (jj_le rfl) (jj_le rfl) (jj_le rfl) (jj_le rfl) (jj_le rfl) dL_law_822 rfl (fun _ _ hX => hX.elim) (fun w1 r O_469 => ?_)
      obtain ⟨rfl, rfl⟩ := O_469
      refine jj_apd rfl ?_
      refine jj_iload C dL_law_825 rfl ?_
      refine jj_icmp_eqF (tgt := 832) C dL_law_827 (by decide) (by decide) ?_
      refine jj_iconst (v := 0) C dL_law_830 (by decide) ?_
      exfalso; have z0 := jc_nlt (a := (xs 1).toInt) (b := (0)) c_63 rfl (by decide); have z1 := jc_nle (a := (1)) (b := (xs 1).toInt) c_64 (by decide) rfl; have z2 := jc_nlt (a := (xs 2).toInt) (b := (0)) c_65 rfl (by decide); have z3 := jc_nle (a := (1)) (b := (xs 2).toInt) c_66 (by decide) rfl; have z4 := jc_neq (a := (xs 1).toInt) (b := (xs 2).toInt) c_67 rfl rfl; have z5 := jc_lt (a := (xs 3).toInt) (b := (1)) c_68 rfl (by decide); have z6 := jc_nltL (a := (xs 1).toInt) (b := (0)) c_422 (Int32.toInt_toInt64 _) (by decide); have z7 := jc_nltL (a := (0)) (b := (xs 1).toInt) c_423 (by decide) (Int32.toInt_toInt64 _); have z8 := jc_ltL (a := (xs 2).toInt) (b := (0)) c_424 (Int32.toInt_toInt64 _) (by decide); omega
    · refine jj_apd rfl ?_
      refine jj_lstore C dL_law_819 (by decide) rfl ?_
      refine jj_aload_n C dL_law_821 rfl ?_
      refine jq_callV (rest := []) C (ct_X11_thrown_2 hl D cA ak q_28 q_31 q_32 q_33 q_34 q_35 q_36 q_37 q_38 q_39 q_40 q_41 q_42) [26] [0, 1, 2, 3, 4, 5, 6, 7, 8, 9, 10, 11, 12, 13, 14, 15, 16, 17, 18, 19, 20, 21, 22, 23, 24, 25] rfl rfl (by decide) (by decide) (by decide) 0 rfl rfl rfl jw_993 jw_994 jw_995 jw_224 jw_992 jn_X11_thrown rfl (jj_le rfl) (jj_le rfl) (jj_le rfl) (jj_le rfl) (jj_le rfl) dL_law_822 rfl (fun _ _ hX => hX.elim) (fun w1 r O_471 => ?_)
      obtain ⟨rfl, rfl⟩ := O_471
      refine jj_apd rfl ?_
      refine jj_iload C dL_law_825 rfl ?_
      refine jj_icmp_eqF (tgt := 832) C dL_law_827 (by decide) (by decide) ?_
      refine jj_iconst (v := 0) C dL_law_830 (by decide) ?_
      exfalso; have z0 := jc_nlt (a := (xs 1).toInt) (b := (0)) c_63 rfl (by decide); have z1 := jc_nle (a := (1)) (b := (xs 1).toInt) c_64 (by decide) rfl; have z2 := jc_nlt (a := (xs 2).toInt) (b := (0)) c_65 rfl (by decide); have z3 := jc_nle (a := (1)) (b := (xs 2).toInt) c_66 (by decide) rfl; have z4 := jc_neq (a := (xs 1).toInt) (b := (xs 2).toInt) c_67 rfl rfl; have z5 := jc_lt (a := (xs 3).toInt) (b := (1)) c_68 rfl (by decide); have z6 := jc_nltL (a := (xs 1).toInt) (b := (0)) c_425 (Int32.toInt_toInt64 _) (by decide); have z7 := jc_nltL (a := (0)) (b := (xs 1).toInt) c_426 (by decide) (Int32.toInt_toInt64 _); have z8 := jc_nltL (a := (xs 2).toInt) (b := (0)) c_427 (Int32.toInt_toInt64 _) (by decide); have z9 := jc_ltL (a := (0)) (b := (xs 2).toInt) c_428 (by decide) (Int32.toInt_toInt64 _); omega
    · refine jj_apd rfl ?_
      refine jj_lstore C dL_law_819 (by decide) rfl ?_
      refine jj_aload_n C dL_law_821 rfl ?_
      refine jq_callV (rest := []) C (ct_X11_thrown_4 hl D cA ak q_28 q_31 q_32 q_33 q_34 q_35 q_36 q_37 q_38 q_39 q_40 q_41 q_42) [26] [0, 1, 2, 3, 4, 5, 6, 7, 8, 9, 10, 11, 12, 13, 14, 15, 16, 17, 18, 19, 20, 21, 22, 23, 24, 25] rfl rfl (by decide) (by decide) (by decide) 0 rfl rfl rfl jw_993 jw_994 jw_995 jw_224 jw_992 jn_X11_thrown rfl (jj_le rfl) (jj_le rfl) (jj_le rfl) (jj_le rfl) (jj_le rfl) dL_law_822 rfl (fun _ _ hX => hX.elim) (fun w1 r O_473 => ?_)
      obtain ⟨rfl, rfl⟩ := O_473
      refine jj_apd rfl ?_
      refine jj_iload C dL_law_825 rfl ?_
      refine jj_icmp_eqT (tgt := 832) C dL_law_827 (by decide) (by decide) ?_
      refine jj_iload C dL_law_832 rfl ?_
      refine jj_if_neT (tgt := 848) C dL_law_834 (by decide) (by decide) ?_
      refine jj_goto (tgt := 2259) C dL_law_848 (by decide) ?_
      exact jj_loc [7, 2] rfl (jj_drop [] rfl (by decide) (jj_widen (k := 600006) (n := 7302072) (jj_le rfl) (jj_le rfl) hend))
    · refine jj_apd rfl ?_
      refine jj_lstore C dL_law_819 (by decide) rfl ?_
      refine jj_aload_n C dL_law_821 rfl ?_
      refine jq_callV (rest := []) C (ct_X11_thrown_4 hl D cA ak q_28 q_31 q_32 q_33 q_34 q_35 q_36 q_37 q_38 q_39 q_40 q_41 q_42) [26] [0, 1, 2, 3, 4, 5, 6, 7, 8, 9, 10, 11, 12, 13, 14, 15, 16, 17, 18, 19, 20, 21, 22, 23, 24, 25] rfl rfl (by decide) (by decide) (by decide) 0 rfl rfl rfl jw_993 jw_994 jw_995 jw_224 jw_992 jn_X11_thrown rfl (jj_le rfl) (jj_le rfl) (jj_le rfl) (jj_le rfl) (jj_le rfl) dL_law_822 rfl (fun _ _ hX => hX.elim) (fun w1 r O_475 => ?_)
      obtain ⟨rfl, rfl⟩ := O_475
      refine jj_apd rfl ?_
      refine jj_iload C dL_law_825 rfl ?_
      refine jj_icmp_eqT (tgt := 832) C dL_law_827 (by decide) (by decide) ?_
      refine jj_iload C dL_law_832 rfl ?_
      refine jj_if_neT (tgt := 848) C dL_law_834 (by decide) (by decide) ?_
      refine jj_goto (tgt := 2259) C dL_law_848 (by decide) ?_
      exact jj_loc [7, 2] rfl (jj_drop [] rfl (by decide) (jj_widen (k := 600006) (n := 7302072) (jj_le rfl) (jj_le rfl) hend))
    · refine jj_apd rfl ?_
      refine jj_lstore C dL_law_819 (by decide) rfl ?_
      refine jj_aload_n C dL_law_821 rfl ?_
      refine jq_callV (rest := []) C (ct_X11_thrown_4 hl D cA ak q_28 q_31 q_32 q_33 q_34 q_35 q_36 q_37 q_38 q_39 q_40 q_41 q_42) [26] [0, 1, 2, 3, 4, 5, 6, 7, 8, 9, 10, 11, 12, 13, 14, 15, 16, 17, 18, 19, 20, 21, 22, 23, 24, 25] rfl rfl (by decide) (by decide) (by decide) 0 rfl rfl rfl jw_993 jw_994 jw_995 jw_224 jw_992 jn_X11_thrown rfl (jj_le rfl) (jj_le rfl) (jj_le rfl) (jj_le rfl) (jj_le rfl) dL_law_822 rfl (fun _ _ hX => hX.elim) (fun w1 r O_477 => ?_)
      obtain ⟨rfl, rfl⟩ := O_477
      refine jj_apd rfl ?_
      refine jj_iload C dL_law_825 rfl ?_
      refine jj_icmp_eqT (tgt := 832) C dL_law_827 (by decide) (by decide) ?_
      refine jj_iload C dL_law_832 rfl ?_
      refine jj_if_neT (tgt := 848) C dL_law_834 (by decide) (by decide) ?_
      refine jj_goto (tgt := 2259) C dL_law_848 (by decide) ?_
      exact jj_loc [7, 2] rfl (jj_drop [] rfl (by decide) (jj_widen (k := 600006) (n := 7302072) (jj_le rfl) (jj_le rfl) hend))
    · refine jj_apd rfl ?_
      refine jj_lstore C dL_law_819 (by decide) rfl ?_
      refine jj_aload_n C dL_law_821 rfl ?_
      refine jq_callV (rest := []) C (ct_X11_thrown_6 hl D cA ak q_28 q_31 q_32 q_33 q_34 q_35 q_36 q_37 q_38 q_39 q_40 q_41 q_42) [26] [0, 1, 2, 3, 4, 5, 6, 7, 8, 9, 10, 11, 12, 13, 14, 15, 16, 17, 18, 19, 20, 21, 22, 23, 24, 25] rfl rfl (by decide) (by decide) (by decide) 0 rfl rfl rfl jw_993 jw_994 jw_995 jw_224 jw_992 jn_X11_thrown rfl (jj_le rfl) (jj_le rfl) (jj_le rfl) (jj_le rfl) (jj_le rfl) dL_law_822 rfl (fun _ _ hX => hX.elim) (fun w1 r O_479 => ?_)
      obtain ⟨rfl, rfl⟩ := O_479
      refine jj_apd rfl ?_
      refine jj_iload C dL_law_825 rfl ?_
      refine jj_icmp_eqF (tgt := 832) C dL_law_827 (by decide) (by decide) ?_
      refine jj_iconst (v := 0) C dL_law_830 (by decide) ?_
      exfalso; have z0 := jc_nlt (a := (xs 1).toInt) (b := (0)) c_63 rfl (by decide); have z1 := jc_nle (a := (1)) (b := (xs 1).toInt) c_64 (by decide) rfl; have z2 := jc_nlt (a := (xs 2).toInt) (b := (0)) c_65 rfl (by decide); have z3 := jc_nle (a := (1)) (b := (xs 2).toInt) c_66 (by decide) rfl; have z4 := jc_neq (a := (xs 1).toInt) (b := (xs 2).toInt) c_67 rfl rfl; have z5 := jc_lt (a := (xs 3).toInt) (b := (1)) c_68 rfl (by decide); have z6 := jc_nltL (a := (xs 1).toInt) (b := (0)) c_447 (Int32.toInt_toInt64 _) (by decide); have z7 := jc_nltL (a := (0)) (b := (xs 1).toInt) c_448 (by decide) (Int32.toInt_toInt64 _); have z8 := jc_nltL (a := (xs 2).toInt) (b := (0)) c_449 (Int32.toInt_toInt64 _) (by decide); have z9 := jc_nltL (a := (0)) (b := (xs 2).toInt) c_450 (by decide) (Int32.toInt_toInt64 _); have z10 := jc_neq (a := (xs 1).toInt) (b := (xs 2).toInt) c_451 rfl rfl; have z11 := jc_nltL (a := (xs 3).toInt) (b := (1)) c_452 (Int32.toInt_toInt64 _) (by decide); have z12 := jc_nltL (a := (99999999)) (b := (xs 3).toInt) c_453 (by decide) (Int32.toInt_toInt64 _); have z13 := jc_ltL (a := (0)) (b := ((xs 3).toInt64 + 0).toInt) c_454 (by decide) rfl; omega
    · refine jj_apd rfl ?_
      refine jj_lstore C dL_law_819 (by decide) rfl ?_
      refine jj_aload_n C dL_law_821 rfl ?_
      refine jq_callV (rest := []) C (ct_X11_thrown_5 hl D cA ak q_28 q_31 q_32 q_33 q_34 q_35 q_36 q_37 q_38 q_39 q_40 q_41 q_42) [25] [0, 1, 2, 3, 4, 5, 6, 7, 8, 9, 10, 11, 12, 13, 14, 15, 16, 17, 18, 19, 20, 21, 22, 23, 24, 26] rfl rfl (by decide) (by decide) (by decide) 0 rfl rfl rfl jw_993 jw_994 jw_995 jw_224 jw_992 jn_X11_thrown rfl (jj_le rfl) (jj_le rfl) (jj_le rfl) (jj_le rfl) (jj_le rfl) dL_law_822 rfl (fun _ _ hX => hX.elim) (fun w1 r O_481 => ?_)
      obtain ⟨rfl, rfl⟩ := O_481
      refine jj_apd rfl ?_
      refine jj_iload C dL_law_825 rfl ?_
      refine jj_icmp_eqF (tgt := 832) C dL_law_827 (by decide) (by decide) ?_
      refine jj_iconst (v := 0) C dL_law_830 (by decide) ?_
      exfalso; have z0 := jc_nlt (a := (xs 1).toInt) (b := (0)) c_63 rfl (by decide); have z1 := jc_nle (a := (1)) (b := (xs 1).toInt) c_64 (by decide) rfl; have z2 := jc_nlt (a := (xs 2).toInt) (b := (0)) c_65 rfl (by decide); have z3 := jc_nle (a := (1)) (b := (xs 2).toInt) c_66 (by decide) rfl; have z4 := jc_neq (a := (xs 1).toInt) (b := (xs 2).toInt) c_67 rfl rfl; have z5 := jc_lt (a := (xs 3).toInt) (b := (1)) c_68 rfl (by decide); have z6 := jc_nltL (a := (xs 1).toInt) (b := (0)) c_456 (Int32.toInt_toInt64 _) (by decide); have z7 := jc_nltL (a := (0)) (b := (xs 1).toInt) c_457 (by decide) (Int32.toInt_toInt64 _); have z8 := jc_nltL (a := (xs 2).toInt) (b := (0)) c_458 (Int32.toInt_toInt64 _) (by decide); have z9 := jc_nltL (a := (0)) (b := (xs 2).toInt) c_459 (by decide) (Int32.toInt_toInt64 _); have z10 := jc_neq (a := (xs 1).toInt) (b := (xs 2).toInt) c_460 rfl rfl; have z11 := jc_nltL (a := (xs 3).toInt) (b := (1)) c_461 (Int32.toInt_toInt64 _) (by decide); have z12 := jc_nltL (a := (99999999)) (b := (xs 3).toInt) c_462 (by decide) (Int32.toInt_toInt64 _); have z13 := jc_nltL (a := (0)) (b := ((xs 3).toInt64 + 0).toInt) c_463 (by decide) rfl; omega
  · refine jj_apd rfl ?_
    refine jj_istore C dL_law_795 (by decide) rfl ?_
    refine jj_aload_n C dL_law_797 rfl ?_
    refine jj_aload_n C dL_law_798 rfl ?_
    refine jj_iload C dL_law_799 rfl ?_
    refine jj_iconst (v := 1) C dL_law_801 (by decide) ?_
    refine jj_iadd (v := 1) C dL_law_802 (by decide) ?_
    refine jj_xld (v := xs 1) C hX hbl hbA (vp_in_iff.mpr (by decide)) rfl dL_law_803 ?_
    refine jj_aload_n C dL_law_804 rfl ?_
    refine jj_iload C dL_law_805 rfl ?_
    refine jj_iconst (v := 2) C dL_law_807 (by decide) ?_
    refine jj_iadd (v := 2) C dL_law_808 (by decide) ?_
    refine jj_xld (v := xs 2) C hX hbl hbA (vp_in_iff.mpr (by decide)) rfl dL_law_809 ?_
    refine jj_aload_n C dL_law_810 rfl ?_
    refine jj_iload C dL_law_811 rfl ?_
    refine jj_iconst (v := 3) C dL_law_813 (by decide) ?_
    refine jj_iadd (v := 3) C dL_law_814 (by decide) ?_
    refine jj_xld (v := xs 3) C hX hbl hbA (vp_in_iff.mpr (by decide)) rfl dL_law_815 ?_
    refine jq_callV (rest := []) C (ct_X11_transfer_1 hl D cA ak q_28 q_31 q_32 q_36 q_33 q_34 q_35 q_37 q_38 q_39 q_40 q_41 q_42 (xs 1) (xs 2) (xs 3)) [12, 24, 13, 17] [0, 1, 2, 3, 4, 5, 6, 7, 8, 9, 10, 11, 14, 15, 16, 18, 19, 20, 21, 22, 23, 25, 26] rfl rfl (by decide) (by decide) (by decide) 0 rfl rfl rfl jw_1128 jw_1129 jw_1130 jw_224 jw_468 jn_X11_transfer rfl (jj_le rfl) (jj_le rfl) (jj_le rfl) (jj_le rfl) (jj_le rfl) dL_law_816 rfl (fun _ _ hX => hX.elim) (fun w1 r O_483 => ?_)
    rcases O_483 with ⟨c_484, rfl, rfl⟩ | ⟨c_485, c_486, rfl, rfl⟩ | ⟨c_487, c_488, c_489, rfl, rfl⟩ | ⟨c_490, c_491, c_492, c_493, rfl, rfl⟩ | ⟨c_494, c_495, c_496, c_497, c_498, rfl, rfl⟩ | ⟨c_499, c_500, c_501, c_502, c_503, c_504, rfl, rfl⟩ | ⟨c_505, c_506, c_507, c_508, c_509, c_510, c_511, rfl, rfl⟩ | ⟨c_512, c_513, c_514, c_515, c_516, c_517, c_518, c_519, rfl, rfl⟩ | ⟨f_520, c_521, c_522, c_523, c_524, c_525, c_526, c_527, c_528, rfl, rfl⟩
    · refine jj_apd rfl ?_
      refine jj_lstore C dL_law_819 (by decide) rfl ?_
      refine jj_aload_n C dL_law_821 rfl ?_
      refine jq_callV (rest := []) C (ct_X11_thrown_2 hl D cA ak q_28 q_31 q_32 q_33 q_34 q_35 q_36 q_37 q_38 q_39 q_40 q_41 q_42) [26] [0, 1, 2, 3, 4, 5, 6, 7, 8, 9, 10, 11, 12, 13, 14, 15, 16, 17, 18, 19, 20, 21, 22, 23, 24, 25] rfl rfl (by decide) (by decide) (by decide) 0 rfl rfl rfl jw_993 jw_994 jw_995 jw_224 jw_992 jn_X11_thrown rfl (jj_le rfl) (jj_le rfl) (jj_le rfl) (jj_le rfl) (jj_le rfl) dL_law_822 rfl (fun _ _ hX => hX.elim) (fun w1 r O_530 => ?_)
      obtain ⟨rfl, rfl⟩ := O_530
      refine jj_apd rfl ?_
      refine jj_iload C dL_law_825 rfl ?_
      refine jj_icmp_eqF (tgt := 832) C dL_law_827 (by decide) (by decide) ?_
      refine jj_iconst (v := 0) C dL_law_830 (by decide) ?_
      exfalso; have z0 := jc_nlt (a := (xs 1).toInt) (b := (0)) c_69 rfl (by decide); have z1 := jc_nle (a := (1)) (b := (xs 1).toInt) c_70 (by decide) rfl; have z2 := jc_nlt (a := (xs 2).toInt) (b := (0)) c_71 rfl (by decide); have z3 := jc_nle (a := (1)) (b := (xs 2).toInt) c_72 (by decide) rfl; have z4 := jc_neq (a := (xs 1).toInt) (b := (xs 2).toInt) c_73 rfl rfl; have z5 := jc_nlt (a := (xs 3).toInt) (b := (1)) c_74 rfl (by decide); have z6 := jc_le (a := (xs 3).toInt) (b := (99999999)) c_75 rfl (by decide); have z7 := jc_nleL (a := ((xs 3).toInt64 + 0).toInt) (b := (0)) c_76 rfl (by decide); have z8 := jc_ltL (a := (xs 1).toInt) (b := (0)) c_484 (Int32.toInt_toInt64 _) (by decide); omega
    · refine jj_apd rfl ?_
      refine jj_lstore C dL_law_819 (by decide) rfl ?_
      refine jj_aload_n C dL_law_821 rfl ?_
      refine jq_callV (rest := []) C (ct_X11_thrown_2 hl D cA ak q_28 q_31 q_32 q_33 q_34 q_35 q_36 q_37 q_38 q_39 q_40 q_41 q_42) [26] [0, 1, 2, 3, 4, 5, 6, 7, 8, 9, 10, 11, 12, 13, 14, 15, 16, 17, 18, 19, 20, 21, 22, 23, 24, 25] rfl rfl (by decide) (by decide) (by decide) 0 rfl rfl rfl jw_993 jw_994 jw_995 jw_224 jw_992 jn_X11_thrown rfl (jj_le rfl) (jj_le rfl) (jj_le rfl) (jj_le rfl) (jj_le rfl) dL_law_822 rfl (fun _ _ hX => hX.elim) (fun w1 r O_532 => ?_)
      obtain ⟨rfl, rfl⟩ := O_532
      refine jj_apd rfl ?_
      refine jj_iload C dL_law_825 rfl ?_
      refine jj_icmp_eqF (tgt := 832) C dL_law_827 (by decide) (by decide) ?_
      refine jj_iconst (v := 0) C dL_law_830 (by decide) ?_
      exfalso; have z0 := jc_nlt (a := (xs 1).toInt) (b := (0)) c_69 rfl (by decide); have z1 := jc_nle (a := (1)) (b := (xs 1).toInt) c_70 (by decide) rfl; have z2 := jc_nlt (a := (xs 2).toInt) (b := (0)) c_71 rfl (by decide); have z3 := jc_nle (a := (1)) (b := (xs 2).toInt) c_72 (by decide) rfl; have z4 := jc_neq (a := (xs 1).toInt) (b := (xs 2).toInt) c_73 rfl rfl; have z5 := jc_nlt (a := (xs 3).toInt) (b := (1)) c_74 rfl (by decide); have z6 := jc_le (a := (xs 3).toInt) (b := (99999999)) c_75 rfl (by decide); have z7 := jc_nleL (a := ((xs 3).toInt64 + 0).toInt) (b := (0)) c_76 rfl (by decide); have z8 := jc_nltL (a := (xs 1).toInt) (b := (0)) c_485 (Int32.toInt_toInt64 _) (by decide); have z9 := jc_ltL (a := (0)) (b := (xs 1).toInt) c_486 (by decide) (Int32.toInt_toInt64 _); omega
    · refine jj_apd rfl ?_
      refine jj_lstore C dL_law_819 (by decide) rfl ?_
      refine jj_aload_n C dL_law_821 rfl ?_
      refine jq_callV (rest := []) C (ct_X11_thrown_2 hl D cA ak q_28 q_31 q_32 q_33 q_34 q_35 q_36 q_37 q_38 q_39 q_40 q_41 q_42) [26] [0, 1, 2, 3, 4, 5, 6, 7, 8, 9, 10, 11, 12, 13, 14, 15, 16, 17, 18, 19, 20, 21, 22, 23, 24, 25] rfl rfl (by decide) (by decide) (by decide) 0 rfl rfl rfl jw_993 jw_994 jw_995 jw_224 jw_992 jn_X11_thrown rfl (jj_le rfl) (jj_le rfl) (jj_le rfl) (jj_le rfl) (jj_le rfl) dL_law_822 rfl (fun _ _ hX => hX.elim) (fun w1 r O_534 => ?_)
      obtain ⟨rfl, rfl⟩ := O_534
      refine jj_apd rfl ?_
      refine jj_iload C dL_law_825 rfl ?_
      refine jj_icmp_eqF (tgt := 832) C dL_law_827 (by decide) (by decide) ?_
      refine jj_iconst (v := 0) C dL_law_830 (by decide) ?_
      exfalso; have z0 := jc_nlt (a := (xs 1).toInt) (b := (0)) c_69 rfl (by decide); have z1 := jc_nle (a := (1)) (b := (xs 1).toInt) c_70 (by decide) rfl; have z2 := jc_nlt (a := (xs 2).toInt) (b := (0)) c_71 rfl (by decide); have z3 := jc_nle (a := (1)) (b := (xs 2).toInt) c_72 (by decide) rfl; have z4 := jc_neq (a := (xs 1).toInt) (b := (xs 2).toInt) c_73 rfl rfl; have z5 := jc_nlt (a := (xs 3).toInt) (b := (1)) c_74 rfl (by decide); have z6 := jc_le (a := (xs 3).toInt) (b := (99999999)) c_75 rfl (by decide); have z7 := jc_nleL (a := ((xs 3).toInt64 + 0).toInt) (b := (0)) c_76 rfl (by decide); have z8 := jc_nltL (a := (xs 1).toInt) (b := (0)) c_487 (Int32.toInt_toInt64 _) (by decide); have z9 := jc_nltL (a := (0)) (b := (xs 1).toInt) c_488 (by decide) (Int32.toInt_toInt64 _); have z10 := jc_ltL (a := (xs 2).toInt) (b := (0)) c_489 (Int32.toInt_toInt64 _) (by decide); omega
    · refine jj_apd rfl ?_
      refine jj_lstore C dL_law_819 (by decide) rfl ?_
      refine jj_aload_n C dL_law_821 rfl ?_
      refine jq_callV (rest := []) C (ct_X11_thrown_2 hl D cA ak q_28 q_31 q_32 q_33 q_34 q_35 q_36 q_37 q_38 q_39 q_40 q_41 q_42) [26] [0, 1, 2, 3, 4, 5, 6, 7, 8, 9, 10, 11, 12, 13, 14, 15, 16, 17, 18, 19, 20, 21, 22, 23, 24, 25] rfl rfl (by decide) (by decide) (by decide) 0 rfl rfl rfl jw_993 jw_994 jw_995 jw_224 jw_992 jn_X11_thrown rfl (jj_le rfl) (jj_le rfl) (jj_le rfl) (jj_le rfl) (jj_le rfl) dL_law_822 rfl (fun _ _ hX => hX.elim) (fun w1 r O_536 => ?_)
      obtain ⟨rfl, rfl⟩ := O_536
      refine jj_apd rfl ?_
      refine jj_iload C dL_law_825 rfl ?_
      refine jj_icmp_eqF (tgt := 832) C dL_law_827 (by decide) (by decide) ?_
      refine jj_iconst (v := 0) C dL_law_830 (by decide) ?_
      exfalso; have z0 := jc_nlt (a := (xs 1).toInt) (b := (0)) c_69 rfl (by decide); have z1 := jc_nle (a := (1)) (b := (xs 1).toInt) c_70 (by decide) rfl; have z2 := jc_nlt (a := (xs 2).toInt) (b := (0)) c_71 rfl (by decide); have z3 := jc_nle (a := (1)) (b := (xs 2).toInt) c_72 (by decide) rfl; have z4 := jc_neq (a := (xs 1).toInt) (b := (xs 2).toInt) c_73 rfl rfl; have z5 := jc_nlt (a := (xs 3).toInt) (b := (1)) c_74 rfl (by decide); have z6 := jc_le (a := (xs 3).toInt) (b := (99999999)) c_75 rfl (by decide); have z7 := jc_nleL (a := ((xs 3).toInt64 + 0).toInt) (b := (0)) c_76 rfl (by decide); have z8 := jc_nltL (a := (xs 1).toInt) (b := (0)) c_490 (Int32.toInt_toInt64 _) (by decide); have z9 := jc_nltL (a := (0)) (b := (xs 1).toInt) c_491 (by decide) (Int32.toInt_toInt64 _); have z10 := jc_nltL (a := (xs 2).toInt) (b := (0)) c_492 (Int32.toInt_toInt64 _) (by decide); have z11 := jc_ltL (a := (0)) (b := (xs 2).toInt) c_493 (by decide) (Int32.toInt_toInt64 _); omega
    · refine jj_apd rfl ?_
      refine jj_lstore C dL_law_819 (by decide) rfl ?_
      refine jj_aload_n C dL_law_821 rfl ?_
      refine jq_callV (rest := []) C (ct_X11_thrown_4 hl D cA ak q_28 q_31 q_32 q_33 q_34 q_35 q_36 q_37 q_38 q_39 q_40 q_41 q_42) [26] [0, 1, 2, 3, 4, 5, 6, 7, 8, 9, 10, 11, 12, 13, 14, 15, 16, 17, 18, 19, 20, 21, 22, 23, 24, 25] rfl rfl (by decide) (by decide) (by decide) 0 rfl rfl rfl jw_993 jw_994 jw_995 jw_224 jw_992 jn_X11_thrown rfl (jj_le rfl) (jj_le rfl) (jj_le rfl) (jj_le rfl) (jj_le rfl) dL_law_822 rfl (fun _ _ hX => hX.elim) (fun w1 r O_538 => ?_)
      obtain ⟨rfl, rfl⟩ := O_538
      refine jj_apd rfl ?_
      refine jj_iload C dL_law_825 rfl ?_
      refine jj_icmp_eqF (tgt := 832) C dL_law_827 (by decide) (by decide) ?_
      refine jj_iconst (v := 0) C dL_law_830 (by decide) ?_
      exact absurd c_498 c_73
    · refine jj_apd rfl ?_
      refine jj_lstore C dL_law_819 (by decide) rfl ?_
      refine jj_aload_n C dL_law_821 rfl ?_
      refine jq_callV (rest := []) C (ct_X11_thrown_4 hl D cA ak q_28 q_31 q_32 q_33 q_34 q_35 q_36 q_37 q_38 q_39 q_40 q_41 q_42) [26] [0, 1, 2, 3, 4, 5, 6, 7, 8, 9, 10, 11, 12, 13, 14, 15, 16, 17, 18, 19, 20, 21, 22, 23, 24, 25] rfl rfl (by decide) (by decide) (by decide) 0 rfl rfl rfl jw_993 jw_994 jw_995 jw_224 jw_992 jn_X11_thrown rfl (jj_le rfl) (jj_le rfl) (jj_le rfl) (jj_le rfl) (jj_le rfl) dL_law_822 rfl (fun _ _ hX => hX.elim) (fun w1 r O_540 => ?_)
      obtain ⟨rfl, rfl⟩ := O_540
      refine jj_apd rfl ?_
      refine jj_iload C dL_law_825 rfl ?_
      refine jj_icmp_eqF (tgt := 832) C dL_law_827 (by decide) (by decide) ?_
      refine jj_iconst (v := 0) C dL_law_830 (by decide) ?_
      exfalso; have z0 := jc_nlt (a := (xs 1).toInt) (b := (0)) c_69 rfl (by decide); have z1 := jc_nle (a := (1)) (b := (xs 1).toInt) c_70 (by decide) rfl; have z2 := jc_nlt (a := (xs 2).toInt) (b := (0)) c_71 rfl (by decide); have z3 := jc_nle (a := (1)) (b := (xs 2).toInt) c_72 (by decide) rfl; have z4 := jc_neq (a := (xs 1).toInt) (b := (xs 2).toInt) c_73 rfl rfl; have z5 := jc_nlt (a := (xs 3).toInt) (b := (1)) c_74 rfl (by decide); have z6 := jc_le (a := (xs 3).toInt) (b := (99999999)) c_75 rfl (by decide); have z7 := jc_nleL (a := ((xs 3).toInt64 + 0).toInt) (b := (0)) c_76 rfl (by decide); have z8 := jc_nltL (a := (xs 1).toInt) (b := (0)) c_499 (Int32.toInt_toInt64 _) (by decide); have z9 := jc_nltL (a := (0)) (b := (xs 1).toInt) c_500 (by decide) (Int32.toInt_toInt64 _); have z10 := jc_nltL (a := (xs 2).toInt) (b := (0)) c_501 (Int32.toInt_toInt64 _) (by decide); have z11 := jc_nltL (a := (0)) (b := (xs 2).toInt) c_502 (by decide) (Int32.toInt_toInt64 _); have z12 := jc_neq (a := (xs 1).toInt) (b := (xs 2).toInt) c_503 rfl rfl; have z13 := jc_ltL (a := (xs 3).toInt) (b := (1)) c_504 (Int32.toInt_toInt64 _) (by decide); omega
    · refine jj_apd rfl ?_
      refine jj_lstore C dL_law_819 (by decide) rfl ?_
      refine jj_aload_n C dL_law_821 rfl ?_
      refine jq_callV (rest := []) C (ct_X11_thrown_4 hl D cA ak q_28 q_31 q_32 q_33 q_34 q_35 q_36 q_37 q_38 q_39 q_40 q_41 q_42) [26] [0, 1, 2, 3, 4, 5, 6, 7, 8, 9, 10, 11, 12, 13, 14, 15, 16, 17, 18, 19, 20, 21, 22, 23, 24, 25] rfl rfl (by decide) (by decide) (by decide) 0 rfl rfl rfl jw_993 jw_994 jw_995 jw_224 jw_992 jn_X11_thrown rfl (jj_le rfl) (jj_le rfl) (jj_le rfl) (jj_le rfl) (jj_le rfl) dL_law_822 rfl (fun _ _ hX => hX.elim) (fun w1 r O_542 => ?_)
      obtain ⟨rfl, rfl⟩ := O_542
      refine jj_apd rfl ?_
      refine jj_iload C dL_law_825 rfl ?_
      refine jj_icmp_eqF (tgt := 832) C dL_law_827 (by decide) (by decide) ?_
      refine jj_iconst (v := 0) C dL_law_830 (by decide) ?_
      exfalso; have z0 := jc_nlt (a := (xs 1).toInt) (b := (0)) c_69 rfl (by decide); have z1 := jc_nle (a := (1)) (b := (xs 1).toInt) c_70 (by decide) rfl; have z2 := jc_nlt (a := (xs 2).toInt) (b := (0)) c_71 rfl (by decide); have z3 := jc_nle (a := (1)) (b := (xs 2).toInt) c_72 (by decide) rfl; have z4 := jc_neq (a := (xs 1).toInt) (b := (xs 2).toInt) c_73 rfl rfl; have z5 := jc_nlt (a := (xs 3).toInt) (b := (1)) c_74 rfl (by decide); have z6 := jc_le (a := (xs 3).toInt) (b := (99999999)) c_75 rfl (by decide); have z7 := jc_nleL (a := ((xs 3).toInt64 + 0).toInt) (b := (0)) c_76 rfl (by decide); have z8 := jc_nltL (a := (xs 1).toInt) (b := (0)) c_505 (Int32.toInt_toInt64 _) (by decide); have z9 := jc_nltL (a := (0)) (b := (xs 1).toInt) c_506 (by decide) (Int32.toInt_toInt64 _); have z10 := jc_nltL (a := (xs 2).toInt) (b := (0)) c_507 (Int32.toInt_toInt64 _) (by decide); have z11 := jc_nltL (a := (0)) (b := (xs 2).toInt) c_508 (by decide) (Int32.toInt_toInt64 _); have z12 := jc_neq (a := (xs 1).toInt) (b := (xs 2).toInt) c_509 rfl rfl; have z13 := jc_nltL (a := (xs 3).toInt) (b := (1)) c_510 (Int32.toInt_toInt64 _) (by decide); have z14 := jc_ltL (a := (99999999)) (b := (xs 3).toInt) c_511 (by decide) (Int32.toInt_toInt64 _); omega
    · refine jj_apd rfl ?_
      refine jj_lstore C dL_law_819 (by decide) rfl ?_
      refine jj_aload_n C dL_law_821 rfl ?_
      refine jq_callV (rest := []) C (ct_X11_thrown_6 hl D cA ak q_28 q_31 q_32 q_33 q_34 q_35 q_36 q_37 q_38 q_39 q_40 q_41 q_42) [26] [0, 1, 2, 3, 4, 5, 6, 7, 8, 9, 10, 11, 12, 13, 14, 15, 16, 17, 18, 19, 20, 21, 22, 23, 24, 25] rfl rfl (by decide) (by decide) (by decide) 0 rfl rfl rfl jw_993 jw_994 jw_995 jw_224 jw_992 jn_X11_thrown rfl (jj_le rfl) (jj_le rfl) (jj_le rfl) (jj_le rfl) (jj_le rfl) dL_law_822 rfl (fun _ _ hX => hX.elim) (fun w1 r O_544 => ?_)
      obtain ⟨rfl, rfl⟩ := O_544
      refine jj_apd rfl ?_
      refine jj_iload C dL_law_825 rfl ?_
      refine jj_icmp_eqT (tgt := 832) C dL_law_827 (by decide) (by decide) ?_
      refine jj_iload C dL_law_832 rfl ?_
      refine jj_if_neT (tgt := 848) C dL_law_834 (by decide) (by decide) ?_
      refine jj_goto (tgt := 2259) C dL_law_848 (by decide) ?_
      exact jj_loc [7, 2] rfl (jj_drop [] rfl (by decide) (jj_widen (k := 600006) (n := 7302072) (jj_le rfl) (jj_le rfl) hend))
    · refine jj_apd rfl ?_
      refine jj_lstore C dL_law_819 (by decide) rfl ?_
      refine jj_aload_n C dL_law_821 rfl ?_
      refine jq_callV (rest := []) C (ct_X11_thrown_5 hl D cA ak q_28 q_31 q_32 q_33 q_34 q_35 q_36 q_37 q_38 q_39 q_40 q_41 q_42) [25] [0, 1, 2, 3, 4, 5, 6, 7, 8, 9, 10, 11, 12, 13, 14, 15, 16, 17, 18, 19, 20, 21, 22, 23, 24, 26] rfl rfl (by decide) (by decide) (by decide) 0 rfl rfl rfl jw_993 jw_994 jw_995 jw_224 jw_992 jn_X11_thrown rfl (jj_le rfl) (jj_le rfl) (jj_le rfl) (jj_le rfl) (jj_le rfl) dL_law_822 rfl (fun _ _ hX => hX.elim) (fun w1 r O_546 => ?_)
      obtain ⟨rfl, rfl⟩ := O_546
      refine jj_apd rfl ?_
      refine jj_iload C dL_law_825 rfl ?_
      refine jj_icmp_eqF (tgt := 832) C dL_law_827 (by decide) (by decide) ?_
      refine jj_iconst (v := 0) C dL_law_830 (by decide) ?_
      exfalso; have z0 := jc_nlt (a := (xs 1).toInt) (b := (0)) c_69 rfl (by decide); have z1 := jc_nle (a := (1)) (b := (xs 1).toInt) c_70 (by decide) rfl; have z2 := jc_nlt (a := (xs 2).toInt) (b := (0)) c_71 rfl (by decide); have z3 := jc_nle (a := (1)) (b := (xs 2).toInt) c_72 (by decide) rfl; have z4 := jc_neq (a := (xs 1).toInt) (b := (xs 2).toInt) c_73 rfl rfl; have z5 := jc_nlt (a := (xs 3).toInt) (b := (1)) c_74 rfl (by decide); have z6 := jc_le (a := (xs 3).toInt) (b := (99999999)) c_75 rfl (by decide); have z7 := jc_nleL (a := ((xs 3).toInt64 + 0).toInt) (b := (0)) c_76 rfl (by decide); have z8 := jc_nltL (a := (xs 1).toInt) (b := (0)) c_521 (Int32.toInt_toInt64 _) (by decide); have z9 := jc_nltL (a := (0)) (b := (xs 1).toInt) c_522 (by decide) (Int32.toInt_toInt64 _); have z10 := jc_nltL (a := (xs 2).toInt) (b := (0)) c_523 (Int32.toInt_toInt64 _) (by decide); have z11 := jc_nltL (a := (0)) (b := (xs 2).toInt) c_524 (by decide) (Int32.toInt_toInt64 _); have z12 := jc_neq (a := (xs 1).toInt) (b := (xs 2).toInt) c_525 rfl rfl; have z13 := jc_nltL (a := (xs 3).toInt) (b := (1)) c_526 (Int32.toInt_toInt64 _) (by decide); have z14 := jc_nltL (a := (99999999)) (b := (xs 3).toInt) c_527 (by decide) (Int32.toInt_toInt64 _); have z15 := jc_nltL (a := (0)) (b := ((xs 3).toInt64 + 0).toInt) c_528 (by decide) rfl; omega
  · refine jj_apd rfl ?_
    refine jj_istore C dL_law_795 (by decide) rfl ?_
    refine jj_aload_n C dL_law_797 rfl ?_
    refine jj_aload_n C dL_law_798 rfl ?_
    refine jj_iload C dL_law_799 rfl ?_
    refine jj_iconst (v := 1) C dL_law_801 (by decide) ?_
    refine jj_iadd (v := 1) C dL_law_802 (by decide) ?_
    refine jj_xld (v := xs 1) C hX hbl hbA (vp_in_iff.mpr (by decide)) rfl dL_law_803 ?_
    refine jj_aload_n C dL_law_804 rfl ?_
    refine jj_iload C dL_law_805 rfl ?_
    refine jj_iconst (v := 2) C dL_law_807 (by decide) ?_
    refine jj_iadd (v := 2) C dL_law_808 (by decide) ?_
    refine jj_xld (v := xs 2) C hX hbl hbA (vp_in_iff.mpr (by decide)) rfl dL_law_809 ?_
    refine jj_aload_n C dL_law_810 rfl ?_
    refine jj_iload C dL_law_811 rfl ?_
    refine jj_iconst (v := 3) C dL_law_813 (by decide) ?_
    refine jj_iadd (v := 3) C dL_law_814 (by decide) ?_
    refine jj_xld (v := xs 3) C hX hbl hbA (vp_in_iff.mpr (by decide)) rfl dL_law_815 ?_
    refine jq_callV (rest := []) C (ct_X11_transfer_1 hl D cA ak q_28 q_31 q_32 q_36 q_33 q_34 q_35 q_37 q_38 q_39 q_40 q_41 q_42 (xs 1) (xs 2) (xs 3)) [12, 24, 13, 17] [0, 1, 2, 3, 4, 5, 6, 7, 8, 9, 10, 11, 14, 15, 16, 18, 19, 20, 21, 22, 23, 25, 26] rfl rfl (by decide) (by decide) (by decide) 0 rfl rfl rfl jw_1128 jw_1129 jw_1130 jw_224 jw_468 jn_X11_transfer rfl (jj_le rfl) (jj_le rfl) (jj_le rfl) (jj_le rfl) (jj_le rfl) dL_law_816 rfl (fun _ _ hX => hX.elim) (fun w1 r O_548 => ?_)
    rcases O_548 with ⟨c_549, rfl, rfl⟩ | ⟨c_550, c_551, rfl, rfl⟩ | ⟨c_552, c_553, c_554, rfl, rfl⟩ | ⟨c_555, c_556, c_557, c_558, rfl, rfl⟩ | ⟨c_559, c_560, c_561, c_562, c_563, rfl, rfl⟩ | ⟨c_564, c_565, c_566, c_567, c_568, c_569, rfl, rfl⟩ | ⟨c_570, c_571, c_572, c_573, c_574, c_575, c_576, rfl, rfl⟩ | ⟨c_577, c_578, c_579, c_580, c_581, c_582, c_583, c_584, rfl, rfl⟩ | ⟨f_585, c_586, c_587, c_588, c_589, c_590, c_591, c_592, c_593, rfl, rfl⟩
    · refine jj_apd rfl ?_
      refine jj_lstore C dL_law_819 (by decide) rfl ?_
      refine jj_aload_n C dL_law_821 rfl ?_
      refine jq_callV (rest := []) C (ct_X11_thrown_2 hl D cA ak q_28 q_31 q_32 q_33 q_34 q_35 q_36 q_37 q_38 q_39 q_40 q_41 q_42) [26] [0, 1, 2, 3, 4, 5, 6, 7, 8, 9, 10, 11, 12, 13, 14, 15, 16, 17, 18, 19, 20, 21, 22, 23, 24, 25] rfl rfl (by decide) (by decide) (by decide) 0 rfl rfl rfl jw_993 jw_994 jw_995 jw_224 jw_992 jn_X11_thrown rfl (jj_le rfl) (jj_le rfl) (jj_le rfl) (jj_le rfl) (jj_le rfl) dL_law_822 rfl (fun _ _ hX => hX.elim) (fun w1 r O_595 => ?_)
      obtain ⟨rfl, rfl⟩ := O_595
      refine jj_apd rfl ?_
      refine jj_iload C dL_law_825 rfl ?_
      refine jj_icmp_eqF (tgt := 832) C dL_law_827 (by decide) (by decide) ?_
      refine jj_iconst (v := 0) C dL_law_830 (by decide) ?_
      exfalso; have z0 := jc_nlt (a := (xs 1).toInt) (b := (0)) c_77 rfl (by decide); have z1 := jc_nle (a := (1)) (b := (xs 1).toInt) c_78 (by decide) rfl; have z2 := jc_nlt (a := (xs 2).toInt) (b := (0)) c_79 rfl (by decide); have z3 := jc_nle (a := (1)) (b := (xs 2).toInt) c_80 (by decide) rfl; have z4 := jc_neq (a := (xs 1).toInt) (b := (xs 2).toInt) c_81 rfl rfl; have z5 := jc_nlt (a := (xs 3).toInt) (b := (1)) c_82 rfl (by decide); have z6 := jc_nle (a := (xs 3).toInt) (b := (99999999)) c_83 rfl (by decide); have z7 := jc_ltL (a := (xs 1).toInt) (b := (0)) c_549 (Int32.toInt_toInt64 _) (by decide); omega
    · refine jj_apd rfl ?_
      refine jj_lstore C dL_law_819 (by decide) rfl ?_
      refine jj_aload_n C dL_law_821 rfl ?_
      refine jq_callV (rest := []) C (ct_X11_thrown_2 hl D cA ak q_28 q_31 q_32 q_33 q_34 q_35 q_36 q_37 q_38 q_39 q_40 q_41 q_42) [26] [0, 1, 2, 3, 4, 5, 6, 7, 8, 9, 10, 11, 12, 13, 14, 15, 16, 17, 18, 19, 20, 21, 22, 23, 24, 25] rfl rfl (by decide) (by decide) (by decide) 0 rfl rfl rfl jw_993 jw_994 jw_995 jw_224 jw_992 jn_X11_thrown rfl (jj_le rfl) (jj_le rfl) (jj_le rfl) (jj_le rfl) (jj_le rfl) dL_law_822 rfl (fun _ _ hX => hX.elim) (fun w1 r O_597 => ?_)
      obtain ⟨rfl, rfl⟩ := O_597
      refine jj_apd rfl ?_
      refine jj_iload C dL_law_825 rfl ?_
      refine jj_icmp_eqF (tgt := 832) C dL_law_827 (by decide) (by decide) ?_
      refine jj_iconst (v := 0) C dL_law_830 (by decide) ?_
      exfalso; have z0 := jc_nlt (a := (xs 1).toInt) (b := (0)) c_77 rfl (by decide); have z1 := jc_nle (a := (1)) (b := (xs 1).toInt) c_78 (by decide) rfl; have z2 := jc_nlt (a := (xs 2).toInt) (b := (0)) c_79 rfl (by decide); have z3 := jc_nle (a := (1)) (b := (xs 2).toInt) c_80 (by decide) rfl; have z4 := jc_neq (a := (xs 1).toInt) (b := (xs 2).toInt) c_81 rfl rfl; have z5 := jc_nlt (a := (xs 3).toInt) (b := (1)) c_82 rfl (by decide); have z6 := jc_nle (a := (xs 3).toInt) (b := (99999999)) c_83 rfl (by decide); have z7 := jc_nltL (a := (xs 1).toInt) (b := (0)) c_550 (Int32.toInt_toInt64 _) (by decide); have z8 := jc_ltL (a := (0)) (b := (xs 1).toInt) c_551 (by decide) (Int32.toInt_toInt64 _); omega
    · refine jj_apd rfl ?_
      refine jj_lstore C dL_law_819 (by decide) rfl ?_
      refine jj_aload_n C dL_law_821 rfl ?_
      refine jq_callV (rest := []) C (ct_X11_thrown_2 hl D cA ak q_28 q_31 q_32 q_33 q_34 q_35 q_36 q_37 q_38 q_39 q_40 q_41 q_42) [26] [0, 1, 2, 3, 4, 5, 6, 7, 8, 9, 10, 11, 12, 13, 14, 15, 16, 17, 18, 19, 20, 21, 22, 23, 24, 25] rfl rfl (by decide) (by decide) (by decide) 0 rfl rfl rfl jw_993 jw_994 jw_995 jw_224 jw_992 jn_X11_thrown rfl (jj_le rfl) (jj_le rfl) (jj_le rfl) (jj_le rfl) (jj_le rfl) dL_law_822 rfl (fun _ _ hX => hX.elim) (fun w1 r O_599 => ?_)
      obtain ⟨rfl, rfl⟩ := O_599
      refine jj_apd rfl ?_
      refine jj_iload C dL_law_825 rfl ?_
      refine jj_icmp_eqF (tgt := 832) C dL_law_827 (by decide) (by decide) ?_
      refine jj_iconst (v := 0) C dL_law_830 (by decide) ?_
      exfalso; have z0 := jc_nlt (a := (xs 1).toInt) (b := (0)) c_77 rfl (by decide); have z1 := jc_nle (a := (1)) (b := (xs 1).toInt) c_78 (by decide) rfl; have z2 := jc_nlt (a := (xs 2).toInt) (b := (0)) c_79 rfl (by decide); have z3 := jc_nle (a := (1)) (b := (xs 2).toInt) c_80 (by decide) rfl; have z4 := jc_neq (a := (xs 1).toInt) (b := (xs 2).toInt) c_81 rfl rfl; have z5 := jc_nlt (a := (xs 3).toInt) (b := (1)) c_82 rfl (by decide); have z6 := jc_nle (a := (xs 3).toInt) (b := (99999999)) c_83 rfl (by decide); have z7 := jc_nltL (a := (xs 1).toInt) (b := (0)) c_552 (Int32.toInt_toInt64 _) (by decide); have z8 := jc_nltL (a := (0)) (b := (xs 1).toInt) c_553 (by decide) (Int32.toInt_toInt64 _); have z9 := jc_ltL (a := (xs 2).toInt) (b := (0)) c_554 (Int32.toInt_toInt64 _) (by decide); omega
    · refine jj_apd rfl ?_
      refine jj_lstore C dL_law_819 (by decide) rfl ?_
      refine jj_aload_n C dL_law_821 rfl ?_
      refine jq_callV (rest := []) C (ct_X11_thrown_2 hl D cA ak q_28 q_31 q_32 q_33 q_34 q_35 q_36 q_37 q_38 q_39 q_40 q_41 q_42) [26] [0, 1, 2, 3, 4, 5, 6, 7, 8, 9, 10, 11, 12, 13, 14, 15, 16, 17, 18, 19, 20, 21, 22, 23, 24, 25] rfl rfl (by decide) (by decide) (by decide) 0 rfl rfl rfl jw_993 jw_994 jw_995 jw_224 jw_992 jn_X11_thrown rfl (jj_le rfl) (jj_le rfl) (jj_le rfl) (jj_le rfl) (jj_le rfl) dL_law_822 rfl (fun _ _ hX => hX.elim) (fun w1 r O_601 => ?_)
      obtain ⟨rfl, rfl⟩ := O_601
      refine jj_apd rfl ?_
      refine jj_iload C dL_law_825 rfl ?_
      refine jj_icmp_eqF (tgt := 832) C dL_law_827 (by decide) (by decide) ?_
      refine jj_iconst (v := 0) C dL_law_830 (by decide) ?_
      exfalso; have z0 := jc_nlt (a := (xs 1).toInt) (b := (0)) c_77 rfl (by decide); have z1 := jc_nle (a := (1)) (b := (xs 1).toInt) c_78 (by decide) rfl; have z2 := jc_nlt (a := (xs 2).toInt) (b := (0)) c_79 rfl (by decide); have z3 := jc_nle (a := (1)) (b := (xs 2).toInt) c_80 (by decide) rfl; have z4 := jc_neq (a := (xs 1).toInt) (b := (xs 2).toInt) c_81 rfl rfl; have z5 := jc_nlt (a := (xs 3).toInt) (b := (1)) c_82 rfl (by decide); have z6 := jc_nle (a := (xs 3).toInt) (b := (99999999)) c_83 rfl (by decide); have z7 := jc_nltL (a := (xs 1).toInt) (b := (0)) c_555 (Int32.toInt_toInt64 _) (by decide); have z8 := jc_nltL (a := (0)) (b := (xs 1).toInt) c_556 (by decide) (Int32.toInt_toInt64 _); have z9 := jc_nltL (a := (xs 2).toInt) (b := (0)) c_557 (Int32.toInt_toInt64 _) (by decide); have z10 := jc_ltL (a := (0)) (b := (xs 2).toInt) c_558 (by decide) (Int32.toInt_toInt64 _); omega
    · refine jj_apd rfl ?_
      refine jj_lstore C dL_law_819 (by decide) rfl ?_
      refine jj_aload_n C dL_law_821 rfl ?_
      refine jq_callV (rest := []) C (ct_X11_thrown_4 hl D cA ak q_28 q_31 q_32 q_33 q_34 q_35 q_36 q_37 q_38 q_39 q_40 q_41 q_42) [26] [0, 1, 2, 3, 4, 5, 6, 7, 8, 9, 10, 11, 12, 13, 14, 15, 16, 17, 18, 19, 20, 21, 22, 23, 24, 25] rfl rfl (by decide) (by decide) (by decide) 0 rfl rfl rfl jw_993 jw_994 jw_995 jw_224 jw_992 jn_X11_thrown rfl (jj_le rfl) (jj_le rfl) (jj_le rfl) (jj_le rfl) (jj_le rfl) dL_law_822 rfl (fun _ _ hX => hX.elim) (fun w1 r O_603 => ?_)
      obtain ⟨rfl, rfl⟩ := O_603
      refine jj_apd rfl ?_
      refine jj_iload C dL_law_825 rfl ?_
      refine jj_icmp_eqT (tgt := 832) C dL_law_827 (by decide) (by decide) ?_
      refine jj_iload C dL_law_832 rfl ?_
      refine jj_if_neT (tgt := 848) C dL_law_834 (by decide) (by decide) ?_
      refine jj_goto (tgt := 2259) C dL_law_848 (by decide) ?_
      exact jj_loc [7, 2] rfl (jj_drop [] rfl (by decide) (jj_widen (k := 600006) (n := 7302072) (jj_le rfl) (jj_le rfl) hend))
    · refine jj_apd rfl ?_
      refine jj_lstore C dL_law_819 (by decide) rfl ?_
      refine jj_aload_n C dL_law_821 rfl ?_
      refine jq_callV (rest := []) C (ct_X11_thrown_4 hl D cA ak q_28 q_31 q_32 q_33 q_34 q_35 q_36 q_37 q_38 q_39 q_40 q_41 q_42) [26] [0, 1, 2, 3, 4, 5, 6, 7, 8, 9, 10, 11, 12, 13, 14, 15, 16, 17, 18, 19, 20, 21, 22, 23, 24, 25] rfl rfl (by decide) (by decide) (by decide) 0 rfl rfl rfl jw_993 jw_994 jw_995 jw_224 jw_992 jn_X11_thrown rfl (jj_le rfl) (jj_le rfl) (jj_le rfl) (jj_le rfl) (jj_le rfl) dL_law_822 rfl (fun _ _ hX => hX.elim) (fun w1 r O_605 => ?_)
      obtain ⟨rfl, rfl⟩ := O_605
      refine jj_apd rfl ?_
      refine jj_iload C dL_law_825 rfl ?_
      refine jj_icmp_eqT (tgt := 832) C dL_law_827 (by decide) (by decide) ?_
      refine jj_iload C dL_law_832 rfl ?_
      refine jj_if_neT (tgt := 848) C dL_law_834 (by decide) (by decide) ?_
      refine jj_goto (tgt := 2259) C dL_law_848 (by decide) ?_
      exact jj_loc [7, 2] rfl (jj_drop [] rfl (by decide) (jj_widen (k := 600006) (n := 7302072) (jj_le rfl) (jj_le rfl) hend))
    · refine jj_apd rfl ?_
      refine jj_lstore C dL_law_819 (by decide) rfl ?_
      refine jj_aload_n C dL_law_821 rfl ?_
      refine jq_callV (rest := []) C (ct_X11_thrown_4 hl D cA ak q_28 q_31 q_32 q_33 q_34 q_35 q_36 q_37 q_38 q_39 q_40 q_41 q_42) [26] [0, 1, 2, 3, 4, 5, 6, 7, 8, 9, 10, 11, 12, 13, 14, 15, 16, 17, 18, 19, 20, 21, 22, 23, 24, 25] rfl rfl (by decide) (by decide) (by decide) 0 rfl rfl rfl jw_993 jw_994 jw_995 jw_224 jw_992 jn_X11_thrown rfl (jj_le rfl) (jj_le rfl) (jj_le rfl) (jj_le rfl) (jj_le rfl) dL_law_822 rfl (fun _ _ hX => hX.elim) (fun w1 r O_607 => ?_)
      obtain ⟨rfl, rfl⟩ := O_607
      refine jj_apd rfl ?_
      refine jj_iload C dL_law_825 rfl ?_
      refine jj_icmp_eqT (tgt := 832) C dL_law_827 (by decide) (by decide) ?_
      refine jj_iload C dL_law_832 rfl ?_
      refine jj_if_neT (tgt := 848) C dL_law_834 (by decide) (by decide) ?_
      refine jj_goto (tgt := 2259) C dL_law_848 (by decide) ?_
      exact jj_loc [7, 2] rfl (jj_drop [] rfl (by decide) (jj_widen (k := 600006) (n := 7302072) (jj_le rfl) (jj_le rfl) hend))
    · refine jj_apd rfl ?_
      refine jj_lstore C dL_law_819 (by decide) rfl ?_
      refine jj_aload_n C dL_law_821 rfl ?_
      refine jq_callV (rest := []) C (ct_X11_thrown_6 hl D cA ak q_28 q_31 q_32 q_33 q_34 q_35 q_36 q_37 q_38 q_39 q_40 q_41 q_42) [26] [0, 1, 2, 3, 4, 5, 6, 7, 8, 9, 10, 11, 12, 13, 14, 15, 16, 17, 18, 19, 20, 21, 22, 23, 24, 25] rfl rfl (by decide) (by decide) (by decide) 0 rfl rfl rfl jw_993 jw_994 jw_995 jw_224 jw_992 jn_X11_thrown rfl (jj_le rfl) (jj_le rfl) (jj_le rfl) (jj_le rfl) (jj_le rfl) dL_law_822 rfl (fun _ _ hX => hX.elim) (fun w1 r O_609 => ?_)
      obtain ⟨rfl, rfl⟩ := O_609
      refine jj_apd rfl ?_
      refine jj_iload C dL_law_825 rfl ?_
      refine jj_icmp_eqF (tgt := 832) C dL_law_827 (by decide) (by decide) ?_
      refine jj_iconst (v := 0) C dL_law_830 (by decide) ?_
      exfalso; have z0 := jc_nlt (a := (xs 1).toInt) (b := (0)) c_77 rfl (by decide); have z1 := jc_nle (a := (1)) (b := (xs 1).toInt) c_78 (by decide) rfl; have z2 := jc_nlt (a := (xs 2).toInt) (b := (0)) c_79 rfl (by decide); have z3 := jc_nle (a := (1)) (b := (xs 2).toInt) c_80 (by decide) rfl; have z4 := jc_neq (a := (xs 1).toInt) (b := (xs 2).toInt) c_81 rfl rfl; have z5 := jc_nlt (a := (xs 3).toInt) (b := (1)) c_82 rfl (by decide); have z6 := jc_nle (a := (xs 3).toInt) (b := (99999999)) c_83 rfl (by decide); have z7 := jc_nltL (a := (xs 1).toInt) (b := (0)) c_577 (Int32.toInt_toInt64 _) (by decide); have z8 := jc_nltL (a := (0)) (b := (xs 1).toInt) c_578 (by decide) (Int32.toInt_toInt64 _); have z9 := jc_nltL (a := (xs 2).toInt) (b := (0)) c_579 (Int32.toInt_toInt64 _) (by decide); have z10 := jc_nltL (a := (0)) (b := (xs 2).toInt) c_580 (by decide) (Int32.toInt_toInt64 _); have z11 := jc_neq (a := (xs 1).toInt) (b := (xs 2).toInt) c_581 rfl rfl; have z12 := jc_nltL (a := (xs 3).toInt) (b := (1)) c_582 (Int32.toInt_toInt64 _) (by decide); have z13 := jc_nltL (a := (99999999)) (b := (xs 3).toInt) c_583 (by decide) (Int32.toInt_toInt64 _); have z14 := jc_ltL (a := (0)) (b := ((xs 3).toInt64 + 0).toInt) c_584 (by decide) rfl; omega
    · refine jj_apd rfl ?_
      refine jj_lstore C dL_law_819 (by decide) rfl ?_
      refine jj_aload_n C dL_law_821 rfl ?_
      refine jq_callV (rest := []) C (ct_X11_thrown_5 hl D cA ak q_28 q_31 q_32 q_33 q_34 q_35 q_36 q_37 q_38 q_39 q_40 q_41 q_42) [25] [0, 1, 2, 3, 4, 5, 6, 7, 8, 9, 10, 11, 12, 13, 14, 15, 16, 17, 18, 19, 20, 21, 22, 23, 24, 26] rfl rfl (by decide) (by decide) (by decide) 0 rfl rfl rfl jw_993 jw_994 jw_995 jw_224 jw_992 jn_X11_thrown rfl (jj_le rfl) (jj_le rfl) (jj_le rfl) (jj_le rfl) (jj_le rfl) dL_law_822 rfl (fun _ _ hX => hX.elim) (fun w1 r O_611 => ?_)
      obtain ⟨rfl, rfl⟩ := O_611
      refine jj_apd rfl ?_
      refine jj_iload C dL_law_825 rfl ?_
      refine jj_icmp_eqF (tgt := 832) C dL_law_827 (by decide) (by decide) ?_
      refine jj_iconst (v := 0) C dL_law_830 (by decide) ?_
      exfalso; have z0 := jc_nlt (a := (xs 1).toInt) (b := (0)) c_77 rfl (by decide); have z1 := jc_nle (a := (1)) (b := (xs 1).toInt) c_78 (by decide) rfl; have z2 := jc_nlt (a := (xs 2).toInt) (b := (0)) c_79 rfl (by decide); have z3 := jc_nle (a := (1)) (b := (xs 2).toInt) c_80 (by decide) rfl; have z4 := jc_neq (a := (xs 1).toInt) (b := (xs 2).toInt) c_81 rfl rfl; have z5 := jc_nlt (a := (xs 3).toInt) (b := (1)) c_82 rfl (by decide); have z6 := jc_nle (a := (xs 3).toInt) (b := (99999999)) c_83 rfl (by decide); have z7 := jc_nltL (a := (xs 1).toInt) (b := (0)) c_586 (Int32.toInt_toInt64 _) (by decide); have z8 := jc_nltL (a := (0)) (b := (xs 1).toInt) c_587 (by decide) (Int32.toInt_toInt64 _); have z9 := jc_nltL (a := (xs 2).toInt) (b := (0)) c_588 (Int32.toInt_toInt64 _) (by decide); have z10 := jc_nltL (a := (0)) (b := (xs 2).toInt) c_589 (by decide) (Int32.toInt_toInt64 _); have z11 := jc_neq (a := (xs 1).toInt) (b := (xs 2).toInt) c_590 rfl rfl; have z12 := jc_nltL (a := (xs 3).toInt) (b := (1)) c_591 (Int32.toInt_toInt64 _) (by decide); have z13 := jc_nltL (a := (99999999)) (b := (xs 3).toInt) c_592 (by decide) (Int32.toInt_toInt64 _); have z14 := jc_nltL (a := (0)) (b := ((xs 3).toInt64 + 0).toInt) c_593 (by decide) rfl; omega
  · refine jj_apd rfl ?_
    refine jj_istore C dL_law_795 (by decide) rfl ?_
    refine jj_aload_n C dL_law_797 rfl ?_
    refine jj_aload_n C dL_law_798 rfl ?_
    refine jj_iload C dL_law_799 rfl ?_
    refine jj_iconst (v := 1) C dL_law_801 (by decide) ?_
    refine jj_iadd (v := 1) C dL_law_802 (by decide) ?_
    refine jj_xld (v := xs 1) C hX hbl hbA (vp_in_iff.mpr (by decide)) rfl dL_law_803 ?_
    refine jj_aload_n C dL_law_804 rfl ?_
    refine jj_iload C dL_law_805 rfl ?_
    refine jj_iconst (v := 2) C dL_law_807 (by decide) ?_
    refine jj_iadd (v := 2) C dL_law_808 (by decide) ?_
    refine jj_xld (v := xs 2) C hX hbl hbA (vp_in_iff.mpr (by decide)) rfl dL_law_809 ?_
    refine jj_aload_n C dL_law_810 rfl ?_
    refine jj_iload C dL_law_811 rfl ?_
    refine jj_iconst (v := 3) C dL_law_813 (by decide) ?_
    refine jj_iadd (v := 3) C dL_law_814 (by decide) ?_
    refine jj_xld (v := xs 3) C hX hbl hbA (vp_in_iff.mpr (by decide)) rfl dL_law_815 ?_
    refine jq_callV (rest := []) C (ct_X11_transfer_1 hl D cA ak q_28 q_31 q_32 q_36 q_33 q_34 q_35 q_37 q_38 q_39 q_40 q_41 q_42 (xs 1) (xs 2) (xs 3)) [12, 24, 13, 17] [0, 1, 2, 3, 4, 5, 6, 7, 8, 9, 10, 11, 14, 15, 16, 18, 19, 20, 21, 22, 23, 25, 26] rfl rfl (by decide) (by decide) (by decide) 0 rfl rfl rfl jw_1128 jw_1129 jw_1130 jw_224 jw_468 jn_X11_transfer rfl (jj_le rfl) (jj_le rfl) (jj_le rfl) (jj_le rfl) (jj_le rfl) dL_law_816 rfl (fun _ _ hX => hX.elim) (fun w1 r O_613 => ?_)
    rcases O_613 with ⟨c_614, rfl, rfl⟩ | ⟨c_615, c_616, rfl, rfl⟩ | ⟨c_617, c_618, c_619, rfl, rfl⟩ | ⟨c_620, c_621, c_622, c_623, rfl, rfl⟩ | ⟨c_624, c_625, c_626, c_627, c_628, rfl, rfl⟩ | ⟨c_629, c_630, c_631, c_632, c_633, c_634, rfl, rfl⟩ | ⟨c_635, c_636, c_637, c_638, c_639, c_640, c_641, rfl, rfl⟩ | ⟨c_642, c_643, c_644, c_645, c_646, c_647, c_648, c_649, rfl, rfl⟩ | ⟨f_650, c_651, c_652, c_653, c_654, c_655, c_656, c_657, c_658, rfl, rfl⟩
    · refine jj_apd rfl ?_
      refine jj_lstore C dL_law_819 (by decide) rfl ?_
      refine jj_aload_n C dL_law_821 rfl ?_
      refine jq_callV (rest := []) C (ct_X11_thrown_2 hl D cA ak q_28 q_31 q_32 q_33 q_34 q_35 q_36 q_37 q_38 q_39 q_40 q_41 q_42) [26] [0, 1, 2, 3, 4, 5, 6, 7, 8, 9, 10, 11, 12, 13, 14, 15, 16, 17, 18, 19, 20, 21, 22, 23, 24, 25] rfl rfl (by decide) (by decide) (by decide) 0 rfl rfl rfl jw_993 jw_994 jw_995 jw_224 jw_992 jn_X11_thrown rfl (jj_le rfl) (jj_le rfl) (jj_le rfl) (jj_le rfl) (jj_le rfl) dL_law_822 rfl (fun _ _ hX => hX.elim) (fun w1 r O_660 => ?_)
      obtain ⟨rfl, rfl⟩ := O_660
      refine jj_apd rfl ?_
      refine jj_iload C dL_law_825 rfl ?_
      refine jj_icmp_eqF (tgt := 832) C dL_law_827 (by decide) (by decide) ?_
      refine jj_iconst (v := 0) C dL_law_830 (by decide) ?_
      exfalso; have z0 := jc_nlt (a := (xs 1).toInt) (b := (0)) c_84 rfl (by decide); have z1 := jc_nle (a := (1)) (b := (xs 1).toInt) c_85 (by decide) rfl; have z2 := jc_nlt (a := (xs 2).toInt) (b := (0)) c_86 rfl (by decide); have z3 := jc_nle (a := (1)) (b := (xs 2).toInt) c_87 (by decide) rfl; have z4 := jc_neq (a := (xs 1).toInt) (b := (xs 2).toInt) c_88 rfl rfl; have z5 := jc_nlt (a := (xs 3).toInt) (b := (1)) c_89 rfl (by decide); have z6 := jc_le (a := (xs 3).toInt) (b := (99999999)) c_90 rfl (by decide); have z7 := jc_leL (a := ((xs 3).toInt64 + 0).toInt) (b := (0)) c_91 rfl (by decide); have z8 := jc_ltL (a := (xs 1).toInt) (b := (0)) c_614 (Int32.toInt_toInt64 _) (by decide); omega
    · refine jj_apd rfl ?_
      refine jj_lstore C dL_law_819 (by decide) rfl ?_
      refine jj_aload_n C dL_law_821 rfl ?_
      refine jq_callV (rest := []) C (ct_X11_thrown_2 hl D cA ak q_28 q_31 q_32 q_33 q_34 q_35 q_36 q_37 q_38 q_39 q_40 q_41 q_42) [26] [0, 1, 2, 3, 4, 5, 6, 7, 8, 9, 10, 11, 12, 13, 14, 15, 16, 17, 18, 19, 20, 21, 22, 23, 24, 25] rfl rfl (by decide) (by decide) (by decide) 0 rfl rfl rfl jw_993 jw_994 jw_995 jw_224 jw_992 jn_X11_thrown rfl (jj_le rfl) (jj_le rfl) (jj_le rfl) (jj_le rfl) (jj_le rfl) dL_law_822 rfl (fun _ _ hX => hX.elim) (fun w1 r O_662 => ?_)
      obtain ⟨rfl, rfl⟩ := O_662
      refine jj_apd rfl ?_
      refine jj_iload C dL_law_825 rfl ?_
      refine jj_icmp_eqF (tgt := 832) C dL_law_827 (by decide) (by decide) ?_
      refine jj_iconst (v := 0) C dL_law_830 (by decide) ?_
      exfalso; have z0 := jc_nlt (a := (xs 1).toInt) (b := (0)) c_84 rfl (by decide); have z1 := jc_nle (a := (1)) (b := (xs 1).toInt) c_85 (by decide) rfl; have z2 := jc_nlt (a := (xs 2).toInt) (b := (0)) c_86 rfl (by decide); have z3 := jc_nle (a := (1)) (b := (xs 2).toInt) c_87 (by decide) rfl; have z4 := jc_neq (a := (xs 1).toInt) (b := (xs 2).toInt) c_88 rfl rfl; have z5 := jc_nlt (a := (xs 3).toInt) (b := (1)) c_89 rfl (by decide); have z6 := jc_le (a := (xs 3).toInt) (b := (99999999)) c_90 rfl (by decide); have z7 := jc_leL (a := ((xs 3).toInt64 + 0).toInt) (b := (0)) c_91 rfl (by decide); have z8 := jc_nltL (a := (xs 1).toInt) (b := (0)) c_615 (Int32.toInt_toInt64 _) (by decide); have z9 := jc_ltL (a := (0)) (b := (xs 1).toInt) c_616 (by decide) (Int32.toInt_toInt64 _); omega
    · refine jj_apd rfl ?_
      refine jj_lstore C dL_law_819 (by decide) rfl ?_
      refine jj_aload_n C dL_law_821 rfl ?_
      refine jq_callV (rest := []) C (ct_X11_thrown_2 hl D cA ak q_28 q_31 q_32 q_33 q_34 q_35 q_36 q_37 q_38 q_39 q_40 q_41 q_42) [26] [0, 1, 2, 3, 4, 5, 6, 7, 8, 9, 10, 11, 12, 13, 14, 15, 16, 17, 18, 19, 20, 21, 22, 23, 24, 25] rfl rfl (by decide) (by decide) (by decide) 0 rfl rfl rfl jw_993 jw_994 jw_995 jw_224 jw_992 jn_X11_thrown rfl (jj_le rfl) (jj_le rfl) (jj_le rfl) (jj_le rfl) (jj_le rfl) dL_law_822 rfl (fun _ _ hX => hX.elim) (fun w1 r O_664 => ?_)
      obtain ⟨rfl, rfl⟩ := O_664
      refine jj_apd rfl ?_
      refine jj_iload C dL_law_825 rfl ?_
      refine jj_icmp_eqF (tgt := 832) C dL_law_827 (by decide) (by decide) ?_
      refine jj_iconst (v := 0) C dL_law_830 (by decide) ?_
      exfalso; have z0 := jc_nlt (a := (xs 1).toInt) (b := (0)) c_84 rfl (by decide); have z1 := jc_nle (a := (1)) (b := (xs 1).toInt) c_85 (by decide) rfl; have z2 := jc_nlt (a := (xs 2).toInt) (b := (0)) c_86 rfl (by decide); have z3 := jc_nle (a := (1)) (b := (xs 2).toInt) c_87 (by decide) rfl; have z4 := jc_neq (a := (xs 1).toInt) (b := (xs 2).toInt) c_88 rfl rfl; have z5 := jc_nlt (a := (xs 3).toInt) (b := (1)) c_89 rfl (by decide); have z6 := jc_le (a := (xs 3).toInt) (b := (99999999)) c_90 rfl (by decide); have z7 := jc_leL (a := ((xs 3).toInt64 + 0).toInt) (b := (0)) c_91 rfl (by decide); have z8 := jc_nltL (a := (xs 1).toInt) (b := (0)) c_617 (Int32.toInt_toInt64 _) (by decide); have z9 := jc_nltL (a := (0)) (b := (xs 1).toInt) c_618 (by decide) (Int32.toInt_toInt64 _); have z10 := jc_ltL (a := (xs 2).toInt) (b := (0)) c_619 (Int32.toInt_toInt64 _) (by decide); omega
    · refine jj_apd rfl ?_
      refine jj_lstore C dL_law_819 (by decide) rfl ?_
      refine jj_aload_n C dL_law_821 rfl ?_
      refine jq_callV (rest := []) C (ct_X11_thrown_2 hl D cA ak q_28 q_31 q_32 q_33 q_34 q_35 q_36 q_37 q_38 q_39 q_40 q_41 q_42) [26] [0, 1, 2, 3, 4, 5, 6, 7, 8, 9, 10, 11, 12, 13, 14, 15, 16, 17, 18, 19, 20, 21, 22, 23, 24, 25] rfl rfl (by decide) (by decide) (by decide) 0 rfl rfl rfl jw_993 jw_994 jw_995 jw_224 jw_992 jn_X11_thrown rfl (jj_le rfl) (jj_le rfl) (jj_le rfl) (jj_le rfl) (jj_le rfl) dL_law_822 rfl (fun _ _ hX => hX.elim) (fun w1 r O_666 => ?_)
      obtain ⟨rfl, rfl⟩ := O_666
      refine jj_apd rfl ?_
      refine jj_iload C dL_law_825 rfl ?_
      refine jj_icmp_eqF (tgt := 832) C dL_law_827 (by decide) (by decide) ?_
      refine jj_iconst (v := 0) C dL_law_830 (by decide) ?_
      exfalso; have z0 := jc_nlt (a := (xs 1).toInt) (b := (0)) c_84 rfl (by decide); have z1 := jc_nle (a := (1)) (b := (xs 1).toInt) c_85 (by decide) rfl; have z2 := jc_nlt (a := (xs 2).toInt) (b := (0)) c_86 rfl (by decide); have z3 := jc_nle (a := (1)) (b := (xs 2).toInt) c_87 (by decide) rfl; have z4 := jc_neq (a := (xs 1).toInt) (b := (xs 2).toInt) c_88 rfl rfl; have z5 := jc_nlt (a := (xs 3).toInt) (b := (1)) c_89 rfl (by decide); have z6 := jc_le (a := (xs 3).toInt) (b := (99999999)) c_90 rfl (by decide); have z7 := jc_leL (a := ((xs 3).toInt64 + 0).toInt) (b := (0)) c_91 rfl (by decide); have z8 := jc_nltL (a := (xs 1).toInt) (b := (0)) c_620 (Int32.toInt_toInt64 _) (by decide); have z9 := jc_nltL (a := (0)) (b := (xs 1).toInt) c_621 (by decide) (Int32.toInt_toInt64 _); have z10 := jc_nltL (a := (xs 2).toInt) (b := (0)) c_622 (Int32.toInt_toInt64 _) (by decide); have z11 := jc_ltL (a := (0)) (b := (xs 2).toInt) c_623 (by decide) (Int32.toInt_toInt64 _); omega
    · refine jj_apd rfl ?_
      refine jj_lstore C dL_law_819 (by decide) rfl ?_
      refine jj_aload_n C dL_law_821 rfl ?_
      refine jq_callV (rest := []) C (ct_X11_thrown_4 hl D cA ak q_28 q_31 q_32 q_33 q_34 q_35 q_36 q_37 q_38 q_39 q_40 q_41 q_42) [26] [0, 1, 2, 3, 4, 5, 6, 7, 8, 9, 10, 11, 12, 13, 14, 15, 16, 17, 18, 19, 20, 21, 22, 23, 24, 25] rfl rfl (by decide) (by decide) (by decide) 0 rfl rfl rfl jw_993 jw_994 jw_995 jw_224 jw_992 jn_X11_thrown rfl (jj_le rfl) (jj_le rfl) (jj_le rfl) (jj_le rfl) (jj_le rfl) dL_law_822 rfl (fun _ _ hX => hX.elim) (fun w1 r O_668 => ?_)
      obtain ⟨rfl, rfl⟩ := O_668
      refine jj_apd rfl ?_
      refine jj_iload C dL_law_825 rfl ?_
      refine jj_icmp_eqF (tgt := 832) C dL_law_827 (by decide) (by decide) ?_
      refine jj_iconst (v := 0) C dL_law_830 (by decide) ?_
      exact absurd c_628 c_88
    · refine jj_apd rfl ?_
      refine jj_lstore C dL_law_819 (by decide) rfl ?_
      refine jj_aload_n C dL_law_821 rfl ?_
      refine jq_callV (rest := []) C (ct_X11_thrown_4 hl D cA ak q_28 q_31 q_32 q_33 q_34 q_35 q_36 q_37 q_38 q_39 q_40 q_41 q_42) [26] [0, 1, 2, 3, 4, 5, 6, 7, 8, 9, 10, 11, 12, 13, 14, 15, 16, 17, 18, 19, 20, 21, 22, 23, 24, 25] rfl rfl (by decide) (by decide) (by decide) 0 rfl rfl rfl jw_993 jw_994 jw_995 jw_224 jw_992 jn_X11_thrown rfl (jj_le rfl) (jj_le rfl) (jj_le rfl) (jj_le rfl) (jj_le rfl) dL_law_822 rfl (fun _ _ hX => hX.elim) (fun w1 r O_670 => ?_)
      obtain ⟨rfl, rfl⟩ := O_670
      refine jj_apd rfl ?_
      refine jj_iload C dL_law_825 rfl ?_
      refine jj_icmp_eqF (tgt := 832) C dL_law_827 (by decide) (by decide) ?_
      refine jj_iconst (v := 0) C dL_law_830 (by decide) ?_
      exfalso; have z0 := jc_nlt (a := (xs 1).toInt) (b := (0)) c_84 rfl (by decide); have z1 := jc_nle (a := (1)) (b := (xs 1).toInt) c_85 (by decide) rfl; have z2 := jc_nlt (a := (xs 2).toInt) (b := (0)) c_86 rfl (by decide); have z3 := jc_nle (a := (1)) (b := (xs 2).toInt) c_87 (by decide) rfl; have z4 := jc_neq (a := (xs 1).toInt) (b := (xs 2).toInt) c_88 rfl rfl; have z5 := jc_nlt (a := (xs 3).toInt) (b := (1)) c_89 rfl (by decide); have z6 := jc_le (a := (xs 3).toInt) (b := (99999999)) c_90 rfl (by decide); have z7 := jc_leL (a := ((xs 3).toInt64 + 0).toInt) (b := (0)) c_91 rfl (by decide); have z8 := jc_nltL (a := (xs 1).toInt) (b := (0)) c_629 (Int32.toInt_toInt64 _) (by decide); have z9 := jc_nltL (a := (0)) (b := (xs 1).toInt) c_630 (by decide) (Int32.toInt_toInt64 _); have z10 := jc_nltL (a := (xs 2).toInt) (b := (0)) c_631 (Int32.toInt_toInt64 _) (by decide); have z11 := jc_nltL (a := (0)) (b := (xs 2).toInt) c_632 (by decide) (Int32.toInt_toInt64 _); have z12 := jc_neq (a := (xs 1).toInt) (b := (xs 2).toInt) c_633 rfl rfl; have z13 := jc_ltL (a := (xs 3).toInt) (b := (1)) c_634 (Int32.toInt_toInt64 _) (by decide); omega
    · refine jj_apd rfl ?_
      refine jj_lstore C dL_law_819 (by decide) rfl ?_
      refine jj_aload_n C dL_law_821 rfl ?_
      refine jq_callV (rest := []) C (ct_X11_thrown_4 hl D cA ak q_28 q_31 q_32 q_33 q_34 q_35 q_36 q_37 q_38 q_39 q_40 q_41 q_42) [26] [0, 1, 2, 3, 4, 5, 6, 7, 8, 9, 10, 11, 12, 13, 14, 15, 16, 17, 18, 19, 20, 21, 22, 23, 24, 25] rfl rfl (by decide) (by decide) (by decide) 0 rfl rfl rfl jw_993 jw_994 jw_995 jw_224 jw_992 jn_X11_thrown rfl (jj_le rfl) (jj_le rfl) (jj_le rfl) (jj_le rfl) (jj_le rfl) dL_law_822 rfl (fun _ _ hX => hX.elim) (fun w1 r O_672 => ?_)
      obtain ⟨rfl, rfl⟩ := O_672
      refine jj_apd rfl ?_
      refine jj_iload C dL_law_825 rfl ?_
      refine jj_icmp_eqF (tgt := 832) C dL_law_827 (by decide) (by decide) ?_
      refine jj_iconst (v := 0) C dL_law_830 (by decide) ?_
      exfalso; have z0 := jc_nlt (a := (xs 1).toInt) (b := (0)) c_84 rfl (by decide); have z1 := jc_nle (a := (1)) (b := (xs 1).toInt) c_85 (by decide) rfl; have z2 := jc_nlt (a := (xs 2).toInt) (b := (0)) c_86 rfl (by decide); have z3 := jc_nle (a := (1)) (b := (xs 2).toInt) c_87 (by decide) rfl; have z4 := jc_neq (a := (xs 1).toInt) (b := (xs 2).toInt) c_88 rfl rfl; have z5 := jc_nlt (a := (xs 3).toInt) (b := (1)) c_89 rfl (by decide); have z6 := jc_le (a := (xs 3).toInt) (b := (99999999)) c_90 rfl (by decide); have z7 := jc_leL (a := ((xs 3).toInt64 + 0).toInt) (b := (0)) c_91 rfl (by decide); have z8 := jc_nltL (a := (xs 1).toInt) (b := (0)) c_635 (Int32.toInt_toInt64 _) (by decide); have z9 := jc_nltL (a := (0)) (b := (xs 1).toInt) c_636 (by decide) (Int32.toInt_toInt64 _); have z10 := jc_nltL (a := (xs 2).toInt) (b := (0)) c_637 (Int32.toInt_toInt64 _) (by decide); have z11 := jc_nltL (a := (0)) (b := (xs 2).toInt) c_638 (by decide) (Int32.toInt_toInt64 _); have z12 := jc_neq (a := (xs 1).toInt) (b := (xs 2).toInt) c_639 rfl rfl; have z13 := jc_nltL (a := (xs 3).toInt) (b := (1)) c_640 (Int32.toInt_toInt64 _) (by decide); have z14 := jc_ltL (a := (99999999)) (b := (xs 3).toInt) c_641 (by decide) (Int32.toInt_toInt64 _); omega
    · refine jj_apd rfl ?_
      refine jj_lstore C dL_law_819 (by decide) rfl ?_
      refine jj_aload_n C dL_law_821 rfl ?_
      refine jq_callV (rest := []) C (ct_X11_thrown_6 hl D cA ak q_28 q_31 q_32 q_33 q_34 q_35 q_36 q_37 q_38 q_39 q_40 q_41 q_42) [26] [0, 1, 2, 3, 4, 5, 6, 7, 8, 9, 10, 11, 12, 13, 14, 15, 16, 17, 18, 19, 20, 21, 22, 23, 24, 25] rfl rfl (by decide) (by decide) (by decide) 0 rfl rfl rfl jw_993 jw_994 jw_995 jw_224 jw_992 jn_X11_thrown rfl (jj_le rfl) (jj_le rfl) (jj_le rfl) (jj_le rfl) (jj_le rfl) dL_law_822 rfl (fun _ _ hX => hX.elim) (fun w1 r O_674 => ?_)
      obtain ⟨rfl, rfl⟩ := O_674
      refine jj_apd rfl ?_
      refine jj_iload C dL_law_825 rfl ?_
      refine jj_icmp_eqF (tgt := 832) C dL_law_827 (by decide) (by decide) ?_
      refine jj_iconst (v := 0) C dL_law_830 (by decide) ?_
      exfalso; have z0 := jc_nlt (a := (xs 1).toInt) (b := (0)) c_84 rfl (by decide); have z1 := jc_nle (a := (1)) (b := (xs 1).toInt) c_85 (by decide) rfl; have z2 := jc_nlt (a := (xs 2).toInt) (b := (0)) c_86 rfl (by decide); have z3 := jc_nle (a := (1)) (b := (xs 2).toInt) c_87 (by decide) rfl; have z4 := jc_neq (a := (xs 1).toInt) (b := (xs 2).toInt) c_88 rfl rfl; have z5 := jc_nlt (a := (xs 3).toInt) (b := (1)) c_89 rfl (by decide); have z6 := jc_le (a := (xs 3).toInt) (b := (99999999)) c_90 rfl (by decide); have z7 := jc_leL (a := ((xs 3).toInt64 + 0).toInt) (b := (0)) c_91 rfl (by decide); have z8 := jc_nltL (a := (xs 1).toInt) (b := (0)) c_642 (Int32.toInt_toInt64 _) (by decide); have z9 := jc_nltL (a := (0)) (b := (xs 1).toInt) c_643 (by decide) (Int32.toInt_toInt64 _); have z10 := jc_nltL (a := (xs 2).toInt) (b := (0)) c_644 (Int32.toInt_toInt64 _) (by decide); have z11 := jc_nltL (a := (0)) (b := (xs 2).toInt) c_645 (by decide) (Int32.toInt_toInt64 _); have z12 := jc_neq (a := (xs 1).toInt) (b := (xs 2).toInt) c_646 rfl rfl; have z13 := jc_nltL (a := (xs 3).toInt) (b := (1)) c_647 (Int32.toInt_toInt64 _) (by decide); have z14 := jc_nltL (a := (99999999)) (b := (xs 3).toInt) c_648 (by decide) (Int32.toInt_toInt64 _); have z15 := jc_ltL (a := (0)) (b := ((xs 3).toInt64 + 0).toInt) c_649 (by decide) rfl; omega
    · refine jj_apd rfl ?_
      refine jj_lstore C dL_law_819 (by decide) rfl ?_
      refine jj_aload_n C dL_law_821 rfl ?_
      refine jq_callV (rest := []) C (ct_X11_thrown_5 hl D cA ak q_28 q_31 q_32 q_33 q_34 q_35 q_36 q_37 q_38 q_39 q_40 q_41 q_42) [25] [0, 1, 2, 3, 4, 5, 6, 7, 8, 9, 10, 11, 12, 13, 14, 15, 16, 17, 18, 19, 20, 21, 22, 23, 24, 26] rfl rfl (by decide) (by decide) (by decide) 0 rfl rfl rfl jw_993 jw_994 jw_995 jw_224 jw_992 jn_X11_thrown rfl (jj_le rfl) (jj_le rfl) (jj_le rfl) (jj_le rfl) (jj_le rfl) dL_law_822 rfl (fun _ _ hX => hX.elim) (fun w1 r O_676 => ?_)
      obtain ⟨rfl, rfl⟩ := O_676
      refine jj_apd rfl ?_
      refine jj_iload C dL_law_825 rfl ?_
      refine jj_icmp_eqT (tgt := 832) C dL_law_827 (by decide) (by decide) ?_
      refine jj_iload C dL_law_832 rfl ?_
      refine jj_if_neF (tgt := 848) C dL_law_834 (by decide) (by decide) ?_
      refine jj_aload_n C dL_law_837 rfl ?_
      refine jj_iconst (v := 0) C dL_law_838 (by decide) ?_
      refine jj_lald (v := 0) C 22 rfl (vp_in_iff.mpr (by decide)) rfl dL_law_839 ?_
      refine jj_lload C dL_law_840 rfl ?_
      refine jj_lcmp_eqT (tgt := 848) C dL_law_842 dL_law_843 (by decide) (by decide) ?_
      refine jj_goto (tgt := 2259) C dL_law_848 (by decide) ?_
      exact jj_loc [7, 2] rfl (jj_drop [] rfl (by decide) (jj_widen (k := 600006) (n := 7302072) (jj_le rfl) (jj_le rfl) hend))

