set_option maxHeartbeats 4000000 in
set_option maxRecDepth 100000 in
theorem law_c17 {p : Program} {l : Launch} {e : Env} {s : State} {m : MethodId} {below : List Frame} {meth : Method} {c : Code} (hl : l.stackTraces = false) {D : va_G} {cA : Nat → ClassId} {ak : (Nat → Nat) × (Nat → Nat)} {A : Nat → Prop} {b : Nat} {xs : Nat → Int32} {Q : State → Prop} (C : jj_C p l s m #[Value.ref b] meth c code 9 R_law ret D cA A ak) (hX : va_X b 6 xs s s.heap) (hbl : b < s.heap.size) (hbA : ¬ A b) (hend : jj_J p l e room_1 s m #[Value.ref b] below meth c 9 A Q (jj_X D A []) 600006 7302072 2259 [(0, .ref b), (5, .int 0)] []) (q_1 q_4 q_5 q_6 q_7 q_8 q_9 q_10 q_11 q_12 q_13 q_14 q_15 q_16 q_17 q_18 q_19 q_20 q_21 q_22 q_23 q_28 q_31 q_32 q_33 q_34 q_35 q_36 q_37 q_38 q_39 q_40 q_41 q_42 q_43 q_44 : Nat) (f_24 : Nat → Option Nat) (f_25 : Nat → Option Nat) (c_26 : f_24 0 = some q_11) (c_27 : f_25 0 = some q_17) : jj_J p l e room_1 s m #[Value.ref b] below meth c 9 A Q (jj_X D A [(q_1, .inr (11, [.ref q_4, .int 0, .int (-1), .ref q_6, .ref q_12, .ref q_18, .ref q_20, .int 0, .int 0, .ref q_21])), (q_4, .inr (10, [.ref q_5, .int 0, .int 0, .int 0, .int 0, .int 0, .int (-1)])), (q_5, .inl (cA 1, 400, .inl (fun _ => 0))), (q_6, .inr (2, [.int 1, .int 0, .int 0, .int 0, .int 100, .int 0, .int 0, .int 0, .int 0, .int 0, .ref q_7, .ref q_8, .ref q_9, .ref q_10])), (q_7, .inl (cA 2, 6, .inr (.inl (fun _ => 0)))), (q_10, .inl (cA 7, 12, .inr (.inr (.inr (.inr f_24))))), (q_11, .inr (7, [.int 0, .int 0, .int 0, .long 0, .long 0])), (q_12, .inr (2, [.int 1, .int 0, .int 0, .int 0, .int 100, .int 0, .int 0, .int 0, .int 0, .int 0, .ref q_13, .ref q_14, .ref q_15, .ref q_16])), (q_13, .inl (cA 2, 6, .inr (.inl (fun _ => 0)))), (q_16, .inl (cA 7, 12, .inr (.inr (.inr (.inr f_25))))), (q_17, .inr (7, [.int 0, .int 0, .int 0, .long 0, .long 0])), (q_18, .inr (3, [.ref q_19, .long 0, .long 0, .long 0, .long 0, .long 0])), (q_20, .inl (cA 5, 10, .inr (.inr (.inr (.inr (fun _ => none)))))), (q_21, .inr (6, [.ref q_22, .int 0, .ref q_23])), (q_22, .inl (cA 0, 1300, .inl (fun _ => 0))), (q_23, .inl (cA 0, 20, .inl (fun _ => 0))), (q_28, .inr (12, [.ref q_31, .ref q_32, .ref q_33, .ref q_34, .ref q_35, .ref q_36, .int 0, .int 0, .long 0, .long 0, .ref q_37, .ref q_38, .ref q_39, .int 0, .int 0, .int 0, .int 0, .int 0, .int (-1), .int 0, .int 0, .ref q_40, .ref q_41, .ref q_42, .int 0])), (q_32, .inl (cA 2, 334, .inr (.inl (fun _ => 0)))), (q_33, .inl (cA 2, 334, .inr (.inl (fun _ => 0)))), (q_34, .inl (cA 2, 334, .inr (.inl (fun _ => 0)))), (q_35, .inl (cA 2, 334, .inr (.inl (fun _ => 0)))), (q_36, .inl (cA 2, 3340, .inr (.inl (fun _ => 0)))), (q_37, .inl (cA 2, 12, .inr (.inl (fun _ => 0)))), (q_38, .inl (cA 3, 12, .inl (fun _ => 0))), (q_39, .inl (cA 0, 400, .inl (fun _ => 0))), (q_40, .inl (cA 2, 6, .inr (.inl (fun _ => 0)))), (q_41, .inl (cA 2, 6, .inr (.inl (fun _ => 0)))), (q_42, .inl (cA 0, 2400, .inl (fun _ => 0))), (q_31, .inl (cA 2, 334, .inr (.inl (vp_updL (vp_updL (fun _ => 0) 0 1) 4 100)))), (q_43, .inl (cA 2, 1, .inr (.inl (fun _ => 0)))), (q_44, .inl (cA 4, 1, .inr (.inr (.inr (.inl (fun _ => 0))))))]) 156 10481 976 [(5, .int 0), (4, .ref q_44), (3, .ref q_43), (2, .ref q_28), (1, .ref q_1), (0, .ref b)] [] := by
  refine jj_aload_n C dL_law_976 rfl ?_
  refine jq_callV (rest := []) C (ct_X10_netAssets_1 hl D cA ak q_1 q_6 q_4 q_12 q_18 q_20 q_21 q_7 q_8 q_9 q_10) [0, 3] [1, 2, 4, 5, 6, 7, 8, 9, 10, 11, 12, 13, 14, 15, 16, 17, 18, 19, 20, 21, 22, 23, 24, 25, 26, 27, 28, 29, 30] rfl rfl (by decide) (by decide) (by decide) 0 rfl rfl rfl jw_1164 jw_1165 jw_1166 jw_271 jw_880 jn_X10_netAssets rfl (jj_le rfl) (jj_le rfl) (jj_le rfl) (jj_le rfl) (jj_le rfl) dL_law_977 rfl (fun _ _ hX => hX.elim) (fun w1 r O_47 => ?_)
  obtain rfl := O_47
  refine jj_left ?_
  refine jj_aload_n C dL_law_980 rfl ?_
  refine jq_callV (rest := [.long 0]) C (ct_X11_netAssets_1 hl D cA ak q_28 q_31 q_32 q_33 q_34 q_35 q_36 q_37 q_38 q_39 q_40 q_41 q_42) [14, 26] [0, 1, 2, 3, 4, 5, 6, 7, 8, 9, 10, 11, 12, 13, 15, 16, 17, 18, 19, 20, 21, 22, 23, 24, 25, 27, 28] rfl rfl (by decide) (by decide) (by decide) 0 rfl rfl rfl jw_1168 jw_1169 jw_1170 jw_224 jw_881 jn_X11_netAssets rfl (jj_le rfl) (jj_le rfl) (jj_le rfl) (jj_le rfl) (jj_le rfl) dL_law_981 rfl (fun _ _ hX => hX.elim) (fun w1 r O_49 => ?_)
  obtain ⟨rfl, rfl⟩ := O_49
  refine jj_apd rfl ?_
  refine jj_lcmp_eqT (tgt := 2259) C dL_law_984 dL_law_985 (by decide) (by decide) ?_
  exact jj_loc [5, 0] rfl (jj_drop [] rfl (by decide) (jj_widen (k := 600006) (n := 7302072) (jj_le rfl) (jj_le rfl) hend))

set_option maxHeartbeats 4000000 in
set_option maxRecDepth 100000 in
theorem law_c18 {p : Program} {l : Launch} {e : Env} {s : State} {m : MethodId} {below : List Frame} {meth : Method} {c : Code} (hl : l.stackTraces = false) {D : va_G} {cA : Nat → ClassId} {ak : (Nat → Nat) × (Nat → Nat)} {A : Nat → Prop} {b : Nat} {xs : Nat → Int32} {Q : State → Prop} (C : jj_C p l s m #[Value.ref b] meth c code 9 R_law ret D cA A ak) (hX : va_X b 6 xs s s.heap) (hbl : b < s.heap.size) (hbA : ¬ A b) (hend : jj_J p l e room_1 s m #[Value.ref b] below meth c 9 A Q (jj_X D A []) 600006 7302072 2259 [(0, .ref b), (5, .int 0)] []) (q_1 q_4 q_5 q_6 q_7 q_8 q_9 q_10 q_11 q_12 q_13 q_14 q_15 q_16 q_17 q_18 q_19 q_20 q_21 q_22 q_23 q_28 q_31 q_32 q_33 q_34 q_35 q_36 q_37 q_38 q_39 q_40 q_41 q_42 q_43 q_44 : Nat) (f_24 : Nat → Option Nat) (f_25 : Nat → Option Nat) (c_26 : f_24 0 = some q_11) (c_27 : f_25 0 = some q_17) : jj_J p l e room_1 s m #[Value.ref b] below meth c 9 A Q (jj_X D A [(q_1, .inr (11, [.ref q_4, .int 0, .int (-1), .ref q_6, .ref q_12, .ref q_18, .ref q_20, .int 0, .int 0, .ref q_21])), (q_4, .inr (10, [.ref q_5, .int 0, .int 0, .int 0, .int 0, .int 0, .int (-1)])), (q_5, .inl (cA 1, 400, .inl (fun _ => 0))), (q_6, .inr (2, [.int 1, .int 0, .int 0, .int 0, .int 100, .int 0, .int 0, .int 0, .int 0, .int 0, .ref q_7, .ref q_8, .ref q_9, .ref q_10])), (q_7, .inl (cA 2, 6, .inr (.inl (fun _ => 0)))), (q_10, .inl (cA 7, 12, .inr (.inr (.inr (.inr f_24))))), (q_11, .inr (7, [.int 0, .int 0, .int 0, .long 0, .long 0])), (q_12, .inr (2, [.int 1, .int 0, .int 0, .int 0, .int 100, .int 0, .int 0, .int 0, .int 0, .int 0, .ref q_13, .ref q_14, .ref q_15, .ref q_16])), (q_13, .inl (cA 2, 6, .inr (.inl (fun _ => 0)))), (q_16, .inl (cA 7, 12, .inr (.inr (.inr (.inr f_25))))), (q_17, .inr (7, [.int 0, .int 0, .int 0, .long 0, .long 0])), (q_18, .inr (3, [.ref q_19, .long 0, .long 0, .long 0, .long 0, .long 0])), (q_20, .inl (cA 5, 10, .inr (.inr (.inr (.inr (fun _ => none)))))), (q_21, .inr (6, [.ref q_22, .int 0, .ref q_23])), (q_22, .inl (cA 0, 1300, .inl (fun _ => 0))), (q_23, .inl (cA 0, 20, .inl (fun _ => 0))), (q_28, .inr (12, [.ref q_31, .ref q_32, .ref q_33, .ref q_34, .ref q_35, .ref q_36, .int 0, .int 0, .long 0, .long 0, .ref q_37, .ref q_38, .ref q_39, .int 0, .int 0, .int 0, .int 0, .int 0, .int (-1), .int 0, .int 0, .ref q_40, .ref q_41, .ref q_42, .int 0])), (q_32, .inl (cA 2, 334, .inr (.inl (fun _ => 0)))), (q_33, .inl (cA 2, 334, .inr (.inl (fun _ => 0)))), (q_34, .inl (cA 2, 334, .inr (.inl (fun _ => 0)))), (q_35, .inl (cA 2, 334, .inr (.inl (fun _ => 0)))), (q_36, .inl (cA 2, 3340, .inr (.inl (fun _ => 0)))), (q_37, .inl (cA 2, 12, .inr (.inl (fun _ => 0)))), (q_38, .inl (cA 3, 12, .inl (fun _ => 0))), (q_39, .inl (cA 0, 400, .inl (fun _ => 0))), (q_40, .inl (cA 2, 6, .inr (.inl (fun _ => 0)))), (q_41, .inl (cA 2, 6, .inr (.inl (fun _ => 0)))), (q_42, .inl (cA 0, 2400, .inl (fun _ => 0))), (q_31, .inl (cA 2, 334, .inr (.inl (vp_updL (vp_updL (fun _ => 0) 0 1) 4 100)))), (q_43, .inl (cA 2, 1, .inr (.inl (fun _ => 0)))), (q_44, .inl (cA 4, 1, .inr (.inr (.inr (.inl (fun _ => 0))))))]) 156 10481 990 [(5, .int 0), (4, .ref q_44), (3, .ref q_43), (2, .ref q_28), (1, .ref q_1), (0, .ref b)] [] := by
  refine jj_aload_n C dL_law_990 rfl ?_
  refine jj_aload_n C dL_law_991 rfl ?_
  refine jj_iload C dL_law_992 rfl ?_
  refine jj_iconst (v := 1) C dL_law_994 (by decide) ?_
  refine jj_iadd (v := 1) C dL_law_995 (by decide) ?_
  refine jj_xld (v := xs 1) C hX hbl hbA (vp_in_iff.mpr (by decide)) rfl dL_law_996 ?_
  refine jj_aload_n C dL_law_997 rfl ?_
  refine jq_callSW (rest := []) C (ct_L_account_1 hl D cA ak q_1 q_43 q_6 q_7 q_4 q_12 q_18 q_20 q_21 q_8 q_9 q_10 (xs 1)) [0, 29, 3, 4] [1, 2, 5, 6, 7, 8, 9, 10, 11, 12, 13, 14, 15, 16, 17, 18, 19, 20, 21, 22, 23, 24, 25, 26, 27, 28, 30] rfl rfl (by decide) (by decide) (by decide) jw_1177 jw_1178 jw_985 jw_1176 jn_L_account rfl (jj_le rfl) (jj_le rfl) (jj_le rfl) (jj_le rfl) (jj_le rfl) dL_law_998 rfl (fun _ _ hX => hX.elim) (fun w1 r O_47 => ?_)
  rcases O_47 with ⟨c_48, rfl, rfl⟩ | ⟨c_49, c_50, rfl, rfl⟩ | ⟨c_51, c_52, rfl, rfl⟩
  · refine jj_apd rfl ?_
    refine jj_istore C dL_law_1001 (by decide) rfl ?_
    refine jj_aload_n C dL_law_1003 rfl ?_
    refine jj_aload_n C dL_law_1004 rfl ?_
    refine jj_iload C dL_law_1005 rfl ?_
    refine jj_iconst (v := 1) C dL_law_1007 (by decide) ?_
    refine jj_iadd (v := 1) C dL_law_1008 (by decide) ?_
    refine jj_xld (v := xs 1) C hX hbl hbA (vp_in_iff.mpr (by decide)) rfl dL_law_1009 ?_
    refine jq_callV (rest := []) C (ct_X11_account_1 hl D cA ak q_28 q_31 q_32 q_33 q_34 q_35 q_36 q_37 q_38 q_39 q_40 q_41 q_42 (xs 1)) [13, 25] [0, 1, 2, 3, 4, 5, 6, 7, 8, 9, 10, 11, 12, 14, 15, 16, 17, 18, 19, 20, 21, 22, 23, 24, 26, 27] rfl rfl (by decide) (by decide) (by decide) 0 rfl rfl rfl jw_1180 jw_1181 jw_1182 jw_224 jw_486 jn_X11_account rfl (jj_le rfl) (jj_le rfl) (jj_le rfl) (jj_le rfl) (jj_le rfl) dL_law_1010 rfl (fun _ _ hX => hX.elim) (fun w1 r O_54 => ?_)
    rcases O_54 with ⟨c_55, rfl, rfl⟩ | ⟨c_56, c_57, rfl, rfl⟩ | ⟨c_58, c_59, c_60, rfl, rfl⟩ | ⟨c_61, c_62, c_63, rfl, rfl⟩ | ⟨c_64, c_65, c_66, rfl, rfl⟩ | ⟨c_67, c_68, c_69, rfl, rfl⟩ | ⟨c_70, c_71, c_72, rfl, rfl⟩ | ⟨c_73, c_74, c_75, rfl, rfl⟩
    · refine jj_apd rfl ?_
      refine jj_lstore C dL_law_1013 (by decide) rfl ?_
      refine jj_aload_n C dL_law_1015 rfl ?_
      refine jq_callV (rest := []) C (ct_X11_thrown_2 hl D cA ak q_28 q_31 q_32 q_33 q_34 q_35 q_36 q_37 q_38 q_39 q_40 q_41 q_42) [27] [0, 1, 2, 3, 4, 5, 6, 7, 8, 9, 10, 11, 12, 13, 14, 15, 16, 17, 18, 19, 20, 21, 22, 23, 24, 25, 26] rfl rfl (by decide) (by decide) (by decide) 0 rfl rfl rfl jw_993 jw_994 jw_995 jw_224 jw_992 jn_X11_thrown rfl (jj_le rfl) (jj_le rfl) (jj_le rfl) (jj_le rfl) (jj_le rfl) dL_law_1016 rfl (fun _ _ hX => hX.elim) (fun w1 r O_77 => ?_)
      obtain ⟨rfl, rfl⟩ := O_77
      refine jj_apd rfl ?_
      refine jj_iload C dL_law_1019 rfl ?_
      refine jj_icmp_eqT (tgt := 1026) C dL_law_1021 (by decide) (by decide) ?_
      refine jj_iload C dL_law_1026 rfl ?_
      refine jj_if_neT (tgt := 1042) C dL_law_1028 (by decide) (by decide) ?_
      refine jj_goto (tgt := 2259) C dL_law_1042 (by decide) ?_
      exact jj_loc [7, 2] rfl (jj_drop [] rfl (by decide) (jj_widen (k := 600006) (n := 7302072) (jj_le rfl) (jj_le rfl) hend))
    · refine jj_apd rfl ?_
      refine jj_lstore C dL_law_1013 (by decide) rfl ?_
      refine jj_aload_n C dL_law_1015 rfl ?_
      refine jq_callV (rest := []) C (ct_X11_thrown_2 hl D cA ak q_28 q_31 q_32 q_33 q_34 q_35 q_36 q_37 q_38 q_39 q_40 q_41 q_42) [27] [0, 1, 2, 3, 4, 5, 6, 7, 8, 9, 10, 11, 12, 13, 14, 15, 16, 17, 18, 19, 20, 21, 22, 23, 24, 25, 26] rfl rfl (by decide) (by decide) (by decide) 0 rfl rfl rfl jw_993 jw_994 jw_995 jw_224 jw_992 jn_X11_thrown rfl (jj_le rfl) (jj_le rfl) (jj_le rfl) (jj_le rfl) (jj_le rfl) dL_law_1016 rfl (fun _ _ hX => hX.elim) (fun w1 r O_79 => ?_)
      obtain ⟨rfl, rfl⟩ := O_79
      refine jj_apd rfl ?_
      refine jj_iload C dL_law_1019 rfl ?_
      refine jj_icmp_eqT (tgt := 1026) C dL_law_1021 (by decide) (by decide) ?_
      refine jj_iload C dL_law_1026 rfl ?_
      refine jj_if_neT (tgt := 1042) C dL_law_1028 (by decide) (by decide) ?_
      refine jj_goto (tgt := 2259) C dL_law_1042 (by decide) ?_
      exact jj_loc [7, 2] rfl (jj_drop [] rfl (by decide) (jj_widen (k := 600006) (n := 7302072) (jj_le rfl) (jj_le rfl) hend))
    · refine jj_apd rfl ?_
      refine jj_lstore C dL_law_1013 (by decide) rfl ?_
      refine jj_aload_n C dL_law_1015 rfl ?_
      refine jq_callV (rest := []) C (ct_X11_thrown_7 hl D cA ak q_28 q_31 q_32 q_33 q_34 q_35 q_36 q_37 q_38 q_39 q_40 q_41 q_42) [27] [0, 1, 2, 3, 4, 5, 6, 7, 8, 9, 10, 11, 12, 13, 14, 15, 16, 17, 18, 19, 20, 21, 22, 23, 24, 25, 26] rfl rfl (by decide) (by decide) (by decide) 0 rfl rfl rfl jw_993 jw_994 jw_995 jw_224 jw_992 jn_X11_thrown rfl (jj_le rfl) (jj_le rfl) (jj_le rfl) (jj_le rfl) (jj_le rfl) dL_law_1016 rfl (fun _ _ hX => hX.elim) (fun w1 r O_81 => ?_)
      obtain ⟨rfl, rfl⟩ := O_81
      refine jj_apd rfl ?_
      refine jj_iload C dL_law_1019 rfl ?_
      refine jj_icmp_eqF (tgt := 1026) C dL_law_1021 (by decide) (by decide) ?_
      refine jj_iconst (v := 0) C dL_law_1024 (by decide) ?_
      exfalso; have z0 := jc_lt (a := (xs 1).toInt) (b := (0)) c_48 rfl (by decide); have z1 := jc_nltL (a := (xs 1).toInt) (b := (0)) c_58 (Int32.toInt_toInt64 _) (by decide); have z2 := jc_nltL (a := (5)) (b := (xs 1).toInt) c_59 (by decide) (Int32.toInt_toInt64 _); have z3 := jc_eq (a := (xs 1).toInt) (b := (0)) c_60 rfl (by decide); omega
    · refine jj_apd rfl ?_
      refine jj_lstore C dL_law_1013 (by decide) rfl ?_
      refine jj_aload_n C dL_law_1015 rfl ?_
      refine jq_callV (rest := []) C (ct_X11_thrown_7 hl D cA ak q_28 q_31 q_32 q_33 q_34 q_35 q_36 q_37 q_38 q_39 q_40 q_41 q_42) [27] [0, 1, 2, 3, 4, 5, 6, 7, 8, 9, 10, 11, 12, 13, 14, 15, 16, 17, 18, 19, 20, 21, 22, 23, 24, 25, 26] rfl rfl (by decide) (by decide) (by decide) 0 rfl rfl rfl jw_993 jw_994 jw_995 jw_224 jw_992 jn_X11_thrown rfl (jj_le rfl) (jj_le rfl) (jj_le rfl) (jj_le rfl) (jj_le rfl) dL_law_1016 rfl (fun _ _ hX => hX.elim) (fun w1 r O_83 => ?_)
      obtain ⟨rfl, rfl⟩ := O_83
      refine jj_apd rfl ?_
      refine jj_iload C dL_law_1019 rfl ?_
      refine jj_icmp_eqF (tgt := 1026) C dL_law_1021 (by decide) (by decide) ?_
      refine jj_iconst (v := 0) C dL_law_1024 (by decide) ?_
      exfalso; have z0 := jc_lt (a := (xs 1).toInt) (b := (0)) c_48 rfl (by decide); have z1 := jc_nltL (a := (xs 1).toInt) (b := (0)) c_61 (Int32.toInt_toInt64 _) (by decide); have z2 := jc_nltL (a := (5)) (b := (xs 1).toInt) c_62 (by decide) (Int32.toInt_toInt64 _); have z3 := jc_eq (a := (xs 1).toInt) (b := (1)) c_63 rfl (by decide); omega
    · refine jj_apd rfl ?_
      refine jj_lstore C dL_law_1013 (by decide) rfl ?_
      refine jj_aload_n C dL_law_1015 rfl ?_
      refine jq_callV (rest := []) C (ct_X11_thrown_7 hl D cA ak q_28 q_31 q_32 q_33 q_34 q_35 q_36 q_37 q_38 q_39 q_40 q_41 q_42) [27] [0, 1, 2, 3, 4, 5, 6, 7, 8, 9, 10, 11, 12, 13, 14, 15, 16, 17, 18, 19, 20, 21, 22, 23, 24, 25, 26] rfl rfl (by decide) (by decide) (by decide) 0 rfl rfl rfl jw_993 jw_994 jw_995 jw_224 jw_992 jn_X11_thrown rfl (jj_le rfl) (jj_le rfl) (jj_le rfl) (jj_le rfl) (jj_le rfl) dL_law_1016 rfl (fun _ _ hX => hX.elim) (fun w1 r O_85 => ?_)
      obtain ⟨rfl, rfl⟩ := O_85
      refine jj_apd rfl ?_
      refine jj_iload C dL_law_1019 rfl ?_
      refine jj_icmp_eqF (tgt := 1026) C dL_law_1021 (by decide) (by decide) ?_
      refine jj_iconst (v := 0) C dL_law_1024 (by decide) ?_
      exfalso; have z0 := jc_lt (a := (xs 1).toInt) (b := (0)) c_48 rfl (by decide); have z1 := jc_nltL (a := (xs 1).toInt) (b := (0)) c_64 (Int32.toInt_toInt64 _) (by decide); have z2 := jc_nltL (a := (5)) (b := (xs 1).toInt) c_65 (by decide) (Int32.toInt_toInt64 _); have z3 := jc_eq (a := (xs 1).toInt) (b := (2)) c_66 rfl (by decide); omega
    · refine jj_apd rfl ?_
      refine jj_lstore C dL_law_1013 (by decide) rfl ?_
      refine jj_aload_n C dL_law_1015 rfl ?_
      refine jq_callV (rest := []) C (ct_X11_thrown_7 hl D cA ak q_28 q_31 q_32 q_33 q_34 q_35 q_36 q_37 q_38 q_39 q_40 q_41 q_42) [27] [0, 1, 2, 3, 4, 5, 6, 7, 8, 9, 10, 11, 12, 13, 14, 15, 16, 17, 18, 19, 20, 21, 22, 23, 24, 25, 26] rfl rfl (by decide) (by decide) (by decide) 0 rfl rfl rfl jw_993 jw_994 jw_995 jw_224 jw_992 jn_X11_thrown rfl (jj_le rfl) (jj_le rfl) (jj_le rfl) (jj_le rfl) (jj_le rfl) dL_law_1016 rfl (fun _ _ hX => hX.elim) (fun w1 r O_87 => ?_)
      obtain ⟨rfl, rfl⟩ := O_87
      refine jj_apd rfl ?_
      refine jj_iload C dL_law_1019 rfl ?_
      refine jj_icmp_eqF (tgt := 1026) C dL_law_1021 (by decide) (by decide) ?_
      refine jj_iconst (v := 0) C dL_law_1024 (by decide) ?_
      exfalso; have z0 := jc_lt (a := (xs 1).toInt) (b := (0)) c_48 rfl (by decide); have z1 := jc_nltL (a := (xs 1).toInt) (b := (0)) c_67 (Int32.toInt_toInt64 _) (by decide); have z2 := jc_nltL (a := (5)) (b := (xs 1).toInt) c_68 (by decide) (Int32.toInt_toInt64 _); have z3 := jc_eq (a := (xs 1).toInt) (b := (3)) c_69 rfl (by decide); omega
    · refine jj_apd rfl ?_
      refine jj_lstore C dL_law_1013 (by decide) rfl ?_
      refine jj_aload_n C dL_law_1015 rfl ?_
      refine jq_callV (rest := []) C (ct_X11_thrown_7 hl D cA ak q_28 q_31 q_32 q_33 q_34 q_35 q_36 q_37 q_38 q_39 q_40 q_41 q_42) [27] [0, 1, 2, 3, 4, 5, 6, 7, 8, 9, 10, 11, 12, 13, 14, 15, 16, 17, 18, 19, 20, 21, 22, 23, 24, 25, 26] rfl rfl (by decide) (by decide) (by decide) 0 rfl rfl rfl jw_993 jw_994 jw_995 jw_224 jw_992 jn_X11_thrown rfl (jj_le rfl) (jj_le rfl) (jj_le rfl) (jj_le rfl) (jj_le rfl) dL_law_1016 rfl (fun _ _ hX => hX.elim) (fun w1 r O_89 => ?_)
      obtain ⟨rfl, rfl⟩ := O_89
      refine jj_apd rfl ?_
      refine jj_iload C dL_law_1019 rfl ?_
      refine jj_icmp_eqF (tgt := 1026) C dL_law_1021 (by decide) (by decide) ?_
      refine jj_iconst (v := 0) C dL_law_1024 (by decide) ?_
      exfalso; have z0 := jc_lt (a := (xs 1).toInt) (b := (0)) c_48 rfl (by decide); have z1 := jc_nltL (a := (xs 1).toInt) (b := (0)) c_70 (Int32.toInt_toInt64 _) (by decide); have z2 := jc_nltL (a := (5)) (b := (xs 1).toInt) c_71 (by decide) (Int32.toInt_toInt64 _); have z3 := jc_eq (a := (xs 1).toInt) (b := (4)) c_72 rfl (by decide); omega
    · refine jj_apd rfl ?_
      refine jj_lstore C dL_law_1013 (by decide) rfl ?_
      refine jj_aload_n C dL_law_1015 rfl ?_
      refine jq_callV (rest := []) C (ct_X11_thrown_7 hl D cA ak q_28 q_31 q_32 q_33 q_34 q_35 q_36 q_37 q_38 q_39 q_40 q_41 q_42) [27] [0, 1, 2, 3, 4, 5, 6, 7, 8, 9, 10, 11, 12, 13, 14, 15, 16, 17, 18, 19, 20, 21, 22, 23, 24, 25, 26] rfl rfl (by decide) (by decide) (by decide) 0 rfl rfl rfl jw_993 jw_994 jw_995 jw_224 jw_992 jn_X11_thrown rfl (jj_le rfl) (jj_le rfl) (jj_le rfl) (jj_le rfl) (jj_le rfl) dL_law_1016 rfl (fun _ _ hX => hX.elim) (fun w1 r O_91 => ?_)
      obtain ⟨rfl, rfl⟩ := O_91
      refine jj_apd rfl ?_
      refine jj_iload C dL_law_1019 rfl ?_
      refine jj_icmp_eqF (tgt := 1026) C dL_law_1021 (by decide) (by decide) ?_
      refine jj_iconst (v := 0) C dL_law_1024 (by decide) ?_
      exfalso; have z0 := jc_lt (a := (xs 1).toInt) (b := (0)) c_48 rfl (by decide); have z1 := jc_nltL (a := (xs 1).toInt) (b := (0)) c_73 (Int32.toInt_toInt64 _) (by decide); have z2 := jc_nltL (a := (5)) (b := (xs 1).toInt) c_74 (by decide) (Int32.toInt_toInt64 _); have z3 := jc_eq (a := (xs 1).toInt) (b := (5)) c_75 rfl (by decide); omega
  · refine jj_apd rfl ?_
    refine jj_istore C dL_law_1001 (by decide) rfl ?_
    refine jj_aload_n C dL_law_1003 rfl ?_
    refine jj_aload_n C dL_law_1004 rfl ?_
    refine jj_iload C dL_law_1005 rfl ?_
    refine jj_iconst (v := 1) C dL_law_1007 (by decide) ?_
    refine jj_iadd (v := 1) C dL_law_1008 (by decide) ?_
    refine jj_xld (v := xs 1) C hX hbl hbA (vp_in_iff.mpr (by decide)) rfl dL_law_1009 ?_
    refine jq_callV (rest := []) C (ct_X11_account_1 hl D cA ak q_28 q_31 q_32 q_33 q_34 q_35 q_36 q_37 q_38 q_39 q_40 q_41 q_42 (xs 1)) [13, 25] [0, 1, 2, 3, 4, 5, 6, 7, 8, 9, 10, 11, 12, 14, 15, 16, 17, 18, 19, 20, 21, 22, 23, 24, 26, 27] rfl rfl (by decide) (by decide) (by decide) 0 rfl rfl rfl jw_1180 jw_1181 jw_1182 jw_224 jw_486 jn_X11_account rfl (jj_le rfl) (jj_le rfl) (jj_le rfl) (jj_le rfl) (jj_le rfl) dL_law_1010 rfl (fun _ _ hX => hX.elim) (fun w1 r O_93 => ?_)
    rcases O_93 with ⟨c_94, rfl, rfl⟩ | ⟨c_95, c_96, rfl, rfl⟩ | ⟨c_97, c_98, c_99, rfl, rfl⟩ | ⟨c_100, c_101, c_102, rfl, rfl⟩ | ⟨c_103, c_104, c_105, rfl, rfl⟩ | ⟨c_106, c_107, c_108, rfl, rfl⟩ | ⟨c_109, c_110, c_111, rfl, rfl⟩ | ⟨c_112, c_113, c_114, rfl, rfl⟩
    · refine jj_apd rfl ?_
      refine jj_lstore C dL_law_1013 (by decide) rfl ?_
      refine jj_aload_n C dL_law_1015 rfl ?_
      refine jq_callV (rest := []) C (ct_X11_thrown_2 hl D cA ak q_28 q_31 q_32 q_33 q_34 q_35 q_36 q_37 q_38 q_39 q_40 q_41 q_42) [27] [0, 1, 2, 3, 4, 5, 6, 7, 8, 9, 10, 11, 12, 13, 14, 15, 16, 17, 18, 19, 20, 21, 22, 23, 24, 25, 26] rfl rfl (by decide) (by decide) (by decide) 0 rfl rfl rfl jw_993 jw_994 jw_995 jw_224 jw_992 jn_X11_thrown rfl (jj_le rfl) (jj_le rfl) (jj_le rfl) (jj_le rfl) (jj_le rfl) dL_law_1016 rfl (fun _ _ hX => hX.elim) (fun w1 r O_116 => ?_)
      obtain ⟨rfl, rfl⟩ := O_116
      refine jj_apd rfl ?_
      refine jj_iload C dL_law_1019 rfl ?_
      refine jj_icmp_eqT (tgt := 1026) C dL_law_1021 (by decide) (by decide) ?_
      refine jj_iload C dL_law_1026 rfl ?_
      refine jj_if_neT (tgt := 1042) C dL_law_1028 (by decide) (by decide) ?_
      refine jj_goto (tgt := 2259) C dL_law_1042 (by decide) ?_
      exact jj_loc [7, 2] rfl (jj_drop [] rfl (by decide) (jj_widen (k := 600006) (n := 7302072) (jj_le rfl) (jj_le rfl) hend))
    · refine jj_apd rfl ?_
      refine jj_lstore C dL_law_1013 (by decide) rfl ?_
      refine jj_aload_n C dL_law_1015 rfl ?_
      refine jq_callV (rest := []) C (ct_X11_thrown_2 hl D cA ak q_28 q_31 q_32 q_33 q_34 q_35 q_36 q_37 q_38 q_39 q_40 q_41 q_42) [27] [0, 1, 2, 3, 4, 5, 6, 7, 8, 9, 10, 11, 12, 13, 14, 15, 16, 17, 18, 19, 20, 21, 22, 23, 24, 25, 26] rfl rfl (by decide) (by decide) (by decide) 0 rfl rfl rfl jw_993 jw_994 jw_995 jw_224 jw_992 jn_X11_thrown rfl (jj_le rfl) (jj_le rfl) (jj_le rfl) (jj_le rfl) (jj_le rfl) dL_law_1016 rfl (fun _ _ hX => hX.elim) (fun w1 r O_118 => ?_)
      obtain ⟨rfl, rfl⟩ := O_118
      refine jj_apd rfl ?_
      refine jj_iload C dL_law_1019 rfl ?_
      refine jj_icmp_eqT (tgt := 1026) C dL_law_1021 (by decide) (by decide) ?_
      refine jj_iload C dL_law_1026 rfl ?_
      refine jj_if_neT (tgt := 1042) C dL_law_1028 (by decide) (by decide) ?_
      refine jj_goto (tgt := 2259) C dL_law_1042 (by decide) ?_
      exact jj_loc [7, 2] rfl (jj_drop [] rfl (by decide) (jj_widen (k := 600006) (n := 7302072) (jj_le rfl) (jj_le rfl) hend))
    · refine jj_apd rfl ?_
      refine jj_lstore C dL_law_1013 (by decide) rfl ?_
      refine jj_aload_n C dL_law_1015 rfl ?_
      refine jq_callV (rest := []) C (ct_X11_thrown_7 hl D cA ak q_28 q_31 q_32 q_33 q_34 q_35 q_36 q_37 q_38 q_39 q_40 q_41 q_42) [27] [0, 1, 2, 3, 4, 5, 6, 7, 8, 9, 10, 11, 12, 13, 14, 15, 16, 17, 18, 19, 20, 21, 22, 23, 24, 25, 26] rfl rfl (by decide) (by decide) (by decide) 0 rfl rfl rfl jw_993 jw_994 jw_995 jw_224 jw_992 jn_X11_thrown rfl (jj_le rfl) (jj_le rfl) (jj_le rfl) (jj_le rfl) (jj_le rfl) dL_law_1016 rfl (fun _ _ hX => hX.elim) (fun w1 r O_120 => ?_)
      obtain ⟨rfl, rfl⟩ := O_120
      refine jj_apd rfl ?_
      refine jj_iload C dL_law_1019 rfl ?_
      refine jj_icmp_eqF (tgt := 1026) C dL_law_1021 (by decide) (by decide) ?_
      refine jj_iconst (v := 0) C dL_law_1024 (by decide) ?_
      exfalso; have z0 := jc_nlt (a := (xs 1).toInt) (b := (0)) c_49 rfl (by decide); have z1 := jc_nlt (a := (xs 1).toInt) (b := (6)) c_50 rfl (by decide); have z2 := jc_nltL (a := (xs 1).toInt) (b := (0)) c_97 (Int32.toInt_toInt64 _) (by decide); have z3 := jc_nltL (a := (5)) (b := (xs 1).toInt) c_98 (by decide) (Int32.toInt_toInt64 _); have z4 := jc_eq (a := (xs 1).toInt) (b := (0)) c_99 rfl (by decide); omega
    · refine jj_apd rfl ?_
      refine jj_lstore C dL_law_1013 (by decide) rfl ?_
      refine jj_aload_n C dL_law_1015 rfl ?_
      refine jq_callV (rest := []) C (ct_X11_thrown_7 hl D cA ak q_28 q_31 q_32 q_33 q_34 q_35 q_36 q_37 q_38 q_39 q_40 q_41 q_42) [27] [0, 1, 2, 3, 4, 5, 6, 7, 8, 9, 10, 11, 12, 13, 14, 15, 16, 17, 18, 19, 20, 21, 22, 23, 24, 25, 26] rfl rfl (by decide) (by decide) (by decide) 0 rfl rfl rfl jw_993 jw_994 jw_995 jw_224 jw_992 jn_X11_thrown rfl (jj_le rfl) (jj_le rfl) (jj_le rfl) (jj_le rfl) (jj_le rfl) dL_law_1016 rfl (fun _ _ hX => hX.elim) (fun w1 r O_122 => ?_)
      obtain ⟨rfl, rfl⟩ := O_122
      refine jj_apd rfl ?_
      refine jj_iload C dL_law_1019 rfl ?_
      refine jj_icmp_eqF (tgt := 1026) C dL_law_1021 (by decide) (by decide) ?_
      refine jj_iconst (v := 0) C dL_law_1024 (by decide) ?_
      exfalso; have z0 := jc_nlt (a := (xs 1).toInt) (b := (0)) c_49 rfl (by decide); have z1 := jc_nlt (a := (xs 1).toInt) (b := (6)) c_50 rfl (by decide); have z2 := jc_nltL (a := (xs 1).toInt) (b := (0)) c_100 (Int32.toInt_toInt64 _) (by decide); have z3 := jc_nltL (a := (5)) (b := (xs 1).toInt) c_101 (by decide) (Int32.toInt_toInt64 _); have z4 := jc_eq (a := (xs 1).toInt) (b := (1)) c_102 rfl (by decide); omega
    · refine jj_apd rfl ?_
      refine jj_lstore C dL_law_1013 (by decide) rfl ?_
      refine jj_aload_n C dL_law_1015 rfl ?_
      refine jq_callV (rest := []) C (ct_X11_thrown_7 hl D cA ak q_28 q_31 q_32 q_33 q_34 q_35 q_36 q_37 q_38 q_39 q_40 q_41 q_42) [27] [0, 1, 2, 3, 4, 5, 6, 7, 8, 9, 10, 11, 12, 13, 14, 15, 16, 17, 18, 19, 20, 21, 22, 23, 24, 25, 26] rfl rfl (by decide) (by decide) (by decide) 0 rfl rfl rfl jw_993 jw_994 jw_995 jw_224 jw_992 jn_X11_thrown rfl (jj_le rfl) (jj_le rfl) (jj_le rfl) (jj_le rfl) (jj_le rfl) dL_law_1016 rfl (fun _ _ hX => hX.elim) (fun w1 r O_124 => ?_)
      obtain ⟨rfl, rfl⟩ := O_124
      refine jj_apd rfl ?_
      refine jj_iload C dL_law_1019 rfl ?_
      refine jj_icmp_eqF (tgt := 1026) C dL_law_1021 (by decide) (by decide) ?_
      refine jj_iconst (v := 0) C dL_law_1024 (by decide) ?_
      exfalso; have z0 := jc_nlt (a := (xs 1).toInt) (b := (0)) c_49 rfl (by decide); have z1 := jc_nlt (a := (xs 1).toInt) (b := (6)) c_50 rfl (by decide); have z2 := jc_nltL (a := (xs 1).toInt) (b := (0)) c_103 (Int32.toInt_toInt64 _) (by decide); have z3 := jc_nltL (a := (5)) (b := (xs 1).toInt) c_104 (by decide) (Int32.toInt_toInt64 _); have z4 := jc_eq (a := (xs 1).toInt) (b := (2)) c_105 rfl (by decide); omega
    · refine jj_apd rfl ?_
      refine jj_lstore C dL_law_1013 (by decide) rfl ?_
      refine jj_aload_n C dL_law_1015 rfl ?_
      refine jq_callV (rest := []) C (ct_X11_thrown_7 hl D cA ak q_28 q_31 q_32 q_33 q_34 q_35 q_36 q_37 q_38 q_39 q_40 q_41 q_42) [27] [0, 1, 2, 3, 4, 5, 6, 7, 8, 9, 10, 11, 12, 13, 14, 15, 16, 17, 18, 19, 20, 21, 22, 23, 24, 25, 26] rfl rfl (by decide) (by decide) (by decide) 0 rfl rfl rfl jw_993 jw_994 jw_995 jw_224 jw_992 jn_X11_thrown rfl (jj_le rfl) (jj_le rfl) (jj_le rfl) (jj_le rfl) (jj_le rfl) dL_law_1016 rfl (fun _ _ hX => hX.elim) (fun w1 r O_126 => ?_)
      obtain ⟨rfl, rfl⟩ := O_126
      refine jj_apd rfl ?_
      refine jj_iload C dL_law_1019 rfl ?_
      refine jj_icmp_eqF (tgt := 1026) C dL_law_1021 (by decide) (by decide) ?_
      refine jj_iconst (v := 0) C dL_law_1024 (by decide) ?_
      exfalso; have z0 := jc_nlt (a := (xs 1).toInt) (b := (0)) c_49 rfl (by decide); have z1 := jc_nlt (a := (xs 1).toInt) (b := (6)) c_50 rfl (by decide); have z2 := jc_nltL (a := (xs 1).toInt) (b := (0)) c_106 (Int32.toInt_toInt64 _) (by decide); have z3 := jc_nltL (a := (5)) (b := (xs 1).toInt) c_107 (by decide) (Int32.toInt_toInt64 _); have z4 := jc_eq (a := (xs 1).toInt) (b := (3)) c_108 rfl (by decide); omega
    · refine jj_apd rfl ?_
      refine jj_lstore C dL_law_1013 (by decide) rfl ?_
      refine jj_aload_n C dL_law_1015 rfl ?_
      refine jq_callV (rest := []) C (ct_X11_thrown_7 hl D cA ak q_28 q_31 q_32 q_33 q_34 q_35 q_36 q_37 q_38 q_39 q_40 q_41 q_42) [27] [0, 1, 2, 3, 4, 5, 6, 7, 8, 9, 10, 11, 12, 13, 14, 15, 16, 17, 18, 19, 20, 21, 22, 23, 24, 25, 26] rfl rfl (by decide) (by decide) (by decide) 0 rfl rfl rfl jw_993 jw_994 jw_995 jw_224 jw_992 jn_X11_thrown rfl (jj_le rfl) (jj_le rfl) (jj_le rfl) (jj_le rfl) (jj_le rfl) dL_law_1016 rfl (fun _ _ hX => hX.elim) (fun w1 r O_128 => ?_)
      obtain ⟨rfl, rfl⟩ := O_128
      refine jj_apd rfl ?_
      refine jj_iload C dL_law_1019 rfl ?_
      refine jj_icmp_eqF (tgt := 1026) C dL_law_1021 (by decide) (by decide) ?_
      refine jj_iconst (v := 0) C dL_law_1024 (by decide) ?_
      exfalso; have z0 := jc_nlt (a := (xs 1).toInt) (b := (0)) c_49 rfl (by decide); have z1 := jc_nlt (a := (xs 1).toInt) (b := (6)) c_50 rfl (by decide); have z2 := jc_nltL (a := (xs 1).toInt) (b := (0)) c_109 (Int32.toInt_toInt64 _) (by decide); have z3 := jc_nltL (a := (5)) (b := (xs 1).toInt) c_110 (by decide) (Int32.toInt_toInt64 _); have z4 := jc_eq (a := (xs 1).toInt) (b := (4)) c_111 rfl (by decide); omega
    · refine jj_apd rfl ?_
      refine jj_lstore C dL_law_1013 (by decide) rfl ?_
      refine jj_aload_n C dL_law_1015 rfl ?_
      refine jq_callV (rest := []) C (ct_X11_thrown_7 hl D cA ak q_28 q_31 q_32 q_33 q_34 q_35 q_36 q_37 q_38 q_39 q_40 q_41 q_42) [27] [0, 1, 2, 3, 4, 5, 6, 7, 8, 9, 10, 11, 12, 13, 14, 15, 16, 17, 18, 19, 20, 21, 22, 23, 24, 25, 26] rfl rfl (by decide) (by decide) (by decide) 0 rfl rfl rfl jw_993 jw_994 jw_995 jw_224 jw_992 jn_X11_thrown rfl (jj_le rfl) (jj_le rfl) (jj_le rfl) (jj_le rfl) (jj_le rfl) dL_law_1016 rfl (fun _ _ hX => hX.elim) (fun w1 r O_130 => ?_)
      obtain ⟨rfl, rfl⟩ := O_130
      refine jj_apd rfl ?_
      refine jj_iload C dL_law_1019 rfl ?_
      refine jj_icmp_eqF (tgt := 1026) C dL_law_1021 (by decide) (by decide) ?_
      refine jj_iconst (v := 0) C dL_law_1024 (by decide) ?_
      exfalso; have z0 := jc_nlt (a := (xs 1).toInt) (b := (0)) c_49 rfl (by decide); have z1 := jc_nlt (a := (xs 1).toInt) (b := (6)) c_50 rfl (by decide); have z2 := jc_nltL (a := (xs 1).toInt) (b := (0)) c_112 (Int32.toInt_toInt64 _) (by decide); have z3 := jc_nltL (a := (5)) (b := (xs 1).toInt) c_113 (by decide) (Int32.toInt_toInt64 _); have z4 := jc_eq (a := (xs 1).toInt) (b := (5)) c_114 rfl (by decide); omega
  · refine jj_apd rfl ?_
    refine jj_istore C dL_law_1001 (by decide) rfl ?_
    refine jj_aload_n C dL_law_1003 rfl ?_
    refine jj_aload_n C dL_law_1004 rfl ?_
    refine jj_iload C dL_law_1005 rfl ?_
    refine jj_iconst (v := 1) C dL_law_1007 (by decide) ?_
    refine jj_iadd (v := 1) C dL_law_1008 (by decide) ?_
    refine jj_xld (v := xs 1) C hX hbl hbA (vp_in_iff.mpr (by decide)) rfl dL_law_1009 ?_
    refine jq_callV (rest := []) C (ct_X11_account_1 hl D cA ak q_28 q_31 q_32 q_33 q_34 q_35 q_36 q_37 q_38 q_39 q_40 q_41 q_42 (xs 1)) [13, 25] [0, 1, 2, 3, 4, 5, 6, 7, 8, 9, 10, 11, 12, 14, 15, 16, 17, 18, 19, 20, 21, 22, 23, 24, 26, 27] rfl rfl (by decide) (by decide) (by decide) 0 rfl rfl rfl jw_1180 jw_1181 jw_1182 jw_224 jw_486 jn_X11_account rfl (jj_le rfl) (jj_le rfl) (jj_le rfl) (jj_le rfl) (jj_le rfl) dL_law_1010 rfl (fun _ _ hX => hX.elim) (fun w1 r O_132 => ?_)
    rcases O_132 with ⟨c_133, rfl, rfl⟩ | ⟨c_134, c_135, rfl, rfl⟩ | ⟨c_136, c_137, c_138, rfl, rfl⟩ | ⟨c_139, c_140, c_141, rfl, rfl⟩ | ⟨c_142, c_143, c_144, rfl, rfl⟩ | ⟨c_145, c_146, c_147, rfl, rfl⟩ | ⟨c_148, c_149, c_150, rfl, rfl⟩ | ⟨c_151, c_152, c_153, rfl, rfl⟩
    · refine jj_apd rfl ?_
      refine jj_lstore C dL_law_1013 (by decide) rfl ?_
      refine jj_aload_n C dL_law_1015 rfl ?_
      refine jq_callV (rest := []) C (ct_X11_thrown_2 hl D cA ak q_28 q_31 q_32 q_33 q_34 q_35 q_36 q_37 q_38 q_39 q_40 q_41 q_42) [27] [0, 1, 2, 3, 4, 5, 6, 7, 8, 9, 10, 11, 12, 13, 14, 15, 16, 17, 18, 19, 20, 21, 22, 23, 24, 25, 26] rfl rfl (by decide) (by decide) (by decide) 0 rfl rfl rfl jw_993 jw_994 jw_995 jw_224 jw_992 jn_X11_thrown rfl (jj_le rfl) (jj_le rfl) (jj_le rfl) (jj_le rfl) (jj_le rfl) dL_law_1016 rfl (fun _ _ hX => hX.elim) (fun w1 r O_155 => ?_)
      obtain ⟨rfl, rfl⟩ := O_155
      refine jj_apd rfl ?_
      refine jj_iload C dL_law_1019 rfl ?_
      refine jj_icmp_eqF (tgt := 1026) C dL_law_1021 (by decide) (by decide) ?_
      refine jj_iconst (v := 0) C dL_law_1024 (by decide) ?_
      exfalso; have z0 := jc_nlt (a := (xs 1).toInt) (b := (0)) c_51 rfl (by decide); have z1 := jc_lt (a := (xs 1).toInt) (b := (6)) c_52 rfl (by decide); have z2 := jc_ltL (a := (xs 1).toInt) (b := (0)) c_133 (Int32.toInt_toInt64 _) (by decide); omega
    · refine jj_apd rfl ?_
      refine jj_lstore C dL_law_1013 (by decide) rfl ?_
      refine jj_aload_n C dL_law_1015 rfl ?_
      refine jq_callV (rest := []) C (ct_X11_thrown_2 hl D cA ak q_28 q_31 q_32 q_33 q_34 q_35 q_36 q_37 q_38 q_39 q_40 q_41 q_42) [27] [0, 1, 2, 3, 4, 5, 6, 7, 8, 9, 10, 11, 12, 13, 14, 15, 16, 17, 18, 19, 20, 21, 22, 23, 24, 25, 26] rfl rfl (by decide) (by decide) (by decide) 0 rfl rfl rfl jw_993 jw_994 jw_995 jw_224 jw_992 jn_X11_thrown rfl (jj_le rfl) (jj_le rfl) (jj_le rfl) (jj_le rfl) (jj_le rfl) dL_law_1016 rfl (fun _ _ hX => hX.elim) (fun w1 r O_157 => ?_)
      obtain ⟨rfl, rfl⟩ := O_157
      refine jj_apd rfl ?_
      refine jj_iload C dL_law_1019 rfl ?_
      refine jj_icmp_eqF (tgt := 1026) C dL_law_1021 (by decide) (by decide) ?_
      refine jj_iconst (v := 0) C dL_law_1024 (by decide) ?_
      exfalso; have z0 := jc_nlt (a := (xs 1).toInt) (b := (0)) c_51 rfl (by decide); have z1 := jc_lt (a := (xs 1).toInt) (b := (6)) c_52 rfl (by decide); have z2 := jc_nltL (a := (xs 1).toInt) (b := (0)) c_134 (Int32.toInt_toInt64 _) (by decide); have z3 := jc_ltL (a := (5)) (b := (xs 1).toInt) c_135 (by decide) (Int32.toInt_toInt64 _); omega
    · refine jj_apd rfl ?_
      refine jj_lstore C dL_law_1013 (by decide) rfl ?_
      refine jj_aload_n C dL_law_1015 rfl ?_
      refine jq_callV (rest := []) C (ct_X11_thrown_7 hl D cA ak q_28 q_31 q_32 q_33 q_34 q_35 q_36 q_37 q_38 q_39 q_40 q_41 q_42) [27] [0, 1, 2, 3, 4, 5, 6, 7, 8, 9, 10, 11, 12, 13, 14, 15, 16, 17, 18, 19, 20, 21, 22, 23, 24, 25, 26] rfl rfl (by decide) (by decide) (by decide) 0 rfl rfl rfl jw_993 jw_994 jw_995 jw_224 jw_992 jn_X11_thrown rfl (jj_le rfl) (jj_le rfl) (jj_le rfl) (jj_le rfl) (jj_le rfl) dL_law_1016 rfl (fun _ _ hX => hX.elim) (fun w1 r O_159 => ?_)
      obtain ⟨rfl, rfl⟩ := O_159
      refine jj_apd rfl ?_
      refine jj_iload C dL_law_1019 rfl ?_
      refine jj_icmp_eqT (tgt := 1026) C dL_law_1021 (by decide) (by decide) ?_
      refine jj_iload C dL_law_1026 rfl ?_
      refine jj_if_neF (tgt := 1042) C dL_law_1028 (by decide) (by decide) ?_
      refine jj_aload_n C dL_law_1031 rfl ?_
      refine jj_iconst (v := 0) C dL_law_1032 (by decide) ?_
      refine jj_lald (v := 0) C 25 rfl (vp_in_iff.mpr (by decide)) rfl dL_law_1033 ?_
      refine jj_lload C dL_law_1034 rfl ?_
      refine jj_lcmp_eqT (tgt := 1042) C dL_law_1036 dL_law_1037 (by decide) (by decide) ?_
      refine jj_goto (tgt := 2259) C dL_law_1042 (by decide) ?_
      exact jj_loc [7, 2] rfl (jj_drop [] rfl (by decide) (jj_widen (k := 600006) (n := 7302072) (jj_le rfl) (jj_le rfl) hend))
    · refine jj_apd rfl ?_
      refine jj_lstore C dL_law_1013 (by decide) rfl ?_
      refine jj_aload_n C dL_law_1015 rfl ?_
      refine jq_callV (rest := []) C (ct_X11_thrown_7 hl D cA ak q_28 q_31 q_32 q_33 q_34 q_35 q_36 q_37 q_38 q_39 q_40 q_41 q_42) [27] [0, 1, 2, 3, 4, 5, 6, 7, 8, 9, 10, 11, 12, 13, 14, 15, 16, 17, 18, 19, 20, 21, 22, 23, 24, 25, 26] rfl rfl (by decide) (by decide) (by decide) 0 rfl rfl rfl jw_993 jw_994 jw_995 jw_224 jw_992 jn_X11_thrown rfl (jj_le rfl) (jj_le rfl) (jj_le rfl) (jj_le rfl) (jj_le rfl) dL_law_1016 rfl (fun _ _ hX => hX.elim) (fun w1 r O_161 => ?_)
      obtain ⟨rfl, rfl⟩ := O_161
      refine jj_apd rfl ?_
      refine jj_iload C dL_law_1019 rfl ?_
      refine jj_icmp_eqT (tgt := 1026) C dL_law_1021 (by decide) (by decide) ?_
      refine jj_iload C dL_law_1026 rfl ?_
      refine jj_if_neF (tgt := 1042) C dL_law_1028 (by decide) (by decide) ?_
      refine jj_aload_n C dL_law_1031 rfl ?_
      refine jj_iconst (v := 0) C dL_law_1032 (by decide) ?_
      refine jj_lald (v := 0) C 25 rfl (vp_in_iff.mpr (by decide)) rfl dL_law_1033 ?_
      refine jj_lload C dL_law_1034 rfl ?_
      refine jj_lcmp_eqT (tgt := 1042) C dL_law_1036 dL_law_1037 (by decide) (by decide) ?_
      refine jj_goto (tgt := 2259) C dL_law_1042 (by decide) ?_
      exact jj_loc [7, 2] rfl (jj_drop [] rfl (by decide) (jj_widen (k := 600006) (n := 7302072) (jj_le rfl) (jj_le rfl) hend))
    · refine jj_apd rfl ?_
      refine jj_lstore C dL_law_1013 (by decide) rfl ?_
      refine jj_aload_n C dL_law_1015 rfl ?_
      refine jq_callV (rest := []) C (ct_X11_thrown_7 hl D cA ak q_28 q_31 q_32 q_33 q_34 q_35 q_36 q_37 q_38 q_39 q_40 q_41 q_42) [27] [0, 1, 2, 3, 4, 5, 6, 7, 8, 9, 10, 11, 12, 13, 14, 15, 16, 17, 18, 19, 20, 21, 22, 23, 24, 25, 26] rfl rfl (by decide) (by decide) (by decide) 0 rfl rfl rfl jw_993 jw_994 jw_995 jw_224 jw_992 jn_X11_thrown rfl (jj_le rfl) (jj_le rfl) (jj_le rfl) (jj_le rfl) (jj_le rfl) dL_law_1016 rfl (fun _ _ hX => hX.elim) (fun w1 r O_163 => ?_)
      obtain ⟨rfl, rfl⟩ := O_163
      refine jj_apd rfl ?_
      refine jj_iload C dL_law_1019 rfl ?_
      refine jj_icmp_eqT (tgt := 1026) C dL_law_1021 (by decide) (by decide) ?_
      refine jj_iload C dL_law_1026 rfl ?_
      refine jj_if_neF (tgt := 1042) C dL_law_1028 (by decide) (by decide) ?_
      refine jj_aload_n C dL_law_1031 rfl ?_
      refine jj_iconst (v := 0) C dL_law_1032 (by decide) ?_
      refine jj_lald (v := 0) C 25 rfl (vp_in_iff.mpr (by decide)) rfl dL_law_1033 ?_
      refine jj_lload C dL_law_1034 rfl ?_
      refine jj_lcmp_eqT (tgt := 1042) C dL_law_1036 dL_law_1037 (by decide) (by decide) ?_
      refine jj_goto (tgt := 2259) C dL_law_1042 (by decide) ?_
      exact jj_loc [7, 2] rfl (jj_drop [] rfl (by decide) (jj_widen (k := 600006) (n := 7302072) (jj_le rfl) (jj_le rfl) hend))
    · refine jj_apd rfl ?_
      refine jj_lstore C dL_law_1013 (by decide) rfl ?_
      refine jj_aload_n C dL_law_1015 rfl ?_
      refine jq_callV (rest := []) C (ct_X11_thrown_7 hl D cA ak q_28 q_31 q_32 q_33 q_34 q_35 q_36 q_37 q_38 q_39 q_40 q_41 q_42) [27] [0, 1, 2, 3, 4, 5, 6, 7, 8, 9, 10, 11, 12, 13, 14, 15, 16, 17, 18, 19, 20, 21, 22, 23, 24, 25, 26] rfl rfl (by decide) (by decide) (by decide) 0 rfl rfl rfl jw_993 jw_994 jw_995 jw_224 jw_992 jn_X11_thrown rfl (jj_le rfl) (jj_le rfl) (jj_le rfl) (jj_le rfl) (jj_le rfl) dL_law_1016 rfl (fun _ _ hX => hX.elim) (fun w1 r O_165 => ?_)
      obtain ⟨rfl, rfl⟩ := O_165
      refine jj_apd rfl ?_
      refine jj_iload C dL_law_1019 rfl ?_
      refine jj_icmp_eqT (tgt := 1026) C dL_law_1021 (by decide) (by decide) ?_
      refine jj_iload C dL_law_1026 rfl ?_
      refine jj_if_neF (tgt := 1042) C dL_law_1028 (by decide) (by decide) ?_
      refine jj_aload_n C dL_law_1031 rfl ?_
      refine jj_iconst (v := 0) C dL_law_1032 (by decide) ?_
      refine jj_lald (v := 0) C 25 rfl (vp_in_iff.mpr (by decide)) rfl dL_law_1033 ?_
      refine jj_lload C dL_law_1034 rfl ?_
      refine jj_lcmp_eqT (tgt := 1042) C dL_law_1036 dL_law_1037 (by decide) (by decide) ?_
      refine jj_goto (tgt := 2259) C dL_law_1042 (by decide) ?_
      exact jj_loc [7, 2] rfl (jj_drop [] rfl (by decide) (jj_widen (k := 600006) (n := 7302072) (jj_le rfl) (jj_le rfl) hend))
    · refine jj_apd rfl ?_
      refine jj_lstore C dL_law_1013 (by decide) rfl ?_
      refine jj_aload_n C dL_law_1015 rfl ?_
      refine jq_callV (rest := []) C (ct_X11_thrown_7 hl D cA ak q_28 q_31 q_32 q_33 q_34 q_35 q_36 q_37 q_38 q_39 q_40 q_41 q_42) [27] [0, 1, 2, 3, 4, 5, 6, 7, 8, 9, 10, 11, 12, 13, 14, 15, 16, 17, 18, 19, 20, 21, 22, 23, 24, 25, 26] rfl rfl (by decide) (by decide) (by decide) 0 rfl rfl rfl jw_993 jw_994 jw_995 jw_224 jw_992 jn_X11_thrown rfl (jj_le rfl) (jj_le rfl) (jj_le rfl) (jj_le rfl) (jj_le rfl) dL_law_1016 rfl (fun _ _ hX => hX.elim) (fun w1 r O_167 => ?_)
      obtain ⟨rfl, rfl⟩ := O_167
      refine jj_apd rfl ?_
      refine jj_iload C dL_law_1019 rfl ?_
      refine jj_icmp_eqT (tgt := 1026) C dL_law_1021 (by decide) (by decide) ?_
      refine jj_iload C dL_law_1026 rfl ?_
      refine jj_if_neF (tgt := 1042) C dL_law_1028 (by decide) (by decide) ?_
      refine jj_aload_n C dL_law_1031 rfl ?_
      refine jj_iconst (v := 0) C dL_law_1032 (by decide) ?_
      refine jj_lald (v := 0) C 25 rfl (vp_in_iff.mpr (by decide)) rfl dL_law_1033 ?_
      refine jj_lload C dL_law_1034 rfl ?_
      refine jj_lcmp_eqT (tgt := 1042) C dL_law_1036 dL_law_1037 (by decide) (by decide) ?_
      refine jj_goto (tgt := 2259) C dL_law_1042 (by decide) ?_
      exact jj_loc [7, 2] rfl (jj_drop [] rfl (by decide) (jj_widen (k := 600006) (n := 7302072) (jj_le rfl) (jj_le rfl) hend))
    · refine jj_apd rfl ?_
      refine jj_lstore C dL_law_1013 (by decide) rfl ?_
      refine jj_aload_n C dL_law_1015 rfl ?_
      refine jq_callV (rest := []) C (ct_X11_thrown_7 hl D cA ak q_28 q_31 q_32 q_33 q_34 q_35 q_36 q_37 q_38 q_39 q_40 q_41 q_42) [27] [0, 1, 2, 3, 4, 5, 6, 7, 8, 9, 10, 11, 12, 13, 14, 15, 16, 17, 18, 19, 20, 21, 22, 23, 24, 25, 26] rfl rfl (by decide) (by decide) (by decide) 0 rfl rfl rfl jw_993 jw_994 jw_995 jw_224 jw_992 jn_X11_thrown rfl (jj_le rfl) (jj_le rfl) (jj_le rfl) (jj_le rfl) (jj_le rfl) dL_law_1016 rfl (fun _ _ hX => hX.elim) (fun w1 r O_169 => ?_)
      obtain ⟨rfl, rfl⟩ := O_169
      refine jj_apd rfl ?_
      refine jj_iload C dL_law_1019 rfl ?_
      refine jj_icmp_eqT (tgt := 1026) C dL_law_1021 (by decide) (by decide) ?_
      refine jj_iload C dL_law_1026 rfl ?_
      refine jj_if_neF (tgt := 1042) C dL_law_1028 (by decide) (by decide) ?_
      refine jj_aload_n C dL_law_1031 rfl ?_
      refine jj_iconst (v := 0) C dL_law_1032 (by decide) ?_
      refine jj_lald (v := 0) C 25 rfl (vp_in_iff.mpr (by decide)) rfl dL_law_1033 ?_
      refine jj_lload C dL_law_1034 rfl ?_
      refine jj_lcmp_eqT (tgt := 1042) C dL_law_1036 dL_law_1037 (by decide) (by decide) ?_
      refine jj_goto (tgt := 2259) C dL_law_1042 (by decide) ?_
      exact jj_loc [7, 2] rfl (jj_drop [] rfl (by decide) (jj_widen (k := 600006) (n := 7302072) (jj_le rfl) (jj_le rfl) hend))

set_option maxHeartbeats 4000000 in
set_option maxRecDepth 100000 in
theorem law_c19 {p : Program} {l : Launch} {e : Env} {s : State} {m : MethodId} {below : List Frame} {meth : Method} {c : Code} (hl : l.stackTraces = false) {D : va_G} {cA : Nat → ClassId} {ak : (Nat → Nat) × (Nat → Nat)} {A : Nat → Prop} {b : Nat} {xs : Nat → Int32} {Q : State → Prop} (C : jj_C p l s m #[Value.ref b] meth c code 9 R_law ret D cA A ak) (hX : va_X b 6 xs s s.heap) (hbl : b < s.heap.size) (hbA : ¬ A b) (hend : jj_J p l e room_1 s m #[Value.ref b] below meth c 9 A Q (jj_X D A []) 600006 7302072 2259 [(0, .ref b), (5, .int 0)] []) (q_1 q_4 q_5 q_6 q_7 q_8 q_9 q_10 q_11 q_12 q_13 q_14 q_15 q_16 q_17 q_18 q_19 q_20 q_21 q_22 q_23 q_28 q_31 q_32 q_33 q_34 q_35 q_36 q_37 q_38 q_39 q_40 q_41 q_42 q_43 q_44 : Nat) (f_24 : Nat → Option Nat) (f_25 : Nat → Option Nat) (c_26 : f_24 0 = some q_11) (c_27 : f_25 0 = some q_17) : jj_J p l e room_1 s m #[Value.ref b] below meth c 9 A Q (jj_X D A [(q_1, .inr (11, [.ref q_4, .int 0, .int (-1), .ref q_6, .ref q_12, .ref q_18, .ref q_20, .int 0, .int 0, .ref q_21])), (q_4, .inr (10, [.ref q_5, .int 0, .int 0, .int 0, .int 0, .int 0, .int (-1)])), (q_5, .inl (cA 1, 400, .inl (fun _ => 0))), (q_6, .inr (2, [.int 1, .int 0, .int 0, .int 0, .int 100, .int 0, .int 0, .int 0, .int 0, .int 0, .ref q_7, .ref q_8, .ref q_9, .ref q_10])), (q_7, .inl (cA 2, 6, .inr (.inl (fun _ => 0)))), (q_10, .inl (cA 7, 12, .inr (.inr (.inr (.inr f_24))))), (q_11, .inr (7, [.int 0, .int 0, .int 0, .long 0, .long 0])), (q_12, .inr (2, [.int 1, .int 0, .int 0, .int 0, .int 100, .int 0, .int 0, .int 0, .int 0, .int 0, .ref q_13, .ref q_14, .ref q_15, .ref q_16])), (q_13, .inl (cA 2, 6, .inr (.inl (fun _ => 0)))), (q_16, .inl (cA 7, 12, .inr (.inr (.inr (.inr f_25))))), (q_17, .inr (7, [.int 0, .int 0, .int 0, .long 0, .long 0])), (q_18, .inr (3, [.ref q_19, .long 0, .long 0, .long 0, .long 0, .long 0])), (q_20, .inl (cA 5, 10, .inr (.inr (.inr (.inr (fun _ => none)))))), (q_21, .inr (6, [.ref q_22, .int 0, .ref q_23])), (q_22, .inl (cA 0, 1300, .inl (fun _ => 0))), (q_23, .inl (cA 0, 20, .inl (fun _ => 0))), (q_28, .inr (12, [.ref q_31, .ref q_32, .ref q_33, .ref q_34, .ref q_35, .ref q_36, .int 0, .int 0, .long 0, .long 0, .ref q_37, .ref q_38, .ref q_39, .int 0, .int 0, .int 0, .int 0, .int 0, .int (-1), .int 0, .int 0, .ref q_40, .ref q_41, .ref q_42, .int 0])), (q_32, .inl (cA 2, 334, .inr (.inl (fun _ => 0)))), (q_33, .inl (cA 2, 334, .inr (.inl (fun _ => 0)))), (q_34, .inl (cA 2, 334, .inr (.inl (fun _ => 0)))), (q_35, .inl (cA 2, 334, .inr (.inl (fun _ => 0)))), (q_36, .inl (cA 2, 3340, .inr (.inl (fun _ => 0)))), (q_37, .inl (cA 2, 12, .inr (.inl (fun _ => 0)))), (q_38, .inl (cA 3, 12, .inl (fun _ => 0))), (q_39, .inl (cA 0, 400, .inl (fun _ => 0))), (q_40, .inl (cA 2, 6, .inr (.inl (fun _ => 0)))), (q_41, .inl (cA 2, 6, .inr (.inl (fun _ => 0)))), (q_42, .inl (cA 0, 2400, .inl (fun _ => 0))), (q_31, .inl (cA 2, 334, .inr (.inl (vp_updL (vp_updL (fun _ => 0) 0 1) 4 100)))), (q_43, .inl (cA 2, 1, .inr (.inl (fun _ => 0)))), (q_44, .inl (cA 4, 1, .inr (.inr (.inr (.inl (fun _ => 0))))))]) 156 10481 1045 [(5, .int 0), (4, .ref q_44), (3, .ref q_43), (2, .ref q_28), (1, .ref q_1), (0, .ref b)] [] := by
  refine jj_aload_n C dL_law_1045 rfl ?_
  refine jj_aload_n C dL_law_1046 rfl ?_
  refine jj_iload C dL_law_1047 rfl ?_
  refine jj_iconst (v := 1) C dL_law_1049 (by decide) ?_
  refine jj_iadd (v := 1) C dL_law_1050 (by decide) ?_
  refine jj_xld (v := xs 1) C hX hbl hbA (vp_in_iff.mpr (by decide)) rfl dL_law_1051 ?_
  refine jj_aload_n C dL_law_1052 rfl ?_
  refine jq_callSW (rest := []) C (ct_L_openSeries_1 hl D cA ak q_1 q_6 q_43 q_4 q_12 q_18 q_20 q_21 q_7 q_8 q_9 q_10 (xs 1)) [0, 3] [1, 2, 4, 5, 6, 7, 8, 9, 10, 11, 12, 13, 14, 15, 16, 17, 18, 19, 20, 21, 22, 23, 24, 25, 26, 27, 28, 29, 30] rfl rfl (by decide) (by decide) (by decide) jw_1189 jw_1190 jw_985 jw_1188 jn_L_openSeries rfl (jj_le rfl) (jj_le rfl) (jj_le rfl) (jj_le rfl) (jj_le rfl) dL_law_1053 rfl (fun _ _ hX => hX.elim) (fun w1 r O_47 => ?_)
  rcases O_47 with ⟨c_48, rfl, rfl⟩ | ⟨c_49, rfl, rfl⟩
  · refine jj_apd rfl ?_
    refine jj_istore C dL_law_1056 (by decide) rfl ?_
    refine jj_aload_n C dL_law_1058 rfl ?_
    refine jj_aload_n C dL_law_1059 rfl ?_
    refine jj_iload C dL_law_1060 rfl ?_
    refine jj_iconst (v := 1) C dL_law_1062 (by decide) ?_
    refine jj_iadd (v := 1) C dL_law_1063 (by decide) ?_
    refine jj_xld (v := xs 1) C hX hbl hbA (vp_in_iff.mpr (by decide)) rfl dL_law_1064 ?_
    refine jq_callV (rest := []) C (ct_X11_openSeries_1 hl D cA ak q_28 q_31 q_32 q_33 q_34 q_35 q_36 q_37 q_38 q_39 q_40 q_41 q_42 (xs 1)) [14, 26] [0, 1, 2, 3, 4, 5, 6, 7, 8, 9, 10, 11, 12, 13, 15, 16, 17, 18, 19, 20, 21, 22, 23, 24, 25, 27, 28] rfl rfl (by decide) (by decide) (by decide) 0 rfl rfl rfl jw_1192 jw_1193 jw_1194 jw_224 jw_488 jn_X11_openSeries rfl (jj_le rfl) (jj_le rfl) (jj_le rfl) (jj_le rfl) (jj_le rfl) dL_law_1065 rfl (fun _ _ hX => hX.elim) (fun w1 r O_51 => ?_)
    rcases O_51 with ⟨c_52, rfl, rfl⟩ | ⟨c_53, rfl, rfl⟩
    · refine jj_apd rfl ?_
      refine jj_istore C dL_law_1068 (by decide) rfl ?_
      refine jj_aload_n C dL_law_1070 rfl ?_
      refine jq_callV (rest := []) C (ct_X11_thrown_2 hl D cA ak q_28 q_31 q_32 q_33 q_34 q_35 q_36 q_37 q_38 q_39 q_40 q_41 q_42) [28] [0, 1, 2, 3, 4, 5, 6, 7, 8, 9, 10, 11, 12, 13, 14, 15, 16, 17, 18, 19, 20, 21, 22, 23, 24, 25, 26, 27] rfl rfl (by decide) (by decide) (by decide) 0 rfl rfl rfl jw_993 jw_994 jw_995 jw_224 jw_992 jn_X11_thrown rfl (jj_le rfl) (jj_le rfl) (jj_le rfl) (jj_le rfl) (jj_le rfl) dL_law_1071 rfl (fun _ _ hX => hX.elim) (fun w1 r O_55 => ?_)
      obtain ⟨rfl, rfl⟩ := O_55
      refine jj_apd rfl ?_
      refine jj_iload C dL_law_1074 rfl ?_
      refine jj_icmp_eqT (tgt := 1081) C dL_law_1076 (by decide) (by decide) ?_
      refine jj_iload C dL_law_1081 rfl ?_
      refine jj_if_neT (tgt := 1098) C dL_law_1083 (by decide) (by decide) ?_
      refine jj_goto (tgt := 2259) C dL_law_1098 (by decide) ?_
      exact jj_loc [7, 2] rfl (jj_drop [] rfl (by decide) (jj_widen (k := 600006) (n := 7302072) (jj_le rfl) (jj_le rfl) hend))
    · refine jj_apd rfl ?_
      refine jj_istore C dL_law_1068 (by decide) rfl ?_
      refine jj_aload_n C dL_law_1070 rfl ?_
      refine jq_callV (rest := []) C (ct_X11_thrown_2 hl D cA ak q_28 q_31 q_32 q_33 q_34 q_35 q_36 q_37 q_38 q_39 q_40 q_41 q_42) [28] [0, 1, 2, 3, 4, 5, 6, 7, 8, 9, 10, 11, 12, 13, 14, 15, 16, 17, 18, 19, 20, 21, 22, 23, 24, 25, 26, 27] rfl rfl (by decide) (by decide) (by decide) 0 rfl rfl rfl jw_993 jw_994 jw_995 jw_224 jw_992 jn_X11_thrown rfl (jj_le rfl) (jj_le rfl) (jj_le rfl) (jj_le rfl) (jj_le rfl) dL_law_1071 rfl (fun _ _ hX => hX.elim) (fun w1 r O_57 => ?_)
      obtain ⟨rfl, rfl⟩ := O_57
      refine jj_apd rfl ?_
      refine jj_iload C dL_law_1074 rfl ?_
      refine jj_icmp_eqT (tgt := 1081) C dL_law_1076 (by decide) (by decide) ?_
      refine jj_iload C dL_law_1081 rfl ?_
      refine jj_if_neT (tgt := 1098) C dL_law_1083 (by decide) (by decide) ?_
      refine jj_goto (tgt := 2259) C dL_law_1098 (by decide) ?_
      exact jj_loc [7, 2] rfl (jj_drop [] rfl (by decide) (jj_widen (k := 600006) (n := 7302072) (jj_le rfl) (jj_le rfl) hend))
  · refine jj_apd rfl ?_
    refine jj_istore C dL_law_1056 (by decide) rfl ?_
    refine jj_aload_n C dL_law_1058 rfl ?_
    refine jj_aload_n C dL_law_1059 rfl ?_
    refine jj_iload C dL_law_1060 rfl ?_
    refine jj_iconst (v := 1) C dL_law_1062 (by decide) ?_
    refine jj_iadd (v := 1) C dL_law_1063 (by decide) ?_
    refine jj_xld (v := xs 1) C hX hbl hbA (vp_in_iff.mpr (by decide)) rfl dL_law_1064 ?_
    refine jq_callV (rest := []) C (ct_X11_openSeries_1 hl D cA ak q_28 q_31 q_32 q_33 q_34 q_35 q_36 q_37 q_38 q_39 q_40 q_41 q_42 (xs 1)) [14, 26] [0, 1, 2, 3, 4, 5, 6, 7, 8, 9, 10, 11, 12, 13, 15, 16, 17, 18, 19, 20, 21, 22, 23, 24, 25, 27, 28] rfl rfl (by decide) (by decide) (by decide) 0 rfl rfl rfl jw_1192 jw_1193 jw_1194 jw_224 jw_488 jn_X11_openSeries rfl (jj_le rfl) (jj_le rfl) (jj_le rfl) (jj_le rfl) (jj_le rfl) dL_law_1065 rfl (fun _ _ hX => hX.elim) (fun w1 r O_59 => ?_)
    rcases O_59 with ⟨c_60, rfl, rfl⟩ | ⟨c_61, rfl, rfl⟩
    · refine jj_apd rfl ?_
      refine jj_istore C dL_law_1068 (by decide) rfl ?_
      refine jj_aload_n C dL_law_1070 rfl ?_
      refine jq_callV (rest := []) C (ct_X11_thrown_2 hl D cA ak q_28 q_31 q_32 q_33 q_34 q_35 q_36 q_37 q_38 q_39 q_40 q_41 q_42) [28] [0, 1, 2, 3, 4, 5, 6, 7, 8, 9, 10, 11, 12, 13, 14, 15, 16, 17, 18, 19, 20, 21, 22, 23, 24, 25, 26, 27] rfl rfl (by decide) (by decide) (by decide) 0 rfl rfl rfl jw_993 jw_994 jw_995 jw_224 jw_992 jn_X11_thrown rfl (jj_le rfl) (jj_le rfl) (jj_le rfl) (jj_le rfl) (jj_le rfl) dL_law_1071 rfl (fun _ _ hX => hX.elim) (fun w1 r O_63 => ?_)
      obtain ⟨rfl, rfl⟩ := O_63
      refine jj_apd rfl ?_
      refine jj_iload C dL_law_1074 rfl ?_
      refine jj_icmp_eqT (tgt := 1081) C dL_law_1076 (by decide) (by decide) ?_
      refine jj_iload C dL_law_1081 rfl ?_
      refine jj_if_neT (tgt := 1098) C dL_law_1083 (by decide) (by decide) ?_
      refine jj_goto (tgt := 2259) C dL_law_1098 (by decide) ?_
      exact jj_loc [7, 2] rfl (jj_drop [] rfl (by decide) (jj_widen (k := 600006) (n := 7302072) (jj_le rfl) (jj_le rfl) hend))
    · refine jj_apd rfl ?_
      refine jj_istore C dL_law_1068 (by decide) rfl ?_
      refine jj_aload_n C dL_law_1070 rfl ?_
      refine jq_callV (rest := []) C (ct_X11_thrown_2 hl D cA ak q_28 q_31 q_32 q_33 q_34 q_35 q_36 q_37 q_38 q_39 q_40 q_41 q_42) [28] [0, 1, 2, 3, 4, 5, 6, 7, 8, 9, 10, 11, 12, 13, 14, 15, 16, 17, 18, 19, 20, 21, 22, 23, 24, 25, 26, 27] rfl rfl (by decide) (by decide) (by decide) 0 rfl rfl rfl jw_993 jw_994 jw_995 jw_224 jw_992 jn_X11_thrown rfl (jj_le rfl) (jj_le rfl) (jj_le rfl) (jj_le rfl) (jj_le rfl) dL_law_1071 rfl (fun _ _ hX => hX.elim) (fun w1 r O_65 => ?_)
      obtain ⟨rfl, rfl⟩ := O_65
      refine jj_apd rfl ?_
      refine jj_iload C dL_law_1074 rfl ?_
      refine jj_icmp_eqT (tgt := 1081) C dL_law_1076 (by decide) (by decide) ?_
      refine jj_iload C dL_law_1081 rfl ?_
      refine jj_if_neT (tgt := 1098) C dL_law_1083 (by decide) (by decide) ?_
      refine jj_goto (tgt := 2259) C dL_law_1098 (by decide) ?_
      exact jj_loc [7, 2] rfl (jj_drop [] rfl (by decide) (jj_widen (k := 600006) (n := 7302072) (jj_le rfl) (jj_le rfl) hend))

set_option maxHeartbeats 4000000 in
set_option maxRecDepth 100000 in
theorem law_c20 {p : Program} {l : Launch} {e : Env} {s : State} {m : MethodId} {below : List Frame} {meth : Method} {c : Code} (hl : l.stackTraces = false) {D : va_G} {cA : Nat → ClassId} {ak : (Nat → Nat) × (Nat → Nat)} {A : Nat → Prop} {b : Nat} {xs : Nat → Int32} {Q : State → Prop} (C : jj_C p l s m #[Value.ref b] meth c code 9 R_law ret D cA A ak) (hX : va_X b 6 xs s s.heap) (hbl : b < s.heap.size) (hbA : ¬ A b) (hend : jj_J p l e room_1 s m #[Value.ref b] below meth c 9 A Q (jj_X D A []) 600006 7302072 2259 [(0, .ref b), (5, .int 0)] []) (q_1 q_4 q_5 q_6 q_7 q_8 q_9 q_10 q_11 q_12 q_13 q_14 q_15 q_16 q_17 q_18 q_19 q_20 q_21 q_22 q_23 q_28 q_31 q_32 q_33 q_34 q_35 q_36 q_37 q_38 q_39 q_40 q_41 q_42 q_43 q_44 : Nat) (f_24 : Nat → Option Nat) (f_25 : Nat → Option Nat) (c_26 : f_24 0 = some q_11) (c_27 : f_25 0 = some q_17) : jj_J p l e room_1 s m #[Value.ref b] below meth c 9 A Q (jj_X D A [(q_1, .inr (11, [.ref q_4, .int 0, .int (-1), .ref q_6, .ref q_12, .ref q_18, .ref q_20, .int 0, .int 0, .ref q_21])), (q_4, .inr (10, [.ref q_5, .int 0, .int 0, .int 0, .int 0, .int 0, .int (-1)])), (q_5, .inl (cA 1, 400, .inl (fun _ => 0))), (q_6, .inr (2, [.int 1, .int 0, .int 0, .int 0, .int 100, .int 0, .int 0, .int 0, .int 0, .int 0, .ref q_7, .ref q_8, .ref q_9, .ref q_10])), (q_7, .inl (cA 2, 6, .inr (.inl (fun _ => 0)))), (q_10, .inl (cA 7, 12, .inr (.inr (.inr (.inr f_24))))), (q_11, .inr (7, [.int 0, .int 0, .int 0, .long 0, .long 0])), (q_12, .inr (2, [.int 1, .int 0, .int 0, .int 0, .int 100, .int 0, .int 0, .int 0, .int 0, .int 0, .ref q_13, .ref q_14, .ref q_15, .ref q_16])), (q_13, .inl (cA 2, 6, .inr (.inl (fun _ => 0)))), (q_16, .inl (cA 7, 12, .inr (.inr (.inr (.inr f_25))))), (q_17, .inr (7, [.int 0, .int 0, .int 0, .long 0, .long 0])), (q_18, .inr (3, [.ref q_19, .long 0, .long 0, .long 0, .long 0, .long 0])), (q_20, .inl (cA 5, 10, .inr (.inr (.inr (.inr (fun _ => none)))))), (q_21, .inr (6, [.ref q_22, .int 0, .ref q_23])), (q_22, .inl (cA 0, 1300, .inl (fun _ => 0))), (q_23, .inl (cA 0, 20, .inl (fun _ => 0))), (q_28, .inr (12, [.ref q_31, .ref q_32, .ref q_33, .ref q_34, .ref q_35, .ref q_36, .int 0, .int 0, .long 0, .long 0, .ref q_37, .ref q_38, .ref q_39, .int 0, .int 0, .int 0, .int 0, .int 0, .int (-1), .int 0, .int 0, .ref q_40, .ref q_41, .ref q_42, .int 0])), (q_32, .inl (cA 2, 334, .inr (.inl (fun _ => 0)))), (q_33, .inl (cA 2, 334, .inr (.inl (fun _ => 0)))), (q_34, .inl (cA 2, 334, .inr (.inl (fun _ => 0)))), (q_35, .inl (cA 2, 334, .inr (.inl (fun _ => 0)))), (q_36, .inl (cA 2, 3340, .inr (.inl (fun _ => 0)))), (q_37, .inl (cA 2, 12, .inr (.inl (fun _ => 0)))), (q_38, .inl (cA 3, 12, .inl (fun _ => 0))), (q_39, .inl (cA 0, 400, .inl (fun _ => 0))), (q_40, .inl (cA 2, 6, .inr (.inl (fun _ => 0)))), (q_41, .inl (cA 2, 6, .inr (.inl (fun _ => 0)))), (q_42, .inl (cA 0, 2400, .inl (fun _ => 0))), (q_31, .inl (cA 2, 334, .inr (.inl (vp_updL (vp_updL (fun _ => 0) 0 1) 4 100)))), (q_43, .inl (cA 2, 1, .inr (.inl (fun _ => 0)))), (q_44, .inl (cA 4, 1, .inr (.inr (.inr (.inl (fun _ => 0))))))]) 156 10481 1101 [(5, .int 0), (4, .ref q_44), (3, .ref q_43), (2, .ref q_28), (1, .ref q_1), (0, .ref b)] [] := by
  refine jj_aload_n C dL_law_1101 rfl ?_
  refine jj_aload_n C dL_law_1102 rfl ?_
  refine jj_iload C dL_law_1103 rfl ?_
  refine jj_iconst (v := 1) C dL_law_1105 (by decide) ?_
  refine jj_iadd (v := 1) C dL_law_1106 (by decide) ?_
  refine jj_xld (v := xs 1) C hX hbl hbA (vp_in_iff.mpr (by decide)) rfl dL_law_1107 ?_
  refine jj_aload_n C dL_law_1108 rfl ?_
  refine jj_iload C dL_law_1109 rfl ?_
  refine jj_iconst (v := 2) C dL_law_1111 (by decide) ?_
  refine jj_iadd (v := 2) C dL_law_1112 (by decide) ?_
  refine jj_xld (v := xs 2) C hX hbl hbA (vp_in_iff.mpr (by decide)) rfl dL_law_1113 ?_
  refine jj_aload_n C dL_law_1114 rfl ?_
  refine jq_callSW (rest := []) C (ct_L_seriesValue_1 hl D cA ak q_1 q_6 q_43 q_4 q_12 q_18 q_20 q_21 q_7 q_8 q_9 q_10 (xs 1) (xs 2)) [0, 3] [1, 2, 4, 5, 6, 7, 8, 9, 10, 11, 12, 13, 14, 15, 16, 17, 18, 19, 20, 21, 22, 23, 24, 25, 26, 27, 28, 29, 30] rfl rfl (by decide) (by decide) (by decide) jw_1201 jw_1202 jw_985 jw_1200 jn_L_seriesValue rfl (jj_le rfl) (jj_le rfl) (jj_le rfl) (jj_le rfl) (jj_le rfl) dL_law_1115 rfl (fun _ _ hX => hX.elim) (fun w1 r O_47 => ?_)
  obtain ⟨rfl, rfl⟩ := O_47
  refine jj_apd rfl ?_
  refine jj_istore C dL_law_1118 (by decide) rfl ?_
  refine jj_aload_n C dL_law_1120 rfl ?_
  refine jj_aload_n C dL_law_1121 rfl ?_
  refine jj_iload C dL_law_1122 rfl ?_
  refine jj_iconst (v := 1) C dL_law_1124 (by decide) ?_
  refine jj_iadd (v := 1) C dL_law_1125 (by decide) ?_
  refine jj_xld (v := xs 1) C hX hbl hbA (vp_in_iff.mpr (by decide)) rfl dL_law_1126 ?_
  refine jj_aload_n C dL_law_1127 rfl ?_
  refine jj_iload C dL_law_1128 rfl ?_
  refine jj_iconst (v := 2) C dL_law_1130 (by decide) ?_
  refine jj_iadd (v := 2) C dL_law_1131 (by decide) ?_
  refine jj_xld (v := xs 2) C hX hbl hbA (vp_in_iff.mpr (by decide)) rfl dL_law_1132 ?_
  refine jq_callV (rest := []) C (ct_X11_seriesValue_1 hl D cA ak q_28 q_31 q_32 q_33 q_34 q_35 q_36 q_37 q_38 q_39 q_40 q_41 q_42 (xs 1) (xs 2)) [14, 26] [0, 1, 2, 3, 4, 5, 6, 7, 8, 9, 10, 11, 12, 13, 15, 16, 17, 18, 19, 20, 21, 22, 23, 24, 25, 27, 28] rfl rfl (by decide) (by decide) (by decide) 0 rfl rfl rfl jw_1204 jw_1205 jw_1206 jw_224 jw_506 jn_X11_seriesValue rfl (jj_le rfl) (jj_le rfl) (jj_le rfl) (jj_le rfl) (jj_le rfl) dL_law_1133 rfl (fun _ _ hX => hX.elim) (fun w1 r O_49 => ?_)
  obtain ⟨rfl, rfl⟩ := O_49
  refine jj_apd rfl ?_
  refine jj_lstore C dL_law_1136 (by decide) rfl ?_
  refine jj_aload_n C dL_law_1138 rfl ?_
  refine jq_callV (rest := []) C (ct_X11_thrown_2 hl D cA ak q_28 q_31 q_32 q_33 q_34 q_35 q_36 q_37 q_38 q_39 q_40 q_41 q_42) [28] [0, 1, 2, 3, 4, 5, 6, 7, 8, 9, 10, 11, 12, 13, 14, 15, 16, 17, 18, 19, 20, 21, 22, 23, 24, 25, 26, 27] rfl rfl (by decide) (by decide) (by decide) 0 rfl rfl rfl jw_993 jw_994 jw_995 jw_224 jw_992 jn_X11_thrown rfl (jj_le rfl) (jj_le rfl) (jj_le rfl) (jj_le rfl) (jj_le rfl) dL_law_1139 rfl (fun _ _ hX => hX.elim) (fun w1 r O_51 => ?_)
  obtain ⟨rfl, rfl⟩ := O_51
  refine jj_apd rfl ?_
  refine jj_iload C dL_law_1142 rfl ?_
  refine jj_icmp_eqT (tgt := 1149) C dL_law_1144 (by decide) (by decide) ?_
  refine jj_iload C dL_law_1149 rfl ?_
  refine jj_if_neT (tgt := 1165) C dL_law_1151 (by decide) (by decide) ?_
  refine jj_goto (tgt := 2259) C dL_law_1165 (by decide) ?_
  exact jj_loc [7, 2] rfl (jj_drop [] rfl (by decide) (jj_widen (k := 600006) (n := 7302072) (jj_le rfl) (jj_le rfl) hend))

set_option maxHeartbeats 4000000 in
set_option maxRecDepth 100000 in
theorem law_c21 {p : Program} {l : Launch} {e : Env} {s : State} {m : MethodId} {below : List Frame} {meth : Method} {c : Code} (hl : l.stackTraces = false) {D : va_G} {cA : Nat → ClassId} {ak : (Nat → Nat) × (Nat → Nat)} {A : Nat → Prop} {b : Nat} {xs : Nat → Int32} {Q : State → Prop} (C : jj_C p l s m #[Value.ref b] meth c code 9 R_law ret D cA A ak) (hX : va_X b 6 xs s s.heap) (hbl : b < s.heap.size) (hbA : ¬ A b) (hend : jj_J p l e room_1 s m #[Value.ref b] below meth c 9 A Q (jj_X D A []) 600006 7302072 2259 [(0, .ref b), (5, .int 0)] []) (q_1 q_4 q_5 q_6 q_7 q_8 q_9 q_10 q_11 q_12 q_13 q_14 q_15 q_16 q_17 q_18 q_19 q_20 q_21 q_22 q_23 q_28 q_31 q_32 q_33 q_34 q_35 q_36 q_37 q_38 q_39 q_40 q_41 q_42 q_43 q_44 : Nat) (f_24 : Nat → Option Nat) (f_25 : Nat → Option Nat) (c_26 : f_24 0 = some q_11) (c_27 : f_25 0 = some q_17) : jj_J p l e room_1 s m #[Value.ref b] below meth c 9 A Q (jj_X D A [(q_1, .inr (11, [.ref q_4, .int 0, .int (-1), .ref q_6, .ref q_12, .ref q_18, .ref q_20, .int 0, .int 0, .ref q_21])), (q_4, .inr (10, [.ref q_5, .int 0, .int 0, .int 0, .int 0, .int 0, .int (-1)])), (q_5, .inl (cA 1, 400, .inl (fun _ => 0))), (q_6, .inr (2, [.int 1, .int 0, .int 0, .int 0, .int 100, .int 0, .int 0, .int 0, .int 0, .int 0, .ref q_7, .ref q_8, .ref q_9, .ref q_10])), (q_7, .inl (cA 2, 6, .inr (.inl (fun _ => 0)))), (q_10, .inl (cA 7, 12, .inr (.inr (.inr (.inr f_24))))), (q_11, .inr (7, [.int 0, .int 0, .int 0, .long 0, .long 0])), (q_12, .inr (2, [.int 1, .int 0, .int 0, .int 0, .int 100, .int 0, .int 0, .int 0, .int 0, .int 0, .ref q_13, .ref q_14, .ref q_15, .ref q_16])), (q_13, .inl (cA 2, 6, .inr (.inl (fun _ => 0)))), (q_16, .inl (cA 7, 12, .inr (.inr (.inr (.inr f_25))))), (q_17, .inr (7, [.int 0, .int 0, .int 0, .long 0, .long 0])), (q_18, .inr (3, [.ref q_19, .long 0, .long 0, .long 0, .long 0, .long 0])), (q_20, .inl (cA 5, 10, .inr (.inr (.inr (.inr (fun _ => none)))))), (q_21, .inr (6, [.ref q_22, .int 0, .ref q_23])), (q_22, .inl (cA 0, 1300, .inl (fun _ => 0))), (q_23, .inl (cA 0, 20, .inl (fun _ => 0))), (q_28, .inr (12, [.ref q_31, .ref q_32, .ref q_33, .ref q_34, .ref q_35, .ref q_36, .int 0, .int 0, .long 0, .long 0, .ref q_37, .ref q_38, .ref q_39, .int 0, .int 0, .int 0, .int 0, .int 0, .int (-1), .int 0, .int 0, .ref q_40, .ref q_41, .ref q_42, .int 0])), (q_32, .inl (cA 2, 334, .inr (.inl (fun _ => 0)))), (q_33, .inl (cA 2, 334, .inr (.inl (fun _ => 0)))), (q_34, .inl (cA 2, 334, .inr (.inl (fun _ => 0)))), (q_35, .inl (cA 2, 334, .inr (.inl (fun _ => 0)))), (q_36, .inl (cA 2, 3340, .inr (.inl (fun _ => 0)))), (q_37, .inl (cA 2, 12, .inr (.inl (fun _ => 0)))), (q_38, .inl (cA 3, 12, .inl (fun _ => 0))), (q_39, .inl (cA 0, 400, .inl (fun _ => 0))), (q_40, .inl (cA 2, 6, .inr (.inl (fun _ => 0)))), (q_41, .inl (cA 2, 6, .inr (.inl (fun _ => 0)))), (q_42, .inl (cA 0, 2400, .inl (fun _ => 0))), (q_31, .inl (cA 2, 334, .inr (.inl (vp_updL (vp_updL (fun _ => 0) 0 1) 4 100)))), (q_43, .inl (cA 2, 1, .inr (.inl (fun _ => 0)))), (q_44, .inl (cA 4, 1, .inr (.inr (.inr (.inl (fun _ => 0))))))]) 156 10481 1168 [(5, .int 0), (4, .ref q_44), (3, .ref q_43), (2, .ref q_28), (1, .ref q_1), (0, .ref b)] [] := by
  refine jj_aload_n C dL_law_1168 rfl ?_
  refine jj_aload_n C dL_law_1169 rfl ?_
  refine jj_iload C dL_law_1170 rfl ?_
  refine jj_iconst (v := 1) C dL_law_1172 (by decide) ?_
  refine jj_iadd (v := 1) C dL_law_1173 (by decide) ?_
  refine jj_xld (v := xs 1) C hX hbl hbA (vp_in_iff.mpr (by decide)) rfl dL_law_1174 ?_
  refine jj_aload_n C dL_law_1175 rfl ?_
  refine jj_iload C dL_law_1176 rfl ?_
  refine jj_iconst (v := 2) C dL_law_1178 (by decide) ?_
  refine jj_iadd (v := 2) C dL_law_1179 (by decide) ?_
  refine jj_xld (v := xs 2) C hX hbl hbA (vp_in_iff.mpr (by decide)) rfl dL_law_1180 ?_
  refine jj_aload_n C dL_law_1181 rfl ?_
  refine jq_callSW (rest := []) C (ct_L_lot_1 hl D cA ak q_1 q_6 q_43 q_4 q_12 q_18 q_20 q_21 q_7 q_8 q_9 q_10 (xs 1) (xs 2)) [0, 3] [1, 2, 4, 5, 6, 7, 8, 9, 10, 11, 12, 13, 14, 15, 16, 17, 18, 19, 20, 21, 22, 23, 24, 25, 26, 27, 28, 29, 30] rfl rfl (by decide) (by decide) (by decide) jw_1213 jw_1214 jw_985 jw_1212 jn_L_lot rfl (jj_le rfl) (jj_le rfl) (jj_le rfl) (jj_le rfl) (jj_le rfl) dL_law_1182 rfl (fun _ _ hX => hX.elim) (fun w1 r O_47 => ?_)
  rcases O_47 with ⟨c_48, rfl, rfl⟩ | ⟨c_49, rfl, rfl⟩
  · refine jj_apd rfl ?_
    refine jj_istore C dL_law_1185 (by decide) rfl ?_
    refine jj_aload_n C dL_law_1187 rfl ?_
    refine jj_aload_n C dL_law_1188 rfl ?_
    refine jj_iload C dL_law_1189 rfl ?_
    refine jj_iconst (v := 1) C dL_law_1191 (by decide) ?_
    refine jj_iadd (v := 1) C dL_law_1192 (by decide) ?_
    refine jj_xld (v := xs 1) C hX hbl hbA (vp_in_iff.mpr (by decide)) rfl dL_law_1193 ?_
    refine jj_aload_n C dL_law_1194 rfl ?_
    refine jj_iload C dL_law_1195 rfl ?_
    refine jj_iconst (v := 2) C dL_law_1197 (by decide) ?_
    refine jj_iadd (v := 2) C dL_law_1198 (by decide) ?_
    refine jj_xld (v := xs 2) C hX hbl hbA (vp_in_iff.mpr (by decide)) rfl dL_law_1199 ?_
    refine jq_callV (rest := []) C (ct_X11_lot_1 hl D cA ak q_28 q_31 q_32 q_33 q_34 q_35 q_36 q_37 q_38 q_39 q_40 q_41 q_42 (xs 1) (xs 2)) [14, 26] [0, 1, 2, 3, 4, 5, 6, 7, 8, 9, 10, 11, 12, 13, 15, 16, 17, 18, 19, 20, 21, 22, 23, 24, 25, 27, 28] rfl rfl (by decide) (by decide) (by decide) 0 rfl rfl rfl jw_1216 jw_1217 jw_1218 jw_224 jw_508 jn_X11_lot rfl (jj_le rfl) (jj_le rfl) (jj_le rfl) (jj_le rfl) (jj_le rfl) dL_law_1200 rfl (fun _ _ hX => hX.elim) (fun w1 r O_51 => ?_)
    rcases O_51 with ⟨c_52, rfl, rfl⟩ | ⟨c_53, rfl, rfl⟩
    · refine jj_apd rfl ?_
      refine jj_lstore C dL_law_1203 (by decide) rfl ?_
      refine jj_aload_n C dL_law_1205 rfl ?_
      refine jq_callV (rest := []) C (ct_X11_thrown_2 hl D cA ak q_28 q_31 q_32 q_33 q_34 q_35 q_36 q_37 q_38 q_39 q_40 q_41 q_42) [28] [0, 1, 2, 3, 4, 5, 6, 7, 8, 9, 10, 11, 12, 13, 14, 15, 16, 17, 18, 19, 20, 21, 22, 23, 24, 25, 26, 27] rfl rfl (by decide) (by decide) (by decide) 0 rfl rfl rfl jw_993 jw_994 jw_995 jw_224 jw_992 jn_X11_thrown rfl (jj_le rfl) (jj_le rfl) (jj_le rfl) (jj_le rfl) (jj_le rfl) dL_law_1206 rfl (fun _ _ hX => hX.elim) (fun w1 r O_55 => ?_)
      obtain ⟨rfl, rfl⟩ := O_55
      refine jj_apd rfl ?_
      refine jj_iload C dL_law_1209 rfl ?_
      refine jj_icmp_eqT (tgt := 1216) C dL_law_1211 (by decide) (by decide) ?_
      refine jj_iload C dL_law_1216 rfl ?_
      refine jj_if_neT (tgt := 1232) C dL_law_1218 (by decide) (by decide) ?_
      refine jj_goto (tgt := 2259) C dL_law_1232 (by decide) ?_
      exact jj_loc [7, 2] rfl (jj_drop [] rfl (by decide) (jj_widen (k := 600006) (n := 7302072) (jj_le rfl) (jj_le rfl) hend))
    · refine jj_apd rfl ?_
      refine jj_lstore C dL_law_1203 (by decide) rfl ?_
      refine jj_aload_n C dL_law_1205 rfl ?_
      refine jq_callV (rest := []) C (ct_X11_thrown_2 hl D cA ak q_28 q_31 q_32 q_33 q_34 q_35 q_36 q_37 q_38 q_39 q_40 q_41 q_42) [28] [0, 1, 2, 3, 4, 5, 6, 7, 8, 9, 10, 11, 12, 13, 14, 15, 16, 17, 18, 19, 20, 21, 22, 23, 24, 25, 26, 27] rfl rfl (by decide) (by decide) (by decide) 0 rfl rfl rfl jw_993 jw_994 jw_995 jw_224 jw_992 jn_X11_thrown rfl (jj_le rfl) (jj_le rfl) (jj_le rfl) (jj_le rfl) (jj_le rfl) dL_law_1206 rfl (fun _ _ hX => hX.elim) (fun w1 r O_57 => ?_)
      obtain ⟨rfl, rfl⟩ := O_57
      refine jj_apd rfl ?_
      refine jj_iload C dL_law_1209 rfl ?_
      refine jj_icmp_eqT (tgt := 1216) C dL_law_1211 (by decide) (by decide) ?_
      refine jj_iload C dL_law_1216 rfl ?_
      refine jj_if_neT (tgt := 1232) C dL_law_1218 (by decide) (by decide) ?_
      refine jj_goto (tgt := 2259) C dL_law_1232 (by decide) ?_
      exact jj_loc [7, 2] rfl (jj_drop [] rfl (by decide) (jj_widen (k := 600006) (n := 7302072) (jj_le rfl) (jj_le rfl) hend))
  · refine jj_apd rfl ?_
    refine jj_istore C dL_law_1185 (by decide) rfl ?_
    refine jj_aload_n C dL_law_1187 rfl ?_
    refine jj_aload_n C dL_law_1188 rfl ?_
    refine jj_iload C dL_law_1189 rfl ?_
    refine jj_iconst (v := 1) C dL_law_1191 (by decide) ?_
    refine jj_iadd (v := 1) C dL_law_1192 (by decide) ?_
    refine jj_xld (v := xs 1) C hX hbl hbA (vp_in_iff.mpr (by decide)) rfl dL_law_1193 ?_
    refine jj_aload_n C dL_law_1194 rfl ?_
    refine jj_iload C dL_law_1195 rfl ?_
    refine jj_iconst (v := 2) C dL_law_1197 (by decide) ?_
    refine jj_iadd (v := 2) C dL_law_1198 (by decide) ?_
    refine jj_xld (v := xs 2) C hX hbl hbA (vp_in_iff.mpr (by decide)) rfl dL_law_1199 ?_
    refine jq_callV (rest := []) C (ct_X11_lot_1 hl D cA ak q_28 q_31 q_32 q_33 q_34 q_35 q_36 q_37 q_38 q_39 q_40 q_41 q_42 (xs 1) (xs 2)) [14, 26] [0, 1, 2, 3, 4, 5, 6, 7, 8, 9, 10, 11, 12, 13, 15, 16, 17, 18, 19, 20, 21, 22, 23, 24, 25, 27, 28] rfl rfl (by decide) (by decide) (by decide) 0 rfl rfl rfl jw_1216 jw_1217 jw_1218 jw_224 jw_508 jn_X11_lot rfl (jj_le rfl) (jj_le rfl) (jj_le rfl) (jj_le rfl) (jj_le rfl) dL_law_1200 rfl (fun _ _ hX => hX.elim) (fun w1 r O_59 => ?_)
    rcases O_59 with ⟨c_60, rfl, rfl⟩ | ⟨c_61, rfl, rfl⟩
    · refine jj_apd rfl ?_
      refine jj_lstore C dL_law_1203 (by decide) rfl ?_
      refine jj_aload_n C dL_law_1205 rfl ?_
      refine jq_callV (rest := []) C (ct_X11_thrown_2 hl D cA ak q_28 q_31 q_32 q_33 q_34 q_35 q_36 q_37 q_38 q_39 q_40 q_41 q_42) [28] [0, 1, 2, 3, 4, 5, 6, 7, 8, 9, 10, 11, 12, 13, 14, 15, 16, 17, 18, 19, 20, 21, 22, 23, 24, 25, 26, 27] rfl rfl (by decide) (by decide) (by decide) 0 rfl rfl rfl jw_993 jw_994 jw_995 jw_224 jw_992 jn_X11_thrown rfl (jj_le rfl) (jj_le rfl) (jj_le rfl) (jj_le rfl) (jj_le rfl) dL_law_1206 rfl (fun _ _ hX => hX.elim) (fun w1 r O_63 => ?_)
      obtain ⟨rfl, rfl⟩ := O_63
      refine jj_apd rfl ?_
      refine jj_iload C dL_law_1209 rfl ?_
      refine jj_icmp_eqT (tgt := 1216) C dL_law_1211 (by decide) (by decide) ?_
      refine jj_iload C dL_law_1216 rfl ?_
      refine jj_if_neT (tgt := 1232) C dL_law_1218 (by decide) (by decide) ?_
      refine jj_goto (tgt := 2259) C dL_law_1232 (by decide) ?_
      exact jj_loc [7, 2] rfl (jj_drop [] rfl (by decide) (jj_widen (k := 600006) (n := 7302072) (jj_le rfl) (jj_le rfl) hend))
    · refine jj_apd rfl ?_
      refine jj_lstore C dL_law_1203 (by decide) rfl ?_
      refine jj_aload_n C dL_law_1205 rfl ?_
      refine jq_callV (rest := []) C (ct_X11_thrown_2 hl D cA ak q_28 q_31 q_32 q_33 q_34 q_35 q_36 q_37 q_38 q_39 q_40 q_41 q_42) [28] [0, 1, 2, 3, 4, 5, 6, 7, 8, 9, 10, 11, 12, 13, 14, 15, 16, 17, 18, 19, 20, 21, 22, 23, 24, 25, 26, 27] rfl rfl (by decide) (by decide) (by decide) 0 rfl rfl rfl jw_993 jw_994 jw_995 jw_224 jw_992 jn_X11_thrown rfl (jj_le rfl) (jj_le rfl) (jj_le rfl) (jj_le rfl) (jj_le rfl) dL_law_1206 rfl (fun _ _ hX => hX.elim) (fun w1 r O_65 => ?_)
      obtain ⟨rfl, rfl⟩ := O_65
      refine jj_apd rfl ?_
      refine jj_iload C dL_law_1209 rfl ?_
      refine jj_icmp_eqT (tgt := 1216) C dL_law_1211 (by decide) (by decide) ?_
      refine jj_iload C dL_law_1216 rfl ?_
      refine jj_if_neT (tgt := 1232) C dL_law_1218 (by decide) (by decide) ?_
      refine jj_goto (tgt := 2259) C dL_law_1232 (by decide) ?_
      exact jj_loc [7, 2] rfl (jj_drop [] rfl (by decide) (jj_widen (k := 600006) (n := 7302072) (jj_le rfl) (jj_le rfl) hend))

set_option maxHeartbeats 4000000 in
set_option maxRecDepth 100000 in
theorem law_c22 {p : Program} {l : Launch} {e : Env} {s : State} {m : MethodId} {below : List Frame} {meth : Method} {c : Code} (hl : l.stackTraces = false) {D : va_G} {cA : Nat → ClassId} {ak : (Nat → Nat) × (Nat → Nat)} {A : Nat → Prop} {b : Nat} {xs : Nat → Int32} {Q : State → Prop} (C : jj_C p l s m #[Value.ref b] meth c code 9 R_law ret D cA A ak) (hX : va_X b 6 xs s s.heap) (hbl : b < s.heap.size) (hbA : ¬ A b) (hend : jj_J p l e room_1 s m #[Value.ref b] below meth c 9 A Q (jj_X D A []) 600006 7302072 2259 [(0, .ref b), (5, .int 0)] []) (q_1 q_4 q_5 q_6 q_7 q_8 q_9 q_10 q_11 q_12 q_13 q_14 q_15 q_16 q_17 q_18 q_19 q_20 q_21 q_22 q_23 q_28 q_31 q_32 q_33 q_34 q_35 q_36 q_37 q_38 q_39 q_40 q_41 q_42 q_43 q_44 : Nat) (f_24 : Nat → Option Nat) (f_25 : Nat → Option Nat) (c_26 : f_24 0 = some q_11) (c_27 : f_25 0 = some q_17) : jj_J p l e room_1 s m #[Value.ref b] below meth c 9 A Q (jj_X D A [(q_1, .inr (11, [.ref q_4, .int 0, .int (-1), .ref q_6, .ref q_12, .ref q_18, .ref q_20, .int 0, .int 0, .ref q_21])), (q_4, .inr (10, [.ref q_5, .int 0, .int 0, .int 0, .int 0, .int 0, .int (-1)])), (q_5, .inl (cA 1, 400, .inl (fun _ => 0))), (q_6, .inr (2, [.int 1, .int 0, .int 0, .int 0, .int 100, .int 0, .int 0, .int 0, .int 0, .int 0, .ref q_7, .ref q_8, .ref q_9, .ref q_10])), (q_7, .inl (cA 2, 6, .inr (.inl (fun _ => 0)))), (q_10, .inl (cA 7, 12, .inr (.inr (.inr (.inr f_24))))), (q_11, .inr (7, [.int 0, .int 0, .int 0, .long 0, .long 0])), (q_12, .inr (2, [.int 1, .int 0, .int 0, .int 0, .int 100, .int 0, .int 0, .int 0, .int 0, .int 0, .ref q_13, .ref q_14, .ref q_15, .ref q_16])), (q_13, .inl (cA 2, 6, .inr (.inl (fun _ => 0)))), (q_16, .inl (cA 7, 12, .inr (.inr (.inr (.inr f_25))))), (q_17, .inr (7, [.int 0, .int 0, .int 0, .long 0, .long 0])), (q_18, .inr (3, [.ref q_19, .long 0, .long 0, .long 0, .long 0, .long 0])), (q_20, .inl (cA 5, 10, .inr (.inr (.inr (.inr (fun _ => none)))))), (q_21, .inr (6, [.ref q_22, .int 0, .ref q_23])), (q_22, .inl (cA 0, 1300, .inl (fun _ => 0))), (q_23, .inl (cA 0, 20, .inl (fun _ => 0))), (q_28, .inr (12, [.ref q_31, .ref q_32, .ref q_33, .ref q_34, .ref q_35, .ref q_36, .int 0, .int 0, .long 0, .long 0, .ref q_37, .ref q_38, .ref q_39, .int 0, .int 0, .int 0, .int 0, .int 0, .int (-1), .int 0, .int 0, .ref q_40, .ref q_41, .ref q_42, .int 0])), (q_32, .inl (cA 2, 334, .inr (.inl (fun _ => 0)))), (q_33, .inl (cA 2, 334, .inr (.inl (fun _ => 0)))), (q_34, .inl (cA 2, 334, .inr (.inl (fun _ => 0)))), (q_35, .inl (cA 2, 334, .inr (.inl (fun _ => 0)))), (q_36, .inl (cA 2, 3340, .inr (.inl (fun _ => 0)))), (q_37, .inl (cA 2, 12, .inr (.inl (fun _ => 0)))), (q_38, .inl (cA 3, 12, .inl (fun _ => 0))), (q_39, .inl (cA 0, 400, .inl (fun _ => 0))), (q_40, .inl (cA 2, 6, .inr (.inl (fun _ => 0)))), (q_41, .inl (cA 2, 6, .inr (.inl (fun _ => 0)))), (q_42, .inl (cA 0, 2400, .inl (fun _ => 0))), (q_31, .inl (cA 2, 334, .inr (.inl (vp_updL (vp_updL (fun _ => 0) 0 1) 4 100)))), (q_43, .inl (cA 2, 1, .inr (.inl (fun _ => 0)))), (q_44, .inl (cA 4, 1, .inr (.inr (.inr (.inl (fun _ => 0))))))]) 156 10481 1235 [(5, .int 0), (4, .ref q_44), (3, .ref q_43), (2, .ref q_28), (1, .ref q_1), (0, .ref b)] [] := by
  refine jj_aload_n C dL_law_1235 rfl ?_
  refine jj_aload_n C dL_law_1236 rfl ?_
  refine jj_iload C dL_law_1237 rfl ?_
  refine jj_iconst (v := 1) C dL_law_1239 (by decide) ?_
  refine jj_iadd (v := 1) C dL_law_1240 (by decide) ?_
  refine jj_xld (v := xs 1) C hX hbl hbA (vp_in_iff.mpr (by decide)) rfl dL_law_1241 ?_
  refine jj_aload_n C dL_law_1242 rfl ?_
  refine jj_iload C dL_law_1243 rfl ?_
  refine jj_iconst (v := 2) C dL_law_1245 (by decide) ?_
  refine jj_iadd (v := 2) C dL_law_1246 (by decide) ?_
  refine jj_xld (v := xs 2) C hX hbl hbA (vp_in_iff.mpr (by decide)) rfl dL_law_1247 ?_
  refine jj_aload_n C dL_law_1248 rfl ?_
  refine jq_callSW (rest := []) C (ct_L_request_1 hl D cA ak q_1 q_6 q_43 q_4 q_12 q_18 q_20 q_21 q_7 q_8 q_9 q_10 (xs 1) (xs 2)) [0, 3] [1, 2, 4, 5, 6, 7, 8, 9, 10, 11, 12, 13, 14, 15, 16, 17, 18, 19, 20, 21, 22, 23, 24, 25, 26, 27, 28, 29, 30] rfl rfl (by decide) (by decide) (by decide) jw_1225 jw_1226 jw_985 jw_1224 jn_L_request rfl (jj_le rfl) (jj_le rfl) (jj_le rfl) (jj_le rfl) (jj_le rfl) dL_law_1249 rfl (fun _ _ hX => hX.elim) (fun w1 r O_47 => ?_)
  rcases O_47 with ⟨c_48, rfl, rfl⟩ | ⟨c_49, rfl, rfl⟩
  · refine jj_apd rfl ?_
    refine jj_istore C dL_law_1252 (by decide) rfl ?_
    refine jj_aload_n C dL_law_1254 rfl ?_
    refine jj_aload_n C dL_law_1255 rfl ?_
    refine jj_iload C dL_law_1256 rfl ?_
    refine jj_iconst (v := 1) C dL_law_1258 (by decide) ?_
    refine jj_iadd (v := 1) C dL_law_1259 (by decide) ?_
    refine jj_xld (v := xs 1) C hX hbl hbA (vp_in_iff.mpr (by decide)) rfl dL_law_1260 ?_
    refine jj_aload_n C dL_law_1261 rfl ?_
    refine jj_iload C dL_law_1262 rfl ?_
    refine jj_iconst (v := 2) C dL_law_1264 (by decide) ?_
    refine jj_iadd (v := 2) C dL_law_1265 (by decide) ?_
    refine jj_xld (v := xs 2) C hX hbl hbA (vp_in_iff.mpr (by decide)) rfl dL_law_1266 ?_
    refine jq_callV (rest := []) C (ct_X11_request_1 hl D cA ak q_28 q_31 q_32 q_33 q_34 q_35 q_36 q_37 q_38 q_39 q_40 q_41 q_42 (xs 1) (xs 2)) [14, 26] [0, 1, 2, 3, 4, 5, 6, 7, 8, 9, 10, 11, 12, 13, 15, 16, 17, 18, 19, 20, 21, 22, 23, 24, 25, 27, 28] rfl rfl (by decide) (by decide) (by decide) 0 rfl rfl rfl jw_1228 jw_1229 jw_1230 jw_224 jw_510 jn_X11_request rfl (jj_le rfl) (jj_le rfl) (jj_le rfl) (jj_le rfl) (jj_le rfl) dL_law_1267 rfl (fun _ _ hX => hX.elim) (fun w1 r O_51 => ?_)
    rcases O_51 with ⟨c_52, rfl, rfl⟩ | ⟨c_53, rfl, rfl⟩
    · refine jj_apd rfl ?_
      refine jj_lstore C dL_law_1270 (by decide) rfl ?_
      refine jj_aload_n C dL_law_1272 rfl ?_
      refine jq_callV (rest := []) C (ct_X11_thrown_2 hl D cA ak q_28 q_31 q_32 q_33 q_34 q_35 q_36 q_37 q_38 q_39 q_40 q_41 q_42) [28] [0, 1, 2, 3, 4, 5, 6, 7, 8, 9, 10, 11, 12, 13, 14, 15, 16, 17, 18, 19, 20, 21, 22, 23, 24, 25, 26, 27] rfl rfl (by decide) (by decide) (by decide) 0 rfl rfl rfl jw_993 jw_994 jw_995 jw_224 jw_992 jn_X11_thrown rfl (jj_le rfl) (jj_le rfl) (jj_le rfl) (jj_le rfl) (jj_le rfl) dL_law_1273 rfl (fun _ _ hX => hX.elim) (fun w1 r O_55 => ?_)
      obtain ⟨rfl, rfl⟩ := O_55
      refine jj_apd rfl ?_
      refine jj_iload C dL_law_1276 rfl ?_
      refine jj_icmp_eqT (tgt := 1283) C dL_law_1278 (by decide) (by decide) ?_
      refine jj_iload C dL_law_1283 rfl ?_
      refine jj_if_neT (tgt := 1299) C dL_law_1285 (by decide) (by decide) ?_
      refine jj_goto (tgt := 2259) C dL_law_1299 (by decide) ?_
      exact jj_loc [7, 2] rfl (jj_drop [] rfl (by decide) (jj_widen (k := 600006) (n := 7302072) (jj_le rfl) (jj_le rfl) hend))
    · refine jj_apd rfl ?_
      refine jj_lstore C dL_law_1270 (by decide) rfl ?_
      refine jj_aload_n C dL_law_1272 rfl ?_
      refine jq_callV (rest := []) C (ct_X11_thrown_2 hl D cA ak q_28 q_31 q_32 q_33 q_34 q_35 q_36 q_37 q_38 q_39 q_40 q_41 q_42) [28] [0, 1, 2, 3, 4, 5, 6, 7, 8, 9, 10, 11, 12, 13, 14, 15, 16, 17, 18, 19, 20, 21, 22, 23, 24, 25, 26, 27] rfl rfl (by decide) (by decide) (by decide) 0 rfl rfl rfl jw_993 jw_994 jw_995 jw_224 jw_992 jn_X11_thrown rfl (jj_le rfl) (jj_le rfl) (jj_le rfl) (jj_le rfl) (jj_le rfl) dL_law_1273 rfl (fun _ _ hX => hX.elim) (fun w1 r O_57 => ?_)
      obtain ⟨rfl, rfl⟩ := O_57
      refine jj_apd rfl ?_
      refine jj_iload C dL_law_1276 rfl ?_
      refine jj_icmp_eqT (tgt := 1283) C dL_law_1278 (by decide) (by decide) ?_
      refine jj_iload C dL_law_1283 rfl ?_
      refine jj_if_neT (tgt := 1299) C dL_law_1285 (by decide) (by decide) ?_
      refine jj_goto (tgt := 2259) C dL_law_1299 (by decide) ?_
      exact jj_loc [7, 2] rfl (jj_drop [] rfl (by decide) (jj_widen (k := 600006) (n := 7302072) (jj_le rfl) (jj_le rfl) hend))
  · refine jj_apd rfl ?_
    refine jj_istore C dL_law_1252 (by decide) rfl ?_
    refine jj_aload_n C dL_law_1254 rfl ?_
    refine jj_aload_n C dL_law_1255 rfl ?_
    refine jj_iload C dL_law_1256 rfl ?_
    refine jj_iconst (v := 1) C dL_law_1258 (by decide) ?_
    refine jj_iadd (v := 1) C dL_law_1259 (by decide) ?_
    refine jj_xld (v := xs 1) C hX hbl hbA (vp_in_iff.mpr (by decide)) rfl dL_law_1260 ?_
    refine jj_aload_n C dL_law_1261 rfl ?_
    refine jj_iload C dL_law_1262 rfl ?_
    refine jj_iconst (v := 2) C dL_law_1264 (by decide) ?_
    refine jj_iadd (v := 2) C dL_law_1265 (by decide) ?_
    refine jj_xld (v := xs 2) C hX hbl hbA (vp_in_iff.mpr (by decide)) rfl dL_law_1266 ?_
    refine jq_callV (rest := []) C (ct_X11_request_1 hl D cA ak q_28 q_31 q_32 q_33 q_34 q_35 q_36 q_37 q_38 q_39 q_40 q_41 q_42 (xs 1) (xs 2)) [14, 26] [0, 1, 2, 3, 4, 5, 6, 7, 8, 9, 10, 11, 12, 13, 15, 16, 17, 18, 19, 20, 21, 22, 23, 24, 25, 27, 28] rfl rfl (by decide) (by decide) (by decide) 0 rfl rfl rfl jw_1228 jw_1229 jw_1230 jw_224 jw_510 jn_X11_request rfl (jj_le rfl) (jj_le rfl) (jj_le rfl) (jj_le rfl) (jj_le rfl) dL_law_1267 rfl (fun _ _ hX => hX.elim) (fun w1 r O_59 => ?_)
    rcases O_59 with ⟨c_60, rfl, rfl⟩ | ⟨c_61, rfl, rfl⟩
    · refine jj_apd rfl ?_
      refine jj_lstore C dL_law_1270 (by decide) rfl ?_
      refine jj_aload_n C dL_law_1272 rfl ?_
      refine jq_callV (rest := []) C (ct_X11_thrown_2 hl D cA ak q_28 q_31 q_32 q_33 q_34 q_35 q_36 q_37 q_38 q_39 q_40 q_41 q_42) [28] [0, 1, 2, 3, 4, 5, 6, 7, 8, 9, 10, 11, 12, 13, 14, 15, 16, 17, 18, 19, 20, 21, 22, 23, 24, 25, 26, 27] rfl rfl (by decide) (by decide) (by decide) 0 rfl rfl rfl jw_993 jw_994 jw_995 jw_224 jw_992 jn_X11_thrown rfl (jj_le rfl) (jj_le rfl) (jj_le rfl) (jj_le rfl) (jj_le rfl) dL_law_1273 rfl (fun _ _ hX => hX.elim) (fun w1 r O_63 => ?_)
      obtain ⟨rfl, rfl⟩ := O_63
      refine jj_apd rfl ?_
      refine jj_iload C dL_law_1276 rfl ?_
      refine jj_icmp_eqT (tgt := 1283) C dL_law_1278 (by decide) (by decide) ?_
      refine jj_iload C dL_law_1283 rfl ?_
      refine jj_if_neT (tgt := 1299) C dL_law_1285 (by decide) (by decide) ?_
      refine jj_goto (tgt := 2259) C dL_law_1299 (by decide) ?_
      exact jj_loc [7, 2] rfl (jj_drop [] rfl (by decide) (jj_widen (k := 600006) (n := 7302072) (jj_le rfl) (jj_le rfl) hend))
    · refine jj_apd rfl ?_
      refine jj_lstore C dL_law_1270 (by decide) rfl ?_
      refine jj_aload_n C dL_law_1272 rfl ?_
      refine jq_callV (rest := []) C (ct_X11_thrown_2 hl D cA ak q_28 q_31 q_32 q_33 q_34 q_35 q_36 q_37 q_38 q_39 q_40 q_41 q_42) [28] [0, 1, 2, 3, 4, 5, 6, 7, 8, 9, 10, 11, 12, 13, 14, 15, 16, 17, 18, 19, 20, 21, 22, 23, 24, 25, 26, 27] rfl rfl (by decide) (by decide) (by decide) 0 rfl rfl rfl jw_993 jw_994 jw_995 jw_224 jw_992 jn_X11_thrown rfl (jj_le rfl) (jj_le rfl) (jj_le rfl) (jj_le rfl) (jj_le rfl) dL_law_1273 rfl (fun _ _ hX => hX.elim) (fun w1 r O_65 => ?_)
      obtain ⟨rfl, rfl⟩ := O_65
      refine jj_apd rfl ?_
      refine jj_iload C dL_law_1276 rfl ?_
      refine jj_icmp_eqT (tgt := 1283) C dL_law_1278 (by decide) (by decide) ?_
      refine jj_iload C dL_law_1283 rfl ?_
      refine jj_if_neT (tgt := 1299) C dL_law_1285 (by decide) (by decide) ?_
      refine jj_goto (tgt := 2259) C dL_law_1299 (by decide) ?_
      exact jj_loc [7, 2] rfl (jj_drop [] rfl (by decide) (jj_widen (k := 600006) (n := 7302072) (jj_le rfl) (jj_le rfl) hend))

set_option maxHeartbeats 4000000 in
set_option maxRecDepth 100000 in
theorem law_c23 {p : Program} {l : Launch} {e : Env} {s : State} {m : MethodId} {below : List Frame} {meth : Method} {c : Code} (hl : l.stackTraces = false) {D : va_G} {cA : Nat → ClassId} {ak : (Nat → Nat) × (Nat → Nat)} {A : Nat → Prop} {b : Nat} {xs : Nat → Int32} {Q : State → Prop} (C : jj_C p l s m #[Value.ref b] meth c code 9 R_law ret D cA A ak) (hX : va_X b 6 xs s s.heap) (hbl : b < s.heap.size) (hbA : ¬ A b) (hend : jj_J p l e room_1 s m #[Value.ref b] below meth c 9 A Q (jj_X D A []) 600006 7302072 2259 [(0, .ref b), (5, .int 0)] []) (q_1 q_4 q_5 q_6 q_7 q_8 q_9 q_10 q_11 q_12 q_13 q_14 q_15 q_16 q_17 q_18 q_19 q_20 q_21 q_22 q_23 q_28 q_31 q_32 q_33 q_34 q_35 q_36 q_37 q_38 q_39 q_40 q_41 q_42 q_43 q_44 : Nat) (f_24 : Nat → Option Nat) (f_25 : Nat → Option Nat) (c_26 : f_24 0 = some q_11) (c_27 : f_25 0 = some q_17) : jj_J p l e room_1 s m #[Value.ref b] below meth c 9 A Q (jj_X D A [(q_1, .inr (11, [.ref q_4, .int 0, .int (-1), .ref q_6, .ref q_12, .ref q_18, .ref q_20, .int 0, .int 0, .ref q_21])), (q_4, .inr (10, [.ref q_5, .int 0, .int 0, .int 0, .int 0, .int 0, .int (-1)])), (q_5, .inl (cA 1, 400, .inl (fun _ => 0))), (q_6, .inr (2, [.int 1, .int 0, .int 0, .int 0, .int 100, .int 0, .int 0, .int 0, .int 0, .int 0, .ref q_7, .ref q_8, .ref q_9, .ref q_10])), (q_7, .inl (cA 2, 6, .inr (.inl (fun _ => 0)))), (q_10, .inl (cA 7, 12, .inr (.inr (.inr (.inr f_24))))), (q_11, .inr (7, [.int 0, .int 0, .int 0, .long 0, .long 0])), (q_12, .inr (2, [.int 1, .int 0, .int 0, .int 0, .int 100, .int 0, .int 0, .int 0, .int 0, .int 0, .ref q_13, .ref q_14, .ref q_15, .ref q_16])), (q_13, .inl (cA 2, 6, .inr (.inl (fun _ => 0)))), (q_16, .inl (cA 7, 12, .inr (.inr (.inr (.inr f_25))))), (q_17, .inr (7, [.int 0, .int 0, .int 0, .long 0, .long 0])), (q_18, .inr (3, [.ref q_19, .long 0, .long 0, .long 0, .long 0, .long 0])), (q_20, .inl (cA 5, 10, .inr (.inr (.inr (.inr (fun _ => none)))))), (q_21, .inr (6, [.ref q_22, .int 0, .ref q_23])), (q_22, .inl (cA 0, 1300, .inl (fun _ => 0))), (q_23, .inl (cA 0, 20, .inl (fun _ => 0))), (q_28, .inr (12, [.ref q_31, .ref q_32, .ref q_33, .ref q_34, .ref q_35, .ref q_36, .int 0, .int 0, .long 0, .long 0, .ref q_37, .ref q_38, .ref q_39, .int 0, .int 0, .int 0, .int 0, .int 0, .int (-1), .int 0, .int 0, .ref q_40, .ref q_41, .ref q_42, .int 0])), (q_32, .inl (cA 2, 334, .inr (.inl (fun _ => 0)))), (q_33, .inl (cA 2, 334, .inr (.inl (fun _ => 0)))), (q_34, .inl (cA 2, 334, .inr (.inl (fun _ => 0)))), (q_35, .inl (cA 2, 334, .inr (.inl (fun _ => 0)))), (q_36, .inl (cA 2, 3340, .inr (.inl (fun _ => 0)))), (q_37, .inl (cA 2, 12, .inr (.inl (fun _ => 0)))), (q_38, .inl (cA 3, 12, .inl (fun _ => 0))), (q_39, .inl (cA 0, 400, .inl (fun _ => 0))), (q_40, .inl (cA 2, 6, .inr (.inl (fun _ => 0)))), (q_41, .inl (cA 2, 6, .inr (.inl (fun _ => 0)))), (q_42, .inl (cA 0, 2400, .inl (fun _ => 0))), (q_31, .inl (cA 2, 334, .inr (.inl (vp_updL (vp_updL (fun _ => 0) 0 1) 4 100)))), (q_43, .inl (cA 2, 1, .inr (.inl (fun _ => 0)))), (q_44, .inl (cA 4, 1, .inr (.inr (.inr (.inl (fun _ => 0))))))]) 156 10481 1302 [(5, .int 0), (4, .ref q_44), (3, .ref q_43), (2, .ref q_28), (1, .ref q_1), (0, .ref b)] [] := by
  refine jj_aload_n C dL_law_1302 rfl ?_
  refine jj_aload_n C dL_law_1303 rfl ?_
  refine jj_iload C dL_law_1304 rfl ?_
  refine jj_iconst (v := 1) C dL_law_1306 (by decide) ?_
  refine jj_iadd (v := 1) C dL_law_1307 (by decide) ?_
  refine jj_xld (v := xs 1) C hX hbl hbA (vp_in_iff.mpr (by decide)) rfl dL_law_1308 ?_
  refine jj_aload_n C dL_law_1309 rfl ?_
  refine jq_callSW (rest := []) C (ct_L_unitsOf_1 hl D cA ak q_1 q_43 q_6 q_4 q_12 q_18 q_20 q_21 q_7 q_8 q_9 q_10 (xs 1)) [0, 29, 3] [1, 2, 4, 5, 6, 7, 8, 9, 10, 11, 12, 13, 14, 15, 16, 17, 18, 19, 20, 21, 22, 23, 24, 25, 26, 27, 28, 30] rfl rfl (by decide) (by decide) (by decide) jw_1237 jw_1238 jw_985 jw_1236 jn_L_unitsOf rfl (jj_le rfl) (jj_le rfl) (jj_le rfl) (jj_le rfl) (jj_le rfl) dL_law_1310 rfl (fun _ _ hX => hX.elim) (fun w1 r O_47 => ?_)
  rcases O_47 with ⟨c_48, rfl, rfl⟩ | ⟨c_49, c_50, rfl, rfl⟩ | ⟨c_51, c_52, rfl, rfl⟩
  · refine jj_apd rfl ?_
    refine jj_istore C dL_law_1313 (by decide) rfl ?_
    refine jj_aload_n C dL_law_1315 rfl ?_
    refine jj_aload_n C dL_law_1316 rfl ?_
    refine jj_iload C dL_law_1317 rfl ?_
    refine jj_iconst (v := 1) C dL_law_1319 (by decide) ?_
    refine jj_iadd (v := 1) C dL_law_1320 (by decide) ?_
    refine jj_xld (v := xs 1) C hX hbl hbA (vp_in_iff.mpr (by decide)) rfl dL_law_1321 ?_
    refine jq_callV (rest := []) C (ct_X11_unitsOf_1 hl D cA ak q_28 q_31 q_32 q_33 q_34 q_35 q_36 q_37 q_38 q_39 q_40 q_41 q_42 (xs 1)) [14, 26] [0, 1, 2, 3, 4, 5, 6, 7, 8, 9, 10, 11, 12, 13, 15, 16, 17, 18, 19, 20, 21, 22, 23, 24, 25, 27, 28] rfl rfl (by decide) (by decide) (by decide) 0 rfl rfl rfl jw_1240 jw_1241 jw_1242 jw_224 jw_518 jn_X11_unitsOf rfl (jj_le rfl) (jj_le rfl) (jj_le rfl) (jj_le rfl) (jj_le rfl) dL_law_1322 rfl (fun _ _ hX => hX.elim) (fun w1 r O_54 => ?_)
    rcases O_54 with ⟨c_55, rfl, rfl⟩ | ⟨c_56, c_57, rfl, rfl⟩ | ⟨c_58, c_59, rfl, rfl⟩
    · refine jj_apd rfl ?_
      refine jj_lstore C dL_law_1325 (by decide) rfl ?_
      refine jj_aload_n C dL_law_1327 rfl ?_
      refine jq_callV (rest := []) C (ct_X11_thrown_2 hl D cA ak q_28 q_31 q_32 q_33 q_34 q_35 q_36 q_37 q_38 q_39 q_40 q_41 q_42) [28] [0, 1, 2, 3, 4, 5, 6, 7, 8, 9, 10, 11, 12, 13, 14, 15, 16, 17, 18, 19, 20, 21, 22, 23, 24, 25, 26, 27] rfl rfl (by decide) (by decide) (by decide) 0 rfl rfl rfl jw_993 jw_994 jw_995 jw_224 jw_992 jn_X11_thrown rfl (jj_le rfl) (jj_le rfl) (jj_le rfl) (jj_le rfl) (jj_le rfl) dL_law_1328 rfl (fun _ _ hX => hX.elim) (fun w1 r O_61 => ?_)
      obtain ⟨rfl, rfl⟩ := O_61
      refine jj_apd rfl ?_
      refine jj_iload C dL_law_1331 rfl ?_
      refine jj_icmp_eqT (tgt := 1338) C dL_law_1333 (by decide) (by decide) ?_
      refine jj_iload C dL_law_1338 rfl ?_
      refine jj_if_neT (tgt := 1354) C dL_law_1340 (by decide) (by decide) ?_
      refine jj_goto (tgt := 2259) C dL_law_1354 (by decide) ?_
      exact jj_loc [7, 2] rfl (jj_drop [] rfl (by decide) (jj_widen (k := 600006) (n := 7302072) (jj_le rfl) (jj_le rfl) hend))
    · refine jj_apd rfl ?_
      refine jj_lstore C dL_law_1325 (by decide) rfl ?_
      refine jj_aload_n C dL_law_1327 rfl ?_
      refine jq_callV (rest := []) C (ct_X11_thrown_2 hl D cA ak q_28 q_31 q_32 q_33 q_34 q_35 q_36 q_37 q_38 q_39 q_40 q_41 q_42) [28] [0, 1, 2, 3, 4, 5, 6, 7, 8, 9, 10, 11, 12, 13, 14, 15, 16, 17, 18, 19, 20, 21, 22, 23, 24, 25, 26, 27] rfl rfl (by decide) (by decide) (by decide) 0 rfl rfl rfl jw_993 jw_994 jw_995 jw_224 jw_992 jn_X11_thrown rfl (jj_le rfl) (jj_le rfl) (jj_le rfl) (jj_le rfl) (jj_le rfl) dL_law_1328 rfl (fun _ _ hX => hX.elim) (fun w1 r O_63 => ?_)
      obtain ⟨rfl, rfl⟩ := O_63
      refine jj_apd rfl ?_
      refine jj_iload C dL_law_1331 rfl ?_
      refine jj_icmp_eqT (tgt := 1338) C dL_law_1333 (by decide) (by decide) ?_
      refine jj_iload C dL_law_1338 rfl ?_
      refine jj_if_neT (tgt := 1354) C dL_law_1340 (by decide) (by decide) ?_
      refine jj_goto (tgt := 2259) C dL_law_1354 (by decide) ?_
      exact jj_loc [7, 2] rfl (jj_drop [] rfl (by decide) (jj_widen (k := 600006) (n := 7302072) (jj_le rfl) (jj_le rfl) hend))
    · refine jj_apd rfl ?_
      refine jj_lstore C dL_law_1325 (by decide) rfl ?_
      refine jj_aload_n C dL_law_1327 rfl ?_
      refine jq_callV (rest := []) C (ct_X11_thrown_7 hl D cA ak q_28 q_31 q_32 q_33 q_34 q_35 q_36 q_37 q_38 q_39 q_40 q_41 q_42) [27] [0, 1, 2, 3, 4, 5, 6, 7, 8, 9, 10, 11, 12, 13, 14, 15, 16, 17, 18, 19, 20, 21, 22, 23, 24, 25, 26, 28] rfl rfl (by decide) (by decide) (by decide) 0 rfl rfl rfl jw_993 jw_994 jw_995 jw_224 jw_992 jn_X11_thrown rfl (jj_le rfl) (jj_le rfl) (jj_le rfl) (jj_le rfl) (jj_le rfl) dL_law_1328 rfl (fun _ _ hX => hX.elim) (fun w1 r O_65 => ?_)
      obtain ⟨rfl, rfl⟩ := O_65
      refine jj_apd rfl ?_
      refine jj_iload C dL_law_1331 rfl ?_
      refine jj_icmp_eqF (tgt := 1338) C dL_law_1333 (by decide) (by decide) ?_
      refine jj_iconst (v := 0) C dL_law_1336 (by decide) ?_
      exfalso; have z0 := jc_lt (a := (xs 1).toInt) (b := (0)) c_48 rfl (by decide); have z1 := jc_nltL (a := (xs 1).toInt) (b := (0)) c_58 (Int32.toInt_toInt64 _) (by decide); have z2 := jc_nltL (a := (0)) (b := (xs 1).toInt) c_59 (by decide) (Int32.toInt_toInt64 _); omega
  · refine jj_apd rfl ?_
    refine jj_istore C dL_law_1313 (by decide) rfl ?_
    refine jj_aload_n C dL_law_1315 rfl ?_
    refine jj_aload_n C dL_law_1316 rfl ?_
    refine jj_iload C dL_law_1317 rfl ?_
    refine jj_iconst (v := 1) C dL_law_1319 (by decide) ?_
    refine jj_iadd (v := 1) C dL_law_1320 (by decide) ?_
    refine jj_xld (v := xs 1) C hX hbl hbA (vp_in_iff.mpr (by decide)) rfl dL_law_1321 ?_
    refine jq_callV (rest := []) C (ct_X11_unitsOf_1 hl D cA ak q_28 q_31 q_32 q_33 q_34 q_35 q_36 q_37 q_38 q_39 q_40 q_41 q_42 (xs 1)) [14, 26] [0, 1, 2, 3, 4, 5, 6, 7, 8, 9, 10, 11, 12, 13, 15, 16, 17, 18, 19, 20, 21, 22, 23, 24, 25, 27, 28] rfl rfl (by decide) (by decide) (by decide) 0 rfl rfl rfl jw_1240 jw_1241 jw_1242 jw_224 jw_518 jn_X11_unitsOf rfl (jj_le rfl) (jj_le rfl) (jj_le rfl) (jj_le rfl) (jj_le rfl) dL_law_1322 rfl (fun _ _ hX => hX.elim) (fun w1 r O_67 => ?_)
    rcases O_67 with ⟨c_68, rfl, rfl⟩ | ⟨c_69, c_70, rfl, rfl⟩ | ⟨c_71, c_72, rfl, rfl⟩
    · refine jj_apd rfl ?_
      refine jj_lstore C dL_law_1325 (by decide) rfl ?_
      refine jj_aload_n C dL_law_1327 rfl ?_
      refine jq_callV (rest := []) C (ct_X11_thrown_2 hl D cA ak q_28 q_31 q_32 q_33 q_34 q_35 q_36 q_37 q_38 q_39 q_40 q_41 q_42) [28] [0, 1, 2, 3, 4, 5, 6, 7, 8, 9, 10, 11, 12, 13, 14, 15, 16, 17, 18, 19, 20, 21, 22, 23, 24, 25, 26, 27] rfl rfl (by decide) (by decide) (by decide) 0 rfl rfl rfl jw_993 jw_994 jw_995 jw_224 jw_992 jn_X11_thrown rfl (jj_le rfl) (jj_le rfl) (jj_le rfl) (jj_le rfl) (jj_le rfl) dL_law_1328 rfl (fun _ _ hX => hX.elim) (fun w1 r O_74 => ?_)
      obtain ⟨rfl, rfl⟩ := O_74
      refine jj_apd rfl ?_
      refine jj_iload C dL_law_1331 rfl ?_
      refine jj_icmp_eqT (tgt := 1338) C dL_law_1333 (by decide) (by decide) ?_
      refine jj_iload C dL_law_1338 rfl ?_
      refine jj_if_neT (tgt := 1354) C dL_law_1340 (by decide) (by decide) ?_
      refine jj_goto (tgt := 2259) C dL_law_1354 (by decide) ?_
      exact jj_loc [7, 2] rfl (jj_drop [] rfl (by decide) (jj_widen (k := 600006) (n := 7302072) (jj_le rfl) (jj_le rfl) hend))
    · refine jj_apd rfl ?_
      refine jj_lstore C dL_law_1325 (by decide) rfl ?_
      refine jj_aload_n C dL_law_1327 rfl ?_
      refine jq_callV (rest := []) C (ct_X11_thrown_2 hl D cA ak q_28 q_31 q_32 q_33 q_34 q_35 q_36 q_37 q_38 q_39 q_40 q_41 q_42) [28] [0, 1, 2, 3, 4, 5, 6, 7, 8, 9, 10, 11, 12, 13, 14, 15, 16, 17, 18, 19, 20, 21, 22, 23, 24, 25, 26, 27] rfl rfl (by decide) (by decide) (by decide) 0 rfl rfl rfl jw_993 jw_994 jw_995 jw_224 jw_992 jn_X11_thrown rfl (jj_le rfl) (jj_le rfl) (jj_le rfl) (jj_le rfl) (jj_le rfl) dL_law_1328 rfl (fun _ _ hX => hX.elim) (fun w1 r O_76 => ?_)
      obtain ⟨rfl, rfl⟩ := O_76
      refine jj_apd rfl ?_
      refine jj_iload C dL_law_1331 rfl ?_
      refine jj_icmp_eqT (tgt := 1338) C dL_law_1333 (by decide) (by decide) ?_
      refine jj_iload C dL_law_1338 rfl ?_
      refine jj_if_neT (tgt := 1354) C dL_law_1340 (by decide) (by decide) ?_
      refine jj_goto (tgt := 2259) C dL_law_1354 (by decide) ?_
      exact jj_loc [7, 2] rfl (jj_drop [] rfl (by decide) (jj_widen (k := 600006) (n := 7302072) (jj_le rfl) (jj_le rfl) hend))
    · refine jj_apd rfl ?_
      refine jj_lstore C dL_law_1325 (by decide) rfl ?_
      refine jj_aload_n C dL_law_1327 rfl ?_
      refine jq_callV (rest := []) C (ct_X11_thrown_7 hl D cA ak q_28 q_31 q_32 q_33 q_34 q_35 q_36 q_37 q_38 q_39 q_40 q_41 q_42) [27] [0, 1, 2, 3, 4, 5, 6, 7, 8, 9, 10, 11, 12, 13, 14, 15, 16, 17, 18, 19, 20, 21, 22, 23, 24, 25, 26, 28] rfl rfl (by decide) (by decide) (by decide) 0 rfl rfl rfl jw_993 jw_994 jw_995 jw_224 jw_992 jn_X11_thrown rfl (jj_le rfl) (jj_le rfl) (jj_le rfl) (jj_le rfl) (jj_le rfl) dL_law_1328 rfl (fun _ _ hX => hX.elim) (fun w1 r O_78 => ?_)
      obtain ⟨rfl, rfl⟩ := O_78
      refine jj_apd rfl ?_
      refine jj_iload C dL_law_1331 rfl ?_
      refine jj_icmp_eqF (tgt := 1338) C dL_law_1333 (by decide) (by decide) ?_
      refine jj_iconst (v := 0) C dL_law_1336 (by decide) ?_
      exfalso; have z0 := jc_nlt (a := (xs 1).toInt) (b := (0)) c_49 rfl (by decide); have z1 := jc_le (a := (1)) (b := (xs 1).toInt) c_50 (by decide) rfl; have z2 := jc_nltL (a := (xs 1).toInt) (b := (0)) c_71 (Int32.toInt_toInt64 _) (by decide); have z3 := jc_nltL (a := (0)) (b := (xs 1).toInt) c_72 (by decide) (Int32.toInt_toInt64 _); omega
  · refine jj_apd rfl ?_
    refine jj_istore C dL_law_1313 (by decide) rfl ?_
    refine jj_aload_n C dL_law_1315 rfl ?_
    refine jj_aload_n C dL_law_1316 rfl ?_
    refine jj_iload C dL_law_1317 rfl ?_
    refine jj_iconst (v := 1) C dL_law_1319 (by decide) ?_
    refine jj_iadd (v := 1) C dL_law_1320 (by decide) ?_
    refine jj_xld (v := xs 1) C hX hbl hbA (vp_in_iff.mpr (by decide)) rfl dL_law_1321 ?_
    refine jq_callV (rest := []) C (ct_X11_unitsOf_1 hl D cA ak q_28 q_31 q_32 q_33 q_34 q_35 q_36 q_37 q_38 q_39 q_40 q_41 q_42 (xs 1)) [14, 26] [0, 1, 2, 3, 4, 5, 6, 7, 8, 9, 10, 11, 12, 13, 15, 16, 17, 18, 19, 20, 21, 22, 23, 24, 25, 27, 28] rfl rfl (by decide) (by decide) (by decide) 0 rfl rfl rfl jw_1240 jw_1241 jw_1242 jw_224 jw_518 jn_X11_unitsOf rfl (jj_le rfl) (jj_le rfl) (jj_le rfl) (jj_le rfl) (jj_le rfl) dL_law_1322 rfl (fun _ _ hX => hX.elim) (fun w1 r O_80 => ?_)
    rcases O_80 with ⟨c_81, rfl, rfl⟩ | ⟨c_82, c_83, rfl, rfl⟩ | ⟨c_84, c_85, rfl, rfl⟩
    · refine jj_apd rfl ?_
      refine jj_lstore C dL_law_1325 (by decide) rfl ?_
      refine jj_aload_n C dL_law_1327 rfl ?_
      refine jq_callV (rest := []) C (ct_X11_thrown_2 hl D cA ak q_28 q_31 q_32 q_33 q_34 q_35 q_36 q_37 q_38 q_39 q_40 q_41 q_42) [28] [0, 1, 2, 3, 4, 5, 6, 7, 8, 9, 10, 11, 12, 13, 14, 15, 16, 17, 18, 19, 20, 21, 22, 23, 24, 25, 26, 27] rfl rfl (by decide) (by decide) (by decide) 0 rfl rfl rfl jw_993 jw_994 jw_995 jw_224 jw_992 jn_X11_thrown rfl (jj_le rfl) (jj_le rfl) (jj_le rfl) (jj_le rfl) (jj_le rfl) dL_law_1328 rfl (fun _ _ hX => hX.elim) (fun w1 r O_87 => ?_)
      obtain ⟨rfl, rfl⟩ := O_87
      refine jj_apd rfl ?_
      refine jj_iload C dL_law_1331 rfl ?_
      refine jj_icmp_eqF (tgt := 1338) C dL_law_1333 (by decide) (by decide) ?_
      refine jj_iconst (v := 0) C dL_law_1336 (by decide) ?_
      exfalso; have z0 := jc_nlt (a := (xs 1).toInt) (b := (0)) c_51 rfl (by decide); have z1 := jc_nle (a := (1)) (b := (xs 1).toInt) c_52 (by decide) rfl; have z2 := jc_ltL (a := (xs 1).toInt) (b := (0)) c_81 (Int32.toInt_toInt64 _) (by decide); omega
    · refine jj_apd rfl ?_
      refine jj_lstore C dL_law_1325 (by decide) rfl ?_
      refine jj_aload_n C dL_law_1327 rfl ?_
      refine jq_callV (rest := []) C (ct_X11_thrown_2 hl D cA ak q_28 q_31 q_32 q_33 q_34 q_35 q_36 q_37 q_38 q_39 q_40 q_41 q_42) [28] [0, 1, 2, 3, 4, 5, 6, 7, 8, 9, 10, 11, 12, 13, 14, 15, 16, 17, 18, 19, 20, 21, 22, 23, 24, 25, 26, 27] rfl rfl (by decide) (by decide) (by decide) 0 rfl rfl rfl jw_993 jw_994 jw_995 jw_224 jw_992 jn_X11_thrown rfl (jj_le rfl) (jj_le rfl) (jj_le rfl) (jj_le rfl) (jj_le rfl) dL_law_1328 rfl (fun _ _ hX => hX.elim) (fun w1 r O_89 => ?_)
      obtain ⟨rfl, rfl⟩ := O_89
      refine jj_apd rfl ?_
      refine jj_iload C dL_law_1331 rfl ?_
      refine jj_icmp_eqF (tgt := 1338) C dL_law_1333 (by decide) (by decide) ?_
      refine jj_iconst (v := 0) C dL_law_1336 (by decide) ?_
      exfalso; have z0 := jc_nlt (a := (xs 1).toInt) (b := (0)) c_51 rfl (by decide); have z1 := jc_nle (a := (1)) (b := (xs 1).toInt) c_52 (by decide) rfl; have z2 := jc_nltL (a := (xs 1).toInt) (b := (0)) c_82 (Int32.toInt_toInt64 _) (by decide); have z3 := jc_ltL (a := (0)) (b := (xs 1).toInt) c_83 (by decide) (Int32.toInt_toInt64 _); omega
    · refine jj_apd rfl ?_
      refine jj_lstore C dL_law_1325 (by decide) rfl ?_
      refine jj_aload_n C dL_law_1327 rfl ?_
      refine jq_callV (rest := []) C (ct_X11_thrown_7 hl D cA ak q_28 q_31 q_32 q_33 q_34 q_35 q_36 q_37 q_38 q_39 q_40 q_41 q_42) [27] [0, 1, 2, 3, 4, 5, 6, 7, 8, 9, 10, 11, 12, 13, 14, 15, 16, 17, 18, 19, 20, 21, 22, 23, 24, 25, 26, 28] rfl rfl (by decide) (by decide) (by decide) 0 rfl rfl rfl jw_993 jw_994 jw_995 jw_224 jw_992 jn_X11_thrown rfl (jj_le rfl) (jj_le rfl) (jj_le rfl) (jj_le rfl) (jj_le rfl) dL_law_1328 rfl (fun _ _ hX => hX.elim) (fun w1 r O_91 => ?_)
      obtain ⟨rfl, rfl⟩ := O_91
      refine jj_apd rfl ?_
      refine jj_iload C dL_law_1331 rfl ?_
      refine jj_icmp_eqT (tgt := 1338) C dL_law_1333 (by decide) (by decide) ?_
      refine jj_iload C dL_law_1338 rfl ?_
      refine jj_if_neF (tgt := 1354) C dL_law_1340 (by decide) (by decide) ?_
      refine jj_aload_n C dL_law_1343 rfl ?_
      refine jj_iconst (v := 0) C dL_law_1344 (by decide) ?_
      refine jj_lald (v := 0) C 26 rfl (vp_in_iff.mpr (by decide)) rfl dL_law_1345 ?_
      refine jj_lload C dL_law_1346 rfl ?_
      refine jj_lcmp_eqT (tgt := 1354) C dL_law_1348 dL_law_1349 (by decide) (by decide) ?_
      refine jj_goto (tgt := 2259) C dL_law_1354 (by decide) ?_
      exact jj_loc [7, 2] rfl (jj_drop [] rfl (by decide) (jj_widen (k := 600006) (n := 7302072) (jj_le rfl) (jj_le rfl) hend))

set_option maxHeartbeats 4000000 in
set_option maxRecDepth 100000 in
theorem law_c24 {p : Program} {l : Launch} {e : Env} {s : State} {m : MethodId} {below : List Frame} {meth : Method} {c : Code} (hl : l.stackTraces = false) {D : va_G} {cA : Nat → ClassId} {ak : (Nat → Nat) × (Nat → Nat)} {A : Nat → Prop} {b : Nat} {xs : Nat → Int32} {Q : State → Prop} (C : jj_C p l s m #[Value.ref b] meth c code 9 R_law ret D cA A ak) (hX : va_X b 6 xs s s.heap) (hbl : b < s.heap.size) (hbA : ¬ A b) (hend : jj_J p l e room_1 s m #[Value.ref b] below meth c 9 A Q (jj_X D A []) 600006 7302072 2259 [(0, .ref b), (5, .int 0)] []) (q_1 q_4 q_5 q_6 q_7 q_8 q_9 q_10 q_11 q_12 q_13 q_14 q_15 q_16 q_17 q_18 q_19 q_20 q_21 q_22 q_23 q_28 q_31 q_32 q_33 q_34 q_35 q_36 q_37 q_38 q_39 q_40 q_41 q_42 q_43 q_44 : Nat) (f_24 : Nat → Option Nat) (f_25 : Nat → Option Nat) (c_26 : f_24 0 = some q_11) (c_27 : f_25 0 = some q_17) : jj_J p l e room_1 s m #[Value.ref b] below meth c 9 A Q (jj_X D A [(q_1, .inr (11, [.ref q_4, .int 0, .int (-1), .ref q_6, .ref q_12, .ref q_18, .ref q_20, .int 0, .int 0, .ref q_21])), (q_4, .inr (10, [.ref q_5, .int 0, .int 0, .int 0, .int 0, .int 0, .int (-1)])), (q_5, .inl (cA 1, 400, .inl (fun _ => 0))), (q_6, .inr (2, [.int 1, .int 0, .int 0, .int 0, .int 100, .int 0, .int 0, .int 0, .int 0, .int 0, .ref q_7, .ref q_8, .ref q_9, .ref q_10])), (q_7, .inl (cA 2, 6, .inr (.inl (fun _ => 0)))), (q_10, .inl (cA 7, 12, .inr (.inr (.inr (.inr f_24))))), (q_11, .inr (7, [.int 0, .int 0, .int 0, .long 0, .long 0])), (q_12, .inr (2, [.int 1, .int 0, .int 0, .int 0, .int 100, .int 0, .int 0, .int 0, .int 0, .int 0, .ref q_13, .ref q_14, .ref q_15, .ref q_16])), (q_13, .inl (cA 2, 6, .inr (.inl (fun _ => 0)))), (q_16, .inl (cA 7, 12, .inr (.inr (.inr (.inr f_25))))), (q_17, .inr (7, [.int 0, .int 0, .int 0, .long 0, .long 0])), (q_18, .inr (3, [.ref q_19, .long 0, .long 0, .long 0, .long 0, .long 0])), (q_20, .inl (cA 5, 10, .inr (.inr (.inr (.inr (fun _ => none)))))), (q_21, .inr (6, [.ref q_22, .int 0, .ref q_23])), (q_22, .inl (cA 0, 1300, .inl (fun _ => 0))), (q_23, .inl (cA 0, 20, .inl (fun _ => 0))), (q_28, .inr (12, [.ref q_31, .ref q_32, .ref q_33, .ref q_34, .ref q_35, .ref q_36, .int 0, .int 0, .long 0, .long 0, .ref q_37, .ref q_38, .ref q_39, .int 0, .int 0, .int 0, .int 0, .int 0, .int (-1), .int 0, .int 0, .ref q_40, .ref q_41, .ref q_42, .int 0])), (q_32, .inl (cA 2, 334, .inr (.inl (fun _ => 0)))), (q_33, .inl (cA 2, 334, .inr (.inl (fun _ => 0)))), (q_34, .inl (cA 2, 334, .inr (.inl (fun _ => 0)))), (q_35, .inl (cA 2, 334, .inr (.inl (fun _ => 0)))), (q_36, .inl (cA 2, 3340, .inr (.inl (fun _ => 0)))), (q_37, .inl (cA 2, 12, .inr (.inl (fun _ => 0)))), (q_38, .inl (cA 3, 12, .inl (fun _ => 0))), (q_39, .inl (cA 0, 400, .inl (fun _ => 0))), (q_40, .inl (cA 2, 6, .inr (.inl (fun _ => 0)))), (q_41, .inl (cA 2, 6, .inr (.inl (fun _ => 0)))), (q_42, .inl (cA 0, 2400, .inl (fun _ => 0))), (q_31, .inl (cA 2, 334, .inr (.inl (vp_updL (vp_updL (fun _ => 0) 0 1) 4 100)))), (q_43, .inl (cA 2, 1, .inr (.inl (fun _ => 0)))), (q_44, .inl (cA 4, 1, .inr (.inr (.inr (.inl (fun _ => 0))))))]) 156 10481 1357 [(5, .int 0), (4, .ref q_44), (3, .ref q_43), (2, .ref q_28), (1, .ref q_1), (0, .ref b)] [] := by
  refine jj_aload_n C dL_law_1357 rfl ?_
  refine jj_aload_n C dL_law_1358 rfl ?_
  refine jj_iload C dL_law_1359 rfl ?_
  refine jj_iconst (v := 1) C dL_law_1361 (by decide) ?_
  refine jj_iadd (v := 1) C dL_law_1362 (by decide) ?_
  refine jj_xld (v := xs 1) C hX hbl hbA (vp_in_iff.mpr (by decide)) rfl dL_law_1363 ?_
  refine jj_aload_n C dL_law_1364 rfl ?_
  refine jj_iload C dL_law_1365 rfl ?_
  refine jj_iconst (v := 2) C dL_law_1367 (by decide) ?_
  refine jj_iadd (v := 2) C dL_law_1368 (by decide) ?_
  refine jj_xld (v := xs 2) C hX hbl hbA (vp_in_iff.mpr (by decide)) rfl dL_law_1369 ?_
  refine jj_aload_n C dL_law_1370 rfl ?_
  refine jq_callSW (rest := []) C (ct_L_holding_1 hl D cA ak q_1 q_6 q_43 q_4 q_12 q_18 q_20 q_21 q_7 q_8 q_9 q_10 (xs 1) (xs 2)) [0, 3] [1, 2, 4, 5, 6, 7, 8, 9, 10, 11, 12, 13, 14, 15, 16, 17, 18, 19, 20, 21, 22, 23, 24, 25, 26, 27, 28, 29, 30] rfl rfl (by decide) (by decide) (by decide) jw_1249 jw_1250 jw_985 jw_1248 jn_L_holding rfl (jj_le rfl) (jj_le rfl) (jj_le rfl) (jj_le rfl) (jj_le rfl) dL_law_1371 rfl (fun _ _ hX => hX.elim) (fun w1 r O_47 => ?_)
  rcases O_47 with ⟨c_48, rfl, rfl⟩ | ⟨c_49, c_50, rfl, rfl⟩ | ⟨c_51, c_52, rfl, rfl⟩
  · refine jj_apd rfl ?_
    refine jj_istore C dL_law_1374 (by decide) rfl ?_
    refine jj_aload_n C dL_law_1376 rfl ?_
    refine jj_aload_n C dL_law_1377 rfl ?_
    refine jj_iload C dL_law_1378 rfl ?_
    refine jj_iconst (v := 1) C dL_law_1380 (by decide) ?_
    refine jj_iadd (v := 1) C dL_law_1381 (by decide) ?_
    refine jj_xld (v := xs 1) C hX hbl hbA (vp_in_iff.mpr (by decide)) rfl dL_law_1382 ?_
    refine jj_aload_n C dL_law_1383 rfl ?_
    refine jj_iload C dL_law_1384 rfl ?_
    refine jj_iconst (v := 2) C dL_law_1386 (by decide) ?_
    refine jj_iadd (v := 2) C dL_law_1387 (by decide) ?_
    refine jj_xld (v := xs 2) C hX hbl hbA (vp_in_iff.mpr (by decide)) rfl dL_law_1388 ?_
    refine jq_callV (rest := []) C (ct_X11_holding_1 hl D cA ak q_28 q_31 q_32 q_33 q_34 q_35 q_36 q_37 q_38 q_39 q_40 q_41 q_42 (xs 1) (xs 2)) [14, 26] [0, 1, 2, 3, 4, 5, 6, 7, 8, 9, 10, 11, 12, 13, 15, 16, 17, 18, 19, 20, 21, 22, 23, 24, 25, 27, 28] rfl rfl (by decide) (by decide) (by decide) 0 rfl rfl rfl jw_1252 jw_1253 jw_1254 jw_224 jw_520 jn_X11_holding rfl (jj_le rfl) (jj_le rfl) (jj_le rfl) (jj_le rfl) (jj_le rfl) dL_law_1389 rfl (fun _ _ hX => hX.elim) (fun w1 r O_54 => ?_)
    rcases O_54 with ⟨c_55, rfl, rfl⟩ | ⟨c_56, c_57, rfl, rfl⟩ | ⟨c_58, c_59, rfl, rfl⟩
    · refine jj_apd rfl ?_
      refine jj_lstore C dL_law_1392 (by decide) rfl ?_
      refine jj_aload_n C dL_law_1394 rfl ?_
      refine jq_callV (rest := []) C (ct_X11_thrown_2 hl D cA ak q_28 q_31 q_32 q_33 q_34 q_35 q_36 q_37 q_38 q_39 q_40 q_41 q_42) [28] [0, 1, 2, 3, 4, 5, 6, 7, 8, 9, 10, 11, 12, 13, 14, 15, 16, 17, 18, 19, 20, 21, 22, 23, 24, 25, 26, 27] rfl rfl (by decide) (by decide) (by decide) 0 rfl rfl rfl jw_993 jw_994 jw_995 jw_224 jw_992 jn_X11_thrown rfl (jj_le rfl) (jj_le rfl) (jj_le rfl) (jj_le rfl) (jj_le rfl) dL_law_1395 rfl (fun _ _ hX => hX.elim) (fun w1 r O_61 => ?_)
      obtain ⟨rfl, rfl⟩ := O_61
      refine jj_apd rfl ?_
      refine jj_iload C dL_law_1398 rfl ?_
      refine jj_icmp_eqT (tgt := 1405) C dL_law_1400 (by decide) (by decide) ?_
      refine jj_iload C dL_law_1405 rfl ?_
      refine jj_if_neT (tgt := 1421) C dL_law_1407 (by decide) (by decide) ?_
      refine jj_goto (tgt := 2259) C dL_law_1421 (by decide) ?_
      exact jj_loc [7, 2] rfl (jj_drop [] rfl (by decide) (jj_widen (k := 600006) (n := 7302072) (jj_le rfl) (jj_le rfl) hend))
    · refine jj_apd rfl ?_
      refine jj_lstore C dL_law_1392 (by decide) rfl ?_
      refine jj_aload_n C dL_law_1394 rfl ?_
      refine jq_callV (rest := []) C (ct_X11_thrown_2 hl D cA ak q_28 q_31 q_32 q_33 q_34 q_35 q_36 q_37 q_38 q_39 q_40 q_41 q_42) [28] [0, 1, 2, 3, 4, 5, 6, 7, 8, 9, 10, 11, 12, 13, 14, 15, 16, 17, 18, 19, 20, 21, 22, 23, 24, 25, 26, 27] rfl rfl (by decide) (by decide) (by decide) 0 rfl rfl rfl jw_993 jw_994 jw_995 jw_224 jw_992 jn_X11_thrown rfl (jj_le rfl) (jj_le rfl) (jj_le rfl) (jj_le rfl) (jj_le rfl) dL_law_1395 rfl (fun _ _ hX => hX.elim) (fun w1 r O_63 => ?_)
      obtain ⟨rfl, rfl⟩ := O_63
      refine jj_apd rfl ?_
      refine jj_iload C dL_law_1398 rfl ?_
      refine jj_icmp_eqT (tgt := 1405) C dL_law_1400 (by decide) (by decide) ?_
      refine jj_iload C dL_law_1405 rfl ?_
      refine jj_if_neT (tgt := 1421) C dL_law_1407 (by decide) (by decide) ?_
      refine jj_goto (tgt := 2259) C dL_law_1421 (by decide) ?_
      exact jj_loc [7, 2] rfl (jj_drop [] rfl (by decide) (jj_widen (k := 600006) (n := 7302072) (jj_le rfl) (jj_le rfl) hend))
    · refine jj_apd rfl ?_
      refine jj_lstore C dL_law_1392 (by decide) rfl ?_
      refine jj_aload_n C dL_law_1394 rfl ?_
      refine jq_callV (rest := []) C (ct_X11_thrown_2 hl D cA ak q_28 q_31 q_32 q_33 q_34 q_35 q_36 q_37 q_38 q_39 q_40 q_41 q_42) [28] [0, 1, 2, 3, 4, 5, 6, 7, 8, 9, 10, 11, 12, 13, 14, 15, 16, 17, 18, 19, 20, 21, 22, 23, 24, 25, 26, 27] rfl rfl (by decide) (by decide) (by decide) 0 rfl rfl rfl jw_993 jw_994 jw_995 jw_224 jw_992 jn_X11_thrown rfl (jj_le rfl) (jj_le rfl) (jj_le rfl) (jj_le rfl) (jj_le rfl) dL_law_1395 rfl (fun _ _ hX => hX.elim) (fun w1 r O_65 => ?_)
      obtain ⟨rfl, rfl⟩ := O_65
      refine jj_apd rfl ?_
      refine jj_iload C dL_law_1398 rfl ?_
      refine jj_icmp_eqT (tgt := 1405) C dL_law_1400 (by decide) (by decide) ?_
      refine jj_iload C dL_law_1405 rfl ?_
      refine jj_if_neT (tgt := 1421) C dL_law_1407 (by decide) (by decide) ?_
      refine jj_goto (tgt := 2259) C dL_law_1421 (by decide) ?_
      exact jj_loc [7, 2] rfl (jj_drop [] rfl (by decide) (jj_widen (k := 600006) (n := 7302072) (jj_le rfl) (jj_le rfl) hend))
  · refine jj_apd rfl ?_
    refine jj_istore C dL_law_1374 (by decide) rfl ?_
    refine jj_aload_n C dL_law_1376 rfl ?_
    refine jj_aload_n C dL_law_1377 rfl ?_
    refine jj_iload C dL_law_1378 rfl ?_
    refine jj_iconst (v := 1) C dL_law_1380 (by decide) ?_
    refine jj_iadd (v := 1) C dL_law_1381 (by decide) ?_
    refine jj_xld (v := xs 1) C hX hbl hbA (vp_in_iff.mpr (by decide)) rfl dL_law_1382 ?_
    refine jj_aload_n C dL_law_1383 rfl ?_
    refine jj_iload C dL_law_1384 rfl ?_
    refine jj_iconst (v := 2) C dL_law_1386 (by decide) ?_
    refine jj_iadd (v := 2) C dL_law_1387 (by decide) ?_
    refine jj_xld (v := xs 2) C hX hbl hbA (vp_in_iff.mpr (by decide)) rfl dL_law_1388 ?_
    refine jq_callV (rest := []) C (ct_X11_holding_1 hl D cA ak q_28 q_31 q_32 q_33 q_34 q_35 q_36 q_37 q_38 q_39 q_40 q_41 q_42 (xs 1) (xs 2)) [14, 26] [0, 1, 2, 3, 4, 5, 6, 7, 8, 9, 10, 11, 12, 13, 15, 16, 17, 18, 19, 20, 21, 22, 23, 24, 25, 27, 28] rfl rfl (by decide) (by decide) (by decide) 0 rfl rfl rfl jw_1252 jw_1253 jw_1254 jw_224 jw_520 jn_X11_holding rfl (jj_le rfl) (jj_le rfl) (jj_le rfl) (jj_le rfl) (jj_le rfl) dL_law_1389 rfl (fun _ _ hX => hX.elim) (fun w1 r O_67 => ?_)
    rcases O_67 with ⟨c_68, rfl, rfl⟩ | ⟨c_69, c_70, rfl, rfl⟩ | ⟨c_71, c_72, rfl, rfl⟩
    · refine jj_apd rfl ?_
      refine jj_lstore C dL_law_1392 (by decide) rfl ?_
      refine jj_aload_n C dL_law_1394 rfl ?_
      refine jq_callV (rest := []) C (ct_X11_thrown_2 hl D cA ak q_28 q_31 q_32 q_33 q_34 q_35 q_36 q_37 q_38 q_39 q_40 q_41 q_42) [28] [0, 1, 2, 3, 4, 5, 6, 7, 8, 9, 10, 11, 12, 13, 14, 15, 16, 17, 18, 19, 20, 21, 22, 23, 24, 25, 26, 27] rfl rfl (by decide) (by decide) (by decide) 0 rfl rfl rfl jw_993 jw_994 jw_995 jw_224 jw_992 jn_X11_thrown rfl (jj_le rfl) (jj_le rfl) (jj_le rfl) (jj_le rfl) (jj_le rfl) dL_law_1395 rfl (fun _ _ hX => hX.elim) (fun w1 r O_74 => ?_)
      obtain ⟨rfl, rfl⟩ := O_74
      refine jj_apd rfl ?_
      refine jj_iload C dL_law_1398 rfl ?_
      refine jj_icmp_eqT (tgt := 1405) C dL_law_1400 (by decide) (by decide) ?_
      refine jj_iload C dL_law_1405 rfl ?_
      refine jj_if_neT (tgt := 1421) C dL_law_1407 (by decide) (by decide) ?_
      refine jj_goto (tgt := 2259) C dL_law_1421 (by decide) ?_
      exact jj_loc [7, 2] rfl (jj_drop [] rfl (by decide) (jj_widen (k := 600006) (n := 7302072) (jj_le rfl) (jj_le rfl) hend))
    · refine jj_apd rfl ?_
      refine jj_lstore C dL_law_1392 (by decide) rfl ?_
      refine jj_aload_n C dL_law_1394 rfl ?_
      refine jq_callV (rest := []) C (ct_X11_thrown_2 hl D cA ak q_28 q_31 q_32 q_33 q_34 q_35 q_36 q_37 q_38 q_39 q_40 q_41 q_42) [28] [0, 1, 2, 3, 4, 5, 6, 7, 8, 9, 10, 11, 12, 13, 14, 15, 16, 17, 18, 19, 20, 21, 22, 23, 24, 25, 26, 27] rfl rfl (by decide) (by decide) (by decide) 0 rfl rfl rfl jw_993 jw_994 jw_995 jw_224 jw_992 jn_X11_thrown rfl (jj_le rfl) (jj_le rfl) (jj_le rfl) (jj_le rfl) (jj_le rfl) dL_law_1395 rfl (fun _ _ hX => hX.elim) (fun w1 r O_76 => ?_)
      obtain ⟨rfl, rfl⟩ := O_76
      refine jj_apd rfl ?_
      refine jj_iload C dL_law_1398 rfl ?_
      refine jj_icmp_eqT (tgt := 1405) C dL_law_1400 (by decide) (by decide) ?_
      refine jj_iload C dL_law_1405 rfl ?_
      refine jj_if_neT (tgt := 1421) C dL_law_1407 (by decide) (by decide) ?_
      refine jj_goto (tgt := 2259) C dL_law_1421 (by decide) ?_
      exact jj_loc [7, 2] rfl (jj_drop [] rfl (by decide) (jj_widen (k := 600006) (n := 7302072) (jj_le rfl) (jj_le rfl) hend))
    · refine jj_apd rfl ?_
      refine jj_lstore C dL_law_1392 (by decide) rfl ?_
      refine jj_aload_n C dL_law_1394 rfl ?_
      refine jq_callV (rest := []) C (ct_X11_thrown_2 hl D cA ak q_28 q_31 q_32 q_33 q_34 q_35 q_36 q_37 q_38 q_39 q_40 q_41 q_42) [28] [0, 1, 2, 3, 4, 5, 6, 7, 8, 9, 10, 11, 12, 13, 14, 15, 16, 17, 18, 19, 20, 21, 22, 23, 24, 25, 26, 27] rfl rfl (by decide) (by decide) (by decide) 0 rfl rfl rfl jw_993 jw_994 jw_995 jw_224 jw_992 jn_X11_thrown rfl (jj_le rfl) (jj_le rfl) (jj_le rfl) (jj_le rfl) (jj_le rfl) dL_law_1395 rfl (fun _ _ hX => hX.elim) (fun w1 r O_78 => ?_)
      obtain ⟨rfl, rfl⟩ := O_78
      refine jj_apd rfl ?_
      refine jj_iload C dL_law_1398 rfl ?_
      refine jj_icmp_eqT (tgt := 1405) C dL_law_1400 (by decide) (by decide) ?_
      refine jj_iload C dL_law_1405 rfl ?_
      refine jj_if_neT (tgt := 1421) C dL_law_1407 (by decide) (by decide) ?_
      refine jj_goto (tgt := 2259) C dL_law_1421 (by decide) ?_
      exact jj_loc [7, 2] rfl (jj_drop [] rfl (by decide) (jj_widen (k := 600006) (n := 7302072) (jj_le rfl) (jj_le rfl) hend))
  · refine jj_apd rfl ?_
    refine jj_istore C dL_law_1374 (by decide) rfl ?_
    refine jj_aload_n C dL_law_1376 rfl ?_
    refine jj_aload_n C dL_law_1377 rfl ?_
    refine jj_iload C dL_law_1378 rfl ?_
    refine jj_iconst (v := 1) C dL_law_1380 (by decide) ?_
    refine jj_iadd (v := 1) C dL_law_1381 (by decide) ?_
    refine jj_xld (v := xs 1) C hX hbl hbA (vp_in_iff.mpr (by decide)) rfl dL_law_1382 ?_
    refine jj_aload_n C dL_law_1383 rfl ?_
    refine jj_iload C dL_law_1384 rfl ?_
    refine jj_iconst (v := 2) C dL_law_1386 (by decide) ?_
    refine jj_iadd (v := 2) C dL_law_1387 (by decide) ?_
    refine jj_xld (v := xs 2) C hX hbl hbA (vp_in_iff.mpr (by decide)) rfl dL_law_1388 ?_
    refine jq_callV (rest := []) C (ct_X11_holding_1 hl D cA ak q_28 q_31 q_32 q_33 q_34 q_35 q_36 q_37 q_38 q_39 q_40 q_41 q_42 (xs 1) (xs 2)) [14, 26] [0, 1, 2, 3, 4, 5, 6, 7, 8, 9, 10, 11, 12, 13, 15, 16, 17, 18, 19, 20, 21, 22, 23, 24, 25, 27, 28] rfl rfl (by decide) (by decide) (by decide) 0 rfl rfl rfl jw_1252 jw_1253 jw_1254 jw_224 jw_520 jn_X11_holding rfl (jj_le rfl) (jj_le rfl) (jj_le rfl) (jj_le rfl) (jj_le rfl) dL_law_1389 rfl (fun _ _ hX => hX.elim) (fun w1 r O_80 => ?_)
    rcases O_80 with ⟨c_81, rfl, rfl⟩ | ⟨c_82, c_83, rfl, rfl⟩ | ⟨c_84, c_85, rfl, rfl⟩
    · refine jj_apd rfl ?_
      refine jj_lstore C dL_law_1392 (by decide) rfl ?_
      refine jj_aload_n C dL_law_1394 rfl ?_
      refine jq_callV (rest := []) C (ct_X11_thrown_2 hl D cA ak q_28 q_31 q_32 q_33 q_34 q_35 q_36 q_37 q_38 q_39 q_40 q_41 q_42) [28] [0, 1, 2, 3, 4, 5, 6, 7, 8, 9, 10, 11, 12, 13, 14, 15, 16, 17, 18, 19, 20, 21, 22, 23, 24, 25, 26, 27] rfl rfl (by decide) (by decide) (by decide) 0 rfl rfl rfl jw_993 jw_994 jw_995 jw_224 jw_992 jn_X11_thrown rfl (jj_le rfl) (jj_le rfl) (jj_le rfl) (jj_le rfl) (jj_le rfl) dL_law_1395 rfl (fun _ _ hX => hX.elim) (fun w1 r O_87 => ?_)
      obtain ⟨rfl, rfl⟩ := O_87
      refine jj_apd rfl ?_
      refine jj_iload C dL_law_1398 rfl ?_
      refine jj_icmp_eqT (tgt := 1405) C dL_law_1400 (by decide) (by decide) ?_
      refine jj_iload C dL_law_1405 rfl ?_
      refine jj_if_neT (tgt := 1421) C dL_law_1407 (by decide) (by decide) ?_
      refine jj_goto (tgt := 2259) C dL_law_1421 (by decide) ?_
      exact jj_loc [7, 2] rfl (jj_drop [] rfl (by decide) (jj_widen (k := 600006) (n := 7302072) (jj_le rfl) (jj_le rfl) hend))
    · refine jj_apd rfl ?_
      refine jj_lstore C dL_law_1392 (by decide) rfl ?_
      refine jj_aload_n C dL_law_1394 rfl ?_
      refine jq_callV (rest := []) C (ct_X11_thrown_2 hl D cA ak q_28 q_31 q_32 q_33 q_34 q_35 q_36 q_37 q_38 q_39 q_40 q_41 q_42) [28] [0, 1, 2, 3, 4, 5, 6, 7, 8, 9, 10, 11, 12, 13, 14, 15, 16, 17, 18, 19, 20, 21, 22, 23, 24, 25, 26, 27] rfl rfl (by decide) (by decide) (by decide) 0 rfl rfl rfl jw_993 jw_994 jw_995 jw_224 jw_992 jn_X11_thrown rfl (jj_le rfl) (jj_le rfl) (jj_le rfl) (jj_le rfl) (jj_le rfl) dL_law_1395 rfl (fun _ _ hX => hX.elim) (fun w1 r O_89 => ?_)
      obtain ⟨rfl, rfl⟩ := O_89
      refine jj_apd rfl ?_
      refine jj_iload C dL_law_1398 rfl ?_
      refine jj_icmp_eqT (tgt := 1405) C dL_law_1400 (by decide) (by decide) ?_
      refine jj_iload C dL_law_1405 rfl ?_
      refine jj_if_neT (tgt := 1421) C dL_law_1407 (by decide) (by decide) ?_
      refine jj_goto (tgt := 2259) C dL_law_1421 (by decide) ?_
      exact jj_loc [7, 2] rfl (jj_drop [] rfl (by decide) (jj_widen (k := 600006) (n := 7302072) (jj_le rfl) (jj_le rfl) hend))
    · refine jj_apd rfl ?_
      refine jj_lstore C dL_law_1392 (by decide) rfl ?_
      refine jj_aload_n C dL_law_1394 rfl ?_
      refine jq_callV (rest := []) C (ct_X11_thrown_2 hl D cA ak q_28 q_31 q_32 q_33 q_34 q_35 q_36 q_37 q_38 q_39 q_40 q_41 q_42) [28] [0, 1, 2, 3, 4, 5, 6, 7, 8, 9, 10, 11, 12, 13, 14, 15, 16, 17, 18, 19, 20, 21, 22, 23, 24, 25, 26, 27] rfl rfl (by decide) (by decide) (by decide) 0 rfl rfl rfl jw_993 jw_994 jw_995 jw_224 jw_992 jn_X11_thrown rfl (jj_le rfl) (jj_le rfl) (jj_le rfl) (jj_le rfl) (jj_le rfl) dL_law_1395 rfl (fun _ _ hX => hX.elim) (fun w1 r O_91 => ?_)
      obtain ⟨rfl, rfl⟩ := O_91
      refine jj_apd rfl ?_
      refine jj_iload C dL_law_1398 rfl ?_
      refine jj_icmp_eqT (tgt := 1405) C dL_law_1400 (by decide) (by decide) ?_
      refine jj_iload C dL_law_1405 rfl ?_
      refine jj_if_neT (tgt := 1421) C dL_law_1407 (by decide) (by decide) ?_
      refine jj_goto (tgt := 2259) C dL_law_1421 (by decide) ?_
      exact jj_loc [7, 2] rfl (jj_drop [] rfl (by decide) (jj_widen (k := 600006) (n := 7302072) (jj_le rfl) (jj_le rfl) hend))

