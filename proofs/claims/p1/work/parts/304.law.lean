set_option maxHeartbeats 4000000 in
set_option maxRecDepth 100000 in
theorem law_c25 {p : Program} {l : Launch} {e : Env} {s : State} {m : MethodId} {below : List Frame} {meth : Method} {c : Code} (hl : l.stackTraces = false) {D : va_G} {cA : Nat → ClassId} {ak : (Nat → Nat) × (Nat → Nat)} {A : Nat → Prop} {b : Nat} {xs : Nat → Int32} {Q : State → Prop} (C : jj_C p l s m #[Value.ref b] meth c code 9 R_law ret D cA A ak) (hX : va_X b 6 xs s s.heap) (hbl : b < s.heap.size) (hbA : ¬ A b) (hend : jj_J p l e room_1 s m #[Value.ref b] below meth c 9 A Q (jj_X D A []) 600006 7302072 2259 [(0, .ref b), (5, .int 0)] []) (q_1 q_4 q_5 q_6 q_7 q_8 q_9 q_10 q_11 q_12 q_13 q_14 q_15 q_16 q_17 q_18 q_19 q_20 q_21 q_22 q_23 q_28 q_31 q_32 q_33 q_34 q_35 q_36 q_37 q_38 q_39 q_40 q_41 q_42 q_43 q_44 : Nat) (f_24 : Nat → Option Nat) (f_25 : Nat → Option Nat) (c_26 : f_24 0 = some q_11) (c_27 : f_25 0 = some q_17) : jj_J p l e room_1 s m #[Value.ref b] below meth c 9 A Q (jj_X D A [(q_1, .inr (11, [.ref q_4, .int 0, .int (-1), .ref q_6, .ref q_12, .ref q_18, .ref q_20, .int 0, .int 0, .ref q_21])), (q_4, .inr (10, [.ref q_5, .int 0, .int 0, .int 0, .int 0, .int 0, .int (-1)])), (q_5, .inl (cA 1, 400, .inl (fun _ => 0))), (q_6, .inr (2, [.int 1, .int 0, .int 0, .int 0, .int 100, .int 0, .int 0, .int 0, .int 0, .int 0, .ref q_7, .ref q_8, .ref q_9, .ref q_10])), (q_7, .inl (cA 2, 6, .inr (.inl (fun _ => 0)))), (q_10, .inl (cA 7, 12, .inr (.inr (.inr (.inr f_24))))), (q_11, .inr (7, [.int 0, .int 0, .int 0, .long 0, .long 0])), (q_12, .inr (2, [.int 1, .int 0, .int 0, .int 0, .int 100, .int 0, .int 0, .int 0, .int 0, .int 0, .ref q_13, .ref q_14, .ref q_15, .ref q_16])), (q_13, .inl (cA 2, 6, .inr (.inl (fun _ => 0)))), (q_16, .inl (cA 7, 12, .inr (.inr (.inr (.inr f_25))))), (q_17, .inr (7, [.int 0, .int 0, .int 0, .long 0, .long 0])), (q_18, .inr (3, [.ref q_19, .long 0, .long 0, .long 0, .long 0, .long 0])), (q_20, .inl (cA 5, 10, .inr (.inr (.inr (.inr (fun _ => none)))))), (q_21, .inr (6, [.ref q_22, .int 0, .ref q_23])), (q_22, .inl (cA 0, 1300, .inl (fun _ => 0))), (q_23, .inl (cA 0, 20, .inl (fun _ => 0))), (q_28, .inr (12, [.ref q_31, .ref q_32, .ref q_33, .ref q_34, .ref q_35, .ref q_36, .int 0, .int 0, .long 0, .long 0, .ref q_37, .ref q_38, .ref q_39, .int 0, .int 0, .int 0, .int 0, .int 0, .int (-1), .int 0, .int 0, .ref q_40, .ref q_41, .ref q_42, .int 0])), (q_32, .inl (cA 2, 334, .inr (.inl (fun _ => 0)))), (q_33, .inl (cA 2, 334, .inr (.inl (fun _ => 0)))), (q_34, .inl (cA 2, 334, .inr (.inl (fun _ => 0)))), (q_35, .inl (cA 2, 334, .inr (.inl (fun _ => 0)))), (q_36, .inl (cA 2, 3340, .inr (.inl (fun _ => 0)))), (q_37, .inl (cA 2, 12, .inr (.inl (fun _ => 0)))), (q_38, .inl (cA 3, 12, .inl (fun _ => 0))), (q_39, .inl (cA 0, 400, .inl (fun _ => 0))), (q_40, .inl (cA 2, 6, .inr (.inl (fun _ => 0)))), (q_41, .inl (cA 2, 6, .inr (.inl (fun _ => 0)))), (q_42, .inl (cA 0, 2400, .inl (fun _ => 0))), (q_31, .inl (cA 2, 334, .inr (.inl (vp_updL (vp_updL (fun _ => 0) 0 1) 4 100)))), (q_43, .inl (cA 2, 1, .inr (.inl (fun _ => 0)))), (q_44, .inl (cA 4, 1, .inr (.inr (.inr (.inl (fun _ => 0))))))]) 156 10481 1424 [(5, .int 0), (4, .ref q_44), (3, .ref q_43), (2, .ref q_28), (1, .ref q_1), (0, .ref b)] [] := by
  refine jj_aload_n C dL_law_1424 rfl ?_
  refine jj_aload_n C dL_law_1425 rfl ?_
  refine jj_iload C dL_law_1426 rfl ?_
  refine jj_iconst (v := 1) C dL_law_1428 (by decide) ?_
  refine jj_iadd (v := 1) C dL_law_1429 (by decide) ?_
  refine jj_xld (v := xs 1) C hX hbl hbA (vp_in_iff.mpr (by decide)) rfl dL_law_1430 ?_
  refine jj_aload_n C dL_law_1431 rfl ?_
  refine jq_callSW (rest := []) C (ct_L_valueOf_1 hl D cA ak q_1 q_43 q_6 q_18 q_4 q_12 q_20 q_21 q_7 q_8 q_9 q_10 q_19 (xs 1)) [0, 29, 3, 11] [1, 2, 4, 5, 6, 7, 8, 9, 10, 12, 13, 14, 15, 16, 17, 18, 19, 20, 21, 22, 23, 24, 25, 26, 27, 28, 30] rfl rfl (by decide) (by decide) (by decide) jw_1261 jw_1262 jw_985 jw_1260 jn_L_valueOf rfl (jj_le rfl) (jj_le rfl) (jj_le rfl) (jj_le rfl) (jj_le rfl) dL_law_1432 rfl (fun _ _ hX => hX.elim) (fun w1 r O_47 => ?_)
  rcases O_47 with ⟨c_48, rfl, rfl⟩ | ⟨c_49, c_50, rfl, rfl⟩ | ⟨c_51, c_52, rfl, rfl⟩
  · refine jj_apd rfl ?_
    refine jj_istore C dL_law_1435 (by decide) rfl ?_
    refine jj_aload_n C dL_law_1437 rfl ?_
    refine jj_aload_n C dL_law_1438 rfl ?_
    refine jj_iload C dL_law_1439 rfl ?_
    refine jj_iconst (v := 1) C dL_law_1441 (by decide) ?_
    refine jj_iadd (v := 1) C dL_law_1442 (by decide) ?_
    refine jj_xld (v := xs 1) C hX hbl hbA (vp_in_iff.mpr (by decide)) rfl dL_law_1443 ?_
    refine jq_callV (rest := []) C (ct_X11_valueOf_1 hl D cA ak q_28 q_31 q_34 q_32 q_33 q_35 q_36 q_37 q_38 q_39 q_40 q_41 q_42 (xs 1)) [13, 25, 16] [0, 1, 2, 3, 4, 5, 6, 7, 8, 9, 10, 11, 12, 14, 15, 17, 18, 19, 20, 21, 22, 23, 24, 26, 27] rfl rfl (by decide) (by decide) (by decide) 0 rfl rfl rfl jw_1264 jw_1265 jw_1266 jw_224 jw_561 jn_X11_valueOf rfl (jj_le rfl) (jj_le rfl) (jj_le rfl) (jj_le rfl) (jj_le rfl) dL_law_1444 rfl (fun _ _ hX => hX.elim) (fun w1 r O_54 => ?_)
    rcases O_54 with ⟨c_55, rfl, rfl⟩ | ⟨c_56, c_57, rfl, rfl⟩ | ⟨c_58, c_59, rfl, rfl⟩
    · refine jj_apd rfl ?_
      refine jj_lstore C dL_law_1447 (by decide) rfl ?_
      refine jj_aload_n C dL_law_1449 rfl ?_
      refine jq_callV (rest := []) C (ct_X11_thrown_2 hl D cA ak q_28 q_31 q_32 q_33 q_34 q_35 q_36 q_37 q_38 q_39 q_40 q_41 q_42) [27] [0, 1, 2, 3, 4, 5, 6, 7, 8, 9, 10, 11, 12, 13, 14, 15, 16, 17, 18, 19, 20, 21, 22, 23, 24, 25, 26] rfl rfl (by decide) (by decide) (by decide) 0 rfl rfl rfl jw_993 jw_994 jw_995 jw_224 jw_992 jn_X11_thrown rfl (jj_le rfl) (jj_le rfl) (jj_le rfl) (jj_le rfl) (jj_le rfl) dL_law_1450 rfl (fun _ _ hX => hX.elim) (fun w1 r O_61 => ?_)
      obtain ⟨rfl, rfl⟩ := O_61
      refine jj_apd rfl ?_
      refine jj_iload C dL_law_1453 rfl ?_
      refine jj_icmp_eqT (tgt := 1460) C dL_law_1455 (by decide) (by decide) ?_
      refine jj_iload C dL_law_1460 rfl ?_
      refine jj_if_neT (tgt := 1476) C dL_law_1462 (by decide) (by decide) ?_
      refine jj_goto (tgt := 2259) C dL_law_1476 (by decide) ?_
      exact jj_loc [7, 2] rfl (jj_drop [] rfl (by decide) (jj_widen (k := 600006) (n := 7302072) (jj_le rfl) (jj_le rfl) hend))
    · refine jj_apd rfl ?_
      refine jj_lstore C dL_law_1447 (by decide) rfl ?_
      refine jj_aload_n C dL_law_1449 rfl ?_
      refine jq_callV (rest := []) C (ct_X11_thrown_2 hl D cA ak q_28 q_31 q_32 q_33 q_34 q_35 q_36 q_37 q_38 q_39 q_40 q_41 q_42) [27] [0, 1, 2, 3, 4, 5, 6, 7, 8, 9, 10, 11, 12, 13, 14, 15, 16, 17, 18, 19, 20, 21, 22, 23, 24, 25, 26] rfl rfl (by decide) (by decide) (by decide) 0 rfl rfl rfl jw_993 jw_994 jw_995 jw_224 jw_992 jn_X11_thrown rfl (jj_le rfl) (jj_le rfl) (jj_le rfl) (jj_le rfl) (jj_le rfl) dL_law_1450 rfl (fun _ _ hX => hX.elim) (fun w1 r O_63 => ?_)
      obtain ⟨rfl, rfl⟩ := O_63
      refine jj_apd rfl ?_
      refine jj_iload C dL_law_1453 rfl ?_
      refine jj_icmp_eqT (tgt := 1460) C dL_law_1455 (by decide) (by decide) ?_
      refine jj_iload C dL_law_1460 rfl ?_
      refine jj_if_neT (tgt := 1476) C dL_law_1462 (by decide) (by decide) ?_
      refine jj_goto (tgt := 2259) C dL_law_1476 (by decide) ?_
      exact jj_loc [7, 2] rfl (jj_drop [] rfl (by decide) (jj_widen (k := 600006) (n := 7302072) (jj_le rfl) (jj_le rfl) hend))
    · refine jj_apd rfl ?_
      refine jj_lstore C dL_law_1447 (by decide) rfl ?_
      refine jj_aload_n C dL_law_1449 rfl ?_
      refine jq_callV (rest := []) C (ct_X11_thrown_7 hl D cA ak q_28 q_31 q_32 q_33 q_34 q_35 q_36 q_37 q_38 q_39 q_40 q_41 q_42) [25] [0, 1, 2, 3, 4, 5, 6, 7, 8, 9, 10, 11, 12, 13, 14, 15, 16, 17, 18, 19, 20, 21, 22, 23, 24, 26, 27] rfl rfl (by decide) (by decide) (by decide) 0 rfl rfl rfl jw_993 jw_994 jw_995 jw_224 jw_992 jn_X11_thrown rfl (jj_le rfl) (jj_le rfl) (jj_le rfl) (jj_le rfl) (jj_le rfl) dL_law_1450 rfl (fun _ _ hX => hX.elim) (fun w1 r O_65 => ?_)
      obtain ⟨rfl, rfl⟩ := O_65
      refine jj_apd rfl ?_
      refine jj_iload C dL_law_1453 rfl ?_
      refine jj_icmp_eqF (tgt := 1460) C dL_law_1455 (by decide) (by decide) ?_
      refine jj_iconst (v := 0) C dL_law_1458 (by decide) ?_
      exfalso; have z0 := jc_lt (a := (xs 1).toInt) (b := (0)) c_48 rfl (by decide); have z1 := jc_nltL (a := (xs 1).toInt) (b := (0)) c_58 (Int32.toInt_toInt64 _) (by decide); have z2 := jc_nltL (a := (0)) (b := (xs 1).toInt) c_59 (by decide) (Int32.toInt_toInt64 _); omega
  · refine jj_apd rfl ?_
    refine jj_istore C dL_law_1435 (by decide) rfl ?_
    refine jj_aload_n C dL_law_1437 rfl ?_
    refine jj_aload_n C dL_law_1438 rfl ?_
    refine jj_iload C dL_law_1439 rfl ?_
    refine jj_iconst (v := 1) C dL_law_1441 (by decide) ?_
    refine jj_iadd (v := 1) C dL_law_1442 (by decide) ?_
    refine jj_xld (v := xs 1) C hX hbl hbA (vp_in_iff.mpr (by decide)) rfl dL_law_1443 ?_
    refine jq_callV (rest := []) C (ct_X11_valueOf_1 hl D cA ak q_28 q_31 q_34 q_32 q_33 q_35 q_36 q_37 q_38 q_39 q_40 q_41 q_42 (xs 1)) [13, 25, 16] [0, 1, 2, 3, 4, 5, 6, 7, 8, 9, 10, 11, 12, 14, 15, 17, 18, 19, 20, 21, 22, 23, 24, 26, 27] rfl rfl (by decide) (by decide) (by decide) 0 rfl rfl rfl jw_1264 jw_1265 jw_1266 jw_224 jw_561 jn_X11_valueOf rfl (jj_le rfl) (jj_le rfl) (jj_le rfl) (jj_le rfl) (jj_le rfl) dL_law_1444 rfl (fun _ _ hX => hX.elim) (fun w1 r O_67 => ?_)
    rcases O_67 with ⟨c_68, rfl, rfl⟩ | ⟨c_69, c_70, rfl, rfl⟩ | ⟨c_71, c_72, rfl, rfl⟩
    · refine jj_apd rfl ?_
      refine jj_lstore C dL_law_1447 (by decide) rfl ?_
      refine jj_aload_n C dL_law_1449 rfl ?_
      refine jq_callV (rest := []) C (ct_X11_thrown_2 hl D cA ak q_28 q_31 q_32 q_33 q_34 q_35 q_36 q_37 q_38 q_39 q_40 q_41 q_42) [27] [0, 1, 2, 3, 4, 5, 6, 7, 8, 9, 10, 11, 12, 13, 14, 15, 16, 17, 18, 19, 20, 21, 22, 23, 24, 25, 26] rfl rfl (by decide) (by decide) (by decide) 0 rfl rfl rfl jw_993 jw_994 jw_995 jw_224 jw_992 jn_X11_thrown rfl (jj_le rfl) (jj_le rfl) (jj_le rfl) (jj_le rfl) (jj_le rfl) dL_law_1450 rfl (fun _ _ hX => hX.elim) (fun w1 r O_74 => ?_)
      obtain ⟨rfl, rfl⟩ := O_74
      refine jj_apd rfl ?_
      refine jj_iload C dL_law_1453 rfl ?_
      refine jj_icmp_eqT (tgt := 1460) C dL_law_1455 (by decide) (by decide) ?_
      refine jj_iload C dL_law_1460 rfl ?_
      refine jj_if_neT (tgt := 1476) C dL_law_1462 (by decide) (by decide) ?_
      refine jj_goto (tgt := 2259) C dL_law_1476 (by decide) ?_
      exact jj_loc [7, 2] rfl (jj_drop [] rfl (by decide) (jj_widen (k := 600006) (n := 7302072) (jj_le rfl) (jj_le rfl) hend))
    · refine jj_apd rfl ?_
      refine jj_lstore C dL_law_1447 (by decide) rfl ?_
      refine jj_aload_n C dL_law_1449 rfl ?_
      refine jq_callV (rest := []) C (ct_X11_thrown_2 hl D cA ak q_28 q_31 q_32 q_33 q_34 q_35 q_36 q_37 q_38 q_39 q_40 q_41 q_42) [27] [0, 1, 2, 3, 4, 5, 6, 7, 8, 9, 10, 11, 12, 13, 14, 15, 16, 17, 18, 19, 20, 21, 22, 23, 24, 25, 26] rfl rfl (by decide) (by decide) (by decide) 0 rfl rfl rfl jw_993 jw_994 jw_995 jw_224 jw_992 jn_X11_thrown rfl (jj_le rfl) (jj_le rfl) (jj_le rfl) (jj_le rfl) (jj_le rfl) dL_law_1450 rfl (fun _ _ hX => hX.elim) (fun w1 r O_76 => ?_)
      obtain ⟨rfl, rfl⟩ := O_76
      refine jj_apd rfl ?_
      refine jj_iload C dL_law_1453 rfl ?_
      refine jj_icmp_eqT (tgt := 1460) C dL_law_1455 (by decide) (by decide) ?_
      refine jj_iload C dL_law_1460 rfl ?_
      refine jj_if_neT (tgt := 1476) C dL_law_1462 (by decide) (by decide) ?_
      refine jj_goto (tgt := 2259) C dL_law_1476 (by decide) ?_
      exact jj_loc [7, 2] rfl (jj_drop [] rfl (by decide) (jj_widen (k := 600006) (n := 7302072) (jj_le rfl) (jj_le rfl) hend))
    · refine jj_apd rfl ?_
      refine jj_lstore C dL_law_1447 (by decide) rfl ?_
      refine jj_aload_n C dL_law_1449 rfl ?_
      refine jq_callV (rest := []) C (ct_X11_thrown_7 hl D cA ak q_28 q_31 q_32 q_33 q_34 q_35 q_36 q_37 q_38 q_39 q_40 q_41 q_42) [25] [0, 1, 2, 3, 4, 5, 6, 7, 8, 9, 10, 11, 12, 13, 14, 15, 16, 17, 18, 19, 20, 21, 22, 23, 24, 26, 27] rfl rfl (by decide) (by decide) (by decide) 0 rfl rfl rfl jw_993 jw_994 jw_995 jw_224 jw_992 jn_X11_thrown rfl (jj_le rfl) (jj_le rfl) (jj_le rfl) (jj_le rfl) (jj_le rfl) dL_law_1450 rfl (fun _ _ hX => hX.elim) (fun w1 r O_78 => ?_)
      obtain ⟨rfl, rfl⟩ := O_78
      refine jj_apd rfl ?_
      refine jj_iload C dL_law_1453 rfl ?_
      refine jj_icmp_eqF (tgt := 1460) C dL_law_1455 (by decide) (by decide) ?_
      refine jj_iconst (v := 0) C dL_law_1458 (by decide) ?_
      exfalso; have z0 := jc_nlt (a := (xs 1).toInt) (b := (0)) c_49 rfl (by decide); have z1 := jc_le (a := (1)) (b := (xs 1).toInt) c_50 (by decide) rfl; have z2 := jc_nltL (a := (xs 1).toInt) (b := (0)) c_71 (Int32.toInt_toInt64 _) (by decide); have z3 := jc_nltL (a := (0)) (b := (xs 1).toInt) c_72 (by decide) (Int32.toInt_toInt64 _); omega
  · refine jj_apd rfl ?_
    refine jj_istore C dL_law_1435 (by decide) rfl ?_
    refine jj_aload_n C dL_law_1437 rfl ?_
    refine jj_aload_n C dL_law_1438 rfl ?_
    refine jj_iload C dL_law_1439 rfl ?_
    refine jj_iconst (v := 1) C dL_law_1441 (by decide) ?_
    refine jj_iadd (v := 1) C dL_law_1442 (by decide) ?_
    refine jj_xld (v := xs 1) C hX hbl hbA (vp_in_iff.mpr (by decide)) rfl dL_law_1443 ?_
    refine jq_callV (rest := []) C (ct_X11_valueOf_1 hl D cA ak q_28 q_31 q_34 q_32 q_33 q_35 q_36 q_37 q_38 q_39 q_40 q_41 q_42 (xs 1)) [13, 25, 16] [0, 1, 2, 3, 4, 5, 6, 7, 8, 9, 10, 11, 12, 14, 15, 17, 18, 19, 20, 21, 22, 23, 24, 26, 27] rfl rfl (by decide) (by decide) (by decide) 0 rfl rfl rfl jw_1264 jw_1265 jw_1266 jw_224 jw_561 jn_X11_valueOf rfl (jj_le rfl) (jj_le rfl) (jj_le rfl) (jj_le rfl) (jj_le rfl) dL_law_1444 rfl (fun _ _ hX => hX.elim) (fun w1 r O_80 => ?_)
    rcases O_80 with ⟨c_81, rfl, rfl⟩ | ⟨c_82, c_83, rfl, rfl⟩ | ⟨c_84, c_85, rfl, rfl⟩
    · refine jj_apd rfl ?_
      refine jj_lstore C dL_law_1447 (by decide) rfl ?_
      refine jj_aload_n C dL_law_1449 rfl ?_
      refine jq_callV (rest := []) C (ct_X11_thrown_2 hl D cA ak q_28 q_31 q_32 q_33 q_34 q_35 q_36 q_37 q_38 q_39 q_40 q_41 q_42) [27] [0, 1, 2, 3, 4, 5, 6, 7, 8, 9, 10, 11, 12, 13, 14, 15, 16, 17, 18, 19, 20, 21, 22, 23, 24, 25, 26] rfl rfl (by decide) (by decide) (by decide) 0 rfl rfl rfl jw_993 jw_994 jw_995 jw_224 jw_992 jn_X11_thrown rfl (jj_le rfl) (jj_le rfl) (jj_le rfl) (jj_le rfl) (jj_le rfl) dL_law_1450 rfl (fun _ _ hX => hX.elim) (fun w1 r O_87 => ?_)
      obtain ⟨rfl, rfl⟩ := O_87
      refine jj_apd rfl ?_
      refine jj_iload C dL_law_1453 rfl ?_
      refine jj_icmp_eqF (tgt := 1460) C dL_law_1455 (by decide) (by decide) ?_
      refine jj_iconst (v := 0) C dL_law_1458 (by decide) ?_
      exfalso; have z0 := jc_nlt (a := (xs 1).toInt) (b := (0)) c_51 rfl (by decide); have z1 := jc_nle (a := (1)) (b := (xs 1).toInt) c_52 (by decide) rfl; have z2 := jc_ltL (a := (xs 1).toInt) (b := (0)) c_81 (Int32.toInt_toInt64 _) (by decide); omega
    · refine jj_apd rfl ?_
      refine jj_lstore C dL_law_1447 (by decide) rfl ?_
      refine jj_aload_n C dL_law_1449 rfl ?_
      refine jq_callV (rest := []) C (ct_X11_thrown_2 hl D cA ak q_28 q_31 q_32 q_33 q_34 q_35 q_36 q_37 q_38 q_39 q_40 q_41 q_42) [27] [0, 1, 2, 3, 4, 5, 6, 7, 8, 9, 10, 11, 12, 13, 14, 15, 16, 17, 18, 19, 20, 21, 22, 23, 24, 25, 26] rfl rfl (by decide) (by decide) (by decide) 0 rfl rfl rfl jw_993 jw_994 jw_995 jw_224 jw_992 jn_X11_thrown rfl (jj_le rfl) (jj_le rfl) (jj_le rfl) (jj_le rfl) (jj_le rfl) dL_law_1450 rfl (fun _ _ hX => hX.elim) (fun w1 r O_89 => ?_)
      obtain ⟨rfl, rfl⟩ := O_89
      refine jj_apd rfl ?_
      refine jj_iload C dL_law_1453 rfl ?_
      refine jj_icmp_eqF (tgt := 1460) C dL_law_1455 (by decide) (by decide) ?_
      refine jj_iconst (v := 0) C dL_law_1458 (by decide) ?_
      exfalso; have z0 := jc_nlt (a := (xs 1).toInt) (b := (0)) c_51 rfl (by decide); have z1 := jc_nle (a := (1)) (b := (xs 1).toInt) c_52 (by decide) rfl; have z2 := jc_nltL (a := (xs 1).toInt) (b := (0)) c_82 (Int32.toInt_toInt64 _) (by decide); have z3 := jc_ltL (a := (0)) (b := (xs 1).toInt) c_83 (by decide) (Int32.toInt_toInt64 _); omega
    · refine jj_apd rfl ?_
      refine jj_lstore C dL_law_1447 (by decide) rfl ?_
      refine jj_aload_n C dL_law_1449 rfl ?_
      refine jq_callV (rest := []) C (ct_X11_thrown_7 hl D cA ak q_28 q_31 q_32 q_33 q_34 q_35 q_36 q_37 q_38 q_39 q_40 q_41 q_42) [25] [0, 1, 2, 3, 4, 5, 6, 7, 8, 9, 10, 11, 12, 13, 14, 15, 16, 17, 18, 19, 20, 21, 22, 23, 24, 26, 27] rfl rfl (by decide) (by decide) (by decide) 0 rfl rfl rfl jw_993 jw_994 jw_995 jw_224 jw_992 jn_X11_thrown rfl (jj_le rfl) (jj_le rfl) (jj_le rfl) (jj_le rfl) (jj_le rfl) dL_law_1450 rfl (fun _ _ hX => hX.elim) (fun w1 r O_91 => ?_)
      obtain ⟨rfl, rfl⟩ := O_91
      refine jj_apd rfl ?_
      refine jj_iload C dL_law_1453 rfl ?_
      refine jj_icmp_eqT (tgt := 1460) C dL_law_1455 (by decide) (by decide) ?_
      refine jj_iload C dL_law_1460 rfl ?_
      refine jj_if_neF (tgt := 1476) C dL_law_1462 (by decide) (by decide) ?_
      refine jj_aload_n C dL_law_1465 rfl ?_
      refine jj_iconst (v := 0) C dL_law_1466 (by decide) ?_
      refine jj_lald (v := 0) C 24 rfl (vp_in_iff.mpr (by decide)) rfl dL_law_1467 ?_
      refine jj_lload C dL_law_1468 rfl ?_
      refine jj_lcmp_eqT (tgt := 1476) C dL_law_1470 dL_law_1471 (by decide) (by decide) ?_
      refine jj_goto (tgt := 2259) C dL_law_1476 (by decide) ?_
      exact jj_loc [7, 2] rfl (jj_drop [] rfl (by decide) (jj_widen (k := 600006) (n := 7302072) (jj_le rfl) (jj_le rfl) hend))

set_option maxHeartbeats 4000000 in
set_option maxRecDepth 100000 in
theorem law_c26 {p : Program} {l : Launch} {e : Env} {s : State} {m : MethodId} {below : List Frame} {meth : Method} {c : Code} (hl : l.stackTraces = false) {D : va_G} {cA : Nat → ClassId} {ak : (Nat → Nat) × (Nat → Nat)} {A : Nat → Prop} {b : Nat} {xs : Nat → Int32} {Q : State → Prop} (C : jj_C p l s m #[Value.ref b] meth c code 9 R_law ret D cA A ak) (hX : va_X b 6 xs s s.heap) (hbl : b < s.heap.size) (hbA : ¬ A b) (hend : jj_J p l e room_1 s m #[Value.ref b] below meth c 9 A Q (jj_X D A []) 600006 7302072 2259 [(0, .ref b), (5, .int 0)] []) (q_1 q_4 q_5 q_6 q_7 q_8 q_9 q_10 q_11 q_12 q_13 q_14 q_15 q_16 q_17 q_18 q_19 q_20 q_21 q_22 q_23 q_28 q_31 q_32 q_33 q_34 q_35 q_36 q_37 q_38 q_39 q_40 q_41 q_42 q_43 q_44 : Nat) (f_24 : Nat → Option Nat) (f_25 : Nat → Option Nat) (c_26 : f_24 0 = some q_11) (c_27 : f_25 0 = some q_17) : jj_J p l e room_1 s m #[Value.ref b] below meth c 9 A Q (jj_X D A [(q_1, .inr (11, [.ref q_4, .int 0, .int (-1), .ref q_6, .ref q_12, .ref q_18, .ref q_20, .int 0, .int 0, .ref q_21])), (q_4, .inr (10, [.ref q_5, .int 0, .int 0, .int 0, .int 0, .int 0, .int (-1)])), (q_5, .inl (cA 1, 400, .inl (fun _ => 0))), (q_6, .inr (2, [.int 1, .int 0, .int 0, .int 0, .int 100, .int 0, .int 0, .int 0, .int 0, .int 0, .ref q_7, .ref q_8, .ref q_9, .ref q_10])), (q_7, .inl (cA 2, 6, .inr (.inl (fun _ => 0)))), (q_10, .inl (cA 7, 12, .inr (.inr (.inr (.inr f_24))))), (q_11, .inr (7, [.int 0, .int 0, .int 0, .long 0, .long 0])), (q_12, .inr (2, [.int 1, .int 0, .int 0, .int 0, .int 100, .int 0, .int 0, .int 0, .int 0, .int 0, .ref q_13, .ref q_14, .ref q_15, .ref q_16])), (q_13, .inl (cA 2, 6, .inr (.inl (fun _ => 0)))), (q_16, .inl (cA 7, 12, .inr (.inr (.inr (.inr f_25))))), (q_17, .inr (7, [.int 0, .int 0, .int 0, .long 0, .long 0])), (q_18, .inr (3, [.ref q_19, .long 0, .long 0, .long 0, .long 0, .long 0])), (q_20, .inl (cA 5, 10, .inr (.inr (.inr (.inr (fun _ => none)))))), (q_21, .inr (6, [.ref q_22, .int 0, .ref q_23])), (q_22, .inl (cA 0, 1300, .inl (fun _ => 0))), (q_23, .inl (cA 0, 20, .inl (fun _ => 0))), (q_28, .inr (12, [.ref q_31, .ref q_32, .ref q_33, .ref q_34, .ref q_35, .ref q_36, .int 0, .int 0, .long 0, .long 0, .ref q_37, .ref q_38, .ref q_39, .int 0, .int 0, .int 0, .int 0, .int 0, .int (-1), .int 0, .int 0, .ref q_40, .ref q_41, .ref q_42, .int 0])), (q_32, .inl (cA 2, 334, .inr (.inl (fun _ => 0)))), (q_33, .inl (cA 2, 334, .inr (.inl (fun _ => 0)))), (q_34, .inl (cA 2, 334, .inr (.inl (fun _ => 0)))), (q_35, .inl (cA 2, 334, .inr (.inl (fun _ => 0)))), (q_36, .inl (cA 2, 3340, .inr (.inl (fun _ => 0)))), (q_37, .inl (cA 2, 12, .inr (.inl (fun _ => 0)))), (q_38, .inl (cA 3, 12, .inl (fun _ => 0))), (q_39, .inl (cA 0, 400, .inl (fun _ => 0))), (q_40, .inl (cA 2, 6, .inr (.inl (fun _ => 0)))), (q_41, .inl (cA 2, 6, .inr (.inl (fun _ => 0)))), (q_42, .inl (cA 0, 2400, .inl (fun _ => 0))), (q_31, .inl (cA 2, 334, .inr (.inl (vp_updL (vp_updL (fun _ => 0) 0 1) 4 100)))), (q_43, .inl (cA 2, 1, .inr (.inl (fun _ => 0)))), (q_44, .inl (cA 4, 1, .inr (.inr (.inr (.inl (fun _ => 0))))))]) 156 10481 1479 [(5, .int 0), (4, .ref q_44), (3, .ref q_43), (2, .ref q_28), (1, .ref q_1), (0, .ref b)] [] := by
  refine jj_aload_n C dL_law_1479 rfl ?_
  refine jj_aload_n C dL_law_1480 rfl ?_
  refine jj_iload C dL_law_1481 rfl ?_
  refine jj_iconst (v := 1) C dL_law_1483 (by decide) ?_
  refine jj_iadd (v := 1) C dL_law_1484 (by decide) ?_
  refine jj_xld (v := xs 1) C hX hbl hbA (vp_in_iff.mpr (by decide)) rfl dL_law_1485 ?_
  refine jj_aload_n C dL_law_1486 rfl ?_
  refine jq_callSW (rest := []) C (ct_L_richest_1 hl D cA ak q_1 q_43 q_6 q_18 q_4 q_12 q_20 q_21 q_7 q_8 q_9 q_10 q_19 (xs 1)) [0, 29, 3, 11] [1, 2, 4, 5, 6, 7, 8, 9, 10, 12, 13, 14, 15, 16, 17, 18, 19, 20, 21, 22, 23, 24, 25, 26, 27, 28, 30] rfl rfl (by decide) (by decide) (by decide) jw_1273 jw_1274 jw_985 jw_1272 jn_L_richest rfl (jj_le rfl) (jj_le rfl) (jj_le rfl) (jj_le rfl) (jj_le rfl) dL_law_1487 rfl (fun _ _ hX => hX.elim) (fun w1 r O_47 => ?_)
  rcases O_47 with ⟨c_48, rfl, rfl⟩ | ⟨c_49, c_50, rfl, rfl⟩ | ⟨c_51, c_52, c_53, rfl, rfl⟩ | ⟨c_54, c_55, c_56, rfl, rfl⟩
  · refine jj_apd rfl ?_
    refine jj_istore C dL_law_1490 (by decide) rfl ?_
    refine jj_aload_n C dL_law_1492 rfl ?_
    refine jj_aload_n C dL_law_1493 rfl ?_
    refine jj_iload C dL_law_1494 rfl ?_
    refine jj_iconst (v := 1) C dL_law_1496 (by decide) ?_
    refine jj_iadd (v := 1) C dL_law_1497 (by decide) ?_
    refine jj_xld (v := xs 1) C hX hbl hbA (vp_in_iff.mpr (by decide)) rfl dL_law_1498 ?_
    refine jq_callV (rest := []) C (ct_X11_richest_1 hl D cA ak q_28 q_31 q_34 q_32 q_33 q_35 q_36 q_37 q_38 q_39 q_40 q_41 q_42 (xs 1)) [13, 25, 16] [0, 1, 2, 3, 4, 5, 6, 7, 8, 9, 10, 11, 12, 14, 15, 17, 18, 19, 20, 21, 22, 23, 24, 26, 27] rfl rfl (by decide) (by decide) (by decide) 0 rfl rfl rfl jw_1276 jw_1277 jw_1278 jw_224 jw_568 jn_X11_richest rfl (jj_le rfl) (jj_le rfl) (jj_le rfl) (jj_le rfl) (jj_le rfl) dL_law_1499 rfl (fun _ _ hX => hX.elim) (fun w1 r O_58 => ?_)
    rcases O_58 with ⟨c_59, rfl, rfl⟩ | ⟨c_60, rfl, rfl⟩
    · refine jj_apd rfl ?_
      refine jj_istore C dL_law_1502 (by decide) rfl ?_
      refine jj_aload_n C dL_law_1504 rfl ?_
      refine jq_callV (rest := []) C (ct_X11_thrown_2 hl D cA ak q_28 q_31 q_32 q_33 q_34 q_35 q_36 q_37 q_38 q_39 q_40 q_41 q_42) [27] [0, 1, 2, 3, 4, 5, 6, 7, 8, 9, 10, 11, 12, 13, 14, 15, 16, 17, 18, 19, 20, 21, 22, 23, 24, 25, 26] rfl rfl (by decide) (by decide) (by decide) 0 rfl rfl rfl jw_993 jw_994 jw_995 jw_224 jw_992 jn_X11_thrown rfl (jj_le rfl) (jj_le rfl) (jj_le rfl) (jj_le rfl) (jj_le rfl) dL_law_1505 rfl (fun _ _ hX => hX.elim) (fun w1 r O_62 => ?_)
      obtain ⟨rfl, rfl⟩ := O_62
      refine jj_apd rfl ?_
      refine jj_iload C dL_law_1508 rfl ?_
      refine jj_icmp_eqT (tgt := 1515) C dL_law_1510 (by decide) (by decide) ?_
      refine jj_iload C dL_law_1515 rfl ?_
      refine jj_if_neT (tgt := 1532) C dL_law_1517 (by decide) (by decide) ?_
      refine jj_goto (tgt := 2259) C dL_law_1532 (by decide) ?_
      exact jj_loc [7, 2] rfl (jj_drop [] rfl (by decide) (jj_widen (k := 600006) (n := 7302072) (jj_le rfl) (jj_le rfl) hend))
    · refine jj_apd rfl ?_
      refine jj_istore C dL_law_1502 (by decide) rfl ?_
      refine jj_aload_n C dL_law_1504 rfl ?_
      refine jq_callV (rest := []) C (ct_X11_thrown_7 hl D cA ak q_28 q_31 q_32 q_33 q_34 q_35 q_36 q_37 q_38 q_39 q_40 q_41 q_42) [25] [0, 1, 2, 3, 4, 5, 6, 7, 8, 9, 10, 11, 12, 13, 14, 15, 16, 17, 18, 19, 20, 21, 22, 23, 24, 26, 27] rfl rfl (by decide) (by decide) (by decide) 0 rfl rfl rfl jw_993 jw_994 jw_995 jw_224 jw_992 jn_X11_thrown rfl (jj_le rfl) (jj_le rfl) (jj_le rfl) (jj_le rfl) (jj_le rfl) dL_law_1505 rfl (fun _ _ hX => hX.elim) (fun w1 r O_64 => ?_)
      obtain ⟨rfl, rfl⟩ := O_64
      refine jj_apd rfl ?_
      refine jj_iload C dL_law_1508 rfl ?_
      refine jj_icmp_eqF (tgt := 1515) C dL_law_1510 (by decide) (by decide) ?_
      refine jj_iconst (v := 0) C dL_law_1513 (by decide) ?_
      exfalso; have z0 := jc_lt (a := (xs 1).toInt) (b := (0)) c_48 rfl (by decide); have z1 := jc_eq (a := (0)) (b := (xs 1).toInt) c_60 (by decide) rfl; omega
  · refine jj_apd rfl ?_
    refine jj_istore C dL_law_1490 (by decide) rfl ?_
    refine jj_aload_n C dL_law_1492 rfl ?_
    refine jj_aload_n C dL_law_1493 rfl ?_
    refine jj_iload C dL_law_1494 rfl ?_
    refine jj_iconst (v := 1) C dL_law_1496 (by decide) ?_
    refine jj_iadd (v := 1) C dL_law_1497 (by decide) ?_
    refine jj_xld (v := xs 1) C hX hbl hbA (vp_in_iff.mpr (by decide)) rfl dL_law_1498 ?_
    refine jq_callV (rest := []) C (ct_X11_richest_1 hl D cA ak q_28 q_31 q_34 q_32 q_33 q_35 q_36 q_37 q_38 q_39 q_40 q_41 q_42 (xs 1)) [13, 25, 16] [0, 1, 2, 3, 4, 5, 6, 7, 8, 9, 10, 11, 12, 14, 15, 17, 18, 19, 20, 21, 22, 23, 24, 26, 27] rfl rfl (by decide) (by decide) (by decide) 0 rfl rfl rfl jw_1276 jw_1277 jw_1278 jw_224 jw_568 jn_X11_richest rfl (jj_le rfl) (jj_le rfl) (jj_le rfl) (jj_le rfl) (jj_le rfl) dL_law_1499 rfl (fun _ _ hX => hX.elim) (fun w1 r O_66 => ?_)
    rcases O_66 with ⟨c_67, rfl, rfl⟩ | ⟨c_68, rfl, rfl⟩
    · refine jj_apd rfl ?_
      refine jj_istore C dL_law_1502 (by decide) rfl ?_
      refine jj_aload_n C dL_law_1504 rfl ?_
      refine jq_callV (rest := []) C (ct_X11_thrown_2 hl D cA ak q_28 q_31 q_32 q_33 q_34 q_35 q_36 q_37 q_38 q_39 q_40 q_41 q_42) [27] [0, 1, 2, 3, 4, 5, 6, 7, 8, 9, 10, 11, 12, 13, 14, 15, 16, 17, 18, 19, 20, 21, 22, 23, 24, 25, 26] rfl rfl (by decide) (by decide) (by decide) 0 rfl rfl rfl jw_993 jw_994 jw_995 jw_224 jw_992 jn_X11_thrown rfl (jj_le rfl) (jj_le rfl) (jj_le rfl) (jj_le rfl) (jj_le rfl) dL_law_1505 rfl (fun _ _ hX => hX.elim) (fun w1 r O_70 => ?_)
      obtain ⟨rfl, rfl⟩ := O_70
      refine jj_apd rfl ?_
      refine jj_iload C dL_law_1508 rfl ?_
      refine jj_icmp_eqT (tgt := 1515) C dL_law_1510 (by decide) (by decide) ?_
      refine jj_iload C dL_law_1515 rfl ?_
      refine jj_if_neT (tgt := 1532) C dL_law_1517 (by decide) (by decide) ?_
      refine jj_goto (tgt := 2259) C dL_law_1532 (by decide) ?_
      exact jj_loc [7, 2] rfl (jj_drop [] rfl (by decide) (jj_widen (k := 600006) (n := 7302072) (jj_le rfl) (jj_le rfl) hend))
    · refine jj_apd rfl ?_
      refine jj_istore C dL_law_1502 (by decide) rfl ?_
      refine jj_aload_n C dL_law_1504 rfl ?_
      refine jq_callV (rest := []) C (ct_X11_thrown_7 hl D cA ak q_28 q_31 q_32 q_33 q_34 q_35 q_36 q_37 q_38 q_39 q_40 q_41 q_42) [25] [0, 1, 2, 3, 4, 5, 6, 7, 8, 9, 10, 11, 12, 13, 14, 15, 16, 17, 18, 19, 20, 21, 22, 23, 24, 26, 27] rfl rfl (by decide) (by decide) (by decide) 0 rfl rfl rfl jw_993 jw_994 jw_995 jw_224 jw_992 jn_X11_thrown rfl (jj_le rfl) (jj_le rfl) (jj_le rfl) (jj_le rfl) (jj_le rfl) dL_law_1505 rfl (fun _ _ hX => hX.elim) (fun w1 r O_72 => ?_)
      obtain ⟨rfl, rfl⟩ := O_72
      refine jj_apd rfl ?_
      refine jj_iload C dL_law_1508 rfl ?_
      refine jj_icmp_eqF (tgt := 1515) C dL_law_1510 (by decide) (by decide) ?_
      refine jj_iconst (v := 0) C dL_law_1513 (by decide) ?_
      exfalso; have z0 := jc_nlt (a := (xs 1).toInt) (b := (0)) c_49 rfl (by decide); have z1 := jc_le (a := (1)) (b := (xs 1).toInt) c_50 (by decide) rfl; have z2 := jc_eq (a := (0)) (b := (xs 1).toInt) c_68 (by decide) rfl; omega
  · refine jj_apd rfl ?_
    refine jj_istore C dL_law_1490 (by decide) rfl ?_
    refine jj_aload_n C dL_law_1492 rfl ?_
    refine jj_aload_n C dL_law_1493 rfl ?_
    refine jj_iload C dL_law_1494 rfl ?_
    refine jj_iconst (v := 1) C dL_law_1496 (by decide) ?_
    refine jj_iadd (v := 1) C dL_law_1497 (by decide) ?_
    refine jj_xld (v := xs 1) C hX hbl hbA (vp_in_iff.mpr (by decide)) rfl dL_law_1498 ?_
    refine jq_callV (rest := []) C (ct_X11_richest_1 hl D cA ak q_28 q_31 q_34 q_32 q_33 q_35 q_36 q_37 q_38 q_39 q_40 q_41 q_42 (xs 1)) [13, 25, 16] [0, 1, 2, 3, 4, 5, 6, 7, 8, 9, 10, 11, 12, 14, 15, 17, 18, 19, 20, 21, 22, 23, 24, 26, 27] rfl rfl (by decide) (by decide) (by decide) 0 rfl rfl rfl jw_1276 jw_1277 jw_1278 jw_224 jw_568 jn_X11_richest rfl (jj_le rfl) (jj_le rfl) (jj_le rfl) (jj_le rfl) (jj_le rfl) dL_law_1499 rfl (fun _ _ hX => hX.elim) (fun w1 r O_74 => ?_)
    rcases O_74 with ⟨c_75, rfl, rfl⟩ | ⟨c_76, rfl, rfl⟩
    · refine jj_apd rfl ?_
      refine jj_istore C dL_law_1502 (by decide) rfl ?_
      refine jj_aload_n C dL_law_1504 rfl ?_
      refine jq_callV (rest := []) C (ct_X11_thrown_2 hl D cA ak q_28 q_31 q_32 q_33 q_34 q_35 q_36 q_37 q_38 q_39 q_40 q_41 q_42) [27] [0, 1, 2, 3, 4, 5, 6, 7, 8, 9, 10, 11, 12, 13, 14, 15, 16, 17, 18, 19, 20, 21, 22, 23, 24, 25, 26] rfl rfl (by decide) (by decide) (by decide) 0 rfl rfl rfl jw_993 jw_994 jw_995 jw_224 jw_992 jn_X11_thrown rfl (jj_le rfl) (jj_le rfl) (jj_le rfl) (jj_le rfl) (jj_le rfl) dL_law_1505 rfl (fun _ _ hX => hX.elim) (fun w1 r O_78 => ?_)
      obtain ⟨rfl, rfl⟩ := O_78
      refine jj_apd rfl ?_
      refine jj_iload C dL_law_1508 rfl ?_
      refine jj_icmp_eqF (tgt := 1515) C dL_law_1510 (by decide) (by decide) ?_
      refine jj_iconst (v := 0) C dL_law_1513 (by decide) ?_
      exfalso; have z0 := jc_nlt (a := (xs 1).toInt) (b := (0)) c_51 rfl (by decide); have z1 := jc_nle (a := (1)) (b := (xs 1).toInt) c_52 (by decide) rfl; have z2 := jc_neq (a := (0)) (b := (xs 1).toInt) c_53 (by decide) rfl; have z3 := jc_neq (a := (0)) (b := (xs 1).toInt) c_75 (by decide) rfl; omega
    · refine jj_apd rfl ?_
      refine jj_istore C dL_law_1502 (by decide) rfl ?_
      refine jj_aload_n C dL_law_1504 rfl ?_
      refine jq_callV (rest := []) C (ct_X11_thrown_7 hl D cA ak q_28 q_31 q_32 q_33 q_34 q_35 q_36 q_37 q_38 q_39 q_40 q_41 q_42) [25] [0, 1, 2, 3, 4, 5, 6, 7, 8, 9, 10, 11, 12, 13, 14, 15, 16, 17, 18, 19, 20, 21, 22, 23, 24, 26, 27] rfl rfl (by decide) (by decide) (by decide) 0 rfl rfl rfl jw_993 jw_994 jw_995 jw_224 jw_992 jn_X11_thrown rfl (jj_le rfl) (jj_le rfl) (jj_le rfl) (jj_le rfl) (jj_le rfl) dL_law_1505 rfl (fun _ _ hX => hX.elim) (fun w1 r O_80 => ?_)
      obtain ⟨rfl, rfl⟩ := O_80
      refine jj_apd rfl ?_
      refine jj_iload C dL_law_1508 rfl ?_
      refine jj_icmp_eqT (tgt := 1515) C dL_law_1510 (by decide) (by decide) ?_
      refine jj_iload C dL_law_1515 rfl ?_
      refine jj_if_neF (tgt := 1532) C dL_law_1517 (by decide) (by decide) ?_
      refine jj_aload_n C dL_law_1520 rfl ?_
      refine jj_iconst (v := 0) C dL_law_1521 (by decide) ?_
      refine jj_lald (v := (-1)) C 24 rfl (vp_in_iff.mpr (by decide)) rfl dL_law_1522 ?_
      refine jj_iload C dL_law_1523 rfl ?_
      refine jj_i2l (v := 0) C dL_law_1525 (by decide) ?_
      refine jj_lcmp_eqF (tgt := 1532) C dL_law_1526 dL_law_1527 (by decide) (by decide) ?_
      refine jj_iconst (v := 0) C dL_law_1530 (by decide) ?_
      exact absurd c_76 c_53
  · refine jj_apd rfl ?_
    refine jj_istore C dL_law_1490 (by decide) rfl ?_
    refine jj_aload_n C dL_law_1492 rfl ?_
    refine jj_aload_n C dL_law_1493 rfl ?_
    refine jj_iload C dL_law_1494 rfl ?_
    refine jj_iconst (v := 1) C dL_law_1496 (by decide) ?_
    refine jj_iadd (v := 1) C dL_law_1497 (by decide) ?_
    refine jj_xld (v := xs 1) C hX hbl hbA (vp_in_iff.mpr (by decide)) rfl dL_law_1498 ?_
    refine jq_callV (rest := []) C (ct_X11_richest_1 hl D cA ak q_28 q_31 q_34 q_32 q_33 q_35 q_36 q_37 q_38 q_39 q_40 q_41 q_42 (xs 1)) [13, 25, 16] [0, 1, 2, 3, 4, 5, 6, 7, 8, 9, 10, 11, 12, 14, 15, 17, 18, 19, 20, 21, 22, 23, 24, 26, 27] rfl rfl (by decide) (by decide) (by decide) 0 rfl rfl rfl jw_1276 jw_1277 jw_1278 jw_224 jw_568 jn_X11_richest rfl (jj_le rfl) (jj_le rfl) (jj_le rfl) (jj_le rfl) (jj_le rfl) dL_law_1499 rfl (fun _ _ hX => hX.elim) (fun w1 r O_82 => ?_)
    rcases O_82 with ⟨c_83, rfl, rfl⟩ | ⟨c_84, rfl, rfl⟩
    · refine jj_apd rfl ?_
      refine jj_istore C dL_law_1502 (by decide) rfl ?_
      refine jj_aload_n C dL_law_1504 rfl ?_
      refine jq_callV (rest := []) C (ct_X11_thrown_2 hl D cA ak q_28 q_31 q_32 q_33 q_34 q_35 q_36 q_37 q_38 q_39 q_40 q_41 q_42) [27] [0, 1, 2, 3, 4, 5, 6, 7, 8, 9, 10, 11, 12, 13, 14, 15, 16, 17, 18, 19, 20, 21, 22, 23, 24, 25, 26] rfl rfl (by decide) (by decide) (by decide) 0 rfl rfl rfl jw_993 jw_994 jw_995 jw_224 jw_992 jn_X11_thrown rfl (jj_le rfl) (jj_le rfl) (jj_le rfl) (jj_le rfl) (jj_le rfl) dL_law_1505 rfl (fun _ _ hX => hX.elim) (fun w1 r O_86 => ?_)
      obtain ⟨rfl, rfl⟩ := O_86
      refine jj_apd rfl ?_
      refine jj_iload C dL_law_1508 rfl ?_
      refine jj_icmp_eqF (tgt := 1515) C dL_law_1510 (by decide) (by decide) ?_
      refine jj_iconst (v := 0) C dL_law_1513 (by decide) ?_
      exact absurd c_56 c_83
    · refine jj_apd rfl ?_
      refine jj_istore C dL_law_1502 (by decide) rfl ?_
      refine jj_aload_n C dL_law_1504 rfl ?_
      refine jq_callV (rest := []) C (ct_X11_thrown_7 hl D cA ak q_28 q_31 q_32 q_33 q_34 q_35 q_36 q_37 q_38 q_39 q_40 q_41 q_42) [25] [0, 1, 2, 3, 4, 5, 6, 7, 8, 9, 10, 11, 12, 13, 14, 15, 16, 17, 18, 19, 20, 21, 22, 23, 24, 26, 27] rfl rfl (by decide) (by decide) (by decide) 0 rfl rfl rfl jw_993 jw_994 jw_995 jw_224 jw_992 jn_X11_thrown rfl (jj_le rfl) (jj_le rfl) (jj_le rfl) (jj_le rfl) (jj_le rfl) dL_law_1505 rfl (fun _ _ hX => hX.elim) (fun w1 r O_88 => ?_)
      obtain ⟨rfl, rfl⟩ := O_88
      refine jj_apd rfl ?_
      refine jj_iload C dL_law_1508 rfl ?_
      refine jj_icmp_eqT (tgt := 1515) C dL_law_1510 (by decide) (by decide) ?_
      refine jj_iload C dL_law_1515 rfl ?_
      refine jj_if_neF (tgt := 1532) C dL_law_1517 (by decide) (by decide) ?_
      refine jj_aload_n C dL_law_1520 rfl ?_
      refine jj_iconst (v := 0) C dL_law_1521 (by decide) ?_
      refine jj_lald (v := 0) C 24 rfl (vp_in_iff.mpr (by decide)) rfl dL_law_1522 ?_
      refine jj_iload C dL_law_1523 rfl ?_
      refine jj_i2l (v := 0) C dL_law_1525 (by decide) ?_
      refine jj_lcmp_eqT (tgt := 1532) C dL_law_1526 dL_law_1527 (by decide) (by decide) ?_
      refine jj_goto (tgt := 2259) C dL_law_1532 (by decide) ?_
      exact jj_loc [7, 2] rfl (jj_drop [] rfl (by decide) (jj_widen (k := 600006) (n := 7302072) (jj_le rfl) (jj_le rfl) hend))

set_option maxHeartbeats 4000000 in
set_option maxRecDepth 100000 in
theorem law_c27 {p : Program} {l : Launch} {e : Env} {s : State} {m : MethodId} {below : List Frame} {meth : Method} {c : Code} (hl : l.stackTraces = false) {D : va_G} {cA : Nat → ClassId} {ak : (Nat → Nat) × (Nat → Nat)} {A : Nat → Prop} {b : Nat} {xs : Nat → Int32} {Q : State → Prop} (C : jj_C p l s m #[Value.ref b] meth c code 9 R_law ret D cA A ak) (hX : va_X b 6 xs s s.heap) (hbl : b < s.heap.size) (hbA : ¬ A b) (hend : jj_J p l e room_1 s m #[Value.ref b] below meth c 9 A Q (jj_X D A []) 600006 7302072 2259 [(0, .ref b), (5, .int 0)] []) (q_1 q_4 q_5 q_6 q_7 q_8 q_9 q_10 q_11 q_12 q_13 q_14 q_15 q_16 q_17 q_18 q_19 q_20 q_21 q_22 q_23 q_28 q_31 q_32 q_33 q_34 q_35 q_36 q_37 q_38 q_39 q_40 q_41 q_42 q_43 q_44 : Nat) (f_24 : Nat → Option Nat) (f_25 : Nat → Option Nat) (c_26 : f_24 0 = some q_11) (c_27 : f_25 0 = some q_17) : jj_J p l e room_1 s m #[Value.ref b] below meth c 9 A Q (jj_X D A [(q_1, .inr (11, [.ref q_4, .int 0, .int (-1), .ref q_6, .ref q_12, .ref q_18, .ref q_20, .int 0, .int 0, .ref q_21])), (q_4, .inr (10, [.ref q_5, .int 0, .int 0, .int 0, .int 0, .int 0, .int (-1)])), (q_5, .inl (cA 1, 400, .inl (fun _ => 0))), (q_6, .inr (2, [.int 1, .int 0, .int 0, .int 0, .int 100, .int 0, .int 0, .int 0, .int 0, .int 0, .ref q_7, .ref q_8, .ref q_9, .ref q_10])), (q_7, .inl (cA 2, 6, .inr (.inl (fun _ => 0)))), (q_10, .inl (cA 7, 12, .inr (.inr (.inr (.inr f_24))))), (q_11, .inr (7, [.int 0, .int 0, .int 0, .long 0, .long 0])), (q_12, .inr (2, [.int 1, .int 0, .int 0, .int 0, .int 100, .int 0, .int 0, .int 0, .int 0, .int 0, .ref q_13, .ref q_14, .ref q_15, .ref q_16])), (q_13, .inl (cA 2, 6, .inr (.inl (fun _ => 0)))), (q_16, .inl (cA 7, 12, .inr (.inr (.inr (.inr f_25))))), (q_17, .inr (7, [.int 0, .int 0, .int 0, .long 0, .long 0])), (q_18, .inr (3, [.ref q_19, .long 0, .long 0, .long 0, .long 0, .long 0])), (q_20, .inl (cA 5, 10, .inr (.inr (.inr (.inr (fun _ => none)))))), (q_21, .inr (6, [.ref q_22, .int 0, .ref q_23])), (q_22, .inl (cA 0, 1300, .inl (fun _ => 0))), (q_23, .inl (cA 0, 20, .inl (fun _ => 0))), (q_28, .inr (12, [.ref q_31, .ref q_32, .ref q_33, .ref q_34, .ref q_35, .ref q_36, .int 0, .int 0, .long 0, .long 0, .ref q_37, .ref q_38, .ref q_39, .int 0, .int 0, .int 0, .int 0, .int 0, .int (-1), .int 0, .int 0, .ref q_40, .ref q_41, .ref q_42, .int 0])), (q_32, .inl (cA 2, 334, .inr (.inl (fun _ => 0)))), (q_33, .inl (cA 2, 334, .inr (.inl (fun _ => 0)))), (q_34, .inl (cA 2, 334, .inr (.inl (fun _ => 0)))), (q_35, .inl (cA 2, 334, .inr (.inl (fun _ => 0)))), (q_36, .inl (cA 2, 3340, .inr (.inl (fun _ => 0)))), (q_37, .inl (cA 2, 12, .inr (.inl (fun _ => 0)))), (q_38, .inl (cA 3, 12, .inl (fun _ => 0))), (q_39, .inl (cA 0, 400, .inl (fun _ => 0))), (q_40, .inl (cA 2, 6, .inr (.inl (fun _ => 0)))), (q_41, .inl (cA 2, 6, .inr (.inl (fun _ => 0)))), (q_42, .inl (cA 0, 2400, .inl (fun _ => 0))), (q_31, .inl (cA 2, 334, .inr (.inl (vp_updL (vp_updL (fun _ => 0) 0 1) 4 100)))), (q_43, .inl (cA 2, 1, .inr (.inl (fun _ => 0)))), (q_44, .inl (cA 4, 1, .inr (.inr (.inr (.inl (fun _ => 0))))))]) 156 10481 1535 [(5, .int 0), (4, .ref q_44), (3, .ref q_43), (2, .ref q_28), (1, .ref q_1), (0, .ref b)] [] := by
  refine jj_aload_n C dL_law_1535 rfl ?_
  refine jj_aload_n C dL_law_1536 rfl ?_
  refine jj_iload C dL_law_1537 rfl ?_
  refine jj_iconst (v := 1) C dL_law_1539 (by decide) ?_
  refine jj_iadd (v := 1) C dL_law_1540 (by decide) ?_
  refine jj_xld (v := xs 1) C hX hbl hbA (vp_in_iff.mpr (by decide)) rfl dL_law_1541 ?_
  refine jj_aload C dL_law_1542 rfl ?_
  refine jq_callSW (rest := []) C (ct_L_share_1 hl D cA ak q_1 q_6 q_18 q_44 q_4 q_12 q_20 q_21 q_7 q_8 q_9 q_10 q_19 (xs 1)) [0, 3, 11] [1, 2, 4, 5, 6, 7, 8, 9, 10, 12, 13, 14, 15, 16, 17, 18, 19, 20, 21, 22, 23, 24, 25, 26, 27, 28, 29, 30] rfl rfl (by decide) (by decide) (by decide) jw_1286 jw_1287 jw_985 jw_1285 jn_L_share rfl (jj_le rfl) (jj_le rfl) (jj_le rfl) (jj_le rfl) (jj_le rfl) dL_law_1544 rfl (fun _ _ hX => hX.elim) (fun w1 r O_47 => ?_)
  rcases O_47 with ⟨c_48, rfl, rfl⟩ | ⟨c_49, c_50, rfl, rfl⟩ | ⟨c_51, c_52, rfl, rfl⟩
  · refine jj_apd rfl ?_
    refine jj_istore C dL_law_1547 (by decide) rfl ?_
    refine jj_aload_n C dL_law_1549 rfl ?_
    refine jj_aload_n C dL_law_1550 rfl ?_
    refine jj_iload C dL_law_1551 rfl ?_
    refine jj_iconst (v := 1) C dL_law_1553 (by decide) ?_
    refine jj_iadd (v := 1) C dL_law_1554 (by decide) ?_
    refine jj_xld (v := xs 1) C hX hbl hbA (vp_in_iff.mpr (by decide)) rfl dL_law_1555 ?_
    refine jq_callV (rest := []) C (ct_X11_share_1 hl D cA ak q_28 q_31 q_34 q_32 q_33 q_35 q_36 q_37 q_38 q_39 q_40 q_41 q_42 (xs 1)) [13, 25, 16] [0, 1, 2, 3, 4, 5, 6, 7, 8, 9, 10, 11, 12, 14, 15, 17, 18, 19, 20, 21, 22, 23, 24, 26, 27] rfl rfl (by decide) (by decide) (by decide) 0 rfl rfl rfl jw_1289 jw_1290 jw_1291 jw_224 jw_572 jn_X11_share rfl (jj_le rfl) (jj_le rfl) (jj_le rfl) (jj_le rfl) (jj_le rfl) dL_law_1556 rfl (fun _ _ hX => hX.elim) (fun w1 r O_54 => ?_)
    rcases O_54 with ⟨c_55, rfl, rfl⟩ | ⟨c_56, c_57, rfl, rfl⟩ | ⟨c_58, c_59, rfl, rfl⟩
    · refine jj_apd rfl ?_
      refine jj_dstore C dL_law_1559 (by decide) rfl ?_
      refine jj_aload_n C dL_law_1561 rfl ?_
      refine jq_callV (rest := []) C (ct_X11_thrown_2 hl D cA ak q_28 q_31 q_32 q_33 q_34 q_35 q_36 q_37 q_38 q_39 q_40 q_41 q_42) [27] [0, 1, 2, 3, 4, 5, 6, 7, 8, 9, 10, 11, 12, 13, 14, 15, 16, 17, 18, 19, 20, 21, 22, 23, 24, 25, 26] rfl rfl (by decide) (by decide) (by decide) 0 rfl rfl rfl jw_993 jw_994 jw_995 jw_224 jw_992 jn_X11_thrown rfl (jj_le rfl) (jj_le rfl) (jj_le rfl) (jj_le rfl) (jj_le rfl) dL_law_1562 rfl (fun _ _ hX => hX.elim) (fun w1 r O_61 => ?_)
      obtain ⟨rfl, rfl⟩ := O_61
      refine jj_apd rfl ?_
      refine jj_iload C dL_law_1565 rfl ?_
      refine jj_icmp_eqT (tgt := 1572) C dL_law_1567 (by decide) (by decide) ?_
      refine jj_iload C dL_law_1572 rfl ?_
      refine jj_if_neT (tgt := 1609) C dL_law_1574 (by decide) (by decide) ?_
      refine jj_goto (tgt := 2259) C dL_law_1609 (by decide) ?_
      exact jj_loc [7, 2] rfl (jj_drop [] rfl (by decide) (jj_widen (k := 600006) (n := 7302072) (jj_le rfl) (jj_le rfl) hend))
    · refine jj_apd rfl ?_
      refine jj_dstore C dL_law_1559 (by decide) rfl ?_
      refine jj_aload_n C dL_law_1561 rfl ?_
      refine jq_callV (rest := []) C (ct_X11_thrown_2 hl D cA ak q_28 q_31 q_32 q_33 q_34 q_35 q_36 q_37 q_38 q_39 q_40 q_41 q_42) [27] [0, 1, 2, 3, 4, 5, 6, 7, 8, 9, 10, 11, 12, 13, 14, 15, 16, 17, 18, 19, 20, 21, 22, 23, 24, 25, 26] rfl rfl (by decide) (by decide) (by decide) 0 rfl rfl rfl jw_993 jw_994 jw_995 jw_224 jw_992 jn_X11_thrown rfl (jj_le rfl) (jj_le rfl) (jj_le rfl) (jj_le rfl) (jj_le rfl) dL_law_1562 rfl (fun _ _ hX => hX.elim) (fun w1 r O_63 => ?_)
      obtain ⟨rfl, rfl⟩ := O_63
      refine jj_apd rfl ?_
      refine jj_iload C dL_law_1565 rfl ?_
      refine jj_icmp_eqT (tgt := 1572) C dL_law_1567 (by decide) (by decide) ?_
      refine jj_iload C dL_law_1572 rfl ?_
      refine jj_if_neT (tgt := 1609) C dL_law_1574 (by decide) (by decide) ?_
      refine jj_goto (tgt := 2259) C dL_law_1609 (by decide) ?_
      exact jj_loc [7, 2] rfl (jj_drop [] rfl (by decide) (jj_widen (k := 600006) (n := 7302072) (jj_le rfl) (jj_le rfl) hend))
    · refine jj_apd rfl ?_
      refine jj_dstore C dL_law_1559 (by decide) rfl ?_
      refine jj_aload_n C dL_law_1561 rfl ?_
      refine jq_callV (rest := []) C (ct_X11_thrown_4 hl D cA ak q_28 q_31 q_32 q_33 q_34 q_35 q_36 q_37 q_38 q_39 q_40 q_41 q_42) [27] [0, 1, 2, 3, 4, 5, 6, 7, 8, 9, 10, 11, 12, 13, 14, 15, 16, 17, 18, 19, 20, 21, 22, 23, 24, 25, 26] rfl rfl (by decide) (by decide) (by decide) 0 rfl rfl rfl jw_993 jw_994 jw_995 jw_224 jw_992 jn_X11_thrown rfl (jj_le rfl) (jj_le rfl) (jj_le rfl) (jj_le rfl) (jj_le rfl) dL_law_1562 rfl (fun _ _ hX => hX.elim) (fun w1 r O_65 => ?_)
      obtain ⟨rfl, rfl⟩ := O_65
      refine jj_apd rfl ?_
      refine jj_iload C dL_law_1565 rfl ?_
      refine jj_icmp_eqF (tgt := 1572) C dL_law_1567 (by decide) (by decide) ?_
      refine jj_iconst (v := 0) C dL_law_1570 (by decide) ?_
      exfalso; have z0 := jc_lt (a := (xs 1).toInt) (b := (0)) c_48 rfl (by decide); have z1 := jc_nltL (a := (xs 1).toInt) (b := (0)) c_58 (Int32.toInt_toInt64 _) (by decide); have z2 := jc_nltL (a := (0)) (b := (xs 1).toInt) c_59 (by decide) (Int32.toInt_toInt64 _); omega
  · refine jj_apd rfl ?_
    refine jj_istore C dL_law_1547 (by decide) rfl ?_
    refine jj_aload_n C dL_law_1549 rfl ?_
    refine jj_aload_n C dL_law_1550 rfl ?_
    refine jj_iload C dL_law_1551 rfl ?_
    refine jj_iconst (v := 1) C dL_law_1553 (by decide) ?_
    refine jj_iadd (v := 1) C dL_law_1554 (by decide) ?_
    refine jj_xld (v := xs 1) C hX hbl hbA (vp_in_iff.mpr (by decide)) rfl dL_law_1555 ?_
    refine jq_callV (rest := []) C (ct_X11_share_1 hl D cA ak q_28 q_31 q_34 q_32 q_33 q_35 q_36 q_37 q_38 q_39 q_40 q_41 q_42 (xs 1)) [13, 25, 16] [0, 1, 2, 3, 4, 5, 6, 7, 8, 9, 10, 11, 12, 14, 15, 17, 18, 19, 20, 21, 22, 23, 24, 26, 27] rfl rfl (by decide) (by decide) (by decide) 0 rfl rfl rfl jw_1289 jw_1290 jw_1291 jw_224 jw_572 jn_X11_share rfl (jj_le rfl) (jj_le rfl) (jj_le rfl) (jj_le rfl) (jj_le rfl) dL_law_1556 rfl (fun _ _ hX => hX.elim) (fun w1 r O_67 => ?_)
    rcases O_67 with ⟨c_68, rfl, rfl⟩ | ⟨c_69, c_70, rfl, rfl⟩ | ⟨c_71, c_72, rfl, rfl⟩
    · refine jj_apd rfl ?_
      refine jj_dstore C dL_law_1559 (by decide) rfl ?_
      refine jj_aload_n C dL_law_1561 rfl ?_
      refine jq_callV (rest := []) C (ct_X11_thrown_2 hl D cA ak q_28 q_31 q_32 q_33 q_34 q_35 q_36 q_37 q_38 q_39 q_40 q_41 q_42) [27] [0, 1, 2, 3, 4, 5, 6, 7, 8, 9, 10, 11, 12, 13, 14, 15, 16, 17, 18, 19, 20, 21, 22, 23, 24, 25, 26] rfl rfl (by decide) (by decide) (by decide) 0 rfl rfl rfl jw_993 jw_994 jw_995 jw_224 jw_992 jn_X11_thrown rfl (jj_le rfl) (jj_le rfl) (jj_le rfl) (jj_le rfl) (jj_le rfl) dL_law_1562 rfl (fun _ _ hX => hX.elim) (fun w1 r O_74 => ?_)
      obtain ⟨rfl, rfl⟩ := O_74
      refine jj_apd rfl ?_
      refine jj_iload C dL_law_1565 rfl ?_
      refine jj_icmp_eqT (tgt := 1572) C dL_law_1567 (by decide) (by decide) ?_
      refine jj_iload C dL_law_1572 rfl ?_
      refine jj_if_neT (tgt := 1609) C dL_law_1574 (by decide) (by decide) ?_
      refine jj_goto (tgt := 2259) C dL_law_1609 (by decide) ?_
      exact jj_loc [7, 2] rfl (jj_drop [] rfl (by decide) (jj_widen (k := 600006) (n := 7302072) (jj_le rfl) (jj_le rfl) hend))
    · refine jj_apd rfl ?_
      refine jj_dstore C dL_law_1559 (by decide) rfl ?_
      refine jj_aload_n C dL_law_1561 rfl ?_
      refine jq_callV (rest := []) C (ct_X11_thrown_2 hl D cA ak q_28 q_31 q_32 q_33 q_34 q_35 q_36 q_37 q_38 q_39 q_40 q_41 q_42) [27] [0, 1, 2, 3, 4, 5, 6, 7, 8, 9, 10, 11, 12, 13, 14, 15, 16, 17, 18, 19, 20, 21, 22, 23, 24, 25, 26] rfl rfl (by decide) (by decide) (by decide) 0 rfl rfl rfl jw_993 jw_994 jw_995 jw_224 jw_992 jn_X11_thrown rfl (jj_le rfl) (jj_le rfl) (jj_le rfl) (jj_le rfl) (jj_le rfl) dL_law_1562 rfl (fun _ _ hX => hX.elim) (fun w1 r O_76 => ?_)
      obtain ⟨rfl, rfl⟩ := O_76
      refine jj_apd rfl ?_
      refine jj_iload C dL_law_1565 rfl ?_
      refine jj_icmp_eqT (tgt := 1572) C dL_law_1567 (by decide) (by decide) ?_
      refine jj_iload C dL_law_1572 rfl ?_
      refine jj_if_neT (tgt := 1609) C dL_law_1574 (by decide) (by decide) ?_
      refine jj_goto (tgt := 2259) C dL_law_1609 (by decide) ?_
      exact jj_loc [7, 2] rfl (jj_drop [] rfl (by decide) (jj_widen (k := 600006) (n := 7302072) (jj_le rfl) (jj_le rfl) hend))
    · refine jj_apd rfl ?_
      refine jj_dstore C dL_law_1559 (by decide) rfl ?_
      refine jj_aload_n C dL_law_1561 rfl ?_
      refine jq_callV (rest := []) C (ct_X11_thrown_4 hl D cA ak q_28 q_31 q_32 q_33 q_34 q_35 q_36 q_37 q_38 q_39 q_40 q_41 q_42) [27] [0, 1, 2, 3, 4, 5, 6, 7, 8, 9, 10, 11, 12, 13, 14, 15, 16, 17, 18, 19, 20, 21, 22, 23, 24, 25, 26] rfl rfl (by decide) (by decide) (by decide) 0 rfl rfl rfl jw_993 jw_994 jw_995 jw_224 jw_992 jn_X11_thrown rfl (jj_le rfl) (jj_le rfl) (jj_le rfl) (jj_le rfl) (jj_le rfl) dL_law_1562 rfl (fun _ _ hX => hX.elim) (fun w1 r O_78 => ?_)
      obtain ⟨rfl, rfl⟩ := O_78
      refine jj_apd rfl ?_
      refine jj_iload C dL_law_1565 rfl ?_
      refine jj_icmp_eqF (tgt := 1572) C dL_law_1567 (by decide) (by decide) ?_
      refine jj_iconst (v := 0) C dL_law_1570 (by decide) ?_
      exfalso; have z0 := jc_nlt (a := (xs 1).toInt) (b := (0)) c_49 rfl (by decide); have z1 := jc_le (a := (1)) (b := (xs 1).toInt) c_50 (by decide) rfl; have z2 := jc_nltL (a := (xs 1).toInt) (b := (0)) c_71 (Int32.toInt_toInt64 _) (by decide); have z3 := jc_nltL (a := (0)) (b := (xs 1).toInt) c_72 (by decide) (Int32.toInt_toInt64 _); omega
  · refine jj_apd rfl ?_
    refine jj_istore C dL_law_1547 (by decide) rfl ?_
    refine jj_aload_n C dL_law_1549 rfl ?_
    refine jj_aload_n C dL_law_1550 rfl ?_
    refine jj_iload C dL_law_1551 rfl ?_
    refine jj_iconst (v := 1) C dL_law_1553 (by decide) ?_
    refine jj_iadd (v := 1) C dL_law_1554 (by decide) ?_
    refine jj_xld (v := xs 1) C hX hbl hbA (vp_in_iff.mpr (by decide)) rfl dL_law_1555 ?_
    refine jq_callV (rest := []) C (ct_X11_share_1 hl D cA ak q_28 q_31 q_34 q_32 q_33 q_35 q_36 q_37 q_38 q_39 q_40 q_41 q_42 (xs 1)) [13, 25, 16] [0, 1, 2, 3, 4, 5, 6, 7, 8, 9, 10, 11, 12, 14, 15, 17, 18, 19, 20, 21, 22, 23, 24, 26, 27] rfl rfl (by decide) (by decide) (by decide) 0 rfl rfl rfl jw_1289 jw_1290 jw_1291 jw_224 jw_572 jn_X11_share rfl (jj_le rfl) (jj_le rfl) (jj_le rfl) (jj_le rfl) (jj_le rfl) dL_law_1556 rfl (fun _ _ hX => hX.elim) (fun w1 r O_80 => ?_)
    rcases O_80 with ⟨c_81, rfl, rfl⟩ | ⟨c_82, c_83, rfl, rfl⟩ | ⟨c_84, c_85, rfl, rfl⟩
    · refine jj_apd rfl ?_
      refine jj_dstore C dL_law_1559 (by decide) rfl ?_
      refine jj_aload_n C dL_law_1561 rfl ?_
      refine jq_callV (rest := []) C (ct_X11_thrown_2 hl D cA ak q_28 q_31 q_32 q_33 q_34 q_35 q_36 q_37 q_38 q_39 q_40 q_41 q_42) [27] [0, 1, 2, 3, 4, 5, 6, 7, 8, 9, 10, 11, 12, 13, 14, 15, 16, 17, 18, 19, 20, 21, 22, 23, 24, 25, 26] rfl rfl (by decide) (by decide) (by decide) 0 rfl rfl rfl jw_993 jw_994 jw_995 jw_224 jw_992 jn_X11_thrown rfl (jj_le rfl) (jj_le rfl) (jj_le rfl) (jj_le rfl) (jj_le rfl) dL_law_1562 rfl (fun _ _ hX => hX.elim) (fun w1 r O_87 => ?_)
      obtain ⟨rfl, rfl⟩ := O_87
      refine jj_apd rfl ?_
      refine jj_iload C dL_law_1565 rfl ?_
      refine jj_icmp_eqF (tgt := 1572) C dL_law_1567 (by decide) (by decide) ?_
      refine jj_iconst (v := 0) C dL_law_1570 (by decide) ?_
      exfalso; have z0 := jc_nlt (a := (xs 1).toInt) (b := (0)) c_51 rfl (by decide); have z1 := jc_nle (a := (1)) (b := (xs 1).toInt) c_52 (by decide) rfl; have z2 := jc_ltL (a := (xs 1).toInt) (b := (0)) c_81 (Int32.toInt_toInt64 _) (by decide); omega
    · refine jj_apd rfl ?_
      refine jj_dstore C dL_law_1559 (by decide) rfl ?_
      refine jj_aload_n C dL_law_1561 rfl ?_
      refine jq_callV (rest := []) C (ct_X11_thrown_2 hl D cA ak q_28 q_31 q_32 q_33 q_34 q_35 q_36 q_37 q_38 q_39 q_40 q_41 q_42) [27] [0, 1, 2, 3, 4, 5, 6, 7, 8, 9, 10, 11, 12, 13, 14, 15, 16, 17, 18, 19, 20, 21, 22, 23, 24, 25, 26] rfl rfl (by decide) (by decide) (by decide) 0 rfl rfl rfl jw_993 jw_994 jw_995 jw_224 jw_992 jn_X11_thrown rfl (jj_le rfl) (jj_le rfl) (jj_le rfl) (jj_le rfl) (jj_le rfl) dL_law_1562 rfl (fun _ _ hX => hX.elim) (fun w1 r O_89 => ?_)
      obtain ⟨rfl, rfl⟩ := O_89
      refine jj_apd rfl ?_
      refine jj_iload C dL_law_1565 rfl ?_
      refine jj_icmp_eqF (tgt := 1572) C dL_law_1567 (by decide) (by decide) ?_
      refine jj_iconst (v := 0) C dL_law_1570 (by decide) ?_
      exfalso; have z0 := jc_nlt (a := (xs 1).toInt) (b := (0)) c_51 rfl (by decide); have z1 := jc_nle (a := (1)) (b := (xs 1).toInt) c_52 (by decide) rfl; have z2 := jc_nltL (a := (xs 1).toInt) (b := (0)) c_82 (Int32.toInt_toInt64 _) (by decide); have z3 := jc_ltL (a := (0)) (b := (xs 1).toInt) c_83 (by decide) (Int32.toInt_toInt64 _); omega
    · refine jj_apd rfl ?_
      refine jj_dstore C dL_law_1559 (by decide) rfl ?_
      refine jj_aload_n C dL_law_1561 rfl ?_
      refine jq_callV (rest := []) C (ct_X11_thrown_4 hl D cA ak q_28 q_31 q_32 q_33 q_34 q_35 q_36 q_37 q_38 q_39 q_40 q_41 q_42) [27] [0, 1, 2, 3, 4, 5, 6, 7, 8, 9, 10, 11, 12, 13, 14, 15, 16, 17, 18, 19, 20, 21, 22, 23, 24, 25, 26] rfl rfl (by decide) (by decide) (by decide) 0 rfl rfl rfl jw_993 jw_994 jw_995 jw_224 jw_992 jn_X11_thrown rfl (jj_le rfl) (jj_le rfl) (jj_le rfl) (jj_le rfl) (jj_le rfl) dL_law_1562 rfl (fun _ _ hX => hX.elim) (fun w1 r O_91 => ?_)
      obtain ⟨rfl, rfl⟩ := O_91
      refine jj_apd rfl ?_
      refine jj_iload C dL_law_1565 rfl ?_
      refine jj_icmp_eqT (tgt := 1572) C dL_law_1567 (by decide) (by decide) ?_
      refine jj_iload C dL_law_1572 rfl ?_
      refine jj_if_neT (tgt := 1609) C dL_law_1574 (by decide) (by decide) ?_
      refine jj_goto (tgt := 2259) C dL_law_1609 (by decide) ?_
      exact jj_loc [7, 2] rfl (jj_drop [] rfl (by decide) (jj_widen (k := 600006) (n := 7302072) (jj_le rfl) (jj_le rfl) hend))

set_option maxHeartbeats 4000000 in
set_option maxRecDepth 100000 in
theorem law_c28 {p : Program} {l : Launch} {e : Env} {s : State} {m : MethodId} {below : List Frame} {meth : Method} {c : Code} (hl : l.stackTraces = false) {D : va_G} {cA : Nat → ClassId} {ak : (Nat → Nat) × (Nat → Nat)} {A : Nat → Prop} {b : Nat} {xs : Nat → Int32} {Q : State → Prop} (C : jj_C p l s m #[Value.ref b] meth c code 9 R_law ret D cA A ak) (hX : va_X b 6 xs s s.heap) (hbl : b < s.heap.size) (hbA : ¬ A b) (hend : jj_J p l e room_1 s m #[Value.ref b] below meth c 9 A Q (jj_X D A []) 600006 7302072 2259 [(0, .ref b), (5, .int 0)] []) (q_1 q_4 q_5 q_6 q_7 q_8 q_9 q_10 q_11 q_12 q_13 q_14 q_15 q_16 q_17 q_18 q_19 q_20 q_21 q_22 q_23 q_28 q_31 q_32 q_33 q_34 q_35 q_36 q_37 q_38 q_39 q_40 q_41 q_42 q_43 q_44 : Nat) (f_24 : Nat → Option Nat) (f_25 : Nat → Option Nat) (c_26 : f_24 0 = some q_11) (c_27 : f_25 0 = some q_17) : jj_J p l e room_1 s m #[Value.ref b] below meth c 9 A Q (jj_X D A [(q_1, .inr (11, [.ref q_4, .int 0, .int (-1), .ref q_6, .ref q_12, .ref q_18, .ref q_20, .int 0, .int 0, .ref q_21])), (q_4, .inr (10, [.ref q_5, .int 0, .int 0, .int 0, .int 0, .int 0, .int (-1)])), (q_5, .inl (cA 1, 400, .inl (fun _ => 0))), (q_6, .inr (2, [.int 1, .int 0, .int 0, .int 0, .int 100, .int 0, .int 0, .int 0, .int 0, .int 0, .ref q_7, .ref q_8, .ref q_9, .ref q_10])), (q_7, .inl (cA 2, 6, .inr (.inl (fun _ => 0)))), (q_10, .inl (cA 7, 12, .inr (.inr (.inr (.inr f_24))))), (q_11, .inr (7, [.int 0, .int 0, .int 0, .long 0, .long 0])), (q_12, .inr (2, [.int 1, .int 0, .int 0, .int 0, .int 100, .int 0, .int 0, .int 0, .int 0, .int 0, .ref q_13, .ref q_14, .ref q_15, .ref q_16])), (q_13, .inl (cA 2, 6, .inr (.inl (fun _ => 0)))), (q_16, .inl (cA 7, 12, .inr (.inr (.inr (.inr f_25))))), (q_17, .inr (7, [.int 0, .int 0, .int 0, .long 0, .long 0])), (q_18, .inr (3, [.ref q_19, .long 0, .long 0, .long 0, .long 0, .long 0])), (q_20, .inl (cA 5, 10, .inr (.inr (.inr (.inr (fun _ => none)))))), (q_21, .inr (6, [.ref q_22, .int 0, .ref q_23])), (q_22, .inl (cA 0, 1300, .inl (fun _ => 0))), (q_23, .inl (cA 0, 20, .inl (fun _ => 0))), (q_28, .inr (12, [.ref q_31, .ref q_32, .ref q_33, .ref q_34, .ref q_35, .ref q_36, .int 0, .int 0, .long 0, .long 0, .ref q_37, .ref q_38, .ref q_39, .int 0, .int 0, .int 0, .int 0, .int 0, .int (-1), .int 0, .int 0, .ref q_40, .ref q_41, .ref q_42, .int 0])), (q_32, .inl (cA 2, 334, .inr (.inl (fun _ => 0)))), (q_33, .inl (cA 2, 334, .inr (.inl (fun _ => 0)))), (q_34, .inl (cA 2, 334, .inr (.inl (fun _ => 0)))), (q_35, .inl (cA 2, 334, .inr (.inl (fun _ => 0)))), (q_36, .inl (cA 2, 3340, .inr (.inl (fun _ => 0)))), (q_37, .inl (cA 2, 12, .inr (.inl (fun _ => 0)))), (q_38, .inl (cA 3, 12, .inl (fun _ => 0))), (q_39, .inl (cA 0, 400, .inl (fun _ => 0))), (q_40, .inl (cA 2, 6, .inr (.inl (fun _ => 0)))), (q_41, .inl (cA 2, 6, .inr (.inl (fun _ => 0)))), (q_42, .inl (cA 0, 2400, .inl (fun _ => 0))), (q_31, .inl (cA 2, 334, .inr (.inl (vp_updL (vp_updL (fun _ => 0) 0 1) 4 100)))), (q_43, .inl (cA 2, 1, .inr (.inl (fun _ => 0)))), (q_44, .inl (cA 4, 1, .inr (.inr (.inr (.inl (fun _ => 0))))))]) 156 10481 1612 [(5, .int 0), (4, .ref q_44), (3, .ref q_43), (2, .ref q_28), (1, .ref q_1), (0, .ref b)] [] := by
  refine jj_aload_n C dL_law_1612 rfl ?_
  refine jq_callV (rest := []) C (ct_X10_requestedValue_1 hl D cA ak q_1 q_6 q_18 q_4 q_12 q_20 q_21 q_7 q_8 q_9 q_10 q_19) [0, 3, 11] [1, 2, 4, 5, 6, 7, 8, 9, 10, 12, 13, 14, 15, 16, 17, 18, 19, 20, 21, 22, 23, 24, 25, 26, 27, 28, 29, 30] rfl rfl (by decide) (by decide) (by decide) 0 rfl rfl rfl jw_1293 jw_1294 jw_1295 jw_271 jw_883 jn_X10_requestedValue rfl (jj_le rfl) (jj_le rfl) (jj_le rfl) (jj_le rfl) (jj_le rfl) dL_law_1613 rfl (fun _ _ hX => hX.elim) (fun w1 r O_47 => ?_)
  obtain rfl := O_47
  refine jj_left ?_
  refine jj_aload_n C dL_law_1616 rfl ?_
  refine jq_callV (rest := [.long 0]) C (ct_X11_requestedValue_1 hl D cA ak q_28 q_31 q_32 q_33 q_34 q_35 q_36 q_37 q_38 q_39 q_40 q_41 q_42) [13, 25] [0, 1, 2, 3, 4, 5, 6, 7, 8, 9, 10, 11, 12, 14, 15, 16, 17, 18, 19, 20, 21, 22, 23, 24, 26, 27] rfl rfl (by decide) (by decide) (by decide) 0 rfl rfl rfl jw_1297 jw_1298 jw_1299 jw_224 jw_884 jn_X11_requestedValue rfl (jj_le rfl) (jj_le rfl) (jj_le rfl) (jj_le rfl) (jj_le rfl) dL_law_1617 rfl (fun _ _ hX => hX.elim) (fun w1 r O_49 => ?_)
  obtain ⟨rfl, rfl⟩ := O_49
  refine jj_apd rfl ?_
  refine jj_lcmp_eqT (tgt := 2259) C dL_law_1620 dL_law_1621 (by decide) (by decide) ?_
  exact jj_loc [5, 0] rfl (jj_drop [] rfl (by decide) (jj_widen (k := 600006) (n := 7302072) (jj_le rfl) (jj_le rfl) hend))

set_option maxHeartbeats 4000000 in
set_option maxRecDepth 100000 in
theorem law_c29 {p : Program} {l : Launch} {e : Env} {s : State} {m : MethodId} {below : List Frame} {meth : Method} {c : Code} (hl : l.stackTraces = false) {D : va_G} {cA : Nat → ClassId} {ak : (Nat → Nat) × (Nat → Nat)} {A : Nat → Prop} {b : Nat} {xs : Nat → Int32} {Q : State → Prop} (C : jj_C p l s m #[Value.ref b] meth c code 9 R_law ret D cA A ak) (hX : va_X b 6 xs s s.heap) (hbl : b < s.heap.size) (hbA : ¬ A b) (hend : jj_J p l e room_1 s m #[Value.ref b] below meth c 9 A Q (jj_X D A []) 600006 7302072 2259 [(0, .ref b), (5, .int 0)] []) (q_1 q_4 q_5 q_6 q_7 q_8 q_9 q_10 q_11 q_12 q_13 q_14 q_15 q_16 q_17 q_18 q_19 q_20 q_21 q_22 q_23 q_28 q_31 q_32 q_33 q_34 q_35 q_36 q_37 q_38 q_39 q_40 q_41 q_42 q_43 q_44 : Nat) (f_24 : Nat → Option Nat) (f_25 : Nat → Option Nat) (c_26 : f_24 0 = some q_11) (c_27 : f_25 0 = some q_17) : jj_J p l e room_1 s m #[Value.ref b] below meth c 9 A Q (jj_X D A [(q_1, .inr (11, [.ref q_4, .int 0, .int (-1), .ref q_6, .ref q_12, .ref q_18, .ref q_20, .int 0, .int 0, .ref q_21])), (q_4, .inr (10, [.ref q_5, .int 0, .int 0, .int 0, .int 0, .int 0, .int (-1)])), (q_5, .inl (cA 1, 400, .inl (fun _ => 0))), (q_6, .inr (2, [.int 1, .int 0, .int 0, .int 0, .int 100, .int 0, .int 0, .int 0, .int 0, .int 0, .ref q_7, .ref q_8, .ref q_9, .ref q_10])), (q_7, .inl (cA 2, 6, .inr (.inl (fun _ => 0)))), (q_10, .inl (cA 7, 12, .inr (.inr (.inr (.inr f_24))))), (q_11, .inr (7, [.int 0, .int 0, .int 0, .long 0, .long 0])), (q_12, .inr (2, [.int 1, .int 0, .int 0, .int 0, .int 100, .int 0, .int 0, .int 0, .int 0, .int 0, .ref q_13, .ref q_14, .ref q_15, .ref q_16])), (q_13, .inl (cA 2, 6, .inr (.inl (fun _ => 0)))), (q_16, .inl (cA 7, 12, .inr (.inr (.inr (.inr f_25))))), (q_17, .inr (7, [.int 0, .int 0, .int 0, .long 0, .long 0])), (q_18, .inr (3, [.ref q_19, .long 0, .long 0, .long 0, .long 0, .long 0])), (q_20, .inl (cA 5, 10, .inr (.inr (.inr (.inr (fun _ => none)))))), (q_21, .inr (6, [.ref q_22, .int 0, .ref q_23])), (q_22, .inl (cA 0, 1300, .inl (fun _ => 0))), (q_23, .inl (cA 0, 20, .inl (fun _ => 0))), (q_28, .inr (12, [.ref q_31, .ref q_32, .ref q_33, .ref q_34, .ref q_35, .ref q_36, .int 0, .int 0, .long 0, .long 0, .ref q_37, .ref q_38, .ref q_39, .int 0, .int 0, .int 0, .int 0, .int 0, .int (-1), .int 0, .int 0, .ref q_40, .ref q_41, .ref q_42, .int 0])), (q_32, .inl (cA 2, 334, .inr (.inl (fun _ => 0)))), (q_33, .inl (cA 2, 334, .inr (.inl (fun _ => 0)))), (q_34, .inl (cA 2, 334, .inr (.inl (fun _ => 0)))), (q_35, .inl (cA 2, 334, .inr (.inl (fun _ => 0)))), (q_36, .inl (cA 2, 3340, .inr (.inl (fun _ => 0)))), (q_37, .inl (cA 2, 12, .inr (.inl (fun _ => 0)))), (q_38, .inl (cA 3, 12, .inl (fun _ => 0))), (q_39, .inl (cA 0, 400, .inl (fun _ => 0))), (q_40, .inl (cA 2, 6, .inr (.inl (fun _ => 0)))), (q_41, .inl (cA 2, 6, .inr (.inl (fun _ => 0)))), (q_42, .inl (cA 0, 2400, .inl (fun _ => 0))), (q_31, .inl (cA 2, 334, .inr (.inl (vp_updL (vp_updL (fun _ => 0) 0 1) 4 100)))), (q_43, .inl (cA 2, 1, .inr (.inl (fun _ => 0)))), (q_44, .inl (cA 4, 1, .inr (.inr (.inr (.inl (fun _ => 0))))))]) 156 10481 1626 [(5, .int 0), (4, .ref q_44), (3, .ref q_43), (2, .ref q_28), (1, .ref q_1), (0, .ref b)] [] := by
  refine jj_aload_n C dL_law_1626 rfl ?_
  refine jq_callV (rest := []) C (ct_X10_gateLimit_1 hl D cA ak q_1 q_6 q_4 q_12 q_18 q_20 q_21 q_7 q_8 q_9 q_10) [0, 3] [1, 2, 4, 5, 6, 7, 8, 9, 10, 11, 12, 13, 14, 15, 16, 17, 18, 19, 20, 21, 22, 23, 24, 25, 26, 27, 28, 29, 30] rfl rfl (by decide) (by decide) (by decide) 0 rfl rfl rfl jw_1301 jw_1302 jw_1303 jw_271 jw_886 jn_X10_gateLimit rfl (jj_le rfl) (jj_le rfl) (jj_le rfl) (jj_le rfl) (jj_le rfl) dL_law_1627 rfl (fun _ _ hX => hX.elim) (fun w1 r O_47 => ?_)
  obtain rfl := O_47
  refine jj_left ?_
  refine jj_aload_n C dL_law_1630 rfl ?_
  refine jq_callV (rest := [.long 0]) C (ct_X11_gateLimit_1 hl D cA ak q_28 q_31 q_32 q_33 q_34 q_35 q_36 q_37 q_38 q_39 q_40 q_41 q_42) [14, 26] [0, 1, 2, 3, 4, 5, 6, 7, 8, 9, 10, 11, 12, 13, 15, 16, 17, 18, 19, 20, 21, 22, 23, 24, 25, 27, 28] rfl rfl (by decide) (by decide) (by decide) 0 rfl rfl rfl jw_1305 jw_1306 jw_1307 jw_224 jw_887 jn_X11_gateLimit rfl (jj_le rfl) (jj_le rfl) (jj_le rfl) (jj_le rfl) (jj_le rfl) dL_law_1631 rfl (fun _ _ hX => hX.elim) (fun w1 r O_49 => ?_)
  obtain ⟨rfl, rfl⟩ := O_49
  refine jj_apd rfl ?_
  refine jj_lcmp_eqT (tgt := 2259) C dL_law_1634 dL_law_1635 (by decide) (by decide) ?_
  exact jj_loc [5, 0] rfl (jj_drop [] rfl (by decide) (jj_widen (k := 600006) (n := 7302072) (jj_le rfl) (jj_le rfl) hend))

set_option maxHeartbeats 4000000 in
set_option maxRecDepth 100000 in
theorem law_c30 {p : Program} {l : Launch} {e : Env} {s : State} {m : MethodId} {below : List Frame} {meth : Method} {c : Code} (hl : l.stackTraces = false) {D : va_G} {cA : Nat → ClassId} {ak : (Nat → Nat) × (Nat → Nat)} {A : Nat → Prop} {b : Nat} {xs : Nat → Int32} {Q : State → Prop} (C : jj_C p l s m #[Value.ref b] meth c code 9 R_law ret D cA A ak) (hX : va_X b 6 xs s s.heap) (hbl : b < s.heap.size) (hbA : ¬ A b) (hend : jj_J p l e room_1 s m #[Value.ref b] below meth c 9 A Q (jj_X D A []) 600006 7302072 2259 [(0, .ref b), (5, .int 0)] []) (q_1 q_4 q_5 q_6 q_7 q_8 q_9 q_10 q_11 q_12 q_13 q_14 q_15 q_16 q_17 q_18 q_19 q_20 q_21 q_22 q_23 q_28 q_31 q_32 q_33 q_34 q_35 q_36 q_37 q_38 q_39 q_40 q_41 q_42 q_43 q_44 : Nat) (f_24 : Nat → Option Nat) (f_25 : Nat → Option Nat) (c_26 : f_24 0 = some q_11) (c_27 : f_25 0 = some q_17) : jj_J p l e room_1 s m #[Value.ref b] below meth c 9 A Q (jj_X D A [(q_1, .inr (11, [.ref q_4, .int 0, .int (-1), .ref q_6, .ref q_12, .ref q_18, .ref q_20, .int 0, .int 0, .ref q_21])), (q_4, .inr (10, [.ref q_5, .int 0, .int 0, .int 0, .int 0, .int 0, .int (-1)])), (q_5, .inl (cA 1, 400, .inl (fun _ => 0))), (q_6, .inr (2, [.int 1, .int 0, .int 0, .int 0, .int 100, .int 0, .int 0, .int 0, .int 0, .int 0, .ref q_7, .ref q_8, .ref q_9, .ref q_10])), (q_7, .inl (cA 2, 6, .inr (.inl (fun _ => 0)))), (q_10, .inl (cA 7, 12, .inr (.inr (.inr (.inr f_24))))), (q_11, .inr (7, [.int 0, .int 0, .int 0, .long 0, .long 0])), (q_12, .inr (2, [.int 1, .int 0, .int 0, .int 0, .int 100, .int 0, .int 0, .int 0, .int 0, .int 0, .ref q_13, .ref q_14, .ref q_15, .ref q_16])), (q_13, .inl (cA 2, 6, .inr (.inl (fun _ => 0)))), (q_16, .inl (cA 7, 12, .inr (.inr (.inr (.inr f_25))))), (q_17, .inr (7, [.int 0, .int 0, .int 0, .long 0, .long 0])), (q_18, .inr (3, [.ref q_19, .long 0, .long 0, .long 0, .long 0, .long 0])), (q_20, .inl (cA 5, 10, .inr (.inr (.inr (.inr (fun _ => none)))))), (q_21, .inr (6, [.ref q_22, .int 0, .ref q_23])), (q_22, .inl (cA 0, 1300, .inl (fun _ => 0))), (q_23, .inl (cA 0, 20, .inl (fun _ => 0))), (q_28, .inr (12, [.ref q_31, .ref q_32, .ref q_33, .ref q_34, .ref q_35, .ref q_36, .int 0, .int 0, .long 0, .long 0, .ref q_37, .ref q_38, .ref q_39, .int 0, .int 0, .int 0, .int 0, .int 0, .int (-1), .int 0, .int 0, .ref q_40, .ref q_41, .ref q_42, .int 0])), (q_32, .inl (cA 2, 334, .inr (.inl (fun _ => 0)))), (q_33, .inl (cA 2, 334, .inr (.inl (fun _ => 0)))), (q_34, .inl (cA 2, 334, .inr (.inl (fun _ => 0)))), (q_35, .inl (cA 2, 334, .inr (.inl (fun _ => 0)))), (q_36, .inl (cA 2, 3340, .inr (.inl (fun _ => 0)))), (q_37, .inl (cA 2, 12, .inr (.inl (fun _ => 0)))), (q_38, .inl (cA 3, 12, .inl (fun _ => 0))), (q_39, .inl (cA 0, 400, .inl (fun _ => 0))), (q_40, .inl (cA 2, 6, .inr (.inl (fun _ => 0)))), (q_41, .inl (cA 2, 6, .inr (.inl (fun _ => 0)))), (q_42, .inl (cA 0, 2400, .inl (fun _ => 0))), (q_31, .inl (cA 2, 334, .inr (.inl (vp_updL (vp_updL (fun _ => 0) 0 1) 4 100)))), (q_43, .inl (cA 2, 1, .inr (.inl (fun _ => 0)))), (q_44, .inl (cA 4, 1, .inr (.inr (.inr (.inl (fun _ => 0))))))]) 156 10481 1640 [(5, .int 0), (4, .ref q_44), (3, .ref q_43), (2, .ref q_28), (1, .ref q_1), (0, .ref b)] [] := by
  refine jj_aload_n C dL_law_1640 rfl ?_
  refine jj_aload_n C dL_law_1641 rfl ?_
  refine jj_iload C dL_law_1642 rfl ?_
  refine jj_iconst (v := 1) C dL_law_1644 (by decide) ?_
  refine jj_iadd (v := 1) C dL_law_1645 (by decide) ?_
  refine jj_xld (v := xs 1) C hX hbl hbA (vp_in_iff.mpr (by decide)) rfl dL_law_1646 ?_
  refine jj_aload_n C dL_law_1647 rfl ?_
  refine jq_callSW (rest := []) C (ct_L_wouldRedeem_1 hl D cA ak q_1 q_6 q_43 q_4 q_12 q_18 q_20 q_21 q_7 q_8 q_9 q_10 (xs 1)) [0, 3] [1, 2, 4, 5, 6, 7, 8, 9, 10, 11, 12, 13, 14, 15, 16, 17, 18, 19, 20, 21, 22, 23, 24, 25, 26, 27, 28, 29, 30] rfl rfl (by decide) (by decide) (by decide) jw_1314 jw_1315 jw_985 jw_1313 jn_L_wouldRedeem rfl (jj_le rfl) (jj_le rfl) (jj_le rfl) (jj_le rfl) (jj_le rfl) dL_law_1648 rfl (fun _ _ hX => hX.elim) (fun w1 r O_47 => ?_)
  rcases O_47 with ⟨c_48, rfl, rfl⟩ | ⟨c_49, rfl, rfl⟩
  · refine jj_apd rfl ?_
    refine jj_istore C dL_law_1651 (by decide) rfl ?_
    refine jj_aload_n C dL_law_1653 rfl ?_
    refine jj_aload_n C dL_law_1654 rfl ?_
    refine jj_iload C dL_law_1655 rfl ?_
    refine jj_iconst (v := 1) C dL_law_1657 (by decide) ?_
    refine jj_iadd (v := 1) C dL_law_1658 (by decide) ?_
    refine jj_xld (v := xs 1) C hX hbl hbA (vp_in_iff.mpr (by decide)) rfl dL_law_1659 ?_
    refine jq_callV (rest := []) C (ct_X11_wouldRedeem_1 hl D cA ak q_28 q_31 q_32 q_33 q_34 q_35 q_36 q_37 q_38 q_39 q_40 q_41 q_42 (xs 1)) [14, 26] [0, 1, 2, 3, 4, 5, 6, 7, 8, 9, 10, 11, 12, 13, 15, 16, 17, 18, 19, 20, 21, 22, 23, 24, 25, 27, 28] rfl rfl (by decide) (by decide) (by decide) 0 rfl rfl rfl jw_1317 jw_1318 jw_1319 jw_224 jw_574 jn_X11_wouldRedeem rfl (jj_le rfl) (jj_le rfl) (jj_le rfl) (jj_le rfl) (jj_le rfl) dL_law_1660 rfl (fun _ _ hX => hX.elim) (fun w1 r O_51 => ?_)
    rcases O_51 with ⟨c_52, rfl, rfl⟩ | ⟨c_53, rfl, rfl⟩
    · refine jj_apd rfl ?_
      refine jj_lstore C dL_law_1663 (by decide) rfl ?_
      refine jj_aload_n C dL_law_1665 rfl ?_
      refine jq_callV (rest := []) C (ct_X11_thrown_2 hl D cA ak q_28 q_31 q_32 q_33 q_34 q_35 q_36 q_37 q_38 q_39 q_40 q_41 q_42) [28] [0, 1, 2, 3, 4, 5, 6, 7, 8, 9, 10, 11, 12, 13, 14, 15, 16, 17, 18, 19, 20, 21, 22, 23, 24, 25, 26, 27] rfl rfl (by decide) (by decide) (by decide) 0 rfl rfl rfl jw_993 jw_994 jw_995 jw_224 jw_992 jn_X11_thrown rfl (jj_le rfl) (jj_le rfl) (jj_le rfl) (jj_le rfl) (jj_le rfl) dL_law_1666 rfl (fun _ _ hX => hX.elim) (fun w1 r O_55 => ?_)
      obtain ⟨rfl, rfl⟩ := O_55
      refine jj_apd rfl ?_
      refine jj_iload C dL_law_1669 rfl ?_
      refine jj_icmp_eqT (tgt := 1676) C dL_law_1671 (by decide) (by decide) ?_
      refine jj_iload C dL_law_1676 rfl ?_
      refine jj_if_neT (tgt := 1692) C dL_law_1678 (by decide) (by decide) ?_
      refine jj_goto (tgt := 2259) C dL_law_1692 (by decide) ?_
      exact jj_loc [7, 2] rfl (jj_drop [] rfl (by decide) (jj_widen (k := 600006) (n := 7302072) (jj_le rfl) (jj_le rfl) hend))
    · refine jj_apd rfl ?_
      refine jj_lstore C dL_law_1663 (by decide) rfl ?_
      refine jj_aload_n C dL_law_1665 rfl ?_
      refine jq_callV (rest := []) C (ct_X11_thrown_2 hl D cA ak q_28 q_31 q_32 q_33 q_34 q_35 q_36 q_37 q_38 q_39 q_40 q_41 q_42) [28] [0, 1, 2, 3, 4, 5, 6, 7, 8, 9, 10, 11, 12, 13, 14, 15, 16, 17, 18, 19, 20, 21, 22, 23, 24, 25, 26, 27] rfl rfl (by decide) (by decide) (by decide) 0 rfl rfl rfl jw_993 jw_994 jw_995 jw_224 jw_992 jn_X11_thrown rfl (jj_le rfl) (jj_le rfl) (jj_le rfl) (jj_le rfl) (jj_le rfl) dL_law_1666 rfl (fun _ _ hX => hX.elim) (fun w1 r O_57 => ?_)
      obtain ⟨rfl, rfl⟩ := O_57
      refine jj_apd rfl ?_
      refine jj_iload C dL_law_1669 rfl ?_
      refine jj_icmp_eqT (tgt := 1676) C dL_law_1671 (by decide) (by decide) ?_
      refine jj_iload C dL_law_1676 rfl ?_
      refine jj_if_neT (tgt := 1692) C dL_law_1678 (by decide) (by decide) ?_
      refine jj_goto (tgt := 2259) C dL_law_1692 (by decide) ?_
      exact jj_loc [7, 2] rfl (jj_drop [] rfl (by decide) (jj_widen (k := 600006) (n := 7302072) (jj_le rfl) (jj_le rfl) hend))
  · refine jj_apd rfl ?_
    refine jj_istore C dL_law_1651 (by decide) rfl ?_
    refine jj_aload_n C dL_law_1653 rfl ?_
    refine jj_aload_n C dL_law_1654 rfl ?_
    refine jj_iload C dL_law_1655 rfl ?_
    refine jj_iconst (v := 1) C dL_law_1657 (by decide) ?_
    refine jj_iadd (v := 1) C dL_law_1658 (by decide) ?_
    refine jj_xld (v := xs 1) C hX hbl hbA (vp_in_iff.mpr (by decide)) rfl dL_law_1659 ?_
    refine jq_callV (rest := []) C (ct_X11_wouldRedeem_1 hl D cA ak q_28 q_31 q_32 q_33 q_34 q_35 q_36 q_37 q_38 q_39 q_40 q_41 q_42 (xs 1)) [14, 26] [0, 1, 2, 3, 4, 5, 6, 7, 8, 9, 10, 11, 12, 13, 15, 16, 17, 18, 19, 20, 21, 22, 23, 24, 25, 27, 28] rfl rfl (by decide) (by decide) (by decide) 0 rfl rfl rfl jw_1317 jw_1318 jw_1319 jw_224 jw_574 jn_X11_wouldRedeem rfl (jj_le rfl) (jj_le rfl) (jj_le rfl) (jj_le rfl) (jj_le rfl) dL_law_1660 rfl (fun _ _ hX => hX.elim) (fun w1 r O_59 => ?_)
    rcases O_59 with ⟨c_60, rfl, rfl⟩ | ⟨c_61, rfl, rfl⟩
    · refine jj_apd rfl ?_
      refine jj_lstore C dL_law_1663 (by decide) rfl ?_
      refine jj_aload_n C dL_law_1665 rfl ?_
      refine jq_callV (rest := []) C (ct_X11_thrown_2 hl D cA ak q_28 q_31 q_32 q_33 q_34 q_35 q_36 q_37 q_38 q_39 q_40 q_41 q_42) [28] [0, 1, 2, 3, 4, 5, 6, 7, 8, 9, 10, 11, 12, 13, 14, 15, 16, 17, 18, 19, 20, 21, 22, 23, 24, 25, 26, 27] rfl rfl (by decide) (by decide) (by decide) 0 rfl rfl rfl jw_993 jw_994 jw_995 jw_224 jw_992 jn_X11_thrown rfl (jj_le rfl) (jj_le rfl) (jj_le rfl) (jj_le rfl) (jj_le rfl) dL_law_1666 rfl (fun _ _ hX => hX.elim) (fun w1 r O_63 => ?_)
      obtain ⟨rfl, rfl⟩ := O_63
      refine jj_apd rfl ?_
      refine jj_iload C dL_law_1669 rfl ?_
      refine jj_icmp_eqT (tgt := 1676) C dL_law_1671 (by decide) (by decide) ?_
      refine jj_iload C dL_law_1676 rfl ?_
      refine jj_if_neT (tgt := 1692) C dL_law_1678 (by decide) (by decide) ?_
      refine jj_goto (tgt := 2259) C dL_law_1692 (by decide) ?_
      exact jj_loc [7, 2] rfl (jj_drop [] rfl (by decide) (jj_widen (k := 600006) (n := 7302072) (jj_le rfl) (jj_le rfl) hend))
    · refine jj_apd rfl ?_
      refine jj_lstore C dL_law_1663 (by decide) rfl ?_
      refine jj_aload_n C dL_law_1665 rfl ?_
      refine jq_callV (rest := []) C (ct_X11_thrown_2 hl D cA ak q_28 q_31 q_32 q_33 q_34 q_35 q_36 q_37 q_38 q_39 q_40 q_41 q_42) [28] [0, 1, 2, 3, 4, 5, 6, 7, 8, 9, 10, 11, 12, 13, 14, 15, 16, 17, 18, 19, 20, 21, 22, 23, 24, 25, 26, 27] rfl rfl (by decide) (by decide) (by decide) 0 rfl rfl rfl jw_993 jw_994 jw_995 jw_224 jw_992 jn_X11_thrown rfl (jj_le rfl) (jj_le rfl) (jj_le rfl) (jj_le rfl) (jj_le rfl) dL_law_1666 rfl (fun _ _ hX => hX.elim) (fun w1 r O_65 => ?_)
      obtain ⟨rfl, rfl⟩ := O_65
      refine jj_apd rfl ?_
      refine jj_iload C dL_law_1669 rfl ?_
      refine jj_icmp_eqT (tgt := 1676) C dL_law_1671 (by decide) (by decide) ?_
      refine jj_iload C dL_law_1676 rfl ?_
      refine jj_if_neT (tgt := 1692) C dL_law_1678 (by decide) (by decide) ?_
      refine jj_goto (tgt := 2259) C dL_law_1692 (by decide) ?_
      exact jj_loc [7, 2] rfl (jj_drop [] rfl (by decide) (jj_widen (k := 600006) (n := 7302072) (jj_le rfl) (jj_le rfl) hend))

set_option maxHeartbeats 4000000 in
set_option maxRecDepth 100000 in
theorem law_c31 {p : Program} {l : Launch} {e : Env} {s : State} {m : MethodId} {below : List Frame} {meth : Method} {c : Code} (hl : l.stackTraces = false) {D : va_G} {cA : Nat → ClassId} {ak : (Nat → Nat) × (Nat → Nat)} {A : Nat → Prop} {b : Nat} {xs : Nat → Int32} {Q : State → Prop} (C : jj_C p l s m #[Value.ref b] meth c code 9 R_law ret D cA A ak) (hX : va_X b 6 xs s s.heap) (hbl : b < s.heap.size) (hbA : ¬ A b) (hend : jj_J p l e room_1 s m #[Value.ref b] below meth c 9 A Q (jj_X D A []) 600006 7302072 2259 [(0, .ref b), (5, .int 0)] []) (q_1 q_4 q_5 q_6 q_7 q_8 q_9 q_10 q_11 q_12 q_13 q_14 q_15 q_16 q_17 q_18 q_19 q_20 q_21 q_22 q_23 q_28 q_31 q_32 q_33 q_34 q_35 q_36 q_37 q_38 q_39 q_40 q_41 q_42 q_43 q_44 : Nat) (f_24 : Nat → Option Nat) (f_25 : Nat → Option Nat) (c_26 : f_24 0 = some q_11) (c_27 : f_25 0 = some q_17) : jj_J p l e room_1 s m #[Value.ref b] below meth c 9 A Q (jj_X D A [(q_1, .inr (11, [.ref q_4, .int 0, .int (-1), .ref q_6, .ref q_12, .ref q_18, .ref q_20, .int 0, .int 0, .ref q_21])), (q_4, .inr (10, [.ref q_5, .int 0, .int 0, .int 0, .int 0, .int 0, .int (-1)])), (q_5, .inl (cA 1, 400, .inl (fun _ => 0))), (q_6, .inr (2, [.int 1, .int 0, .int 0, .int 0, .int 100, .int 0, .int 0, .int 0, .int 0, .int 0, .ref q_7, .ref q_8, .ref q_9, .ref q_10])), (q_7, .inl (cA 2, 6, .inr (.inl (fun _ => 0)))), (q_10, .inl (cA 7, 12, .inr (.inr (.inr (.inr f_24))))), (q_11, .inr (7, [.int 0, .int 0, .int 0, .long 0, .long 0])), (q_12, .inr (2, [.int 1, .int 0, .int 0, .int 0, .int 100, .int 0, .int 0, .int 0, .int 0, .int 0, .ref q_13, .ref q_14, .ref q_15, .ref q_16])), (q_13, .inl (cA 2, 6, .inr (.inl (fun _ => 0)))), (q_16, .inl (cA 7, 12, .inr (.inr (.inr (.inr f_25))))), (q_17, .inr (7, [.int 0, .int 0, .int 0, .long 0, .long 0])), (q_18, .inr (3, [.ref q_19, .long 0, .long 0, .long 0, .long 0, .long 0])), (q_20, .inl (cA 5, 10, .inr (.inr (.inr (.inr (fun _ => none)))))), (q_21, .inr (6, [.ref q_22, .int 0, .ref q_23])), (q_22, .inl (cA 0, 1300, .inl (fun _ => 0))), (q_23, .inl (cA 0, 20, .inl (fun _ => 0))), (q_28, .inr (12, [.ref q_31, .ref q_32, .ref q_33, .ref q_34, .ref q_35, .ref q_36, .int 0, .int 0, .long 0, .long 0, .ref q_37, .ref q_38, .ref q_39, .int 0, .int 0, .int 0, .int 0, .int 0, .int (-1), .int 0, .int 0, .ref q_40, .ref q_41, .ref q_42, .int 0])), (q_32, .inl (cA 2, 334, .inr (.inl (fun _ => 0)))), (q_33, .inl (cA 2, 334, .inr (.inl (fun _ => 0)))), (q_34, .inl (cA 2, 334, .inr (.inl (fun _ => 0)))), (q_35, .inl (cA 2, 334, .inr (.inl (fun _ => 0)))), (q_36, .inl (cA 2, 3340, .inr (.inl (fun _ => 0)))), (q_37, .inl (cA 2, 12, .inr (.inl (fun _ => 0)))), (q_38, .inl (cA 3, 12, .inl (fun _ => 0))), (q_39, .inl (cA 0, 400, .inl (fun _ => 0))), (q_40, .inl (cA 2, 6, .inr (.inl (fun _ => 0)))), (q_41, .inl (cA 2, 6, .inr (.inl (fun _ => 0)))), (q_42, .inl (cA 0, 2400, .inl (fun _ => 0))), (q_31, .inl (cA 2, 334, .inr (.inl (vp_updL (vp_updL (fun _ => 0) 0 1) 4 100)))), (q_43, .inl (cA 2, 1, .inr (.inl (fun _ => 0)))), (q_44, .inl (cA 4, 1, .inr (.inr (.inr (.inl (fun _ => 0))))))]) 156 10481 1695 [(5, .int 0), (4, .ref q_44), (3, .ref q_43), (2, .ref q_28), (1, .ref q_1), (0, .ref b)] [] := by
  refine jj_aload_n C dL_law_1695 rfl ?_
  refine jj_aload_n C dL_law_1696 rfl ?_
  refine jj_iload C dL_law_1697 rfl ?_
  refine jj_iconst (v := 1) C dL_law_1699 (by decide) ?_
  refine jj_iadd (v := 1) C dL_law_1700 (by decide) ?_
  refine jj_xld (v := xs 1) C hX hbl hbA (vp_in_iff.mpr (by decide)) rfl dL_law_1701 ?_
  refine jj_aload_n C dL_law_1702 rfl ?_
  refine jq_callSW (rest := []) C (ct_L_dealsUntilDone_1 hl D cA ak q_1 q_6 q_43 q_4 q_12 q_18 q_20 q_21 q_7 q_8 q_9 q_10 (xs 1)) [0, 3] [1, 2, 4, 5, 6, 7, 8, 9, 10, 11, 12, 13, 14, 15, 16, 17, 18, 19, 20, 21, 22, 23, 24, 25, 26, 27, 28, 29, 30] rfl rfl (by decide) (by decide) (by decide) jw_1326 jw_1327 jw_985 jw_1325 jn_L_dealsUntilDone rfl (jj_le rfl) (jj_le rfl) (jj_le rfl) (jj_le rfl) (jj_le rfl) dL_law_1703 rfl (fun _ _ hX => hX.elim) (fun w1 r O_47 => ?_)
  rcases O_47 with ⟨c_48, rfl, rfl⟩ | ⟨c_49, rfl, rfl⟩
  · refine jj_apd rfl ?_
    refine jj_istore C dL_law_1706 (by decide) rfl ?_
    refine jj_aload_n C dL_law_1708 rfl ?_
    refine jj_aload_n C dL_law_1709 rfl ?_
    refine jj_iload C dL_law_1710 rfl ?_
    refine jj_iconst (v := 1) C dL_law_1712 (by decide) ?_
    refine jj_iadd (v := 1) C dL_law_1713 (by decide) ?_
    refine jj_xld (v := xs 1) C hX hbl hbA (vp_in_iff.mpr (by decide)) rfl dL_law_1714 ?_
    refine jq_callV (rest := []) C (ct_X11_dealsUntilDone_1 hl D cA ak q_28 q_31 q_32 q_33 q_34 q_35 q_36 q_37 q_38 q_39 q_40 q_41 q_42 (xs 1)) [14, 26] [0, 1, 2, 3, 4, 5, 6, 7, 8, 9, 10, 11, 12, 13, 15, 16, 17, 18, 19, 20, 21, 22, 23, 24, 25, 27, 28] rfl rfl (by decide) (by decide) (by decide) 0 rfl rfl rfl jw_1329 jw_1330 jw_1331 jw_224 jw_576 jn_X11_dealsUntilDone rfl (jj_le rfl) (jj_le rfl) (jj_le rfl) (jj_le rfl) (jj_le rfl) dL_law_1715 rfl (fun _ _ hX => hX.elim) (fun w1 r O_51 => ?_)
    rcases O_51 with ⟨c_52, rfl, rfl⟩ | ⟨c_53, rfl, rfl⟩
    · refine jj_apd rfl ?_
      refine jj_istore C dL_law_1718 (by decide) rfl ?_
      refine jj_aload_n C dL_law_1720 rfl ?_
      refine jq_callV (rest := []) C (ct_X11_thrown_2 hl D cA ak q_28 q_31 q_32 q_33 q_34 q_35 q_36 q_37 q_38 q_39 q_40 q_41 q_42) [28] [0, 1, 2, 3, 4, 5, 6, 7, 8, 9, 10, 11, 12, 13, 14, 15, 16, 17, 18, 19, 20, 21, 22, 23, 24, 25, 26, 27] rfl rfl (by decide) (by decide) (by decide) 0 rfl rfl rfl jw_993 jw_994 jw_995 jw_224 jw_992 jn_X11_thrown rfl (jj_le rfl) (jj_le rfl) (jj_le rfl) (jj_le rfl) (jj_le rfl) dL_law_1721 rfl (fun _ _ hX => hX.elim) (fun w1 r O_55 => ?_)
      obtain ⟨rfl, rfl⟩ := O_55
      refine jj_apd rfl ?_
      refine jj_iload C dL_law_1724 rfl ?_
      refine jj_icmp_eqT (tgt := 1731) C dL_law_1726 (by decide) (by decide) ?_
      refine jj_iload C dL_law_1731 rfl ?_
      refine jj_if_neT (tgt := 1748) C dL_law_1733 (by decide) (by decide) ?_
      refine jj_goto (tgt := 2259) C dL_law_1748 (by decide) ?_
      exact jj_loc [7, 2] rfl (jj_drop [] rfl (by decide) (jj_widen (k := 600006) (n := 7302072) (jj_le rfl) (jj_le rfl) hend))
    · refine jj_apd rfl ?_
      refine jj_istore C dL_law_1718 (by decide) rfl ?_
      refine jj_aload_n C dL_law_1720 rfl ?_
      refine jq_callV (rest := []) C (ct_X11_thrown_2 hl D cA ak q_28 q_31 q_32 q_33 q_34 q_35 q_36 q_37 q_38 q_39 q_40 q_41 q_42) [28] [0, 1, 2, 3, 4, 5, 6, 7, 8, 9, 10, 11, 12, 13, 14, 15, 16, 17, 18, 19, 20, 21, 22, 23, 24, 25, 26, 27] rfl rfl (by decide) (by decide) (by decide) 0 rfl rfl rfl jw_993 jw_994 jw_995 jw_224 jw_992 jn_X11_thrown rfl (jj_le rfl) (jj_le rfl) (jj_le rfl) (jj_le rfl) (jj_le rfl) dL_law_1721 rfl (fun _ _ hX => hX.elim) (fun w1 r O_57 => ?_)
      obtain ⟨rfl, rfl⟩ := O_57
      refine jj_apd rfl ?_
      refine jj_iload C dL_law_1724 rfl ?_
      refine jj_icmp_eqT (tgt := 1731) C dL_law_1726 (by decide) (by decide) ?_
      refine jj_iload C dL_law_1731 rfl ?_
      refine jj_if_neT (tgt := 1748) C dL_law_1733 (by decide) (by decide) ?_
      refine jj_goto (tgt := 2259) C dL_law_1748 (by decide) ?_
      exact jj_loc [7, 2] rfl (jj_drop [] rfl (by decide) (jj_widen (k := 600006) (n := 7302072) (jj_le rfl) (jj_le rfl) hend))
  · refine jj_apd rfl ?_
    refine jj_istore C dL_law_1706 (by decide) rfl ?_
    refine jj_aload_n C dL_law_1708 rfl ?_
    refine jj_aload_n C dL_law_1709 rfl ?_
    refine jj_iload C dL_law_1710 rfl ?_
    refine jj_iconst (v := 1) C dL_law_1712 (by decide) ?_
    refine jj_iadd (v := 1) C dL_law_1713 (by decide) ?_
    refine jj_xld (v := xs 1) C hX hbl hbA (vp_in_iff.mpr (by decide)) rfl dL_law_1714 ?_
    refine jq_callV (rest := []) C (ct_X11_dealsUntilDone_1 hl D cA ak q_28 q_31 q_32 q_33 q_34 q_35 q_36 q_37 q_38 q_39 q_40 q_41 q_42 (xs 1)) [14, 26] [0, 1, 2, 3, 4, 5, 6, 7, 8, 9, 10, 11, 12, 13, 15, 16, 17, 18, 19, 20, 21, 22, 23, 24, 25, 27, 28] rfl rfl (by decide) (by decide) (by decide) 0 rfl rfl rfl jw_1329 jw_1330 jw_1331 jw_224 jw_576 jn_X11_dealsUntilDone rfl (jj_le rfl) (jj_le rfl) (jj_le rfl) (jj_le rfl) (jj_le rfl) dL_law_1715 rfl (fun _ _ hX => hX.elim) (fun w1 r O_59 => ?_)
    rcases O_59 with ⟨c_60, rfl, rfl⟩ | ⟨c_61, rfl, rfl⟩
    · refine jj_apd rfl ?_
      refine jj_istore C dL_law_1718 (by decide) rfl ?_
      refine jj_aload_n C dL_law_1720 rfl ?_
      refine jq_callV (rest := []) C (ct_X11_thrown_2 hl D cA ak q_28 q_31 q_32 q_33 q_34 q_35 q_36 q_37 q_38 q_39 q_40 q_41 q_42) [28] [0, 1, 2, 3, 4, 5, 6, 7, 8, 9, 10, 11, 12, 13, 14, 15, 16, 17, 18, 19, 20, 21, 22, 23, 24, 25, 26, 27] rfl rfl (by decide) (by decide) (by decide) 0 rfl rfl rfl jw_993 jw_994 jw_995 jw_224 jw_992 jn_X11_thrown rfl (jj_le rfl) (jj_le rfl) (jj_le rfl) (jj_le rfl) (jj_le rfl) dL_law_1721 rfl (fun _ _ hX => hX.elim) (fun w1 r O_63 => ?_)
      obtain ⟨rfl, rfl⟩ := O_63
      refine jj_apd rfl ?_
      refine jj_iload C dL_law_1724 rfl ?_
      refine jj_icmp_eqT (tgt := 1731) C dL_law_1726 (by decide) (by decide) ?_
      refine jj_iload C dL_law_1731 rfl ?_
      refine jj_if_neT (tgt := 1748) C dL_law_1733 (by decide) (by decide) ?_
      refine jj_goto (tgt := 2259) C dL_law_1748 (by decide) ?_
      exact jj_loc [7, 2] rfl (jj_drop [] rfl (by decide) (jj_widen (k := 600006) (n := 7302072) (jj_le rfl) (jj_le rfl) hend))
    · refine jj_apd rfl ?_
      refine jj_istore C dL_law_1718 (by decide) rfl ?_
      refine jj_aload_n C dL_law_1720 rfl ?_
      refine jq_callV (rest := []) C (ct_X11_thrown_2 hl D cA ak q_28 q_31 q_32 q_33 q_34 q_35 q_36 q_37 q_38 q_39 q_40 q_41 q_42) [28] [0, 1, 2, 3, 4, 5, 6, 7, 8, 9, 10, 11, 12, 13, 14, 15, 16, 17, 18, 19, 20, 21, 22, 23, 24, 25, 26, 27] rfl rfl (by decide) (by decide) (by decide) 0 rfl rfl rfl jw_993 jw_994 jw_995 jw_224 jw_992 jn_X11_thrown rfl (jj_le rfl) (jj_le rfl) (jj_le rfl) (jj_le rfl) (jj_le rfl) dL_law_1721 rfl (fun _ _ hX => hX.elim) (fun w1 r O_65 => ?_)
      obtain ⟨rfl, rfl⟩ := O_65
      refine jj_apd rfl ?_
      refine jj_iload C dL_law_1724 rfl ?_
      refine jj_icmp_eqT (tgt := 1731) C dL_law_1726 (by decide) (by decide) ?_
      refine jj_iload C dL_law_1731 rfl ?_
      refine jj_if_neT (tgt := 1748) C dL_law_1733 (by decide) (by decide) ?_
      refine jj_goto (tgt := 2259) C dL_law_1748 (by decide) ?_
      exact jj_loc [7, 2] rfl (jj_drop [] rfl (by decide) (jj_widen (k := 600006) (n := 7302072) (jj_le rfl) (jj_le rfl) hend))

set_option maxHeartbeats 4000000 in
set_option maxRecDepth 100000 in
theorem law_c32 {p : Program} {l : Launch} {e : Env} {s : State} {m : MethodId} {below : List Frame} {meth : Method} {c : Code} (hl : l.stackTraces = false) {D : va_G} {cA : Nat → ClassId} {ak : (Nat → Nat) × (Nat → Nat)} {A : Nat → Prop} {b : Nat} {xs : Nat → Int32} {Q : State → Prop} (C : jj_C p l s m #[Value.ref b] meth c code 9 R_law ret D cA A ak) (hX : va_X b 6 xs s s.heap) (hbl : b < s.heap.size) (hbA : ¬ A b) (hend : jj_J p l e room_1 s m #[Value.ref b] below meth c 9 A Q (jj_X D A []) 600006 7302072 2259 [(0, .ref b), (5, .int 0)] []) (q_1 q_4 q_5 q_6 q_7 q_8 q_9 q_10 q_11 q_12 q_13 q_14 q_15 q_16 q_17 q_18 q_19 q_20 q_21 q_22 q_23 q_28 q_31 q_32 q_33 q_34 q_35 q_36 q_37 q_38 q_39 q_40 q_41 q_42 q_43 q_44 : Nat) (f_24 : Nat → Option Nat) (f_25 : Nat → Option Nat) (c_26 : f_24 0 = some q_11) (c_27 : f_25 0 = some q_17) : jj_J p l e room_1 s m #[Value.ref b] below meth c 9 A Q (jj_X D A [(q_1, .inr (11, [.ref q_4, .int 0, .int (-1), .ref q_6, .ref q_12, .ref q_18, .ref q_20, .int 0, .int 0, .ref q_21])), (q_4, .inr (10, [.ref q_5, .int 0, .int 0, .int 0, .int 0, .int 0, .int (-1)])), (q_5, .inl (cA 1, 400, .inl (fun _ => 0))), (q_6, .inr (2, [.int 1, .int 0, .int 0, .int 0, .int 100, .int 0, .int 0, .int 0, .int 0, .int 0, .ref q_7, .ref q_8, .ref q_9, .ref q_10])), (q_7, .inl (cA 2, 6, .inr (.inl (fun _ => 0)))), (q_10, .inl (cA 7, 12, .inr (.inr (.inr (.inr f_24))))), (q_11, .inr (7, [.int 0, .int 0, .int 0, .long 0, .long 0])), (q_12, .inr (2, [.int 1, .int 0, .int 0, .int 0, .int 100, .int 0, .int 0, .int 0, .int 0, .int 0, .ref q_13, .ref q_14, .ref q_15, .ref q_16])), (q_13, .inl (cA 2, 6, .inr (.inl (fun _ => 0)))), (q_16, .inl (cA 7, 12, .inr (.inr (.inr (.inr f_25))))), (q_17, .inr (7, [.int 0, .int 0, .int 0, .long 0, .long 0])), (q_18, .inr (3, [.ref q_19, .long 0, .long 0, .long 0, .long 0, .long 0])), (q_20, .inl (cA 5, 10, .inr (.inr (.inr (.inr (fun _ => none)))))), (q_21, .inr (6, [.ref q_22, .int 0, .ref q_23])), (q_22, .inl (cA 0, 1300, .inl (fun _ => 0))), (q_23, .inl (cA 0, 20, .inl (fun _ => 0))), (q_28, .inr (12, [.ref q_31, .ref q_32, .ref q_33, .ref q_34, .ref q_35, .ref q_36, .int 0, .int 0, .long 0, .long 0, .ref q_37, .ref q_38, .ref q_39, .int 0, .int 0, .int 0, .int 0, .int 0, .int (-1), .int 0, .int 0, .ref q_40, .ref q_41, .ref q_42, .int 0])), (q_32, .inl (cA 2, 334, .inr (.inl (fun _ => 0)))), (q_33, .inl (cA 2, 334, .inr (.inl (fun _ => 0)))), (q_34, .inl (cA 2, 334, .inr (.inl (fun _ => 0)))), (q_35, .inl (cA 2, 334, .inr (.inl (fun _ => 0)))), (q_36, .inl (cA 2, 3340, .inr (.inl (fun _ => 0)))), (q_37, .inl (cA 2, 12, .inr (.inl (fun _ => 0)))), (q_38, .inl (cA 3, 12, .inl (fun _ => 0))), (q_39, .inl (cA 0, 400, .inl (fun _ => 0))), (q_40, .inl (cA 2, 6, .inr (.inl (fun _ => 0)))), (q_41, .inl (cA 2, 6, .inr (.inl (fun _ => 0)))), (q_42, .inl (cA 0, 2400, .inl (fun _ => 0))), (q_31, .inl (cA 2, 334, .inr (.inl (vp_updL (vp_updL (fun _ => 0) 0 1) 4 100)))), (q_43, .inl (cA 2, 1, .inr (.inl (fun _ => 0)))), (q_44, .inl (cA 4, 1, .inr (.inr (.inr (.inl (fun _ => 0))))))]) 156 10481 1751 [(5, .int 0), (4, .ref q_44), (3, .ref q_43), (2, .ref q_28), (1, .ref q_1), (0, .ref b)] [] := by
  refine jj_aload_n C dL_law_1751 rfl ?_
  refine jj_aload_n C dL_law_1752 rfl ?_
  refine jj_iload C dL_law_1753 rfl ?_
  refine jj_iconst (v := 1) C dL_law_1755 (by decide) ?_
  refine jj_iadd (v := 1) C dL_law_1756 (by decide) ?_
  refine jj_xld (v := xs 1) C hX hbl hbA (vp_in_iff.mpr (by decide)) rfl dL_law_1757 ?_
  refine jj_aload_n C dL_law_1758 rfl ?_
  refine jq_callSW (rest := []) C (ct_L_feesIf_1 hl D cA ak q_1 q_43 q_6 q_12 q_7 q_13 q_4 q_18 q_20 q_21 q_8 q_9 q_10 q_14 q_15 q_16 (xs 1)) [0, 29, 3, 7, 4, 8] [1, 2, 5, 6, 9, 10, 11, 12, 13, 14, 15, 16, 17, 18, 19, 20, 21, 22, 23, 24, 25, 26, 27, 28, 30] rfl rfl (by decide) (by decide) (by decide) jw_1338 jw_1339 jw_985 jw_1337 jn_L_feesIf rfl (jj_le rfl) (jj_le rfl) (jj_le rfl) (jj_le rfl) (jj_le rfl) dL_law_1759 rfl (fun _ _ hX => hX.elim) (fun w1 r O_47 => ?_)
  rcases O_47 with ⟨c_48, rfl, rfl⟩ | ⟨c_49, c_50, rfl, rfl⟩ | ⟨c_51, c_52, rfl, rfl⟩
  · refine jj_apd rfl ?_
    refine jj_istore C dL_law_1762 (by decide) rfl ?_
    refine jj_aload_n C dL_law_1764 rfl ?_
    refine jj_aload_n C dL_law_1765 rfl ?_
    refine jj_iload C dL_law_1766 rfl ?_
    refine jj_iconst (v := 1) C dL_law_1768 (by decide) ?_
    refine jj_iadd (v := 1) C dL_law_1769 (by decide) ?_
    refine jj_xld (v := xs 1) C hX hbl hbA (vp_in_iff.mpr (by decide)) rfl dL_law_1770 ?_
    refine jq_callV (rest := []) C (ct_X11_feesIf_1 hl D cA ak q_28 q_31 q_33 q_32 q_34 q_35 q_36 q_37 q_38 q_39 q_40 q_41 q_42 (xs 1)) [11, 23, 13] [0, 1, 2, 3, 4, 5, 6, 7, 8, 9, 10, 12, 14, 15, 16, 17, 18, 19, 20, 21, 22, 24, 25] rfl rfl (by decide) (by decide) (by decide) 0 rfl rfl rfl jw_1341 jw_1342 jw_1343 jw_224 jw_583 jn_X11_feesIf rfl (jj_le rfl) (jj_le rfl) (jj_le rfl) (jj_le rfl) (jj_le rfl) dL_law_1771 rfl (fun _ _ hX => hX.elim) (fun w1 r O_54 => ?_)
    rcases O_54 with ⟨c_55, rfl, rfl⟩ | ⟨c_56, c_57, rfl, rfl⟩ | ⟨c_58, c_59, rfl, rfl⟩
    · refine jj_apd rfl ?_
      refine jj_lstore C dL_law_1774 (by decide) rfl ?_
      refine jj_aload_n C dL_law_1776 rfl ?_
      refine jq_callV (rest := []) C (ct_X11_thrown_2 hl D cA ak q_28 q_31 q_32 q_33 q_34 q_35 q_36 q_37 q_38 q_39 q_40 q_41 q_42) [25] [0, 1, 2, 3, 4, 5, 6, 7, 8, 9, 10, 11, 12, 13, 14, 15, 16, 17, 18, 19, 20, 21, 22, 23, 24] rfl rfl (by decide) (by decide) (by decide) 0 rfl rfl rfl jw_993 jw_994 jw_995 jw_224 jw_992 jn_X11_thrown rfl (jj_le rfl) (jj_le rfl) (jj_le rfl) (jj_le rfl) (jj_le rfl) dL_law_1777 rfl (fun _ _ hX => hX.elim) (fun w1 r O_61 => ?_)
      obtain ⟨rfl, rfl⟩ := O_61
      refine jj_apd rfl ?_
      refine jj_iload C dL_law_1780 rfl ?_
      refine jj_icmp_eqT (tgt := 1787) C dL_law_1782 (by decide) (by decide) ?_
      refine jj_iload C dL_law_1787 rfl ?_
      refine jj_if_neT (tgt := 1803) C dL_law_1789 (by decide) (by decide) ?_
      refine jj_goto (tgt := 2259) C dL_law_1803 (by decide) ?_
      exact jj_loc [7, 2] rfl (jj_drop [] rfl (by decide) (jj_widen (k := 600006) (n := 7302072) (jj_le rfl) (jj_le rfl) hend))
    · refine jj_apd rfl ?_
      refine jj_lstore C dL_law_1774 (by decide) rfl ?_
      refine jj_aload_n C dL_law_1776 rfl ?_
      refine jq_callV (rest := []) C (ct_X11_thrown_2 hl D cA ak q_28 q_31 q_32 q_33 q_34 q_35 q_36 q_37 q_38 q_39 q_40 q_41 q_42) [25] [0, 1, 2, 3, 4, 5, 6, 7, 8, 9, 10, 11, 12, 13, 14, 15, 16, 17, 18, 19, 20, 21, 22, 23, 24] rfl rfl (by decide) (by decide) (by decide) 0 rfl rfl rfl jw_993 jw_994 jw_995 jw_224 jw_992 jn_X11_thrown rfl (jj_le rfl) (jj_le rfl) (jj_le rfl) (jj_le rfl) (jj_le rfl) dL_law_1777 rfl (fun _ _ hX => hX.elim) (fun w1 r O_63 => ?_)
      obtain ⟨rfl, rfl⟩ := O_63
      refine jj_apd rfl ?_
      refine jj_iload C dL_law_1780 rfl ?_
      refine jj_icmp_eqT (tgt := 1787) C dL_law_1782 (by decide) (by decide) ?_
      refine jj_iload C dL_law_1787 rfl ?_
      refine jj_if_neT (tgt := 1803) C dL_law_1789 (by decide) (by decide) ?_
      refine jj_goto (tgt := 2259) C dL_law_1803 (by decide) ?_
      exact jj_loc [7, 2] rfl (jj_drop [] rfl (by decide) (jj_widen (k := 600006) (n := 7302072) (jj_le rfl) (jj_le rfl) hend))
    · refine jj_apd rfl ?_
      refine jj_lstore C dL_law_1774 (by decide) rfl ?_
      refine jj_aload_n C dL_law_1776 rfl ?_
      refine jq_callV (rest := []) C (ct_X11_thrown_7 hl D cA ak q_28 q_31 q_32 q_33 q_34 q_35 q_36 q_37 q_38 q_39 q_40 q_41 q_42) [23] [0, 1, 2, 3, 4, 5, 6, 7, 8, 9, 10, 11, 12, 13, 14, 15, 16, 17, 18, 19, 20, 21, 22, 24, 25] rfl rfl (by decide) (by decide) (by decide) 0 rfl rfl rfl jw_993 jw_994 jw_995 jw_224 jw_992 jn_X11_thrown rfl (jj_le rfl) (jj_le rfl) (jj_le rfl) (jj_le rfl) (jj_le rfl) dL_law_1777 rfl (fun _ _ hX => hX.elim) (fun w1 r O_65 => ?_)
      obtain ⟨rfl, rfl⟩ := O_65
      refine jj_apd rfl ?_
      refine jj_iload C dL_law_1780 rfl ?_
      refine jj_icmp_eqF (tgt := 1787) C dL_law_1782 (by decide) (by decide) ?_
      refine jj_iconst (v := 0) C dL_law_1785 (by decide) ?_
      exfalso; have z0 := jc_lt (a := (xs 1).toInt) (b := (-9000)) c_48 rfl (by decide); have z1 := jc_nltL (a := (xs 1).toInt) (b := (-9000)) c_58 (Int32.toInt_toInt64 _) (by decide); have z2 := jc_nltL (a := (9999)) (b := (xs 1).toInt) c_59 (by decide) (Int32.toInt_toInt64 _); omega
  · refine jj_apd rfl ?_
    refine jj_istore C dL_law_1762 (by decide) rfl ?_
    refine jj_aload_n C dL_law_1764 rfl ?_
    refine jj_aload_n C dL_law_1765 rfl ?_
    refine jj_iload C dL_law_1766 rfl ?_
    refine jj_iconst (v := 1) C dL_law_1768 (by decide) ?_
    refine jj_iadd (v := 1) C dL_law_1769 (by decide) ?_
    refine jj_xld (v := xs 1) C hX hbl hbA (vp_in_iff.mpr (by decide)) rfl dL_law_1770 ?_
    refine jq_callV (rest := []) C (ct_X11_feesIf_1 hl D cA ak q_28 q_31 q_33 q_32 q_34 q_35 q_36 q_37 q_38 q_39 q_40 q_41 q_42 (xs 1)) [11, 23, 13] [0, 1, 2, 3, 4, 5, 6, 7, 8, 9, 10, 12, 14, 15, 16, 17, 18, 19, 20, 21, 22, 24, 25] rfl rfl (by decide) (by decide) (by decide) 0 rfl rfl rfl jw_1341 jw_1342 jw_1343 jw_224 jw_583 jn_X11_feesIf rfl (jj_le rfl) (jj_le rfl) (jj_le rfl) (jj_le rfl) (jj_le rfl) dL_law_1771 rfl (fun _ _ hX => hX.elim) (fun w1 r O_67 => ?_)
    rcases O_67 with ⟨c_68, rfl, rfl⟩ | ⟨c_69, c_70, rfl, rfl⟩ | ⟨c_71, c_72, rfl, rfl⟩
    · refine jj_apd rfl ?_
      refine jj_lstore C dL_law_1774 (by decide) rfl ?_
      refine jj_aload_n C dL_law_1776 rfl ?_
      refine jq_callV (rest := []) C (ct_X11_thrown_2 hl D cA ak q_28 q_31 q_32 q_33 q_34 q_35 q_36 q_37 q_38 q_39 q_40 q_41 q_42) [25] [0, 1, 2, 3, 4, 5, 6, 7, 8, 9, 10, 11, 12, 13, 14, 15, 16, 17, 18, 19, 20, 21, 22, 23, 24] rfl rfl (by decide) (by decide) (by decide) 0 rfl rfl rfl jw_993 jw_994 jw_995 jw_224 jw_992 jn_X11_thrown rfl (jj_le rfl) (jj_le rfl) (jj_le rfl) (jj_le rfl) (jj_le rfl) dL_law_1777 rfl (fun _ _ hX => hX.elim) (fun w1 r O_74 => ?_)
      obtain ⟨rfl, rfl⟩ := O_74
      refine jj_apd rfl ?_
      refine jj_iload C dL_law_1780 rfl ?_
      refine jj_icmp_eqT (tgt := 1787) C dL_law_1782 (by decide) (by decide) ?_
      refine jj_iload C dL_law_1787 rfl ?_
      refine jj_if_neT (tgt := 1803) C dL_law_1789 (by decide) (by decide) ?_
      refine jj_goto (tgt := 2259) C dL_law_1803 (by decide) ?_
      exact jj_loc [7, 2] rfl (jj_drop [] rfl (by decide) (jj_widen (k := 600006) (n := 7302072) (jj_le rfl) (jj_le rfl) hend))
    · refine jj_apd rfl ?_
      refine jj_lstore C dL_law_1774 (by decide) rfl ?_
      refine jj_aload_n C dL_law_1776 rfl ?_
      refine jq_callV (rest := []) C (ct_X11_thrown_2 hl D cA ak q_28 q_31 q_32 q_33 q_34 q_35 q_36 q_37 q_38 q_39 q_40 q_41 q_42) [25] [0, 1, 2, 3, 4, 5, 6, 7, 8, 9, 10, 11, 12, 13, 14, 15, 16, 17, 18, 19, 20, 21, 22, 23, 24] rfl rfl (by decide) (by decide) (by decide) 0 rfl rfl rfl jw_993 jw_994 jw_995 jw_224 jw_992 jn_X11_thrown rfl (jj_le rfl) (jj_le rfl) (jj_le rfl) (jj_le rfl) (jj_le rfl) dL_law_1777 rfl (fun _ _ hX => hX.elim) (fun w1 r O_76 => ?_)
      obtain ⟨rfl, rfl⟩ := O_76
      refine jj_apd rfl ?_
      refine jj_iload C dL_law_1780 rfl ?_
      refine jj_icmp_eqT (tgt := 1787) C dL_law_1782 (by decide) (by decide) ?_
      refine jj_iload C dL_law_1787 rfl ?_
      refine jj_if_neT (tgt := 1803) C dL_law_1789 (by decide) (by decide) ?_
      refine jj_goto (tgt := 2259) C dL_law_1803 (by decide) ?_
      exact jj_loc [7, 2] rfl (jj_drop [] rfl (by decide) (jj_widen (k := 600006) (n := 7302072) (jj_le rfl) (jj_le rfl) hend))
    · refine jj_apd rfl ?_
      refine jj_lstore C dL_law_1774 (by decide) rfl ?_
      refine jj_aload_n C dL_law_1776 rfl ?_
      refine jq_callV (rest := []) C (ct_X11_thrown_7 hl D cA ak q_28 q_31 q_32 q_33 q_34 q_35 q_36 q_37 q_38 q_39 q_40 q_41 q_42) [23] [0, 1, 2, 3, 4, 5, 6, 7, 8, 9, 10, 11, 12, 13, 14, 15, 16, 17, 18, 19, 20, 21, 22, 24, 25] rfl rfl (by decide) (by decide) (by decide) 0 rfl rfl rfl jw_993 jw_994 jw_995 jw_224 jw_992 jn_X11_thrown rfl (jj_le rfl) (jj_le rfl) (jj_le rfl) (jj_le rfl) (jj_le rfl) dL_law_1777 rfl (fun _ _ hX => hX.elim) (fun w1 r O_78 => ?_)
      obtain ⟨rfl, rfl⟩ := O_78
      refine jj_apd rfl ?_
      refine jj_iload C dL_law_1780 rfl ?_
      refine jj_icmp_eqF (tgt := 1787) C dL_law_1782 (by decide) (by decide) ?_
      refine jj_iconst (v := 0) C dL_law_1785 (by decide) ?_
      exfalso; have z0 := jc_nlt (a := (xs 1).toInt) (b := (-9000)) c_49 rfl (by decide); have z1 := jc_nle (a := (xs 1).toInt) (b := (9999)) c_50 rfl (by decide); have z2 := jc_nltL (a := (xs 1).toInt) (b := (-9000)) c_71 (Int32.toInt_toInt64 _) (by decide); have z3 := jc_nltL (a := (9999)) (b := (xs 1).toInt) c_72 (by decide) (Int32.toInt_toInt64 _); omega
  · refine jj_apd rfl ?_
    refine jj_istore C dL_law_1762 (by decide) rfl ?_
    refine jj_aload_n C dL_law_1764 rfl ?_
    refine jj_aload_n C dL_law_1765 rfl ?_
    refine jj_iload C dL_law_1766 rfl ?_
    refine jj_iconst (v := 1) C dL_law_1768 (by decide) ?_
    refine jj_iadd (v := 1) C dL_law_1769 (by decide) ?_
    refine jj_xld (v := xs 1) C hX hbl hbA (vp_in_iff.mpr (by decide)) rfl dL_law_1770 ?_
    refine jq_callV (rest := []) C (ct_X11_feesIf_1 hl D cA ak q_28 q_31 q_33 q_32 q_34 q_35 q_36 q_37 q_38 q_39 q_40 q_41 q_42 (xs 1)) [11, 23, 13] [0, 1, 2, 3, 4, 5, 6, 7, 8, 9, 10, 12, 14, 15, 16, 17, 18, 19, 20, 21, 22, 24, 25] rfl rfl (by decide) (by decide) (by decide) 0 rfl rfl rfl jw_1341 jw_1342 jw_1343 jw_224 jw_583 jn_X11_feesIf rfl (jj_le rfl) (jj_le rfl) (jj_le rfl) (jj_le rfl) (jj_le rfl) dL_law_1771 rfl (fun _ _ hX => hX.elim) (fun w1 r O_80 => ?_)
    rcases O_80 with ⟨c_81, rfl, rfl⟩ | ⟨c_82, c_83, rfl, rfl⟩ | ⟨c_84, c_85, rfl, rfl⟩
    · refine jj_apd rfl ?_
      refine jj_lstore C dL_law_1774 (by decide) rfl ?_
      refine jj_aload_n C dL_law_1776 rfl ?_
      refine jq_callV (rest := []) C (ct_X11_thrown_2 hl D cA ak q_28 q_31 q_32 q_33 q_34 q_35 q_36 q_37 q_38 q_39 q_40 q_41 q_42) [25] [0, 1, 2, 3, 4, 5, 6, 7, 8, 9, 10, 11, 12, 13, 14, 15, 16, 17, 18, 19, 20, 21, 22, 23, 24] rfl rfl (by decide) (by decide) (by decide) 0 rfl rfl rfl jw_993 jw_994 jw_995 jw_224 jw_992 jn_X11_thrown rfl (jj_le rfl) (jj_le rfl) (jj_le rfl) (jj_le rfl) (jj_le rfl) dL_law_1777 rfl (fun _ _ hX => hX.elim) (fun w1 r O_87 => ?_)
      obtain ⟨rfl, rfl⟩ := O_87
      refine jj_apd rfl ?_
      refine jj_iload C dL_law_1780 rfl ?_
      refine jj_icmp_eqF (tgt := 1787) C dL_law_1782 (by decide) (by decide) ?_
      refine jj_iconst (v := 0) C dL_law_1785 (by decide) ?_
      exfalso; have z0 := jc_nlt (a := (xs 1).toInt) (b := (-9000)) c_51 rfl (by decide); have z1 := jc_le (a := (xs 1).toInt) (b := (9999)) c_52 rfl (by decide); have z2 := jc_ltL (a := (xs 1).toInt) (b := (-9000)) c_81 (Int32.toInt_toInt64 _) (by decide); omega
    · refine jj_apd rfl ?_
      refine jj_lstore C dL_law_1774 (by decide) rfl ?_
      refine jj_aload_n C dL_law_1776 rfl ?_
      refine jq_callV (rest := []) C (ct_X11_thrown_2 hl D cA ak q_28 q_31 q_32 q_33 q_34 q_35 q_36 q_37 q_38 q_39 q_40 q_41 q_42) [25] [0, 1, 2, 3, 4, 5, 6, 7, 8, 9, 10, 11, 12, 13, 14, 15, 16, 17, 18, 19, 20, 21, 22, 23, 24] rfl rfl (by decide) (by decide) (by decide) 0 rfl rfl rfl jw_993 jw_994 jw_995 jw_224 jw_992 jn_X11_thrown rfl (jj_le rfl) (jj_le rfl) (jj_le rfl) (jj_le rfl) (jj_le rfl) dL_law_1777 rfl (fun _ _ hX => hX.elim) (fun w1 r O_89 => ?_)
      obtain ⟨rfl, rfl⟩ := O_89
      refine jj_apd rfl ?_
      refine jj_iload C dL_law_1780 rfl ?_
      refine jj_icmp_eqF (tgt := 1787) C dL_law_1782 (by decide) (by decide) ?_
      refine jj_iconst (v := 0) C dL_law_1785 (by decide) ?_
      exfalso; have z0 := jc_nlt (a := (xs 1).toInt) (b := (-9000)) c_51 rfl (by decide); have z1 := jc_le (a := (xs 1).toInt) (b := (9999)) c_52 rfl (by decide); have z2 := jc_nltL (a := (xs 1).toInt) (b := (-9000)) c_82 (Int32.toInt_toInt64 _) (by decide); have z3 := jc_ltL (a := (9999)) (b := (xs 1).toInt) c_83 (by decide) (Int32.toInt_toInt64 _); omega
    · refine jj_apd rfl ?_
      refine jj_lstore C dL_law_1774 (by decide) rfl ?_
      refine jj_aload_n C dL_law_1776 rfl ?_
      refine jq_callV (rest := []) C (ct_X11_thrown_7 hl D cA ak q_28 q_31 q_32 q_33 q_34 q_35 q_36 q_37 q_38 q_39 q_40 q_41 q_42) [23] [0, 1, 2, 3, 4, 5, 6, 7, 8, 9, 10, 11, 12, 13, 14, 15, 16, 17, 18, 19, 20, 21, 22, 24, 25] rfl rfl (by decide) (by decide) (by decide) 0 rfl rfl rfl jw_993 jw_994 jw_995 jw_224 jw_992 jn_X11_thrown rfl (jj_le rfl) (jj_le rfl) (jj_le rfl) (jj_le rfl) (jj_le rfl) dL_law_1777 rfl (fun _ _ hX => hX.elim) (fun w1 r O_91 => ?_)
      obtain ⟨rfl, rfl⟩ := O_91
      refine jj_apd rfl ?_
      refine jj_iload C dL_law_1780 rfl ?_
      refine jj_icmp_eqT (tgt := 1787) C dL_law_1782 (by decide) (by decide) ?_
      refine jj_iload C dL_law_1787 rfl ?_
      refine jj_if_neF (tgt := 1803) C dL_law_1789 (by decide) (by decide) ?_
      refine jj_aload_n C dL_law_1792 rfl ?_
      refine jj_iconst (v := 0) C dL_law_1793 (by decide) ?_
      refine jj_lald (v := 0) C 22 rfl (vp_in_iff.mpr (by decide)) rfl dL_law_1794 ?_
      refine jj_lload C dL_law_1795 rfl ?_
      refine jj_lcmp_eqT (tgt := 1803) C dL_law_1797 dL_law_1798 (by decide) (by decide) ?_
      refine jj_goto (tgt := 2259) C dL_law_1803 (by decide) ?_
      exact jj_loc [7, 2] rfl (jj_drop [] rfl (by decide) (jj_widen (k := 600006) (n := 7302072) (jj_le rfl) (jj_le rfl) hend))

set_option maxHeartbeats 4000000 in
set_option maxRecDepth 100000 in
theorem law_c33 {p : Program} {l : Launch} {e : Env} {s : State} {m : MethodId} {below : List Frame} {meth : Method} {c : Code} (hl : l.stackTraces = false) {D : va_G} {cA : Nat → ClassId} {ak : (Nat → Nat) × (Nat → Nat)} {A : Nat → Prop} {b : Nat} {xs : Nat → Int32} {Q : State → Prop} (C : jj_C p l s m #[Value.ref b] meth c code 9 R_law ret D cA A ak) (hX : va_X b 6 xs s s.heap) (hbl : b < s.heap.size) (hbA : ¬ A b) (hend : jj_J p l e room_1 s m #[Value.ref b] below meth c 9 A Q (jj_X D A []) 600006 7302072 2259 [(0, .ref b), (5, .int 0)] []) (q_1 q_4 q_5 q_6 q_7 q_8 q_9 q_10 q_11 q_12 q_13 q_14 q_15 q_16 q_17 q_18 q_19 q_20 q_21 q_22 q_23 q_28 q_31 q_32 q_33 q_34 q_35 q_36 q_37 q_38 q_39 q_40 q_41 q_42 q_43 q_44 : Nat) (f_24 : Nat → Option Nat) (f_25 : Nat → Option Nat) (c_26 : f_24 0 = some q_11) (c_27 : f_25 0 = some q_17) : jj_J p l e room_1 s m #[Value.ref b] below meth c 9 A Q (jj_X D A [(q_1, .inr (11, [.ref q_4, .int 0, .int (-1), .ref q_6, .ref q_12, .ref q_18, .ref q_20, .int 0, .int 0, .ref q_21])), (q_4, .inr (10, [.ref q_5, .int 0, .int 0, .int 0, .int 0, .int 0, .int (-1)])), (q_5, .inl (cA 1, 400, .inl (fun _ => 0))), (q_6, .inr (2, [.int 1, .int 0, .int 0, .int 0, .int 100, .int 0, .int 0, .int 0, .int 0, .int 0, .ref q_7, .ref q_8, .ref q_9, .ref q_10])), (q_7, .inl (cA 2, 6, .inr (.inl (fun _ => 0)))), (q_10, .inl (cA 7, 12, .inr (.inr (.inr (.inr f_24))))), (q_11, .inr (7, [.int 0, .int 0, .int 0, .long 0, .long 0])), (q_12, .inr (2, [.int 1, .int 0, .int 0, .int 0, .int 100, .int 0, .int 0, .int 0, .int 0, .int 0, .ref q_13, .ref q_14, .ref q_15, .ref q_16])), (q_13, .inl (cA 2, 6, .inr (.inl (fun _ => 0)))), (q_16, .inl (cA 7, 12, .inr (.inr (.inr (.inr f_25))))), (q_17, .inr (7, [.int 0, .int 0, .int 0, .long 0, .long 0])), (q_18, .inr (3, [.ref q_19, .long 0, .long 0, .long 0, .long 0, .long 0])), (q_20, .inl (cA 5, 10, .inr (.inr (.inr (.inr (fun _ => none)))))), (q_21, .inr (6, [.ref q_22, .int 0, .ref q_23])), (q_22, .inl (cA 0, 1300, .inl (fun _ => 0))), (q_23, .inl (cA 0, 20, .inl (fun _ => 0))), (q_28, .inr (12, [.ref q_31, .ref q_32, .ref q_33, .ref q_34, .ref q_35, .ref q_36, .int 0, .int 0, .long 0, .long 0, .ref q_37, .ref q_38, .ref q_39, .int 0, .int 0, .int 0, .int 0, .int 0, .int (-1), .int 0, .int 0, .ref q_40, .ref q_41, .ref q_42, .int 0])), (q_32, .inl (cA 2, 334, .inr (.inl (fun _ => 0)))), (q_33, .inl (cA 2, 334, .inr (.inl (fun _ => 0)))), (q_34, .inl (cA 2, 334, .inr (.inl (fun _ => 0)))), (q_35, .inl (cA 2, 334, .inr (.inl (fun _ => 0)))), (q_36, .inl (cA 2, 3340, .inr (.inl (fun _ => 0)))), (q_37, .inl (cA 2, 12, .inr (.inl (fun _ => 0)))), (q_38, .inl (cA 3, 12, .inl (fun _ => 0))), (q_39, .inl (cA 0, 400, .inl (fun _ => 0))), (q_40, .inl (cA 2, 6, .inr (.inl (fun _ => 0)))), (q_41, .inl (cA 2, 6, .inr (.inl (fun _ => 0)))), (q_42, .inl (cA 0, 2400, .inl (fun _ => 0))), (q_31, .inl (cA 2, 334, .inr (.inl (vp_updL (vp_updL (fun _ => 0) 0 1) 4 100)))), (q_43, .inl (cA 2, 1, .inr (.inl (fun _ => 0)))), (q_44, .inl (cA 4, 1, .inr (.inr (.inr (.inl (fun _ => 0))))))]) 156 10481 1806 [(5, .int 0), (4, .ref q_44), (3, .ref q_43), (2, .ref q_28), (1, .ref q_1), (0, .ref b)] [] := by
  refine jj_aload_n C dL_law_1806 rfl ?_
  refine jj_aload_n C dL_law_1807 rfl ?_
  refine jj_iload C dL_law_1808 rfl ?_
  refine jj_iconst (v := 1) C dL_law_1810 (by decide) ?_
  refine jj_iadd (v := 1) C dL_law_1811 (by decide) ?_
  refine jj_xld (v := xs 1) C hX hbl hbA (vp_in_iff.mpr (by decide)) rfl dL_law_1812 ?_
  refine jj_aload_n C dL_law_1813 rfl ?_
  refine jq_callSW (rest := []) C (ct_L_breakEven_1 hl D cA ak q_1 q_6 q_43 q_4 q_12 q_18 q_20 q_21 q_7 q_8 q_9 q_10 (xs 1)) [0, 3] [1, 2, 4, 5, 6, 7, 8, 9, 10, 11, 12, 13, 14, 15, 16, 17, 18, 19, 20, 21, 22, 23, 24, 25, 26, 27, 28, 29, 30] rfl rfl (by decide) (by decide) (by decide) jw_1350 jw_1351 jw_985 jw_1349 jn_L_breakEven rfl (jj_le rfl) (jj_le rfl) (jj_le rfl) (jj_le rfl) (jj_le rfl) dL_law_1814 rfl (fun _ _ hX => hX.elim) (fun w1 r O_47 => ?_)
  obtain ⟨rfl, rfl⟩ := O_47
  refine jj_apd rfl ?_
  refine jj_istore C dL_law_1817 (by decide) rfl ?_
  refine jj_aload_n C dL_law_1819 rfl ?_
  refine jj_aload_n C dL_law_1820 rfl ?_
  refine jj_iload C dL_law_1821 rfl ?_
  refine jj_iconst (v := 1) C dL_law_1823 (by decide) ?_
  refine jj_iadd (v := 1) C dL_law_1824 (by decide) ?_
  refine jj_xld (v := xs 1) C hX hbl hbA (vp_in_iff.mpr (by decide)) rfl dL_law_1825 ?_
  refine jq_callV (rest := []) C (ct_X11_breakEven_1 hl D cA ak q_28 q_31 q_32 q_33 q_34 q_35 q_36 q_37 q_38 q_39 q_40 q_41 q_42 (xs 1)) [14, 26] [0, 1, 2, 3, 4, 5, 6, 7, 8, 9, 10, 11, 12, 13, 15, 16, 17, 18, 19, 20, 21, 22, 23, 24, 25, 27, 28] rfl rfl (by decide) (by decide) (by decide) 0 rfl rfl rfl jw_1353 jw_1354 jw_1355 jw_224 jw_585 jn_X11_breakEven rfl (jj_le rfl) (jj_le rfl) (jj_le rfl) (jj_le rfl) (jj_le rfl) dL_law_1826 rfl (fun _ _ hX => hX.elim) (fun w1 r O_49 => ?_)
  obtain ⟨rfl, rfl⟩ := O_49
  refine jj_apd rfl ?_
  refine jj_istore C dL_law_1829 (by decide) rfl ?_
  refine jj_aload_n C dL_law_1831 rfl ?_
  refine jq_callV (rest := []) C (ct_X11_thrown_2 hl D cA ak q_28 q_31 q_32 q_33 q_34 q_35 q_36 q_37 q_38 q_39 q_40 q_41 q_42) [28] [0, 1, 2, 3, 4, 5, 6, 7, 8, 9, 10, 11, 12, 13, 14, 15, 16, 17, 18, 19, 20, 21, 22, 23, 24, 25, 26, 27] rfl rfl (by decide) (by decide) (by decide) 0 rfl rfl rfl jw_993 jw_994 jw_995 jw_224 jw_992 jn_X11_thrown rfl (jj_le rfl) (jj_le rfl) (jj_le rfl) (jj_le rfl) (jj_le rfl) dL_law_1832 rfl (fun _ _ hX => hX.elim) (fun w1 r O_51 => ?_)
  obtain ⟨rfl, rfl⟩ := O_51
  refine jj_apd rfl ?_
  refine jj_iload C dL_law_1835 rfl ?_
  refine jj_icmp_eqT (tgt := 1842) C dL_law_1837 (by decide) (by decide) ?_
  refine jj_iload C dL_law_1842 rfl ?_
  refine jj_if_neT (tgt := 1859) C dL_law_1844 (by decide) (by decide) ?_
  refine jj_goto (tgt := 2259) C dL_law_1859 (by decide) ?_
  exact jj_loc [7, 2] rfl (jj_drop [] rfl (by decide) (jj_widen (k := 600006) (n := 7302072) (jj_le rfl) (jj_le rfl) hend))

set_option maxHeartbeats 4000000 in
set_option maxRecDepth 100000 in
theorem law_c34 {p : Program} {l : Launch} {e : Env} {s : State} {m : MethodId} {below : List Frame} {meth : Method} {c : Code} (hl : l.stackTraces = false) {D : va_G} {cA : Nat → ClassId} {ak : (Nat → Nat) × (Nat → Nat)} {A : Nat → Prop} {b : Nat} {xs : Nat → Int32} {Q : State → Prop} (C : jj_C p l s m #[Value.ref b] meth c code 9 R_law ret D cA A ak) (hX : va_X b 6 xs s s.heap) (hbl : b < s.heap.size) (hbA : ¬ A b) (hend : jj_J p l e room_1 s m #[Value.ref b] below meth c 9 A Q (jj_X D A []) 600006 7302072 2259 [(0, .ref b), (5, .int 0)] []) (q_1 q_4 q_5 q_6 q_7 q_8 q_9 q_10 q_11 q_12 q_13 q_14 q_15 q_16 q_17 q_18 q_19 q_20 q_21 q_22 q_23 q_28 q_31 q_32 q_33 q_34 q_35 q_36 q_37 q_38 q_39 q_40 q_41 q_42 q_43 q_44 : Nat) (f_24 : Nat → Option Nat) (f_25 : Nat → Option Nat) (c_26 : f_24 0 = some q_11) (c_27 : f_25 0 = some q_17) : jj_J p l e room_1 s m #[Value.ref b] below meth c 9 A Q (jj_X D A [(q_1, .inr (11, [.ref q_4, .int 0, .int (-1), .ref q_6, .ref q_12, .ref q_18, .ref q_20, .int 0, .int 0, .ref q_21])), (q_4, .inr (10, [.ref q_5, .int 0, .int 0, .int 0, .int 0, .int 0, .int (-1)])), (q_5, .inl (cA 1, 400, .inl (fun _ => 0))), (q_6, .inr (2, [.int 1, .int 0, .int 0, .int 0, .int 100, .int 0, .int 0, .int 0, .int 0, .int 0, .ref q_7, .ref q_8, .ref q_9, .ref q_10])), (q_7, .inl (cA 2, 6, .inr (.inl (fun _ => 0)))), (q_10, .inl (cA 7, 12, .inr (.inr (.inr (.inr f_24))))), (q_11, .inr (7, [.int 0, .int 0, .int 0, .long 0, .long 0])), (q_12, .inr (2, [.int 1, .int 0, .int 0, .int 0, .int 100, .int 0, .int 0, .int 0, .int 0, .int 0, .ref q_13, .ref q_14, .ref q_15, .ref q_16])), (q_13, .inl (cA 2, 6, .inr (.inl (fun _ => 0)))), (q_16, .inl (cA 7, 12, .inr (.inr (.inr (.inr f_25))))), (q_17, .inr (7, [.int 0, .int 0, .int 0, .long 0, .long 0])), (q_18, .inr (3, [.ref q_19, .long 0, .long 0, .long 0, .long 0, .long 0])), (q_20, .inl (cA 5, 10, .inr (.inr (.inr (.inr (fun _ => none)))))), (q_21, .inr (6, [.ref q_22, .int 0, .ref q_23])), (q_22, .inl (cA 0, 1300, .inl (fun _ => 0))), (q_23, .inl (cA 0, 20, .inl (fun _ => 0))), (q_28, .inr (12, [.ref q_31, .ref q_32, .ref q_33, .ref q_34, .ref q_35, .ref q_36, .int 0, .int 0, .long 0, .long 0, .ref q_37, .ref q_38, .ref q_39, .int 0, .int 0, .int 0, .int 0, .int 0, .int (-1), .int 0, .int 0, .ref q_40, .ref q_41, .ref q_42, .int 0])), (q_32, .inl (cA 2, 334, .inr (.inl (fun _ => 0)))), (q_33, .inl (cA 2, 334, .inr (.inl (fun _ => 0)))), (q_34, .inl (cA 2, 334, .inr (.inl (fun _ => 0)))), (q_35, .inl (cA 2, 334, .inr (.inl (fun _ => 0)))), (q_36, .inl (cA 2, 3340, .inr (.inl (fun _ => 0)))), (q_37, .inl (cA 2, 12, .inr (.inl (fun _ => 0)))), (q_38, .inl (cA 3, 12, .inl (fun _ => 0))), (q_39, .inl (cA 0, 400, .inl (fun _ => 0))), (q_40, .inl (cA 2, 6, .inr (.inl (fun _ => 0)))), (q_41, .inl (cA 2, 6, .inr (.inl (fun _ => 0)))), (q_42, .inl (cA 0, 2400, .inl (fun _ => 0))), (q_31, .inl (cA 2, 334, .inr (.inl (vp_updL (vp_updL (fun _ => 0) 0 1) 4 100)))), (q_43, .inl (cA 2, 1, .inr (.inl (fun _ => 0)))), (q_44, .inl (cA 4, 1, .inr (.inr (.inr (.inl (fun _ => 0))))))]) 156 10481 1862 [(5, .int 0), (4, .ref q_44), (3, .ref q_43), (2, .ref q_28), (1, .ref q_1), (0, .ref b)] [] := by
  refine jj_aload_n C dL_law_1862 rfl ?_
  refine jj_aload_n C dL_law_1863 rfl ?_
  refine jj_iload C dL_law_1864 rfl ?_
  refine jj_iconst (v := 1) C dL_law_1866 (by decide) ?_
  refine jj_iadd (v := 1) C dL_law_1867 (by decide) ?_
  refine jj_xld (v := xs 1) C hX hbl hbA (vp_in_iff.mpr (by decide)) rfl dL_law_1868 ?_
  refine jj_aload_n C dL_law_1869 rfl ?_
  refine jj_iload C dL_law_1870 rfl ?_
  refine jj_iconst (v := 2) C dL_law_1872 (by decide) ?_
  refine jj_iadd (v := 2) C dL_law_1873 (by decide) ?_
  refine jj_xld (v := xs 2) C hX hbl hbA (vp_in_iff.mpr (by decide)) rfl dL_law_1874 ?_
  refine jj_i2l C dL_law_1875 rfl ?_
  refine jj_bipush (v := 32) C dL_law_1876 (by decide) ?_
  refine jj_lshl C dL_law_1878 rfl ?_
  refine jj_aload_n C dL_law_1879 rfl ?_
  refine jj_iload C dL_law_1880 rfl ?_
  refine jj_iconst (v := 3) C dL_law_1882 (by decide) ?_
  refine jj_iadd (v := 3) C dL_law_1883 (by decide) ?_
  refine jj_xld (v := xs 3) C hX hbl hbA (vp_in_iff.mpr (by decide)) rfl dL_law_1884 ?_
  refine jj_i2l C dL_law_1885 rfl ?_
  refine jj_ldc2 (v := 4294967295) C dL_law_1886 jw_1357 ?_
  refine jj_land C dL_law_1889 rfl ?_
  refine jj_lor C dL_law_1890 rfl ?_
  refine jj_aload_n C dL_law_1891 rfl ?_
  refine jq_callSW (rest := []) C (ct_L_rateFor_1 hl D cA ak q_1 q_43 q_6 q_18 q_4 q_12 q_20 q_21 q_7 q_8 q_9 q_10 q_19 (xs 1) ((((xs 2).toInt64) <<< ((32 : Int32).toInt64 &&& 63)) ||| (((xs 3).toInt64) &&& 4294967295))) [0, 29, 3, 11] [1, 2, 4, 5, 6, 7, 8, 9, 10, 12, 13, 14, 15, 16, 17, 18, 19, 20, 21, 22, 23, 24, 25, 26, 27, 28, 30] rfl rfl (by decide) (by decide) (by decide) jw_1364 jw_1365 jw_985 jw_1363 jn_L_rateFor rfl (jj_le rfl) (jj_le rfl) (jj_le rfl) (jj_le rfl) (jj_le rfl) dL_law_1892 rfl (fun _ _ hX => hX.elim) (fun w1 r O_47 => ?_)
  rcases O_47 with ⟨c_48, rfl, rfl⟩ | ⟨c_49, c_50, rfl, rfl⟩ | ⟨c_51, c_52, c_53, rfl, rfl⟩ | ⟨c_54, c_55, c_56, rfl, rfl⟩
  · refine jj_apd rfl ?_
    refine jj_istore C dL_law_1895 (by decide) rfl ?_
    refine jj_aload_n C dL_law_1897 rfl ?_
    refine jj_aload_n C dL_law_1898 rfl ?_
    refine jj_iload C dL_law_1899 rfl ?_
    refine jj_iconst (v := 1) C dL_law_1901 (by decide) ?_
    refine jj_iadd (v := 1) C dL_law_1902 (by decide) ?_
    refine jj_xld (v := xs 1) C hX hbl hbA (vp_in_iff.mpr (by decide)) rfl dL_law_1903 ?_
    refine jj_aload_n C dL_law_1904 rfl ?_
    refine jj_iload C dL_law_1905 rfl ?_
    refine jj_iconst (v := 2) C dL_law_1907 (by decide) ?_
    refine jj_iadd (v := 2) C dL_law_1908 (by decide) ?_
    refine jj_xld (v := xs 2) C hX hbl hbA (vp_in_iff.mpr (by decide)) rfl dL_law_1909 ?_
    refine jj_i2l C dL_law_1910 rfl ?_
    refine jj_bipush (v := 32) C dL_law_1911 (by decide) ?_
    refine jj_lshl C dL_law_1913 rfl ?_
    refine jj_aload_n C dL_law_1914 rfl ?_
    refine jj_iload C dL_law_1915 rfl ?_
    refine jj_iconst (v := 3) C dL_law_1917 (by decide) ?_
    refine jj_iadd (v := 3) C dL_law_1918 (by decide) ?_
    refine jj_xld (v := xs 3) C hX hbl hbA (vp_in_iff.mpr (by decide)) rfl dL_law_1919 ?_
    refine jj_i2l C dL_law_1920 rfl ?_
    refine jj_ldc2 (v := 4294967295) C dL_law_1921 jw_1357 ?_
    refine jj_land C dL_law_1924 rfl ?_
    refine jj_lor C dL_law_1925 rfl ?_
    refine jq_callV (rest := []) C (ct_X11_rateFor_1 hl D cA ak q_28 q_31 q_32 q_33 q_34 q_35 q_36 q_37 q_38 q_39 q_40 q_41 q_42 (xs 1) ((((xs 2).toInt64) <<< ((32 : Int32).toInt64 &&& 63)) ||| (((xs 3).toInt64) &&& 4294967295))) [13, 25] [0, 1, 2, 3, 4, 5, 6, 7, 8, 9, 10, 11, 12, 14, 15, 16, 17, 18, 19, 20, 21, 22, 23, 24, 26, 27] rfl rfl (by decide) (by decide) (by decide) 0 rfl rfl rfl jw_1367 jw_1368 jw_1369 jw_224 jw_608 jn_X11_rateFor rfl (jj_le rfl) (jj_le rfl) (jj_le rfl) (jj_le rfl) (jj_le rfl) dL_law_1926 rfl (fun _ _ hX => hX.elim) (fun w1 r O_58 => ?_)
    rcases O_58 with ⟨c_59, rfl, rfl⟩ | ⟨c_60, c_61, rfl, rfl⟩ | ⟨c_62, c_63, c_64, rfl, rfl⟩ | ⟨c_65, c_66, c_67, rfl, rfl⟩
    · refine jj_apd rfl ?_
      refine jj_istore C dL_law_1929 (by decide) rfl ?_
      refine jj_aload_n C dL_law_1931 rfl ?_
      refine jq_callV (rest := []) C (ct_X11_thrown_2 hl D cA ak q_28 q_31 q_32 q_33 q_34 q_35 q_36 q_37 q_38 q_39 q_40 q_41 q_42) [27] [0, 1, 2, 3, 4, 5, 6, 7, 8, 9, 10, 11, 12, 13, 14, 15, 16, 17, 18, 19, 20, 21, 22, 23, 24, 25, 26] rfl rfl (by decide) (by decide) (by decide) 0 rfl rfl rfl jw_993 jw_994 jw_995 jw_224 jw_992 jn_X11_thrown rfl (jj_le rfl) (jj_le rfl) (jj_le rfl) (jj_le rfl) (jj_le rfl) dL_law_1932 rfl (fun _ _ hX => hX.elim) (fun w1 r O_69 => ?_)
      obtain ⟨rfl, rfl⟩ := O_69
      refine jj_apd rfl ?_
      refine jj_iload C dL_law_1935 rfl ?_
      refine jj_icmp_eqT (tgt := 1942) C dL_law_1937 (by decide) (by decide) ?_
      refine jj_iload C dL_law_1942 rfl ?_
      refine jj_if_neT (tgt := 1959) C dL_law_1944 (by decide) (by decide) ?_
      refine jj_goto (tgt := 2259) C dL_law_1959 (by decide) ?_
      exact jj_loc [7, 2] rfl (jj_drop [] rfl (by decide) (jj_widen (k := 600006) (n := 7302072) (jj_le rfl) (jj_le rfl) hend))
    · refine jj_apd rfl ?_
      refine jj_istore C dL_law_1929 (by decide) rfl ?_
      refine jj_aload_n C dL_law_1931 rfl ?_
      refine jq_callV (rest := []) C (ct_X11_thrown_2 hl D cA ak q_28 q_31 q_32 q_33 q_34 q_35 q_36 q_37 q_38 q_39 q_40 q_41 q_42) [27] [0, 1, 2, 3, 4, 5, 6, 7, 8, 9, 10, 11, 12, 13, 14, 15, 16, 17, 18, 19, 20, 21, 22, 23, 24, 25, 26] rfl rfl (by decide) (by decide) (by decide) 0 rfl rfl rfl jw_993 jw_994 jw_995 jw_224 jw_992 jn_X11_thrown rfl (jj_le rfl) (jj_le rfl) (jj_le rfl) (jj_le rfl) (jj_le rfl) dL_law_1932 rfl (fun _ _ hX => hX.elim) (fun w1 r O_71 => ?_)
      obtain ⟨rfl, rfl⟩ := O_71
      refine jj_apd rfl ?_
      refine jj_iload C dL_law_1935 rfl ?_
      refine jj_icmp_eqT (tgt := 1942) C dL_law_1937 (by decide) (by decide) ?_
      refine jj_iload C dL_law_1942 rfl ?_
      refine jj_if_neT (tgt := 1959) C dL_law_1944 (by decide) (by decide) ?_
      refine jj_goto (tgt := 2259) C dL_law_1959 (by decide) ?_
      exact jj_loc [7, 2] rfl (jj_drop [] rfl (by decide) (jj_widen (k := 600006) (n := 7302072) (jj_le rfl) (jj_le rfl) hend))
    · refine jj_apd rfl ?_
      refine jj_istore C dL_law_1929 (by decide) rfl ?_
      refine jj_aload_n C dL_law_1931 rfl ?_
      refine jq_callV (rest := []) C (ct_X11_thrown_4 hl D cA ak q_28 q_31 q_32 q_33 q_34 q_35 q_36 q_37 q_38 q_39 q_40 q_41 q_42) [27] [0, 1, 2, 3, 4, 5, 6, 7, 8, 9, 10, 11, 12, 13, 14, 15, 16, 17, 18, 19, 20, 21, 22, 23, 24, 25, 26] rfl rfl (by decide) (by decide) (by decide) 0 rfl rfl rfl jw_993 jw_994 jw_995 jw_224 jw_992 jn_X11_thrown rfl (jj_le rfl) (jj_le rfl) (jj_le rfl) (jj_le rfl) (jj_le rfl) dL_law_1932 rfl (fun _ _ hX => hX.elim) (fun w1 r O_73 => ?_)
      obtain ⟨rfl, rfl⟩ := O_73
      refine jj_apd rfl ?_
      refine jj_iload C dL_law_1935 rfl ?_
      refine jj_icmp_eqF (tgt := 1942) C dL_law_1937 (by decide) (by decide) ?_
      refine jj_iconst (v := 0) C dL_law_1940 (by decide) ?_
      exfalso; have z0 := jc_lt (a := (xs 1).toInt) (b := (0)) c_48 rfl (by decide); have z1 := jc_nltL (a := (xs 1).toInt) (b := (0)) c_62 (Int32.toInt_toInt64 _) (by decide); have z2 := jc_nltL (a := (0)) (b := (xs 1).toInt) c_63 (by decide) (Int32.toInt_toInt64 _); have z3 := jc_ltL (a := (0)) (b := ((((xs 2).toInt64) <<< ((32 : Int32).toInt64 &&& 63)) ||| (((xs 3).toInt64) &&& 4294967295)).toInt) c_64 (by decide) rfl; omega
    · refine jj_apd rfl ?_
      refine jj_istore C dL_law_1929 (by decide) rfl ?_
      refine jj_aload_n C dL_law_1931 rfl ?_
      refine jq_callV (rest := []) C (ct_X11_thrown_7 hl D cA ak q_28 q_31 q_32 q_33 q_34 q_35 q_36 q_37 q_38 q_39 q_40 q_41 q_42) [26] [0, 1, 2, 3, 4, 5, 6, 7, 8, 9, 10, 11, 12, 13, 14, 15, 16, 17, 18, 19, 20, 21, 22, 23, 24, 25, 27] rfl rfl (by decide) (by decide) (by decide) 0 rfl rfl rfl jw_993 jw_994 jw_995 jw_224 jw_992 jn_X11_thrown rfl (jj_le rfl) (jj_le rfl) (jj_le rfl) (jj_le rfl) (jj_le rfl) dL_law_1932 rfl (fun _ _ hX => hX.elim) (fun w1 r O_75 => ?_)
      obtain ⟨rfl, rfl⟩ := O_75
      refine jj_apd rfl ?_
      refine jj_iload C dL_law_1935 rfl ?_
      refine jj_icmp_eqF (tgt := 1942) C dL_law_1937 (by decide) (by decide) ?_
      refine jj_iconst (v := 0) C dL_law_1940 (by decide) ?_
      exfalso; have z0 := jc_lt (a := (xs 1).toInt) (b := (0)) c_48 rfl (by decide); have z1 := jc_nltL (a := (xs 1).toInt) (b := (0)) c_65 (Int32.toInt_toInt64 _) (by decide); have z2 := jc_nltL (a := (0)) (b := (xs 1).toInt) c_66 (by decide) (Int32.toInt_toInt64 _); have z3 := jc_nltL (a := (0)) (b := ((((xs 2).toInt64) <<< ((32 : Int32).toInt64 &&& 63)) ||| (((xs 3).toInt64) &&& 4294967295)).toInt) c_67 (by decide) rfl; omega
  · refine jj_apd rfl ?_
    refine jj_istore C dL_law_1895 (by decide) rfl ?_
    refine jj_aload_n C dL_law_1897 rfl ?_
    refine jj_aload_n C dL_law_1898 rfl ?_
    refine jj_iload C dL_law_1899 rfl ?_
    refine jj_iconst (v := 1) C dL_law_1901 (by decide) ?_
    refine jj_iadd (v := 1) C dL_law_1902 (by decide) ?_
    refine jj_xld (v := xs 1) C hX hbl hbA (vp_in_iff.mpr (by decide)) rfl dL_law_1903 ?_
    refine jj_aload_n C dL_law_1904 rfl ?_
    refine jj_iload C dL_law_1905 rfl ?_
    refine jj_iconst (v := 2) C dL_law_1907 (by decide) ?_
    refine jj_iadd (v := 2) C dL_law_1908 (by decide) ?_
    refine jj_xld (v := xs 2) C hX hbl hbA (vp_in_iff.mpr (by decide)) rfl dL_law_1909 ?_
    refine jj_i2l C dL_law_1910 rfl ?_
    refine jj_bipush (v := 32) C dL_law_1911 (by decide) ?_
    refine jj_lshl C dL_law_1913 rfl ?_
    refine jj_aload_n C dL_law_1914 rfl ?_
    refine jj_iload C dL_law_1915 rfl ?_
    refine jj_iconst (v := 3) C dL_law_1917 (by decide) ?_
    refine jj_iadd (v := 3) C dL_law_1918 (by decide) ?_
    refine jj_xld (v := xs 3) C hX hbl hbA (vp_in_iff.mpr (by decide)) rfl dL_law_1919 ?_
    refine jj_i2l C dL_law_1920 rfl ?_
    refine jj_ldc2 (v := 4294967295) C dL_law_1921 jw_1357 ?_
    refine jj_land C dL_law_1924 rfl ?_
    refine jj_lor C dL_law_1925 rfl ?_
    refine jq_callV (rest := []) C (ct_X11_rateFor_1 hl D cA ak q_28 q_31 q_32 q_33 q_34 q_35 q_36 q_37 q_38 q_39 q_40 q_41 q_42 (xs 1) ((((xs 2).toInt64) <<< ((32 : Int32).toInt64 &&& 63)) ||| (((xs 3).toInt64) &&& 4294967295))) [13, 25] [0, 1, 2, 3, 4, 5, 6, 7, 8, 9, 10, 11, 12, 14, 15, 16, 17, 18, 19, 20, 21, 22, 23, 24, 26, 27] rfl rfl (by decide) (by decide) (by decide) 0 rfl rfl rfl jw_1367 jw_1368 jw_1369 jw_224 jw_608 jn_X11_rateFor rfl (jj_le rfl) (jj_le rfl) (jj_le rfl) (jj_le rfl) (jj_le rfl) dL_law_1926 rfl (fun _ _ hX => hX.elim) (fun w1 r O_77 => ?_)
    rcases O_77 with ⟨c_78, rfl, rfl⟩ | ⟨c_79, c_80, rfl, rfl⟩ | ⟨c_81, c_82, c_83, rfl, rfl⟩ | ⟨c_84, c_85, c_86, rfl, rfl⟩
    · refine jj_apd rfl ?_
      refine jj_istore C dL_law_1929 (by decide) rfl ?_
      refine jj_aload_n C dL_law_1931 rfl ?_
      refine jq_callV (rest := []) C (ct_X11_thrown_2 hl D cA ak q_28 q_31 q_32 q_33 q_34 q_35 q_36 q_37 q_38 q_39 q_40 q_41 q_42) [27] [0, 1, 2, 3, 4, 5, 6, 7, 8, 9, 10, 11, 12, 13, 14, 15, 16, 17, 18, 19, 20, 21, 22, 23, 24, 25, 26] rfl rfl (by decide) (by decide) (by decide) 0 rfl rfl rfl jw_993 jw_994 jw_995 jw_224 jw_992 jn_X11_thrown rfl (jj_le rfl) (jj_le rfl) (jj_le rfl) (jj_le rfl) (jj_le rfl) dL_law_1932 rfl (fun _ _ hX => hX.elim) (fun w1 r O_88 => ?_)
      obtain ⟨rfl, rfl⟩ := O_88
      refine jj_apd rfl ?_
      refine jj_iload C dL_law_1935 rfl ?_
      refine jj_icmp_eqT (tgt := 1942) C dL_law_1937 (by decide) (by decide) ?_
      refine jj_iload C dL_law_1942 rfl ?_
      refine jj_if_neT (tgt := 1959) C dL_law_1944 (by decide) (by decide) ?_
      refine jj_goto (tgt := 2259) C dL_law_1959 (by decide) ?_
      exact jj_loc [7, 2] rfl (jj_drop [] rfl (by decide) (jj_widen (k := 600006) (n := 7302072) (jj_le rfl) (jj_le rfl) hend))
    · refine jj_apd rfl ?_
      refine jj_istore C dL_law_1929 (by decide) rfl ?_
      refine jj_aload_n C dL_law_1931 rfl ?_
      refine jq_callV (rest := []) C (ct_X11_thrown_2 hl D cA ak q_28 q_31 q_32 q_33 q_34 q_35 q_36 q_37 q_38 q_39 q_40 q_41 q_42) [27] [0, 1, 2, 3, 4, 5, 6, 7, 8, 9, 10, 11, 12, 13, 14, 15, 16, 17, 18, 19, 20, 21, 22, 23, 24, 25, 26] rfl rfl (by decide) (by decide) (by decide) 0 rfl rfl rfl jw_993 jw_994 jw_995 jw_224 jw_992 jn_X11_thrown rfl (jj_le rfl) (jj_le rfl) (jj_le rfl) (jj_le rfl) (jj_le rfl) dL_law_1932 rfl (fun _ _ hX => hX.elim) (fun w1 r O_90 => ?_)
      obtain ⟨rfl, rfl⟩ := O_90
      refine jj_apd rfl ?_
      refine jj_iload C dL_law_1935 rfl ?_
      refine jj_icmp_eqT (tgt := 1942) C dL_law_1937 (by decide) (by decide) ?_
      refine jj_iload C dL_law_1942 rfl ?_
      refine jj_if_neT (tgt := 1959) C dL_law_1944 (by decide) (by decide) ?_
      refine jj_goto (tgt := 2259) C dL_law_1959 (by decide) ?_
      exact jj_loc [7, 2] rfl (jj_drop [] rfl (by decide) (jj_widen (k := 600006) (n := 7302072) (jj_le rfl) (jj_le rfl) hend))
    · refine jj_apd rfl ?_
      refine jj_istore C dL_law_1929 (by decide) rfl ?_
      refine jj_aload_n C dL_law_1931 rfl ?_
      refine jq_callV (rest := []) C (ct_X11_thrown_4 hl D cA ak q_28 q_31 q_32 q_33 q_34 q_35 q_36 q_37 q_38 q_39 q_40 q_41 q_42) [27] [0, 1, 2, 3, 4, 5, 6, 7, 8, 9, 10, 11, 12, 13, 14, 15, 16, 17, 18, 19, 20, 21, 22, 23, 24, 25, 26] rfl rfl (by decide) (by decide) (by decide) 0 rfl rfl rfl jw_993 jw_994 jw_995 jw_224 jw_992 jn_X11_thrown rfl (jj_le rfl) (jj_le rfl) (jj_le rfl) (jj_le rfl) (jj_le rfl) dL_law_1932 rfl (fun _ _ hX => hX.elim) (fun w1 r O_92 => ?_)
      obtain ⟨rfl, rfl⟩ := O_92
      refine jj_apd rfl ?_
      refine jj_iload C dL_law_1935 rfl ?_
      refine jj_icmp_eqF (tgt := 1942) C dL_law_1937 (by decide) (by decide) ?_
      refine jj_iconst (v := 0) C dL_law_1940 (by decide) ?_
      exfalso; have z0 := jc_nlt (a := (xs 1).toInt) (b := (0)) c_49 rfl (by decide); have z1 := jc_le (a := (1)) (b := (xs 1).toInt) c_50 (by decide) rfl; have z2 := jc_nltL (a := (xs 1).toInt) (b := (0)) c_81 (Int32.toInt_toInt64 _) (by decide); have z3 := jc_nltL (a := (0)) (b := (xs 1).toInt) c_82 (by decide) (Int32.toInt_toInt64 _); have z4 := jc_ltL (a := (0)) (b := ((((xs 2).toInt64) <<< ((32 : Int32).toInt64 &&& 63)) ||| (((xs 3).toInt64) &&& 4294967295)).toInt) c_83 (by decide) rfl; omega
    · refine jj_apd rfl ?_
      refine jj_istore C dL_law_1929 (by decide) rfl ?_
      refine jj_aload_n C dL_law_1931 rfl ?_
      refine jq_callV (rest := []) C (ct_X11_thrown_7 hl D cA ak q_28 q_31 q_32 q_33 q_34 q_35 q_36 q_37 q_38 q_39 q_40 q_41 q_42) [26] [0, 1, 2, 3, 4, 5, 6, 7, 8, 9, 10, 11, 12, 13, 14, 15, 16, 17, 18, 19, 20, 21, 22, 23, 24, 25, 27] rfl rfl (by decide) (by decide) (by decide) 0 rfl rfl rfl jw_993 jw_994 jw_995 jw_224 jw_992 jn_X11_thrown rfl (jj_le rfl) (jj_le rfl) (jj_le rfl) (jj_le rfl) (jj_le rfl) dL_law_1932 rfl (fun _ _ hX => hX.elim) (fun w1 r O_94 => ?_)
      obtain ⟨rfl, rfl⟩ := O_94
      refine jj_apd rfl ?_
      refine jj_iload C dL_law_1935 rfl ?_
      refine jj_icmp_eqF (tgt := 1942) C dL_law_1937 (by decide) (by decide) ?_
      refine jj_iconst (v := 0) C dL_law_1940 (by decide) ?_
      exfalso; have z0 := jc_nlt (a := (xs 1).toInt) (b := (0)) c_49 rfl (by decide); have z1 := jc_le (a := (1)) (b := (xs 1).toInt) c_50 (by decide) rfl; have z2 := jc_nltL (a := (xs 1).toInt) (b := (0)) c_84 (Int32.toInt_toInt64 _) (by decide); have z3 := jc_nltL (a := (0)) (b := (xs 1).toInt) c_85 (by decide) (Int32.toInt_toInt64 _); have z4 := jc_nltL (a := (0)) (b := ((((xs 2).toInt64) <<< ((32 : Int32).toInt64 &&& 63)) ||| (((xs 3).toInt64) &&& 4294967295)).toInt) c_86 (by decide) rfl; omega
  · refine jj_apd rfl ?_
    refine jj_istore C dL_law_1895 (by decide) rfl ?_
    refine jj_aload_n C dL_law_1897 rfl ?_
    refine jj_aload_n C dL_law_1898 rfl ?_
    refine jj_iload C dL_law_1899 rfl ?_
    refine jj_iconst (v := 1) C dL_law_1901 (by decide) ?_
    refine jj_iadd (v := 1) C dL_law_1902 (by decide) ?_
    refine jj_xld (v := xs 1) C hX hbl hbA (vp_in_iff.mpr (by decide)) rfl dL_law_1903 ?_
    refine jj_aload_n C dL_law_1904 rfl ?_
    refine jj_iload C dL_law_1905 rfl ?_
    refine jj_iconst (v := 2) C dL_law_1907 (by decide) ?_
    refine jj_iadd (v := 2) C dL_law_1908 (by decide) ?_
    refine jj_xld (v := xs 2) C hX hbl hbA (vp_in_iff.mpr (by decide)) rfl dL_law_1909 ?_
    refine jj_i2l C dL_law_1910 rfl ?_
    refine jj_bipush (v := 32) C dL_law_1911 (by decide) ?_
    refine jj_lshl C dL_law_1913 rfl ?_
    refine jj_aload_n C dL_law_1914 rfl ?_
    refine jj_iload C dL_law_1915 rfl ?_
    refine jj_iconst (v := 3) C dL_law_1917 (by decide) ?_
    refine jj_iadd (v := 3) C dL_law_1918 (by decide) ?_
    refine jj_xld (v := xs 3) C hX hbl hbA (vp_in_iff.mpr (by decide)) rfl dL_law_1919 ?_
    refine jj_i2l C dL_law_1920 rfl ?_
    refine jj_ldc2 (v := 4294967295) C dL_law_1921 jw_1357 ?_
    refine jj_land C dL_law_1924 rfl ?_
    refine jj_lor C dL_law_1925 rfl ?_
    refine jq_callV (rest := []) C (ct_X11_rateFor_1 hl D cA ak q_28 q_31 q_32 q_33 q_34 q_35 q_36 q_37 q_38 q_39 q_40 q_41 q_42 (xs 1) ((((xs 2).toInt64) <<< ((32 : Int32).toInt64 &&& 63)) ||| (((xs 3).toInt64) &&& 4294967295))) [13, 25] [0, 1, 2, 3, 4, 5, 6, 7, 8, 9, 10, 11, 12, 14, 15, 16, 17, 18, 19, 20, 21, 22, 23, 24, 26, 27] rfl rfl (by decide) (by decide) (by decide) 0 rfl rfl rfl jw_1367 jw_1368 jw_1369 jw_224 jw_608 jn_X11_rateFor rfl (jj_le rfl) (jj_le rfl) (jj_le rfl) (jj_le rfl) (jj_le rfl) dL_law_1926 rfl (fun _ _ hX => hX.elim) (fun w1 r O_96 => ?_)
    rcases O_96 with ⟨c_97, rfl, rfl⟩ | ⟨c_98, c_99, rfl, rfl⟩ | ⟨c_100, c_101, c_102, rfl, rfl⟩ | ⟨c_103, c_104, c_105, rfl, rfl⟩
    · refine jj_apd rfl ?_
      refine jj_istore C dL_law_1929 (by decide) rfl ?_
      refine jj_aload_n C dL_law_1931 rfl ?_
      refine jq_callV (rest := []) C (ct_X11_thrown_2 hl D cA ak q_28 q_31 q_32 q_33 q_34 q_35 q_36 q_37 q_38 q_39 q_40 q_41 q_42) [27] [0, 1, 2, 3, 4, 5, 6, 7, 8, 9, 10, 11, 12, 13, 14, 15, 16, 17, 18, 19, 20, 21, 22, 23, 24, 25, 26] rfl rfl (by decide) (by decide) (by decide) 0 rfl rfl rfl jw_993 jw_994 jw_995 jw_224 jw_992 jn_X11_thrown rfl (jj_le rfl) (jj_le rfl) (jj_le rfl) (jj_le rfl) (jj_le rfl) dL_law_1932 rfl (fun _ _ hX => hX.elim) (fun w1 r O_107 => ?_)
      obtain ⟨rfl, rfl⟩ := O_107
      refine jj_apd rfl ?_
      refine jj_iload C dL_law_1935 rfl ?_
      refine jj_icmp_eqF (tgt := 1942) C dL_law_1937 (by decide) (by decide) ?_
      refine jj_iconst (v := 0) C dL_law_1940 (by decide) ?_
      exfalso; have z0 := jc_nlt (a := (xs 1).toInt) (b := (0)) c_51 rfl (by decide); have z1 := jc_nle (a := (1)) (b := (xs 1).toInt) c_52 (by decide) rfl; have z2 := jc_nleL (a := ((((xs 2).toInt64) <<< ((32 : Int32).toInt64 &&& 63)) ||| (((xs 3).toInt64) &&& 4294967295)).toInt) (b := (0)) c_53 rfl (by decide); have z3 := jc_ltL (a := (xs 1).toInt) (b := (0)) c_97 (Int32.toInt_toInt64 _) (by decide); omega
    · refine jj_apd rfl ?_
      refine jj_istore C dL_law_1929 (by decide) rfl ?_
      refine jj_aload_n C dL_law_1931 rfl ?_
      refine jq_callV (rest := []) C (ct_X11_thrown_2 hl D cA ak q_28 q_31 q_32 q_33 q_34 q_35 q_36 q_37 q_38 q_39 q_40 q_41 q_42) [27] [0, 1, 2, 3, 4, 5, 6, 7, 8, 9, 10, 11, 12, 13, 14, 15, 16, 17, 18, 19, 20, 21, 22, 23, 24, 25, 26] rfl rfl (by decide) (by decide) (by decide) 0 rfl rfl rfl jw_993 jw_994 jw_995 jw_224 jw_992 jn_X11_thrown rfl (jj_le rfl) (jj_le rfl) (jj_le rfl) (jj_le rfl) (jj_le rfl) dL_law_1932 rfl (fun _ _ hX => hX.elim) (fun w1 r O_109 => ?_)
      obtain ⟨rfl, rfl⟩ := O_109
      refine jj_apd rfl ?_
      refine jj_iload C dL_law_1935 rfl ?_
      refine jj_icmp_eqF (tgt := 1942) C dL_law_1937 (by decide) (by decide) ?_
      refine jj_iconst (v := 0) C dL_law_1940 (by decide) ?_
      exfalso; have z0 := jc_nlt (a := (xs 1).toInt) (b := (0)) c_51 rfl (by decide); have z1 := jc_nle (a := (1)) (b := (xs 1).toInt) c_52 (by decide) rfl; have z2 := jc_nleL (a := ((((xs 2).toInt64) <<< ((32 : Int32).toInt64 &&& 63)) ||| (((xs 3).toInt64) &&& 4294967295)).toInt) (b := (0)) c_53 rfl (by decide); have z3 := jc_nltL (a := (xs 1).toInt) (b := (0)) c_98 (Int32.toInt_toInt64 _) (by decide); have z4 := jc_ltL (a := (0)) (b := (xs 1).toInt) c_99 (by decide) (Int32.toInt_toInt64 _); omega
    · refine jj_apd rfl ?_
      refine jj_istore C dL_law_1929 (by decide) rfl ?_
      refine jj_aload_n C dL_law_1931 rfl ?_
      refine jq_callV (rest := []) C (ct_X11_thrown_4 hl D cA ak q_28 q_31 q_32 q_33 q_34 q_35 q_36 q_37 q_38 q_39 q_40 q_41 q_42) [27] [0, 1, 2, 3, 4, 5, 6, 7, 8, 9, 10, 11, 12, 13, 14, 15, 16, 17, 18, 19, 20, 21, 22, 23, 24, 25, 26] rfl rfl (by decide) (by decide) (by decide) 0 rfl rfl rfl jw_993 jw_994 jw_995 jw_224 jw_992 jn_X11_thrown rfl (jj_le rfl) (jj_le rfl) (jj_le rfl) (jj_le rfl) (jj_le rfl) dL_law_1932 rfl (fun _ _ hX => hX.elim) (fun w1 r O_111 => ?_)
      obtain ⟨rfl, rfl⟩ := O_111
      refine jj_apd rfl ?_
      refine jj_iload C dL_law_1935 rfl ?_
      refine jj_icmp_eqT (tgt := 1942) C dL_law_1937 (by decide) (by decide) ?_
      refine jj_iload C dL_law_1942 rfl ?_
      refine jj_if_neT (tgt := 1959) C dL_law_1944 (by decide) (by decide) ?_
      refine jj_goto (tgt := 2259) C dL_law_1959 (by decide) ?_
      exact jj_loc [7, 2] rfl (jj_drop [] rfl (by decide) (jj_widen (k := 600006) (n := 7302072) (jj_le rfl) (jj_le rfl) hend))
    · refine jj_apd rfl ?_
      refine jj_istore C dL_law_1929 (by decide) rfl ?_
      refine jj_aload_n C dL_law_1931 rfl ?_
      refine jq_callV (rest := []) C (ct_X11_thrown_7 hl D cA ak q_28 q_31 q_32 q_33 q_34 q_35 q_36 q_37 q_38 q_39 q_40 q_41 q_42) [26] [0, 1, 2, 3, 4, 5, 6, 7, 8, 9, 10, 11, 12, 13, 14, 15, 16, 17, 18, 19, 20, 21, 22, 23, 24, 25, 27] rfl rfl (by decide) (by decide) (by decide) 0 rfl rfl rfl jw_993 jw_994 jw_995 jw_224 jw_992 jn_X11_thrown rfl (jj_le rfl) (jj_le rfl) (jj_le rfl) (jj_le rfl) (jj_le rfl) dL_law_1932 rfl (fun _ _ hX => hX.elim) (fun w1 r O_113 => ?_)
      obtain ⟨rfl, rfl⟩ := O_113
      refine jj_apd rfl ?_
      refine jj_iload C dL_law_1935 rfl ?_
      refine jj_icmp_eqF (tgt := 1942) C dL_law_1937 (by decide) (by decide) ?_
      refine jj_iconst (v := 0) C dL_law_1940 (by decide) ?_
      exfalso; have z0 := jc_nlt (a := (xs 1).toInt) (b := (0)) c_51 rfl (by decide); have z1 := jc_nle (a := (1)) (b := (xs 1).toInt) c_52 (by decide) rfl; have z2 := jc_nleL (a := ((((xs 2).toInt64) <<< ((32 : Int32).toInt64 &&& 63)) ||| (((xs 3).toInt64) &&& 4294967295)).toInt) (b := (0)) c_53 rfl (by decide); have z3 := jc_nltL (a := (xs 1).toInt) (b := (0)) c_103 (Int32.toInt_toInt64 _) (by decide); have z4 := jc_nltL (a := (0)) (b := (xs 1).toInt) c_104 (by decide) (Int32.toInt_toInt64 _); have z5 := jc_nltL (a := (0)) (b := ((((xs 2).toInt64) <<< ((32 : Int32).toInt64 &&& 63)) ||| (((xs 3).toInt64) &&& 4294967295)).toInt) c_105 (by decide) rfl; omega
  · refine jj_apd rfl ?_
    refine jj_istore C dL_law_1895 (by decide) rfl ?_
    refine jj_aload_n C dL_law_1897 rfl ?_
    refine jj_aload_n C dL_law_1898 rfl ?_
    refine jj_iload C dL_law_1899 rfl ?_
    refine jj_iconst (v := 1) C dL_law_1901 (by decide) ?_
    refine jj_iadd (v := 1) C dL_law_1902 (by decide) ?_
    refine jj_xld (v := xs 1) C hX hbl hbA (vp_in_iff.mpr (by decide)) rfl dL_law_1903 ?_
    refine jj_aload_n C dL_law_1904 rfl ?_
    refine jj_iload C dL_law_1905 rfl ?_
    refine jj_iconst (v := 2) C dL_law_1907 (by decide) ?_
    refine jj_iadd (v := 2) C dL_law_1908 (by decide) ?_
    refine jj_xld (v := xs 2) C hX hbl hbA (vp_in_iff.mpr (by decide)) rfl dL_law_1909 ?_
    refine jj_i2l C dL_law_1910 rfl ?_
    refine jj_bipush (v := 32) C dL_law_1911 (by decide) ?_
    refine jj_lshl C dL_law_1913 rfl ?_
    refine jj_aload_n C dL_law_1914 rfl ?_
    refine jj_iload C dL_law_1915 rfl ?_
    refine jj_iconst (v := 3) C dL_law_1917 (by decide) ?_
    refine jj_iadd (v := 3) C dL_law_1918 (by decide) ?_
    refine jj_xld (v := xs 3) C hX hbl hbA (vp_in_iff.mpr (by decide)) rfl dL_law_1919 ?_
    refine jj_i2l C dL_law_1920 rfl ?_
    refine jj_ldc2 (v := 4294967295) C dL_law_1921 jw_1357 ?_
    refine jj_land C dL_law_1924 rfl ?_
    refine jj_lor C dL_law_1925 rfl ?_
    refine jq_callV (rest := []) C (ct_X11_rateFor_1 hl D cA ak q_28 q_31 q_32 q_33 q_34 q_35 q_36 q_37 q_38 q_39 q_40 q_41 q_42 (xs 1) ((((xs 2).toInt64) <<< ((32 : Int32).toInt64 &&& 63)) ||| (((xs 3).toInt64) &&& 4294967295))) [13, 25] [0, 1, 2, 3, 4, 5, 6, 7, 8, 9, 10, 11, 12, 14, 15, 16, 17, 18, 19, 20, 21, 22, 23, 24, 26, 27] rfl rfl (by decide) (by decide) (by decide) 0 rfl rfl rfl jw_1367 jw_1368 jw_1369 jw_224 jw_608 jn_X11_rateFor rfl (jj_le rfl) (jj_le rfl) (jj_le rfl) (jj_le rfl) (jj_le rfl) dL_law_1926 rfl (fun _ _ hX => hX.elim) (fun w1 r O_115 => ?_)
    rcases O_115 with ⟨c_116, rfl, rfl⟩ | ⟨c_117, c_118, rfl, rfl⟩ | ⟨c_119, c_120, c_121, rfl, rfl⟩ | ⟨c_122, c_123, c_124, rfl, rfl⟩
    · refine jj_apd rfl ?_
      refine jj_istore C dL_law_1929 (by decide) rfl ?_
      refine jj_aload_n C dL_law_1931 rfl ?_
      refine jq_callV (rest := []) C (ct_X11_thrown_2 hl D cA ak q_28 q_31 q_32 q_33 q_34 q_35 q_36 q_37 q_38 q_39 q_40 q_41 q_42) [27] [0, 1, 2, 3, 4, 5, 6, 7, 8, 9, 10, 11, 12, 13, 14, 15, 16, 17, 18, 19, 20, 21, 22, 23, 24, 25, 26] rfl rfl (by decide) (by decide) (by decide) 0 rfl rfl rfl jw_993 jw_994 jw_995 jw_224 jw_992 jn_X11_thrown rfl (jj_le rfl) (jj_le rfl) (jj_le rfl) (jj_le rfl) (jj_le rfl) dL_law_1932 rfl (fun _ _ hX => hX.elim) (fun w1 r O_126 => ?_)
      obtain ⟨rfl, rfl⟩ := O_126
      refine jj_apd rfl ?_
      refine jj_iload C dL_law_1935 rfl ?_
      refine jj_icmp_eqF (tgt := 1942) C dL_law_1937 (by decide) (by decide) ?_
      refine jj_iconst (v := 0) C dL_law_1940 (by decide) ?_
      exfalso; have z0 := jc_nlt (a := (xs 1).toInt) (b := (0)) c_54 rfl (by decide); have z1 := jc_nle (a := (1)) (b := (xs 1).toInt) c_55 (by decide) rfl; have z2 := jc_leL (a := ((((xs 2).toInt64) <<< ((32 : Int32).toInt64 &&& 63)) ||| (((xs 3).toInt64) &&& 4294967295)).toInt) (b := (0)) c_56 rfl (by decide); have z3 := jc_ltL (a := (xs 1).toInt) (b := (0)) c_116 (Int32.toInt_toInt64 _) (by decide); omega
    · refine jj_apd rfl ?_
      refine jj_istore C dL_law_1929 (by decide) rfl ?_
      refine jj_aload_n C dL_law_1931 rfl ?_
      refine jq_callV (rest := []) C (ct_X11_thrown_2 hl D cA ak q_28 q_31 q_32 q_33 q_34 q_35 q_36 q_37 q_38 q_39 q_40 q_41 q_42) [27] [0, 1, 2, 3, 4, 5, 6, 7, 8, 9, 10, 11, 12, 13, 14, 15, 16, 17, 18, 19, 20, 21, 22, 23, 24, 25, 26] rfl rfl (by decide) (by decide) (by decide) 0 rfl rfl rfl jw_993 jw_994 jw_995 jw_224 jw_992 jn_X11_thrown rfl (jj_le rfl) (jj_le rfl) (jj_le rfl) (jj_le rfl) (jj_le rfl) dL_law_1932 rfl (fun _ _ hX => hX.elim) (fun w1 r O_128 => ?_)
      obtain ⟨rfl, rfl⟩ := O_128
      refine jj_apd rfl ?_
      refine jj_iload C dL_law_1935 rfl ?_
      refine jj_icmp_eqF (tgt := 1942) C dL_law_1937 (by decide) (by decide) ?_
      refine jj_iconst (v := 0) C dL_law_1940 (by decide) ?_
      exfalso; have z0 := jc_nlt (a := (xs 1).toInt) (b := (0)) c_54 rfl (by decide); have z1 := jc_nle (a := (1)) (b := (xs 1).toInt) c_55 (by decide) rfl; have z2 := jc_leL (a := ((((xs 2).toInt64) <<< ((32 : Int32).toInt64 &&& 63)) ||| (((xs 3).toInt64) &&& 4294967295)).toInt) (b := (0)) c_56 rfl (by decide); have z3 := jc_nltL (a := (xs 1).toInt) (b := (0)) c_117 (Int32.toInt_toInt64 _) (by decide); have z4 := jc_ltL (a := (0)) (b := (xs 1).toInt) c_118 (by decide) (Int32.toInt_toInt64 _); omega
    · refine jj_apd rfl ?_
      refine jj_istore C dL_law_1929 (by decide) rfl ?_
      refine jj_aload_n C dL_law_1931 rfl ?_
      refine jq_callV (rest := []) C (ct_X11_thrown_4 hl D cA ak q_28 q_31 q_32 q_33 q_34 q_35 q_36 q_37 q_38 q_39 q_40 q_41 q_42) [27] [0, 1, 2, 3, 4, 5, 6, 7, 8, 9, 10, 11, 12, 13, 14, 15, 16, 17, 18, 19, 20, 21, 22, 23, 24, 25, 26] rfl rfl (by decide) (by decide) (by decide) 0 rfl rfl rfl jw_993 jw_994 jw_995 jw_224 jw_992 jn_X11_thrown rfl (jj_le rfl) (jj_le rfl) (jj_le rfl) (jj_le rfl) (jj_le rfl) dL_law_1932 rfl (fun _ _ hX => hX.elim) (fun w1 r O_130 => ?_)
      obtain ⟨rfl, rfl⟩ := O_130
      refine jj_apd rfl ?_
      refine jj_iload C dL_law_1935 rfl ?_
      refine jj_icmp_eqF (tgt := 1942) C dL_law_1937 (by decide) (by decide) ?_
      refine jj_iconst (v := 0) C dL_law_1940 (by decide) ?_
      exfalso; have z0 := jc_nlt (a := (xs 1).toInt) (b := (0)) c_54 rfl (by decide); have z1 := jc_nle (a := (1)) (b := (xs 1).toInt) c_55 (by decide) rfl; have z2 := jc_leL (a := ((((xs 2).toInt64) <<< ((32 : Int32).toInt64 &&& 63)) ||| (((xs 3).toInt64) &&& 4294967295)).toInt) (b := (0)) c_56 rfl (by decide); have z3 := jc_nltL (a := (xs 1).toInt) (b := (0)) c_119 (Int32.toInt_toInt64 _) (by decide); have z4 := jc_nltL (a := (0)) (b := (xs 1).toInt) c_120 (by decide) (Int32.toInt_toInt64 _); have z5 := jc_ltL (a := (0)) (b := ((((xs 2).toInt64) <<< ((32 : Int32).toInt64 &&& 63)) ||| (((xs 3).toInt64) &&& 4294967295)).toInt) c_121 (by decide) rfl; omega
    · refine jj_apd rfl ?_
      refine jj_istore C dL_law_1929 (by decide) rfl ?_
      refine jj_aload_n C dL_law_1931 rfl ?_
      refine jq_callV (rest := []) C (ct_X11_thrown_7 hl D cA ak q_28 q_31 q_32 q_33 q_34 q_35 q_36 q_37 q_38 q_39 q_40 q_41 q_42) [26] [0, 1, 2, 3, 4, 5, 6, 7, 8, 9, 10, 11, 12, 13, 14, 15, 16, 17, 18, 19, 20, 21, 22, 23, 24, 25, 27] rfl rfl (by decide) (by decide) (by decide) 0 rfl rfl rfl jw_993 jw_994 jw_995 jw_224 jw_992 jn_X11_thrown rfl (jj_le rfl) (jj_le rfl) (jj_le rfl) (jj_le rfl) (jj_le rfl) dL_law_1932 rfl (fun _ _ hX => hX.elim) (fun w1 r O_132 => ?_)
      obtain ⟨rfl, rfl⟩ := O_132
      refine jj_apd rfl ?_
      refine jj_iload C dL_law_1935 rfl ?_
      refine jj_icmp_eqT (tgt := 1942) C dL_law_1937 (by decide) (by decide) ?_
      refine jj_iload C dL_law_1942 rfl ?_
      refine jj_if_neF (tgt := 1959) C dL_law_1944 (by decide) (by decide) ?_
      refine jj_aload_n C dL_law_1947 rfl ?_
      refine jj_iconst (v := 0) C dL_law_1948 (by decide) ?_
      refine jj_lald (v := (-9000)) C 25 rfl (vp_in_iff.mpr (by decide)) rfl dL_law_1949 ?_
      refine jj_iload C dL_law_1950 rfl ?_
      refine jj_i2l (v := (-9000)) C dL_law_1952 (by decide) ?_
      refine jj_lcmp_eqT (tgt := 1959) C dL_law_1953 dL_law_1954 (by decide) (by decide) ?_
      refine jj_goto (tgt := 2259) C dL_law_1959 (by decide) ?_
      exact jj_loc [7, 2] rfl (jj_drop [] rfl (by decide) (jj_widen (k := 600006) (n := 7302072) (jj_le rfl) (jj_le rfl) hend))

