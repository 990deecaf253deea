set_option maxHeartbeats 4000000 in
set_option maxRecDepth 100000 in
theorem law_c35 {p : Program} {l : Launch} {e : Env} {s : State} {m : MethodId} {below : List Frame} {meth : Method} {c : Code} (hl : l.stackTraces = false) {D : va_G} {cA : Nat → ClassId} {ak : (Nat → Nat) × (Nat → Nat)} {A : Nat → Prop} {b : Nat} {xs : Nat → Int32} {Q : State → Prop} (C : jj_C p l s m #[Value.ref b] meth c code 9 R_law ret D cA A ak) (hX : va_X b 6 xs s s.heap) (hbl : b < s.heap.size) (hbA : ¬ A b) (hend : jj_J p l e room_1 s m #[Value.ref b] below meth c 9 A Q (jj_X D A []) 600006 7302072 2259 [(0, .ref b), (5, .int 0)] []) (q_1 q_4 q_5 q_6 q_7 q_8 q_9 q_10 q_11 q_12 q_13 q_14 q_15 q_16 q_17 q_18 q_19 q_20 q_21 q_22 q_23 q_28 q_31 q_32 q_33 q_34 q_35 q_36 q_37 q_38 q_39 q_40 q_41 q_42 q_43 q_44 : Nat) (f_24 : Nat → Option Nat) (f_25 : Nat → Option Nat) (c_26 : f_24 0 = some q_11) (c_27 : f_25 0 = some q_17) : jj_J p l e room_1 s m #[Value.ref b] below meth c 9 A Q (jj_X D A [(q_1, .inr (11, [.ref q_4, .int 0, .int (-1), .ref q_6, .ref q_12, .ref q_18, .ref q_20, .int 0, .int 0, .ref q_21])), (q_4, .inr (10, [.ref q_5, .int 0, .int 0, .int 0, .int 0, .int 0, .int (-1)])), (q_5, .inl (cA 1, 400, .inl (fun _ => 0))), (q_6, .inr (2, [.int 1, .int 0, .int 0, .int 0, .int 100, .int 0, .int 0, .int 0, .int 0, .int 0, .ref q_7, .ref q_8, .ref q_9, .ref q_10])), (q_7, .inl (cA 2, 6, .inr (.inl (fun _ => 0)))), (q_10, .inl (cA 7, 12, .inr (.inr (.inr (.inr f_24))))), (q_11, .inr (7, [.int 0, .int 0, .int 0, .long 0, .long 0])), (q_12, .inr (2, [.int 1, .int 0, .int 0, .int 0, .int 100, .int 0, .int 0, .int 0, .int 0, .int 0, .ref q_13, .ref q_14, .ref q_15, .ref q_16])), (q_13, .inl (cA 2, 6, .inr (.inl (fun _ => 0)))), (q_16, .inl (cA 7, 12, .inr (.inr (.inr (.inr f_25))))), (q_17, .inr (7, [.int 0, .int 0, .int 0, .long 0, .long 0])), (q_18, .inr (3, [.ref q_19, .long 0, .long 0, .long 0, .long 0, .long 0])), (q_20, .inl (cA 5, 10, .inr (.inr (.inr (.inr (fun _ => none)))))), (q_21, .inr (6, [.ref q_22, .int 0, .ref q_23])), (q_22, .inl (cA 0, 1300, .inl (fun _ => 0))), (q_23, .inl (cA 0, 20, .inl (fun _ => 0))), (q_28, .inr (12, [.ref q_31, .ref q_32, .ref q_33, .ref q_34, .ref q_35, .ref q_36, .int 0, .int 0, .long 0, .long 0, .ref q_37, .ref q_38, .ref q_39, .int 0, .int 0, .int 0, .int 0, .int 0, .int (-1), .int 0, .int 0, .ref q_40, .ref q_41, .ref q_42, .int 0])), (q_32, .inl (cA 2, 334, .inr (.inl (fun _ => 0)))), (q_33, .inl (cA 2, 334, .inr (.inl (fun _ => 0)))), (q_34, .inl (cA 2, 334, .inr (.inl (fun _ => 0)))), (q_35, .inl (cA 2, 334, .inr (.inl (fun _ => 0)))), (q_36, .inl (cA 2, 3340, .inr (.inl (fun _ => 0)))), (q_37, .inl (cA 2, 12, .inr (.inl (fun _ => 0)))), (q_38, .inl (cA 3, 12, .inl (fun _ => 0))), (q_39, .inl (cA 0, 400, .inl (fun _ => 0))), (q_40, .inl (cA 2, 6, .inr (.inl (fun _ => 0)))), (q_41, .inl (cA 2, 6, .inr (.inl (fun _ => 0)))), (q_42, .inl (cA 0, 2400, .inl (fun _ => 0))), (q_31, .inl (cA 2, 334, .inr (.inl (vp_updL (vp_updL (fun _ => 0) 0 1) 4 100)))), (q_43, .inl (cA 2, 1, .inr (.inl (fun _ => 0)))), (q_44, .inl (cA 4, 1, .inr (.inr (.inr (.inl (fun _ => 0))))))]) 156 10481 1962 [(5, .int 0), (4, .ref q_44), (3, .ref q_43), (2, .ref q_28), (1, .ref q_1), (0, .ref b)] [] := by
  refine jj_aload_n C dL_law_1962 rfl ?_
  refine jj_aload_n C dL_law_1963 rfl ?_
  refine jj_iload C dL_law_1964 rfl ?_
  refine jj_iconst (v := 1) C dL_law_1966 (by decide) ?_
  refine jj_iadd (v := 1) C dL_law_1967 (by decide) ?_
  refine jj_xld (v := xs 1) C hX hbl hbA (vp_in_iff.mpr (by decide)) rfl dL_law_1968 ?_
  refine jj_i2l C dL_law_1969 rfl ?_
  refine jj_bipush (v := 32) C dL_law_1970 (by decide) ?_
  refine jj_lshl C dL_law_1972 rfl ?_
  refine jj_aload_n C dL_law_1973 rfl ?_
  refine jj_iload C dL_law_1974 rfl ?_
  refine jj_iconst (v := 2) C dL_law_1976 (by decide) ?_
  refine jj_iadd (v := 2) C dL_law_1977 (by decide) ?_
  refine jj_xld (v := xs 2) C hX hbl hbA (vp_in_iff.mpr (by decide)) rfl dL_law_1978 ?_
  refine jj_i2l C dL_law_1979 rfl ?_
  refine jj_ldc2 (v := 4294967295) C dL_law_1980 jw_1357 ?_
  refine jj_land C dL_law_1983 rfl ?_
  refine jj_lor C dL_law_1984 rfl ?_
  refine jj_aload_n C dL_law_1985 rfl ?_
  refine jq_callSW (rest := []) C (ct_L_daysUntil_1 hl D cA ak q_1 q_43 q_6 q_12 q_7 q_13 q_4 q_18 q_20 q_21 q_8 q_9 q_10 q_14 q_15 q_16 ((((xs 1).toInt64) <<< ((32 : Int32).toInt64 &&& 63)) ||| (((xs 2).toInt64) &&& 4294967295))) [0, 29, 3, 7, 4, 8] [1, 2, 5, 6, 9, 10, 11, 12, 13, 14, 15, 16, 17, 18, 19, 20, 21, 22, 23, 24, 25, 26, 27, 28, 30] rfl rfl (by decide) (by decide) (by decide) jw_1376 jw_1377 jw_985 jw_1375 jn_L_daysUntil rfl (jj_le rfl) (jj_le rfl) (jj_le rfl) (jj_le rfl) (jj_le rfl) dL_law_1986 rfl (fun _ _ hX => hX.elim) (fun w1 r O_47 => ?_)
  rcases O_47 with ⟨c_48, rfl, rfl⟩ | ⟨c_49, rfl, rfl⟩
  · refine jj_apd rfl ?_
    refine jj_istore C dL_law_1989 (by decide) rfl ?_
    refine jj_aload_n C dL_law_1991 rfl ?_
    refine jj_aload_n C dL_law_1992 rfl ?_
    refine jj_iload C dL_law_1993 rfl ?_
    refine jj_iconst (v := 1) C dL_law_1995 (by decide) ?_
    refine jj_iadd (v := 1) C dL_law_1996 (by decide) ?_
    refine jj_xld (v := xs 1) C hX hbl hbA (vp_in_iff.mpr (by decide)) rfl dL_law_1997 ?_
    refine jj_i2l C dL_law_1998 rfl ?_
    refine jj_bipush (v := 32) C dL_law_1999 (by decide) ?_
    refine jj_lshl C dL_law_2001 rfl ?_
    refine jj_aload_n C dL_law_2002 rfl ?_
    refine jj_iload C dL_law_2003 rfl ?_
    refine jj_iconst (v := 2) C dL_law_2005 (by decide) ?_
    refine jj_iadd (v := 2) C dL_law_2006 (by decide) ?_
    refine jj_xld (v := xs 2) C hX hbl hbA (vp_in_iff.mpr (by decide)) rfl dL_law_2007 ?_
    refine jj_i2l C dL_law_2008 rfl ?_
    refine jj_ldc2 (v := 4294967295) C dL_law_2009 jw_1357 ?_
    refine jj_land C dL_law_2012 rfl ?_
    refine jj_lor C dL_law_2013 rfl ?_
    refine jq_callV (rest := []) C (ct_X11_daysUntil_1 hl D cA ak q_28 q_31 q_33 q_32 q_34 q_35 q_36 q_37 q_38 q_39 q_40 q_41 q_42 ((((xs 1).toInt64) <<< ((32 : Int32).toInt64 &&& 63)) ||| (((xs 2).toInt64) &&& 4294967295))) [11, 23, 13] [0, 1, 2, 3, 4, 5, 6, 7, 8, 9, 10, 12, 14, 15, 16, 17, 18, 19, 20, 21, 22, 24, 25] rfl rfl (by decide) (by decide) (by decide) 0 rfl rfl rfl jw_1379 jw_1380 jw_1381 jw_224 jw_620 jn_X11_daysUntil rfl (jj_le rfl) (jj_le rfl) (jj_le rfl) (jj_le rfl) (jj_le rfl) dL_law_2014 rfl (fun _ _ hX => hX.elim) (fun w1 r O_51 => ?_)
    rcases O_51 with ⟨c_52, rfl, rfl⟩ | ⟨c_53, rfl, rfl⟩
    · refine jj_apd rfl ?_
      refine jj_istore C dL_law_2017 (by decide) rfl ?_
      refine jj_aload_n C dL_law_2019 rfl ?_
      refine jq_callV (rest := []) C (ct_X11_thrown_7 hl D cA ak q_28 q_31 q_32 q_33 q_34 q_35 q_36 q_37 q_38 q_39 q_40 q_41 q_42) [23] [0, 1, 2, 3, 4, 5, 6, 7, 8, 9, 10, 11, 12, 13, 14, 15, 16, 17, 18, 19, 20, 21, 22, 24, 25] rfl rfl (by decide) (by decide) (by decide) 0 rfl rfl rfl jw_993 jw_994 jw_995 jw_224 jw_992 jn_X11_thrown rfl (jj_le rfl) (jj_le rfl) (jj_le rfl) (jj_le rfl) (jj_le rfl) dL_law_2020 rfl (fun _ _ hX => hX.elim) (fun w1 r O_55 => ?_)
      obtain ⟨rfl, rfl⟩ := O_55
      refine jj_apd rfl ?_
      refine jj_iload C dL_law_2023 rfl ?_
      refine jj_icmp_eqF (tgt := 2030) C dL_law_2025 (by decide) (by decide) ?_
      refine jj_iconst (v := 0) C dL_law_2028 (by decide) ?_
      exact absurd c_52 c_48
    · refine jj_apd rfl ?_
      refine jj_istore C dL_law_2017 (by decide) rfl ?_
      refine jj_aload_n C dL_law_2019 rfl ?_
      refine jq_callV (rest := []) C (ct_X11_thrown_2 hl D cA ak q_28 q_31 q_32 q_33 q_34 q_35 q_36 q_37 q_38 q_39 q_40 q_41 q_42) [25] [0, 1, 2, 3, 4, 5, 6, 7, 8, 9, 10, 11, 12, 13, 14, 15, 16, 17, 18, 19, 20, 21, 22, 23, 24] rfl rfl (by decide) (by decide) (by decide) 0 rfl rfl rfl jw_993 jw_994 jw_995 jw_224 jw_992 jn_X11_thrown rfl (jj_le rfl) (jj_le rfl) (jj_le rfl) (jj_le rfl) (jj_le rfl) dL_law_2020 rfl (fun _ _ hX => hX.elim) (fun w1 r O_57 => ?_)
      obtain ⟨rfl, rfl⟩ := O_57
      refine jj_apd rfl ?_
      refine jj_iload C dL_law_2023 rfl ?_
      refine jj_icmp_eqT (tgt := 2030) C dL_law_2025 (by decide) (by decide) ?_
      refine jj_iload C dL_law_2030 rfl ?_
      refine jj_if_neT (tgt := 2047) C dL_law_2032 (by decide) (by decide) ?_
      refine jj_goto (tgt := 2259) C dL_law_2047 (by decide) ?_
      exact jj_loc [7, 2] rfl (jj_drop [] rfl (by decide) (jj_widen (k := 600006) (n := 7302072) (jj_le rfl) (jj_le rfl) hend))
  · refine jj_apd rfl ?_
    refine jj_istore C dL_law_1989 (by decide) rfl ?_
    refine jj_aload_n C dL_law_1991 rfl ?_
    refine jj_aload_n C dL_law_1992 rfl ?_
    refine jj_iload C dL_law_1993 rfl ?_
    refine jj_iconst (v := 1) C dL_law_1995 (by decide) ?_
    refine jj_iadd (v := 1) C dL_law_1996 (by decide) ?_
    refine jj_xld (v := xs 1) C hX hbl hbA (vp_in_iff.mpr (by decide)) rfl dL_law_1997 ?_
    refine jj_i2l C dL_law_1998 rfl ?_
    refine jj_bipush (v := 32) C dL_law_1999 (by decide) ?_
    refine jj_lshl C dL_law_2001 rfl ?_
    refine jj_aload_n C dL_law_2002 rfl ?_
    refine jj_iload C dL_law_2003 rfl ?_
    refine jj_iconst (v := 2) C dL_law_2005 (by decide) ?_
    refine jj_iadd (v := 2) C dL_law_2006 (by decide) ?_
    refine jj_xld (v := xs 2) C hX hbl hbA (vp_in_iff.mpr (by decide)) rfl dL_law_2007 ?_
    refine jj_i2l C dL_law_2008 rfl ?_
    refine jj_ldc2 (v := 4294967295) C dL_law_2009 jw_1357 ?_
    refine jj_land C dL_law_2012 rfl ?_
    refine jj_lor C dL_law_2013 rfl ?_
    refine jq_callV (rest := []) C (ct_X11_daysUntil_1 hl D cA ak q_28 q_31 q_33 q_32 q_34 q_35 q_36 q_37 q_38 q_39 q_40 q_41 q_42 ((((xs 1).toInt64) <<< ((32 : Int32).toInt64 &&& 63)) ||| (((xs 2).toInt64) &&& 4294967295))) [11, 23, 13] [0, 1, 2, 3, 4, 5, 6, 7, 8, 9, 10, 12, 14, 15, 16, 17, 18, 19, 20, 21, 22, 24, 25] rfl rfl (by decide) (by decide) (by decide) 0 rfl rfl rfl jw_1379 jw_1380 jw_1381 jw_224 jw_620 jn_X11_daysUntil rfl (jj_le rfl) (jj_le rfl) (jj_le rfl) (jj_le rfl) (jj_le rfl) dL_law_2014 rfl (fun _ _ hX => hX.elim) (fun w1 r O_59 => ?_)
    rcases O_59 with ⟨c_60, rfl, rfl⟩ | ⟨c_61, rfl, rfl⟩
    · refine jj_apd rfl ?_
      refine jj_istore C dL_law_2017 (by decide) rfl ?_
      refine jj_aload_n C dL_law_2019 rfl ?_
      refine jq_callV (rest := []) C (ct_X11_thrown_7 hl D cA ak q_28 q_31 q_32 q_33 q_34 q_35 q_36 q_37 q_38 q_39 q_40 q_41 q_42) [23] [0, 1, 2, 3, 4, 5, 6, 7, 8, 9, 10, 11, 12, 13, 14, 15, 16, 17, 18, 19, 20, 21, 22, 24, 25] rfl rfl (by decide) (by decide) (by decide) 0 rfl rfl rfl jw_993 jw_994 jw_995 jw_224 jw_992 jn_X11_thrown rfl (jj_le rfl) (jj_le rfl) (jj_le rfl) (jj_le rfl) (jj_le rfl) dL_law_2020 rfl (fun _ _ hX => hX.elim) (fun w1 r O_63 => ?_)
      obtain ⟨rfl, rfl⟩ := O_63
      refine jj_apd rfl ?_
      refine jj_iload C dL_law_2023 rfl ?_
      refine jj_icmp_eqT (tgt := 2030) C dL_law_2025 (by decide) (by decide) ?_
      refine jj_iload C dL_law_2030 rfl ?_
      refine jj_if_neF (tgt := 2047) C dL_law_2032 (by decide) (by decide) ?_
      refine jj_aload_n C dL_law_2035 rfl ?_
      refine jj_iconst (v := 0) C dL_law_2036 (by decide) ?_
      refine jj_lald (v := 0) C 22 rfl (vp_in_iff.mpr (by decide)) rfl dL_law_2037 ?_
      refine jj_iload C dL_law_2038 rfl ?_
      refine jj_i2l (v := 0) C dL_law_2040 (by decide) ?_
      refine jj_lcmp_eqT (tgt := 2047) C dL_law_2041 dL_law_2042 (by decide) (by decide) ?_
      refine jj_goto (tgt := 2259) C dL_law_2047 (by decide) ?_
      exact jj_loc [7, 2] rfl (jj_drop [] rfl (by decide) (jj_widen (k := 600006) (n := 7302072) (jj_le rfl) (jj_le rfl) hend))
    · refine jj_apd rfl ?_
      refine jj_istore C dL_law_2017 (by decide) rfl ?_
      refine jj_aload_n C dL_law_2019 rfl ?_
      refine jq_callV (rest := []) C (ct_X11_thrown_2 hl D cA ak q_28 q_31 q_32 q_33 q_34 q_35 q_36 q_37 q_38 q_39 q_40 q_41 q_42) [25] [0, 1, 2, 3, 4, 5, 6, 7, 8, 9, 10, 11, 12, 13, 14, 15, 16, 17, 18, 19, 20, 21, 22, 23, 24] rfl rfl (by decide) (by decide) (by decide) 0 rfl rfl rfl jw_993 jw_994 jw_995 jw_224 jw_992 jn_X11_thrown rfl (jj_le rfl) (jj_le rfl) (jj_le rfl) (jj_le rfl) (jj_le rfl) dL_law_2020 rfl (fun _ _ hX => hX.elim) (fun w1 r O_65 => ?_)
      obtain ⟨rfl, rfl⟩ := O_65
      refine jj_apd rfl ?_
      refine jj_iload C dL_law_2023 rfl ?_
      refine jj_icmp_eqF (tgt := 2030) C dL_law_2025 (by decide) (by decide) ?_
      refine jj_iconst (v := 0) C dL_law_2028 (by decide) ?_
      exact absurd c_49 c_61

set_option maxHeartbeats 4000000 in
set_option maxRecDepth 100000 in
theorem law_c36 {p : Program} {l : Launch} {e : Env} {s : State} {m : MethodId} {below : List Frame} {meth : Method} {c : Code} (hl : l.stackTraces = false) {D : va_G} {cA : Nat → ClassId} {ak : (Nat → Nat) × (Nat → Nat)} {A : Nat → Prop} {b : Nat} {xs : Nat → Int32} {Q : State → Prop} (C : jj_C p l s m #[Value.ref b] meth c code 9 R_law ret D cA A ak) (hX : va_X b 6 xs s s.heap) (hbl : b < s.heap.size) (hbA : ¬ A b) (hend : jj_J p l e room_1 s m #[Value.ref b] below meth c 9 A Q (jj_X D A []) 600006 7302072 2259 [(0, .ref b), (5, .int 0)] []) (q_1 q_4 q_5 q_6 q_7 q_8 q_9 q_10 q_11 q_12 q_13 q_14 q_15 q_16 q_17 q_18 q_19 q_20 q_21 q_22 q_23 q_28 q_31 q_32 q_33 q_34 q_35 q_36 q_37 q_38 q_39 q_40 q_41 q_42 q_43 q_44 : Nat) (f_24 : Nat → Option Nat) (f_25 : Nat → Option Nat) (c_26 : f_24 0 = some q_11) (c_27 : f_25 0 = some q_17) : jj_J p l e room_1 s m #[Value.ref b] below meth c 9 A Q (jj_X D A [(q_1, .inr (11, [.ref q_4, .int 0, .int (-1), .ref q_6, .ref q_12, .ref q_18, .ref q_20, .int 0, .int 0, .ref q_21])), (q_4, .inr (10, [.ref q_5, .int 0, .int 0, .int 0, .int 0, .int 0, .int (-1)])), (q_5, .inl (cA 1, 400, .inl (fun _ => 0))), (q_6, .inr (2, [.int 1, .int 0, .int 0, .int 0, .int 100, .int 0, .int 0, .int 0, .int 0, .int 0, .ref q_7, .ref q_8, .ref q_9, .ref q_10])), (q_7, .inl (cA 2, 6, .inr (.inl (fun _ => 0)))), (q_10, .inl (cA 7, 12, .inr (.inr (.inr (.inr f_24))))), (q_11, .inr (7, [.int 0, .int 0, .int 0, .long 0, .long 0])), (q_12, .inr (2, [.int 1, .int 0, .int 0, .int 0, .int 100, .int 0, .int 0, .int 0, .int 0, .int 0, .ref q_13, .ref q_14, .ref q_15, .ref q_16])), (q_13, .inl (cA 2, 6, .inr (.inl (fun _ => 0)))), (q_16, .inl (cA 7, 12, .inr (.inr (.inr (.inr f_25))))), (q_17, .inr (7, [.int 0, .int 0, .int 0, .long 0, .long 0])), (q_18, .inr (3, [.ref q_19, .long 0, .long 0, .long 0, .long 0, .long 0])), (q_20, .inl (cA 5, 10, .inr (.inr (.inr (.inr (fun _ => none)))))), (q_21, .inr (6, [.ref q_22, .int 0, .ref q_23])), (q_22, .inl (cA 0, 1300, .inl (fun _ => 0))), (q_23, .inl (cA 0, 20, .inl (fun _ => 0))), (q_28, .inr (12, [.ref q_31, .ref q_32, .ref q_33, .ref q_34, .ref q_35, .ref q_36, .int 0, .int 0, .long 0, .long 0, .ref q_37, .ref q_38, .ref q_39, .int 0, .int 0, .int 0, .int 0, .int 0, .int (-1), .int 0, .int 0, .ref q_40, .ref q_41, .ref q_42, .int 0])), (q_32, .inl (cA 2, 334, .inr (.inl (fun _ => 0)))), (q_33, .inl (cA 2, 334, .inr (.inl (fun _ => 0)))), (q_34, .inl (cA 2, 334, .inr (.inl (fun _ => 0)))), (q_35, .inl (cA 2, 334, .inr (.inl (fun _ => 0)))), (q_36, .inl (cA 2, 3340, .inr (.inl (fun _ => 0)))), (q_37, .inl (cA 2, 12, .inr (.inl (fun _ => 0)))), (q_38, .inl (cA 3, 12, .inl (fun _ => 0))), (q_39, .inl (cA 0, 400, .inl (fun _ => 0))), (q_40, .inl (cA 2, 6, .inr (.inl (fun _ => 0)))), (q_41, .inl (cA 2, 6, .inr (.inl (fun _ => 0)))), (q_42, .inl (cA 0, 2400, .inl (fun _ => 0))), (q_31, .inl (cA 2, 334, .inr (.inl (vp_updL (vp_updL (fun _ => 0) 0 1) 4 100)))), (q_43, .inl (cA 2, 1, .inr (.inl (fun _ => 0)))), (q_44, .inl (cA 4, 1, .inr (.inr (.inr (.inl (fun _ => 0))))))]) 156 10481 2050 [(5, .int 0), (4, .ref q_44), (3, .ref q_43), (2, .ref q_28), (1, .ref q_1), (0, .ref b)] [] := by
  refine jj_aload_n C dL_law_2050 rfl ?_
  refine jq_callV (rest := []) C (ct_X10_wouldCrystallize_1 hl D cA ak q_1 q_6 q_12 q_7 q_13 q_4 q_18 q_20 q_21 q_8 q_9 q_10 q_14 q_15 q_16) [0, 3, 7, 4, 8] [1, 2, 5, 6, 9, 10, 11, 12, 13, 14, 15, 16, 17, 18, 19, 20, 21, 22, 23, 24, 25, 26, 27, 28, 29, 30] rfl rfl (by decide) (by decide) (by decide) 0 rfl rfl rfl jw_1383 jw_1384 jw_1385 jw_271 jw_888 jn_X10_wouldCrystallize rfl (jj_le rfl) (jj_le rfl) (jj_le rfl) (jj_le rfl) (jj_le rfl) dL_law_2051 rfl (fun _ _ hX => hX.elim) (fun w1 r O_47 => ?_)
  obtain rfl := O_47
  refine jj_left ?_
  refine jj_aload_n C dL_law_2054 rfl ?_
  refine jq_callV (rest := [.long 0]) C (ct_X11_wouldCrystallize_1 hl D cA ak q_28 q_31 q_33 q_32 q_34 q_35 q_36 q_37 q_38 q_39 q_40 q_41 q_42) [11, 23, 13] [0, 1, 2, 3, 4, 5, 6, 7, 8, 9, 10, 12, 14, 15, 16, 17, 18, 19, 20, 21, 22, 24, 25] rfl rfl (by decide) (by decide) (by decide) 0 rfl rfl rfl jw_1387 jw_1388 jw_1389 jw_224 jw_889 jn_X11_wouldCrystallize rfl (jj_le rfl) (jj_le rfl) (jj_le rfl) (jj_le rfl) (jj_le rfl) dL_law_2055 rfl (fun _ _ hX => hX.elim) (fun w1 r O_49 => ?_)
  obtain ⟨rfl, rfl⟩ := O_49
  refine jj_apd rfl ?_
  refine jj_lcmp_eqT (tgt := 2259) C dL_law_2058 dL_law_2059 (by decide) (by decide) ?_
  exact jj_loc [5, 0] rfl (jj_drop [] rfl (by decide) (jj_widen (k := 600006) (n := 7302072) (jj_le rfl) (jj_le rfl) hend))

set_option maxHeartbeats 4000000 in
set_option maxRecDepth 100000 in
theorem law_c37 {p : Program} {l : Launch} {e : Env} {s : State} {m : MethodId} {below : List Frame} {meth : Method} {c : Code} (hl : l.stackTraces = false) {D : va_G} {cA : Nat → ClassId} {ak : (Nat → Nat) × (Nat → Nat)} {A : Nat → Prop} {b : Nat} {xs : Nat → Int32} {Q : State → Prop} (C : jj_C p l s m #[Value.ref b] meth c code 9 R_law ret D cA A ak) (hX : va_X b 6 xs s s.heap) (hbl : b < s.heap.size) (hbA : ¬ A b) (hend : jj_J p l e room_1 s m #[Value.ref b] below meth c 9 A Q (jj_X D A []) 600006 7302072 2259 [(0, .ref b), (5, .int 0)] []) (q_1 q_4 q_5 q_6 q_7 q_8 q_9 q_10 q_11 q_12 q_13 q_14 q_15 q_16 q_17 q_18 q_19 q_20 q_21 q_22 q_23 q_28 q_31 q_32 q_33 q_34 q_35 q_36 q_37 q_38 q_39 q_40 q_41 q_42 q_43 q_44 : Nat) (f_24 : Nat → Option Nat) (f_25 : Nat → Option Nat) (c_26 : f_24 0 = some q_11) (c_27 : f_25 0 = some q_17) : jj_J p l e room_1 s m #[Value.ref b] below meth c 9 A Q (jj_X D A [(q_1, .inr (11, [.ref q_4, .int 0, .int (-1), .ref q_6, .ref q_12, .ref q_18, .ref q_20, .int 0, .int 0, .ref q_21])), (q_4, .inr (10, [.ref q_5, .int 0, .int 0, .int 0, .int 0, .int 0, .int (-1)])), (q_5, .inl (cA 1, 400, .inl (fun _ => 0))), (q_6, .inr (2, [.int 1, .int 0, .int 0, .int 0, .int 100, .int 0, .int 0, .int 0, .int 0, .int 0, .ref q_7, .ref q_8, .ref q_9, .ref q_10])), (q_7, .inl (cA 2, 6, .inr (.inl (fun _ => 0)))), (q_10, .inl (cA 7, 12, .inr (.inr (.inr (.inr f_24))))), (q_11, .inr (7, [.int 0, .int 0, .int 0, .long 0, .long 0])), (q_12, .inr (2, [.int 1, .int 0, .int 0, .int 0, .int 100, .int 0, .int 0, .int 0, .int 0, .int 0, .ref q_13, .ref q_14, .ref q_15, .ref q_16])), (q_13, .inl (cA 2, 6, .inr (.inl (fun _ => 0)))), (q_16, .inl (cA 7, 12, .inr (.inr (.inr (.inr f_25))))), (q_17, .inr (7, [.int 0, .int 0, .int 0, .long 0, .long 0])), (q_18, .inr (3, [.ref q_19, .long 0, .long 0, .long 0, .long 0, .long 0])), (q_20, .inl (cA 5, 10, .inr (.inr (.inr (.inr (fun _ => none)))))), (q_21, .inr (6, [.ref q_22, .int 0, .ref q_23])), (q_22, .inl (cA 0, 1300, .inl (fun _ => 0))), (q_23, .inl (cA 0, 20, .inl (fun _ => 0))), (q_28, .inr (12, [.ref q_31, .ref q_32, .ref q_33, .ref q_34, .ref q_35, .ref q_36, .int 0, .int 0, .long 0, .long 0, .ref q_37, .ref q_38, .ref q_39, .int 0, .int 0, .int 0, .int 0, .int 0, .int (-1), .int 0, .int 0, .ref q_40, .ref q_41, .ref q_42, .int 0])), (q_32, .inl (cA 2, 334, .inr (.inl (fun _ => 0)))), (q_33, .inl (cA 2, 334, .inr (.inl (fun _ => 0)))), (q_34, .inl (cA 2, 334, .inr (.inl (fun _ => 0)))), (q_35, .inl (cA 2, 334, .inr (.inl (fun _ => 0)))), (q_36, .inl (cA 2, 3340, .inr (.inl (fun _ => 0)))), (q_37, .inl (cA 2, 12, .inr (.inl (fun _ => 0)))), (q_38, .inl (cA 3, 12, .inl (fun _ => 0))), (q_39, .inl (cA 0, 400, .inl (fun _ => 0))), (q_40, .inl (cA 2, 6, .inr (.inl (fun _ => 0)))), (q_41, .inl (cA 2, 6, .inr (.inl (fun _ => 0)))), (q_42, .inl (cA 0, 2400, .inl (fun _ => 0))), (q_31, .inl (cA 2, 334, .inr (.inl (vp_updL (vp_updL (fun _ => 0) 0 1) 4 100)))), (q_43, .inl (cA 2, 1, .inr (.inl (fun _ => 0)))), (q_44, .inl (cA 4, 1, .inr (.inr (.inr (.inl (fun _ => 0))))))]) 156 10481 2064 [(5, .int 0), (4, .ref q_44), (3, .ref q_43), (2, .ref q_28), (1, .ref q_1), (0, .ref b)] [] := by
  refine jj_aload_n C dL_law_2064 rfl ?_
  refine jq_callV (rest := []) C (ct_X10_wouldMerge_1 hl D cA ak q_1 q_6 q_12 q_7 q_13 q_4 q_18 q_20 q_21 q_8 q_9 q_10 q_14 q_15 q_16) [0, 3, 7, 4, 8] [1, 2, 5, 6, 9, 10, 11, 12, 13, 14, 15, 16, 17, 18, 19, 20, 21, 22, 23, 24, 25, 26, 27, 28, 29, 30] rfl rfl (by decide) (by decide) (by decide) 0 rfl rfl rfl jw_1391 jw_1392 jw_1393 jw_271 jw_890 jn_X10_wouldMerge rfl (jj_le rfl) (jj_le rfl) (jj_le rfl) (jj_le rfl) (jj_le rfl) dL_law_2065 rfl (fun _ _ hX => hX.elim) (fun w1 r O_47 => ?_)
  obtain rfl := O_47
  refine jj_left ?_
  refine jj_aload_n C dL_law_2068 rfl ?_
  refine jq_callV (rest := [.int 0]) C (ct_X11_wouldMerge_1 hl D cA ak q_28 q_31 q_33 q_32 q_34 q_35 q_36 q_37 q_38 q_39 q_40 q_41 q_42) [11, 23, 13] [0, 1, 2, 3, 4, 5, 6, 7, 8, 9, 10, 12, 14, 15, 16, 17, 18, 19, 20, 21, 22, 24, 25] rfl rfl (by decide) (by decide) (by decide) 0 rfl rfl rfl jw_1395 jw_1396 jw_1397 jw_224 jw_891 jn_X11_wouldMerge rfl (jj_le rfl) (jj_le rfl) (jj_le rfl) (jj_le rfl) (jj_le rfl) dL_law_2069 rfl (fun _ _ hX => hX.elim) (fun w1 r O_49 => ?_)
  obtain ⟨rfl, rfl⟩ := O_49
  refine jj_apd rfl ?_
  refine jj_icmp_eqT (tgt := 2259) C dL_law_2072 (by decide) (by decide) ?_
  exact jj_loc [5, 0] rfl (jj_drop [] rfl (by decide) (jj_widen (k := 600006) (n := 7302072) (jj_le rfl) (jj_le rfl) hend))

set_option maxHeartbeats 4000000 in
set_option maxRecDepth 100000 in
theorem law_c38 {p : Program} {l : Launch} {e : Env} {s : State} {m : MethodId} {below : List Frame} {meth : Method} {c : Code} (hl : l.stackTraces = false) {D : va_G} {cA : Nat → ClassId} {ak : (Nat → Nat) × (Nat → Nat)} {A : Nat → Prop} {b : Nat} {xs : Nat → Int32} {Q : State → Prop} (C : jj_C p l s m #[Value.ref b] meth c code 9 R_law ret D cA A ak) (hX : va_X b 6 xs s s.heap) (hbl : b < s.heap.size) (hbA : ¬ A b) (hend : jj_J p l e room_1 s m #[Value.ref b] below meth c 9 A Q (jj_X D A []) 600006 7302072 2259 [(0, .ref b), (5, .int 0)] []) (q_1 q_4 q_5 q_6 q_7 q_8 q_9 q_10 q_11 q_12 q_13 q_14 q_15 q_16 q_17 q_18 q_19 q_20 q_21 q_22 q_23 q_28 q_31 q_32 q_33 q_34 q_35 q_36 q_37 q_38 q_39 q_40 q_41 q_42 q_43 q_44 : Nat) (f_24 : Nat → Option Nat) (f_25 : Nat → Option Nat) (c_26 : f_24 0 = some q_11) (c_27 : f_25 0 = some q_17) : jj_J p l e room_1 s m #[Value.ref b] below meth c 9 A Q (jj_X D A [(q_1, .inr (11, [.ref q_4, .int 0, .int (-1), .ref q_6, .ref q_12, .ref q_18, .ref q_20, .int 0, .int 0, .ref q_21])), (q_4, .inr (10, [.ref q_5, .int 0, .int 0, .int 0, .int 0, .int 0, .int (-1)])), (q_5, .inl (cA 1, 400, .inl (fun _ => 0))), (q_6, .inr (2, [.int 1, .int 0, .int 0, .int 0, .int 100, .int 0, .int 0, .int 0, .int 0, .int 0, .ref q_7, .ref q_8, .ref q_9, .ref q_10])), (q_7, .inl (cA 2, 6, .inr (.inl (fun _ => 0)))), (q_10, .inl (cA 7, 12, .inr (.inr (.inr (.inr f_24))))), (q_11, .inr (7, [.int 0, .int 0, .int 0, .long 0, .long 0])), (q_12, .inr (2, [.int 1, .int 0, .int 0, .int 0, .int 100, .int 0, .int 0, .int 0, .int 0, .int 0, .ref q_13, .ref q_14, .ref q_15, .ref q_16])), (q_13, .inl (cA 2, 6, .inr (.inl (fun _ => 0)))), (q_16, .inl (cA 7, 12, .inr (.inr (.inr (.inr f_25))))), (q_17, .inr (7, [.int 0, .int 0, .int 0, .long 0, .long 0])), (q_18, .inr (3, [.ref q_19, .long 0, .long 0, .long 0, .long 0, .long 0])), (q_20, .inl (cA 5, 10, .inr (.inr (.inr (.inr (fun _ => none)))))), (q_21, .inr (6, [.ref q_22, .int 0, .ref q_23])), (q_22, .inl (cA 0, 1300, .inl (fun _ => 0))), (q_23, .inl (cA 0, 20, .inl (fun _ => 0))), (q_28, .inr (12, [.ref q_31, .ref q_32, .ref q_33, .ref q_34, .ref q_35, .ref q_36, .int 0, .int 0, .long 0, .long 0, .ref q_37, .ref q_38, .ref q_39, .int 0, .int 0, .int 0, .int 0, .int 0, .int (-1), .int 0, .int 0, .ref q_40, .ref q_41, .ref q_42, .int 0])), (q_32, .inl (cA 2, 334, .inr (.inl (fun _ => 0)))), (q_33, .inl (cA 2, 334, .inr (.inl (fun _ => 0)))), (q_34, .inl (cA 2, 334, .inr (.inl (fun _ => 0)))), (q_35, .inl (cA 2, 334, .inr (.inl (fun _ => 0)))), (q_36, .inl (cA 2, 3340, .inr (.inl (fun _ => 0)))), (q_37, .inl (cA 2, 12, .inr (.inl (fun _ => 0)))), (q_38, .inl (cA 3, 12, .inl (fun _ => 0))), (q_39, .inl (cA 0, 400, .inl (fun _ => 0))), (q_40, .inl (cA 2, 6, .inr (.inl (fun _ => 0)))), (q_41, .inl (cA 2, 6, .inr (.inl (fun _ => 0)))), (q_42, .inl (cA 0, 2400, .inl (fun _ => 0))), (q_31, .inl (cA 2, 334, .inr (.inl (vp_updL (vp_updL (fun _ => 0) 0 1) 4 100)))), (q_43, .inl (cA 2, 1, .inr (.inl (fun _ => 0)))), (q_44, .inl (cA 4, 1, .inr (.inr (.inr (.inl (fun _ => 0))))))]) 156 10481 2077 [(5, .int 0), (4, .ref q_44), (3, .ref q_43), (2, .ref q_28), (1, .ref q_1), (0, .ref b)] [] := by
  refine jj_aload_n C dL_law_2077 rfl ?_
  refine jj_aload_n C dL_law_2078 rfl ?_
  refine jj_iload C dL_law_2079 rfl ?_
  refine jj_iconst (v := 1) C dL_law_2081 (by decide) ?_
  refine jj_iadd (v := 1) C dL_law_2082 (by decide) ?_
  refine jj_xld (v := xs 1) C hX hbl hbA (vp_in_iff.mpr (by decide)) rfl dL_law_2083 ?_
  refine jj_aload_n C dL_law_2084 rfl ?_
  refine jq_callSW (rest := []) C (ct_L_bestGate_1 hl D cA ak q_1 q_6 q_43 q_4 q_12 q_18 q_20 q_21 q_7 q_8 q_9 q_10 (xs 1)) [0, 3] [1, 2, 4, 5, 6, 7, 8, 9, 10, 11, 12, 13, 14, 15, 16, 17, 18, 19, 20, 21, 22, 23, 24, 25, 26, 27, 28, 29, 30] rfl rfl (by decide) (by decide) (by decide) jw_1404 jw_1405 jw_985 jw_1403 jn_L_bestGate rfl (jj_le rfl) (jj_le rfl) (jj_le rfl) (jj_le rfl) (jj_le rfl) dL_law_2085 rfl (fun _ _ hX => hX.elim) (fun w1 r O_47 => ?_)
  rcases O_47 with ⟨c_48, rfl, rfl⟩ | ⟨c_49, rfl, rfl⟩
  · refine jj_apd rfl ?_
    refine jj_istore C dL_law_2088 (by decide) rfl ?_
    refine jj_aload_n C dL_law_2090 rfl ?_
    refine jj_aload_n C dL_law_2091 rfl ?_
    refine jj_iload C dL_law_2092 rfl ?_
    refine jj_iconst (v := 1) C dL_law_2094 (by decide) ?_
    refine jj_iadd (v := 1) C dL_law_2095 (by decide) ?_
    refine jj_xld (v := xs 1) C hX hbl hbA (vp_in_iff.mpr (by decide)) rfl dL_law_2096 ?_
    refine jq_callV (rest := []) C (ct_X11_bestGate_1 hl D cA ak q_28 q_31 q_32 q_33 q_34 q_35 q_36 q_37 q_38 q_39 q_40 q_41 q_42 (xs 1)) [14, 26] [0, 1, 2, 3, 4, 5, 6, 7, 8, 9, 10, 11, 12, 13, 15, 16, 17, 18, 19, 20, 21, 22, 23, 24, 25, 27, 28] rfl rfl (by decide) (by decide) (by decide) 0 rfl rfl rfl jw_1407 jw_1408 jw_1409 jw_224 jw_622 jn_X11_bestGate rfl (jj_le rfl) (jj_le rfl) (jj_le rfl) (jj_le rfl) (jj_le rfl) dL_law_2097 rfl (fun _ _ hX => hX.elim) (fun w1 r O_51 => ?_)
    rcases O_51 with ⟨c_52, rfl, rfl⟩ | ⟨c_53, rfl, rfl⟩
    · refine jj_apd rfl ?_
      refine jj_istore C dL_law_2100 (by decide) rfl ?_
      refine jj_aload_n C dL_law_2102 rfl ?_
      refine jq_callV (rest := []) C (ct_X11_thrown_2 hl D cA ak q_28 q_31 q_32 q_33 q_34 q_35 q_36 q_37 q_38 q_39 q_40 q_41 q_42) [28] [0, 1, 2, 3, 4, 5, 6, 7, 8, 9, 10, 11, 12, 13, 14, 15, 16, 17, 18, 19, 20, 21, 22, 23, 24, 25, 26, 27] rfl rfl (by decide) (by decide) (by decide) 0 rfl rfl rfl jw_993 jw_994 jw_995 jw_224 jw_992 jn_X11_thrown rfl (jj_le rfl) (jj_le rfl) (jj_le rfl) (jj_le rfl) (jj_le rfl) dL_law_2103 rfl (fun _ _ hX => hX.elim) (fun w1 r O_55 => ?_)
      obtain ⟨rfl, rfl⟩ := O_55
      refine jj_apd rfl ?_
      refine jj_iload C dL_law_2106 rfl ?_
      refine jj_icmp_eqT (tgt := 2113) C dL_law_2108 (by decide) (by decide) ?_
      refine jj_iload C dL_law_2113 rfl ?_
      refine jj_if_neT (tgt := 2130) C dL_law_2115 (by decide) (by decide) ?_
      refine jj_goto (tgt := 2259) C dL_law_2130 (by decide) ?_
      exact jj_loc [7, 2] rfl (jj_drop [] rfl (by decide) (jj_widen (k := 600006) (n := 7302072) (jj_le rfl) (jj_le rfl) hend))
    · refine jj_apd rfl ?_
      refine jj_istore C dL_law_2100 (by decide) rfl ?_
      refine jj_aload_n C dL_law_2102 rfl ?_
      refine jq_callV (rest := []) C (ct_X11_thrown_2 hl D cA ak q_28 q_31 q_32 q_33 q_34 q_35 q_36 q_37 q_38 q_39 q_40 q_41 q_42) [28] [0, 1, 2, 3, 4, 5, 6, 7, 8, 9, 10, 11, 12, 13, 14, 15, 16, 17, 18, 19, 20, 21, 22, 23, 24, 25, 26, 27] rfl rfl (by decide) (by decide) (by decide) 0 rfl rfl rfl jw_993 jw_994 jw_995 jw_224 jw_992 jn_X11_thrown rfl (jj_le rfl) (jj_le rfl) (jj_le rfl) (jj_le rfl) (jj_le rfl) dL_law_2103 rfl (fun _ _ hX => hX.elim) (fun w1 r O_57 => ?_)
      obtain ⟨rfl, rfl⟩ := O_57
      refine jj_apd rfl ?_
      refine jj_iload C dL_law_2106 rfl ?_
      refine jj_icmp_eqT (tgt := 2113) C dL_law_2108 (by decide) (by decide) ?_
      refine jj_iload C dL_law_2113 rfl ?_
      refine jj_if_neT (tgt := 2130) C dL_law_2115 (by decide) (by decide) ?_
      refine jj_goto (tgt := 2259) C dL_law_2130 (by decide) ?_
      exact jj_loc [7, 2] rfl (jj_drop [] rfl (by decide) (jj_widen (k := 600006) (n := 7302072) (jj_le rfl) (jj_le rfl) hend))
  · refine jj_apd rfl ?_
    refine jj_istore C dL_law_2088 (by decide) rfl ?_
    refine jj_aload_n C dL_law_2090 rfl ?_
    refine jj_aload_n C dL_law_2091 rfl ?_
    refine jj_iload C dL_law_2092 rfl ?_
    refine jj_iconst (v := 1) C dL_law_2094 (by decide) ?_
    refine jj_iadd (v := 1) C dL_law_2095 (by decide) ?_
    refine jj_xld (v := xs 1) C hX hbl hbA (vp_in_iff.mpr (by decide)) rfl dL_law_2096 ?_
    refine jq_callV (rest := []) C (ct_X11_bestGate_1 hl D cA ak q_28 q_31 q_32 q_33 q_34 q_35 q_36 q_37 q_38 q_39 q_40 q_41 q_42 (xs 1)) [14, 26] [0, 1, 2, 3, 4, 5, 6, 7, 8, 9, 10, 11, 12, 13, 15, 16, 17, 18, 19, 20, 21, 22, 23, 24, 25, 27, 28] rfl rfl (by decide) (by decide) (by decide) 0 rfl rfl rfl jw_1407 jw_1408 jw_1409 jw_224 jw_622 jn_X11_bestGate rfl (jj_le rfl) (jj_le rfl) (jj_le rfl) (jj_le rfl) (jj_le rfl) dL_law_2097 rfl (fun _ _ hX => hX.elim) (fun w1 r O_59 => ?_)
    rcases O_59 with ⟨c_60, rfl, rfl⟩ | ⟨c_61, rfl, rfl⟩
    · refine jj_apd rfl ?_
      refine jj_istore C dL_law_2100 (by decide) rfl ?_
      refine jj_aload_n C dL_law_2102 rfl ?_
      refine jq_callV (rest := []) C (ct_X11_thrown_2 hl D cA ak q_28 q_31 q_32 q_33 q_34 q_35 q_36 q_37 q_38 q_39 q_40 q_41 q_42) [28] [0, 1, 2, 3, 4, 5, 6, 7, 8, 9, 10, 11, 12, 13, 14, 15, 16, 17, 18, 19, 20, 21, 22, 23, 24, 25, 26, 27] rfl rfl (by decide) (by decide) (by decide) 0 rfl rfl rfl jw_993 jw_994 jw_995 jw_224 jw_992 jn_X11_thrown rfl (jj_le rfl) (jj_le rfl) (jj_le rfl) (jj_le rfl) (jj_le rfl) dL_law_2103 rfl (fun _ _ hX => hX.elim) (fun w1 r O_63 => ?_)
      obtain ⟨rfl, rfl⟩ := O_63
      refine jj_apd rfl ?_
      refine jj_iload C dL_law_2106 rfl ?_
      refine jj_icmp_eqT (tgt := 2113) C dL_law_2108 (by decide) (by decide) ?_
      refine jj_iload C dL_law_2113 rfl ?_
      refine jj_if_neT (tgt := 2130) C dL_law_2115 (by decide) (by decide) ?_
      refine jj_goto (tgt := 2259) C dL_law_2130 (by decide) ?_
      exact jj_loc [7, 2] rfl (jj_drop [] rfl (by decide) (jj_widen (k := 600006) (n := 7302072) (jj_le rfl) (jj_le rfl) hend))
    · refine jj_apd rfl ?_
      refine jj_istore C dL_law_2100 (by decide) rfl ?_
      refine jj_aload_n C dL_law_2102 rfl ?_
      refine jq_callV (rest := []) C (ct_X11_thrown_2 hl D cA ak q_28 q_31 q_32 q_33 q_34 q_35 q_36 q_37 q_38 q_39 q_40 q_41 q_42) [28] [0, 1, 2, 3, 4, 5, 6, 7, 8, 9, 10, 11, 12, 13, 14, 15, 16, 17, 18, 19, 20, 21, 22, 23, 24, 25, 26, 27] rfl rfl (by decide) (by decide) (by decide) 0 rfl rfl rfl jw_993 jw_994 jw_995 jw_224 jw_992 jn_X11_thrown rfl (jj_le rfl) (jj_le rfl) (jj_le rfl) (jj_le rfl) (jj_le rfl) dL_law_2103 rfl (fun _ _ hX => hX.elim) (fun w1 r O_65 => ?_)
      obtain ⟨rfl, rfl⟩ := O_65
      refine jj_apd rfl ?_
      refine jj_iload C dL_law_2106 rfl ?_
      refine jj_icmp_eqT (tgt := 2113) C dL_law_2108 (by decide) (by decide) ?_
      refine jj_iload C dL_law_2113 rfl ?_
      refine jj_if_neT (tgt := 2130) C dL_law_2115 (by decide) (by decide) ?_
      refine jj_goto (tgt := 2259) C dL_law_2130 (by decide) ?_
      exact jj_loc [7, 2] rfl (jj_drop [] rfl (by decide) (jj_widen (k := 600006) (n := 7302072) (jj_le rfl) (jj_le rfl) hend))

set_option maxHeartbeats 4000000 in
set_option maxRecDepth 100000 in
theorem law_c39 {p : Program} {l : Launch} {e : Env} {s : State} {m : MethodId} {below : List Frame} {meth : Method} {c : Code} (hl : l.stackTraces = false) {D : va_G} {cA : Nat → ClassId} {ak : (Nat → Nat) × (Nat → Nat)} {A : Nat → Prop} {b : Nat} {xs : Nat → Int32} {Q : State → Prop} (C : jj_C p l s m #[Value.ref b] meth c code 9 R_law ret D cA A ak) (hX : va_X b 6 xs s s.heap) (hbl : b < s.heap.size) (hbA : ¬ A b) (hend : jj_J p l e room_1 s m #[Value.ref b] below meth c 9 A Q (jj_X D A []) 600006 7302072 2259 [(0, .ref b), (5, .int 0)] []) (q_1 q_4 q_5 q_6 q_7 q_8 q_9 q_10 q_11 q_12 q_13 q_14 q_15 q_16 q_17 q_18 q_19 q_20 q_21 q_22 q_23 q_28 q_31 q_32 q_33 q_34 q_35 q_36 q_37 q_38 q_39 q_40 q_41 q_42 q_43 q_44 : Nat) (f_24 : Nat → Option Nat) (f_25 : Nat → Option Nat) (c_26 : f_24 0 = some q_11) (c_27 : f_25 0 = some q_17) : jj_J p l e room_1 s m #[Value.ref b] below meth c 9 A Q (jj_X D A [(q_1, .inr (11, [.ref q_4, .int 0, .int (-1), .ref q_6, .ref q_12, .ref q_18, .ref q_20, .int 0, .int 0, .ref q_21])), (q_4, .inr (10, [.ref q_5, .int 0, .int 0, .int 0, .int 0, .int 0, .int (-1)])), (q_5, .inl (cA 1, 400, .inl (fun _ => 0))), (q_6, .inr (2, [.int 1, .int 0, .int 0, .int 0, .int 100, .int 0, .int 0, .int 0, .int 0, .int 0, .ref q_7, .ref q_8, .ref q_9, .ref q_10])), (q_7, .inl (cA 2, 6, .inr (.inl (fun _ => 0)))), (q_10, .inl (cA 7, 12, .inr (.inr (.inr (.inr f_24))))), (q_11, .inr (7, [.int 0, .int 0, .int 0, .long 0, .long 0])), (q_12, .inr (2, [.int 1, .int 0, .int 0, .int 0, .int 100, .int 0, .int 0, .int 0, .int 0, .int 0, .ref q_13, .ref q_14, .ref q_15, .ref q_16])), (q_13, .inl (cA 2, 6, .inr (.inl (fun _ => 0)))), (q_16, .inl (cA 7, 12, .inr (.inr (.inr (.inr f_25))))), (q_17, .inr (7, [.int 0, .int 0, .int 0, .long 0, .long 0])), (q_18, .inr (3, [.ref q_19, .long 0, .long 0, .long 0, .long 0, .long 0])), (q_20, .inl (cA 5, 10, .inr (.inr (.inr (.inr (fun _ => none)))))), (q_21, .inr (6, [.ref q_22, .int 0, .ref q_23])), (q_22, .inl (cA 0, 1300, .inl (fun _ => 0))), (q_23, .inl (cA 0, 20, .inl (fun _ => 0))), (q_28, .inr (12, [.ref q_31, .ref q_32, .ref q_33, .ref q_34, .ref q_35, .ref q_36, .int 0, .int 0, .long 0, .long 0, .ref q_37, .ref q_38, .ref q_39, .int 0, .int 0, .int 0, .int 0, .int 0, .int (-1), .int 0, .int 0, .ref q_40, .ref q_41, .ref q_42, .int 0])), (q_32, .inl (cA 2, 334, .inr (.inl (fun _ => 0)))), (q_33, .inl (cA 2, 334, .inr (.inl (fun _ => 0)))), (q_34, .inl (cA 2, 334, .inr (.inl (fun _ => 0)))), (q_35, .inl (cA 2, 334, .inr (.inl (fun _ => 0)))), (q_36, .inl (cA 2, 3340, .inr (.inl (fun _ => 0)))), (q_37, .inl (cA 2, 12, .inr (.inl (fun _ => 0)))), (q_38, .inl (cA 3, 12, .inl (fun _ => 0))), (q_39, .inl (cA 0, 400, .inl (fun _ => 0))), (q_40, .inl (cA 2, 6, .inr (.inl (fun _ => 0)))), (q_41, .inl (cA 2, 6, .inr (.inl (fun _ => 0)))), (q_42, .inl (cA 0, 2400, .inl (fun _ => 0))), (q_31, .inl (cA 2, 334, .inr (.inl (vp_updL (vp_updL (fun _ => 0) 0 1) 4 100)))), (q_43, .inl (cA 2, 1, .inr (.inl (fun _ => 0)))), (q_44, .inl (cA 4, 1, .inr (.inr (.inr (.inl (fun _ => 0))))))]) 156 10481 2133 [(5, .int 0), (4, .ref q_44), (3, .ref q_43), (2, .ref q_28), (1, .ref q_1), (0, .ref b)] [] := by
  refine jj_aload_n C dL_law_2133 rfl ?_
  refine jq_callV (rest := []) C (ct_X10_writeReport_1 hl D cA ak q_1 q_6 q_21 q_22 q_23 q_4 q_12 q_18 q_20 q_7 q_8 q_9 q_10) [0, 3, 13, 14, 15] [1, 2, 4, 5, 6, 7, 8, 9, 10, 11, 12, 16, 17, 18, 19, 20, 21, 22, 23, 24, 25, 26, 27, 28, 29, 30] rfl rfl (by decide) (by decide) (by decide) 0 rfl rfl rfl jw_1411 jw_1412 jw_1413 jw_271 jw_947 jn_X10_writeReport rfl (jj_le rfl) (jj_le rfl) (jj_le rfl) (jj_le rfl) (jj_le rfl) dL_law_2134 rfl (fun _ _ hX => hX.elim) (fun w1 r O_47 => ?_)
  obtain rfl := O_47
  refine jj_left ?_
  refine jj_aload_n C dL_law_2137 rfl ?_
  refine jq_callV (rest := [.int 15]) C (ct_X11_writeReport_1 hl D cA ak q_28 q_31 q_42 q_32 q_33 q_34 q_35 q_36 q_37 q_38 q_39 q_40 q_41) [11, 23, 22] [0, 1, 2, 3, 4, 5, 6, 7, 8, 9, 10, 12, 13, 14, 15, 16, 17, 18, 19, 20, 21, 24, 25] rfl rfl (by decide) (by decide) (by decide) 0 rfl rfl rfl jw_1415 jw_1416 jw_1417 jw_224 jw_965 jn_X11_writeReport rfl (jj_le rfl) (jj_le rfl) (jj_le rfl) (jj_le rfl) (jj_le rfl) dL_law_2138 rfl (fun _ _ hX => hX.elim) (fun w1 r O_49 => ?_)
  obtain ⟨rfl, rfl⟩ := O_49
  refine jj_apd rfl ?_
  refine jj_icmp_eqT (tgt := 2259) C dL_law_2141 (by decide) (by decide) ?_
  exact jj_loc [5, 0] rfl (jj_drop [] rfl (by decide) (jj_widen (k := 600006) (n := 7302072) (jj_le rfl) (jj_le rfl) hend))

set_option maxHeartbeats 4000000 in
set_option maxRecDepth 100000 in
theorem law_c40 {p : Program} {l : Launch} {e : Env} {s : State} {m : MethodId} {below : List Frame} {meth : Method} {c : Code} (hl : l.stackTraces = false) {D : va_G} {cA : Nat → ClassId} {ak : (Nat → Nat) × (Nat → Nat)} {A : Nat → Prop} {b : Nat} {xs : Nat → Int32} {Q : State → Prop} (C : jj_C p l s m #[Value.ref b] meth c code 9 R_law ret D cA A ak) (hX : va_X b 6 xs s s.heap) (hbl : b < s.heap.size) (hbA : ¬ A b) (hend : jj_J p l e room_1 s m #[Value.ref b] below meth c 9 A Q (jj_X D A []) 600006 7302072 2259 [(0, .ref b), (5, .int 0)] []) (q_1 q_4 q_5 q_6 q_7 q_8 q_9 q_10 q_11 q_12 q_13 q_14 q_15 q_16 q_17 q_18 q_19 q_20 q_21 q_22 q_23 q_28 q_31 q_32 q_33 q_34 q_35 q_36 q_37 q_38 q_39 q_40 q_41 q_42 q_43 q_44 : Nat) (f_24 : Nat → Option Nat) (f_25 : Nat → Option Nat) (c_26 : f_24 0 = some q_11) (c_27 : f_25 0 = some q_17) : jj_J p l e room_1 s m #[Value.ref b] below meth c 9 A Q (jj_X D A [(q_1, .inr (11, [.ref q_4, .int 0, .int (-1), .ref q_6, .ref q_12, .ref q_18, .ref q_20, .int 0, .int 0, .ref q_21])), (q_4, .inr (10, [.ref q_5, .int 0, .int 0, .int 0, .int 0, .int 0, .int (-1)])), (q_5, .inl (cA 1, 400, .inl (fun _ => 0))), (q_6, .inr (2, [.int 1, .int 0, .int 0, .int 0, .int 100, .int 0, .int 0, .int 0, .int 0, .int 0, .ref q_7, .ref q_8, .ref q_9, .ref q_10])), (q_7, .inl (cA 2, 6, .inr (.inl (fun _ => 0)))), (q_10, .inl (cA 7, 12, .inr (.inr (.inr (.inr f_24))))), (q_11, .inr (7, [.int 0, .int 0, .int 0, .long 0, .long 0])), (q_12, .inr (2, [.int 1, .int 0, .int 0, .int 0, .int 100, .int 0, .int 0, .int 0, .int 0, .int 0, .ref q_13, .ref q_14, .ref q_15, .ref q_16])), (q_13, .inl (cA 2, 6, .inr (.inl (fun _ => 0)))), (q_16, .inl (cA 7, 12, .inr (.inr (.inr (.inr f_25))))), (q_17, .inr (7, [.int 0, .int 0, .int 0, .long 0, .long 0])), (q_18, .inr (3, [.ref q_19, .long 0, .long 0, .long 0, .long 0, .long 0])), (q_20, .inl (cA 5, 10, .inr (.inr (.inr (.inr (fun _ => none)))))), (q_21, .inr (6, [.ref q_22, .int 0, .ref q_23])), (q_22, .inl (cA 0, 1300, .inl (fun _ => 0))), (q_23, .inl (cA 0, 20, .inl (fun _ => 0))), (q_28, .inr (12, [.ref q_31, .ref q_32, .ref q_33, .ref q_34, .ref q_35, .ref q_36, .int 0, .int 0, .long 0, .long 0, .ref q_37, .ref q_38, .ref q_39, .int 0, .int 0, .int 0, .int 0, .int 0, .int (-1), .int 0, .int 0, .ref q_40, .ref q_41, .ref q_42, .int 0])), (q_32, .inl (cA 2, 334, .inr (.inl (fun _ => 0)))), (q_33, .inl (cA 2, 334, .inr (.inl (fun _ => 0)))), (q_34, .inl (cA 2, 334, .inr (.inl (fun _ => 0)))), (q_35, .inl (cA 2, 334, .inr (.inl (fun _ => 0)))), (q_36, .inl (cA 2, 3340, .inr (.inl (fun _ => 0)))), (q_37, .inl (cA 2, 12, .inr (.inl (fun _ => 0)))), (q_38, .inl (cA 3, 12, .inl (fun _ => 0))), (q_39, .inl (cA 0, 400, .inl (fun _ => 0))), (q_40, .inl (cA 2, 6, .inr (.inl (fun _ => 0)))), (q_41, .inl (cA 2, 6, .inr (.inl (fun _ => 0)))), (q_42, .inl (cA 0, 2400, .inl (fun _ => 0))), (q_31, .inl (cA 2, 334, .inr (.inl (vp_updL (vp_updL (fun _ => 0) 0 1) 4 100)))), (q_43, .inl (cA 2, 1, .inr (.inl (fun _ => 0)))), (q_44, .inl (cA 4, 1, .inr (.inr (.inr (.inl (fun _ => 0))))))]) 156 10481 2146 [(5, .int 0), (4, .ref q_44), (3, .ref q_43), (2, .ref q_28), (1, .ref q_1), (0, .ref b)] [] := by
  refine jj_aload_n C dL_law_2146 rfl ?_
  refine jj_aload_n C dL_law_2147 rfl ?_
  refine jj_iload C dL_law_2148 rfl ?_
  refine jj_iconst (v := 1) C dL_law_2150 (by decide) ?_
  refine jj_iadd (v := 1) C dL_law_2151 (by decide) ?_
  refine jj_xld (v := xs 1) C hX hbl hbA (vp_in_iff.mpr (by decide)) rfl dL_law_2152 ?_
  refine jj_aload_n C dL_law_2153 rfl ?_
  refine jq_callSW (rest := []) C (ct_L_reportByte_1 hl D cA ak q_1 q_21 q_43 q_4 q_6 q_12 q_18 q_20 q_22 q_23 (xs 1)) [0, 13] [1, 2, 3, 4, 5, 6, 7, 8, 9, 10, 11, 12, 14, 15, 16, 17, 18, 19, 20, 21, 22, 23, 24, 25, 26, 27, 28, 29, 30] rfl rfl (by decide) (by decide) (by decide) jw_1424 jw_1425 jw_985 jw_1423 jn_L_reportByte rfl (jj_le rfl) (jj_le rfl) (jj_le rfl) (jj_le rfl) (jj_le rfl) dL_law_2154 rfl (fun _ _ hX => hX.elim) (fun w1 r O_47 => ?_)
  rcases O_47 with ⟨c_48, rfl, rfl⟩ | ⟨c_49, rfl, rfl⟩
  · refine jj_apd rfl ?_
    refine jj_istore C dL_law_2157 (by decide) rfl ?_
    refine jj_aload_n C dL_law_2159 rfl ?_
    refine jj_aload_n C dL_law_2160 rfl ?_
    refine jj_iload C dL_law_2161 rfl ?_
    refine jj_iconst (v := 1) C dL_law_2163 (by decide) ?_
    refine jj_iadd (v := 1) C dL_law_2164 (by decide) ?_
    refine jj_xld (v := xs 1) C hX hbl hbA (vp_in_iff.mpr (by decide)) rfl dL_law_2165 ?_
    refine jq_callV (rest := []) C (ct_X11_reportByte_1 hl D cA ak q_28 q_31 q_32 q_33 q_34 q_35 q_36 q_37 q_38 q_39 q_40 q_41 q_42 (xs 1)) [14] [0, 1, 2, 3, 4, 5, 6, 7, 8, 9, 10, 11, 12, 13, 15, 16, 17, 18, 19, 20, 21, 22, 23, 24, 25, 26, 27, 28] rfl rfl (by decide) (by decide) (by decide) 0 rfl rfl rfl jw_1427 jw_1428 jw_1429 jw_224 jw_626 jn_X11_reportByte rfl (jj_le rfl) (jj_le rfl) (jj_le rfl) (jj_le rfl) (jj_le rfl) dL_law_2166 rfl (fun _ _ hX => hX.elim) (fun w1 r O_51 => ?_)
    rcases O_51 with ⟨c_52, rfl, rfl⟩ | ⟨c_53, rfl, rfl⟩
    · refine jj_apd rfl ?_
      refine jj_istore C dL_law_2169 (by decide) rfl ?_
      refine jj_aload_n C dL_law_2171 rfl ?_
      refine jq_callV (rest := []) C (ct_X11_thrown_2 hl D cA ak q_28 q_31 q_32 q_33 q_34 q_35 q_36 q_37 q_38 q_39 q_40 q_41 q_42) [28] [0, 1, 2, 3, 4, 5, 6, 7, 8, 9, 10, 11, 12, 13, 14, 15, 16, 17, 18, 19, 20, 21, 22, 23, 24, 25, 26, 27] rfl rfl (by decide) (by decide) (by decide) 0 rfl rfl rfl jw_993 jw_994 jw_995 jw_224 jw_992 jn_X11_thrown rfl (jj_le rfl) (jj_le rfl) (jj_le rfl) (jj_le rfl) (jj_le rfl) dL_law_2172 rfl (fun _ _ hX => hX.elim) (fun w1 r O_55 => ?_)
      obtain ⟨rfl, rfl⟩ := O_55
      refine jj_apd rfl ?_
      refine jj_iload C dL_law_2175 rfl ?_
      refine jj_icmp_eqT (tgt := 2182) C dL_law_2177 (by decide) (by decide) ?_
      refine jj_iload C dL_law_2182 rfl ?_
      refine jj_if_neT (tgt := 2199) C dL_law_2184 (by decide) (by decide) ?_
      refine jj_goto (tgt := 2259) C dL_law_2199 (by decide) ?_
      exact jj_loc [7, 2] rfl (jj_drop [] rfl (by decide) (jj_widen (k := 600006) (n := 7302072) (jj_le rfl) (jj_le rfl) hend))
    · refine jj_apd rfl ?_
      refine jj_istore C dL_law_2169 (by decide) rfl ?_
      refine jj_aload_n C dL_law_2171 rfl ?_
      refine jq_callV (rest := []) C (ct_X11_thrown_2 hl D cA ak q_28 q_31 q_32 q_33 q_34 q_35 q_36 q_37 q_38 q_39 q_40 q_41 q_42) [28] [0, 1, 2, 3, 4, 5, 6, 7, 8, 9, 10, 11, 12, 13, 14, 15, 16, 17, 18, 19, 20, 21, 22, 23, 24, 25, 26, 27] rfl rfl (by decide) (by decide) (by decide) 0 rfl rfl rfl jw_993 jw_994 jw_995 jw_224 jw_992 jn_X11_thrown rfl (jj_le rfl) (jj_le rfl) (jj_le rfl) (jj_le rfl) (jj_le rfl) dL_law_2172 rfl (fun _ _ hX => hX.elim) (fun w1 r O_57 => ?_)
      obtain ⟨rfl, rfl⟩ := O_57
      refine jj_apd rfl ?_
      refine jj_iload C dL_law_2175 rfl ?_
      refine jj_icmp_eqT (tgt := 2182) C dL_law_2177 (by decide) (by decide) ?_
      refine jj_iload C dL_law_2182 rfl ?_
      refine jj_if_neT (tgt := 2199) C dL_law_2184 (by decide) (by decide) ?_
      refine jj_goto (tgt := 2259) C dL_law_2199 (by decide) ?_
      exact jj_loc [7, 2] rfl (jj_drop [] rfl (by decide) (jj_widen (k := 600006) (n := 7302072) (jj_le rfl) (jj_le rfl) hend))
  · refine jj_apd rfl ?_
    refine jj_istore C dL_law_2157 (by decide) rfl ?_
    refine jj_aload_n C dL_law_2159 rfl ?_
    refine jj_aload_n C dL_law_2160 rfl ?_
    refine jj_iload C dL_law_2161 rfl ?_
    refine jj_iconst (v := 1) C dL_law_2163 (by decide) ?_
    refine jj_iadd (v := 1) C dL_law_2164 (by decide) ?_
    refine jj_xld (v := xs 1) C hX hbl hbA (vp_in_iff.mpr (by decide)) rfl dL_law_2165 ?_
    refine jq_callV (rest := []) C (ct_X11_reportByte_1 hl D cA ak q_28 q_31 q_32 q_33 q_34 q_35 q_36 q_37 q_38 q_39 q_40 q_41 q_42 (xs 1)) [14] [0, 1, 2, 3, 4, 5, 6, 7, 8, 9, 10, 11, 12, 13, 15, 16, 17, 18, 19, 20, 21, 22, 23, 24, 25, 26, 27, 28] rfl rfl (by decide) (by decide) (by decide) 0 rfl rfl rfl jw_1427 jw_1428 jw_1429 jw_224 jw_626 jn_X11_reportByte rfl (jj_le rfl) (jj_le rfl) (jj_le rfl) (jj_le rfl) (jj_le rfl) dL_law_2166 rfl (fun _ _ hX => hX.elim) (fun w1 r O_59 => ?_)
    rcases O_59 with ⟨c_60, rfl, rfl⟩ | ⟨c_61, rfl, rfl⟩
    · refine jj_apd rfl ?_
      refine jj_istore C dL_law_2169 (by decide) rfl ?_
      refine jj_aload_n C dL_law_2171 rfl ?_
      refine jq_callV (rest := []) C (ct_X11_thrown_2 hl D cA ak q_28 q_31 q_32 q_33 q_34 q_35 q_36 q_37 q_38 q_39 q_40 q_41 q_42) [28] [0, 1, 2, 3, 4, 5, 6, 7, 8, 9, 10, 11, 12, 13, 14, 15, 16, 17, 18, 19, 20, 21, 22, 23, 24, 25, 26, 27] rfl rfl (by decide) (by decide) (by decide) 0 rfl rfl rfl jw_993 jw_994 jw_995 jw_224 jw_992 jn_X11_thrown rfl (jj_le rfl) (jj_le rfl) (jj_le rfl) (jj_le rfl) (jj_le rfl) dL_law_2172 rfl (fun _ _ hX => hX.elim) (fun w1 r O_63 => ?_)
      obtain ⟨rfl, rfl⟩ := O_63
      refine jj_apd rfl ?_
      refine jj_iload C dL_law_2175 rfl ?_
      refine jj_icmp_eqT (tgt := 2182) C dL_law_2177 (by decide) (by decide) ?_
      refine jj_iload C dL_law_2182 rfl ?_
      refine jj_if_neT (tgt := 2199) C dL_law_2184 (by decide) (by decide) ?_
      refine jj_goto (tgt := 2259) C dL_law_2199 (by decide) ?_
      exact jj_loc [7, 2] rfl (jj_drop [] rfl (by decide) (jj_widen (k := 600006) (n := 7302072) (jj_le rfl) (jj_le rfl) hend))
    · refine jj_apd rfl ?_
      refine jj_istore C dL_law_2169 (by decide) rfl ?_
      refine jj_aload_n C dL_law_2171 rfl ?_
      refine jq_callV (rest := []) C (ct_X11_thrown_2 hl D cA ak q_28 q_31 q_32 q_33 q_34 q_35 q_36 q_37 q_38 q_39 q_40 q_41 q_42) [28] [0, 1, 2, 3, 4, 5, 6, 7, 8, 9, 10, 11, 12, 13, 14, 15, 16, 17, 18, 19, 20, 21, 22, 23, 24, 25, 26, 27] rfl rfl (by decide) (by decide) (by decide) 0 rfl rfl rfl jw_993 jw_994 jw_995 jw_224 jw_992 jn_X11_thrown rfl (jj_le rfl) (jj_le rfl) (jj_le rfl) (jj_le rfl) (jj_le rfl) dL_law_2172 rfl (fun _ _ hX => hX.elim) (fun w1 r O_65 => ?_)
      obtain ⟨rfl, rfl⟩ := O_65
      refine jj_apd rfl ?_
      refine jj_iload C dL_law_2175 rfl ?_
      refine jj_icmp_eqT (tgt := 2182) C dL_law_2177 (by decide) (by decide) ?_
      refine jj_iload C dL_law_2182 rfl ?_
      refine jj_if_neT (tgt := 2199) C dL_law_2184 (by decide) (by decide) ?_
      refine jj_goto (tgt := 2259) C dL_law_2199 (by decide) ?_
      exact jj_loc [7, 2] rfl (jj_drop [] rfl (by decide) (jj_widen (k := 600006) (n := 7302072) (jj_le rfl) (jj_le rfl) hend))

set_option maxHeartbeats 4000000 in
set_option maxRecDepth 100000 in
theorem law_c41 {p : Program} {l : Launch} {e : Env} {s : State} {m : MethodId} {below : List Frame} {meth : Method} {c : Code} (hl : l.stackTraces = false) {D : va_G} {cA : Nat → ClassId} {ak : (Nat → Nat) × (Nat → Nat)} {A : Nat → Prop} {b : Nat} {xs : Nat → Int32} {Q : State → Prop} (C : jj_C p l s m #[Value.ref b] meth c code 9 R_law ret D cA A ak) (hX : va_X b 6 xs s s.heap) (hbl : b < s.heap.size) (hbA : ¬ A b) (hend : jj_J p l e room_1 s m #[Value.ref b] below meth c 9 A Q (jj_X D A []) 600006 7302072 2259 [(0, .ref b), (5, .int 0)] []) (q_1 q_4 q_5 q_6 q_7 q_8 q_9 q_10 q_11 q_12 q_13 q_14 q_15 q_16 q_17 q_18 q_19 q_20 q_21 q_22 q_23 q_28 q_31 q_32 q_33 q_34 q_35 q_36 q_37 q_38 q_39 q_40 q_41 q_42 q_43 q_44 : Nat) (f_24 : Nat → Option Nat) (f_25 : Nat → Option Nat) (c_26 : f_24 0 = some q_11) (c_27 : f_25 0 = some q_17) : jj_J p l e room_1 s m #[Value.ref b] below meth c 9 A Q (jj_X D A [(q_1, .inr (11, [.ref q_4, .int 0, .int (-1), .ref q_6, .ref q_12, .ref q_18, .ref q_20, .int 0, .int 0, .ref q_21])), (q_4, .inr (10, [.ref q_5, .int 0, .int 0, .int 0, .int 0, .int 0, .int (-1)])), (q_5, .inl (cA 1, 400, .inl (fun _ => 0))), (q_6, .inr (2, [.int 1, .int 0, .int 0, .int 0, .int 100, .int 0, .int 0, .int 0, .int 0, .int 0, .ref q_7, .ref q_8, .ref q_9, .ref q_10])), (q_7, .inl (cA 2, 6, .inr (.inl (fun _ => 0)))), (q_10, .inl (cA 7, 12, .inr (.inr (.inr (.inr f_24))))), (q_11, .inr (7, [.int 0, .int 0, .int 0, .long 0, .long 0])), (q_12, .inr (2, [.int 1, .int 0, .int 0, .int 0, .int 100, .int 0, .int 0, .int 0, .int 0, .int 0, .ref q_13, .ref q_14, .ref q_15, .ref q_16])), (q_13, .inl (cA 2, 6, .inr (.inl (fun _ => 0)))), (q_16, .inl (cA 7, 12, .inr (.inr (.inr (.inr f_25))))), (q_17, .inr (7, [.int 0, .int 0, .int 0, .long 0, .long 0])), (q_18, .inr (3, [.ref q_19, .long 0, .long 0, .long 0, .long 0, .long 0])), (q_20, .inl (cA 5, 10, .inr (.inr (.inr (.inr (fun _ => none)))))), (q_21, .inr (6, [.ref q_22, .int 0, .ref q_23])), (q_22, .inl (cA 0, 1300, .inl (fun _ => 0))), (q_23, .inl (cA 0, 20, .inl (fun _ => 0))), (q_28, .inr (12, [.ref q_31, .ref q_32, .ref q_33, .ref q_34, .ref q_35, .ref q_36, .int 0, .int 0, .long 0, .long 0, .ref q_37, .ref q_38, .ref q_39, .int 0, .int 0, .int 0, .int 0, .int 0, .int (-1), .int 0, .int 0, .ref q_40, .ref q_41, .ref q_42, .int 0])), (q_32, .inl (cA 2, 334, .inr (.inl (fun _ => 0)))), (q_33, .inl (cA 2, 334, .inr (.inl (fun _ => 0)))), (q_34, .inl (cA 2, 334, .inr (.inl (fun _ => 0)))), (q_35, .inl (cA 2, 334, .inr (.inl (fun _ => 0)))), (q_36, .inl (cA 2, 3340, .inr (.inl (fun _ => 0)))), (q_37, .inl (cA 2, 12, .inr (.inl (fun _ => 0)))), (q_38, .inl (cA 3, 12, .inl (fun _ => 0))), (q_39, .inl (cA 0, 400, .inl (fun _ => 0))), (q_40, .inl (cA 2, 6, .inr (.inl (fun _ => 0)))), (q_41, .inl (cA 2, 6, .inr (.inl (fun _ => 0)))), (q_42, .inl (cA 0, 2400, .inl (fun _ => 0))), (q_31, .inl (cA 2, 334, .inr (.inl (vp_updL (vp_updL (fun _ => 0) 0 1) 4 100)))), (q_43, .inl (cA 2, 1, .inr (.inl (fun _ => 0)))), (q_44, .inl (cA 4, 1, .inr (.inr (.inr (.inl (fun _ => 0))))))]) 156 10481 2202 [(5, .int 0), (4, .ref q_44), (3, .ref q_43), (2, .ref q_28), (1, .ref q_1), (0, .ref b)] [] := by
  refine jj_aload_n C dL_law_2202 rfl ?_
  refine jj_aload_n C dL_law_2203 rfl ?_
  refine jq_callSW (rest := []) C (ct_L_undo_1 hl D cA ak q_1 q_43 q_4 q_6 q_12 q_18 q_20 q_21) [0] [1, 2, 3, 4, 5, 6, 7, 8, 9, 10, 11, 12, 13, 14, 15, 16, 17, 18, 19, 20, 21, 22, 23, 24, 25, 26, 27, 28, 29, 30] rfl rfl (by decide) (by decide) (by decide) jw_1436 jw_1437 jw_985 jw_1435 jn_L_undo rfl (jj_le rfl) (jj_le rfl) (jj_le rfl) (jj_le rfl) (jj_le rfl) dL_law_2204 rfl (fun _ _ hX => hX.elim) (fun w1 r O_47 => ?_)
  obtain ⟨rfl, rfl⟩ := O_47
  refine jj_apd rfl ?_
  refine jj_istore C dL_law_2207 (by decide) rfl ?_
  refine jj_aload_n C dL_law_2209 rfl ?_
  refine jq_callV (rest := []) C (ct_X11_undo_1 hl D cA ak q_28 q_31 q_32 q_33 q_34 q_35 q_36 q_37 q_38 q_39 q_40 q_41 q_42) [15] [0, 1, 2, 3, 4, 5, 6, 7, 8, 9, 10, 11, 12, 13, 14, 16, 17, 18, 19, 20, 21, 22, 23, 24, 25, 26, 27, 28, 29] rfl rfl (by decide) (by decide) (by decide) 0 rfl rfl rfl jw_1439 jw_1440 jw_1441 jw_224 jw_628 jn_X11_undo rfl (jj_le rfl) (jj_le rfl) (jj_le rfl) (jj_le rfl) (jj_le rfl) dL_law_2210 rfl (fun _ _ hX => hX.elim) (fun w1 r O_49 => ?_)
  obtain ⟨rfl, rfl⟩ := O_49
  refine jj_apd rfl ?_
  refine jj_istore C dL_law_2213 (by decide) rfl ?_
  refine jj_aload_n C dL_law_2215 rfl ?_
  refine jq_callV (rest := []) C (ct_X11_thrown_2 hl D cA ak q_28 q_31 q_32 q_33 q_34 q_35 q_36 q_37 q_38 q_39 q_40 q_41 q_42) [29] [0, 1, 2, 3, 4, 5, 6, 7, 8, 9, 10, 11, 12, 13, 14, 15, 16, 17, 18, 19, 20, 21, 22, 23, 24, 25, 26, 27, 28] rfl rfl (by decide) (by decide) (by decide) 0 rfl rfl rfl jw_993 jw_994 jw_995 jw_224 jw_992 jn_X11_thrown rfl (jj_le rfl) (jj_le rfl) (jj_le rfl) (jj_le rfl) (jj_le rfl) dL_law_2216 rfl (fun _ _ hX => hX.elim) (fun w1 r O_51 => ?_)
  obtain ⟨rfl, rfl⟩ := O_51
  refine jj_apd rfl ?_
  refine jj_iload C dL_law_2219 rfl ?_
  refine jj_icmp_eqT (tgt := 2226) C dL_law_2221 (by decide) (by decide) ?_
  refine jj_iload C dL_law_2226 rfl ?_
  refine jj_if_neT (tgt := 2243) C dL_law_2228 (by decide) (by decide) ?_
  refine jj_goto (tgt := 2259) C dL_law_2243 (by decide) ?_
  exact jj_loc [7, 2] rfl (jj_drop [] rfl (by decide) (jj_widen (k := 600006) (n := 7302072) (jj_le rfl) (jj_le rfl) hend))

set_option maxHeartbeats 4000000 in
set_option maxRecDepth 100000 in
theorem law_c42 {p : Program} {l : Launch} {e : Env} {s : State} {m : MethodId} {below : List Frame} {meth : Method} {c : Code} (hl : l.stackTraces = false) {D : va_G} {cA : Nat → ClassId} {ak : (Nat → Nat) × (Nat → Nat)} {A : Nat → Prop} {b : Nat} {xs : Nat → Int32} {Q : State → Prop} (C : jj_C p l s m #[Value.ref b] meth c code 9 R_law ret D cA A ak) (hX : va_X b 6 xs s s.heap) (hbl : b < s.heap.size) (hbA : ¬ A b) (hend : jj_J p l e room_1 s m #[Value.ref b] below meth c 9 A Q (jj_X D A []) 600006 7302072 2259 [(0, .ref b), (5, .int 0)] []) (q_1 q_4 q_5 q_6 q_7 q_8 q_9 q_10 q_11 q_12 q_13 q_14 q_15 q_16 q_17 q_18 q_19 q_20 q_21 q_22 q_23 q_28 q_31 q_32 q_33 q_34 q_35 q_36 q_37 q_38 q_39 q_40 q_41 q_42 q_43 q_44 : Nat) (f_24 : Nat → Option Nat) (f_25 : Nat → Option Nat) (c_26 : f_24 0 = some q_11) (c_27 : f_25 0 = some q_17) : jj_J p l e room_1 s m #[Value.ref b] below meth c 9 A Q (jj_X D A [(q_1, .inr (11, [.ref q_4, .int 0, .int (-1), .ref q_6, .ref q_12, .ref q_18, .ref q_20, .int 0, .int 0, .ref q_21])), (q_4, .inr (10, [.ref q_5, .int 0, .int 0, .int 0, .int 0, .int 0, .int (-1)])), (q_5, .inl (cA 1, 400, .inl (fun _ => 0))), (q_6, .inr (2, [.int 1, .int 0, .int 0, .int 0, .int 100, .int 0, .int 0, .int 0, .int 0, .int 0, .ref q_7, .ref q_8, .ref q_9, .ref q_10])), (q_7, .inl (cA 2, 6, .inr (.inl (fun _ => 0)))), (q_10, .inl (cA 7, 12, .inr (.inr (.inr (.inr f_24))))), (q_11, .inr (7, [.int 0, .int 0, .int 0, .long 0, .long 0])), (q_12, .inr (2, [.int 1, .int 0, .int 0, .int 0, .int 100, .int 0, .int 0, .int 0, .int 0, .int 0, .ref q_13, .ref q_14, .ref q_15, .ref q_16])), (q_13, .inl (cA 2, 6, .inr (.inl (fun _ => 0)))), (q_16, .inl (cA 7, 12, .inr (.inr (.inr (.inr f_25))))), (q_17, .inr (7, [.int 0, .int 0, .int 0, .long 0, .long 0])), (q_18, .inr (3, [.ref q_19, .long 0, .long 0, .long 0, .long 0, .long 0])), (q_20, .inl (cA 5, 10, .inr (.inr (.inr (.inr (fun _ => none)))))), (q_21, .inr (6, [.ref q_22, .int 0, .ref q_23])), (q_22, .inl (cA 0, 1300, .inl (fun _ => 0))), (q_23, .inl (cA 0, 20, .inl (fun _ => 0))), (q_28, .inr (12, [.ref q_31, .ref q_32, .ref q_33, .ref q_34, .ref q_35, .ref q_36, .int 0, .int 0, .long 0, .long 0, .ref q_37, .ref q_38, .ref q_39, .int 0, .int 0, .int 0, .int 0, .int 0, .int (-1), .int 0, .int 0, .ref q_40, .ref q_41, .ref q_42, .int 0])), (q_32, .inl (cA 2, 334, .inr (.inl (fun _ => 0)))), (q_33, .inl (cA 2, 334, .inr (.inl (fun _ => 0)))), (q_34, .inl (cA 2, 334, .inr (.inl (fun _ => 0)))), (q_35, .inl (cA 2, 334, .inr (.inl (fun _ => 0)))), (q_36, .inl (cA 2, 3340, .inr (.inl (fun _ => 0)))), (q_37, .inl (cA 2, 12, .inr (.inl (fun _ => 0)))), (q_38, .inl (cA 3, 12, .inl (fun _ => 0))), (q_39, .inl (cA 0, 400, .inl (fun _ => 0))), (q_40, .inl (cA 2, 6, .inr (.inl (fun _ => 0)))), (q_41, .inl (cA 2, 6, .inr (.inl (fun _ => 0)))), (q_42, .inl (cA 0, 2400, .inl (fun _ => 0))), (q_31, .inl (cA 2, 334, .inr (.inl (vp_updL (vp_updL (fun _ => 0) 0 1) 4 100)))), (q_43, .inl (cA 2, 1, .inr (.inl (fun _ => 0)))), (q_44, .inl (cA 4, 1, .inr (.inr (.inr (.inl (fun _ => 0))))))]) 156 10481 2246 [(5, .int 0), (4, .ref q_44), (3, .ref q_43), (2, .ref q_28), (1, .ref q_1), (0, .ref b)] [] := by
  refine jj_aload_n C dL_law_2246 rfl ?_
  refine jq_callV (rest := []) C (ct_X10_undoDepth_1 hl D cA ak q_1 q_4 q_6 q_12 q_18 q_20 q_21) [0] [1, 2, 3, 4, 5, 6, 7, 8, 9, 10, 11, 12, 13, 14, 15, 16, 17, 18, 19, 20, 21, 22, 23, 24, 25, 26, 27, 28, 29, 30] rfl rfl (by decide) (by decide) (by decide) 0 rfl rfl rfl jw_1443 jw_1444 jw_1445 jw_271 jw_966 jn_X10_undoDepth rfl (jj_le rfl) (jj_le rfl) (jj_le rfl) (jj_le rfl) (jj_le rfl) dL_law_2247 rfl (fun _ _ hX => hX.elim) (fun w1 r O_47 => ?_)
  obtain rfl := O_47
  refine jj_left ?_
  refine jj_aload_n C dL_law_2250 rfl ?_
  refine jq_callV (rest := [.int 0]) C (ct_X11_undoDepth_1 hl D cA ak q_28 q_31 q_32 q_33 q_34 q_35 q_36 q_37 q_38 q_39 q_40 q_41 q_42) [15] [0, 1, 2, 3, 4, 5, 6, 7, 8, 9, 10, 11, 12, 13, 14, 16, 17, 18, 19, 20, 21, 22, 23, 24, 25, 26, 27, 28, 29] rfl rfl (by decide) (by decide) (by decide) 0 rfl rfl rfl jw_1447 jw_1448 jw_1449 jw_224 jw_967 jn_X11_undoDepth rfl (jj_le rfl) (jj_le rfl) (jj_le rfl) (jj_le rfl) (jj_le rfl) dL_law_2251 rfl (fun _ _ hX => hX.elim) (fun w1 r O_49 => ?_)
  obtain ⟨rfl, rfl⟩ := O_49
  refine jj_apd rfl ?_
  refine jj_icmp_eqT (tgt := 2259) C dL_law_2254 (by decide) (by decide) ?_
  exact jj_loc [5, 0] rfl (jj_drop [] rfl (by decide) (jj_widen (k := 600006) (n := 7302072) (jj_le rfl) (jj_le rfl) hend))

set_option maxHeartbeats 4000000 in
set_option maxRecDepth 100000 in
theorem law_cd {p : Program} {l : Launch} {e : Env} {s : State} {m : MethodId} {below : List Frame} {meth : Method} {c : Code} (hl : l.stackTraces = false) {D : va_G} {cA : Nat → ClassId} {ak : (Nat → Nat) × (Nat → Nat)} {A : Nat → Prop} {b : Nat} {xs : Nat → Int32} {Q : State → Prop} (C : jj_C p l s m #[Value.ref b] meth c code 9 R_law ret D cA A ak) (hX : va_X b 6 xs s s.heap) (hbl : b < s.heap.size) (hbA : ¬ A b) (hend : jj_J p l e room_1 s m #[Value.ref b] below meth c 9 A Q (jj_X D A []) 600006 7302072 2259 [(0, .ref b), (5, .int 0)] []) (q_1 q_4 q_5 q_6 q_7 q_8 q_9 q_10 q_11 q_12 q_13 q_14 q_15 q_16 q_17 q_18 q_19 q_20 q_21 q_22 q_23 q_28 q_31 q_32 q_33 q_34 q_35 q_36 q_37 q_38 q_39 q_40 q_41 q_42 q_43 q_44 : Nat) (f_24 : Nat → Option Nat) (f_25 : Nat → Option Nat) (c_26 : f_24 0 = some q_11) (c_27 : f_25 0 = some q_17) : jj_J p l e room_1 s m #[Value.ref b] below meth c 9 A Q (jj_X D A [(q_1, .inr (11, [.ref q_4, .int 0, .int (-1), .ref q_6, .ref q_12, .ref q_18, .ref q_20, .int 0, .int 0, .ref q_21])), (q_4, .inr (10, [.ref q_5, .int 0, .int 0, .int 0, .int 0, .int 0, .int (-1)])), (q_5, .inl (cA 1, 400, .inl (fun _ => 0))), (q_6, .inr (2, [.int 1, .int 0, .int 0, .int 0, .int 100, .int 0, .int 0, .int 0, .int 0, .int 0, .ref q_7, .ref q_8, .ref q_9, .ref q_10])), (q_7, .inl (cA 2, 6, .inr (.inl (fun _ => 0)))), (q_10, .inl (cA 7, 12, .inr (.inr (.inr (.inr f_24))))), (q_11, .inr (7, [.int 0, .int 0, .int 0, .long 0, .long 0])), (q_12, .inr (2, [.int 1, .int 0, .int 0, .int 0, .int 100, .int 0, .int 0, .int 0, .int 0, .int 0, .ref q_13, .ref q_14, .ref q_15, .ref q_16])), (q_13, .inl (cA 2, 6, .inr (.inl (fun _ => 0)))), (q_16, .inl (cA 7, 12, .inr (.inr (.inr (.inr f_25))))), (q_17, .inr (7, [.int 0, .int 0, .int 0, .long 0, .long 0])), (q_18, .inr (3, [.ref q_19, .long 0, .long 0, .long 0, .long 0, .long 0])), (q_20, .inl (cA 5, 10, .inr (.inr (.inr (.inr (fun _ => none)))))), (q_21, .inr (6, [.ref q_22, .int 0, .ref q_23])), (q_22, .inl (cA 0, 1300, .inl (fun _ => 0))), (q_23, .inl (cA 0, 20, .inl (fun _ => 0))), (q_28, .inr (12, [.ref q_31, .ref q_32, .ref q_33, .ref q_34, .ref q_35, .ref q_36, .int 0, .int 0, .long 0, .long 0, .ref q_37, .ref q_38, .ref q_39, .int 0, .int 0, .int 0, .int 0, .int 0, .int (-1), .int 0, .int 0, .ref q_40, .ref q_41, .ref q_42, .int 0])), (q_32, .inl (cA 2, 334, .inr (.inl (fun _ => 0)))), (q_33, .inl (cA 2, 334, .inr (.inl (fun _ => 0)))), (q_34, .inl (cA 2, 334, .inr (.inl (fun _ => 0)))), (q_35, .inl (cA 2, 334, .inr (.inl (fun _ => 0)))), (q_36, .inl (cA 2, 3340, .inr (.inl (fun _ => 0)))), (q_37, .inl (cA 2, 12, .inr (.inl (fun _ => 0)))), (q_38, .inl (cA 3, 12, .inl (fun _ => 0))), (q_39, .inl (cA 0, 400, .inl (fun _ => 0))), (q_40, .inl (cA 2, 6, .inr (.inl (fun _ => 0)))), (q_41, .inl (cA 2, 6, .inr (.inl (fun _ => 0)))), (q_42, .inl (cA 0, 2400, .inl (fun _ => 0))), (q_31, .inl (cA 2, 334, .inr (.inl (vp_updL (vp_updL (fun _ => 0) 0 1) 4 100)))), (q_43, .inl (cA 2, 1, .inr (.inl (fun _ => 0)))), (q_44, .inl (cA 4, 1, .inr (.inr (.inr (.inl (fun _ => 0))))))]) 156 10481 2259 [(5, .int 0), (4, .ref q_44), (3, .ref q_43), (2, .ref q_28), (1, .ref q_1), (0, .ref b)] [] := by
  exact jj_loc [5, 0] rfl (jj_drop [] rfl (by decide) (jj_widen (k := 600006) (n := 7302072) (jj_le rfl) (jj_le rfl) hend))

set_option maxHeartbeats 4000000 in
set_option maxRecDepth 100000 in
theorem law_L6 {p : Program} {l : Launch} {e : Env} {s : State} {m : MethodId} {below : List Frame} {meth : Method} {c : Code} (hl : l.stackTraces = false) {D : va_G} {cA : Nat → ClassId} {ak : (Nat → Nat) × (Nat → Nat)} {A : Nat → Prop} {b : Nat} {xs : Nat → Int32} {Q : State → Prop} (C : jj_C p l s m #[Value.ref b] meth c code 9 R_law ret D cA A ak) (hX : va_X b 6 xs s s.heap) (hbl : b < s.heap.size) (hbA : ¬ A b) (hend : jj_J p l e room_1 s m #[Value.ref b] below meth c 9 A Q (jj_X D A []) 600006 7302072 2259 [(0, .ref b), (5, .int 0)] []) (q_1 q_4 q_5 q_6 q_7 q_8 q_9 q_10 q_11 q_12 q_13 q_14 q_15 q_16 q_17 q_18 q_19 q_20 q_21 q_22 q_23 q_28 q_31 q_32 q_33 q_34 q_35 q_36 q_37 q_38 q_39 q_40 q_41 q_42 q_43 q_44 : Nat) (f_24 : Nat → Option Nat) (f_25 : Nat → Option Nat) (c_26 : f_24 0 = some q_11) (c_27 : f_25 0 = some q_17) : jj_J p l e room_1 s m #[Value.ref b] below meth c 9 A Q (jj_X D A [(q_1, .inr (11, [.ref q_4, .int 0, .int (-1), .ref q_6, .ref q_12, .ref q_18, .ref q_20, .int 0, .int 0, .ref q_21])), (q_4, .inr (10, [.ref q_5, .int 0, .int 0, .int 0, .int 0, .int 0, .int (-1)])), (q_5, .inl (cA 1, 400, .inl (fun _ => 0))), (q_6, .inr (2, [.int 1, .int 0, .int 0, .int 0, .int 100, .int 0, .int 0, .int 0, .int 0, .int 0, .ref q_7, .ref q_8, .ref q_9, .ref q_10])), (q_7, .inl (cA 2, 6, .inr (.inl (fun _ => 0)))), (q_10, .inl (cA 7, 12, .inr (.inr (.inr (.inr f_24))))), (q_11, .inr (7, [.int 0, .int 0, .int 0, .long 0, .long 0])), (q_12, .inr (2, [.int 1, .int 0, .int 0, .int 0, .int 100, .int 0, .int 0, .int 0, .int 0, .int 0, .ref q_13, .ref q_14, .ref q_15, .ref q_16])), (q_13, .inl (cA 2, 6, .inr (.inl (fun _ => 0)))), (q_16, .inl (cA 7, 12, .inr (.inr (.inr (.inr f_25))))), (q_17, .inr (7, [.int 0, .int 0, .int 0, .long 0, .long 0])), (q_18, .inr (3, [.ref q_19, .long 0, .long 0, .long 0, .long 0, .long 0])), (q_20, .inl (cA 5, 10, .inr (.inr (.inr (.inr (fun _ => none)))))), (q_21, .inr (6, [.ref q_22, .int 0, .ref q_23])), (q_22, .inl (cA 0, 1300, .inl (fun _ => 0))), (q_23, .inl (cA 0, 20, .inl (fun _ => 0))), (q_28, .inr (12, [.ref q_31, .ref q_32, .ref q_33, .ref q_34, .ref q_35, .ref q_36, .int 0, .int 0, .long 0, .long 0, .ref q_37, .ref q_38, .ref q_39, .int 0, .int 0, .int 0, .int 0, .int 0, .int (-1), .int 0, .int 0, .ref q_40, .ref q_41, .ref q_42, .int 0])), (q_32, .inl (cA 2, 334, .inr (.inl (fun _ => 0)))), (q_33, .inl (cA 2, 334, .inr (.inl (fun _ => 0)))), (q_34, .inl (cA 2, 334, .inr (.inl (fun _ => 0)))), (q_35, .inl (cA 2, 334, .inr (.inl (fun _ => 0)))), (q_36, .inl (cA 2, 3340, .inr (.inl (fun _ => 0)))), (q_37, .inl (cA 2, 12, .inr (.inl (fun _ => 0)))), (q_38, .inl (cA 3, 12, .inl (fun _ => 0))), (q_39, .inl (cA 0, 400, .inl (fun _ => 0))), (q_40, .inl (cA 2, 6, .inr (.inl (fun _ => 0)))), (q_41, .inl (cA 2, 6, .inr (.inl (fun _ => 0)))), (q_42, .inl (cA 0, 2400, .inl (fun _ => 0))), (q_31, .inl (cA 2, 334, .inr (.inl (vp_updL (vp_updL (fun _ => 0) 0 1) 4 100)))), (q_43, .inl (cA 2, 1, .inr (.inl (fun _ => 0)))), (q_44, .inl (cA 4, 1, .inr (.inr (.inr (.inl (fun _ => 0))))))]) 156 10481 28 [(5, .int 0), (4, .ref q_44), (3, .ref q_43), (2, .ref q_28), (1, .ref q_1), (0, .ref b)] [] := by
  refine jj_iload C dL_law_28 rfl ?_
  refine jj_aload_n C dL_law_30 rfl ?_
  refine jj_xlen (v := 6) C hX hbl hbA (by decide) dL_law_31 ?_
  refine jj_bipush (v := 6) C dL_law_32 (by decide) ?_
  refine jj_isub (v := 0) C dL_law_34 (by decide) ?_
  refine jj_icmp_gtF (tgt := 2265) C dL_law_35 (by decide) (by decide) ?_
  refine jj_aload_n C dL_law_38 rfl ?_
  refine jj_iload C dL_law_39 rfl ?_
  refine jj_xld (v := xs 0) C hX hbl hbA (vp_in_iff.mpr (by decide)) rfl dL_law_41 ?_
  refine jj_bipush (v := 63) C dL_law_42 (by decide) ?_
  refine jj_iand C dL_law_44 rfl ?_
  rcases jj_em ((xs 0) &&& 63 = 0) with h0 | h0
  · refine jj_tableIn (tgt := 232) C dL_law_45 (by rw [h0]; decide) (by rw [h0]; decide) (by rw [h0]; rfl) (by decide) ?_
    exact law_c0 hl C hX hbl hbA hend q_1 q_4 q_5 q_6 q_7 q_8 q_9 q_10 q_11 q_12 q_13 q_14 q_15 q_16 q_17 q_18 q_19 q_20 q_21 q_22 q_23 q_28 q_31 q_32 q_33 q_34 q_35 q_36 q_37 q_38 q_39 q_40 q_41 q_42 q_43 q_44 f_24 f_25 c_26 c_27
  rcases jj_em ((xs 0) &&& 63 = 1) with h1 | h1
  · refine jj_tableIn (tgt := 336) C dL_law_45 (by rw [h1]; decide) (by rw [h1]; decide) (by rw [h1]; rfl) (by decide) ?_
    exact law_c1 hl C hX hbl hbA hend q_1 q_4 q_5 q_6 q_7 q_8 q_9 q_10 q_11 q_12 q_13 q_14 q_15 q_16 q_17 q_18 q_19 q_20 q_21 q_22 q_23 q_28 q_31 q_32 q_33 q_34 q_35 q_36 q_37 q_38 q_39 q_40 q_41 q_42 q_43 q_44 f_24 f_25 c_26 c_27
  rcases jj_em ((xs 0) &&& 63 = 2) with h2 | h2
  · refine jj_tableIn (tgt := 392) C dL_law_45 (by rw [h2]; decide) (by rw [h2]; decide) (by rw [h2]; rfl) (by decide) ?_
    exact law_c2 hl C hX hbl hbA hend q_1 q_4 q_5 q_6 q_7 q_8 q_9 q_10 q_11 q_12 q_13 q_14 q_15 q_16 q_17 q_18 q_19 q_20 q_21 q_22 q_23 q_28 q_31 q_32 q_33 q_34 q_35 q_36 q_37 q_38 q_39 q_40 q_41 q_42 q_43 q_44 f_24 f_25 c_26 c_27
  rcases jj_em ((xs 0) &&& 63 = 3) with h3 | h3
  · refine jj_tableIn (tgt := 405) C dL_law_45 (by rw [h3]; decide) (by rw [h3]; decide) (by rw [h3]; rfl) (by decide) ?_
    exact law_c3 hl C hX hbl hbA hend q_1 q_4 q_5 q_6 q_7 q_8 q_9 q_10 q_11 q_12 q_13 q_14 q_15 q_16 q_17 q_18 q_19 q_20 q_21 q_22 q_23 q_28 q_31 q_32 q_33 q_34 q_35 q_36 q_37 q_38 q_39 q_40 q_41 q_42 q_43 q_44 f_24 f_25 c_26 c_27
  rcases jj_em ((xs 0) &&& 63 = 4) with h4 | h4
  · refine jj_tableIn (tgt := 418) C dL_law_45 (by rw [h4]; decide) (by rw [h4]; decide) (by rw [h4]; rfl) (by decide) ?_
    exact law_c4 hl C hX hbl hbA hend q_1 q_4 q_5 q_6 q_7 q_8 q_9 q_10 q_11 q_12 q_13 q_14 q_15 q_16 q_17 q_18 q_19 q_20 q_21 q_22 q_23 q_28 q_31 q_32 q_33 q_34 q_35 q_36 q_37 q_38 q_39 q_40 q_41 q_42 q_43 q_44 f_24 f_25 c_26 c_27
  rcases jj_em ((xs 0) &&& 63 = 5) with h5 | h5
  · refine jj_tableIn (tgt := 431) C dL_law_45 (by rw [h5]; decide) (by rw [h5]; decide) (by rw [h5]; rfl) (by decide) ?_
    exact law_c5 hl C hX hbl hbA hend q_1 q_4 q_5 q_6 q_7 q_8 q_9 q_10 q_11 q_12 q_13 q_14 q_15 q_16 q_17 q_18 q_19 q_20 q_21 q_22 q_23 q_28 q_31 q_32 q_33 q_34 q_35 q_36 q_37 q_38 q_39 q_40 q_41 q_42 q_43 q_44 f_24 f_25 c_26 c_27
  rcases jj_em ((xs 0) &&& 63 = 6) with h6 | h6
  · refine jj_tableIn (tgt := 499) C dL_law_45 (by rw [h6]; decide) (by rw [h6]; decide) (by rw [h6]; rfl) (by decide) ?_
    exact law_c6 hl C hX hbl hbA hend q_1 q_4 q_5 q_6 q_7 q_8 q_9 q_10 q_11 q_12 q_13 q_14 q_15 q_16 q_17 q_18 q_19 q_20 q_21 q_22 q_23 q_28 q_31 q_32 q_33 q_34 q_35 q_36 q_37 q_38 q_39 q_40 q_41 q_42 q_43 q_44 f_24 f_25 c_26 c_27
  rcases jj_em ((xs 0) &&& 63 = 7) with h7 | h7
  · refine jj_tableIn (tgt := 567) C dL_law_45 (by rw [h7]; decide) (by rw [h7]; decide) (by rw [h7]; rfl) (by decide) ?_
    exact law_c7 hl C hX hbl hbA hend q_1 q_4 q_5 q_6 q_7 q_8 q_9 q_10 q_11 q_12 q_13 q_14 q_15 q_16 q_17 q_18 q_19 q_20 q_21 q_22 q_23 q_28 q_31 q_32 q_33 q_34 q_35 q_36 q_37 q_38 q_39 q_40 q_41 q_42 q_43 q_44 f_24 f_25 c_26 c_27
  rcases jj_em ((xs 0) &&& 63 = 8) with h8 | h8
  · refine jj_tableIn (tgt := 622) C dL_law_45 (by rw [h8]; decide) (by rw [h8]; decide) (by rw [h8]; rfl) (by decide) ?_
    exact law_c8 hl C hX hbl hbA hend q_1 q_4 q_5 q_6 q_7 q_8 q_9 q_10 q_11 q_12 q_13 q_14 q_15 q_16 q_17 q_18 q_19 q_20 q_21 q_22 q_23 q_28 q_31 q_32 q_33 q_34 q_35 q_36 q_37 q_38 q_39 q_40 q_41 q_42 q_43 q_44 f_24 f_25 c_26 c_27
  rcases jj_em ((xs 0) &&& 63 = 9) with h9 | h9
  · refine jj_tableIn (tgt := 635) C dL_law_45 (by rw [h9]; decide) (by rw [h9]; decide) (by rw [h9]; rfl) (by decide) ?_
    exact law_c9 hl C hX hbl hbA hend q_1 q_4 q_5 q_6 q_7 q_8 q_9 q_10 q_11 q_12 q_13 q_14 q_15 q_16 q_17 q_18 q_19 q_20 q_21 q_22 q_23 q_28 q_31 q_32 q_33 q_34 q_35 q_36 q_37 q_38 q_39 q_40 q_41 q_42 q_43 q_44 f_24 f_25 c_26 c_27
  rcases jj_em ((xs 0) &&& 63 = 10) with h10 | h10
  · refine jj_tableIn (tgt := 690) C dL_law_45 (by rw [h10]; decide) (by rw [h10]; decide) (by rw [h10]; rfl) (by decide) ?_
    exact law_c10 hl C hX hbl hbA hend q_1 q_4 q_5 q_6 q_7 q_8 q_9 q_10 q_11 q_12 q_13 q_14 q_15 q_16 q_17 q_18 q_19 q_20 q_21 q_22 q_23 q_28 q_31 q_32 q_33 q_34 q_35 q_36 q_37 q_38 q_39 q_40 q_41 q_42 q_43 q_44 f_24 f_25 c_26 c_27
  rcases jj_em ((xs 0) &&& 63 = 11) with h11 | h11
  · refine jj_tableIn (tgt := 745) C dL_law_45 (by rw [h11]; decide) (by rw [h11]; decide) (by rw [h11]; rfl) (by decide) ?_
    exact law_c11 hl C hX hbl hbA hend q_1 q_4 q_5 q_6 q_7 q_8 q_9 q_10 q_11 q_12 q_13 q_14 q_15 q_16 q_17 q_18 q_19 q_20 q_21 q_22 q_23 q_28 q_31 q_32 q_33 q_34 q_35 q_36 q_37 q_38 q_39 q_40 q_41 q_42 q_43 q_44 f_24 f_25 c_26 c_27
  rcases jj_em ((xs 0) &&& 63 = 12) with h12 | h12
  · refine jj_tableIn (tgt := 759) C dL_law_45 (by rw [h12]; decide) (by rw [h12]; decide) (by rw [h12]; rfl) (by decide) ?_
    exact law_c12 hl C hX hbl hbA hend q_1 q_4 q_5 q_6 q_7 q_8 q_9 q_10 q_11 q_12 q_13 q_14 q_15 q_16 q_17 q_18 q_19 q_20 q_21 q_22 q_23 q_28 q_31 q_32 q_33 q_34 q_35 q_36 q_37 q_38 q_39 q_40 q_41 q_42 q_43 q_44 f_24 f_25 c_26 c_27
  rcases jj_em ((xs 0) &&& 63 = 13) with h13 | h13
  · refine jj_tableIn (tgt := 772) C dL_law_45 (by rw [h13]; decide) (by rw [h13]; decide) (by rw [h13]; rfl) (by decide) ?_
    exact law_c13 hl C hX hbl hbA hend q_1 q_4 q_5 q_6 q_7 q_8 q_9 q_10 q_11 q_12 q_13 q_14 q_15 q_16 q_17 q_18 q_19 q_20 q_21 q_22 q_23 q_28 q_31 q_32 q_33 q_34 q_35 q_36 q_37 q_38 q_39 q_40 q_41 q_42 q_43 q_44 f_24 f_25 c_26 c_27
  rcases jj_em ((xs 0) &&& 63 = 14) with h14 | h14
  · refine jj_tableIn (tgt := 851) C dL_law_45 (by rw [h14]; decide) (by rw [h14]; decide) (by rw [h14]; rfl) (by decide) ?_
    exact law_c14 hl C hX hbl hbA hend q_1 q_4 q_5 q_6 q_7 q_8 q_9 q_10 q_11 q_12 q_13 q_14 q_15 q_16 q_17 q_18 q_19 q_20 q_21 q_22 q_23 q_28 q_31 q_32 q_33 q_34 q_35 q_36 q_37 q_38 q_39 q_40 q_41 q_42 q_43 q_44 f_24 f_25 c_26 c_27
  rcases jj_em ((xs 0) &&& 63 = 15) with h15 | h15
  · refine jj_tableIn (tgt := 907) C dL_law_45 (by rw [h15]; decide) (by rw [h15]; decide) (by rw [h15]; rfl) (by decide) ?_
    exact law_c15 hl C hX hbl hbA hend q_1 q_4 q_5 q_6 q_7 q_8 q_9 q_10 q_11 q_12 q_13 q_14 q_15 q_16 q_17 q_18 q_19 q_20 q_21 q_22 q_23 q_28 q_31 q_32 q_33 q_34 q_35 q_36 q_37 q_38 q_39 q_40 q_41 q_42 q_43 q_44 f_24 f_25 c_26 c_27
  rcases jj_em ((xs 0) &&& 63 = 16) with h16 | h16
  · refine jj_tableIn (tgt := 920) C dL_law_45 (by rw [h16]; decide) (by rw [h16]; decide) (by rw [h16]; rfl) (by decide) ?_
    exact law_c16 hl C hX hbl hbA hend q_1 q_4 q_5 q_6 q_7 q_8 q_9 q_10 q_11 q_12 q_13 q_14 q_15 q_16 q_17 q_18 q_19 q_20 q_21 q_22 q_23 q_28 q_31 q_32 q_33 q_34 q_35 q_36 q_37 q_38 q_39 q_40 q_41 q_42 q_43 q_44 f_24 f_25 c_26 c_27
  rcases jj_em ((xs 0) &&& 63 = 17) with h17 | h17
  · refine jj_tableIn (tgt := 976) C dL_law_45 (by rw [h17]; decide) (by rw [h17]; decide) (by rw [h17]; rfl) (by decide) ?_
    exact law_c17 hl C hX hbl hbA hend q_1 q_4 q_5 q_6 q_7 q_8 q_9 q_10 q_11 q_12 q_13 q_14 q_15 q_16 q_17 q_18 q_19 q_20 q_21 q_22 q_23 q_28 q_31 q_32 q_33 q_34 q_35 q_36 q_37 q_38 q_39 q_40 q_41 q_42 q_43 q_44 f_24 f_25 c_26 c_27
  rcases jj_em ((xs 0) &&& 63 = 18) with h18 | h18
  · refine jj_tableIn (tgt := 990) C dL_law_45 (by rw [h18]; decide) (by rw [h18]; decide) (by rw [h18]; rfl) (by decide) ?_
    exact law_c18 hl C hX hbl hbA hend q_1 q_4 q_5 q_6 q_7 q_8 q_9 q_10 q_11 q_12 q_13 q_14 q_15 q_16 q_17 q_18 q_19 q_20 q_21 q_22 q_23 q_28 q_31 q_32 q_33 q_34 q_35 q_36 q_37 q_38 q_39 q_40 q_41 q_42 q_43 q_44 f_24 f_25 c_26 c_27
  rcases jj_em ((xs 0) &&& 63 = 19) with h19 | h19
  · refine jj_tableIn (tgt := 1045) C dL_law_45 (by rw [h19]; decide) (by rw [h19]; decide) (by rw [h19]; rfl) (by decide) ?_
    exact law_c19 hl C hX hbl hbA hend q_1 q_4 q_5 q_6 q_7 q_8 q_9 q_10 q_11 q_12 q_13 q_14 q_15 q_16 q_17 q_18 q_19 q_20 q_21 q_22 q_23 q_28 q_31 q_32 q_33 q_34 q_35 q_36 q_37 q_38 q_39 q_40 q_41 q_42 q_43 q_44 f_24 f_25 c_26 c_27
  rcases jj_em ((xs 0) &&& 63 = 20) with h20 | h20
  · refine jj_tableIn (tgt := 1101) C dL_law_45 (by rw [h20]; decide) (by rw [h20]; decide) (by rw [h20]; rfl) (by decide) ?_
    exact law_c20 hl C hX hbl hbA hend q_1 q_4 q_5 q_6 q_7 q_8 q_9 q_10 q_11 q_12 q_13 q_14 q_15 q_16 q_17 q_18 q_19 q_20 q_21 q_22 q_23 q_28 q_31 q_32 q_33 q_34 q_35 q_36 q_37 q_38 q_39 q_40 q_41 q_42 q_43 q_44 f_24 f_25 c_26 c_27
  rcases jj_em ((xs 0) &&& 63 = 21) with h21 | h21
  · refine jj_tableIn (tgt := 1168) C dL_law_45 (by rw [h21]; decide) (by rw [h21]; decide) (by rw [h21]; rfl) (by decide) ?_
    exact law_c21 hl C hX hbl hbA hend q_1 q_4 q_5 q_6 q_7 q_8 q_9 q_10 q_11 q_12 q_13 q_14 q_15 q_16 q_17 q_18 q_19 q_20 q_21 q_22 q_23 q_28 q_31 q_32 q_33 q_34 q_35 q_36 q_37 q_38 q_39 q_40 q_41 q_42 q_43 q_44 f_24 f_25 c_26 c_27
  rcases jj_em ((xs 0) &&& 63 = 22) with h22 | h22
  · refine jj_tableIn (tgt := 1235) C dL_law_45 (by rw [h22]; decide) (by rw [h22]; decide) (by rw [h22]; rfl) (by decide) ?_
    exact law_c22 hl C hX hbl hbA hend q_1 q_4 q_5 q_6 q_7 q_8 q_9 q_10 q_11 q_12 q_13 q_14 q_15 q_16 q_17 q_18 q_19 q_20 q_21 q_22 q_23 q_28 q_31 q_32 q_33 q_34 q_35 q_36 q_37 q_38 q_39 q_40 q_41 q_42 q_43 q_44 f_24 f_25 c_26 c_27
  rcases jj_em ((xs 0) &&& 63 = 23) with h23 | h23
  · refine jj_tableIn (tgt := 1302) C dL_law_45 (by rw [h23]; decide) (by rw [h23]; decide) (by rw [h23]; rfl) (by decide) ?_
    exact law_c23 hl C hX hbl hbA hend q_1 q_4 q_5 q_6 q_7 q_8 q_9 q_10 q_11 q_12 q_13 q_14 q_15 q_16 q_17 q_18 q_19 q_20 q_21 q_22 q_23 q_28 q_31 q_32 q_33 q_34 q_35 q_36 q_37 q_38 q_39 q_40 q_41 q_42 q_43 q_44 f_24 f_25 c_26 c_27
  rcases jj_em ((xs 0) &&& 63 = 24) with h24 | h24
  · refine jj_tableIn (tgt := 1357) C dL_law_45 (by rw [h24]; decide) (by rw [h24]; decide) (by rw [h24]; rfl) (by decide) ?_
    exact law_c24 hl C hX hbl hbA hend q_1 q_4 q_5 q_6 q_7 q_8 q_9 q_10 q_11 q_12 q_13 q_14 q_15 q_16 q_17 q_18 q_19 q_20 q_21 q_22 q_23 q_28 q_31 q_32 q_33 q_34 q_35 q_36 q_37 q_38 q_39 q_40 q_41 q_42 q_43 q_44 f_24 f_25 c_26 c_27
  rcases jj_em ((xs 0) &&& 63 = 25) with h25 | h25
  · refine jj_tableIn (tgt := 1424) C dL_law_45 (by rw [h25]; decide) (by rw [h25]; decide) (by rw [h25]; rfl) (by decide) ?_
    exact law_c25 hl C hX hbl hbA hend q_1 q_4 q_5 q_6 q_7 q_8 q_9 q_10 q_11 q_12 q_13 q_14 q_15 q_16 q_17 q_18 q_19 q_20 q_21 q_22 q_23 q_28 q_31 q_32 q_33 q_34 q_35 q_36 q_37 q_38 q_39 q_40 q_41 q_42 q_43 q_44 f_24 f_25 c_26 c_27
  rcases jj_em ((xs 0) &&& 63 = 26) with h26 | h26
  · refine jj_tableIn (tgt := 1479) C dL_law_45 (by rw [h26]; decide) (by rw [h26]; decide) (by rw [h26]; rfl) (by decide) ?_
    exact law_c26 hl C hX hbl hbA hend q_1 q_4 q_5 q_6 q_7 q_8 q_9 q_10 q_11 q_12 q_13 q_14 q_15 q_16 q_17 q_18 q_19 q_20 q_21 q_22 q_23 q_28 q_31 q_32 q_33 q_34 q_35 q_36 q_37 q_38 q_39 q_40 q_41 q_42 q_43 q_44 f_24 f_25 c_26 c_27
  rcases jj_em ((xs 0) &&& 63 = 27) with h27 | h27
  · refine jj_tableIn (tgt := 1535) C dL_law_45 (by rw [h27]; decide) (by rw [h27]; decide) (by rw [h27]; rfl) (by decide) ?_
    exact law_c27 hl C hX hbl hbA hend q_1 q_4 q_5 q_6 q_7 q_8 q_9 q_10 q_11 q_12 q_13 q_14 q_15 q_16 q_17 q_18 q_19 q_20 q_21 q_22 q_23 q_28 q_31 q_32 q_33 q_34 q_35 q_36 q_37 q_38 q_39 q_40 q_41 q_42 q_43 q_44 f_24 f_25 c_26 c_27
  rcases jj_em ((xs 0) &&& 63 = 28) with h28 | h28
  · refine jj_tableIn (tgt := 1612) C dL_law_45 (by rw [h28]; decide) (by rw [h28]; decide) (by rw [h28]; rfl) (by decide) ?_
    exact law_c28 hl C hX hbl hbA hend q_1 q_4 q_5 q_6 q_7 q_8 q_9 q_10 q_11 q_12 q_13 q_14 q_15 q_16 q_17 q_18 q_19 q_20 q_21 q_22 q_23 q_28 q_31 q_32 q_33 q_34 q_35 q_36 q_37 q_38 q_39 q_40 q_41 q_42 q_43 q_44 f_24 f_25 c_26 c_27
  rcases jj_em ((xs 0) &&& 63 = 29) with h29 | h29
  · refine jj_tableIn (tgt := 1626) C dL_law_45 (by rw [h29]; decide) (by rw [h29]; decide) (by rw [h29]; rfl) (by decide) ?_
    exact law_c29 hl C hX hbl hbA hend q_1 q_4 q_5 q_6 q_7 q_8 q_9 q_10 q_11 q_12 q_13 q_14 q_15 q_16 q_17 q_18 q_19 q_20 q_21 q_22 q_23 q_28 q_31 q_32 q_33 q_34 q_35 q_36 q_37 q_38 q_39 q_40 q_41 q_42 q_43 q_44 f_24 f_25 c_26 c_27
  rcases jj_em ((xs 0) &&& 63 = 30) with h30 | h30
  · refine jj_tableIn (tgt := 1640) C dL_law_45 (by rw [h30]; decide) (by rw [h30]; decide) (by rw [h30]; rfl) (by decide) ?_
    exact law_c30 hl C hX hbl hbA hend q_1 q_4 q_5 q_6 q_7 q_8 q_9 q_10 q_11 q_12 q_13 q_14 q_15 q_16 q_17 q_18 q_19 q_20 q_21 q_22 q_23 q_28 q_31 q_32 q_33 q_34 q_35 q_36 q_37 q_38 q_39 q_40 q_41 q_42 q_43 q_44 f_24 f_25 c_26 c_27
  rcases jj_em ((xs 0) &&& 63 = 31) with h31 | h31
  · refine jj_tableIn (tgt := 1695) C dL_law_45 (by rw [h31]; decide) (by rw [h31]; decide) (by rw [h31]; rfl) (by decide) ?_
    exact law_c31 hl C hX hbl hbA hend q_1 q_4 q_5 q_6 q_7 q_8 q_9 q_10 q_11 q_12 q_13 q_14 q_15 q_16 q_17 q_18 q_19 q_20 q_21 q_22 q_23 q_28 q_31 q_32 q_33 q_34 q_35 q_36 q_37 q_38 q_39 q_40 q_41 q_42 q_43 q_44 f_24 f_25 c_26 c_27
  rcases jj_em ((xs 0) &&& 63 = 32) with h32 | h32
  · refine jj_tableIn (tgt := 1751) C dL_law_45 (by rw [h32]; decide) (by rw [h32]; decide) (by rw [h32]; rfl) (by decide) ?_
    exact law_c32 hl C hX hbl hbA hend q_1 q_4 q_5 q_6 q_7 q_8 q_9 q_10 q_11 q_12 q_13 q_14 q_15 q_16 q_17 q_18 q_19 q_20 q_21 q_22 q_23 q_28 q_31 q_32 q_33 q_34 q_35 q_36 q_37 q_38 q_39 q_40 q_41 q_42 q_43 q_44 f_24 f_25 c_26 c_27
  rcases jj_em ((xs 0) &&& 63 = 33) with h33 | h33
  · refine jj_tableIn (tgt := 1806) C dL_law_45 (by rw [h33]; decide) (by rw [h33]; decide) (by rw [h33]; rfl) (by decide) ?_
    exact law_c33 hl C hX hbl hbA hend q_1 q_4 q_5 q_6 q_7 q_8 q_9 q_10 q_11 q_12 q_13 q_14 q_15 q_16 q_17 q_18 q_19 q_20 q_21 q_22 q_23 q_28 q_31 q_32 q_33 q_34 q_35 q_36 q_37 q_38 q_39 q_40 q_41 q_42 q_43 q_44 f_24 f_25 c_26 c_27
  rcases jj_em ((xs 0) &&& 63 = 34) with h34 | h34
  · refine jj_tableIn (tgt := 1862) C dL_law_45 (by rw [h34]; decide) (by rw [h34]; decide) (by rw [h34]; rfl) (by decide) ?_
    exact law_c34 hl C hX hbl hbA hend q_1 q_4 q_5 q_6 q_7 q_8 q_9 q_10 q_11 q_12 q_13 q_14 q_15 q_16 q_17 q_18 q_19 q_20 q_21 q_22 q_23 q_28 q_31 q_32 q_33 q_34 q_35 q_36 q_37 q_38 q_39 q_40 q_41 q_42 q_43 q_44 f_24 f_25 c_26 c_27
  rcases jj_em ((xs 0) &&& 63 = 35) with h35 | h35
  · refine jj_tableIn (tgt := 1962) C dL_law_45 (by rw [h35]; decide) (by rw [h35]; decide) (by rw [h35]; rfl) (by decide) ?_
    exact law_c35 hl C hX hbl hbA hend q_1 q_4 q_5 q_6 q_7 q_8 q_9 q_10 q_11 q_12 q_13 q_14 q_15 q_16 q_17 q_18 q_19 q_20 q_21 q_22 q_23 q_28 q_31 q_32 q_33 q_34 q_35 q_36 q_37 q_38 q_39 q_40 q_41 q_42 q_43 q_44 f_24 f_25 c_26 c_27
  rcases jj_em ((xs 0) &&& 63 = 36) with h36 | h36
  · refine jj_tableIn (tgt := 2050) C dL_law_45 (by rw [h36]; decide) (by rw [h36]; decide) (by rw [h36]; rfl) (by decide) ?_
    exact law_c36 hl C hX hbl hbA hend q_1 q_4 q_5 q_6 q_7 q_8 q_9 q_10 q_11 q_12 q_13 q_14 q_15 q_16 q_17 q_18 q_19 q_20 q_21 q_22 q_23 q_28 q_31 q_32 q_33 q_34 q_35 q_36 q_37 q_38 q_39 q_40 q_41 q_42 q_43 q_44 f_24 f_25 c_26 c_27
  rcases jj_em ((xs 0) &&& 63 = 37) with h37 | h37
  · refine jj_tableIn (tgt := 2064) C dL_law_45 (by rw [h37]; decide) (by rw [h37]; decide) (by rw [h37]; rfl) (by decide) ?_
    exact law_c37 hl C hX hbl hbA hend q_1 q_4 q_5 q_6 q_7 q_8 q_9 q_10 q_11 q_12 q_13 q_14 q_15 q_16 q_17 q_18 q_19 q_20 q_21 q_22 q_23 q_28 q_31 q_32 q_33 q_34 q_35 q_36 q_37 q_38 q_39 q_40 q_41 q_42 q_43 q_44 f_24 f_25 c_26 c_27
  rcases jj_em ((xs 0) &&& 63 = 38) with h38 | h38
  · refine jj_tableIn (tgt := 2077) C dL_law_45 (by rw [h38]; decide) (by rw [h38]; decide) (by rw [h38]; rfl) (by decide) ?_
    exact law_c38 hl C hX hbl hbA hend q_1 q_4 q_5 q_6 q_7 q_8 q_9 q_10 q_11 q_12 q_13 q_14 q_15 q_16 q_17 q_18 q_19 q_20 q_21 q_22 q_23 q_28 q_31 q_32 q_33 q_34 q_35 q_36 q_37 q_38 q_39 q_40 q_41 q_42 q_43 q_44 f_24 f_25 c_26 c_27
  rcases jj_em ((xs 0) &&& 63 = 39) with h39 | h39
  · refine jj_tableIn (tgt := 2133) C dL_law_45 (by rw [h39]; decide) (by rw [h39]; decide) (by rw [h39]; rfl) (by decide) ?_
    exact law_c39 hl C hX hbl hbA hend q_1 q_4 q_5 q_6 q_7 q_8 q_9 q_10 q_11 q_12 q_13 q_14 q_15 q_16 q_17 q_18 q_19 q_20 q_21 q_22 q_23 q_28 q_31 q_32 q_33 q_34 q_35 q_36 q_37 q_38 q_39 q_40 q_41 q_42 q_43 q_44 f_24 f_25 c_26 c_27
  rcases jj_em ((xs 0) &&& 63 = 40) with h40 | h40
  · refine jj_tableIn (tgt := 2146) C dL_law_45 (by rw [h40]; decide) (by rw [h40]; decide) (by rw [h40]; rfl) (by decide) ?_
    exact law_c40 hl C hX hbl hbA hend q_1 q_4 q_5 q_6 q_7 q_8 q_9 q_10 q_11 q_12 q_13 q_14 q_15 q_16 q_17 q_18 q_19 q_20 q_21 q_22 q_23 q_28 q_31 q_32 q_33 q_34 q_35 q_36 q_37 q_38 q_39 q_40 q_41 q_42 q_43 q_44 f_24 f_25 c_26 c_27
  rcases jj_em ((xs 0) &&& 63 = 41) with h41 | h41
  · refine jj_tableIn (tgt := 2202) C dL_law_45 (by rw [h41]; decide) (by rw [h41]; decide) (by rw [h41]; rfl) (by decide) ?_
    exact law_c41 hl C hX hbl hbA hend q_1 q_4 q_5 q_6 q_7 q_8 q_9 q_10 q_11 q_12 q_13 q_14 q_15 q_16 q_17 q_18 q_19 q_20 q_21 q_22 q_23 q_28 q_31 q_32 q_33 q_34 q_35 q_36 q_37 q_38 q_39 q_40 q_41 q_42 q_43 q_44 f_24 f_25 c_26 c_27
  rcases jj_em ((xs 0) &&& 63 = 42) with h42 | h42
  · refine jj_tableIn (tgt := 2246) C dL_law_45 (by rw [h42]; decide) (by rw [h42]; decide) (by rw [h42]; rfl) (by decide) ?_
    exact law_c42 hl C hX hbl hbA hend q_1 q_4 q_5 q_6 q_7 q_8 q_9 q_10 q_11 q_12 q_13 q_14 q_15 q_16 q_17 q_18 q_19 q_20 q_21 q_22 q_23 q_28 q_31 q_32 q_33 q_34 q_35 q_36 q_37 q_38 q_39 q_40 q_41 q_42 q_43 q_44 f_24 f_25 c_26 c_27
  refine jj_tableOut (tgt := 2259) C dL_law_45 (by have z0 := lv_neT (a := 0) h0 (by decide); have z1 := lv_neT (a := 1) h1 (by decide); have z2 := lv_neT (a := 2) h2 (by decide); have z3 := lv_neT (a := 3) h3 (by decide); have z4 := lv_neT (a := 4) h4 (by decide); have z5 := lv_neT (a := 5) h5 (by decide); have z6 := lv_neT (a := 6) h6 (by decide); have z7 := lv_neT (a := 7) h7 (by decide); have z8 := lv_neT (a := 8) h8 (by decide); have z9 := lv_neT (a := 9) h9 (by decide); have z10 := lv_neT (a := 10) h10 (by decide); have z11 := lv_neT (a := 11) h11 (by decide); have z12 := lv_neT (a := 12) h12 (by decide); have z13 := lv_neT (a := 13) h13 (by decide); have z14 := lv_neT (a := 14) h14 (by decide); have z15 := lv_neT (a := 15) h15 (by decide); have z16 := lv_neT (a := 16) h16 (by decide); have z17 := lv_neT (a := 17) h17 (by decide); have z18 := lv_neT (a := 18) h18 (by decide); have z19 := lv_neT (a := 19) h19 (by decide); have z20 := lv_neT (a := 20) h20 (by decide); have z21 := lv_neT (a := 21) h21 (by decide); have z22 := lv_neT (a := 22) h22 (by decide); have z23 := lv_neT (a := 23) h23 (by decide); have z24 := lv_neT (a := 24) h24 (by decide); have z25 := lv_neT (a := 25) h25 (by decide); have z26 := lv_neT (a := 26) h26 (by decide); have z27 := lv_neT (a := 27) h27 (by decide); have z28 := lv_neT (a := 28) h28 (by decide); have z29 := lv_neT (a := 29) h29 (by decide); have z30 := lv_neT (a := 30) h30 (by decide); have z31 := lv_neT (a := 31) h31 (by decide); have z32 := lv_neT (a := 32) h32 (by decide); have z33 := lv_neT (a := 33) h33 (by decide); have z34 := lv_neT (a := 34) h34 (by decide); have z35 := lv_neT (a := 35) h35 (by decide); have z36 := lv_neT (a := 36) h36 (by decide); have z37 := lv_neT (a := 37) h37 (by decide); have z38 := lv_neT (a := 38) h38 (by decide); have z39 := lv_neT (a := 39) h39 (by decide); have z40 := lv_neT (a := 40) h40 (by decide); have z41 := lv_neT (a := 41) h41 (by decide); have z42 := lv_neT (a := 42) h42 (by decide); omega) (by decide) ?_
  exact law_cd hl C hX hbl hbA hend q_1 q_4 q_5 q_6 q_7 q_8 q_9 q_10 q_11 q_12 q_13 q_14 q_15 q_16 q_17 q_18 q_19 q_20 q_21 q_22 q_23 q_28 q_31 q_32 q_33 q_34 q_35 q_36 q_37 q_38 q_39 q_40 q_41 q_42 q_43 q_44 f_24 f_25 c_26 c_27

set_option maxHeartbeats 4000000 in
set_option maxRecDepth 100000 in
theorem law_back {p : Program} {l : Launch} {e : Env} {s : State} {m : MethodId} {below : List Frame} {meth : Method} {c : Code} (hl : l.stackTraces = false) {D : va_G} {cA : Nat → ClassId} {ak : (Nat → Nat) × (Nat → Nat)} {A : Nat → Prop} {b : Nat} {xs : Nat → Int32} {Q : State → Prop} (C : jj_C p l s m #[Value.ref b] meth c code 9 R_law ret D cA A ak) (hX : va_X b 6 xs s s.heap) (hbl : b < s.heap.size) (hbA : ¬ A b) (hret : jj_J p l e room_1 s m #[Value.ref b] below meth c 9 A Q (jj_X D A []) 600006 7302072 2265 [(0, .ref b)] []) : jj_J p l e room_1 s m #[Value.ref b] below meth c 9 A Q (jj_X D A []) 600006 7302072 2259 [(0, .ref b), (5, .int 0)] [] := by
  refine jj_iinc (v := 6) C dL_law_2259 rfl (by decide) (by decide) rfl ?_
  refine jj_goto (tgt := 28) C dL_law_2262 (by decide) ?_
  refine jj_iload C dL_law_28 rfl ?_
  refine jj_aload_n C dL_law_30 rfl ?_
  refine jj_xlen (v := 6) C hX hbl hbA (by decide) dL_law_31 ?_
  refine jj_bipush (v := 6) C dL_law_32 (by decide) ?_
  refine jj_isub (v := 0) C dL_law_34 (by decide) ?_
  refine jj_icmp_gtT (tgt := 2265) C dL_law_35 (by decide) (by decide) ?_
  exact jj_loc [1] rfl (jj_drop [] rfl (by decide) (jj_widen (k := 600006) (n := 7302072) (jj_le rfl) (jj_le rfl) hret))

