set_option maxHeartbeats 4000000 in
set_option maxRecDepth 100000 in
theorem law_c14 {p : Program} {l : Launch} {e : Env} {s : State} {m : MethodId} {below : List Frame} {meth : Method} {c : Code} (hl : l.stackTraces = false) {D : va_G} {cA : Nat → ClassId} {ak : (Nat → Nat) × (Nat → Nat)} {A : Nat → Prop} {b : Nat} {xs : Nat → Int32} {Q : State → Prop} (C : jj_C p l s m #[Value.ref b] meth c code 9 R_law ret D cA A ak) (hX : va_X b 6 xs s s.heap) (hbl : b < s.heap.size) (hbA : ¬ A b) (hend : jj_J p l e room_1 s m #[Value.ref b] below meth c 9 A Q (jj_X D A []) 600006 7302072 2259 [(0, .ref b), (5, .int 0)] []) (q_1 q_4 q_5 q_6 q_7 q_8 q_9 q_10 q_11 q_12 q_13 q_14 q_15 q_16 q_17 q_18 q_19 q_20 q_21 q_22 q_23 q_28 q_31 q_32 q_33 q_34 q_35 q_36 q_37 q_38 q_39 q_40 q_41 q_42 q_43 q_44 : Nat) (f_24 : Nat → Option Nat) (f_25 : Nat → Option Nat) (c_26 : f_24 0 = some q_11) (c_27 : f_25 0 = some q_17) : jj_J p l e room_1 s m #[Value.ref b] below meth c 9 A Q (jj_X D A [(q_1, .inr (11, [.ref q_4, .int 0, .int (-1), .ref q_6, .ref q_12, .ref q_18, .ref q_20, .int 0, .int 0, .ref q_21])), (q_4, .inr (10, [.ref q_5, .int 0, .int 0, .int 0, .int 0, .int 0, .int (-1)])), (q_5, .inl (cA 1, 400, .inl (fun _ => 0))), (q_6, .inr (2, [.int 1, .int 0, .int 0, .int 0, .int 100, .int 0, .int 0, .int 0, .int 0, .int 0, .ref q_7, .ref q_8, .ref q_9, .ref q_10])), (q_7, .inl (cA 2, 6, .inr (.inl (fun _ => 0)))), (q_10, .inl (cA 7, 12, .inr (.inr (.inr (.inr f_24))))), (q_11, .inr (7, [.int 0, .int 0, .int 0, .long 0, .long 0])), (q_12, .inr (2, [.int 1, .int 0, .int 0, .int 0, .int 100, .int 0, .int 0, .int 0, .int 0, .int 0, .ref q_13, .ref q_14, .ref q_15, .ref q_16])), (q_13, .inl (cA 2, 6, .inr (.inl (fun _ => 0)))), (q_16, .inl (cA 7, 12, .inr (.inr (.inr (.inr f_25))))), (q_17, .inr (7, [.int 0, .int 0, .int 0, .long 0, .long 0])), (q_18, .inr (3, [.ref q_19, .long 0, .long 0, .long 0, .long 0, .long 0])), (q_20, .inl (cA 5, 10, .inr (.inr (.inr (.inr (fun _ => none)))))), (q_21, .inr (6, [.ref q_22, .int 0, .ref q_23])), (q_22, .inl (cA 0, 1300, .inl (fun _ => 0))), (q_23, .inl (cA 0, 20, .inl (fun _ => 0))), (q_28, .inr (12, [.ref q_31, .ref q_32, .ref q_33, .ref q_34, .ref q_35, .ref q_36, .int 0, .int 0, .long 0, .long 0, .ref q_37, .ref q_38, .ref q_39, .int 0, .int 0, .int 0, .int 0, .int 0, .int (-1), .int 0, .int 0, .ref q_40, .ref q_41, .ref q_42, .int 0])), (q_32, .inl (cA 2, 334, .inr (.inl (fun _ => 0)))), (q_33, .inl (cA 2, 334, .inr (.inl (fun _ => 0)))), (q_34, .inl (cA 2, 334, .inr (.inl (fun _ => 0)))), (q_35, .inl (cA 2, 334, .inr (.inl (fun _ => 0)))), (q_36, .inl (cA 2, 3340, .inr (.inl (fun _ => 0)))), (q_37, .inl (cA 2, 12, .inr (.inl (fun _ => 0)))), (q_38, .inl (cA 3, 12, .inl (fun _ => 0))), (q_39, .inl (cA 0, 400, .inl (fun _ => 0))), (q_40, .inl (cA 2, 6, .inr (.inl (fun _ => 0)))), (q_41, .inl (cA 2, 6, .inr (.inl (fun _ => 0)))), (q_42, .inl (cA 0, 2400, .inl (fun _ => 0))), (q_31, .inl (cA 2, 334, .inr (.inl (vp_updL (vp_updL (fun _ => 0) 0 1) 4 100)))), (q_43, .inl (cA 2, 1, .inr (.inl (fun _ => 0)))), (q_44, .inl (cA 4, 1, .inr (.inr (.inr (.inl (fun _ => 0))))))]) 156 10481 851 [(5, .int 0), (4, .ref q_44), (3, .ref q_43), (2, .ref q_28), (1, .ref q_1), (0, .ref b)] [] := by
  refine jj_aload_n C dL_law_851 rfl ?_
  refine jj_aload_n C dL_law_852 rfl ?_
  refine jj_iload C dL_law_853 rfl ?_
  refine jj_iconst (v := 1) C dL_law_855 (by decide) ?_
  refine jj_iadd (v := 1) C dL_law_856 (by decide) ?_
  refine jj_xld (v := xs 1) C hX hbl hbA (vp_in_iff.mpr (by decide)) rfl dL_law_857 ?_
  refine jj_aload_n C dL_law_858 rfl ?_
  refine jq_callSW (rest := []) C (ct_L_setGate_1 hl D cA ak q_1 q_43 q_6 q_20 q_7 q_4 q_12 q_18 q_21 q_8 q_9 q_10 (xs 1)) [0, 29, 3, 12, 4] [1, 2, 5, 6, 7, 8, 9, 10, 11, 13, 14, 15, 16, 17, 18, 19, 20, 21, 22, 23, 24, 25, 26, 27, 28, 30] rfl rfl (by decide) (by decide) (by decide) jw_1137 jw_1138 jw_985 jw_1136 jn_L_setGate rfl (jj_le rfl) (jj_le rfl) (jj_le rfl) (jj_le rfl) (jj_le rfl) dL_law_859 rfl (fun _ _ hX => hX.elim) (fun w1 r O_47 => ?_)
  rcases O_47 with ⟨c_48, rfl, rfl⟩ | ⟨c_49, c_50, rfl, rfl⟩ | ⟨c_51, c_52, rfl, rfl⟩
  · refine jj_apd rfl ?_
    refine jj_istore C dL_law_862 (by decide) rfl ?_
    refine jj_aload_n C dL_law_864 rfl ?_
    refine jj_aload_n C dL_law_865 rfl ?_
    refine jj_iload C dL_law_866 rfl ?_
    refine jj_iconst (v := 1) C dL_law_868 (by decide) ?_
    refine jj_iadd (v := 1) C dL_law_869 (by decide) ?_
    refine jj_xld (v := xs 1) C hX hbl hbA (vp_in_iff.mpr (by decide)) rfl dL_law_870 ?_
    refine jq_callV (rest := []) C (ct_X11_setGate_1 hl D cA ak q_28 q_31 q_32 q_36 q_33 q_34 q_35 q_37 q_38 q_39 q_40 q_41 q_42 (xs 1)) [12, 24, 13, 17] [0, 1, 2, 3, 4, 5, 6, 7, 8, 9, 10, 11, 14, 15, 16, 18, 19, 20, 21, 22, 23, 25, 26] rfl rfl (by decide) (by decide) (by decide) 0 rfl rfl rfl jw_1140 jw_1141 jw_1142 jw_224 jw_471 jn_X11_setGate rfl (jj_le rfl) (jj_le rfl) (jj_le rfl) (jj_le rfl) (jj_le rfl) dL_law_871 rfl (fun _ _ hX => hX.elim) (fun w1 r O_54 => ?_)
    rcases O_54 with ⟨c_55, rfl, rfl⟩ | ⟨c_56, c_57, rfl, rfl⟩ | ⟨f_58, c_59, c_60, rfl, rfl⟩
    · refine jj_apd rfl ?_
      refine jj_istore C dL_law_874 (by decide) rfl ?_
      refine jj_aload_n C dL_law_876 rfl ?_
      refine jq_callV (rest := []) C (ct_X11_thrown_2 hl D cA ak q_28 q_31 q_32 q_33 q_34 q_35 q_36 q_37 q_38 q_39 q_40 q_41 q_42) [26] [0, 1, 2, 3, 4, 5, 6, 7, 8, 9, 10, 11, 12, 13, 14, 15, 16, 17, 18, 19, 20, 21, 22, 23, 24, 25] rfl rfl (by decide) (by decide) (by decide) 0 rfl rfl rfl jw_993 jw_994 jw_995 jw_224 jw_992 jn_X11_thrown rfl (jj_le rfl) (jj_le rfl) (jj_le rfl) (jj_le rfl) (jj_le rfl) dL_law_877 rfl (fun _ _ hX => hX.elim) (fun w1 r O_62 => ?_)
      obtain ⟨rfl, rfl⟩ := O_62
      refine jj_apd rfl ?_
      refine jj_iload C dL_law_880 rfl ?_
      refine jj_icmp_eqT (tgt := 887) C dL_law_882 (by decide) (by decide) ?_
      refine jj_iload C dL_law_887 rfl ?_
      refine jj_if_neT (tgt := 904) C dL_law_889 (by decide) (by decide) ?_
      refine jj_goto (tgt := 2259) C dL_law_904 (by decide) ?_
      exact jj_loc [7, 2] rfl (jj_drop [] rfl (by decide) (jj_widen (k := 600006) (n := 7302072) (jj_le rfl) (jj_le rfl) hend))
    · refine jj_apd rfl ?_
      refine jj_istore C dL_law_874 (by decide) rfl ?_
      refine jj_aload_n C dL_law_876 rfl ?_
      refine jq_callV (rest := []) C (ct_X11_thrown_2 hl D cA ak q_28 q_31 q_32 q_33 q_34 q_35 q_36 q_37 q_38 q_39 q_40 q_41 q_42) [26] [0, 1, 2, 3, 4, 5, 6, 7, 8, 9, 10, 11, 12, 13, 14, 15, 16, 17, 18, 19, 20, 21, 22, 23, 24, 25] rfl rfl (by decide) (by decide) (by decide) 0 rfl rfl rfl jw_993 jw_994 jw_995 jw_224 jw_992 jn_X11_thrown rfl (jj_le rfl) (jj_le rfl) (jj_le rfl) (jj_le rfl) (jj_le rfl) dL_law_877 rfl (fun _ _ hX => hX.elim) (fun w1 r O_64 => ?_)
      obtain ⟨rfl, rfl⟩ := O_64
      refine jj_apd rfl ?_
      refine jj_iload C dL_law_880 rfl ?_
      refine jj_icmp_eqT (tgt := 887) C dL_law_882 (by decide) (by decide) ?_
      refine jj_iload C dL_law_887 rfl ?_
      refine jj_if_neT (tgt := 904) C dL_law_889 (by decide) (by decide) ?_
      refine jj_goto (tgt := 2259) C dL_law_904 (by decide) ?_
      exact jj_loc [7, 2] rfl (jj_drop [] rfl (by decide) (jj_widen (k := 600006) (n := 7302072) (jj_le rfl) (jj_le rfl) hend))
    · refine jj_apd rfl ?_
      refine jj_istore C dL_law_874 (by decide) rfl ?_
      refine jj_aload_n C dL_law_876 rfl ?_
      refine jq_callV (rest := []) C (ct_X11_thrown_5 hl D cA ak q_28 q_31 q_32 q_33 q_34 q_35 q_36 q_37 q_38 q_39 q_40 q_41 q_42) [24] [0, 1, 2, 3, 4, 5, 6, 7, 8, 9, 10, 11, 12, 13, 14, 15, 16, 17, 18, 19, 20, 21, 22, 23, 25, 26] rfl rfl (by decide) (by decide) (by decide) 0 rfl rfl rfl jw_993 jw_994 jw_995 jw_224 jw_992 jn_X11_thrown rfl (jj_le rfl) (jj_le rfl) (jj_le rfl) (jj_le rfl) (jj_le rfl) dL_law_877 rfl (fun _ _ hX => hX.elim) (fun w1 r O_66 => ?_)
      obtain ⟨rfl, rfl⟩ := O_66
      refine jj_apd rfl ?_
      refine jj_iload C dL_law_880 rfl ?_
      refine jj_icmp_eqF (tgt := 887) C dL_law_882 (by decide) (by decide) ?_
      refine jj_iconst (v := 0) C dL_law_885 (by decide) ?_
      exfalso; have z0 := jc_lt (a := (xs 1).toInt) (b := (1)) c_48 rfl (by decide); have z1 := jc_nltL (a := (xs 1).toInt) (b := (1)) c_59 (Int32.toInt_toInt64 _) (by decide); have z2 := jc_nltL (a := (100)) (b := (xs 1).toInt) c_60 (by decide) (Int32.toInt_toInt64 _); omega
  · refine jj_apd rfl ?_
    refine jj_istore C dL_law_862 (by decide) rfl ?_
    refine jj_aload_n C dL_law_864 rfl ?_
    refine jj_aload_n C dL_law_865 rfl ?_
    refine jj_iload C dL_law_866 rfl ?_
    refine jj_iconst (v := 1) C dL_law_868 (by decide) ?_
    refine jj_iadd (v := 1) C dL_law_869 (by decide) ?_
    refine jj_xld (v := xs 1) C hX hbl hbA (vp_in_iff.mpr (by decide)) rfl dL_law_870 ?_
    refine jq_callV (rest := []) C (ct_X11_setGate_1 hl D cA ak q_28 q_31 q_32 q_36 q_33 q_34 q_35 q_37 q_38 q_39 q_40 q_41 q_42 (xs 1)) [12, 24, 13, 17] [0, 1, 2, 3, 4, 5, 6, 7, 8, 9, 10, 11, 14, 15, 16, 18, 19, 20, 21, 22, 23, 25, 26] rfl rfl (by decide) (by decide) (by decide) 0 rfl rfl rfl jw_1140 jw_1141 jw_1142 jw_224 jw_471 jn_X11_setGate rfl (jj_le rfl) (jj_le rfl) (jj_le rfl) (jj_le rfl) (jj_le rfl) dL_law_871 rfl (fun _ _ hX => hX.elim) (fun w1 r O_68 => ?_)
    rcases O_68 with ⟨c_69, rfl, rfl⟩ | ⟨c_70, c_71, rfl, rfl⟩ | ⟨f_72, c_73, c_74, rfl, rfl⟩
    · refine jj_apd rfl ?_
      refine jj_istore C dL_law_874 (by decide) rfl ?_
      refine jj_aload_n C dL_law_876 rfl ?_
      refine jq_callV (rest := []) C (ct_X11_thrown_2 hl D cA ak q_28 q_31 q_32 q_33 q_34 q_35 q_36 q_37 q_38 q_39 q_40 q_41 q_42) [26] [0, 1, 2, 3, 4, 5, 6, 7, 8, 9, 10, 11, 12, 13, 14, 15, 16, 17, 18, 19, 20, 21, 22, 23, 24, 25] rfl rfl (by decide) (by decide) (by decide) 0 rfl rfl rfl jw_993 jw_994 jw_995 jw_224 jw_992 jn_X11_thrown rfl (jj_le rfl) (jj_le rfl) (jj_le rfl) (jj_le rfl) (jj_le rfl) dL_law_877 rfl (fun _ _ hX => hX.elim) (fun w1 r O_76 => ?_)
      obtain ⟨rfl, rfl⟩ := O_76
      refine jj_apd rfl ?_
      refine jj_iload C dL_law_880 rfl ?_
      refine jj_icmp_eqT (tgt := 887) C dL_law_882 (by decide) (by decide) ?_
      refine jj_iload C dL_law_887 rfl ?_
      refine jj_if_neT (tgt := 904) C dL_law_889 (by decide) (by decide) ?_
      refine jj_goto (tgt := 2259) C dL_law_904 (by decide) ?_
      exact jj_loc [7, 2] rfl (jj_drop [] rfl (by decide) (jj_widen (k := 600006) (n := 7302072) (jj_le rfl) (jj_le rfl) hend))
    · refine jj_apd rfl ?_
      refine jj_istore C dL_law_874 (by decide) rfl ?_
      refine jj_aload_n C dL_law_876 rfl ?_
      refine jq_callV (rest := []) C (ct_X11_thrown_2 hl D cA ak q_28 q_31 q_32 q_33 q_34 q_35 q_36 q_37 q_38 q_39 q_40 q_41 q_42) [26] [0, 1, 2, 3, 4, 5, 6, 7, 8, 9, 10, 11, 12, 13, 14, 15, 16, 17, 18, 19, 20, 21, 22, 23, 24, 25] rfl rfl (by decide) (by decide) (by decide) 0 rfl rfl rfl jw_993 jw_994 jw_995 jw_224 jw_992 jn_X11_thrown rfl (jj_le rfl) (jj_le rfl) (jj_le rfl) (jj_le rfl) (jj_le rfl) dL_law_877 rfl (fun _ _ hX => hX.elim) (fun w1 r O_78 => ?_)
      obtain ⟨rfl, rfl⟩ := O_78
      refine jj_apd rfl ?_
      refine jj_iload C dL_law_880 rfl ?_
      refine jj_icmp_eqT (tgt := 887) C dL_law_882 (by decide) (by decide) ?_
      refine jj_iload C dL_law_887 rfl ?_
      refine jj_if_neT (tgt := 904) C dL_law_889 (by decide) (by decide) ?_
      refine jj_goto (tgt := 2259) C dL_law_904 (by decide) ?_
      exact jj_loc [7, 2] rfl (jj_drop [] rfl (by decide) (jj_widen (k := 600006) (n := 7302072) (jj_le rfl) (jj_le rfl) hend))
    · refine jj_apd rfl ?_
      refine jj_istore C dL_law_874 (by decide) rfl ?_
      refine jj_aload_n C dL_law_876 rfl ?_
      refine jq_callV (rest := []) C (ct_X11_thrown_5 hl D cA ak q_28 q_31 q_32 q_33 q_34 q_35 q_36 q_37 q_38 q_39 q_40 q_41 q_42) [24] [0, 1, 2, 3, 4, 5, 6, 7, 8, 9, 10, 11, 12, 13, 14, 15, 16, 17, 18, 19, 20, 21, 22, 23, 25, 26] rfl rfl (by decide) (by decide) (by decide) 0 rfl rfl rfl jw_993 jw_994 jw_995 jw_224 jw_992 jn_X11_thrown rfl (jj_le rfl) (jj_le rfl) (jj_le rfl) (jj_le rfl) (jj_le rfl) dL_law_877 rfl (fun _ _ hX => hX.elim) (fun w1 r O_80 => ?_)
      obtain ⟨rfl, rfl⟩ := O_80
      refine jj_apd rfl ?_
      refine jj_iload C dL_law_880 rfl ?_
      refine jj_icmp_eqF (tgt := 887) C dL_law_882 (by decide) (by decide) ?_
      refine jj_iconst (v := 0) C dL_law_885 (by decide) ?_
      exfalso; have z0 := jc_nlt (a := (xs 1).toInt) (b := (1)) c_49 rfl (by decide); have z1 := jc_nle (a := (xs 1).toInt) (b := (100)) c_50 rfl (by decide); have z2 := jc_nltL (a := (xs 1).toInt) (b := (1)) c_73 (Int32.toInt_toInt64 _) (by decide); have z3 := jc_nltL (a := (100)) (b := (xs 1).toInt) c_74 (by decide) (Int32.toInt_toInt64 _); omega
  · refine jj_apd rfl ?_
    refine jj_istore C dL_law_862 (by decide) rfl ?_
    refine jj_aload_n C dL_law_864 rfl ?_
    refine jj_aload_n C dL_law_865 rfl ?_
    refine jj_iload C dL_law_866 rfl ?_
    refine jj_iconst (v := 1) C dL_law_868 (by decide) ?_
    refine jj_iadd (v := 1) C dL_law_869 (by decide) ?_
    refine jj_xld (v := xs 1) C hX hbl hbA (vp_in_iff.mpr (by decide)) rfl dL_law_870 ?_
    refine jq_callV (rest := []) C (ct_X11_setGate_1 hl D cA ak q_28 q_31 q_32 q_36 q_33 q_34 q_35 q_37 q_38 q_39 q_40 q_41 q_42 (xs 1)) [12, 24, 13, 17] [0, 1, 2, 3, 4, 5, 6, 7, 8, 9, 10, 11, 14, 15, 16, 18, 19, 20, 21, 22, 23, 25, 26] rfl rfl (by decide) (by decide) (by decide) 0 rfl rfl rfl jw_1140 jw_1141 jw_1142 jw_224 jw_471 jn_X11_setGate rfl (jj_le rfl) (jj_le rfl) (jj_le rfl) (jj_le rfl) (jj_le rfl) dL_law_871 rfl (fun _ _ hX => hX.elim) (fun w1 r O_82 => ?_)
    rcases O_82 with ⟨c_83, rfl, rfl⟩ | ⟨c_84, c_85, rfl, rfl⟩ | ⟨f_86, c_87, c_88, rfl, rfl⟩
    · refine jj_apd rfl ?_
      refine jj_istore C dL_law_874 (by decide) rfl ?_
      refine jj_aload_n C dL_law_876 rfl ?_
      refine jq_callV (rest := []) C (ct_X11_thrown_2 hl D cA ak q_28 q_31 q_32 q_33 q_34 q_35 q_36 q_37 q_38 q_39 q_40 q_41 q_42) [26] [0, 1, 2, 3, 4, 5, 6, 7, 8, 9, 10, 11, 12, 13, 14, 15, 16, 17, 18, 19, 20, 21, 22, 23, 24, 25] rfl rfl (by decide) (by decide) (by decide) 0 rfl rfl rfl jw_993 jw_994 jw_995 jw_224 jw_992 jn_X11_thrown rfl (jj_le rfl) (jj_le rfl) (jj_le rfl) (jj_le rfl) (jj_le rfl) dL_law_877 rfl (fun _ _ hX => hX.elim) (fun w1 r O_90 => ?_)
      obtain ⟨rfl, rfl⟩ := O_90
      refine jj_apd rfl ?_
      refine jj_iload C dL_law_880 rfl ?_
      refine jj_icmp_eqF (tgt := 887) C dL_law_882 (by decide) (by decide) ?_
      refine jj_iconst (v := 0) C dL_law_885 (by decide) ?_
      exfalso; have z0 := jc_nlt (a := (xs 1).toInt) (b := (1)) c_51 rfl (by decide); have z1 := jc_le (a := (xs 1).toInt) (b := (100)) c_52 rfl (by decide); have z2 := jc_ltL (a := (xs 1).toInt) (b := (1)) c_83 (Int32.toInt_toInt64 _) (by decide); omega
    · refine jj_apd rfl ?_
      refine jj_istore C dL_law_874 (by decide) rfl ?_
      refine jj_aload_n C dL_law_876 rfl ?_
      refine jq_callV (rest := []) C (ct_X11_thrown_2 hl D cA ak q_28 q_31 q_32 q_33 q_34 q_35 q_36 q_37 q_38 q_39 q_40 q_41 q_42) [26] [0, 1, 2, 3, 4, 5, 6, 7, 8, 9, 10, 11, 12, 13, 14, 15, 16, 17, 18, 19, 20, 21, 22, 23, 24, 25] rfl rfl (by decide) (by decide) (by decide) 0 rfl rfl rfl jw_993 jw_994 jw_995 jw_224 jw_992 jn_X11_thrown rfl (jj_le rfl) (jj_le rfl) (jj_le rfl) (jj_le rfl) (jj_le rfl) dL_law_877 rfl (fun _ _ hX => hX.elim) (fun w1 r O_92 => ?_)
      obtain ⟨rfl, rfl⟩ := O_92
      refine jj_apd rfl ?_
      refine jj_iload C dL_law_880 rfl ?_
      refine jj_icmp_eqF (tgt := 887) C dL_law_882 (by decide) (by decide) ?_
      refine jj_iconst (v := 0) C dL_law_885 (by decide) ?_
      exfalso; have z0 := jc_nlt (a := (xs 1).toInt) (b := (1)) c_51 rfl (by decide); have z1 := jc_le (a := (xs 1).toInt) (b := (100)) c_52 rfl (by decide); have z2 := jc_nltL (a := (xs 1).toInt) (b := (1)) c_84 (Int32.toInt_toInt64 _) (by decide); have z3 := jc_ltL (a := (100)) (b := (xs 1).toInt) c_85 (by decide) (Int32.toInt_toInt64 _); omega
    · refine jj_apd rfl ?_
      refine jj_istore C dL_law_874 (by decide) rfl ?_
      refine jj_aload_n C dL_law_876 rfl ?_
      refine jq_callV (rest := []) C (ct_X11_thrown_5 hl D cA ak q_28 q_31 q_32 q_33 q_34 q_35 q_36 q_37 q_38 q_39 q_40 q_41 q_42) [24] [0, 1, 2, 3, 4, 5, 6, 7, 8, 9, 10, 11, 12, 13, 14, 15, 16, 17, 18, 19, 20, 21, 22, 23, 25, 26] rfl rfl (by decide) (by decide) (by decide) 0 rfl rfl rfl jw_993 jw_994 jw_995 jw_224 jw_992 jn_X11_thrown rfl (jj_le rfl) (jj_le rfl) (jj_le rfl) (jj_le rfl) (jj_le rfl) dL_law_877 rfl (fun _ _ hX => hX.elim) (fun w1 r O_94 => ?_)
      obtain ⟨rfl, rfl⟩ := O_94
      refine jj_apd rfl ?_
      refine jj_iload C dL_law_880 rfl ?_
      refine jj_icmp_eqT (tgt := 887) C dL_law_882 (by decide) (by decide) ?_
      refine jj_iload C dL_law_887 rfl ?_
      refine jj_if_neF (tgt := 904) C dL_law_889 (by decide) (by decide) ?_
      refine jj_aload_n C dL_law_892 rfl ?_
      refine jj_iconst (v := 0) C dL_law_893 (by decide) ?_
      refine jj_lald (v := 100) C 22 rfl (vp_in_iff.mpr (by decide)) rfl dL_law_894 ?_
      refine jj_iload C dL_law_895 rfl ?_
      refine jj_i2l (v := 100) C dL_law_897 (by decide) ?_
      refine jj_lcmp_eqT (tgt := 904) C dL_law_898 dL_law_899 (by decide) (by decide) ?_
      refine jj_goto (tgt := 2259) C dL_law_904 (by decide) ?_
      exact jj_loc [7, 2] rfl (jj_drop [] rfl (by decide) (jj_widen (k := 600006) (n := 7302072) (jj_le rfl) (jj_le rfl) hend))

set_option maxHeartbeats 4000000 in
set_option maxRecDepth 100000 in
theorem law_c15 {p : Program} {l : Launch} {e : Env} {s : State} {m : MethodId} {below : List Frame} {meth : Method} {c : Code} (hl : l.stackTraces = false) {D : va_G} {cA : Nat → ClassId} {ak : (Nat → Nat) × (Nat → Nat)} {A : Nat → Prop} {b : Nat} {xs : Nat → Int32} {Q : State → Prop} (C : jj_C p l s m #[Value.ref b] meth c code 9 R_law ret D cA A ak) (hX : va_X b 6 xs s s.heap) (hbl : b < s.heap.size) (hbA : ¬ A b) (hend : jj_J p l e room_1 s m #[Value.ref b] below meth c 9 A Q (jj_X D A []) 600006 7302072 2259 [(0, .ref b), (5, .int 0)] []) (q_1 q_4 q_5 q_6 q_7 q_8 q_9 q_10 q_11 q_12 q_13 q_14 q_15 q_16 q_17 q_18 q_19 q_20 q_21 q_22 q_23 q_28 q_31 q_32 q_33 q_34 q_35 q_36 q_37 q_38 q_39 q_40 q_41 q_42 q_43 q_44 : Nat) (f_24 : Nat → Option Nat) (f_25 : Nat → Option Nat) (c_26 : f_24 0 = some q_11) (c_27 : f_25 0 = some q_17) : jj_J p l e room_1 s m #[Value.ref b] below meth c 9 A Q (jj_X D A [(q_1, .inr (11, [.ref q_4, .int 0, .int (-1), .ref q_6, .ref q_12, .ref q_18, .ref q_20, .int 0, .int 0, .ref q_21])), (q_4, .inr (10, [.ref q_5, .int 0, .int 0, .int 0, .int 0, .int 0, .int (-1)])), (q_5, .inl (cA 1, 400, .inl (fun _ => 0))), (q_6, .inr (2, [.int 1, .int 0, .int 0, .int 0, .int 100, .int 0, .int 0, .int 0, .int 0, .int 0, .ref q_7, .ref q_8, .ref q_9, .ref q_10])), (q_7, .inl (cA 2, 6, .inr (.inl (fun _ => 0)))), (q_10, .inl (cA 7, 12, .inr (.inr (.inr (.inr f_24))))), (q_11, .inr (7, [.int 0, .int 0, .int 0, .long 0, .long 0])), (q_12, .inr (2, [.int 1, .int 0, .int 0, .int 0, .int 100, .int 0, .int 0, .int 0, .int 0, .int 0, .ref q_13, .ref q_14, .ref q_15, .ref q_16])), (q_13, .inl (cA 2, 6, .inr (.inl (fun _ => 0)))), (q_16, .inl (cA 7, 12, .inr (.inr (.inr (.inr f_25))))), (q_17, .inr (7, [.int 0, .int 0, .int 0, .long 0, .long 0])), (q_18, .inr (3, [.ref q_19, .long 0, .long 0, .long 0, .long 0, .long 0])), (q_20, .inl (cA 5, 10, .inr (.inr (.inr (.inr (fun _ => none)))))), (q_21, .inr (6, [.ref q_22, .int 0, .ref q_23])), (q_22, .inl (cA 0, 1300, .inl (fun _ => 0))), (q_23, .inl (cA 0, 20, .inl (fun _ => 0))), (q_28, .inr (12, [.ref q_31, .ref q_32, .ref q_33, .ref q_34, .ref q_35, .ref q_36, .int 0, .int 0, .long 0, .long 0, .ref q_37, .ref q_38, .ref q_39, .int 0, .int 0, .int 0, .int 0, .int 0, .int (-1), .int 0, .int 0, .ref q_40, .ref q_41, .ref q_42, .int 0])), (q_32, .inl (cA 2, 334, .inr (.inl (fun _ => 0)))), (q_33, .inl (cA 2, 334, .inr (.inl (fun _ => 0)))), (q_34, .inl (cA 2, 334, .inr (.inl (fun _ => 0)))), (q_35, .inl (cA 2, 334, .inr (.inl (fun _ => 0)))), (q_36, .inl (cA 2, 3340, .inr (.inl (fun _ => 0)))), (q_37, .inl (cA 2, 12, .inr (.inl (fun _ => 0)))), (q_38, .inl (cA 3, 12, .inl (fun _ => 0))), (q_39, .inl (cA 0, 400, .inl (fun _ => 0))), (q_40, .inl (cA 2, 6, .inr (.inl (fun _ => 0)))), (q_41, .inl (cA 2, 6, .inr (.inl (fun _ => 0)))), (q_42, .inl (cA 0, 2400, .inl (fun _ => 0))), (q_31, .inl (cA 2, 334, .inr (.inl (vp_updL (vp_updL (fun _ => 0) 0 1) 4 100)))), (q_43, .inl (cA 2, 1, .inr (.inl (fun _ => 0)))), (q_44, .inl (cA 4, 1, .inr (.inr (.inr (.inl (fun _ => 0))))))]) 156 10481 907 [(5, .int 0), (4, .ref q_44), (3, .ref q_43), (2, .ref q_28), (1, .ref q_1), (0, .ref b)] [] := by
  refine jj_aload_n C dL_law_907 rfl ?_
  refine jq_callV (rest := []) C (ct_X10_runScript_1 hl D cA ak q_1 q_4 q_6 q_12 q_20 q_7 q_13 q_18 q_21 q_5 q_8 q_9 q_10 q_14 q_15 q_16) [0, 1, 3, 7, 12, 4, 8] [2, 5, 6, 9, 10, 11, 13, 14, 15, 16, 17, 18, 19, 20, 21, 22, 23, 24, 25, 26, 27, 28, 29, 30] rfl rfl (by decide) (by decide) (by decide) 0 rfl rfl rfl jw_1144 jw_1145 jw_1146 jw_271 jw_878 jn_X10_runScript rfl (jj_le rfl) (jj_le rfl) (jj_le rfl) (jj_le rfl) (jj_le rfl) dL_law_908 rfl (fun _ _ hX => hX.elim) (fun w1 r O_47 => ?_)
  obtain rfl := O_47
  refine jj_left ?_
  refine jj_aload_n C dL_law_911 rfl ?_
  refine jq_callV (rest := [.int 0]) C (ct_X11_runScript_1 hl D cA ak q_28 q_31 q_32 q_36 q_33 q_34 q_35 q_37 q_38 q_39 q_40 q_41 q_42) [9, 21, 10, 14] [0, 1, 2, 3, 4, 5, 6, 7, 8, 11, 12, 13, 15, 16, 17, 18, 19, 20, 22, 23] rfl rfl (by decide) (by decide) (by decide) 0 rfl rfl rfl jw_1148 jw_1149 jw_1150 jw_224 jw_879 jn_X11_runScript rfl (jj_le rfl) (jj_le rfl) (jj_le rfl) (jj_le rfl) (jj_le rfl) dL_law_912 rfl (fun _ _ hX => hX.elim) (fun w1 r O_49 => ?_)
  obtain ⟨f_50, rfl, rfl⟩ := O_49
  refine jj_apd rfl ?_
  refine jj_icmp_eqT (tgt := 2259) C dL_law_915 (by decide) (by decide) ?_
  exact jj_loc [5, 0] rfl (jj_drop [] rfl (by decide) (jj_widen (k := 600006) (n := 7302072) (jj_le rfl) (jj_le rfl) hend))

set_option maxHeartbeats 4000000 in
set_option maxRecDepth 100000 in
theorem law_c16 {p : Program} {l : Launch} {e : Env} {s : State} {m : MethodId} {below : List Frame} {meth : Method} {c : Code} (hl : l.stackTraces = false) {D : va_G} {cA : Nat → ClassId} {ak : (Nat → Nat) × (Nat → Nat)} {A : Nat → Prop} {b : Nat} {xs : Nat → Int32} {Q : State → Prop} (C : jj_C p l s m #[Value.ref b] meth c code 9 R_law ret D cA A ak) (hX : va_X b 6 xs s s.heap) (hbl : b < s.heap.size) (hbA : ¬ A b) (hend : jj_J p l e room_1 s m #[Value.ref b] below meth c 9 A Q (jj_X D A []) 600006 7302072 2259 [(0, .ref b), (5, .int 0)] []) (q_1 q_4 q_5 q_6 q_7 q_8 q_9 q_10 q_11 q_12 q_13 q_14 q_15 q_16 q_17 q_18 q_19 q_20 q_21 q_22 q_23 q_28 q_31 q_32 q_33 q_34 q_35 q_36 q_37 q_38 q_39 q_40 q_41 q_42 q_43 q_44 : Nat) (f_24 : Nat → Option Nat) (f_25 : Nat → Option Nat) (c_26 : f_24 0 = some q_11) (c_27 : f_25 0 = some q_17) : jj_J p l e room_1 s m #[Value.ref b] below meth c 9 A Q (jj_X D A [(q_1, .inr (11, [.ref q_4, .int 0, .int (-1), .ref q_6, .ref q_12, .ref q_18, .ref q_20, .int 0, .int 0, .ref q_21])), (q_4, .inr (10, [.ref q_5, .int 0, .int 0, .int 0, .int 0, .int 0, .int (-1)])), (q_5, .inl (cA 1, 400, .inl (fun _ => 0))), (q_6, .inr (2, [.int 1, .int 0, .int 0, .int 0, .int 100, .int 0, .int 0, .int 0, .int 0, .int 0, .ref q_7, .ref q_8, .ref q_9, .ref q_10])), (q_7, .inl (cA 2, 6, .inr (.inl (fun _ => 0)))), (q_10, .inl (cA 7, 12, .inr (.inr (.inr (.inr f_24))))), (q_11, .inr (7, [.int 0, .int 0, .int 0, .long 0, .long 0])), (q_12, .inr (2, [.int 1, .int 0, .int 0, .int 0, .int 100, .int 0, .int 0, .int 0, .int 0, .int 0, .ref q_13, .ref q_14, .ref q_15, .ref q_16])), (q_13, .inl (cA 2, 6, .inr (.inl (fun _ => 0)))), (q_16, .inl (cA 7, 12, .inr (.inr (.inr (.inr f_25))))), (q_17, .inr (7, [.int 0, .int 0, .int 0, .long 0, .long 0])), (q_18, .inr (3, [.ref q_19, .long 0, .long 0, .long 0, .long 0, .long 0])), (q_20, .inl (cA 5, 10, .inr (.inr (.inr (.inr (fun _ => none)))))), (q_21, .inr (6, [.ref q_22, .int 0, .ref q_23])), (q_22, .inl (cA 0, 1300, .inl (fun _ => 0))), (q_23, .inl (cA 0, 20, .inl (fun _ => 0))), (q_28, .inr (12, [.ref q_31, .ref q_32, .ref q_33, .ref q_34, .ref q_35, .ref q_36, .int 0, .int 0, .long 0, .long 0, .ref q_37, .ref q_38, .ref q_39, .int 0, .int 0, .int 0, .int 0, .int 0, .int (-1), .int 0, .int 0, .ref q_40, .ref q_41, .ref q_42, .int 0])), (q_32, .inl (cA 2, 334, .inr (.inl (fun _ => 0)))), (q_33, .inl (cA 2, 334, .inr (.inl (fun _ => 0)))), (q_34, .inl (cA 2, 334, .inr (.inl (fun _ => 0)))), (q_35, .inl (cA 2, 334, .inr (.inl (fun _ => 0)))), (q_36, .inl (cA 2, 3340, .inr (.inl (fun _ => 0)))), (q_37, .inl (cA 2, 12, .inr (.inl (fun _ => 0)))), (q_38, .inl (cA 3, 12, .inl (fun _ => 0))), (q_39, .inl (cA 0, 400, .inl (fun _ => 0))), (q_40, .inl (cA 2, 6, .inr (.inl (fun _ => 0)))), (q_41, .inl (cA 2, 6, .inr (.inl (fun _ => 0)))), (q_42, .inl (cA 0, 2400, .inl (fun _ => 0))), (q_31, .inl (cA 2, 334, .inr (.inl (vp_updL (vp_updL (fun _ => 0) 0 1) 4 100)))), (q_43, .inl (cA 2, 1, .inr (.inl (fun _ => 0)))), (q_44, .inl (cA 4, 1, .inr (.inr (.inr (.inl (fun _ => 0))))))]) 156 10481 920 [(5, .int 0), (4, .ref q_44), (3, .ref q_43), (2, .ref q_28), (1, .ref q_1), (0, .ref b)] [] := by
  refine jj_aload_n C dL_law_920 rfl ?_
  refine jj_aload_n C dL_law_921 rfl ?_
  refine jj_iload C dL_law_922 rfl ?_
  refine jj_iconst (v := 1) C dL_law_924 (by decide) ?_
  refine jj_iadd (v := 1) C dL_law_925 (by decide) ?_
  refine jj_xld (v := xs 1) C hX hbl hbA (vp_in_iff.mpr (by decide)) rfl dL_law_926 ?_
  refine jj_aload_n C dL_law_927 rfl ?_
  refine jq_callSW (rest := []) C (ct_L_count_1 hl D cA ak q_1 q_43 q_6 q_4 q_12 q_18 q_20 q_21 q_7 q_8 q_9 q_10 (xs 1)) [0, 29, 3] [1, 2, 4, 5, 6, 7, 8, 9, 10, 11, 12, 13, 14, 15, 16, 17, 18, 19, 20, 21, 22, 23, 24, 25, 26, 27, 28, 30] rfl rfl (by decide) (by decide) (by decide) jw_1157 jw_1158 jw_985 jw_1156 jn_L_count rfl (jj_le rfl) (jj_le rfl) (jj_le rfl) (jj_le rfl) (jj_le rfl) dL_law_928 rfl (fun _ _ hX => hX.elim) (fun w1 r O_47 => ?_)
  rcases O_47 with ⟨c_48, c_49, c_50, c_51, c_52, c_53, c_54, c_55, c_56, c_57, rfl, rfl⟩ | ⟨c_58, rfl, rfl⟩ | ⟨c_59, c_60, rfl, rfl⟩ | ⟨c_61, c_62, c_63, rfl, rfl⟩ | ⟨c_64, c_65, c_66, c_67, rfl, rfl⟩ | ⟨c_68, c_69, c_70, c_71, c_72, rfl, rfl⟩ | ⟨c_73, c_74, c_75, c_76, c_77, c_78, rfl, rfl⟩ | ⟨c_79, c_80, c_81, c_82, c_83, c_84, c_85, rfl, rfl⟩ | ⟨c_86, c_87, c_88, c_89, c_90, c_91, c_92, c_93, rfl, rfl⟩ | ⟨c_94, c_95, c_96, c_97, c_98, c_99, c_100, c_101, c_102, rfl, rfl⟩ | ⟨c_103, c_104, c_105, c_106, c_107, c_108, c_109, c_110, c_111, c_112, rfl, rfl⟩
  · refine jj_apd rfl ?_
    refine jj_istore C dL_law_931 (by decide) rfl ?_
    refine jj_aload_n C dL_law_933 rfl ?_
    refine jj_aload_n C dL_law_934 rfl ?_
    refine jj_iload C dL_law_935 rfl ?_
    refine jj_iconst (v := 1) C dL_law_937 (by decide) ?_
    refine jj_iadd (v := 1) C dL_law_938 (by decide) ?_
    refine jj_xld (v := xs 1) C hX hbl hbA (vp_in_iff.mpr (by decide)) rfl dL_law_939 ?_
    refine jq_callV (rest := []) C (ct_X11_count_1 hl D cA ak q_28 q_31 q_32 q_33 q_34 q_35 q_36 q_37 q_38 q_39 q_40 q_41 q_42 (xs 1)) [14, 26] [0, 1, 2, 3, 4, 5, 6, 7, 8, 9, 10, 11, 12, 13, 15, 16, 17, 18, 19, 20, 21, 22, 23, 24, 25, 27, 28] rfl rfl (by decide) (by decide) (by decide) 0 rfl rfl rfl jw_1160 jw_1161 jw_1162 jw_224 jw_482 jn_X11_count rfl (jj_le rfl) (jj_le rfl) (jj_le rfl) (jj_le rfl) (jj_le rfl) dL_law_940 rfl (fun _ _ hX => hX.elim) (fun w1 r O_114 => ?_)
    rcases O_114 with ⟨c_115, rfl, rfl⟩ | ⟨c_116, c_117, rfl, rfl⟩ | ⟨c_118, c_119, c_120, rfl, rfl⟩ | ⟨c_121, c_122, c_123, rfl, rfl⟩ | ⟨c_124, c_125, c_126, rfl, rfl⟩ | ⟨c_127, c_128, c_129, rfl, rfl⟩ | ⟨c_130, c_131, c_132, rfl, rfl⟩ | ⟨c_133, c_134, c_135, rfl, rfl⟩ | ⟨c_136, c_137, c_138, rfl, rfl⟩ | ⟨c_139, c_140, c_141, rfl, rfl⟩ | ⟨c_142, c_143, c_144, rfl, rfl⟩ | ⟨c_145, c_146, c_147, rfl, rfl⟩
    · refine jj_apd rfl ?_
      refine jj_istore C dL_law_943 (by decide) rfl ?_
      refine jj_aload_n C dL_law_945 rfl ?_
      refine jq_callV (rest := []) C (ct_X11_thrown_2 hl D cA ak q_28 q_31 q_32 q_33 q_34 q_35 q_36 q_37 q_38 q_39 q_40 q_41 q_42) [28] [0, 1, 2, 3, 4, 5, 6, 7, 8, 9, 10, 11, 12, 13, 14, 15, 16, 17, 18, 19, 20, 21, 22, 23, 24, 25, 26, 27] rfl rfl (by decide) (by decide) (by decide) 0 rfl rfl rfl jw_993 jw_994 jw_995 jw_224 jw_992 jn_X11_thrown rfl (jj_le rfl) (jj_le rfl) (jj_le rfl) (jj_le rfl) (jj_le rfl) dL_law_946 rfl (fun _ _ hX => hX.elim) (fun w1 r O_149 => ?_)
      obtain ⟨rfl, rfl⟩ := O_149
      refine jj_apd rfl ?_
      refine jj_iload C dL_law_949 rfl ?_
      refine jj_icmp_eqT (tgt := 956) C dL_law_951 (by decide) (by decide) ?_
      refine jj_iload C dL_law_956 rfl ?_
      refine jj_if_neT (tgt := 973) C dL_law_958 (by decide) (by decide) ?_
      refine jj_goto (tgt := 2259) C dL_law_973 (by decide) ?_
      exact jj_loc [7, 2] rfl (jj_drop [] rfl (by decide) (jj_widen (k := 600006) (n := 7302072) (jj_le rfl) (jj_le rfl) hend))
    · refine jj_apd rfl ?_
      refine jj_istore C dL_law_943 (by decide) rfl ?_
      refine jj_aload_n C dL_law_945 rfl ?_
      refine jq_callV (rest := []) C (ct_X11_thrown_2 hl D cA ak q_28 q_31 q_32 q_33 q_34 q_35 q_36 q_37 q_38 q_39 q_40 q_41 q_42) [28] [0, 1, 2, 3, 4, 5, 6, 7, 8, 9, 10, 11, 12, 13, 14, 15, 16, 17, 18, 19, 20, 21, 22, 23, 24, 25, 26, 27] rfl rfl (by decide) (by decide) (by decide) 0 rfl rfl rfl jw_993 jw_994 jw_995 jw_224 jw_992 jn_X11_thrown rfl (jj_le rfl) (jj_le rfl) (jj_le rfl) (jj_le rfl) (jj_le rfl) dL_law_946 rfl (fun _ _ hX => hX.elim) (fun w1 r O_151 => ?_)
      obtain ⟨rfl, rfl⟩ := O_151
      refine jj_apd rfl ?_
      refine jj_iload C dL_law_949 rfl ?_
      refine jj_icmp_eqT (tgt := 956) C dL_law_951 (by decide) (by decide) ?_
      refine jj_iload C dL_law_956 rfl ?_
      refine jj_if_neT (tgt := 973) C dL_law_958 (by decide) (by decide) ?_
      refine jj_goto (tgt := 2259) C dL_law_973 (by decide) ?_
      exact jj_loc [7, 2] rfl (jj_drop [] rfl (by decide) (jj_widen (k := 600006) (n := 7302072) (jj_le rfl) (jj_le rfl) hend))
    · refine jj_apd rfl ?_
      refine jj_istore C dL_law_943 (by decide) rfl ?_
      refine jj_aload_n C dL_law_945 rfl ?_
      refine jq_callV (rest := []) C (ct_X11_thrown_7 hl D cA ak q_28 q_31 q_32 q_33 q_34 q_35 q_36 q_37 q_38 q_39 q_40 q_41 q_42) [28] [0, 1, 2, 3, 4, 5, 6, 7, 8, 9, 10, 11, 12, 13, 14, 15, 16, 17, 18, 19, 20, 21, 22, 23, 24, 25, 26, 27] rfl rfl (by decide) (by decide) (by decide) 0 rfl rfl rfl jw_993 jw_994 jw_995 jw_224 jw_992 jn_X11_thrown rfl (jj_le rfl) (jj_le rfl) (jj_le rfl) (jj_le rfl) (jj_le rfl) dL_law_946 rfl (fun _ _ hX => hX.elim) (fun w1 r O_153 => ?_)
      obtain ⟨rfl, rfl⟩ := O_153
      refine jj_apd rfl ?_
      refine jj_iload C dL_law_949 rfl ?_
      refine jj_icmp_eqF (tgt := 956) C dL_law_951 (by decide) (by decide) ?_
      refine jj_iconst (v := 0) C dL_law_954 (by decide) ?_
      exact absurd c_120 c_48
    · refine jj_apd rfl ?_
      refine jj_istore C dL_law_943 (by decide) rfl ?_
      refine jj_aload_n C dL_law_945 rfl ?_
      refine jq_callV (rest := []) C (ct_X11_thrown_7 hl D cA ak q_28 q_31 q_32 q_33 q_34 q_35 q_36 q_37 q_38 q_39 q_40 q_41 q_42) [28] [0, 1, 2, 3, 4, 5, 6, 7, 8, 9, 10, 11, 12, 13, 14, 15, 16, 17, 18, 19, 20, 21, 22, 23, 24, 25, 26, 27] rfl rfl (by decide) (by decide) (by decide) 0 rfl rfl rfl jw_993 jw_994 jw_995 jw_224 jw_992 jn_X11_thrown rfl (jj_le rfl) (jj_le rfl) (jj_le rfl) (jj_le rfl) (jj_le rfl) dL_law_946 rfl (fun _ _ hX => hX.elim) (fun w1 r O_155 => ?_)
      obtain ⟨rfl, rfl⟩ := O_155
      refine jj_apd rfl ?_
      refine jj_iload C dL_law_949 rfl ?_
      refine jj_icmp_eqF (tgt := 956) C dL_law_951 (by decide) (by decide) ?_
      refine jj_iconst (v := 0) C dL_law_954 (by decide) ?_
      exact absurd c_123 c_49
    · refine jj_apd rfl ?_
      refine jj_istore C dL_law_943 (by decide) rfl ?_
      refine jj_aload_n C dL_law_945 rfl ?_
      refine jq_callV (rest := []) C (ct_X11_thrown_7 hl D cA ak q_28 q_31 q_32 q_33 q_34 q_35 q_36 q_37 q_38 q_39 q_40 q_41 q_42) [28] [0, 1, 2, 3, 4, 5, 6, 7, 8, 9, 10, 11, 12, 13, 14, 15, 16, 17, 18, 19, 20, 21, 22, 23, 24, 25, 26, 27] rfl rfl (by decide) (by decide) (by decide) 0 rfl rfl rfl jw_993 jw_994 jw_995 jw_224 jw_992 jn_X11_thrown rfl (jj_le rfl) (jj_le rfl) (jj_le rfl) (jj_le rfl) (jj_le rfl) dL_law_946 rfl (fun _ _ hX => hX.elim) (fun w1 r O_157 => ?_)
      obtain ⟨rfl, rfl⟩ := O_157
      refine jj_apd rfl ?_
      refine jj_iload C dL_law_949 rfl ?_
      refine jj_icmp_eqF (tgt := 956) C dL_law_951 (by decide) (by decide) ?_
      refine jj_iconst (v := 0) C dL_law_954 (by decide) ?_
      exact absurd c_126 c_50
    · refine jj_apd rfl ?_
      refine jj_istore C dL_law_943 (by decide) rfl ?_
      refine jj_aload_n C dL_law_945 rfl ?_
      refine jq_callV (rest := []) C (ct_X11_thrown_7 hl D cA ak q_28 q_31 q_32 q_33 q_34 q_35 q_36 q_37 q_38 q_39 q_40 q_41 q_42) [28] [0, 1, 2, 3, 4, 5, 6, 7, 8, 9, 10, 11, 12, 13, 14, 15, 16, 17, 18, 19, 20, 21, 22, 23, 24, 25, 26, 27] rfl rfl (by decide) (by decide) (by decide) 0 rfl rfl rfl jw_993 jw_994 jw_995 jw_224 jw_992 jn_X11_thrown rfl (jj_le rfl) (jj_le rfl) (jj_le rfl) (jj_le rfl) (jj_le rfl) dL_law_946 rfl (fun _ _ hX => hX.elim) (fun w1 r O_159 => ?_)
      obtain ⟨rfl, rfl⟩ := O_159
      refine jj_apd rfl ?_
      refine jj_iload C dL_law_949 rfl ?_
      refine jj_icmp_eqF (tgt := 956) C dL_law_951 (by decide) (by decide) ?_
      refine jj_iconst (v := 0) C dL_law_954 (by decide) ?_
      exact absurd c_129 c_51
    · refine jj_apd rfl ?_
      refine jj_istore C dL_law_943 (by decide) rfl ?_
      refine jj_aload_n C dL_law_945 rfl ?_
      refine jq_callV (rest := []) C (ct_X11_thrown_7 hl D cA ak q_28 q_31 q_32 q_33 q_34 q_35 q_36 q_37 q_38 q_39 q_40 q_41 q_42) [28] [0, 1, 2, 3, 4, 5, 6, 7, 8, 9, 10, 11, 12, 13, 14, 15, 16, 17, 18, 19, 20, 21, 22, 23, 24, 25, 26, 27] rfl rfl (by decide) (by decide) (by decide) 0 rfl rfl rfl jw_993 jw_994 jw_995 jw_224 jw_992 jn_X11_thrown rfl (jj_le rfl) (jj_le rfl) (jj_le rfl) (jj_le rfl) (jj_le rfl) dL_law_946 rfl (fun _ _ hX => hX.elim) (fun w1 r O_161 => ?_)
      obtain ⟨rfl, rfl⟩ := O_161
      refine jj_apd rfl ?_
      refine jj_iload C dL_law_949 rfl ?_
      refine jj_icmp_eqF (tgt := 956) C dL_law_951 (by decide) (by decide) ?_
      refine jj_iconst (v := 0) C dL_law_954 (by decide) ?_
      exact absurd c_132 c_52
    · refine jj_apd rfl ?_
      refine jj_istore C dL_law_943 (by decide) rfl ?_
      refine jj_aload_n C dL_law_945 rfl ?_
      refine jq_callV (rest := []) C (ct_X11_thrown_7 hl D cA ak q_28 q_31 q_32 q_33 q_34 q_35 q_36 q_37 q_38 q_39 q_40 q_41 q_42) [28] [0, 1, 2, 3, 4, 5, 6, 7, 8, 9, 10, 11, 12, 13, 14, 15, 16, 17, 18, 19, 20, 21, 22, 23, 24, 25, 26, 27] rfl rfl (by decide) (by decide) (by decide) 0 rfl rfl rfl jw_993 jw_994 jw_995 jw_224 jw_992 jn_X11_thrown rfl (jj_le rfl) (jj_le rfl) (jj_le rfl) (jj_le rfl) (jj_le rfl) dL_law_946 rfl (fun _ _ hX => hX.elim) (fun w1 r O_163 => ?_)
      obtain ⟨rfl, rfl⟩ := O_163
      refine jj_apd rfl ?_
      refine jj_iload C dL_law_949 rfl ?_
      refine jj_icmp_eqF (tgt := 956) C dL_law_951 (by decide) (by decide) ?_
      refine jj_iconst (v := 0) C dL_law_954 (by decide) ?_
      exact absurd c_135 c_53
    · refine jj_apd rfl ?_
      refine jj_istore C dL_law_943 (by decide) rfl ?_
      refine jj_aload_n C dL_law_945 rfl ?_
      refine jq_callV (rest := []) C (ct_X11_thrown_7 hl D cA ak q_28 q_31 q_32 q_33 q_34 q_35 q_36 q_37 q_38 q_39 q_40 q_41 q_42) [28] [0, 1, 2, 3, 4, 5, 6, 7, 8, 9, 10, 11, 12, 13, 14, 15, 16, 17, 18, 19, 20, 21, 22, 23, 24, 25, 26, 27] rfl rfl (by decide) (by decide) (by decide) 0 rfl rfl rfl jw_993 jw_994 jw_995 jw_224 jw_992 jn_X11_thrown rfl (jj_le rfl) (jj_le rfl) (jj_le rfl) (jj_le rfl) (jj_le rfl) dL_law_946 rfl (fun _ _ hX => hX.elim) (fun w1 r O_165 => ?_)
      obtain ⟨rfl, rfl⟩ := O_165
      refine jj_apd rfl ?_
      refine jj_iload C dL_law_949 rfl ?_
      refine jj_icmp_eqF (tgt := 956) C dL_law_951 (by decide) (by decide) ?_
      refine jj_iconst (v := 0) C dL_law_954 (by decide) ?_
      exact absurd c_138 c_54
    · refine jj_apd rfl ?_
      refine jj_istore C dL_law_943 (by decide) rfl ?_
      refine jj_aload_n C dL_law_945 rfl ?_
      refine jq_callV (rest := []) C (ct_X11_thrown_7 hl D cA ak q_28 q_31 q_32 q_33 q_34 q_35 q_36 q_37 q_38 q_39 q_40 q_41 q_42) [28] [0, 1, 2, 3, 4, 5, 6, 7, 8, 9, 10, 11, 12, 13, 14, 15, 16, 17, 18, 19, 20, 21, 22, 23, 24, 25, 26, 27] rfl rfl (by decide) (by decide) (by decide) 0 rfl rfl rfl jw_993 jw_994 jw_995 jw_224 jw_992 jn_X11_thrown rfl (jj_le rfl) (jj_le rfl) (jj_le rfl) (jj_le rfl) (jj_le rfl) dL_law_946 rfl (fun _ _ hX => hX.elim) (fun w1 r O_167 => ?_)
      obtain ⟨rfl, rfl⟩ := O_167
      refine jj_apd rfl ?_
      refine jj_iload C dL_law_949 rfl ?_
      refine jj_icmp_eqF (tgt := 956) C dL_law_951 (by decide) (by decide) ?_
      refine jj_iconst (v := 0) C dL_law_954 (by decide) ?_
      exact absurd c_141 c_55
    · refine jj_apd rfl ?_
      refine jj_istore C dL_law_943 (by decide) rfl ?_
      refine jj_aload_n C dL_law_945 rfl ?_
      refine jq_callV (rest := []) C (ct_X11_thrown_7 hl D cA ak q_28 q_31 q_32 q_33 q_34 q_35 q_36 q_37 q_38 q_39 q_40 q_41 q_42) [28] [0, 1, 2, 3, 4, 5, 6, 7, 8, 9, 10, 11, 12, 13, 14, 15, 16, 17, 18, 19, 20, 21, 22, 23, 24, 25, 26, 27] rfl rfl (by decide) (by decide) (by decide) 0 rfl rfl rfl jw_993 jw_994 jw_995 jw_224 jw_992 jn_X11_thrown rfl (jj_le rfl) (jj_le rfl) (jj_le rfl) (jj_le rfl) (jj_le rfl) dL_law_946 rfl (fun _ _ hX => hX.elim) (fun w1 r O_169 => ?_)
      obtain ⟨rfl, rfl⟩ := O_169
      refine jj_apd rfl ?_
      refine jj_iload C dL_law_949 rfl ?_
      refine jj_icmp_eqF (tgt := 956) C dL_law_951 (by decide) (by decide) ?_
      refine jj_iconst (v := 0) C dL_law_954 (by decide) ?_
      exact absurd c_144 c_56
    · refine jj_apd rfl ?_
      refine jj_istore C dL_law_943 (by decide) rfl ?_
      refine jj_aload_n C dL_law_945 rfl ?_
      refine jq_callV (rest := []) C (ct_X11_thrown_7 hl D cA ak q_28 q_31 q_32 q_33 q_34 q_35 q_36 q_37 q_38 q_39 q_40 q_41 q_42) [28] [0, 1, 2, 3, 4, 5, 6, 7, 8, 9, 10, 11, 12, 13, 14, 15, 16, 17, 18, 19, 20, 21, 22, 23, 24, 25, 26, 27] rfl rfl (by decide) (by decide) (by decide) 0 rfl rfl rfl jw_993 jw_994 jw_995 jw_224 jw_992 jn_X11_thrown rfl (jj_le rfl) (jj_le rfl) (jj_le rfl) (jj_le rfl) (jj_le rfl) dL_law_946 rfl (fun _ _ hX => hX.elim) (fun w1 r O_171 => ?_)
      obtain ⟨rfl, rfl⟩ := O_171
      refine jj_apd rfl ?_
      refine jj_iload C dL_law_949 rfl ?_
      refine jj_icmp_eqF (tgt := 956) C dL_law_951 (by decide) (by decide) ?_
      refine jj_iconst (v := 0) C dL_law_954 (by decide) ?_
      exact absurd c_147 c_57
  · refine jj_apd rfl ?_
    refine jj_istore C dL_law_931 (by decide) rfl ?_
    refine jj_aload_n C dL_law_933 rfl ?_
    refine jj_aload_n C dL_law_934 rfl ?_
    refine jj_iload C dL_law_935 rfl ?_
    refine jj_iconst (v := 1) C dL_law_937 (by decide) ?_
    refine jj_iadd (v := 1) C dL_law_938 (by decide) ?_
    refine jj_xld (v := xs 1) C hX hbl hbA (vp_in_iff.mpr (by decide)) rfl dL_law_939 ?_
    refine jq_callV (rest := []) C (ct_X11_count_1 hl D cA ak q_28 q_31 q_32 q_33 q_34 q_35 q_36 q_37 q_38 q_39 q_40 q_41 q_42 (xs 1)) [14, 26] [0, 1, 2, 3, 4, 5, 6, 7, 8, 9, 10, 11, 12, 13, 15, 16, 17, 18, 19, 20, 21, 22, 23, 24, 25, 27, 28] rfl rfl (by decide) (by decide) (by decide) 0 rfl rfl rfl jw_1160 jw_1161 jw_1162 jw_224 jw_482 jn_X11_count rfl (jj_le rfl) (jj_le rfl) (jj_le rfl) (jj_le rfl) (jj_le rfl) dL_law_940 rfl (fun _ _ hX => hX.elim) (fun w1 r O_173 => ?_)
    rcases O_173 with ⟨c_174, rfl, rfl⟩ | ⟨c_175, c_176, rfl, rfl⟩ | ⟨c_177, c_178, c_179, rfl, rfl⟩ | ⟨c_180, c_181, c_182, rfl, rfl⟩ | ⟨c_183, c_184, c_185, rfl, rfl⟩ | ⟨c_186, c_187, c_188, rfl, rfl⟩ | ⟨c_189, c_190, c_191, rfl, rfl⟩ | ⟨c_192, c_193, c_194, rfl, rfl⟩ | ⟨c_195, c_196, c_197, rfl, rfl⟩ | ⟨c_198, c_199, c_200, rfl, rfl⟩ | ⟨c_201, c_202, c_203, rfl, rfl⟩ | ⟨c_204, c_205, c_206, rfl, rfl⟩
    · refine jj_apd rfl ?_
      refine jj_istore C dL_law_943 (by decide) rfl ?_
      refine jj_aload_n C dL_law_945 rfl ?_
      refine jq_callV (rest := []) C (ct_X11_thrown_2 hl D cA ak q_28 q_31 q_32 q_33 q_34 q_35 q_36 q_37 q_38 q_39 q_40 q_41 q_42) [28] [0, 1, 2, 3, 4, 5, 6, 7, 8, 9, 10, 11, 12, 13, 14, 15, 16, 17, 18, 19, 20, 21, 22, 23, 24, 25, 26, 27] rfl rfl (by decide) (by decide) (by decide) 0 rfl rfl rfl jw_993 jw_994 jw_995 jw_224 jw_992 jn_X11_thrown rfl (jj_le rfl) (jj_le rfl) (jj_le rfl) (jj_le rfl) (jj_le rfl) dL_law_946 rfl (fun _ _ hX => hX.elim) (fun w1 r O_208 => ?_)
      obtain ⟨rfl, rfl⟩ := O_208
      refine jj_apd rfl ?_
      refine jj_iload C dL_law_949 rfl ?_
      refine jj_icmp_eqF (tgt := 956) C dL_law_951 (by decide) (by decide) ?_
      refine jj_iconst (v := 0) C dL_law_954 (by decide) ?_
      exfalso; have z0 := jc_eq (a := (xs 1).toInt) (b := (0)) c_58 rfl (by decide); have z1 := jc_ltL (a := (xs 1).toInt) (b := (0)) c_174 (Int32.toInt_toInt64 _) (by decide); omega
    · refine jj_apd rfl ?_
      refine jj_istore C dL_law_943 (by decide) rfl ?_
      refine jj_aload_n C dL_law_945 rfl ?_
      refine jq_callV (rest := []) C (ct_X11_thrown_2 hl D cA ak q_28 q_31 q_32 q_33 q_34 q_35 q_36 q_37 q_38 q_39 q_40 q_41 q_42) [28] [0, 1, 2, 3, 4, 5, 6, 7, 8, 9, 10, 11, 12, 13, 14, 15, 16, 17, 18, 19, 20, 21, 22, 23, 24, 25, 26, 27] rfl rfl (by decide) (by decide) (by decide) 0 rfl rfl rfl jw_993 jw_994 jw_995 jw_224 jw_992 jn_X11_thrown rfl (jj_le rfl) (jj_le rfl) (jj_le rfl) (jj_le rfl) (jj_le rfl) dL_law_946 rfl (fun _ _ hX => hX.elim) (fun w1 r O_210 => ?_)
      obtain ⟨rfl, rfl⟩ := O_210
      refine jj_apd rfl ?_
      refine jj_iload C dL_law_949 rfl ?_
      refine jj_icmp_eqF (tgt := 956) C dL_law_951 (by decide) (by decide) ?_
      refine jj_iconst (v := 0) C dL_law_954 (by decide) ?_
      exfalso; have z0 := jc_eq (a := (xs 1).toInt) (b := (0)) c_58 rfl (by decide); have z1 := jc_nltL (a := (xs 1).toInt) (b := (0)) c_175 (Int32.toInt_toInt64 _) (by decide); have z2 := jc_ltL (a := (9)) (b := (xs 1).toInt) c_176 (by decide) (Int32.toInt_toInt64 _); omega
    · refine jj_apd rfl ?_
      refine jj_istore C dL_law_943 (by decide) rfl ?_
      refine jj_aload_n C dL_law_945 rfl ?_
      refine jq_callV (rest := []) C (ct_X11_thrown_7 hl D cA ak q_28 q_31 q_32 q_33 q_34 q_35 q_36 q_37 q_38 q_39 q_40 q_41 q_42) [28] [0, 1, 2, 3, 4, 5, 6, 7, 8, 9, 10, 11, 12, 13, 14, 15, 16, 17, 18, 19, 20, 21, 22, 23, 24, 25, 26, 27] rfl rfl (by decide) (by decide) (by decide) 0 rfl rfl rfl jw_993 jw_994 jw_995 jw_224 jw_992 jn_X11_thrown rfl (jj_le rfl) (jj_le rfl) (jj_le rfl) (jj_le rfl) (jj_le rfl) dL_law_946 rfl (fun _ _ hX => hX.elim) (fun w1 r O_212 => ?_)
      obtain ⟨rfl, rfl⟩ := O_212
      refine jj_apd rfl ?_
      refine jj_iload C dL_law_949 rfl ?_
      refine jj_icmp_eqT (tgt := 956) C dL_law_951 (by decide) (by decide) ?_
      refine jj_iload C dL_law_956 rfl ?_
      refine jj_if_neF (tgt := 973) C dL_law_958 (by decide) (by decide) ?_
      refine jj_aload_n C dL_law_961 rfl ?_
      refine jj_iconst (v := 0) C dL_law_962 (by decide) ?_
      refine jj_lald (v := 1) C 26 rfl (vp_in_iff.mpr (by decide)) rfl dL_law_963 ?_
      refine jj_iload C dL_law_964 rfl ?_
      refine jj_i2l (v := 1) C dL_law_966 (by decide) ?_
      refine jj_lcmp_eqT (tgt := 973) C dL_law_967 dL_law_968 (by decide) (by decide) ?_
      refine jj_goto (tgt := 2259) C dL_law_973 (by decide) ?_
      exact jj_loc [7, 2] rfl (jj_drop [] rfl (by decide) (jj_widen (k := 600006) (n := 7302072) (jj_le rfl) (jj_le rfl) hend))
    · refine jj_apd rfl ?_
      refine jj_istore C dL_law_943 (by decide) rfl ?_
      refine jj_aload_n C dL_law_945 rfl ?_
      refine jq_callV (rest := []) C (ct_X11_thrown_7 hl D cA ak q_28 q_31 q_32 q_33 q_34 q_35 q_36 q_37 q_38 q_39 q_40 q_41 q_42) [28] [0, 1, 2, 3, 4, 5, 6, 7, 8, 9, 10, 11, 12, 13, 14, 15, 16, 17, 18, 19, 20, 21, 22, 23, 24, 25, 26, 27] rfl rfl (by decide) (by decide) (by decide) 0 rfl rfl rfl jw_993 jw_994 jw_995 jw_224 jw_992 jn_X11_thrown rfl (jj_le rfl) (jj_le rfl) (jj_le rfl) (jj_le rfl) (jj_le rfl) dL_law_946 rfl (fun _ _ hX => hX.elim) (fun w1 r O_214 => ?_)
      obtain ⟨rfl, rfl⟩ := O_214
      refine jj_apd rfl ?_
      refine jj_iload C dL_law_949 rfl ?_
      refine jj_icmp_eqT (tgt := 956) C dL_law_951 (by decide) (by decide) ?_
      refine jj_iload C dL_law_956 rfl ?_
      refine jj_if_neF (tgt := 973) C dL_law_958 (by decide) (by decide) ?_
      refine jj_aload_n C dL_law_961 rfl ?_
      refine jj_iconst (v := 0) C dL_law_962 (by decide) ?_
      refine jj_lald (v := 1) C 26 rfl (vp_in_iff.mpr (by decide)) rfl dL_law_963 ?_
      refine jj_iload C dL_law_964 rfl ?_
      refine jj_i2l (v := 0) C dL_law_966 (by decide) ?_
      refine jj_lcmp_eqF (tgt := 973) C dL_law_967 dL_law_968 (by decide) (by decide) ?_
      refine jj_iconst (v := 0) C dL_law_971 (by decide) ?_
      exfalso; have z0 := jc_eq (a := (xs 1).toInt) (b := (0)) c_58 rfl (by decide); have z1 := jc_nltL (a := (xs 1).toInt) (b := (0)) c_180 (Int32.toInt_toInt64 _) (by decide); have z2 := jc_nltL (a := (9)) (b := (xs 1).toInt) c_181 (by decide) (Int32.toInt_toInt64 _); have z3 := jc_eq (a := (xs 1).toInt) (b := (1)) c_182 rfl (by decide); omega
    · refine jj_apd rfl ?_
      refine jj_istore C dL_law_943 (by decide) rfl ?_
      refine jj_aload_n C dL_law_945 rfl ?_
      refine jq_callV (rest := []) C (ct_X11_thrown_7 hl D cA ak q_28 q_31 q_32 q_33 q_34 q_35 q_36 q_37 q_38 q_39 q_40 q_41 q_42) [28] [0, 1, 2, 3, 4, 5, 6, 7, 8, 9, 10, 11, 12, 13, 14, 15, 16, 17, 18, 19, 20, 21, 22, 23, 24, 25, 26, 27] rfl rfl (by decide) (by decide) (by decide) 0 rfl rfl rfl jw_993 jw_994 jw_995 jw_224 jw_992 jn_X11_thrown rfl (jj_le rfl) (jj_le rfl) (jj_le rfl) (jj_le rfl) (jj_le rfl) dL_law_946 rfl (fun _ _ hX => hX.elim) (fun w1 r O_216 => ?_)
      obtain ⟨rfl, rfl⟩ := O_216
      refine jj_apd rfl ?_
      refine jj_iload C dL_law_949 rfl ?_
      refine jj_icmp_eqT (tgt := 956) C dL_law_951 (by decide) (by decide) ?_
      refine jj_iload C dL_law_956 rfl ?_
      refine jj_if_neF (tgt := 973) C dL_law_958 (by decide) (by decide) ?_
      refine jj_aload_n C dL_law_961 rfl ?_
      refine jj_iconst (v := 0) C dL_law_962 (by decide) ?_
      refine jj_lald (v := 1) C 26 rfl (vp_in_iff.mpr (by decide)) rfl dL_law_963 ?_
      refine jj_iload C dL_law_964 rfl ?_
      refine jj_i2l (v := 0) C dL_law_966 (by decide) ?_
      refine jj_lcmp_eqF (tgt := 973) C dL_law_967 dL_law_968 (by decide) (by decide) ?_
      refine jj_iconst (v := 0) C dL_law_971 (by decide) ?_
      exfalso; have z0 := jc_eq (a := (xs 1).toInt) (b := (0)) c_58 rfl (by decide); have z1 := jc_nltL (a := (xs 1).toInt) (b := (0)) c_183 (Int32.toInt_toInt64 _) (by decide); have z2 := jc_nltL (a := (9)) (b := (xs 1).toInt) c_184 (by decide) (Int32.toInt_toInt64 _); have z3 := jc_eq (a := (xs 1).toInt) (b := (2)) c_185 rfl (by decide); omega
    · refine jj_apd rfl ?_
      refine jj_istore C dL_law_943 (by decide) rfl ?_
      refine jj_aload_n C dL_law_945 rfl ?_
      refine jq_callV (rest := []) C (ct_X11_thrown_7 hl D cA ak q_28 q_31 q_32 q_33 q_34 q_35 q_36 q_37 q_38 q_39 q_40 q_41 q_42) [28] [0, 1, 2, 3, 4, 5, 6, 7, 8, 9, 10, 11, 12, 13, 14, 15, 16, 17, 18, 19, 20, 21, 22, 23, 24, 25, 26, 27] rfl rfl (by decide) (by decide) (by decide) 0 rfl rfl rfl jw_993 jw_994 jw_995 jw_224 jw_992 jn_X11_thrown rfl (jj_le rfl) (jj_le rfl) (jj_le rfl) (jj_le rfl) (jj_le rfl) dL_law_946 rfl (fun _ _ hX => hX.elim) (fun w1 r O_218 => ?_)
      obtain ⟨rfl, rfl⟩ := O_218
      refine jj_apd rfl ?_
      refine jj_iload C dL_law_949 rfl ?_
      refine jj_icmp_eqT (tgt := 956) C dL_law_951 (by decide) (by decide) ?_
      refine jj_iload C dL_law_956 rfl ?_
      refine jj_if_neF (tgt := 973) C dL_law_958 (by decide) (by decide) ?_
      refine jj_aload_n C dL_law_961 rfl ?_
      refine jj_iconst (v := 0) C dL_law_962 (by decide) ?_
      refine jj_lald (v := 1) C 26 rfl (vp_in_iff.mpr (by decide)) rfl dL_law_963 ?_
      refine jj_iload C dL_law_964 rfl ?_
      refine jj_i2l (v := 0) C dL_law_966 (by decide) ?_
      refine jj_lcmp_eqF (tgt := 973) C dL_law_967 dL_law_968 (by decide) (by decide) ?_
      refine jj_iconst (v := 0) C dL_law_971 (by decide) ?_
      exfalso; have z0 := jc_eq (a := (xs 1).toInt) (b := (0)) c_58 rfl (by decide); have z1 := jc_nltL (a := (xs 1).toInt) (b := (0)) c_186 (Int32.toInt_toInt64 _) (by decide); have z2 := jc_nltL (a := (9)) (b := (xs 1).toInt) c_187 (by decide) (Int32.toInt_toInt64 _); have z3 := jc_eq (a := (xs 1).toInt) (b := (3)) c_188 rfl (by decide); omega
    · refine jj_apd rfl ?_
      refine jj_istore C dL_law_943 (by decide) rfl ?_
      refine jj_aload_n C dL_law_945 rfl ?_
      refine jq_callV (rest := []) C (ct_X11_thrown_7 hl D cA ak q_28 q_31 q_32 q_33 q_34 q_35 q_36 q_37 q_38 q_39 q_40 q_41 q_42) [28] [0, 1, 2, 3, 4, 5, 6, 7, 8, 9, 10, 11, 12, 13, 14, 15, 16, 17, 18, 19, 20, 21, 22, 23, 24, 25, 26, 27] rfl rfl (by decide) (by decide) (by decide) 0 rfl rfl rfl jw_993 jw_994 jw_995 jw_224 jw_992 jn_X11_thrown rfl (jj_le rfl) (jj_le rfl) (jj_le rfl) (jj_le rfl) (jj_le rfl) dL_law_946 rfl (fun _ _ hX => hX.elim) (fun w1 r O_220 => ?_)
      obtain ⟨rfl, rfl⟩ := O_220
      refine jj_apd rfl ?_
      refine jj_iload C dL_law_949 rfl ?_
      refine jj_icmp_eqT (tgt := 956) C dL_law_951 (by decide) (by decide) ?_
      refine jj_iload C dL_law_956 rfl ?_
      refine jj_if_neF (tgt := 973) C dL_law_958 (by decide) (by decide) ?_
      refine jj_aload_n C dL_law_961 rfl ?_
      refine jj_iconst (v := 0) C dL_law_962 (by decide) ?_
      refine jj_lald (v := 1) C 26 rfl (vp_in_iff.mpr (by decide)) rfl dL_law_963 ?_
      refine jj_iload C dL_law_964 rfl ?_
      refine jj_i2l (v := 100) C dL_law_966 (by decide) ?_
      refine jj_lcmp_eqF (tgt := 973) C dL_law_967 dL_law_968 (by decide) (by decide) ?_
      refine jj_iconst (v := 0) C dL_law_971 (by decide) ?_
      exfalso; have z0 := jc_eq (a := (xs 1).toInt) (b := (0)) c_58 rfl (by decide); have z1 := jc_nltL (a := (xs 1).toInt) (b := (0)) c_189 (Int32.toInt_toInt64 _) (by decide); have z2 := jc_nltL (a := (9)) (b := (xs 1).toInt) c_190 (by decide) (Int32.toInt_toInt64 _); have z3 := jc_eq (a := (xs 1).toInt) (b := (4)) c_191 rfl (by decide); omega
    · refine jj_apd rfl ?_
      refine jj_istore C dL_law_943 (by decide) rfl ?_
      refine jj_aload_n C dL_law_945 rfl ?_
      refine jq_callV (rest := []) C (ct_X11_thrown_7 hl D cA ak q_28 q_31 q_32 q_33 q_34 q_35 q_36 q_37 q_38 q_39 q_40 q_41 q_42) [28] [0, 1, 2, 3, 4, 5, 6, 7, 8, 9, 10, 11, 12, 13, 14, 15, 16, 17, 18, 19, 20, 21, 22, 23, 24, 25, 26, 27] rfl rfl (by decide) (by decide) (by decide) 0 rfl rfl rfl jw_993 jw_994 jw_995 jw_224 jw_992 jn_X11_thrown rfl (jj_le rfl) (jj_le rfl) (jj_le rfl) (jj_le rfl) (jj_le rfl) dL_law_946 rfl (fun _ _ hX => hX.elim) (fun w1 r O_222 => ?_)
      obtain ⟨rfl, rfl⟩ := O_222
      refine jj_apd rfl ?_
      refine jj_iload C dL_law_949 rfl ?_
      refine jj_icmp_eqT (tgt := 956) C dL_law_951 (by decide) (by decide) ?_
      refine jj_iload C dL_law_956 rfl ?_
      refine jj_if_neF (tgt := 973) C dL_law_958 (by decide) (by decide) ?_
      refine jj_aload_n C dL_law_961 rfl ?_
      refine jj_iconst (v := 0) C dL_law_962 (by decide) ?_
      refine jj_lald (v := 1) C 26 rfl (vp_in_iff.mpr (by decide)) rfl dL_law_963 ?_
      refine jj_iload C dL_law_964 rfl ?_
      refine jj_i2l (v := 0) C dL_law_966 (by decide) ?_
      refine jj_lcmp_eqF (tgt := 973) C dL_law_967 dL_law_968 (by decide) (by decide) ?_
      refine jj_iconst (v := 0) C dL_law_971 (by decide) ?_
      exfalso; have z0 := jc_eq (a := (xs 1).toInt) (b := (0)) c_58 rfl (by decide); have z1 := jc_nltL (a := (xs 1).toInt) (b := (0)) c_192 (Int32.toInt_toInt64 _) (by decide); have z2 := jc_nltL (a := (9)) (b := (xs 1).toInt) c_193 (by decide) (Int32.toInt_toInt64 _); have z3 := jc_eq (a := (xs 1).toInt) (b := (5)) c_194 rfl (by decide); omega
    · refine jj_apd rfl ?_
      refine jj_istore C dL_law_943 (by decide) rfl ?_
      refine jj_aload_n C dL_law_945 rfl ?_
      refine jq_callV (rest := []) C (ct_X11_thrown_7 hl D cA ak q_28 q_31 q_32 q_33 q_34 q_35 q_36 q_37 q_38 q_39 q_40 q_41 q_42) [28] [0, 1, 2, 3, 4, 5, 6, 7, 8, 9, 10, 11, 12, 13, 14, 15, 16, 17, 18, 19, 20, 21, 22, 23, 24, 25, 26, 27] rfl rfl (by decide) (by decide) (by decide) 0 rfl rfl rfl jw_993 jw_994 jw_995 jw_224 jw_992 jn_X11_thrown rfl (jj_le rfl) (jj_le rfl) (jj_le rfl) (jj_le rfl) (jj_le rfl) dL_law_946 rfl (fun _ _ hX => hX.elim) (fun w1 r O_224 => ?_)
      obtain ⟨rfl, rfl⟩ := O_224
      refine jj_apd rfl ?_
      refine jj_iload C dL_law_949 rfl ?_
      refine jj_icmp_eqT (tgt := 956) C dL_law_951 (by decide) (by decide) ?_
      refine jj_iload C dL_law_956 rfl ?_
      refine jj_if_neF (tgt := 973) C dL_law_958 (by decide) (by decide) ?_
      refine jj_aload_n C dL_law_961 rfl ?_
      refine jj_iconst (v := 0) C dL_law_962 (by decide) ?_
      refine jj_lald (v := 1) C 26 rfl (vp_in_iff.mpr (by decide)) rfl dL_law_963 ?_
      refine jj_iload C dL_law_964 rfl ?_
      refine jj_i2l (v := 0) C dL_law_966 (by decide) ?_
      refine jj_lcmp_eqF (tgt := 973) C dL_law_967 dL_law_968 (by decide) (by decide) ?_
      refine jj_iconst (v := 0) C dL_law_971 (by decide) ?_
      exfalso; have z0 := jc_eq (a := (xs 1).toInt) (b := (0)) c_58 rfl (by decide); have z1 := jc_nltL (a := (xs 1).toInt) (b := (0)) c_195 (Int32.toInt_toInt64 _) (by decide); have z2 := jc_nltL (a := (9)) (b := (xs 1).toInt) c_196 (by decide) (Int32.toInt_toInt64 _); have z3 := jc_eq (a := (xs 1).toInt) (b := (6)) c_197 rfl (by decide); omega
    · refine jj_apd rfl ?_
      refine jj_istore C dL_law_943 (by decide) rfl ?_
      refine jj_aload_n C dL_law_945 rfl ?_
      refine jq_callV (rest := []) C (ct_X11_thrown_7 hl D cA ak q_28 q_31 q_32 q_33 q_34 q_35 q_36 q_37 q_38 q_39 q_40 q_41 q_42) [28] [0, 1, 2, 3, 4, 5, 6, 7, 8, 9, 10, 11, 12, 13, 14, 15, 16, 17, 18, 19, 20, 21, 22, 23, 24, 25, 26, 27] rfl rfl (by decide) (by decide) (by decide) 0 rfl rfl rfl jw_993 jw_994 jw_995 jw_224 jw_992 jn_X11_thrown rfl (jj_le rfl) (jj_le rfl) (jj_le rfl) (jj_le rfl) (jj_le rfl) dL_law_946 rfl (fun _ _ hX => hX.elim) (fun w1 r O_226 => ?_)
      obtain ⟨rfl, rfl⟩ := O_226
      refine jj_apd rfl ?_
      refine jj_iload C dL_law_949 rfl ?_
      refine jj_icmp_eqT (tgt := 956) C dL_law_951 (by decide) (by decide) ?_
      refine jj_iload C dL_law_956 rfl ?_
      refine jj_if_neF (tgt := 973) C dL_law_958 (by decide) (by decide) ?_
      refine jj_aload_n C dL_law_961 rfl ?_
      refine jj_iconst (v := 0) C dL_law_962 (by decide) ?_
      refine jj_lald (v := 1) C 26 rfl (vp_in_iff.mpr (by decide)) rfl dL_law_963 ?_
      refine jj_iload C dL_law_964 rfl ?_
      refine jj_i2l (v := 0) C dL_law_966 (by decide) ?_
      refine jj_lcmp_eqF (tgt := 973) C dL_law_967 dL_law_968 (by decide) (by decide) ?_
      refine jj_iconst (v := 0) C dL_law_971 (by decide) ?_
      exfalso; have z0 := jc_eq (a := (xs 1).toInt) (b := (0)) c_58 rfl (by decide); have z1 := jc_nltL (a := (xs 1).toInt) (b := (0)) c_198 (Int32.toInt_toInt64 _) (by decide); have z2 := jc_nltL (a := (9)) (b := (xs 1).toInt) c_199 (by decide) (Int32.toInt_toInt64 _); have z3 := jc_eq (a := (xs 1).toInt) (b := (7)) c_200 rfl (by decide); omega
    · refine jj_apd rfl ?_
      refine jj_istore C dL_law_943 (by decide) rfl ?_
      refine jj_aload_n C dL_law_945 rfl ?_
      refine jq_callV (rest := []) C (ct_X11_thrown_7 hl D cA ak q_28 q_31 q_32 q_33 q_34 q_35 q_36 q_37 q_38 q_39 q_40 q_41 q_42) [28] [0, 1, 2, 3, 4, 5, 6, 7, 8, 9, 10, 11, 12, 13, 14, 15, 16, 17, 18, 19, 20, 21, 22, 23, 24, 25, 26, 27] rfl rfl (by decide) (by decide) (by decide) 0 rfl rfl rfl jw_993 jw_994 jw_995 jw_224 jw_992 jn_X11_thrown rfl (jj_le rfl) (jj_le rfl) (jj_le rfl) (jj_le rfl) (jj_le rfl) dL_law_946 rfl (fun _ _ hX => hX.elim) (fun w1 r O_228 => ?_)
      obtain ⟨rfl, rfl⟩ := O_228
      refine jj_apd rfl ?_
      refine jj_iload C dL_law_949 rfl ?_
      refine jj_icmp_eqT (tgt := 956) C dL_law_951 (by decide) (by decide) ?_
      refine jj_iload C dL_law_956 rfl ?_
      refine jj_if_neF (tgt := 973) C dL_law_958 (by decide) (by decide) ?_
      refine jj_aload_n C dL_law_961 rfl ?_
      refine jj_iconst (v := 0) C dL_law_962 (by decide) ?_
      refine jj_lald (v := 1) C 26 rfl (vp_in_iff.mpr (by decide)) rfl dL_law_963 ?_
      refine jj_iload C dL_law_964 rfl ?_
      refine jj_i2l (v := 0) C dL_law_966 (by decide) ?_
      refine jj_lcmp_eqF (tgt := 973) C dL_law_967 dL_law_968 (by decide) (by decide) ?_
      refine jj_iconst (v := 0) C dL_law_971 (by decide) ?_
      exfalso; have z0 := jc_eq (a := (xs 1).toInt) (b := (0)) c_58 rfl (by decide); have z1 := jc_nltL (a := (xs 1).toInt) (b := (0)) c_201 (Int32.toInt_toInt64 _) (by decide); have z2 := jc_nltL (a := (9)) (b := (xs 1).toInt) c_202 (by decide) (Int32.toInt_toInt64 _); have z3 := jc_eq (a := (xs 1).toInt) (b := (8)) c_203 rfl (by decide); omega
    · refine jj_apd rfl ?_
      refine jj_istore C dL_law_943 (by decide) rfl ?_
      refine jj_aload_n C dL_law_945 rfl ?_
      refine jq_callV (rest := []) C (ct_X11_thrown_7 hl D cA ak q_28 q_31 q_32 q_33 q_34 q_35 q_36 q_37 q_38 q_39 q_40 q_41 q_42) [28] [0, 1, 2, 3, 4, 5, 6, 7, 8, 9, 10, 11, 12, 13, 14, 15, 16, 17, 18, 19, 20, 21, 22, 23, 24, 25, 26, 27] rfl rfl (by decide) (by decide) (by decide) 0 rfl rfl rfl jw_993 jw_994 jw_995 jw_224 jw_992 jn_X11_thrown rfl (jj_le rfl) (jj_le rfl) (jj_le rfl) (jj_le rfl) (jj_le rfl) dL_law_946 rfl (fun _ _ hX => hX.elim) (fun w1 r O_230 => ?_)
      obtain ⟨rfl, rfl⟩ := O_230
      refine jj_apd rfl ?_
      refine jj_iload C dL_law_949 rfl ?_
      refine jj_icmp_eqT (tgt := 956) C dL_law_951 (by decide) (by decide) ?_
      refine jj_iload C dL_law_956 rfl ?_
      refine jj_if_neF (tgt := 973) C dL_law_958 (by decide) (by decide) ?_
      refine jj_aload_n C dL_law_961 rfl ?_
      refine jj_iconst (v := 0) C dL_law_962 (by decide) ?_
      refine jj_lald (v := 1) C 26 rfl (vp_in_iff.mpr (by decide)) rfl dL_law_963 ?_
      refine jj_iload C dL_law_964 rfl ?_
      refine jj_i2l (v := 0) C dL_law_966 (by decide) ?_
      refine jj_lcmp_eqF (tgt := 973) C dL_law_967 dL_law_968 (by decide) (by decide) ?_
      refine jj_iconst (v := 0) C dL_law_971 (by decide) ?_
      exfalso; have z0 := jc_eq (a := (xs 1).toInt) (b := (0)) c_58 rfl (by decide); have z1 := jc_nltL (a := (xs 1).toInt) (b := (0)) c_204 (Int32.toInt_toInt64 _) (by decide); have z2 := jc_nltL (a := (9)) (b := (xs 1).toInt) c_205 (by decide) (Int32.toInt_toInt64 _); have z3 := jc_eq (a := (xs 1).toInt) (b := (9)) c_206 rfl (by decide); omega
  · refine jj_apd rfl ?_
    refine jj_istore C dL_law_931 (by decide) rfl ?_
    refine jj_aload_n C dL_law_933 rfl ?_
    refine jj_aload_n C dL_law_934 rfl ?_
    refine jj_iload C dL_law_935 rfl ?_
    refine jj_iconst (v := 1) C dL_law_937 (by decide) ?_
    refine jj_iadd (v := 1) C dL_law_938 (by decide) ?_
    refine jj_xld (v := xs 1) C hX hbl hbA (vp_in_iff.mpr (by decide)) rfl dL_law_939 ?_
    refine jq_callV (rest := []) C (ct_X11_count_1 hl D cA ak q_28 q_31 q_32 q_33 q_34 q_35 q_36 q_37 q_38 q_39 q_40 q_41 q_42 (xs 1)) [14, 26] [0, 1, 2, 3, 4, 5, 6, 7, 8, 9, 10, 11, 12, 13, 15, 16, 17, 18, 19, 20, 21, 22, 23, 24, 25, 27, 28] rfl rfl (by decide) (by decide) (by decide) 0 rfl rfl rfl jw_1160 jw_1161 jw_1162 jw_224 jw_482 jn_X11_count rfl (jj_le rfl) (jj_le rfl) (jj_le rfl) (jj_le rfl) (jj_le rfl) dL_law_940 rfl (fun _ _ hX => hX.elim) (fun w1 r O_232 => ?_)
    rcases O_232 with ⟨c_233, rfl, rfl⟩ | ⟨c_234, c_235, rfl, rfl⟩ | ⟨c_236, c_237, c_238, rfl, rfl⟩ | ⟨c_239, c_240, c_241, rfl, rfl⟩ | ⟨c_242, c_243, c_244, rfl, rfl⟩ | ⟨c_245, c_246, c_247, rfl, rfl⟩ | ⟨c_248, c_249, c_250, rfl, rfl⟩ | ⟨c_251, c_252, c_253, rfl, rfl⟩ | ⟨c_254, c_255, c_256, rfl, rfl⟩ | ⟨c_257, c_258, c_259, rfl, rfl⟩ | ⟨c_260, c_261, c_262, rfl, rfl⟩ | ⟨c_263, c_264, c_265, rfl, rfl⟩
    · refine jj_apd rfl ?_
      refine jj_istore C dL_law_943 (by decide) rfl ?_
      refine jj_aload_n C dL_law_945 rfl ?_
      refine jq_callV (rest := []) C (ct_X11_thrown_2 hl D cA ak q_28 q_31 q_32 q_33 q_34 q_35 q_36 q_37 q_38 q_39 q_40 q_41 q_42) [28] [0, 1, 2, 3, 4, 5, 6, 7, 8, 9, 10, 11, 12, 13, 14, 15, 16, 17, 18, 19, 20, 21, 22, 23, 24, 25, 26, 27] rfl rfl (by decide) (by decide) (by decide) 0 rfl rfl rfl jw_993 jw_994 jw_995 jw_224 jw_992 jn_X11_thrown rfl (jj_le rfl) (jj_le rfl) (jj_le rfl) (jj_le rfl) (jj_le rfl) dL_law_946 rfl (fun _ _ hX => hX.elim) (fun w1 r O_267 => ?_)
      obtain ⟨rfl, rfl⟩ := O_267
      refine jj_apd rfl ?_
      refine jj_iload C dL_law_949 rfl ?_
      refine jj_icmp_eqF (tgt := 956) C dL_law_951 (by decide) (by decide) ?_
      refine jj_iconst (v := 0) C dL_law_954 (by decide) ?_
      exfalso; have z0 := jc_neq (a := (xs 1).toInt) (b := (0)) c_59 rfl (by decide); have z1 := jc_eq (a := (xs 1).toInt) (b := (1)) c_60 rfl (by decide); have z2 := jc_ltL (a := (xs 1).toInt) (b := (0)) c_233 (Int32.toInt_toInt64 _) (by decide); omega
    · refine jj_apd rfl ?_
      refine jj_istore C dL_law_943 (by decide) rfl ?_
      refine jj_aload_n C dL_law_945 rfl ?_
      refine jq_callV (rest := []) C (ct_X11_thrown_2 hl D cA ak q_28 q_31 q_32 q_33 q_34 q_35 q_36 q_37 q_38 q_39 q_40 q_41 q_42) [28] [0, 1, 2, 3, 4, 5, 6, 7, 8, 9, 10, 11, 12, 13, 14, 15, 16, 17, 18, 19, 20, 21, 22, 23, 24, 25, 26, 27] rfl rfl (by decide) (by decide) (by decide) 0 rfl rfl rfl jw_993 jw_994 jw_995 jw_224 jw_992 jn_X11_thrown rfl (jj_le rfl) (jj_le rfl) (jj_le rfl) (jj_le rfl) (jj_le rfl) dL_law_946 rfl (fun _ _ hX => hX.elim) (fun w1 r O_269 => ?_)
      obtain ⟨rfl, rfl⟩ := O_269
      refine jj_apd rfl ?_
      refine jj_iload C dL_law_949 rfl ?_
      refine jj_icmp_eqF (tgt := 956) C dL_law_951 (by decide) (by decide) ?_
      refine jj_iconst (v := 0) C dL_law_954 (by decide) ?_
      exfalso; have z0 := jc_neq (a := (xs 1).toInt) (b := (0)) c_59 rfl (by decide); have z1 := jc_eq (a := (xs 1).toInt) (b := (1)) c_60 rfl (by decide); have z2 := jc_nltL (a := (xs 1).toInt) (b := (0)) c_234 (Int32.toInt_toInt64 _) (by decide); have z3 := jc_ltL (a := (9)) (b := (xs 1).toInt) c_235 (by decide) (Int32.toInt_toInt64 _); omega
    · refine jj_apd rfl ?_
      refine jj_istore C dL_law_943 (by decide) rfl ?_
      refine jj_aload_n C dL_law_945 rfl ?_
      refine jq_callV (rest := []) C (ct_X11_thrown_7 hl D cA ak q_28 q_31 q_32 q_33 q_34 q_35 q_36 q_37 q_38 q_39 q_40 q_41 q_42) [28] [0, 1, 2, 3, 4, 5, 6, 7, 8, 9, 10, 11, 12, 13, 14, 15, 16, 17, 18, 19, 20, 21, 22, 23, 24, 25, 26, 27] rfl rfl (by decide) (by decide) (by decide) 0 rfl rfl rfl jw_993 jw_994 jw_995 jw_224 jw_992 jn_X11_thrown rfl (jj_le rfl) (jj_le rfl) (jj_le rfl) (jj_le rfl) (jj_le rfl) dL_law_946 rfl (fun _ _ hX => hX.elim) (fun w1 r O_271 => ?_)
      obtain ⟨rfl, rfl⟩ := O_271
      refine jj_apd rfl ?_
      refine jj_iload C dL_law_949 rfl ?_
      refine jj_icmp_eqT (tgt := 956) C dL_law_951 (by decide) (by decide) ?_
      refine jj_iload C dL_law_956 rfl ?_
      refine jj_if_neF (tgt := 973) C dL_law_958 (by decide) (by decide) ?_
      refine jj_aload_n C dL_law_961 rfl ?_
      refine jj_iconst (v := 0) C dL_law_962 (by decide) ?_
      refine jj_lald (v := 0) C 26 rfl (vp_in_iff.mpr (by decide)) rfl dL_law_963 ?_
      refine jj_iload C dL_law_964 rfl ?_
      refine jj_i2l (v := 1) C dL_law_966 (by decide) ?_
      refine jj_lcmp_eqF (tgt := 973) C dL_law_967 dL_law_968 (by decide) (by decide) ?_
      refine jj_iconst (v := 0) C dL_law_971 (by decide) ?_
      exact absurd c_238 c_59
    · refine jj_apd rfl ?_
      refine jj_istore C dL_law_943 (by decide) rfl ?_
      refine jj_aload_n C dL_law_945 rfl ?_
      refine jq_callV (rest := []) C (ct_X11_thrown_7 hl D cA ak q_28 q_31 q_32 q_33 q_34 q_35 q_36 q_37 q_38 q_39 q_40 q_41 q_42) [28] [0, 1, 2, 3, 4, 5, 6, 7, 8, 9, 10, 11, 12, 13, 14, 15, 16, 17, 18, 19, 20, 21, 22, 23, 24, 25, 26, 27] rfl rfl (by decide) (by decide) (by decide) 0 rfl rfl rfl jw_993 jw_994 jw_995 jw_224 jw_992 jn_X11_thrown rfl (jj_le rfl) (jj_le rfl) (jj_le rfl) (jj_le rfl) (jj_le rfl) dL_law_946 rfl (fun _ _ hX => hX.elim) (fun w1 r O_273 => ?_)
      obtain ⟨rfl, rfl⟩ := O_273
      refine jj_apd rfl ?_
      refine jj_iload C dL_law_949 rfl ?_
      refine jj_icmp_eqT (tgt := 956) C dL_law_951 (by decide) (by decide) ?_
      refine jj_iload C dL_law_956 rfl ?_
      refine jj_if_neF (tgt := 973) C dL_law_958 (by decide) (by decide) ?_
      refine jj_aload_n C dL_law_961 rfl ?_
      refine jj_iconst (v := 0) C dL_law_962 (by decide) ?_
      refine jj_lald (v := 0) C 26 rfl (vp_in_iff.mpr (by decide)) rfl dL_law_963 ?_
      refine jj_iload C dL_law_964 rfl ?_
      refine jj_i2l (v := 0) C dL_law_966 (by decide) ?_
      refine jj_lcmp_eqT (tgt := 973) C dL_law_967 dL_law_968 (by decide) (by decide) ?_
      refine jj_goto (tgt := 2259) C dL_law_973 (by decide) ?_
      exact jj_loc [7, 2] rfl (jj_drop [] rfl (by decide) (jj_widen (k := 600006) (n := 7302072) (jj_le rfl) (jj_le rfl) hend))
    · refine jj_apd rfl ?_
      refine jj_istore C dL_law_943 (by decide) rfl ?_
      refine jj_aload_n C dL_law_945 rfl ?_
      refine jq_callV (rest := []) C (ct_X11_thrown_7 hl D cA ak q_28 q_31 q_32 q_33 q_34 q_35 q_36 q_37 q_38 q_39 q_40 q_41 q_42) [28] [0, 1, 2, 3, 4, 5, 6, 7, 8, 9, 10, 11, 12, 13, 14, 15, 16, 17, 18, 19, 20, 21, 22, 23, 24, 25, 26, 27] rfl rfl (by decide) (by decide) (by decide) 0 rfl rfl rfl jw_993 jw_994 jw_995 jw_224 jw_992 jn_X11_thrown rfl (jj_le rfl) (jj_le rfl) (jj_le rfl) (jj_le rfl) (jj_le rfl) dL_law_946 rfl (fun _ _ hX => hX.elim) (fun w1 r O_275 => ?_)
      obtain ⟨rfl, rfl⟩ := O_275
      refine jj_apd rfl ?_
      refine jj_iload C dL_law_949 rfl ?_
      refine jj_icmp_eqT (tgt := 956) C dL_law_951 (by decide) (by decide) ?_
      refine jj_iload C dL_law_956 rfl ?_
      refine jj_if_neF (tgt := 973) C dL_law_958 (by decide) (by decide) ?_
      refine jj_aload_n C dL_law_961 rfl ?_
      refine jj_iconst (v := 0) C dL_law_962 (by decide) ?_
      refine jj_lald (v := 0) C 26 rfl (vp_in_iff.mpr (by decide)) rfl dL_law_963 ?_
      refine jj_iload C dL_law_964 rfl ?_
      refine jj_i2l (v := 0) C dL_law_966 (by decide) ?_
      refine jj_lcmp_eqT (tgt := 973) C dL_law_967 dL_law_968 (by decide) (by decide) ?_
      refine jj_goto (tgt := 2259) C dL_law_973 (by decide) ?_
      exact jj_loc [7, 2] rfl (jj_drop [] rfl (by decide) (jj_widen (k := 600006) (n := 7302072) (jj_le rfl) (jj_le rfl) hend))
    · refine jj_apd rfl ?_
      refine jj_istore C dL_law_943 (by decide) rfl ?_
      refine jj_aload_n C dL_law_945 rfl ?_
      refine jq_callV (rest := []) C (ct_X11_thrown_7 hl D cA ak q_28 q_31 q_32 q_33 q_34 q_35 q_36 q_37 q_38 q_39 q_40 q_41 q_42) [28] [0, 1, 2, 3, 4, 5, 6, 7, 8, 9, 10, 11, 12, 13, 14, 15, 16, 17, 18, 19, 20, 21, 22, 23, 24, 25, 26, 27] rfl rfl (by decide) (by decide) (by decide) 0 rfl rfl rfl jw_993 jw_994 jw_995 jw_224 jw_992 jn_X11_thrown rfl (jj_le rfl) (jj_le rfl) (jj_le rfl) (jj_le rfl) (jj_le rfl) dL_law_946 rfl (fun _ _ hX => hX.elim) (fun w1 r O_277 => ?_)
      obtain ⟨rfl, rfl⟩ := O_277
      refine jj_apd rfl ?_
      refine jj_iload C dL_law_949 rfl ?_
      refine jj_icmp_eqT (tgt := 956) C dL_law_951 (by decide) (by decide) ?_
      refine jj_iload C dL_law_956 rfl ?_
      refine jj_if_neF (tgt := 973) C dL_law_958 (by decide) (by decide) ?_
      refine jj_aload_n C dL_law_961 rfl ?_
      refine jj_iconst (v := 0) C dL_law_962 (by decide) ?_
      refine jj_lald (v := 0) C 26 rfl (vp_in_iff.mpr (by decide)) rfl dL_law_963 ?_
      refine jj_iload C dL_law_964 rfl ?_
      refine jj_i2l (v := 0) C dL_law_966 (by decide) ?_
      refine jj_lcmp_eqT (tgt := 973) C dL_law_967 dL_law_968 (by decide) (by decide) ?_
      refine jj_goto (tgt := 2259) C dL_law_973 (by decide) ?_
      exact jj_loc [7, 2] rfl (jj_drop [] rfl (by decide) (jj_widen (k := 600006) (n := 7302072) (jj_le rfl) (jj_le rfl) hend))
    · refine jj_apd rfl ?_
      refine jj_istore C dL_law_943 (by decide) rfl ?_
      refine jj_aload_n C dL_law_945 rfl ?_
      refine jq_callV (rest := []) C (ct_X11_thrown_7 hl D cA ak q_28 q_31 q_32 q_33 q_34 q_35 q_36 q_37 q_38 q_39 q_40 q_41 q_42) [28] [0, 1, 2, 3, 4, 5, 6, 7, 8, 9, 10, 11, 12, 13, 14, 15, 16, 17, 18, 19, 20, 21, 22, 23, 24, 25, 26, 27] rfl rfl (by decide) (by decide) (by decide) 0 rfl rfl rfl jw_993 jw_994 jw_995 jw_224 jw_992 jn_X11_thrown rfl (jj_le rfl) (jj_le rfl) (jj_le rfl) (jj_le rfl) (jj_le rfl) dL_law_946 rfl (fun _ _ hX => hX.elim) (fun w1 r O_279 => ?_)
      obtain ⟨rfl, rfl⟩ := O_279
      refine jj_apd rfl ?_
      refine jj_iload C dL_law_949 rfl ?_
      refine jj_icmp_eqT (tgt := 956) C dL_law_951 (by decide) (by decide) ?_
      refine jj_iload C dL_law_956 rfl ?_
      refine jj_if_neF (tgt := 973) C dL_law_958 (by decide) (by decide) ?_
      refine jj_aload_n C dL_law_961 rfl ?_
      refine jj_iconst (v := 0) C dL_law_962 (by decide) ?_
      refine jj_lald (v := 0) C 26 rfl (vp_in_iff.mpr (by decide)) rfl dL_law_963 ?_
      refine jj_iload C dL_law_964 rfl ?_
      refine jj_i2l (v := 100) C dL_law_966 (by decide) ?_
      refine jj_lcmp_eqF (tgt := 973) C dL_law_967 dL_law_968 (by decide) (by decide) ?_
      refine jj_iconst (v := 0) C dL_law_971 (by decide) ?_
      exfalso; have z0 := jc_neq (a := (xs 1).toInt) (b := (0)) c_59 rfl (by decide); have z1 := jc_eq (a := (xs 1).toInt) (b := (1)) c_60 rfl (by decide); have z2 := jc_nltL (a := (xs 1).toInt) (b := (0)) c_248 (Int32.toInt_toInt64 _) (by decide); have z3 := jc_nltL (a := (9)) (b := (xs 1).toInt) c_249 (by decide) (Int32.toInt_toInt64 _); have z4 := jc_eq (a := (xs 1).toInt) (b := (4)) c_250 rfl (by decide); omega
    · refine jj_apd rfl ?_
      refine jj_istore C dL_law_943 (by decide) rfl ?_
      refine jj_aload_n C dL_law_945 rfl ?_
      refine jq_callV (rest := []) C (ct_X11_thrown_7 hl D cA ak q_28 q_31 q_32 q_33 q_34 q_35 q_36 q_37 q_38 q_39 q_40 q_41 q_42) [28] [0, 1, 2, 3, 4, 5, 6, 7, 8, 9, 10, 11, 12, 13, 14, 15, 16, 17, 18, 19, 20, 21, 22, 23, 24, 25, 26, 27] rfl rfl (by decide) (by decide) (by decide) 0 rfl rfl rfl jw_993 jw_994 jw_995 jw_224 jw_992 jn_X11_thrown rfl (jj_le rfl) (jj_le rfl) (jj_le rfl) (jj_le rfl) (jj_le rfl) dL_law_946 rfl (fun _ _ hX => hX.elim) (fun w1 r O_281 => ?_)
      obtain ⟨rfl, rfl⟩ := O_281
      refine jj_apd rfl ?_
      refine jj_iload C dL_law_949 rfl ?_
      refine jj_icmp_eqT (tgt := 956) C dL_law_951 (by decide) (by decide) ?_
      refine jj_iload C dL_law_956 rfl ?_
      refine jj_if_neF (tgt := 973) C dL_law_958 (by decide) (by decide) ?_
      refine jj_aload_n C dL_law_961 rfl ?_
      refine jj_iconst (v := 0) C dL_law_962 (by decide) ?_
      refine jj_lald (v := 0) C 26 rfl (vp_in_iff.mpr (by decide)) rfl dL_law_963 ?_
      refine jj_iload C dL_law_964 rfl ?_
      refine jj_i2l (v := 0) C dL_law_966 (by decide) ?_
      refine jj_lcmp_eqT (tgt := 973) C dL_law_967 dL_law_968 (by decide) (by decide) ?_
      refine jj_goto (tgt := 2259) C dL_law_973 (by decide) ?_
      exact jj_loc [7, 2] rfl (jj_drop [] rfl (by decide) (jj_widen (k := 600006) (n := 7302072) (jj_le rfl) (jj_le rfl) hend))
    · refine jj_apd rfl ?_
      refine jj_istore C dL_law_943 (by decide) rfl ?_
      refine jj_aload_n C dL_law_945 rfl ?_
      refine jq_callV (rest := []) C (ct_X11_thrown_7 hl D cA ak q_28 q_31 q_32 q_33 q_34 q_35 q_36 q_37 q_38 q_39 q_40 q_41 q_42) [28] [0, 1, 2, 3, 4, 5, 6, 7, 8, 9, 10, 11, 12, 13, 14, 15, 16, 17, 18, 19, 20, 21, 22, 23, 24, 25, 26, 27] rfl rfl (by decide) (by decide) (by decide) 0 rfl rfl rfl jw_993 jw_994 jw_995 jw_224 jw_992 jn_X11_thrown rfl (jj_le rfl) (jj_le rfl) (jj_le rfl) (jj_le rfl) (jj_le rfl) dL_law_946 rfl (fun _ _ hX => hX.elim) (fun w1 r O_283 => ?_)
      obtain ⟨rfl, rfl⟩ := O_283
      refine jj_apd rfl ?_
      refine jj_iload C dL_law_949 rfl ?_
      refine jj_icmp_eqT (tgt := 956) C dL_law_951 (by decide) (by decide) ?_
      refine jj_iload C dL_law_956 rfl ?_
      refine jj_if_neF (tgt := 973) C dL_law_958 (by decide) (by decide) ?_
      refine jj_aload_n C dL_law_961 rfl ?_
      refine jj_iconst (v := 0) C dL_law_962 (by decide) ?_
      refine jj_lald (v := 0) C 26 rfl (vp_in_iff.mpr (by decide)) rfl dL_law_963 ?_
      refine jj_iload C dL_law_964 rfl ?_
      refine jj_i2l (v := 0) C dL_law_966 (by decide) ?_
      refine jj_lcmp_eqT (tgt := 973) C dL_law_967 dL_law_968 (by decide) (by decide) ?_
      refine jj_goto (tgt := 2259) C dL_law_973 (by decide) ?_
      exact jj_loc [7, 2] rfl (jj_drop [] rfl (by decide) (jj_widen (k := 600006) (n := 7302072) (jj_le rfl) (jj_le rfl) hend))
    · refine jj_apd rfl ?_
      refine jj_istore C dL_law_943 (by decide) rfl ?_
      refine jj_aload_n C dL_law_945 rfl ?_
      refine jq_callV (rest := []) C (ct_X11_thrown_7 hl D cA ak q_28 q_31 q_32 q_33 q_34 q_35 q_36 q_37 q_38 q_39 q_40 q_41 q_42) [28] [0, 1, 2, 3, 4, 5, 6, 7, 8, 9, 10, 11, 12, 13, 14, 15, 16, 17, 18, 19, 20, 21, 22, 23, 24, 25, 26, 27] rfl rfl (by decide) (by decide) (by decide) 0 rfl rfl rfl jw_993 jw_994 jw_995 jw_224 jw_992 jn_X11_thrown rfl (jj_le rfl) (jj_le rfl) (jj_le rfl) (jj_le rfl) (jj_le rfl) dL_law_946 rfl (fun _ _ hX => hX.elim) (fun w1 r O_285 => ?_)
      obtain ⟨rfl, rfl⟩ := O_285
      refine jj_apd rfl ?_
      refine jj_iload C dL_law_949 rfl ?_
      refine jj_icmp_eqT (tgt := 956) C dL_law_951 (by decide) (by decide) ?_
      refine jj_iload C dL_law_956 rfl ?_
      refine jj_if_neF (tgt := 973) C dL_law_958 (by decide) (by decide) ?_
      refine jj_aload_n C dL_law_961 rfl ?_
      refine jj_iconst (v := 0) C dL_law_962 (by decide) ?_
      refine jj_lald (v := 0) C 26 rfl (vp_in_iff.mpr (by decide)) rfl dL_law_963 ?_
      refine jj_iload C dL_law_964 rfl ?_
      refine jj_i2l (v := 0) C dL_law_966 (by decide) ?_
      refine jj_lcmp_eqT (tgt := 973) C dL_law_967 dL_law_968 (by decide) (by decide) ?_
      refine jj_goto (tgt := 2259) C dL_law_973 (by decide) ?_
      exact jj_loc [7, 2] rfl (jj_drop [] rfl (by decide) (jj_widen (k := 600006) (n := 7302072) (jj_le rfl) (jj_le rfl) hend))
    · refine jj_apd rfl ?_
      refine jj_istore C dL_law_943 (by decide) rfl ?_
      refine jj_aload_n C dL_law_945 rfl ?_
      refine jq_callV (rest := []) C (ct_X11_thrown_7 hl D cA ak q_28 q_31 q_32 q_33 q_34 q_35 q_36 q_37 q_38 q_39 q_40 q_41 q_42) [28] [0, 1, 2, 3, 4, 5, 6, 7, 8, 9, 10, 11, 12, 13, 14, 15, 16, 17, 18, 19, 20, 21, 22, 23, 24, 25, 26, 27] rfl rfl (by decide) (by decide) (by decide) 0 rfl rfl rfl jw_993 jw_994 jw_995 jw_224 jw_992 jn_X11_thrown rfl (jj_le rfl) (jj_le rfl) (jj_le rfl) (jj_le rfl) (jj_le rfl) dL_law_946 rfl (fun _ _ hX => hX.elim) (fun w1 r O_287 => ?_)
      obtain ⟨rfl, rfl⟩ := O_287
      refine jj_apd rfl ?_
      refine jj_iload C dL_law_949 rfl ?_
      refine jj_icmp_eqT (tgt := 956) C dL_law_951 (by decide) (by decide) ?_
      refine jj_iload C dL_law_956 rfl ?_
      refine jj_if_neF (tgt := 973) C dL_law_958 (by decide) (by decide) ?_
      refine jj_aload_n C dL_law_961 rfl ?_
      refine jj_iconst (v := 0) C dL_law_962 (by decide) ?_
      refine jj_lald (v := 0) C 26 rfl (vp_in_iff.mpr (by decide)) rfl dL_law_963 ?_
      refine jj_iload C dL_law_964 rfl ?_
      refine jj_i2l (v := 0) C dL_law_966 (by decide) ?_
      refine jj_lcmp_eqT (tgt := 973) C dL_law_967 dL_law_968 (by decide) (by decide) ?_
      refine jj_goto (tgt := 2259) C dL_law_973 (by decide) ?_
      exact jj_loc [7, 2] rfl (jj_drop [] rfl (by decide) (jj_widen (k := 600006) (n := 7302072) (jj_le rfl) (jj_le rfl) hend))
    · refine jj_apd rfl ?_
      refine jj_istore C dL_law_943 (by decide) rfl ?_
      refine jj_aload_n C dL_law_945 rfl ?_
      refine jq_callV (rest := []) C (ct_X11_thrown_7 hl D cA ak q_28 q_31 q_32 q_33 q_34 q_35 q_36 q_37 q_38 q_39 q_40 q_41 q_42) [28] [0, 1, 2, 3, 4, 5, 6, 7, 8, 9, 10, 11, 12, 13, 14, 15, 16, 17, 18, 19, 20, 21, 22, 23, 24, 25, 26, 27] rfl rfl (by decide) (by decide) (by decide) 0 rfl rfl rfl jw_993 jw_994 jw_995 jw_224 jw_992 jn_X11_thrown rfl (jj_le rfl) (jj_le rfl) (jj_le rfl) (jj_le rfl) (jj_le rfl) dL_law_946 rfl (fun _ _ hX => hX.elim) (fun w1 r O_289 => ?_)
      obtain ⟨rfl, rfl⟩ := O_289
      refine jj_apd rfl ?_
      refine jj_iload C dL_law_949 rfl ?_
      refine jj_icmp_eqT (tgt := 956) C dL_law_951 (by decide) (by decide) ?_
      refine jj_iload C dL_law_956 rfl ?_
      refine jj_if_neF (tgt := 973) C dL_law_958 (by decide) (by decide) ?_
      refine jj_aload_n C dL_law_961 rfl ?_
      refine jj_iconst (v := 0) C dL_law_962 (by decide) ?_
      refine jj_lald (v := 0) C 26 rfl (vp_in_iff.mpr (by decide)) rfl dL_law_963 ?_
      refine jj_iload C dL_law_964 rfl ?_
      refine jj_i2l (v := 0) C dL_law_966 (by decide) ?_
      refine jj_lcmp_eqT (tgt := 973) C dL_law_967 dL_law_968 (by decide) (by decide) ?_
      refine jj_goto (tgt := 2259) C dL_law_973 (by decide) ?_
      exact jj_loc [7, 2] rfl (jj_drop [] rfl (by decide) (jj_widen (k := 600006) (n := 7302072) (jj_le rfl) (jj_le rfl) hend))
  · refine jj_apd rfl ?_
    refine jj_istore C dL_law_931 (by decide) rfl ?_
    refine jj_aload_n C dL_law_933 rfl ?_
    refine jj_aload_n C dL_law_934 rfl ?_
    refine jj_iload C dL_law_935 rfl ?_
    refine jj_iconst (v := 1) C dL_law_937 (by decide) ?_
    refine jj_iadd (v := 1) C dL_law_938 (by decide) ?_
    refine jj_xld (v := xs 1) C hX hbl hbA (vp_in_iff.mpr (by decide)) rfl dL_law_939 ?_
    refine jq_callV (rest := []) C (ct_X11_count_1 hl D cA ak q_28 q_31 q_32 q_33 q_34 q_35 q_36 q_37 q_38 q_39 q_40 q_41 q_42 (xs 1)) [14, 26] [0, 1, 2, 3, 4, 5, 6, 7, 8, 9, 10, 11, 12, 13, 15, 16, 17, 18, 19, 20, 21, 22, 23, 24, 25, 27, 28] rfl rfl (by decide) (by decide) (by decide) 0 rfl rfl rfl jw_1160 jw_1161 jw_1162 jw_224 jw_482 jn_X11_count rfl (jj_le rfl) (jj_le rfl) (jj_le rfl) (jj_le rfl) (jj_le rfl) dL_law_940 rfl (fun _ _ hX => hX.elim) (fun w1 r O_291 => ?_)
    rcases O_291 with ⟨c_292, rfl, rfl⟩ | ⟨c_293, c_294, rfl, rfl⟩ | ⟨c_295, c_296, c_297, rfl, rfl⟩ | ⟨c_298, c_299, c_300, rfl, rfl⟩ | ⟨c_301, c_302, c_303, rfl, rfl⟩ | ⟨c_304, c_305, c_306, rfl, rfl⟩ | ⟨c_307, c_308, c_309, rfl, rfl⟩ | ⟨c_310, c_311, c_312, rfl, rfl⟩ | ⟨c_313, c_314, c_315, rfl, rfl⟩ | ⟨c_316, c_317, c_318, rfl, rfl⟩ | ⟨c_319, c_320, c_321, rfl, rfl⟩ | ⟨c_322, c_323, c_324, rfl, rfl⟩
    · refine jj_apd rfl ?_
      refine jj_istore C dL_law_943 (by decide) rfl ?_
      refine jj_aload_n C dL_law_945 rfl ?_
      refine jq_callV (rest := []) C (ct_X11_thrown_2 hl D cA ak q_28 q_31 q_32 q_33 q_34 q_35 q_36 q_37 q_38 q_39 q_40 q_41 q_42) [28] [0, 1, 2, 3, 4, 5, 6, 7, 8, 9, 10, 11, 12, 13, 14, 15, 16, 17, 18, 19, 20, 21, 22, 23, 24, 25, 26, 27] rfl rfl (by decide) (by decide) (by decide) 0 rfl rfl rfl jw_993 jw_994 jw_995 jw_224 jw_992 jn_X11_thrown rfl (jj_le rfl) (jj_le rfl) (jj_le rfl) (jj_le rfl) (jj_le rfl) dL_law_946 rfl (fun _ _ hX => hX.elim) (fun w1 r O_326 => ?_)
      obtain ⟨rfl, rfl⟩ := O_326
      refine jj_apd rfl ?_
      refine jj_iload C dL_law_949 rfl ?_
      refine jj_icmp_eqF (tgt := 956) C dL_law_951 (by decide) (by decide) ?_
      refine jj_iconst (v := 0) C dL_law_954 (by decide) ?_
      exfalso; have z0 := jc_neq (a := (xs 1).toInt) (b := (0)) c_61 rfl (by decide); have z1 := jc_neq (a := (xs 1).toInt) (b := (1)) c_62 rfl (by decide); have z2 := jc_eq (a := (xs 1).toInt) (b := (2)) c_63 rfl (by decide); have z3 := jc_ltL (a := (xs 1).toInt) (b := (0)) c_292 (Int32.toInt_toInt64 _) (by decide); omega
    · refine jj_apd rfl ?_
      refine jj_istore C dL_law_943 (by decide) rfl ?_
      refine jj_aload_n C dL_law_945 rfl ?_
      refine jq_callV (rest := []) C (ct_X11_thrown_2 hl D cA ak q_28 q_31 q_32 q_33 q_34 q_35 q_36 q_37 q_38 q_39 q_40 q_41 q_42) [28] [0, 1, 2, 3, 4, 5, 6, 7, 8, 9, 10, 11, 12, 13, 14, 15, 16, 17, 18, 19, 20, 21, 22, 23, 24, 25, 26, 27] rfl rfl (by decide) (by decide) (by decide) 0 rfl rfl rfl jw_993 jw_994 jw_995 jw_224 jw_992 jn_X11_thrown rfl (jj_le rfl) (jj_le rfl) (jj_le rfl) (jj_le rfl) (jj_le rfl) dL_law_946 rfl (fun _ _ hX => hX.elim) (fun w1 r O_328 => ?_)
      obtain ⟨rfl, rfl⟩ := O_328
      refine jj_apd rfl ?_
      refine jj_iload C dL_law_949 rfl ?_
      refine jj_icmp_eqF (tgt := 956) C dL_law_951 (by decide) (by decide) ?_
      refine jj_iconst (v := 0) C dL_law_954 (by decide) ?_
      exfalso; have z0 := jc_neq (a := (xs 1).toInt) (b := (0)) c_61 rfl (by decide); have z1 := jc_neq (a := (xs 1).toInt) (b := (1)) c_62 rfl (by decide); have z2 := jc_eq (a := (xs 1).toInt) (b := (2)) c_63 rfl (by decide); have z3 := jc_nltL (a := (xs 1).toInt) (b := (0)) c_293 (Int32.toInt_toInt64 _) (by decide); have z4 := jc_ltL (a := (9)) (b := (xs 1).toInt) c_294 (by decide) (Int32.toInt_toInt64 _); omega
    · refine jj_apd rfl ?_
      refine jj_istore C dL_law_943 (by decide) rfl ?_
      refine jj_aload_n C dL_law_945 rfl ?_
      refine jq_callV (rest := []) C (ct_X11_thrown_7 hl D cA ak q_28 q_31 q_32 q_33 q_34 q_35 q_36 q_37 q_38 q_39 q_40 q_41 q_42) [28] [0, 1, 2, 3, 4, 5, 6, 7, 8, 9, 10, 11, 12, 13, 14, 15, 16, 17, 18, 19, 20, 21, 22, 23, 24, 25, 26, 27] rfl rfl (by decide) (by decide) (by decide) 0 rfl rfl rfl jw_993 jw_994 jw_995 jw_224 jw_992 jn_X11_thrown rfl (jj_le rfl) (jj_le rfl) (jj_le rfl) (jj_le rfl) (jj_le rfl) dL_law_946 rfl (fun _ _ hX => hX.elim) (fun w1 r O_330 => ?_)
      obtain ⟨rfl, rfl⟩ := O_330
      refine jj_apd rfl ?_
      refine jj_iload C dL_law_949 rfl ?_
      refine jj_icmp_eqT (tgt := 956) C dL_law_951 (by decide) (by decide) ?_
      refine jj_iload C dL_law_956 rfl ?_
      refine jj_if_neF (tgt := 973) C dL_law_958 (by decide) (by decide) ?_
      refine jj_aload_n C dL_law_961 rfl ?_
      refine jj_iconst (v := 0) C dL_law_962 (by decide) ?_
      refine jj_lald (v := 0) C 26 rfl (vp_in_iff.mpr (by decide)) rfl dL_law_963 ?_
      refine jj_iload C dL_law_964 rfl ?_
      refine jj_i2l (v := 1) C dL_law_966 (by decide) ?_
      refine jj_lcmp_eqF (tgt := 973) C dL_law_967 dL_law_968 (by decide) (by decide) ?_
      refine jj_iconst (v := 0) C dL_law_971 (by decide) ?_
      exact absurd c_297 c_61
    · refine jj_apd rfl ?_
      refine jj_istore C dL_law_943 (by decide) rfl ?_
      refine jj_aload_n C dL_law_945 rfl ?_
      refine jq_callV (rest := []) C (ct_X11_thrown_7 hl D cA ak q_28 q_31 q_32 q_33 q_34 q_35 q_36 q_37 q_38 q_39 q_40 q_41 q_42) [28] [0, 1, 2, 3, 4, 5, 6, 7, 8, 9, 10, 11, 12, 13, 14, 15, 16, 17, 18, 19, 20, 21, 22, 23, 24, 25, 26, 27] rfl rfl (by decide) (by decide) (by decide) 0 rfl rfl rfl jw_993 jw_994 jw_995 jw_224 jw_992 jn_X11_thrown rfl (jj_le rfl) (jj_le rfl) (jj_le rfl) (jj_le rfl) (jj_le rfl) dL_law_946 rfl (fun _ _ hX => hX.elim) (fun w1 r O_332 => ?_)
      obtain ⟨rfl, rfl⟩ := O_332
      refine jj_apd rfl ?_
      refine jj_iload C dL_law_949 rfl ?_
      refine jj_icmp_eqT (tgt := 956) C dL_law_951 (by decide) (by decide) ?_
      refine jj_iload C dL_law_956 rfl ?_
      refine jj_if_neF (tgt := 973) C dL_law_958 (by decide) (by decide) ?_
      refine jj_aload_n C dL_law_961 rfl ?_
      refine jj_iconst (v := 0) C dL_law_962 (by decide) ?_
      refine jj_lald (v := 0) C 26 rfl (vp_in_iff.mpr (by decide)) rfl dL_law_963 ?_
      refine jj_iload C dL_law_964 rfl ?_
      refine jj_i2l (v := 0) C dL_law_966 (by decide) ?_
      refine jj_lcmp_eqT (tgt := 973) C dL_law_967 dL_law_968 (by decide) (by decide) ?_
      refine jj_goto (tgt := 2259) C dL_law_973 (by decide) ?_
      exact jj_loc [7, 2] rfl (jj_drop [] rfl (by decide) (jj_widen (k := 600006) (n := 7302072) (jj_le rfl) (jj_le rfl) hend))
    · refine jj_apd rfl ?_
      refine jj_istore C dL_law_943 (by decide) rfl ?_
      refine jj_aload_n C dL_law_945 rfl ?_
      refine jq_callV (rest := []) C (ct_X11_thrown_7 hl D cA ak q_28 q_31 q_32 q_33 q_34 q_35 q_36 q_37 q_38 q_39 q_40 q_41 q_42) [28] [0, 1, 2, 3, 4, 5, 6, 7, 8, 9, 10, 11, 12, 13, 14, 15, 16, 17, 18, 19, 20, 21, 22, 23, 24, 25, 26, 27] rfl rfl (by decide) (by decide) (by decide) 0 rfl rfl rfl jw_993 jw_994 jw_995 jw_224 jw_992 jn_X11_thrown rfl (jj_le rfl) (jj_le rfl) (jj_le rfl) (jj_le rfl) (jj_le rfl) dL_law_946 rfl (fun _ _ hX => hX.elim) (fun w1 r O_334 => ?_)
      obtain ⟨rfl, rfl⟩ := O_334
      refine jj_apd rfl ?_
      refine jj_iload C dL_law_949 rfl ?_
      refine jj_icmp_eqT (tgt := 956) C dL_law_951 (by decide) (by decide) ?_
      refine jj_iload C dL_law_956 rfl ?_
      refine jj_if_neF (tgt := 973) C dL_law_958 (by decide) (by decide) ?_
      refine jj_aload_n C dL_law_961 rfl ?_
      refine jj_iconst (v := 0) C dL_law_962 (by decide) ?_
      refine jj_lald (v := 0) C 26 rfl (vp_in_iff.mpr (by decide)) rfl dL_law_963 ?_
      refine jj_iload C dL_law_964 rfl ?_
      refine jj_i2l (v := 0) C dL_law_966 (by decide) ?_
      refine jj_lcmp_eqT (tgt := 973) C dL_law_967 dL_law_968 (by decide) (by decide) ?_
      refine jj_goto (tgt := 2259) C dL_law_973 (by decide) ?_
      exact jj_loc [7, 2] rfl (jj_drop [] rfl (by decide) (jj_widen (k := 600006) (n := 7302072) (jj_le rfl) (jj_le rfl) hend))
    · refine jj_apd rfl ?_
      refine jj_istore C dL_law_943 (by decide) rfl ?_
      refine jj_aload_n C dL_law_945 rfl ?_
      refine jq_callV (rest := []) C (ct_X11_thrown_7 hl D cA ak q_28 q_31 q_32 q_33 q_34 q_35 q_36 q_37 q_38 q_39 q_40 q_41 q_42) [28] [0, 1, 2, 3, 4, 5, 6, 7, 8, 9, 10, 11, 12, 13, 14, 15, 16, 17, 18, 19, 20, 21, 22, 23, 24, 25, 26, 27] rfl rfl (by decide) (by decide) (by decide) 0 rfl rfl rfl jw_993 jw_994 jw_995 jw_224 jw_992 jn_X11_thrown rfl (jj_le rfl) (jj_le rfl) (jj_le rfl) (jj_le rfl) (jj_le rfl) dL_law_946 rfl (fun _ _ hX => hX.elim) (fun w1 r O_336 => ?_)
      obtain ⟨rfl, rfl⟩ := O_336
      refine jj_apd rfl ?_
      refine jj_iload C dL_law_949 rfl ?_
      refine jj_icmp_eqT (tgt := 956) C dL_law_951 (by decide) (by decide) ?_
      refine jj_iload C dL_law_956 rfl ?_
      refine jj_if_neF (tgt := 973) C dL_law_958 (by decide) (by decide) ?_
      refine jj_aload_n C dL_law_961 rfl ?_
      refine jj_iconst (v := 0) C dL_law_962 (by decide) ?_
      refine jj_lald (v := 0) C 26 rfl (vp_in_iff.mpr (by decide)) rfl dL_law_963 ?_
      refine jj_iload C dL_law_964 rfl ?_
      refine jj_i2l (v := 0) C dL_law_966 (by decide) ?_
      refine jj_lcmp_eqT (tgt := 973) C dL_law_967 dL_law_968 (by decide) (by decide) ?_
      refine jj_goto (tgt := 2259) C dL_law_973 (by decide) ?_
      exact jj_loc [7, 2] rfl (jj_drop [] rfl (by decide) (jj_widen (k := 600006) (n := 7302072) (jj_le rfl) (jj_le rfl) hend))
    · refine jj_apd rfl ?_
      refine jj_istore C dL_law_943 (by decide) rfl ?_
      refine jj_aload_n C dL_law_945 rfl ?_
      refine jq_callV (rest := []) C (ct_X11_thrown_7 hl D cA ak q_28 q_31 q_32 q_33 q_34 q_35 q_36 q_37 q_38 q_39 q_40 q_41 q_42) [28] [0, 1, 2, 3, 4, 5, 6, 7, 8, 9, 10, 11, 12, 13, 14, 15, 16, 17, 18, 19, 20, 21, 22, 23, 24, 25, 26, 27] rfl rfl (by decide) (by decide) (by decide) 0 rfl rfl rfl jw_993 jw_994 jw_995 jw_224 jw_992 jn_X11_thrown rfl (jj_le rfl) (jj_le rfl) (jj_le rfl) (jj_le rfl) (jj_le rfl) dL_law_946 rfl (fun _ _ hX => hX.elim) (fun w1 r O_338 => ?_)
      obtain ⟨rfl, rfl⟩ := O_338
      refine jj_apd rfl ?_
      refine jj_iload C dL_law_949 rfl ?_
      refine jj_icmp_eqT (tgt := 956) C dL_law_951 (by decide) (by decide) ?_
      refine jj_iload C dL_law_956 rfl ?_
      refine jj_if_neF (tgt := 973) C dL_law_958 (by decide) (by decide) ?_
      refine jj_aload_n C dL_law_961 rfl ?_
      refine jj_iconst (v := 0) C dL_law_962 (by decide) ?_
      refine jj_lald (v := 0) C 26 rfl (vp_in_iff.mpr (by decide)) rfl dL_law_963 ?_
      refine jj_iload C dL_law_964 rfl ?_
      refine jj_i2l (v := 100) C dL_law_966 (by decide) ?_
      refine jj_lcmp_eqF (tgt := 973) C dL_law_967 dL_law_968 (by decide) (by decide) ?_
      refine jj_iconst (v := 0) C dL_law_971 (by decide) ?_
      exfalso; have z0 := jc_neq (a := (xs 1).toInt) (b := (0)) c_61 rfl (by decide); have z1 := jc_neq (a := (xs 1).toInt) (b := (1)) c_62 rfl (by decide); have z2 := jc_eq (a := (xs 1).toInt) (b := (2)) c_63 rfl (by decide); have z3 := jc_nltL (a := (xs 1).toInt) (b := (0)) c_307 (Int32.toInt_toInt64 _) (by decide); have z4 := jc_nltL (a := (9)) (b := (xs 1).toInt) c_308 (by decide) (Int32.toInt_toInt64 _); have z5 := jc_eq (a := (xs 1).toInt) (b := (4)) c_309 rfl (by decide); omega
    · refine jj_apd rfl ?_
      refine jj_istore C dL_law_943 (by decide) rfl ?_
      refine jj_aload_n C dL_law_945 rfl ?_
      refine jq_callV (rest := []) C (ct_X11_thrown_7 hl D cA ak q_28 q_31 q_32 q_33 q_34 q_35 q_36 q_37 q_38 q_39 q_40 q_41 q_42) [28] [0, 1, 2, 3, 4, 5, 6, 7, 8, 9, 10, 11, 12, 13, 14, 15, 16, 17, 18, 19, 20, 21, 22, 23, 24, 25, 26, 27] rfl rfl (by decide) (by decide) (by decide) 0 rfl rfl rfl jw_993 jw_994 jw_995 jw_224 jw_992 jn_X11_thrown rfl (jj_le rfl) (jj_le rfl) (jj_le rfl) (jj_le rfl) (jj_le rfl) dL_law_946 rfl (fun _ _ hX => hX.elim) (fun w1 r O_340 => ?_)
      obtain ⟨rfl, rfl⟩ := O_340
      refine jj_apd rfl ?_
      refine jj_iload C dL_law_949 rfl ?_
      refine jj_icmp_eqT (tgt := 956) C dL_law_951 (by decide) (by decide) ?_
      refine jj_iload C dL_law_956 rfl ?_
      refine jj_if_neF (tgt := 973) C dL_law_958 (by decide) (by decide) ?_
      refine jj_aload_n C dL_law_961 rfl ?_
      refine jj_iconst (v := 0) C dL_law_962 (by decide) ?_
      refine jj_lald (v := 0) C 26 rfl (vp_in_iff.mpr (by decide)) rfl dL_law_963 ?_
      refine jj_iload C dL_law_964 rfl ?_
      refine jj_i2l (v := 0) C dL_law_966 (by decide) ?_
      refine jj_lcmp_eqT (tgt := 973) C dL_law_967 dL_law_968 (by decide) (by decide) ?_
      refine jj_goto (tgt := 2259) C dL_law_973 (by decide) ?_
      exact jj_loc [7, 2] rfl (jj_drop [] rfl (by decide) (jj_widen (k := 600006) (n := 7302072) (jj_le rfl) (jj_le rfl) hend))
    · refine jj_apd rfl ?_
      refine jj_istore C dL_law_943 (by decide) rfl ?_
      refine jj_aload_n C dL_law_945 rfl ?_
      refine jq_callV (rest := []) C (ct_X11_thrown_7 hl D cA ak q_28 q_31 q_32 q_33 q_34 q_35 q_36 q_37 q_38 q_39 q_40 q_41 q_42) [28] [0, 1, 2, 3, 4, 5, 6, 7, 8, 9, 10, 11, 12, 13, 14, 15, 16, 17, 18, 19, 20, 21, 22, 23, 24, 25, 26, 27] rfl rfl (by decide) (by decide) (by decide) 0 rfl rfl rfl jw_993 jw_994 jw_995 jw_224 jw_992 jn_X11_thrown rfl (jj_le rfl) (jj_le rfl) (jj_le rfl) (jj_le rfl) (jj_le rfl) dL_law_946 rfl (fun _ _ hX => hX.elim) (fun w1 r O_342 => ?_)
      obtain ⟨rfl, rfl⟩ := O_342
      refine jj_apd rfl ?_
      refine jj_iload C dL_law_949 rfl ?_
      refine jj_icmp_eqT (tgt := 956) C dL_law_951 (by decide) (by decide) ?_
      refine jj_iload C dL_law_956 rfl ?_
      refine jj_if_neF (tgt := 973) C dL_law_958 (by decide) (by decide) ?_
      refine jj_aload_n C dL_law_961 rfl ?_
      refine jj_iconst (v := 0) C dL_law_962 (by decide) ?_
      refine jj_lald (v := 0) C 26 rfl (vp_in_iff.mpr (by decide)) rfl dL_law_963 ?_
      refine jj_iload C dL_law_964 rfl ?_
      refine jj_i2l (v := 0) C dL_law_966 (by decide) ?_
      refine jj_lcmp_eqT (tgt := 973) C dL_law_967 dL_law_968 (by decide) (by decide) ?_
      refine jj_goto (tgt := 2259) C dL_law_973 (by decide) ?_
      exact jj_loc [7, 2] rfl (jj_drop [] rfl (by decide) (jj_widen (k := 600006) (n := 7302072) (jj_le rfl) (jj_le rfl) hend))
    · refine jj_apd rfl ?_
      refine jj_istore C dL_law_943 (by decide) rfl ?_
      refine jj_aload_n C dL_law_945 rfl ?_
      refine jq_callV (rest := []) C (ct_X11_thrown_7 hl D cA ak q_28 q_31 q_32 q_33 q_34 q_35 q_36 q_37 q_38 q_39 q_40 q_41 q_42) [28] [0, 1, 2, 3, 4, 5, 6, 7, 8, 9, 10, 11, 12, 13, 14, 15, 16, 17, 18, 19, 20, 21, 22, 23, 24, 25, 26, 27] rfl rfl (by decide) (by decide) (by decide) 0 rfl rfl rfl jw_993 jw_994 jw_995 jw_224 jw_992 jn_X11_thrown rfl (jj_le rfl) (jj_le rfl) (jj_le rfl) (jj_le rfl) (jj_le rfl) dL_law_946 rfl (fun _ _ hX => hX.elim) (fun w1 r O_344 => ?_)
      obtain ⟨rfl, rfl⟩ := O_344
      refine jj_apd rfl ?_
      refine jj_iload C dL_law_949 rfl ?_
      refine jj_icmp_eqT (tgt := 956) C dL_law_951 (by decide) (by decide) ?_
      refine jj_iload C dL_law_956 rfl ?_
      refine jj_if_neF (tgt := 973) C dL_law_958 (by decide) (by decide) ?_
      refine jj_aload_n C dL_law_961 rfl ?_
      refine jj_iconst (v := 0) C dL_law_962 (by decide) ?_
      refine jj_lald (v := 0) C 26 rfl (vp_in_iff.mpr (by decide)) rfl dL_law_963 ?_
      refine jj_iload C dL_law_964 rfl ?_
      refine jj_i2l (v := 0) C dL_law_966 (by decide) ?_
      refine jj_lcmp_eqT (tgt := 973) C dL_law_967 dL_law_968 (by decide) (by decide) ?_
      refine jj_goto (tgt := 2259) C dL_law_973 (by decide) ?_
      exact jj_loc [7, 2] rfl (jj_drop [] rfl (by decide) (jj_widen (k := 600006) (n := 7302072) (jj_le rfl) (jj_le rfl) hend))
    · refine jj_apd rfl ?_
      refine jj_istore C dL_law_943 (by decide) rfl ?_
      refine jj_aload_n C dL_law_945 rfl ?_
      refine jq_callV (rest := []) C (ct_X11_thrown_7 hl D cA ak q_28 q_31 q_32 q_33 q_34 q_35 q_36 q_37 q_38 q_39 q_40 q_41 q_42) [28] [0, 1, 2, 3, 4, 5, 6, 7, 8, 9, 10, 11, 12, 13, 14, 15, 16, 17, 18, 19, 20, 21, 22, 23, 24, 25, 26, 27] rfl rfl (by decide) (by decide) (by decide) 0 rfl rfl rfl jw_993 jw_994 jw_995 jw_224 jw_992 jn_X11_thrown rfl (jj_le rfl) (jj_le rfl) (jj_le rfl) (jj_le rfl) (jj_le rfl) dL_law_946 rfl (fun _ _ hX => hX.elim) (fun w1 r O_346 => ?_)
      obtain ⟨rfl, rfl⟩ := O_346
      refine jj_apd rfl ?_
      refine jj_iload C dL_law_949 rfl ?_
      refine jj_icmp_eqT (tgt := 956) C dL_law_951 (by decide) (by decide) ?_
      refine jj_iload C dL_law_956 rfl ?_
      refine jj_if_neF (tgt := 973) C dL_law_958 (by decide) (by decide) ?_
      refine jj_aload_n C dL_law_961 rfl ?_
      refine jj_iconst (v := 0) C dL_law_962 (by decide) ?_
      refine jj_lald (v := 0) C 26 rfl (vp_in_iff.mpr (by decide)) rfl dL_law_963 ?_
      refine jj_iload C dL_law_964 rfl ?_
      refine jj_i2l (v := 0) C dL_law_966 (by decide) ?_
      refine jj_lcmp_eqT (tgt := 973) C dL_law_967 dL_law_968 (by decide) (by decide) ?_
      refine jj_goto (tgt := 2259) C dL_law_973 (by decide) ?_
      exact jj_loc [7, 2] rfl (jj_drop [] rfl (by decide) (jj_widen (k := 600006) (n := 7302072) (jj_le rfl) (jj_le rfl) hend))
    · refine jj_apd rfl ?_
      refine jj_istore C dL_law_943 (by decide) rfl ?_
      refine jj_aload_n C dL_law_945 rfl ?_
      refine jq_callV (rest := []) C (ct_X11_thrown_7 hl D cA ak q_28 q_31 q_32 q_33 q_34 q_35 q_36 q_37 q_38 q_39 q_40 q_41 q_42) [28] [0, 1, 2, 3, 4, 5, 6, 7, 8, 9, 10, 11, 12, 13, 14, 15, 16, 17, 18, 19, 20, 21, 22, 23, 24, 25, 26, 27] rfl rfl (by decide) (by decide) (by decide) 0 rfl rfl rfl jw_993 jw_994 jw_995 jw_224 jw_992 jn_X11_thrown rfl (jj_le rfl) (jj_le rfl) (jj_le rfl) (jj_le rfl) (jj_le rfl) dL_law_946 rfl (fun _ _ hX => hX.elim) (fun w1 r O_348 => ?_)
      obtain ⟨rfl, rfl⟩ := O_348
      refine jj_apd rfl ?_
      refine jj_iload C dL_law_949 rfl ?_
      refine jj_icmp_eqT (tgt := 956) C dL_law_951 (by decide) (by decide) ?_
      refine jj_iload C dL_law_956 rfl ?_
      refine jj_if_neF (tgt := 973) C dL_law_958 (by decide) (by decide) ?_
      refine jj_aload_n C dL_law_961 rfl ?_
      refine jj_iconst (v := 0) C dL_law_962 (by decide) ?_
      refine jj_lald (v := 0) C 26 rfl (vp_in_iff.mpr (by decide)) rfl dL_law_963 ?_
      refine jj_iload C dL_law_964 rfl ?_
      refine jj_i2l (v := 0) C dL_law_966 (by decide) ?_
      refine jj_lcmp_eqT (tgt := 973) C dL_law_967 dL_law_968 (by decide) (by decide) ?_
      refine jj_goto (tgt := 2259) C dL_law_973 (by decide) ?_
      exact jj_loc [7, 2] rfl (jj_drop [] rfl (by decide) (jj_widen (k := 600006) (n := 7302072) (jj_le rfl) (jj_le rfl) hend))
  · refine jj_apd rfl ?_
    refine jj_istore C dL_law_931 (by decide) rfl ?_
    refine jj_aload_n C dL_law_933 rfl ?_
    refine jj_aload_n C dL_law_934 rfl ?_
    refine jj_iload C dL_law_935 rfl ?_
    refine jj_iconst (v := 1) C dL_law_937 (by decide) ?_
    refine jj_iadd (v := 1) C dL_law_938 (by decide) ?_
    refine jj_xld (v := xs 1) C hX hbl hbA (vp_in_iff.mpr (by decide)) rfl dL_law_939 ?_
    refine jq_callV (rest := []) C (ct_X11_count_1 hl D cA ak q_28 q_31 q_32 q_33 q_34 q_35 q_36 q_37 q_38 q_39 q_40 q_41 q_42 (xs 1)) [14, 26] [0, 1, 2, 3, 4, 5, 6, 7, 8, 9, 10, 11, 12, 13, 15, 16, 17, 18, 19, 20, 21, 22, 23, 24, 25, 27, 28] rfl rfl (by decide) (by decide) (by decide) 0 rfl rfl rfl jw_1160 jw_1161 jw_1162 jw_224 jw_482 jn_X11_count rfl (jj_le rfl) (jj_le rfl) (jj_le rfl) (jj_le rfl) (jj_le rfl) dL_law_940 rfl (fun _ _ hX => hX.elim) (fun w1 r O_350 => ?_)
    rcases O_350 with ⟨c_351, rfl, rfl⟩ | ⟨c_352, c_353, rfl, rfl⟩ | ⟨c_354, c_355, c_356, rfl, rfl⟩ | ⟨c_357, c_358, c_359, rfl, rfl⟩ | ⟨c_360, c_361, c_362, rfl, rfl⟩ | ⟨c_363, c_364, c_365, rfl, rfl⟩ | ⟨c_366, c_367, c_368, rfl, rfl⟩ | ⟨c_369, c_370, c_371, rfl, rfl⟩ | ⟨c_372, c_373, c_374, rfl, rfl⟩ | ⟨c_375, c_376, c_377, rfl, rfl⟩ | ⟨c_378, c_379, c_380, rfl, rfl⟩ | ⟨c_381, c_382, c_383, rfl, rfl⟩
    · refine jj_apd rfl ?_
      refine jj_istore C dL_law_943 (by decide) rfl ?_
      refine jj_aload_n C dL_law_945 rfl ?_
      refine jq_callV (rest := []) C (ct_X11_thrown_2 hl D cA ak q_28 q_31 q_32 q_33 q_34 q_35 q_36 q_37 q_38 q_39 q_40 q_41 q_42) [28] [0, 1, 2, 3, 4, 5, 6, 7, 8, 9, 10, 11, 12, 13, 14, 15, 16, 17, 18, 19, 20, 21, 22, 23, 24, 25, 26, 27] rfl rfl (by decide) (by decide) (by decide) 0 rfl rfl rfl jw_993 jw_994 jw_995 jw_224 jw_992 jn_X11_thrown rfl (jj_le rfl) (jj_le rfl) (jj_le rfl) (jj_le rfl) (jj_le rfl) dL_law_946 rfl (fun _ _ hX => hX.elim) (fun w1 r O_385 => ?_)
      obtain ⟨rfl, rfl⟩ := O_385
      refine jj_apd rfl ?_
      refine jj_iload C dL_law_949 rfl ?_
      refine jj_icmp_eqF (tgt := 956) C dL_law_951 (by decide) (by decide) ?_
      refine jj_iconst (v := 0) C dL_law_954 (by decide) ?_
      exfalso; have z0 := jc_neq (a := (xs 1).toInt) (b := (0)) c_64 rfl (by decide); have z1 := jc_neq (a := (xs 1).toInt) (b := (1)) c_65 rfl (by decide); have z2 := jc_neq (a := (xs 1).toInt) (b := (2)) c_66 rfl (by decide); have z3 := jc_eq (a := (xs 1).toInt) (b := (3)) c_67 rfl (by decide); have z4 := jc_ltL (a := (xs 1).toInt) (b := (0)) c_351 (Int32.toInt_toInt64 _) (by decide); omega
    · refine jj_apd rfl ?_
      refine jj_istore C dL_law_943 (by decide) rfl ?_
      refine jj_aload_n C dL_law_945 rfl ?_
      refine jq_callV (rest := []) C (ct_X11_thrown_2 hl D cA ak q_28 q_31 q_32 q_33 q_34 q_35 q_36 q_37 q_38 q_39 q_40 q_41 q_42) [28] [0, 1, 2, 3, 4, 5, 6, 7, 8, 9, 10, 11, 12, 13, 14, 15, 16, 17, 18, 19, 20, 21, 22, 23, 24, 25, 26, 27] rfl rfl (by decide) (by decide) (by decide) 0 rfl rfl rfl jw_993 jw_994 jw_995 jw_224 jw_992 jn_X11_thrown rfl (jj_le rfl) (jj_le rfl) (jj_le rfl) (jj_le rfl) (jj_le rfl) dL_law_946 rfl (fun _ _ hX => hX.elim) (fun w1 r O_387 => ?_)
      obtain ⟨rfl, rfl⟩ := O_387
      refine jj_apd rfl ?_
      refine jj_iload C dL_law_949 rfl ?_
      refine jj_icmp_eqF (tgt := 956) C dL_law_951 (by decide) (by decide) ?_
      refine jj_iconst (v := 0) C dL_law_954 (by decide) ?_
      exfalso; have z0 := jc_neq (a := (xs 1).toInt) (b := (0)) c_64 rfl (by decide); have z1 := jc_neq (a := (xs 1).toInt) (b := (1)) c_65 rfl (by decide); have z2 := jc_neq (a := (xs 1).toInt) (b := (2)) c_66 rfl (by decide); have z3 := jc_eq (a := (xs 1).toInt) (b := (3)) c_67 rfl (by decide); have z4 := jc_nltL (a := (xs 1).toInt) (b := (0)) c_352 (Int32.toInt_toInt64 _) (by decide); have z5 := jc_ltL (a := (9)) (b := (xs 1).toInt) c_353 (by decide) (Int32.toInt_toInt64 _); omega
    · refine jj_apd rfl ?_
      refine jj_istore C dL_law_943 (by decide) rfl ?_
      refine jj_aload_n C dL_law_945 rfl ?_
      refine jq_callV (rest := []) C (ct_X11_thrown_7 hl D cA ak q_28 q_31 q_32 q_33 q_34 q_35 q_36 q_37 q_38 q_39 q_40 q_41 q_42) [28] [0, 1, 2, 3, 4, 5, 6, 7, 8, 9, 10, 11, 12, 13, 14, 15, 16, 17, 18, 19, 20, 21, 22, 23, 24, 25, 26, 27] rfl rfl (by decide) (by decide) (by decide) 0 rfl rfl rfl jw_993 jw_994 jw_995 jw_224 jw_992 jn_X11_thrown rfl (jj_le rfl) (jj_le rfl) (jj_le rfl) (jj_le rfl) (jj_le rfl) dL_law_946 rfl (fun _ _ hX => hX.elim) (fun w1 r O_389 => ?_)
      obtain ⟨rfl, rfl⟩ := O_389
      refine jj_apd rfl ?_
      refine jj_iload C dL_law_949 rfl ?_
      refine jj_icmp_eqT (tgt := 956) C dL_law_951 (by decide) (by decide) ?_
      refine jj_iload C dL_law_956 rfl ?_
      refine jj_if_neF (tgt := 973) C dL_law_958 (by decide) (by decide) ?_
      refine jj_aload_n C dL_law_961 rfl ?_
      refine jj_iconst (v := 0) C dL_law_962 (by decide) ?_
      refine jj_lald (v := 0) C 26 rfl (vp_in_iff.mpr (by decide)) rfl dL_law_963 ?_
      refine jj_iload C dL_law_964 rfl ?_
      refine jj_i2l (v := 1) C dL_law_966 (by decide) ?_
      refine jj_lcmp_eqF (tgt := 973) C dL_law_967 dL_law_968 (by decide) (by decide) ?_
      refine jj_iconst (v := 0) C dL_law_971 (by decide) ?_
      exact absurd c_356 c_64
    · refine jj_apd rfl ?_
      refine jj_istore C dL_law_943 (by decide) rfl ?_
      refine jj_aload_n C dL_law_945 rfl ?_
      refine jq_callV (rest := []) C (ct_X11_thrown_7 hl D cA ak q_28 q_31 q_32 q_33 q_34 q_35 q_36 q_37 q_38 q_39 q_40 q_41 q_42) [28] [0, 1, 2, 3, 4, 5, 6, 7, 8, 9, 10, 11, 12, 13, 14, 15, 16, 17, 18, 19, 20, 21, 22, 23, 24, 25, 26, 27] rfl rfl (by decide) (by decide) (by decide) 0 rfl rfl rfl jw_993 jw_994 jw_995 jw_224 jw_992 jn_X11_thrown rfl (jj_le rfl) (jj_le rfl) (jj_le rfl) (jj_le rfl) (jj_le rfl) dL_law_946 rfl (fun _ _ hX => hX.elim) (fun w1 r O_391 => ?_)
      obtain ⟨rfl, rfl⟩ := O_391
      refine jj_apd rfl ?_
      refine jj_iload C dL_law_949 rfl ?_
      refine jj_icmp_eqT (tgt := 956) C dL_law_951 (by decide) (by decide) ?_
      refine jj_iload C dL_law_956 rfl ?_
      refine jj_if_neF (tgt := 973) C dL_law_958 (by decide) (by decide) ?_
      refine jj_aload_n C dL_law_961 rfl ?_
      refine jj_iconst (v := 0) C dL_law_962 (by decide) ?_
      refine jj_lald (v := 0) C 26 rfl (vp_in_iff.mpr (by decide)) rfl dL_law_963 ?_
      refine jj_iload C dL_law_964 rfl ?_
      refine jj_i2l (v := 0) C dL_law_966 (by decide) ?_
      refine jj_lcmp_eqT (tgt := 973) C dL_law_967 dL_law_968 (by decide) (by decide) ?_
      refine jj_goto (tgt := 2259) C dL_law_973 (by decide) ?_
      exact jj_loc [7, 2] rfl (jj_drop [] rfl (by decide) (jj_widen (k := 600006) (n := 7302072) (jj_le rfl) (jj_le rfl) hend))
    · refine jj_apd rfl ?_
      refine jj_istore C dL_law_943 (by decide) rfl ?_
      refine jj_aload_n C dL_law_945 rfl ?_
      refine jq_callV (rest := []) C (ct_X11_thrown_7 hl D cA ak q_28 q_31 q_32 q_33 q_34 q_35 q_36 q_37 q_38 q_39 q_40 q_41 q_42) [28] [0, 1, 2, 3, 4, 5, 6, 7, 8, 9, 10, 11, 12, 13, 14, 15, 16, 17, 18, 19, 20, 21, 22, 23, 24, 25, 26, 27] rfl rfl (by decide) (by decide) (by decide) 0 rfl rfl rfl jw_993 jw_994 jw_995 jw_224 jw_992 jn_X11_thrown rfl (jj_le rfl) (jj_le rfl) (jj_le rfl) (jj_le rfl) (jj_le rfl) dL_law_946 rfl (fun _ _ hX => hX.elim) (fun w1 r O_393 => ?_)
      obtain ⟨rfl, rfl⟩ := O_393
      refine jj_apd rfl ?_
      refine jj_iload C dL_law_949 rfl ?_
      refine jj_icmp_eqT (tgt := 956) C dL_law_951 (by decide) (by decide) ?_
      refine jj_iload C dL_law_956 rfl ?_
      refine jj_if_neF (tgt := 973) C dL_law_958 (by decide) (by decide) ?_
      refine jj_aload_n C dL_law_961 rfl ?_
      refine jj_iconst (v := 0) C dL_law_962 (by decide) ?_
      refine jj_lald (v := 0) C 26 rfl (vp_in_iff.mpr (by decide)) rfl dL_law_963 ?_
      refine jj_iload C dL_law_964 rfl ?_
      refine jj_i2l (v := 0) C dL_law_966 (by decide) ?_
      refine jj_lcmp_eqT (tgt := 973) C dL_law_967 dL_law_968 (by decide) (by decide) ?_
      refine jj_goto (tgt := 2259) C dL_law_973 (by decide) ?_
      exact jj_loc [7, 2] rfl (jj_drop [] rfl (by decide) (jj_widen (k := 600006) (n := 7302072) (jj_le rfl) (jj_le rfl) hend))
    · refine jj_apd rfl ?_
      refine jj_istore C dL_law_943 (by decide) rfl ?_
      refine jj_aload_n C dL_law_945 rfl ?_
      refine jq_callV (rest := []) C (ct_X11_thrown_7 hl D cA ak q_28 q_31 q_32 q_33 q_34 q_35 q_36 q_37 q_38 q_39 q_40 q_41 q_42) [28] [0, 1, 2, 3, 4, 5, 6, 7, 8, 9, 10, 11, 12, 13, 14, 15, 16, 17, 18, 19, 20, 21, 22, 23, 24, 25, 26, 27] rfl rfl (by decide) (by decide) (by decide) 0 rfl rfl rfl jw_993 jw_994 jw_995 jw_224 jw_992 jn_X11_thrown rfl (jj_le rfl) (jj_le rfl) (jj_le rfl) (jj_le rfl) (jj_le rfl) dL_law_946 rfl (fun _ _ hX => hX.elim) (fun w1 r O_395 => ?_)
      obtain ⟨rfl, rfl⟩ := O_395
      refine jj_apd rfl ?_
      refine jj_iload C dL_law_949 rfl ?_
      refine jj_icmp_eqT (tgt := 956) C dL_law_951 (by decide) (by decide) ?_
      refine jj_iload C dL_law_956 rfl ?_
      refine jj_if_neF (tgt := 973) C dL_law_958 (by decide) (by decide) ?_
      refine jj_aload_n C dL_law_961 rfl ?_
      refine jj_iconst (v := 0) C dL_law_962 (by decide) ?_
      refine jj_lald (v := 0) C 26 rfl (vp_in_iff.mpr (by decide)) rfl dL_law_963 ?_
      refine jj_iload C dL_law_964 rfl ?_
      refine jj_i2l (v := 0) C dL_law_966 (by decide) ?_
      refine jj_lcmp_eqT (tgt := 973) C dL_law_967 dL_law_968 (by decide) (by decide) ?_
      refine jj_goto (tgt := 2259) C dL_law_973 (by decide) ?_
      exact jj_loc [7, 2] rfl (jj_drop [] rfl (by decide) (jj_widen (k := 600006) (n := 7302072) (jj_le rfl) (jj_le rfl) hend))
    · refine jj_apd rfl ?_
      refine jj_istore C dL_law_943 (by decide) rfl ?_
      refine jj_aload_n C dL_law_945 rfl ?_
      refine jq_callV (rest := []) C (ct_X11_thrown_7 hl D cA ak q_28 q_31 q_32 q_33 q_34 q_35 q_36 q_37 q_38 q_39 q_40 q_41 q_42) [28] [0, 1, 2, 3, 4, 5, 6, 7, 8, 9, 10, 11, 12, 13, 14, 15, 16, 17, 18, 19, 20, 21, 22, 23, 24, 25, 26, 27] rfl rfl (by decide) (by decide) (by decide) 0 rfl rfl rfl jw_993 jw_994 jw_995 jw_224 jw_992 jn_X11_thrown rfl (jj_le rfl) (jj_le rfl) (jj_le rfl) (jj_le rfl) (jj_le rfl) dL_law_946 rfl (fun _ _ hX => hX.elim) (fun w1 r O_397 => ?_)
      obtain ⟨rfl, rfl⟩ := O_397
      refine jj_apd rfl ?_
      refine jj_iload C dL_law_949 rfl ?_
      refine jj_icmp_eqT (tgt := 956) C dL_law_951 (by decide) (by decide) ?_
      refine jj_iload C dL_law_956 rfl ?_
      refine jj_if_neF (tgt := 973) C dL_law_958 (by decide) (by decide) ?_
      refine jj_aload_n C dL_law_961 rfl ?_
      refine jj_iconst (v := 0) C dL_law_962 (by decide) ?_
      refine jj_lald (v := 0) C 26 rfl (vp_in_iff.mpr (by decide)) rfl dL_law_963 ?_
      refine jj_iload C dL_law_964 rfl ?_
      refine jj_i2l (v := 100) C dL_law_966 (by decide) ?_
      refine jj_lcmp_eqF (tgt := 973) C dL_law_967 dL_law_968 (by decide) (by decide) ?_
      refine jj_iconst (v := 0) C dL_law_971 (by decide) ?_
      exfalso; have z0 := jc_neq (a := (xs 1).toInt) (b := (0)) c_64 rfl (by decide); have z1 := jc_neq (a := (xs 1).toInt) (b := (1)) c_65 rfl (by decide); have z2 := jc_neq (a := (xs 1).toInt) (b := (2)) c_66 rfl (by decide); have z3 := jc_eq (a := (xs 1).toInt) (b := (3)) c_67 rfl (by decide); have z4 := jc_nltL (a := (xs 1).toInt) (b := (0)) c_366 (Int32.toInt_toInt64 _) (by decide); have z5 := jc_nltL (a := (9)) (b := (xs 1).toInt) c_367 (by decide) (Int32.toInt_toInt64 _); have z6 := jc_eq (a := (xs 1).toInt) (b := (4)) c_368 rfl (by decide); omega
    · refine jj_apd rfl ?_
      refine jj_istore C dL_law_943 (by decide) rfl ?_
      refine jj_aload_n C dL_law_945 rfl ?_
      refine jq_callV (rest := []) C (ct_X11_thrown_7 hl D cA ak q_28 q_31 q_32 q_33 q_34 q_35 q_36 q_37 q_38 q_39 q_40 q_41 q_42) [28] [0, 1, 2, 3, 4, 5, 6, 7, 8, 9, 10, 11, 12, 13, 14, 15, 16, 17, 18, 19, 20, 21, 22, 23, 24, 25, 26, 27] rfl rfl (by decide) (by decide) (by decide) 0 rfl rfl rfl jw_993 jw_994 jw_995 jw_224 jw_992 jn_X11_thrown rfl (jj_le rfl) (jj_le rfl) (jj_le rfl) (jj_le rfl) (jj_le rfl) dL_law_946 rfl (fun _ _ hX => hX.elim) (fun w1 r O_399 => ?_)
      obtain ⟨rfl, rfl⟩ := O_399
      refine jj_apd rfl ?_
      refine jj_iload C dL_law_949 rfl ?_
      refine jj_icmp_eqT (tgt := 956) C dL_law_951 (by decide) (by decide) ?_
      refine jj_iload C dL_law_956 rfl ?_
      refine jj_if_neF (tgt := 973) C dL_law_958 (by decide) (by decide) ?_
      refine jj_aload_n C dL_law_961 rfl ?_
      refine jj_iconst (v := 0) C dL_law_962 (by decide) ?_
      refine jj_lald (v := 0) C 26 rfl (vp_in_iff.mpr (by decide)) rfl dL_law_963 ?_
      refine jj_iload C dL_law_964 rfl ?_
      refine jj_i2l (v := 0) C dL_law_966 (by decide) ?_
      refine jj_lcmp_eqT (tgt := 973) C dL_law_967 dL_law_968 (by decide) (by decide) ?_
      refine jj_goto (tgt := 2259) C dL_law_973 (by decide) ?_
      exact jj_loc [7, 2] rfl (jj_drop [] rfl (by decide) (jj_widen (k := 600006) (n := 7302072) (jj_le rfl) (jj_le rfl) hend))
    · refine jj_apd rfl ?_
      refine jj_istore C dL_law_943 (by decide) rfl ?_
      refine jj_aload_n C dL_law_945 rfl ?_
      refine jq_callV (rest := []) C (ct_X11_thrown_7 hl D cA ak q_28 q_31 q_32 q_33 q_34 q_35 q_36 q_37 q_38 q_39 q_40 q_41 q_42) [28] [0, 1, 2, 3, 4, 5, 6, 7, 8, 9, 10, 11, 12, 13, 14, 15, 16, 17, 18, 19, 20, 21, 22, 23, 24, 25, 26, 27] rfl rfl (by decide) (by decide) (by decide) 0 rfl rfl rfl jw_993 jw_994 jw_995 jw_224 jw_992 jn_X11_thrown rfl (jj_le rfl) (jj_le rfl) (jj_le rfl) (jj_le rfl) (jj_le rfl) dL_law_946 rfl (fun _ _ hX => hX.elim) (fun w1 r O_401 => ?_)
      obtain ⟨rfl, rfl⟩ := O_401
      refine jj_apd rfl ?_
      refine jj_iload C dL_law_949 rfl ?_
      refine jj_icmp_eqT (tgt := 956) C dL_law_951 (by decide) (by decide) ?_
      refine jj_iload C dL_law_956 rfl ?_
      refine jj_if_neF (tgt := 973) C dL_law_958 (by decide) (by decide) ?_
      refine jj_aload_n C dL_law_961 rfl ?_
      refine jj_iconst (v := 0) C dL_law_962 (by decide) ?_
      refine jj_lald (v := 0) C 26 rfl (vp_in_iff.mpr (by decide)) rfl dL_law_963 ?_
      refine jj_iload C dL_law_964 rfl ?_
      refine jj_i2l (v := 0) C dL_law_966 (by decide) ?_
      refine jj_lcmp_eqT (tgt := 973) C dL_law_967 dL_law_968 (by decide) (by decide) ?_
      refine jj_goto (tgt := 2259) C dL_law_973 (by decide) ?_
      exact jj_loc [7, 2] rfl (jj_drop [] rfl (by decide) (jj_widen (k := 600006) (n := 7302072) (jj_le rfl) (jj_le rfl) hend))
    · refine jj_apd rfl ?_
      refine jj_istore C dL_law_943 (by decide) rfl ?_
      refine jj_aload_n C dL_law_945 rfl ?_
      refine jq_callV (rest := []) C (ct_X11_thrown_7 hl D cA ak q_28 q_31 q_32 q_33 q_34 q_35 q_36 q_37 q_38 q_39 q_40 q_41 q_42) [28] [0, 1, 2, 3, 4, 5, 6, 7, 8, 9, 10, 11, 12, 13, 14, 15, 16, 17, 18, 19, 20, 21, 22, 23, 24, 25, 26, 27] rfl rfl (by decide) (by decide) (by decide) 0 rfl rfl rfl jw_993 jw_994 jw_995 jw_224 jw_992 jn_X11_thrown rfl (jj_le rfl) (jj_le rfl) (jj_le rfl) (jj_le rfl) (jj_le rfl) dL_law_946 rfl (fun _ _ hX => hX.elim) (fun w1 r O_403 => ?_)
      obtain ⟨rfl, rfl⟩ := O_403
      refine jj_apd rfl ?_
      refine jj_iload C dL_law_949 rfl ?_
      refine jj_icmp_eqT (tgt := 956) C dL_law_951 (by decide) (by decide) ?_
      refine jj_iload C dL_law_956 rfl ?_
      refine jj_if_neF (tgt := 973) C dL_law_958 (by decide) (by decide) ?_
      refine jj_aload_n C dL_law_961 rfl ?_
      refine jj_iconst (v := 0) C dL_law_962 (by decide) ?_
      refine jj_lald (v := 0) C 26 rfl (vp_in_iff.mpr (by decide)) rfl dL_law_963 ?_
      refine jj_iload C dL_law_964 rfl ?_
      refine jj_i2l (v := 0) C dL_law_966 (by decide) ?_
      refine jj_lcmp_eqT (tgt := 973) C dL_law_967 dL_law_968 (by decide) (by decide) ?_
      refine jj_goto (tgt := 2259) C dL_law_973 (by decide) ?_
      exact jj_loc [7, 2] rfl (jj_drop [] rfl (by decide) (jj_widen (k := 600006) (n := 7302072) (jj_le rfl) (jj_le rfl) hend))
    · refine jj_apd rfl ?_
      refine jj_istore C dL_law_943 (by decide) rfl ?_
      refine jj_aload_n C dL_law_945 rfl ?_
      refine jq_callV (rest := []) C (ct_X11_thrown_7 hl D cA ak q_28 q_31 q_32 q_33 q_34 q_35 q_36 q_37 q_38 q_39 q_40 q_41 q_42) [28] [0, 1, 2, 3, 4, 5, 6, 7, 8, 9, 10, 11, 12, 13, 14, 15, 16, 17, 18, 19, 20, 21, 22, 23, 24, 25, 26, 27] rfl rfl (by decide) (by decide) (by decide) 0 rfl rfl rfl jw_993 jw_994 jw_995 jw_224 jw_992 jn_X11_thrown rfl (jj_le rfl) (jj_le rfl) (jj_le rfl) (jj_le rfl) (jj_le rfl) dL_law_946 rfl (fun _ _ hX => hX.elim) (fun w1 r O_405 => ?_)
      obtain ⟨rfl, rfl⟩ := O_405
      refine jj_apd rfl ?_
      refine jj_iload C dL_law_949 rfl ?_
      refine jj_icmp_eqT (tgt := 956) C dL_law_951 (by decide) (by decide) ?_
      refine jj_iload C dL_law_956 rfl ?_
      refine jj_if_neF (tgt := 973) C dL_law_958 (by decide) (by decide) ?_
      refine jj_aload_n C dL_law_961 rfl ?_
      refine jj_iconst (v := 0) C dL_law_962 (by decide) ?_
      refine jj_lald (v := 0) C 26 rfl (vp_in_iff.mpr (by decide)) rfl dL_law_963 ?_
      refine jj_iload C dL_law_964 rfl ?_
      refine jj_i2l (v := 0) C dL_law_966 (by decide) ?_
      refine jj_lcmp_eqT (tgt := 973) C dL_law_967 dL_law_968 (by decide) (by decide) ?_
      refine jj_goto (tgt := 2259) C dL_law_973 (by decide) ?_
      exact jj_loc [7, 2] rfl (jj_drop [] rfl (by decide) (jj_widen (k := 600006) (n := 7302072) (jj_le rfl) (jj_le rfl) hend))
    · refine jj_apd rfl ?_
      refine jj_istore C dL_law_943 (by decide) rfl ?_
      refine jj_aload_n C dL_law_945 rfl ?_
      refine jq_callV (rest := []) C (ct_X11_thrown_7 hl D cA ak q_28 q_31 q_32 q_33 q_34 q_35 q_36 q_37 q_38 q_39 q_40 q_41 q_42) [28] [0, 1, 2, 3, 4, 5, 6, 7, 8, 9, 10, 11, 12, 13, 14, 15, 16, 17, 18, 19, 20, 21, 22, 23, 24, 25, 26, 27] rfl rfl (by decide) (by decide) (by decide) 0 rfl rfl rfl jw_993 jw_994 jw_995 jw_224 jw_992 jn_X11_thrown rfl (jj_le rfl) (jj_le rfl) (jj_le rfl) (jj_le rfl) (jj_le rfl) dL_law_946 rfl (fun _ _ hX => hX.elim) (fun w1 r O_407 => ?_)
      obtain ⟨rfl, rfl⟩ := O_407
      refine jj_apd rfl ?_
      refine jj_iload C dL_law_949 rfl ?_
      refine jj_icmp_eqT (tgt := 956) C dL_law_951 (by decide) (by decide) ?_
      refine jj_iload C dL_law_956 rfl ?_
      refine jj_if_neF (tgt := 973) C dL_law_958 (by decide) (by decide) ?_
      refine jj_aload_n C dL_law_961 rfl ?_
      refine jj_iconst (v := 0) C dL_law_962 (by decide) ?_
      refine jj_lald (v := 0) C 26 rfl (vp_in_iff.mpr (by decide)) rfl dL_law_963 ?_
      refine jj_iload C dL_law_964 rfl ?_
      refine jj_i2l (v := 0) C dL_law_966 (by decide) ?_
      refine jj_lcmp_eqT (tgt := 973) C dL_law_967 dL_law_968 (by decide) (by decide) ?_
      refine jj_goto (tgt := 2259) C dL_law_973 (by decide) ?_
      exact jj_loc [7, 2] rfl (jj_drop [] rfl (by decide) (jj_widen (k := 600006) (n := 7302072) (jj_le rfl) (jj_le rfl) hend))
  · refine jj_apd rfl ?_
    refine jj_istore C dL_law_931 (by decide) rfl ?_
    refine jj_aload_n C dL_law_933 rfl ?_
    refine jj_aload_n C dL_law_934 rfl ?_
    refine jj_iload C dL_law_935 rfl ?_
    refine jj_iconst (v := 1) C dL_law_937 (by decide) ?_
    refine jj_iadd (v := 1) C dL_law_938 (by decide) ?_
    refine jj_xld (v := xs 1) C hX hbl hbA (vp_in_iff.mpr (by decide)) rfl dL_law_939 ?_
    refine jq_callV (rest := []) C (ct_X11_count_1 hl D cA ak q_28 q_31 q_32 q_33 q_34 q_35 q_36 q_37 q_38 q_39 q_40 q_41 q_42 (xs 1)) [14, 26] [0, 1, 2, 3, 4, 5, 6, 7, 8, 9, 10, 11, 12, 13, 15, 16, 17, 18, 19, 20, 21, 22, 23, 24, 25, 27, 28] rfl rfl (by decide) (by decide) (by decide) 0 rfl rfl rfl jw_1160 jw_1161 jw_1162 jw_224 jw_482 jn_X11_count rfl (jj_le rfl) (jj_le rfl) (jj_le rfl) (jj_le rfl) (jj_le rfl) dL_law_940 rfl (fun _ _ hX => hX.elim) (fun w1 r O_409 => ?_)
    rcases O_409 with ⟨c_410, rfl, rfl⟩ | ⟨c_411, c_412, rfl, rfl⟩ | ⟨c_413, c_414, c_415, rfl, rfl⟩ | ⟨c_416, c_417, c_418, rfl, rfl⟩ | ⟨c_419, c_420, c_421, rfl, rfl⟩ | ⟨c_422, c_423, c_424, rfl, rfl⟩ | ⟨c_425, c_426, c_427, rfl, rfl⟩ | ⟨c_428, c_429, c_430, rfl, rfl⟩ | ⟨c_431, c_432, c_433, rfl, rfl⟩ | ⟨c_434, c_435, c_436, rfl, rfl⟩ | ⟨c_437, c_438, c_439, rfl, rfl⟩ | ⟨c_440, c_441, c_442, rfl, rfl⟩
    · refine jj_apd rfl ?_
      refine jj_istore C dL_law_943 (by decide) rfl ?_
      refine jj_aload_n C dL_law_945 rfl ?_
      refine jq_callV (rest := []) C (ct_X11_thrown_2 hl D cA ak q_28 q_31 q_32 q_33 q_34 q_35 q_36 q_37 q_38 q_39 q_40 q_41 q_42) [28] [0, 1, 2, 3, 4, 5, 6, 7, 8, 9, 10, 11, 12, 13, 14, 15, 16, 17, 18, 19, 20, 21, 22, 23, 24, 25, 26, 27] rfl rfl (by decide) (by decide) (by decide) 0 rfl rfl rfl jw_993 jw_994 jw_995 jw_224 jw_992 jn_X11_thrown rfl (jj_le rfl) (jj_le rfl) (jj_le rfl) (jj_le rfl) (jj_le rfl) dL_law_946 rfl (fun _ _ hX => hX.elim) (fun w1 r O_444 => ?_)
      obtain ⟨rfl, rfl⟩ := O_444
      refine jj_apd rfl ?_
      refine jj_iload C dL_law_949 rfl ?_
      refine jj_icmp_eqF (tgt := 956) C dL_law_951 (by decide) (by decide) ?_
      refine jj_iconst (v := 0) C dL_law_954 (by decide) ?_
      exfalso; have z0 := jc_neq (a := (xs 1).toInt) (b := (0)) c_68 rfl (by decide); have z1 := jc_neq (a := (xs 1).toInt) (b := (1)) c_69 rfl (by decide); have z2 := jc_neq (a := (xs 1).toInt) (b := (2)) c_70 rfl (by decide); have z3 := jc_neq (a := (xs 1).toInt) (b := (3)) c_71 rfl (by decide); have z4 := jc_eq (a := (xs 1).toInt) (b := (4)) c_72 rfl (by decide); have z5 := jc_ltL (a := (xs 1).toInt) (b := (0)) c_410 (Int32.toInt_toInt64 _) (by decide); omega
    · refine jj_apd rfl ?_
      refine jj_istore C dL_law_943 (by decide) rfl ?_
      refine jj_aload_n C dL_law_945 rfl ?_
      refine jq_callV (rest := []) C (ct_X11_thrown_2 hl D cA ak q_28 q_31 q_32 q_33 q_34 q_35 q_36 q_37 q_38 q_39 q_40 q_41 q_42) [28] [0, 1, 2, 3, 4, 5, 6, 7, 8, 9, 10, 11, 12, 13, 14, 15, 16, 17, 18, 19, 20, 21, 22, 23, 24, 25, 26, 27] rfl rfl (by decide) (by decide) (by decide) 0 rfl rfl rfl jw_993 jw_994 jw_995 jw_224 jw_992 jn_X11_thrown rfl (jj_le rfl) (jj_le rfl) (jj_le rfl) (jj_le rfl) (jj_le rfl) dL_law_946 rfl (fun _ _ hX => hX.elim) (fun w1 r O_446 => ?_)
      obtain ⟨rfl, rfl⟩ := O_446
      refine jj_apd rfl ?_
      refine jj_iload C dL_law_949 rfl ?_
      refine jj_icmp_eqF (tgt := 956) C dL_law_951 (by decide) (by decide) ?_
      refine jj_iconst (v := 0) C dL_law_954 (by decide) ?_
      exfalso; have z0 := jc_neq (a := (xs 1).toInt) (b := (0)) c_68 rfl (by decide); have z1 := jc_neq (a := (xs 1).toInt) (b := (1)) c_69 rfl (by decide); have z2 := jc_neq (a := (xs 1).toInt) (b := (2)) c_70 rfl (by decide); have z3 := jc_neq (a := (xs 1).toInt) (b := (3)) c_71 rfl (by decide); have z4 := jc_eq (a := (xs 1).toInt) (b := (4)) c_72 rfl (by decide); have z5 := jc_nltL (a := (xs 1).toInt) (b := (0)) c_411 (Int32.toInt_toInt64 _) (by decide); have z6 := jc_ltL (a := (9)) (b := (xs 1).toInt) c_412 (by decide) (Int32.toInt_toInt64 _); omega
    · refine jj_apd rfl ?_
      refine jj_istore C dL_law_943 (by decide) rfl ?_
      refine jj_aload_n C dL_law_945 rfl ?_
      refine jq_callV (rest := []) C (ct_X11_thrown_7 hl D cA ak q_28 q_31 q_32 q_33 q_34 q_35 q_36 q_37 q_38 q_39 q_40 q_41 q_42) [28] [0, 1, 2, 3, 4, 5, 6, 7, 8, 9, 10, 11, 12, 13, 14, 15, 16, 17, 18, 19, 20, 21, 22, 23, 24, 25, 26, 27] rfl rfl (by decide) (by decide) (by decide) 0 rfl rfl rfl jw_993 jw_994 jw_995 jw_224 jw_992 jn_X11_thrown rfl (jj_le rfl) (jj_le rfl) (jj_le rfl) (jj_le rfl) (jj_le rfl) dL_law_946 rfl (fun _ _ hX => hX.elim) (fun w1 r O_448 => ?_)
      obtain ⟨rfl, rfl⟩ := O_448
      refine jj_apd rfl ?_
      refine jj_iload C dL_law_949 rfl ?_
      refine jj_icmp_eqT (tgt := 956) C dL_law_951 (by decide) (by decide) ?_
      refine jj_iload C dL_law_956 rfl ?_
      refine jj_if_neF (tgt := 973) C dL_law_958 (by decide) (by decide) ?_
      refine jj_aload_n C dL_law_961 rfl ?_
      refine jj_iconst (v := 0) C dL_law_962 (by decide) ?_
      refine jj_lald (v := 100) C 26 rfl (vp_in_iff.mpr (by decide)) rfl dL_law_963 ?_
      refine jj_iload C dL_law_964 rfl ?_
      refine jj_i2l (v := 1) C dL_law_966 (by decide) ?_
      refine jj_lcmp_eqF (tgt := 973) C dL_law_967 dL_law_968 (by decide) (by decide) ?_
      refine jj_iconst (v := 0) C dL_law_971 (by decide) ?_
      exact absurd c_415 c_68
    · refine jj_apd rfl ?_
      refine jj_istore C dL_law_943 (by decide) rfl ?_
      refine jj_aload_n C dL_law_945 rfl ?_
      refine jq_callV (rest := []) C (ct_X11_thrown_7 hl D cA ak q_28 q_31 q_32 q_33 q_34 q_35 q_36 q_37 q_38 q_39 q_40 q_41 q_42) [28] [0, 1, 2, 3, 4, 5, 6, 7, 8, 9, 10, 11, 12, 13, 14, 15, 16, 17, 18, 19, 20, 21, 22, 23, 24, 25, 26, 27] rfl rfl (by decide) (by decide) (by decide) 0 rfl rfl rfl jw_993 jw_994 jw_995 jw_224 jw_992 jn_X11_thrown rfl (jj_le rfl) (jj_le rfl) (jj_le rfl) (jj_le rfl) (jj_le rfl) dL_law_946 rfl (fun _ _ hX => hX.elim) (fun w1 r O_450 => ?_)
      obtain ⟨rfl, rfl⟩ := O_450
      refine jj_apd rfl ?_
      refine jj_iload C dL_law_949 rfl ?_
      refine jj_icmp_eqT (tgt := 956) C dL_law_951 (by decide) (by decide) ?_
      refine jj_iload C dL_law_956 rfl ?_
      refine jj_if_neF (tgt := 973) C dL_law_958 (by decide) (by decide) ?_
      refine jj_aload_n C dL_law_961 rfl ?_
      refine jj_iconst (v := 0) C dL_law_962 (by decide) ?_
      refine jj_lald (v := 100) C 26 rfl (vp_in_iff.mpr (by decide)) rfl dL_law_963 ?_
      refine jj_iload C dL_law_964 rfl ?_
      refine jj_i2l (v := 0) C dL_law_966 (by decide) ?_
      refine jj_lcmp_eqF (tgt := 973) C dL_law_967 dL_law_968 (by decide) (by decide) ?_
      refine jj_iconst (v := 0) C dL_law_971 (by decide) ?_
      exact absurd c_418 c_69
    · refine jj_apd rfl ?_
      refine jj_istore C dL_law_943 (by decide) rfl ?_
      refine jj_aload_n C dL_law_945 rfl ?_
      refine jq_callV (rest := []) C (ct_X11_thrown_7 hl D cA ak q_28 q_31 q_32 q_33 q_34 q_35 q_36 q_37 q_38 q_39 q_40 q_41 q_42) [28] [0, 1, 2, 3, 4, 5, 6, 7, 8, 9, 10, 11, 12, 13, 14, 15, 16, 17, 18, 19, 20, 21, 22, 23, 24, 25, 26, 27] rfl rfl (by decide) (by decide) (by decide) 0 rfl rfl rfl jw_993 jw_994 jw_995 jw_224 jw_992 jn_X11_thrown rfl (jj_le rfl) (jj_le rfl) (jj_le rfl) (jj_le rfl) (jj_le rfl) dL_law_946 rfl (fun _ _ hX => hX.elim) (fun w1 r O_452 => ?_)
      obtain ⟨rfl, rfl⟩ := O_452
      refine jj_apd rfl ?_
      refine jj_iload C dL_law_949 rfl ?_
      refine jj_icmp_eqT (tgt := 956) C dL_law_951 (by decide) (by decide) ?_
      refine jj_iload C dL_law_956 rfl ?_
      refine jj_if_neF (tgt := 973) C dL_law_958 (by decide) (by decide) ?_
      refine jj_aload_n C dL_law_961 rfl ?_
      refine jj_iconst (v := 0) C dL_law_962 (by decide) ?_
      refine jj_lald (v := 100) C 26 rfl (vp_in_iff.mpr (by decide)) rfl dL_law_963 ?_
      refine jj_iload C dL_law_964 rfl ?_
      refine jj_i2l (v := 0) C dL_law_966 (by decide) ?_
      refine jj_lcmp_eqF (tgt := 973) C dL_law_967 dL_law_968 (by decide) (by decide) ?_
      refine jj_iconst (v := 0) C dL_law_971 (by decide) ?_
      exact absurd c_421 c_70
    · refine jj_apd rfl ?_
      refine jj_istore C dL_law_943 (by decide) rfl ?_
      refine jj_aload_n C dL_law_945 rfl ?_
      refine jq_callV (rest := []) C (ct_X11_thrown_7 hl D cA ak q_28 q_31 q_32 q_33 q_34 q_35 q_36 q_37 q_38 q_39 q_40 q_41 q_42) [28] [0, 1, 2, 3, 4, 5, 6, 7, 8, 9, 10, 11, 12, 13, 14, 15, 16, 17, 18, 19, 20, 21, 22, 23, 24, 25, 26, 27] rfl rfl (by decide) (by decide) (by decide) 0 rfl rfl rfl jw_993 jw_994 jw_995 jw_224 jw_992 jn_X11_thrown rfl (jj_le rfl) (jj_le rfl) (jj_le rfl) (jj_le rfl) (jj_le rfl) dL_law_946 rfl (fun _ _ hX => hX.elim) (fun w1 r O_454 => ?_)
      obtain ⟨rfl, rfl⟩ := O_454
      refine jj_apd rfl ?_
      refine jj_iload C dL_law_949 rfl ?_
      refine jj_icmp_eqT (tgt := 956) C dL_law_951 (by decide) (by decide) ?_
      refine jj_iload C dL_law_956 rfl ?_
      refine jj_if_neF (tgt := 973) C dL_law_958 (by decide) (by decide) ?_
      refine jj_aload_n C dL_law_961 rfl ?_
      refine jj_iconst (v := 0) C dL_law_962 (by decide) ?_
      refine jj_lald (v := 100) C 26 rfl (vp_in_iff.mpr (by decide)) rfl dL_law_963 ?_
      refine jj_iload C dL_law_964 rfl ?_
      refine jj_i2l (v := 0) C dL_law_966 (by decide) ?_
      refine jj_lcmp_eqF (tgt := 973) C dL_law_967 dL_law_968 (by decide) (by decide) ?_
      refine jj_iconst (v := 0) C dL_law_971 (by decide) ?_
      exact absurd c_424 c_71
    · refine jj_apd rfl ?_
      refine jj_istore C dL_law_943 (by decide) rfl ?_
      refine jj_aload_n C dL_law_945 rfl ?_
      refine jq_callV (rest := []) C (ct_X11_thrown_7 hl D cA ak q_28 q_31 q_32 q_33 q_34 q_35 q_36 q_37 q_38 q_39 q_40 q_41 q_42) [28] [0, 1, 2, 3, 4, 5, 6, 7, 8, 9, 10, 11, 12, 13, 14, 15, 16, 17, 18, 19, 20, 21, 22, 23, 24, 25, 26, 27] rfl rfl (by decide) (by decide) (by decide) 0 rfl rfl rfl jw_993 jw_994 jw_995 jw_224 jw_992 jn_X11_thrown rfl (jj_le rfl) (jj_le rfl) (jj_le rfl) (jj_le rfl) (jj_le rfl) dL_law_946 rfl (fun _ _ hX => hX.elim) (fun w1 r O_456 => ?_)
      obtain ⟨rfl, rfl⟩ := O_456
      refine jj_apd rfl ?_
      refine jj_iload C dL_law_949 rfl ?_
      refine jj_icmp_eqT (tgt := 956) C dL_law_951 (by decide) (by decide) ?_
      refine jj_iload C dL_law_956 rfl ?_
      refine jj_if_neF (tgt := 973) C dL_law_958 (by decide) (by decide) ?_
      refine jj_aload_n C dL_law_961 rfl ?_
      refine jj_iconst (v := 0) C dL_law_962 (by decide) ?_
      refine jj_lald (v := 100) C 26 rfl (vp_in_iff.mpr (by decide)) rfl dL_law_963 ?_
      refine jj_iload C dL_law_964 rfl ?_
      refine jj_i2l (v := 100) C dL_law_966 (by decide) ?_
      refine jj_lcmp_eqT (tgt := 973) C dL_law_967 dL_law_968 (by decide) (by decide) ?_
      refine jj_goto (tgt := 2259) C dL_law_973 (by decide) ?_
      exact jj_loc [7, 2] rfl (jj_drop [] rfl (by decide) (jj_widen (k := 600006) (n := 7302072) (jj_le rfl) (jj_le rfl) hend))
    · refine jj_apd rfl ?_
      refine jj_istore C dL_law_943 (by decide) rfl ?_
      refine jj_aload_n C dL_law_945 rfl ?_
      refine jq_callV (rest := []) C (ct_X11_thrown_7 hl D cA ak q_28 q_31 q_32 q_33 q_34 q_35 q_36 q_37 q_38 q_39 q_40 q_41 q_42) [28] [0, 1, 2, 3, 4, 5, 6, 7, 8, 9, 10, 11, 12, 13, 14, 15, 16, 17, 18, 19, 20, 21, 22, 23, 24, 25, 26, 27] rfl rfl (by decide) (by decide) (by decide) 0 rfl rfl rfl jw_993 jw_994 jw_995 jw_224 jw_992 jn_X11_thrown rfl (jj_le rfl) (jj_le rfl) (jj_le rfl) (jj_le rfl) (jj_le rfl) dL_law_946 rfl (fun _ _ hX => hX.elim) (fun w1 r O_458 => ?_)
      obtain ⟨rfl, rfl⟩ := O_458
      refine jj_apd rfl ?_
      refine jj_iload C dL_law_949 rfl ?_
      refine jj_icmp_eqT (tgt := 956) C dL_law_951 (by decide) (by decide) ?_
      refine jj_iload C dL_law_956 rfl ?_
      refine jj_if_neF (tgt := 973) C dL_law_958 (by decide) (by decide) ?_
      refine jj_aload_n C dL_law_961 rfl ?_
      refine jj_iconst (v := 0) C dL_law_962 (by decide) ?_
      refine jj_lald (v := 100) C 26 rfl (vp_in_iff.mpr (by decide)) rfl dL_law_963 ?_
      refine jj_iload C dL_law_964 rfl ?_
      refine jj_i2l (v := 0) C dL_law_966 (by decide) ?_
      refine jj_lcmp_eqF (tgt := 973) C dL_law_967 dL_law_968 (by decide) (by decide) ?_
      refine jj_iconst (v := 0) C dL_law_971 (by decide) ?_
      exfalso; have z0 := jc_neq (a := (xs 1).toInt) (b := (0)) c_68 rfl (by decide); have z1 := jc_neq (a := (xs 1).toInt) (b := (1)) c_69 rfl (by decide); have z2 := jc_neq (a := (xs 1).toInt) (b := (2)) c_70 rfl (by decide); have z3 := jc_neq (a := (xs 1).toInt) (b := (3)) c_71 rfl (by decide); have z4 := jc_eq (a := (xs 1).toInt) (b := (4)) c_72 rfl (by decide); have z5 := jc_nltL (a := (xs 1).toInt) (b := (0)) c_428 (Int32.toInt_toInt64 _) (by decide); have z6 := jc_nltL (a := (9)) (b := (xs 1).toInt) c_429 (by decide) (Int32.toInt_toInt64 _); have z7 := jc_eq (a := (xs 1).toInt) (b := (5)) c_430 rfl (by decide); omega
    · refine jj_apd rfl ?_
      refine jj_istore C dL_law_943 (by decide) rfl ?_
      refine jj_aload_n C dL_law_945 rfl ?_
      refine jq_callV (rest := []) C (ct_X11_thrown_7 hl D cA ak q_28 q_31 q_32 q_33 q_34 q_35 q_36 q_37 q_38 q_39 q_40 q_41 q_42) [28] [0, 1, 2, 3, 4, 5, 6, 7, 8, 9, 10, 11, 12, 13, 14, 15, 16, 17, 18, 19, 20, 21, 22, 23, 24, 25, 26, 27] rfl rfl (by decide) (by decide) (by decide) 0 rfl rfl rfl jw_993 jw_994 jw_995 jw_224 jw_992 jn_X11_thrown rfl (jj_le rfl) (jj_le rfl) (jj_le rfl) (jj_le rfl) (jj_le rfl) dL_law_946 rfl (fun _ _ hX => hX.elim) (fun w1 r O_460 => ?_)
      obtain ⟨rfl, rfl⟩ := O_460
      refine jj_apd rfl ?_
      refine jj_iload C dL_law_949 rfl ?_
      refine jj_icmp_eqT (tgt := 956) C dL_law_951 (by decide) (by decide) ?_
      refine jj_iload C dL_law_956 rfl ?_
      refine jj_if_neF (tgt := 973) C dL_law_958 (by decide) (by decide) ?_
      refine jj_aload_n C dL_law_961 rfl ?_
      refine jj_iconst (v := 0) C dL_law_962 (by decide) ?_
      refine jj_lald (v := 100) C 26 rfl (vp_in_iff.mpr (by decide)) rfl dL_law_963 ?_
      refine jj_iload C dL_law_964 rfl ?_
      refine jj_i2l (v := 0) C dL_law_966 (by decide) ?_
      refine jj_lcmp_eqF (tgt := 973) C dL_law_967 dL_law_968 (by decide) (by decide) ?_
      refine jj_iconst (v := 0) C dL_law_971 (by decide) ?_
      exfalso; have z0 := jc_neq (a := (xs 1).toInt) (b := (0)) c_68 rfl (by decide); have z1 := jc_neq (a := (xs 1).toInt) (b := (1)) c_69 rfl (by decide); have z2 := jc_neq (a := (xs 1).toInt) (b := (2)) c_70 rfl (by decide); have z3 := jc_neq (a := (xs 1).toInt) (b := (3)) c_71 rfl (by decide); have z4 := jc_eq (a := (xs 1).toInt) (b := (4)) c_72 rfl (by decide); have z5 := jc_nltL (a := (xs 1).toInt) (b := (0)) c_431 (Int32.toInt_toInt64 _) (by decide); have z6 := jc_nltL (a := (9)) (b := (xs 1).toInt) c_432 (by decide) (Int32.toInt_toInt64 _); have z7 := jc_eq (a := (xs 1).toInt) (b := (6)) c_433 rfl (by decide); omega
    · refine jj_apd rfl ?_
      refine jj_istore C dL_law_943 (by decide) rfl ?_
      refine jj_aload_n C dL_law_945 rfl ?_
      refine jq_callV (rest := []) C (ct_X11_thrown_7 hl D cA ak q_28 q_31 q_32 q_33 q_34 q_35 q_36 q_37 q_38 q_39 q_40 q_41 q_42) [28] [0, 1, 2, 3, 4, 5, 6, 7, 8, 9, 10, 11, 12, 13, 14, 15, 16, 17, 18, 19, 20, 21, 22, 23, 24, 25, 26, 27] rfl rfl (by decide) (by decide) (by decide) 0 rfl rfl rfl jw_993 jw_994 jw_995 jw_224 jw_992 jn_X11_thrown rfl (jj_le rfl) (jj_le rfl) (jj_le rfl) (jj_le rfl) (jj_le rfl) dL_law_946 rfl (fun _ _ hX => hX.elim) (fun w1 r O_462 => ?_)
      obtain ⟨rfl, rfl⟩ := O_462
      refine jj_apd rfl ?_
      refine jj_iload C dL_law_949 rfl ?_
      refine jj_icmp_eqT (tgt := 956) C dL_law_951 (by decide) (by decide) ?_
      refine jj_iload C dL_law_956 rfl ?_
      refine jj_if_neF (tgt := 973) C dL_law_958 (by decide) (by decide) ?_
      refine jj_aload_n C dL_law_961 rfl ?_
      refine jj_iconst (v := 0) C dL_law_962 (by decide) ?_
      refine jj_lald (v := 100) C 26 rfl (vp_in_iff.mpr (by decide)) rfl dL_law_963 ?_
      refine jj_iload C dL_law_964 rfl ?_
      refine jj_i2l (v := 0) C dL_law_966 (by decide) ?_
      refine jj_lcmp_eqF (tgt := 973) C dL_law_967 dL_law_968 (by decide) (by decide) ?_
      refine jj_iconst (v := 0) C dL_law_971 (by decide) ?_
      exfalso; have z0 := jc_neq (a := (xs 1).toInt) (b := (0)) c_68 rfl (by decide); have z1 := jc_neq (a := (xs 1).toInt) (b := (1)) c_69 rfl (by decide); have z2 := jc_neq (a := (xs 1).toInt) (b := (2)) c_70 rfl (by decide); have z3 := jc_neq (a := (xs 1).toInt) (b := (3)) c_71 rfl (by decide); have z4 := jc_eq (a := (xs 1).toInt) (b := (4)) c_72 rfl (by decide); have z5 := jc_nltL (a := (xs 1).toInt) (b := (0)) c_434 (Int32.toInt_toInt64 _) (by decide); have z6 := jc_nltL (a := (9)) (b := (xs 1).toInt) c_435 (by decide) (Int32.toInt_toInt64 _); have z7 := jc_eq (a := (xs 1).toInt) (b := (7)) c_436 rfl (by decide); omega
    · refine jj_apd rfl ?_
      refine jj_istore C dL_law_943 (by decide) rfl ?_
      refine jj_aload_n C dL_law_945 rfl ?_
      refine jq_callV (rest := []) C (ct_X11_thrown_7 hl D cA ak q_28 q_31 q_32 q_33 q_34 q_35 q_36 q_37 q_38 q_39 q_40 q_41 q_42) [28] [0, 1, 2, 3, 4, 5, 6, 7, 8, 9, 10, 11, 12, 13, 14, 15, 16, 17, 18, 19, 20, 21, 22, 23, 24, 25, 26, 27] rfl rfl (by decide) (by decide) (by decide) 0 rfl rfl rfl jw_993 jw_994 jw_995 jw_224 jw_992 jn_X11_thrown rfl (jj_le rfl) (jj_le rfl) (jj_le rfl) (jj_le rfl) (jj_le rfl) dL_law_946 rfl (fun _ _ hX => hX.elim) (fun w1 r O_464 => ?_)
      obtain ⟨rfl, rfl⟩ := O_464
      refine jj_apd rfl ?_
      refine jj_iload C dL_law_949 rfl ?_
      refine jj_icmp_eqT (tgt := 956) C dL_law_951 (by decide) (by decide) ?_
      refine jj_iload C dL_law_956 rfl ?_
      refine jj_if_neF (tgt := 973) C dL_law_958 (by decide) (by decide) ?_
      refine jj_aload_n C dL_law_961 rfl ?_
      refine jj_iconst (v := 0) C dL_law_962 (by decide) ?_
      refine jj_lald (v := 100) C 26 rfl (vp_in_iff.mpr (by decide)) rfl dL_law_963 ?_
      refine jj_iload C dL_law_964 rfl ?_
      refine jj_i2l (v := 0) C dL_law_966 (by decide) ?_
      refine jj_lcmp_eqF (tgt := 973) C dL_law_967 dL_law_968 (by decide) (by decide) ?_
      refine jj_iconst (v := 0) C dL_law_971 (by decide) ?_
      exfalso; have z0 := jc_neq (a := (xs 1).toInt) (b := (0)) c_68 rfl (by decide); have z1 := jc_neq (a := (xs 1).toInt) (b := (1)) c_69 rfl (by decide); have z2 := jc_neq (a := (xs 1).toInt) (b := (2)) c_70 rfl (by decide); have z3 := jc_neq (a := (xs 1).toInt) (b := (3)) c_71 rfl (by decide); have z4 := jc_eq (a := (xs 1).toInt) (b := (4)) c_72 rfl (by decide); have z5 := jc_nltL (a := (xs 1).toInt) (b := (0)) c_437 (Int32.toInt_toInt64 _) (by decide); have z6 := jc_nltL (a := (9)) (b := (xs 1).toInt) c_438 (by decide) (Int32.toInt_toInt64 _); have z7 := jc_eq (a := (xs 1).toInt) (b := (8)) c_439 rfl (by decide); omega
    · refine jj_apd rfl ?_
      refine jj_istore C dL_law_943 (by decide) rfl ?_
      refine jj_aload_n C dL_law_945 rfl ?_
      refine jq_callV (rest := []) C (ct_X11_thrown_7 hl D cA ak q_28 q_31 q_32 q_33 q_34 q_35 q_36 q_37 q_38 q_39 q_40 q_41 q_42) [28] [0, 1, 2, 3, 4, 5, 6, 7, 8, 9, 10, 11, 12, 13, 14, 15, 16, 17, 18, 19, 20, 21, 22, 23, 24, 25, 26, 27] rfl rfl (by decide) (by decide) (by decide) 0 rfl rfl rfl jw_993 jw_994 jw_995 jw_224 jw_992 jn_X11_thrown rfl (jj_le rfl) (jj_le rfl) (jj_le rfl) (jj_le rfl) (jj_le rfl) dL_law_946 rfl (fun _ _ hX => hX.elim) (fun w1 r O_466 => ?_)
      obtain ⟨rfl, rfl⟩ := O_466
      refine jj_apd rfl ?_
      refine jj_iload C dL_law_949 rfl ?_
      refine jj_icmp_eqT (tgt := 956) C dL_law_951 (by decide) (by decide) ?_
      refine jj_iload C dL_law_956 rfl ?_
      refine jj_if_neF (tgt := 973) C dL_law_958 (by decide) (by decide) ?_
      refine jj_aload_n C dL_law_961 rfl ?_
      refine jj_iconst (v := 0) C dL_law_962 (by decide) ?_
      refine jj_lald (v := 100) C 26 rfl (vp_in_iff.mpr (by decide)) rfl dL_law_963 ?_
      refine jj_iload C dL_law_964 rfl ?_
      refine jj_i2l (v := 0) C dL_law_966 (by decide) ?_
      refine jj_lcmp_eqF (tgt := 973) C dL_law_967 dL_law_968 (by decide) (by decide) ?_
      refine jj_iconst (v := 0) C dL_law_971 (by decide) ?_
      exfalso; have z0 := jc_neq (a := (xs 1).toInt) (b := (0)) c_68 rfl (by decide); have z1 := jc_neq (a := (xs 1).toInt) (b := (1)) c_69 rfl (by decide); have z2 := jc_neq (a := (xs 1).toInt) (b := (2)) c_70 rfl (by decide); have z3 := jc_neq (a := (xs 1).toInt) (b := (3)) c_71 rfl (by decide); have z4 := jc_eq (a := (xs 1).toInt) (b := (4)) c_72 rfl (by decide); have z5 := jc_nltL (a := (xs 1).toInt) (b := (0)) c_440 (Int32.toInt_toInt64 _) (by decide); have z6 := jc_nltL (a := (9)) (b := (xs 1).toInt) c_441 (by decide) (Int32.toInt_toInt64 _); have z7 := jc_eq (a := (xs 1).toInt) (b := (9)) c_442 rfl (by decide); omega
  · refine jj_apd rfl ?_
    refine jj_istore C dL_law_931 (by decide) rfl ?_
    refine jj_aload_n C dL_law_933 rfl ?_
    refine jj_aload_n C dL_law_934 rfl ?_
    refine jj_iload C dL_law_935 rfl ?_
    refine jj_iconst (v := 1) C dL_law_937 (by decide) ?_
    refine jj_iadd (v := 1) C dL_law_938 (by decide) ?_
    refine jj_xld (v := xs 1) C hX hbl hbA (vp_in_iff.mpr (by decide)) rfl dL_law_939 ?_
    refine jq_callV (rest := []) C (ct_X11_count_1 hl D cA ak q_28 q_31 q_32 q_33 q_34 q_35 q_36 q_37 q_38 q_39 q_40 q_41 q_42 (xs 1)) [14, 26] [0, 1, 2, 3, 4, 5, 6, 7, 8, 9, 10, 11, 12, 13, 15, 16, 17, 18, 19, 20, 21, 22, 23, 24, 25, 27, 28] rfl rfl (by decide) (by decide) (by decide) 0 rfl rfl rfl jw_1160 jw_1161 jw_1162 jw_224 jw_482 jn_X11_count rfl (jj_le rfl) (jj_le rfl) (jj_le rfl) (jj_le rfl) (jj_le rfl) dL_law_940 rfl (fun _ _ hX => hX.elim) (fun w1 r O_468 => ?_)
    rcases O_468 with ⟨c_469, rfl, rfl⟩ | ⟨c_470, c_471, rfl, rfl⟩ | ⟨c_472, c_473, c_474, rfl, rfl⟩ | ⟨c_475, c_476, c_477, rfl, rfl⟩ | ⟨c_478, c_479, c_480, rfl, rfl⟩ | ⟨c_481, c_482, c_483, rfl, rfl⟩ | ⟨c_484, c_485, c_486, rfl, rfl⟩ | ⟨c_487, c_488, c_489, rfl, rfl⟩ | ⟨c_490, c_491, c_492, rfl, rfl⟩ | ⟨c_493, c_494, c_495, rfl, rfl⟩ | ⟨c_496, c_497, c_498, rfl, rfl⟩ | ⟨c_499, c_500, c_501, rfl, rfl⟩
    · refine jj_apd rfl ?_
      refine jj_istore C dL_law_943 (by decide) rfl ?_
      refine jj_aload_n C dL_law_945 rfl ?_
      refine jq_callV (rest := []) C (ct_X11_thrown_2 hl D cA ak q_28 q_31 q_32 q_33 q_34 q_35 q_36 q_37 q_38 q_39 q_40 q_41 q_42) [28] [0, 1, 2, 3, 4, 5, 6, 7, 8, 9, 10, 11, 12, 13, 14, 15, 16, 17, 18, 19, 20, 21, 22, 23, 24, 25, 26, 27] rfl rfl (by decide) (by decide) (by decide) 0 rfl rfl rfl jw_993 jw_994 jw_995 jw_224 jw_992 jn_X11_thrown rfl (jj_le rfl) (jj_le rfl) (jj_le rfl) (jj_le rfl) (jj_le rfl) dL_law_946 rfl (fun _ _ hX => hX.elim) (fun w1 r O_503 => ?_)
      obtain ⟨rfl, rfl⟩ := O_503
      refine jj_apd rfl ?_
      refine jj_iload C dL_law_949 rfl ?_
      refine jj_icmp_eqF (tgt := 956) C dL_law_951 (by decide) (by decide) ?_
      refine jj_iconst (v := 0) C dL_law_954 (by decide) ?_
      exfalso; have z0 := jc_neq (a := (xs 1).toInt) (b := (0)) c_73 rfl (by decide); have z1 := jc_neq (a := (xs 1).toInt) (b := (1)) c_74 rfl (by decide); have z2 := jc_neq (a := (xs 1).toInt) (b := (2)) c_75 rfl (by decide); have z3 := jc_neq (a := (xs 1).toInt) (b := (3)) c_76 rfl (by decide); have z4 := jc_neq (a := (xs 1).toInt) (b := (4)) c_77 rfl (by decide); have z5 := jc_eq (a := (xs 1).toInt) (b := (5)) c_78 rfl (by decide); have z6 := jc_ltL (a := (xs 1).toInt) (b := (0)) c_469 (Int32.toInt_toInt64 _) (by decide); omega
    · refine jj_apd rfl ?_
      refine jj_istore C dL_law_943 (by decide) rfl ?_
      refine jj_aload_n C dL_law_945 rfl ?_
      refine jq_callV (rest := []) C (ct_X11_thrown_2 hl D cA ak q_28 q_31 q_32 q_33 q_34 q_35 q_36 q_37 q_38 q_39 q_40 q_41 q_42) [28] [0, 1, 2, 3, 4, 5, 6, 7, 8, 9, 10, 11, 12, 13, 14, 15, 16, 17, 18, 19, 20, 21, 22, 23, 24, 25, 26, 27] rfl rfl (by decide) (by decide) (by decide) 0 rfl rfl rfl jw_993 jw_994 jw_995 jw_224 jw_992 jn_X11_thrown rfl (jj_le rfl) (jj_le rfl) (jj_le rfl) (jj_le rfl) (jj_le rfl) dL_law_946 rfl (fun _ _ hX => hX.elim) (fun w1 r O_505 => ?_)
      obtain ⟨rfl, rfl⟩ := O_505
      refine jj_apd rfl ?_
      refine jj_iload C dL_law_949 rfl ?_
      refine jj_icmp_eqF (tgt := 956) C dL_law_951 (by decide) (by decide) ?_
      refine jj_iconst (v := 0) C dL_law_954 (by decide) ?_
      exfalso; have z0 := jc_neq (a := (xs 1).toInt) (b := (0)) c_73 rfl (by decide); have z1 := jc_neq (a := (xs 1).toInt) (b := (1)) c_74 rfl (by decide); have z2 := jc_neq (a := (xs 1).toInt) (b := (2)) c_75 rfl (by decide); have z3 := jc_neq (a := (xs 1).toInt) (b := (3)) c_76 rfl (by decide); have z4 := jc_neq (a := (xs 1).toInt) (b := (4)) c_77 rfl (by decide); have z5 := jc_eq (a := (xs 1).toInt) (b := (5)) c_78 rfl (by decide); have z6 := jc_nltL (a := (xs 1).toInt) (b := (0)) c_470 (Int32.toInt_toInt64 _) (by decide); have z7 := jc_ltL (a := (9)) (b := (xs 1).toInt) c_471 (by decide) (Int32.toInt_toInt64 _); omega
    · refine jj_apd rfl ?_
      refine jj_istore C dL_law_943 (by decide) rfl ?_
      refine jj_aload_n C dL_law_945 rfl ?_
      refine jq_callV (rest := []) C (ct_X11_thrown_7 hl D cA ak q_28 q_31 q_32 q_33 q_34 q_35 q_36 q_37 q_38 q_39 q_40 q_41 q_42) [28] [0, 1, 2, 3, 4, 5, 6, 7, 8, 9, 10, 11, 12, 13, 14, 15, 16, 17, 18, 19, 20, 21, 22, 23, 24, 25, 26, 27] rfl rfl (by decide) (by decide) (by decide) 0 rfl rfl rfl jw_993 jw_994 jw_995 jw_224 jw_992 jn_X11_thrown rfl (jj_le rfl) (jj_le rfl) (jj_le rfl) (jj_le rfl) (jj_le rfl) dL_law_946 rfl (fun _ _ hX => hX.elim) (fun w1 r O_507 => ?_)
      obtain ⟨rfl, rfl⟩ := O_507
      refine jj_apd rfl ?_
      refine jj_iload C dL_law_949 rfl ?_
      refine jj_icmp_eqT (tgt := 956) C dL_law_951 (by decide) (by decide) ?_
      refine jj_iload C dL_law_956 rfl ?_
      refine jj_if_neF (tgt := 973) C dL_law_958 (by decide) (by decide) ?_
      refine jj_aload_n C dL_law_961 rfl ?_
      refine jj_iconst (v := 0) C dL_law_962 (by decide) ?_
      refine jj_lald (v := 0) C 26 rfl (vp_in_iff.mpr (by decide)) rfl dL_law_963 ?_
      refine jj_iload C dL_law_964 rfl ?_
      refine jj_i2l (v := 1) C dL_law_966 (by decide) ?_
      refine jj_lcmp_eqF (tgt := 973) C dL_law_967 dL_law_968 (by decide) (by decide) ?_
      refine jj_iconst (v := 0) C dL_law_971 (by decide) ?_
      exact absurd c_474 c_73
    · refine jj_apd rfl ?_
      refine jj_istore C dL_law_943 (by decide) rfl ?_
      refine jj_aload_n C dL_law_945 rfl ?_
      refine jq_callV (rest := []) C (ct_X11_thrown_7 hl D cA ak q_28 q_31 q_32 q_33 q_34 q_35 q_36 q_37 q_38 q_39 q_40 q_41 q_42) [28] [0, 1, 2, 3, 4, 5, 6, 7, 8, 9, 10, 11, 12, 13, 14, 15, 16, 17, 18, 19, 20, 21, 22, 23, 24, 25, 26, 27] rfl rfl (by decide) (by decide) (by decide) 0 rfl rfl rfl jw_993 jw_994 jw_995 jw_224 jw_992 jn_X11_thrown rfl (jj_le rfl) (jj_le rfl) (jj_le rfl) (jj_le rfl) (jj_le rfl) dL_law_946 rfl (fun _ _ hX => hX.elim) (fun w1 r O_509 => ?_)
      obtain ⟨rfl, rfl⟩ := O_509
      refine jj_apd rfl ?_
      refine jj_iload C dL_law_949 rfl ?_
      refine jj_icmp_eqT (tgt := 956) C dL_law_951 (by decide) (by decide) ?_
      refine jj_iload C dL_law_956 rfl ?_
      refine jj_if_neF (tgt := 973) C dL_law_958 (by decide) (by decide) ?_
      refine jj_aload_n C dL_law_961 rfl ?_
      refine jj_iconst (v := 0) C dL_law_962 (by decide) ?_
      refine jj_lald (v := 0) C 26 rfl (vp_in_iff.mpr (by decide)) rfl dL_law_963 ?_
      refine jj_iload C dL_law_964 rfl ?_
      refine jj_i2l (v := 0) C dL_law_966 (by decide) ?_
      refine jj_lcmp_eqT (tgt := 973) C dL_law_967 dL_law_968 (by decide) (by decide) ?_
      refine jj_goto (tgt := 2259) C dL_law_973 (by decide) ?_
      exact jj_loc [7, 2] rfl (jj_drop [] rfl (by decide) (jj_widen (k := 600006) (n := 7302072) (jj_le rfl) (jj_le rfl) hend))
    · refine jj_apd rfl ?_
      refine jj_istore C dL_law_943 (by decide) rfl ?_
      refine jj_aload_n C dL_law_945 rfl ?_
      refine jq_callV (rest := []) C (ct_X11_thrown_7 hl D cA ak q_28 q_31 q_32 q_33 q_34 q_35 q_36 q_37 q_38 q_39 q_40 q_41 q_42) [28] [0, 1, 2, 3, 4, 5, 6, 7, 8, 9, 10, 11, 12, 13, 14, 15, 16, 17, 18, 19, 20, 21, 22, 23, 24, 25, 26, 27] rfl rfl (by decide) (by decide) (by decide) 0 rfl rfl rfl jw_993 jw_994 jw_995 jw_224 jw_992 jn_X11_thrown rfl (jj_le rfl) (jj_le rfl) (jj_le rfl) (jj_le rfl) (jj_le rfl) dL_law_946 rfl (fun _ _ hX => hX.elim) (fun w1 r O_511 => ?_)
      obtain ⟨rfl, rfl⟩ := O_511
      refine jj_apd rfl ?_
      refine jj_iload C dL_law_949 rfl ?_
      refine jj_icmp_eqT (tgt := 956) C dL_law_951 (by decide) (by decide) ?_
      refine jj_iload C dL_law_956 rfl ?_
      refine jj_if_neF (tgt := 973) C dL_law_958 (by decide) (by decide) ?_
      refine jj_aload_n C dL_law_961 rfl ?_
      refine jj_iconst (v := 0) C dL_law_962 (by decide) ?_
      refine jj_lald (v := 0) C 26 rfl (vp_in_iff.mpr (by decide)) rfl dL_law_963 ?_
      refine jj_iload C dL_law_964 rfl ?_
      refine jj_i2l (v := 0) C dL_law_966 (by decide) ?_
      refine jj_lcmp_eqT (tgt := 973) C dL_law_967 dL_law_968 (by decide) (by decide) ?_
      refine jj_goto (tgt := 2259) C dL_law_973 (by decide) ?_
      exact jj_loc [7, 2] rfl (jj_drop [] rfl (by decide) (jj_widen (k := 600006) (n := 7302072) (jj_le rfl) (jj_le rfl) hend))
    · refine jj_apd rfl ?_
      refine jj_istore C dL_law_943 (by decide) rfl ?_
      refine jj_aload_n C dL_law_945 rfl ?_
      refine jq_callV (rest := []) C (ct_X11_thrown_7 hl D cA ak q_28 q_31 q_32 q_33 q_34 q_35 q_36 q_37 q_38 q_39 q_40 q_41 q_42) [28] [0, 1, 2, 3, 4, 5, 6, 7, 8, 9, 10, 11, 12, 13, 14, 15, 16, 17, 18, 19, 20, 21, 22, 23, 24, 25, 26, 27] rfl rfl (by decide) (by decide) (by decide) 0 rfl rfl rfl jw_993 jw_994 jw_995 jw_224 jw_992 jn_X11_thrown rfl (jj_le rfl) (jj_le rfl) (jj_le rfl) (jj_le rfl) (jj_le rfl) dL_law_946 rfl (fun _ _ hX => hX.elim) (fun w1 r O_513 => ?_)
      obtain ⟨rfl, rfl⟩ := O_513
      refine jj_apd rfl ?_
      refine jj_iload C dL_law_949 rfl ?_
      refine jj_icmp_eqT (tgt := 956) C dL_law_951 (by decide) (by decide) ?_
      refine jj_iload C dL_law_956 rfl ?_
      refine jj_if_neF (tgt := 973) C dL_law_958 (by decide) (by decide) ?_
      refine jj_aload_n C dL_law_961 rfl ?_
      refine jj_iconst (v := 0) C dL_law_962 (by decide) ?_
      refine jj_lald (v := 0) C 26 rfl (vp_in_iff.mpr (by decide)) rfl dL_law_963 ?_
      refine jj_iload C dL_law_964 rfl ?_
      refine jj_i2l (v := 0) C dL_law_966 (by decide) ?_
      refine jj_lcmp_eqT (tgt := 973) C dL_law_967 dL_law_968 (by decide) (by decide) ?_
      refine jj_goto (tgt := 2259) C dL_law_973 (by decide) ?_
      exact jj_loc [7, 2] rfl (jj_drop [] rfl (by decide) (jj_widen (k := 600006) (n := 7302072) (jj_le rfl) (jj_le rfl) hend))
    · refine jj_apd rfl ?_
      refine jj_istore C dL_law_943 (by decide) rfl ?_
      refine jj_aload_n C dL_law_945 rfl ?_
      refine jq_callV (rest := []) C (ct_X11_thrown_7 hl D cA ak q_28 q_31 q_32 q_33 q_34 q_35 q_36 q_37 q_38 q_39 q_40 q_41 q_42) [28] [0, 1, 2, 3, 4, 5, 6, 7, 8, 9, 10, 11, 12, 13, 14, 15, 16, 17, 18, 19, 20, 21, 22, 23, 24, 25, 26, 27] rfl rfl (by decide) (by decide) (by decide) 0 rfl rfl rfl jw_993 jw_994 jw_995 jw_224 jw_992 jn_X11_thrown rfl (jj_le rfl) (jj_le rfl) (jj_le rfl) (jj_le rfl) (jj_le rfl) dL_law_946 rfl (fun _ _ hX => hX.elim) (fun w1 r O_515 => ?_)
      obtain ⟨rfl, rfl⟩ := O_515
      refine jj_apd rfl ?_
      refine jj_iload C dL_law_949 rfl ?_
      refine jj_icmp_eqT (tgt := 956) C dL_law_951 (by decide) (by decide) ?_
      refine jj_iload C dL_law_956 rfl ?_
      refine jj_if_neF (tgt := 973) C dL_law_958 (by decide) (by decide) ?_
      refine jj_aload_n C dL_law_961 rfl ?_
      refine jj_iconst (v := 0) C dL_law_962 (by decide) ?_
      refine jj_lald (v := 0) C 26 rfl (vp_in_iff.mpr (by decide)) rfl dL_law_963 ?_
      refine jj_iload C dL_law_964 rfl ?_
      refine jj_i2l (v := 100) C dL_law_966 (by decide) ?_
      refine jj_lcmp_eqF (tgt := 973) C dL_law_967 dL_law_968 (by decide) (by decide) ?_
      refine jj_iconst (v := 0) C dL_law_971 (by decide) ?_
      exact absurd c_486 c_77
    · refine jj_apd rfl ?_
      refine jj_istore C dL_law_943 (by decide) rfl ?_
      refine jj_aload_n C dL_law_945 rfl ?_
      refine jq_callV (rest := []) C (ct_X11_thrown_7 hl D cA ak q_28 q_31 q_32 q_33 q_34 q_35 q_36 q_37 q_38 q_39 q_40 q_41 q_42) [28] [0, 1, 2, 3, 4, 5, 6, 7, 8, 9, 10, 11, 12, 13, 14, 15, 16, 17, 18, 19, 20, 21, 22, 23, 24, 25, 26, 27] rfl rfl (by decide) (by decide) (by decide) 0 rfl rfl rfl jw_993 jw_994 jw_995 jw_224 jw_992 jn_X11_thrown rfl (jj_le rfl) (jj_le rfl) (jj_le rfl) (jj_le rfl) (jj_le rfl) dL_law_946 rfl (fun _ _ hX => hX.elim) (fun w1 r O_517 => ?_)
      obtain ⟨rfl, rfl⟩ := O_517
      refine jj_apd rfl ?_
      refine jj_iload C dL_law_949 rfl ?_
      refine jj_icmp_eqT (tgt := 956) C dL_law_951 (by decide) (by decide) ?_
      refine jj_iload C dL_law_956 rfl ?_
      refine jj_if_neF (tgt := 973) C dL_law_958 (by decide) (by decide) ?_
      refine jj_aload_n C dL_law_961 rfl ?_
      refine jj_iconst (v := 0) C dL_law_962 (by decide) ?_
      refine jj_lald (v := 0) C 26 rfl (vp_in_iff.mpr (by decide)) rfl dL_law_963 ?_
      refine jj_iload C dL_law_964 rfl ?_
      refine jj_i2l (v := 0) C dL_law_966 (by decide) ?_
      refine jj_lcmp_eqT (tgt := 973) C dL_law_967 dL_law_968 (by decide) (by decide) ?_
      refine jj_goto (tgt := 2259) C dL_law_973 (by decide) ?_
      exact jj_loc [7, 2] rfl (jj_drop [] rfl (by decide) (jj_widen (k := 600006) (n := 7302072) (jj_le rfl) (jj_le rfl) hend))
    · refine jj_apd rfl ?_
      refine jj_istore C dL_law_943 (by decide) rfl ?_
      refine jj_aload_n C dL_law_945 rfl ?_
      refine jq_callV (rest := []) C (ct_X11_thrown_7 hl D cA ak q_28 q_31 q_32 q_33 q_34 q_35 q_36 q_37 q_38 q_39 q_40 q_41 q_42) [28] [0, 1, 2, 3, 4, 5, 6, 7, 8, 9, 10, 11, 12, 13, 14, 15, 16, 17, 18, 19, 20, 21, 22, 23, 24, 25, 26, 27] rfl rfl (by decide) (by decide) (by decide) 0 rfl rfl rfl jw_993 jw_994 jw_995 jw_224 jw_992 jn_X11_thrown rfl (jj_le rfl) (jj_le rfl) (jj_le rfl) (jj_le rfl) (jj_le rfl) dL_law_946 rfl (fun _ _ hX => hX.elim) (fun w1 r O_519 => ?_)
      obtain ⟨rfl, rfl⟩ := O_519
      refine jj_apd rfl ?_
      refine jj_iload C dL_law_949 rfl ?_
      refine jj_icmp_eqT (tgt := 956) C dL_law_951 (by decide) (by decide) ?_
      refine jj_iload C dL_law_956 rfl ?_
      refine jj_if_neF (tgt := 973) C dL_law_958 (by decide) (by decide) ?_
      refine jj_aload_n C dL_law_961 rfl ?_
      refine jj_iconst (v := 0) C dL_law_962 (by decide) ?_
      refine jj_lald (v := 0) C 26 rfl (vp_in_iff.mpr (by decide)) rfl dL_law_963 ?_
      refine jj_iload C dL_law_964 rfl ?_
      refine jj_i2l (v := 0) C dL_law_966 (by decide) ?_
      refine jj_lcmp_eqT (tgt := 973) C dL_law_967 dL_law_968 (by decide) (by decide) ?_
      refine jj_goto (tgt := 2259) C dL_law_973 (by decide) ?_
      exact jj_loc [7, 2] rfl (jj_drop [] rfl (by decide) (jj_widen (k := 600006) (n := 7302072) (jj_le rfl) (jj_le rfl) hend))
    · refine jj_apd rfl ?_
      refine jj_istore C dL_law_943 (by decide) rfl ?_
      refine jj_aload_n C dL_law_945 rfl ?_
      refine jq_callV (rest := []) C (ct_X11_thrown_7 hl D cA ak q_28 q_31 q_32 q_33 q_34 q_35 q_36 q_37 q_38 q_39 q_40 q_41 q_42) [28] [0, 1, 2, 3, 4, 5, 6, 7, 8, 9, 10, 11, 12, 13, 14, 15, 16, 17, 18, 19, 20, 21, 22, 23, 24, 25, 26, 27] rfl rfl (by decide) (by decide) (by decide) 0 rfl rfl rfl jw_993 jw_994 jw_995 jw_224 jw_992 jn_X11_thrown rfl (jj_le rfl) (jj_le rfl) (jj_le rfl) (jj_le rfl) (jj_le rfl) dL_law_946 rfl (fun _ _ hX => hX.elim) (fun w1 r O_521 => ?_)
      obtain ⟨rfl, rfl⟩ := O_521
      refine jj_apd rfl ?_
      refine jj_iload C dL_law_949 rfl ?_
      refine jj_icmp_eqT (tgt := 956) C dL_law_951 (by decide) (by decide) ?_
      refine jj_iload C dL_law_956 rfl ?_
      refine jj_if_neF (tgt := 973) C dL_law_958 (by decide) (by decide) ?_
      refine jj_aload_n C dL_law_961 rfl ?_
      refine jj_iconst (v := 0) C dL_law_962 (by decide) ?_
      refine jj_lald (v := 0) C 26 rfl (vp_in_iff.mpr (by decide)) rfl dL_law_963 ?_
      refine jj_iload C dL_law_964 rfl ?_
      refine jj_i2l (v := 0) C dL_law_966 (by decide) ?_
      refine jj_lcmp_eqT (tgt := 973) C dL_law_967 dL_law_968 (by decide) (by decide) ?_
      refine jj_goto (tgt := 2259) C dL_law_973 (by decide) ?_
      exact jj_loc [7, 2] rfl (jj_drop [] rfl (by decide) (jj_widen (k := 600006) (n := 7302072) (jj_le rfl) (jj_le rfl) hend))
    · refine jj_apd rfl ?_
      refine jj_istore C dL_law_943 (by decide) rfl ?_
      refine jj_aload_n C dL_law_945 rfl ?_
      refine jq_callV (rest := []) C (ct_X11_thrown_7 hl D cA ak q_28 q_31 q_32 q_33 q_34 q_35 q_36 q_37 q_38 q_39 q_40 q_41 q_42) [28] [0, 1, 2, 3, 4, 5, 6, 7, 8, 9, 10, 11, 12, 13, 14, 15, 16, 17, 18, 19, 20, 21, 22, 23, 24, 25, 26, 27] rfl rfl (by decide) (by decide) (by decide) 0 rfl rfl rfl jw_993 jw_994 jw_995 jw_224 jw_992 jn_X11_thrown rfl (jj_le rfl) (jj_le rfl) (jj_le rfl) (jj_le rfl) (jj_le rfl) dL_law_946 rfl (fun _ _ hX => hX.elim) (fun w1 r O_523 => ?_)
      obtain ⟨rfl, rfl⟩ := O_523
      refine jj_apd rfl ?_
      refine jj_iload C dL_law_949 rfl ?_
      refine jj_icmp_eqT (tgt := 956) C dL_law_951 (by decide) (by decide) ?_
      refine jj_iload C dL_law_956 rfl ?_
      refine jj_if_neF (tgt := 973) C dL_law_958 (by decide) (by decide) ?_
      refine jj_aload_n C dL_law_961 rfl ?_
      refine jj_iconst (v := 0) C dL_law_962 (by decide) ?_
      refine jj_lald (v := 0) C 26 rfl (vp_in_iff.mpr (by decide)) rfl dL_law_963 ?_
      refine jj_iload C dL_law_964 rfl ?_
      refine jj_i2l (v := 0) C dL_law_966 (by decide) ?_
      refine jj_lcmp_eqT (tgt := 973) C dL_law_967 dL_law_968 (by decide) (by decide) ?_
      refine jj_goto (tgt := 2259) C dL_law_973 (by decide) ?_
      exact jj_loc [7, 2] rfl (jj_drop [] rfl (by decide) (jj_widen (k := 600006) (n := 7302072) (jj_le rfl) (jj_le rfl) hend))
    · refine jj_apd rfl ?_
      refine jj_istore C dL_law_943 (by decide) rfl ?_
      refine jj_aload_n C dL_law_945 rfl ?_
      refine jq_callV (rest := []) C (ct_X11_thrown_7 hl D cA ak q_28 q_31 q_32 q_33 q_34 q_35 q_36 q_37 q_38 q_39 q_40 q_41 q_42) [28] [0, 1, 2, 3, 4, 5, 6, 7, 8, 9, 10, 11, 12, 13, 14, 15, 16, 17, 18, 19, 20, 21, 22, 23, 24, 25, 26, 27] rfl rfl (by decide) (by decide) (by decide) 0 rfl rfl rfl jw_993 jw_994 jw_995 jw_224 jw_992 jn_X11_thrown rfl (jj_le rfl) (jj_le rfl) (jj_le rfl) (jj_le rfl) (jj_le rfl) dL_law_946 rfl (fun _ _ hX => hX.elim) (fun w1 r O_525 => ?_)
      obtain ⟨rfl, rfl⟩ := O_525
      refine jj_apd rfl ?_
      refine jj_iload C dL_law_949 rfl ?_
      refine jj_icmp_eqT (tgt := 956) C dL_law_951 (by decide) (by decide) ?_
      refine jj_iload C dL_law_956 rfl ?_
      refine jj_if_neF (tgt := 973) C dL_law_958 (by decide) (by decide) ?_
      refine jj_aload_n C dL_law_961 rfl ?_
      refine jj_iconst (v := 0) C dL_law_962 (by decide) ?_
      refine jj_lald (v := 0) C 26 rfl (vp_in_iff.mpr (by decide)) rfl dL_law_963 ?_
      refine jj_iload C dL_law_964 rfl ?_
      refine jj_i2l (v := 0) C dL_law_966 (by decide) ?_
      refine jj_lcmp_eqT (tgt := 973) C dL_law_967 dL_law_968 (by decide) (by decide) ?_
      refine jj_goto (tgt := 2259) C dL_law_973 (by decide) ?_
      exact jj_loc [7, 2] rfl (jj_drop [] rfl (by decide) (jj_widen (k := 600006) (n := 7302072) (jj_le rfl) (jj_le rfl) hend))
  · refine jj_apd rfl ?_
    refine jj_istore C dL_law_931 (by decide) rfl ?_
    refine jj_aload_n C dL_law_933 rfl ?_
    refine jj_aload_n C dL_law_934 rfl ?_
    refine jj_iload C dL_law_935 rfl ?_
    refine jj_iconst (v := 1) C dL_law_937 (by decide) ?_
    refine jj_iadd (v := 1) C dL_law_938 (by decide) ?_
    refine jj_xld (v := xs 1) C hX hbl hbA (vp_in_iff.mpr (by decide)) rfl dL_law_939 ?_
    refine jq_callV (rest := []) C (ct_X11_count_1 hl D cA ak q_28 q_31 q_32 q_33 q_34 q_35 q_36 q_37 q_38 q_39 q_40 q_41 q_42 (xs 1)) [14, 26] [0, 1, 2, 3, 4, 5, 6, 7, 8, 9, 10, 11, 12, 13, 15, 16, 17, 18, 19, 20, 21, 22, 23, 24, 25, 27, 28] rfl rfl (by decide) (by decide) (by decide) 0 rfl rfl rfl jw_1160 jw_1161 jw_1162 jw_224 jw_482 jn_X11_count rfl (jj_le rfl) (jj_le rfl) (jj_le rfl) (jj_le rfl) (jj_le rfl) dL_law_940 rfl (fun _ _ hX => hX.elim) (fun w1 r O_527 => ?_)
    rcases O_527 with ⟨c_528, rfl, rfl⟩ | ⟨c_529, c_530, rfl, rfl⟩ | ⟨c_531, c_532, c_533, rfl, rfl⟩ | ⟨c_534, c_535, c_536, rfl, rfl⟩ | ⟨c_537, c_538, c_539, rfl, rfl⟩ | ⟨c_540, c_541, c_542, rfl, rfl⟩ | ⟨c_543, c_544, c_545, rfl, rfl⟩ | ⟨c_546, c_547, c_548, rfl, rfl⟩ | ⟨c_549, c_550, c_551, rfl, rfl⟩ | ⟨c_552, c_553, c_554, rfl, rfl⟩ | ⟨c_555, c_556, c_557, rfl, rfl⟩ | ⟨c_558, c_559, c_560, rfl, rfl⟩
    · refine jj_apd rfl ?_
      refine jj_istore C dL_law_943 (by decide) rfl ?_
      refine jj_aload_n C dL_law_945 rfl ?_
      refine jq_callV (rest := []) C (ct_X11_thrown_2 hl D cA ak q_28 q_31 q_32 q_33 q_34 q_35 q_36 q_37 q_38 q_39 q_40 q_41 q_42) [28] [0, 1, 2, 3, 4, 5, 6, 7, 8, 9, 10, 11, 12, 13, 14, 15, 16, 17, 18, 19, 20, 21, 22, 23, 24, 25, 26, 27] rfl rfl (by decide) (by decide) (by decide) 0 rfl rfl rfl jw_993 jw_994 jw_995 jw_224 jw_992 jn_X11_thrown rfl (jj_le rfl) (jj_le rfl) (jj_le rfl) (jj_le rfl) (jj_le rfl) dL_law_946 rfl (fun _ _ hX => hX.elim) (fun w1 r O_562 => ?_)
      obtain ⟨rfl, rfl⟩ := O_562
      refine jj_apd rfl ?_
      refine jj_iload C dL_law_949 rfl ?_
      refine jj_icmp_eqF (tgt := 956) C dL_law_951 (by decide) (by decide) ?_
      refine jj_iconst (v := 0) C dL_law_954 (by decide) ?_
      exfalso; have z0 := jc_neq (a := (xs 1).toInt) (b := (0)) c_79 rfl (by decide); have z1 := jc_neq (a := (xs 1).toInt) (b := (1)) c_80 rfl (by decide); have z2 := jc_neq (a := (xs 1).toInt) (b := (2)) c_81 rfl (by decide); have z3 := jc_neq (a := (xs 1).toInt) (b := (3)) c_82 rfl (by decide); have z4 := jc_neq (a := (xs 1).toInt) (b := (4)) c_83 rfl (by decide); have z5 := jc_neq (a := (xs 1).toInt) (b := (5)) c_84 rfl (by decide); have z6 := jc_eq (a := (xs 1).toInt) (b := (6)) c_85 rfl (by decide); have z7 := jc_ltL (a := (xs 1).toInt) (b := (0)) c_528 (Int32.toInt_toInt64 _) (by decide); omega
    · refine jj_apd rfl ?_
      refine jj_istore C dL_law_943 (by decide) rfl ?_
      refine jj_aload_n C dL_law_945 rfl ?_
      refine jq_callV (rest := []) C (ct_X11_thrown_2 hl D cA ak q_28 q_31 q_32 q_33 q_34 q_35 q_36 q_37 q_38 q_39 q_40 q_41 q_42) [28] [0, 1, 2, 3, 4, 5, 6, 7, 8, 9, 10, 11, 12, 13, 14, 15, 16, 17, 18, 19, 20, 21, 22, 23, 24, 25, 26, 27] rfl rfl (by decide) (by decide) (by decide) 0 rfl rfl rfl jw_993 jw_994 jw_995 jw_224 jw_992 jn_X11_thrown rfl (jj_le rfl) (jj_le rfl) (jj_le rfl) (jj_le rfl) (jj_le rfl) dL_law_946 rfl (fun _ _ hX => hX.elim) (fun w1 r O_564 => ?_)
      obtain ⟨rfl, rfl⟩ := O_564
      refine jj_apd rfl ?_
      refine jj_iload C dL_law_949 rfl ?_
      refine jj_icmp_eqF (tgt := 956) C dL_law_951 (by decide) (by decide) ?_
      refine jj_iconst (v := 0) C dL_law_954 (by decide) ?_
      exfalso; have z0 := jc_neq (a := (xs 1).toInt) (b := (0)) c_79 rfl (by decide); have z1 := jc_neq (a := (xs 1).toInt) (b := (1)) c_80 rfl (by decide); have z2 := jc_neq (a := (xs 1).toInt) (b := (2)) c_81 rfl (by decide); have z3 := jc_neq (a := (xs 1).toInt) (b := (3)) c_82 rfl (by decide); have z4 := jc_neq (a := (xs 1).toInt) (b := (4)) c_83 rfl (by decide); have z5 := jc_neq (a := (xs 1).toInt) (b := (5)) c_84 rfl (by decide); have z6 := jc_eq (a := (xs 1).toInt) (b := (6)) c_85 rfl (by decide); have z7 := jc_nltL (a := (xs 1).toInt) (b := (0)) c_529 (Int32.toInt_toInt64 _) (by decide); have z8 := jc_ltL (a := (9)) (b := (xs 1).toInt) c_530 (by decide) (Int32.toInt_toInt64 _); omega
    · refine jj_apd rfl ?_
      refine jj_istore C dL_law_943 (by decide) rfl ?_
      refine jj_aload_n C dL_law_945 rfl ?_
      refine jq_callV (rest := []) C (ct_X11_thrown_7 hl D cA ak q_28 q_31 q_32 q_33 q_34 q_35 q_36 q_37 q_38 q_39 q_40 q_41 q_42) [28] [0, 1, 2, 3, 4, 5, 6, 7, 8, 9, 10, 11, 12, 13, 14, 15, 16, 17, 18, 19, 20, 21, 22, 23, 24, 25, 26, 27] rfl rfl (by decide) (by decide) (by decide) 0 rfl rfl rfl jw_993 jw_994 jw_995 jw_224 jw_992 jn_X11_thrown rfl (jj_le rfl) (jj_le rfl) (jj_le rfl) (jj_le rfl) (jj_le rfl) dL_law_946 rfl (fun _ _ hX => hX.elim) (fun w1 r O_566 => ?_)
      obtain ⟨rfl, rfl⟩ := O_566
      refine jj_apd rfl ?_
      refine jj_iload C dL_law_949 rfl ?_
      refine jj_icmp_eqT (tgt := 956) C dL_law_951 (by decide) (by decide) ?_
      refine jj_iload C dL_law_956 rfl ?_
      refine jj_if_neF (tgt := 973) C dL_law_958 (by decide) (by decide) ?_
      refine jj_aload_n C dL_law_961 rfl ?_
      refine jj_iconst (v := 0) C dL_law_962 (by decide) ?_
      refine jj_lald (v := 0) C 26 rfl (vp_in_iff.mpr (by decide)) rfl dL_law_963 ?_
      refine jj_iload C dL_law_964 rfl ?_
      refine jj_i2l (v := 1) C dL_law_966 (by decide) ?_
      refine jj_lcmp_eqF (tgt := 973) C dL_law_967 dL_law_968 (by decide) (by decide) ?_
      refine jj_iconst (v := 0) C dL_law_971 (by decide) ?_
      exact absurd c_533 c_79
    · refine jj_apd rfl ?_
      refine jj_istore C dL_law_943 (by decide) rfl ?_
      refine jj_aload_n C dL_law_945 rfl ?_
      refine jq_callV (rest := []) C (ct_X11_thrown_7 hl D cA ak q_28 q_31 q_32 q_33 q_34 q_35 q_36 q_37 q_38 q_39 q_40 q_41 q_42) [28] [0, 1, 2, 3, 4, 5, 6, 7, 8, 9, 10, 11, 12, 13, 14, 15, 16, 17, 18, 19, 20, 21, 22, 23, 24, 25, 26, 27] rfl rfl (by decide) (by decide) (by decide) 0 rfl rfl rfl jw_993 jw_994 jw_995 jw_224 jw_992 jn_X11_thrown rfl (jj_le rfl) (jj_le rfl) (jj_le rfl) (jj_le rfl) (jj_le rfl) dL_law_946 rfl (fun _ _ hX => hX.elim) (fun w1 r O_568 => ?_)
      obtain ⟨rfl, rfl⟩ := O_568
      refine jj_apd rfl ?_
      refine jj_iload C dL_law_949 rfl ?_
      refine jj_icmp_eqT (tgt := 956) C dL_law_951 (by decide) (by decide) ?_
      refine jj_iload C dL_law_956 rfl ?_
      refine jj_if_neF (tgt := 973) C dL_law_958 (by decide) (by decide) ?_
      refine jj_aload_n C dL_law_961 rfl ?_
      refine jj_iconst (v := 0) C dL_law_962 (by decide) ?_
      refine jj_lald (v := 0) C 26 rfl (vp_in_iff.mpr (by decide)) rfl dL_law_963 ?_
      refine jj_iload C dL_law_964 rfl ?_
      refine jj_i2l (v := 0) C dL_law_966 (by decide) ?_
      refine jj_lcmp_eqT (tgt := 973) C dL_law_967 dL_law_968 (by decide) (by decide) ?_
      refine jj_goto (tgt := 2259) C dL_law_973 (by decide) ?_
      exact jj_loc [7, 2] rfl (jj_drop [] rfl (by decide) (jj_widen (k := 600006) (n := 7302072) (jj_le rfl) (jj_le rfl) hend))
    · refine jj_apd rfl ?_
      refine jj_istore C dL_law_943 (by decide) rfl ?_
      refine jj_aload_n C dL_law_945 rfl ?_
      refine jq_callV (rest := []) C (ct_X11_thrown_7 hl D cA ak q_28 q_31 q_32 q_33 q_34 q_35 q_36 q_37 q_38 q_39 q_40 q_41 q_42) [28] [0, 1, 2, 3, 4, 5, 6, 7, 8, 9, 10, 11, 12, 13, 14, 15, 16, 17, 18, 19, 20, 21, 22, 23, 24, 25, 26, 27] rfl rfl (by decide) (by decide) (by decide) 0 rfl rfl rfl jw_993 jw_994 jw_995 jw_224 jw_992 jn_X11_thrown rfl (jj_le rfl) (jj_le rfl) (jj_le rfl) (jj_le rfl) (jj_le rfl) dL_law_946 rfl (fun _ _ hX => hX.elim) (fun w1 r O_570 => ?_)
      obtain ⟨rfl, rfl⟩ := O_570
      refine jj_apd rfl ?_
      refine jj_iload C dL_law_949 rfl ?_
      refine jj_icmp_eqT (tgt := 956) C dL_law_951 (by decide) (by decide) ?_
      refine jj_iload C dL_law_956 rfl ?_
      refine jj_if_neF (tgt := 973) C dL_law_958 (by decide) (by decide) ?_
      refine jj_aload_n C dL_law_961 rfl ?_
      refine jj_iconst (v := 0) C dL_law_962 (by decide) ?_
      refine jj_lald (v := 0) C 26 rfl (vp_in_iff.mpr (by decide)) rfl dL_law_963 ?_
      refine jj_iload C dL_law_964 rfl ?_
      refine jj_i2l (v := 0) C dL_law_966 (by decide) ?_
      refine jj_lcmp_eqT (tgt := 973) C dL_law_967 dL_law_968 (by decide) (by decide) ?_
      refine jj_goto (tgt := 2259) C dL_law_973 (by decide) ?_
      exact jj_loc [7, 2] rfl (jj_drop [] rfl (by decide) (jj_widen (k := 600006) (n := 7302072) (jj_le rfl) (jj_le rfl) hend))
    · refine jj_apd rfl ?_
      refine jj_istore C dL_law_943 (by decide) rfl ?_
      refine jj_aload_n C dL_law_945 rfl ?_
      refine jq_callV (rest := []) C (ct_X11_thrown_7 hl D cA ak q_28 q_31 q_32 q_33 q_34 q_35 q_36 q_37 q_38 q_39 q_40 q_41 q_42) [28] [0, 1, 2, 3, 4, 5, 6, 7, 8, 9, 10, 11, 12, 13, 14, 15, 16, 17, 18, 19, 20, 21, 22, 23, 24, 25, 26, 27] rfl rfl (by decide) (by decide) (by decide) 0 rfl rfl rfl jw_993 jw_994 jw_995 jw_224 jw_992 jn_X11_thrown rfl (jj_le rfl) (jj_le rfl) (jj_le rfl) (jj_le rfl) (jj_le rfl) dL_law_946 rfl (fun _ _ hX => hX.elim) (fun w1 r O_572 => ?_)
      obtain ⟨rfl, rfl⟩ := O_572
      refine jj_apd rfl ?_
      refine jj_iload C dL_law_949 rfl ?_
      refine jj_icmp_eqT (tgt := 956) C dL_law_951 (by decide) (by decide) ?_
      refine jj_iload C dL_law_956 rfl ?_
      refine jj_if_neF (tgt := 973) C dL_law_958 (by decide) (by decide) ?_
      refine jj_aload_n C dL_law_961 rfl ?_
      refine jj_iconst (v := 0) C dL_law_962 (by decide) ?_
      refine jj_lald (v := 0) C 26 rfl (vp_in_iff.mpr (by decide)) rfl dL_law_963 ?_
      refine jj_iload C dL_law_964 rfl ?_
      refine jj_i2l (v := 0) C dL_law_966 (by decide) ?_
      refine jj_lcmp_eqT (tgt := 973) C dL_law_967 dL_law_968 (by decide) (by decide) ?_
      refine jj_goto (tgt := 2259) C dL_law_973 (by decide) ?_
      exact jj_loc [7, 2] rfl (jj_drop [] rfl (by decide) (jj_widen (k := 600006) (n := 7302072) (jj_le rfl) (jj_le rfl) hend))
    · refine jj_apd rfl ?_
      refine jj_istore C dL_law_943 (by decide) rfl ?_
      refine jj_aload_n C dL_law_945 rfl ?_
      refine jq_callV (rest := []) C (ct_X11_thrown_7 hl D cA ak q_28 q_31 q_32 q_33 q_34 q_35 q_36 q_37 q_38 q_39 q_40 q_41 q_42) [28] [0, 1, 2, 3, 4, 5, 6, 7, 8, 9, 10, 11, 12, 13, 14, 15, 16, 17, 18, 19, 20, 21, 22, 23, 24, 25, 26, 27] rfl rfl (by decide) (by decide) (by decide) 0 rfl rfl rfl jw_993 jw_994 jw_995 jw_224 jw_992 jn_X11_thrown rfl (jj_le rfl) (jj_le rfl) (jj_le rfl) (jj_le rfl) (jj_le rfl) dL_law_946 rfl (fun _ _ hX => hX.elim) (fun w1 r O_574 => ?_)
      obtain ⟨rfl, rfl⟩ := O_574
      refine jj_apd rfl ?_
      refine jj_iload C dL_law_949 rfl ?_
      refine jj_icmp_eqT (tgt := 956) C dL_law_951 (by decide) (by decide) ?_
      refine jj_iload C dL_law_956 rfl ?_
      refine jj_if_neF (tgt := 973) C dL_law_958 (by decide) (by decide) ?_
      refine jj_aload_n C dL_law_961 rfl ?_
      refine jj_iconst (v := 0) C dL_law_962 (by decide) ?_
      refine jj_lald (v := 0) C 26 rfl (vp_in_iff.mpr (by decide)) rfl dL_law_963 ?_
      refine jj_iload C dL_law_964 rfl ?_
      refine jj_i2l (v := 100) C dL_law_966 (by decide) ?_
      refine jj_lcmp_eqF (tgt := 973) C dL_law_967 dL_law_968 (by decide) (by decide) ?_
      refine jj_iconst (v := 0) C dL_law_971 (by decide) ?_
      exact absurd c_545 c_83
    · refine jj_apd rfl ?_
      refine jj_istore C dL_law_943 (by decide) rfl ?_
      refine jj_aload_n C dL_law_945 rfl ?_
      refine jq_callV (rest := []) C (ct_X11_thrown_7 hl D cA ak q_28 q_31 q_32 q_33 q_34 q_35 q_36 q_37 q_38 q_39 q_40 q_41 q_42) [28] [0, 1, 2, 3, 4, 5, 6, 7, 8, 9, 10, 11, 12, 13, 14, 15, 16, 17, 18, 19, 20, 21, 22, 23, 24, 25, 26, 27] rfl rfl (by decide) (by decide) (by decide) 0 rfl rfl rfl jw_993 jw_994 jw_995 jw_224 jw_992 jn_X11_thrown rfl (jj_le rfl) (jj_le rfl) (jj_le rfl) (jj_le rfl) (jj_le rfl) dL_law_946 rfl (fun _ _ hX => hX.elim) (fun w1 r O_576 => ?_)
      obtain ⟨rfl, rfl⟩ := O_576
      refine jj_apd rfl ?_
      refine jj_iload C dL_law_949 rfl ?_
      refine jj_icmp_eqT (tgt := 956) C dL_law_951 (by decide) (by decide) ?_
      refine jj_iload C dL_law_956 rfl ?_
      refine jj_if_neF (tgt := 973) C dL_law_958 (by decide) (by decide) ?_
      refine jj_aload_n C dL_law_961 rfl ?_
      refine jj_iconst (v := 0) C dL_law_962 (by decide) ?_
      refine jj_lald (v := 0) C 26 rfl (vp_in_iff.mpr (by decide)) rfl dL_law_963 ?_
      refine jj_iload C dL_law_964 rfl ?_
      refine jj_i2l (v := 0) C dL_law_966 (by decide) ?_
      refine jj_lcmp_eqT (tgt := 973) C dL_law_967 dL_law_968 (by decide) (by decide) ?_
      refine jj_goto (tgt := 2259) C dL_law_973 (by decide) ?_
      exact jj_loc [7, 2] rfl (jj_drop [] rfl (by decide) (jj_widen (k := 600006) (n := 7302072) (jj_le rfl) (jj_le rfl) hend))
    · refine jj_apd rfl ?_
      refine jj_istore C dL_law_943 (by decide) rfl ?_
      refine jj_aload_n C dL_law_945 rfl ?_
      refine jq_callV (rest := []) C (ct_X11_thrown_7 hl D cA ak q_28 q_31 q_32 q_33 q_34 q_35 q_36 q_37 q_38 q_39 q_40 q_41 q_42) [28] [0, 1, 2, 3, 4, 5, 6, 7, 8, 9, 10, 11, 12, 13, 14, 15, 16, 17, 18, 19, 20, 21, 22, 23, 24, 25, 26, 27] rfl rfl (by decide) (by decide) (by decide) 0 rfl rfl rfl jw_993 jw_994 jw_995 jw_224 jw_992 jn_X11_thrown rfl (jj_le rfl) (jj_le rfl) (jj_le rfl) (jj_le rfl) (jj_le rfl) dL_law_946 rfl (fun _ _ hX => hX.elim) (fun w1 r O_578 => ?_)
      obtain ⟨rfl, rfl⟩ := O_578
      refine jj_apd rfl ?_
      refine jj_iload C dL_law_949 rfl ?_
      refine jj_icmp_eqT (tgt := 956) C dL_law_951 (by decide) (by decide) ?_
      refine jj_iload C dL_law_956 rfl ?_
      refine jj_if_neF (tgt := 973) C dL_law_958 (by decide) (by decide) ?_
      refine jj_aload_n C dL_law_961 rfl ?_
      refine jj_iconst (v := 0) C dL_law_962 (by decide) ?_
      refine jj_lald (v := 0) C 26 rfl (vp_in_iff.mpr (by decide)) rfl dL_law_963 ?_
      refine jj_iload C dL_law_964 rfl ?_
      refine jj_i2l (v := 0) C dL_law_966 (by decide) ?_
      refine jj_lcmp_eqT (tgt := 973) C dL_law_967 dL_law_968 (by decide) (by decide) ?_
      refine jj_goto (tgt := 2259) C dL_law_973 (by decide) ?_
      exact jj_loc [7, 2] rfl (jj_drop [] rfl (by decide) (jj_widen (k := 600006) (n := 7302072) (jj_le rfl) (jj_le rfl) hend))
    · refine jj_apd rfl ?_
      refine jj_istore C dL_law_943 (by decide) rfl ?_
      refine jj_aload_n C dL_law_945 rfl ?_
      refine jq_callV (rest := []) C (ct_X11_thrown_7 hl D cA ak q_28 q_31 q_32 q_33 q_34 q_35 q_36 q_37 q_38 q_39 q_40 q_41 q_42) [28] [0, 1, 2, 3, 4, 5, 6, 7, 8, 9, 10, 11, 12, 13, 14, 15, 16, 17, 18, 19, 20, 21, 22, 23, 24, 25, 26, 27] rfl rfl (by decide) (by decide) (by decide) 0 rfl rfl rfl jw_993 jw_994 jw_995 jw_224 jw_992 jn_X11_thrown rfl (jj_le rfl) (jj_le rfl) (jj_le rfl) (jj_le rfl) (jj_le rfl) dL_law_946 rfl (fun _ _ hX => hX.elim) (fun w1 r O_580 => ?_)
      obtain ⟨rfl, rfl⟩ := O_580
      refine jj_apd rfl ?_
      refine jj_iload C dL_law_949 rfl ?_
      refine jj_icmp_eqT (tgt := 956) C dL_law_951 (by decide) (by decide) ?_
      refine jj_iload C dL_law_956 rfl ?_
      refine jj_if_neF (tgt := 973) C dL_law_958 (by decide) (by decide) ?_
      refine jj_aload_n C dL_law_961 rfl ?_
      refine jj_iconst (v := 0) C dL_law_962 (by decide) ?_
      refine jj_lald (v := 0) C 26 rfl (vp_in_iff.mpr (by decide)) rfl dL_law_963 ?_
      refine jj_iload C dL_law_964 rfl ?_
      refine jj_i2l (v := 0) C dL_law_966 (by decide) ?_
      refine jj_lcmp_eqT (tgt := 973) C dL_law_967 dL_law_968 (by decide) (by decide) ?_
      refine jj_goto (tgt := 2259) C dL_law_973 (by decide) ?_
      exact jj_loc [7, 2] rfl (jj_drop [] rfl (by decide) (jj_widen (k := 600006) (n := 7302072) (jj_le rfl) (jj_le rfl) hend))
    · refine jj_apd rfl ?_
      refine jj_istore C dL_law_943 (by decide) rfl ?_
      refine jj_aload_n C dL_law_945 rfl ?_
      refine jq_callV (rest := []) C (ct_X11_thrown_7 hl D cA ak q_28 q_31 q_32 q_33 q_34 q_35 q_36 q_37 q_38 q_39 q_40 q_41 q_42) [28] [0, 1, 2, 3, 4, 5, 6, 7, 8, 9, 10, 11, 12, 13, 14, 15, 16, 17, 18, 19, 20, 21, 22, 23, 24, 25, 26, 27] rfl rfl (by decide) (by decide) (by decide) 0 rfl rfl rfl jw_993 jw_994 jw_995 jw_224 jw_992 jn_X11_thrown rfl (jj_le rfl) (jj_le rfl) (jj_le rfl) (jj_le rfl) (jj_le rfl) dL_law_946 rfl (fun _ _ hX => hX.elim) (fun w1 r O_582 => ?_)
      obtain ⟨rfl, rfl⟩ := O_582
      refine jj_apd rfl ?_
      refine jj_iload C dL_law_949 rfl ?_
      refine jj_icmp_eqT (tgt := 956) C dL_law_951 (by decide) (by decide) ?_
      refine jj_iload C dL_law_956 rfl ?_
      refine jj_if_neF (tgt := 973) C dL_law_958 (by decide) (by decide) ?_
      refine jj_aload_n C dL_law_961 rfl ?_
      refine jj_iconst (v := 0) C dL_law_962 (by decide) ?_
      refine jj_lald (v := 0) C 26 rfl (vp_in_iff.mpr (by decide)) rfl dL_law_963 ?_
      refine jj_iload C dL_law_964 rfl ?_
      refine jj_i2l (v := 0) C dL_law_966 (by decide) ?_
      refine jj_lcmp_eqT (tgt := 973) C dL_law_967 dL_law_968 (by decide) (by decide) ?_
      refine jj_goto (tgt := 2259) C dL_law_973 (by decide) ?_
      exact jj_loc [7, 2] rfl (jj_drop [] rfl (by decide) (jj_widen (k := 600006) (n := 7302072) (jj_le rfl) (jj_le rfl) hend))
    · refine jj_apd rfl ?_
      refine jj_istore C dL_law_943 (by decide) rfl ?_
      refine jj_aload_n C dL_law_945 rfl ?_
      refine jq_callV (rest := []) C (ct_X11_thrown_7 hl D cA ak q_28 q_31 q_32 q_33 q_34 q_35 q_36 q_37 q_38 q_39 q_40 q_41 q_42) [28] [0, 1, 2, 3, 4, 5, 6, 7, 8, 9, 10, 11, 12, 13, 14, 15, 16, 17, 18, 19, 20, 21, 22, 23, 24, 25, 26, 27] rfl rfl (by decide) (by decide) (by decide) 0 rfl rfl rfl jw_993 jw_994 jw_995 jw_224 jw_992 jn_X11_thrown rfl (jj_le rfl) (jj_le rfl) (jj_le rfl) (jj_le rfl) (jj_le rfl) dL_law_946 rfl (fun _ _ hX => hX.elim) (fun w1 r O_584 => ?_)
      obtain ⟨rfl, rfl⟩ := O_584
      refine jj_apd rfl ?_
      refine jj_iload C dL_law_949 rfl ?_
      refine jj_icmp_eqT (tgt := 956) C dL_law_951 (by decide) (by decide) ?_
      refine jj_iload C dL_law_956 rfl ?_
      refine jj_if_neF (tgt := 973) C dL_law_958 (by decide) (by decide) ?_
      refine jj_aload_n C dL_law_961 rfl ?_
      refine jj_iconst (v := 0) C dL_law_962 (by decide) ?_
      refine jj_lald (v := 0) C 26 rfl (vp_in_iff.mpr (by decide)) rfl dL_law_963 ?_
      refine jj_iload C dL_law_964 rfl ?_
      refine jj_i2l (v := 0) C dL_law_966 (by decide) ?_
      refine jj_lcmp_eqT (tgt := 973) C dL_law_967 dL_law_968 (by decide) (by decide) ?_
      refine jj_goto (tgt := 2259) C dL_law_973 (by decide) ?_
      exact jj_loc [7, 2] rfl (jj_drop [] rfl (by decide) (jj_widen (k := 600006) (n := 7302072) (jj_le rfl) (jj_le rfl) hend))
  · refine jj_apd rfl ?_
    refine jj_istore C dL_law_931 (by decide) rfl ?_
    refine jj_aload_n C dL_law_933 rfl ?_
    refine jj_aload_n C dL_law_934 rfl ?_
    refine jj_iload C dL_law_935 rfl ?_
    refine jj_iconst (v := 1) C dL_law_937 (by decide) ?_
    refine jj_iadd (v := 1) C dL_law_938 (by decide) ?_
    refine jj_xld (v := xs 1) C hX hbl hbA (vp_in_iff.mpr (by decide)) rfl dL_law_939 ?_
    refine jq_callV (rest := []) C (ct_X11_count_1 hl D cA ak q_28 q_31 q_32 q_33 q_34 q_35 q_36 q_37 q_38 q_39 q_40 q_41 q_42 (xs 1)) [14, 26] [0, 1, 2, 3, 4, 5, 6, 7, 8, 9, 10, 11, 12, 13, 15, 16, 17, 18, 19, 20, 21, 22, 23, 24, 25, 27, 28] rfl rfl (by decide) (by decide) (by decide) 0 rfl rfl rfl jw_1160 jw_1161 jw_1162 jw_224 jw_482 jn_X11_count rfl (jj_le rfl) (jj_le rfl) (jj_le rfl) (jj_le rfl) (jj_le rfl) dL_law_940 rfl (fun _ _ hX => hX.elim) (fun w1 r O_586 => ?_)
    rcases O_586 with ⟨c_587, rfl, rfl⟩ | ⟨c_588, c_589, rfl, rfl⟩ | ⟨c_590, c_591, c_592, rfl, rfl⟩ | ⟨c_593, c_594, c_595, rfl, rfl⟩ | ⟨c_596, c_597, c_598, rfl, rfl⟩ | ⟨c_599, c_600, c_601, rfl, rfl⟩ | ⟨c_602, c_603, c_604, rfl, rfl⟩ | ⟨c_605, c_606, c_607, rfl, rfl⟩ | ⟨c_608, c_609, c_610, rfl, rfl⟩ | ⟨c_611, c_612, c_613, rfl, rfl⟩ | ⟨c_614, c_615, c_616, rfl, rfl⟩ | ⟨c_617, c_618, c_619, rfl, rfl⟩
    · refine jj_apd rfl ?_
      refine jj_istore C dL_law_943 (by decide) rfl ?_
      refine jj_aload_n C dL_law_945 rfl ?_
      refine jq_callV (rest := []) C (ct_X11_thrown_2 hl D cA ak q_28 q_31 q_32 q_33 q_34 q_35 q_36 q_37 q_38 q_39 q_40 q_41 q_42) [28] [0, 1, 2, 3, 4, 5, 6, 7, 8, 9, 10, 11, 12, 13, 14, 15, 16, 17, 18, 19, 20, 21, 22, 23, 24, 25, 26, 27] rfl rfl (by decide) (by decide) (by decide) 0 rfl rfl rfl jw_993 jw_994 jw_995 jw_224 jw_992 jn_X11_thrown rfl (jj_le rfl) (jj_le rfl) (jj_le rfl) (jj_le rfl) (jj_le rfl) dL_law_946 rfl (fun _ _ hX => hX.elim) (fun w1 r O_621 => ?_)
      obtain ⟨rfl, rfl⟩ := O_621
      refine jj_apd rfl ?_
      refine jj_iload C dL_law_949 rfl ?_
      refine jj_icmp_eqF (tgt := 956) C dL_law_951 (by decide) (by decide) ?_
      refine jj_iconst (v := 0) C dL_law_954 (by decide) ?_
      exfalso; have z0 := jc_neq (a := (xs 1).toInt) (b := (0)) c_86 rfl (by decide); have z1 := jc_neq (a := (xs 1).toInt) (b := (1)) c_87 rfl (by decide); have z2 := jc_neq (a := (xs 1).toInt) (b := (2)) c_88 rfl (by decide); have z3 := jc_neq (a := (xs 1).toInt) (b := (3)) c_89 rfl (by decide); have z4 := jc_neq (a := (xs 1).toInt) (b := (4)) c_90 rfl (by decide); have z5 := jc_neq (a := (xs 1).toInt) (b := (5)) c_91 rfl (by decide); have z6 := jc_neq (a := (xs 1).toInt) (b := (6)) c_92 rfl (by decide); have z7 := jc_eq (a := (xs 1).toInt) (b := (7)) c_93 rfl (by decide); have z8 := jc_ltL (a := (xs 1).toInt) (b := (0)) c_587 (Int32.toInt_toInt64 _) (by decide); omega
    · refine jj_apd rfl ?_
      refine jj_istore C dL_law_943 (by decide) rfl ?_
      refine jj_aload_n C dL_law_945 rfl ?_
      refine jq_callV (rest := []) C (ct_X11_thrown_2 hl D cA ak q_28 q_31 q_32 q_33 q_34 q_35 q_36 q_37 q_38 q_39 q_40 q_41 q_42) [28] [0, 1, 2, 3, 4, 5, 6, 7, 8, 9, 10, 11, 12, 13, 14, 15, 16, 17, 18, 19, 20, 21, 22, 23, 24, 25, 26, 27] rfl rfl (by decide) (by decide) (by decide) 0 rfl rfl rfl jw_993 jw_994 jw_995 jw_224 jw_992 jn_X11_thrown rfl (jj_le rfl) (jj_le rfl) (jj_le rfl) (jj_le rfl) (jj_le rfl) dL_law_946 rfl (fun _ _ hX => hX.elim) (fun w1 r O_623 => ?_)
      obtain ⟨rfl, rfl⟩ := O_623
      refine jj_apd rfl ?_
      refine jj_iload C dL_law_949 rfl ?_
      refine jj_icmp_eqF (tgt := 956) C dL_law_951 (by decide) (by decide) ?_
      refine jj_iconst (v := 0) C dL_law_954 (by decide) ?_
      exfalso; have z0 := jc_neq (a := (xs 1).toInt) (b := (0)) c_86 rfl (by decide); have z1 := jc_neq (a := (xs 1).toInt) (b := (1)) c_87 rfl (by decide); have z2 := jc_neq (a := (xs 1).toInt) (b := (2)) c_88 rfl (by decide); have z3 := jc_neq (a := (xs 1).toInt) (b := (3)) c_89 rfl (by decide); have z4 := jc_neq (a := (xs 1).toInt) (b := (4)) c_90 rfl (by decide); have z5 := jc_neq (a := (xs 1).toInt) (b := (5)) c_91 rfl (by decide); have z6 := jc_neq (a := (xs 1).toInt) (b := (6)) c_92 rfl (by decide); have z7 := jc_eq (a := (xs 1).toInt) (b := (7)) c_93 rfl (by decide); have z8 := jc_nltL (a := (xs 1).toInt) (b := (0)) c_588 (Int32.toInt_toInt64 _) (by decide); have z9 := jc_ltL (a := (9)) (b := (xs 1).toInt) c_589 (by decide) (Int32.toInt_toInt64 _); omega
    · refine jj_apd rfl ?_
      refine jj_istore C dL_law_943 (by decide) rfl ?_
      refine jj_aload_n C dL_law_945 rfl ?_
      refine jq_callV (rest := []) C (ct_X11_thrown_7 hl D cA ak q_28 q_31 q_32 q_33 q_34 q_35 q_36 q_37 q_38 q_39 q_40 q_41 q_42) [28] [0, 1, 2, 3, 4, 5, 6, 7, 8, 9, 10, 11, 12, 13, 14, 15, 16, 17, 18, 19, 20, 21, 22, 23, 24, 25, 26, 27] rfl rfl (by decide) (by decide) (by decide) 0 rfl rfl rfl jw_993 jw_994 jw_995 jw_224 jw_992 jn_X11_thrown rfl (jj_le rfl) (jj_le rfl) (jj_le rfl) (jj_le rfl) (jj_le rfl) dL_law_946 rfl (fun _ _ hX => hX.elim) (fun w1 r O_625 => ?_)
      obtain ⟨rfl, rfl⟩ := O_625
      refine jj_apd rfl ?_
      refine jj_iload C dL_law_949 rfl ?_
      refine jj_icmp_eqT (tgt := 956) C dL_law_951 (by decide) (by decide) ?_
      refine jj_iload C dL_law_956 rfl ?_
      refine jj_if_neF (tgt := 973) C dL_law_958 (by decide) (by decide) ?_
      refine jj_aload_n C dL_law_961 rfl ?_
      refine jj_iconst (v := 0) C dL_law_962 (by decide) ?_
      refine jj_lald (v := 0) C 26 rfl (vp_in_iff.mpr (by decide)) rfl dL_law_963 ?_
      refine jj_iload C dL_law_964 rfl ?_
      refine jj_i2l (v := 1) C dL_law_966 (by decide) ?_
      refine jj_lcmp_eqF (tgt := 973) C dL_law_967 dL_law_968 (by decide) (by decide) ?_
      refine jj_iconst (v := 0) C dL_law_971 (by decide) ?_
      exact absurd c_592 c_86
    · refine jj_apd rfl ?_
      refine jj_istore C dL_law_943 (by decide) rfl ?_
      refine jj_aload_n C dL_law_945 rfl ?_
      refine jq_callV (rest := []) C (ct_X11_thrown_7 hl D cA ak q_28 q_31 q_32 q_33 q_34 q_35 q_36 q_37 q_38 q_39 q_40 q_41 q_42) [28] [0, 1, 2, 3, 4, 5, 6, 7, 8, 9, 10, 11, 12, 13, 14, 15, 16, 17, 18, 19, 20, 21, 22, 23, 24, 25, 26, 27] rfl rfl (by decide) (by decide) (by decide) 0 rfl rfl rfl jw_993 jw_994 jw_995 jw_224 jw_992 jn_X11_thrown rfl (jj_le rfl) (jj_le rfl) (jj_le rfl) (jj_le rfl) (jj_le rfl) dL_law_946 rfl (fun _ _ hX => hX.elim) (fun w1 r O_627 => ?_)
      obtain ⟨rfl, rfl⟩ := O_627
      refine jj_apd rfl ?_
      refine jj_iload C dL_law_949 rfl ?_
      refine jj_icmp_eqT (tgt := 956) C dL_law_951 (by decide) (by decide) ?_
      refine jj_iload C dL_law_956 rfl ?_
      refine jj_if_neF (tgt := 973) C dL_law_958 (by decide) (by decide) ?_
      refine jj_aload_n C dL_law_961 rfl ?_
      refine jj_iconst (v := 0) C dL_law_962 (by decide) ?_
      refine jj_lald (v := 0) C 26 rfl (vp_in_iff.mpr (by decide)) rfl dL_law_963 ?_
      refine jj_iload C dL_law_964 rfl ?_
      refine jj_i2l (v := 0) C dL_law_966 (by decide) ?_
      refine jj_lcmp_eqT (tgt := 973) C dL_law_967 dL_law_968 (by decide) (by decide) ?_
      refine jj_goto (tgt := 2259) C dL_law_973 (by decide) ?_
      exact jj_loc [7, 2] rfl (jj_drop [] rfl (by decide) (jj_widen (k := 600006) (n := 7302072) (jj_le rfl) (jj_le rfl) hend))
    · refine jj_apd rfl ?_
      refine jj_istore C dL_law_943 (by decide) rfl ?_
      refine jj_aload_n C dL_law_945 rfl ?_
      refine jq_callV (rest := []) C (ct_X11_thrown_7 hl D cA ak q_28 q_31 q_32 q_33 q_34 q_35 q_36 q_37 q_38 q_39 q_40 q_41 q_42) [28] [0, 1, 2, 3, 4, 5, 6, 7, 8, 9, 10, 11, 12, 13, 14, 15, 16, 17, 18, 19, 20, 21, 22, 23, 24, 25, 26, 27] rfl rfl (by decide) (by decide) (by decide) 0 rfl rfl rfl jw_993 jw_994 jw_995 jw_224 jw_992 jn_X11_thrown rfl (jj_le rfl) (jj_le rfl) (jj_le rfl) (jj_le rfl) (jj_le rfl) dL_law_946 rfl (fun _ _ hX => hX.elim) (fun w1 r O_629 => ?_)
      obtain ⟨rfl, rfl⟩ := O_629
      refine jj_apd rfl ?_
      refine jj_iload C dL_law_949 rfl ?_
      refine jj_icmp_eqT (tgt := 956) C dL_law_951 (by decide) (by decide) ?_
      refine jj_iload C dL_law_956 rfl ?_
      refine jj_if_neF (tgt := 973) C dL_law_958 (by decide) (by decide) ?_
      refine jj_aload_n C dL_law_961 rfl ?_
      refine jj_iconst (v := 0) C dL_law_962 (by decide) ?_
      refine jj_lald (v := 0) C 26 rfl (vp_in_iff.mpr (by decide)) rfl dL_law_963 ?_
      refine jj_iload C dL_law_964 rfl ?_
      refine jj_i2l (v := 0) C dL_law_966 (by decide) ?_
      refine jj_lcmp_eqT (tgt := 973) C dL_law_967 dL_law_968 (by decide) (by decide) ?_
      refine jj_goto (tgt := 2259) C dL_law_973 (by decide) ?_
      exact jj_loc [7, 2] rfl (jj_drop [] rfl (by decide) (jj_widen (k := 600006) (n := 7302072) (jj_le rfl) (jj_le rfl) hend))
    · refine jj_apd rfl ?_
      refine jj_istore C dL_law_943 (by decide) rfl ?_
      refine jj_aload_n C dL_law_945 rfl ?_
      refine jq_callV (rest := []) C (ct_X11_thrown_7 hl D cA ak q_28 q_31 q_32 q_33 q_34 q_35 q_36 q_37 q_38 q_39 q_40 q_41 q_42) [28] [0, 1, 2, 3, 4, 5, 6, 7, 8, 9, 10, 11, 12, 13, 14, 15, 16, 17, 18, 19, 20, 21, 22, 23, 24, 25, 26, 27] rfl rfl (by decide) (by decide) (by decide) 0 rfl rfl rfl jw_993 jw_994 jw_995 jw_224 jw_992 jn_X11_thrown rfl (jj_le rfl) (jj_le rfl) (jj_le rfl) (jj_le rfl) (jj_le rfl) dL_law_946 rfl (fun _ _ hX => hX.elim) (fun w1 r O_631 => ?_)
      obtain ⟨rfl, rfl⟩ := O_631
      refine jj_apd rfl ?_
      refine jj_iload C dL_law_949 rfl ?_
      refine jj_icmp_eqT (tgt := 956) C dL_law_951 (by decide) (by decide) ?_
      refine jj_iload C dL_law_956 rfl ?_
      refine jj_if_neF (tgt := 973) C dL_law_958 (by decide) (by decide) ?_
      refine jj_aload_n C dL_law_961 rfl ?_
      refine jj_iconst (v := 0) C dL_law_962 (by decide) ?_
      refine jj_lald (v := 0) C 26 rfl (vp_in_iff.mpr (by decide)) rfl dL_law_963 ?_
      refine jj_iload C dL_law_964 rfl ?_
      refine jj_i2l (v := 0) C dL_law_966 (by decide) ?_
      refine jj_lcmp_eqT (tgt := 973) C dL_law_967 dL_law_968 (by decide) (by decide) ?_
      refine jj_goto (tgt := 2259) C dL_law_973 (by decide) ?_
      exact jj_loc [7, 2] rfl (jj_drop [] rfl (by decide) (jj_widen (k := 600006) (n := 7302072) (jj_le rfl) (jj_le rfl) hend))
    · refine jj_apd rfl ?_
      refine jj_istore C dL_law_943 (by decide) rfl ?_
      refine jj_aload_n C dL_law_945 rfl ?_
      refine jq_callV (rest := []) C (ct_X11_thrown_7 hl D cA ak q_28 q_31 q_32 q_33 q_34 q_35 q_36 q_37 q_38 q_39 q_40 q_41 q_42) [28] [0, 1, 2, 3, 4, 5, 6, 7, 8, 9, 10, 11, 12, 13, 14, 15, 16, 17, 18, 19, 20, 21, 22, 23, 24, 25, 26, 27] rfl rfl (by decide) (by decide) (by decide) 0 rfl rfl rfl jw_993 jw_994 jw_995 jw_224 jw_992 jn_X11_thrown rfl (jj_le rfl) (jj_le rfl) (jj_le rfl) (jj_le rfl) (jj_le rfl) dL_law_946 rfl (fun _ _ hX => hX.elim) (fun w1 r O_633 => ?_)
      obtain ⟨rfl, rfl⟩ := O_633
      refine jj_apd rfl ?_
      refine jj_iload C dL_law_949 rfl ?_
      refine jj_icmp_eqT (tgt := 956) C dL_law_951 (by decide) (by decide) ?_
      refine jj_iload C dL_law_956 rfl ?_
      refine jj_if_neF (tgt := 973) C dL_law_958 (by decide) (by decide) ?_
      refine jj_aload_n C dL_law_961 rfl ?_
      refine jj_iconst (v := 0) C dL_law_962 (by decide) ?_
      refine jj_lald (v := 0) C 26 rfl (vp_in_iff.mpr (by decide)) rfl dL_law_963 ?_
      refine jj_iload C dL_law_964 rfl ?_
      refine jj_i2l (v := 100) C dL_law_966 (by decide) ?_
      refine jj_lcmp_eqF (tgt := 973) C dL_law_967 dL_law_968 (by decide) (by decide) ?_
      refine jj_iconst (v := 0) C dL_law_971 (by decide) ?_
      exact absurd c_604 c_90
    · refine jj_apd rfl ?_
      refine jj_istore C dL_law_943 (by decide) rfl ?_
      refine jj_aload_n C dL_law_945 rfl ?_
      refine jq_callV (rest := []) C (ct_X11_thrown_7 hl D cA ak q_28 q_31 q_32 q_33 q_34 q_35 q_36 q_37 q_38 q_39 q_40 q_41 q_42) [28] [0, 1, 2, 3, 4, 5, 6, 7, 8, 9, 10, 11, 12, 13, 14, 15, 16, 17, 18, 19, 20, 21, 22, 23, 24, 25, 26, 27] rfl rfl (by decide) (by decide) (by decide) 0 rfl rfl rfl jw_993 jw_994 jw_995 jw_224 jw_992 jn_X11_thrown rfl (jj_le rfl) (jj_le rfl) (jj_le rfl) (jj_le rfl) (jj_le rfl) dL_law_946 rfl (fun _ _ hX => hX.elim) (fun w1 r O_635 => ?_)
      obtain ⟨rfl, rfl⟩ := O_635
      refine jj_apd rfl ?_
      refine jj_iload C dL_law_949 rfl ?_
      refine jj_icmp_eqT (tgt := 956) C dL_law_951 (by decide) (by decide) ?_
      refine jj_iload C dL_law_956 rfl ?_
      refine jj_if_neF (tgt := 973) C dL_law_958 (by decide) (by decide) ?_
      refine jj_aload_n C dL_law_961 rfl ?_
      refine jj_iconst (v := 0) C dL_law_962 (by decide) ?_
      refine jj_lald (v := 0) C 26 rfl (vp_in_iff.mpr (by decide)) rfl dL_law_963 ?_
      refine jj_iload C dL_law_964 rfl ?_
      refine jj_i2l (v := 0) C dL_law_966 (by decide) ?_
      refine jj_lcmp_eqT (tgt := 973) C dL_law_967 dL_law_968 (by decide) (by decide) ?_
      refine jj_goto (tgt := 2259) C dL_law_973 (by decide) ?_
      exact jj_loc [7, 2] rfl (jj_drop [] rfl (by decide) (jj_widen (k := 600006) (n := 7302072) (jj_le rfl) (jj_le rfl) hend))
    · refine jj_apd rfl ?_
      refine jj_istore C dL_law_943 (by decide) rfl ?_
      refine jj_aload_n C dL_law_945 rfl ?_
      refine jq_callV (rest := []) C (ct_X11_thrown_7 hl D cA ak q_28 q_31 q_32 q_33 q_34 q_35 q_36 q_37 q_38 q_39 q_40 q_41 q_42) [28] [0, 1, 2, 3, 4, 5, 6, 7, 8, 9, 10, 11, 12, 13, 14, 15, 16, 17, 18, 19, 20, 21, 22, 23, 24, 25, 26, 27] rfl rfl (by decide) (by decide) (by decide) 0 rfl rfl rfl jw_993 jw_994 jw_995 jw_224 jw_992 jn_X11_thrown rfl (jj_le rfl) (jj_le rfl) (jj_le rfl) (jj_le rfl) (jj_le rfl) dL_law_946 rfl (fun _ _ hX => hX.elim) (fun w1 r O_637 => ?_)
      obtain ⟨rfl, rfl⟩ := O_637
      refine jj_apd rfl ?_
      refine jj_iload C dL_law_949 rfl ?_
      refine jj_icmp_eqT (tgt := 956) C dL_law_951 (by decide) (by decide) ?_
      refine jj_iload C dL_law_956 rfl ?_
      refine jj_if_neF (tgt := 973) C dL_law_958 (by decide) (by decide) ?_
      refine jj_aload_n C dL_law_961 rfl ?_
      refine jj_iconst (v := 0) C dL_law_962 (by decide) ?_
      refine jj_lald (v := 0) C 26 rfl (vp_in_iff.mpr (by decide)) rfl dL_law_963 ?_
      refine jj_iload C dL_law_964 rfl ?_
      refine jj_i2l (v := 0) C dL_law_966 (by decide) ?_
      refine jj_lcmp_eqT (tgt := 973) C dL_law_967 dL_law_968 (by decide) (by decide) ?_
      refine jj_goto (tgt := 2259) C dL_law_973 (by decide) ?_
      exact jj_loc [7, 2] rfl (jj_drop [] rfl (by decide) (jj_widen (k := 600006) (n := 7302072) (jj_le rfl) (jj_le rfl) hend))
    · refine jj_apd rfl ?_
      refine jj_istore C dL_law_943 (by decide) rfl ?_
      refine jj_aload_n C dL_law_945 rfl ?_
      refine jq_callV (rest := []) C (ct_X11_thrown_7 hl D cA ak q_28 q_31 q_32 q_33 q_34 q_35 q_36 q_37 q_38 q_39 q_40 q_41 q_42) [28] [0, 1, 2, 3, 4, 5, 6, 7, 8, 9, 10, 11, 12, 13, 14, 15, 16, 17, 18, 19, 20, 21, 22, 23, 24, 25, 26, 27] rfl rfl (by decide) (by decide) (by decide) 0 rfl rfl rfl jw_993 jw_994 jw_995 jw_224 jw_992 jn_X11_thrown rfl (jj_le rfl) (jj_le rfl) (jj_le rfl) (jj_le rfl) (jj_le rfl) dL_law_946 rfl (fun _ _ hX => hX.elim) (fun w1 r O_639 => ?_)
      obtain ⟨rfl, rfl⟩ := O_639
      refine jj_apd rfl ?_
      refine jj_iload C dL_law_949 rfl ?_
      refine jj_icmp_eqT (tgt := 956) C dL_law_951 (by decide) (by decide) ?_
      refine jj_iload C dL_law_956 rfl ?_
      refine jj_if_neF (tgt := 973) C dL_law_958 (by decide) (by decide) ?_
      refine jj_aload_n C dL_law_961 rfl ?_
      refine jj_iconst (v := 0) C dL_law_962 (by decide) ?_
      refine jj_lald (v := 0) C 26 rfl (vp_in_iff.mpr (by decide)) rfl dL_law_963 ?_
      refine jj_iload C dL_law_964 rfl ?_
      refine jj_i2l (v := 0) C dL_law_966 (by decide) ?_
      refine jj_lcmp_eqT (tgt := 973) C dL_law_967 dL_law_968 (by decide) (by decide) ?_
      refine jj_goto (tgt := 2259) C dL_law_973 (by decide) ?_
      exact jj_loc [7, 2] rfl (jj_drop [] rfl (by decide) (jj_widen (k := 600006) (n := 7302072) (jj_le rfl) (jj_le rfl) hend))
    · refine jj_apd rfl ?_
      refine jj_istore C dL_law_943 (by decide) rfl ?_
      refine jj_aload_n C dL_law_945 rfl ?_
      refine jq_callV (rest := []) C (ct_X11_thrown_7 hl D cA ak q_28 q_31 q_32 q_33 q_34 q_35 q_36 q_37 q_38 q_39 q_40 q_41 q_42) [28] [0, 1, 2, 3, 4, 5, 6, 7, 8, 9, 10, 11, 12, 13, 14, 15, 16, 17, 18, 19, 20, 21, 22, 23, 24, 25, 26, 27] rfl rfl (by decide) (by decide) (by decide) 0 rfl rfl rfl jw_993 jw_994 jw_995 jw_224 jw_992 jn_X11_thrown rfl (jj_le rfl) (jj_le rfl) (jj_le rfl) (jj_le rfl) (jj_le rfl) dL_law_946 rfl (fun _ _ hX => hX.elim) (fun w1 r O_641 => ?_)
      obtain ⟨rfl, rfl⟩ := O_641
      refine jj_apd rfl ?_
      refine jj_iload C dL_law_949 rfl ?_
      refine jj_icmp_eqT (tgt := 956) C dL_law_951 (by decide) (by decide) ?_
      refine jj_iload C dL_law_956 rfl ?_
      refine jj_if_neF (tgt := 973) C dL_law_958 (by decide) (by decide) ?_
      refine jj_aload_n C dL_law_961 rfl ?_
      refine jj_iconst (v := 0) C dL_law_962 (by decide) ?_
      refine jj_lald (v := 0) C 26 rfl (vp_in_iff.mpr (by decide)) rfl dL_law_963 ?_
      refine jj_iload C dL_law_964 rfl ?_
      refine jj_i2l (v := 0) C dL_law_966 (by decide) ?_
      refine jj_lcmp_eqT (tgt := 973) C dL_law_967 dL_law_968 (by decide) (by decide) ?_
      refine jj_goto (tgt := 2259) C dL_law_973 (by decide) ?_
      exact jj_loc [7, 2] rfl (jj_drop [] rfl (by decide) (jj_widen (k := 600006) (n := 7302072) (jj_le rfl) (jj_le rfl) hend))
    · refine jj_apd rfl ?_
      refine jj_istore C dL_law_943 (by decide) rfl ?_
      refine jj_aload_n C dL_law_945 rfl ?_
      refine jq_callV (rest := []) C (ct_X11_thrown_7 hl D cA ak q_28 q_31 q_32 q_33 q_34 q_35 q_36 q_37 q_38 q_39 q_40 q_41 q_42) [28] [0, 1, 2, 3, 4, 5, 6, 7, 8, 9, 10, 11, 12, 13, 14, 15, 16, 17, 18, 19, 20, 21, 22, 23, 24, 25, 26, 27] rfl rfl (by decide) (by decide) (by decide) 0 rfl rfl rfl jw_993 jw_994 jw_995 jw_224 jw_992 jn_X11_thrown rfl (jj_le rfl) (jj_le rfl) (jj_le rfl) (jj_le rfl) (jj_le rfl) dL_law_946 rfl (fun _ _ hX => hX.elim) (fun w1 r O_643 => ?_)
      obtain ⟨rfl, rfl⟩ := O_643
      refine jj_apd rfl ?_
      refine jj_iload C dL_law_949 rfl ?_
      refine jj_icmp_eqT (tgt := 956) C dL_law_951 (by decide) (by decide) ?_
      refine jj_iload C dL_law_956 rfl ?_
      refine jj_if_neF (tgt := 973) C dL_law_958 (by decide) (by decide) ?_
      refine jj_aload_n C dL_law_961 rfl ?_
      refine jj_iconst (v := 0) C dL_law_962 (by decide) ?_
      refine jj_lald (v := 0) C 26 rfl (vp_in_iff.mpr (by decide)) rfl dL_law_963 ?_
      refine jj_iload C dL_law_964 rfl ?_
      refine jj_i2l (v := 0) C dL_law_966 (by decide) ?_
      refine jj_lcmp_eqT (tgt := 973) C dL_law_967 dL_law_968 (by decide) (by decide) ?_
      refine jj_goto (tgt := 2259) C dL_law_973 (by decide) ?_
      exact jj_loc [7, 2] rfl (jj_drop [] rfl (by decide) (jj_widen (k := 600006) (n := 7302072) (jj_le rfl) (jj_le rfl) hend))
  · refine jj_apd rfl ?_
    refine jj_istore C dL_law_931 (by decide) rfl ?_
    refine jj_aload_n C dL_law_933 rfl ?_
    refine jj_aload_n C dL_law_934 rfl ?_
    refine jj_iload C dL_law_935 rfl ?_
    refine jj_iconst (v := 1) C dL_law_937 (by decide) ?_
    refine jj_iadd (v := 1) C dL_law_938 (by decide) ?_
    refine jj_xld (v := xs 1) C hX hbl hbA (vp_in_iff.mpr (by decide)) rfl dL_law_939 ?_
    refine jq_callV (rest := []) C (ct_X11_count_1 hl D cA ak q_28 q_31 q_32 q_33 q_34 q_35 q_36 q_37 q_38 q_39 q_40 q_41 q_42 (xs 1)) [14, 26] [0, 1, 2, 3, 4, 5, 6, 7, 8, 9, 10, 11, 12, 13, 15, 16, 17, 18, 19, 20, 21, 22, 23, 24, 25, 27, 28] rfl rfl (by decide) (by decide) (by decide) 0 rfl rfl rfl jw_1160 jw_1161 jw_1162 jw_224 jw_482 jn_X11_count rfl (jj_le rfl) (jj_le rfl) (jj_le rfl) (jj_le rfl) (jj_le rfl) dL_law_940 rfl (fun _ _ hX => hX.elim) (fun w1 r O_645 => ?_)
    rcases O_645 with ⟨c_646, rfl, rfl⟩ | ⟨c_647, c_648, rfl, rfl⟩ | ⟨c_649, c_650, c_651, rfl, rfl⟩ | ⟨c_652, c_653, c_654, rfl, rfl⟩ | ⟨c_655, c_656, c_657, rfl, rfl⟩ | ⟨c_658, c_659, c_660, rfl, rfl⟩ | ⟨c_661, c_662, c_663, rfl, rfl⟩ | ⟨c_664, c_665, c_666, rfl, rfl⟩ | ⟨c_667, c_668, c_669, rfl, rfl⟩ | ⟨c_670, c_671, c_672, rfl, rfl⟩ | ⟨c_673, c_674, c_675, rfl, rfl⟩ | ⟨c_676, c_677, c_678, rfl, rfl⟩
    · refine jj_apd rfl ?_
      refine jj_istore C dL_law_943 (by decide) rfl ?_
      refine jj_aload_n C dL_law_945 rfl ?_
      refine jq_callV (rest := []) C (ct_X11_thrown_2 hl D cA ak q_28 q_31 q_32 q_33 q_34 q_35 q_36 q_37 q_38 q_39 q_40 q_41 q_42) [28] [0, 1, 2, 3, 4, 5, 6, 7, 8, 9, 10, 11, 12, 13, 14, 15, 16, 17, 18, 19, 20, 21, 22, 23, 24, 25, 26, 27] rfl rfl (by decide) (by decide) (by decide) 0 rfl rfl rfl jw_993 jw_994 jw_995 jw_224 jw_992 jn_X11_thrown rfl (jj_le rfl) (jj_le rfl) (jj_le rfl) (jj_le rfl) (jj_le rfl) dL_law_946 rfl (fun _ _ hX => hX.elim) (fun w1 r O_680 => ?_)
      obtain ⟨rfl, rfl⟩ := O_680
      refine jj_apd rfl ?_
      refine jj_iload C dL_law_949 rfl ?_
      refine jj_icmp_eqF (tgt := 956) C dL_law_951 (by decide) (by decide) ?_
      refine jj_iconst (v := 0) C dL_law_954 (by decide) ?_
      exfalso; have z0 := jc_neq (a := (xs 1).toInt) (b := (0)) c_94 rfl (by decide); have z1 := jc_neq (a := (xs 1).toInt) (b := (1)) c_95 rfl (by decide); have z2 := jc_neq (a := (xs 1).toInt) (b := (2)) c_96 rfl (by decide); have z3 := jc_neq (a := (xs 1).toInt) (b := (3)) c_97 rfl (by decide); have z4 := jc_neq (a := (xs 1).toInt) (b := (4)) c_98 rfl (by decide); have z5 := jc_neq (a := (xs 1).toInt) (b := (5)) c_99 rfl (by decide); have z6 := jc_neq (a := (xs 1).toInt) (b := (6)) c_100 rfl (by decide); have z7 := jc_neq (a := (xs 1).toInt) (b := (7)) c_101 rfl (by decide); have z8 := jc_eq (a := (xs 1).toInt) (b := (8)) c_102 rfl (by decide); have z9 := jc_ltL (a := (xs 1).toInt) (b := (0)) c_646 (Int32.toInt_toInt64 _) (by decide); omega
    · refine jj_apd rfl ?_
      refine jj_istore C dL_law_943 (by decide) rfl ?_
      refine jj_aload_n C dL_law_945 rfl ?_
      refine jq_callV (rest := []) C (ct_X11_thrown_2 hl D cA ak q_28 q_31 q_32 q_33 q_34 q_35 q_36 q_37 q_38 q_39 q_40 q_41 q_42) [28] [0, 1, 2, 3, 4, 5, 6, 7, 8, 9, 10, 11, 12, 13, 14, 15, 16, 17, 18, 19, 20, 21, 22, 23, 24, 25, 26, 27] rfl rfl (by decide) (by decide) (by decide) 0 rfl rfl rfl jw_993 jw_994 jw_995 jw_224 jw_992 jn_X11_thrown rfl (jj_le rfl) (jj_le rfl) (jj_le rfl) (jj_le rfl) (jj_le rfl) dL_law_946 rfl (fun _ _ hX => hX.elim) (fun w1 r O_682 => ?_)
      obtain ⟨rfl, rfl⟩ := O_682
      refine jj_apd rfl ?_
      refine jj_iload C dL_law_949 rfl ?_
      refine jj_icmp_eqF (tgt := 956) C dL_law_951 (by decide) (by decide) ?_
      refine jj_iconst (v := 0) C dL_law_954 (by decide) ?_
      exfalso; have z0 := jc_neq (a := (xs 1).toInt) (b := (0)) c_94 rfl (by decide); have z1 := jc_neq (a := (xs 1).toInt) (b := (1)) c_95 rfl (by decide); have z2 := jc_neq (a := (xs 1).toInt) (b := (2)) c_96 rfl (by decide); have z3 := jc_neq (a := (xs 1).toInt) (b := (3)) c_97 rfl (by decide); have z4 := jc_neq (a := (xs 1).toInt) (b := (4)) c_98 rfl (by decide); have z5 := jc_neq (a := (xs 1).toInt) (b := (5)) c_99 rfl (by decide); have z6 := jc_neq (a := (xs 1).toInt) (b := (6)) c_100 rfl (by decide); have z7 := jc_neq (a := (xs 1).toInt) (b := (7)) c_101 rfl (by decide); have z8 := jc_eq (a := (xs 1).toInt) (b := (8)) c_102 rfl (by decide); have z9 := jc_nltL (a := (xs 1).toInt) (b := (0)) c_647 (Int32.toInt_toInt64 _) (by decide); have z10 := jc_ltL (a := (9)) (b := (xs 1).toInt) c_648 (by decide) (Int32.toInt_toInt64 _); omega
    · refine jj_apd rfl ?_
      refine jj_istore C dL_law_943 (by decide) rfl ?_
      refine jj_aload_n C dL_law_945 rfl ?_
      refine jq_callV (rest := []) C (ct_X11_thrown_7 hl D cA ak q_28 q_31 q_32 q_33 q_34 q_35 q_36 q_37 q_38 q_39 q_40 q_41 q_42) [28] [0, 1, 2, 3, 4, 5, 6, 7, 8, 9, 10, 11, 12, 13, 14, 15, 16, 17, 18, 19, 20, 21, 22, 23, 24, 25, 26, 27] rfl rfl (by decide) (by decide) (by decide) 0 rfl rfl rfl jw_993 jw_994 jw_995 jw_224 jw_992 jn_X11_thrown rfl (jj_le rfl) (jj_le rfl) (jj_le rfl) (jj_le rfl) (jj_le rfl) dL_law_946 rfl (fun _ _ hX => hX.elim) (fun w1 r O_684 => ?_)
      obtain ⟨rfl, rfl⟩ := O_684
      refine jj_apd rfl ?_
      refine jj_iload C dL_law_949 rfl ?_
      refine jj_icmp_eqT (tgt := 956) C dL_law_951 (by decide) (by decide) ?_
      refine jj_iload C dL_law_956 rfl ?_
      refine jj_if_neF (tgt := 973) C dL_law_958 (by decide) (by decide) ?_
      refine jj_aload_n C dL_law_961 rfl ?_
      refine jj_iconst (v := 0) C dL_law_962 (by decide) ?_
      refine jj_lald (v := 0) C 26 rfl (vp_in_iff.mpr (by decide)) rfl dL_law_963 ?_
      refine jj_iload C dL_law_964 rfl ?_
      refine jj_i2l (v := 1) C dL_law_966 (by decide) ?_
      refine jj_lcmp_eqF (tgt := 973) C dL_law_967 dL_law_968 (by decide) (by decide) ?_
      refine jj_iconst (v := 0) C dL_law_971 (by decide) ?_
      exact absurd c_651 c_94
    · refine jj_apd rfl ?_
      refine jj_istore C dL_law_943 (by decide) rfl ?_
      refine jj_aload_n C dL_law_945 rfl ?_
      refine jq_callV (rest := []) C (ct_X11_thrown_7 hl D cA ak q_28 q_31 q_32 q_33 q_34 q_35 q_36 q_37 q_38 q_39 q_40 q_41 q_42) [28] [0, 1, 2, 3, 4, 5, 6, 7, 8, 9, 10, 11, 12, 13, 14, 15, 16, 17, 18, 19, 20, 21, 22, 23, 24, 25, 26, 27] rfl rfl (by decide) (by decide) (by decide) 0 rfl rfl rfl jw_993 jw_994 jw_995 jw_224 jw_992 jn_X11_thrown rfl (jj_le rfl) (jj_le rfl) (jj_le rfl) (jj_le rfl) (jj_le rfl) dL_law_946 rfl (fun _ _ hX => hX.elim) (fun w1 r O_686 => ?_)
      obtain ⟨rfl, rfl⟩ := O_686
      refine jj_apd rfl ?_
      refine jj_iload C dL_law_949 rfl ?_
      refine jj_icmp_eqT (tgt := 956) C dL_law_951 (by decide) (by decide) ?_
      refine jj_iload C dL_law_956 rfl ?_
      refine jj_if_neF (tgt := 973) C dL_law_958 (by decide) (by decide) ?_
      refine jj_aload_n C dL_law_961 rfl ?_
      refine jj_iconst (v := 0) C dL_law_962 (by decide) ?_
      refine jj_lald (v := 0) C 26 rfl (vp_in_iff.mpr (by decide)) rfl dL_law_963 ?_
      refine jj_iload C dL_law_964 rfl ?_
      refine jj_i2l (v := 0) C dL_law_966 (by decide) ?_
      refine jj_lcmp_eqT (tgt := 973) C dL_law_967 dL_law_968 (by decide) (by decide) ?_
      refine jj_goto (tgt := 2259) C dL_law_973 (by decide) ?_
      exact jj_loc [7, 2] rfl (jj_drop [] rfl (by decide) (jj_widen (k := 600006) (n := 7302072) (jj_le rfl) (jj_le rfl) hend))
    · refine jj_apd rfl ?_
      refine jj_istore C dL_law_943 (by decide) rfl ?_
      refine jj_aload_n C dL_law_945 rfl ?_
      refine jq_callV (rest := []) C (ct_X11_thrown_7 hl D cA ak q_28 q_31 q_32 q_33 q_34 q_35 q_36 q_37 q_38 q_39 q_40 q_41 q_42) [28] [0, 1, 2, 3, 4, 5, 6, 7, 8, 9, 10, 11, 12, 13, 14, 15, 16, 17, 18, 19, 20, 21, 22, 23, 24, 25, 26, 27] rfl rfl (by decide) (by decide) (by decide) 0 rfl rfl rfl jw_993 jw_994 jw_995 jw_224 jw_992 jn_X11_thrown rfl (jj_le rfl) (jj_le rfl) (jj_le rfl) (jj_le rfl) (jj_le rfl) dL_law_946 rfl (fun _ _ hX => hX.elim) (fun w1 r O_688 => ?_)
      obtain ⟨rfl, rfl⟩ := O_688
      refine jj_apd rfl ?_
      refine jj_iload C dL_law_949 rfl ?_
      refine jj_icmp_eqT (tgt := 956) C dL_law_951 (by decide) (by decide) ?_
      refine jj_iload C dL_law_956 rfl ?_
      refine jj_if_neF (tgt := 973) C dL_law_958 (by decide) (by decide) ?_
      refine jj_aload_n C dL_law_961 rfl ?_
      refine jj_iconst (v := 0) C dL_law_962 (by decide) ?_
      refine jj_lald (v := 0) C 26 rfl (vp_in_iff.mpr (by decide)) rfl dL_law_963 ?_
      refine jj_iload C dL_law_964 rfl ?_
      refine jj_i2l (v := 0) C dL_law_966 (by decide) ?_
      refine jj_lcmp_eqT (tgt := 973) C dL_law_967 dL_law_968 (by decide) (by decide) ?_
      refine jj_goto (tgt := 2259) C dL_law_973 (by decide) ?_
      exact jj_loc [7, 2] rfl (jj_drop [] rfl (by decide) (jj_widen (k := 600006) (n := 7302072) (jj_le rfl) (jj_le rfl) hend))
    · refine jj_apd rfl ?_
      refine jj_istore C dL_law_943 (by decide) rfl ?_
      refine jj_aload_n C dL_law_945 rfl ?_
      refine jq_callV (rest := []) C (ct_X11_thrown_7 hl D cA ak q_28 q_31 q_32 q_33 q_34 q_35 q_36 q_37 q_38 q_39 q_40 q_41 q_42) [28] [0, 1, 2, 3, 4, 5, 6, 7, 8, 9, 10, 11, 12, 13, 14, 15, 16, 17, 18, 19, 20, 21, 22, 23, 24, 25, 26, 27] rfl rfl (by decide) (by decide) (by decide) 0 rfl rfl rfl jw_993 jw_994 jw_995 jw_224 jw_992 jn_X11_thrown rfl (jj_le rfl) (jj_le rfl) (jj_le rfl) (jj_le rfl) (jj_le rfl) dL_law_946 rfl (fun _ _ hX => hX.elim) (fun w1 r O_690 => ?_)
      obtain ⟨rfl, rfl⟩ := O_690
      refine jj_apd rfl ?_
      refine jj_iload C dL_law_949 rfl ?_
      refine jj_icmp_eqT (tgt := 956) C dL_law_951 (by decide) (by decide) ?_
      refine jj_iload C dL_law_956 rfl ?_
      refine jj_if_neF (tgt := 973) C dL_law_958 (by decide) (by decide) ?_
      refine jj_aload_n C dL_law_961 rfl ?_
      refine jj_iconst (v := 0) C dL_law_962 (by decide) ?_
      refine jj_lald (v := 0) C 26 rfl (vp_in_iff.mpr (by decide)) rfl dL_law_963 ?_
      refine jj_iload C dL_law_964 rfl ?_
      refine jj_i2l (v := 0) C dL_law_966 (by decide) ?_
      refine jj_lcmp_eqT (tgt := 973) C dL_law_967 dL_law_968 (by decide) (by decide) ?_
      refine jj_goto (tgt := 2259) C dL_law_973 (by decide) ?_
      exact jj_loc [7, 2] rfl (jj_drop [] rfl (by decide) (jj_widen (k := 600006) (n := 7302072) (jj_le rfl) (jj_le rfl) hend))
    · refine jj_apd rfl ?_
      refine jj_istore C dL_law_943 (by decide) rfl ?_
      refine jj_aload_n C dL_law_945 rfl ?_
      refine jq_callV (rest := []) C (ct_X11_thrown_7 hl D cA ak q_28 q_31 q_32 q_33 q_34 q_35 q_36 q_37 q_38 q_39 q_40 q_41 q_42) [28] [0, 1, 2, 3, 4, 5, 6, 7, 8, 9, 10, 11, 12, 13, 14, 15, 16, 17, 18, 19, 20, 21, 22, 23, 24, 25, 26, 27] rfl rfl (by decide) (by decide) (by decide) 0 rfl rfl rfl jw_993 jw_994 jw_995 jw_224 jw_992 jn_X11_thrown rfl (jj_le rfl) (jj_le rfl) (jj_le rfl) (jj_le rfl) (jj_le rfl) dL_law_946 rfl (fun _ _ hX => hX.elim) (fun w1 r O_692 => ?_)
      obtain ⟨rfl, rfl⟩ := O_692
      refine jj_apd rfl ?_
      refine jj_iload C dL_law_949 rfl ?_
      refine jj_icmp_eqT (tgt := 956) C dL_law_951 (by decide) (by decide) ?_
      refine jj_iload C dL_law_956 rfl ?_
      refine jj_if_neF (tgt := 973) C dL_law_958 (by decide) (by decide) ?_
      refine jj_aload_n C dL_law_961 rfl ?_
      refine jj_iconst (v := 0) C dL_law_962 (by decide) ?_
      refine jj_lald (v := 0) C 26 rfl (vp_in_iff.mpr (by decide)) rfl dL_law_963 ?_
      refine jj_iload C dL_law_964 rfl ?_
      refine jj_i2l (v := 100) C dL_law_966 (by decide) ?_
      refine jj_lcmp_eqF (tgt := 973) C dL_law_967 dL_law_968 (by decide) (by decide) ?_
      refine jj_iconst (v := 0) C dL_law_971 (by decide) ?_
      exact absurd c_663 c_98
    · refine jj_apd rfl ?_
      refine jj_istore C dL_law_943 (by decide) rfl ?_
      refine jj_aload_n C dL_law_945 rfl ?_
      refine jq_callV (rest := []) C (ct_X11_thrown_7 hl D cA ak q_28 q_31 q_32 q_33 q_34 q_35 q_36 q_37 q_38 q_39 q_40 q_41 q_42) [28] [0, 1, 2, 3, 4, 5, 6, 7, 8, 9, 10, 11, 12, 13, 14, 15, 16, 17, 18, 19, 20, 21, 22, 23, 24, 25, 26, 27] rfl rfl (by decide) (by decide) (by decide) 0 rfl rfl rfl jw_993 jw_994 jw_995 jw_224 jw_992 jn_X11_thrown rfl (jj_le rfl) (jj_le rfl) (jj_le rfl) (jj_le rfl) (jj_le rfl) dL_law_946 rfl (fun _ _ hX => hX.elim) (fun w1 r O_694 => ?_)
      obtain ⟨rfl, rfl⟩ := O_694
      refine jj_apd rfl ?_
      refine jj_iload C dL_law_949 rfl ?_
      refine jj_icmp_eqT (tgt := 956) C dL_law_951 (by decide) (by decide) ?_
      refine jj_iload C dL_law_956 rfl ?_
      refine jj_if_neF (tgt := 973) C dL_law_958 (by decide) (by decide) ?_
      refine jj_aload_n C dL_law_961 rfl ?_
      refine jj_iconst (v := 0) C dL_law_962 (by decide) ?_
      refine jj_lald (v := 0) C 26 rfl (vp_in_iff.mpr (by decide)) rfl dL_law_963 ?_
      refine jj_iload C dL_law_964 rfl ?_
      refine jj_i2l (v := 0) C dL_law_966 (by decide) ?_
      refine jj_lcmp_eqT (tgt := 973) C dL_law_967 dL_law_968 (by decide) (by decide) ?_
      refine jj_goto (tgt := 2259) C dL_law_973 (by decide) ?_
      exact jj_loc [7, 2] rfl (jj_drop [] rfl (by decide) (jj_widen (k := 600006) (n := 7302072) (jj_le rfl) (jj_le rfl) hend))
    · refine jj_apd rfl ?_
      refine jj_istore C dL_law_943 (by decide) rfl ?_
      refine jj_aload_n C dL_law_945 rfl ?_
      refine jq_callV (rest := []) C (ct_X11_thrown_7 hl D cA ak q_28 q_31 q_32 q_33 q_34 q_35 q_36 q_37 q_38 q_39 q_40 q_41 q_42) [28] [0, 1, 2, 3, 4, 5, 6, 7, 8, 9, 10, 11, 12, 13, 14, 15, 16, 17, 18, 19, 20, 21, 22, 23, 24, 25, 26, 27] rfl rfl (by decide) (by decide) (by decide) 0 rfl rfl rfl jw_993 jw_994 jw_995 jw_224 jw_992 jn_X11_thrown rfl (jj_le rfl) (jj_le rfl) (jj_le rfl) (jj_le rfl) (jj_le rfl) dL_law_946 rfl (fun _ _ hX => hX.elim) (fun w1 r O_696 => ?_)
      obtain ⟨rfl, rfl⟩ := O_696
      refine jj_apd rfl ?_
      refine jj_iload C dL_law_949 rfl ?_
      refine jj_icmp_eqT (tgt := 956) C dL_law_951 (by decide) (by decide) ?_
      refine jj_iload C dL_law_956 rfl ?_
      refine jj_if_neF (tgt := 973) C dL_law_958 (by decide) (by decide) ?_
      refine jj_aload_n C dL_law_961 rfl ?_
      refine jj_iconst (v := 0) C dL_law_962 (by decide) ?_
      refine jj_lald (v := 0) C 26 rfl (vp_in_iff.mpr (by decide)) rfl dL_law_963 ?_
      refine jj_iload C dL_law_964 rfl ?_
      refine jj_i2l (v := 0) C dL_law_966 (by decide) ?_
      refine jj_lcmp_eqT (tgt := 973) C dL_law_967 dL_law_968 (by decide) (by decide) ?_
      refine jj_goto (tgt := 2259) C dL_law_973 (by decide) ?_
      exact jj_loc [7, 2] rfl (jj_drop [] rfl (by decide) (jj_widen (k := 600006) (n := 7302072) (jj_le rfl) (jj_le rfl) hend))
    · refine jj_apd rfl ?_
      refine jj_istore C dL_law_943 (by decide) rfl ?_
      refine jj_aload_n C dL_law_945 rfl ?_
      refine jq_callV (rest := []) C (ct_X11_thrown_7 hl D cA ak q_28 q_31 q_32 q_33 q_34 q_35 q_36 q_37 q_38 q_39 q_40 q_41 q_42) [28] [0, 1, 2, 3, 4, 5, 6, 7, 8, 9, 10, 11, 12, 13, 14, 15, 16, 17, 18, 19, 20, 21, 22, 23, 24, 25, 26, 27] rfl rfl (by decide) (by decide) (by decide) 0 rfl rfl rfl jw_993 jw_994 jw_995 jw_224 jw_992 jn_X11_thrown rfl (jj_le rfl) (jj_le rfl) (jj_le rfl) (jj_le rfl) (jj_le rfl) dL_law_946 rfl (fun _ _ hX => hX.elim) (fun w1 r O_698 => ?_)
      obtain ⟨rfl, rfl⟩ := O_698
      refine jj_apd rfl ?_
      refine jj_iload C dL_law_949 rfl ?_
      refine jj_icmp_eqT (tgt := 956) C dL_law_951 (by decide) (by decide) ?_
      refine jj_iload C dL_law_956 rfl ?_
      refine jj_if_neF (tgt := 973) C dL_law_958 (by decide) (by decide) ?_
      refine jj_aload_n C dL_law_961 rfl ?_
      refine jj_iconst (v := 0) C dL_law_962 (by decide) ?_
      refine jj_lald (v := 0) C 26 rfl (vp_in_iff.mpr (by decide)) rfl dL_law_963 ?_
      refine jj_iload C dL_law_964 rfl ?_
      refine jj_i2l (v := 0) C dL_law_966 (by decide) ?_
      refine jj_lcmp_eqT (tgt := 973) C dL_law_967 dL_law_968 (by decide) (by decide) ?_
      refine jj_goto (tgt := 2259) C dL_law_973 (by decide) ?_
      exact jj_loc [7, 2] rfl (jj_drop [] rfl (by decide) (jj_widen (k := 600006) (n := 7302072) (jj_le rfl) (jj_le rfl) hend))
    · refine jj_apd rfl ?_
      refine jj_istore C dL_law_943 (by decide) rfl ?_
      refine jj_aload_n C dL_law_945 rfl ?_
      refine jq_callV (rest := []) C (ct_X11_thrown_7 hl D cA ak q_28 q_31 q_32 q_33 q_34 q_35 q_36 q_37 q_38 q_39 q_40 q_41 q_42) [28] [0, 1, 2, 3, 4, 5, 6, 7, 8, 9, 10, 11, 12, 13, 14, 15, 16, 17, 18, 19, 20, 21, 22, 23, 24, 25, 26, 27] rfl rfl (by decide) (by decide) (by decide) 0 rfl rfl rfl jw_993 jw_994 jw_995 jw_224 jw_992 jn_X11_thrown rfl (jj_le rfl) (jj_le rfl) (jj_le rfl) (jj_le rfl) (jj_le rfl) dL_law_946 rfl (fun _ _ hX => hX.elim) (fun w1 r O_700 => ?_)
      obtain ⟨rfl, rfl⟩ := O_700
      refine jj_apd rfl ?_
      refine jj_iload C dL_law_949 rfl ?_
      refine jj_icmp_eqT (tgt := 956) C dL_law_951 (by decide) (by decide) ?_
      refine jj_iload C dL_law_956 rfl ?_
      refine jj_if_neF (tgt := 973) C dL_law_958 (by decide) (by decide) ?_
      refine jj_aload_n C dL_law_961 rfl ?_
      refine jj_iconst (v := 0) C dL_law_962 (by decide) ?_
      refine jj_lald (v := 0) C 26 rfl (vp_in_iff.mpr (by decide)) rfl dL_law_963 ?_
      refine jj_iload C dL_law_964 rfl ?_
      refine jj_i2l (v := 0) C dL_law_966 (by decide) ?_
      refine jj_lcmp_eqT (tgt := 973) C dL_law_967 dL_law_968 (by decide) (by decide) ?_
      refine jj_goto (tgt := 2259) C dL_law_973 (by decide) ?_
      exact jj_loc [7, 2] rfl (jj_drop [] rfl (by decide) (jj_widen (k := 600006) (n := 7302072) (jj_le rfl) (jj_le rfl) hend))
    · refine jj_apd rfl ?_
      refine jj_istore C dL_law_943 (by decide) rfl ?_
      refine jj_aload_n C dL_law_945 rfl ?_
      refine jq_callV (rest := []) C (ct_X11_thrown_7 hl D cA ak q_28 q_31 q_32 q_33 q_34 q_35 q_36 q_37 q_38 q_39 q_40 q_41 q_42) [28] [0, 1, 2, 3, 4, 5, 6, 7, 8, 9, 10, 11, 12, 13, 14, 15, 16, 17, 18, 19, 20, 21, 22, 23, 24, 25, 26, 27] rfl rfl (by decide) (by decide) (by decide) 0 rfl rfl rfl jw_993 jw_994 jw_995 jw_224 jw_992 jn_X11_thrown rfl (jj_le rfl) (jj_le rfl) (jj_le rfl) (jj_le rfl) (jj_le rfl) dL_law_946 rfl (fun _ _ hX => hX.elim) (fun w1 r O_702 => ?_)
      obtain ⟨rfl, rfl⟩ := O_702
      refine jj_apd rfl ?_
      refine jj_iload C dL_law_949 rfl ?_
      refine jj_icmp_eqT (tgt := 956) C dL_law_951 (by decide) (by decide) ?_
      refine jj_iload C dL_law_956 rfl ?_
      refine jj_if_neF (tgt := 973) C dL_law_958 (by decide) (by decide) ?_
      refine jj_aload_n C dL_law_961 rfl ?_
      refine jj_iconst (v := 0) C dL_law_962 (by decide) ?_
      refine jj_lald (v := 0) C 26 rfl (vp_in_iff.mpr (by decide)) rfl dL_law_963 ?_
      refine jj_iload C dL_law_964 rfl ?_
      refine jj_i2l (v := 0) C dL_law_966 (by decide) ?_
      refine jj_lcmp_eqT (tgt := 973) C dL_law_967 dL_law_968 (by decide) (by decide) ?_
      refine jj_goto (tgt := 2259) C dL_law_973 (by decide) ?_
      exact jj_loc [7, 2] rfl (jj_drop [] rfl (by decide) (jj_widen (k := 600006) (n := 7302072) (jj_le rfl) (jj_le rfl) hend))
  · refine jj_apd rfl ?_
    refine jj_istore C dL_law_931 (by decide) rfl ?_
    refine jj_aload_n C dL_law_933 rfl ?_
    refine jj_aload_n C dL_law_934 rfl ?_
    refine jj_iload C dL_law_935 rfl ?_
    refine jj_iconst (v := 1) C dL_law_937 (by decide) ?_
    refine jj_iadd (v := 1) C dL_law_938 (by decide) ?_
    refine jj_xld (v := xs 1) C hX hbl hbA (vp_in_iff.mpr (by decide)) rfl dL_law_939 ?_
    refine jq_callV (rest := []) C (ct_X11_count_1 hl D cA ak q_28 q_31 q_32 q_33 q_34 q_35 q_36 q_37 q_38 q_39 q_40 q_41 q_42 (xs 1)) [14, 26] [0, 1, 2, 3, 4, 5, 6, 7, 8, 9, 10, 11, 12, 13, 15, 16, 17, 18, 19, 20, 21, 22, 23, 24, 25, 27, 28] rfl rfl (by decide) (by decide) (by decide) 0 rfl rfl rfl jw_1160 jw_1161 jw_1162 jw_224 jw_482 jn_X11_count rfl (jj_le rfl) (jj_le rfl) (jj_le rfl) (jj_le rfl) (jj_le rfl) dL_law_940 rfl (fun _ _ hX => hX.elim) (fun w1 r O_704 => ?_)
    rcases O_704 with ⟨c_705, rfl, rfl⟩ | ⟨c_706, c_707, rfl, rfl⟩ | ⟨c_708, c_709, c_710, rfl, rfl⟩ | ⟨c_711, c_712, c_713, rfl, rfl⟩ | ⟨c_714, c_715, c_716, rfl, rfl⟩ | ⟨c_717, c_718, c_719, rfl, rfl⟩ | ⟨c_720, c_721, c_722, rfl, rfl⟩ | ⟨c_723, c_724, c_725, rfl, rfl⟩ | ⟨c_726, c_727, c_728, rfl, rfl⟩ | ⟨c_729, c_730, c_731, rfl, rfl⟩ | ⟨c_732, c_733, c_734, rfl, rfl⟩ | ⟨c_735, c_736, c_737, rfl, rfl⟩
    · refine jj_apd rfl ?_
      refine jj_istore C dL_law_943 (by decide) rfl ?_
      refine jj_aload_n C dL_law_945 rfl ?_
      refine jq_callV (rest := []) C (ct_X11_thrown_2 hl D cA ak q_28 q_31 q_32 q_33 q_34 q_35 q_36 q_37 q_38 q_39 q_40 q_41 q_42) [28] [0, 1, 2, 3, 4, 5, 6, 7, 8, 9, 10, 11, 12, 13, 14, 15, 16, 17, 18, 19, 20, 21, 22, 23, 24, 25, 26, 27] rfl rfl (by decide) (by decide) (by decide) 0 rfl rfl rfl jw_993 jw_994 jw_995 jw_224 jw_992 jn_X11_thrown rfl (jj_le rfl) (jj_le rfl) (jj_le rfl) (jj_le rfl) (jj_le rfl) dL_law_946 rfl (fun _ _ hX => hX.elim) (fun w1 r O_739 => ?_)
      obtain ⟨rfl, rfl⟩ := O_739
      refine jj_apd rfl ?_
      refine jj_iload C dL_law_949 rfl ?_
      refine jj_icmp_eqF (tgt := 956) C dL_law_951 (by decide) (by decide) ?_
      refine jj_iconst (v := 0) C dL_law_954 (by decide) ?_
      exfalso; have z0 := jc_neq (a := (xs 1).toInt) (b := (0)) c_103 rfl (by decide); have z1 := jc_neq (a := (xs 1).toInt) (b := (1)) c_104 rfl (by decide); have z2 := jc_neq (a := (xs 1).toInt) (b := (2)) c_105 rfl (by decide); have z3 := jc_neq (a := (xs 1).toInt) (b := (3)) c_106 rfl (by decide); have z4 := jc_neq (a := (xs 1).toInt) (b := (4)) c_107 rfl (by decide); have z5 := jc_neq (a := (xs 1).toInt) (b := (5)) c_108 rfl (by decide); have z6 := jc_neq (a := (xs 1).toInt) (b := (6)) c_109 rfl (by decide); have z7 := jc_neq (a := (xs 1).toInt) (b := (7)) c_110 rfl (by decide); have z8 := jc_neq (a := (xs 1).toInt) (b := (8)) c_111 rfl (by decide); have z9 := jc_eq (a := (xs 1).toInt) (b := (9)) c_112 rfl (by decide); have z10 := jc_ltL (a := (xs 1).toInt) (b := (0)) c_705 (Int32.toInt_toInt64 _) (by decide); omega
    · refine jj_apd rfl ?_
      refine jj_istore C dL_law_943 (by decide) rfl ?_
      refine jj_aload_n C dL_law_945 rfl ?_
      refine jq_callV (rest := []) C (ct_X11_thrown_2 hl D cA ak q_28 q_31 q_32 q_33 q_34 q_35 q_36 q_37 q_38 q_39 q_40 q_41 q_42) [28] [0, 1, 2, 3, 4, 5, 6, 7, 8, 9, 10, 11, 12, 13, 14, 15, 16, 17, 18, 19, 20, 21, 22, 23, 24, 25, 26, 27] rfl rfl (by decide) (by decide) (by decide) 0 rfl rfl rfl jw_993 jw_994 jw_995 jw_224 jw_992 jn_X11_thrown rfl (jj_le rfl) (jj_le rfl) (jj_le rfl) (jj_le rfl) (jj_le rfl) dL_law_946 rfl (fun _ _ hX => hX.elim) (fun w1 r O_741 => ?_)
      obtain ⟨rfl, rfl⟩ := O_741
      refine jj_apd rfl ?_
      refine jj_iload C dL_law_949 rfl ?_
      refine jj_icmp_eqF (tgt := 956) C dL_law_951 (by decide) (by decide) ?_
      refine jj_iconst (v := 0) C dL_law_954 (by decide) ?_
      exfalso; have z0 := jc_neq (a := (xs 1).toInt) (b := (0)) c_103 rfl (by decide); have z1 := jc_neq (a := (xs 1).toInt) (b := (1)) c_104 rfl (by decide); have z2 := jc_neq (a := (xs 1).toInt) (b := (2)) c_105 rfl (by decide); have z3 := jc_neq (a := (xs 1).toInt) (b := (3)) c_106 rfl (by decide); have z4 := jc_neq (a := (xs 1).toInt) (b := (4)) c_107 rfl (by decide); have z5 := jc_neq (a := (xs 1).toInt) (b := (5)) c_108 rfl (by decide); have z6 := jc_neq (a := (xs 1).toInt) (b := (6)) c_109 rfl (by decide); have z7 := jc_neq (a := (xs 1).toInt) (b := (7)) c_110 rfl (by decide); have z8 := jc_neq (a := (xs 1).toInt) (b := (8)) c_111 rfl (by decide); have z9 := jc_eq (a := (xs 1).toInt) (b := (9)) c_112 rfl (by decide); have z10 := jc_nltL (a := (xs 1).toInt) (b := (0)) c_706 (Int32.toInt_toInt64 _) (by decide); have z11 := jc_ltL (a := (9)) (b := (xs 1).toInt) c_707 (by decide) (Int32.toInt_toInt64 _); omega
    · refine jj_apd rfl ?_
      refine jj_istore C dL_law_943 (by decide) rfl ?_
      refine jj_aload_n C dL_law_945 rfl ?_
      refine jq_callV (rest := []) C (ct_X11_thrown_7 hl D cA ak q_28 q_31 q_32 q_33 q_34 q_35 q_36 q_37 q_38 q_39 q_40 q_41 q_42) [28] [0, 1, 2, 3, 4, 5, 6, 7, 8, 9, 10, 11, 12, 13, 14, 15, 16, 17, 18, 19, 20, 21, 22, 23, 24, 25, 26, 27] rfl rfl (by decide) (by decide) (by decide) 0 rfl rfl rfl jw_993 jw_994 jw_995 jw_224 jw_992 jn_X11_thrown rfl (jj_le rfl) (jj_le rfl) (jj_le rfl) (jj_le rfl) (jj_le rfl) dL_law_946 rfl (fun _ _ hX => hX.elim) (fun w1 r O_743 => ?_)
      obtain ⟨rfl, rfl⟩ := O_743
      refine jj_apd rfl ?_
      refine jj_iload C dL_law_949 rfl ?_
      refine jj_icmp_eqT (tgt := 956) C dL_law_951 (by decide) (by decide) ?_
      refine jj_iload C dL_law_956 rfl ?_
      refine jj_if_neF (tgt := 973) C dL_law_958 (by decide) (by decide) ?_
      refine jj_aload_n C dL_law_961 rfl ?_
      refine jj_iconst (v := 0) C dL_law_962 (by decide) ?_
      refine jj_lald (v := 0) C 26 rfl (vp_in_iff.mpr (by decide)) rfl dL_law_963 ?_
      refine jj_iload C dL_law_964 rfl ?_
      refine jj_i2l (v := 1) C dL_law_966 (by decide) ?_
      refine jj_lcmp_eqF (tgt := 973) C dL_law_967 dL_law_968 (by decide) (by decide) ?_
      refine jj_iconst (v := 0) C dL_law_971 (by decide) ?_
      exact absurd c_710 c_103
    · refine jj_apd rfl ?_
      refine jj_istore C dL_law_943 (by decide) rfl ?_
      refine jj_aload_n C dL_law_945 rfl ?_
      refine jq_callV (rest := []) C (ct_X11_thrown_7 hl D cA ak q_28 q_31 q_32 q_33 q_34 q_35 q_36 q_37 q_38 q_39 q_40 q_41 q_42) [28] [0, 1, 2, 3, 4, 5, 6, 7, 8, 9, 10, 11, 12, 13, 14, 15, 16, 17, 18, 19, 20, 21, 22, 23, 24, 25, 26, 27] rfl rfl (by decide) (by decide) (by decide) 0 rfl rfl rfl jw_993 jw_994 jw_995 jw_224 jw_992 jn_X11_thrown rfl (jj_le rfl) (jj_le rfl) (jj_le rfl) (jj_le rfl) (jj_le rfl) dL_law_946 rfl (fun _ _ hX => hX.elim) (fun w1 r O_745 => ?_)
      obtain ⟨rfl, rfl⟩ := O_745
      refine jj_apd rfl ?_
      refine jj_iload C dL_law_949 rfl ?_
      refine jj_icmp_eqT (tgt := 956) C dL_law_951 (by decide) (by decide) ?_
      refine jj_iload C dL_law_956 rfl ?_
      refine jj_if_neF (tgt := 973) C dL_law_958 (by decide) (by decide) ?_
      refine jj_aload_n C dL_law_961 rfl ?_
      refine jj_iconst (v := 0) C dL_law_962 (by decide) ?_
      refine jj_lald (v := 0) C 26 rfl (vp_in_iff.mpr (by decide)) rfl dL_law_963 ?_
      refine jj_iload C dL_law_964 rfl ?_
      refine jj_i2l (v := 0) C dL_law_966 (by decide) ?_
      refine jj_lcmp_eqT (tgt := 973) C dL_law_967 dL_law_968 (by decide) (by decide) ?_
      refine jj_goto (tgt := 2259) C dL_law_973 (by decide) ?_
      exact jj_loc [7, 2] rfl (jj_drop [] rfl (by decide) (jj_widen (k := 600006) (n := 7302072) (jj_le rfl) (jj_le rfl) hend))
    · refine jj_apd rfl ?_
      refine jj_istore C dL_law_943 (by decide) rfl ?_
      refine jj_aload_n C dL_law_945 rfl ?_
      refine jq_callV (rest := []) C (ct_X11_thrown_7 hl D cA ak q_28 q_31 q_32 q_33 q_34 q_35 q_36 q_37 q_38 q_39 q_40 q_41 q_42) [28] [0, 1, 2, 3, 4, 5, 6, 7, 8, 9, 10, 11, 12, 13, 14, 15, 16, 17, 18, 19, 20, 21, 22, 23, 24, 25, 26, 27] rfl rfl (by decide) (by decide) (by decide) 0 rfl rfl rfl jw_993 jw_994 jw_995 jw_224 jw_992 jn_X11_thrown rfl (jj_le rfl) (jj_le rfl) (jj_le rfl) (jj_le rfl) (jj_le rfl) dL_law_946 rfl (fun _ _ hX => hX.elim) (fun w1 r O_747 => ?_)
      obtain ⟨rfl, rfl⟩ := O_747
      refine jj_apd rfl ?_
      refine jj_iload C dL_law_949 rfl ?_
      refine jj_icmp_eqT (tgt := 956) C dL_law_951 (by decide) (by decide) ?_
      refine jj_iload C dL_law_956 rfl ?_
      refine jj_if_neF (tgt := 973) C dL_law_958 (by decide) (by decide) ?_
      refine jj_aload_n C dL_law_961 rfl ?_
      refine jj_iconst (v := 0) C dL_law_962 (by decide) ?_
      refine jj_lald (v := 0) C 26 rfl (vp_in_iff.mpr (by decide)) rfl dL_law_963 ?_
      refine jj_iload C dL_law_964 rfl ?_
      refine jj_i2l (v := 0) C dL_law_966 (by decide) ?_
      refine jj_lcmp_eqT (tgt := 973) C dL_law_967 dL_law_968 (by decide) (by decide) ?_
      refine jj_goto (tgt := 2259) C dL_law_973 (by decide) ?_
      exact jj_loc [7, 2] rfl (jj_drop [] rfl (by decide) (jj_widen (k := 600006) (n := 7302072) (jj_le rfl) (jj_le rfl) hend))
    · refine jj_apd rfl ?_
      refine jj_istore C dL_law_943 (by decide) rfl ?_
      refine jj_aload_n C dL_law_945 rfl ?_
      refine jq_callV (rest := []) C (ct_X11_thrown_7 hl D cA ak q_28 q_31 q_32 q_33 q_34 q_35 q_36 q_37 q_38 q_39 q_40 q_41 q_42) [28] [0, 1, 2, 3, 4, 5, 6, 7, 8, 9, 10, 11, 12, 13, 14, 15, 16, 17, 18, 19, 20, 21, 22, 23, 24, 25, 26, 27] rfl rfl (by decide) (by decide) (by decide) 0 rfl rfl rfl jw_993 jw_994 jw_995 jw_224 jw_992 jn_X11_thrown rfl (jj_le rfl) (jj_le rfl) (jj_le rfl) (jj_le rfl) (jj_le rfl) dL_law_946 rfl (fun _ _ hX => hX.elim) (fun w1 r O_749 => ?_)
      obtain ⟨rfl, rfl⟩ := O_749
      refine jj_apd rfl ?_
      refine jj_iload C dL_law_949 rfl ?_
      refine jj_icmp_eqT (tgt := 956) C dL_law_951 (by decide) (by decide) ?_
      refine jj_iload C dL_law_956 rfl ?_
      refine jj_if_neF (tgt := 973) C dL_law_958 (by decide) (by decide) ?_
      refine jj_aload_n C dL_law_961 rfl ?_
      refine jj_iconst (v := 0) C dL_law_962 (by decide) ?_
      refine jj_lald (v := 0) C 26 rfl (vp_in_iff.mpr (by decide)) rfl dL_law_963 ?_
      refine jj_iload C dL_law_964 rfl ?_
      refine jj_i2l (v := 0) C dL_law_966 (by decide) ?_
      refine jj_lcmp_eqT (tgt := 973) C dL_law_967 dL_law_968 (by decide) (by decide) ?_
      refine jj_goto (tgt := 2259) C dL_law_973 (by decide) ?_
      exact jj_loc [7, 2] rfl (jj_drop [] rfl (by decide) (jj_widen (k := 600006) (n := 7302072) (jj_le rfl) (jj_le rfl) hend))
    · refine jj_apd rfl ?_
      refine jj_istore C dL_law_943 (by decide) rfl ?_
      refine jj_aload_n C dL_law_945 rfl ?_
      refine jq_callV (rest := []) C (ct_X11_thrown_7 hl D cA ak q_28 q_31 q_32 q_33 q_34 q_35 q_36 q_37 q_38 q_39 q_40 q_41 q_42) [28] [0, 1, 2, 3, 4, 5, 6, 7, 8, 9, 10, 11, 12, 13, 14, 15, 16, 17, 18, 19, 20, 21, 22, 23, 24, 25, 26, 27] rfl rfl (by decide) (by decide) (by decide) 0 rfl rfl rfl jw_993 jw_994 jw_995 jw_224 jw_992 jn_X11_thrown rfl (jj_le rfl) (jj_le rfl) (jj_le rfl) (jj_le rfl) (jj_le rfl) dL_law_946 rfl (fun _ _ hX => hX.elim) (fun w1 r O_751 => ?_)
      obtain ⟨rfl, rfl⟩ := O_751
      refine jj_apd rfl ?_
      refine jj_iload C dL_law_949 rfl ?_
      refine jj_icmp_eqT (tgt := 956) C dL_law_951 (by decide) (by decide) ?_
      refine jj_iload C dL_law_956 rfl ?_
      refine jj_if_neF (tgt := 973) C dL_law_958 (by decide) (by decide) ?_
      refine jj_aload_n C dL_law_961 rfl ?_
      refine jj_iconst (v := 0) C dL_law_962 (by decide) ?_
      refine jj_lald (v := 0) C 26 rfl (vp_in_iff.mpr (by decide)) rfl dL_law_963 ?_
      refine jj_iload C dL_law_964 rfl ?_
      refine jj_i2l (v := 100) C dL_law_966 (by decide) ?_
      refine jj_lcmp_eqF (tgt := 973) C dL_law_967 dL_law_968 (by decide) (by decide) ?_
      refine jj_iconst (v := 0) C dL_law_971 (by decide) ?_
      exact absurd c_722 c_107
    · refine jj_apd rfl ?_
      refine jj_istore C dL_law_943 (by decide) rfl ?_
      refine jj_aload_n C dL_law_945 rfl ?_
      refine jq_callV (rest := []) C (ct_X11_thrown_7 hl D cA ak q_28 q_31 q_32 q_33 q_34 q_35 q_36 q_37 q_38 q_39 q_40 q_41 q_42) [28] [0, 1, 2, 3, 4, 5, 6, 7, 8, 9, 10, 11, 12, 13, 14, 15, 16, 17, 18, 19, 20, 21, 22, 23, 24, 25, 26, 27] rfl rfl (by decide) (by decide) (by decide) 0 rfl rfl rfl jw_993 jw_994 jw_995 jw_224 jw_992 jn_X11_thrown rfl (jj_le rfl) (jj_le rfl) (jj_le rfl) (jj_le rfl) (jj_le rfl) dL_law_946 rfl (fun _ _ hX => hX.elim) (fun w1 r O_753 => ?_)
      obtain ⟨rfl, rfl⟩ := O_753
      refine jj_apd rfl ?_
      refine jj_iload C dL_law_949 rfl ?_
      refine jj_icmp_eqT (tgt := 956) C dL_law_951 (by decide) (by decide) ?_
      refine jj_iload C dL_law_956 rfl ?_
      refine jj_if_neF (tgt := 973) C dL_law_958 (by decide) (by decide) ?_
      refine jj_aload_n C dL_law_961 rfl ?_
      refine jj_iconst (v := 0) C dL_law_962 (by decide) ?_
      refine jj_lald (v := 0) C 26 rfl (vp_in_iff.mpr (by decide)) rfl dL_law_963 ?_
      refine jj_iload C dL_law_964 rfl ?_
      refine jj_i2l (v := 0) C dL_law_966 (by decide) ?_
      refine jj_lcmp_eqT (tgt := 973) C dL_law_967 dL_law_968 (by decide) (by decide) ?_
      refine jj_goto (tgt := 2259) C dL_law_973 (by decide) ?_
      exact jj_loc [7, 2] rfl (jj_drop [] rfl (by decide) (jj_widen (k := 600006) (n := 7302072) (jj_le rfl) (jj_le rfl) hend))
    · refine jj_apd rfl ?_
      refine jj_istore C dL_law_943 (by decide) rfl ?_
      refine jj_aload_n C dL_law_945 rfl ?_
      refine jq_callV (rest := []) C (ct_X11_thrown_7 hl D cA ak q_28 q_31 q_32 q_33 q_34 q_35 q_36 q_37 q_38 q_39 q_40 q_41 q_42) [28] [0, 1, 2, 3, 4, 5, 6, 7, 8, 9, 10, 11, 12, 13, 14, 15, 16, 17, 18, 19, 20, 21, 22, 23, 24, 25, 26, 27] rfl rfl (by decide) (by decide) (by decide) 0 rfl rfl rfl jw_993 jw_994 jw_995 jw_224 jw_992 jn_X11_thrown rfl (jj_le rfl) (jj_le rfl) (jj_le rfl) (jj_le rfl) (jj_le rfl) dL_law_946 rfl (fun _ _ hX => hX.elim) (fun w1 r O_755 => ?_)
      obtain ⟨rfl, rfl⟩ := O_755
      refine jj_apd rfl ?_
      refine jj_iload C dL_law_949 rfl ?_
      refine jj_icmp_eqT (tgt := 956) C dL_law_951 (by decide) (by decide) ?_
      refine jj_iload C dL_law_956 rfl ?_
      refine jj_if_neF (tgt := 973) C dL_law_958 (by decide) (by decide) ?_
      refine jj_aload_n C dL_law_961 rfl ?_
      refine jj_iconst (v := 0) C dL_law_962 (by decide) ?_
      refine jj_lald (v := 0) C 26 rfl (vp_in_iff.mpr (by decide)) rfl dL_law_963 ?_
      refine jj_iload C dL_law_964 rfl ?_
      refine jj_i2l (v := 0) C dL_law_966 (by decide) ?_
      refine jj_lcmp_eqT (tgt := 973) C dL_law_967 dL_law_968 (by decide) (by decide) ?_
      refine jj_goto (tgt := 2259) C dL_law_973 (by decide) ?_
      exact jj_loc [7, 2] rfl (jj_drop [] rfl (by decide) (jj_widen (k := 600006) (n := 7302072) (jj_le rfl) (jj_le rfl) hend))
    · refine jj_apd rfl ?_
      refine jj_istore C dL_law_943 (by decide) rfl ?_
      refine jj_aload_n C dL_law_945 rfl ?_
      refine jq_callV (rest := []) C (ct_X11_thrown_7 hl D cA ak q_28 q_31 q_32 q_33 q_34 q_35 q_36 q_37 q_38 q_39 q_40 q_41 q_42) [28] [0, 1, 2, 3, 4, 5, 6, 7, 8, 9, 10, 11, 12, 13, 14, 15, 16, 17, 18, 19, 20, 21, 22, 23, 24, 25, 26, 27] rfl rfl (by decide) (by decide) (by decide) 0 rfl rfl rfl jw_993 jw_994 jw_995 jw_224 jw_992 jn_X11_thrown rfl (jj_le rfl) (jj_le rfl) (jj_le rfl) (jj_le rfl) (jj_le rfl) dL_law_946 rfl (fun _ _ hX => hX.elim) (fun w1 r O_757 => ?_)
      obtain ⟨rfl, rfl⟩ := O_757
      refine jj_apd rfl ?_
      refine jj_iload C dL_law_949 rfl ?_
      refine jj_icmp_eqT (tgt := 956) C dL_law_951 (by decide) (by decide) ?_
      refine jj_iload C dL_law_956 rfl ?_
      refine jj_if_neF (tgt := 973) C dL_law_958 (by decide) (by decide) ?_
      refine jj_aload_n C dL_law_961 rfl ?_
      refine jj_iconst (v := 0) C dL_law_962 (by decide) ?_
      refine jj_lald (v := 0) C 26 rfl (vp_in_iff.mpr (by decide)) rfl dL_law_963 ?_
      refine jj_iload C dL_law_964 rfl ?_
      refine jj_i2l (v := 0) C dL_law_966 (by decide) ?_
      refine jj_lcmp_eqT (tgt := 973) C dL_law_967 dL_law_968 (by decide) (by decide) ?_
      refine jj_goto (tgt := 2259) C dL_law_973 (by decide) ?_
      exact jj_loc [7, 2] rfl (jj_drop [] rfl (by decide) (jj_widen (k := 600006) (n := 7302072) (jj_le rfl) (jj_le rfl) hend))
    · refine jj_apd rfl ?_
      refine jj_istore C dL_law_943 (by decide) rfl ?_
      refine jj_aload_n C dL_law_945 rfl ?_
      refine jq_callV (rest := []) C (ct_X11_thrown_7 hl D cA ak q_28 q_31 q_32 q_33 q_34 q_35 q_36 q_37 q_38 q_39 q_40 q_41 q_42) [28] [0, 1, 2, 3, 4, 5, 6, 7, 8, 9, 10, 11, 12, 13, 14, 15, 16, 17, 18, 19, 20, 21, 22, 23, 24, 25, 26, 27] rfl rfl (by decide) (by decide) (by decide) 0 rfl rfl rfl jw_993 jw_994 jw_995 jw_224 jw_992 jn_X11_thrown rfl (jj_le rfl) (jj_le rfl) (jj_le rfl) (jj_le rfl) (jj_le rfl) dL_law_946 rfl (fun _ _ hX => hX.elim) (fun w1 r O_759 => ?_)
      obtain ⟨rfl, rfl⟩ := O_759
      refine jj_apd rfl ?_
      refine jj_iload C dL_law_949 rfl ?_
      refine jj_icmp_eqT (tgt := 956) C dL_law_951 (by decide) (by decide) ?_
      refine jj_iload C dL_law_956 rfl ?_
      refine jj_if_neF (tgt := 973) C dL_law_958 (by decide) (by decide) ?_
      refine jj_aload_n C dL_law_961 rfl ?_
      refine jj_iconst (v := 0) C dL_law_962 (by decide) ?_
      refine jj_lald (v := 0) C 26 rfl (vp_in_iff.mpr (by decide)) rfl dL_law_963 ?_
      refine jj_iload C dL_law_964 rfl ?_
      refine jj_i2l (v := 0) C dL_law_966 (by decide) ?_
      refine jj_lcmp_eqT (tgt := 973) C dL_law_967 dL_law_968 (by decide) (by decide) ?_
      refine jj_goto (tgt := 2259) C dL_law_973 (by decide) ?_
      exact jj_loc [7, 2] rfl (jj_drop [] rfl (by decide) (jj_widen (k := 600006) (n := 7302072) (jj_le rfl) (jj_le rfl) hend))
    · refine jj_apd rfl ?_
      refine jj_istore C dL_law_943 (by decide) rfl ?_
      refine jj_aload_n C dL_law_945 rfl ?_
      refine jq_callV (rest := []) C (ct_X11_thrown_7 hl D cA ak q_28 q_31 q_32 q_33 q_34 q_35 q_36 q_37 q_38 q_39 q_40 q_41 q_42) [28] [0, 1, 2, 3, 4, 5, 6, 7, 8, 9, 10, 11, 12, 13, 14, 15, 16, 17, 18, 19, 20, 21, 22, 23, 24, 25, 26, 27] rfl rfl (by decide) (by decide) (by decide) 0 rfl rfl rfl jw_993 jw_994 jw_995 jw_224 jw_992 jn_X11_thrown rfl (jj_le rfl) (jj_le rfl) (jj_le rfl) (jj_le rfl) (jj_le rfl) dL_law_946 rfl (fun _ _ hX => hX.elim) (fun w1 r O_761 => ?_)
      obtain ⟨rfl, rfl⟩ := O_761
      refine jj_apd rfl ?_
      refine jj_iload C dL_law_949 rfl ?_
      refine jj_icmp_eqT (tgt := 956) C dL_law_951 (by decide) (by decide) ?_
      refine jj_iload C dL_law_956 rfl ?_
      refine jj_if_neF (tgt := 973) C dL_law_958 (by decide) (by decide) ?_
      refine jj_aload_n C dL_law_961 rfl ?_
      refine jj_iconst (v := 0) C dL_law_962 (by decide) ?_
      refine jj_lald (v := 0) C 26 rfl (vp_in_iff.mpr (by decide)) rfl dL_law_963 ?_
      refine jj_iload C dL_law_964 rfl ?_
      refine jj_i2l (v := 0) C dL_law_966 (by decide) ?_
      refine jj_lcmp_eqT (tgt := 973) C dL_law_967 dL_law_968 (by decide) (by decide) ?_
      refine jj_goto (tgt := 2259) C dL_law_973 (by decide) ?_
      exact jj_loc [7, 2] rfl (jj_drop [] rfl (by decide) (jj_widen (k := 600006) (n := 7302072) (jj_le rfl) (jj_le rfl) hend))

