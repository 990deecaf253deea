set_option maxHeartbeats 4000000 in
set_option maxRecDepth 100000 in
theorem ct_J0_charAt_5068e_86 {l : Launch} (hl : l.stackTraces = false) (D : va_G) (cA : Nat → ClassId) (ak : (Nat → Nat) × (Nat → Nat)) : jj_M l D cA ak yJ0_charAt_5068e (.code yJ0_charAt_5068e cJ0_charAt_5068e 2 (some .char)) 3 64 0 0 [] [.ref (ak.1 15), .int 0] (fun (w : va_W) (r : Option Value) => (w = [] ∧ r = some (.int 32))) jj_noX := by
  refine jj_start hl (by decide) jw_391c0f56bd (jj_le rfl) ?_
  intro p e s m args below meth c A hargs hA C hex hmn
  refine jj_aload_n C dJ0_charAt_5068e_0 rfl ?_
  refine jq_callVs (rest := []) C (ct_J0_isLatin1_aae02_16 hl D cA ak) [] [] rfl rfl (by decide) (by decide) (by decide) 15 (by decide) rfl jw_5ca960aa2e jw_b7ba7c03ae jw_c4fe6f1e08 jw_4ea6285965 jw_1aa7753999 jn_J0_isLatin1_aae02 rfl (jj_le rfl) (jj_le rfl) (jj_le rfl) (jj_le rfl) (jj_le rfl) dJ0_charAt_5068e_1 rfl (fun _ _ hX => hX.elim) (fun w1 r O_2 => ?_)
  obtain ⟨rfl, rfl⟩ := O_2
  refine jj_apd rfl ?_
  refine jj_if_eqF (tgt := 16) C dJ0_charAt_5068e_4 (by decide) (by decide) ?_
  refine jj_aload_n C dJ0_charAt_5068e_7 rfl ?_
  refine jj_sval (k := 15) C (by decide) jw_90a506b1c3 dJ0_charAt_5068e_8 ?_
  refine jj_iload_n C dJ0_charAt_5068e_11 rfl ?_
  refine jq_callS (rest := []) C (ct_J1_charAt_3b067_86 hl D cA ak) [] [] rfl rfl (by decide) (by decide) (by decide) jw_7e2463d496 jw_530d7ac64c jw_2a3a2ce6ce jw_6996a9eac3 jn_J1_charAt_3b067 rfl (jj_le rfl) (jj_le rfl) (jj_le rfl) (jj_le rfl) (jj_le rfl) dJ0_charAt_5068e_12 rfl (fun _ _ hX => hX.elim) (fun w1 r O_4 => ?_)
  obtain ⟨rfl, rfl⟩ := O_4
  refine jj_apd rfl ?_
  exact jj_zret C rfl ⟨rfl, rfl⟩ dJ0_charAt_5068e_15 (jj_le rfl) (jj_le rfl)

set_option maxHeartbeats 4000000 in
set_option maxRecDepth 100000 in
theorem ct_J3_checkIndex_8e157_75 {l : Launch} (hl : l.stackTraces = false) (D : va_G) (cA : Nat → ClassId) (ak : (Nat → Nat) × (Nat → Nat)) (h0 : Nat) : jj_M l D cA ak yJ3_checkIndex_8e157 (.code yJ3_checkIndex_8e157 cJ3_checkIndex_8e157 3 (some .int)) 0 0 0 0 [] [.int 1, .int 8, .ref h0] (fun (w : va_W) (r : Option Value) => (w = [] ∧ r = some (.int 1))) jj_noX := by
  refine jj_start hl (by decide) jw_da9869a695 (jj_le rfl) ?_
  intro p e s m args below meth c A hargs hA C hex hmn
  refine jj_iload_n C dJ3_checkIndex_8e157_0 rfl ?_
  refine jj_if_ltF (tgt := 9) C dJ3_checkIndex_8e157_1 (by decide) (by decide) ?_
  refine jj_iload_n C dJ3_checkIndex_8e157_4 rfl ?_
  refine jj_iload_n C dJ3_checkIndex_8e157_5 rfl ?_
  refine jj_icmp_ltT (tgt := 16) C dJ3_checkIndex_8e157_6 (by decide) (by decide) ?_
  refine jj_iload_n C dJ3_checkIndex_8e157_16 rfl ?_
  exact jj_iret C ⟨rfl, rfl⟩ dJ3_checkIndex_8e157_17 (jj_le rfl) (jj_le rfl)

set_option maxHeartbeats 4000000 in
set_option maxRecDepth 100000 in
theorem ct_J3_checkIndex_8e157_76 {l : Launch} (hl : l.stackTraces = false) (D : va_G) (cA : Nat → ClassId) (ak : (Nat → Nat) × (Nat → Nat)) : jj_M l D cA ak yJ3_checkIndex_8e157 (.code yJ3_checkIndex_8e157 cJ3_checkIndex_8e157 3 (some .int)) 0 0 0 0 [] [.int 1, .int 8, .null] (fun (w : va_W) (r : Option Value) => (w = [] ∧ r = some (.int 1))) jj_noX := by
  refine jj_start hl (by decide) jw_da9869a695 (jj_le rfl) ?_
  intro p e s m args below meth c A hargs hA C hex hmn
  refine jj_iload_n C dJ3_checkIndex_8e157_0 rfl ?_
  refine jj_if_ltF (tgt := 9) C dJ3_checkIndex_8e157_1 (by decide) (by decide) ?_
  refine jj_iload_n C dJ3_checkIndex_8e157_4 rfl ?_
  refine jj_iload_n C dJ3_checkIndex_8e157_5 rfl ?_
  refine jj_icmp_ltT (tgt := 16) C dJ3_checkIndex_8e157_6 (by decide) (by decide) ?_
  refine jj_iload_n C dJ3_checkIndex_8e157_16 rfl ?_
  exact jj_iret C ⟨rfl, rfl⟩ dJ3_checkIndex_8e157_17 (jj_le rfl) (jj_le rfl)

set_option maxHeartbeats 4000000 in
set_option maxRecDepth 100000 in
theorem ct_J0_checkIndex_df160_38 {l : Launch} (hl : l.stackTraces = false) (D : va_G) (cA : Nat → ClassId) (ak : (Nat → Nat) × (Nat → Nat)) : jj_M l D cA ak yJ0_checkIndex_df160 (.code yJ0_checkIndex_df160 cJ0_checkIndex_df160 2 none) 1 22 0 0 [] [.int 1, .int 8] (fun (w : va_W) (r : Option Value) => (w = [] ∧ r = none)) jj_noX := by
  refine jj_start hl (by decide) jw_73f64df4e3 (jj_le rfl) ?_
  intro p e s m args below meth c A hargs hA C hex hmn
  refine jj_iload_n C dJ0_checkIndex_df160_0 rfl ?_
  refine jj_iload_n C dJ0_checkIndex_df160_1 rfl ?_
  refine jj_gfm C jw_040150fc39 dJ0_checkIndex_df160_2 (fun t_1 => ?_) ?_
  · refine jq_callS (rest := []) C (ct_J3_checkIndex_8e157_75 hl D cA ak t_1) [] [] rfl rfl (by decide) (by decide) (by decide) jw_a7a8b385a1 jw_8d35bed6b0 jw_2c7dffdd00 jw_da9869a695 jn_J3_checkIndex_8e157 rfl (jj_le rfl) (jj_le rfl) (jj_le rfl) (jj_le rfl) (jj_le rfl) dJ0_checkIndex_df160_5 rfl (fun _ _ hX => hX.elim) (fun w1 r O_3 => ?_)
    obtain ⟨rfl, rfl⟩ := O_3
    refine jj_apd rfl ?_
    refine jj_pop C dJ0_checkIndex_df160_8 rfl ?_
    exact jj_vret C ⟨rfl, rfl⟩ dJ0_checkIndex_df160_9 (jj_le rfl) (jj_le rfl)
  · refine jq_callS (rest := []) C (ct_J3_checkIndex_8e157_76 hl D cA ak) [] [] rfl rfl (by decide) (by decide) (by decide) jw_a7a8b385a1 jw_8d35bed6b0 jw_2c7dffdd00 jw_da9869a695 jn_J3_checkIndex_8e157 rfl (jj_le rfl) (jj_le rfl) (jj_le rfl) (jj_le rfl) (jj_le rfl) dJ0_checkIndex_df160_5 rfl (fun _ _ hX => hX.elim) (fun w1 r O_5 => ?_)
    obtain ⟨rfl, rfl⟩ := O_5
    refine jj_apd rfl ?_
    refine jj_pop C dJ0_checkIndex_df160_8 rfl ?_
    exact jj_vret C ⟨rfl, rfl⟩ dJ0_checkIndex_df160_9 (jj_le rfl) (jj_le rfl)

set_option maxHeartbeats 4000000 in
set_option maxRecDepth 100000 in
theorem ct_J1_charAt_3b067_87 {l : Launch} (hl : l.stackTraces = false) (D : va_G) (cA : Nat → ClassId) (ak : (Nat → Nat) × (Nat → Nat)) : jj_M l D cA ak yJ1_charAt_3b067 (.code yJ1_charAt_3b067 cJ1_charAt_3b067 2 (some .char)) 2 43 0 0 [] [.ref (ak.2 15), .int 1] (fun (w : va_W) (r : Option Value) => (w = [] ∧ r = some (.int 97))) jj_noX := by
  refine jj_start hl (by decide) jw_6996a9eac3 (jj_le rfl) ?_
  intro p e s m args below meth c A hargs hA C hex hmn
  refine jj_iload_n C dJ1_charAt_3b067_0 rfl ?_
  refine jj_aload_n C dJ1_charAt_3b067_1 rfl ?_
  refine jj_slen (k := 15) (v := 8) C (by decide) (by decide) dJ1_charAt_3b067_2 ?_
  refine jq_callS (rest := []) C (ct_J0_checkIndex_df160_38 hl D cA ak) [] [] rfl rfl (by decide) (by decide) (by decide) jw_763fabfbf2 jw_9aa540e9dd jw_4ea6285965 jw_73f64df4e3 jn_J0_checkIndex_df160 rfl (jj_le rfl) (jj_le rfl) (jj_le rfl) (jj_le rfl) (jj_le rfl) dJ1_charAt_3b067_3 rfl (fun _ _ hX => hX.elim) (fun w1 r O_2 => ?_)
  obtain ⟨rfl, rfl⟩ := O_2
  refine jj_apd rfl ?_
  refine jj_aload_n C dJ1_charAt_3b067_6 rfl ?_
  refine jj_iload_n C dJ1_charAt_3b067_7 rfl ?_
  refine jj_sbyt (k := 15) (v := 97) C (by decide) (vp_in_iff.mpr (by decide)) (by decide) dJ1_charAt_3b067_8 ?_
  refine jj_sipush (v := 255) C dJ1_charAt_3b067_9 (by decide) ?_
  refine jj_iand (v := 97) C dJ1_charAt_3b067_12 (by decide) ?_
  refine jj_i2c (v := 97) C dJ1_charAt_3b067_13 (by decide) ?_
  exact jj_zret C rfl ⟨rfl, rfl⟩ dJ1_charAt_3b067_14 (jj_le rfl) (jj_le rfl)

set_option maxHeartbeats 4000000 in
set_option maxRecDepth 100000 in
theorem ct_J0_charAt_5068e_87 {l : Launch} (hl : l.stackTraces = false) (D : va_G) (cA : Nat → ClassId) (ak : (Nat → Nat) × (Nat → Nat)) : jj_M l D cA ak yJ0_charAt_5068e (.code yJ0_charAt_5068e cJ0_charAt_5068e 2 (some .char)) 3 64 0 0 [] [.ref (ak.1 15), .int 1] (fun (w : va_W) (r : Option Value) => (w = [] ∧ r = some (.int 97))) jj_noX := by
  refine jj_start hl (by decide) jw_391c0f56bd (jj_le rfl) ?_
  intro p e s m args below meth c A hargs hA C hex hmn
  refine jj_aload_n C dJ0_charAt_5068e_0 rfl ?_
  refine jq_callVs (rest := []) C (ct_J0_isLatin1_aae02_16 hl D cA ak) [] [] rfl rfl (by decide) (by decide) (by decide) 15 (by decide) rfl jw_5ca960aa2e jw_b7ba7c03ae jw_c4fe6f1e08 jw_4ea6285965 jw_1aa7753999 jn_J0_isLatin1_aae02 rfl (jj_le rfl) (jj_le rfl) (jj_le rfl) (jj_le rfl) (jj_le rfl) dJ0_charAt_5068e_1 rfl (fun _ _ hX => hX.elim) (fun w1 r O_2 => ?_)
  obtain ⟨rfl, rfl⟩ := O_2
  refine jj_apd rfl ?_
  refine jj_if_eqF (tgt := 16) C dJ0_charAt_5068e_4 (by decide) (by decide) ?_
  refine jj_aload_n C dJ0_charAt_5068e_7 rfl ?_
  refine jj_sval (k := 15) C (by decide) jw_90a506b1c3 dJ0_charAt_5068e_8 ?_
  refine jj_iload_n C dJ0_charAt_5068e_11 rfl ?_
  refine jq_callS (rest := []) C (ct_J1_charAt_3b067_87 hl D cA ak) [] [] rfl rfl (by decide) (by decide) (by decide) jw_7e2463d496 jw_530d7ac64c jw_2a3a2ce6ce jw_6996a9eac3 jn_J1_charAt_3b067 rfl (jj_le rfl) (jj_le rfl) (jj_le rfl) (jj_le rfl) (jj_le rfl) dJ0_charAt_5068e_12 rfl (fun _ _ hX => hX.elim) (fun w1 r O_4 => ?_)
  obtain ⟨rfl, rfl⟩ := O_4
  refine jj_apd rfl ?_
  exact jj_zret C rfl ⟨rfl, rfl⟩ dJ0_charAt_5068e_15 (jj_le rfl) (jj_le rfl)

set_option maxHeartbeats 4000000 in
set_option maxRecDepth 100000 in
theorem ct_J3_checkIndex_8e157_77 {l : Launch} (hl : l.stackTraces = false) (D : va_G) (cA : Nat → ClassId) (ak : (Nat → Nat) × (Nat → Nat)) (h0 : Nat) : jj_M l D cA ak yJ3_checkIndex_8e157 (.code yJ3_checkIndex_8e157 cJ3_checkIndex_8e157 3 (some .int)) 0 0 0 0 [] [.int 2, .int 8, .ref h0] (fun (w : va_W) (r : Option Value) => (w = [] ∧ r = some (.int 2))) jj_noX := by
  refine jj_start hl (by decide) jw_da9869a695 (jj_le rfl) ?_
  intro p e s m args below meth c A hargs hA C hex hmn
  refine jj_iload_n C dJ3_checkIndex_8e157_0 rfl ?_
  refine jj_if_ltF (tgt := 9) C dJ3_checkIndex_8e157_1 (by decide) (by decide) ?_
  refine jj_iload_n C dJ3_checkIndex_8e157_4 rfl ?_
  refine jj_iload_n C dJ3_checkIndex_8e157_5 rfl ?_
  refine jj_icmp_ltT (tgt := 16) C dJ3_checkIndex_8e157_6 (by decide) (by decide) ?_
  refine jj_iload_n C dJ3_checkIndex_8e157_16 rfl ?_
  exact jj_iret C ⟨rfl, rfl⟩ dJ3_checkIndex_8e157_17 (jj_le rfl) (jj_le rfl)

set_option maxHeartbeats 4000000 in
set_option maxRecDepth 100000 in
theorem ct_J3_checkIndex_8e157_78 {l : Launch} (hl : l.stackTraces = false) (D : va_G) (cA : Nat → ClassId) (ak : (Nat → Nat) × (Nat → Nat)) : jj_M l D cA ak yJ3_checkIndex_8e157 (.code yJ3_checkIndex_8e157 cJ3_checkIndex_8e157 3 (some .int)) 0 0 0 0 [] [.int 2, .int 8, .null] (fun (w : va_W) (r : Option Value) => (w = [] ∧ r = some (.int 2))) jj_noX := by
  refine jj_start hl (by decide) jw_da9869a695 (jj_le rfl) ?_
  intro p e s m args below meth c A hargs hA C hex hmn
  refine jj_iload_n C dJ3_checkIndex_8e157_0 rfl ?_
  refine jj_if_ltF (tgt := 9) C dJ3_checkIndex_8e157_1 (by decide) (by decide) ?_
  refine jj_iload_n C dJ3_checkIndex_8e157_4 rfl ?_
  refine jj_iload_n C dJ3_checkIndex_8e157_5 rfl ?_
  refine jj_icmp_ltT (tgt := 16) C dJ3_checkIndex_8e157_6 (by decide) (by decide) ?_
  refine jj_iload_n C dJ3_checkIndex_8e157_16 rfl ?_
  exact jj_iret C ⟨rfl, rfl⟩ dJ3_checkIndex_8e157_17 (jj_le rfl) (jj_le rfl)

set_option maxHeartbeats 4000000 in
set_option maxRecDepth 100000 in
theorem ct_J0_checkIndex_df160_39 {l : Launch} (hl : l.stackTraces = false) (D : va_G) (cA : Nat → ClassId) (ak : (Nat → Nat) × (Nat → Nat)) : jj_M l D cA ak yJ0_checkIndex_df160 (.code yJ0_checkIndex_df160 cJ0_checkIndex_df160 2 none) 1 22 0 0 [] [.int 2, .int 8] (fun (w : va_W) (r : Option Value) => (w = [] ∧ r = none)) jj_noX := by
  refine jj_start hl (by decide) jw_73f64df4e3 (jj_le rfl) ?_
  intro p e s m args below meth c A hargs hA C hex hmn
  refine jj_iload_n C dJ0_checkIndex_df160_0 rfl ?_
  refine jj_iload_n C dJ0_checkIndex_df160_1 rfl ?_
  refine jj_gfm C jw_040150fc39 dJ0_checkIndex_df160_2 (fun t_1 => ?_) ?_
  · refine jq_callS (rest := []) C (ct_J3_checkIndex_8e157_77 hl D cA ak t_1) [] [] rfl rfl (by decide) (by decide) (by decide) jw_a7a8b385a1 jw_8d35bed6b0 jw_2c7dffdd00 jw_da9869a695 jn_J3_checkIndex_8e157 rfl (jj_le rfl) (jj_le rfl) (jj_le rfl) (jj_le rfl) (jj_le rfl) dJ0_checkIndex_df160_5 rfl (fun _ _ hX => hX.elim) (fun w1 r O_3 => ?_)
    obtain ⟨rfl, rfl⟩ := O_3
    refine jj_apd rfl ?_
    refine jj_pop C dJ0_checkIndex_df160_8 rfl ?_
    exact jj_vret C ⟨rfl, rfl⟩ dJ0_checkIndex_df160_9 (jj_le rfl) (jj_le rfl)
  · refine jq_callS (rest := []) C (ct_J3_checkIndex_8e157_78 hl D cA ak) [] [] rfl rfl (by decide) (by decide) (by decide) jw_a7a8b385a1 jw_8d35bed6b0 jw_2c7dffdd00 jw_da9869a695 jn_J3_checkIndex_8e157 rfl (jj_le rfl) (jj_le rfl) (jj_le rfl) (jj_le rfl) (jj_le rfl) dJ0_checkIndex_df160_5 rfl (fun _ _ hX => hX.elim) (fun w1 r O_5 => ?_)
    obtain ⟨rfl, rfl⟩ := O_5
    refine jj_apd rfl ?_
    refine jj_pop C dJ0_checkIndex_df160_8 rfl ?_
    exact jj_vret C ⟨rfl, rfl⟩ dJ0_checkIndex_df160_9 (jj_le rfl) (jj_le rfl)

set_option maxHeartbeats 4000000 in
set_option maxRecDepth 100000 in
theorem ct_J1_charAt_3b067_88 {l : Launch} (hl : l.stackTraces = false) (D : va_G) (cA : Nat → ClassId) (ak : (Nat → Nat) × (Nat → Nat)) : jj_M l D cA ak yJ1_charAt_3b067 (.code yJ1_charAt_3b067 cJ1_charAt_3b067 2 (some .char)) 2 43 0 0 [] [.ref (ak.2 15), .int 2] (fun (w : va_W) (r : Option Value) => (w = [] ∧ r = some (.int 115))) jj_noX := by
  refine jj_start hl (by decide) jw_6996a9eac3 (jj_le rfl) ?_
  intro p e s m args below meth c A hargs hA C hex hmn
  refine jj_iload_n C dJ1_charAt_3b067_0 rfl ?_
  refine jj_aload_n C dJ1_charAt_3b067_1 rfl ?_
  refine jj_slen (k := 15) (v := 8) C (by decide) (by decide) dJ1_charAt_3b067_2 ?_
  refine jq_callS (rest := []) C (ct_J0_checkIndex_df160_39 hl D cA ak) [] [] rfl rfl (by decide) (by decide) (by decide) jw_763fabfbf2 jw_9aa540e9dd jw_4ea6285965 jw_73f64df4e3 jn_J0_checkIndex_df160 rfl (jj_le rfl) (jj_le rfl) (jj_le rfl) (jj_le rfl) (jj_le rfl) dJ1_charAt_3b067_3 rfl (fun _ _ hX => hX.elim) (fun w1 r O_2 => ?_)
  obtain ⟨rfl, rfl⟩ := O_2
  refine jj_apd rfl ?_
  refine jj_aload_n C dJ1_charAt_3b067_6 rfl ?_
  refine jj_iload_n C dJ1_charAt_3b067_7 rfl ?_
  refine jj_sbyt (k := 15) (v := 115) C (by decide) (vp_in_iff.mpr (by decide)) (by decide) dJ1_charAt_3b067_8 ?_
  refine jj_sipush (v := 255) C dJ1_charAt_3b067_9 (by decide) ?_
  refine jj_iand (v := 115) C dJ1_charAt_3b067_12 (by decide) ?_
  refine jj_i2c (v := 115) C dJ1_charAt_3b067_13 (by decide) ?_
  exact jj_zret C rfl ⟨rfl, rfl⟩ dJ1_charAt_3b067_14 (jj_le rfl) (jj_le rfl)

set_option maxHeartbeats 4000000 in
set_option maxRecDepth 100000 in
theorem ct_J0_charAt_5068e_88 {l : Launch} (hl : l.stackTraces = false) (D : va_G) (cA : Nat → ClassId) (ak : (Nat → Nat) × (Nat → Nat)) : jj_M l D cA ak yJ0_charAt_5068e (.code yJ0_charAt_5068e cJ0_charAt_5068e 2 (some .char)) 3 64 0 0 [] [.ref (ak.1 15), .int 2] (fun (w : va_W) (r : Option Value) => (w = [] ∧ r = some (.int 115))) jj_noX := by
  refine jj_start hl (by decide) jw_391c0f56bd (jj_le rfl) ?_
  intro p e s m args below meth c A hargs hA C hex hmn
  refine jj_aload_n C dJ0_charAt_5068e_0 rfl ?_
  refine jq_callVs (rest := []) C (ct_J0_isLatin1_aae02_16 hl D cA ak) [] [] rfl rfl (by decide) (by decide) (by decide) 15 (by decide) rfl jw_5ca960aa2e jw_b7ba7c03ae jw_c4fe6f1e08 jw_4ea6285965 jw_1aa7753999 jn_J0_isLatin1_aae02 rfl (jj_le rfl) (jj_le rfl) (jj_le rfl) (jj_le rfl) (jj_le rfl) dJ0_charAt_5068e_1 rfl (fun _ _ hX => hX.elim) (fun w1 r O_2 => ?_)
  obtain ⟨rfl, rfl⟩ := O_2
  refine jj_apd rfl ?_
  refine jj_if_eqF (tgt := 16) C dJ0_charAt_5068e_4 (by decide) (by decide) ?_
  refine jj_aload_n C dJ0_charAt_5068e_7 rfl ?_
  refine jj_sval (k := 15) C (by decide) jw_90a506b1c3 dJ0_charAt_5068e_8 ?_
  refine jj_iload_n C dJ0_charAt_5068e_11 rfl ?_
  refine jq_callS (rest := []) C (ct_J1_charAt_3b067_88 hl D cA ak) [] [] rfl rfl (by decide) (by decide) (by decide) jw_7e2463d496 jw_530d7ac64c jw_2a3a2ce6ce jw_6996a9eac3 jn_J1_charAt_3b067 rfl (jj_le rfl) (jj_le rfl) (jj_le rfl) (jj_le rfl) (jj_le rfl) dJ0_charAt_5068e_12 rfl (fun _ _ hX => hX.elim) (fun w1 r O_4 => ?_)
  obtain ⟨rfl, rfl⟩ := O_4
  refine jj_apd rfl ?_
  exact jj_zret C rfl ⟨rfl, rfl⟩ dJ0_charAt_5068e_15 (jj_le rfl) (jj_le rfl)

set_option maxHeartbeats 4000000 in
set_option maxRecDepth 100000 in
theorem ct_J3_checkIndex_8e157_79 {l : Launch} (hl : l.stackTraces = false) (D : va_G) (cA : Nat → ClassId) (ak : (Nat → Nat) × (Nat → Nat)) (h0 : Nat) : jj_M l D cA ak yJ3_checkIndex_8e157 (.code yJ3_checkIndex_8e157 cJ3_checkIndex_8e157 3 (some .int)) 0 0 0 0 [] [.int 3, .int 8, .ref h0] (fun (w : va_W) (r : Option Value) => (w = [] ∧ r = some (.int 3))) jj_noX := by
  refine jj_start hl (by decide) jw_da9869a695 (jj_le rfl) ?_
  intro p e s m args below meth c A hargs hA C hex hmn
  refine jj_iload_n C dJ3_checkIndex_8e157_0 rfl ?_
  refine jj_if_ltF (tgt := 9) C dJ3_checkIndex_8e157_1 (by decide) (by decide) ?_
  refine jj_iload_n C dJ3_checkIndex_8e157_4 rfl ?_
  refine jj_iload_n C dJ3_checkIndex_8e157_5 rfl ?_
  refine jj_icmp_ltT (tgt := 16) C dJ3_checkIndex_8e157_6 (by decide) (by decide) ?_
  refine jj_iload_n C dJ3_checkIndex_8e157_16 rfl ?_
  exact jj_iret C ⟨rfl, rfl⟩ dJ3_checkIndex_8e157_17 (jj_le rfl) (jj_le rfl)

set_option maxHeartbeats 4000000 in
set_option maxRecDepth 100000 in
theorem ct_J3_checkIndex_8e157_80 {l : Launch} (hl : l.stackTraces = false) (D : va_G) (cA : Nat → ClassId) (ak : (Nat → Nat) × (Nat → Nat)) : jj_M l D cA ak yJ3_checkIndex_8e157 (.code yJ3_checkIndex_8e157 cJ3_checkIndex_8e157 3 (some .int)) 0 0 0 0 [] [.int 3, .int 8, .null] (fun (w : va_W) (r : Option Value) => (w = [] ∧ r = some (.int 3))) jj_noX := by
  refine jj_start hl (by decide) jw_da9869a695 (jj_le rfl) ?_
  intro p e s m args below meth c A hargs hA C hex hmn
  refine jj_iload_n C dJ3_checkIndex_8e157_0 rfl ?_
  refine jj_if_ltF (tgt := 9) C dJ3_checkIndex_8e157_1 (by decide) (by decide) ?_
  refine jj_iload_n C dJ3_checkIndex_8e157_4 rfl ?_
  refine jj_iload_n C dJ3_checkIndex_8e157_5 rfl ?_
  refine jj_icmp_ltT (tgt := 16) C dJ3_checkIndex_8e157_6 (by decide) (by decide) ?_
  refine jj_iload_n C dJ3_checkIndex_8e157_16 rfl ?_
  exact jj_iret C ⟨rfl, rfl⟩ dJ3_checkIndex_8e157_17 (jj_le rfl) (jj_le rfl)

set_option maxHeartbeats 4000000 in
set_option maxRecDepth 100000 in
theorem ct_J0_checkIndex_df160_40 {l : Launch} (hl : l.stackTraces = false) (D : va_G) (cA : Nat → ClassId) (ak : (Nat → Nat) × (Nat → Nat)) : jj_M l D cA ak yJ0_checkIndex_df160 (.code yJ0_checkIndex_df160 cJ0_checkIndex_df160 2 none) 1 22 0 0 [] [.int 3, .int 8] (fun (w : va_W) (r : Option Value) => (w = [] ∧ r = none)) jj_noX := by
  refine jj_start hl (by decide) jw_73f64df4e3 (jj_le rfl) ?_
  intro p e s m args below meth c A hargs hA C hex hmn
  refine jj_iload_n C dJ0_checkIndex_df160_0 rfl ?_
  refine jj_iload_n C dJ0_checkIndex_df160_1 rfl ?_
  refine jj_gfm C jw_040150fc39 dJ0_checkIndex_df160_2 (fun t_1 => ?_) ?_
  · refine jq_callS (rest := []) C (ct_J3_checkIndex_8e157_79 hl D cA ak t_1) [] [] rfl rfl (by decide) (by decide) (by decide) jw_a7a8b385a1 jw_8d35bed6b0 jw_2c7dffdd00 jw_da9869a695 jn_J3_checkIndex_8e157 rfl (jj_le rfl) (jj_le rfl) (jj_le rfl) (jj_le rfl) (jj_le rfl) dJ0_checkIndex_df160_5 rfl (fun _ _ hX => hX.elim) (fun w1 r O_3 => ?_)
    obtain ⟨rfl, rfl⟩ := O_3
    refine jj_apd rfl ?_
    refine jj_pop C dJ0_checkIndex_df160_8 rfl ?_
    exact jj_vret C ⟨rfl, rfl⟩ dJ0_checkIndex_df160_9 (jj_le rfl) (jj_le rfl)
  · refine jq_callS (rest := []) C (ct_J3_checkIndex_8e157_80 hl D cA ak) [] [] rfl rfl (by decide) (by decide) (by decide) jw_a7a8b385a1 jw_8d35bed6b0 jw_2c7dffdd00 jw_da9869a695 jn_J3_checkIndex_8e157 rfl (jj_le rfl) (jj_le rfl) (jj_le rfl) (jj_le rfl) (jj_le rfl) dJ0_checkIndex_df160_5 rfl (fun _ _ hX => hX.elim) (fun w1 r O_5 => ?_)
    obtain ⟨rfl, rfl⟩ := O_5
    refine jj_apd rfl ?_
    refine jj_pop C dJ0_checkIndex_df160_8 rfl ?_
    exact jj_vret C ⟨rfl, rfl⟩ dJ0_checkIndex_df160_9 (jj_le rfl) (jj_le rfl)

set_option maxHeartbeats 4000000 in
set_option maxRecDepth 100000 in
theorem ct_J1_charAt_3b067_89 {l : Launch} (hl : l.stackTraces = false) (D : va_G) (cA : Nat → ClassId) (ak : (Nat → Nat) × (Nat → Nat)) : jj_M l D cA ak yJ1_charAt_3b067 (.code yJ1_charAt_3b067 cJ1_charAt_3b067 2 (some .char)) 2 43 0 0 [] [.ref (ak.2 15), .int 3] (fun (w : va_W) (r : Option Value) => (w = [] ∧ r = some (.int 115))) jj_noX := by
  refine jj_start hl (by decide) jw_6996a9eac3 (jj_le rfl) ?_
  intro p e s m args below meth c A hargs hA C hex hmn
  refine jj_iload_n C dJ1_charAt_3b067_0 rfl ?_
  refine jj_aload_n C dJ1_charAt_3b067_1 rfl ?_
  refine jj_slen (k := 15) (v := 8) C (by decide) (by decide) dJ1_charAt_3b067_2 ?_
  refine jq_callS (rest := []) C (ct_J0_checkIndex_df160_40 hl D cA ak) [] [] rfl rfl (by decide) (by decide) (by decide) jw_763fabfbf2 jw_9aa540e9dd jw_4ea6285965 jw_73f64df4e3 jn_J0_checkIndex_df160 rfl (jj_le rfl) (jj_le rfl) (jj_le rfl) (jj_le rfl) (jj_le rfl) dJ1_charAt_3b067_3 rfl (fun _ _ hX => hX.elim) (fun w1 r O_2 => ?_)
  obtain ⟨rfl, rfl⟩ := O_2
  refine jj_apd rfl ?_
  refine jj_aload_n C dJ1_charAt_3b067_6 rfl ?_
  refine jj_iload_n C dJ1_charAt_3b067_7 rfl ?_
  refine jj_sbyt (k := 15) (v := 115) C (by decide) (vp_in_iff.mpr (by decide)) (by decide) dJ1_charAt_3b067_8 ?_
  refine jj_sipush (v := 255) C dJ1_charAt_3b067_9 (by decide) ?_
  refine jj_iand (v := 115) C dJ1_charAt_3b067_12 (by decide) ?_
  refine jj_i2c (v := 115) C dJ1_charAt_3b067_13 (by decide) ?_
  exact jj_zret C rfl ⟨rfl, rfl⟩ dJ1_charAt_3b067_14 (jj_le rfl) (jj_le rfl)

set_option maxHeartbeats 4000000 in
set_option maxRecDepth 100000 in
theorem ct_J0_charAt_5068e_89 {l : Launch} (hl : l.stackTraces = false) (D : va_G) (cA : Nat → ClassId) (ak : (Nat → Nat) × (Nat → Nat)) : jj_M l D cA ak yJ0_charAt_5068e (.code yJ0_charAt_5068e cJ0_charAt_5068e 2 (some .char)) 3 64 0 0 [] [.ref (ak.1 15), .int 3] (fun (w : va_W) (r : Option Value) => (w = [] ∧ r = some (.int 115))) jj_noX := by
  refine jj_start hl (by decide) jw_391c0f56bd (jj_le rfl) ?_
  intro p e s m args below meth c A hargs hA C hex hmn
  refine jj_aload_n C dJ0_charAt_5068e_0 rfl ?_
  refine jq_callVs (rest := []) C (ct_J0_isLatin1_aae02_16 hl D cA ak) [] [] rfl rfl (by decide) (by decide) (by decide) 15 (by decide) rfl jw_5ca960aa2e jw_b7ba7c03ae jw_c4fe6f1e08 jw_4ea6285965 jw_1aa7753999 jn_J0_isLatin1_aae02 rfl (jj_le rfl) (jj_le rfl) (jj_le rfl) (jj_le rfl) (jj_le rfl) dJ0_charAt_5068e_1 rfl (fun _ _ hX => hX.elim) (fun w1 r O_2 => ?_)
  obtain ⟨rfl, rfl⟩ := O_2
  refine jj_apd rfl ?_
  refine jj_if_eqF (tgt := 16) C dJ0_charAt_5068e_4 (by decide) (by decide) ?_
  refine jj_aload_n C dJ0_charAt_5068e_7 rfl ?_
  refine jj_sval (k := 15) C (by decide) jw_90a506b1c3 dJ0_charAt_5068e_8 ?_
  refine jj_iload_n C dJ0_charAt_5068e_11 rfl ?_
  refine jq_callS (rest := []) C (ct_J1_charAt_3b067_89 hl D cA ak) [] [] rfl rfl (by decide) (by decide) (by decide) jw_7e2463d496 jw_530d7ac64c jw_2a3a2ce6ce jw_6996a9eac3 jn_J1_charAt_3b067 rfl (jj_le rfl) (jj_le rfl) (jj_le rfl) (jj_le rfl) (jj_le rfl) dJ0_charAt_5068e_12 rfl (fun _ _ hX => hX.elim) (fun w1 r O_4 => ?_)
  obtain ⟨rfl, rfl⟩ := O_4
  refine jj_apd rfl ?_
  exact jj_zret C rfl ⟨rfl, rfl⟩ dJ0_charAt_5068e_15 (jj_le rfl) (jj_le rfl)

set_option maxHeartbeats 4000000 in
set_option maxRecDepth 100000 in
theorem ct_J3_checkIndex_8e157_81 {l : Launch} (hl : l.stackTraces = false) (D : va_G) (cA : Nat → ClassId) (ak : (Nat → Nat) × (Nat → Nat)) (h0 : Nat) : jj_M l D cA ak yJ3_checkIndex_8e157 (.code yJ3_checkIndex_8e157 cJ3_checkIndex_8e157 3 (some .int)) 0 0 0 0 [] [.int 4, .int 8, .ref h0] (fun (w : va_W) (r : Option Value) => (w = [] ∧ r = some (.int 4))) jj_noX := by
  refine jj_start hl (by decide) jw_da9869a695 (jj_le rfl) ?_
  intro p e s m args below meth c A hargs hA C hex hmn
  refine jj_iload_n C dJ3_checkIndex_8e157_0 rfl ?_
  refine jj_if_ltF (tgt := 9) C dJ3_checkIndex_8e157_1 (by decide) (by decide) ?_
  refine jj_iload_n C dJ3_checkIndex_8e157_4 rfl ?_
  refine jj_iload_n C dJ3_checkIndex_8e157_5 rfl ?_
  refine jj_icmp_ltT (tgt := 16) C dJ3_checkIndex_8e157_6 (by decide) (by decide) ?_
  refine jj_iload_n C dJ3_checkIndex_8e157_16 rfl ?_
  exact jj_iret C ⟨rfl, rfl⟩ dJ3_checkIndex_8e157_17 (jj_le rfl) (jj_le rfl)

set_option maxHeartbeats 4000000 in
set_option maxRecDepth 100000 in
theorem ct_J3_checkIndex_8e157_82 {l : Launch} (hl : l.stackTraces = false) (D : va_G) (cA : Nat → ClassId) (ak : (Nat → Nat) × (Nat → Nat)) : jj_M l D cA ak yJ3_checkIndex_8e157 (.code yJ3_checkIndex_8e157 cJ3_checkIndex_8e157 3 (some .int)) 0 0 0 0 [] [.int 4, .int 8, .null] (fun (w : va_W) (r : Option Value) => (w = [] ∧ r = some (.int 4))) jj_noX := by
  refine jj_start hl (by decide) jw_da9869a695 (jj_le rfl) ?_
  intro p e s m args below meth c A hargs hA C hex hmn
  refine jj_iload_n C dJ3_checkIndex_8e157_0 rfl ?_
  refine jj_if_ltF (tgt := 9) C dJ3_checkIndex_8e157_1 (by decide) (by decide) ?_
  refine jj_iload_n C dJ3_checkIndex_8e157_4 rfl ?_
  refine jj_iload_n C dJ3_checkIndex_8e157_5 rfl ?_
  refine jj_icmp_ltT (tgt := 16) C dJ3_checkIndex_8e157_6 (by decide) (by decide) ?_
  refine jj_iload_n C dJ3_checkIndex_8e157_16 rfl ?_
  exact jj_iret C ⟨rfl, rfl⟩ dJ3_checkIndex_8e157_17 (jj_le rfl) (jj_le rfl)

set_option maxHeartbeats 4000000 in
set_option maxRecDepth 100000 in
theorem ct_J0_checkIndex_df160_41 {l : Launch} (hl : l.stackTraces = false) (D : va_G) (cA : Nat → ClassId) (ak : (Nat → Nat) × (Nat → Nat)) : jj_M l D cA ak yJ0_checkIndex_df160 (.code yJ0_checkIndex_df160 cJ0_checkIndex_df160 2 none) 1 22 0 0 [] [.int 4, .int 8] (fun (w : va_W) (r : Option Value) => (w = [] ∧ r = none)) jj_noX := by
  refine jj_start hl (by decide) jw_73f64df4e3 (jj_le rfl) ?_
  intro p e s m args below meth c A hargs hA C hex hmn
  refine jj_iload_n C dJ0_checkIndex_df160_0 rfl ?_
  refine jj_iload_n C dJ0_checkIndex_df160_1 rfl ?_
  refine jj_gfm C jw_040150fc39 dJ0_checkIndex_df160_2 (fun t_1 => ?_) ?_
  · refine jq_callS (rest := []) C (ct_J3_checkIndex_8e157_81 hl D cA ak t_1) [] [] rfl rfl (by decide) (by decide) (by decide) jw_a7a8b385a1 jw_8d35bed6b0 jw_2c7dffdd00 jw_da9869a695 jn_J3_checkIndex_8e157 rfl (jj_le rfl) (jj_le rfl) (jj_le rfl) (jj_le rfl) (jj_le rfl) dJ0_checkIndex_df160_5 rfl (fun _ _ hX => hX.elim) (fun w1 r O_3 => ?_)
    obtain ⟨rfl, rfl⟩ := O_3
    refine jj_apd rfl ?_
    refine jj_pop C dJ0_checkIndex_df160_8 rfl ?_
    exact jj_vret C ⟨rfl, rfl⟩ dJ0_checkIndex_df160_9 (jj_le rfl) (jj_le rfl)
  · refine jq_callS (rest := []) C (ct_J3_checkIndex_8e157_82 hl D cA ak) [] [] rfl rfl (by decide) (by decide) (by decide) jw_a7a8b385a1 jw_8d35bed6b0 jw_2c7dffdd00 jw_da9869a695 jn_J3_checkIndex_8e157 rfl (jj_le rfl) (jj_le rfl) (jj_le rfl) (jj_le rfl) (jj_le rfl) dJ0_checkIndex_df160_5 rfl (fun _ _ hX => hX.elim) (fun w1 r O_5 => ?_)
    obtain ⟨rfl, rfl⟩ := O_5
    refine jj_apd rfl ?_
    refine jj_pop C dJ0_checkIndex_df160_8 rfl ?_
    exact jj_vret C ⟨rfl, rfl⟩ dJ0_checkIndex_df160_9 (jj_le rfl) (jj_le rfl)

set_option maxHeartbeats 4000000 in
set_option maxRecDepth 100000 in
theorem ct_J1_charAt_3b067_90 {l : Launch} (hl : l.stackTraces = false) (D : va_G) (cA : Nat → ClassId) (ak : (Nat → Nat) × (Nat → Nat)) : jj_M l D cA ak yJ1_charAt_3b067 (.code yJ1_charAt_3b067 cJ1_charAt_3b067 2 (some .char)) 2 43 0 0 [] [.ref (ak.2 15), .int 4] (fun (w : va_W) (r : Option Value) => (w = [] ∧ r = some (.int 101))) jj_noX := by
  refine jj_start hl (by decide) jw_6996a9eac3 (jj_le rfl) ?_
  intro p e s m args below meth c A hargs hA C hex hmn
  refine jj_iload_n C dJ1_charAt_3b067_0 rfl ?_
  refine jj_aload_n C dJ1_charAt_3b067_1 rfl ?_
  refine jj_slen (k := 15) (v := 8) C (by decide) (by decide) dJ1_charAt_3b067_2 ?_
  refine jq_callS (rest := []) C (ct_J0_checkIndex_df160_41 hl D cA ak) [] [] rfl rfl (by decide) (by decide) (by decide) jw_763fabfbf2 jw_9aa540e9dd jw_4ea6285965 jw_73f64df4e3 jn_J0_checkIndex_df160 rfl (jj_le rfl) (jj_le rfl) (jj_le rfl) (jj_le rfl) (jj_le rfl) dJ1_charAt_3b067_3 rfl (fun _ _ hX => hX.elim) (fun w1 r O_2 => ?_)
  obtain ⟨rfl, rfl⟩ := O_2
  refine jj_apd rfl ?_
  refine jj_aload_n C dJ1_charAt_3b067_6 rfl ?_
  refine jj_iload_n C dJ1_charAt_3b067_7 rfl ?_
  refine jj_sbyt (k := 15) (v := 101) C (by decide) (vp_in_iff.mpr (by decide)) (by decide) dJ1_charAt_3b067_8 ?_
  refine jj_sipush (v := 255) C dJ1_charAt_3b067_9 (by decide) ?_
  refine jj_iand (v := 101) C dJ1_charAt_3b067_12 (by decide) ?_
  refine jj_i2c (v := 101) C dJ1_charAt_3b067_13 (by decide) ?_
  exact jj_zret C rfl ⟨rfl, rfl⟩ dJ1_charAt_3b067_14 (jj_le rfl) (jj_le rfl)

set_option maxHeartbeats 4000000 in
set_option maxRecDepth 100000 in
theorem ct_J0_charAt_5068e_90 {l : Launch} (hl : l.stackTraces = false) (D : va_G) (cA : Nat → ClassId) (ak : (Nat → Nat) × (Nat → Nat)) : jj_M l D cA ak yJ0_charAt_5068e (.code yJ0_charAt_5068e cJ0_charAt_5068e 2 (some .char)) 3 64 0 0 [] [.ref (ak.1 15), .int 4] (fun (w : va_W) (r : Option Value) => (w = [] ∧ r = some (.int 101))) jj_noX := by
  refine jj_start hl (by decide) jw_391c0f56bd (jj_le rfl) ?_
  intro p e s m args below meth c A hargs hA C hex hmn
  refine jj_aload_n C dJ0_charAt_5068e_0 rfl ?_
  refine jq_callVs (rest := []) C (ct_J0_isLatin1_aae02_16 hl D cA ak) [] [] rfl rfl (by decide) (by decide) (by decide) 15 (by decide) rfl jw_5ca960aa2e jw_b7ba7c03ae jw_c4fe6f1e08 jw_4ea6285965 jw_1aa7753999 jn_J0_isLatin1_aae02 rfl (jj_le rfl) (jj_le rfl) (jj_le rfl) (jj_le rfl) (jj_le rfl) dJ0_charAt_5068e_1 rfl (fun _ _ hX => hX.elim) (fun w1 r O_2 => ?_)
  obtain ⟨rfl, rfl⟩ := O_2
  refine jj_apd rfl ?_
  refine jj_if_eqF (tgt := 16) C dJ0_charAt_5068e_4 (by decide) (by decide) ?_
  refine jj_aload_n C dJ0_charAt_5068e_7 rfl ?_
  refine jj_sval (k := 15) C (by decide) jw_90a506b1c3 dJ0_charAt_5068e_8 ?_
  refine jj_iload_n C dJ0_charAt_5068e_11 rfl ?_
  refine jq_callS (rest := []) C (ct_J1_charAt_3b067_90 hl D cA ak) [] [] rfl rfl (by decide) (by decide) (by decide) jw_7e2463d496 jw_530d7ac64c jw_2a3a2ce6ce jw_6996a9eac3 jn_J1_charAt_3b067 rfl (jj_le rfl) (jj_le rfl) (jj_le rfl) (jj_le rfl) (jj_le rfl) dJ0_charAt_5068e_12 rfl (fun _ _ hX => hX.elim) (fun w1 r O_4 => ?_)
  obtain ⟨rfl, rfl⟩ := O_4
  refine jj_apd rfl ?_
  exact jj_zret C rfl ⟨rfl, rfl⟩ dJ0_charAt_5068e_15 (jj_le rfl) (jj_le rfl)

set_option maxHeartbeats 4000000 in
set_option maxRecDepth 100000 in
theorem ct_J3_checkIndex_8e157_83 {l : Launch} (hl : l.stackTraces = false) (D : va_G) (cA : Nat → ClassId) (ak : (Nat → Nat) × (Nat → Nat)) (h0 : Nat) : jj_M l D cA ak yJ3_checkIndex_8e157 (.code yJ3_checkIndex_8e157 cJ3_checkIndex_8e157 3 (some .int)) 0 0 0 0 [] [.int 5, .int 8, .ref h0] (fun (w : va_W) (r : Option Value) => (w = [] ∧ r = some (.int 5))) jj_noX := by
  refine jj_start hl (by decide) jw_da9869a695 (jj_le rfl) ?_
  intro p e s m args below meth c A hargs hA C hex hmn
  refine jj_iload_n C dJ3_checkIndex_8e157_0 rfl ?_
  refine jj_if_ltF (tgt := 9) C dJ3_checkIndex_8e157_1 (by decide) (by decide) ?_
  refine jj_iload_n C dJ3_checkIndex_8e157_4 rfl ?_
  refine jj_iload_n C dJ3_checkIndex_8e157_5 rfl ?_
  refine jj_icmp_ltT (tgt := 16) C dJ3_checkIndex_8e157_6 (by decide) (by decide) ?_
  refine jj_iload_n C dJ3_checkIndex_8e157_16 rfl ?_
  exact jj_iret C ⟨rfl, rfl⟩ dJ3_checkIndex_8e157_17 (jj_le rfl) (jj_le rfl)

set_option maxHeartbeats 4000000 in
set_option maxRecDepth 100000 in
theorem ct_J3_checkIndex_8e157_84 {l : Launch} (hl : l.stackTraces = false) (D : va_G) (cA : Nat → ClassId) (ak : (Nat → Nat) × (Nat → Nat)) : jj_M l D cA ak yJ3_checkIndex_8e157 (.code yJ3_checkIndex_8e157 cJ3_checkIndex_8e157 3 (some .int)) 0 0 0 0 [] [.int 5, .int 8, .null] (fun (w : va_W) (r : Option Value) => (w = [] ∧ r = some (.int 5))) jj_noX := by
  refine jj_start hl (by decide) jw_da9869a695 (jj_le rfl) ?_
  intro p e s m args below meth c A hargs hA C hex hmn
  refine jj_iload_n C dJ3_checkIndex_8e157_0 rfl ?_
  refine jj_if_ltF (tgt := 9) C dJ3_checkIndex_8e157_1 (by decide) (by decide) ?_
  refine jj_iload_n C dJ3_checkIndex_8e157_4 rfl ?_
  refine jj_iload_n C dJ3_checkIndex_8e157_5 rfl ?_
  refine jj_icmp_ltT (tgt := 16) C dJ3_checkIndex_8e157_6 (by decide) (by decide) ?_
  refine jj_iload_n C dJ3_checkIndex_8e157_16 rfl ?_
  exact jj_iret C ⟨rfl, rfl⟩ dJ3_checkIndex_8e157_17 (jj_le rfl) (jj_le rfl)

set_option maxHeartbeats 4000000 in
set_option maxRecDepth 100000 in
theorem ct_J0_checkIndex_df160_42 {l : Launch} (hl : l.stackTraces = false) (D : va_G) (cA : Nat → ClassId) (ak : (Nat → Nat) × (Nat → Nat)) : jj_M l D cA ak yJ0_checkIndex_df160 (.code yJ0_checkIndex_df160 cJ0_checkIndex_df160 2 none) 1 22 0 0 [] [.int 5, .int 8] (fun (w : va_W) (r : Option Value) => (w = [] ∧ r = none)) jj_noX := by
  refine jj_start hl (by decide) jw_73f64df4e3 (jj_le rfl) ?_
  intro p e s m args below meth c A hargs hA C hex hmn
  refine jj_iload_n C dJ0_checkIndex_df160_0 rfl ?_
  refine jj_iload_n C dJ0_checkIndex_df160_1 rfl ?_
  refine jj_gfm C jw_040150fc39 dJ0_checkIndex_df160_2 (fun t_1 => ?_) ?_
  · refine jq_callS (rest := []) C (ct_J3_checkIndex_8e157_83 hl D cA ak t_1) [] [] rfl rfl (by decide) (by decide) (by decide) jw_a7a8b385a1 jw_8d35bed6b0 jw_2c7dffdd00 jw_da9869a695 jn_J3_checkIndex_8e157 rfl (jj_le rfl) (jj_le rfl) (jj_le rfl) (jj_le rfl) (jj_le rfl) dJ0_checkIndex_df160_5 rfl (fun _ _ hX => hX.elim) (fun w1 r O_3 => ?_)
    obtain ⟨rfl, rfl⟩ := O_3
    refine jj_apd rfl ?_
    refine jj_pop C dJ0_checkIndex_df160_8 rfl ?_
    exact jj_vret C ⟨rfl, rfl⟩ dJ0_checkIndex_df160_9 (jj_le rfl) (jj_le rfl)
  · refine jq_callS (rest := []) C (ct_J3_checkIndex_8e157_84 hl D cA ak) [] [] rfl rfl (by decide) (by decide) (by decide) jw_a7a8b385a1 jw_8d35bed6b0 jw_2c7dffdd00 jw_da9869a695 jn_J3_checkIndex_8e157 rfl (jj_le rfl) (jj_le rfl) (jj_le rfl) (jj_le rfl) (jj_le rfl) dJ0_checkIndex_df160_5 rfl (fun _ _ hX => hX.elim) (fun w1 r O_5 => ?_)
    obtain ⟨rfl, rfl⟩ := O_5
    refine jj_apd rfl ?_
    refine jj_pop C dJ0_checkIndex_df160_8 rfl ?_
    exact jj_vret C ⟨rfl, rfl⟩ dJ0_checkIndex_df160_9 (jj_le rfl) (jj_le rfl)

set_option maxHeartbeats 4000000 in
set_option maxRecDepth 100000 in
theorem ct_J1_charAt_3b067_91 {l : Launch} (hl : l.stackTraces = false) (D : va_G) (cA : Nat → ClassId) (ak : (Nat → Nat) × (Nat → Nat)) : jj_M l D cA ak yJ1_charAt_3b067 (.code yJ1_charAt_3b067 cJ1_charAt_3b067 2 (some .char)) 2 43 0 0 [] [.ref (ak.2 15), .int 5] (fun (w : va_W) (r : Option Value) => (w = [] ∧ r = some (.int 116))) jj_noX := by
  refine jj_start hl (by decide) jw_6996a9eac3 (jj_le rfl) ?_
  intro p e s m args below meth c A hargs hA C hex hmn
  refine jj_iload_n C dJ1_charAt_3b067_0 rfl ?_
  refine jj_aload_n C dJ1_charAt_3b067_1 rfl ?_
  refine jj_slen (k := 15) (v := 8) C (by decide) (by decide) dJ1_charAt_3b067_2 ?_
  refine jq_callS (rest := []) C (ct_J0_checkIndex_df160_42 hl D cA ak) [] [] rfl rfl (by decide) (by decide) (by decide) jw_763fabfbf2 jw_9aa540e9dd jw_4ea6285965 jw_73f64df4e3 jn_J0_checkIndex_df160 rfl (jj_le rfl) (jj_le rfl) (jj_le rfl) (jj_le rfl) (jj_le rfl) dJ1_charAt_3b067_3 rfl (fun _ _ hX => hX.elim) (fun w1 r O_2 => ?_)
  obtain ⟨rfl, rfl⟩ := O_2
  refine jj_apd rfl ?_
  refine jj_aload_n C dJ1_charAt_3b067_6 rfl ?_
  refine jj_iload_n C dJ1_charAt_3b067_7 rfl ?_
  refine jj_sbyt (k := 15) (v := 116) C (by decide) (vp_in_iff.mpr (by decide)) (by decide) dJ1_charAt_3b067_8 ?_
  refine jj_sipush (v := 255) C dJ1_charAt_3b067_9 (by decide) ?_
  refine jj_iand (v := 116) C dJ1_charAt_3b067_12 (by decide) ?_
  refine jj_i2c (v := 116) C dJ1_charAt_3b067_13 (by decide) ?_
  exact jj_zret C rfl ⟨rfl, rfl⟩ dJ1_charAt_3b067_14 (jj_le rfl) (jj_le rfl)

set_option maxHeartbeats 4000000 in
set_option maxRecDepth 100000 in
theorem ct_J0_charAt_5068e_91 {l : Launch} (hl : l.stackTraces = false) (D : va_G) (cA : Nat → ClassId) (ak : (Nat → Nat) × (Nat → Nat)) : jj_M l D cA ak yJ0_charAt_5068e (.code yJ0_charAt_5068e cJ0_charAt_5068e 2 (some .char)) 3 64 0 0 [] [.ref (ak.1 15), .int 5] (fun (w : va_W) (r : Option Value) => (w = [] ∧ r = some (.int 116))) jj_noX := by
  refine jj_start hl (by decide) jw_391c0f56bd (jj_le rfl) ?_
  intro p e s m args below meth c A hargs hA C hex hmn
  refine jj_aload_n C dJ0_charAt_5068e_0 rfl ?_
  refine jq_callVs (rest := []) C (ct_J0_isLatin1_aae02_16 hl D cA ak) [] [] rfl rfl (by decide) (by decide) (by decide) 15 (by decide) rfl jw_5ca960aa2e jw_b7ba7c03ae jw_c4fe6f1e08 jw_4ea6285965 jw_1aa7753999 jn_J0_isLatin1_aae02 rfl (jj_le rfl) (jj_le rfl) (jj_le rfl) (jj_le rfl) (jj_le rfl) dJ0_charAt_5068e_1 rfl (fun _ _ hX => hX.elim) (fun w1 r O_2 => ?_)
  obtain ⟨rfl, rfl⟩ := O_2
  refine jj_apd rfl ?_
  refine jj_if_eqF (tgt := 16) C dJ0_charAt_5068e_4 (by decide) (by decide) ?_
  refine jj_aload_n C dJ0_charAt_5068e_7 rfl ?_
  refine jj_sval (k := 15) C (by decide) jw_90a506b1c3 dJ0_charAt_5068e_8 ?_
  refine jj_iload_n C dJ0_charAt_5068e_11 rfl ?_
  refine jq_callS (rest := []) C (ct_J1_charAt_3b067_91 hl D cA ak) [] [] rfl rfl (by decide) (by decide) (by decide) jw_7e2463d496 jw_530d7ac64c jw_2a3a2ce6ce jw_6996a9eac3 jn_J1_charAt_3b067 rfl (jj_le rfl) (jj_le rfl) (jj_le rfl) (jj_le rfl) (jj_le rfl) dJ0_charAt_5068e_12 rfl (fun _ _ hX => hX.elim) (fun w1 r O_4 => ?_)
  obtain ⟨rfl, rfl⟩ := O_4
  refine jj_apd rfl ?_
  exact jj_zret C rfl ⟨rfl, rfl⟩ dJ0_charAt_5068e_15 (jj_le rfl) (jj_le rfl)

set_option maxHeartbeats 4000000 in
set_option maxRecDepth 100000 in
theorem ct_J3_checkIndex_8e157_85 {l : Launch} (hl : l.stackTraces = false) (D : va_G) (cA : Nat → ClassId) (ak : (Nat → Nat) × (Nat → Nat)) (h0 : Nat) : jj_M l D cA ak yJ3_checkIndex_8e157 (.code yJ3_checkIndex_8e157 cJ3_checkIndex_8e157 3 (some .int)) 0 0 0 0 [] [.int 6, .int 8, .ref h0] (fun (w : va_W) (r : Option Value) => (w = [] ∧ r = some (.int 6))) jj_noX := by
  refine jj_start hl (by decide) jw_da9869a695 (jj_le rfl) ?_
  intro p e s m args below meth c A hargs hA C hex hmn
  refine jj_iload_n C dJ3_checkIndex_8e157_0 rfl ?_
  refine jj_if_ltF (tgt := 9) C dJ3_checkIndex_8e157_1 (by decide) (by decide) ?_
  refine jj_iload_n C dJ3_checkIndex_8e157_4 rfl ?_
  refine jj_iload_n C dJ3_checkIndex_8e157_5 rfl ?_
  refine jj_icmp_ltT (tgt := 16) C dJ3_checkIndex_8e157_6 (by decide) (by decide) ?_
  refine jj_iload_n C dJ3_checkIndex_8e157_16 rfl ?_
  exact jj_iret C ⟨rfl, rfl⟩ dJ3_checkIndex_8e157_17 (jj_le rfl) (jj_le rfl)

set_option maxHeartbeats 4000000 in
set_option maxRecDepth 100000 in
theorem ct_J3_checkIndex_8e157_86 {l : Launch} (hl : l.stackTraces = false) (D : va_G) (cA : Nat → ClassId) (ak : (Nat → Nat) × (Nat → Nat)) : jj_M l D cA ak yJ3_checkIndex_8e157 (.code yJ3_checkIndex_8e157 cJ3_checkIndex_8e157 3 (some .int)) 0 0 0 0 [] [.int 6, .int 8, .null] (fun (w : va_W) (r : Option Value) => (w = [] ∧ r = some (.int 6))) jj_noX := by
  refine jj_start hl (by decide) jw_da9869a695 (jj_le rfl) ?_
  intro p e s m args below meth c A hargs hA C hex hmn
  refine jj_iload_n C dJ3_checkIndex_8e157_0 rfl ?_
  refine jj_if_ltF (tgt := 9) C dJ3_checkIndex_8e157_1 (by decide) (by decide) ?_
  refine jj_iload_n C dJ3_checkIndex_8e157_4 rfl ?_
  refine jj_iload_n C dJ3_checkIndex_8e157_5 rfl ?_
  refine jj_icmp_ltT (tgt := 16) C dJ3_checkIndex_8e157_6 (by decide) (by decide) ?_
  refine jj_iload_n C dJ3_checkIndex_8e157_16 rfl ?_
  exact jj_iret C ⟨rfl, rfl⟩ dJ3_checkIndex_8e157_17 (jj_le rfl) (jj_le rfl)

set_option maxHeartbeats 4000000 in
set_option maxRecDepth 100000 in
theorem ct_J0_checkIndex_df160_43 {l : Launch} (hl : l.stackTraces = false) (D : va_G) (cA : Nat → ClassId) (ak : (Nat → Nat) × (Nat → Nat)) : jj_M l D cA ak yJ0_checkIndex_df160 (.code yJ0_checkIndex_df160 cJ0_checkIndex_df160 2 none) 1 22 0 0 [] [.int 6, .int 8] (fun (w : va_W) (r : Option Value) => (w = [] ∧ r = none)) jj_noX := by
  refine jj_start hl (by decide) jw_73f64df4e3 (jj_le rfl) ?_
  intro p e s m args below meth c A hargs hA C hex hmn
  refine jj_iload_n C dJ0_checkIndex_df160_0 rfl ?_
  refine jj_iload_n C dJ0_checkIndex_df160_1 rfl ?_
  refine jj_gfm C jw_040150fc39 dJ0_checkIndex_df160_2 (fun t_1 => ?_) ?_
  · refine jq_callS (rest := []) C (ct_J3_checkIndex_8e157_85 hl D cA ak t_1) [] [] rfl rfl (by decide) (by decide) (by decide) jw_a7a8b385a1 jw_8d35bed6b0 jw_2c7dffdd00 jw_da9869a695 jn_J3_checkIndex_8e157 rfl (jj_le rfl) (jj_le rfl) (jj_le rfl) (jj_le rfl) (jj_le rfl) dJ0_checkIndex_df160_5 rfl (fun _ _ hX => hX.elim) (fun w1 r O_3 => ?_)
    obtain ⟨rfl, rfl⟩ := O_3
    refine jj_apd rfl ?_
    refine jj_pop C dJ0_checkIndex_df160_8 rfl ?_
    exact jj_vret C ⟨rfl, rfl⟩ dJ0_checkIndex_df160_9 (jj_le rfl) (jj_le rfl)
  · refine jq_callS (rest := []) C (ct_J3_checkIndex_8e157_86 hl D cA ak) [] [] rfl rfl (by decide) (by decide) (by decide) jw_a7a8b385a1 jw_8d35bed6b0 jw_2c7dffdd00 jw_da9869a695 jn_J3_checkIndex_8e157 rfl (jj_le rfl) (jj_le rfl) (jj_le rfl) (jj_le rfl) (jj_le rfl) dJ0_checkIndex_df160_5 rfl (fun _ _ hX => hX.elim) (fun w1 r O_5 => ?_)
    obtain ⟨rfl, rfl⟩ := O_5
    refine jj_apd rfl ?_
    refine jj_pop C dJ0_checkIndex_df160_8 rfl ?_
    exact jj_vret C ⟨rfl, rfl⟩ dJ0_checkIndex_df160_9 (jj_le rfl) (jj_le rfl)

set_option maxHeartbeats 4000000 in
set_option maxRecDepth 100000 in
theorem ct_J1_charAt_3b067_92 {l : Launch} (hl : l.stackTraces = false) (D : va_G) (cA : Nat → ClassId) (ak : (Nat → Nat) × (Nat → Nat)) : jj_M l D cA ak yJ1_charAt_3b067 (.code yJ1_charAt_3b067 cJ1_charAt_3b067 2 (some .char)) 2 43 0 0 [] [.ref (ak.2 15), .int 6] (fun (w : va_W) (r : Option Value) => (w = [] ∧ r = some (.int 115))) jj_noX := by
  refine jj_start hl (by decide) jw_6996a9eac3 (jj_le rfl) ?_
  intro p e s m args below meth c A hargs hA C hex hmn
  refine jj_iload_n C dJ1_charAt_3b067_0 rfl ?_
  refine jj_aload_n C dJ1_charAt_3b067_1 rfl ?_
  refine jj_slen (k := 15) (v := 8) C (by decide) (by decide) dJ1_charAt_3b067_2 ?_
  refine jq_callS (rest := []) C (ct_J0_checkIndex_df160_43 hl D cA ak) [] [] rfl rfl (by decide) (by decide) (by decide) jw_763fabfbf2 jw_9aa540e9dd jw_4ea6285965 jw_73f64df4e3 jn_J0_checkIndex_df160 rfl (jj_le rfl) (jj_le rfl) (jj_le rfl) (jj_le rfl) (jj_le rfl) dJ1_charAt_3b067_3 rfl (fun _ _ hX => hX.elim) (fun w1 r O_2 => ?_)
  obtain ⟨rfl, rfl⟩ := O_2
  refine jj_apd rfl ?_
  refine jj_aload_n C dJ1_charAt_3b067_6 rfl ?_
  refine jj_iload_n C dJ1_charAt_3b067_7 rfl ?_
  refine jj_sbyt (k := 15) (v := 115) C (by decide) (vp_in_iff.mpr (by decide)) (by decide) dJ1_charAt_3b067_8 ?_
  refine jj_sipush (v := 255) C dJ1_charAt_3b067_9 (by decide) ?_
  refine jj_iand (v := 115) C dJ1_charAt_3b067_12 (by decide) ?_
  refine jj_i2c (v := 115) C dJ1_charAt_3b067_13 (by decide) ?_
  exact jj_zret C rfl ⟨rfl, rfl⟩ dJ1_charAt_3b067_14 (jj_le rfl) (jj_le rfl)

set_option maxHeartbeats 4000000 in
set_option maxRecDepth 100000 in
theorem ct_J0_charAt_5068e_92 {l : Launch} (hl : l.stackTraces = false) (D : va_G) (cA : Nat → ClassId) (ak : (Nat → Nat) × (Nat → Nat)) : jj_M l D cA ak yJ0_charAt_5068e (.code yJ0_charAt_5068e cJ0_charAt_5068e 2 (some .char)) 3 64 0 0 [] [.ref (ak.1 15), .int 6] (fun (w : va_W) (r : Option Value) => (w = [] ∧ r = some (.int 115))) jj_noX := by
  refine jj_start hl (by decide) jw_391c0f56bd (jj_le rfl) ?_
  intro p e s m args below meth c A hargs hA C hex hmn
  refine jj_aload_n C dJ0_charAt_5068e_0 rfl ?_
  refine jq_callVs (rest := []) C (ct_J0_isLatin1_aae02_16 hl D cA ak) [] [] rfl rfl (by decide) (by decide) (by decide) 15 (by decide) rfl jw_5ca960aa2e jw_b7ba7c03ae jw_c4fe6f1e08 jw_4ea6285965 jw_1aa7753999 jn_J0_isLatin1_aae02 rfl (jj_le rfl) (jj_le rfl) (jj_le rfl) (jj_le rfl) (jj_le rfl) dJ0_charAt_5068e_1 rfl (fun _ _ hX => hX.elim) (fun w1 r O_2 => ?_)
  obtain ⟨rfl, rfl⟩ := O_2
  refine jj_apd rfl ?_
  refine jj_if_eqF (tgt := 16) C dJ0_charAt_5068e_4 (by decide) (by decide) ?_
  refine jj_aload_n C dJ0_charAt_5068e_7 rfl ?_
  refine jj_sval (k := 15) C (by decide) jw_90a506b1c3 dJ0_charAt_5068e_8 ?_
  refine jj_iload_n C dJ0_charAt_5068e_11 rfl ?_
  refine jq_callS (rest := []) C (ct_J1_charAt_3b067_92 hl D cA ak) [] [] rfl rfl (by decide) (by decide) (by decide) jw_7e2463d496 jw_530d7ac64c jw_2a3a2ce6ce jw_6996a9eac3 jn_J1_charAt_3b067 rfl (jj_le rfl) (jj_le rfl) (jj_le rfl) (jj_le rfl) (jj_le rfl) dJ0_charAt_5068e_12 rfl (fun _ _ hX => hX.elim) (fun w1 r O_4 => ?_)
  obtain ⟨rfl, rfl⟩ := O_4
  refine jj_apd rfl ?_
  exact jj_zret C rfl ⟨rfl, rfl⟩ dJ0_charAt_5068e_15 (jj_le rfl) (jj_le rfl)

set_option maxHeartbeats 4000000 in
set_option maxRecDepth 100000 in
theorem ct_J3_checkIndex_8e157_87 {l : Launch} (hl : l.stackTraces = false) (D : va_G) (cA : Nat → ClassId) (ak : (Nat → Nat) × (Nat → Nat)) (h0 : Nat) : jj_M l D cA ak yJ3_checkIndex_8e157 (.code yJ3_checkIndex_8e157 cJ3_checkIndex_8e157 3 (some .int)) 0 0 0 0 [] [.int 7, .int 8, .ref h0] (fun (w : va_W) (r : Option Value) => (w = [] ∧ r = some (.int 7))) jj_noX := by
  refine jj_start hl (by decide) jw_da9869a695 (jj_le rfl) ?_
  intro p e s m args below meth c A hargs hA C hex hmn
  refine jj_iload_n C dJ3_checkIndex_8e157_0 rfl ?_
  refine jj_if_ltF (tgt := 9) C dJ3_checkIndex_8e157_1 (by decide) (by decide) ?_
  refine jj_iload_n C dJ3_checkIndex_8e157_4 rfl ?_
  refine jj_iload_n C dJ3_checkIndex_8e157_5 rfl ?_
  refine jj_icmp_ltT (tgt := 16) C dJ3_checkIndex_8e157_6 (by decide) (by decide) ?_
  refine jj_iload_n C dJ3_checkIndex_8e157_16 rfl ?_
  exact jj_iret C ⟨rfl, rfl⟩ dJ3_checkIndex_8e157_17 (jj_le rfl) (jj_le rfl)

set_option maxHeartbeats 4000000 in
set_option maxRecDepth 100000 in
theorem ct_J3_checkIndex_8e157_88 {l : Launch} (hl : l.stackTraces = false) (D : va_G) (cA : Nat → ClassId) (ak : (Nat → Nat) × (Nat → Nat)) : jj_M l D cA ak yJ3_checkIndex_8e157 (.code yJ3_checkIndex_8e157 cJ3_checkIndex_8e157 3 (some .int)) 0 0 0 0 [] [.int 7, .int 8, .null] (fun (w : va_W) (r : Option Value) => (w = [] ∧ r = some (.int 7))) jj_noX := by
  refine jj_start hl (by decide) jw_da9869a695 (jj_le rfl) ?_
  intro p e s m args below meth c A hargs hA C hex hmn
  refine jj_iload_n C dJ3_checkIndex_8e157_0 rfl ?_
  refine jj_if_ltF (tgt := 9) C dJ3_checkIndex_8e157_1 (by decide) (by decide) ?_
  refine jj_iload_n C dJ3_checkIndex_8e157_4 rfl ?_
  refine jj_iload_n C dJ3_checkIndex_8e157_5 rfl ?_
  refine jj_icmp_ltT (tgt := 16) C dJ3_checkIndex_8e157_6 (by decide) (by decide) ?_
  refine jj_iload_n C dJ3_checkIndex_8e157_16 rfl ?_
  exact jj_iret C ⟨rfl, rfl⟩ dJ3_checkIndex_8e157_17 (jj_le rfl) (jj_le rfl)

set_option maxHeartbeats 4000000 in
set_option maxRecDepth 100000 in
theorem ct_J0_checkIndex_df160_44 {l : Launch} (hl : l.stackTraces = false) (D : va_G) (cA : Nat → ClassId) (ak : (Nat → Nat) × (Nat → Nat)) : jj_M l D cA ak yJ0_checkIndex_df160 (.code yJ0_checkIndex_df160 cJ0_checkIndex_df160 2 none) 1 22 0 0 [] [.int 7, .int 8] (fun (w : va_W) (r : Option Value) => (w = [] ∧ r = none)) jj_noX := by
  refine jj_start hl (by decide) jw_73f64df4e3 (jj_le rfl) ?_
  intro p e s m args below meth c A hargs hA C hex hmn
  refine jj_iload_n C dJ0_checkIndex_df160_0 rfl ?_
  refine jj_iload_n C dJ0_checkIndex_df160_1 rfl ?_
  refine jj_gfm C jw_040150fc39 dJ0_checkIndex_df160_2 (fun t_1 => ?_) ?_
  · refine jq_callS (rest := []) C (ct_J3_checkIndex_8e157_87 hl D cA ak t_1) [] [] rfl rfl (by decide) (by decide) (by decide) jw_a7a8b385a1 jw_8d35bed6b0 jw_2c7dffdd00 jw_da9869a695 jn_J3_checkIndex_8e157 rfl (jj_le rfl) (jj_le rfl) (jj_le rfl) (jj_le rfl) (jj_le rfl) dJ0_checkIndex_df160_5 rfl (fun _ _ hX => hX.elim) (fun w1 r O_3 => ?_)
    obtain ⟨rfl, rfl⟩ := O_3
    refine jj_apd rfl ?_
    refine jj_pop C dJ0_checkIndex_df160_8 rfl ?_
    exact jj_vret C ⟨rfl, rfl⟩ dJ0_checkIndex_df160_9 (jj_le rfl) (jj_le rfl)
  · refine jq_callS (rest := []) C (ct_J3_checkIndex_8e157_88 hl D cA ak) [] [] rfl rfl (by decide) (by decide) (by decide) jw_a7a8b385a1 jw_8d35bed6b0 jw_2c7dffdd00 jw_da9869a695 jn_J3_checkIndex_8e157 rfl (jj_le rfl) (jj_le rfl) (jj_le rfl) (jj_le rfl) (jj_le rfl) dJ0_checkIndex_df160_5 rfl (fun _ _ hX => hX.elim) (fun w1 r O_5 => ?_)
    obtain ⟨rfl, rfl⟩ := O_5
    refine jj_apd rfl ?_
    refine jj_pop C dJ0_checkIndex_df160_8 rfl ?_
    exact jj_vret C ⟨rfl, rfl⟩ dJ0_checkIndex_df160_9 (jj_le rfl) (jj_le rfl)

set_option maxHeartbeats 4000000 in
set_option maxRecDepth 100000 in
theorem ct_J1_charAt_3b067_93 {l : Launch} (hl : l.stackTraces = false) (D : va_G) (cA : Nat → ClassId) (ak : (Nat → Nat) × (Nat → Nat)) : jj_M l D cA ak yJ1_charAt_3b067 (.code yJ1_charAt_3b067 cJ1_charAt_3b067 2 (some .char)) 2 43 0 0 [] [.ref (ak.2 15), .int 7] (fun (w : va_W) (r : Option Value) => (w = [] ∧ r = some (.int 32))) jj_noX := by
  refine jj_start hl (by decide) jw_6996a9eac3 (jj_le rfl) ?_
  intro p e s m args below meth c A hargs hA C hex hmn
  refine jj_iload_n C dJ1_charAt_3b067_0 rfl ?_
  refine jj_aload_n C dJ1_charAt_3b067_1 rfl ?_
  refine jj_slen (k := 15) (v := 8) C (by decide) (by decide) dJ1_charAt_3b067_2 ?_
  refine jq_callS (rest := []) C (ct_J0_checkIndex_df160_44 hl D cA ak) [] [] rfl rfl (by decide) (by decide) (by decide) jw_763fabfbf2 jw_9aa540e9dd jw_4ea6285965 jw_73f64df4e3 jn_J0_checkIndex_df160 rfl (jj_le rfl) (jj_le rfl) (jj_le rfl) (jj_le rfl) (jj_le rfl) dJ1_charAt_3b067_3 rfl (fun _ _ hX => hX.elim) (fun w1 r O_2 => ?_)
  obtain ⟨rfl, rfl⟩ := O_2
  refine jj_apd rfl ?_
  refine jj_aload_n C dJ1_charAt_3b067_6 rfl ?_
  refine jj_iload_n C dJ1_charAt_3b067_7 rfl ?_
  refine jj_sbyt (k := 15) (v := 32) C (by decide) (vp_in_iff.mpr (by decide)) (by decide) dJ1_charAt_3b067_8 ?_
  refine jj_sipush (v := 255) C dJ1_charAt_3b067_9 (by decide) ?_
  refine jj_iand (v := 32) C dJ1_charAt_3b067_12 (by decide) ?_
  refine jj_i2c (v := 32) C dJ1_charAt_3b067_13 (by decide) ?_
  exact jj_zret C rfl ⟨rfl, rfl⟩ dJ1_charAt_3b067_14 (jj_le rfl) (jj_le rfl)

set_option maxHeartbeats 4000000 in
set_option maxRecDepth 100000 in
theorem ct_J0_charAt_5068e_93 {l : Launch} (hl : l.stackTraces = false) (D : va_G) (cA : Nat → ClassId) (ak : (Nat → Nat) × (Nat → Nat)) : jj_M l D cA ak yJ0_charAt_5068e (.code yJ0_charAt_5068e cJ0_charAt_5068e 2 (some .char)) 3 64 0 0 [] [.ref (ak.1 15), .int 7] (fun (w : va_W) (r : Option Value) => (w = [] ∧ r = some (.int 32))) jj_noX := by
  refine jj_start hl (by decide) jw_391c0f56bd (jj_le rfl) ?_
  intro p e s m args below meth c A hargs hA C hex hmn
  refine jj_aload_n C dJ0_charAt_5068e_0 rfl ?_
  refine jq_callVs (rest := []) C (ct_J0_isLatin1_aae02_16 hl D cA ak) [] [] rfl rfl (by decide) (by decide) (by decide) 15 (by decide) rfl jw_5ca960aa2e jw_b7ba7c03ae jw_c4fe6f1e08 jw_4ea6285965 jw_1aa7753999 jn_J0_isLatin1_aae02 rfl (jj_le rfl) (jj_le rfl) (jj_le rfl) (jj_le rfl) (jj_le rfl) dJ0_charAt_5068e_1 rfl (fun _ _ hX => hX.elim) (fun w1 r O_2 => ?_)
  obtain ⟨rfl, rfl⟩ := O_2
  refine jj_apd rfl ?_
  refine jj_if_eqF (tgt := 16) C dJ0_charAt_5068e_4 (by decide) (by decide) ?_
  refine jj_aload_n C dJ0_charAt_5068e_7 rfl ?_
  refine jj_sval (k := 15) C (by decide) jw_90a506b1c3 dJ0_charAt_5068e_8 ?_
  refine jj_iload_n C dJ0_charAt_5068e_11 rfl ?_
  refine jq_callS (rest := []) C (ct_J1_charAt_3b067_93 hl D cA ak) [] [] rfl rfl (by decide) (by decide) (by decide) jw_7e2463d496 jw_530d7ac64c jw_2a3a2ce6ce jw_6996a9eac3 jn_J1_charAt_3b067 rfl (jj_le rfl) (jj_le rfl) (jj_le rfl) (jj_le rfl) (jj_le rfl) dJ0_charAt_5068e_12 rfl (fun _ _ hX => hX.elim) (fun w1 r O_4 => ?_)
  obtain ⟨rfl, rfl⟩ := O_4
  refine jj_apd rfl ?_
  exact jj_zret C rfl ⟨rfl, rfl⟩ dJ0_charAt_5068e_15 (jj_le rfl) (jj_le rfl)

set_option maxHeartbeats 4000000 in
set_option maxRecDepth 100000 in
theorem ct_J0_coder_7d493_17 {l : Launch} (hl : l.stackTraces = false) (D : va_G) (cA : Nat → ClassId) (ak : (Nat → Nat) × (Nat → Nat)) : jj_M l D cA ak yJ0_coder_7d493 (.code yJ0_coder_7d493 cJ0_coder_7d493 1 (some .byte)) 0 0 0 0 [] [.ref (ak.1 16)] (fun (w : va_W) (r : Option Value) => (w = [] ∧ r = some (.int 0))) jj_noX := by
  refine jj_start hl (by decide) jw_084b973d83 (jj_le rfl) ?_
  intro p e s m args below meth c A hargs hA C hex hmn
  refine jj_gcs C jw_478bb18c33 dJ0_coder_7d493_0 ?_
  refine jj_if_eqF (tgt := 13) C dJ0_coder_7d493_3 (by decide) (by decide) ?_
  refine jj_aload_n C dJ0_coder_7d493_6 rfl ?_
  refine jj_scod (k := 16) C (by decide) jw_7816d6e515 dJ0_coder_7d493_7 ?_
  refine jj_goto (tgt := 14) C dJ0_coder_7d493_10 (by decide) ?_
  exact jj_zret C rfl ⟨rfl, rfl⟩ dJ0_coder_7d493_14 (jj_le rfl) (jj_le rfl)

set_option maxHeartbeats 4000000 in
set_option maxRecDepth 100000 in
theorem ct_J0_length_8abf5_17 {l : Launch} (hl : l.stackTraces = false) (D : va_G) (cA : Nat → ClassId) (ak : (Nat → Nat) × (Nat → Nat)) : jj_M l D cA ak yJ0_length_8abf5 (.code yJ0_length_8abf5 cJ0_length_8abf5 1 (some .int)) 1 20 0 0 [] [.ref (ak.1 16)] (fun (w : va_W) (r : Option Value) => (w = [] ∧ r = some (.int 1))) jj_noX := by
  refine jj_start hl (by decide) jw_bbc7045666 (jj_le rfl) ?_
  intro p e s m args below meth c A hargs hA C hex hmn
  refine jj_aload_n C dJ0_length_8abf5_0 rfl ?_
  refine jj_sval (k := 16) C (by decide) jw_90a506b1c3 dJ0_length_8abf5_1 ?_
  refine jj_slen (k := 16) (v := 1) C (by decide) (by decide) dJ0_length_8abf5_4 ?_
  refine jj_aload_n C dJ0_length_8abf5_5 rfl ?_
  refine jq_callVs (rest := [.int 1]) C (ct_J0_coder_7d493_17 hl D cA ak) [] [] rfl rfl (by decide) (by decide) (by decide) 16 (by decide) rfl jw_f46b3464d2 jw_35edddbded jw_31f76f5b78 jw_4ea6285965 jw_084b973d83 jn_J0_coder_7d493 rfl (jj_le rfl) (jj_le rfl) (jj_le rfl) (jj_le rfl) (jj_le rfl) dJ0_length_8abf5_6 rfl (fun _ _ hX => hX.elim) (fun w1 r O_2 => ?_)
  obtain ⟨rfl, rfl⟩ := O_2
  refine jj_apd rfl ?_
  refine jj_ishr (v := 1) C dJ0_length_8abf5_9 (by decide) ?_
  exact jj_iret C ⟨rfl, rfl⟩ dJ0_length_8abf5_10 (jj_le rfl) (jj_le rfl)

set_option maxHeartbeats 4000000 in
set_option maxRecDepth 100000 in
theorem ct_J0_isLatin1_aae02_17 {l : Launch} (hl : l.stackTraces = false) (D : va_G) (cA : Nat → ClassId) (ak : (Nat → Nat) × (Nat → Nat)) : jj_M l D cA ak yJ0_isLatin1_aae02 (.code yJ0_isLatin1_aae02 cJ0_isLatin1_aae02 1 (some .boolean)) 0 0 0 0 [] [.ref (ak.1 16)] (fun (w : va_W) (r : Option Value) => (w = [] ∧ r = some (.int 1))) jj_noX := by
  refine jj_start hl (by decide) jw_1aa7753999 (jj_le rfl) ?_
  intro p e s m args below meth c A hargs hA C hex hmn
  refine jj_gcs C jw_478bb18c33 dJ0_isLatin1_aae02_0 ?_
  refine jj_if_eqF (tgt := 17) C dJ0_isLatin1_aae02_3 (by decide) (by decide) ?_
  refine jj_aload_n C dJ0_isLatin1_aae02_6 rfl ?_
  refine jj_scod (k := 16) C (by decide) jw_7816d6e515 dJ0_isLatin1_aae02_7 ?_
  refine jj_if_neF (tgt := 17) C dJ0_isLatin1_aae02_10 (by decide) (by decide) ?_
  refine jj_iconst (v := 1) C dJ0_isLatin1_aae02_13 (by decide) ?_
  refine jj_goto (tgt := 18) C dJ0_isLatin1_aae02_14 (by decide) ?_
  exact jj_zret C rfl ⟨rfl, rfl⟩ dJ0_isLatin1_aae02_18 (jj_le rfl) (jj_le rfl)

set_option maxHeartbeats 4000000 in
set_option maxRecDepth 100000 in
theorem ct_J1_charAt_3b067_94 {l : Launch} (hl : l.stackTraces = false) (D : va_G) (cA : Nat → ClassId) (ak : (Nat → Nat) × (Nat → Nat)) : jj_M l D cA ak yJ1_charAt_3b067 (.code yJ1_charAt_3b067 cJ1_charAt_3b067 2 (some .char)) 2 43 0 0 [] [.ref (ak.2 16), .int 0] (fun (w : va_W) (r : Option Value) => (w = [] ∧ r = some (.int 10))) jj_noX := by
  refine jj_start hl (by decide) jw_6996a9eac3 (jj_le rfl) ?_
  intro p e s m args below meth c A hargs hA C hex hmn
  refine jj_iload_n C dJ1_charAt_3b067_0 rfl ?_
  refine jj_aload_n C dJ1_charAt_3b067_1 rfl ?_
  refine jj_slen (k := 16) (v := 1) C (by decide) (by decide) dJ1_charAt_3b067_2 ?_
  refine jq_callS (rest := []) C (ct_J0_checkIndex_df160_36 hl D cA ak) [] [] rfl rfl (by decide) (by decide) (by decide) jw_763fabfbf2 jw_9aa540e9dd jw_4ea6285965 jw_73f64df4e3 jn_J0_checkIndex_df160 rfl (jj_le rfl) (jj_le rfl) (jj_le rfl) (jj_le rfl) (jj_le rfl) dJ1_charAt_3b067_3 rfl (fun _ _ hX => hX.elim) (fun w1 r O_2 => ?_)
  obtain ⟨rfl, rfl⟩ := O_2
  refine jj_apd rfl ?_
  refine jj_aload_n C dJ1_charAt_3b067_6 rfl ?_
  refine jj_iload_n C dJ1_charAt_3b067_7 rfl ?_
  refine jj_sbyt (k := 16) (v := 10) C (by decide) (vp_in_iff.mpr (by decide)) (by decide) dJ1_charAt_3b067_8 ?_
  refine jj_sipush (v := 255) C dJ1_charAt_3b067_9 (by decide) ?_
  refine jj_iand (v := 10) C dJ1_charAt_3b067_12 (by decide) ?_
  refine jj_i2c (v := 10) C dJ1_charAt_3b067_13 (by decide) ?_
  exact jj_zret C rfl ⟨rfl, rfl⟩ dJ1_charAt_3b067_14 (jj_le rfl) (jj_le rfl)

set_option maxHeartbeats 4000000 in
set_option maxRecDepth 100000 in
theorem ct_J0_charAt_5068e_94 {l : Launch} (hl : l.stackTraces = false) (D : va_G) (cA : Nat → ClassId) (ak : (Nat → Nat) × (Nat → Nat)) : jj_M l D cA ak yJ0_charAt_5068e (.code yJ0_charAt_5068e cJ0_charAt_5068e 2 (some .char)) 3 64 0 0 [] [.ref (ak.1 16), .int 0] (fun (w : va_W) (r : Option Value) => (w = [] ∧ r = some (.int 10))) jj_noX := by
  refine jj_start hl (by decide) jw_391c0f56bd (jj_le rfl) ?_
  intro p e s m args below meth c A hargs hA C hex hmn
  refine jj_aload_n C dJ0_charAt_5068e_0 rfl ?_
  refine jq_callVs (rest := []) C (ct_J0_isLatin1_aae02_17 hl D cA ak) [] [] rfl rfl (by decide) (by decide) (by decide) 16 (by decide) rfl jw_5ca960aa2e jw_b7ba7c03ae jw_c4fe6f1e08 jw_4ea6285965 jw_1aa7753999 jn_J0_isLatin1_aae02 rfl (jj_le rfl) (jj_le rfl) (jj_le rfl) (jj_le rfl) (jj_le rfl) dJ0_charAt_5068e_1 rfl (fun _ _ hX => hX.elim) (fun w1 r O_2 => ?_)
  obtain ⟨rfl, rfl⟩ := O_2
  refine jj_apd rfl ?_
  refine jj_if_eqF (tgt := 16) C dJ0_charAt_5068e_4 (by decide) (by decide) ?_
  refine jj_aload_n C dJ0_charAt_5068e_7 rfl ?_
  refine jj_sval (k := 16) C (by decide) jw_90a506b1c3 dJ0_charAt_5068e_8 ?_
  refine jj_iload_n C dJ0_charAt_5068e_11 rfl ?_
  refine jq_callS (rest := []) C (ct_J1_charAt_3b067_94 hl D cA ak) [] [] rfl rfl (by decide) (by decide) (by decide) jw_7e2463d496 jw_530d7ac64c jw_2a3a2ce6ce jw_6996a9eac3 jn_J1_charAt_3b067 rfl (jj_le rfl) (jj_le rfl) (jj_le rfl) (jj_le rfl) (jj_le rfl) dJ0_charAt_5068e_12 rfl (fun _ _ hX => hX.elim) (fun w1 r O_4 => ?_)
  obtain ⟨rfl, rfl⟩ := O_4
  refine jj_apd rfl ?_
  exact jj_zret C rfl ⟨rfl, rfl⟩ dJ0_charAt_5068e_15 (jj_le rfl) (jj_le rfl)

set_option maxHeartbeats 4000000 in
set_option maxRecDepth 100000 in
theorem ct_J0_coder_7d493_18 {l : Launch} (hl : l.stackTraces = false) (D : va_G) (cA : Nat → ClassId) (ak : (Nat → Nat) × (Nat → Nat)) : jj_M l D cA ak yJ0_coder_7d493 (.code yJ0_coder_7d493 cJ0_coder_7d493 1 (some .byte)) 0 0 0 0 [] [.ref (ak.1 17)] (fun (w : va_W) (r : Option Value) => (w = [] ∧ r = some (.int 0))) jj_noX := by
  refine jj_start hl (by decide) jw_084b973d83 (jj_le rfl) ?_
  intro p e s m args below meth c A hargs hA C hex hmn
  refine jj_gcs C jw_478bb18c33 dJ0_coder_7d493_0 ?_
  refine jj_if_eqF (tgt := 13) C dJ0_coder_7d493_3 (by decide) (by decide) ?_
  refine jj_aload_n C dJ0_coder_7d493_6 rfl ?_
  refine jj_scod (k := 17) C (by decide) jw_7816d6e515 dJ0_coder_7d493_7 ?_
  refine jj_goto (tgt := 14) C dJ0_coder_7d493_10 (by decide) ?_
  exact jj_zret C rfl ⟨rfl, rfl⟩ dJ0_coder_7d493_14 (jj_le rfl) (jj_le rfl)

set_option maxHeartbeats 4000000 in
set_option maxRecDepth 100000 in
theorem ct_J0_length_8abf5_18 {l : Launch} (hl : l.stackTraces = false) (D : va_G) (cA : Nat → ClassId) (ak : (Nat → Nat) × (Nat → Nat)) : jj_M l D cA ak yJ0_length_8abf5 (.code yJ0_length_8abf5 cJ0_length_8abf5 1 (some .int)) 1 20 0 0 [] [.ref (ak.1 17)] (fun (w : va_W) (r : Option Value) => (w = [] ∧ r = some (.int 7))) jj_noX := by
  refine jj_start hl (by decide) jw_bbc7045666 (jj_le rfl) ?_
  intro p e s m args below meth c A hargs hA C hex hmn
  refine jj_aload_n C dJ0_length_8abf5_0 rfl ?_
  refine jj_sval (k := 17) C (by decide) jw_90a506b1c3 dJ0_length_8abf5_1 ?_
  refine jj_slen (k := 17) (v := 7) C (by decide) (by decide) dJ0_length_8abf5_4 ?_
  refine jj_aload_n C dJ0_length_8abf5_5 rfl ?_
  refine jq_callVs (rest := [.int 7]) C (ct_J0_coder_7d493_18 hl D cA ak) [] [] rfl rfl (by decide) (by decide) (by decide) 17 (by decide) rfl jw_f46b3464d2 jw_35edddbded jw_31f76f5b78 jw_4ea6285965 jw_084b973d83 jn_J0_coder_7d493 rfl (jj_le rfl) (jj_le rfl) (jj_le rfl) (jj_le rfl) (jj_le rfl) dJ0_length_8abf5_6 rfl (fun _ _ hX => hX.elim) (fun w1 r O_2 => ?_)
  obtain ⟨rfl, rfl⟩ := O_2
  refine jj_apd rfl ?_
  refine jj_ishr (v := 7) C dJ0_length_8abf5_9 (by decide) ?_
  exact jj_iret C ⟨rfl, rfl⟩ dJ0_length_8abf5_10 (jj_le rfl) (jj_le rfl)

set_option maxHeartbeats 4000000 in
set_option maxRecDepth 100000 in
theorem ct_J0_isLatin1_aae02_18 {l : Launch} (hl : l.stackTraces = false) (D : va_G) (cA : Nat → ClassId) (ak : (Nat → Nat) × (Nat → Nat)) : jj_M l D cA ak yJ0_isLatin1_aae02 (.code yJ0_isLatin1_aae02 cJ0_isLatin1_aae02 1 (some .boolean)) 0 0 0 0 [] [.ref (ak.1 17)] (fun (w : va_W) (r : Option Value) => (w = [] ∧ r = some (.int 1))) jj_noX := by
  refine jj_start hl (by decide) jw_1aa7753999 (jj_le rfl) ?_
  intro p e s m args below meth c A hargs hA C hex hmn
  refine jj_gcs C jw_478bb18c33 dJ0_isLatin1_aae02_0 ?_
  refine jj_if_eqF (tgt := 17) C dJ0_isLatin1_aae02_3 (by decide) (by decide) ?_
  refine jj_aload_n C dJ0_isLatin1_aae02_6 rfl ?_
  refine jj_scod (k := 17) C (by decide) jw_7816d6e515 dJ0_isLatin1_aae02_7 ?_
  refine jj_if_neF (tgt := 17) C dJ0_isLatin1_aae02_10 (by decide) (by decide) ?_
  refine jj_iconst (v := 1) C dJ0_isLatin1_aae02_13 (by decide) ?_
  refine jj_goto (tgt := 18) C dJ0_isLatin1_aae02_14 (by decide) ?_
  exact jj_zret C rfl ⟨rfl, rfl⟩ dJ0_isLatin1_aae02_18 (jj_le rfl) (jj_le rfl)

set_option maxHeartbeats 4000000 in
set_option maxRecDepth 100000 in
theorem ct_J3_checkIndex_8e157_89 {l : Launch} (hl : l.stackTraces = false) (D : va_G) (cA : Nat → ClassId) (ak : (Nat → Nat) × (Nat → Nat)) (h0 : Nat) : jj_M l D cA ak yJ3_checkIndex_8e157 (.code yJ3_checkIndex_8e157 cJ3_checkIndex_8e157 3 (some .int)) 0 0 0 0 [] [.int 0, .int 7, .ref h0] (fun (w : va_W) (r : Option Value) => (w = [] ∧ r = some (.int 0))) jj_noX := by
  refine jj_start hl (by decide) jw_da9869a695 (jj_le rfl) ?_
  intro p e s m args below meth c A hargs hA C hex hmn
  refine jj_iload_n C dJ3_checkIndex_8e157_0 rfl ?_
  refine jj_if_ltF (tgt := 9) C dJ3_checkIndex_8e157_1 (by decide) (by decide) ?_
  refine jj_iload_n C dJ3_checkIndex_8e157_4 rfl ?_
  refine jj_iload_n C dJ3_checkIndex_8e157_5 rfl ?_
  refine jj_icmp_ltT (tgt := 16) C dJ3_checkIndex_8e157_6 (by decide) (by decide) ?_
  refine jj_iload_n C dJ3_checkIndex_8e157_16 rfl ?_
  exact jj_iret C ⟨rfl, rfl⟩ dJ3_checkIndex_8e157_17 (jj_le rfl) (jj_le rfl)

set_option maxHeartbeats 4000000 in
set_option maxRecDepth 100000 in
theorem ct_J3_checkIndex_8e157_90 {l : Launch} (hl : l.stackTraces = false) (D : va_G) (cA : Nat → ClassId) (ak : (Nat → Nat) × (Nat → Nat)) : jj_M l D cA ak yJ3_checkIndex_8e157 (.code yJ3_checkIndex_8e157 cJ3_checkIndex_8e157 3 (some .int)) 0 0 0 0 [] [.int 0, .int 7, .null] (fun (w : va_W) (r : Option Value) => (w = [] ∧ r = some (.int 0))) jj_noX := by
  refine jj_start hl (by decide) jw_da9869a695 (jj_le rfl) ?_
  intro p e s m args below meth c A hargs hA C hex hmn
  refine jj_iload_n C dJ3_checkIndex_8e157_0 rfl ?_
  refine jj_if_ltF (tgt := 9) C dJ3_checkIndex_8e157_1 (by decide) (by decide) ?_
  refine jj_iload_n C dJ3_checkIndex_8e157_4 rfl ?_
  refine jj_iload_n C dJ3_checkIndex_8e157_5 rfl ?_
  refine jj_icmp_ltT (tgt := 16) C dJ3_checkIndex_8e157_6 (by decide) (by decide) ?_
  refine jj_iload_n C dJ3_checkIndex_8e157_16 rfl ?_
  exact jj_iret C ⟨rfl, rfl⟩ dJ3_checkIndex_8e157_17 (jj_le rfl) (jj_le rfl)

set_option maxHeartbeats 4000000 in
set_option maxRecDepth 100000 in
theorem ct_J0_checkIndex_df160_45 {l : Launch} (hl : l.stackTraces = false) (D : va_G) (cA : Nat → ClassId) (ak : (Nat → Nat) × (Nat → Nat)) : jj_M l D cA ak yJ0_checkIndex_df160 (.code yJ0_checkIndex_df160 cJ0_checkIndex_df160 2 none) 1 22 0 0 [] [.int 0, .int 7] (fun (w : va_W) (r : Option Value) => (w = [] ∧ r = none)) jj_noX := by
  refine jj_start hl (by decide) jw_73f64df4e3 (jj_le rfl) ?_
  intro p e s m args below meth c A hargs hA C hex hmn
  refine jj_iload_n C dJ0_checkIndex_df160_0 rfl ?_
  refine jj_iload_n C dJ0_checkIndex_df160_1 rfl ?_
  refine jj_gfm C jw_040150fc39 dJ0_checkIndex_df160_2 (fun t_1 => ?_) ?_
  · refine jq_callS (rest := []) C (ct_J3_checkIndex_8e157_89 hl D cA ak t_1) [] [] rfl rfl (by decide) (by decide) (by decide) jw_a7a8b385a1 jw_8d35bed6b0 jw_2c7dffdd00 jw_da9869a695 jn_J3_checkIndex_8e157 rfl (jj_le rfl) (jj_le rfl) (jj_le rfl) (jj_le rfl) (jj_le rfl) dJ0_checkIndex_df160_5 rfl (fun _ _ hX => hX.elim) (fun w1 r O_3 => ?_)
    obtain ⟨rfl, rfl⟩ := O_3
    refine jj_apd rfl ?_
    refine jj_pop C dJ0_checkIndex_df160_8 rfl ?_
    exact jj_vret C ⟨rfl, rfl⟩ dJ0_checkIndex_df160_9 (jj_le rfl) (jj_le rfl)
  · refine jq_callS (rest := []) C (ct_J3_checkIndex_8e157_90 hl D cA ak) [] [] rfl rfl (by decide) (by decide) (by decide) jw_a7a8b385a1 jw_8d35bed6b0 jw_2c7dffdd00 jw_da9869a695 jn_J3_checkIndex_8e157 rfl (jj_le rfl) (jj_le rfl) (jj_le rfl) (jj_le rfl) (jj_le rfl) dJ0_checkIndex_df160_5 rfl (fun _ _ hX => hX.elim) (fun w1 r O_5 => ?_)
    obtain ⟨rfl, rfl⟩ := O_5
    refine jj_apd rfl ?_
    refine jj_pop C dJ0_checkIndex_df160_8 rfl ?_
    exact jj_vret C ⟨rfl, rfl⟩ dJ0_checkIndex_df160_9 (jj_le rfl) (jj_le rfl)

set_option maxHeartbeats 4000000 in
set_option maxRecDepth 100000 in
theorem ct_J1_charAt_3b067_95 {l : Launch} (hl : l.stackTraces = false) (D : va_G) (cA : Nat → ClassId) (ak : (Nat → Nat) × (Nat → Nat)) : jj_M l D cA ak yJ1_charAt_3b067 (.code yJ1_charAt_3b067 cJ1_charAt_3b067 2 (some .char)) 2 43 0 0 [] [.ref (ak.2 17), .int 0] (fun (w : va_W) (r : Option Value) => (w = [] ∧ r = some (.int 115))) jj_noX := by
  refine jj_start hl (by decide) jw_6996a9eac3 (jj_le rfl) ?_
  intro p e s m args below meth c A hargs hA C hex hmn
  refine jj_iload_n C dJ1_charAt_3b067_0 rfl ?_
  refine jj_aload_n C dJ1_charAt_3b067_1 rfl ?_
  refine jj_slen (k := 17) (v := 7) C (by decide) (by decide) dJ1_charAt_3b067_2 ?_
  refine jq_callS (rest := []) C (ct_J0_checkIndex_df160_45 hl D cA ak) [] [] rfl rfl (by decide) (by decide) (by decide) jw_763fabfbf2 jw_9aa540e9dd jw_4ea6285965 jw_73f64df4e3 jn_J0_checkIndex_df160 rfl (jj_le rfl) (jj_le rfl) (jj_le rfl) (jj_le rfl) (jj_le rfl) dJ1_charAt_3b067_3 rfl (fun _ _ hX => hX.elim) (fun w1 r O_2 => ?_)
  obtain ⟨rfl, rfl⟩ := O_2
  refine jj_apd rfl ?_
  refine jj_aload_n C dJ1_charAt_3b067_6 rfl ?_
  refine jj_iload_n C dJ1_charAt_3b067_7 rfl ?_
  refine jj_sbyt (k := 17) (v := 115) C (by decide) (vp_in_iff.mpr (by decide)) (by decide) dJ1_charAt_3b067_8 ?_
  refine jj_sipush (v := 255) C dJ1_charAt_3b067_9 (by decide) ?_
  refine jj_iand (v := 115) C dJ1_charAt_3b067_12 (by decide) ?_
  refine jj_i2c (v := 115) C dJ1_charAt_3b067_13 (by decide) ?_
  exact jj_zret C rfl ⟨rfl, rfl⟩ dJ1_charAt_3b067_14 (jj_le rfl) (jj_le rfl)

set_option maxHeartbeats 4000000 in
set_option maxRecDepth 100000 in
theorem ct_J0_charAt_5068e_95 {l : Launch} (hl : l.stackTraces = false) (D : va_G) (cA : Nat → ClassId) (ak : (Nat → Nat) × (Nat → Nat)) : jj_M l D cA ak yJ0_charAt_5068e (.code yJ0_charAt_5068e cJ0_charAt_5068e 2 (some .char)) 3 64 0 0 [] [.ref (ak.1 17), .int 0] (fun (w : va_W) (r : Option Value) => (w = [] ∧ r = some (.int 115))) jj_noX := by
  refine jj_start hl (by decide) jw_391c0f56bd (jj_le rfl) ?_
  intro p e s m args below meth c A hargs hA C hex hmn
  refine jj_aload_n C dJ0_charAt_5068e_0 rfl ?_
  refine jq_callVs (rest := []) C (ct_J0_isLatin1_aae02_18 hl D cA ak) [] [] rfl rfl (by decide) (by decide) (by decide) 17 (by decide) rfl jw_5ca960aa2e jw_b7ba7c03ae jw_c4fe6f1e08 jw_4ea6285965 jw_1aa7753999 jn_J0_isLatin1_aae02 rfl (jj_le rfl) (jj_le rfl) (jj_le rfl) (jj_le rfl) (jj_le rfl) dJ0_charAt_5068e_1 rfl (fun _ _ hX => hX.elim) (fun w1 r O_2 => ?_)
  obtain ⟨rfl, rfl⟩ := O_2
  refine jj_apd rfl ?_
  refine jj_if_eqF (tgt := 16) C dJ0_charAt_5068e_4 (by decide) (by decide) ?_
  refine jj_aload_n C dJ0_charAt_5068e_7 rfl ?_
  refine jj_sval (k := 17) C (by decide) jw_90a506b1c3 dJ0_charAt_5068e_8 ?_
  refine jj_iload_n C dJ0_charAt_5068e_11 rfl ?_
  refine jq_callS (rest := []) C (ct_J1_charAt_3b067_95 hl D cA ak) [] [] rfl rfl (by decide) (by decide) (by decide) jw_7e2463d496 jw_530d7ac64c jw_2a3a2ce6ce jw_6996a9eac3 jn_J1_charAt_3b067 rfl (jj_le rfl) (jj_le rfl) (jj_le rfl) (jj_le rfl) (jj_le rfl) dJ0_charAt_5068e_12 rfl (fun _ _ hX => hX.elim) (fun w1 r O_4 => ?_)
  obtain ⟨rfl, rfl⟩ := O_4
  refine jj_apd rfl ?_
  exact jj_zret C rfl ⟨rfl, rfl⟩ dJ0_charAt_5068e_15 (jj_le rfl) (jj_le rfl)

set_option maxHeartbeats 4000000 in
set_option maxRecDepth 100000 in
theorem ct_J3_checkIndex_8e157_91 {l : Launch} (hl : l.stackTraces = false) (D : va_G) (cA : Nat → ClassId) (ak : (Nat → Nat) × (Nat → Nat)) (h0 : Nat) : jj_M l D cA ak yJ3_checkIndex_8e157 (.code yJ3_checkIndex_8e157 cJ3_checkIndex_8e157 3 (some .int)) 0 0 0 0 [] [.int 1, .int 7, .ref h0] (fun (w : va_W) (r : Option Value) => (w = [] ∧ r = some (.int 1))) jj_noX := by
  refine jj_start hl (by decide) jw_da9869a695 (jj_le rfl) ?_
  intro p e s m args below meth c A hargs hA C hex hmn
  refine jj_iload_n C dJ3_checkIndex_8e157_0 rfl ?_
  refine jj_if_ltF (tgt := 9) C dJ3_checkIndex_8e157_1 (by decide) (by decide) ?_
  refine jj_iload_n C dJ3_checkIndex_8e157_4 rfl ?_
  refine jj_iload_n C dJ3_checkIndex_8e157_5 rfl ?_
  refine jj_icmp_ltT (tgt := 16) C dJ3_checkIndex_8e157_6 (by decide) (by decide) ?_
  refine jj_iload_n C dJ3_checkIndex_8e157_16 rfl ?_
  exact jj_iret C ⟨rfl, rfl⟩ dJ3_checkIndex_8e157_17 (jj_le rfl) (jj_le rfl)

set_option maxHeartbeats 4000000 in
set_option maxRecDepth 100000 in
theorem ct_J3_checkIndex_8e157_92 {l : Launch} (hl : l.stackTraces = false) (D : va_G) (cA : Nat → ClassId) (ak : (Nat → Nat) × (Nat → Nat)) : jj_M l D cA ak yJ3_checkIndex_8e157 (.code yJ3_checkIndex_8e157 cJ3_checkIndex_8e157 3 (some .int)) 0 0 0 0 [] [.int 1, .int 7, .null] (fun (w : va_W) (r : Option Value) => (w = [] ∧ r = some (.int 1))) jj_noX := by
  refine jj_start hl (by decide) jw_da9869a695 (jj_le rfl) ?_
  intro p e s m args below meth c A hargs hA C hex hmn
  refine jj_iload_n C dJ3_checkIndex_8e157_0 rfl ?_
  refine jj_if_ltF (tgt := 9) C dJ3_checkIndex_8e157_1 (by decide) (by decide) ?_
  refine jj_iload_n C dJ3_checkIndex_8e157_4 rfl ?_
  refine jj_iload_n C dJ3_checkIndex_8e157_5 rfl ?_
  refine jj_icmp_ltT (tgt := 16) C dJ3_checkIndex_8e157_6 (by decide) (by decide) ?_
  refine jj_iload_n C dJ3_checkIndex_8e157_16 rfl ?_
  exact jj_iret C ⟨rfl, rfl⟩ dJ3_checkIndex_8e157_17 (jj_le rfl) (jj_le rfl)

set_option maxHeartbeats 4000000 in
set_option maxRecDepth 100000 in
theorem ct_J0_checkIndex_df160_46 {l : Launch} (hl : l.stackTraces = false) (D : va_G) (cA : Nat → ClassId) (ak : (Nat → Nat) × (Nat → Nat)) : jj_M l D cA ak yJ0_checkIndex_df160 (.code yJ0_checkIndex_df160 cJ0_checkIndex_df160 2 none) 1 22 0 0 [] [.int 1, .int 7] (fun (w : va_W) (r : Option Value) => (w = [] ∧ r = none)) jj_noX := by
  refine jj_start hl (by decide) jw_73f64df4e3 (jj_le rfl) ?_
  intro p e s m args below meth c A hargs hA C hex hmn
  refine jj_iload_n C dJ0_checkIndex_df160_0 rfl ?_
  refine jj_iload_n C dJ0_checkIndex_df160_1 rfl ?_
  refine jj_gfm C jw_040150fc39 dJ0_checkIndex_df160_2 (fun t_1 => ?_) ?_
  · refine jq_callS (rest := []) C (ct_J3_checkIndex_8e157_91 hl D cA ak t_1) [] [] rfl rfl (by decide) (by decide) (by decide) jw_a7a8b385a1 jw_8d35bed6b0 jw_2c7dffdd00 jw_da9869a695 jn_J3_checkIndex_8e157 rfl (jj_le rfl) (jj_le rfl) (jj_le rfl) (jj_le rfl) (jj_le rfl) dJ0_checkIndex_df160_5 rfl (fun _ _ hX => hX.elim) (fun w1 r O_3 => ?_)
    obtain ⟨rfl, rfl⟩ := O_3
    refine jj_apd rfl ?_
    refine jj_pop C dJ0_checkIndex_df160_8 rfl ?_
    exact jj_vret C ⟨rfl, rfl⟩ dJ0_checkIndex_df160_9 (jj_le rfl) (jj_le rfl)
  · refine jq_callS (rest := []) C (ct_J3_checkIndex_8e157_92 hl D cA ak) [] [] rfl rfl (by decide) (by decide) (by decide) jw_a7a8b385a1 jw_8d35bed6b0 jw_2c7dffdd00 jw_da9869a695 jn_J3_checkIndex_8e157 rfl (jj_le rfl) (jj_le rfl) (jj_le rfl) (jj_le rfl) (jj_le rfl) dJ0_checkIndex_df160_5 rfl (fun _ _ hX => hX.elim) (fun w1 r O_5 => ?_)
    obtain ⟨rfl, rfl⟩ := O_5
    refine jj_apd rfl ?_
    refine jj_pop C dJ0_checkIndex_df160_8 rfl ?_
    exact jj_vret C ⟨rfl, rfl⟩ dJ0_checkIndex_df160_9 (jj_le rfl) (jj_le rfl)

set_option maxHeartbeats 4000000 in
set_option maxRecDepth 100000 in
theorem ct_J1_charAt_3b067_96 {l : Launch} (hl : l.stackTraces = false) (D : va_G) (cA : Nat → ClassId) (ak : (Nat → Nat) × (Nat → Nat)) : jj_M l D cA ak yJ1_charAt_3b067 (.code yJ1_charAt_3b067 cJ1_charAt_3b067 2 (some .char)) 2 43 0 0 [] [.ref (ak.2 17), .int 1] (fun (w : va_W) (r : Option Value) => (w = [] ∧ r = some (.int 101))) jj_noX := by
  refine jj_start hl (by decide) jw_6996a9eac3 (jj_le rfl) ?_
  intro p e s m args below meth c A hargs hA C hex hmn
  refine jj_iload_n C dJ1_charAt_3b067_0 rfl ?_
  refine jj_aload_n C dJ1_charAt_3b067_1 rfl ?_
  refine jj_slen (k := 17) (v := 7) C (by decide) (by decide) dJ1_charAt_3b067_2 ?_
  refine jq_callS (rest := []) C (ct_J0_checkIndex_df160_46 hl D cA ak) [] [] rfl rfl (by decide) (by decide) (by decide) jw_763fabfbf2 jw_9aa540e9dd jw_4ea6285965 jw_73f64df4e3 jn_J0_checkIndex_df160 rfl (jj_le rfl) (jj_le rfl) (jj_le rfl) (jj_le rfl) (jj_le rfl) dJ1_charAt_3b067_3 rfl (fun _ _ hX => hX.elim) (fun w1 r O_2 => ?_)
  obtain ⟨rfl, rfl⟩ := O_2
  refine jj_apd rfl ?_
  refine jj_aload_n C dJ1_charAt_3b067_6 rfl ?_
  refine jj_iload_n C dJ1_charAt_3b067_7 rfl ?_
  refine jj_sbyt (k := 17) (v := 101) C (by decide) (vp_in_iff.mpr (by decide)) (by decide) dJ1_charAt_3b067_8 ?_
  refine jj_sipush (v := 255) C dJ1_charAt_3b067_9 (by decide) ?_
  refine jj_iand (v := 101) C dJ1_charAt_3b067_12 (by decide) ?_
  refine jj_i2c (v := 101) C dJ1_charAt_3b067_13 (by decide) ?_
  exact jj_zret C rfl ⟨rfl, rfl⟩ dJ1_charAt_3b067_14 (jj_le rfl) (jj_le rfl)

set_option maxHeartbeats 4000000 in
set_option maxRecDepth 100000 in
theorem ct_J0_charAt_5068e_96 {l : Launch} (hl : l.stackTraces = false) (D : va_G) (cA : Nat → ClassId) (ak : (Nat → Nat) × (Nat → Nat)) : jj_M l D cA ak yJ0_charAt_5068e (.code yJ0_charAt_5068e cJ0_charAt_5068e 2 (some .char)) 3 64 0 0 [] [.ref (ak.1 17), .int 1] (fun (w : va_W) (r : Option Value) => (w = [] ∧ r = some (.int 101))) jj_noX := by
  refine jj_start hl (by decide) jw_391c0f56bd (jj_le rfl) ?_
  intro p e s m args below meth c A hargs hA C hex hmn
  refine jj_aload_n C dJ0_charAt_5068e_0 rfl ?_
  refine jq_callVs (rest := []) C (ct_J0_isLatin1_aae02_18 hl D cA ak) [] [] rfl rfl (by decide) (by decide) (by decide) 17 (by decide) rfl jw_5ca960aa2e jw_b7ba7c03ae jw_c4fe6f1e08 jw_4ea6285965 jw_1aa7753999 jn_J0_isLatin1_aae02 rfl (jj_le rfl) (jj_le rfl) (jj_le rfl) (jj_le rfl) (jj_le rfl) dJ0_charAt_5068e_1 rfl (fun _ _ hX => hX.elim) (fun w1 r O_2 => ?_)
  obtain ⟨rfl, rfl⟩ := O_2
  refine jj_apd rfl ?_
  refine jj_if_eqF (tgt := 16) C dJ0_charAt_5068e_4 (by decide) (by decide) ?_
  refine jj_aload_n C dJ0_charAt_5068e_7 rfl ?_
  refine jj_sval (k := 17) C (by decide) jw_90a506b1c3 dJ0_charAt_5068e_8 ?_
  refine jj_iload_n C dJ0_charAt_5068e_11 rfl ?_
  refine jq_callS (rest := []) C (ct_J1_charAt_3b067_96 hl D cA ak) [] [] rfl rfl (by decide) (by decide) (by decide) jw_7e2463d496 jw_530d7ac64c jw_2a3a2ce6ce jw_6996a9eac3 jn_J1_charAt_3b067 rfl (jj_le rfl) (jj_le rfl) (jj_le rfl) (jj_le rfl) (jj_le rfl) dJ0_charAt_5068e_12 rfl (fun _ _ hX => hX.elim) (fun w1 r O_4 => ?_)
  obtain ⟨rfl, rfl⟩ := O_4
  refine jj_apd rfl ?_
  exact jj_zret C rfl ⟨rfl, rfl⟩ dJ0_charAt_5068e_15 (jj_le rfl) (jj_le rfl)

set_option maxHeartbeats 4000000 in
set_option maxRecDepth 100000 in
theorem ct_J3_checkIndex_8e157_93 {l : Launch} (hl : l.stackTraces = false) (D : va_G) (cA : Nat → ClassId) (ak : (Nat → Nat) × (Nat → Nat)) (h0 : Nat) : jj_M l D cA ak yJ3_checkIndex_8e157 (.code yJ3_checkIndex_8e157 cJ3_checkIndex_8e157 3 (some .int)) 0 0 0 0 [] [.int 2, .int 7, .ref h0] (fun (w : va_W) (r : Option Value) => (w = [] ∧ r = some (.int 2))) jj_noX := by
  refine jj_start hl (by decide) jw_da9869a695 (jj_le rfl) ?_
  intro p e s m args below meth c A hargs hA C hex hmn
  refine jj_iload_n C dJ3_checkIndex_8e157_0 rfl ?_
  refine jj_if_ltF (tgt := 9) C dJ3_checkIndex_8e157_1 (by decide) (by decide) ?_
  refine jj_iload_n C dJ3_checkIndex_8e157_4 rfl ?_
  refine jj_iload_n C dJ3_checkIndex_8e157_5 rfl ?_
  refine jj_icmp_ltT (tgt := 16) C dJ3_checkIndex_8e157_6 (by decide) (by decide) ?_
  refine jj_iload_n C dJ3_checkIndex_8e157_16 rfl ?_
  exact jj_iret C ⟨rfl, rfl⟩ dJ3_checkIndex_8e157_17 (jj_le rfl) (jj_le rfl)

set_option maxHeartbeats 4000000 in
set_option maxRecDepth 100000 in
theorem ct_J3_checkIndex_8e157_94 {l : Launch} (hl : l.stackTraces = false) (D : va_G) (cA : Nat → ClassId) (ak : (Nat → Nat) × (Nat → Nat)) : jj_M l D cA ak yJ3_checkIndex_8e157 (.code yJ3_checkIndex_8e157 cJ3_checkIndex_8e157 3 (some .int)) 0 0 0 0 [] [.int 2, .int 7, .null] (fun (w : va_W) (r : Option Value) => (w = [] ∧ r = some (.int 2))) jj_noX := by
  refine jj_start hl (by decide) jw_da9869a695 (jj_le rfl) ?_
  intro p e s m args below meth c A hargs hA C hex hmn
  refine jj_iload_n C dJ3_checkIndex_8e157_0 rfl ?_
  refine jj_if_ltF (tgt := 9) C dJ3_checkIndex_8e157_1 (by decide) (by decide) ?_
  refine jj_iload_n C dJ3_checkIndex_8e157_4 rfl ?_
  refine jj_iload_n C dJ3_checkIndex_8e157_5 rfl ?_
  refine jj_icmp_ltT (tgt := 16) C dJ3_checkIndex_8e157_6 (by decide) (by decide) ?_
  refine jj_iload_n C dJ3_checkIndex_8e157_16 rfl ?_
  exact jj_iret C ⟨rfl, rfl⟩ dJ3_checkIndex_8e157_17 (jj_le rfl) (jj_le rfl)

set_option maxHeartbeats 4000000 in
set_option maxRecDepth 100000 in
theorem ct_J0_checkIndex_df160_47 {l : Launch} (hl : l.stackTraces = false) (D : va_G) (cA : Nat → ClassId) (ak : (Nat → Nat) × (Nat → Nat)) : jj_M l D cA ak yJ0_checkIndex_df160 (.code yJ0_checkIndex_df160 cJ0_checkIndex_df160 2 none) 1 22 0 0 [] [.int 2, .int 7] (fun (w : va_W) (r : Option Value) => (w = [] ∧ r = none)) jj_noX := by
  refine jj_start hl (by decide) jw_73f64df4e3 (jj_le rfl) ?_
  intro p e s m args below meth c A hargs hA C hex hmn
  refine jj_iload_n C dJ0_checkIndex_df160_0 rfl ?_
  refine jj_iload_n C dJ0_checkIndex_df160_1 rfl ?_
  refine jj_gfm C jw_040150fc39 dJ0_checkIndex_df160_2 (fun t_1 => ?_) ?_
  · refine jq_callS (rest := []) C (ct_J3_checkIndex_8e157_93 hl D cA ak t_1) [] [] rfl rfl (by decide) (by decide) (by decide) jw_a7a8b385a1 jw_8d35bed6b0 jw_2c7dffdd00 jw_da9869a695 jn_J3_checkIndex_8e157 rfl (jj_le rfl) (jj_le rfl) (jj_le rfl) (jj_le rfl) (jj_le rfl) dJ0_checkIndex_df160_5 rfl (fun _ _ hX => hX.elim) (fun w1 r O_3 => ?_)
    obtain ⟨rfl, rfl⟩ := O_3
    refine jj_apd rfl ?_
    refine jj_pop C dJ0_checkIndex_df160_8 rfl ?_
    exact jj_vret C ⟨rfl, rfl⟩ dJ0_checkIndex_df160_9 (jj_le rfl) (jj_le rfl)
  · refine jq_callS (rest := []) C (ct_J3_checkIndex_8e157_94 hl D cA ak) [] [] rfl rfl (by decide) (by decide) (by decide) jw_a7a8b385a1 jw_8d35bed6b0 jw_2c7dffdd00 jw_da9869a695 jn_J3_checkIndex_8e157 rfl (jj_le rfl) (jj_le rfl) (jj_le rfl) (jj_le rfl) (jj_le rfl) dJ0_checkIndex_df160_5 rfl (fun _ _ hX => hX.elim) (fun w1 r O_5 => ?_)
    obtain ⟨rfl, rfl⟩ := O_5
    refine jj_apd rfl ?_
    refine jj_pop C dJ0_checkIndex_df160_8 rfl ?_
    exact jj_vret C ⟨rfl, rfl⟩ dJ0_checkIndex_df160_9 (jj_le rfl) (jj_le rfl)

set_option maxHeartbeats 4000000 in
set_option maxRecDepth 100000 in
theorem ct_J1_charAt_3b067_97 {l : Launch} (hl : l.stackTraces = false) (D : va_G) (cA : Nat → ClassId) (ak : (Nat → Nat) × (Nat → Nat)) : jj_M l D cA ak yJ1_charAt_3b067 (.code yJ1_charAt_3b067 cJ1_charAt_3b067 2 (some .char)) 2 43 0 0 [] [.ref (ak.2 17), .int 2] (fun (w : va_W) (r : Option Value) => (w = [] ∧ r = some (.int 114))) jj_noX := by
  refine jj_start hl (by decide) jw_6996a9eac3 (jj_le rfl) ?_
  intro p e s m args below meth c A hargs hA C hex hmn
  refine jj_iload_n C dJ1_charAt_3b067_0 rfl ?_
  refine jj_aload_n C dJ1_charAt_3b067_1 rfl ?_
  refine jj_slen (k := 17) (v := 7) C (by decide) (by decide) dJ1_charAt_3b067_2 ?_
  refine jq_callS (rest := []) C (ct_J0_checkIndex_df160_47 hl D cA ak) [] [] rfl rfl (by decide) (by decide) (by decide) jw_763fabfbf2 jw_9aa540e9dd jw_4ea6285965 jw_73f64df4e3 jn_J0_checkIndex_df160 rfl (jj_le rfl) (jj_le rfl) (jj_le rfl) (jj_le rfl) (jj_le rfl) dJ1_charAt_3b067_3 rfl (fun _ _ hX => hX.elim) (fun w1 r O_2 => ?_)
  obtain ⟨rfl, rfl⟩ := O_2
  refine jj_apd rfl ?_
  refine jj_aload_n C dJ1_charAt_3b067_6 rfl ?_
  refine jj_iload_n C dJ1_charAt_3b067_7 rfl ?_
  refine jj_sbyt (k := 17) (v := 114) C (by decide) (vp_in_iff.mpr (by decide)) (by decide) dJ1_charAt_3b067_8 ?_
  refine jj_sipush (v := 255) C dJ1_charAt_3b067_9 (by decide) ?_
  refine jj_iand (v := 114) C dJ1_charAt_3b067_12 (by decide) ?_
  refine jj_i2c (v := 114) C dJ1_charAt_3b067_13 (by decide) ?_
  exact jj_zret C rfl ⟨rfl, rfl⟩ dJ1_charAt_3b067_14 (jj_le rfl) (jj_le rfl)

set_option maxHeartbeats 4000000 in
set_option maxRecDepth 100000 in
theorem ct_J0_charAt_5068e_97 {l : Launch} (hl : l.stackTraces = false) (D : va_G) (cA : Nat → ClassId) (ak : (Nat → Nat) × (Nat → Nat)) : jj_M l D cA ak yJ0_charAt_5068e (.code yJ0_charAt_5068e cJ0_charAt_5068e 2 (some .char)) 3 64 0 0 [] [.ref (ak.1 17), .int 2] (fun (w : va_W) (r : Option Value) => (w = [] ∧ r = some (.int 114))) jj_noX := by
  refine jj_start hl (by decide) jw_391c0f56bd (jj_le rfl) ?_
  intro p e s m args below meth c A hargs hA C hex hmn
  refine jj_aload_n C dJ0_charAt_5068e_0 rfl ?_
  refine jq_callVs (rest := []) C (ct_J0_isLatin1_aae02_18 hl D cA ak) [] [] rfl rfl (by decide) (by decide) (by decide) 17 (by decide) rfl jw_5ca960aa2e jw_b7ba7c03ae jw_c4fe6f1e08 jw_4ea6285965 jw_1aa7753999 jn_J0_isLatin1_aae02 rfl (jj_le rfl) (jj_le rfl) (jj_le rfl) (jj_le rfl) (jj_le rfl) dJ0_charAt_5068e_1 rfl (fun _ _ hX => hX.elim) (fun w1 r O_2 => ?_)
  obtain ⟨rfl, rfl⟩ := O_2
  refine jj_apd rfl ?_
  refine jj_if_eqF (tgt := 16) C dJ0_charAt_5068e_4 (by decide) (by decide) ?_
  refine jj_aload_n C dJ0_charAt_5068e_7 rfl ?_
  refine jj_sval (k := 17) C (by decide) jw_90a506b1c3 dJ0_charAt_5068e_8 ?_
  refine jj_iload_n C dJ0_charAt_5068e_11 rfl ?_
  refine jq_callS (rest := []) C (ct_J1_charAt_3b067_97 hl D cA ak) [] [] rfl rfl (by decide) (by decide) (by decide) jw_7e2463d496 jw_530d7ac64c jw_2a3a2ce6ce jw_6996a9eac3 jn_J1_charAt_3b067 rfl (jj_le rfl) (jj_le rfl) (jj_le rfl) (jj_le rfl) (jj_le rfl) dJ0_charAt_5068e_12 rfl (fun _ _ hX => hX.elim) (fun w1 r O_4 => ?_)
  obtain ⟨rfl, rfl⟩ := O_4
  refine jj_apd rfl ?_
  exact jj_zret C rfl ⟨rfl, rfl⟩ dJ0_charAt_5068e_15 (jj_le rfl) (jj_le rfl)

set_option maxHeartbeats 4000000 in
set_option maxRecDepth 100000 in
theorem ct_J3_checkIndex_8e157_95 {l : Launch} (hl : l.stackTraces = false) (D : va_G) (cA : Nat → ClassId) (ak : (Nat → Nat) × (Nat → Nat)) (h0 : Nat) : jj_M l D cA ak yJ3_checkIndex_8e157 (.code yJ3_checkIndex_8e157 cJ3_checkIndex_8e157 3 (some .int)) 0 0 0 0 [] [.int 3, .int 7, .ref h0] (fun (w : va_W) (r : Option Value) => (w = [] ∧ r = some (.int 3))) jj_noX := by
  refine jj_start hl (by decide) jw_da9869a695 (jj_le rfl) ?_
  intro p e s m args below meth c A hargs hA C hex hmn
  refine jj_iload_n C dJ3_checkIndex_8e157_0 rfl ?_
  refine jj_if_ltF (tgt := 9) C dJ3_checkIndex_8e157_1 (by decide) (by decide) ?_
  refine jj_iload_n C dJ3_checkIndex_8e157_4 rfl ?_
  refine jj_iload_n C dJ3_checkIndex_8e157_5 rfl ?_
  refine jj_icmp_ltT (tgt := 16) C dJ3_checkIndex_8e157_6 (by decide) (by decide) ?_
  refine jj_iload_n C dJ3_checkIndex_8e157_16 rfl ?_
  exact jj_iret C ⟨rfl, rfl⟩ dJ3_checkIndex_8e157_17 (jj_le rfl) (jj_le rfl)

set_option maxHeartbeats 4000000 in
set_option maxRecDepth 100000 in
theorem ct_J3_checkIndex_8e157_96 {l : Launch} (hl : l.stackTraces = false) (D : va_G) (cA : Nat → ClassId) (ak : (Nat → Nat) × (Nat → Nat)) : jj_M l D cA ak yJ3_checkIndex_8e157 (.code yJ3_checkIndex_8e157 cJ3_checkIndex_8e157 3 (some .int)) 0 0 0 0 [] [.int 3, .int 7, .null] (fun (w : va_W) (r : Option Value) => (w = [] ∧ r = some (.int 3))) jj_noX := by
  refine jj_start hl (by decide) jw_da9869a695 (jj_le rfl) ?_
  intro p e s m args below meth c A hargs hA C hex hmn
  refine jj_iload_n C dJ3_checkIndex_8e157_0 rfl ?_
  refine jj_if_ltF (tgt := 9) C dJ3_checkIndex_8e157_1 (by decide) (by decide) ?_
  refine jj_iload_n C dJ3_checkIndex_8e157_4 rfl ?_
  refine jj_iload_n C dJ3_checkIndex_8e157_5 rfl ?_
  refine jj_icmp_ltT (tgt := 16) C dJ3_checkIndex_8e157_6 (by decide) (by decide) ?_
  refine jj_iload_n C dJ3_checkIndex_8e157_16 rfl ?_
  exact jj_iret C ⟨rfl, rfl⟩ dJ3_checkIndex_8e157_17 (jj_le rfl) (jj_le rfl)

set_option maxHeartbeats 4000000 in
set_option maxRecDepth 100000 in
theorem ct_J0_checkIndex_df160_48 {l : Launch} (hl : l.stackTraces = false) (D : va_G) (cA : Nat → ClassId) (ak : (Nat → Nat) × (Nat → Nat)) : jj_M l D cA ak yJ0_checkIndex_df160 (.code yJ0_checkIndex_df160 cJ0_checkIndex_df160 2 none) 1 22 0 0 [] [.int 3, .int 7] (fun (w : va_W) (r : Option Value) => (w = [] ∧ r = none)) jj_noX := by
  refine jj_start hl (by decide) jw_73f64df4e3 (jj_le rfl) ?_
  intro p e s m args below meth c A hargs hA C hex hmn
  refine jj_iload_n C dJ0_checkIndex_df160_0 rfl ?_
  refine jj_iload_n C dJ0_checkIndex_df160_1 rfl ?_
  refine jj_gfm C jw_040150fc39 dJ0_checkIndex_df160_2 (fun t_1 => ?_) ?_
  · refine jq_callS (rest := []) C (ct_J3_checkIndex_8e157_95 hl D cA ak t_1) [] [] rfl rfl (by decide) (by decide) (by decide) jw_a7a8b385a1 jw_8d35bed6b0 jw_2c7dffdd00 jw_da9869a695 jn_J3_checkIndex_8e157 rfl (jj_le rfl) (jj_le rfl) (jj_le rfl) (jj_le rfl) (jj_le rfl) dJ0_checkIndex_df160_5 rfl (fun _ _ hX => hX.elim) (fun w1 r O_3 => ?_)
    obtain ⟨rfl, rfl⟩ := O_3
    refine jj_apd rfl ?_
    refine jj_pop C dJ0_checkIndex_df160_8 rfl ?_
    exact jj_vret C ⟨rfl, rfl⟩ dJ0_checkIndex_df160_9 (jj_le rfl) (jj_le rfl)
  · refine jq_callS (rest := []) C (ct_J3_checkIndex_8e157_96 hl D cA ak) [] [] rfl rfl (by decide) (by decide) (by decide) jw_a7a8b385a1 jw_8d35bed6b0 jw_2c7dffdd00 jw_da9869a695 jn_J3_checkIndex_8e157 rfl (jj_le rfl) (jj_le rfl) (jj_le rfl) (jj_le rfl) (jj_le rfl) dJ0_checkIndex_df160_5 rfl (fun _ _ hX => hX.elim) (fun w1 r O_5 => ?_)
    obtain ⟨rfl, rfl⟩ := O_5
    refine jj_apd rfl ?_
    refine jj_pop C dJ0_checkIndex_df160_8 rfl ?_
    exact jj_vret C ⟨rfl, rfl⟩ dJ0_checkIndex_df160_9 (jj_le rfl) (jj_le rfl)

set_option maxHeartbeats 4000000 in
set_option maxRecDepth 100000 in
theorem ct_J1_charAt_3b067_98 {l : Launch} (hl : l.stackTraces = false) (D : va_G) (cA : Nat → ClassId) (ak : (Nat → Nat) × (Nat → Nat)) : jj_M l D cA ak yJ1_charAt_3b067 (.code yJ1_charAt_3b067 cJ1_charAt_3b067 2 (some .char)) 2 43 0 0 [] [.ref (ak.2 17), .int 3] (fun (w : va_W) (r : Option Value) => (w = [] ∧ r = some (.int 105))) jj_noX := by
  refine jj_start hl (by decide) jw_6996a9eac3 (jj_le rfl) ?_
  intro p e s m args below meth c A hargs hA C hex hmn
  refine jj_iload_n C dJ1_charAt_3b067_0 rfl ?_
  refine jj_aload_n C dJ1_charAt_3b067_1 rfl ?_
  refine jj_slen (k := 17) (v := 7) C (by decide) (by decide) dJ1_charAt_3b067_2 ?_
  refine jq_callS (rest := []) C (ct_J0_checkIndex_df160_48 hl D cA ak) [] [] rfl rfl (by decide) (by decide) (by decide) jw_763fabfbf2 jw_9aa540e9dd jw_4ea6285965 jw_73f64df4e3 jn_J0_checkIndex_df160 rfl (jj_le rfl) (jj_le rfl) (jj_le rfl) (jj_le rfl) (jj_le rfl) dJ1_charAt_3b067_3 rfl (fun _ _ hX => hX.elim) (fun w1 r O_2 => ?_)
  obtain ⟨rfl, rfl⟩ := O_2
  refine jj_apd rfl ?_
  refine jj_aload_n C dJ1_charAt_3b067_6 rfl ?_
  refine jj_iload_n C dJ1_charAt_3b067_7 rfl ?_
  refine jj_sbyt (k := 17) (v := 105) C (by decide) (vp_in_iff.mpr (by decide)) (by decide) dJ1_charAt_3b067_8 ?_
  refine jj_sipush (v := 255) C dJ1_charAt_3b067_9 (by decide) ?_
  refine jj_iand (v := 105) C dJ1_charAt_3b067_12 (by decide) ?_
  refine jj_i2c (v := 105) C dJ1_charAt_3b067_13 (by decide) ?_
  exact jj_zret C rfl ⟨rfl, rfl⟩ dJ1_charAt_3b067_14 (jj_le rfl) (jj_le rfl)

set_option maxHeartbeats 4000000 in
set_option maxRecDepth 100000 in
theorem ct_J0_charAt_5068e_98 {l : Launch} (hl : l.stackTraces = false) (D : va_G) (cA : Nat → ClassId) (ak : (Nat → Nat) × (Nat → Nat)) : jj_M l D cA ak yJ0_charAt_5068e (.code yJ0_charAt_5068e cJ0_charAt_5068e 2 (some .char)) 3 64 0 0 [] [.ref (ak.1 17), .int 3] (fun (w : va_W) (r : Option Value) => (w = [] ∧ r = some (.int 105))) jj_noX := by
  refine jj_start hl (by decide) jw_391c0f56bd (jj_le rfl) ?_
  intro p e s m args below meth c A hargs hA C hex hmn
  refine jj_aload_n C dJ0_charAt_5068e_0 rfl ?_
  refine jq_callVs (rest := []) C (ct_J0_isLatin1_aae02_18 hl D cA ak) [] [] rfl rfl (by decide) (by decide) (by decide) 17 (by decide) rfl jw_5ca960aa2e jw_b7ba7c03ae jw_c4fe6f1e08 jw_4ea6285965 jw_1aa7753999 jn_J0_isLatin1_aae02 rfl (jj_le rfl) (jj_le rfl) (jj_le rfl) (jj_le rfl) (jj_le rfl) dJ0_charAt_5068e_1 rfl (fun _ _ hX => hX.elim) (fun w1 r O_2 => ?_)
  obtain ⟨rfl, rfl⟩ := O_2
  refine jj_apd rfl ?_
  refine jj_if_eqF (tgt := 16) C dJ0_charAt_5068e_4 (by decide) (by decide) ?_
  refine jj_aload_n C dJ0_charAt_5068e_7 rfl ?_
  refine jj_sval (k := 17) C (by decide) jw_90a506b1c3 dJ0_charAt_5068e_8 ?_
  refine jj_iload_n C dJ0_charAt_5068e_11 rfl ?_
  refine jq_callS (rest := []) C (ct_J1_charAt_3b067_98 hl D cA ak) [] [] rfl rfl (by decide) (by decide) (by decide) jw_7e2463d496 jw_530d7ac64c jw_2a3a2ce6ce jw_6996a9eac3 jn_J1_charAt_3b067 rfl (jj_le rfl) (jj_le rfl) (jj_le rfl) (jj_le rfl) (jj_le rfl) dJ0_charAt_5068e_12 rfl (fun _ _ hX => hX.elim) (fun w1 r O_4 => ?_)
  obtain ⟨rfl, rfl⟩ := O_4
  refine jj_apd rfl ?_
  exact jj_zret C rfl ⟨rfl, rfl⟩ dJ0_charAt_5068e_15 (jj_le rfl) (jj_le rfl)

set_option maxHeartbeats 4000000 in
set_option maxRecDepth 100000 in
theorem ct_J3_checkIndex_8e157_97 {l : Launch} (hl : l.stackTraces = false) (D : va_G) (cA : Nat → ClassId) (ak : (Nat → Nat) × (Nat → Nat)) (h0 : Nat) : jj_M l D cA ak yJ3_checkIndex_8e157 (.code yJ3_checkIndex_8e157 cJ3_checkIndex_8e157 3 (some .int)) 0 0 0 0 [] [.int 4, .int 7, .ref h0] (fun (w : va_W) (r : Option Value) => (w = [] ∧ r = some (.int 4))) jj_noX := by
  refine jj_start hl (by decide) jw_da9869a695 (jj_le rfl) ?_
  intro p e s m args below meth c A hargs hA C hex hmn
  refine jj_iload_n C dJ3_checkIndex_8e157_0 rfl ?_
  refine jj_if_ltF (tgt := 9) C dJ3_checkIndex_8e157_1 (by decide) (by decide) ?_
  refine jj_iload_n C dJ3_checkIndex_8e157_4 rfl ?_
  refine jj_iload_n C dJ3_checkIndex_8e157_5 rfl ?_
  refine jj_icmp_ltT (tgt := 16) C dJ3_checkIndex_8e157_6 (by decide) (by decide) ?_
  refine jj_iload_n C dJ3_checkIndex_8e157_16 rfl ?_
  exact jj_iret C ⟨rfl, rfl⟩ dJ3_checkIndex_8e157_17 (jj_le rfl) (jj_le rfl)

set_option maxHeartbeats 4000000 in
set_option maxRecDepth 100000 in
theorem ct_J3_checkIndex_8e157_98 {l : Launch} (hl : l.stackTraces = false) (D : va_G) (cA : Nat → ClassId) (ak : (Nat → Nat) × (Nat → Nat)) : jj_M l D cA ak yJ3_checkIndex_8e157 (.code yJ3_checkIndex_8e157 cJ3_checkIndex_8e157 3 (some .int)) 0 0 0 0 [] [.int 4, .int 7, .null] (fun (w : va_W) (r : Option Value) => (w = [] ∧ r = some (.int 4))) jj_noX := by
  refine jj_start hl (by decide) jw_da9869a695 (jj_le rfl) ?_
  intro p e s m args below meth c A hargs hA C hex hmn
  refine jj_iload_n C dJ3_checkIndex_8e157_0 rfl ?_
  refine jj_if_ltF (tgt := 9) C dJ3_checkIndex_8e157_1 (by decide) (by decide) ?_
  refine jj_iload_n C dJ3_checkIndex_8e157_4 rfl ?_
  refine jj_iload_n C dJ3_checkIndex_8e157_5 rfl ?_
  refine jj_icmp_ltT (tgt := 16) C dJ3_checkIndex_8e157_6 (by decide) (by decide) ?_
  refine jj_iload_n C dJ3_checkIndex_8e157_16 rfl ?_
  exact jj_iret C ⟨rfl, rfl⟩ dJ3_checkIndex_8e157_17 (jj_le rfl) (jj_le rfl)

set_option maxHeartbeats 4000000 in
set_option maxRecDepth 100000 in
theorem ct_J0_checkIndex_df160_49 {l : Launch} (hl : l.stackTraces = false) (D : va_G) (cA : Nat → ClassId) (ak : (Nat → Nat) × (Nat → Nat)) : jj_M l D cA ak yJ0_checkIndex_df160 (.code yJ0_checkIndex_df160 cJ0_checkIndex_df160 2 none) 1 22 0 0 [] [.int 4, .int 7] (fun (w : va_W) (r : Option Value) => (w = [] ∧ r = none)) jj_noX := by
  refine jj_start hl (by decide) jw_73f64df4e3 (jj_le rfl) ?_
  intro p e s m args below meth c A hargs hA C hex hmn
  refine jj_iload_n C dJ0_checkIndex_df160_0 rfl ?_
  refine jj_iload_n C dJ0_checkIndex_df160_1 rfl ?_
  refine jj_gfm C jw_040150fc39 dJ0_checkIndex_df160_2 (fun t_1 => ?_) ?_
  · refine jq_callS (rest := []) C (ct_J3_checkIndex_8e157_97 hl D cA ak t_1) [] [] rfl rfl (by decide) (by decide) (by decide) jw_a7a8b385a1 jw_8d35bed6b0 jw_2c7dffdd00 jw_da9869a695 jn_J3_checkIndex_8e157 rfl (jj_le rfl) (jj_le rfl) (jj_le rfl) (jj_le rfl) (jj_le rfl) dJ0_checkIndex_df160_5 rfl (fun _ _ hX => hX.elim) (fun w1 r O_3 => ?_)
    obtain ⟨rfl, rfl⟩ := O_3
    refine jj_apd rfl ?_
    refine jj_pop C dJ0_checkIndex_df160_8 rfl ?_
    exact jj_vret C ⟨rfl, rfl⟩ dJ0_checkIndex_df160_9 (jj_le rfl) (jj_le rfl)
  · refine jq_callS (rest := []) C (ct_J3_checkIndex_8e157_98 hl D cA ak) [] [] rfl rfl (by decide) (by decide) (by decide) jw_a7a8b385a1 jw_8d35bed6b0 jw_2c7dffdd00 jw_da9869a695 jn_J3_checkIndex_8e157 rfl (jj_le rfl) (jj_le rfl) (jj_le rfl) (jj_le rfl) (jj_le rfl) dJ0_checkIndex_df160_5 rfl (fun _ _ hX => hX.elim) (fun w1 r O_5 => ?_)
    obtain ⟨rfl, rfl⟩ := O_5
    refine jj_apd rfl ?_
    refine jj_pop C dJ0_checkIndex_df160_8 rfl ?_
    exact jj_vret C ⟨rfl, rfl⟩ dJ0_checkIndex_df160_9 (jj_le rfl) (jj_le rfl)

set_option maxHeartbeats 4000000 in
set_option maxRecDepth 100000 in
theorem ct_J1_charAt_3b067_99 {l : Launch} (hl : l.stackTraces = false) (D : va_G) (cA : Nat → ClassId) (ak : (Nat → Nat) × (Nat → Nat)) : jj_M l D cA ak yJ1_charAt_3b067 (.code yJ1_charAt_3b067 cJ1_charAt_3b067 2 (some .char)) 2 43 0 0 [] [.ref (ak.2 17), .int 4] (fun (w : va_W) (r : Option Value) => (w = [] ∧ r = some (.int 101))) jj_noX := by
  refine jj_start hl (by decide) jw_6996a9eac3 (jj_le rfl) ?_
  intro p e s m args below meth c A hargs hA C hex hmn
  refine jj_iload_n C dJ1_charAt_3b067_0 rfl ?_
  refine jj_aload_n C dJ1_charAt_3b067_1 rfl ?_
  refine jj_slen (k := 17) (v := 7) C (by decide) (by decide) dJ1_charAt_3b067_2 ?_
  refine jq_callS (rest := []) C (ct_J0_checkIndex_df160_49 hl D cA ak) [] [] rfl rfl (by decide) (by decide) (by decide) jw_763fabfbf2 jw_9aa540e9dd jw_4ea6285965 jw_73f64df4e3 jn_J0_checkIndex_df160 rfl (jj_le rfl) (jj_le rfl) (jj_le rfl) (jj_le rfl) (jj_le rfl) dJ1_charAt_3b067_3 rfl (fun _ _ hX => hX.elim) (fun w1 r O_2 => ?_)
  obtain ⟨rfl, rfl⟩ := O_2
  refine jj_apd rfl ?_
  refine jj_aload_n C dJ1_charAt_3b067_6 rfl ?_
  refine jj_iload_n C dJ1_charAt_3b067_7 rfl ?_
  refine jj_sbyt (k := 17) (v := 101) C (by decide) (vp_in_iff.mpr (by decide)) (by decide) dJ1_charAt_3b067_8 ?_
  refine jj_sipush (v := 255) C dJ1_charAt_3b067_9 (by decide) ?_
  refine jj_iand (v := 101) C dJ1_charAt_3b067_12 (by decide) ?_
  refine jj_i2c (v := 101) C dJ1_charAt_3b067_13 (by decide) ?_
  exact jj_zret C rfl ⟨rfl, rfl⟩ dJ1_charAt_3b067_14 (jj_le rfl) (jj_le rfl)

set_option maxHeartbeats 4000000 in
set_option maxRecDepth 100000 in
theorem ct_J0_charAt_5068e_99 {l : Launch} (hl : l.stackTraces = false) (D : va_G) (cA : Nat → ClassId) (ak : (Nat → Nat) × (Nat → Nat)) : jj_M l D cA ak yJ0_charAt_5068e (.code yJ0_charAt_5068e cJ0_charAt_5068e 2 (some .char)) 3 64 0 0 [] [.ref (ak.1 17), .int 4] (fun (w : va_W) (r : Option Value) => (w = [] ∧ r = some (.int 101))) jj_noX := by
  refine jj_start hl (by decide) jw_391c0f56bd (jj_le rfl) ?_
  intro p e s m args below meth c A hargs hA C hex hmn
  refine jj_aload_n C dJ0_charAt_5068e_0 rfl ?_
  refine jq_callVs (rest := []) C (ct_J0_isLatin1_aae02_18 hl D cA ak) [] [] rfl rfl (by decide) (by decide) (by decide) 17 (by decide) rfl jw_5ca960aa2e jw_b7ba7c03ae jw_c4fe6f1e08 jw_4ea6285965 jw_1aa7753999 jn_J0_isLatin1_aae02 rfl (jj_le rfl) (jj_le rfl) (jj_le rfl) (jj_le rfl) (jj_le rfl) dJ0_charAt_5068e_1 rfl (fun _ _ hX => hX.elim) (fun w1 r O_2 => ?_)
  obtain ⟨rfl, rfl⟩ := O_2
  refine jj_apd rfl ?_
  refine jj_if_eqF (tgt := 16) C dJ0_charAt_5068e_4 (by decide) (by decide) ?_
  refine jj_aload_n C dJ0_charAt_5068e_7 rfl ?_
  refine jj_sval (k := 17) C (by decide) jw_90a506b1c3 dJ0_charAt_5068e_8 ?_
  refine jj_iload_n C dJ0_charAt_5068e_11 rfl ?_
  refine jq_callS (rest := []) C (ct_J1_charAt_3b067_99 hl D cA ak) [] [] rfl rfl (by decide) (by decide) (by decide) jw_7e2463d496 jw_530d7ac64c jw_2a3a2ce6ce jw_6996a9eac3 jn_J1_charAt_3b067 rfl (jj_le rfl) (jj_le rfl) (jj_le rfl) (jj_le rfl) (jj_le rfl) dJ0_charAt_5068e_12 rfl (fun _ _ hX => hX.elim) (fun w1 r O_4 => ?_)
  obtain ⟨rfl, rfl⟩ := O_4
  refine jj_apd rfl ?_
  exact jj_zret C rfl ⟨rfl, rfl⟩ dJ0_charAt_5068e_15 (jj_le rfl) (jj_le rfl)

set_option maxHeartbeats 4000000 in
set_option maxRecDepth 100000 in
theorem ct_J3_checkIndex_8e157_99 {l : Launch} (hl : l.stackTraces = false) (D : va_G) (cA : Nat → ClassId) (ak : (Nat → Nat) × (Nat → Nat)) (h0 : Nat) : jj_M l D cA ak yJ3_checkIndex_8e157 (.code yJ3_checkIndex_8e157 cJ3_checkIndex_8e157 3 (some .int)) 0 0 0 0 [] [.int 5, .int 7, .ref h0] (fun (w : va_W) (r : Option Value) => (w = [] ∧ r = some (.int 5))) jj_noX := by
  refine jj_start hl (by decide) jw_da9869a695 (jj_le rfl) ?_
  intro p e s m args below meth c A hargs hA C hex hmn
  refine jj_iload_n C dJ3_checkIndex_8e157_0 rfl ?_
  refine jj_if_ltF (tgt := 9) C dJ3_checkIndex_8e157_1 (by decide) (by decide) ?_
  refine jj_iload_n C dJ3_checkIndex_8e157_4 rfl ?_
  refine jj_iload_n C dJ3_checkIndex_8e157_5 rfl ?_
  refine jj_icmp_ltT (tgt := 16) C dJ3_checkIndex_8e157_6 (by decide) (by decide) ?_
  refine jj_iload_n C dJ3_checkIndex_8e157_16 rfl ?_
  exact jj_iret C ⟨rfl, rfl⟩ dJ3_checkIndex_8e157_17 (jj_le rfl) (jj_le rfl)

set_option maxHeartbeats 4000000 in
set_option maxRecDepth 100000 in
theorem ct_J3_checkIndex_8e157_100 {l : Launch} (hl : l.stackTraces = false) (D : va_G) (cA : Nat → ClassId) (ak : (Nat → Nat) × (Nat → Nat)) : jj_M l D cA ak yJ3_checkIndex_8e157 (.code yJ3_checkIndex_8e157 cJ3_checkIndex_8e157 3 (some .int)) 0 0 0 0 [] [.int 5, .int 7, .null] (fun (w : va_W) (r : Option Value) => (w = [] ∧ r = some (.int 5))) jj_noX := by
  refine jj_start hl (by decide) jw_da9869a695 (jj_le rfl) ?_
  intro p e s m args below meth c A hargs hA C hex hmn
  refine jj_iload_n C dJ3_checkIndex_8e157_0 rfl ?_
  refine jj_if_ltF (tgt := 9) C dJ3_checkIndex_8e157_1 (by decide) (by decide) ?_
  refine jj_iload_n C dJ3_checkIndex_8e157_4 rfl ?_
  refine jj_iload_n C dJ3_checkIndex_8e157_5 rfl ?_
  refine jj_icmp_ltT (tgt := 16) C dJ3_checkIndex_8e157_6 (by decide) (by decide) ?_
  refine jj_iload_n C dJ3_checkIndex_8e157_16 rfl ?_
  exact jj_iret C ⟨rfl, rfl⟩ dJ3_checkIndex_8e157_17 (jj_le rfl) (jj_le rfl)

set_option maxHeartbeats 4000000 in
set_option maxRecDepth 100000 in
theorem ct_J0_checkIndex_df160_50 {l : Launch} (hl : l.stackTraces = false) (D : va_G) (cA : Nat → ClassId) (ak : (Nat → Nat) × (Nat → Nat)) : jj_M l D cA ak yJ0_checkIndex_df160 (.code yJ0_checkIndex_df160 cJ0_checkIndex_df160 2 none) 1 22 0 0 [] [.int 5, .int 7] (fun (w : va_W) (r : Option Value) => (w = [] ∧ r = none)) jj_noX := by
  refine jj_start hl (by decide) jw_73f64df4e3 (jj_le rfl) ?_
  intro p e s m args below meth c A hargs hA C hex hmn
  refine jj_iload_n C dJ0_checkIndex_df160_0 rfl ?_
  refine jj_iload_n C dJ0_checkIndex_df160_1 rfl ?_
  refine jj_gfm C jw_040150fc39 dJ0_checkIndex_df160_2 (fun t_1 => ?_) ?_
  · refine jq_callS (rest := []) C (ct_J3_checkIndex_8e157_99 hl D cA ak t_1) [] [] rfl rfl (by decide) (by decide) (by decide) jw_a7a8b385a1 jw_8d35bed6b0 jw_2c7dffdd00 jw_da9869a695 jn_J3_checkIndex_8e157 rfl (jj_le rfl) (jj_le rfl) (jj_le rfl) (jj_le rfl) (jj_le rfl) dJ0_checkIndex_df160_5 rfl (fun _ _ hX => hX.elim) (fun w1 r O_3 => ?_)
    obtain ⟨rfl, rfl⟩ := O_3
    refine jj_apd rfl ?_
    refine jj_pop C dJ0_checkIndex_df160_8 rfl ?_
    exact jj_vret C ⟨rfl, rfl⟩ dJ0_checkIndex_df160_9 (jj_le rfl) (jj_le rfl)
  · refine jq_callS (rest := []) C (ct_J3_checkIndex_8e157_100 hl D cA ak) [] [] rfl rfl (by decide) (by decide) (by decide) jw_a7a8b385a1 jw_8d35bed6b0 jw_2c7dffdd00 jw_da9869a695 jn_J3_checkIndex_8e157 rfl (jj_le rfl) (jj_le rfl) (jj_le rfl) (jj_le rfl) (jj_le rfl) dJ0_checkIndex_df160_5 rfl (fun _ _ hX => hX.elim) (fun w1 r O_5 => ?_)
    obtain ⟨rfl, rfl⟩ := O_5
    refine jj_apd rfl ?_
    refine jj_pop C dJ0_checkIndex_df160_8 rfl ?_
    exact jj_vret C ⟨rfl, rfl⟩ dJ0_checkIndex_df160_9 (jj_le rfl) (jj_le rfl)

set_option maxHeartbeats 4000000 in
set_option maxRecDepth 100000 in
theorem ct_J1_charAt_3b067_100 {l : Launch} (hl : l.stackTraces = false) (D : va_G) (cA : Nat → ClassId) (ak : (Nat → Nat) × (Nat → Nat)) : jj_M l D cA ak yJ1_charAt_3b067 (.code yJ1_charAt_3b067 cJ1_charAt_3b067 2 (some .char)) 2 43 0 0 [] [.ref (ak.2 17), .int 5] (fun (w : va_W) (r : Option Value) => (w = [] ∧ r = some (.int 115))) jj_noX := by
  refine jj_start hl (by decide) jw_6996a9eac3 (jj_le rfl) ?_
  intro p e s m args below meth c A hargs hA C hex hmn
  refine jj_iload_n C dJ1_charAt_3b067_0 rfl ?_
  refine jj_aload_n C dJ1_charAt_3b067_1 rfl ?_
  refine jj_slen (k := 17) (v := 7) C (by decide) (by decide) dJ1_charAt_3b067_2 ?_
  refine jq_callS (rest := []) C (ct_J0_checkIndex_df160_50 hl D cA ak) [] [] rfl rfl (by decide) (by decide) (by decide) jw_763fabfbf2 jw_9aa540e9dd jw_4ea6285965 jw_73f64df4e3 jn_J0_checkIndex_df160 rfl (jj_le rfl) (jj_le rfl) (jj_le rfl) (jj_le rfl) (jj_le rfl) dJ1_charAt_3b067_3 rfl (fun _ _ hX => hX.elim) (fun w1 r O_2 => ?_)
  obtain ⟨rfl, rfl⟩ := O_2
  refine jj_apd rfl ?_
  refine jj_aload_n C dJ1_charAt_3b067_6 rfl ?_
  refine jj_iload_n C dJ1_charAt_3b067_7 rfl ?_
  refine jj_sbyt (k := 17) (v := 115) C (by decide) (vp_in_iff.mpr (by decide)) (by decide) dJ1_charAt_3b067_8 ?_
  refine jj_sipush (v := 255) C dJ1_charAt_3b067_9 (by decide) ?_
  refine jj_iand (v := 115) C dJ1_charAt_3b067_12 (by decide) ?_
  refine jj_i2c (v := 115) C dJ1_charAt_3b067_13 (by decide) ?_
  exact jj_zret C rfl ⟨rfl, rfl⟩ dJ1_charAt_3b067_14 (jj_le rfl) (jj_le rfl)

set_option maxHeartbeats 4000000 in
set_option maxRecDepth 100000 in
theorem ct_J0_charAt_5068e_100 {l : Launch} (hl : l.stackTraces = false) (D : va_G) (cA : Nat → ClassId) (ak : (Nat → Nat) × (Nat → Nat)) : jj_M l D cA ak yJ0_charAt_5068e (.code yJ0_charAt_5068e cJ0_charAt_5068e 2 (some .char)) 3 64 0 0 [] [.ref (ak.1 17), .int 5] (fun (w : va_W) (r : Option Value) => (w = [] ∧ r = some (.int 115))) jj_noX := by
  refine jj_start hl (by decide) jw_391c0f56bd (jj_le rfl) ?_
  intro p e s m args below meth c A hargs hA C hex hmn
  refine jj_aload_n C dJ0_charAt_5068e_0 rfl ?_
  refine jq_callVs (rest := []) C (ct_J0_isLatin1_aae02_18 hl D cA ak) [] [] rfl rfl (by decide) (by decide) (by decide) 17 (by decide) rfl jw_5ca960aa2e jw_b7ba7c03ae jw_c4fe6f1e08 jw_4ea6285965 jw_1aa7753999 jn_J0_isLatin1_aae02 rfl (jj_le rfl) (jj_le rfl) (jj_le rfl) (jj_le rfl) (jj_le rfl) dJ0_charAt_5068e_1 rfl (fun _ _ hX => hX.elim) (fun w1 r O_2 => ?_)
  obtain ⟨rfl, rfl⟩ := O_2
  refine jj_apd rfl ?_
  refine jj_if_eqF (tgt := 16) C dJ0_charAt_5068e_4 (by decide) (by decide) ?_
  refine jj_aload_n C dJ0_charAt_5068e_7 rfl ?_
  refine jj_sval (k := 17) C (by decide) jw_90a506b1c3 dJ0_charAt_5068e_8 ?_
  refine jj_iload_n C dJ0_charAt_5068e_11 rfl ?_
  refine jq_callS (rest := []) C (ct_J1_charAt_3b067_100 hl D cA ak) [] [] rfl rfl (by decide) (by decide) (by decide) jw_7e2463d496 jw_530d7ac64c jw_2a3a2ce6ce jw_6996a9eac3 jn_J1_charAt_3b067 rfl (jj_le rfl) (jj_le rfl) (jj_le rfl) (jj_le rfl) (jj_le rfl) dJ0_charAt_5068e_12 rfl (fun _ _ hX => hX.elim) (fun w1 r O_4 => ?_)
  obtain ⟨rfl, rfl⟩ := O_4
  refine jj_apd rfl ?_
  exact jj_zret C rfl ⟨rfl, rfl⟩ dJ0_charAt_5068e_15 (jj_le rfl) (jj_le rfl)

set_option maxHeartbeats 4000000 in
set_option maxRecDepth 100000 in
theorem ct_J3_checkIndex_8e157_101 {l : Launch} (hl : l.stackTraces = false) (D : va_G) (cA : Nat → ClassId) (ak : (Nat → Nat) × (Nat → Nat)) (h0 : Nat) : jj_M l D cA ak yJ3_checkIndex_8e157 (.code yJ3_checkIndex_8e157 cJ3_checkIndex_8e157 3 (some .int)) 0 0 0 0 [] [.int 6, .int 7, .ref h0] (fun (w : va_W) (r : Option Value) => (w = [] ∧ r = some (.int 6))) jj_noX := by
  refine jj_start hl (by decide) jw_da9869a695 (jj_le rfl) ?_
  intro p e s m args below meth c A hargs hA C hex hmn
  refine jj_iload_n C dJ3_checkIndex_8e157_0 rfl ?_
  refine jj_if_ltF (tgt := 9) C dJ3_checkIndex_8e157_1 (by decide) (by decide) ?_
  refine jj_iload_n C dJ3_checkIndex_8e157_4 rfl ?_
  refine jj_iload_n C dJ3_checkIndex_8e157_5 rfl ?_
  refine jj_icmp_ltT (tgt := 16) C dJ3_checkIndex_8e157_6 (by decide) (by decide) ?_
  refine jj_iload_n C dJ3_checkIndex_8e157_16 rfl ?_
  exact jj_iret C ⟨rfl, rfl⟩ dJ3_checkIndex_8e157_17 (jj_le rfl) (jj_le rfl)

set_option maxHeartbeats 4000000 in
set_option maxRecDepth 100000 in
theorem ct_J3_checkIndex_8e157_102 {l : Launch} (hl : l.stackTraces = false) (D : va_G) (cA : Nat → ClassId) (ak : (Nat → Nat) × (Nat → Nat)) : jj_M l D cA ak yJ3_checkIndex_8e157 (.code yJ3_checkIndex_8e157 cJ3_checkIndex_8e157 3 (some .int)) 0 0 0 0 [] [.int 6, .int 7, .null] (fun (w : va_W) (r : Option Value) => (w = [] ∧ r = some (.int 6))) jj_noX := by
  refine jj_start hl (by decide) jw_da9869a695 (jj_le rfl) ?_
  intro p e s m args below meth c A hargs hA C hex hmn
  refine jj_iload_n C dJ3_checkIndex_8e157_0 rfl ?_
  refine jj_if_ltF (tgt := 9) C dJ3_checkIndex_8e157_1 (by decide) (by decide) ?_
  refine jj_iload_n C dJ3_checkIndex_8e157_4 rfl ?_
  refine jj_iload_n C dJ3_checkIndex_8e157_5 rfl ?_
  refine jj_icmp_ltT (tgt := 16) C dJ3_checkIndex_8e157_6 (by decide) (by decide) ?_
  refine jj_iload_n C dJ3_checkIndex_8e157_16 rfl ?_
  exact jj_iret C ⟨rfl, rfl⟩ dJ3_checkIndex_8e157_17 (jj_le rfl) (jj_le rfl)

set_option maxHeartbeats 4000000 in
set_option maxRecDepth 100000 in
theorem ct_J0_checkIndex_df160_51 {l : Launch} (hl : l.stackTraces = false) (D : va_G) (cA : Nat → ClassId) (ak : (Nat → Nat) × (Nat → Nat)) : jj_M l D cA ak yJ0_checkIndex_df160 (.code yJ0_checkIndex_df160 cJ0_checkIndex_df160 2 none) 1 22 0 0 [] [.int 6, .int 7] (fun (w : va_W) (r : Option Value) => (w = [] ∧ r = none)) jj_noX := by
  refine jj_start hl (by decide) jw_73f64df4e3 (jj_le rfl) ?_
  intro p e s m args below meth c A hargs hA C hex hmn
  refine jj_iload_n C dJ0_checkIndex_df160_0 rfl ?_
  refine jj_iload_n C dJ0_checkIndex_df160_1 rfl ?_
  refine jj_gfm C jw_040150fc39 dJ0_checkIndex_df160_2 (fun t_1 => ?_) ?_
  · refine jq_callS (rest := []) C (ct_J3_checkIndex_8e157_101 hl D cA ak t_1) [] [] rfl rfl (by decide) (by decide) (by decide) jw_a7a8b385a1 jw_8d35bed6b0 jw_2c7dffdd00 jw_da9869a695 jn_J3_checkIndex_8e157 rfl (jj_le rfl) (jj_le rfl) (jj_le rfl) (jj_le rfl) (jj_le rfl) dJ0_checkIndex_df160_5 rfl (fun _ _ hX => hX.elim) (fun w1 r O_3 => ?_)
    obtain ⟨rfl, rfl⟩ := O_3
    refine jj_apd rfl ?_
    refine jj_pop C dJ0_checkIndex_df160_8 rfl ?_
    exact jj_vret C ⟨rfl, rfl⟩ dJ0_checkIndex_df160_9 (jj_le rfl) (jj_le rfl)
  · refine jq_callS (rest := []) C (ct_J3_checkIndex_8e157_102 hl D cA ak) [] [] rfl rfl (by decide) (by decide) (by decide) jw_a7a8b385a1 jw_8d35bed6b0 jw_2c7dffdd00 jw_da9869a695 jn_J3_checkIndex_8e157 rfl (jj_le rfl) (jj_le rfl) (jj_le rfl) (jj_le rfl) (jj_le rfl) dJ0_checkIndex_df160_5 rfl (fun _ _ hX => hX.elim) (fun w1 r O_5 => ?_)
    obtain ⟨rfl, rfl⟩ := O_5
    refine jj_apd rfl ?_
    refine jj_pop C dJ0_checkIndex_df160_8 rfl ?_
    exact jj_vret C ⟨rfl, rfl⟩ dJ0_checkIndex_df160_9 (jj_le rfl) (jj_le rfl)

set_option maxHeartbeats 4000000 in
set_option maxRecDepth 100000 in
theorem ct_J1_charAt_3b067_101 {l : Launch} (hl : l.stackTraces = false) (D : va_G) (cA : Nat → ClassId) (ak : (Nat → Nat) × (Nat → Nat)) : jj_M l D cA ak yJ1_charAt_3b067 (.code yJ1_charAt_3b067 cJ1_charAt_3b067 2 (some .char)) 2 43 0 0 [] [.ref (ak.2 17), .int 6] (fun (w : va_W) (r : Option Value) => (w = [] ∧ r = some (.int 32))) jj_noX := by
  refine jj_start hl (by decide) jw_6996a9eac3 (jj_le rfl) ?_
  intro p e s m args below meth c A hargs hA C hex hmn
  refine jj_iload_n C dJ1_charAt_3b067_0 rfl ?_
  refine jj_aload_n C dJ1_charAt_3b067_1 rfl ?_
  refine jj_slen (k := 17) (v := 7) C (by decide) (by decide) dJ1_charAt_3b067_2 ?_
  refine jq_callS (rest := []) C (ct_J0_checkIndex_df160_51 hl D cA ak) [] [] rfl rfl (by decide) (by decide) (by decide) jw_763fabfbf2 jw_9aa540e9dd jw_4ea6285965 jw_73f64df4e3 jn_J0_checkIndex_df160 rfl (jj_le rfl) (jj_le rfl) (jj_le rfl) (jj_le rfl) (jj_le rfl) dJ1_charAt_3b067_3 rfl (fun _ _ hX => hX.elim) (fun w1 r O_2 => ?_)
  obtain ⟨rfl, rfl⟩ := O_2
  refine jj_apd rfl ?_
  refine jj_aload_n C dJ1_charAt_3b067_6 rfl ?_
  refine jj_iload_n C dJ1_charAt_3b067_7 rfl ?_
  refine jj_sbyt (k := 17) (v := 32) C (by decide) (vp_in_iff.mpr (by decide)) (by decide) dJ1_charAt_3b067_8 ?_
  refine jj_sipush (v := 255) C dJ1_charAt_3b067_9 (by decide) ?_
  refine jj_iand (v := 32) C dJ1_charAt_3b067_12 (by decide) ?_
  refine jj_i2c (v := 32) C dJ1_charAt_3b067_13 (by decide) ?_
  exact jj_zret C rfl ⟨rfl, rfl⟩ dJ1_charAt_3b067_14 (jj_le rfl) (jj_le rfl)

set_option maxHeartbeats 4000000 in
set_option maxRecDepth 100000 in
theorem ct_J0_charAt_5068e_101 {l : Launch} (hl : l.stackTraces = false) (D : va_G) (cA : Nat → ClassId) (ak : (Nat → Nat) × (Nat → Nat)) : jj_M l D cA ak yJ0_charAt_5068e (.code yJ0_charAt_5068e cJ0_charAt_5068e 2 (some .char)) 3 64 0 0 [] [.ref (ak.1 17), .int 6] (fun (w : va_W) (r : Option Value) => (w = [] ∧ r = some (.int 32))) jj_noX := by
  refine jj_start hl (by decide) jw_391c0f56bd (jj_le rfl) ?_
  intro p e s m args below meth c A hargs hA C hex hmn
  refine jj_aload_n C dJ0_charAt_5068e_0 rfl ?_
  refine jq_callVs (rest := []) C (ct_J0_isLatin1_aae02_18 hl D cA ak) [] [] rfl rfl (by decide) (by decide) (by decide) 17 (by decide) rfl jw_5ca960aa2e jw_b7ba7c03ae jw_c4fe6f1e08 jw_4ea6285965 jw_1aa7753999 jn_J0_isLatin1_aae02 rfl (jj_le rfl) (jj_le rfl) (jj_le rfl) (jj_le rfl) (jj_le rfl) dJ0_charAt_5068e_1 rfl (fun _ _ hX => hX.elim) (fun w1 r O_2 => ?_)
  obtain ⟨rfl, rfl⟩ := O_2
  refine jj_apd rfl ?_
  refine jj_if_eqF (tgt := 16) C dJ0_charAt_5068e_4 (by decide) (by decide) ?_
  refine jj_aload_n C dJ0_charAt_5068e_7 rfl ?_
  refine jj_sval (k := 17) C (by decide) jw_90a506b1c3 dJ0_charAt_5068e_8 ?_
  refine jj_iload_n C dJ0_charAt_5068e_11 rfl ?_
  refine jq_callS (rest := []) C (ct_J1_charAt_3b067_101 hl D cA ak) [] [] rfl rfl (by decide) (by decide) (by decide) jw_7e2463d496 jw_530d7ac64c jw_2a3a2ce6ce jw_6996a9eac3 jn_J1_charAt_3b067 rfl (jj_le rfl) (jj_le rfl) (jj_le rfl) (jj_le rfl) (jj_le rfl) dJ0_charAt_5068e_12 rfl (fun _ _ hX => hX.elim) (fun w1 r O_4 => ?_)
  obtain ⟨rfl, rfl⟩ := O_4
  refine jj_apd rfl ?_
  exact jj_zret C rfl ⟨rfl, rfl⟩ dJ0_charAt_5068e_15 (jj_le rfl) (jj_le rfl)

set_option maxHeartbeats 4000000 in
set_option maxRecDepth 100000 in
theorem ct_J0_coder_7d493_19 {l : Launch} (hl : l.stackTraces = false) (D : va_G) (cA : Nat → ClassId) (ak : (Nat → Nat) × (Nat → Nat)) : jj_M l D cA ak yJ0_coder_7d493 (.code yJ0_coder_7d493 cJ0_coder_7d493 1 (some .byte)) 0 0 0 0 [] [.ref (ak.1 18)] (fun (w : va_W) (r : Option Value) => (w = [] ∧ r = some (.int 0))) jj_noX := by
  refine jj_start hl (by decide) jw_084b973d83 (jj_le rfl) ?_
  intro p e s m args below meth c A hargs hA C hex hmn
  refine jj_gcs C jw_478bb18c33 dJ0_coder_7d493_0 ?_
  refine jj_if_eqF (tgt := 13) C dJ0_coder_7d493_3 (by decide) (by decide) ?_
  refine jj_aload_n C dJ0_coder_7d493_6 rfl ?_
  refine jj_scod (k := 18) C (by decide) jw_7816d6e515 dJ0_coder_7d493_7 ?_
  refine jj_goto (tgt := 14) C dJ0_coder_7d493_10 (by decide) ?_
  exact jj_zret C rfl ⟨rfl, rfl⟩ dJ0_coder_7d493_14 (jj_le rfl) (jj_le rfl)

set_option maxHeartbeats 4000000 in
set_option maxRecDepth 100000 in
theorem ct_J0_length_8abf5_19 {l : Launch} (hl : l.stackTraces = false) (D : va_G) (cA : Nat → ClassId) (ak : (Nat → Nat) × (Nat → Nat)) : jj_M l D cA ak yJ0_length_8abf5 (.code yJ0_length_8abf5 cJ0_length_8abf5 1 (some .int)) 1 20 0 0 [] [.ref (ak.1 18)] (fun (w : va_W) (r : Option Value) => (w = [] ∧ r = some (.int 1))) jj_noX := by
  refine jj_start hl (by decide) jw_bbc7045666 (jj_le rfl) ?_
  intro p e s m args below meth c A hargs hA C hex hmn
  refine jj_aload_n C dJ0_length_8abf5_0 rfl ?_
  refine jj_sval (k := 18) C (by decide) jw_90a506b1c3 dJ0_length_8abf5_1 ?_
  refine jj_slen (k := 18) (v := 1) C (by decide) (by decide) dJ0_length_8abf5_4 ?_
  refine jj_aload_n C dJ0_length_8abf5_5 rfl ?_
  refine jq_callVs (rest := [.int 1]) C (ct_J0_coder_7d493_19 hl D cA ak) [] [] rfl rfl (by decide) (by decide) (by decide) 18 (by decide) rfl jw_f46b3464d2 jw_35edddbded jw_31f76f5b78 jw_4ea6285965 jw_084b973d83 jn_J0_coder_7d493 rfl (jj_le rfl) (jj_le rfl) (jj_le rfl) (jj_le rfl) (jj_le rfl) dJ0_length_8abf5_6 rfl (fun _ _ hX => hX.elim) (fun w1 r O_2 => ?_)
  obtain ⟨rfl, rfl⟩ := O_2
  refine jj_apd rfl ?_
  refine jj_ishr (v := 1) C dJ0_length_8abf5_9 (by decide) ?_
  exact jj_iret C ⟨rfl, rfl⟩ dJ0_length_8abf5_10 (jj_le rfl) (jj_le rfl)

set_option maxHeartbeats 4000000 in
set_option maxRecDepth 100000 in
theorem ct_J0_isLatin1_aae02_19 {l : Launch} (hl : l.stackTraces = false) (D : va_G) (cA : Nat → ClassId) (ak : (Nat → Nat) × (Nat → Nat)) : jj_M l D cA ak yJ0_isLatin1_aae02 (.code yJ0_isLatin1_aae02 cJ0_isLatin1_aae02 1 (some .boolean)) 0 0 0 0 [] [.ref (ak.1 18)] (fun (w : va_W) (r : Option Value) => (w = [] ∧ r = some (.int 1))) jj_noX := by
  refine jj_start hl (by decide) jw_1aa7753999 (jj_le rfl) ?_
  intro p e s m args below meth c A hargs hA C hex hmn
  refine jj_gcs C jw_478bb18c33 dJ0_isLatin1_aae02_0 ?_
  refine jj_if_eqF (tgt := 17) C dJ0_isLatin1_aae02_3 (by decide) (by decide) ?_
  refine jj_aload_n C dJ0_isLatin1_aae02_6 rfl ?_
  refine jj_scod (k := 18) C (by decide) jw_7816d6e515 dJ0_isLatin1_aae02_7 ?_
  refine jj_if_neF (tgt := 17) C dJ0_isLatin1_aae02_10 (by decide) (by decide) ?_
  refine jj_iconst (v := 1) C dJ0_isLatin1_aae02_13 (by decide) ?_
  refine jj_goto (tgt := 18) C dJ0_isLatin1_aae02_14 (by decide) ?_
  exact jj_zret C rfl ⟨rfl, rfl⟩ dJ0_isLatin1_aae02_18 (jj_le rfl) (jj_le rfl)

set_option maxHeartbeats 4000000 in
set_option maxRecDepth 100000 in
theorem ct_J1_charAt_3b067_102 {l : Launch} (hl : l.stackTraces = false) (D : va_G) (cA : Nat → ClassId) (ak : (Nat → Nat) × (Nat → Nat)) : jj_M l D cA ak yJ1_charAt_3b067 (.code yJ1_charAt_3b067 cJ1_charAt_3b067 2 (some .char)) 2 43 0 0 [] [.ref (ak.2 18), .int 0] (fun (w : va_W) (r : Option Value) => (w = [] ∧ r = some (.int 32))) jj_noX := by
  refine jj_start hl (by decide) jw_6996a9eac3 (jj_le rfl) ?_
  intro p e s m args below meth c A hargs hA C hex hmn
  refine jj_iload_n C dJ1_charAt_3b067_0 rfl ?_
  refine jj_aload_n C dJ1_charAt_3b067_1 rfl ?_
  refine jj_slen (k := 18) (v := 1) C (by decide) (by decide) dJ1_charAt_3b067_2 ?_
  refine jq_callS (rest := []) C (ct_J0_checkIndex_df160_36 hl D cA ak) [] [] rfl rfl (by decide) (by decide) (by decide) jw_763fabfbf2 jw_9aa540e9dd jw_4ea6285965 jw_73f64df4e3 jn_J0_checkIndex_df160 rfl (jj_le rfl) (jj_le rfl) (jj_le rfl) (jj_le rfl) (jj_le rfl) dJ1_charAt_3b067_3 rfl (fun _ _ hX => hX.elim) (fun w1 r O_2 => ?_)
  obtain ⟨rfl, rfl⟩ := O_2
  refine jj_apd rfl ?_
  refine jj_aload_n C dJ1_charAt_3b067_6 rfl ?_
  refine jj_iload_n C dJ1_charAt_3b067_7 rfl ?_
  refine jj_sbyt (k := 18) (v := 32) C (by decide) (vp_in_iff.mpr (by decide)) (by decide) dJ1_charAt_3b067_8 ?_
  refine jj_sipush (v := 255) C dJ1_charAt_3b067_9 (by decide) ?_
  refine jj_iand (v := 32) C dJ1_charAt_3b067_12 (by decide) ?_
  refine jj_i2c (v := 32) C dJ1_charAt_3b067_13 (by decide) ?_
  exact jj_zret C rfl ⟨rfl, rfl⟩ dJ1_charAt_3b067_14 (jj_le rfl) (jj_le rfl)

set_option maxHeartbeats 4000000 in
set_option maxRecDepth 100000 in
theorem ct_J0_charAt_5068e_102 {l : Launch} (hl : l.stackTraces = false) (D : va_G) (cA : Nat → ClassId) (ak : (Nat → Nat) × (Nat → Nat)) : jj_M l D cA ak yJ0_charAt_5068e (.code yJ0_charAt_5068e cJ0_charAt_5068e 2 (some .char)) 3 64 0 0 [] [.ref (ak.1 18), .int 0] (fun (w : va_W) (r : Option Value) => (w = [] ∧ r = some (.int 32))) jj_noX := by
  refine jj_start hl (by decide) jw_391c0f56bd (jj_le rfl) ?_
  intro p e s m args below meth c A hargs hA C hex hmn
  refine jj_aload_n C dJ0_charAt_5068e_0 rfl ?_
  refine jq_callVs (rest := []) C (ct_J0_isLatin1_aae02_19 hl D cA ak) [] [] rfl rfl (by decide) (by decide) (by decide) 18 (by decide) rfl jw_5ca960aa2e jw_b7ba7c03ae jw_c4fe6f1e08 jw_4ea6285965 jw_1aa7753999 jn_J0_isLatin1_aae02 rfl (jj_le rfl) (jj_le rfl) (jj_le rfl) (jj_le rfl) (jj_le rfl) dJ0_charAt_5068e_1 rfl (fun _ _ hX => hX.elim) (fun w1 r O_2 => ?_)
  obtain ⟨rfl, rfl⟩ := O_2
  refine jj_apd rfl ?_
  refine jj_if_eqF (tgt := 16) C dJ0_charAt_5068e_4 (by decide) (by decide) ?_
  refine jj_aload_n C dJ0_charAt_5068e_7 rfl ?_
  refine jj_sval (k := 18) C (by decide) jw_90a506b1c3 dJ0_charAt_5068e_8 ?_
  refine jj_iload_n C dJ0_charAt_5068e_11 rfl ?_
  refine jq_callS (rest := []) C (ct_J1_charAt_3b067_102 hl D cA ak) [] [] rfl rfl (by decide) (by decide) (by decide) jw_7e2463d496 jw_530d7ac64c jw_2a3a2ce6ce jw_6996a9eac3 jn_J1_charAt_3b067 rfl (jj_le rfl) (jj_le rfl) (jj_le rfl) (jj_le rfl) (jj_le rfl) dJ0_charAt_5068e_12 rfl (fun _ _ hX => hX.elim) (fun w1 r O_4 => ?_)
  obtain ⟨rfl, rfl⟩ := O_4
  refine jj_apd rfl ?_
  exact jj_zret C rfl ⟨rfl, rfl⟩ dJ0_charAt_5068e_15 (jj_le rfl) (jj_le rfl)

set_option maxHeartbeats 4000000 in
set_option maxRecDepth 100000 in
theorem ct_J0_coder_7d493_20 {l : Launch} (hl : l.stackTraces = false) (D : va_G) (cA : Nat → ClassId) (ak : (Nat → Nat) × (Nat → Nat)) : jj_M l D cA ak yJ0_coder_7d493 (.code yJ0_coder_7d493 cJ0_coder_7d493 1 (some .byte)) 0 0 0 0 [] [.ref (ak.1 19)] (fun (w : va_W) (r : Option Value) => (w = [] ∧ r = some (.int 0))) jj_noX := by
  refine jj_start hl (by decide) jw_084b973d83 (jj_le rfl) ?_
  intro p e s m args below meth c A hargs hA C hex hmn
  refine jj_gcs C jw_478bb18c33 dJ0_coder_7d493_0 ?_
  refine jj_if_eqF (tgt := 13) C dJ0_coder_7d493_3 (by decide) (by decide) ?_
  refine jj_aload_n C dJ0_coder_7d493_6 rfl ?_
  refine jj_scod (k := 19) C (by decide) jw_7816d6e515 dJ0_coder_7d493_7 ?_
  refine jj_goto (tgt := 14) C dJ0_coder_7d493_10 (by decide) ?_
  exact jj_zret C rfl ⟨rfl, rfl⟩ dJ0_coder_7d493_14 (jj_le rfl) (jj_le rfl)

set_option maxHeartbeats 4000000 in
set_option maxRecDepth 100000 in
theorem ct_J0_length_8abf5_20 {l : Launch} (hl : l.stackTraces = false) (D : va_G) (cA : Nat → ClassId) (ak : (Nat → Nat) × (Nat → Nat)) : jj_M l D cA ak yJ0_length_8abf5 (.code yJ0_length_8abf5 cJ0_length_8abf5 1 (some .int)) 1 20 0 0 [] [.ref (ak.1 19)] (fun (w : va_W) (r : Option Value) => (w = [] ∧ r = some (.int 1))) jj_noX := by
  refine jj_start hl (by decide) jw_bbc7045666 (jj_le rfl) ?_
  intro p e s m args below meth c A hargs hA C hex hmn
  refine jj_aload_n C dJ0_length_8abf5_0 rfl ?_
  refine jj_sval (k := 19) C (by decide) jw_90a506b1c3 dJ0_length_8abf5_1 ?_
  refine jj_slen (k := 19) (v := 1) C (by decide) (by decide) dJ0_length_8abf5_4 ?_
  refine jj_aload_n C dJ0_length_8abf5_5 rfl ?_
  refine jq_callVs (rest := [.int 1]) C (ct_J0_coder_7d493_20 hl D cA ak) [] [] rfl rfl (by decide) (by decide) (by decide) 19 (by decide) rfl jw_f46b3464d2 jw_35edddbded jw_31f76f5b78 jw_4ea6285965 jw_084b973d83 jn_J0_coder_7d493 rfl (jj_le rfl) (jj_le rfl) (jj_le rfl) (jj_le rfl) (jj_le rfl) dJ0_length_8abf5_6 rfl (fun _ _ hX => hX.elim) (fun w1 r O_2 => ?_)
  obtain ⟨rfl, rfl⟩ := O_2
  refine jj_apd rfl ?_
  refine jj_ishr (v := 1) C dJ0_length_8abf5_9 (by decide) ?_
  exact jj_iret C ⟨rfl, rfl⟩ dJ0_length_8abf5_10 (jj_le rfl) (jj_le rfl)

set_option maxHeartbeats 4000000 in
set_option maxRecDepth 100000 in
theorem ct_J0_isLatin1_aae02_20 {l : Launch} (hl : l.stackTraces = false) (D : va_G) (cA : Nat → ClassId) (ak : (Nat → Nat) × (Nat → Nat)) : jj_M l D cA ak yJ0_isLatin1_aae02 (.code yJ0_isLatin1_aae02 cJ0_isLatin1_aae02 1 (some .boolean)) 0 0 0 0 [] [.ref (ak.1 19)] (fun (w : va_W) (r : Option Value) => (w = [] ∧ r = some (.int 1))) jj_noX := by
  refine jj_start hl (by decide) jw_1aa7753999 (jj_le rfl) ?_
  intro p e s m args below meth c A hargs hA C hex hmn
  refine jj_gcs C jw_478bb18c33 dJ0_isLatin1_aae02_0 ?_
  refine jj_if_eqF (tgt := 17) C dJ0_isLatin1_aae02_3 (by decide) (by decide) ?_
  refine jj_aload_n C dJ0_isLatin1_aae02_6 rfl ?_
  refine jj_scod (k := 19) C (by decide) jw_7816d6e515 dJ0_isLatin1_aae02_7 ?_
  refine jj_if_neF (tgt := 17) C dJ0_isLatin1_aae02_10 (by decide) (by decide) ?_
  refine jj_iconst (v := 1) C dJ0_isLatin1_aae02_13 (by decide) ?_
  refine jj_goto (tgt := 18) C dJ0_isLatin1_aae02_14 (by decide) ?_
  exact jj_zret C rfl ⟨rfl, rfl⟩ dJ0_isLatin1_aae02_18 (jj_le rfl) (jj_le rfl)

set_option maxHeartbeats 4000000 in
set_option maxRecDepth 100000 in
theorem ct_J1_charAt_3b067_103 {l : Launch} (hl : l.stackTraces = false) (D : va_G) (cA : Nat → ClassId) (ak : (Nat → Nat) × (Nat → Nat)) : jj_M l D cA ak yJ1_charAt_3b067 (.code yJ1_charAt_3b067 cJ1_charAt_3b067 2 (some .char)) 2 43 0 0 [] [.ref (ak.2 19), .int 0] (fun (w : va_W) (r : Option Value) => (w = [] ∧ r = some (.int 58))) jj_noX := by
  refine jj_start hl (by decide) jw_6996a9eac3 (jj_le rfl) ?_
  intro p e s m args below meth c A hargs hA C hex hmn
  refine jj_iload_n C dJ1_charAt_3b067_0 rfl ?_
  refine jj_aload_n C dJ1_charAt_3b067_1 rfl ?_
  refine jj_slen (k := 19) (v := 1) C (by decide) (by decide) dJ1_charAt_3b067_2 ?_
  refine jq_callS (rest := []) C (ct_J0_checkIndex_df160_36 hl D cA ak) [] [] rfl rfl (by decide) (by decide) (by decide) jw_763fabfbf2 jw_9aa540e9dd jw_4ea6285965 jw_73f64df4e3 jn_J0_checkIndex_df160 rfl (jj_le rfl) (jj_le rfl) (jj_le rfl) (jj_le rfl) (jj_le rfl) dJ1_charAt_3b067_3 rfl (fun _ _ hX => hX.elim) (fun w1 r O_2 => ?_)
  obtain ⟨rfl, rfl⟩ := O_2
  refine jj_apd rfl ?_
  refine jj_aload_n C dJ1_charAt_3b067_6 rfl ?_
  refine jj_iload_n C dJ1_charAt_3b067_7 rfl ?_
  refine jj_sbyt (k := 19) (v := 58) C (by decide) (vp_in_iff.mpr (by decide)) (by decide) dJ1_charAt_3b067_8 ?_
  refine jj_sipush (v := 255) C dJ1_charAt_3b067_9 (by decide) ?_
  refine jj_iand (v := 58) C dJ1_charAt_3b067_12 (by decide) ?_
  refine jj_i2c (v := 58) C dJ1_charAt_3b067_13 (by decide) ?_
  exact jj_zret C rfl ⟨rfl, rfl⟩ dJ1_charAt_3b067_14 (jj_le rfl) (jj_le rfl)

set_option maxHeartbeats 4000000 in
set_option maxRecDepth 100000 in
theorem ct_J0_charAt_5068e_103 {l : Launch} (hl : l.stackTraces = false) (D : va_G) (cA : Nat → ClassId) (ak : (Nat → Nat) × (Nat → Nat)) : jj_M l D cA ak yJ0_charAt_5068e (.code yJ0_charAt_5068e cJ0_charAt_5068e 2 (some .char)) 3 64 0 0 [] [.ref (ak.1 19), .int 0] (fun (w : va_W) (r : Option Value) => (w = [] ∧ r = some (.int 58))) jj_noX := by
  refine jj_start hl (by decide) jw_391c0f56bd (jj_le rfl) ?_
  intro p e s m args below meth c A hargs hA C hex hmn
  refine jj_aload_n C dJ0_charAt_5068e_0 rfl ?_
  refine jq_callVs (rest := []) C (ct_J0_isLatin1_aae02_20 hl D cA ak) [] [] rfl rfl (by decide) (by decide) (by decide) 19 (by decide) rfl jw_5ca960aa2e jw_b7ba7c03ae jw_c4fe6f1e08 jw_4ea6285965 jw_1aa7753999 jn_J0_isLatin1_aae02 rfl (jj_le rfl) (jj_le rfl) (jj_le rfl) (jj_le rfl) (jj_le rfl) dJ0_charAt_5068e_1 rfl (fun _ _ hX => hX.elim) (fun w1 r O_2 => ?_)
  obtain ⟨rfl, rfl⟩ := O_2
  refine jj_apd rfl ?_
  refine jj_if_eqF (tgt := 16) C dJ0_charAt_5068e_4 (by decide) (by decide) ?_
  refine jj_aload_n C dJ0_charAt_5068e_7 rfl ?_
  refine jj_sval (k := 19) C (by decide) jw_90a506b1c3 dJ0_charAt_5068e_8 ?_
  refine jj_iload_n C dJ0_charAt_5068e_11 rfl ?_
  refine jq_callS (rest := []) C (ct_J1_charAt_3b067_103 hl D cA ak) [] [] rfl rfl (by decide) (by decide) (by decide) jw_7e2463d496 jw_530d7ac64c jw_2a3a2ce6ce jw_6996a9eac3 jn_J1_charAt_3b067 rfl (jj_le rfl) (jj_le rfl) (jj_le rfl) (jj_le rfl) (jj_le rfl) dJ0_charAt_5068e_12 rfl (fun _ _ hX => hX.elim) (fun w1 r O_4 => ?_)
  obtain ⟨rfl, rfl⟩ := O_4
  refine jj_apd rfl ?_
  exact jj_zret C rfl ⟨rfl, rfl⟩ dJ0_charAt_5068e_15 (jj_le rfl) (jj_le rfl)

