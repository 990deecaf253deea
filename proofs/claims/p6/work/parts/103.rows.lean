set_option maxHeartbeats 4000000 in
set_option maxRecDepth 100000 in
theorem ct_J1_charAt_3b067_66 {l : Launch} (hl : l.stackTraces = false) (D : va_G) (cA : Nat → ClassId) (ak : (Nat → Nat) × (Nat → Nat)) : jj_M l D cA ak yJ1_charAt_3b067 (.code yJ1_charAt_3b067 cJ1_charAt_3b067 2 (some .char)) 2 43 0 0 [] [.ref (ak.2 11), .int 1] (fun (w : va_W) (r : Option Value) => (w = [] ∧ r = some (.int 114))) jj_noX := by
  refine jj_start hl (by decide) jw_6996a9eac3 (jj_le rfl) ?_
  intro p e s m args below meth c A hargs hA C hex hmn
  refine jj_iload_n C dJ1_charAt_3b067_0 rfl ?_
  refine jj_aload_n C dJ1_charAt_3b067_1 rfl ?_
  refine jj_slen (k := 11) (v := 11) C (by decide) (by decide) dJ1_charAt_3b067_2 ?_
  refine jq_callS (rest := []) C (ct_J0_checkIndex_df160_26 hl D cA ak) [] [] rfl rfl (by decide) (by decide) (by decide) jw_763fabfbf2 jw_9aa540e9dd jw_4ea6285965 jw_73f64df4e3 jn_J0_checkIndex_df160 rfl (jj_le rfl) (jj_le rfl) (jj_le rfl) (jj_le rfl) (jj_le rfl) dJ1_charAt_3b067_3 rfl (fun _ _ hX => hX.elim) (fun w1 r O_2 => ?_)
  obtain ⟨rfl, rfl⟩ := O_2
  refine jj_apd rfl ?_
  refine jj_aload_n C dJ1_charAt_3b067_6 rfl ?_
  refine jj_iload_n C dJ1_charAt_3b067_7 rfl ?_
  refine jj_sbyt (k := 11) (v := 114) C (by decide) (vp_in_iff.mpr (by decide)) (by decide) dJ1_charAt_3b067_8 ?_
  refine jj_sipush (v := 255) C dJ1_charAt_3b067_9 (by decide) ?_
  refine jj_iand (v := 114) C dJ1_charAt_3b067_12 (by decide) ?_
  refine jj_i2c (v := 114) C dJ1_charAt_3b067_13 (by decide) ?_
  exact jj_zret C rfl ⟨rfl, rfl⟩ dJ1_charAt_3b067_14 (jj_le rfl) (jj_le rfl)

set_option maxHeartbeats 4000000 in
set_option maxRecDepth 100000 in
theorem ct_J0_charAt_5068e_66 {l : Launch} (hl : l.stackTraces = false) (D : va_G) (cA : Nat → ClassId) (ak : (Nat → Nat) × (Nat → Nat)) : jj_M l D cA ak yJ0_charAt_5068e (.code yJ0_charAt_5068e cJ0_charAt_5068e 2 (some .char)) 3 64 0 0 [] [.ref (ak.1 11), .int 1] (fun (w : va_W) (r : Option Value) => (w = [] ∧ r = some (.int 114))) jj_noX := by
  refine jj_start hl (by decide) jw_391c0f56bd (jj_le rfl) ?_
  intro p e s m args below meth c A hargs hA C hex hmn
  refine jj_aload_n C dJ0_charAt_5068e_0 rfl ?_
  refine jq_callVs (rest := []) C (ct_J0_isLatin1_aae02_12 hl D cA ak) [] [] rfl rfl (by decide) (by decide) (by decide) 11 (by decide) rfl jw_5ca960aa2e jw_b7ba7c03ae jw_c4fe6f1e08 jw_4ea6285965 jw_1aa7753999 jn_J0_isLatin1_aae02 rfl (jj_le rfl) (jj_le rfl) (jj_le rfl) (jj_le rfl) (jj_le rfl) dJ0_charAt_5068e_1 rfl (fun _ _ hX => hX.elim) (fun w1 r O_2 => ?_)
  obtain ⟨rfl, rfl⟩ := O_2
  refine jj_apd rfl ?_
  refine jj_if_eqF (tgt := 16) C dJ0_charAt_5068e_4 (by decide) (by decide) ?_
  refine jj_aload_n C dJ0_charAt_5068e_7 rfl ?_
  refine jj_sval (k := 11) C (by decide) jw_90a506b1c3 dJ0_charAt_5068e_8 ?_
  refine jj_iload_n C dJ0_charAt_5068e_11 rfl ?_
  refine jq_callS (rest := []) C (ct_J1_charAt_3b067_66 hl D cA ak) [] [] rfl rfl (by decide) (by decide) (by decide) jw_7e2463d496 jw_530d7ac64c jw_2a3a2ce6ce jw_6996a9eac3 jn_J1_charAt_3b067 rfl (jj_le rfl) (jj_le rfl) (jj_le rfl) (jj_le rfl) (jj_le rfl) dJ0_charAt_5068e_12 rfl (fun _ _ hX => hX.elim) (fun w1 r O_4 => ?_)
  obtain ⟨rfl, rfl⟩ := O_4
  refine jj_apd rfl ?_
  exact jj_zret C rfl ⟨rfl, rfl⟩ dJ0_charAt_5068e_15 (jj_le rfl) (jj_le rfl)

set_option maxHeartbeats 4000000 in
set_option maxRecDepth 100000 in
theorem ct_J3_checkIndex_8e157_53 {l : Launch} (hl : l.stackTraces = false) (D : va_G) (cA : Nat → ClassId) (ak : (Nat → Nat) × (Nat → Nat)) (h0 : Nat) : jj_M l D cA ak yJ3_checkIndex_8e157 (.code yJ3_checkIndex_8e157 cJ3_checkIndex_8e157 3 (some .int)) 0 0 0 0 [] [.int 2, .int 11, .ref h0] (fun (w : va_W) (r : Option Value) => (w = [] ∧ r = some (.int 2))) jj_noX := by
  refine jj_start hl (by decide) jw_da9869a695 (jj_le rfl) ?_
  intro p e s m args below meth c A hargs hA C hex hmn
  refine jj_iload_n C dJ3_checkIndex_8e157_0 rfl ?_
  refine jj_if_ltF (tgt := 9) C dJ3_checkIndex_8e157_1 (by decide) (by decide) ?_
  refine jj_iload_n C dJ3_checkIndex_8e157_4 rfl ?_
  refine jj_iload_n C dJ3_checkIndex_8e157_5 rfl ?_
  refine jj_icmp_ltT (tgt := 16) C dJ3_checkIndex_8e157_6 (by decide) (by decide) ?_
  refine jj_iload_n C dJ3_checkIndex_8e157_16 rfl ?_
  exact jj_iret C ⟨rfl, rfl⟩ dJ3_checkIndex_8e157_17 (jj_le rfl) (jj_le rfl)

set_option maxHeartbeats 4000000 in
set_option maxRecDepth 100000 in
theorem ct_J3_checkIndex_8e157_54 {l : Launch} (hl : l.stackTraces = false) (D : va_G) (cA : Nat → ClassId) (ak : (Nat → Nat) × (Nat → Nat)) : jj_M l D cA ak yJ3_checkIndex_8e157 (.code yJ3_checkIndex_8e157 cJ3_checkIndex_8e157 3 (some .int)) 0 0 0 0 [] [.int 2, .int 11, .null] (fun (w : va_W) (r : Option Value) => (w = [] ∧ r = some (.int 2))) jj_noX := by
  refine jj_start hl (by decide) jw_da9869a695 (jj_le rfl) ?_
  intro p e s m args below meth c A hargs hA C hex hmn
  refine jj_iload_n C dJ3_checkIndex_8e157_0 rfl ?_
  refine jj_if_ltF (tgt := 9) C dJ3_checkIndex_8e157_1 (by decide) (by decide) ?_
  refine jj_iload_n C dJ3_checkIndex_8e157_4 rfl ?_
  refine jj_iload_n C dJ3_checkIndex_8e157_5 rfl ?_
  refine jj_icmp_ltT (tgt := 16) C dJ3_checkIndex_8e157_6 (by decide) (by decide) ?_
  refine jj_iload_n C dJ3_checkIndex_8e157_16 rfl ?_
  exact jj_iret C ⟨rfl, rfl⟩ dJ3_checkIndex_8e157_17 (jj_le rfl) (jj_le rfl)

set_option maxHeartbeats 4000000 in
set_option maxRecDepth 100000 in
theorem ct_J0_checkIndex_df160_27 {l : Launch} (hl : l.stackTraces = false) (D : va_G) (cA : Nat → ClassId) (ak : (Nat → Nat) × (Nat → Nat)) : jj_M l D cA ak yJ0_checkIndex_df160 (.code yJ0_checkIndex_df160 cJ0_checkIndex_df160 2 none) 1 22 0 0 [] [.int 2, .int 11] (fun (w : va_W) (r : Option Value) => (w = [] ∧ r = none)) jj_noX := by
  refine jj_start hl (by decide) jw_73f64df4e3 (jj_le rfl) ?_
  intro p e s m args below meth c A hargs hA C hex hmn
  refine jj_iload_n C dJ0_checkIndex_df160_0 rfl ?_
  refine jj_iload_n C dJ0_checkIndex_df160_1 rfl ?_
  refine jj_gfm C jw_040150fc39 dJ0_checkIndex_df160_2 (fun t_1 => ?_) ?_
  · refine jq_callS (rest := []) C (ct_J3_checkIndex_8e157_53 hl D cA ak t_1) [] [] rfl rfl (by decide) (by decide) (by decide) jw_a7a8b385a1 jw_8d35bed6b0 jw_2c7dffdd00 jw_da9869a695 jn_J3_checkIndex_8e157 rfl (jj_le rfl) (jj_le rfl) (jj_le rfl) (jj_le rfl) (jj_le rfl) dJ0_checkIndex_df160_5 rfl (fun _ _ hX => hX.elim) (fun w1 r O_3 => ?_)
    obtain ⟨rfl, rfl⟩ := O_3
    refine jj_apd rfl ?_
    refine jj_pop C dJ0_checkIndex_df160_8 rfl ?_
    exact jj_vret C ⟨rfl, rfl⟩ dJ0_checkIndex_df160_9 (jj_le rfl) (jj_le rfl)
  · refine jq_callS (rest := []) C (ct_J3_checkIndex_8e157_54 hl D cA ak) [] [] rfl rfl (by decide) (by decide) (by decide) jw_a7a8b385a1 jw_8d35bed6b0 jw_2c7dffdd00 jw_da9869a695 jn_J3_checkIndex_8e157 rfl (jj_le rfl) (jj_le rfl) (jj_le rfl) (jj_le rfl) (jj_le rfl) dJ0_checkIndex_df160_5 rfl (fun _ _ hX => hX.elim) (fun w1 r O_5 => ?_)
    obtain ⟨rfl, rfl⟩ := O_5
    refine jj_apd rfl ?_
    refine jj_pop C dJ0_checkIndex_df160_8 rfl ?_
    exact jj_vret C ⟨rfl, rfl⟩ dJ0_checkIndex_df160_9 (jj_le rfl) (jj_le rfl)

set_option maxHeartbeats 4000000 in
set_option maxRecDepth 100000 in
theorem ct_J1_charAt_3b067_67 {l : Launch} (hl : l.stackTraces = false) (D : va_G) (cA : Nat → ClassId) (ak : (Nat → Nat) × (Nat → Nat)) : jj_M l D cA ak yJ1_charAt_3b067 (.code yJ1_charAt_3b067 cJ1_charAt_3b067 2 (some .char)) 2 43 0 0 [] [.ref (ak.2 11), .int 2] (fun (w : va_W) (r : Option Value) => (w = [] ∧ r = some (.int 121))) jj_noX := by
  refine jj_start hl (by decide) jw_6996a9eac3 (jj_le rfl) ?_
  intro p e s m args below meth c A hargs hA C hex hmn
  refine jj_iload_n C dJ1_charAt_3b067_0 rfl ?_
  refine jj_aload_n C dJ1_charAt_3b067_1 rfl ?_
  refine jj_slen (k := 11) (v := 11) C (by decide) (by decide) dJ1_charAt_3b067_2 ?_
  refine jq_callS (rest := []) C (ct_J0_checkIndex_df160_27 hl D cA ak) [] [] rfl rfl (by decide) (by decide) (by decide) jw_763fabfbf2 jw_9aa540e9dd jw_4ea6285965 jw_73f64df4e3 jn_J0_checkIndex_df160 rfl (jj_le rfl) (jj_le rfl) (jj_le rfl) (jj_le rfl) (jj_le rfl) dJ1_charAt_3b067_3 rfl (fun _ _ hX => hX.elim) (fun w1 r O_2 => ?_)
  obtain ⟨rfl, rfl⟩ := O_2
  refine jj_apd rfl ?_
  refine jj_aload_n C dJ1_charAt_3b067_6 rfl ?_
  refine jj_iload_n C dJ1_charAt_3b067_7 rfl ?_
  refine jj_sbyt (k := 11) (v := 121) C (by decide) (vp_in_iff.mpr (by decide)) (by decide) dJ1_charAt_3b067_8 ?_
  refine jj_sipush (v := 255) C dJ1_charAt_3b067_9 (by decide) ?_
  refine jj_iand (v := 121) C dJ1_charAt_3b067_12 (by decide) ?_
  refine jj_i2c (v := 121) C dJ1_charAt_3b067_13 (by decide) ?_
  exact jj_zret C rfl ⟨rfl, rfl⟩ dJ1_charAt_3b067_14 (jj_le rfl) (jj_le rfl)

set_option maxHeartbeats 4000000 in
set_option maxRecDepth 100000 in
theorem ct_J0_charAt_5068e_67 {l : Launch} (hl : l.stackTraces = false) (D : va_G) (cA : Nat → ClassId) (ak : (Nat → Nat) × (Nat → Nat)) : jj_M l D cA ak yJ0_charAt_5068e (.code yJ0_charAt_5068e cJ0_charAt_5068e 2 (some .char)) 3 64 0 0 [] [.ref (ak.1 11), .int 2] (fun (w : va_W) (r : Option Value) => (w = [] ∧ r = some (.int 121))) jj_noX := by
  refine jj_start hl (by decide) jw_391c0f56bd (jj_le rfl) ?_
  intro p e s m args below meth c A hargs hA C hex hmn
  refine jj_aload_n C dJ0_charAt_5068e_0 rfl ?_
  refine jq_callVs (rest := []) C (ct_J0_isLatin1_aae02_12 hl D cA ak) [] [] rfl rfl (by decide) (by decide) (by decide) 11 (by decide) rfl jw_5ca960aa2e jw_b7ba7c03ae jw_c4fe6f1e08 jw_4ea6285965 jw_1aa7753999 jn_J0_isLatin1_aae02 rfl (jj_le rfl) (jj_le rfl) (jj_le rfl) (jj_le rfl) (jj_le rfl) dJ0_charAt_5068e_1 rfl (fun _ _ hX => hX.elim) (fun w1 r O_2 => ?_)
  obtain ⟨rfl, rfl⟩ := O_2
  refine jj_apd rfl ?_
  refine jj_if_eqF (tgt := 16) C dJ0_charAt_5068e_4 (by decide) (by decide) ?_
  refine jj_aload_n C dJ0_charAt_5068e_7 rfl ?_
  refine jj_sval (k := 11) C (by decide) jw_90a506b1c3 dJ0_charAt_5068e_8 ?_
  refine jj_iload_n C dJ0_charAt_5068e_11 rfl ?_
  refine jq_callS (rest := []) C (ct_J1_charAt_3b067_67 hl D cA ak) [] [] rfl rfl (by decide) (by decide) (by decide) jw_7e2463d496 jw_530d7ac64c jw_2a3a2ce6ce jw_6996a9eac3 jn_J1_charAt_3b067 rfl (jj_le rfl) (jj_le rfl) (jj_le rfl) (jj_le rfl) (jj_le rfl) dJ0_charAt_5068e_12 rfl (fun _ _ hX => hX.elim) (fun w1 r O_4 => ?_)
  obtain ⟨rfl, rfl⟩ := O_4
  refine jj_apd rfl ?_
  exact jj_zret C rfl ⟨rfl, rfl⟩ dJ0_charAt_5068e_15 (jj_le rfl) (jj_le rfl)

set_option maxHeartbeats 4000000 in
set_option maxRecDepth 100000 in
theorem ct_J3_checkIndex_8e157_55 {l : Launch} (hl : l.stackTraces = false) (D : va_G) (cA : Nat → ClassId) (ak : (Nat → Nat) × (Nat → Nat)) (h0 : Nat) : jj_M l D cA ak yJ3_checkIndex_8e157 (.code yJ3_checkIndex_8e157 cJ3_checkIndex_8e157 3 (some .int)) 0 0 0 0 [] [.int 3, .int 11, .ref h0] (fun (w : va_W) (r : Option Value) => (w = [] ∧ r = some (.int 3))) jj_noX := by
  refine jj_start hl (by decide) jw_da9869a695 (jj_le rfl) ?_
  intro p e s m args below meth c A hargs hA C hex hmn
  refine jj_iload_n C dJ3_checkIndex_8e157_0 rfl ?_
  refine jj_if_ltF (tgt := 9) C dJ3_checkIndex_8e157_1 (by decide) (by decide) ?_
  refine jj_iload_n C dJ3_checkIndex_8e157_4 rfl ?_
  refine jj_iload_n C dJ3_checkIndex_8e157_5 rfl ?_
  refine jj_icmp_ltT (tgt := 16) C dJ3_checkIndex_8e157_6 (by decide) (by decide) ?_
  refine jj_iload_n C dJ3_checkIndex_8e157_16 rfl ?_
  exact jj_iret C ⟨rfl, rfl⟩ dJ3_checkIndex_8e157_17 (jj_le rfl) (jj_le rfl)

set_option maxHeartbeats 4000000 in
set_option maxRecDepth 100000 in
theorem ct_J3_checkIndex_8e157_56 {l : Launch} (hl : l.stackTraces = false) (D : va_G) (cA : Nat → ClassId) (ak : (Nat → Nat) × (Nat → Nat)) : jj_M l D cA ak yJ3_checkIndex_8e157 (.code yJ3_checkIndex_8e157 cJ3_checkIndex_8e157 3 (some .int)) 0 0 0 0 [] [.int 3, .int 11, .null] (fun (w : va_W) (r : Option Value) => (w = [] ∧ r = some (.int 3))) jj_noX := by
  refine jj_start hl (by decide) jw_da9869a695 (jj_le rfl) ?_
  intro p e s m args below meth c A hargs hA C hex hmn
  refine jj_iload_n C dJ3_checkIndex_8e157_0 rfl ?_
  refine jj_if_ltF (tgt := 9) C dJ3_checkIndex_8e157_1 (by decide) (by decide) ?_
  refine jj_iload_n C dJ3_checkIndex_8e157_4 rfl ?_
  refine jj_iload_n C dJ3_checkIndex_8e157_5 rfl ?_
  refine jj_icmp_ltT (tgt := 16) C dJ3_checkIndex_8e157_6 (by decide) (by decide) ?_
  refine jj_iload_n C dJ3_checkIndex_8e157_16 rfl ?_
  exact jj_iret C ⟨rfl, rfl⟩ dJ3_checkIndex_8e157_17 (jj_le rfl) (jj_le rfl)

set_option maxHeartbeats 4000000 in
set_option maxRecDepth 100000 in
theorem ct_J0_checkIndex_df160_28 {l : Launch} (hl : l.stackTraces = false) (D : va_G) (cA : Nat → ClassId) (ak : (Nat → Nat) × (Nat → Nat)) : jj_M l D cA ak yJ0_checkIndex_df160 (.code yJ0_checkIndex_df160 cJ0_checkIndex_df160 2 none) 1 22 0 0 [] [.int 3, .int 11] (fun (w : va_W) (r : Option Value) => (w = [] ∧ r = none)) jj_noX := by
  refine jj_start hl (by decide) jw_73f64df4e3 (jj_le rfl) ?_
  intro p e s m args below meth c A hargs hA C hex hmn
  refine jj_iload_n C dJ0_checkIndex_df160_0 rfl ?_
  refine jj_iload_n C dJ0_checkIndex_df160_1 rfl ?_
  refine jj_gfm C jw_040150fc39 dJ0_checkIndex_df160_2 (fun t_1 => ?_) ?_
  · refine jq_callS (rest := []) C (ct_J3_checkIndex_8e157_55 hl D cA ak t_1) [] [] rfl rfl (by decide) (by decide) (by decide) jw_a7a8b385a1 jw_8d35bed6b0 jw_2c7dffdd00 jw_da9869a695 jn_J3_checkIndex_8e157 rfl (jj_le rfl) (jj_le rfl) (jj_le rfl) (jj_le rfl) (jj_le rfl) dJ0_checkIndex_df160_5 rfl (fun _ _ hX => hX.elim) (fun w1 r O_3 => ?_)
    obtain ⟨rfl, rfl⟩ := O_3
    refine jj_apd rfl ?_
    refine jj_pop C dJ0_checkIndex_df160_8 rfl ?_
    exact jj_vret C ⟨rfl, rfl⟩ dJ0_checkIndex_df160_9 (jj_le rfl) (jj_le rfl)
  · refine jq_callS (rest := []) C (ct_J3_checkIndex_8e157_56 hl D cA ak) [] [] rfl rfl (by decide) (by decide) (by decide) jw_a7a8b385a1 jw_8d35bed6b0 jw_2c7dffdd00 jw_da9869a695 jn_J3_checkIndex_8e157 rfl (jj_le rfl) (jj_le rfl) (jj_le rfl) (jj_le rfl) (jj_le rfl) dJ0_checkIndex_df160_5 rfl (fun _ _ hX => hX.elim) (fun w1 r O_5 => ?_)
    obtain ⟨rfl, rfl⟩ := O_5
    refine jj_apd rfl ?_
    refine jj_pop C dJ0_checkIndex_df160_8 rfl ?_
    exact jj_vret C ⟨rfl, rfl⟩ dJ0_checkIndex_df160_9 (jj_le rfl) (jj_le rfl)

set_option maxHeartbeats 4000000 in
set_option maxRecDepth 100000 in
theorem ct_J1_charAt_3b067_68 {l : Launch} (hl : l.stackTraces = false) (D : va_G) (cA : Nat → ClassId) (ak : (Nat → Nat) × (Nat → Nat)) : jj_M l D cA ak yJ1_charAt_3b067 (.code yJ1_charAt_3b067 cJ1_charAt_3b067 2 (some .char)) 2 43 0 0 [] [.ref (ak.2 11), .int 3] (fun (w : va_W) (r : Option Value) => (w = [] ∧ r = some (.int 115))) jj_noX := by
  refine jj_start hl (by decide) jw_6996a9eac3 (jj_le rfl) ?_
  intro p e s m args below meth c A hargs hA C hex hmn
  refine jj_iload_n C dJ1_charAt_3b067_0 rfl ?_
  refine jj_aload_n C dJ1_charAt_3b067_1 rfl ?_
  refine jj_slen (k := 11) (v := 11) C (by decide) (by decide) dJ1_charAt_3b067_2 ?_
  refine jq_callS (rest := []) C (ct_J0_checkIndex_df160_28 hl D cA ak) [] [] rfl rfl (by decide) (by decide) (by decide) jw_763fabfbf2 jw_9aa540e9dd jw_4ea6285965 jw_73f64df4e3 jn_J0_checkIndex_df160 rfl (jj_le rfl) (jj_le rfl) (jj_le rfl) (jj_le rfl) (jj_le rfl) dJ1_charAt_3b067_3 rfl (fun _ _ hX => hX.elim) (fun w1 r O_2 => ?_)
  obtain ⟨rfl, rfl⟩ := O_2
  refine jj_apd rfl ?_
  refine jj_aload_n C dJ1_charAt_3b067_6 rfl ?_
  refine jj_iload_n C dJ1_charAt_3b067_7 rfl ?_
  refine jj_sbyt (k := 11) (v := 115) C (by decide) (vp_in_iff.mpr (by decide)) (by decide) dJ1_charAt_3b067_8 ?_
  refine jj_sipush (v := 255) C dJ1_charAt_3b067_9 (by decide) ?_
  refine jj_iand (v := 115) C dJ1_charAt_3b067_12 (by decide) ?_
  refine jj_i2c (v := 115) C dJ1_charAt_3b067_13 (by decide) ?_
  exact jj_zret C rfl ⟨rfl, rfl⟩ dJ1_charAt_3b067_14 (jj_le rfl) (jj_le rfl)

set_option maxHeartbeats 4000000 in
set_option maxRecDepth 100000 in
theorem ct_J0_charAt_5068e_68 {l : Launch} (hl : l.stackTraces = false) (D : va_G) (cA : Nat → ClassId) (ak : (Nat → Nat) × (Nat → Nat)) : jj_M l D cA ak yJ0_charAt_5068e (.code yJ0_charAt_5068e cJ0_charAt_5068e 2 (some .char)) 3 64 0 0 [] [.ref (ak.1 11), .int 3] (fun (w : va_W) (r : Option Value) => (w = [] ∧ r = some (.int 115))) jj_noX := by
  refine jj_start hl (by decide) jw_391c0f56bd (jj_le rfl) ?_
  intro p e s m args below meth c A hargs hA C hex hmn
  refine jj_aload_n C dJ0_charAt_5068e_0 rfl ?_
  refine jq_callVs (rest := []) C (ct_J0_isLatin1_aae02_12 hl D cA ak) [] [] rfl rfl (by decide) (by decide) (by decide) 11 (by decide) rfl jw_5ca960aa2e jw_b7ba7c03ae jw_c4fe6f1e08 jw_4ea6285965 jw_1aa7753999 jn_J0_isLatin1_aae02 rfl (jj_le rfl) (jj_le rfl) (jj_le rfl) (jj_le rfl) (jj_le rfl) dJ0_charAt_5068e_1 rfl (fun _ _ hX => hX.elim) (fun w1 r O_2 => ?_)
  obtain ⟨rfl, rfl⟩ := O_2
  refine jj_apd rfl ?_
  refine jj_if_eqF (tgt := 16) C dJ0_charAt_5068e_4 (by decide) (by decide) ?_
  refine jj_aload_n C dJ0_charAt_5068e_7 rfl ?_
  refine jj_sval (k := 11) C (by decide) jw_90a506b1c3 dJ0_charAt_5068e_8 ?_
  refine jj_iload_n C dJ0_charAt_5068e_11 rfl ?_
  refine jq_callS (rest := []) C (ct_J1_charAt_3b067_68 hl D cA ak) [] [] rfl rfl (by decide) (by decide) (by decide) jw_7e2463d496 jw_530d7ac64c jw_2a3a2ce6ce jw_6996a9eac3 jn_J1_charAt_3b067 rfl (jj_le rfl) (jj_le rfl) (jj_le rfl) (jj_le rfl) (jj_le rfl) dJ0_charAt_5068e_12 rfl (fun _ _ hX => hX.elim) (fun w1 r O_4 => ?_)
  obtain ⟨rfl, rfl⟩ := O_4
  refine jj_apd rfl ?_
  exact jj_zret C rfl ⟨rfl, rfl⟩ dJ0_charAt_5068e_15 (jj_le rfl) (jj_le rfl)

set_option maxHeartbeats 4000000 in
set_option maxRecDepth 100000 in
theorem ct_J3_checkIndex_8e157_57 {l : Launch} (hl : l.stackTraces = false) (D : va_G) (cA : Nat → ClassId) (ak : (Nat → Nat) × (Nat → Nat)) (h0 : Nat) : jj_M l D cA ak yJ3_checkIndex_8e157 (.code yJ3_checkIndex_8e157 cJ3_checkIndex_8e157 3 (some .int)) 0 0 0 0 [] [.int 4, .int 11, .ref h0] (fun (w : va_W) (r : Option Value) => (w = [] ∧ r = some (.int 4))) jj_noX := by
  refine jj_start hl (by decide) jw_da9869a695 (jj_le rfl) ?_
  intro p e s m args below meth c A hargs hA C hex hmn
  refine jj_iload_n C dJ3_checkIndex_8e157_0 rfl ?_
  refine jj_if_ltF (tgt := 9) C dJ3_checkIndex_8e157_1 (by decide) (by decide) ?_
  refine jj_iload_n C dJ3_checkIndex_8e157_4 rfl ?_
  refine jj_iload_n C dJ3_checkIndex_8e157_5 rfl ?_
  refine jj_icmp_ltT (tgt := 16) C dJ3_checkIndex_8e157_6 (by decide) (by decide) ?_
  refine jj_iload_n C dJ3_checkIndex_8e157_16 rfl ?_
  exact jj_iret C ⟨rfl, rfl⟩ dJ3_checkIndex_8e157_17 (jj_le rfl) (jj_le rfl)

set_option maxHeartbeats 4000000 in
set_option maxRecDepth 100000 in
theorem ct_J3_checkIndex_8e157_58 {l : Launch} (hl : l.stackTraces = false) (D : va_G) (cA : Nat → ClassId) (ak : (Nat → Nat) × (Nat → Nat)) : jj_M l D cA ak yJ3_checkIndex_8e157 (.code yJ3_checkIndex_8e157 cJ3_checkIndex_8e157 3 (some .int)) 0 0 0 0 [] [.int 4, .int 11, .null] (fun (w : va_W) (r : Option Value) => (w = [] ∧ r = some (.int 4))) jj_noX := by
  refine jj_start hl (by decide) jw_da9869a695 (jj_le rfl) ?_
  intro p e s m args below meth c A hargs hA C hex hmn
  refine jj_iload_n C dJ3_checkIndex_8e157_0 rfl ?_
  refine jj_if_ltF (tgt := 9) C dJ3_checkIndex_8e157_1 (by decide) (by decide) ?_
  refine jj_iload_n C dJ3_checkIndex_8e157_4 rfl ?_
  refine jj_iload_n C dJ3_checkIndex_8e157_5 rfl ?_
  refine jj_icmp_ltT (tgt := 16) C dJ3_checkIndex_8e157_6 (by decide) (by decide) ?_
  refine jj_iload_n C dJ3_checkIndex_8e157_16 rfl ?_
  exact jj_iret C ⟨rfl, rfl⟩ dJ3_checkIndex_8e157_17 (jj_le rfl) (jj_le rfl)

set_option maxHeartbeats 4000000 in
set_option maxRecDepth 100000 in
theorem ct_J0_checkIndex_df160_29 {l : Launch} (hl : l.stackTraces = false) (D : va_G) (cA : Nat → ClassId) (ak : (Nat → Nat) × (Nat → Nat)) : jj_M l D cA ak yJ0_checkIndex_df160 (.code yJ0_checkIndex_df160 cJ0_checkIndex_df160 2 none) 1 22 0 0 [] [.int 4, .int 11] (fun (w : va_W) (r : Option Value) => (w = [] ∧ r = none)) jj_noX := by
  refine jj_start hl (by decide) jw_73f64df4e3 (jj_le rfl) ?_
  intro p e s m args below meth c A hargs hA C hex hmn
  refine jj_iload_n C dJ0_checkIndex_df160_0 rfl ?_
  refine jj_iload_n C dJ0_checkIndex_df160_1 rfl ?_
  refine jj_gfm C jw_040150fc39 dJ0_checkIndex_df160_2 (fun t_1 => ?_) ?_
  · refine jq_callS (rest := []) C (ct_J3_checkIndex_8e157_57 hl D cA ak t_1) [] [] rfl rfl (by decide) (by decide) (by decide) jw_a7a8b385a1 jw_8d35bed6b0 jw_2c7dffdd00 jw_da9869a695 jn_J3_checkIndex_8e157 rfl (jj_le rfl) (jj_le rfl) (jj_le rfl) (jj_le rfl) (jj_le rfl) dJ0_checkIndex_df160_5 rfl (fun _ _ hX => hX.elim) (fun w1 r O_3 => ?_)
    obtain ⟨rfl, rfl⟩ := O_3
    refine jj_apd rfl ?_
    refine jj_pop C dJ0_checkIndex_df160_8 rfl ?_
    exact jj_vret C ⟨rfl, rfl⟩ dJ0_checkIndex_df160_9 (jj_le rfl) (jj_le rfl)
  · refine jq_callS (rest := []) C (ct_J3_checkIndex_8e157_58 hl D cA ak) [] [] rfl rfl (by decide) (by decide) (by decide) jw_a7a8b385a1 jw_8d35bed6b0 jw_2c7dffdd00 jw_da9869a695 jn_J3_checkIndex_8e157 rfl (jj_le rfl) (jj_le rfl) (jj_le rfl) (jj_le rfl) (jj_le rfl) dJ0_checkIndex_df160_5 rfl (fun _ _ hX => hX.elim) (fun w1 r O_5 => ?_)
    obtain ⟨rfl, rfl⟩ := O_5
    refine jj_apd rfl ?_
    refine jj_pop C dJ0_checkIndex_df160_8 rfl ?_
    exact jj_vret C ⟨rfl, rfl⟩ dJ0_checkIndex_df160_9 (jj_le rfl) (jj_le rfl)

set_option maxHeartbeats 4000000 in
set_option maxRecDepth 100000 in
theorem ct_J1_charAt_3b067_69 {l : Launch} (hl : l.stackTraces = false) (D : va_G) (cA : Nat → ClassId) (ak : (Nat → Nat) × (Nat → Nat)) : jj_M l D cA ak yJ1_charAt_3b067 (.code yJ1_charAt_3b067 cJ1_charAt_3b067 2 (some .char)) 2 43 0 0 [] [.ref (ak.2 11), .int 4] (fun (w : va_W) (r : Option Value) => (w = [] ∧ r = some (.int 116))) jj_noX := by
  refine jj_start hl (by decide) jw_6996a9eac3 (jj_le rfl) ?_
  intro p e s m args below meth c A hargs hA C hex hmn
  refine jj_iload_n C dJ1_charAt_3b067_0 rfl ?_
  refine jj_aload_n C dJ1_charAt_3b067_1 rfl ?_
  refine jj_slen (k := 11) (v := 11) C (by decide) (by decide) dJ1_charAt_3b067_2 ?_
  refine jq_callS (rest := []) C (ct_J0_checkIndex_df160_29 hl D cA ak) [] [] rfl rfl (by decide) (by decide) (by decide) jw_763fabfbf2 jw_9aa540e9dd jw_4ea6285965 jw_73f64df4e3 jn_J0_checkIndex_df160 rfl (jj_le rfl) (jj_le rfl) (jj_le rfl) (jj_le rfl) (jj_le rfl) dJ1_charAt_3b067_3 rfl (fun _ _ hX => hX.elim) (fun w1 r O_2 => ?_)
  obtain ⟨rfl, rfl⟩ := O_2
  refine jj_apd rfl ?_
  refine jj_aload_n C dJ1_charAt_3b067_6 rfl ?_
  refine jj_iload_n C dJ1_charAt_3b067_7 rfl ?_
  refine jj_sbyt (k := 11) (v := 116) C (by decide) (vp_in_iff.mpr (by decide)) (by decide) dJ1_charAt_3b067_8 ?_
  refine jj_sipush (v := 255) C dJ1_charAt_3b067_9 (by decide) ?_
  refine jj_iand (v := 116) C dJ1_charAt_3b067_12 (by decide) ?_
  refine jj_i2c (v := 116) C dJ1_charAt_3b067_13 (by decide) ?_
  exact jj_zret C rfl ⟨rfl, rfl⟩ dJ1_charAt_3b067_14 (jj_le rfl) (jj_le rfl)

set_option maxHeartbeats 4000000 in
set_option maxRecDepth 100000 in
theorem ct_J0_charAt_5068e_69 {l : Launch} (hl : l.stackTraces = false) (D : va_G) (cA : Nat → ClassId) (ak : (Nat → Nat) × (Nat → Nat)) : jj_M l D cA ak yJ0_charAt_5068e (.code yJ0_charAt_5068e cJ0_charAt_5068e 2 (some .char)) 3 64 0 0 [] [.ref (ak.1 11), .int 4] (fun (w : va_W) (r : Option Value) => (w = [] ∧ r = some (.int 116))) jj_noX := by
  refine jj_start hl (by decide) jw_391c0f56bd (jj_le rfl) ?_
  intro p e s m args below meth c A hargs hA C hex hmn
  refine jj_aload_n C dJ0_charAt_5068e_0 rfl ?_
  refine jq_callVs (rest := []) C (ct_J0_isLatin1_aae02_12 hl D cA ak) [] [] rfl rfl (by decide) (by decide) (by decide) 11 (by decide) rfl jw_5ca960aa2e jw_b7ba7c03ae jw_c4fe6f1e08 jw_4ea6285965 jw_1aa7753999 jn_J0_isLatin1_aae02 rfl (jj_le rfl) (jj_le rfl) (jj_le rfl) (jj_le rfl) (jj_le rfl) dJ0_charAt_5068e_1 rfl (fun _ _ hX => hX.elim) (fun w1 r O_2 => ?_)
  obtain ⟨rfl, rfl⟩ := O_2
  refine jj_apd rfl ?_
  refine jj_if_eqF (tgt := 16) C dJ0_charAt_5068e_4 (by decide) (by decide) ?_
  refine jj_aload_n C dJ0_charAt_5068e_7 rfl ?_
  refine jj_sval (k := 11) C (by decide) jw_90a506b1c3 dJ0_charAt_5068e_8 ?_
  refine jj_iload_n C dJ0_charAt_5068e_11 rfl ?_
  refine jq_callS (rest := []) C (ct_J1_charAt_3b067_69 hl D cA ak) [] [] rfl rfl (by decide) (by decide) (by decide) jw_7e2463d496 jw_530d7ac64c jw_2a3a2ce6ce jw_6996a9eac3 jn_J1_charAt_3b067 rfl (jj_le rfl) (jj_le rfl) (jj_le rfl) (jj_le rfl) (jj_le rfl) dJ0_charAt_5068e_12 rfl (fun _ _ hX => hX.elim) (fun w1 r O_4 => ?_)
  obtain ⟨rfl, rfl⟩ := O_4
  refine jj_apd rfl ?_
  exact jj_zret C rfl ⟨rfl, rfl⟩ dJ0_charAt_5068e_15 (jj_le rfl) (jj_le rfl)

set_option maxHeartbeats 4000000 in
set_option maxRecDepth 100000 in
theorem ct_J3_checkIndex_8e157_59 {l : Launch} (hl : l.stackTraces = false) (D : va_G) (cA : Nat → ClassId) (ak : (Nat → Nat) × (Nat → Nat)) (h0 : Nat) : jj_M l D cA ak yJ3_checkIndex_8e157 (.code yJ3_checkIndex_8e157 cJ3_checkIndex_8e157 3 (some .int)) 0 0 0 0 [] [.int 5, .int 11, .ref h0] (fun (w : va_W) (r : Option Value) => (w = [] ∧ r = some (.int 5))) jj_noX := by
  refine jj_start hl (by decide) jw_da9869a695 (jj_le rfl) ?_
  intro p e s m args below meth c A hargs hA C hex hmn
  refine jj_iload_n C dJ3_checkIndex_8e157_0 rfl ?_
  refine jj_if_ltF (tgt := 9) C dJ3_checkIndex_8e157_1 (by decide) (by decide) ?_
  refine jj_iload_n C dJ3_checkIndex_8e157_4 rfl ?_
  refine jj_iload_n C dJ3_checkIndex_8e157_5 rfl ?_
  refine jj_icmp_ltT (tgt := 16) C dJ3_checkIndex_8e157_6 (by decide) (by decide) ?_
  refine jj_iload_n C dJ3_checkIndex_8e157_16 rfl ?_
  exact jj_iret C ⟨rfl, rfl⟩ dJ3_checkIndex_8e157_17 (jj_le rfl) (jj_le rfl)

set_option maxHeartbeats 4000000 in
set_option maxRecDepth 100000 in
theorem ct_J3_checkIndex_8e157_60 {l : Launch} (hl : l.stackTraces = false) (D : va_G) (cA : Nat → ClassId) (ak : (Nat → Nat) × (Nat → Nat)) : jj_M l D cA ak yJ3_checkIndex_8e157 (.code yJ3_checkIndex_8e157 cJ3_checkIndex_8e157 3 (some .int)) 0 0 0 0 [] [.int 5, .int 11, .null] (fun (w : va_W) (r : Option Value) => (w = [] ∧ r = some (.int 5))) jj_noX := by
  refine jj_start hl (by decide) jw_da9869a695 (jj_le rfl) ?_
  intro p e s m args below meth c A hargs hA C hex hmn
  refine jj_iload_n C dJ3_checkIndex_8e157_0 rfl ?_
  refine jj_if_ltF (tgt := 9) C dJ3_checkIndex_8e157_1 (by decide) (by decide) ?_
  refine jj_iload_n C dJ3_checkIndex_8e157_4 rfl ?_
  refine jj_iload_n C dJ3_checkIndex_8e157_5 rfl ?_
  refine jj_icmp_ltT (tgt := 16) C dJ3_checkIndex_8e157_6 (by decide) (by decide) ?_
  refine jj_iload_n C dJ3_checkIndex_8e157_16 rfl ?_
  exact jj_iret C ⟨rfl, rfl⟩ dJ3_checkIndex_8e157_17 (jj_le rfl) (jj_le rfl)

set_option maxHeartbeats 4000000 in
set_option maxRecDepth 100000 in
theorem ct_J0_checkIndex_df160_30 {l : Launch} (hl : l.stackTraces = false) (D : va_G) (cA : Nat → ClassId) (ak : (Nat → Nat) × (Nat → Nat)) : jj_M l D cA ak yJ0_checkIndex_df160 (.code yJ0_checkIndex_df160 cJ0_checkIndex_df160 2 none) 1 22 0 0 [] [.int 5, .int 11] (fun (w : va_W) (r : Option Value) => (w = [] ∧ r = none)) jj_noX := by
  refine jj_start hl (by decide) jw_73f64df4e3 (jj_le rfl) ?_
  intro p e s m args below meth c A hargs hA C hex hmn
  refine jj_iload_n C dJ0_checkIndex_df160_0 rfl ?_
  refine jj_iload_n C dJ0_checkIndex_df160_1 rfl ?_
  refine jj_gfm C jw_040150fc39 dJ0_checkIndex_df160_2 (fun t_1 => ?_) ?_
  · refine jq_callS (rest := []) C (ct_J3_checkIndex_8e157_59 hl D cA ak t_1) [] [] rfl rfl (by decide) (by decide) (by decide) jw_a7a8b385a1 jw_8d35bed6b0 jw_2c7dffdd00 jw_da9869a695 jn_J3_checkIndex_8e157 rfl (jj_le rfl) (jj_le rfl) (jj_le rfl) (jj_le rfl) (jj_le rfl) dJ0_checkIndex_df160_5 rfl (fun _ _ hX => hX.elim) (fun w1 r O_3 => ?_)
    obtain ⟨rfl, rfl⟩ := O_3
    refine jj_apd rfl ?_
    refine jj_pop C dJ0_checkIndex_df160_8 rfl ?_
    exact jj_vret C ⟨rfl, rfl⟩ dJ0_checkIndex_df160_9 (jj_le rfl) (jj_le rfl)
  · refine jq_callS (rest := []) C (ct_J3_checkIndex_8e157_60 hl D cA ak) [] [] rfl rfl (by decide) (by decide) (by decide) jw_a7a8b385a1 jw_8d35bed6b0 jw_2c7dffdd00 jw_da9869a695 jn_J3_checkIndex_8e157 rfl (jj_le rfl) (jj_le rfl) (jj_le rfl) (jj_le rfl) (jj_le rfl) dJ0_checkIndex_df160_5 rfl (fun _ _ hX => hX.elim) (fun w1 r O_5 => ?_)
    obtain ⟨rfl, rfl⟩ := O_5
    refine jj_apd rfl ?_
    refine jj_pop C dJ0_checkIndex_df160_8 rfl ?_
    exact jj_vret C ⟨rfl, rfl⟩ dJ0_checkIndex_df160_9 (jj_le rfl) (jj_le rfl)

set_option maxHeartbeats 4000000 in
set_option maxRecDepth 100000 in
theorem ct_J1_charAt_3b067_70 {l : Launch} (hl : l.stackTraces = false) (D : va_G) (cA : Nat → ClassId) (ak : (Nat → Nat) × (Nat → Nat)) : jj_M l D cA ak yJ1_charAt_3b067 (.code yJ1_charAt_3b067 cJ1_charAt_3b067 2 (some .char)) 2 43 0 0 [] [.ref (ak.2 11), .int 5] (fun (w : va_W) (r : Option Value) => (w = [] ∧ r = some (.int 97))) jj_noX := by
  refine jj_start hl (by decide) jw_6996a9eac3 (jj_le rfl) ?_
  intro p e s m args below meth c A hargs hA C hex hmn
  refine jj_iload_n C dJ1_charAt_3b067_0 rfl ?_
  refine jj_aload_n C dJ1_charAt_3b067_1 rfl ?_
  refine jj_slen (k := 11) (v := 11) C (by decide) (by decide) dJ1_charAt_3b067_2 ?_
  refine jq_callS (rest := []) C (ct_J0_checkIndex_df160_30 hl D cA ak) [] [] rfl rfl (by decide) (by decide) (by decide) jw_763fabfbf2 jw_9aa540e9dd jw_4ea6285965 jw_73f64df4e3 jn_J0_checkIndex_df160 rfl (jj_le rfl) (jj_le rfl) (jj_le rfl) (jj_le rfl) (jj_le rfl) dJ1_charAt_3b067_3 rfl (fun _ _ hX => hX.elim) (fun w1 r O_2 => ?_)
  obtain ⟨rfl, rfl⟩ := O_2
  refine jj_apd rfl ?_
  refine jj_aload_n C dJ1_charAt_3b067_6 rfl ?_
  refine jj_iload_n C dJ1_charAt_3b067_7 rfl ?_
  refine jj_sbyt (k := 11) (v := 97) C (by decide) (vp_in_iff.mpr (by decide)) (by decide) dJ1_charAt_3b067_8 ?_
  refine jj_sipush (v := 255) C dJ1_charAt_3b067_9 (by decide) ?_
  refine jj_iand (v := 97) C dJ1_charAt_3b067_12 (by decide) ?_
  refine jj_i2c (v := 97) C dJ1_charAt_3b067_13 (by decide) ?_
  exact jj_zret C rfl ⟨rfl, rfl⟩ dJ1_charAt_3b067_14 (jj_le rfl) (jj_le rfl)

set_option maxHeartbeats 4000000 in
set_option maxRecDepth 100000 in
theorem ct_J0_charAt_5068e_70 {l : Launch} (hl : l.stackTraces = false) (D : va_G) (cA : Nat → ClassId) (ak : (Nat → Nat) × (Nat → Nat)) : jj_M l D cA ak yJ0_charAt_5068e (.code yJ0_charAt_5068e cJ0_charAt_5068e 2 (some .char)) 3 64 0 0 [] [.ref (ak.1 11), .int 5] (fun (w : va_W) (r : Option Value) => (w = [] ∧ r = some (.int 97))) jj_noX := by
  refine jj_start hl (by decide) jw_391c0f56bd (jj_le rfl) ?_
  intro p e s m args below meth c A hargs hA C hex hmn
  refine jj_aload_n C dJ0_charAt_5068e_0 rfl ?_
  refine jq_callVs (rest := []) C (ct_J0_isLatin1_aae02_12 hl D cA ak) [] [] rfl rfl (by decide) (by decide) (by decide) 11 (by decide) rfl jw_5ca960aa2e jw_b7ba7c03ae jw_c4fe6f1e08 jw_4ea6285965 jw_1aa7753999 jn_J0_isLatin1_aae02 rfl (jj_le rfl) (jj_le rfl) (jj_le rfl) (jj_le rfl) (jj_le rfl) dJ0_charAt_5068e_1 rfl (fun _ _ hX => hX.elim) (fun w1 r O_2 => ?_)
  obtain ⟨rfl, rfl⟩ := O_2
  refine jj_apd rfl ?_
  refine jj_if_eqF (tgt := 16) C dJ0_charAt_5068e_4 (by decide) (by decide) ?_
  refine jj_aload_n C dJ0_charAt_5068e_7 rfl ?_
  refine jj_sval (k := 11) C (by decide) jw_90a506b1c3 dJ0_charAt_5068e_8 ?_
  refine jj_iload_n C dJ0_charAt_5068e_11 rfl ?_
  refine jq_callS (rest := []) C (ct_J1_charAt_3b067_70 hl D cA ak) [] [] rfl rfl (by decide) (by decide) (by decide) jw_7e2463d496 jw_530d7ac64c jw_2a3a2ce6ce jw_6996a9eac3 jn_J1_charAt_3b067 rfl (jj_le rfl) (jj_le rfl) (jj_le rfl) (jj_le rfl) (jj_le rfl) dJ0_charAt_5068e_12 rfl (fun _ _ hX => hX.elim) (fun w1 r O_4 => ?_)
  obtain ⟨rfl, rfl⟩ := O_4
  refine jj_apd rfl ?_
  exact jj_zret C rfl ⟨rfl, rfl⟩ dJ0_charAt_5068e_15 (jj_le rfl) (jj_le rfl)

set_option maxHeartbeats 4000000 in
set_option maxRecDepth 100000 in
theorem ct_J3_checkIndex_8e157_61 {l : Launch} (hl : l.stackTraces = false) (D : va_G) (cA : Nat → ClassId) (ak : (Nat → Nat) × (Nat → Nat)) (h0 : Nat) : jj_M l D cA ak yJ3_checkIndex_8e157 (.code yJ3_checkIndex_8e157 cJ3_checkIndex_8e157 3 (some .int)) 0 0 0 0 [] [.int 6, .int 11, .ref h0] (fun (w : va_W) (r : Option Value) => (w = [] ∧ r = some (.int 6))) jj_noX := by
  refine jj_start hl (by decide) jw_da9869a695 (jj_le rfl) ?_
  intro p e s m args below meth c A hargs hA C hex hmn
  refine jj_iload_n C dJ3_checkIndex_8e157_0 rfl ?_
  refine jj_if_ltF (tgt := 9) C dJ3_checkIndex_8e157_1 (by decide) (by decide) ?_
  refine jj_iload_n C dJ3_checkIndex_8e157_4 rfl ?_
  refine jj_iload_n C dJ3_checkIndex_8e157_5 rfl ?_
  refine jj_icmp_ltT (tgt := 16) C dJ3_checkIndex_8e157_6 (by decide) (by decide) ?_
  refine jj_iload_n C dJ3_checkIndex_8e157_16 rfl ?_
  exact jj_iret C ⟨rfl, rfl⟩ dJ3_checkIndex_8e157_17 (jj_le rfl) (jj_le rfl)

set_option maxHeartbeats 4000000 in
set_option maxRecDepth 100000 in
theorem ct_J3_checkIndex_8e157_62 {l : Launch} (hl : l.stackTraces = false) (D : va_G) (cA : Nat → ClassId) (ak : (Nat → Nat) × (Nat → Nat)) : jj_M l D cA ak yJ3_checkIndex_8e157 (.code yJ3_checkIndex_8e157 cJ3_checkIndex_8e157 3 (some .int)) 0 0 0 0 [] [.int 6, .int 11, .null] (fun (w : va_W) (r : Option Value) => (w = [] ∧ r = some (.int 6))) jj_noX := by
  refine jj_start hl (by decide) jw_da9869a695 (jj_le rfl) ?_
  intro p e s m args below meth c A hargs hA C hex hmn
  refine jj_iload_n C dJ3_checkIndex_8e157_0 rfl ?_
  refine jj_if_ltF (tgt := 9) C dJ3_checkIndex_8e157_1 (by decide) (by decide) ?_
  refine jj_iload_n C dJ3_checkIndex_8e157_4 rfl ?_
  refine jj_iload_n C dJ3_checkIndex_8e157_5 rfl ?_
  refine jj_icmp_ltT (tgt := 16) C dJ3_checkIndex_8e157_6 (by decide) (by decide) ?_
  refine jj_iload_n C dJ3_checkIndex_8e157_16 rfl ?_
  exact jj_iret C ⟨rfl, rfl⟩ dJ3_checkIndex_8e157_17 (jj_le rfl) (jj_le rfl)

set_option maxHeartbeats 4000000 in
set_option maxRecDepth 100000 in
theorem ct_J0_checkIndex_df160_31 {l : Launch} (hl : l.stackTraces = false) (D : va_G) (cA : Nat → ClassId) (ak : (Nat → Nat) × (Nat → Nat)) : jj_M l D cA ak yJ0_checkIndex_df160 (.code yJ0_checkIndex_df160 cJ0_checkIndex_df160 2 none) 1 22 0 0 [] [.int 6, .int 11] (fun (w : va_W) (r : Option Value) => (w = [] ∧ r = none)) jj_noX := by
  refine jj_start hl (by decide) jw_73f64df4e3 (jj_le rfl) ?_
  intro p e s m args below meth c A hargs hA C hex hmn
  refine jj_iload_n C dJ0_checkIndex_df160_0 rfl ?_
  refine jj_iload_n C dJ0_checkIndex_df160_1 rfl ?_
  refine jj_gfm C jw_040150fc39 dJ0_checkIndex_df160_2 (fun t_1 => ?_) ?_
  · refine jq_callS (rest := []) C (ct_J3_checkIndex_8e157_61 hl D cA ak t_1) [] [] rfl rfl (by decide) (by decide) (by decide) jw_a7a8b385a1 jw_8d35bed6b0 jw_2c7dffdd00 jw_da9869a695 jn_J3_checkIndex_8e157 rfl (jj_le rfl) (jj_le rfl) (jj_le rfl) (jj_le rfl) (jj_le rfl) dJ0_checkIndex_df160_5 rfl (fun _ _ hX => hX.elim) (fun w1 r O_3 => ?_)
    obtain ⟨rfl, rfl⟩ := O_3
    refine jj_apd rfl ?_
    refine jj_pop C dJ0_checkIndex_df160_8 rfl ?_
    exact jj_vret C ⟨rfl, rfl⟩ dJ0_checkIndex_df160_9 (jj_le rfl) (jj_le rfl)
  · refine jq_callS (rest := []) C (ct_J3_checkIndex_8e157_62 hl D cA ak) [] [] rfl rfl (by decide) (by decide) (by decide) jw_a7a8b385a1 jw_8d35bed6b0 jw_2c7dffdd00 jw_da9869a695 jn_J3_checkIndex_8e157 rfl (jj_le rfl) (jj_le rfl) (jj_le rfl) (jj_le rfl) (jj_le rfl) dJ0_checkIndex_df160_5 rfl (fun _ _ hX => hX.elim) (fun w1 r O_5 => ?_)
    obtain ⟨rfl, rfl⟩ := O_5
    refine jj_apd rfl ?_
    refine jj_pop C dJ0_checkIndex_df160_8 rfl ?_
    exact jj_vret C ⟨rfl, rfl⟩ dJ0_checkIndex_df160_9 (jj_le rfl) (jj_le rfl)

set_option maxHeartbeats 4000000 in
set_option maxRecDepth 100000 in
theorem ct_J1_charAt_3b067_71 {l : Launch} (hl : l.stackTraces = false) (D : va_G) (cA : Nat → ClassId) (ak : (Nat → Nat) × (Nat → Nat)) : jj_M l D cA ak yJ1_charAt_3b067 (.code yJ1_charAt_3b067 cJ1_charAt_3b067 2 (some .char)) 2 43 0 0 [] [.ref (ak.2 11), .int 6] (fun (w : va_W) (r : Option Value) => (w = [] ∧ r = some (.int 108))) jj_noX := by
  refine jj_start hl (by decide) jw_6996a9eac3 (jj_le rfl) ?_
  intro p e s m args below meth c A hargs hA C hex hmn
  refine jj_iload_n C dJ1_charAt_3b067_0 rfl ?_
  refine jj_aload_n C dJ1_charAt_3b067_1 rfl ?_
  refine jj_slen (k := 11) (v := 11) C (by decide) (by decide) dJ1_charAt_3b067_2 ?_
  refine jq_callS (rest := []) C (ct_J0_checkIndex_df160_31 hl D cA ak) [] [] rfl rfl (by decide) (by decide) (by decide) jw_763fabfbf2 jw_9aa540e9dd jw_4ea6285965 jw_73f64df4e3 jn_J0_checkIndex_df160 rfl (jj_le rfl) (jj_le rfl) (jj_le rfl) (jj_le rfl) (jj_le rfl) dJ1_charAt_3b067_3 rfl (fun _ _ hX => hX.elim) (fun w1 r O_2 => ?_)
  obtain ⟨rfl, rfl⟩ := O_2
  refine jj_apd rfl ?_
  refine jj_aload_n C dJ1_charAt_3b067_6 rfl ?_
  refine jj_iload_n C dJ1_charAt_3b067_7 rfl ?_
  refine jj_sbyt (k := 11) (v := 108) C (by decide) (vp_in_iff.mpr (by decide)) (by decide) dJ1_charAt_3b067_8 ?_
  refine jj_sipush (v := 255) C dJ1_charAt_3b067_9 (by decide) ?_
  refine jj_iand (v := 108) C dJ1_charAt_3b067_12 (by decide) ?_
  refine jj_i2c (v := 108) C dJ1_charAt_3b067_13 (by decide) ?_
  exact jj_zret C rfl ⟨rfl, rfl⟩ dJ1_charAt_3b067_14 (jj_le rfl) (jj_le rfl)

set_option maxHeartbeats 4000000 in
set_option maxRecDepth 100000 in
theorem ct_J0_charAt_5068e_71 {l : Launch} (hl : l.stackTraces = false) (D : va_G) (cA : Nat → ClassId) (ak : (Nat → Nat) × (Nat → Nat)) : jj_M l D cA ak yJ0_charAt_5068e (.code yJ0_charAt_5068e cJ0_charAt_5068e 2 (some .char)) 3 64 0 0 [] [.ref (ak.1 11), .int 6] (fun (w : va_W) (r : Option Value) => (w = [] ∧ r = some (.int 108))) jj_noX := by
  refine jj_start hl (by decide) jw_391c0f56bd (jj_le rfl) ?_
  intro p e s m args below meth c A hargs hA C hex hmn
  refine jj_aload_n C dJ0_charAt_5068e_0 rfl ?_
  refine jq_callVs (rest := []) C (ct_J0_isLatin1_aae02_12 hl D cA ak) [] [] rfl rfl (by decide) (by decide) (by decide) 11 (by decide) rfl jw_5ca960aa2e jw_b7ba7c03ae jw_c4fe6f1e08 jw_4ea6285965 jw_1aa7753999 jn_J0_isLatin1_aae02 rfl (jj_le rfl) (jj_le rfl) (jj_le rfl) (jj_le rfl) (jj_le rfl) dJ0_charAt_5068e_1 rfl (fun _ _ hX => hX.elim) (fun w1 r O_2 => ?_)
  obtain ⟨rfl, rfl⟩ := O_2
  refine jj_apd rfl ?_
  refine jj_if_eqF (tgt := 16) C dJ0_charAt_5068e_4 (by decide) (by decide) ?_
  refine jj_aload_n C dJ0_charAt_5068e_7 rfl ?_
  refine jj_sval (k := 11) C (by decide) jw_90a506b1c3 dJ0_charAt_5068e_8 ?_
  refine jj_iload_n C dJ0_charAt_5068e_11 rfl ?_
  refine jq_callS (rest := []) C (ct_J1_charAt_3b067_71 hl D cA ak) [] [] rfl rfl (by decide) (by decide) (by decide) jw_7e2463d496 jw_530d7ac64c jw_2a3a2ce6ce jw_6996a9eac3 jn_J1_charAt_3b067 rfl (jj_le rfl) (jj_le rfl) (jj_le rfl) (jj_le rfl) (jj_le rfl) dJ0_charAt_5068e_12 rfl (fun _ _ hX => hX.elim) (fun w1 r O_4 => ?_)
  obtain ⟨rfl, rfl⟩ := O_4
  refine jj_apd rfl ?_
  exact jj_zret C rfl ⟨rfl, rfl⟩ dJ0_charAt_5068e_15 (jj_le rfl) (jj_le rfl)

set_option maxHeartbeats 4000000 in
set_option maxRecDepth 100000 in
theorem ct_J3_checkIndex_8e157_63 {l : Launch} (hl : l.stackTraces = false) (D : va_G) (cA : Nat → ClassId) (ak : (Nat → Nat) × (Nat → Nat)) (h0 : Nat) : jj_M l D cA ak yJ3_checkIndex_8e157 (.code yJ3_checkIndex_8e157 cJ3_checkIndex_8e157 3 (some .int)) 0 0 0 0 [] [.int 7, .int 11, .ref h0] (fun (w : va_W) (r : Option Value) => (w = [] ∧ r = some (.int 7))) jj_noX := by
  refine jj_start hl (by decide) jw_da9869a695 (jj_le rfl) ?_
  intro p e s m args below meth c A hargs hA C hex hmn
  refine jj_iload_n C dJ3_checkIndex_8e157_0 rfl ?_
  refine jj_if_ltF (tgt := 9) C dJ3_checkIndex_8e157_1 (by decide) (by decide) ?_
  refine jj_iload_n C dJ3_checkIndex_8e157_4 rfl ?_
  refine jj_iload_n C dJ3_checkIndex_8e157_5 rfl ?_
  refine jj_icmp_ltT (tgt := 16) C dJ3_checkIndex_8e157_6 (by decide) (by decide) ?_
  refine jj_iload_n C dJ3_checkIndex_8e157_16 rfl ?_
  exact jj_iret C ⟨rfl, rfl⟩ dJ3_checkIndex_8e157_17 (jj_le rfl) (jj_le rfl)

set_option maxHeartbeats 4000000 in
set_option maxRecDepth 100000 in
theorem ct_J3_checkIndex_8e157_64 {l : Launch} (hl : l.stackTraces = false) (D : va_G) (cA : Nat → ClassId) (ak : (Nat → Nat) × (Nat → Nat)) : jj_M l D cA ak yJ3_checkIndex_8e157 (.code yJ3_checkIndex_8e157 cJ3_checkIndex_8e157 3 (some .int)) 0 0 0 0 [] [.int 7, .int 11, .null] (fun (w : va_W) (r : Option Value) => (w = [] ∧ r = some (.int 7))) jj_noX := by
  refine jj_start hl (by decide) jw_da9869a695 (jj_le rfl) ?_
  intro p e s m args below meth c A hargs hA C hex hmn
  refine jj_iload_n C dJ3_checkIndex_8e157_0 rfl ?_
  refine jj_if_ltF (tgt := 9) C dJ3_checkIndex_8e157_1 (by decide) (by decide) ?_
  refine jj_iload_n C dJ3_checkIndex_8e157_4 rfl ?_
  refine jj_iload_n C dJ3_checkIndex_8e157_5 rfl ?_
  refine jj_icmp_ltT (tgt := 16) C dJ3_checkIndex_8e157_6 (by decide) (by decide) ?_
  refine jj_iload_n C dJ3_checkIndex_8e157_16 rfl ?_
  exact jj_iret C ⟨rfl, rfl⟩ dJ3_checkIndex_8e157_17 (jj_le rfl) (jj_le rfl)

set_option maxHeartbeats 4000000 in
set_option maxRecDepth 100000 in
theorem ct_J0_checkIndex_df160_32 {l : Launch} (hl : l.stackTraces = false) (D : va_G) (cA : Nat → ClassId) (ak : (Nat → Nat) × (Nat → Nat)) : jj_M l D cA ak yJ0_checkIndex_df160 (.code yJ0_checkIndex_df160 cJ0_checkIndex_df160 2 none) 1 22 0 0 [] [.int 7, .int 11] (fun (w : va_W) (r : Option Value) => (w = [] ∧ r = none)) jj_noX := by
  refine jj_start hl (by decide) jw_73f64df4e3 (jj_le rfl) ?_
  intro p e s m args below meth c A hargs hA C hex hmn
  refine jj_iload_n C dJ0_checkIndex_df160_0 rfl ?_
  refine jj_iload_n C dJ0_checkIndex_df160_1 rfl ?_
  refine jj_gfm C jw_040150fc39 dJ0_checkIndex_df160_2 (fun t_1 => ?_) ?_
  · refine jq_callS (rest := []) C (ct_J3_checkIndex_8e157_63 hl D cA ak t_1) [] [] rfl rfl (by decide) (by decide) (by decide) jw_a7a8b385a1 jw_8d35bed6b0 jw_2c7dffdd00 jw_da9869a695 jn_J3_checkIndex_8e157 rfl (jj_le rfl) (jj_le rfl) (jj_le rfl) (jj_le rfl) (jj_le rfl) dJ0_checkIndex_df160_5 rfl (fun _ _ hX => hX.elim) (fun w1 r O_3 => ?_)
    obtain ⟨rfl, rfl⟩ := O_3
    refine jj_apd rfl ?_
    refine jj_pop C dJ0_checkIndex_df160_8 rfl ?_
    exact jj_vret C ⟨rfl, rfl⟩ dJ0_checkIndex_df160_9 (jj_le rfl) (jj_le rfl)
  · refine jq_callS (rest := []) C (ct_J3_checkIndex_8e157_64 hl D cA ak) [] [] rfl rfl (by decide) (by decide) (by decide) jw_a7a8b385a1 jw_8d35bed6b0 jw_2c7dffdd00 jw_da9869a695 jn_J3_checkIndex_8e157 rfl (jj_le rfl) (jj_le rfl) (jj_le rfl) (jj_le rfl) (jj_le rfl) dJ0_checkIndex_df160_5 rfl (fun _ _ hX => hX.elim) (fun w1 r O_5 => ?_)
    obtain ⟨rfl, rfl⟩ := O_5
    refine jj_apd rfl ?_
    refine jj_pop C dJ0_checkIndex_df160_8 rfl ?_
    exact jj_vret C ⟨rfl, rfl⟩ dJ0_checkIndex_df160_9 (jj_le rfl) (jj_le rfl)

set_option maxHeartbeats 4000000 in
set_option maxRecDepth 100000 in
theorem ct_J1_charAt_3b067_72 {l : Launch} (hl : l.stackTraces = false) (D : va_G) (cA : Nat → ClassId) (ak : (Nat → Nat) × (Nat → Nat)) : jj_M l D cA ak yJ1_charAt_3b067 (.code yJ1_charAt_3b067 cJ1_charAt_3b067 2 (some .char)) 2 43 0 0 [] [.ref (ak.2 11), .int 7] (fun (w : va_W) (r : Option Value) => (w = [] ∧ r = some (.int 108))) jj_noX := by
  refine jj_start hl (by decide) jw_6996a9eac3 (jj_le rfl) ?_
  intro p e s m args below meth c A hargs hA C hex hmn
  refine jj_iload_n C dJ1_charAt_3b067_0 rfl ?_
  refine jj_aload_n C dJ1_charAt_3b067_1 rfl ?_
  refine jj_slen (k := 11) (v := 11) C (by decide) (by decide) dJ1_charAt_3b067_2 ?_
  refine jq_callS (rest := []) C (ct_J0_checkIndex_df160_32 hl D cA ak) [] [] rfl rfl (by decide) (by decide) (by decide) jw_763fabfbf2 jw_9aa540e9dd jw_4ea6285965 jw_73f64df4e3 jn_J0_checkIndex_df160 rfl (jj_le rfl) (jj_le rfl) (jj_le rfl) (jj_le rfl) (jj_le rfl) dJ1_charAt_3b067_3 rfl (fun _ _ hX => hX.elim) (fun w1 r O_2 => ?_)
  obtain ⟨rfl, rfl⟩ := O_2
  refine jj_apd rfl ?_
  refine jj_aload_n C dJ1_charAt_3b067_6 rfl ?_
  refine jj_iload_n C dJ1_charAt_3b067_7 rfl ?_
  refine jj_sbyt (k := 11) (v := 108) C (by decide) (vp_in_iff.mpr (by decide)) (by decide) dJ1_charAt_3b067_8 ?_
  refine jj_sipush (v := 255) C dJ1_charAt_3b067_9 (by decide) ?_
  refine jj_iand (v := 108) C dJ1_charAt_3b067_12 (by decide) ?_
  refine jj_i2c (v := 108) C dJ1_charAt_3b067_13 (by decide) ?_
  exact jj_zret C rfl ⟨rfl, rfl⟩ dJ1_charAt_3b067_14 (jj_le rfl) (jj_le rfl)

set_option maxHeartbeats 4000000 in
set_option maxRecDepth 100000 in
theorem ct_J0_charAt_5068e_72 {l : Launch} (hl : l.stackTraces = false) (D : va_G) (cA : Nat → ClassId) (ak : (Nat → Nat) × (Nat → Nat)) : jj_M l D cA ak yJ0_charAt_5068e (.code yJ0_charAt_5068e cJ0_charAt_5068e 2 (some .char)) 3 64 0 0 [] [.ref (ak.1 11), .int 7] (fun (w : va_W) (r : Option Value) => (w = [] ∧ r = some (.int 108))) jj_noX := by
  refine jj_start hl (by decide) jw_391c0f56bd (jj_le rfl) ?_
  intro p e s m args below meth c A hargs hA C hex hmn
  refine jj_aload_n C dJ0_charAt_5068e_0 rfl ?_
  refine jq_callVs (rest := []) C (ct_J0_isLatin1_aae02_12 hl D cA ak) [] [] rfl rfl (by decide) (by decide) (by decide) 11 (by decide) rfl jw_5ca960aa2e jw_b7ba7c03ae jw_c4fe6f1e08 jw_4ea6285965 jw_1aa7753999 jn_J0_isLatin1_aae02 rfl (jj_le rfl) (jj_le rfl) (jj_le rfl) (jj_le rfl) (jj_le rfl) dJ0_charAt_5068e_1 rfl (fun _ _ hX => hX.elim) (fun w1 r O_2 => ?_)
  obtain ⟨rfl, rfl⟩ := O_2
  refine jj_apd rfl ?_
  refine jj_if_eqF (tgt := 16) C dJ0_charAt_5068e_4 (by decide) (by decide) ?_
  refine jj_aload_n C dJ0_charAt_5068e_7 rfl ?_
  refine jj_sval (k := 11) C (by decide) jw_90a506b1c3 dJ0_charAt_5068e_8 ?_
  refine jj_iload_n C dJ0_charAt_5068e_11 rfl ?_
  refine jq_callS (rest := []) C (ct_J1_charAt_3b067_72 hl D cA ak) [] [] rfl rfl (by decide) (by decide) (by decide) jw_7e2463d496 jw_530d7ac64c jw_2a3a2ce6ce jw_6996a9eac3 jn_J1_charAt_3b067 rfl (jj_le rfl) (jj_le rfl) (jj_le rfl) (jj_le rfl) (jj_le rfl) dJ0_charAt_5068e_12 rfl (fun _ _ hX => hX.elim) (fun w1 r O_4 => ?_)
  obtain ⟨rfl, rfl⟩ := O_4
  refine jj_apd rfl ?_
  exact jj_zret C rfl ⟨rfl, rfl⟩ dJ0_charAt_5068e_15 (jj_le rfl) (jj_le rfl)

set_option maxHeartbeats 4000000 in
set_option maxRecDepth 100000 in
theorem ct_J3_checkIndex_8e157_65 {l : Launch} (hl : l.stackTraces = false) (D : va_G) (cA : Nat → ClassId) (ak : (Nat → Nat) × (Nat → Nat)) (h0 : Nat) : jj_M l D cA ak yJ3_checkIndex_8e157 (.code yJ3_checkIndex_8e157 cJ3_checkIndex_8e157 3 (some .int)) 0 0 0 0 [] [.int 8, .int 11, .ref h0] (fun (w : va_W) (r : Option Value) => (w = [] ∧ r = some (.int 8))) jj_noX := by
  refine jj_start hl (by decide) jw_da9869a695 (jj_le rfl) ?_
  intro p e s m args below meth c A hargs hA C hex hmn
  refine jj_iload_n C dJ3_checkIndex_8e157_0 rfl ?_
  refine jj_if_ltF (tgt := 9) C dJ3_checkIndex_8e157_1 (by decide) (by decide) ?_
  refine jj_iload_n C dJ3_checkIndex_8e157_4 rfl ?_
  refine jj_iload_n C dJ3_checkIndex_8e157_5 rfl ?_
  refine jj_icmp_ltT (tgt := 16) C dJ3_checkIndex_8e157_6 (by decide) (by decide) ?_
  refine jj_iload_n C dJ3_checkIndex_8e157_16 rfl ?_
  exact jj_iret C ⟨rfl, rfl⟩ dJ3_checkIndex_8e157_17 (jj_le rfl) (jj_le rfl)

set_option maxHeartbeats 4000000 in
set_option maxRecDepth 100000 in
theorem ct_J3_checkIndex_8e157_66 {l : Launch} (hl : l.stackTraces = false) (D : va_G) (cA : Nat → ClassId) (ak : (Nat → Nat) × (Nat → Nat)) : jj_M l D cA ak yJ3_checkIndex_8e157 (.code yJ3_checkIndex_8e157 cJ3_checkIndex_8e157 3 (some .int)) 0 0 0 0 [] [.int 8, .int 11, .null] (fun (w : va_W) (r : Option Value) => (w = [] ∧ r = some (.int 8))) jj_noX := by
  refine jj_start hl (by decide) jw_da9869a695 (jj_le rfl) ?_
  intro p e s m args below meth c A hargs hA C hex hmn
  refine jj_iload_n C dJ3_checkIndex_8e157_0 rfl ?_
  refine jj_if_ltF (tgt := 9) C dJ3_checkIndex_8e157_1 (by decide) (by decide) ?_
  refine jj_iload_n C dJ3_checkIndex_8e157_4 rfl ?_
  refine jj_iload_n C dJ3_checkIndex_8e157_5 rfl ?_
  refine jj_icmp_ltT (tgt := 16) C dJ3_checkIndex_8e157_6 (by decide) (by decide) ?_
  refine jj_iload_n C dJ3_checkIndex_8e157_16 rfl ?_
  exact jj_iret C ⟨rfl, rfl⟩ dJ3_checkIndex_8e157_17 (jj_le rfl) (jj_le rfl)

set_option maxHeartbeats 4000000 in
set_option maxRecDepth 100000 in
theorem ct_J0_checkIndex_df160_33 {l : Launch} (hl : l.stackTraces = false) (D : va_G) (cA : Nat → ClassId) (ak : (Nat → Nat) × (Nat → Nat)) : jj_M l D cA ak yJ0_checkIndex_df160 (.code yJ0_checkIndex_df160 cJ0_checkIndex_df160 2 none) 1 22 0 0 [] [.int 8, .int 11] (fun (w : va_W) (r : Option Value) => (w = [] ∧ r = none)) jj_noX := by
  refine jj_start hl (by decide) jw_73f64df4e3 (jj_le rfl) ?_
  intro p e s m args below meth c A hargs hA C hex hmn
  refine jj_iload_n C dJ0_checkIndex_df160_0 rfl ?_
  refine jj_iload_n C dJ0_checkIndex_df160_1 rfl ?_
  refine jj_gfm C jw_040150fc39 dJ0_checkIndex_df160_2 (fun t_1 => ?_) ?_
  · refine jq_callS (rest := []) C (ct_J3_checkIndex_8e157_65 hl D cA ak t_1) [] [] rfl rfl (by decide) (by decide) (by decide) jw_a7a8b385a1 jw_8d35bed6b0 jw_2c7dffdd00 jw_da9869a695 jn_J3_checkIndex_8e157 rfl (jj_le rfl) (jj_le rfl) (jj_le rfl) (jj_le rfl) (jj_le rfl) dJ0_checkIndex_df160_5 rfl (fun _ _ hX => hX.elim) (fun w1 r O_3 => ?_)
    obtain ⟨rfl, rfl⟩ := O_3
    refine jj_apd rfl ?_
    refine jj_pop C dJ0_checkIndex_df160_8 rfl ?_
    exact jj_vret C ⟨rfl, rfl⟩ dJ0_checkIndex_df160_9 (jj_le rfl) (jj_le rfl)
  · refine jq_callS (rest := []) C (ct_J3_checkIndex_8e157_66 hl D cA ak) [] [] rfl rfl (by decide) (by decide) (by decide) jw_a7a8b385a1 jw_8d35bed6b0 jw_2c7dffdd00 jw_da9869a695 jn_J3_checkIndex_8e157 rfl (jj_le rfl) (jj_le rfl) (jj_le rfl) (jj_le rfl) (jj_le rfl) dJ0_checkIndex_df160_5 rfl (fun _ _ hX => hX.elim) (fun w1 r O_5 => ?_)
    obtain ⟨rfl, rfl⟩ := O_5
    refine jj_apd rfl ?_
    refine jj_pop C dJ0_checkIndex_df160_8 rfl ?_
    exact jj_vret C ⟨rfl, rfl⟩ dJ0_checkIndex_df160_9 (jj_le rfl) (jj_le rfl)

set_option maxHeartbeats 4000000 in
set_option maxRecDepth 100000 in
theorem ct_J1_charAt_3b067_73 {l : Launch} (hl : l.stackTraces = false) (D : va_G) (cA : Nat → ClassId) (ak : (Nat → Nat) × (Nat → Nat)) : jj_M l D cA ak yJ1_charAt_3b067 (.code yJ1_charAt_3b067 cJ1_charAt_3b067 2 (some .char)) 2 43 0 0 [] [.ref (ak.2 11), .int 8] (fun (w : va_W) (r : Option Value) => (w = [] ∧ r = some (.int 105))) jj_noX := by
  refine jj_start hl (by decide) jw_6996a9eac3 (jj_le rfl) ?_
  intro p e s m args below meth c A hargs hA C hex hmn
  refine jj_iload_n C dJ1_charAt_3b067_0 rfl ?_
  refine jj_aload_n C dJ1_charAt_3b067_1 rfl ?_
  refine jj_slen (k := 11) (v := 11) C (by decide) (by decide) dJ1_charAt_3b067_2 ?_
  refine jq_callS (rest := []) C (ct_J0_checkIndex_df160_33 hl D cA ak) [] [] rfl rfl (by decide) (by decide) (by decide) jw_763fabfbf2 jw_9aa540e9dd jw_4ea6285965 jw_73f64df4e3 jn_J0_checkIndex_df160 rfl (jj_le rfl) (jj_le rfl) (jj_le rfl) (jj_le rfl) (jj_le rfl) dJ1_charAt_3b067_3 rfl (fun _ _ hX => hX.elim) (fun w1 r O_2 => ?_)
  obtain ⟨rfl, rfl⟩ := O_2
  refine jj_apd rfl ?_
  refine jj_aload_n C dJ1_charAt_3b067_6 rfl ?_
  refine jj_iload_n C dJ1_charAt_3b067_7 rfl ?_
  refine jj_sbyt (k := 11) (v := 105) C (by decide) (vp_in_iff.mpr (by decide)) (by decide) dJ1_charAt_3b067_8 ?_
  refine jj_sipush (v := 255) C dJ1_charAt_3b067_9 (by decide) ?_
  refine jj_iand (v := 105) C dJ1_charAt_3b067_12 (by decide) ?_
  refine jj_i2c (v := 105) C dJ1_charAt_3b067_13 (by decide) ?_
  exact jj_zret C rfl ⟨rfl, rfl⟩ dJ1_charAt_3b067_14 (jj_le rfl) (jj_le rfl)

set_option maxHeartbeats 4000000 in
set_option maxRecDepth 100000 in
theorem ct_J0_charAt_5068e_73 {l : Launch} (hl : l.stackTraces = false) (D : va_G) (cA : Nat → ClassId) (ak : (Nat → Nat) × (Nat → Nat)) : jj_M l D cA ak yJ0_charAt_5068e (.code yJ0_charAt_5068e cJ0_charAt_5068e 2 (some .char)) 3 64 0 0 [] [.ref (ak.1 11), .int 8] (fun (w : va_W) (r : Option Value) => (w = [] ∧ r = some (.int 105))) jj_noX := by
  refine jj_start hl (by decide) jw_391c0f56bd (jj_le rfl) ?_
  intro p e s m args below meth c A hargs hA C hex hmn
  refine jj_aload_n C dJ0_charAt_5068e_0 rfl ?_
  refine jq_callVs (rest := []) C (ct_J0_isLatin1_aae02_12 hl D cA ak) [] [] rfl rfl (by decide) (by decide) (by decide) 11 (by decide) rfl jw_5ca960aa2e jw_b7ba7c03ae jw_c4fe6f1e08 jw_4ea6285965 jw_1aa7753999 jn_J0_isLatin1_aae02 rfl (jj_le rfl) (jj_le rfl) (jj_le rfl) (jj_le rfl) (jj_le rfl) dJ0_charAt_5068e_1 rfl (fun _ _ hX => hX.elim) (fun w1 r O_2 => ?_)
  obtain ⟨rfl, rfl⟩ := O_2
  refine jj_apd rfl ?_
  refine jj_if_eqF (tgt := 16) C dJ0_charAt_5068e_4 (by decide) (by decide) ?_
  refine jj_aload_n C dJ0_charAt_5068e_7 rfl ?_
  refine jj_sval (k := 11) C (by decide) jw_90a506b1c3 dJ0_charAt_5068e_8 ?_
  refine jj_iload_n C dJ0_charAt_5068e_11 rfl ?_
  refine jq_callS (rest := []) C (ct_J1_charAt_3b067_73 hl D cA ak) [] [] rfl rfl (by decide) (by decide) (by decide) jw_7e2463d496 jw_530d7ac64c jw_2a3a2ce6ce jw_6996a9eac3 jn_J1_charAt_3b067 rfl (jj_le rfl) (jj_le rfl) (jj_le rfl) (jj_le rfl) (jj_le rfl) dJ0_charAt_5068e_12 rfl (fun _ _ hX => hX.elim) (fun w1 r O_4 => ?_)
  obtain ⟨rfl, rfl⟩ := O_4
  refine jj_apd rfl ?_
  exact jj_zret C rfl ⟨rfl, rfl⟩ dJ0_charAt_5068e_15 (jj_le rfl) (jj_le rfl)

set_option maxHeartbeats 4000000 in
set_option maxRecDepth 100000 in
theorem ct_J3_checkIndex_8e157_67 {l : Launch} (hl : l.stackTraces = false) (D : va_G) (cA : Nat → ClassId) (ak : (Nat → Nat) × (Nat → Nat)) (h0 : Nat) : jj_M l D cA ak yJ3_checkIndex_8e157 (.code yJ3_checkIndex_8e157 cJ3_checkIndex_8e157 3 (some .int)) 0 0 0 0 [] [.int 9, .int 11, .ref h0] (fun (w : va_W) (r : Option Value) => (w = [] ∧ r = some (.int 9))) jj_noX := by
  refine jj_start hl (by decide) jw_da9869a695 (jj_le rfl) ?_
  intro p e s m args below meth c A hargs hA C hex hmn
  refine jj_iload_n C dJ3_checkIndex_8e157_0 rfl ?_
  refine jj_if_ltF (tgt := 9) C dJ3_checkIndex_8e157_1 (by decide) (by decide) ?_
  refine jj_iload_n C dJ3_checkIndex_8e157_4 rfl ?_
  refine jj_iload_n C dJ3_checkIndex_8e157_5 rfl ?_
  refine jj_icmp_ltT (tgt := 16) C dJ3_checkIndex_8e157_6 (by decide) (by decide) ?_
  refine jj_iload_n C dJ3_checkIndex_8e157_16 rfl ?_
  exact jj_iret C ⟨rfl, rfl⟩ dJ3_checkIndex_8e157_17 (jj_le rfl) (jj_le rfl)

set_option maxHeartbeats 4000000 in
set_option maxRecDepth 100000 in
theorem ct_J3_checkIndex_8e157_68 {l : Launch} (hl : l.stackTraces = false) (D : va_G) (cA : Nat → ClassId) (ak : (Nat → Nat) × (Nat → Nat)) : jj_M l D cA ak yJ3_checkIndex_8e157 (.code yJ3_checkIndex_8e157 cJ3_checkIndex_8e157 3 (some .int)) 0 0 0 0 [] [.int 9, .int 11, .null] (fun (w : va_W) (r : Option Value) => (w = [] ∧ r = some (.int 9))) jj_noX := by
  refine jj_start hl (by decide) jw_da9869a695 (jj_le rfl) ?_
  intro p e s m args below meth c A hargs hA C hex hmn
  refine jj_iload_n C dJ3_checkIndex_8e157_0 rfl ?_
  refine jj_if_ltF (tgt := 9) C dJ3_checkIndex_8e157_1 (by decide) (by decide) ?_
  refine jj_iload_n C dJ3_checkIndex_8e157_4 rfl ?_
  refine jj_iload_n C dJ3_checkIndex_8e157_5 rfl ?_
  refine jj_icmp_ltT (tgt := 16) C dJ3_checkIndex_8e157_6 (by decide) (by decide) ?_
  refine jj_iload_n C dJ3_checkIndex_8e157_16 rfl ?_
  exact jj_iret C ⟨rfl, rfl⟩ dJ3_checkIndex_8e157_17 (jj_le rfl) (jj_le rfl)

set_option maxHeartbeats 4000000 in
set_option maxRecDepth 100000 in
theorem ct_J0_checkIndex_df160_34 {l : Launch} (hl : l.stackTraces = false) (D : va_G) (cA : Nat → ClassId) (ak : (Nat → Nat) × (Nat → Nat)) : jj_M l D cA ak yJ0_checkIndex_df160 (.code yJ0_checkIndex_df160 cJ0_checkIndex_df160 2 none) 1 22 0 0 [] [.int 9, .int 11] (fun (w : va_W) (r : Option Value) => (w = [] ∧ r = none)) jj_noX := by
  refine jj_start hl (by decide) jw_73f64df4e3 (jj_le rfl) ?_
  intro p e s m args below meth c A hargs hA C hex hmn
  refine jj_iload_n C dJ0_checkIndex_df160_0 rfl ?_
  refine jj_iload_n C dJ0_checkIndex_df160_1 rfl ?_
  refine jj_gfm C jw_040150fc39 dJ0_checkIndex_df160_2 (fun t_1 => ?_) ?_
  · refine jq_callS (rest := []) C (ct_J3_checkIndex_8e157_67 hl D cA ak t_1) [] [] rfl rfl (by decide) (by decide) (by decide) jw_a7a8b385a1 jw_8d35bed6b0 jw_2c7dffdd00 jw_da9869a695 jn_J3_checkIndex_8e157 rfl (jj_le rfl) (jj_le rfl) (jj_le rfl) (jj_le rfl) (jj_le rfl) dJ0_checkIndex_df160_5 rfl (fun _ _ hX => hX.elim) (fun w1 r O_3 => ?_)
    obtain ⟨rfl, rfl⟩ := O_3
    refine jj_apd rfl ?_
    refine jj_pop C dJ0_checkIndex_df160_8 rfl ?_
    exact jj_vret C ⟨rfl, rfl⟩ dJ0_checkIndex_df160_9 (jj_le rfl) (jj_le rfl)
  · refine jq_callS (rest := []) C (ct_J3_checkIndex_8e157_68 hl D cA ak) [] [] rfl rfl (by decide) (by decide) (by decide) jw_a7a8b385a1 jw_8d35bed6b0 jw_2c7dffdd00 jw_da9869a695 jn_J3_checkIndex_8e157 rfl (jj_le rfl) (jj_le rfl) (jj_le rfl) (jj_le rfl) (jj_le rfl) dJ0_checkIndex_df160_5 rfl (fun _ _ hX => hX.elim) (fun w1 r O_5 => ?_)
    obtain ⟨rfl, rfl⟩ := O_5
    refine jj_apd rfl ?_
    refine jj_pop C dJ0_checkIndex_df160_8 rfl ?_
    exact jj_vret C ⟨rfl, rfl⟩ dJ0_checkIndex_df160_9 (jj_le rfl) (jj_le rfl)

set_option maxHeartbeats 4000000 in
set_option maxRecDepth 100000 in
theorem ct_J1_charAt_3b067_74 {l : Launch} (hl : l.stackTraces = false) (D : va_G) (cA : Nat → ClassId) (ak : (Nat → Nat) × (Nat → Nat)) : jj_M l D cA ak yJ1_charAt_3b067 (.code yJ1_charAt_3b067 cJ1_charAt_3b067 2 (some .char)) 2 43 0 0 [] [.ref (ak.2 11), .int 9] (fun (w : va_W) (r : Option Value) => (w = [] ∧ r = some (.int 122))) jj_noX := by
  refine jj_start hl (by decide) jw_6996a9eac3 (jj_le rfl) ?_
  intro p e s m args below meth c A hargs hA C hex hmn
  refine jj_iload_n C dJ1_charAt_3b067_0 rfl ?_
  refine jj_aload_n C dJ1_charAt_3b067_1 rfl ?_
  refine jj_slen (k := 11) (v := 11) C (by decide) (by decide) dJ1_charAt_3b067_2 ?_
  refine jq_callS (rest := []) C (ct_J0_checkIndex_df160_34 hl D cA ak) [] [] rfl rfl (by decide) (by decide) (by decide) jw_763fabfbf2 jw_9aa540e9dd jw_4ea6285965 jw_73f64df4e3 jn_J0_checkIndex_df160 rfl (jj_le rfl) (jj_le rfl) (jj_le rfl) (jj_le rfl) (jj_le rfl) dJ1_charAt_3b067_3 rfl (fun _ _ hX => hX.elim) (fun w1 r O_2 => ?_)
  obtain ⟨rfl, rfl⟩ := O_2
  refine jj_apd rfl ?_
  refine jj_aload_n C dJ1_charAt_3b067_6 rfl ?_
  refine jj_iload_n C dJ1_charAt_3b067_7 rfl ?_
  refine jj_sbyt (k := 11) (v := 122) C (by decide) (vp_in_iff.mpr (by decide)) (by decide) dJ1_charAt_3b067_8 ?_
  refine jj_sipush (v := 255) C dJ1_charAt_3b067_9 (by decide) ?_
  refine jj_iand (v := 122) C dJ1_charAt_3b067_12 (by decide) ?_
  refine jj_i2c (v := 122) C dJ1_charAt_3b067_13 (by decide) ?_
  exact jj_zret C rfl ⟨rfl, rfl⟩ dJ1_charAt_3b067_14 (jj_le rfl) (jj_le rfl)

set_option maxHeartbeats 4000000 in
set_option maxRecDepth 100000 in
theorem ct_J0_charAt_5068e_74 {l : Launch} (hl : l.stackTraces = false) (D : va_G) (cA : Nat → ClassId) (ak : (Nat → Nat) × (Nat → Nat)) : jj_M l D cA ak yJ0_charAt_5068e (.code yJ0_charAt_5068e cJ0_charAt_5068e 2 (some .char)) 3 64 0 0 [] [.ref (ak.1 11), .int 9] (fun (w : va_W) (r : Option Value) => (w = [] ∧ r = some (.int 122))) jj_noX := by
  refine jj_start hl (by decide) jw_391c0f56bd (jj_le rfl) ?_
  intro p e s m args below meth c A hargs hA C hex hmn
  refine jj_aload_n C dJ0_charAt_5068e_0 rfl ?_
  refine jq_callVs (rest := []) C (ct_J0_isLatin1_aae02_12 hl D cA ak) [] [] rfl rfl (by decide) (by decide) (by decide) 11 (by decide) rfl jw_5ca960aa2e jw_b7ba7c03ae jw_c4fe6f1e08 jw_4ea6285965 jw_1aa7753999 jn_J0_isLatin1_aae02 rfl (jj_le rfl) (jj_le rfl) (jj_le rfl) (jj_le rfl) (jj_le rfl) dJ0_charAt_5068e_1 rfl (fun _ _ hX => hX.elim) (fun w1 r O_2 => ?_)
  obtain ⟨rfl, rfl⟩ := O_2
  refine jj_apd rfl ?_
  refine jj_if_eqF (tgt := 16) C dJ0_charAt_5068e_4 (by decide) (by decide) ?_
  refine jj_aload_n C dJ0_charAt_5068e_7 rfl ?_
  refine jj_sval (k := 11) C (by decide) jw_90a506b1c3 dJ0_charAt_5068e_8 ?_
  refine jj_iload_n C dJ0_charAt_5068e_11 rfl ?_
  refine jq_callS (rest := []) C (ct_J1_charAt_3b067_74 hl D cA ak) [] [] rfl rfl (by decide) (by decide) (by decide) jw_7e2463d496 jw_530d7ac64c jw_2a3a2ce6ce jw_6996a9eac3 jn_J1_charAt_3b067 rfl (jj_le rfl) (jj_le rfl) (jj_le rfl) (jj_le rfl) (jj_le rfl) dJ0_charAt_5068e_12 rfl (fun _ _ hX => hX.elim) (fun w1 r O_4 => ?_)
  obtain ⟨rfl, rfl⟩ := O_4
  refine jj_apd rfl ?_
  exact jj_zret C rfl ⟨rfl, rfl⟩ dJ0_charAt_5068e_15 (jj_le rfl) (jj_le rfl)

set_option maxHeartbeats 4000000 in
set_option maxRecDepth 100000 in
theorem ct_J3_checkIndex_8e157_69 {l : Launch} (hl : l.stackTraces = false) (D : va_G) (cA : Nat → ClassId) (ak : (Nat → Nat) × (Nat → Nat)) (h0 : Nat) : jj_M l D cA ak yJ3_checkIndex_8e157 (.code yJ3_checkIndex_8e157 cJ3_checkIndex_8e157 3 (some .int)) 0 0 0 0 [] [.int 10, .int 11, .ref h0] (fun (w : va_W) (r : Option Value) => (w = [] ∧ r = some (.int 10))) jj_noX := by
  refine jj_start hl (by decide) jw_da9869a695 (jj_le rfl) ?_
  intro p e s m args below meth c A hargs hA C hex hmn
  refine jj_iload_n C dJ3_checkIndex_8e157_0 rfl ?_
  refine jj_if_ltF (tgt := 9) C dJ3_checkIndex_8e157_1 (by decide) (by decide) ?_
  refine jj_iload_n C dJ3_checkIndex_8e157_4 rfl ?_
  refine jj_iload_n C dJ3_checkIndex_8e157_5 rfl ?_
  refine jj_icmp_ltT (tgt := 16) C dJ3_checkIndex_8e157_6 (by decide) (by decide) ?_
  refine jj_iload_n C dJ3_checkIndex_8e157_16 rfl ?_
  exact jj_iret C ⟨rfl, rfl⟩ dJ3_checkIndex_8e157_17 (jj_le rfl) (jj_le rfl)

set_option maxHeartbeats 4000000 in
set_option maxRecDepth 100000 in
theorem ct_J3_checkIndex_8e157_70 {l : Launch} (hl : l.stackTraces = false) (D : va_G) (cA : Nat → ClassId) (ak : (Nat → Nat) × (Nat → Nat)) : jj_M l D cA ak yJ3_checkIndex_8e157 (.code yJ3_checkIndex_8e157 cJ3_checkIndex_8e157 3 (some .int)) 0 0 0 0 [] [.int 10, .int 11, .null] (fun (w : va_W) (r : Option Value) => (w = [] ∧ r = some (.int 10))) jj_noX := by
  refine jj_start hl (by decide) jw_da9869a695 (jj_le rfl) ?_
  intro p e s m args below meth c A hargs hA C hex hmn
  refine jj_iload_n C dJ3_checkIndex_8e157_0 rfl ?_
  refine jj_if_ltF (tgt := 9) C dJ3_checkIndex_8e157_1 (by decide) (by decide) ?_
  refine jj_iload_n C dJ3_checkIndex_8e157_4 rfl ?_
  refine jj_iload_n C dJ3_checkIndex_8e157_5 rfl ?_
  refine jj_icmp_ltT (tgt := 16) C dJ3_checkIndex_8e157_6 (by decide) (by decide) ?_
  refine jj_iload_n C dJ3_checkIndex_8e157_16 rfl ?_
  exact jj_iret C ⟨rfl, rfl⟩ dJ3_checkIndex_8e157_17 (jj_le rfl) (jj_le rfl)

set_option maxHeartbeats 4000000 in
set_option maxRecDepth 100000 in
theorem ct_J0_checkIndex_df160_35 {l : Launch} (hl : l.stackTraces = false) (D : va_G) (cA : Nat → ClassId) (ak : (Nat → Nat) × (Nat → Nat)) : jj_M l D cA ak yJ0_checkIndex_df160 (.code yJ0_checkIndex_df160 cJ0_checkIndex_df160 2 none) 1 22 0 0 [] [.int 10, .int 11] (fun (w : va_W) (r : Option Value) => (w = [] ∧ r = none)) jj_noX := by
  refine jj_start hl (by decide) jw_73f64df4e3 (jj_le rfl) ?_
  intro p e s m args below meth c A hargs hA C hex hmn
  refine jj_iload_n C dJ0_checkIndex_df160_0 rfl ?_
  refine jj_iload_n C dJ0_checkIndex_df160_1 rfl ?_
  refine jj_gfm C jw_040150fc39 dJ0_checkIndex_df160_2 (fun t_1 => ?_) ?_
  · refine jq_callS (rest := []) C (ct_J3_checkIndex_8e157_69 hl D cA ak t_1) [] [] rfl rfl (by decide) (by decide) (by decide) jw_a7a8b385a1 jw_8d35bed6b0 jw_2c7dffdd00 jw_da9869a695 jn_J3_checkIndex_8e157 rfl (jj_le rfl) (jj_le rfl) (jj_le rfl) (jj_le rfl) (jj_le rfl) dJ0_checkIndex_df160_5 rfl (fun _ _ hX => hX.elim) (fun w1 r O_3 => ?_)
    obtain ⟨rfl, rfl⟩ := O_3
    refine jj_apd rfl ?_
    refine jj_pop C dJ0_checkIndex_df160_8 rfl ?_
    exact jj_vret C ⟨rfl, rfl⟩ dJ0_checkIndex_df160_9 (jj_le rfl) (jj_le rfl)
  · refine jq_callS (rest := []) C (ct_J3_checkIndex_8e157_70 hl D cA ak) [] [] rfl rfl (by decide) (by decide) (by decide) jw_a7a8b385a1 jw_8d35bed6b0 jw_2c7dffdd00 jw_da9869a695 jn_J3_checkIndex_8e157 rfl (jj_le rfl) (jj_le rfl) (jj_le rfl) (jj_le rfl) (jj_le rfl) dJ0_checkIndex_df160_5 rfl (fun _ _ hX => hX.elim) (fun w1 r O_5 => ?_)
    obtain ⟨rfl, rfl⟩ := O_5
    refine jj_apd rfl ?_
    refine jj_pop C dJ0_checkIndex_df160_8 rfl ?_
    exact jj_vret C ⟨rfl, rfl⟩ dJ0_checkIndex_df160_9 (jj_le rfl) (jj_le rfl)

set_option maxHeartbeats 4000000 in
set_option maxRecDepth 100000 in
theorem ct_J1_charAt_3b067_75 {l : Launch} (hl : l.stackTraces = false) (D : va_G) (cA : Nat → ClassId) (ak : (Nat → Nat) × (Nat → Nat)) : jj_M l D cA ak yJ1_charAt_3b067 (.code yJ1_charAt_3b067 cJ1_charAt_3b067 2 (some .char)) 2 43 0 0 [] [.ref (ak.2 11), .int 10] (fun (w : va_W) (r : Option Value) => (w = [] ∧ r = some (.int 101))) jj_noX := by
  refine jj_start hl (by decide) jw_6996a9eac3 (jj_le rfl) ?_
  intro p e s m args below meth c A hargs hA C hex hmn
  refine jj_iload_n C dJ1_charAt_3b067_0 rfl ?_
  refine jj_aload_n C dJ1_charAt_3b067_1 rfl ?_
  refine jj_slen (k := 11) (v := 11) C (by decide) (by decide) dJ1_charAt_3b067_2 ?_
  refine jq_callS (rest := []) C (ct_J0_checkIndex_df160_35 hl D cA ak) [] [] rfl rfl (by decide) (by decide) (by decide) jw_763fabfbf2 jw_9aa540e9dd jw_4ea6285965 jw_73f64df4e3 jn_J0_checkIndex_df160 rfl (jj_le rfl) (jj_le rfl) (jj_le rfl) (jj_le rfl) (jj_le rfl) dJ1_charAt_3b067_3 rfl (fun _ _ hX => hX.elim) (fun w1 r O_2 => ?_)
  obtain ⟨rfl, rfl⟩ := O_2
  refine jj_apd rfl ?_
  refine jj_aload_n C dJ1_charAt_3b067_6 rfl ?_
  refine jj_iload_n C dJ1_charAt_3b067_7 rfl ?_
  refine jj_sbyt (k := 11) (v := 101) C (by decide) (vp_in_iff.mpr (by decide)) (by decide) dJ1_charAt_3b067_8 ?_
  refine jj_sipush (v := 255) C dJ1_charAt_3b067_9 (by decide) ?_
  refine jj_iand (v := 101) C dJ1_charAt_3b067_12 (by decide) ?_
  refine jj_i2c (v := 101) C dJ1_charAt_3b067_13 (by decide) ?_
  exact jj_zret C rfl ⟨rfl, rfl⟩ dJ1_charAt_3b067_14 (jj_le rfl) (jj_le rfl)

set_option maxHeartbeats 4000000 in
set_option maxRecDepth 100000 in
theorem ct_J0_charAt_5068e_75 {l : Launch} (hl : l.stackTraces = false) (D : va_G) (cA : Nat → ClassId) (ak : (Nat → Nat) × (Nat → Nat)) : jj_M l D cA ak yJ0_charAt_5068e (.code yJ0_charAt_5068e cJ0_charAt_5068e 2 (some .char)) 3 64 0 0 [] [.ref (ak.1 11), .int 10] (fun (w : va_W) (r : Option Value) => (w = [] ∧ r = some (.int 101))) jj_noX := by
  refine jj_start hl (by decide) jw_391c0f56bd (jj_le rfl) ?_
  intro p e s m args below meth c A hargs hA C hex hmn
  refine jj_aload_n C dJ0_charAt_5068e_0 rfl ?_
  refine jq_callVs (rest := []) C (ct_J0_isLatin1_aae02_12 hl D cA ak) [] [] rfl rfl (by decide) (by decide) (by decide) 11 (by decide) rfl jw_5ca960aa2e jw_b7ba7c03ae jw_c4fe6f1e08 jw_4ea6285965 jw_1aa7753999 jn_J0_isLatin1_aae02 rfl (jj_le rfl) (jj_le rfl) (jj_le rfl) (jj_le rfl) (jj_le rfl) dJ0_charAt_5068e_1 rfl (fun _ _ hX => hX.elim) (fun w1 r O_2 => ?_)
  obtain ⟨rfl, rfl⟩ := O_2
  refine jj_apd rfl ?_
  refine jj_if_eqF (tgt := 16) C dJ0_charAt_5068e_4 (by decide) (by decide) ?_
  refine jj_aload_n C dJ0_charAt_5068e_7 rfl ?_
  refine jj_sval (k := 11) C (by decide) jw_90a506b1c3 dJ0_charAt_5068e_8 ?_
  refine jj_iload_n C dJ0_charAt_5068e_11 rfl ?_
  refine jq_callS (rest := []) C (ct_J1_charAt_3b067_75 hl D cA ak) [] [] rfl rfl (by decide) (by decide) (by decide) jw_7e2463d496 jw_530d7ac64c jw_2a3a2ce6ce jw_6996a9eac3 jn_J1_charAt_3b067 rfl (jj_le rfl) (jj_le rfl) (jj_le rfl) (jj_le rfl) (jj_le rfl) dJ0_charAt_5068e_12 rfl (fun _ _ hX => hX.elim) (fun w1 r O_4 => ?_)
  obtain ⟨rfl, rfl⟩ := O_4
  refine jj_apd rfl ?_
  exact jj_zret C rfl ⟨rfl, rfl⟩ dJ0_charAt_5068e_15 (jj_le rfl) (jj_le rfl)

set_option maxHeartbeats 4000000 in
set_option maxRecDepth 100000 in
theorem ct_J0_coder_7d493_13 {l : Launch} (hl : l.stackTraces = false) (D : va_G) (cA : Nat → ClassId) (ak : (Nat → Nat) × (Nat → Nat)) : jj_M l D cA ak yJ0_coder_7d493 (.code yJ0_coder_7d493 cJ0_coder_7d493 1 (some .byte)) 0 0 0 0 [] [.ref (ak.1 12)] (fun (w : va_W) (r : Option Value) => (w = [] ∧ r = some (.int 0))) jj_noX := by
  refine jj_start hl (by decide) jw_084b973d83 (jj_le rfl) ?_
  intro p e s m args below meth c A hargs hA C hex hmn
  refine jj_gcs C jw_478bb18c33 dJ0_coder_7d493_0 ?_
  refine jj_if_eqF (tgt := 13) C dJ0_coder_7d493_3 (by decide) (by decide) ?_
  refine jj_aload_n C dJ0_coder_7d493_6 rfl ?_
  refine jj_scod (k := 12) C (by decide) jw_7816d6e515 dJ0_coder_7d493_7 ?_
  refine jj_goto (tgt := 14) C dJ0_coder_7d493_10 (by decide) ?_
  exact jj_zret C rfl ⟨rfl, rfl⟩ dJ0_coder_7d493_14 (jj_le rfl) (jj_le rfl)

set_option maxHeartbeats 4000000 in
set_option maxRecDepth 100000 in
theorem ct_J0_length_8abf5_13 {l : Launch} (hl : l.stackTraces = false) (D : va_G) (cA : Nat → ClassId) (ak : (Nat → Nat) × (Nat → Nat)) : jj_M l D cA ak yJ0_length_8abf5 (.code yJ0_length_8abf5 cJ0_length_8abf5 1 (some .int)) 1 20 0 0 [] [.ref (ak.1 12)] (fun (w : va_W) (r : Option Value) => (w = [] ∧ r = some (.int 5))) jj_noX := by
  refine jj_start hl (by decide) jw_bbc7045666 (jj_le rfl) ?_
  intro p e s m args below meth c A hargs hA C hex hmn
  refine jj_aload_n C dJ0_length_8abf5_0 rfl ?_
  refine jj_sval (k := 12) C (by decide) jw_90a506b1c3 dJ0_length_8abf5_1 ?_
  refine jj_slen (k := 12) (v := 5) C (by decide) (by decide) dJ0_length_8abf5_4 ?_
  refine jj_aload_n C dJ0_length_8abf5_5 rfl ?_
  refine jq_callVs (rest := [.int 5]) C (ct_J0_coder_7d493_13 hl D cA ak) [] [] rfl rfl (by decide) (by decide) (by decide) 12 (by decide) rfl jw_f46b3464d2 jw_35edddbded jw_31f76f5b78 jw_4ea6285965 jw_084b973d83 jn_J0_coder_7d493 rfl (jj_le rfl) (jj_le rfl) (jj_le rfl) (jj_le rfl) (jj_le rfl) dJ0_length_8abf5_6 rfl (fun _ _ hX => hX.elim) (fun w1 r O_2 => ?_)
  obtain ⟨rfl, rfl⟩ := O_2
  refine jj_apd rfl ?_
  refine jj_ishr (v := 5) C dJ0_length_8abf5_9 (by decide) ?_
  exact jj_iret C ⟨rfl, rfl⟩ dJ0_length_8abf5_10 (jj_le rfl) (jj_le rfl)

set_option maxHeartbeats 4000000 in
set_option maxRecDepth 100000 in
theorem ct_J0_isLatin1_aae02_13 {l : Launch} (hl : l.stackTraces = false) (D : va_G) (cA : Nat → ClassId) (ak : (Nat → Nat) × (Nat → Nat)) : jj_M l D cA ak yJ0_isLatin1_aae02 (.code yJ0_isLatin1_aae02 cJ0_isLatin1_aae02 1 (some .boolean)) 0 0 0 0 [] [.ref (ak.1 12)] (fun (w : va_W) (r : Option Value) => (w = [] ∧ r = some (.int 1))) jj_noX := by
  refine jj_start hl (by decide) jw_1aa7753999 (jj_le rfl) ?_
  intro p e s m args below meth c A hargs hA C hex hmn
  refine jj_gcs C jw_478bb18c33 dJ0_isLatin1_aae02_0 ?_
  refine jj_if_eqF (tgt := 17) C dJ0_isLatin1_aae02_3 (by decide) (by decide) ?_
  refine jj_aload_n C dJ0_isLatin1_aae02_6 rfl ?_
  refine jj_scod (k := 12) C (by decide) jw_7816d6e515 dJ0_isLatin1_aae02_7 ?_
  refine jj_if_neF (tgt := 17) C dJ0_isLatin1_aae02_10 (by decide) (by decide) ?_
  refine jj_iconst (v := 1) C dJ0_isLatin1_aae02_13 (by decide) ?_
  refine jj_goto (tgt := 18) C dJ0_isLatin1_aae02_14 (by decide) ?_
  exact jj_zret C rfl ⟨rfl, rfl⟩ dJ0_isLatin1_aae02_18 (jj_le rfl) (jj_le rfl)

set_option maxHeartbeats 4000000 in
set_option maxRecDepth 100000 in
theorem ct_J1_charAt_3b067_76 {l : Launch} (hl : l.stackTraces = false) (D : va_G) (cA : Nat → ClassId) (ak : (Nat → Nat) × (Nat → Nat)) : jj_M l D cA ak yJ1_charAt_3b067 (.code yJ1_charAt_3b067 cJ1_charAt_3b067 2 (some .char)) 2 43 0 0 [] [.ref (ak.2 12), .int 0] (fun (w : va_W) (r : Option Value) => (w = [] ∧ r = some (.int 109))) jj_noX := by
  refine jj_start hl (by decide) jw_6996a9eac3 (jj_le rfl) ?_
  intro p e s m args below meth c A hargs hA C hex hmn
  refine jj_iload_n C dJ1_charAt_3b067_0 rfl ?_
  refine jj_aload_n C dJ1_charAt_3b067_1 rfl ?_
  refine jj_slen (k := 12) (v := 5) C (by decide) (by decide) dJ1_charAt_3b067_2 ?_
  refine jq_callS (rest := []) C (ct_J0_checkIndex_df160_5 hl D cA ak) [] [] rfl rfl (by decide) (by decide) (by decide) jw_763fabfbf2 jw_9aa540e9dd jw_4ea6285965 jw_73f64df4e3 jn_J0_checkIndex_df160 rfl (jj_le rfl) (jj_le rfl) (jj_le rfl) (jj_le rfl) (jj_le rfl) dJ1_charAt_3b067_3 rfl (fun _ _ hX => hX.elim) (fun w1 r O_2 => ?_)
  obtain ⟨rfl, rfl⟩ := O_2
  refine jj_apd rfl ?_
  refine jj_aload_n C dJ1_charAt_3b067_6 rfl ?_
  refine jj_iload_n C dJ1_charAt_3b067_7 rfl ?_
  refine jj_sbyt (k := 12) (v := 109) C (by decide) (vp_in_iff.mpr (by decide)) (by decide) dJ1_charAt_3b067_8 ?_
  refine jj_sipush (v := 255) C dJ1_charAt_3b067_9 (by decide) ?_
  refine jj_iand (v := 109) C dJ1_charAt_3b067_12 (by decide) ?_
  refine jj_i2c (v := 109) C dJ1_charAt_3b067_13 (by decide) ?_
  exact jj_zret C rfl ⟨rfl, rfl⟩ dJ1_charAt_3b067_14 (jj_le rfl) (jj_le rfl)

set_option maxHeartbeats 4000000 in
set_option maxRecDepth 100000 in
theorem ct_J0_charAt_5068e_76 {l : Launch} (hl : l.stackTraces = false) (D : va_G) (cA : Nat → ClassId) (ak : (Nat → Nat) × (Nat → Nat)) : jj_M l D cA ak yJ0_charAt_5068e (.code yJ0_charAt_5068e cJ0_charAt_5068e 2 (some .char)) 3 64 0 0 [] [.ref (ak.1 12), .int 0] (fun (w : va_W) (r : Option Value) => (w = [] ∧ r = some (.int 109))) jj_noX := by
  refine jj_start hl (by decide) jw_391c0f56bd (jj_le rfl) ?_
  intro p e s m args below meth c A hargs hA C hex hmn
  refine jj_aload_n C dJ0_charAt_5068e_0 rfl ?_
  refine jq_callVs (rest := []) C (ct_J0_isLatin1_aae02_13 hl D cA ak) [] [] rfl rfl (by decide) (by decide) (by decide) 12 (by decide) rfl jw_5ca960aa2e jw_b7ba7c03ae jw_c4fe6f1e08 jw_4ea6285965 jw_1aa7753999 jn_J0_isLatin1_aae02 rfl (jj_le rfl) (jj_le rfl) (jj_le rfl) (jj_le rfl) (jj_le rfl) dJ0_charAt_5068e_1 rfl (fun _ _ hX => hX.elim) (fun w1 r O_2 => ?_)
  obtain ⟨rfl, rfl⟩ := O_2
  refine jj_apd rfl ?_
  refine jj_if_eqF (tgt := 16) C dJ0_charAt_5068e_4 (by decide) (by decide) ?_
  refine jj_aload_n C dJ0_charAt_5068e_7 rfl ?_
  refine jj_sval (k := 12) C (by decide) jw_90a506b1c3 dJ0_charAt_5068e_8 ?_
  refine jj_iload_n C dJ0_charAt_5068e_11 rfl ?_
  refine jq_callS (rest := []) C (ct_J1_charAt_3b067_76 hl D cA ak) [] [] rfl rfl (by decide) (by decide) (by decide) jw_7e2463d496 jw_530d7ac64c jw_2a3a2ce6ce jw_6996a9eac3 jn_J1_charAt_3b067 rfl (jj_le rfl) (jj_le rfl) (jj_le rfl) (jj_le rfl) (jj_le rfl) dJ0_charAt_5068e_12 rfl (fun _ _ hX => hX.elim) (fun w1 r O_4 => ?_)
  obtain ⟨rfl, rfl⟩ := O_4
  refine jj_apd rfl ?_
  exact jj_zret C rfl ⟨rfl, rfl⟩ dJ0_charAt_5068e_15 (jj_le rfl) (jj_le rfl)

set_option maxHeartbeats 4000000 in
set_option maxRecDepth 100000 in
theorem ct_J1_charAt_3b067_77 {l : Launch} (hl : l.stackTraces = false) (D : va_G) (cA : Nat → ClassId) (ak : (Nat → Nat) × (Nat → Nat)) : jj_M l D cA ak yJ1_charAt_3b067 (.code yJ1_charAt_3b067 cJ1_charAt_3b067 2 (some .char)) 2 43 0 0 [] [.ref (ak.2 12), .int 1] (fun (w : va_W) (r : Option Value) => (w = [] ∧ r = some (.int 101))) jj_noX := by
  refine jj_start hl (by decide) jw_6996a9eac3 (jj_le rfl) ?_
  intro p e s m args below meth c A hargs hA C hex hmn
  refine jj_iload_n C dJ1_charAt_3b067_0 rfl ?_
  refine jj_aload_n C dJ1_charAt_3b067_1 rfl ?_
  refine jj_slen (k := 12) (v := 5) C (by decide) (by decide) dJ1_charAt_3b067_2 ?_
  refine jq_callS (rest := []) C (ct_J0_checkIndex_df160_6 hl D cA ak) [] [] rfl rfl (by decide) (by decide) (by decide) jw_763fabfbf2 jw_9aa540e9dd jw_4ea6285965 jw_73f64df4e3 jn_J0_checkIndex_df160 rfl (jj_le rfl) (jj_le rfl) (jj_le rfl) (jj_le rfl) (jj_le rfl) dJ1_charAt_3b067_3 rfl (fun _ _ hX => hX.elim) (fun w1 r O_2 => ?_)
  obtain ⟨rfl, rfl⟩ := O_2
  refine jj_apd rfl ?_
  refine jj_aload_n C dJ1_charAt_3b067_6 rfl ?_
  refine jj_iload_n C dJ1_charAt_3b067_7 rfl ?_
  refine jj_sbyt (k := 12) (v := 101) C (by decide) (vp_in_iff.mpr (by decide)) (by decide) dJ1_charAt_3b067_8 ?_
  refine jj_sipush (v := 255) C dJ1_charAt_3b067_9 (by decide) ?_
  refine jj_iand (v := 101) C dJ1_charAt_3b067_12 (by decide) ?_
  refine jj_i2c (v := 101) C dJ1_charAt_3b067_13 (by decide) ?_
  exact jj_zret C rfl ⟨rfl, rfl⟩ dJ1_charAt_3b067_14 (jj_le rfl) (jj_le rfl)

set_option maxHeartbeats 4000000 in
set_option maxRecDepth 100000 in
theorem ct_J0_charAt_5068e_77 {l : Launch} (hl : l.stackTraces = false) (D : va_G) (cA : Nat → ClassId) (ak : (Nat → Nat) × (Nat → Nat)) : jj_M l D cA ak yJ0_charAt_5068e (.code yJ0_charAt_5068e cJ0_charAt_5068e 2 (some .char)) 3 64 0 0 [] [.ref (ak.1 12), .int 1] (fun (w : va_W) (r : Option Value) => (w = [] ∧ r = some (.int 101))) jj_noX := by
  refine jj_start hl (by decide) jw_391c0f56bd (jj_le rfl) ?_
  intro p e s m args below meth c A hargs hA C hex hmn
  refine jj_aload_n C dJ0_charAt_5068e_0 rfl ?_
  refine jq_callVs (rest := []) C (ct_J0_isLatin1_aae02_13 hl D cA ak) [] [] rfl rfl (by decide) (by decide) (by decide) 12 (by decide) rfl jw_5ca960aa2e jw_b7ba7c03ae jw_c4fe6f1e08 jw_4ea6285965 jw_1aa7753999 jn_J0_isLatin1_aae02 rfl (jj_le rfl) (jj_le rfl) (jj_le rfl) (jj_le rfl) (jj_le rfl) dJ0_charAt_5068e_1 rfl (fun _ _ hX => hX.elim) (fun w1 r O_2 => ?_)
  obtain ⟨rfl, rfl⟩ := O_2
  refine jj_apd rfl ?_
  refine jj_if_eqF (tgt := 16) C dJ0_charAt_5068e_4 (by decide) (by decide) ?_
  refine jj_aload_n C dJ0_charAt_5068e_7 rfl ?_
  refine jj_sval (k := 12) C (by decide) jw_90a506b1c3 dJ0_charAt_5068e_8 ?_
  refine jj_iload_n C dJ0_charAt_5068e_11 rfl ?_
  refine jq_callS (rest := []) C (ct_J1_charAt_3b067_77 hl D cA ak) [] [] rfl rfl (by decide) (by decide) (by decide) jw_7e2463d496 jw_530d7ac64c jw_2a3a2ce6ce jw_6996a9eac3 jn_J1_charAt_3b067 rfl (jj_le rfl) (jj_le rfl) (jj_le rfl) (jj_le rfl) (jj_le rfl) dJ0_charAt_5068e_12 rfl (fun _ _ hX => hX.elim) (fun w1 r O_4 => ?_)
  obtain ⟨rfl, rfl⟩ := O_4
  refine jj_apd rfl ?_
  exact jj_zret C rfl ⟨rfl, rfl⟩ dJ0_charAt_5068e_15 (jj_le rfl) (jj_le rfl)

set_option maxHeartbeats 4000000 in
set_option maxRecDepth 100000 in
theorem ct_J1_charAt_3b067_78 {l : Launch} (hl : l.stackTraces = false) (D : va_G) (cA : Nat → ClassId) (ak : (Nat → Nat) × (Nat → Nat)) : jj_M l D cA ak yJ1_charAt_3b067 (.code yJ1_charAt_3b067 cJ1_charAt_3b067 2 (some .char)) 2 43 0 0 [] [.ref (ak.2 12), .int 2] (fun (w : va_W) (r : Option Value) => (w = [] ∧ r = some (.int 114))) jj_noX := by
  refine jj_start hl (by decide) jw_6996a9eac3 (jj_le rfl) ?_
  intro p e s m args below meth c A hargs hA C hex hmn
  refine jj_iload_n C dJ1_charAt_3b067_0 rfl ?_
  refine jj_aload_n C dJ1_charAt_3b067_1 rfl ?_
  refine jj_slen (k := 12) (v := 5) C (by decide) (by decide) dJ1_charAt_3b067_2 ?_
  refine jq_callS (rest := []) C (ct_J0_checkIndex_df160_7 hl D cA ak) [] [] rfl rfl (by decide) (by decide) (by decide) jw_763fabfbf2 jw_9aa540e9dd jw_4ea6285965 jw_73f64df4e3 jn_J0_checkIndex_df160 rfl (jj_le rfl) (jj_le rfl) (jj_le rfl) (jj_le rfl) (jj_le rfl) dJ1_charAt_3b067_3 rfl (fun _ _ hX => hX.elim) (fun w1 r O_2 => ?_)
  obtain ⟨rfl, rfl⟩ := O_2
  refine jj_apd rfl ?_
  refine jj_aload_n C dJ1_charAt_3b067_6 rfl ?_
  refine jj_iload_n C dJ1_charAt_3b067_7 rfl ?_
  refine jj_sbyt (k := 12) (v := 114) C (by decide) (vp_in_iff.mpr (by decide)) (by decide) dJ1_charAt_3b067_8 ?_
  refine jj_sipush (v := 255) C dJ1_charAt_3b067_9 (by decide) ?_
  refine jj_iand (v := 114) C dJ1_charAt_3b067_12 (by decide) ?_
  refine jj_i2c (v := 114) C dJ1_charAt_3b067_13 (by decide) ?_
  exact jj_zret C rfl ⟨rfl, rfl⟩ dJ1_charAt_3b067_14 (jj_le rfl) (jj_le rfl)

set_option maxHeartbeats 4000000 in
set_option maxRecDepth 100000 in
theorem ct_J0_charAt_5068e_78 {l : Launch} (hl : l.stackTraces = false) (D : va_G) (cA : Nat → ClassId) (ak : (Nat → Nat) × (Nat → Nat)) : jj_M l D cA ak yJ0_charAt_5068e (.code yJ0_charAt_5068e cJ0_charAt_5068e 2 (some .char)) 3 64 0 0 [] [.ref (ak.1 12), .int 2] (fun (w : va_W) (r : Option Value) => (w = [] ∧ r = some (.int 114))) jj_noX := by
  refine jj_start hl (by decide) jw_391c0f56bd (jj_le rfl) ?_
  intro p e s m args below meth c A hargs hA C hex hmn
  refine jj_aload_n C dJ0_charAt_5068e_0 rfl ?_
  refine jq_callVs (rest := []) C (ct_J0_isLatin1_aae02_13 hl D cA ak) [] [] rfl rfl (by decide) (by decide) (by decide) 12 (by decide) rfl jw_5ca960aa2e jw_b7ba7c03ae jw_c4fe6f1e08 jw_4ea6285965 jw_1aa7753999 jn_J0_isLatin1_aae02 rfl (jj_le rfl) (jj_le rfl) (jj_le rfl) (jj_le rfl) (jj_le rfl) dJ0_charAt_5068e_1 rfl (fun _ _ hX => hX.elim) (fun w1 r O_2 => ?_)
  obtain ⟨rfl, rfl⟩ := O_2
  refine jj_apd rfl ?_
  refine jj_if_eqF (tgt := 16) C dJ0_charAt_5068e_4 (by decide) (by decide) ?_
  refine jj_aload_n C dJ0_charAt_5068e_7 rfl ?_
  refine jj_sval (k := 12) C (by decide) jw_90a506b1c3 dJ0_charAt_5068e_8 ?_
  refine jj_iload_n C dJ0_charAt_5068e_11 rfl ?_
  refine jq_callS (rest := []) C (ct_J1_charAt_3b067_78 hl D cA ak) [] [] rfl rfl (by decide) (by decide) (by decide) jw_7e2463d496 jw_530d7ac64c jw_2a3a2ce6ce jw_6996a9eac3 jn_J1_charAt_3b067 rfl (jj_le rfl) (jj_le rfl) (jj_le rfl) (jj_le rfl) (jj_le rfl) dJ0_charAt_5068e_12 rfl (fun _ _ hX => hX.elim) (fun w1 r O_4 => ?_)
  obtain ⟨rfl, rfl⟩ := O_4
  refine jj_apd rfl ?_
  exact jj_zret C rfl ⟨rfl, rfl⟩ dJ0_charAt_5068e_15 (jj_le rfl) (jj_le rfl)

set_option maxHeartbeats 4000000 in
set_option maxRecDepth 100000 in
theorem ct_J1_charAt_3b067_79 {l : Launch} (hl : l.stackTraces = false) (D : va_G) (cA : Nat → ClassId) (ak : (Nat → Nat) × (Nat → Nat)) : jj_M l D cA ak yJ1_charAt_3b067 (.code yJ1_charAt_3b067 cJ1_charAt_3b067 2 (some .char)) 2 43 0 0 [] [.ref (ak.2 12), .int 3] (fun (w : va_W) (r : Option Value) => (w = [] ∧ r = some (.int 103))) jj_noX := by
  refine jj_start hl (by decide) jw_6996a9eac3 (jj_le rfl) ?_
  intro p e s m args below meth c A hargs hA C hex hmn
  refine jj_iload_n C dJ1_charAt_3b067_0 rfl ?_
  refine jj_aload_n C dJ1_charAt_3b067_1 rfl ?_
  refine jj_slen (k := 12) (v := 5) C (by decide) (by decide) dJ1_charAt_3b067_2 ?_
  refine jq_callS (rest := []) C (ct_J0_checkIndex_df160_8 hl D cA ak) [] [] rfl rfl (by decide) (by decide) (by decide) jw_763fabfbf2 jw_9aa540e9dd jw_4ea6285965 jw_73f64df4e3 jn_J0_checkIndex_df160 rfl (jj_le rfl) (jj_le rfl) (jj_le rfl) (jj_le rfl) (jj_le rfl) dJ1_charAt_3b067_3 rfl (fun _ _ hX => hX.elim) (fun w1 r O_2 => ?_)
  obtain ⟨rfl, rfl⟩ := O_2
  refine jj_apd rfl ?_
  refine jj_aload_n C dJ1_charAt_3b067_6 rfl ?_
  refine jj_iload_n C dJ1_charAt_3b067_7 rfl ?_
  refine jj_sbyt (k := 12) (v := 103) C (by decide) (vp_in_iff.mpr (by decide)) (by decide) dJ1_charAt_3b067_8 ?_
  refine jj_sipush (v := 255) C dJ1_charAt_3b067_9 (by decide) ?_
  refine jj_iand (v := 103) C dJ1_charAt_3b067_12 (by decide) ?_
  refine jj_i2c (v := 103) C dJ1_charAt_3b067_13 (by decide) ?_
  exact jj_zret C rfl ⟨rfl, rfl⟩ dJ1_charAt_3b067_14 (jj_le rfl) (jj_le rfl)

set_option maxHeartbeats 4000000 in
set_option maxRecDepth 100000 in
theorem ct_J0_charAt_5068e_79 {l : Launch} (hl : l.stackTraces = false) (D : va_G) (cA : Nat → ClassId) (ak : (Nat → Nat) × (Nat → Nat)) : jj_M l D cA ak yJ0_charAt_5068e (.code yJ0_charAt_5068e cJ0_charAt_5068e 2 (some .char)) 3 64 0 0 [] [.ref (ak.1 12), .int 3] (fun (w : va_W) (r : Option Value) => (w = [] ∧ r = some (.int 103))) jj_noX := by
  refine jj_start hl (by decide) jw_391c0f56bd (jj_le rfl) ?_
  intro p e s m args below meth c A hargs hA C hex hmn
  refine jj_aload_n C dJ0_charAt_5068e_0 rfl ?_
  refine jq_callVs (rest := []) C (ct_J0_isLatin1_aae02_13 hl D cA ak) [] [] rfl rfl (by decide) (by decide) (by decide) 12 (by decide) rfl jw_5ca960aa2e jw_b7ba7c03ae jw_c4fe6f1e08 jw_4ea6285965 jw_1aa7753999 jn_J0_isLatin1_aae02 rfl (jj_le rfl) (jj_le rfl) (jj_le rfl) (jj_le rfl) (jj_le rfl) dJ0_charAt_5068e_1 rfl (fun _ _ hX => hX.elim) (fun w1 r O_2 => ?_)
  obtain ⟨rfl, rfl⟩ := O_2
  refine jj_apd rfl ?_
  refine jj_if_eqF (tgt := 16) C dJ0_charAt_5068e_4 (by decide) (by decide) ?_
  refine jj_aload_n C dJ0_charAt_5068e_7 rfl ?_
  refine jj_sval (k := 12) C (by decide) jw_90a506b1c3 dJ0_charAt_5068e_8 ?_
  refine jj_iload_n C dJ0_charAt_5068e_11 rfl ?_
  refine jq_callS (rest := []) C (ct_J1_charAt_3b067_79 hl D cA ak) [] [] rfl rfl (by decide) (by decide) (by decide) jw_7e2463d496 jw_530d7ac64c jw_2a3a2ce6ce jw_6996a9eac3 jn_J1_charAt_3b067 rfl (jj_le rfl) (jj_le rfl) (jj_le rfl) (jj_le rfl) (jj_le rfl) dJ0_charAt_5068e_12 rfl (fun _ _ hX => hX.elim) (fun w1 r O_4 => ?_)
  obtain ⟨rfl, rfl⟩ := O_4
  refine jj_apd rfl ?_
  exact jj_zret C rfl ⟨rfl, rfl⟩ dJ0_charAt_5068e_15 (jj_le rfl) (jj_le rfl)

set_option maxHeartbeats 4000000 in
set_option maxRecDepth 100000 in
theorem ct_J1_charAt_3b067_80 {l : Launch} (hl : l.stackTraces = false) (D : va_G) (cA : Nat → ClassId) (ak : (Nat → Nat) × (Nat → Nat)) : jj_M l D cA ak yJ1_charAt_3b067 (.code yJ1_charAt_3b067 cJ1_charAt_3b067 2 (some .char)) 2 43 0 0 [] [.ref (ak.2 12), .int 4] (fun (w : va_W) (r : Option Value) => (w = [] ∧ r = some (.int 101))) jj_noX := by
  refine jj_start hl (by decide) jw_6996a9eac3 (jj_le rfl) ?_
  intro p e s m args below meth c A hargs hA C hex hmn
  refine jj_iload_n C dJ1_charAt_3b067_0 rfl ?_
  refine jj_aload_n C dJ1_charAt_3b067_1 rfl ?_
  refine jj_slen (k := 12) (v := 5) C (by decide) (by decide) dJ1_charAt_3b067_2 ?_
  refine jq_callS (rest := []) C (ct_J0_checkIndex_df160_9 hl D cA ak) [] [] rfl rfl (by decide) (by decide) (by decide) jw_763fabfbf2 jw_9aa540e9dd jw_4ea6285965 jw_73f64df4e3 jn_J0_checkIndex_df160 rfl (jj_le rfl) (jj_le rfl) (jj_le rfl) (jj_le rfl) (jj_le rfl) dJ1_charAt_3b067_3 rfl (fun _ _ hX => hX.elim) (fun w1 r O_2 => ?_)
  obtain ⟨rfl, rfl⟩ := O_2
  refine jj_apd rfl ?_
  refine jj_aload_n C dJ1_charAt_3b067_6 rfl ?_
  refine jj_iload_n C dJ1_charAt_3b067_7 rfl ?_
  refine jj_sbyt (k := 12) (v := 101) C (by decide) (vp_in_iff.mpr (by decide)) (by decide) dJ1_charAt_3b067_8 ?_
  refine jj_sipush (v := 255) C dJ1_charAt_3b067_9 (by decide) ?_
  refine jj_iand (v := 101) C dJ1_charAt_3b067_12 (by decide) ?_
  refine jj_i2c (v := 101) C dJ1_charAt_3b067_13 (by decide) ?_
  exact jj_zret C rfl ⟨rfl, rfl⟩ dJ1_charAt_3b067_14 (jj_le rfl) (jj_le rfl)

set_option maxHeartbeats 4000000 in
set_option maxRecDepth 100000 in
theorem ct_J0_charAt_5068e_80 {l : Launch} (hl : l.stackTraces = false) (D : va_G) (cA : Nat → ClassId) (ak : (Nat → Nat) × (Nat → Nat)) : jj_M l D cA ak yJ0_charAt_5068e (.code yJ0_charAt_5068e cJ0_charAt_5068e 2 (some .char)) 3 64 0 0 [] [.ref (ak.1 12), .int 4] (fun (w : va_W) (r : Option Value) => (w = [] ∧ r = some (.int 101))) jj_noX := by
  refine jj_start hl (by decide) jw_391c0f56bd (jj_le rfl) ?_
  intro p e s m args below meth c A hargs hA C hex hmn
  refine jj_aload_n C dJ0_charAt_5068e_0 rfl ?_
  refine jq_callVs (rest := []) C (ct_J0_isLatin1_aae02_13 hl D cA ak) [] [] rfl rfl (by decide) (by decide) (by decide) 12 (by decide) rfl jw_5ca960aa2e jw_b7ba7c03ae jw_c4fe6f1e08 jw_4ea6285965 jw_1aa7753999 jn_J0_isLatin1_aae02 rfl (jj_le rfl) (jj_le rfl) (jj_le rfl) (jj_le rfl) (jj_le rfl) dJ0_charAt_5068e_1 rfl (fun _ _ hX => hX.elim) (fun w1 r O_2 => ?_)
  obtain ⟨rfl, rfl⟩ := O_2
  refine jj_apd rfl ?_
  refine jj_if_eqF (tgt := 16) C dJ0_charAt_5068e_4 (by decide) (by decide) ?_
  refine jj_aload_n C dJ0_charAt_5068e_7 rfl ?_
  refine jj_sval (k := 12) C (by decide) jw_90a506b1c3 dJ0_charAt_5068e_8 ?_
  refine jj_iload_n C dJ0_charAt_5068e_11 rfl ?_
  refine jq_callS (rest := []) C (ct_J1_charAt_3b067_80 hl D cA ak) [] [] rfl rfl (by decide) (by decide) (by decide) jw_7e2463d496 jw_530d7ac64c jw_2a3a2ce6ce jw_6996a9eac3 jn_J1_charAt_3b067 rfl (jj_le rfl) (jj_le rfl) (jj_le rfl) (jj_le rfl) (jj_le rfl) dJ0_charAt_5068e_12 rfl (fun _ _ hX => hX.elim) (fun w1 r O_4 => ?_)
  obtain ⟨rfl, rfl⟩ := O_4
  refine jj_apd rfl ?_
  exact jj_zret C rfl ⟨rfl, rfl⟩ dJ0_charAt_5068e_15 (jj_le rfl) (jj_le rfl)

set_option maxHeartbeats 4000000 in
set_option maxRecDepth 100000 in
theorem ct_J0_coder_7d493_14 {l : Launch} (hl : l.stackTraces = false) (D : va_G) (cA : Nat → ClassId) (ak : (Nat → Nat) × (Nat → Nat)) : jj_M l D cA ak yJ0_coder_7d493 (.code yJ0_coder_7d493 cJ0_coder_7d493 1 (some .byte)) 0 0 0 0 [] [.ref (ak.1 13)] (fun (w : va_W) (r : Option Value) => (w = [] ∧ r = some (.int 0))) jj_noX := by
  refine jj_start hl (by decide) jw_084b973d83 (jj_le rfl) ?_
  intro p e s m args below meth c A hargs hA C hex hmn
  refine jj_gcs C jw_478bb18c33 dJ0_coder_7d493_0 ?_
  refine jj_if_eqF (tgt := 13) C dJ0_coder_7d493_3 (by decide) (by decide) ?_
  refine jj_aload_n C dJ0_coder_7d493_6 rfl ?_
  refine jj_scod (k := 13) C (by decide) jw_7816d6e515 dJ0_coder_7d493_7 ?_
  refine jj_goto (tgt := 14) C dJ0_coder_7d493_10 (by decide) ?_
  exact jj_zret C rfl ⟨rfl, rfl⟩ dJ0_coder_7d493_14 (jj_le rfl) (jj_le rfl)

set_option maxHeartbeats 4000000 in
set_option maxRecDepth 100000 in
theorem ct_J0_length_8abf5_14 {l : Launch} (hl : l.stackTraces = false) (D : va_G) (cA : Nat → ClassId) (ak : (Nat → Nat) × (Nat → Nat)) : jj_M l D cA ak yJ0_length_8abf5 (.code yJ0_length_8abf5 cJ0_length_8abf5 1 (some .int)) 1 20 0 0 [] [.ref (ak.1 13)] (fun (w : va_W) (r : Option Value) => (w = [] ∧ r = some (.int 4))) jj_noX := by
  refine jj_start hl (by decide) jw_bbc7045666 (jj_le rfl) ?_
  intro p e s m args below meth c A hargs hA C hex hmn
  refine jj_aload_n C dJ0_length_8abf5_0 rfl ?_
  refine jj_sval (k := 13) C (by decide) jw_90a506b1c3 dJ0_length_8abf5_1 ?_
  refine jj_slen (k := 13) (v := 4) C (by decide) (by decide) dJ0_length_8abf5_4 ?_
  refine jj_aload_n C dJ0_length_8abf5_5 rfl ?_
  refine jq_callVs (rest := [.int 4]) C (ct_J0_coder_7d493_14 hl D cA ak) [] [] rfl rfl (by decide) (by decide) (by decide) 13 (by decide) rfl jw_f46b3464d2 jw_35edddbded jw_31f76f5b78 jw_4ea6285965 jw_084b973d83 jn_J0_coder_7d493 rfl (jj_le rfl) (jj_le rfl) (jj_le rfl) (jj_le rfl) (jj_le rfl) dJ0_length_8abf5_6 rfl (fun _ _ hX => hX.elim) (fun w1 r O_2 => ?_)
  obtain ⟨rfl, rfl⟩ := O_2
  refine jj_apd rfl ?_
  refine jj_ishr (v := 4) C dJ0_length_8abf5_9 (by decide) ?_
  exact jj_iret C ⟨rfl, rfl⟩ dJ0_length_8abf5_10 (jj_le rfl) (jj_le rfl)

set_option maxHeartbeats 4000000 in
set_option maxRecDepth 100000 in
theorem ct_J0_isLatin1_aae02_14 {l : Launch} (hl : l.stackTraces = false) (D : va_G) (cA : Nat → ClassId) (ak : (Nat → Nat) × (Nat → Nat)) : jj_M l D cA ak yJ0_isLatin1_aae02 (.code yJ0_isLatin1_aae02 cJ0_isLatin1_aae02 1 (some .boolean)) 0 0 0 0 [] [.ref (ak.1 13)] (fun (w : va_W) (r : Option Value) => (w = [] ∧ r = some (.int 1))) jj_noX := by
  refine jj_start hl (by decide) jw_1aa7753999 (jj_le rfl) ?_
  intro p e s m args below meth c A hargs hA C hex hmn
  refine jj_gcs C jw_478bb18c33 dJ0_isLatin1_aae02_0 ?_
  refine jj_if_eqF (tgt := 17) C dJ0_isLatin1_aae02_3 (by decide) (by decide) ?_
  refine jj_aload_n C dJ0_isLatin1_aae02_6 rfl ?_
  refine jj_scod (k := 13) C (by decide) jw_7816d6e515 dJ0_isLatin1_aae02_7 ?_
  refine jj_if_neF (tgt := 17) C dJ0_isLatin1_aae02_10 (by decide) (by decide) ?_
  refine jj_iconst (v := 1) C dJ0_isLatin1_aae02_13 (by decide) ?_
  refine jj_goto (tgt := 18) C dJ0_isLatin1_aae02_14 (by decide) ?_
  exact jj_zret C rfl ⟨rfl, rfl⟩ dJ0_isLatin1_aae02_18 (jj_le rfl) (jj_le rfl)

set_option maxHeartbeats 4000000 in
set_option maxRecDepth 100000 in
theorem ct_J1_charAt_3b067_81 {l : Launch} (hl : l.stackTraces = false) (D : va_G) (cA : Nat → ClassId) (ak : (Nat → Nat) × (Nat → Nat)) : jj_M l D cA ak yJ1_charAt_3b067 (.code yJ1_charAt_3b067 cJ1_charAt_3b067 2 (some .char)) 2 43 0 0 [] [.ref (ak.2 13), .int 0] (fun (w : va_W) (r : Option Value) => (w = [] ∧ r = some (.int 100))) jj_noX := by
  refine jj_start hl (by decide) jw_6996a9eac3 (jj_le rfl) ?_
  intro p e s m args below meth c A hargs hA C hex hmn
  refine jj_iload_n C dJ1_charAt_3b067_0 rfl ?_
  refine jj_aload_n C dJ1_charAt_3b067_1 rfl ?_
  refine jj_slen (k := 13) (v := 4) C (by decide) (by decide) dJ1_charAt_3b067_2 ?_
  refine jq_callS (rest := []) C (ct_J0_checkIndex_df160_1 hl D cA ak) [] [] rfl rfl (by decide) (by decide) (by decide) jw_763fabfbf2 jw_9aa540e9dd jw_4ea6285965 jw_73f64df4e3 jn_J0_checkIndex_df160 rfl (jj_le rfl) (jj_le rfl) (jj_le rfl) (jj_le rfl) (jj_le rfl) dJ1_charAt_3b067_3 rfl (fun _ _ hX => hX.elim) (fun w1 r O_2 => ?_)
  obtain ⟨rfl, rfl⟩ := O_2
  refine jj_apd rfl ?_
  refine jj_aload_n C dJ1_charAt_3b067_6 rfl ?_
  refine jj_iload_n C dJ1_charAt_3b067_7 rfl ?_
  refine jj_sbyt (k := 13) (v := 100) C (by decide) (vp_in_iff.mpr (by decide)) (by decide) dJ1_charAt_3b067_8 ?_
  refine jj_sipush (v := 255) C dJ1_charAt_3b067_9 (by decide) ?_
  refine jj_iand (v := 100) C dJ1_charAt_3b067_12 (by decide) ?_
  refine jj_i2c (v := 100) C dJ1_charAt_3b067_13 (by decide) ?_
  exact jj_zret C rfl ⟨rfl, rfl⟩ dJ1_charAt_3b067_14 (jj_le rfl) (jj_le rfl)

set_option maxHeartbeats 4000000 in
set_option maxRecDepth 100000 in
theorem ct_J0_charAt_5068e_81 {l : Launch} (hl : l.stackTraces = false) (D : va_G) (cA : Nat → ClassId) (ak : (Nat → Nat) × (Nat → Nat)) : jj_M l D cA ak yJ0_charAt_5068e (.code yJ0_charAt_5068e cJ0_charAt_5068e 2 (some .char)) 3 64 0 0 [] [.ref (ak.1 13), .int 0] (fun (w : va_W) (r : Option Value) => (w = [] ∧ r = some (.int 100))) jj_noX := by
  refine jj_start hl (by decide) jw_391c0f56bd (jj_le rfl) ?_
  intro p e s m args below meth c A hargs hA C hex hmn
  refine jj_aload_n C dJ0_charAt_5068e_0 rfl ?_
  refine jq_callVs (rest := []) C (ct_J0_isLatin1_aae02_14 hl D cA ak) [] [] rfl rfl (by decide) (by decide) (by decide) 13 (by decide) rfl jw_5ca960aa2e jw_b7ba7c03ae jw_c4fe6f1e08 jw_4ea6285965 jw_1aa7753999 jn_J0_isLatin1_aae02 rfl (jj_le rfl) (jj_le rfl) (jj_le rfl) (jj_le rfl) (jj_le rfl) dJ0_charAt_5068e_1 rfl (fun _ _ hX => hX.elim) (fun w1 r O_2 => ?_)
  obtain ⟨rfl, rfl⟩ := O_2
  refine jj_apd rfl ?_
  refine jj_if_eqF (tgt := 16) C dJ0_charAt_5068e_4 (by decide) (by decide) ?_
  refine jj_aload_n C dJ0_charAt_5068e_7 rfl ?_
  refine jj_sval (k := 13) C (by decide) jw_90a506b1c3 dJ0_charAt_5068e_8 ?_
  refine jj_iload_n C dJ0_charAt_5068e_11 rfl ?_
  refine jq_callS (rest := []) C (ct_J1_charAt_3b067_81 hl D cA ak) [] [] rfl rfl (by decide) (by decide) (by decide) jw_7e2463d496 jw_530d7ac64c jw_2a3a2ce6ce jw_6996a9eac3 jn_J1_charAt_3b067 rfl (jj_le rfl) (jj_le rfl) (jj_le rfl) (jj_le rfl) (jj_le rfl) dJ0_charAt_5068e_12 rfl (fun _ _ hX => hX.elim) (fun w1 r O_4 => ?_)
  obtain ⟨rfl, rfl⟩ := O_4
  refine jj_apd rfl ?_
  exact jj_zret C rfl ⟨rfl, rfl⟩ dJ0_charAt_5068e_15 (jj_le rfl) (jj_le rfl)

set_option maxHeartbeats 4000000 in
set_option maxRecDepth 100000 in
theorem ct_J1_charAt_3b067_82 {l : Launch} (hl : l.stackTraces = false) (D : va_G) (cA : Nat → ClassId) (ak : (Nat → Nat) × (Nat → Nat)) : jj_M l D cA ak yJ1_charAt_3b067 (.code yJ1_charAt_3b067 cJ1_charAt_3b067 2 (some .char)) 2 43 0 0 [] [.ref (ak.2 13), .int 1] (fun (w : va_W) (r : Option Value) => (w = [] ∧ r = some (.int 97))) jj_noX := by
  refine jj_start hl (by decide) jw_6996a9eac3 (jj_le rfl) ?_
  intro p e s m args below meth c A hargs hA C hex hmn
  refine jj_iload_n C dJ1_charAt_3b067_0 rfl ?_
  refine jj_aload_n C dJ1_charAt_3b067_1 rfl ?_
  refine jj_slen (k := 13) (v := 4) C (by decide) (by decide) dJ1_charAt_3b067_2 ?_
  refine jq_callS (rest := []) C (ct_J0_checkIndex_df160_2 hl D cA ak) [] [] rfl rfl (by decide) (by decide) (by decide) jw_763fabfbf2 jw_9aa540e9dd jw_4ea6285965 jw_73f64df4e3 jn_J0_checkIndex_df160 rfl (jj_le rfl) (jj_le rfl) (jj_le rfl) (jj_le rfl) (jj_le rfl) dJ1_charAt_3b067_3 rfl (fun _ _ hX => hX.elim) (fun w1 r O_2 => ?_)
  obtain ⟨rfl, rfl⟩ := O_2
  refine jj_apd rfl ?_
  refine jj_aload_n C dJ1_charAt_3b067_6 rfl ?_
  refine jj_iload_n C dJ1_charAt_3b067_7 rfl ?_
  refine jj_sbyt (k := 13) (v := 97) C (by decide) (vp_in_iff.mpr (by decide)) (by decide) dJ1_charAt_3b067_8 ?_
  refine jj_sipush (v := 255) C dJ1_charAt_3b067_9 (by decide) ?_
  refine jj_iand (v := 97) C dJ1_charAt_3b067_12 (by decide) ?_
  refine jj_i2c (v := 97) C dJ1_charAt_3b067_13 (by decide) ?_
  exact jj_zret C rfl ⟨rfl, rfl⟩ dJ1_charAt_3b067_14 (jj_le rfl) (jj_le rfl)

set_option maxHeartbeats 4000000 in
set_option maxRecDepth 100000 in
theorem ct_J0_charAt_5068e_82 {l : Launch} (hl : l.stackTraces = false) (D : va_G) (cA : Nat → ClassId) (ak : (Nat → Nat) × (Nat → Nat)) : jj_M l D cA ak yJ0_charAt_5068e (.code yJ0_charAt_5068e cJ0_charAt_5068e 2 (some .char)) 3 64 0 0 [] [.ref (ak.1 13), .int 1] (fun (w : va_W) (r : Option Value) => (w = [] ∧ r = some (.int 97))) jj_noX := by
  refine jj_start hl (by decide) jw_391c0f56bd (jj_le rfl) ?_
  intro p e s m args below meth c A hargs hA C hex hmn
  refine jj_aload_n C dJ0_charAt_5068e_0 rfl ?_
  refine jq_callVs (rest := []) C (ct_J0_isLatin1_aae02_14 hl D cA ak) [] [] rfl rfl (by decide) (by decide) (by decide) 13 (by decide) rfl jw_5ca960aa2e jw_b7ba7c03ae jw_c4fe6f1e08 jw_4ea6285965 jw_1aa7753999 jn_J0_isLatin1_aae02 rfl (jj_le rfl) (jj_le rfl) (jj_le rfl) (jj_le rfl) (jj_le rfl) dJ0_charAt_5068e_1 rfl (fun _ _ hX => hX.elim) (fun w1 r O_2 => ?_)
  obtain ⟨rfl, rfl⟩ := O_2
  refine jj_apd rfl ?_
  refine jj_if_eqF (tgt := 16) C dJ0_charAt_5068e_4 (by decide) (by decide) ?_
  refine jj_aload_n C dJ0_charAt_5068e_7 rfl ?_
  refine jj_sval (k := 13) C (by decide) jw_90a506b1c3 dJ0_charAt_5068e_8 ?_
  refine jj_iload_n C dJ0_charAt_5068e_11 rfl ?_
  refine jq_callS (rest := []) C (ct_J1_charAt_3b067_82 hl D cA ak) [] [] rfl rfl (by decide) (by decide) (by decide) jw_7e2463d496 jw_530d7ac64c jw_2a3a2ce6ce jw_6996a9eac3 jn_J1_charAt_3b067 rfl (jj_le rfl) (jj_le rfl) (jj_le rfl) (jj_le rfl) (jj_le rfl) dJ0_charAt_5068e_12 rfl (fun _ _ hX => hX.elim) (fun w1 r O_4 => ?_)
  obtain ⟨rfl, rfl⟩ := O_4
  refine jj_apd rfl ?_
  exact jj_zret C rfl ⟨rfl, rfl⟩ dJ0_charAt_5068e_15 (jj_le rfl) (jj_le rfl)

set_option maxHeartbeats 4000000 in
set_option maxRecDepth 100000 in
theorem ct_J1_charAt_3b067_83 {l : Launch} (hl : l.stackTraces = false) (D : va_G) (cA : Nat → ClassId) (ak : (Nat → Nat) × (Nat → Nat)) : jj_M l D cA ak yJ1_charAt_3b067 (.code yJ1_charAt_3b067 cJ1_charAt_3b067 2 (some .char)) 2 43 0 0 [] [.ref (ak.2 13), .int 2] (fun (w : va_W) (r : Option Value) => (w = [] ∧ r = some (.int 121))) jj_noX := by
  refine jj_start hl (by decide) jw_6996a9eac3 (jj_le rfl) ?_
  intro p e s m args below meth c A hargs hA C hex hmn
  refine jj_iload_n C dJ1_charAt_3b067_0 rfl ?_
  refine jj_aload_n C dJ1_charAt_3b067_1 rfl ?_
  refine jj_slen (k := 13) (v := 4) C (by decide) (by decide) dJ1_charAt_3b067_2 ?_
  refine jq_callS (rest := []) C (ct_J0_checkIndex_df160_3 hl D cA ak) [] [] rfl rfl (by decide) (by decide) (by decide) jw_763fabfbf2 jw_9aa540e9dd jw_4ea6285965 jw_73f64df4e3 jn_J0_checkIndex_df160 rfl (jj_le rfl) (jj_le rfl) (jj_le rfl) (jj_le rfl) (jj_le rfl) dJ1_charAt_3b067_3 rfl (fun _ _ hX => hX.elim) (fun w1 r O_2 => ?_)
  obtain ⟨rfl, rfl⟩ := O_2
  refine jj_apd rfl ?_
  refine jj_aload_n C dJ1_charAt_3b067_6 rfl ?_
  refine jj_iload_n C dJ1_charAt_3b067_7 rfl ?_
  refine jj_sbyt (k := 13) (v := 121) C (by decide) (vp_in_iff.mpr (by decide)) (by decide) dJ1_charAt_3b067_8 ?_
  refine jj_sipush (v := 255) C dJ1_charAt_3b067_9 (by decide) ?_
  refine jj_iand (v := 121) C dJ1_charAt_3b067_12 (by decide) ?_
  refine jj_i2c (v := 121) C dJ1_charAt_3b067_13 (by decide) ?_
  exact jj_zret C rfl ⟨rfl, rfl⟩ dJ1_charAt_3b067_14 (jj_le rfl) (jj_le rfl)

set_option maxHeartbeats 4000000 in
set_option maxRecDepth 100000 in
theorem ct_J0_charAt_5068e_83 {l : Launch} (hl : l.stackTraces = false) (D : va_G) (cA : Nat → ClassId) (ak : (Nat → Nat) × (Nat → Nat)) : jj_M l D cA ak yJ0_charAt_5068e (.code yJ0_charAt_5068e cJ0_charAt_5068e 2 (some .char)) 3 64 0 0 [] [.ref (ak.1 13), .int 2] (fun (w : va_W) (r : Option Value) => (w = [] ∧ r = some (.int 121))) jj_noX := by
  refine jj_start hl (by decide) jw_391c0f56bd (jj_le rfl) ?_
  intro p e s m args below meth c A hargs hA C hex hmn
  refine jj_aload_n C dJ0_charAt_5068e_0 rfl ?_
  refine jq_callVs (rest := []) C (ct_J0_isLatin1_aae02_14 hl D cA ak) [] [] rfl rfl (by decide) (by decide) (by decide) 13 (by decide) rfl jw_5ca960aa2e jw_b7ba7c03ae jw_c4fe6f1e08 jw_4ea6285965 jw_1aa7753999 jn_J0_isLatin1_aae02 rfl (jj_le rfl) (jj_le rfl) (jj_le rfl) (jj_le rfl) (jj_le rfl) dJ0_charAt_5068e_1 rfl (fun _ _ hX => hX.elim) (fun w1 r O_2 => ?_)
  obtain ⟨rfl, rfl⟩ := O_2
  refine jj_apd rfl ?_
  refine jj_if_eqF (tgt := 16) C dJ0_charAt_5068e_4 (by decide) (by decide) ?_
  refine jj_aload_n C dJ0_charAt_5068e_7 rfl ?_
  refine jj_sval (k := 13) C (by decide) jw_90a506b1c3 dJ0_charAt_5068e_8 ?_
  refine jj_iload_n C dJ0_charAt_5068e_11 rfl ?_
  refine jq_callS (rest := []) C (ct_J1_charAt_3b067_83 hl D cA ak) [] [] rfl rfl (by decide) (by decide) (by decide) jw_7e2463d496 jw_530d7ac64c jw_2a3a2ce6ce jw_6996a9eac3 jn_J1_charAt_3b067 rfl (jj_le rfl) (jj_le rfl) (jj_le rfl) (jj_le rfl) (jj_le rfl) dJ0_charAt_5068e_12 rfl (fun _ _ hX => hX.elim) (fun w1 r O_4 => ?_)
  obtain ⟨rfl, rfl⟩ := O_4
  refine jj_apd rfl ?_
  exact jj_zret C rfl ⟨rfl, rfl⟩ dJ0_charAt_5068e_15 (jj_le rfl) (jj_le rfl)

set_option maxHeartbeats 4000000 in
set_option maxRecDepth 100000 in
theorem ct_J1_charAt_3b067_84 {l : Launch} (hl : l.stackTraces = false) (D : va_G) (cA : Nat → ClassId) (ak : (Nat → Nat) × (Nat → Nat)) : jj_M l D cA ak yJ1_charAt_3b067 (.code yJ1_charAt_3b067 cJ1_charAt_3b067 2 (some .char)) 2 43 0 0 [] [.ref (ak.2 13), .int 3] (fun (w : va_W) (r : Option Value) => (w = [] ∧ r = some (.int 32))) jj_noX := by
  refine jj_start hl (by decide) jw_6996a9eac3 (jj_le rfl) ?_
  intro p e s m args below meth c A hargs hA C hex hmn
  refine jj_iload_n C dJ1_charAt_3b067_0 rfl ?_
  refine jj_aload_n C dJ1_charAt_3b067_1 rfl ?_
  refine jj_slen (k := 13) (v := 4) C (by decide) (by decide) dJ1_charAt_3b067_2 ?_
  refine jq_callS (rest := []) C (ct_J0_checkIndex_df160_4 hl D cA ak) [] [] rfl rfl (by decide) (by decide) (by decide) jw_763fabfbf2 jw_9aa540e9dd jw_4ea6285965 jw_73f64df4e3 jn_J0_checkIndex_df160 rfl (jj_le rfl) (jj_le rfl) (jj_le rfl) (jj_le rfl) (jj_le rfl) dJ1_charAt_3b067_3 rfl (fun _ _ hX => hX.elim) (fun w1 r O_2 => ?_)
  obtain ⟨rfl, rfl⟩ := O_2
  refine jj_apd rfl ?_
  refine jj_aload_n C dJ1_charAt_3b067_6 rfl ?_
  refine jj_iload_n C dJ1_charAt_3b067_7 rfl ?_
  refine jj_sbyt (k := 13) (v := 32) C (by decide) (vp_in_iff.mpr (by decide)) (by decide) dJ1_charAt_3b067_8 ?_
  refine jj_sipush (v := 255) C dJ1_charAt_3b067_9 (by decide) ?_
  refine jj_iand (v := 32) C dJ1_charAt_3b067_12 (by decide) ?_
  refine jj_i2c (v := 32) C dJ1_charAt_3b067_13 (by decide) ?_
  exact jj_zret C rfl ⟨rfl, rfl⟩ dJ1_charAt_3b067_14 (jj_le rfl) (jj_le rfl)

set_option maxHeartbeats 4000000 in
set_option maxRecDepth 100000 in
theorem ct_J0_charAt_5068e_84 {l : Launch} (hl : l.stackTraces = false) (D : va_G) (cA : Nat → ClassId) (ak : (Nat → Nat) × (Nat → Nat)) : jj_M l D cA ak yJ0_charAt_5068e (.code yJ0_charAt_5068e cJ0_charAt_5068e 2 (some .char)) 3 64 0 0 [] [.ref (ak.1 13), .int 3] (fun (w : va_W) (r : Option Value) => (w = [] ∧ r = some (.int 32))) jj_noX := by
  refine jj_start hl (by decide) jw_391c0f56bd (jj_le rfl) ?_
  intro p e s m args below meth c A hargs hA C hex hmn
  refine jj_aload_n C dJ0_charAt_5068e_0 rfl ?_
  refine jq_callVs (rest := []) C (ct_J0_isLatin1_aae02_14 hl D cA ak) [] [] rfl rfl (by decide) (by decide) (by decide) 13 (by decide) rfl jw_5ca960aa2e jw_b7ba7c03ae jw_c4fe6f1e08 jw_4ea6285965 jw_1aa7753999 jn_J0_isLatin1_aae02 rfl (jj_le rfl) (jj_le rfl) (jj_le rfl) (jj_le rfl) (jj_le rfl) dJ0_charAt_5068e_1 rfl (fun _ _ hX => hX.elim) (fun w1 r O_2 => ?_)
  obtain ⟨rfl, rfl⟩ := O_2
  refine jj_apd rfl ?_
  refine jj_if_eqF (tgt := 16) C dJ0_charAt_5068e_4 (by decide) (by decide) ?_
  refine jj_aload_n C dJ0_charAt_5068e_7 rfl ?_
  refine jj_sval (k := 13) C (by decide) jw_90a506b1c3 dJ0_charAt_5068e_8 ?_
  refine jj_iload_n C dJ0_charAt_5068e_11 rfl ?_
  refine jq_callS (rest := []) C (ct_J1_charAt_3b067_84 hl D cA ak) [] [] rfl rfl (by decide) (by decide) (by decide) jw_7e2463d496 jw_530d7ac64c jw_2a3a2ce6ce jw_6996a9eac3 jn_J1_charAt_3b067 rfl (jj_le rfl) (jj_le rfl) (jj_le rfl) (jj_le rfl) (jj_le rfl) dJ0_charAt_5068e_12 rfl (fun _ _ hX => hX.elim) (fun w1 r O_4 => ?_)
  obtain ⟨rfl, rfl⟩ := O_4
  refine jj_apd rfl ?_
  exact jj_zret C rfl ⟨rfl, rfl⟩ dJ0_charAt_5068e_15 (jj_le rfl) (jj_le rfl)

set_option maxHeartbeats 4000000 in
set_option maxRecDepth 100000 in
theorem ct_J9_abs_067f4_1 {l : Launch} (hl : l.stackTraces = false) (D : va_G) (cA : Nat → ClassId) (ak : (Nat → Nat) × (Nat → Nat)) (b0 : Int64) : jj_M l D cA ak yJ9_abs_067f4 (.code yJ9_abs_067f4 cJ9_abs_067f4 2 (some .long)) 0 0 0 0 [] [.long b0] (fun (w : va_W) (r : Option Value) => (0 ≤ b0 ∧ w = [] ∧ r = some (.long b0)) ∨ (¬ 0 ≤ b0 ∧ w = [] ∧ r = some (.long (-b0)))) jj_noX := by
  refine jq_startF hl (by decide +kernel) jw_320de93b97 (jj_le rfl) ?_
  intro p e s m args below meth c A hargs hA C hex hmn
  refine jj_lload_n C dJ9_abs_067f4_0 rfl ?_
  refine jj_lconst (v := 0) C dJ9_abs_067f4_1 (by decide) ?_
  refine jj_lcmp_ge (tgt := 11) C dJ9_abs_067f4_2 dJ9_abs_067f4_3 (by decide) (fun c_1 => ?_) (fun c_1 => ?_)
  · refine jj_lload_n C dJ9_abs_067f4_11 rfl ?_
    exact jj_lret C (Or.inl ⟨c_1, rfl, rfl⟩) dJ9_abs_067f4_12 (jj_le rfl) (jj_le rfl)
  · refine jj_lload_n C dJ9_abs_067f4_6 rfl ?_
    refine jj_lneg C dJ9_abs_067f4_7 rfl ?_
    refine jj_goto (tgt := 12) C dJ9_abs_067f4_8 (by decide) ?_
    exact jj_lret C (Or.inr ⟨c_1, rfl, rfl⟩) dJ9_abs_067f4_12 (jj_le rfl) (jj_le rfl)

set_option maxHeartbeats 4000000 in
set_option maxRecDepth 100000 in
theorem ct_J0_coder_7d493_15 {l : Launch} (hl : l.stackTraces = false) (D : va_G) (cA : Nat → ClassId) (ak : (Nat → Nat) × (Nat → Nat)) : jj_M l D cA ak yJ0_coder_7d493 (.code yJ0_coder_7d493 cJ0_coder_7d493 1 (some .byte)) 0 0 0 0 [] [.ref (ak.1 14)] (fun (w : va_W) (r : Option Value) => (w = [] ∧ r = some (.int 0))) jj_noX := by
  refine jj_start hl (by decide) jw_084b973d83 (jj_le rfl) ?_
  intro p e s m args below meth c A hargs hA C hex hmn
  refine jj_gcs C jw_478bb18c33 dJ0_coder_7d493_0 ?_
  refine jj_if_eqF (tgt := 13) C dJ0_coder_7d493_3 (by decide) (by decide) ?_
  refine jj_aload_n C dJ0_coder_7d493_6 rfl ?_
  refine jj_scod (k := 14) C (by decide) jw_7816d6e515 dJ0_coder_7d493_7 ?_
  refine jj_goto (tgt := 14) C dJ0_coder_7d493_10 (by decide) ?_
  exact jj_zret C rfl ⟨rfl, rfl⟩ dJ0_coder_7d493_14 (jj_le rfl) (jj_le rfl)

set_option maxHeartbeats 4000000 in
set_option maxRecDepth 100000 in
theorem ct_J0_length_8abf5_15 {l : Launch} (hl : l.stackTraces = false) (D : va_G) (cA : Nat → ClassId) (ak : (Nat → Nat) × (Nat → Nat)) : jj_M l D cA ak yJ0_length_8abf5 (.code yJ0_length_8abf5 cJ0_length_8abf5 1 (some .int)) 1 20 0 0 [] [.ref (ak.1 14)] (fun (w : va_W) (r : Option Value) => (w = [] ∧ r = some (.int 1))) jj_noX := by
  refine jj_start hl (by decide) jw_bbc7045666 (jj_le rfl) ?_
  intro p e s m args below meth c A hargs hA C hex hmn
  refine jj_aload_n C dJ0_length_8abf5_0 rfl ?_
  refine jj_sval (k := 14) C (by decide) jw_90a506b1c3 dJ0_length_8abf5_1 ?_
  refine jj_slen (k := 14) (v := 1) C (by decide) (by decide) dJ0_length_8abf5_4 ?_
  refine jj_aload_n C dJ0_length_8abf5_5 rfl ?_
  refine jq_callVs (rest := [.int 1]) C (ct_J0_coder_7d493_15 hl D cA ak) [] [] rfl rfl (by decide) (by decide) (by decide) 14 (by decide) rfl jw_f46b3464d2 jw_35edddbded jw_31f76f5b78 jw_4ea6285965 jw_084b973d83 jn_J0_coder_7d493 rfl (jj_le rfl) (jj_le rfl) (jj_le rfl) (jj_le rfl) (jj_le rfl) dJ0_length_8abf5_6 rfl (fun _ _ hX => hX.elim) (fun w1 r O_2 => ?_)
  obtain ⟨rfl, rfl⟩ := O_2
  refine jj_apd rfl ?_
  refine jj_ishr (v := 1) C dJ0_length_8abf5_9 (by decide) ?_
  exact jj_iret C ⟨rfl, rfl⟩ dJ0_length_8abf5_10 (jj_le rfl) (jj_le rfl)

set_option maxHeartbeats 4000000 in
set_option maxRecDepth 100000 in
theorem ct_J0_isLatin1_aae02_15 {l : Launch} (hl : l.stackTraces = false) (D : va_G) (cA : Nat → ClassId) (ak : (Nat → Nat) × (Nat → Nat)) : jj_M l D cA ak yJ0_isLatin1_aae02 (.code yJ0_isLatin1_aae02 cJ0_isLatin1_aae02 1 (some .boolean)) 0 0 0 0 [] [.ref (ak.1 14)] (fun (w : va_W) (r : Option Value) => (w = [] ∧ r = some (.int 1))) jj_noX := by
  refine jj_start hl (by decide) jw_1aa7753999 (jj_le rfl) ?_
  intro p e s m args below meth c A hargs hA C hex hmn
  refine jj_gcs C jw_478bb18c33 dJ0_isLatin1_aae02_0 ?_
  refine jj_if_eqF (tgt := 17) C dJ0_isLatin1_aae02_3 (by decide) (by decide) ?_
  refine jj_aload_n C dJ0_isLatin1_aae02_6 rfl ?_
  refine jj_scod (k := 14) C (by decide) jw_7816d6e515 dJ0_isLatin1_aae02_7 ?_
  refine jj_if_neF (tgt := 17) C dJ0_isLatin1_aae02_10 (by decide) (by decide) ?_
  refine jj_iconst (v := 1) C dJ0_isLatin1_aae02_13 (by decide) ?_
  refine jj_goto (tgt := 18) C dJ0_isLatin1_aae02_14 (by decide) ?_
  exact jj_zret C rfl ⟨rfl, rfl⟩ dJ0_isLatin1_aae02_18 (jj_le rfl) (jj_le rfl)

set_option maxHeartbeats 4000000 in
set_option maxRecDepth 100000 in
theorem ct_J3_checkIndex_8e157_71 {l : Launch} (hl : l.stackTraces = false) (D : va_G) (cA : Nat → ClassId) (ak : (Nat → Nat) × (Nat → Nat)) (h0 : Nat) : jj_M l D cA ak yJ3_checkIndex_8e157 (.code yJ3_checkIndex_8e157 cJ3_checkIndex_8e157 3 (some .int)) 0 0 0 0 [] [.int 0, .int 1, .ref h0] (fun (w : va_W) (r : Option Value) => (w = [] ∧ r = some (.int 0))) jj_noX := by
  refine jj_start hl (by decide) jw_da9869a695 (jj_le rfl) ?_
  intro p e s m args below meth c A hargs hA C hex hmn
  refine jj_iload_n C dJ3_checkIndex_8e157_0 rfl ?_
  refine jj_if_ltF (tgt := 9) C dJ3_checkIndex_8e157_1 (by decide) (by decide) ?_
  refine jj_iload_n C dJ3_checkIndex_8e157_4 rfl ?_
  refine jj_iload_n C dJ3_checkIndex_8e157_5 rfl ?_
  refine jj_icmp_ltT (tgt := 16) C dJ3_checkIndex_8e157_6 (by decide) (by decide) ?_
  refine jj_iload_n C dJ3_checkIndex_8e157_16 rfl ?_
  exact jj_iret C ⟨rfl, rfl⟩ dJ3_checkIndex_8e157_17 (jj_le rfl) (jj_le rfl)

set_option maxHeartbeats 4000000 in
set_option maxRecDepth 100000 in
theorem ct_J3_checkIndex_8e157_72 {l : Launch} (hl : l.stackTraces = false) (D : va_G) (cA : Nat → ClassId) (ak : (Nat → Nat) × (Nat → Nat)) : jj_M l D cA ak yJ3_checkIndex_8e157 (.code yJ3_checkIndex_8e157 cJ3_checkIndex_8e157 3 (some .int)) 0 0 0 0 [] [.int 0, .int 1, .null] (fun (w : va_W) (r : Option Value) => (w = [] ∧ r = some (.int 0))) jj_noX := by
  refine jj_start hl (by decide) jw_da9869a695 (jj_le rfl) ?_
  intro p e s m args below meth c A hargs hA C hex hmn
  refine jj_iload_n C dJ3_checkIndex_8e157_0 rfl ?_
  refine jj_if_ltF (tgt := 9) C dJ3_checkIndex_8e157_1 (by decide) (by decide) ?_
  refine jj_iload_n C dJ3_checkIndex_8e157_4 rfl ?_
  refine jj_iload_n C dJ3_checkIndex_8e157_5 rfl ?_
  refine jj_icmp_ltT (tgt := 16) C dJ3_checkIndex_8e157_6 (by decide) (by decide) ?_
  refine jj_iload_n C dJ3_checkIndex_8e157_16 rfl ?_
  exact jj_iret C ⟨rfl, rfl⟩ dJ3_checkIndex_8e157_17 (jj_le rfl) (jj_le rfl)

set_option maxHeartbeats 4000000 in
set_option maxRecDepth 100000 in
theorem ct_J0_checkIndex_df160_36 {l : Launch} (hl : l.stackTraces = false) (D : va_G) (cA : Nat → ClassId) (ak : (Nat → Nat) × (Nat → Nat)) : jj_M l D cA ak yJ0_checkIndex_df160 (.code yJ0_checkIndex_df160 cJ0_checkIndex_df160 2 none) 1 22 0 0 [] [.int 0, .int 1] (fun (w : va_W) (r : Option Value) => (w = [] ∧ r = none)) jj_noX := by
  refine jj_start hl (by decide) jw_73f64df4e3 (jj_le rfl) ?_
  intro p e s m args below meth c A hargs hA C hex hmn
  refine jj_iload_n C dJ0_checkIndex_df160_0 rfl ?_
  refine jj_iload_n C dJ0_checkIndex_df160_1 rfl ?_
  refine jj_gfm C jw_040150fc39 dJ0_checkIndex_df160_2 (fun t_1 => ?_) ?_
  · refine jq_callS (rest := []) C (ct_J3_checkIndex_8e157_71 hl D cA ak t_1) [] [] rfl rfl (by decide) (by decide) (by decide) jw_a7a8b385a1 jw_8d35bed6b0 jw_2c7dffdd00 jw_da9869a695 jn_J3_checkIndex_8e157 rfl (jj_le rfl) (jj_le rfl) (jj_le rfl) (jj_le rfl) (jj_le rfl) dJ0_checkIndex_df160_5 rfl (fun _ _ hX => hX.elim) (fun w1 r O_3 => ?_)
    obtain ⟨rfl, rfl⟩ := O_3
    refine jj_apd rfl ?_
    refine jj_pop C dJ0_checkIndex_df160_8 rfl ?_
    exact jj_vret C ⟨rfl, rfl⟩ dJ0_checkIndex_df160_9 (jj_le rfl) (jj_le rfl)
  · refine jq_callS (rest := []) C (ct_J3_checkIndex_8e157_72 hl D cA ak) [] [] rfl rfl (by decide) (by decide) (by decide) jw_a7a8b385a1 jw_8d35bed6b0 jw_2c7dffdd00 jw_da9869a695 jn_J3_checkIndex_8e157 rfl (jj_le rfl) (jj_le rfl) (jj_le rfl) (jj_le rfl) (jj_le rfl) dJ0_checkIndex_df160_5 rfl (fun _ _ hX => hX.elim) (fun w1 r O_5 => ?_)
    obtain ⟨rfl, rfl⟩ := O_5
    refine jj_apd rfl ?_
    refine jj_pop C dJ0_checkIndex_df160_8 rfl ?_
    exact jj_vret C ⟨rfl, rfl⟩ dJ0_checkIndex_df160_9 (jj_le rfl) (jj_le rfl)

set_option maxHeartbeats 4000000 in
set_option maxRecDepth 100000 in
theorem ct_J1_charAt_3b067_85 {l : Launch} (hl : l.stackTraces = false) (D : va_G) (cA : Nat → ClassId) (ak : (Nat → Nat) × (Nat → Nat)) : jj_M l D cA ak yJ1_charAt_3b067 (.code yJ1_charAt_3b067 cJ1_charAt_3b067 2 (some .char)) 2 43 0 0 [] [.ref (ak.2 14), .int 0] (fun (w : va_W) (r : Option Value) => (w = [] ∧ r = some (.int 45))) jj_noX := by
  refine jj_start hl (by decide) jw_6996a9eac3 (jj_le rfl) ?_
  intro p e s m args below meth c A hargs hA C hex hmn
  refine jj_iload_n C dJ1_charAt_3b067_0 rfl ?_
  refine jj_aload_n C dJ1_charAt_3b067_1 rfl ?_
  refine jj_slen (k := 14) (v := 1) C (by decide) (by decide) dJ1_charAt_3b067_2 ?_
  refine jq_callS (rest := []) C (ct_J0_checkIndex_df160_36 hl D cA ak) [] [] rfl rfl (by decide) (by decide) (by decide) jw_763fabfbf2 jw_9aa540e9dd jw_4ea6285965 jw_73f64df4e3 jn_J0_checkIndex_df160 rfl (jj_le rfl) (jj_le rfl) (jj_le rfl) (jj_le rfl) (jj_le rfl) dJ1_charAt_3b067_3 rfl (fun _ _ hX => hX.elim) (fun w1 r O_2 => ?_)
  obtain ⟨rfl, rfl⟩ := O_2
  refine jj_apd rfl ?_
  refine jj_aload_n C dJ1_charAt_3b067_6 rfl ?_
  refine jj_iload_n C dJ1_charAt_3b067_7 rfl ?_
  refine jj_sbyt (k := 14) (v := 45) C (by decide) (vp_in_iff.mpr (by decide)) (by decide) dJ1_charAt_3b067_8 ?_
  refine jj_sipush (v := 255) C dJ1_charAt_3b067_9 (by decide) ?_
  refine jj_iand (v := 45) C dJ1_charAt_3b067_12 (by decide) ?_
  refine jj_i2c (v := 45) C dJ1_charAt_3b067_13 (by decide) ?_
  exact jj_zret C rfl ⟨rfl, rfl⟩ dJ1_charAt_3b067_14 (jj_le rfl) (jj_le rfl)

set_option maxHeartbeats 4000000 in
set_option maxRecDepth 100000 in
theorem ct_J0_charAt_5068e_85 {l : Launch} (hl : l.stackTraces = false) (D : va_G) (cA : Nat → ClassId) (ak : (Nat → Nat) × (Nat → Nat)) : jj_M l D cA ak yJ0_charAt_5068e (.code yJ0_charAt_5068e cJ0_charAt_5068e 2 (some .char)) 3 64 0 0 [] [.ref (ak.1 14), .int 0] (fun (w : va_W) (r : Option Value) => (w = [] ∧ r = some (.int 45))) jj_noX := by
  refine jj_start hl (by decide) jw_391c0f56bd (jj_le rfl) ?_
  intro p e s m args below meth c A hargs hA C hex hmn
  refine jj_aload_n C dJ0_charAt_5068e_0 rfl ?_
  refine jq_callVs (rest := []) C (ct_J0_isLatin1_aae02_15 hl D cA ak) [] [] rfl rfl (by decide) (by decide) (by decide) 14 (by decide) rfl jw_5ca960aa2e jw_b7ba7c03ae jw_c4fe6f1e08 jw_4ea6285965 jw_1aa7753999 jn_J0_isLatin1_aae02 rfl (jj_le rfl) (jj_le rfl) (jj_le rfl) (jj_le rfl) (jj_le rfl) dJ0_charAt_5068e_1 rfl (fun _ _ hX => hX.elim) (fun w1 r O_2 => ?_)
  obtain ⟨rfl, rfl⟩ := O_2
  refine jj_apd rfl ?_
  refine jj_if_eqF (tgt := 16) C dJ0_charAt_5068e_4 (by decide) (by decide) ?_
  refine jj_aload_n C dJ0_charAt_5068e_7 rfl ?_
  refine jj_sval (k := 14) C (by decide) jw_90a506b1c3 dJ0_charAt_5068e_8 ?_
  refine jj_iload_n C dJ0_charAt_5068e_11 rfl ?_
  refine jq_callS (rest := []) C (ct_J1_charAt_3b067_85 hl D cA ak) [] [] rfl rfl (by decide) (by decide) (by decide) jw_7e2463d496 jw_530d7ac64c jw_2a3a2ce6ce jw_6996a9eac3 jn_J1_charAt_3b067 rfl (jj_le rfl) (jj_le rfl) (jj_le rfl) (jj_le rfl) (jj_le rfl) dJ0_charAt_5068e_12 rfl (fun _ _ hX => hX.elim) (fun w1 r O_4 => ?_)
  obtain ⟨rfl, rfl⟩ := O_4
  refine jj_apd rfl ?_
  exact jj_zret C rfl ⟨rfl, rfl⟩ dJ0_charAt_5068e_15 (jj_le rfl) (jj_le rfl)

set_option maxHeartbeats 4000000 in
set_option maxRecDepth 100000 in
theorem ct_J0_coder_7d493_16 {l : Launch} (hl : l.stackTraces = false) (D : va_G) (cA : Nat → ClassId) (ak : (Nat → Nat) × (Nat → Nat)) : jj_M l D cA ak yJ0_coder_7d493 (.code yJ0_coder_7d493 cJ0_coder_7d493 1 (some .byte)) 0 0 0 0 [] [.ref (ak.1 15)] (fun (w : va_W) (r : Option Value) => (w = [] ∧ r = some (.int 0))) jj_noX := by
  refine jj_start hl (by decide) jw_084b973d83 (jj_le rfl) ?_
  intro p e s m args below meth c A hargs hA C hex hmn
  refine jj_gcs C jw_478bb18c33 dJ0_coder_7d493_0 ?_
  refine jj_if_eqF (tgt := 13) C dJ0_coder_7d493_3 (by decide) (by decide) ?_
  refine jj_aload_n C dJ0_coder_7d493_6 rfl ?_
  refine jj_scod (k := 15) C (by decide) jw_7816d6e515 dJ0_coder_7d493_7 ?_
  refine jj_goto (tgt := 14) C dJ0_coder_7d493_10 (by decide) ?_
  exact jj_zret C rfl ⟨rfl, rfl⟩ dJ0_coder_7d493_14 (jj_le rfl) (jj_le rfl)

set_option maxHeartbeats 4000000 in
set_option maxRecDepth 100000 in
theorem ct_J0_length_8abf5_16 {l : Launch} (hl : l.stackTraces = false) (D : va_G) (cA : Nat → ClassId) (ak : (Nat → Nat) × (Nat → Nat)) : jj_M l D cA ak yJ0_length_8abf5 (.code yJ0_length_8abf5 cJ0_length_8abf5 1 (some .int)) 1 20 0 0 [] [.ref (ak.1 15)] (fun (w : va_W) (r : Option Value) => (w = [] ∧ r = some (.int 8))) jj_noX := by
  refine jj_start hl (by decide) jw_bbc7045666 (jj_le rfl) ?_
  intro p e s m args below meth c A hargs hA C hex hmn
  refine jj_aload_n C dJ0_length_8abf5_0 rfl ?_
  refine jj_sval (k := 15) C (by decide) jw_90a506b1c3 dJ0_length_8abf5_1 ?_
  refine jj_slen (k := 15) (v := 8) C (by decide) (by decide) dJ0_length_8abf5_4 ?_
  refine jj_aload_n C dJ0_length_8abf5_5 rfl ?_
  refine jq_callVs (rest := [.int 8]) C (ct_J0_coder_7d493_16 hl D cA ak) [] [] rfl rfl (by decide) (by decide) (by decide) 15 (by decide) rfl jw_f46b3464d2 jw_35edddbded jw_31f76f5b78 jw_4ea6285965 jw_084b973d83 jn_J0_coder_7d493 rfl (jj_le rfl) (jj_le rfl) (jj_le rfl) (jj_le rfl) (jj_le rfl) dJ0_length_8abf5_6 rfl (fun _ _ hX => hX.elim) (fun w1 r O_2 => ?_)
  obtain ⟨rfl, rfl⟩ := O_2
  refine jj_apd rfl ?_
  refine jj_ishr (v := 8) C dJ0_length_8abf5_9 (by decide) ?_
  exact jj_iret C ⟨rfl, rfl⟩ dJ0_length_8abf5_10 (jj_le rfl) (jj_le rfl)

set_option maxHeartbeats 4000000 in
set_option maxRecDepth 100000 in
theorem ct_J0_isLatin1_aae02_16 {l : Launch} (hl : l.stackTraces = false) (D : va_G) (cA : Nat → ClassId) (ak : (Nat → Nat) × (Nat → Nat)) : jj_M l D cA ak yJ0_isLatin1_aae02 (.code yJ0_isLatin1_aae02 cJ0_isLatin1_aae02 1 (some .boolean)) 0 0 0 0 [] [.ref (ak.1 15)] (fun (w : va_W) (r : Option Value) => (w = [] ∧ r = some (.int 1))) jj_noX := by
  refine jj_start hl (by decide) jw_1aa7753999 (jj_le rfl) ?_
  intro p e s m args below meth c A hargs hA C hex hmn
  refine jj_gcs C jw_478bb18c33 dJ0_isLatin1_aae02_0 ?_
  refine jj_if_eqF (tgt := 17) C dJ0_isLatin1_aae02_3 (by decide) (by decide) ?_
  refine jj_aload_n C dJ0_isLatin1_aae02_6 rfl ?_
  refine jj_scod (k := 15) C (by decide) jw_7816d6e515 dJ0_isLatin1_aae02_7 ?_
  refine jj_if_neF (tgt := 17) C dJ0_isLatin1_aae02_10 (by decide) (by decide) ?_
  refine jj_iconst (v := 1) C dJ0_isLatin1_aae02_13 (by decide) ?_
  refine jj_goto (tgt := 18) C dJ0_isLatin1_aae02_14 (by decide) ?_
  exact jj_zret C rfl ⟨rfl, rfl⟩ dJ0_isLatin1_aae02_18 (jj_le rfl) (jj_le rfl)

set_option maxHeartbeats 4000000 in
set_option maxRecDepth 100000 in
theorem ct_J3_checkIndex_8e157_73 {l : Launch} (hl : l.stackTraces = false) (D : va_G) (cA : Nat → ClassId) (ak : (Nat → Nat) × (Nat → Nat)) (h0 : Nat) : jj_M l D cA ak yJ3_checkIndex_8e157 (.code yJ3_checkIndex_8e157 cJ3_checkIndex_8e157 3 (some .int)) 0 0 0 0 [] [.int 0, .int 8, .ref h0] (fun (w : va_W) (r : Option Value) => (w = [] ∧ r = some (.int 0))) jj_noX := by
  refine jj_start hl (by decide) jw_da9869a695 (jj_le rfl) ?_
  intro p e s m args below meth c A hargs hA C hex hmn
  refine jj_iload_n C dJ3_checkIndex_8e157_0 rfl ?_
  refine jj_if_ltF (tgt := 9) C dJ3_checkIndex_8e157_1 (by decide) (by decide) ?_
  refine jj_iload_n C dJ3_checkIndex_8e157_4 rfl ?_
  refine jj_iload_n C dJ3_checkIndex_8e157_5 rfl ?_
  refine jj_icmp_ltT (tgt := 16) C dJ3_checkIndex_8e157_6 (by decide) (by decide) ?_
  refine jj_iload_n C dJ3_checkIndex_8e157_16 rfl ?_
  exact jj_iret C ⟨rfl, rfl⟩ dJ3_checkIndex_8e157_17 (jj_le rfl) (jj_le rfl)

set_option maxHeartbeats 4000000 in
set_option maxRecDepth 100000 in
theorem ct_J3_checkIndex_8e157_74 {l : Launch} (hl : l.stackTraces = false) (D : va_G) (cA : Nat → ClassId) (ak : (Nat → Nat) × (Nat → Nat)) : jj_M l D cA ak yJ3_checkIndex_8e157 (.code yJ3_checkIndex_8e157 cJ3_checkIndex_8e157 3 (some .int)) 0 0 0 0 [] [.int 0, .int 8, .null] (fun (w : va_W) (r : Option Value) => (w = [] ∧ r = some (.int 0))) jj_noX := by
  refine jj_start hl (by decide) jw_da9869a695 (jj_le rfl) ?_
  intro p e s m args below meth c A hargs hA C hex hmn
  refine jj_iload_n C dJ3_checkIndex_8e157_0 rfl ?_
  refine jj_if_ltF (tgt := 9) C dJ3_checkIndex_8e157_1 (by decide) (by decide) ?_
  refine jj_iload_n C dJ3_checkIndex_8e157_4 rfl ?_
  refine jj_iload_n C dJ3_checkIndex_8e157_5 rfl ?_
  refine jj_icmp_ltT (tgt := 16) C dJ3_checkIndex_8e157_6 (by decide) (by decide) ?_
  refine jj_iload_n C dJ3_checkIndex_8e157_16 rfl ?_
  exact jj_iret C ⟨rfl, rfl⟩ dJ3_checkIndex_8e157_17 (jj_le rfl) (jj_le rfl)

set_option maxHeartbeats 4000000 in
set_option maxRecDepth 100000 in
theorem ct_J0_checkIndex_df160_37 {l : Launch} (hl : l.stackTraces = false) (D : va_G) (cA : Nat → ClassId) (ak : (Nat → Nat) × (Nat → Nat)) : jj_M l D cA ak yJ0_checkIndex_df160 (.code yJ0_checkIndex_df160 cJ0_checkIndex_df160 2 none) 1 22 0 0 [] [.int 0, .int 8] (fun (w : va_W) (r : Option Value) => (w = [] ∧ r = none)) jj_noX := by
  refine jj_start hl (by decide) jw_73f64df4e3 (jj_le rfl) ?_
  intro p e s m args below meth c A hargs hA C hex hmn
  refine jj_iload_n C dJ0_checkIndex_df160_0 rfl ?_
  refine jj_iload_n C dJ0_checkIndex_df160_1 rfl ?_
  refine jj_gfm C jw_040150fc39 dJ0_checkIndex_df160_2 (fun t_1 => ?_) ?_
  · refine jq_callS (rest := []) C (ct_J3_checkIndex_8e157_73 hl D cA ak t_1) [] [] rfl rfl (by decide) (by decide) (by decide) jw_a7a8b385a1 jw_8d35bed6b0 jw_2c7dffdd00 jw_da9869a695 jn_J3_checkIndex_8e157 rfl (jj_le rfl) (jj_le rfl) (jj_le rfl) (jj_le rfl) (jj_le rfl) dJ0_checkIndex_df160_5 rfl (fun _ _ hX => hX.elim) (fun w1 r O_3 => ?_)
    obtain ⟨rfl, rfl⟩ := O_3
    refine jj_apd rfl ?_
    refine jj_pop C dJ0_checkIndex_df160_8 rfl ?_
    exact jj_vret C ⟨rfl, rfl⟩ dJ0_checkIndex_df160_9 (jj_le rfl) (jj_le rfl)
  · refine jq_callS (rest := []) C (ct_J3_checkIndex_8e157_74 hl D cA ak) [] [] rfl rfl (by decide) (by decide) (by decide) jw_a7a8b385a1 jw_8d35bed6b0 jw_2c7dffdd00 jw_da9869a695 jn_J3_checkIndex_8e157 rfl (jj_le rfl) (jj_le rfl) (jj_le rfl) (jj_le rfl) (jj_le rfl) dJ0_checkIndex_df160_5 rfl (fun _ _ hX => hX.elim) (fun w1 r O_5 => ?_)
    obtain ⟨rfl, rfl⟩ := O_5
    refine jj_apd rfl ?_
    refine jj_pop C dJ0_checkIndex_df160_8 rfl ?_
    exact jj_vret C ⟨rfl, rfl⟩ dJ0_checkIndex_df160_9 (jj_le rfl) (jj_le rfl)

set_option maxHeartbeats 4000000 in
set_option maxRecDepth 100000 in
theorem ct_J1_charAt_3b067_86 {l : Launch} (hl : l.stackTraces = false) (D : va_G) (cA : Nat → ClassId) (ak : (Nat → Nat) × (Nat → Nat)) : jj_M l D cA ak yJ1_charAt_3b067 (.code yJ1_charAt_3b067 cJ1_charAt_3b067 2 (some .char)) 2 43 0 0 [] [.ref (ak.2 15), .int 0] (fun (w : va_W) (r : Option Value) => (w = [] ∧ r = some (.int 32))) jj_noX := by
  refine jj_start hl (by decide) jw_6996a9eac3 (jj_le rfl) ?_
  intro p e s m args below meth c A hargs hA C hex hmn
  refine jj_iload_n C dJ1_charAt_3b067_0 rfl ?_
  refine jj_aload_n C dJ1_charAt_3b067_1 rfl ?_
  refine jj_slen (k := 15) (v := 8) C (by decide) (by decide) dJ1_charAt_3b067_2 ?_
  refine jq_callS (rest := []) C (ct_J0_checkIndex_df160_37 hl D cA ak) [] [] rfl rfl (by decide) (by decide) (by decide) jw_763fabfbf2 jw_9aa540e9dd jw_4ea6285965 jw_73f64df4e3 jn_J0_checkIndex_df160 rfl (jj_le rfl) (jj_le rfl) (jj_le rfl) (jj_le rfl) (jj_le rfl) dJ1_charAt_3b067_3 rfl (fun _ _ hX => hX.elim) (fun w1 r O_2 => ?_)
  obtain ⟨rfl, rfl⟩ := O_2
  refine jj_apd rfl ?_
  refine jj_aload_n C dJ1_charAt_3b067_6 rfl ?_
  refine jj_iload_n C dJ1_charAt_3b067_7 rfl ?_
  refine jj_sbyt (k := 15) (v := 32) C (by decide) (vp_in_iff.mpr (by decide)) (by decide) dJ1_charAt_3b067_8 ?_
  refine jj_sipush (v := 255) C dJ1_charAt_3b067_9 (by decide) ?_
  refine jj_iand (v := 32) C dJ1_charAt_3b067_12 (by decide) ?_
  refine jj_i2c (v := 32) C dJ1_charAt_3b067_13 (by decide) ?_
  exact jj_zret C rfl ⟨rfl, rfl⟩ dJ1_charAt_3b067_14 (jj_le rfl) (jj_le rfl)

