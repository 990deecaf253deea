set_option maxHeartbeats 4000000 in
set_option maxRecDepth 100000 in
theorem ct_J0_charAt_5068e_37 {l : Launch} (hl : l.stackTraces = false) (D : va_G) (cA : Nat → ClassId) (ak : (Nat → Nat) × (Nat → Nat)) : jj_M l D cA ak yJ0_charAt_5068e (.code yJ0_charAt_5068e cJ0_charAt_5068e 2 (some .char)) 3 64 0 0 [] [.ref (ak.1 5), .int 3] (fun (w : va_W) (r : Option Value) => (w = [] ∧ r = some (.int 115))) jj_noX := by
  refine jj_start hl (by decide) jw_391c0f56bd (jj_le rfl) ?_
  intro p e s m args below meth c A hargs hA C hex hmn
  refine jj_aload_n C dJ0_charAt_5068e_0 rfl ?_
  refine jq_callVs (rest := []) C (ct_J0_isLatin1_aae02_6 hl D cA ak) [] [] rfl rfl (by decide) (by decide) (by decide) 5 (by decide) rfl jw_5ca960aa2e jw_b7ba7c03ae jw_c4fe6f1e08 jw_4ea6285965 jw_1aa7753999 jn_J0_isLatin1_aae02 rfl (jj_le rfl) (jj_le rfl) (jj_le rfl) (jj_le rfl) (jj_le rfl) dJ0_charAt_5068e_1 rfl (fun _ _ hX => hX.elim) (fun w1 r O_2 => ?_)
  obtain ⟨rfl, rfl⟩ := O_2
  refine jj_apd rfl ?_
  refine jj_if_eqF (tgt := 16) C dJ0_charAt_5068e_4 (by decide) (by decide) ?_
  refine jj_aload_n C dJ0_charAt_5068e_7 rfl ?_
  refine jj_sval (k := 5) C (by decide) jw_90a506b1c3 dJ0_charAt_5068e_8 ?_
  refine jj_iload_n C dJ0_charAt_5068e_11 rfl ?_
  refine jq_callS (rest := []) C (ct_J1_charAt_3b067_37 hl D cA ak) [] [] rfl rfl (by decide) (by decide) (by decide) jw_7e2463d496 jw_530d7ac64c jw_2a3a2ce6ce jw_6996a9eac3 jn_J1_charAt_3b067 rfl (jj_le rfl) (jj_le rfl) (jj_le rfl) (jj_le rfl) (jj_le rfl) dJ0_charAt_5068e_12 rfl (fun _ _ hX => hX.elim) (fun w1 r O_4 => ?_)
  obtain ⟨rfl, rfl⟩ := O_4
  refine jj_apd rfl ?_
  exact jj_zret C rfl ⟨rfl, rfl⟩ dJ0_charAt_5068e_15 (jj_le rfl) (jj_le rfl)

set_option maxHeartbeats 4000000 in
set_option maxRecDepth 100000 in
theorem ct_J1_charAt_3b067_38 {l : Launch} (hl : l.stackTraces = false) (D : va_G) (cA : Nat → ClassId) (ak : (Nat → Nat) × (Nat → Nat)) : jj_M l D cA ak yJ1_charAt_3b067 (.code yJ1_charAt_3b067 cJ1_charAt_3b067 2 (some .char)) 2 43 0 0 [] [.ref (ak.2 5), .int 4] (fun (w : va_W) (r : Option Value) => (w = [] ∧ r = some (.int 99))) jj_noX := by
  refine jj_start hl (by decide) jw_6996a9eac3 (jj_le rfl) ?_
  intro p e s m args below meth c A hargs hA C hex hmn
  refine jj_iload_n C dJ1_charAt_3b067_0 rfl ?_
  refine jj_aload_n C dJ1_charAt_3b067_1 rfl ?_
  refine jj_slen (k := 5) (v := 9) C (by decide) (by decide) dJ1_charAt_3b067_2 ?_
  refine jq_callS (rest := []) C (ct_J0_checkIndex_df160_20 hl D cA ak) [] [] rfl rfl (by decide) (by decide) (by decide) jw_763fabfbf2 jw_9aa540e9dd jw_4ea6285965 jw_73f64df4e3 jn_J0_checkIndex_df160 rfl (jj_le rfl) (jj_le rfl) (jj_le rfl) (jj_le rfl) (jj_le rfl) dJ1_charAt_3b067_3 rfl (fun _ _ hX => hX.elim) (fun w1 r O_2 => ?_)
  obtain ⟨rfl, rfl⟩ := O_2
  refine jj_apd rfl ?_
  refine jj_aload_n C dJ1_charAt_3b067_6 rfl ?_
  refine jj_iload_n C dJ1_charAt_3b067_7 rfl ?_
  refine jj_sbyt (k := 5) (v := 99) C (by decide) (vp_in_iff.mpr (by decide)) (by decide) dJ1_charAt_3b067_8 ?_
  refine jj_sipush (v := 255) C dJ1_charAt_3b067_9 (by decide) ?_
  refine jj_iand (v := 99) C dJ1_charAt_3b067_12 (by decide) ?_
  refine jj_i2c (v := 99) C dJ1_charAt_3b067_13 (by decide) ?_
  exact jj_zret C rfl ⟨rfl, rfl⟩ dJ1_charAt_3b067_14 (jj_le rfl) (jj_le rfl)

set_option maxHeartbeats 4000000 in
set_option maxRecDepth 100000 in
theorem ct_J0_charAt_5068e_38 {l : Launch} (hl : l.stackTraces = false) (D : va_G) (cA : Nat → ClassId) (ak : (Nat → Nat) × (Nat → Nat)) : jj_M l D cA ak yJ0_charAt_5068e (.code yJ0_charAt_5068e cJ0_charAt_5068e 2 (some .char)) 3 64 0 0 [] [.ref (ak.1 5), .int 4] (fun (w : va_W) (r : Option Value) => (w = [] ∧ r = some (.int 99))) jj_noX := by
  refine jj_start hl (by decide) jw_391c0f56bd (jj_le rfl) ?_
  intro p e s m args below meth c A hargs hA C hex hmn
  refine jj_aload_n C dJ0_charAt_5068e_0 rfl ?_
  refine jq_callVs (rest := []) C (ct_J0_isLatin1_aae02_6 hl D cA ak) [] [] rfl rfl (by decide) (by decide) (by decide) 5 (by decide) rfl jw_5ca960aa2e jw_b7ba7c03ae jw_c4fe6f1e08 jw_4ea6285965 jw_1aa7753999 jn_J0_isLatin1_aae02 rfl (jj_le rfl) (jj_le rfl) (jj_le rfl) (jj_le rfl) (jj_le rfl) dJ0_charAt_5068e_1 rfl (fun _ _ hX => hX.elim) (fun w1 r O_2 => ?_)
  obtain ⟨rfl, rfl⟩ := O_2
  refine jj_apd rfl ?_
  refine jj_if_eqF (tgt := 16) C dJ0_charAt_5068e_4 (by decide) (by decide) ?_
  refine jj_aload_n C dJ0_charAt_5068e_7 rfl ?_
  refine jj_sval (k := 5) C (by decide) jw_90a506b1c3 dJ0_charAt_5068e_8 ?_
  refine jj_iload_n C dJ0_charAt_5068e_11 rfl ?_
  refine jq_callS (rest := []) C (ct_J1_charAt_3b067_38 hl D cA ak) [] [] rfl rfl (by decide) (by decide) (by decide) jw_7e2463d496 jw_530d7ac64c jw_2a3a2ce6ce jw_6996a9eac3 jn_J1_charAt_3b067 rfl (jj_le rfl) (jj_le rfl) (jj_le rfl) (jj_le rfl) (jj_le rfl) dJ0_charAt_5068e_12 rfl (fun _ _ hX => hX.elim) (fun w1 r O_4 => ?_)
  obtain ⟨rfl, rfl⟩ := O_4
  refine jj_apd rfl ?_
  exact jj_zret C rfl ⟨rfl, rfl⟩ dJ0_charAt_5068e_15 (jj_le rfl) (jj_le rfl)

set_option maxHeartbeats 4000000 in
set_option maxRecDepth 100000 in
theorem ct_J1_charAt_3b067_39 {l : Launch} (hl : l.stackTraces = false) (D : va_G) (cA : Nat → ClassId) (ak : (Nat → Nat) × (Nat → Nat)) : jj_M l D cA ak yJ1_charAt_3b067 (.code yJ1_charAt_3b067 cJ1_charAt_3b067 2 (some .char)) 2 43 0 0 [] [.ref (ak.2 5), .int 5] (fun (w : va_W) (r : Option Value) => (w = [] ∧ r = some (.int 114))) jj_noX := by
  refine jj_start hl (by decide) jw_6996a9eac3 (jj_le rfl) ?_
  intro p e s m args below meth c A hargs hA C hex hmn
  refine jj_iload_n C dJ1_charAt_3b067_0 rfl ?_
  refine jj_aload_n C dJ1_charAt_3b067_1 rfl ?_
  refine jj_slen (k := 5) (v := 9) C (by decide) (by decide) dJ1_charAt_3b067_2 ?_
  refine jq_callS (rest := []) C (ct_J0_checkIndex_df160_21 hl D cA ak) [] [] rfl rfl (by decide) (by decide) (by decide) jw_763fabfbf2 jw_9aa540e9dd jw_4ea6285965 jw_73f64df4e3 jn_J0_checkIndex_df160 rfl (jj_le rfl) (jj_le rfl) (jj_le rfl) (jj_le rfl) (jj_le rfl) dJ1_charAt_3b067_3 rfl (fun _ _ hX => hX.elim) (fun w1 r O_2 => ?_)
  obtain ⟨rfl, rfl⟩ := O_2
  refine jj_apd rfl ?_
  refine jj_aload_n C dJ1_charAt_3b067_6 rfl ?_
  refine jj_iload_n C dJ1_charAt_3b067_7 rfl ?_
  refine jj_sbyt (k := 5) (v := 114) C (by decide) (vp_in_iff.mpr (by decide)) (by decide) dJ1_charAt_3b067_8 ?_
  refine jj_sipush (v := 255) C dJ1_charAt_3b067_9 (by decide) ?_
  refine jj_iand (v := 114) C dJ1_charAt_3b067_12 (by decide) ?_
  refine jj_i2c (v := 114) C dJ1_charAt_3b067_13 (by decide) ?_
  exact jj_zret C rfl ⟨rfl, rfl⟩ dJ1_charAt_3b067_14 (jj_le rfl) (jj_le rfl)

set_option maxHeartbeats 4000000 in
set_option maxRecDepth 100000 in
theorem ct_J0_charAt_5068e_39 {l : Launch} (hl : l.stackTraces = false) (D : va_G) (cA : Nat → ClassId) (ak : (Nat → Nat) × (Nat → Nat)) : jj_M l D cA ak yJ0_charAt_5068e (.code yJ0_charAt_5068e cJ0_charAt_5068e 2 (some .char)) 3 64 0 0 [] [.ref (ak.1 5), .int 5] (fun (w : va_W) (r : Option Value) => (w = [] ∧ r = some (.int 114))) jj_noX := by
  refine jj_start hl (by decide) jw_391c0f56bd (jj_le rfl) ?_
  intro p e s m args below meth c A hargs hA C hex hmn
  refine jj_aload_n C dJ0_charAt_5068e_0 rfl ?_
  refine jq_callVs (rest := []) C (ct_J0_isLatin1_aae02_6 hl D cA ak) [] [] rfl rfl (by decide) (by decide) (by decide) 5 (by decide) rfl jw_5ca960aa2e jw_b7ba7c03ae jw_c4fe6f1e08 jw_4ea6285965 jw_1aa7753999 jn_J0_isLatin1_aae02 rfl (jj_le rfl) (jj_le rfl) (jj_le rfl) (jj_le rfl) (jj_le rfl) dJ0_charAt_5068e_1 rfl (fun _ _ hX => hX.elim) (fun w1 r O_2 => ?_)
  obtain ⟨rfl, rfl⟩ := O_2
  refine jj_apd rfl ?_
  refine jj_if_eqF (tgt := 16) C dJ0_charAt_5068e_4 (by decide) (by decide) ?_
  refine jj_aload_n C dJ0_charAt_5068e_7 rfl ?_
  refine jj_sval (k := 5) C (by decide) jw_90a506b1c3 dJ0_charAt_5068e_8 ?_
  refine jj_iload_n C dJ0_charAt_5068e_11 rfl ?_
  refine jq_callS (rest := []) C (ct_J1_charAt_3b067_39 hl D cA ak) [] [] rfl rfl (by decide) (by decide) (by decide) jw_7e2463d496 jw_530d7ac64c jw_2a3a2ce6ce jw_6996a9eac3 jn_J1_charAt_3b067 rfl (jj_le rfl) (jj_le rfl) (jj_le rfl) (jj_le rfl) (jj_le rfl) dJ0_charAt_5068e_12 rfl (fun _ _ hX => hX.elim) (fun w1 r O_4 => ?_)
  obtain ⟨rfl, rfl⟩ := O_4
  refine jj_apd rfl ?_
  exact jj_zret C rfl ⟨rfl, rfl⟩ dJ0_charAt_5068e_15 (jj_le rfl) (jj_le rfl)

set_option maxHeartbeats 4000000 in
set_option maxRecDepth 100000 in
theorem ct_J1_charAt_3b067_40 {l : Launch} (hl : l.stackTraces = false) (D : va_G) (cA : Nat → ClassId) (ak : (Nat → Nat) × (Nat → Nat)) : jj_M l D cA ak yJ1_charAt_3b067 (.code yJ1_charAt_3b067 cJ1_charAt_3b067 2 (some .char)) 2 43 0 0 [] [.ref (ak.2 5), .int 6] (fun (w : va_W) (r : Option Value) => (w = [] ∧ r = some (.int 105))) jj_noX := by
  refine jj_start hl (by decide) jw_6996a9eac3 (jj_le rfl) ?_
  intro p e s m args below meth c A hargs hA C hex hmn
  refine jj_iload_n C dJ1_charAt_3b067_0 rfl ?_
  refine jj_aload_n C dJ1_charAt_3b067_1 rfl ?_
  refine jj_slen (k := 5) (v := 9) C (by decide) (by decide) dJ1_charAt_3b067_2 ?_
  refine jq_callS (rest := []) C (ct_J0_checkIndex_df160_22 hl D cA ak) [] [] rfl rfl (by decide) (by decide) (by decide) jw_763fabfbf2 jw_9aa540e9dd jw_4ea6285965 jw_73f64df4e3 jn_J0_checkIndex_df160 rfl (jj_le rfl) (jj_le rfl) (jj_le rfl) (jj_le rfl) (jj_le rfl) dJ1_charAt_3b067_3 rfl (fun _ _ hX => hX.elim) (fun w1 r O_2 => ?_)
  obtain ⟨rfl, rfl⟩ := O_2
  refine jj_apd rfl ?_
  refine jj_aload_n C dJ1_charAt_3b067_6 rfl ?_
  refine jj_iload_n C dJ1_charAt_3b067_7 rfl ?_
  refine jj_sbyt (k := 5) (v := 105) C (by decide) (vp_in_iff.mpr (by decide)) (by decide) dJ1_charAt_3b067_8 ?_
  refine jj_sipush (v := 255) C dJ1_charAt_3b067_9 (by decide) ?_
  refine jj_iand (v := 105) C dJ1_charAt_3b067_12 (by decide) ?_
  refine jj_i2c (v := 105) C dJ1_charAt_3b067_13 (by decide) ?_
  exact jj_zret C rfl ⟨rfl, rfl⟩ dJ1_charAt_3b067_14 (jj_le rfl) (jj_le rfl)

set_option maxHeartbeats 4000000 in
set_option maxRecDepth 100000 in
theorem ct_J0_charAt_5068e_40 {l : Launch} (hl : l.stackTraces = false) (D : va_G) (cA : Nat → ClassId) (ak : (Nat → Nat) × (Nat → Nat)) : jj_M l D cA ak yJ0_charAt_5068e (.code yJ0_charAt_5068e cJ0_charAt_5068e 2 (some .char)) 3 64 0 0 [] [.ref (ak.1 5), .int 6] (fun (w : va_W) (r : Option Value) => (w = [] ∧ r = some (.int 105))) jj_noX := by
  refine jj_start hl (by decide) jw_391c0f56bd (jj_le rfl) ?_
  intro p e s m args below meth c A hargs hA C hex hmn
  refine jj_aload_n C dJ0_charAt_5068e_0 rfl ?_
  refine jq_callVs (rest := []) C (ct_J0_isLatin1_aae02_6 hl D cA ak) [] [] rfl rfl (by decide) (by decide) (by decide) 5 (by decide) rfl jw_5ca960aa2e jw_b7ba7c03ae jw_c4fe6f1e08 jw_4ea6285965 jw_1aa7753999 jn_J0_isLatin1_aae02 rfl (jj_le rfl) (jj_le rfl) (jj_le rfl) (jj_le rfl) (jj_le rfl) dJ0_charAt_5068e_1 rfl (fun _ _ hX => hX.elim) (fun w1 r O_2 => ?_)
  obtain ⟨rfl, rfl⟩ := O_2
  refine jj_apd rfl ?_
  refine jj_if_eqF (tgt := 16) C dJ0_charAt_5068e_4 (by decide) (by decide) ?_
  refine jj_aload_n C dJ0_charAt_5068e_7 rfl ?_
  refine jj_sval (k := 5) C (by decide) jw_90a506b1c3 dJ0_charAt_5068e_8 ?_
  refine jj_iload_n C dJ0_charAt_5068e_11 rfl ?_
  refine jq_callS (rest := []) C (ct_J1_charAt_3b067_40 hl D cA ak) [] [] rfl rfl (by decide) (by decide) (by decide) jw_7e2463d496 jw_530d7ac64c jw_2a3a2ce6ce jw_6996a9eac3 jn_J1_charAt_3b067 rfl (jj_le rfl) (jj_le rfl) (jj_le rfl) (jj_le rfl) (jj_le rfl) dJ0_charAt_5068e_12 rfl (fun _ _ hX => hX.elim) (fun w1 r O_4 => ?_)
  obtain ⟨rfl, rfl⟩ := O_4
  refine jj_apd rfl ?_
  exact jj_zret C rfl ⟨rfl, rfl⟩ dJ0_charAt_5068e_15 (jj_le rfl) (jj_le rfl)

set_option maxHeartbeats 4000000 in
set_option maxRecDepth 100000 in
theorem ct_J1_charAt_3b067_41 {l : Launch} (hl : l.stackTraces = false) (D : va_G) (cA : Nat → ClassId) (ak : (Nat → Nat) × (Nat → Nat)) : jj_M l D cA ak yJ1_charAt_3b067 (.code yJ1_charAt_3b067 cJ1_charAt_3b067 2 (some .char)) 2 43 0 0 [] [.ref (ak.2 5), .int 7] (fun (w : va_W) (r : Option Value) => (w = [] ∧ r = some (.int 98))) jj_noX := by
  refine jj_start hl (by decide) jw_6996a9eac3 (jj_le rfl) ?_
  intro p e s m args below meth c A hargs hA C hex hmn
  refine jj_iload_n C dJ1_charAt_3b067_0 rfl ?_
  refine jj_aload_n C dJ1_charAt_3b067_1 rfl ?_
  refine jj_slen (k := 5) (v := 9) C (by decide) (by decide) dJ1_charAt_3b067_2 ?_
  refine jq_callS (rest := []) C (ct_J0_checkIndex_df160_23 hl D cA ak) [] [] rfl rfl (by decide) (by decide) (by decide) jw_763fabfbf2 jw_9aa540e9dd jw_4ea6285965 jw_73f64df4e3 jn_J0_checkIndex_df160 rfl (jj_le rfl) (jj_le rfl) (jj_le rfl) (jj_le rfl) (jj_le rfl) dJ1_charAt_3b067_3 rfl (fun _ _ hX => hX.elim) (fun w1 r O_2 => ?_)
  obtain ⟨rfl, rfl⟩ := O_2
  refine jj_apd rfl ?_
  refine jj_aload_n C dJ1_charAt_3b067_6 rfl ?_
  refine jj_iload_n C dJ1_charAt_3b067_7 rfl ?_
  refine jj_sbyt (k := 5) (v := 98) C (by decide) (vp_in_iff.mpr (by decide)) (by decide) dJ1_charAt_3b067_8 ?_
  refine jj_sipush (v := 255) C dJ1_charAt_3b067_9 (by decide) ?_
  refine jj_iand (v := 98) C dJ1_charAt_3b067_12 (by decide) ?_
  refine jj_i2c (v := 98) C dJ1_charAt_3b067_13 (by decide) ?_
  exact jj_zret C rfl ⟨rfl, rfl⟩ dJ1_charAt_3b067_14 (jj_le rfl) (jj_le rfl)

set_option maxHeartbeats 4000000 in
set_option maxRecDepth 100000 in
theorem ct_J0_charAt_5068e_41 {l : Launch} (hl : l.stackTraces = false) (D : va_G) (cA : Nat → ClassId) (ak : (Nat → Nat) × (Nat → Nat)) : jj_M l D cA ak yJ0_charAt_5068e (.code yJ0_charAt_5068e cJ0_charAt_5068e 2 (some .char)) 3 64 0 0 [] [.ref (ak.1 5), .int 7] (fun (w : va_W) (r : Option Value) => (w = [] ∧ r = some (.int 98))) jj_noX := by
  refine jj_start hl (by decide) jw_391c0f56bd (jj_le rfl) ?_
  intro p e s m args below meth c A hargs hA C hex hmn
  refine jj_aload_n C dJ0_charAt_5068e_0 rfl ?_
  refine jq_callVs (rest := []) C (ct_J0_isLatin1_aae02_6 hl D cA ak) [] [] rfl rfl (by decide) (by decide) (by decide) 5 (by decide) rfl jw_5ca960aa2e jw_b7ba7c03ae jw_c4fe6f1e08 jw_4ea6285965 jw_1aa7753999 jn_J0_isLatin1_aae02 rfl (jj_le rfl) (jj_le rfl) (jj_le rfl) (jj_le rfl) (jj_le rfl) dJ0_charAt_5068e_1 rfl (fun _ _ hX => hX.elim) (fun w1 r O_2 => ?_)
  obtain ⟨rfl, rfl⟩ := O_2
  refine jj_apd rfl ?_
  refine jj_if_eqF (tgt := 16) C dJ0_charAt_5068e_4 (by decide) (by decide) ?_
  refine jj_aload_n C dJ0_charAt_5068e_7 rfl ?_
  refine jj_sval (k := 5) C (by decide) jw_90a506b1c3 dJ0_charAt_5068e_8 ?_
  refine jj_iload_n C dJ0_charAt_5068e_11 rfl ?_
  refine jq_callS (rest := []) C (ct_J1_charAt_3b067_41 hl D cA ak) [] [] rfl rfl (by decide) (by decide) (by decide) jw_7e2463d496 jw_530d7ac64c jw_2a3a2ce6ce jw_6996a9eac3 jn_J1_charAt_3b067 rfl (jj_le rfl) (jj_le rfl) (jj_le rfl) (jj_le rfl) (jj_le rfl) dJ0_charAt_5068e_12 rfl (fun _ _ hX => hX.elim) (fun w1 r O_4 => ?_)
  obtain ⟨rfl, rfl⟩ := O_4
  refine jj_apd rfl ?_
  exact jj_zret C rfl ⟨rfl, rfl⟩ dJ0_charAt_5068e_15 (jj_le rfl) (jj_le rfl)

set_option maxHeartbeats 4000000 in
set_option maxRecDepth 100000 in
theorem ct_J1_charAt_3b067_42 {l : Launch} (hl : l.stackTraces = false) (D : va_G) (cA : Nat → ClassId) (ak : (Nat → Nat) × (Nat → Nat)) : jj_M l D cA ak yJ1_charAt_3b067 (.code yJ1_charAt_3b067 cJ1_charAt_3b067 2 (some .char)) 2 43 0 0 [] [.ref (ak.2 5), .int 8] (fun (w : va_W) (r : Option Value) => (w = [] ∧ r = some (.int 101))) jj_noX := by
  refine jj_start hl (by decide) jw_6996a9eac3 (jj_le rfl) ?_
  intro p e s m args below meth c A hargs hA C hex hmn
  refine jj_iload_n C dJ1_charAt_3b067_0 rfl ?_
  refine jj_aload_n C dJ1_charAt_3b067_1 rfl ?_
  refine jj_slen (k := 5) (v := 9) C (by decide) (by decide) dJ1_charAt_3b067_2 ?_
  refine jq_callS (rest := []) C (ct_J0_checkIndex_df160_24 hl D cA ak) [] [] rfl rfl (by decide) (by decide) (by decide) jw_763fabfbf2 jw_9aa540e9dd jw_4ea6285965 jw_73f64df4e3 jn_J0_checkIndex_df160 rfl (jj_le rfl) (jj_le rfl) (jj_le rfl) (jj_le rfl) (jj_le rfl) dJ1_charAt_3b067_3 rfl (fun _ _ hX => hX.elim) (fun w1 r O_2 => ?_)
  obtain ⟨rfl, rfl⟩ := O_2
  refine jj_apd rfl ?_
  refine jj_aload_n C dJ1_charAt_3b067_6 rfl ?_
  refine jj_iload_n C dJ1_charAt_3b067_7 rfl ?_
  refine jj_sbyt (k := 5) (v := 101) C (by decide) (vp_in_iff.mpr (by decide)) (by decide) dJ1_charAt_3b067_8 ?_
  refine jj_sipush (v := 255) C dJ1_charAt_3b067_9 (by decide) ?_
  refine jj_iand (v := 101) C dJ1_charAt_3b067_12 (by decide) ?_
  refine jj_i2c (v := 101) C dJ1_charAt_3b067_13 (by decide) ?_
  exact jj_zret C rfl ⟨rfl, rfl⟩ dJ1_charAt_3b067_14 (jj_le rfl) (jj_le rfl)

set_option maxHeartbeats 4000000 in
set_option maxRecDepth 100000 in
theorem ct_J0_charAt_5068e_42 {l : Launch} (hl : l.stackTraces = false) (D : va_G) (cA : Nat → ClassId) (ak : (Nat → Nat) × (Nat → Nat)) : jj_M l D cA ak yJ0_charAt_5068e (.code yJ0_charAt_5068e cJ0_charAt_5068e 2 (some .char)) 3 64 0 0 [] [.ref (ak.1 5), .int 8] (fun (w : va_W) (r : Option Value) => (w = [] ∧ r = some (.int 101))) jj_noX := by
  refine jj_start hl (by decide) jw_391c0f56bd (jj_le rfl) ?_
  intro p e s m args below meth c A hargs hA C hex hmn
  refine jj_aload_n C dJ0_charAt_5068e_0 rfl ?_
  refine jq_callVs (rest := []) C (ct_J0_isLatin1_aae02_6 hl D cA ak) [] [] rfl rfl (by decide) (by decide) (by decide) 5 (by decide) rfl jw_5ca960aa2e jw_b7ba7c03ae jw_c4fe6f1e08 jw_4ea6285965 jw_1aa7753999 jn_J0_isLatin1_aae02 rfl (jj_le rfl) (jj_le rfl) (jj_le rfl) (jj_le rfl) (jj_le rfl) dJ0_charAt_5068e_1 rfl (fun _ _ hX => hX.elim) (fun w1 r O_2 => ?_)
  obtain ⟨rfl, rfl⟩ := O_2
  refine jj_apd rfl ?_
  refine jj_if_eqF (tgt := 16) C dJ0_charAt_5068e_4 (by decide) (by decide) ?_
  refine jj_aload_n C dJ0_charAt_5068e_7 rfl ?_
  refine jj_sval (k := 5) C (by decide) jw_90a506b1c3 dJ0_charAt_5068e_8 ?_
  refine jj_iload_n C dJ0_charAt_5068e_11 rfl ?_
  refine jq_callS (rest := []) C (ct_J1_charAt_3b067_42 hl D cA ak) [] [] rfl rfl (by decide) (by decide) (by decide) jw_7e2463d496 jw_530d7ac64c jw_2a3a2ce6ce jw_6996a9eac3 jn_J1_charAt_3b067 rfl (jj_le rfl) (jj_le rfl) (jj_le rfl) (jj_le rfl) (jj_le rfl) dJ0_charAt_5068e_12 rfl (fun _ _ hX => hX.elim) (fun w1 r O_4 => ?_)
  obtain ⟨rfl, rfl⟩ := O_4
  refine jj_apd rfl ?_
  exact jj_zret C rfl ⟨rfl, rfl⟩ dJ0_charAt_5068e_15 (jj_le rfl) (jj_le rfl)

set_option maxHeartbeats 4000000 in
set_option maxRecDepth 100000 in
theorem ct_J0_coder_7d493_7 {l : Launch} (hl : l.stackTraces = false) (D : va_G) (cA : Nat → ClassId) (ak : (Nat → Nat) × (Nat → Nat)) : jj_M l D cA ak yJ0_coder_7d493 (.code yJ0_coder_7d493 cJ0_coder_7d493 1 (some .byte)) 0 0 0 0 [] [.ref (ak.1 6)] (fun (w : va_W) (r : Option Value) => (w = [] ∧ r = some (.int 0))) jj_noX := by
  refine jj_start hl (by decide) jw_084b973d83 (jj_le rfl) ?_
  intro p e s m args below meth c A hargs hA C hex hmn
  refine jj_gcs C jw_478bb18c33 dJ0_coder_7d493_0 ?_
  refine jj_if_eqF (tgt := 13) C dJ0_coder_7d493_3 (by decide) (by decide) ?_
  refine jj_aload_n C dJ0_coder_7d493_6 rfl ?_
  refine jj_scod (k := 6) C (by decide) jw_7816d6e515 dJ0_coder_7d493_7 ?_
  refine jj_goto (tgt := 14) C dJ0_coder_7d493_10 (by decide) ?_
  exact jj_zret C rfl ⟨rfl, rfl⟩ dJ0_coder_7d493_14 (jj_le rfl) (jj_le rfl)

set_option maxHeartbeats 4000000 in
set_option maxRecDepth 100000 in
theorem ct_J0_length_8abf5_7 {l : Launch} (hl : l.stackTraces = false) (D : va_G) (cA : Nat → ClassId) (ak : (Nat → Nat) × (Nat → Nat)) : jj_M l D cA ak yJ0_length_8abf5 (.code yJ0_length_8abf5 cJ0_length_8abf5 1 (some .int)) 1 20 0 0 [] [.ref (ak.1 6)] (fun (w : va_W) (r : Option Value) => (w = [] ∧ r = some (.int 6))) jj_noX := by
  refine jj_start hl (by decide) jw_bbc7045666 (jj_le rfl) ?_
  intro p e s m args below meth c A hargs hA C hex hmn
  refine jj_aload_n C dJ0_length_8abf5_0 rfl ?_
  refine jj_sval (k := 6) C (by decide) jw_90a506b1c3 dJ0_length_8abf5_1 ?_
  refine jj_slen (k := 6) (v := 6) C (by decide) (by decide) dJ0_length_8abf5_4 ?_
  refine jj_aload_n C dJ0_length_8abf5_5 rfl ?_
  refine jq_callVs (rest := [.int 6]) C (ct_J0_coder_7d493_7 hl D cA ak) [] [] rfl rfl (by decide) (by decide) (by decide) 6 (by decide) rfl jw_f46b3464d2 jw_35edddbded jw_31f76f5b78 jw_4ea6285965 jw_084b973d83 jn_J0_coder_7d493 rfl (jj_le rfl) (jj_le rfl) (jj_le rfl) (jj_le rfl) (jj_le rfl) dJ0_length_8abf5_6 rfl (fun _ _ hX => hX.elim) (fun w1 r O_2 => ?_)
  obtain ⟨rfl, rfl⟩ := O_2
  refine jj_apd rfl ?_
  refine jj_ishr (v := 6) C dJ0_length_8abf5_9 (by decide) ?_
  exact jj_iret C ⟨rfl, rfl⟩ dJ0_length_8abf5_10 (jj_le rfl) (jj_le rfl)

set_option maxHeartbeats 4000000 in
set_option maxRecDepth 100000 in
theorem ct_J0_isLatin1_aae02_7 {l : Launch} (hl : l.stackTraces = false) (D : va_G) (cA : Nat → ClassId) (ak : (Nat → Nat) × (Nat → Nat)) : jj_M l D cA ak yJ0_isLatin1_aae02 (.code yJ0_isLatin1_aae02 cJ0_isLatin1_aae02 1 (some .boolean)) 0 0 0 0 [] [.ref (ak.1 6)] (fun (w : va_W) (r : Option Value) => (w = [] ∧ r = some (.int 1))) jj_noX := by
  refine jj_start hl (by decide) jw_1aa7753999 (jj_le rfl) ?_
  intro p e s m args below meth c A hargs hA C hex hmn
  refine jj_gcs C jw_478bb18c33 dJ0_isLatin1_aae02_0 ?_
  refine jj_if_eqF (tgt := 17) C dJ0_isLatin1_aae02_3 (by decide) (by decide) ?_
  refine jj_aload_n C dJ0_isLatin1_aae02_6 rfl ?_
  refine jj_scod (k := 6) C (by decide) jw_7816d6e515 dJ0_isLatin1_aae02_7 ?_
  refine jj_if_neF (tgt := 17) C dJ0_isLatin1_aae02_10 (by decide) (by decide) ?_
  refine jj_iconst (v := 1) C dJ0_isLatin1_aae02_13 (by decide) ?_
  refine jj_goto (tgt := 18) C dJ0_isLatin1_aae02_14 (by decide) ?_
  exact jj_zret C rfl ⟨rfl, rfl⟩ dJ0_isLatin1_aae02_18 (jj_le rfl) (jj_le rfl)

set_option maxHeartbeats 4000000 in
set_option maxRecDepth 100000 in
theorem ct_J1_charAt_3b067_43 {l : Launch} (hl : l.stackTraces = false) (D : va_G) (cA : Nat → ClassId) (ak : (Nat → Nat) × (Nat → Nat)) : jj_M l D cA ak yJ1_charAt_3b067 (.code yJ1_charAt_3b067 cJ1_charAt_3b067 2 (some .char)) 2 43 0 0 [] [.ref (ak.2 6), .int 0] (fun (w : va_W) (r : Option Value) => (w = [] ∧ r = some (.int 114))) jj_noX := by
  refine jj_start hl (by decide) jw_6996a9eac3 (jj_le rfl) ?_
  intro p e s m args below meth c A hargs hA C hex hmn
  refine jj_iload_n C dJ1_charAt_3b067_0 rfl ?_
  refine jj_aload_n C dJ1_charAt_3b067_1 rfl ?_
  refine jj_slen (k := 6) (v := 6) C (by decide) (by decide) dJ1_charAt_3b067_2 ?_
  refine jq_callS (rest := []) C (ct_J0_checkIndex_df160_10 hl D cA ak) [] [] rfl rfl (by decide) (by decide) (by decide) jw_763fabfbf2 jw_9aa540e9dd jw_4ea6285965 jw_73f64df4e3 jn_J0_checkIndex_df160 rfl (jj_le rfl) (jj_le rfl) (jj_le rfl) (jj_le rfl) (jj_le rfl) dJ1_charAt_3b067_3 rfl (fun _ _ hX => hX.elim) (fun w1 r O_2 => ?_)
  obtain ⟨rfl, rfl⟩ := O_2
  refine jj_apd rfl ?_
  refine jj_aload_n C dJ1_charAt_3b067_6 rfl ?_
  refine jj_iload_n C dJ1_charAt_3b067_7 rfl ?_
  refine jj_sbyt (k := 6) (v := 114) C (by decide) (vp_in_iff.mpr (by decide)) (by decide) dJ1_charAt_3b067_8 ?_
  refine jj_sipush (v := 255) C dJ1_charAt_3b067_9 (by decide) ?_
  refine jj_iand (v := 114) C dJ1_charAt_3b067_12 (by decide) ?_
  refine jj_i2c (v := 114) C dJ1_charAt_3b067_13 (by decide) ?_
  exact jj_zret C rfl ⟨rfl, rfl⟩ dJ1_charAt_3b067_14 (jj_le rfl) (jj_le rfl)

set_option maxHeartbeats 4000000 in
set_option maxRecDepth 100000 in
theorem ct_J0_charAt_5068e_43 {l : Launch} (hl : l.stackTraces = false) (D : va_G) (cA : Nat → ClassId) (ak : (Nat → Nat) × (Nat → Nat)) : jj_M l D cA ak yJ0_charAt_5068e (.code yJ0_charAt_5068e cJ0_charAt_5068e 2 (some .char)) 3 64 0 0 [] [.ref (ak.1 6), .int 0] (fun (w : va_W) (r : Option Value) => (w = [] ∧ r = some (.int 114))) jj_noX := by
  refine jj_start hl (by decide) jw_391c0f56bd (jj_le rfl) ?_
  intro p e s m args below meth c A hargs hA C hex hmn
  refine jj_aload_n C dJ0_charAt_5068e_0 rfl ?_
  refine jq_callVs (rest := []) C (ct_J0_isLatin1_aae02_7 hl D cA ak) [] [] rfl rfl (by decide) (by decide) (by decide) 6 (by decide) rfl jw_5ca960aa2e jw_b7ba7c03ae jw_c4fe6f1e08 jw_4ea6285965 jw_1aa7753999 jn_J0_isLatin1_aae02 rfl (jj_le rfl) (jj_le rfl) (jj_le rfl) (jj_le rfl) (jj_le rfl) dJ0_charAt_5068e_1 rfl (fun _ _ hX => hX.elim) (fun w1 r O_2 => ?_)
  obtain ⟨rfl, rfl⟩ := O_2
  refine jj_apd rfl ?_
  refine jj_if_eqF (tgt := 16) C dJ0_charAt_5068e_4 (by decide) (by decide) ?_
  refine jj_aload_n C dJ0_charAt_5068e_7 rfl ?_
  refine jj_sval (k := 6) C (by decide) jw_90a506b1c3 dJ0_charAt_5068e_8 ?_
  refine jj_iload_n C dJ0_charAt_5068e_11 rfl ?_
  refine jq_callS (rest := []) C (ct_J1_charAt_3b067_43 hl D cA ak) [] [] rfl rfl (by decide) (by decide) (by decide) jw_7e2463d496 jw_530d7ac64c jw_2a3a2ce6ce jw_6996a9eac3 jn_J1_charAt_3b067 rfl (jj_le rfl) (jj_le rfl) (jj_le rfl) (jj_le rfl) (jj_le rfl) dJ0_charAt_5068e_12 rfl (fun _ _ hX => hX.elim) (fun w1 r O_4 => ?_)
  obtain ⟨rfl, rfl⟩ := O_4
  refine jj_apd rfl ?_
  exact jj_zret C rfl ⟨rfl, rfl⟩ dJ0_charAt_5068e_15 (jj_le rfl) (jj_le rfl)

set_option maxHeartbeats 4000000 in
set_option maxRecDepth 100000 in
theorem ct_J1_charAt_3b067_44 {l : Launch} (hl : l.stackTraces = false) (D : va_G) (cA : Nat → ClassId) (ak : (Nat → Nat) × (Nat → Nat)) : jj_M l D cA ak yJ1_charAt_3b067 (.code yJ1_charAt_3b067 cJ1_charAt_3b067 2 (some .char)) 2 43 0 0 [] [.ref (ak.2 6), .int 1] (fun (w : va_W) (r : Option Value) => (w = [] ∧ r = some (.int 101))) jj_noX := by
  refine jj_start hl (by decide) jw_6996a9eac3 (jj_le rfl) ?_
  intro p e s m args below meth c A hargs hA C hex hmn
  refine jj_iload_n C dJ1_charAt_3b067_0 rfl ?_
  refine jj_aload_n C dJ1_charAt_3b067_1 rfl ?_
  refine jj_slen (k := 6) (v := 6) C (by decide) (by decide) dJ1_charAt_3b067_2 ?_
  refine jq_callS (rest := []) C (ct_J0_checkIndex_df160_11 hl D cA ak) [] [] rfl rfl (by decide) (by decide) (by decide) jw_763fabfbf2 jw_9aa540e9dd jw_4ea6285965 jw_73f64df4e3 jn_J0_checkIndex_df160 rfl (jj_le rfl) (jj_le rfl) (jj_le rfl) (jj_le rfl) (jj_le rfl) dJ1_charAt_3b067_3 rfl (fun _ _ hX => hX.elim) (fun w1 r O_2 => ?_)
  obtain ⟨rfl, rfl⟩ := O_2
  refine jj_apd rfl ?_
  refine jj_aload_n C dJ1_charAt_3b067_6 rfl ?_
  refine jj_iload_n C dJ1_charAt_3b067_7 rfl ?_
  refine jj_sbyt (k := 6) (v := 101) C (by decide) (vp_in_iff.mpr (by decide)) (by decide) dJ1_charAt_3b067_8 ?_
  refine jj_sipush (v := 255) C dJ1_charAt_3b067_9 (by decide) ?_
  refine jj_iand (v := 101) C dJ1_charAt_3b067_12 (by decide) ?_
  refine jj_i2c (v := 101) C dJ1_charAt_3b067_13 (by decide) ?_
  exact jj_zret C rfl ⟨rfl, rfl⟩ dJ1_charAt_3b067_14 (jj_le rfl) (jj_le rfl)

set_option maxHeartbeats 4000000 in
set_option maxRecDepth 100000 in
theorem ct_J0_charAt_5068e_44 {l : Launch} (hl : l.stackTraces = false) (D : va_G) (cA : Nat → ClassId) (ak : (Nat → Nat) × (Nat → Nat)) : jj_M l D cA ak yJ0_charAt_5068e (.code yJ0_charAt_5068e cJ0_charAt_5068e 2 (some .char)) 3 64 0 0 [] [.ref (ak.1 6), .int 1] (fun (w : va_W) (r : Option Value) => (w = [] ∧ r = some (.int 101))) jj_noX := by
  refine jj_start hl (by decide) jw_391c0f56bd (jj_le rfl) ?_
  intro p e s m args below meth c A hargs hA C hex hmn
  refine jj_aload_n C dJ0_charAt_5068e_0 rfl ?_
  refine jq_callVs (rest := []) C (ct_J0_isLatin1_aae02_7 hl D cA ak) [] [] rfl rfl (by decide) (by decide) (by decide) 6 (by decide) rfl jw_5ca960aa2e jw_b7ba7c03ae jw_c4fe6f1e08 jw_4ea6285965 jw_1aa7753999 jn_J0_isLatin1_aae02 rfl (jj_le rfl) (jj_le rfl) (jj_le rfl) (jj_le rfl) (jj_le rfl) dJ0_charAt_5068e_1 rfl (fun _ _ hX => hX.elim) (fun w1 r O_2 => ?_)
  obtain ⟨rfl, rfl⟩ := O_2
  refine jj_apd rfl ?_
  refine jj_if_eqF (tgt := 16) C dJ0_charAt_5068e_4 (by decide) (by decide) ?_
  refine jj_aload_n C dJ0_charAt_5068e_7 rfl ?_
  refine jj_sval (k := 6) C (by decide) jw_90a506b1c3 dJ0_charAt_5068e_8 ?_
  refine jj_iload_n C dJ0_charAt_5068e_11 rfl ?_
  refine jq_callS (rest := []) C (ct_J1_charAt_3b067_44 hl D cA ak) [] [] rfl rfl (by decide) (by decide) (by decide) jw_7e2463d496 jw_530d7ac64c jw_2a3a2ce6ce jw_6996a9eac3 jn_J1_charAt_3b067 rfl (jj_le rfl) (jj_le rfl) (jj_le rfl) (jj_le rfl) (jj_le rfl) dJ0_charAt_5068e_12 rfl (fun _ _ hX => hX.elim) (fun w1 r O_4 => ?_)
  obtain ⟨rfl, rfl⟩ := O_4
  refine jj_apd rfl ?_
  exact jj_zret C rfl ⟨rfl, rfl⟩ dJ0_charAt_5068e_15 (jj_le rfl) (jj_le rfl)

set_option maxHeartbeats 4000000 in
set_option maxRecDepth 100000 in
theorem ct_J1_charAt_3b067_45 {l : Launch} (hl : l.stackTraces = false) (D : va_G) (cA : Nat → ClassId) (ak : (Nat → Nat) × (Nat → Nat)) : jj_M l D cA ak yJ1_charAt_3b067 (.code yJ1_charAt_3b067 cJ1_charAt_3b067 2 (some .char)) 2 43 0 0 [] [.ref (ak.2 6), .int 2] (fun (w : va_W) (r : Option Value) => (w = [] ∧ r = some (.int 100))) jj_noX := by
  refine jj_start hl (by decide) jw_6996a9eac3 (jj_le rfl) ?_
  intro p e s m args below meth c A hargs hA C hex hmn
  refine jj_iload_n C dJ1_charAt_3b067_0 rfl ?_
  refine jj_aload_n C dJ1_charAt_3b067_1 rfl ?_
  refine jj_slen (k := 6) (v := 6) C (by decide) (by decide) dJ1_charAt_3b067_2 ?_
  refine jq_callS (rest := []) C (ct_J0_checkIndex_df160_12 hl D cA ak) [] [] rfl rfl (by decide) (by decide) (by decide) jw_763fabfbf2 jw_9aa540e9dd jw_4ea6285965 jw_73f64df4e3 jn_J0_checkIndex_df160 rfl (jj_le rfl) (jj_le rfl) (jj_le rfl) (jj_le rfl) (jj_le rfl) dJ1_charAt_3b067_3 rfl (fun _ _ hX => hX.elim) (fun w1 r O_2 => ?_)
  obtain ⟨rfl, rfl⟩ := O_2
  refine jj_apd rfl ?_
  refine jj_aload_n C dJ1_charAt_3b067_6 rfl ?_
  refine jj_iload_n C dJ1_charAt_3b067_7 rfl ?_
  refine jj_sbyt (k := 6) (v := 100) C (by decide) (vp_in_iff.mpr (by decide)) (by decide) dJ1_charAt_3b067_8 ?_
  refine jj_sipush (v := 255) C dJ1_charAt_3b067_9 (by decide) ?_
  refine jj_iand (v := 100) C dJ1_charAt_3b067_12 (by decide) ?_
  refine jj_i2c (v := 100) C dJ1_charAt_3b067_13 (by decide) ?_
  exact jj_zret C rfl ⟨rfl, rfl⟩ dJ1_charAt_3b067_14 (jj_le rfl) (jj_le rfl)

set_option maxHeartbeats 4000000 in
set_option maxRecDepth 100000 in
theorem ct_J0_charAt_5068e_45 {l : Launch} (hl : l.stackTraces = false) (D : va_G) (cA : Nat → ClassId) (ak : (Nat → Nat) × (Nat → Nat)) : jj_M l D cA ak yJ0_charAt_5068e (.code yJ0_charAt_5068e cJ0_charAt_5068e 2 (some .char)) 3 64 0 0 [] [.ref (ak.1 6), .int 2] (fun (w : va_W) (r : Option Value) => (w = [] ∧ r = some (.int 100))) jj_noX := by
  refine jj_start hl (by decide) jw_391c0f56bd (jj_le rfl) ?_
  intro p e s m args below meth c A hargs hA C hex hmn
  refine jj_aload_n C dJ0_charAt_5068e_0 rfl ?_
  refine jq_callVs (rest := []) C (ct_J0_isLatin1_aae02_7 hl D cA ak) [] [] rfl rfl (by decide) (by decide) (by decide) 6 (by decide) rfl jw_5ca960aa2e jw_b7ba7c03ae jw_c4fe6f1e08 jw_4ea6285965 jw_1aa7753999 jn_J0_isLatin1_aae02 rfl (jj_le rfl) (jj_le rfl) (jj_le rfl) (jj_le rfl) (jj_le rfl) dJ0_charAt_5068e_1 rfl (fun _ _ hX => hX.elim) (fun w1 r O_2 => ?_)
  obtain ⟨rfl, rfl⟩ := O_2
  refine jj_apd rfl ?_
  refine jj_if_eqF (tgt := 16) C dJ0_charAt_5068e_4 (by decide) (by decide) ?_
  refine jj_aload_n C dJ0_charAt_5068e_7 rfl ?_
  refine jj_sval (k := 6) C (by decide) jw_90a506b1c3 dJ0_charAt_5068e_8 ?_
  refine jj_iload_n C dJ0_charAt_5068e_11 rfl ?_
  refine jq_callS (rest := []) C (ct_J1_charAt_3b067_45 hl D cA ak) [] [] rfl rfl (by decide) (by decide) (by decide) jw_7e2463d496 jw_530d7ac64c jw_2a3a2ce6ce jw_6996a9eac3 jn_J1_charAt_3b067 rfl (jj_le rfl) (jj_le rfl) (jj_le rfl) (jj_le rfl) (jj_le rfl) dJ0_charAt_5068e_12 rfl (fun _ _ hX => hX.elim) (fun w1 r O_4 => ?_)
  obtain ⟨rfl, rfl⟩ := O_4
  refine jj_apd rfl ?_
  exact jj_zret C rfl ⟨rfl, rfl⟩ dJ0_charAt_5068e_15 (jj_le rfl) (jj_le rfl)

set_option maxHeartbeats 4000000 in
set_option maxRecDepth 100000 in
theorem ct_J1_charAt_3b067_46 {l : Launch} (hl : l.stackTraces = false) (D : va_G) (cA : Nat → ClassId) (ak : (Nat → Nat) × (Nat → Nat)) : jj_M l D cA ak yJ1_charAt_3b067 (.code yJ1_charAt_3b067 cJ1_charAt_3b067 2 (some .char)) 2 43 0 0 [] [.ref (ak.2 6), .int 3] (fun (w : va_W) (r : Option Value) => (w = [] ∧ r = some (.int 101))) jj_noX := by
  refine jj_start hl (by decide) jw_6996a9eac3 (jj_le rfl) ?_
  intro p e s m args below meth c A hargs hA C hex hmn
  refine jj_iload_n C dJ1_charAt_3b067_0 rfl ?_
  refine jj_aload_n C dJ1_charAt_3b067_1 rfl ?_
  refine jj_slen (k := 6) (v := 6) C (by decide) (by decide) dJ1_charAt_3b067_2 ?_
  refine jq_callS (rest := []) C (ct_J0_checkIndex_df160_13 hl D cA ak) [] [] rfl rfl (by decide) (by decide) (by decide) jw_763fabfbf2 jw_9aa540e9dd jw_4ea6285965 jw_73f64df4e3 jn_J0_checkIndex_df160 rfl (jj_le rfl) (jj_le rfl) (jj_le rfl) (jj_le rfl) (jj_le rfl) dJ1_charAt_3b067_3 rfl (fun _ _ hX => hX.elim) (fun w1 r O_2 => ?_)
  obtain ⟨rfl, rfl⟩ := O_2
  refine jj_apd rfl ?_
  refine jj_aload_n C dJ1_charAt_3b067_6 rfl ?_
  refine jj_iload_n C dJ1_charAt_3b067_7 rfl ?_
  refine jj_sbyt (k := 6) (v := 101) C (by decide) (vp_in_iff.mpr (by decide)) (by decide) dJ1_charAt_3b067_8 ?_
  refine jj_sipush (v := 255) C dJ1_charAt_3b067_9 (by decide) ?_
  refine jj_iand (v := 101) C dJ1_charAt_3b067_12 (by decide) ?_
  refine jj_i2c (v := 101) C dJ1_charAt_3b067_13 (by decide) ?_
  exact jj_zret C rfl ⟨rfl, rfl⟩ dJ1_charAt_3b067_14 (jj_le rfl) (jj_le rfl)

set_option maxHeartbeats 4000000 in
set_option maxRecDepth 100000 in
theorem ct_J0_charAt_5068e_46 {l : Launch} (hl : l.stackTraces = false) (D : va_G) (cA : Nat → ClassId) (ak : (Nat → Nat) × (Nat → Nat)) : jj_M l D cA ak yJ0_charAt_5068e (.code yJ0_charAt_5068e cJ0_charAt_5068e 2 (some .char)) 3 64 0 0 [] [.ref (ak.1 6), .int 3] (fun (w : va_W) (r : Option Value) => (w = [] ∧ r = some (.int 101))) jj_noX := by
  refine jj_start hl (by decide) jw_391c0f56bd (jj_le rfl) ?_
  intro p e s m args below meth c A hargs hA C hex hmn
  refine jj_aload_n C dJ0_charAt_5068e_0 rfl ?_
  refine jq_callVs (rest := []) C (ct_J0_isLatin1_aae02_7 hl D cA ak) [] [] rfl rfl (by decide) (by decide) (by decide) 6 (by decide) rfl jw_5ca960aa2e jw_b7ba7c03ae jw_c4fe6f1e08 jw_4ea6285965 jw_1aa7753999 jn_J0_isLatin1_aae02 rfl (jj_le rfl) (jj_le rfl) (jj_le rfl) (jj_le rfl) (jj_le rfl) dJ0_charAt_5068e_1 rfl (fun _ _ hX => hX.elim) (fun w1 r O_2 => ?_)
  obtain ⟨rfl, rfl⟩ := O_2
  refine jj_apd rfl ?_
  refine jj_if_eqF (tgt := 16) C dJ0_charAt_5068e_4 (by decide) (by decide) ?_
  refine jj_aload_n C dJ0_charAt_5068e_7 rfl ?_
  refine jj_sval (k := 6) C (by decide) jw_90a506b1c3 dJ0_charAt_5068e_8 ?_
  refine jj_iload_n C dJ0_charAt_5068e_11 rfl ?_
  refine jq_callS (rest := []) C (ct_J1_charAt_3b067_46 hl D cA ak) [] [] rfl rfl (by decide) (by decide) (by decide) jw_7e2463d496 jw_530d7ac64c jw_2a3a2ce6ce jw_6996a9eac3 jn_J1_charAt_3b067 rfl (jj_le rfl) (jj_le rfl) (jj_le rfl) (jj_le rfl) (jj_le rfl) dJ0_charAt_5068e_12 rfl (fun _ _ hX => hX.elim) (fun w1 r O_4 => ?_)
  obtain ⟨rfl, rfl⟩ := O_4
  refine jj_apd rfl ?_
  exact jj_zret C rfl ⟨rfl, rfl⟩ dJ0_charAt_5068e_15 (jj_le rfl) (jj_le rfl)

set_option maxHeartbeats 4000000 in
set_option maxRecDepth 100000 in
theorem ct_J1_charAt_3b067_47 {l : Launch} (hl : l.stackTraces = false) (D : va_G) (cA : Nat → ClassId) (ak : (Nat → Nat) × (Nat → Nat)) : jj_M l D cA ak yJ1_charAt_3b067 (.code yJ1_charAt_3b067 cJ1_charAt_3b067 2 (some .char)) 2 43 0 0 [] [.ref (ak.2 6), .int 4] (fun (w : va_W) (r : Option Value) => (w = [] ∧ r = some (.int 101))) jj_noX := by
  refine jj_start hl (by decide) jw_6996a9eac3 (jj_le rfl) ?_
  intro p e s m args below meth c A hargs hA C hex hmn
  refine jj_iload_n C dJ1_charAt_3b067_0 rfl ?_
  refine jj_aload_n C dJ1_charAt_3b067_1 rfl ?_
  refine jj_slen (k := 6) (v := 6) C (by decide) (by decide) dJ1_charAt_3b067_2 ?_
  refine jq_callS (rest := []) C (ct_J0_checkIndex_df160_14 hl D cA ak) [] [] rfl rfl (by decide) (by decide) (by decide) jw_763fabfbf2 jw_9aa540e9dd jw_4ea6285965 jw_73f64df4e3 jn_J0_checkIndex_df160 rfl (jj_le rfl) (jj_le rfl) (jj_le rfl) (jj_le rfl) (jj_le rfl) dJ1_charAt_3b067_3 rfl (fun _ _ hX => hX.elim) (fun w1 r O_2 => ?_)
  obtain ⟨rfl, rfl⟩ := O_2
  refine jj_apd rfl ?_
  refine jj_aload_n C dJ1_charAt_3b067_6 rfl ?_
  refine jj_iload_n C dJ1_charAt_3b067_7 rfl ?_
  refine jj_sbyt (k := 6) (v := 101) C (by decide) (vp_in_iff.mpr (by decide)) (by decide) dJ1_charAt_3b067_8 ?_
  refine jj_sipush (v := 255) C dJ1_charAt_3b067_9 (by decide) ?_
  refine jj_iand (v := 101) C dJ1_charAt_3b067_12 (by decide) ?_
  refine jj_i2c (v := 101) C dJ1_charAt_3b067_13 (by decide) ?_
  exact jj_zret C rfl ⟨rfl, rfl⟩ dJ1_charAt_3b067_14 (jj_le rfl) (jj_le rfl)

set_option maxHeartbeats 4000000 in
set_option maxRecDepth 100000 in
theorem ct_J0_charAt_5068e_47 {l : Launch} (hl : l.stackTraces = false) (D : va_G) (cA : Nat → ClassId) (ak : (Nat → Nat) × (Nat → Nat)) : jj_M l D cA ak yJ0_charAt_5068e (.code yJ0_charAt_5068e cJ0_charAt_5068e 2 (some .char)) 3 64 0 0 [] [.ref (ak.1 6), .int 4] (fun (w : va_W) (r : Option Value) => (w = [] ∧ r = some (.int 101))) jj_noX := by
  refine jj_start hl (by decide) jw_391c0f56bd (jj_le rfl) ?_
  intro p e s m args below meth c A hargs hA C hex hmn
  refine jj_aload_n C dJ0_charAt_5068e_0 rfl ?_
  refine jq_callVs (rest := []) C (ct_J0_isLatin1_aae02_7 hl D cA ak) [] [] rfl rfl (by decide) (by decide) (by decide) 6 (by decide) rfl jw_5ca960aa2e jw_b7ba7c03ae jw_c4fe6f1e08 jw_4ea6285965 jw_1aa7753999 jn_J0_isLatin1_aae02 rfl (jj_le rfl) (jj_le rfl) (jj_le rfl) (jj_le rfl) (jj_le rfl) dJ0_charAt_5068e_1 rfl (fun _ _ hX => hX.elim) (fun w1 r O_2 => ?_)
  obtain ⟨rfl, rfl⟩ := O_2
  refine jj_apd rfl ?_
  refine jj_if_eqF (tgt := 16) C dJ0_charAt_5068e_4 (by decide) (by decide) ?_
  refine jj_aload_n C dJ0_charAt_5068e_7 rfl ?_
  refine jj_sval (k := 6) C (by decide) jw_90a506b1c3 dJ0_charAt_5068e_8 ?_
  refine jj_iload_n C dJ0_charAt_5068e_11 rfl ?_
  refine jq_callS (rest := []) C (ct_J1_charAt_3b067_47 hl D cA ak) [] [] rfl rfl (by decide) (by decide) (by decide) jw_7e2463d496 jw_530d7ac64c jw_2a3a2ce6ce jw_6996a9eac3 jn_J1_charAt_3b067 rfl (jj_le rfl) (jj_le rfl) (jj_le rfl) (jj_le rfl) (jj_le rfl) dJ0_charAt_5068e_12 rfl (fun _ _ hX => hX.elim) (fun w1 r O_4 => ?_)
  obtain ⟨rfl, rfl⟩ := O_4
  refine jj_apd rfl ?_
  exact jj_zret C rfl ⟨rfl, rfl⟩ dJ0_charAt_5068e_15 (jj_le rfl) (jj_le rfl)

set_option maxHeartbeats 4000000 in
set_option maxRecDepth 100000 in
theorem ct_J1_charAt_3b067_48 {l : Launch} (hl : l.stackTraces = false) (D : va_G) (cA : Nat → ClassId) (ak : (Nat → Nat) × (Nat → Nat)) : jj_M l D cA ak yJ1_charAt_3b067 (.code yJ1_charAt_3b067 cJ1_charAt_3b067 2 (some .char)) 2 43 0 0 [] [.ref (ak.2 6), .int 5] (fun (w : va_W) (r : Option Value) => (w = [] ∧ r = some (.int 109))) jj_noX := by
  refine jj_start hl (by decide) jw_6996a9eac3 (jj_le rfl) ?_
  intro p e s m args below meth c A hargs hA C hex hmn
  refine jj_iload_n C dJ1_charAt_3b067_0 rfl ?_
  refine jj_aload_n C dJ1_charAt_3b067_1 rfl ?_
  refine jj_slen (k := 6) (v := 6) C (by decide) (by decide) dJ1_charAt_3b067_2 ?_
  refine jq_callS (rest := []) C (ct_J0_checkIndex_df160_15 hl D cA ak) [] [] rfl rfl (by decide) (by decide) (by decide) jw_763fabfbf2 jw_9aa540e9dd jw_4ea6285965 jw_73f64df4e3 jn_J0_checkIndex_df160 rfl (jj_le rfl) (jj_le rfl) (jj_le rfl) (jj_le rfl) (jj_le rfl) dJ1_charAt_3b067_3 rfl (fun _ _ hX => hX.elim) (fun w1 r O_2 => ?_)
  obtain ⟨rfl, rfl⟩ := O_2
  refine jj_apd rfl ?_
  refine jj_aload_n C dJ1_charAt_3b067_6 rfl ?_
  refine jj_iload_n C dJ1_charAt_3b067_7 rfl ?_
  refine jj_sbyt (k := 6) (v := 109) C (by decide) (vp_in_iff.mpr (by decide)) (by decide) dJ1_charAt_3b067_8 ?_
  refine jj_sipush (v := 255) C dJ1_charAt_3b067_9 (by decide) ?_
  refine jj_iand (v := 109) C dJ1_charAt_3b067_12 (by decide) ?_
  refine jj_i2c (v := 109) C dJ1_charAt_3b067_13 (by decide) ?_
  exact jj_zret C rfl ⟨rfl, rfl⟩ dJ1_charAt_3b067_14 (jj_le rfl) (jj_le rfl)

set_option maxHeartbeats 4000000 in
set_option maxRecDepth 100000 in
theorem ct_J0_charAt_5068e_48 {l : Launch} (hl : l.stackTraces = false) (D : va_G) (cA : Nat → ClassId) (ak : (Nat → Nat) × (Nat → Nat)) : jj_M l D cA ak yJ0_charAt_5068e (.code yJ0_charAt_5068e cJ0_charAt_5068e 2 (some .char)) 3 64 0 0 [] [.ref (ak.1 6), .int 5] (fun (w : va_W) (r : Option Value) => (w = [] ∧ r = some (.int 109))) jj_noX := by
  refine jj_start hl (by decide) jw_391c0f56bd (jj_le rfl) ?_
  intro p e s m args below meth c A hargs hA C hex hmn
  refine jj_aload_n C dJ0_charAt_5068e_0 rfl ?_
  refine jq_callVs (rest := []) C (ct_J0_isLatin1_aae02_7 hl D cA ak) [] [] rfl rfl (by decide) (by decide) (by decide) 6 (by decide) rfl jw_5ca960aa2e jw_b7ba7c03ae jw_c4fe6f1e08 jw_4ea6285965 jw_1aa7753999 jn_J0_isLatin1_aae02 rfl (jj_le rfl) (jj_le rfl) (jj_le rfl) (jj_le rfl) (jj_le rfl) dJ0_charAt_5068e_1 rfl (fun _ _ hX => hX.elim) (fun w1 r O_2 => ?_)
  obtain ⟨rfl, rfl⟩ := O_2
  refine jj_apd rfl ?_
  refine jj_if_eqF (tgt := 16) C dJ0_charAt_5068e_4 (by decide) (by decide) ?_
  refine jj_aload_n C dJ0_charAt_5068e_7 rfl ?_
  refine jj_sval (k := 6) C (by decide) jw_90a506b1c3 dJ0_charAt_5068e_8 ?_
  refine jj_iload_n C dJ0_charAt_5068e_11 rfl ?_
  refine jq_callS (rest := []) C (ct_J1_charAt_3b067_48 hl D cA ak) [] [] rfl rfl (by decide) (by decide) (by decide) jw_7e2463d496 jw_530d7ac64c jw_2a3a2ce6ce jw_6996a9eac3 jn_J1_charAt_3b067 rfl (jj_le rfl) (jj_le rfl) (jj_le rfl) (jj_le rfl) (jj_le rfl) dJ0_charAt_5068e_12 rfl (fun _ _ hX => hX.elim) (fun w1 r O_4 => ?_)
  obtain ⟨rfl, rfl⟩ := O_4
  refine jj_apd rfl ?_
  exact jj_zret C rfl ⟨rfl, rfl⟩ dJ0_charAt_5068e_15 (jj_le rfl) (jj_le rfl)

set_option maxHeartbeats 4000000 in
set_option maxRecDepth 100000 in
theorem ct_J0_coder_7d493_8 {l : Launch} (hl : l.stackTraces = false) (D : va_G) (cA : Nat → ClassId) (ak : (Nat → Nat) × (Nat → Nat)) : jj_M l D cA ak yJ0_coder_7d493 (.code yJ0_coder_7d493 cJ0_coder_7d493 1 (some .byte)) 0 0 0 0 [] [.ref (ak.1 7)] (fun (w : va_W) (r : Option Value) => (w = [] ∧ r = some (.int 0))) jj_noX := by
  refine jj_start hl (by decide) jw_084b973d83 (jj_le rfl) ?_
  intro p e s m args below meth c A hargs hA C hex hmn
  refine jj_gcs C jw_478bb18c33 dJ0_coder_7d493_0 ?_
  refine jj_if_eqF (tgt := 13) C dJ0_coder_7d493_3 (by decide) (by decide) ?_
  refine jj_aload_n C dJ0_coder_7d493_6 rfl ?_
  refine jj_scod (k := 7) C (by decide) jw_7816d6e515 dJ0_coder_7d493_7 ?_
  refine jj_goto (tgt := 14) C dJ0_coder_7d493_10 (by decide) ?_
  exact jj_zret C rfl ⟨rfl, rfl⟩ dJ0_coder_7d493_14 (jj_le rfl) (jj_le rfl)

set_option maxHeartbeats 4000000 in
set_option maxRecDepth 100000 in
theorem ct_J0_length_8abf5_8 {l : Launch} (hl : l.stackTraces = false) (D : va_G) (cA : Nat → ClassId) (ak : (Nat → Nat) × (Nat → Nat)) : jj_M l D cA ak yJ0_length_8abf5 (.code yJ0_length_8abf5 cJ0_length_8abf5 1 (some .int)) 1 20 0 0 [] [.ref (ak.1 7)] (fun (w : va_W) (r : Option Value) => (w = [] ∧ r = some (.int 4))) jj_noX := by
  refine jj_start hl (by decide) jw_bbc7045666 (jj_le rfl) ?_
  intro p e s m args below meth c A hargs hA C hex hmn
  refine jj_aload_n C dJ0_length_8abf5_0 rfl ?_
  refine jj_sval (k := 7) C (by decide) jw_90a506b1c3 dJ0_length_8abf5_1 ?_
  refine jj_slen (k := 7) (v := 4) C (by decide) (by decide) dJ0_length_8abf5_4 ?_
  refine jj_aload_n C dJ0_length_8abf5_5 rfl ?_
  refine jq_callVs (rest := [.int 4]) C (ct_J0_coder_7d493_8 hl D cA ak) [] [] rfl rfl (by decide) (by decide) (by decide) 7 (by decide) rfl jw_f46b3464d2 jw_35edddbded jw_31f76f5b78 jw_4ea6285965 jw_084b973d83 jn_J0_coder_7d493 rfl (jj_le rfl) (jj_le rfl) (jj_le rfl) (jj_le rfl) (jj_le rfl) dJ0_length_8abf5_6 rfl (fun _ _ hX => hX.elim) (fun w1 r O_2 => ?_)
  obtain ⟨rfl, rfl⟩ := O_2
  refine jj_apd rfl ?_
  refine jj_ishr (v := 4) C dJ0_length_8abf5_9 (by decide) ?_
  exact jj_iret C ⟨rfl, rfl⟩ dJ0_length_8abf5_10 (jj_le rfl) (jj_le rfl)

set_option maxHeartbeats 4000000 in
set_option maxRecDepth 100000 in
theorem ct_J0_isLatin1_aae02_8 {l : Launch} (hl : l.stackTraces = false) (D : va_G) (cA : Nat → ClassId) (ak : (Nat → Nat) × (Nat → Nat)) : jj_M l D cA ak yJ0_isLatin1_aae02 (.code yJ0_isLatin1_aae02 cJ0_isLatin1_aae02 1 (some .boolean)) 0 0 0 0 [] [.ref (ak.1 7)] (fun (w : va_W) (r : Option Value) => (w = [] ∧ r = some (.int 1))) jj_noX := by
  refine jj_start hl (by decide) jw_1aa7753999 (jj_le rfl) ?_
  intro p e s m args below meth c A hargs hA C hex hmn
  refine jj_gcs C jw_478bb18c33 dJ0_isLatin1_aae02_0 ?_
  refine jj_if_eqF (tgt := 17) C dJ0_isLatin1_aae02_3 (by decide) (by decide) ?_
  refine jj_aload_n C dJ0_isLatin1_aae02_6 rfl ?_
  refine jj_scod (k := 7) C (by decide) jw_7816d6e515 dJ0_isLatin1_aae02_7 ?_
  refine jj_if_neF (tgt := 17) C dJ0_isLatin1_aae02_10 (by decide) (by decide) ?_
  refine jj_iconst (v := 1) C dJ0_isLatin1_aae02_13 (by decide) ?_
  refine jj_goto (tgt := 18) C dJ0_isLatin1_aae02_14 (by decide) ?_
  exact jj_zret C rfl ⟨rfl, rfl⟩ dJ0_isLatin1_aae02_18 (jj_le rfl) (jj_le rfl)

set_option maxHeartbeats 4000000 in
set_option maxRecDepth 100000 in
theorem ct_J1_charAt_3b067_49 {l : Launch} (hl : l.stackTraces = false) (D : va_G) (cA : Nat → ClassId) (ak : (Nat → Nat) × (Nat → Nat)) : jj_M l D cA ak yJ1_charAt_3b067 (.code yJ1_charAt_3b067 cJ1_charAt_3b067 2 (some .char)) 2 43 0 0 [] [.ref (ak.2 7), .int 0] (fun (w : va_W) (r : Option Value) => (w = [] ∧ r = some (.int 100))) jj_noX := by
  refine jj_start hl (by decide) jw_6996a9eac3 (jj_le rfl) ?_
  intro p e s m args below meth c A hargs hA C hex hmn
  refine jj_iload_n C dJ1_charAt_3b067_0 rfl ?_
  refine jj_aload_n C dJ1_charAt_3b067_1 rfl ?_
  refine jj_slen (k := 7) (v := 4) C (by decide) (by decide) dJ1_charAt_3b067_2 ?_
  refine jq_callS (rest := []) C (ct_J0_checkIndex_df160_1 hl D cA ak) [] [] rfl rfl (by decide) (by decide) (by decide) jw_763fabfbf2 jw_9aa540e9dd jw_4ea6285965 jw_73f64df4e3 jn_J0_checkIndex_df160 rfl (jj_le rfl) (jj_le rfl) (jj_le rfl) (jj_le rfl) (jj_le rfl) dJ1_charAt_3b067_3 rfl (fun _ _ hX => hX.elim) (fun w1 r O_2 => ?_)
  obtain ⟨rfl, rfl⟩ := O_2
  refine jj_apd rfl ?_
  refine jj_aload_n C dJ1_charAt_3b067_6 rfl ?_
  refine jj_iload_n C dJ1_charAt_3b067_7 rfl ?_
  refine jj_sbyt (k := 7) (v := 100) C (by decide) (vp_in_iff.mpr (by decide)) (by decide) dJ1_charAt_3b067_8 ?_
  refine jj_sipush (v := 255) C dJ1_charAt_3b067_9 (by decide) ?_
  refine jj_iand (v := 100) C dJ1_charAt_3b067_12 (by decide) ?_
  refine jj_i2c (v := 100) C dJ1_charAt_3b067_13 (by decide) ?_
  exact jj_zret C rfl ⟨rfl, rfl⟩ dJ1_charAt_3b067_14 (jj_le rfl) (jj_le rfl)

set_option maxHeartbeats 4000000 in
set_option maxRecDepth 100000 in
theorem ct_J0_charAt_5068e_49 {l : Launch} (hl : l.stackTraces = false) (D : va_G) (cA : Nat → ClassId) (ak : (Nat → Nat) × (Nat → Nat)) : jj_M l D cA ak yJ0_charAt_5068e (.code yJ0_charAt_5068e cJ0_charAt_5068e 2 (some .char)) 3 64 0 0 [] [.ref (ak.1 7), .int 0] (fun (w : va_W) (r : Option Value) => (w = [] ∧ r = some (.int 100))) jj_noX := by
  refine jj_start hl (by decide) jw_391c0f56bd (jj_le rfl) ?_
  intro p e s m args below meth c A hargs hA C hex hmn
  refine jj_aload_n C dJ0_charAt_5068e_0 rfl ?_
  refine jq_callVs (rest := []) C (ct_J0_isLatin1_aae02_8 hl D cA ak) [] [] rfl rfl (by decide) (by decide) (by decide) 7 (by decide) rfl jw_5ca960aa2e jw_b7ba7c03ae jw_c4fe6f1e08 jw_4ea6285965 jw_1aa7753999 jn_J0_isLatin1_aae02 rfl (jj_le rfl) (jj_le rfl) (jj_le rfl) (jj_le rfl) (jj_le rfl) dJ0_charAt_5068e_1 rfl (fun _ _ hX => hX.elim) (fun w1 r O_2 => ?_)
  obtain ⟨rfl, rfl⟩ := O_2
  refine jj_apd rfl ?_
  refine jj_if_eqF (tgt := 16) C dJ0_charAt_5068e_4 (by decide) (by decide) ?_
  refine jj_aload_n C dJ0_charAt_5068e_7 rfl ?_
  refine jj_sval (k := 7) C (by decide) jw_90a506b1c3 dJ0_charAt_5068e_8 ?_
  refine jj_iload_n C dJ0_charAt_5068e_11 rfl ?_
  refine jq_callS (rest := []) C (ct_J1_charAt_3b067_49 hl D cA ak) [] [] rfl rfl (by decide) (by decide) (by decide) jw_7e2463d496 jw_530d7ac64c jw_2a3a2ce6ce jw_6996a9eac3 jn_J1_charAt_3b067 rfl (jj_le rfl) (jj_le rfl) (jj_le rfl) (jj_le rfl) (jj_le rfl) dJ0_charAt_5068e_12 rfl (fun _ _ hX => hX.elim) (fun w1 r O_4 => ?_)
  obtain ⟨rfl, rfl⟩ := O_4
  refine jj_apd rfl ?_
  exact jj_zret C rfl ⟨rfl, rfl⟩ dJ0_charAt_5068e_15 (jj_le rfl) (jj_le rfl)

set_option maxHeartbeats 4000000 in
set_option maxRecDepth 100000 in
theorem ct_J1_charAt_3b067_50 {l : Launch} (hl : l.stackTraces = false) (D : va_G) (cA : Nat → ClassId) (ak : (Nat → Nat) × (Nat → Nat)) : jj_M l D cA ak yJ1_charAt_3b067 (.code yJ1_charAt_3b067 cJ1_charAt_3b067 2 (some .char)) 2 43 0 0 [] [.ref (ak.2 7), .int 1] (fun (w : va_W) (r : Option Value) => (w = [] ∧ r = some (.int 101))) jj_noX := by
  refine jj_start hl (by decide) jw_6996a9eac3 (jj_le rfl) ?_
  intro p e s m args below meth c A hargs hA C hex hmn
  refine jj_iload_n C dJ1_charAt_3b067_0 rfl ?_
  refine jj_aload_n C dJ1_charAt_3b067_1 rfl ?_
  refine jj_slen (k := 7) (v := 4) C (by decide) (by decide) dJ1_charAt_3b067_2 ?_
  refine jq_callS (rest := []) C (ct_J0_checkIndex_df160_2 hl D cA ak) [] [] rfl rfl (by decide) (by decide) (by decide) jw_763fabfbf2 jw_9aa540e9dd jw_4ea6285965 jw_73f64df4e3 jn_J0_checkIndex_df160 rfl (jj_le rfl) (jj_le rfl) (jj_le rfl) (jj_le rfl) (jj_le rfl) dJ1_charAt_3b067_3 rfl (fun _ _ hX => hX.elim) (fun w1 r O_2 => ?_)
  obtain ⟨rfl, rfl⟩ := O_2
  refine jj_apd rfl ?_
  refine jj_aload_n C dJ1_charAt_3b067_6 rfl ?_
  refine jj_iload_n C dJ1_charAt_3b067_7 rfl ?_
  refine jj_sbyt (k := 7) (v := 101) C (by decide) (vp_in_iff.mpr (by decide)) (by decide) dJ1_charAt_3b067_8 ?_
  refine jj_sipush (v := 255) C dJ1_charAt_3b067_9 (by decide) ?_
  refine jj_iand (v := 101) C dJ1_charAt_3b067_12 (by decide) ?_
  refine jj_i2c (v := 101) C dJ1_charAt_3b067_13 (by decide) ?_
  exact jj_zret C rfl ⟨rfl, rfl⟩ dJ1_charAt_3b067_14 (jj_le rfl) (jj_le rfl)

set_option maxHeartbeats 4000000 in
set_option maxRecDepth 100000 in
theorem ct_J0_charAt_5068e_50 {l : Launch} (hl : l.stackTraces = false) (D : va_G) (cA : Nat → ClassId) (ak : (Nat → Nat) × (Nat → Nat)) : jj_M l D cA ak yJ0_charAt_5068e (.code yJ0_charAt_5068e cJ0_charAt_5068e 2 (some .char)) 3 64 0 0 [] [.ref (ak.1 7), .int 1] (fun (w : va_W) (r : Option Value) => (w = [] ∧ r = some (.int 101))) jj_noX := by
  refine jj_start hl (by decide) jw_391c0f56bd (jj_le rfl) ?_
  intro p e s m args below meth c A hargs hA C hex hmn
  refine jj_aload_n C dJ0_charAt_5068e_0 rfl ?_
  refine jq_callVs (rest := []) C (ct_J0_isLatin1_aae02_8 hl D cA ak) [] [] rfl rfl (by decide) (by decide) (by decide) 7 (by decide) rfl jw_5ca960aa2e jw_b7ba7c03ae jw_c4fe6f1e08 jw_4ea6285965 jw_1aa7753999 jn_J0_isLatin1_aae02 rfl (jj_le rfl) (jj_le rfl) (jj_le rfl) (jj_le rfl) (jj_le rfl) dJ0_charAt_5068e_1 rfl (fun _ _ hX => hX.elim) (fun w1 r O_2 => ?_)
  obtain ⟨rfl, rfl⟩ := O_2
  refine jj_apd rfl ?_
  refine jj_if_eqF (tgt := 16) C dJ0_charAt_5068e_4 (by decide) (by decide) ?_
  refine jj_aload_n C dJ0_charAt_5068e_7 rfl ?_
  refine jj_sval (k := 7) C (by decide) jw_90a506b1c3 dJ0_charAt_5068e_8 ?_
  refine jj_iload_n C dJ0_charAt_5068e_11 rfl ?_
  refine jq_callS (rest := []) C (ct_J1_charAt_3b067_50 hl D cA ak) [] [] rfl rfl (by decide) (by decide) (by decide) jw_7e2463d496 jw_530d7ac64c jw_2a3a2ce6ce jw_6996a9eac3 jn_J1_charAt_3b067 rfl (jj_le rfl) (jj_le rfl) (jj_le rfl) (jj_le rfl) (jj_le rfl) dJ0_charAt_5068e_12 rfl (fun _ _ hX => hX.elim) (fun w1 r O_4 => ?_)
  obtain ⟨rfl, rfl⟩ := O_4
  refine jj_apd rfl ?_
  exact jj_zret C rfl ⟨rfl, rfl⟩ dJ0_charAt_5068e_15 (jj_le rfl) (jj_le rfl)

set_option maxHeartbeats 4000000 in
set_option maxRecDepth 100000 in
theorem ct_J1_charAt_3b067_51 {l : Launch} (hl : l.stackTraces = false) (D : va_G) (cA : Nat → ClassId) (ak : (Nat → Nat) × (Nat → Nat)) : jj_M l D cA ak yJ1_charAt_3b067 (.code yJ1_charAt_3b067 cJ1_charAt_3b067 2 (some .char)) 2 43 0 0 [] [.ref (ak.2 7), .int 2] (fun (w : va_W) (r : Option Value) => (w = [] ∧ r = some (.int 97))) jj_noX := by
  refine jj_start hl (by decide) jw_6996a9eac3 (jj_le rfl) ?_
  intro p e s m args below meth c A hargs hA C hex hmn
  refine jj_iload_n C dJ1_charAt_3b067_0 rfl ?_
  refine jj_aload_n C dJ1_charAt_3b067_1 rfl ?_
  refine jj_slen (k := 7) (v := 4) C (by decide) (by decide) dJ1_charAt_3b067_2 ?_
  refine jq_callS (rest := []) C (ct_J0_checkIndex_df160_3 hl D cA ak) [] [] rfl rfl (by decide) (by decide) (by decide) jw_763fabfbf2 jw_9aa540e9dd jw_4ea6285965 jw_73f64df4e3 jn_J0_checkIndex_df160 rfl (jj_le rfl) (jj_le rfl) (jj_le rfl) (jj_le rfl) (jj_le rfl) dJ1_charAt_3b067_3 rfl (fun _ _ hX => hX.elim) (fun w1 r O_2 => ?_)
  obtain ⟨rfl, rfl⟩ := O_2
  refine jj_apd rfl ?_
  refine jj_aload_n C dJ1_charAt_3b067_6 rfl ?_
  refine jj_iload_n C dJ1_charAt_3b067_7 rfl ?_
  refine jj_sbyt (k := 7) (v := 97) C (by decide) (vp_in_iff.mpr (by decide)) (by decide) dJ1_charAt_3b067_8 ?_
  refine jj_sipush (v := 255) C dJ1_charAt_3b067_9 (by decide) ?_
  refine jj_iand (v := 97) C dJ1_charAt_3b067_12 (by decide) ?_
  refine jj_i2c (v := 97) C dJ1_charAt_3b067_13 (by decide) ?_
  exact jj_zret C rfl ⟨rfl, rfl⟩ dJ1_charAt_3b067_14 (jj_le rfl) (jj_le rfl)

set_option maxHeartbeats 4000000 in
set_option maxRecDepth 100000 in
theorem ct_J0_charAt_5068e_51 {l : Launch} (hl : l.stackTraces = false) (D : va_G) (cA : Nat → ClassId) (ak : (Nat → Nat) × (Nat → Nat)) : jj_M l D cA ak yJ0_charAt_5068e (.code yJ0_charAt_5068e cJ0_charAt_5068e 2 (some .char)) 3 64 0 0 [] [.ref (ak.1 7), .int 2] (fun (w : va_W) (r : Option Value) => (w = [] ∧ r = some (.int 97))) jj_noX := by
  refine jj_start hl (by decide) jw_391c0f56bd (jj_le rfl) ?_
  intro p e s m args below meth c A hargs hA C hex hmn
  refine jj_aload_n C dJ0_charAt_5068e_0 rfl ?_
  refine jq_callVs (rest := []) C (ct_J0_isLatin1_aae02_8 hl D cA ak) [] [] rfl rfl (by decide) (by decide) (by decide) 7 (by decide) rfl jw_5ca960aa2e jw_b7ba7c03ae jw_c4fe6f1e08 jw_4ea6285965 jw_1aa7753999 jn_J0_isLatin1_aae02 rfl (jj_le rfl) (jj_le rfl) (jj_le rfl) (jj_le rfl) (jj_le rfl) dJ0_charAt_5068e_1 rfl (fun _ _ hX => hX.elim) (fun w1 r O_2 => ?_)
  obtain ⟨rfl, rfl⟩ := O_2
  refine jj_apd rfl ?_
  refine jj_if_eqF (tgt := 16) C dJ0_charAt_5068e_4 (by decide) (by decide) ?_
  refine jj_aload_n C dJ0_charAt_5068e_7 rfl ?_
  refine jj_sval (k := 7) C (by decide) jw_90a506b1c3 dJ0_charAt_5068e_8 ?_
  refine jj_iload_n C dJ0_charAt_5068e_11 rfl ?_
  refine jq_callS (rest := []) C (ct_J1_charAt_3b067_51 hl D cA ak) [] [] rfl rfl (by decide) (by decide) (by decide) jw_7e2463d496 jw_530d7ac64c jw_2a3a2ce6ce jw_6996a9eac3 jn_J1_charAt_3b067 rfl (jj_le rfl) (jj_le rfl) (jj_le rfl) (jj_le rfl) (jj_le rfl) dJ0_charAt_5068e_12 rfl (fun _ _ hX => hX.elim) (fun w1 r O_4 => ?_)
  obtain ⟨rfl, rfl⟩ := O_4
  refine jj_apd rfl ?_
  exact jj_zret C rfl ⟨rfl, rfl⟩ dJ0_charAt_5068e_15 (jj_le rfl) (jj_le rfl)

set_option maxHeartbeats 4000000 in
set_option maxRecDepth 100000 in
theorem ct_J1_charAt_3b067_52 {l : Launch} (hl : l.stackTraces = false) (D : va_G) (cA : Nat → ClassId) (ak : (Nat → Nat) × (Nat → Nat)) : jj_M l D cA ak yJ1_charAt_3b067 (.code yJ1_charAt_3b067 cJ1_charAt_3b067 2 (some .char)) 2 43 0 0 [] [.ref (ak.2 7), .int 3] (fun (w : va_W) (r : Option Value) => (w = [] ∧ r = some (.int 108))) jj_noX := by
  refine jj_start hl (by decide) jw_6996a9eac3 (jj_le rfl) ?_
  intro p e s m args below meth c A hargs hA C hex hmn
  refine jj_iload_n C dJ1_charAt_3b067_0 rfl ?_
  refine jj_aload_n C dJ1_charAt_3b067_1 rfl ?_
  refine jj_slen (k := 7) (v := 4) C (by decide) (by decide) dJ1_charAt_3b067_2 ?_
  refine jq_callS (rest := []) C (ct_J0_checkIndex_df160_4 hl D cA ak) [] [] rfl rfl (by decide) (by decide) (by decide) jw_763fabfbf2 jw_9aa540e9dd jw_4ea6285965 jw_73f64df4e3 jn_J0_checkIndex_df160 rfl (jj_le rfl) (jj_le rfl) (jj_le rfl) (jj_le rfl) (jj_le rfl) dJ1_charAt_3b067_3 rfl (fun _ _ hX => hX.elim) (fun w1 r O_2 => ?_)
  obtain ⟨rfl, rfl⟩ := O_2
  refine jj_apd rfl ?_
  refine jj_aload_n C dJ1_charAt_3b067_6 rfl ?_
  refine jj_iload_n C dJ1_charAt_3b067_7 rfl ?_
  refine jj_sbyt (k := 7) (v := 108) C (by decide) (vp_in_iff.mpr (by decide)) (by decide) dJ1_charAt_3b067_8 ?_
  refine jj_sipush (v := 255) C dJ1_charAt_3b067_9 (by decide) ?_
  refine jj_iand (v := 108) C dJ1_charAt_3b067_12 (by decide) ?_
  refine jj_i2c (v := 108) C dJ1_charAt_3b067_13 (by decide) ?_
  exact jj_zret C rfl ⟨rfl, rfl⟩ dJ1_charAt_3b067_14 (jj_le rfl) (jj_le rfl)

set_option maxHeartbeats 4000000 in
set_option maxRecDepth 100000 in
theorem ct_J0_charAt_5068e_52 {l : Launch} (hl : l.stackTraces = false) (D : va_G) (cA : Nat → ClassId) (ak : (Nat → Nat) × (Nat → Nat)) : jj_M l D cA ak yJ0_charAt_5068e (.code yJ0_charAt_5068e cJ0_charAt_5068e 2 (some .char)) 3 64 0 0 [] [.ref (ak.1 7), .int 3] (fun (w : va_W) (r : Option Value) => (w = [] ∧ r = some (.int 108))) jj_noX := by
  refine jj_start hl (by decide) jw_391c0f56bd (jj_le rfl) ?_
  intro p e s m args below meth c A hargs hA C hex hmn
  refine jj_aload_n C dJ0_charAt_5068e_0 rfl ?_
  refine jq_callVs (rest := []) C (ct_J0_isLatin1_aae02_8 hl D cA ak) [] [] rfl rfl (by decide) (by decide) (by decide) 7 (by decide) rfl jw_5ca960aa2e jw_b7ba7c03ae jw_c4fe6f1e08 jw_4ea6285965 jw_1aa7753999 jn_J0_isLatin1_aae02 rfl (jj_le rfl) (jj_le rfl) (jj_le rfl) (jj_le rfl) (jj_le rfl) dJ0_charAt_5068e_1 rfl (fun _ _ hX => hX.elim) (fun w1 r O_2 => ?_)
  obtain ⟨rfl, rfl⟩ := O_2
  refine jj_apd rfl ?_
  refine jj_if_eqF (tgt := 16) C dJ0_charAt_5068e_4 (by decide) (by decide) ?_
  refine jj_aload_n C dJ0_charAt_5068e_7 rfl ?_
  refine jj_sval (k := 7) C (by decide) jw_90a506b1c3 dJ0_charAt_5068e_8 ?_
  refine jj_iload_n C dJ0_charAt_5068e_11 rfl ?_
  refine jq_callS (rest := []) C (ct_J1_charAt_3b067_52 hl D cA ak) [] [] rfl rfl (by decide) (by decide) (by decide) jw_7e2463d496 jw_530d7ac64c jw_2a3a2ce6ce jw_6996a9eac3 jn_J1_charAt_3b067 rfl (jj_le rfl) (jj_le rfl) (jj_le rfl) (jj_le rfl) (jj_le rfl) dJ0_charAt_5068e_12 rfl (fun _ _ hX => hX.elim) (fun w1 r O_4 => ?_)
  obtain ⟨rfl, rfl⟩ := O_4
  refine jj_apd rfl ?_
  exact jj_zret C rfl ⟨rfl, rfl⟩ dJ0_charAt_5068e_15 (jj_le rfl) (jj_le rfl)

set_option maxHeartbeats 4000000 in
set_option maxRecDepth 100000 in
theorem ct_J0_coder_7d493_9 {l : Launch} (hl : l.stackTraces = false) (D : va_G) (cA : Nat → ClassId) (ak : (Nat → Nat) × (Nat → Nat)) : jj_M l D cA ak yJ0_coder_7d493 (.code yJ0_coder_7d493 cJ0_coder_7d493 1 (some .byte)) 0 0 0 0 [] [.ref (ak.1 8)] (fun (w : va_W) (r : Option Value) => (w = [] ∧ r = some (.int 0))) jj_noX := by
  refine jj_start hl (by decide) jw_084b973d83 (jj_le rfl) ?_
  intro p e s m args below meth c A hargs hA C hex hmn
  refine jj_gcs C jw_478bb18c33 dJ0_coder_7d493_0 ?_
  refine jj_if_eqF (tgt := 13) C dJ0_coder_7d493_3 (by decide) (by decide) ?_
  refine jj_aload_n C dJ0_coder_7d493_6 rfl ?_
  refine jj_scod (k := 8) C (by decide) jw_7816d6e515 dJ0_coder_7d493_7 ?_
  refine jj_goto (tgt := 14) C dJ0_coder_7d493_10 (by decide) ?_
  exact jj_zret C rfl ⟨rfl, rfl⟩ dJ0_coder_7d493_14 (jj_le rfl) (jj_le rfl)

set_option maxHeartbeats 4000000 in
set_option maxRecDepth 100000 in
theorem ct_J0_length_8abf5_9 {l : Launch} (hl : l.stackTraces = false) (D : va_G) (cA : Nat → ClassId) (ak : (Nat → Nat) × (Nat → Nat)) : jj_M l D cA ak yJ0_length_8abf5 (.code yJ0_length_8abf5 cJ0_length_8abf5 1 (some .int)) 1 20 0 0 [] [.ref (ak.1 8)] (fun (w : va_W) (r : Option Value) => (w = [] ∧ r = some (.int 4))) jj_noX := by
  refine jj_start hl (by decide) jw_bbc7045666 (jj_le rfl) ?_
  intro p e s m args below meth c A hargs hA C hex hmn
  refine jj_aload_n C dJ0_length_8abf5_0 rfl ?_
  refine jj_sval (k := 8) C (by decide) jw_90a506b1c3 dJ0_length_8abf5_1 ?_
  refine jj_slen (k := 8) (v := 4) C (by decide) (by decide) dJ0_length_8abf5_4 ?_
  refine jj_aload_n C dJ0_length_8abf5_5 rfl ?_
  refine jq_callVs (rest := [.int 4]) C (ct_J0_coder_7d493_9 hl D cA ak) [] [] rfl rfl (by decide) (by decide) (by decide) 8 (by decide) rfl jw_f46b3464d2 jw_35edddbded jw_31f76f5b78 jw_4ea6285965 jw_084b973d83 jn_J0_coder_7d493 rfl (jj_le rfl) (jj_le rfl) (jj_le rfl) (jj_le rfl) (jj_le rfl) dJ0_length_8abf5_6 rfl (fun _ _ hX => hX.elim) (fun w1 r O_2 => ?_)
  obtain ⟨rfl, rfl⟩ := O_2
  refine jj_apd rfl ?_
  refine jj_ishr (v := 4) C dJ0_length_8abf5_9 (by decide) ?_
  exact jj_iret C ⟨rfl, rfl⟩ dJ0_length_8abf5_10 (jj_le rfl) (jj_le rfl)

set_option maxHeartbeats 4000000 in
set_option maxRecDepth 100000 in
theorem ct_J0_isLatin1_aae02_9 {l : Launch} (hl : l.stackTraces = false) (D : va_G) (cA : Nat → ClassId) (ak : (Nat → Nat) × (Nat → Nat)) : jj_M l D cA ak yJ0_isLatin1_aae02 (.code yJ0_isLatin1_aae02 cJ0_isLatin1_aae02 1 (some .boolean)) 0 0 0 0 [] [.ref (ak.1 8)] (fun (w : va_W) (r : Option Value) => (w = [] ∧ r = some (.int 1))) jj_noX := by
  refine jj_start hl (by decide) jw_1aa7753999 (jj_le rfl) ?_
  intro p e s m args below meth c A hargs hA C hex hmn
  refine jj_gcs C jw_478bb18c33 dJ0_isLatin1_aae02_0 ?_
  refine jj_if_eqF (tgt := 17) C dJ0_isLatin1_aae02_3 (by decide) (by decide) ?_
  refine jj_aload_n C dJ0_isLatin1_aae02_6 rfl ?_
  refine jj_scod (k := 8) C (by decide) jw_7816d6e515 dJ0_isLatin1_aae02_7 ?_
  refine jj_if_neF (tgt := 17) C dJ0_isLatin1_aae02_10 (by decide) (by decide) ?_
  refine jj_iconst (v := 1) C dJ0_isLatin1_aae02_13 (by decide) ?_
  refine jj_goto (tgt := 18) C dJ0_isLatin1_aae02_14 (by decide) ?_
  exact jj_zret C rfl ⟨rfl, rfl⟩ dJ0_isLatin1_aae02_18 (jj_le rfl) (jj_le rfl)

set_option maxHeartbeats 4000000 in
set_option maxRecDepth 100000 in
theorem ct_J1_charAt_3b067_53 {l : Launch} (hl : l.stackTraces = false) (D : va_G) (cA : Nat → ClassId) (ak : (Nat → Nat) × (Nat → Nat)) : jj_M l D cA ak yJ1_charAt_3b067 (.code yJ1_charAt_3b067 cJ1_charAt_3b067 2 (some .char)) 2 43 0 0 [] [.ref (ak.2 8), .int 0] (fun (w : va_W) (r : Option Value) => (w = [] ∧ r = some (.int 103))) jj_noX := by
  refine jj_start hl (by decide) jw_6996a9eac3 (jj_le rfl) ?_
  intro p e s m args below meth c A hargs hA C hex hmn
  refine jj_iload_n C dJ1_charAt_3b067_0 rfl ?_
  refine jj_aload_n C dJ1_charAt_3b067_1 rfl ?_
  refine jj_slen (k := 8) (v := 4) C (by decide) (by decide) dJ1_charAt_3b067_2 ?_
  refine jq_callS (rest := []) C (ct_J0_checkIndex_df160_1 hl D cA ak) [] [] rfl rfl (by decide) (by decide) (by decide) jw_763fabfbf2 jw_9aa540e9dd jw_4ea6285965 jw_73f64df4e3 jn_J0_checkIndex_df160 rfl (jj_le rfl) (jj_le rfl) (jj_le rfl) (jj_le rfl) (jj_le rfl) dJ1_charAt_3b067_3 rfl (fun _ _ hX => hX.elim) (fun w1 r O_2 => ?_)
  obtain ⟨rfl, rfl⟩ := O_2
  refine jj_apd rfl ?_
  refine jj_aload_n C dJ1_charAt_3b067_6 rfl ?_
  refine jj_iload_n C dJ1_charAt_3b067_7 rfl ?_
  refine jj_sbyt (k := 8) (v := 103) C (by decide) (vp_in_iff.mpr (by decide)) (by decide) dJ1_charAt_3b067_8 ?_
  refine jj_sipush (v := 255) C dJ1_charAt_3b067_9 (by decide) ?_
  refine jj_iand (v := 103) C dJ1_charAt_3b067_12 (by decide) ?_
  refine jj_i2c (v := 103) C dJ1_charAt_3b067_13 (by decide) ?_
  exact jj_zret C rfl ⟨rfl, rfl⟩ dJ1_charAt_3b067_14 (jj_le rfl) (jj_le rfl)

set_option maxHeartbeats 4000000 in
set_option maxRecDepth 100000 in
theorem ct_J0_charAt_5068e_53 {l : Launch} (hl : l.stackTraces = false) (D : va_G) (cA : Nat → ClassId) (ak : (Nat → Nat) × (Nat → Nat)) : jj_M l D cA ak yJ0_charAt_5068e (.code yJ0_charAt_5068e cJ0_charAt_5068e 2 (some .char)) 3 64 0 0 [] [.ref (ak.1 8), .int 0] (fun (w : va_W) (r : Option Value) => (w = [] ∧ r = some (.int 103))) jj_noX := by
  refine jj_start hl (by decide) jw_391c0f56bd (jj_le rfl) ?_
  intro p e s m args below meth c A hargs hA C hex hmn
  refine jj_aload_n C dJ0_charAt_5068e_0 rfl ?_
  refine jq_callVs (rest := []) C (ct_J0_isLatin1_aae02_9 hl D cA ak) [] [] rfl rfl (by decide) (by decide) (by decide) 8 (by decide) rfl jw_5ca960aa2e jw_b7ba7c03ae jw_c4fe6f1e08 jw_4ea6285965 jw_1aa7753999 jn_J0_isLatin1_aae02 rfl (jj_le rfl) (jj_le rfl) (jj_le rfl) (jj_le rfl) (jj_le rfl) dJ0_charAt_5068e_1 rfl (fun _ _ hX => hX.elim) (fun w1 r O_2 => ?_)
  obtain ⟨rfl, rfl⟩ := O_2
  refine jj_apd rfl ?_
  refine jj_if_eqF (tgt := 16) C dJ0_charAt_5068e_4 (by decide) (by decide) ?_
  refine jj_aload_n C dJ0_charAt_5068e_7 rfl ?_
  refine jj_sval (k := 8) C (by decide) jw_90a506b1c3 dJ0_charAt_5068e_8 ?_
  refine jj_iload_n C dJ0_charAt_5068e_11 rfl ?_
  refine jq_callS (rest := []) C (ct_J1_charAt_3b067_53 hl D cA ak) [] [] rfl rfl (by decide) (by decide) (by decide) jw_7e2463d496 jw_530d7ac64c jw_2a3a2ce6ce jw_6996a9eac3 jn_J1_charAt_3b067 rfl (jj_le rfl) (jj_le rfl) (jj_le rfl) (jj_le rfl) (jj_le rfl) dJ0_charAt_5068e_12 rfl (fun _ _ hX => hX.elim) (fun w1 r O_4 => ?_)
  obtain ⟨rfl, rfl⟩ := O_4
  refine jj_apd rfl ?_
  exact jj_zret C rfl ⟨rfl, rfl⟩ dJ0_charAt_5068e_15 (jj_le rfl) (jj_le rfl)

set_option maxHeartbeats 4000000 in
set_option maxRecDepth 100000 in
theorem ct_J1_charAt_3b067_54 {l : Launch} (hl : l.stackTraces = false) (D : va_G) (cA : Nat → ClassId) (ak : (Nat → Nat) × (Nat → Nat)) : jj_M l D cA ak yJ1_charAt_3b067 (.code yJ1_charAt_3b067 cJ1_charAt_3b067 2 (some .char)) 2 43 0 0 [] [.ref (ak.2 8), .int 1] (fun (w : va_W) (r : Option Value) => (w = [] ∧ r = some (.int 97))) jj_noX := by
  refine jj_start hl (by decide) jw_6996a9eac3 (jj_le rfl) ?_
  intro p e s m args below meth c A hargs hA C hex hmn
  refine jj_iload_n C dJ1_charAt_3b067_0 rfl ?_
  refine jj_aload_n C dJ1_charAt_3b067_1 rfl ?_
  refine jj_slen (k := 8) (v := 4) C (by decide) (by decide) dJ1_charAt_3b067_2 ?_
  refine jq_callS (rest := []) C (ct_J0_checkIndex_df160_2 hl D cA ak) [] [] rfl rfl (by decide) (by decide) (by decide) jw_763fabfbf2 jw_9aa540e9dd jw_4ea6285965 jw_73f64df4e3 jn_J0_checkIndex_df160 rfl (jj_le rfl) (jj_le rfl) (jj_le rfl) (jj_le rfl) (jj_le rfl) dJ1_charAt_3b067_3 rfl (fun _ _ hX => hX.elim) (fun w1 r O_2 => ?_)
  obtain ⟨rfl, rfl⟩ := O_2
  refine jj_apd rfl ?_
  refine jj_aload_n C dJ1_charAt_3b067_6 rfl ?_
  refine jj_iload_n C dJ1_charAt_3b067_7 rfl ?_
  refine jj_sbyt (k := 8) (v := 97) C (by decide) (vp_in_iff.mpr (by decide)) (by decide) dJ1_charAt_3b067_8 ?_
  refine jj_sipush (v := 255) C dJ1_charAt_3b067_9 (by decide) ?_
  refine jj_iand (v := 97) C dJ1_charAt_3b067_12 (by decide) ?_
  refine jj_i2c (v := 97) C dJ1_charAt_3b067_13 (by decide) ?_
  exact jj_zret C rfl ⟨rfl, rfl⟩ dJ1_charAt_3b067_14 (jj_le rfl) (jj_le rfl)

set_option maxHeartbeats 4000000 in
set_option maxRecDepth 100000 in
theorem ct_J0_charAt_5068e_54 {l : Launch} (hl : l.stackTraces = false) (D : va_G) (cA : Nat → ClassId) (ak : (Nat → Nat) × (Nat → Nat)) : jj_M l D cA ak yJ0_charAt_5068e (.code yJ0_charAt_5068e cJ0_charAt_5068e 2 (some .char)) 3 64 0 0 [] [.ref (ak.1 8), .int 1] (fun (w : va_W) (r : Option Value) => (w = [] ∧ r = some (.int 97))) jj_noX := by
  refine jj_start hl (by decide) jw_391c0f56bd (jj_le rfl) ?_
  intro p e s m args below meth c A hargs hA C hex hmn
  refine jj_aload_n C dJ0_charAt_5068e_0 rfl ?_
  refine jq_callVs (rest := []) C (ct_J0_isLatin1_aae02_9 hl D cA ak) [] [] rfl rfl (by decide) (by decide) (by decide) 8 (by decide) rfl jw_5ca960aa2e jw_b7ba7c03ae jw_c4fe6f1e08 jw_4ea6285965 jw_1aa7753999 jn_J0_isLatin1_aae02 rfl (jj_le rfl) (jj_le rfl) (jj_le rfl) (jj_le rfl) (jj_le rfl) dJ0_charAt_5068e_1 rfl (fun _ _ hX => hX.elim) (fun w1 r O_2 => ?_)
  obtain ⟨rfl, rfl⟩ := O_2
  refine jj_apd rfl ?_
  refine jj_if_eqF (tgt := 16) C dJ0_charAt_5068e_4 (by decide) (by decide) ?_
  refine jj_aload_n C dJ0_charAt_5068e_7 rfl ?_
  refine jj_sval (k := 8) C (by decide) jw_90a506b1c3 dJ0_charAt_5068e_8 ?_
  refine jj_iload_n C dJ0_charAt_5068e_11 rfl ?_
  refine jq_callS (rest := []) C (ct_J1_charAt_3b067_54 hl D cA ak) [] [] rfl rfl (by decide) (by decide) (by decide) jw_7e2463d496 jw_530d7ac64c jw_2a3a2ce6ce jw_6996a9eac3 jn_J1_charAt_3b067 rfl (jj_le rfl) (jj_le rfl) (jj_le rfl) (jj_le rfl) (jj_le rfl) dJ0_charAt_5068e_12 rfl (fun _ _ hX => hX.elim) (fun w1 r O_4 => ?_)
  obtain ⟨rfl, rfl⟩ := O_4
  refine jj_apd rfl ?_
  exact jj_zret C rfl ⟨rfl, rfl⟩ dJ0_charAt_5068e_15 (jj_le rfl) (jj_le rfl)

set_option maxHeartbeats 4000000 in
set_option maxRecDepth 100000 in
theorem ct_J1_charAt_3b067_55 {l : Launch} (hl : l.stackTraces = false) (D : va_G) (cA : Nat → ClassId) (ak : (Nat → Nat) × (Nat → Nat)) : jj_M l D cA ak yJ1_charAt_3b067 (.code yJ1_charAt_3b067 cJ1_charAt_3b067 2 (some .char)) 2 43 0 0 [] [.ref (ak.2 8), .int 2] (fun (w : va_W) (r : Option Value) => (w = [] ∧ r = some (.int 105))) jj_noX := by
  refine jj_start hl (by decide) jw_6996a9eac3 (jj_le rfl) ?_
  intro p e s m args below meth c A hargs hA C hex hmn
  refine jj_iload_n C dJ1_charAt_3b067_0 rfl ?_
  refine jj_aload_n C dJ1_charAt_3b067_1 rfl ?_
  refine jj_slen (k := 8) (v := 4) C (by decide) (by decide) dJ1_charAt_3b067_2 ?_
  refine jq_callS (rest := []) C (ct_J0_checkIndex_df160_3 hl D cA ak) [] [] rfl rfl (by decide) (by decide) (by decide) jw_763fabfbf2 jw_9aa540e9dd jw_4ea6285965 jw_73f64df4e3 jn_J0_checkIndex_df160 rfl (jj_le rfl) (jj_le rfl) (jj_le rfl) (jj_le rfl) (jj_le rfl) dJ1_charAt_3b067_3 rfl (fun _ _ hX => hX.elim) (fun w1 r O_2 => ?_)
  obtain ⟨rfl, rfl⟩ := O_2
  refine jj_apd rfl ?_
  refine jj_aload_n C dJ1_charAt_3b067_6 rfl ?_
  refine jj_iload_n C dJ1_charAt_3b067_7 rfl ?_
  refine jj_sbyt (k := 8) (v := 105) C (by decide) (vp_in_iff.mpr (by decide)) (by decide) dJ1_charAt_3b067_8 ?_
  refine jj_sipush (v := 255) C dJ1_charAt_3b067_9 (by decide) ?_
  refine jj_iand (v := 105) C dJ1_charAt_3b067_12 (by decide) ?_
  refine jj_i2c (v := 105) C dJ1_charAt_3b067_13 (by decide) ?_
  exact jj_zret C rfl ⟨rfl, rfl⟩ dJ1_charAt_3b067_14 (jj_le rfl) (jj_le rfl)

set_option maxHeartbeats 4000000 in
set_option maxRecDepth 100000 in
theorem ct_J0_charAt_5068e_55 {l : Launch} (hl : l.stackTraces = false) (D : va_G) (cA : Nat → ClassId) (ak : (Nat → Nat) × (Nat → Nat)) : jj_M l D cA ak yJ0_charAt_5068e (.code yJ0_charAt_5068e cJ0_charAt_5068e 2 (some .char)) 3 64 0 0 [] [.ref (ak.1 8), .int 2] (fun (w : va_W) (r : Option Value) => (w = [] ∧ r = some (.int 105))) jj_noX := by
  refine jj_start hl (by decide) jw_391c0f56bd (jj_le rfl) ?_
  intro p e s m args below meth c A hargs hA C hex hmn
  refine jj_aload_n C dJ0_charAt_5068e_0 rfl ?_
  refine jq_callVs (rest := []) C (ct_J0_isLatin1_aae02_9 hl D cA ak) [] [] rfl rfl (by decide) (by decide) (by decide) 8 (by decide) rfl jw_5ca960aa2e jw_b7ba7c03ae jw_c4fe6f1e08 jw_4ea6285965 jw_1aa7753999 jn_J0_isLatin1_aae02 rfl (jj_le rfl) (jj_le rfl) (jj_le rfl) (jj_le rfl) (jj_le rfl) dJ0_charAt_5068e_1 rfl (fun _ _ hX => hX.elim) (fun w1 r O_2 => ?_)
  obtain ⟨rfl, rfl⟩ := O_2
  refine jj_apd rfl ?_
  refine jj_if_eqF (tgt := 16) C dJ0_charAt_5068e_4 (by decide) (by decide) ?_
  refine jj_aload_n C dJ0_charAt_5068e_7 rfl ?_
  refine jj_sval (k := 8) C (by decide) jw_90a506b1c3 dJ0_charAt_5068e_8 ?_
  refine jj_iload_n C dJ0_charAt_5068e_11 rfl ?_
  refine jq_callS (rest := []) C (ct_J1_charAt_3b067_55 hl D cA ak) [] [] rfl rfl (by decide) (by decide) (by decide) jw_7e2463d496 jw_530d7ac64c jw_2a3a2ce6ce jw_6996a9eac3 jn_J1_charAt_3b067 rfl (jj_le rfl) (jj_le rfl) (jj_le rfl) (jj_le rfl) (jj_le rfl) dJ0_charAt_5068e_12 rfl (fun _ _ hX => hX.elim) (fun w1 r O_4 => ?_)
  obtain ⟨rfl, rfl⟩ := O_4
  refine jj_apd rfl ?_
  exact jj_zret C rfl ⟨rfl, rfl⟩ dJ0_charAt_5068e_15 (jj_le rfl) (jj_le rfl)

set_option maxHeartbeats 4000000 in
set_option maxRecDepth 100000 in
theorem ct_J1_charAt_3b067_56 {l : Launch} (hl : l.stackTraces = false) (D : va_G) (cA : Nat → ClassId) (ak : (Nat → Nat) × (Nat → Nat)) : jj_M l D cA ak yJ1_charAt_3b067 (.code yJ1_charAt_3b067 cJ1_charAt_3b067 2 (some .char)) 2 43 0 0 [] [.ref (ak.2 8), .int 3] (fun (w : va_W) (r : Option Value) => (w = [] ∧ r = some (.int 110))) jj_noX := by
  refine jj_start hl (by decide) jw_6996a9eac3 (jj_le rfl) ?_
  intro p e s m args below meth c A hargs hA C hex hmn
  refine jj_iload_n C dJ1_charAt_3b067_0 rfl ?_
  refine jj_aload_n C dJ1_charAt_3b067_1 rfl ?_
  refine jj_slen (k := 8) (v := 4) C (by decide) (by decide) dJ1_charAt_3b067_2 ?_
  refine jq_callS (rest := []) C (ct_J0_checkIndex_df160_4 hl D cA ak) [] [] rfl rfl (by decide) (by decide) (by decide) jw_763fabfbf2 jw_9aa540e9dd jw_4ea6285965 jw_73f64df4e3 jn_J0_checkIndex_df160 rfl (jj_le rfl) (jj_le rfl) (jj_le rfl) (jj_le rfl) (jj_le rfl) dJ1_charAt_3b067_3 rfl (fun _ _ hX => hX.elim) (fun w1 r O_2 => ?_)
  obtain ⟨rfl, rfl⟩ := O_2
  refine jj_apd rfl ?_
  refine jj_aload_n C dJ1_charAt_3b067_6 rfl ?_
  refine jj_iload_n C dJ1_charAt_3b067_7 rfl ?_
  refine jj_sbyt (k := 8) (v := 110) C (by decide) (vp_in_iff.mpr (by decide)) (by decide) dJ1_charAt_3b067_8 ?_
  refine jj_sipush (v := 255) C dJ1_charAt_3b067_9 (by decide) ?_
  refine jj_iand (v := 110) C dJ1_charAt_3b067_12 (by decide) ?_
  refine jj_i2c (v := 110) C dJ1_charAt_3b067_13 (by decide) ?_
  exact jj_zret C rfl ⟨rfl, rfl⟩ dJ1_charAt_3b067_14 (jj_le rfl) (jj_le rfl)

set_option maxHeartbeats 4000000 in
set_option maxRecDepth 100000 in
theorem ct_J0_charAt_5068e_56 {l : Launch} (hl : l.stackTraces = false) (D : va_G) (cA : Nat → ClassId) (ak : (Nat → Nat) × (Nat → Nat)) : jj_M l D cA ak yJ0_charAt_5068e (.code yJ0_charAt_5068e cJ0_charAt_5068e 2 (some .char)) 3 64 0 0 [] [.ref (ak.1 8), .int 3] (fun (w : va_W) (r : Option Value) => (w = [] ∧ r = some (.int 110))) jj_noX := by
  refine jj_start hl (by decide) jw_391c0f56bd (jj_le rfl) ?_
  intro p e s m args below meth c A hargs hA C hex hmn
  refine jj_aload_n C dJ0_charAt_5068e_0 rfl ?_
  refine jq_callVs (rest := []) C (ct_J0_isLatin1_aae02_9 hl D cA ak) [] [] rfl rfl (by decide) (by decide) (by decide) 8 (by decide) rfl jw_5ca960aa2e jw_b7ba7c03ae jw_c4fe6f1e08 jw_4ea6285965 jw_1aa7753999 jn_J0_isLatin1_aae02 rfl (jj_le rfl) (jj_le rfl) (jj_le rfl) (jj_le rfl) (jj_le rfl) dJ0_charAt_5068e_1 rfl (fun _ _ hX => hX.elim) (fun w1 r O_2 => ?_)
  obtain ⟨rfl, rfl⟩ := O_2
  refine jj_apd rfl ?_
  refine jj_if_eqF (tgt := 16) C dJ0_charAt_5068e_4 (by decide) (by decide) ?_
  refine jj_aload_n C dJ0_charAt_5068e_7 rfl ?_
  refine jj_sval (k := 8) C (by decide) jw_90a506b1c3 dJ0_charAt_5068e_8 ?_
  refine jj_iload_n C dJ0_charAt_5068e_11 rfl ?_
  refine jq_callS (rest := []) C (ct_J1_charAt_3b067_56 hl D cA ak) [] [] rfl rfl (by decide) (by decide) (by decide) jw_7e2463d496 jw_530d7ac64c jw_2a3a2ce6ce jw_6996a9eac3 jn_J1_charAt_3b067 rfl (jj_le rfl) (jj_le rfl) (jj_le rfl) (jj_le rfl) (jj_le rfl) dJ0_charAt_5068e_12 rfl (fun _ _ hX => hX.elim) (fun w1 r O_4 => ?_)
  obtain ⟨rfl, rfl⟩ := O_4
  refine jj_apd rfl ?_
  exact jj_zret C rfl ⟨rfl, rfl⟩ dJ0_charAt_5068e_15 (jj_le rfl) (jj_le rfl)

set_option maxHeartbeats 4000000 in
set_option maxRecDepth 100000 in
theorem ct_J0_coder_7d493_10 {l : Launch} (hl : l.stackTraces = false) (D : va_G) (cA : Nat → ClassId) (ak : (Nat → Nat) × (Nat → Nat)) : jj_M l D cA ak yJ0_coder_7d493 (.code yJ0_coder_7d493 cJ0_coder_7d493 1 (some .byte)) 0 0 0 0 [] [.ref (ak.1 9)] (fun (w : va_W) (r : Option Value) => (w = [] ∧ r = some (.int 0))) jj_noX := by
  refine jj_start hl (by decide) jw_084b973d83 (jj_le rfl) ?_
  intro p e s m args below meth c A hargs hA C hex hmn
  refine jj_gcs C jw_478bb18c33 dJ0_coder_7d493_0 ?_
  refine jj_if_eqF (tgt := 13) C dJ0_coder_7d493_3 (by decide) (by decide) ?_
  refine jj_aload_n C dJ0_coder_7d493_6 rfl ?_
  refine jj_scod (k := 9) C (by decide) jw_7816d6e515 dJ0_coder_7d493_7 ?_
  refine jj_goto (tgt := 14) C dJ0_coder_7d493_10 (by decide) ?_
  exact jj_zret C rfl ⟨rfl, rfl⟩ dJ0_coder_7d493_14 (jj_le rfl) (jj_le rfl)

set_option maxHeartbeats 4000000 in
set_option maxRecDepth 100000 in
theorem ct_J0_length_8abf5_10 {l : Launch} (hl : l.stackTraces = false) (D : va_G) (cA : Nat → ClassId) (ak : (Nat → Nat) × (Nat → Nat)) : jj_M l D cA ak yJ0_length_8abf5 (.code yJ0_length_8abf5 cJ0_length_8abf5 1 (some .int)) 1 20 0 0 [] [.ref (ak.1 9)] (fun (w : va_W) (r : Option Value) => (w = [] ∧ r = some (.int 4))) jj_noX := by
  refine jj_start hl (by decide) jw_bbc7045666 (jj_le rfl) ?_
  intro p e s m args below meth c A hargs hA C hex hmn
  refine jj_aload_n C dJ0_length_8abf5_0 rfl ?_
  refine jj_sval (k := 9) C (by decide) jw_90a506b1c3 dJ0_length_8abf5_1 ?_
  refine jj_slen (k := 9) (v := 4) C (by decide) (by decide) dJ0_length_8abf5_4 ?_
  refine jj_aload_n C dJ0_length_8abf5_5 rfl ?_
  refine jq_callVs (rest := [.int 4]) C (ct_J0_coder_7d493_10 hl D cA ak) [] [] rfl rfl (by decide) (by decide) (by decide) 9 (by decide) rfl jw_f46b3464d2 jw_35edddbded jw_31f76f5b78 jw_4ea6285965 jw_084b973d83 jn_J0_coder_7d493 rfl (jj_le rfl) (jj_le rfl) (jj_le rfl) (jj_le rfl) (jj_le rfl) dJ0_length_8abf5_6 rfl (fun _ _ hX => hX.elim) (fun w1 r O_2 => ?_)
  obtain ⟨rfl, rfl⟩ := O_2
  refine jj_apd rfl ?_
  refine jj_ishr (v := 4) C dJ0_length_8abf5_9 (by decide) ?_
  exact jj_iret C ⟨rfl, rfl⟩ dJ0_length_8abf5_10 (jj_le rfl) (jj_le rfl)

set_option maxHeartbeats 4000000 in
set_option maxRecDepth 100000 in
theorem ct_J0_isLatin1_aae02_10 {l : Launch} (hl : l.stackTraces = false) (D : va_G) (cA : Nat → ClassId) (ak : (Nat → Nat) × (Nat → Nat)) : jj_M l D cA ak yJ0_isLatin1_aae02 (.code yJ0_isLatin1_aae02 cJ0_isLatin1_aae02 1 (some .boolean)) 0 0 0 0 [] [.ref (ak.1 9)] (fun (w : va_W) (r : Option Value) => (w = [] ∧ r = some (.int 1))) jj_noX := by
  refine jj_start hl (by decide) jw_1aa7753999 (jj_le rfl) ?_
  intro p e s m args below meth c A hargs hA C hex hmn
  refine jj_gcs C jw_478bb18c33 dJ0_isLatin1_aae02_0 ?_
  refine jj_if_eqF (tgt := 17) C dJ0_isLatin1_aae02_3 (by decide) (by decide) ?_
  refine jj_aload_n C dJ0_isLatin1_aae02_6 rfl ?_
  refine jj_scod (k := 9) C (by decide) jw_7816d6e515 dJ0_isLatin1_aae02_7 ?_
  refine jj_if_neF (tgt := 17) C dJ0_isLatin1_aae02_10 (by decide) (by decide) ?_
  refine jj_iconst (v := 1) C dJ0_isLatin1_aae02_13 (by decide) ?_
  refine jj_goto (tgt := 18) C dJ0_isLatin1_aae02_14 (by decide) ?_
  exact jj_zret C rfl ⟨rfl, rfl⟩ dJ0_isLatin1_aae02_18 (jj_le rfl) (jj_le rfl)

set_option maxHeartbeats 4000000 in
set_option maxRecDepth 100000 in
theorem ct_J1_charAt_3b067_57 {l : Launch} (hl : l.stackTraces = false) (D : va_G) (cA : Nat → ClassId) (ak : (Nat → Nat) × (Nat → Nat)) : jj_M l D cA ak yJ1_charAt_3b067 (.code yJ1_charAt_3b067 cJ1_charAt_3b067 2 (some .char)) 2 43 0 0 [] [.ref (ak.2 9), .int 0] (fun (w : va_W) (r : Option Value) => (w = [] ∧ r = some (.int 108))) jj_noX := by
  refine jj_start hl (by decide) jw_6996a9eac3 (jj_le rfl) ?_
  intro p e s m args below meth c A hargs hA C hex hmn
  refine jj_iload_n C dJ1_charAt_3b067_0 rfl ?_
  refine jj_aload_n C dJ1_charAt_3b067_1 rfl ?_
  refine jj_slen (k := 9) (v := 4) C (by decide) (by decide) dJ1_charAt_3b067_2 ?_
  refine jq_callS (rest := []) C (ct_J0_checkIndex_df160_1 hl D cA ak) [] [] rfl rfl (by decide) (by decide) (by decide) jw_763fabfbf2 jw_9aa540e9dd jw_4ea6285965 jw_73f64df4e3 jn_J0_checkIndex_df160 rfl (jj_le rfl) (jj_le rfl) (jj_le rfl) (jj_le rfl) (jj_le rfl) dJ1_charAt_3b067_3 rfl (fun _ _ hX => hX.elim) (fun w1 r O_2 => ?_)
  obtain ⟨rfl, rfl⟩ := O_2
  refine jj_apd rfl ?_
  refine jj_aload_n C dJ1_charAt_3b067_6 rfl ?_
  refine jj_iload_n C dJ1_charAt_3b067_7 rfl ?_
  refine jj_sbyt (k := 9) (v := 108) C (by decide) (vp_in_iff.mpr (by decide)) (by decide) dJ1_charAt_3b067_8 ?_
  refine jj_sipush (v := 255) C dJ1_charAt_3b067_9 (by decide) ?_
  refine jj_iand (v := 108) C dJ1_charAt_3b067_12 (by decide) ?_
  refine jj_i2c (v := 108) C dJ1_charAt_3b067_13 (by decide) ?_
  exact jj_zret C rfl ⟨rfl, rfl⟩ dJ1_charAt_3b067_14 (jj_le rfl) (jj_le rfl)

set_option maxHeartbeats 4000000 in
set_option maxRecDepth 100000 in
theorem ct_J0_charAt_5068e_57 {l : Launch} (hl : l.stackTraces = false) (D : va_G) (cA : Nat → ClassId) (ak : (Nat → Nat) × (Nat → Nat)) : jj_M l D cA ak yJ0_charAt_5068e (.code yJ0_charAt_5068e cJ0_charAt_5068e 2 (some .char)) 3 64 0 0 [] [.ref (ak.1 9), .int 0] (fun (w : va_W) (r : Option Value) => (w = [] ∧ r = some (.int 108))) jj_noX := by
  refine jj_start hl (by decide) jw_391c0f56bd (jj_le rfl) ?_
  intro p e s m args below meth c A hargs hA C hex hmn
  refine jj_aload_n C dJ0_charAt_5068e_0 rfl ?_
  refine jq_callVs (rest := []) C (ct_J0_isLatin1_aae02_10 hl D cA ak) [] [] rfl rfl (by decide) (by decide) (by decide) 9 (by decide) rfl jw_5ca960aa2e jw_b7ba7c03ae jw_c4fe6f1e08 jw_4ea6285965 jw_1aa7753999 jn_J0_isLatin1_aae02 rfl (jj_le rfl) (jj_le rfl) (jj_le rfl) (jj_le rfl) (jj_le rfl) dJ0_charAt_5068e_1 rfl (fun _ _ hX => hX.elim) (fun w1 r O_2 => ?_)
  obtain ⟨rfl, rfl⟩ := O_2
  refine jj_apd rfl ?_
  refine jj_if_eqF (tgt := 16) C dJ0_charAt_5068e_4 (by decide) (by decide) ?_
  refine jj_aload_n C dJ0_charAt_5068e_7 rfl ?_
  refine jj_sval (k := 9) C (by decide) jw_90a506b1c3 dJ0_charAt_5068e_8 ?_
  refine jj_iload_n C dJ0_charAt_5068e_11 rfl ?_
  refine jq_callS (rest := []) C (ct_J1_charAt_3b067_57 hl D cA ak) [] [] rfl rfl (by decide) (by decide) (by decide) jw_7e2463d496 jw_530d7ac64c jw_2a3a2ce6ce jw_6996a9eac3 jn_J1_charAt_3b067 rfl (jj_le rfl) (jj_le rfl) (jj_le rfl) (jj_le rfl) (jj_le rfl) dJ0_charAt_5068e_12 rfl (fun _ _ hX => hX.elim) (fun w1 r O_4 => ?_)
  obtain ⟨rfl, rfl⟩ := O_4
  refine jj_apd rfl ?_
  exact jj_zret C rfl ⟨rfl, rfl⟩ dJ0_charAt_5068e_15 (jj_le rfl) (jj_le rfl)

set_option maxHeartbeats 4000000 in
set_option maxRecDepth 100000 in
theorem ct_J1_charAt_3b067_58 {l : Launch} (hl : l.stackTraces = false) (D : va_G) (cA : Nat → ClassId) (ak : (Nat → Nat) × (Nat → Nat)) : jj_M l D cA ak yJ1_charAt_3b067 (.code yJ1_charAt_3b067 cJ1_charAt_3b067 2 (some .char)) 2 43 0 0 [] [.ref (ak.2 9), .int 1] (fun (w : va_W) (r : Option Value) => (w = [] ∧ r = some (.int 111))) jj_noX := by
  refine jj_start hl (by decide) jw_6996a9eac3 (jj_le rfl) ?_
  intro p e s m args below meth c A hargs hA C hex hmn
  refine jj_iload_n C dJ1_charAt_3b067_0 rfl ?_
  refine jj_aload_n C dJ1_charAt_3b067_1 rfl ?_
  refine jj_slen (k := 9) (v := 4) C (by decide) (by decide) dJ1_charAt_3b067_2 ?_
  refine jq_callS (rest := []) C (ct_J0_checkIndex_df160_2 hl D cA ak) [] [] rfl rfl (by decide) (by decide) (by decide) jw_763fabfbf2 jw_9aa540e9dd jw_4ea6285965 jw_73f64df4e3 jn_J0_checkIndex_df160 rfl (jj_le rfl) (jj_le rfl) (jj_le rfl) (jj_le rfl) (jj_le rfl) dJ1_charAt_3b067_3 rfl (fun _ _ hX => hX.elim) (fun w1 r O_2 => ?_)
  obtain ⟨rfl, rfl⟩ := O_2
  refine jj_apd rfl ?_
  refine jj_aload_n C dJ1_charAt_3b067_6 rfl ?_
  refine jj_iload_n C dJ1_charAt_3b067_7 rfl ?_
  refine jj_sbyt (k := 9) (v := 111) C (by decide) (vp_in_iff.mpr (by decide)) (by decide) dJ1_charAt_3b067_8 ?_
  refine jj_sipush (v := 255) C dJ1_charAt_3b067_9 (by decide) ?_
  refine jj_iand (v := 111) C dJ1_charAt_3b067_12 (by decide) ?_
  refine jj_i2c (v := 111) C dJ1_charAt_3b067_13 (by decide) ?_
  exact jj_zret C rfl ⟨rfl, rfl⟩ dJ1_charAt_3b067_14 (jj_le rfl) (jj_le rfl)

set_option maxHeartbeats 4000000 in
set_option maxRecDepth 100000 in
theorem ct_J0_charAt_5068e_58 {l : Launch} (hl : l.stackTraces = false) (D : va_G) (cA : Nat → ClassId) (ak : (Nat → Nat) × (Nat → Nat)) : jj_M l D cA ak yJ0_charAt_5068e (.code yJ0_charAt_5068e cJ0_charAt_5068e 2 (some .char)) 3 64 0 0 [] [.ref (ak.1 9), .int 1] (fun (w : va_W) (r : Option Value) => (w = [] ∧ r = some (.int 111))) jj_noX := by
  refine jj_start hl (by decide) jw_391c0f56bd (jj_le rfl) ?_
  intro p e s m args below meth c A hargs hA C hex hmn
  refine jj_aload_n C dJ0_charAt_5068e_0 rfl ?_
  refine jq_callVs (rest := []) C (ct_J0_isLatin1_aae02_10 hl D cA ak) [] [] rfl rfl (by decide) (by decide) (by decide) 9 (by decide) rfl jw_5ca960aa2e jw_b7ba7c03ae jw_c4fe6f1e08 jw_4ea6285965 jw_1aa7753999 jn_J0_isLatin1_aae02 rfl (jj_le rfl) (jj_le rfl) (jj_le rfl) (jj_le rfl) (jj_le rfl) dJ0_charAt_5068e_1 rfl (fun _ _ hX => hX.elim) (fun w1 r O_2 => ?_)
  obtain ⟨rfl, rfl⟩ := O_2
  refine jj_apd rfl ?_
  refine jj_if_eqF (tgt := 16) C dJ0_charAt_5068e_4 (by decide) (by decide) ?_
  refine jj_aload_n C dJ0_charAt_5068e_7 rfl ?_
  refine jj_sval (k := 9) C (by decide) jw_90a506b1c3 dJ0_charAt_5068e_8 ?_
  refine jj_iload_n C dJ0_charAt_5068e_11 rfl ?_
  refine jq_callS (rest := []) C (ct_J1_charAt_3b067_58 hl D cA ak) [] [] rfl rfl (by decide) (by decide) (by decide) jw_7e2463d496 jw_530d7ac64c jw_2a3a2ce6ce jw_6996a9eac3 jn_J1_charAt_3b067 rfl (jj_le rfl) (jj_le rfl) (jj_le rfl) (jj_le rfl) (jj_le rfl) dJ0_charAt_5068e_12 rfl (fun _ _ hX => hX.elim) (fun w1 r O_4 => ?_)
  obtain ⟨rfl, rfl⟩ := O_4
  refine jj_apd rfl ?_
  exact jj_zret C rfl ⟨rfl, rfl⟩ dJ0_charAt_5068e_15 (jj_le rfl) (jj_le rfl)

set_option maxHeartbeats 4000000 in
set_option maxRecDepth 100000 in
theorem ct_J1_charAt_3b067_59 {l : Launch} (hl : l.stackTraces = false) (D : va_G) (cA : Nat → ClassId) (ak : (Nat → Nat) × (Nat → Nat)) : jj_M l D cA ak yJ1_charAt_3b067 (.code yJ1_charAt_3b067 cJ1_charAt_3b067 2 (some .char)) 2 43 0 0 [] [.ref (ak.2 9), .int 2] (fun (w : va_W) (r : Option Value) => (w = [] ∧ r = some (.int 115))) jj_noX := by
  refine jj_start hl (by decide) jw_6996a9eac3 (jj_le rfl) ?_
  intro p e s m args below meth c A hargs hA C hex hmn
  refine jj_iload_n C dJ1_charAt_3b067_0 rfl ?_
  refine jj_aload_n C dJ1_charAt_3b067_1 rfl ?_
  refine jj_slen (k := 9) (v := 4) C (by decide) (by decide) dJ1_charAt_3b067_2 ?_
  refine jq_callS (rest := []) C (ct_J0_checkIndex_df160_3 hl D cA ak) [] [] rfl rfl (by decide) (by decide) (by decide) jw_763fabfbf2 jw_9aa540e9dd jw_4ea6285965 jw_73f64df4e3 jn_J0_checkIndex_df160 rfl (jj_le rfl) (jj_le rfl) (jj_le rfl) (jj_le rfl) (jj_le rfl) dJ1_charAt_3b067_3 rfl (fun _ _ hX => hX.elim) (fun w1 r O_2 => ?_)
  obtain ⟨rfl, rfl⟩ := O_2
  refine jj_apd rfl ?_
  refine jj_aload_n C dJ1_charAt_3b067_6 rfl ?_
  refine jj_iload_n C dJ1_charAt_3b067_7 rfl ?_
  refine jj_sbyt (k := 9) (v := 115) C (by decide) (vp_in_iff.mpr (by decide)) (by decide) dJ1_charAt_3b067_8 ?_
  refine jj_sipush (v := 255) C dJ1_charAt_3b067_9 (by decide) ?_
  refine jj_iand (v := 115) C dJ1_charAt_3b067_12 (by decide) ?_
  refine jj_i2c (v := 115) C dJ1_charAt_3b067_13 (by decide) ?_
  exact jj_zret C rfl ⟨rfl, rfl⟩ dJ1_charAt_3b067_14 (jj_le rfl) (jj_le rfl)

set_option maxHeartbeats 4000000 in
set_option maxRecDepth 100000 in
theorem ct_J0_charAt_5068e_59 {l : Launch} (hl : l.stackTraces = false) (D : va_G) (cA : Nat → ClassId) (ak : (Nat → Nat) × (Nat → Nat)) : jj_M l D cA ak yJ0_charAt_5068e (.code yJ0_charAt_5068e cJ0_charAt_5068e 2 (some .char)) 3 64 0 0 [] [.ref (ak.1 9), .int 2] (fun (w : va_W) (r : Option Value) => (w = [] ∧ r = some (.int 115))) jj_noX := by
  refine jj_start hl (by decide) jw_391c0f56bd (jj_le rfl) ?_
  intro p e s m args below meth c A hargs hA C hex hmn
  refine jj_aload_n C dJ0_charAt_5068e_0 rfl ?_
  refine jq_callVs (rest := []) C (ct_J0_isLatin1_aae02_10 hl D cA ak) [] [] rfl rfl (by decide) (by decide) (by decide) 9 (by decide) rfl jw_5ca960aa2e jw_b7ba7c03ae jw_c4fe6f1e08 jw_4ea6285965 jw_1aa7753999 jn_J0_isLatin1_aae02 rfl (jj_le rfl) (jj_le rfl) (jj_le rfl) (jj_le rfl) (jj_le rfl) dJ0_charAt_5068e_1 rfl (fun _ _ hX => hX.elim) (fun w1 r O_2 => ?_)
  obtain ⟨rfl, rfl⟩ := O_2
  refine jj_apd rfl ?_
  refine jj_if_eqF (tgt := 16) C dJ0_charAt_5068e_4 (by decide) (by decide) ?_
  refine jj_aload_n C dJ0_charAt_5068e_7 rfl ?_
  refine jj_sval (k := 9) C (by decide) jw_90a506b1c3 dJ0_charAt_5068e_8 ?_
  refine jj_iload_n C dJ0_charAt_5068e_11 rfl ?_
  refine jq_callS (rest := []) C (ct_J1_charAt_3b067_59 hl D cA ak) [] [] rfl rfl (by decide) (by decide) (by decide) jw_7e2463d496 jw_530d7ac64c jw_2a3a2ce6ce jw_6996a9eac3 jn_J1_charAt_3b067 rfl (jj_le rfl) (jj_le rfl) (jj_le rfl) (jj_le rfl) (jj_le rfl) dJ0_charAt_5068e_12 rfl (fun _ _ hX => hX.elim) (fun w1 r O_4 => ?_)
  obtain ⟨rfl, rfl⟩ := O_4
  refine jj_apd rfl ?_
  exact jj_zret C rfl ⟨rfl, rfl⟩ dJ0_charAt_5068e_15 (jj_le rfl) (jj_le rfl)

set_option maxHeartbeats 4000000 in
set_option maxRecDepth 100000 in
theorem ct_J1_charAt_3b067_60 {l : Launch} (hl : l.stackTraces = false) (D : va_G) (cA : Nat → ClassId) (ak : (Nat → Nat) × (Nat → Nat)) : jj_M l D cA ak yJ1_charAt_3b067 (.code yJ1_charAt_3b067 cJ1_charAt_3b067 2 (some .char)) 2 43 0 0 [] [.ref (ak.2 9), .int 3] (fun (w : va_W) (r : Option Value) => (w = [] ∧ r = some (.int 101))) jj_noX := by
  refine jj_start hl (by decide) jw_6996a9eac3 (jj_le rfl) ?_
  intro p e s m args below meth c A hargs hA C hex hmn
  refine jj_iload_n C dJ1_charAt_3b067_0 rfl ?_
  refine jj_aload_n C dJ1_charAt_3b067_1 rfl ?_
  refine jj_slen (k := 9) (v := 4) C (by decide) (by decide) dJ1_charAt_3b067_2 ?_
  refine jq_callS (rest := []) C (ct_J0_checkIndex_df160_4 hl D cA ak) [] [] rfl rfl (by decide) (by decide) (by decide) jw_763fabfbf2 jw_9aa540e9dd jw_4ea6285965 jw_73f64df4e3 jn_J0_checkIndex_df160 rfl (jj_le rfl) (jj_le rfl) (jj_le rfl) (jj_le rfl) (jj_le rfl) dJ1_charAt_3b067_3 rfl (fun _ _ hX => hX.elim) (fun w1 r O_2 => ?_)
  obtain ⟨rfl, rfl⟩ := O_2
  refine jj_apd rfl ?_
  refine jj_aload_n C dJ1_charAt_3b067_6 rfl ?_
  refine jj_iload_n C dJ1_charAt_3b067_7 rfl ?_
  refine jj_sbyt (k := 9) (v := 101) C (by decide) (vp_in_iff.mpr (by decide)) (by decide) dJ1_charAt_3b067_8 ?_
  refine jj_sipush (v := 255) C dJ1_charAt_3b067_9 (by decide) ?_
  refine jj_iand (v := 101) C dJ1_charAt_3b067_12 (by decide) ?_
  refine jj_i2c (v := 101) C dJ1_charAt_3b067_13 (by decide) ?_
  exact jj_zret C rfl ⟨rfl, rfl⟩ dJ1_charAt_3b067_14 (jj_le rfl) (jj_le rfl)

set_option maxHeartbeats 4000000 in
set_option maxRecDepth 100000 in
theorem ct_J0_charAt_5068e_60 {l : Launch} (hl : l.stackTraces = false) (D : va_G) (cA : Nat → ClassId) (ak : (Nat → Nat) × (Nat → Nat)) : jj_M l D cA ak yJ0_charAt_5068e (.code yJ0_charAt_5068e cJ0_charAt_5068e 2 (some .char)) 3 64 0 0 [] [.ref (ak.1 9), .int 3] (fun (w : va_W) (r : Option Value) => (w = [] ∧ r = some (.int 101))) jj_noX := by
  refine jj_start hl (by decide) jw_391c0f56bd (jj_le rfl) ?_
  intro p e s m args below meth c A hargs hA C hex hmn
  refine jj_aload_n C dJ0_charAt_5068e_0 rfl ?_
  refine jq_callVs (rest := []) C (ct_J0_isLatin1_aae02_10 hl D cA ak) [] [] rfl rfl (by decide) (by decide) (by decide) 9 (by decide) rfl jw_5ca960aa2e jw_b7ba7c03ae jw_c4fe6f1e08 jw_4ea6285965 jw_1aa7753999 jn_J0_isLatin1_aae02 rfl (jj_le rfl) (jj_le rfl) (jj_le rfl) (jj_le rfl) (jj_le rfl) dJ0_charAt_5068e_1 rfl (fun _ _ hX => hX.elim) (fun w1 r O_2 => ?_)
  obtain ⟨rfl, rfl⟩ := O_2
  refine jj_apd rfl ?_
  refine jj_if_eqF (tgt := 16) C dJ0_charAt_5068e_4 (by decide) (by decide) ?_
  refine jj_aload_n C dJ0_charAt_5068e_7 rfl ?_
  refine jj_sval (k := 9) C (by decide) jw_90a506b1c3 dJ0_charAt_5068e_8 ?_
  refine jj_iload_n C dJ0_charAt_5068e_11 rfl ?_
  refine jq_callS (rest := []) C (ct_J1_charAt_3b067_60 hl D cA ak) [] [] rfl rfl (by decide) (by decide) (by decide) jw_7e2463d496 jw_530d7ac64c jw_2a3a2ce6ce jw_6996a9eac3 jn_J1_charAt_3b067 rfl (jj_le rfl) (jj_le rfl) (jj_le rfl) (jj_le rfl) (jj_le rfl) dJ0_charAt_5068e_12 rfl (fun _ _ hX => hX.elim) (fun w1 r O_4 => ?_)
  obtain ⟨rfl, rfl⟩ := O_4
  refine jj_apd rfl ?_
  exact jj_zret C rfl ⟨rfl, rfl⟩ dJ0_charAt_5068e_15 (jj_le rfl) (jj_le rfl)

set_option maxHeartbeats 4000000 in
set_option maxRecDepth 100000 in
theorem ct_J0_coder_7d493_11 {l : Launch} (hl : l.stackTraces = false) (D : va_G) (cA : Nat → ClassId) (ak : (Nat → Nat) × (Nat → Nat)) : jj_M l D cA ak yJ0_coder_7d493 (.code yJ0_coder_7d493 cJ0_coder_7d493 1 (some .byte)) 0 0 0 0 [] [.ref (ak.1 10)] (fun (w : va_W) (r : Option Value) => (w = [] ∧ r = some (.int 0))) jj_noX := by
  refine jj_start hl (by decide) jw_084b973d83 (jj_le rfl) ?_
  intro p e s m args below meth c A hargs hA C hex hmn
  refine jj_gcs C jw_478bb18c33 dJ0_coder_7d493_0 ?_
  refine jj_if_eqF (tgt := 13) C dJ0_coder_7d493_3 (by decide) (by decide) ?_
  refine jj_aload_n C dJ0_coder_7d493_6 rfl ?_
  refine jj_scod (k := 10) C (by decide) jw_7816d6e515 dJ0_coder_7d493_7 ?_
  refine jj_goto (tgt := 14) C dJ0_coder_7d493_10 (by decide) ?_
  exact jj_zret C rfl ⟨rfl, rfl⟩ dJ0_coder_7d493_14 (jj_le rfl) (jj_le rfl)

set_option maxHeartbeats 4000000 in
set_option maxRecDepth 100000 in
theorem ct_J0_length_8abf5_11 {l : Launch} (hl : l.stackTraces = false) (D : va_G) (cA : Nat → ClassId) (ak : (Nat → Nat) × (Nat → Nat)) : jj_M l D cA ak yJ0_length_8abf5 (.code yJ0_length_8abf5 cJ0_length_8abf5 1 (some .int)) 1 20 0 0 [] [.ref (ak.1 10)] (fun (w : va_W) (r : Option Value) => (w = [] ∧ r = some (.int 4))) jj_noX := by
  refine jj_start hl (by decide) jw_bbc7045666 (jj_le rfl) ?_
  intro p e s m args below meth c A hargs hA C hex hmn
  refine jj_aload_n C dJ0_length_8abf5_0 rfl ?_
  refine jj_sval (k := 10) C (by decide) jw_90a506b1c3 dJ0_length_8abf5_1 ?_
  refine jj_slen (k := 10) (v := 4) C (by decide) (by decide) dJ0_length_8abf5_4 ?_
  refine jj_aload_n C dJ0_length_8abf5_5 rfl ?_
  refine jq_callVs (rest := [.int 4]) C (ct_J0_coder_7d493_11 hl D cA ak) [] [] rfl rfl (by decide) (by decide) (by decide) 10 (by decide) rfl jw_f46b3464d2 jw_35edddbded jw_31f76f5b78 jw_4ea6285965 jw_084b973d83 jn_J0_coder_7d493 rfl (jj_le rfl) (jj_le rfl) (jj_le rfl) (jj_le rfl) (jj_le rfl) dJ0_length_8abf5_6 rfl (fun _ _ hX => hX.elim) (fun w1 r O_2 => ?_)
  obtain ⟨rfl, rfl⟩ := O_2
  refine jj_apd rfl ?_
  refine jj_ishr (v := 4) C dJ0_length_8abf5_9 (by decide) ?_
  exact jj_iret C ⟨rfl, rfl⟩ dJ0_length_8abf5_10 (jj_le rfl) (jj_le rfl)

set_option maxHeartbeats 4000000 in
set_option maxRecDepth 100000 in
theorem ct_J0_isLatin1_aae02_11 {l : Launch} (hl : l.stackTraces = false) (D : va_G) (cA : Nat → ClassId) (ak : (Nat → Nat) × (Nat → Nat)) : jj_M l D cA ak yJ0_isLatin1_aae02 (.code yJ0_isLatin1_aae02 cJ0_isLatin1_aae02 1 (some .boolean)) 0 0 0 0 [] [.ref (ak.1 10)] (fun (w : va_W) (r : Option Value) => (w = [] ∧ r = some (.int 1))) jj_noX := by
  refine jj_start hl (by decide) jw_1aa7753999 (jj_le rfl) ?_
  intro p e s m args below meth c A hargs hA C hex hmn
  refine jj_gcs C jw_478bb18c33 dJ0_isLatin1_aae02_0 ?_
  refine jj_if_eqF (tgt := 17) C dJ0_isLatin1_aae02_3 (by decide) (by decide) ?_
  refine jj_aload_n C dJ0_isLatin1_aae02_6 rfl ?_
  refine jj_scod (k := 10) C (by decide) jw_7816d6e515 dJ0_isLatin1_aae02_7 ?_
  refine jj_if_neF (tgt := 17) C dJ0_isLatin1_aae02_10 (by decide) (by decide) ?_
  refine jj_iconst (v := 1) C dJ0_isLatin1_aae02_13 (by decide) ?_
  refine jj_goto (tgt := 18) C dJ0_isLatin1_aae02_14 (by decide) ?_
  exact jj_zret C rfl ⟨rfl, rfl⟩ dJ0_isLatin1_aae02_18 (jj_le rfl) (jj_le rfl)

set_option maxHeartbeats 4000000 in
set_option maxRecDepth 100000 in
theorem ct_J1_charAt_3b067_61 {l : Launch} (hl : l.stackTraces = false) (D : va_G) (cA : Nat → ClassId) (ak : (Nat → Nat) × (Nat → Nat)) : jj_M l D cA ak yJ1_charAt_3b067 (.code yJ1_charAt_3b067 cJ1_charAt_3b067 2 (some .char)) 2 43 0 0 [] [.ref (ak.2 10), .int 0] (fun (w : va_W) (r : Option Value) => (w = [] ∧ r = some (.int 112))) jj_noX := by
  refine jj_start hl (by decide) jw_6996a9eac3 (jj_le rfl) ?_
  intro p e s m args below meth c A hargs hA C hex hmn
  refine jj_iload_n C dJ1_charAt_3b067_0 rfl ?_
  refine jj_aload_n C dJ1_charAt_3b067_1 rfl ?_
  refine jj_slen (k := 10) (v := 4) C (by decide) (by decide) dJ1_charAt_3b067_2 ?_
  refine jq_callS (rest := []) C (ct_J0_checkIndex_df160_1 hl D cA ak) [] [] rfl rfl (by decide) (by decide) (by decide) jw_763fabfbf2 jw_9aa540e9dd jw_4ea6285965 jw_73f64df4e3 jn_J0_checkIndex_df160 rfl (jj_le rfl) (jj_le rfl) (jj_le rfl) (jj_le rfl) (jj_le rfl) dJ1_charAt_3b067_3 rfl (fun _ _ hX => hX.elim) (fun w1 r O_2 => ?_)
  obtain ⟨rfl, rfl⟩ := O_2
  refine jj_apd rfl ?_
  refine jj_aload_n C dJ1_charAt_3b067_6 rfl ?_
  refine jj_iload_n C dJ1_charAt_3b067_7 rfl ?_
  refine jj_sbyt (k := 10) (v := 112) C (by decide) (vp_in_iff.mpr (by decide)) (by decide) dJ1_charAt_3b067_8 ?_
  refine jj_sipush (v := 255) C dJ1_charAt_3b067_9 (by decide) ?_
  refine jj_iand (v := 112) C dJ1_charAt_3b067_12 (by decide) ?_
  refine jj_i2c (v := 112) C dJ1_charAt_3b067_13 (by decide) ?_
  exact jj_zret C rfl ⟨rfl, rfl⟩ dJ1_charAt_3b067_14 (jj_le rfl) (jj_le rfl)

set_option maxHeartbeats 4000000 in
set_option maxRecDepth 100000 in
theorem ct_J0_charAt_5068e_61 {l : Launch} (hl : l.stackTraces = false) (D : va_G) (cA : Nat → ClassId) (ak : (Nat → Nat) × (Nat → Nat)) : jj_M l D cA ak yJ0_charAt_5068e (.code yJ0_charAt_5068e cJ0_charAt_5068e 2 (some .char)) 3 64 0 0 [] [.ref (ak.1 10), .int 0] (fun (w : va_W) (r : Option Value) => (w = [] ∧ r = some (.int 112))) jj_noX := by
  refine jj_start hl (by decide) jw_391c0f56bd (jj_le rfl) ?_
  intro p e s m args below meth c A hargs hA C hex hmn
  refine jj_aload_n C dJ0_charAt_5068e_0 rfl ?_
  refine jq_callVs (rest := []) C (ct_J0_isLatin1_aae02_11 hl D cA ak) [] [] rfl rfl (by decide) (by decide) (by decide) 10 (by decide) rfl jw_5ca960aa2e jw_b7ba7c03ae jw_c4fe6f1e08 jw_4ea6285965 jw_1aa7753999 jn_J0_isLatin1_aae02 rfl (jj_le rfl) (jj_le rfl) (jj_le rfl) (jj_le rfl) (jj_le rfl) dJ0_charAt_5068e_1 rfl (fun _ _ hX => hX.elim) (fun w1 r O_2 => ?_)
  obtain ⟨rfl, rfl⟩ := O_2
  refine jj_apd rfl ?_
  refine jj_if_eqF (tgt := 16) C dJ0_charAt_5068e_4 (by decide) (by decide) ?_
  refine jj_aload_n C dJ0_charAt_5068e_7 rfl ?_
  refine jj_sval (k := 10) C (by decide) jw_90a506b1c3 dJ0_charAt_5068e_8 ?_
  refine jj_iload_n C dJ0_charAt_5068e_11 rfl ?_
  refine jq_callS (rest := []) C (ct_J1_charAt_3b067_61 hl D cA ak) [] [] rfl rfl (by decide) (by decide) (by decide) jw_7e2463d496 jw_530d7ac64c jw_2a3a2ce6ce jw_6996a9eac3 jn_J1_charAt_3b067 rfl (jj_le rfl) (jj_le rfl) (jj_le rfl) (jj_le rfl) (jj_le rfl) dJ0_charAt_5068e_12 rfl (fun _ _ hX => hX.elim) (fun w1 r O_4 => ?_)
  obtain ⟨rfl, rfl⟩ := O_4
  refine jj_apd rfl ?_
  exact jj_zret C rfl ⟨rfl, rfl⟩ dJ0_charAt_5068e_15 (jj_le rfl) (jj_le rfl)

set_option maxHeartbeats 4000000 in
set_option maxRecDepth 100000 in
theorem ct_J1_charAt_3b067_62 {l : Launch} (hl : l.stackTraces = false) (D : va_G) (cA : Nat → ClassId) (ak : (Nat → Nat) × (Nat → Nat)) : jj_M l D cA ak yJ1_charAt_3b067 (.code yJ1_charAt_3b067 cJ1_charAt_3b067 2 (some .char)) 2 43 0 0 [] [.ref (ak.2 10), .int 1] (fun (w : va_W) (r : Option Value) => (w = [] ∧ r = some (.int 97))) jj_noX := by
  refine jj_start hl (by decide) jw_6996a9eac3 (jj_le rfl) ?_
  intro p e s m args below meth c A hargs hA C hex hmn
  refine jj_iload_n C dJ1_charAt_3b067_0 rfl ?_
  refine jj_aload_n C dJ1_charAt_3b067_1 rfl ?_
  refine jj_slen (k := 10) (v := 4) C (by decide) (by decide) dJ1_charAt_3b067_2 ?_
  refine jq_callS (rest := []) C (ct_J0_checkIndex_df160_2 hl D cA ak) [] [] rfl rfl (by decide) (by decide) (by decide) jw_763fabfbf2 jw_9aa540e9dd jw_4ea6285965 jw_73f64df4e3 jn_J0_checkIndex_df160 rfl (jj_le rfl) (jj_le rfl) (jj_le rfl) (jj_le rfl) (jj_le rfl) dJ1_charAt_3b067_3 rfl (fun _ _ hX => hX.elim) (fun w1 r O_2 => ?_)
  obtain ⟨rfl, rfl⟩ := O_2
  refine jj_apd rfl ?_
  refine jj_aload_n C dJ1_charAt_3b067_6 rfl ?_
  refine jj_iload_n C dJ1_charAt_3b067_7 rfl ?_
  refine jj_sbyt (k := 10) (v := 97) C (by decide) (vp_in_iff.mpr (by decide)) (by decide) dJ1_charAt_3b067_8 ?_
  refine jj_sipush (v := 255) C dJ1_charAt_3b067_9 (by decide) ?_
  refine jj_iand (v := 97) C dJ1_charAt_3b067_12 (by decide) ?_
  refine jj_i2c (v := 97) C dJ1_charAt_3b067_13 (by decide) ?_
  exact jj_zret C rfl ⟨rfl, rfl⟩ dJ1_charAt_3b067_14 (jj_le rfl) (jj_le rfl)

set_option maxHeartbeats 4000000 in
set_option maxRecDepth 100000 in
theorem ct_J0_charAt_5068e_62 {l : Launch} (hl : l.stackTraces = false) (D : va_G) (cA : Nat → ClassId) (ak : (Nat → Nat) × (Nat → Nat)) : jj_M l D cA ak yJ0_charAt_5068e (.code yJ0_charAt_5068e cJ0_charAt_5068e 2 (some .char)) 3 64 0 0 [] [.ref (ak.1 10), .int 1] (fun (w : va_W) (r : Option Value) => (w = [] ∧ r = some (.int 97))) jj_noX := by
  refine jj_start hl (by decide) jw_391c0f56bd (jj_le rfl) ?_
  intro p e s m args below meth c A hargs hA C hex hmn
  refine jj_aload_n C dJ0_charAt_5068e_0 rfl ?_
  refine jq_callVs (rest := []) C (ct_J0_isLatin1_aae02_11 hl D cA ak) [] [] rfl rfl (by decide) (by decide) (by decide) 10 (by decide) rfl jw_5ca960aa2e jw_b7ba7c03ae jw_c4fe6f1e08 jw_4ea6285965 jw_1aa7753999 jn_J0_isLatin1_aae02 rfl (jj_le rfl) (jj_le rfl) (jj_le rfl) (jj_le rfl) (jj_le rfl) dJ0_charAt_5068e_1 rfl (fun _ _ hX => hX.elim) (fun w1 r O_2 => ?_)
  obtain ⟨rfl, rfl⟩ := O_2
  refine jj_apd rfl ?_
  refine jj_if_eqF (tgt := 16) C dJ0_charAt_5068e_4 (by decide) (by decide) ?_
  refine jj_aload_n C dJ0_charAt_5068e_7 rfl ?_
  refine jj_sval (k := 10) C (by decide) jw_90a506b1c3 dJ0_charAt_5068e_8 ?_
  refine jj_iload_n C dJ0_charAt_5068e_11 rfl ?_
  refine jq_callS (rest := []) C (ct_J1_charAt_3b067_62 hl D cA ak) [] [] rfl rfl (by decide) (by decide) (by decide) jw_7e2463d496 jw_530d7ac64c jw_2a3a2ce6ce jw_6996a9eac3 jn_J1_charAt_3b067 rfl (jj_le rfl) (jj_le rfl) (jj_le rfl) (jj_le rfl) (jj_le rfl) dJ0_charAt_5068e_12 rfl (fun _ _ hX => hX.elim) (fun w1 r O_4 => ?_)
  obtain ⟨rfl, rfl⟩ := O_4
  refine jj_apd rfl ?_
  exact jj_zret C rfl ⟨rfl, rfl⟩ dJ0_charAt_5068e_15 (jj_le rfl) (jj_le rfl)

set_option maxHeartbeats 4000000 in
set_option maxRecDepth 100000 in
theorem ct_J1_charAt_3b067_63 {l : Launch} (hl : l.stackTraces = false) (D : va_G) (cA : Nat → ClassId) (ak : (Nat → Nat) × (Nat → Nat)) : jj_M l D cA ak yJ1_charAt_3b067 (.code yJ1_charAt_3b067 cJ1_charAt_3b067 2 (some .char)) 2 43 0 0 [] [.ref (ak.2 10), .int 2] (fun (w : va_W) (r : Option Value) => (w = [] ∧ r = some (.int 115))) jj_noX := by
  refine jj_start hl (by decide) jw_6996a9eac3 (jj_le rfl) ?_
  intro p e s m args below meth c A hargs hA C hex hmn
  refine jj_iload_n C dJ1_charAt_3b067_0 rfl ?_
  refine jj_aload_n C dJ1_charAt_3b067_1 rfl ?_
  refine jj_slen (k := 10) (v := 4) C (by decide) (by decide) dJ1_charAt_3b067_2 ?_
  refine jq_callS (rest := []) C (ct_J0_checkIndex_df160_3 hl D cA ak) [] [] rfl rfl (by decide) (by decide) (by decide) jw_763fabfbf2 jw_9aa540e9dd jw_4ea6285965 jw_73f64df4e3 jn_J0_checkIndex_df160 rfl (jj_le rfl) (jj_le rfl) (jj_le rfl) (jj_le rfl) (jj_le rfl) dJ1_charAt_3b067_3 rfl (fun _ _ hX => hX.elim) (fun w1 r O_2 => ?_)
  obtain ⟨rfl, rfl⟩ := O_2
  refine jj_apd rfl ?_
  refine jj_aload_n C dJ1_charAt_3b067_6 rfl ?_
  refine jj_iload_n C dJ1_charAt_3b067_7 rfl ?_
  refine jj_sbyt (k := 10) (v := 115) C (by decide) (vp_in_iff.mpr (by decide)) (by decide) dJ1_charAt_3b067_8 ?_
  refine jj_sipush (v := 255) C dJ1_charAt_3b067_9 (by decide) ?_
  refine jj_iand (v := 115) C dJ1_charAt_3b067_12 (by decide) ?_
  refine jj_i2c (v := 115) C dJ1_charAt_3b067_13 (by decide) ?_
  exact jj_zret C rfl ⟨rfl, rfl⟩ dJ1_charAt_3b067_14 (jj_le rfl) (jj_le rfl)

set_option maxHeartbeats 4000000 in
set_option maxRecDepth 100000 in
theorem ct_J0_charAt_5068e_63 {l : Launch} (hl : l.stackTraces = false) (D : va_G) (cA : Nat → ClassId) (ak : (Nat → Nat) × (Nat → Nat)) : jj_M l D cA ak yJ0_charAt_5068e (.code yJ0_charAt_5068e cJ0_charAt_5068e 2 (some .char)) 3 64 0 0 [] [.ref (ak.1 10), .int 2] (fun (w : va_W) (r : Option Value) => (w = [] ∧ r = some (.int 115))) jj_noX := by
  refine jj_start hl (by decide) jw_391c0f56bd (jj_le rfl) ?_
  intro p e s m args below meth c A hargs hA C hex hmn
  refine jj_aload_n C dJ0_charAt_5068e_0 rfl ?_
  refine jq_callVs (rest := []) C (ct_J0_isLatin1_aae02_11 hl D cA ak) [] [] rfl rfl (by decide) (by decide) (by decide) 10 (by decide) rfl jw_5ca960aa2e jw_b7ba7c03ae jw_c4fe6f1e08 jw_4ea6285965 jw_1aa7753999 jn_J0_isLatin1_aae02 rfl (jj_le rfl) (jj_le rfl) (jj_le rfl) (jj_le rfl) (jj_le rfl) dJ0_charAt_5068e_1 rfl (fun _ _ hX => hX.elim) (fun w1 r O_2 => ?_)
  obtain ⟨rfl, rfl⟩ := O_2
  refine jj_apd rfl ?_
  refine jj_if_eqF (tgt := 16) C dJ0_charAt_5068e_4 (by decide) (by decide) ?_
  refine jj_aload_n C dJ0_charAt_5068e_7 rfl ?_
  refine jj_sval (k := 10) C (by decide) jw_90a506b1c3 dJ0_charAt_5068e_8 ?_
  refine jj_iload_n C dJ0_charAt_5068e_11 rfl ?_
  refine jq_callS (rest := []) C (ct_J1_charAt_3b067_63 hl D cA ak) [] [] rfl rfl (by decide) (by decide) (by decide) jw_7e2463d496 jw_530d7ac64c jw_2a3a2ce6ce jw_6996a9eac3 jn_J1_charAt_3b067 rfl (jj_le rfl) (jj_le rfl) (jj_le rfl) (jj_le rfl) (jj_le rfl) dJ0_charAt_5068e_12 rfl (fun _ _ hX => hX.elim) (fun w1 r O_4 => ?_)
  obtain ⟨rfl, rfl⟩ := O_4
  refine jj_apd rfl ?_
  exact jj_zret C rfl ⟨rfl, rfl⟩ dJ0_charAt_5068e_15 (jj_le rfl) (jj_le rfl)

set_option maxHeartbeats 4000000 in
set_option maxRecDepth 100000 in
theorem ct_J1_charAt_3b067_64 {l : Launch} (hl : l.stackTraces = false) (D : va_G) (cA : Nat → ClassId) (ak : (Nat → Nat) × (Nat → Nat)) : jj_M l D cA ak yJ1_charAt_3b067 (.code yJ1_charAt_3b067 cJ1_charAt_3b067 2 (some .char)) 2 43 0 0 [] [.ref (ak.2 10), .int 3] (fun (w : va_W) (r : Option Value) => (w = [] ∧ r = some (.int 115))) jj_noX := by
  refine jj_start hl (by decide) jw_6996a9eac3 (jj_le rfl) ?_
  intro p e s m args below meth c A hargs hA C hex hmn
  refine jj_iload_n C dJ1_charAt_3b067_0 rfl ?_
  refine jj_aload_n C dJ1_charAt_3b067_1 rfl ?_
  refine jj_slen (k := 10) (v := 4) C (by decide) (by decide) dJ1_charAt_3b067_2 ?_
  refine jq_callS (rest := []) C (ct_J0_checkIndex_df160_4 hl D cA ak) [] [] rfl rfl (by decide) (by decide) (by decide) jw_763fabfbf2 jw_9aa540e9dd jw_4ea6285965 jw_73f64df4e3 jn_J0_checkIndex_df160 rfl (jj_le rfl) (jj_le rfl) (jj_le rfl) (jj_le rfl) (jj_le rfl) dJ1_charAt_3b067_3 rfl (fun _ _ hX => hX.elim) (fun w1 r O_2 => ?_)
  obtain ⟨rfl, rfl⟩ := O_2
  refine jj_apd rfl ?_
  refine jj_aload_n C dJ1_charAt_3b067_6 rfl ?_
  refine jj_iload_n C dJ1_charAt_3b067_7 rfl ?_
  refine jj_sbyt (k := 10) (v := 115) C (by decide) (vp_in_iff.mpr (by decide)) (by decide) dJ1_charAt_3b067_8 ?_
  refine jj_sipush (v := 255) C dJ1_charAt_3b067_9 (by decide) ?_
  refine jj_iand (v := 115) C dJ1_charAt_3b067_12 (by decide) ?_
  refine jj_i2c (v := 115) C dJ1_charAt_3b067_13 (by decide) ?_
  exact jj_zret C rfl ⟨rfl, rfl⟩ dJ1_charAt_3b067_14 (jj_le rfl) (jj_le rfl)

set_option maxHeartbeats 4000000 in
set_option maxRecDepth 100000 in
theorem ct_J0_charAt_5068e_64 {l : Launch} (hl : l.stackTraces = false) (D : va_G) (cA : Nat → ClassId) (ak : (Nat → Nat) × (Nat → Nat)) : jj_M l D cA ak yJ0_charAt_5068e (.code yJ0_charAt_5068e cJ0_charAt_5068e 2 (some .char)) 3 64 0 0 [] [.ref (ak.1 10), .int 3] (fun (w : va_W) (r : Option Value) => (w = [] ∧ r = some (.int 115))) jj_noX := by
  refine jj_start hl (by decide) jw_391c0f56bd (jj_le rfl) ?_
  intro p e s m args below meth c A hargs hA C hex hmn
  refine jj_aload_n C dJ0_charAt_5068e_0 rfl ?_
  refine jq_callVs (rest := []) C (ct_J0_isLatin1_aae02_11 hl D cA ak) [] [] rfl rfl (by decide) (by decide) (by decide) 10 (by decide) rfl jw_5ca960aa2e jw_b7ba7c03ae jw_c4fe6f1e08 jw_4ea6285965 jw_1aa7753999 jn_J0_isLatin1_aae02 rfl (jj_le rfl) (jj_le rfl) (jj_le rfl) (jj_le rfl) (jj_le rfl) dJ0_charAt_5068e_1 rfl (fun _ _ hX => hX.elim) (fun w1 r O_2 => ?_)
  obtain ⟨rfl, rfl⟩ := O_2
  refine jj_apd rfl ?_
  refine jj_if_eqF (tgt := 16) C dJ0_charAt_5068e_4 (by decide) (by decide) ?_
  refine jj_aload_n C dJ0_charAt_5068e_7 rfl ?_
  refine jj_sval (k := 10) C (by decide) jw_90a506b1c3 dJ0_charAt_5068e_8 ?_
  refine jj_iload_n C dJ0_charAt_5068e_11 rfl ?_
  refine jq_callS (rest := []) C (ct_J1_charAt_3b067_64 hl D cA ak) [] [] rfl rfl (by decide) (by decide) (by decide) jw_7e2463d496 jw_530d7ac64c jw_2a3a2ce6ce jw_6996a9eac3 jn_J1_charAt_3b067 rfl (jj_le rfl) (jj_le rfl) (jj_le rfl) (jj_le rfl) (jj_le rfl) dJ0_charAt_5068e_12 rfl (fun _ _ hX => hX.elim) (fun w1 r O_4 => ?_)
  obtain ⟨rfl, rfl⟩ := O_4
  refine jj_apd rfl ?_
  exact jj_zret C rfl ⟨rfl, rfl⟩ dJ0_charAt_5068e_15 (jj_le rfl) (jj_le rfl)

set_option maxHeartbeats 4000000 in
set_option maxRecDepth 100000 in
theorem ct_J0_coder_7d493_12 {l : Launch} (hl : l.stackTraces = false) (D : va_G) (cA : Nat → ClassId) (ak : (Nat → Nat) × (Nat → Nat)) : jj_M l D cA ak yJ0_coder_7d493 (.code yJ0_coder_7d493 cJ0_coder_7d493 1 (some .byte)) 0 0 0 0 [] [.ref (ak.1 11)] (fun (w : va_W) (r : Option Value) => (w = [] ∧ r = some (.int 0))) jj_noX := by
  refine jj_start hl (by decide) jw_084b973d83 (jj_le rfl) ?_
  intro p e s m args below meth c A hargs hA C hex hmn
  refine jj_gcs C jw_478bb18c33 dJ0_coder_7d493_0 ?_
  refine jj_if_eqF (tgt := 13) C dJ0_coder_7d493_3 (by decide) (by decide) ?_
  refine jj_aload_n C dJ0_coder_7d493_6 rfl ?_
  refine jj_scod (k := 11) C (by decide) jw_7816d6e515 dJ0_coder_7d493_7 ?_
  refine jj_goto (tgt := 14) C dJ0_coder_7d493_10 (by decide) ?_
  exact jj_zret C rfl ⟨rfl, rfl⟩ dJ0_coder_7d493_14 (jj_le rfl) (jj_le rfl)

set_option maxHeartbeats 4000000 in
set_option maxRecDepth 100000 in
theorem ct_J0_length_8abf5_12 {l : Launch} (hl : l.stackTraces = false) (D : va_G) (cA : Nat → ClassId) (ak : (Nat → Nat) × (Nat → Nat)) : jj_M l D cA ak yJ0_length_8abf5 (.code yJ0_length_8abf5 cJ0_length_8abf5 1 (some .int)) 1 20 0 0 [] [.ref (ak.1 11)] (fun (w : va_W) (r : Option Value) => (w = [] ∧ r = some (.int 11))) jj_noX := by
  refine jj_start hl (by decide) jw_bbc7045666 (jj_le rfl) ?_
  intro p e s m args below meth c A hargs hA C hex hmn
  refine jj_aload_n C dJ0_length_8abf5_0 rfl ?_
  refine jj_sval (k := 11) C (by decide) jw_90a506b1c3 dJ0_length_8abf5_1 ?_
  refine jj_slen (k := 11) (v := 11) C (by decide) (by decide) dJ0_length_8abf5_4 ?_
  refine jj_aload_n C dJ0_length_8abf5_5 rfl ?_
  refine jq_callVs (rest := [.int 11]) C (ct_J0_coder_7d493_12 hl D cA ak) [] [] rfl rfl (by decide) (by decide) (by decide) 11 (by decide) rfl jw_f46b3464d2 jw_35edddbded jw_31f76f5b78 jw_4ea6285965 jw_084b973d83 jn_J0_coder_7d493 rfl (jj_le rfl) (jj_le rfl) (jj_le rfl) (jj_le rfl) (jj_le rfl) dJ0_length_8abf5_6 rfl (fun _ _ hX => hX.elim) (fun w1 r O_2 => ?_)
  obtain ⟨rfl, rfl⟩ := O_2
  refine jj_apd rfl ?_
  refine jj_ishr (v := 11) C dJ0_length_8abf5_9 (by decide) ?_
  exact jj_iret C ⟨rfl, rfl⟩ dJ0_length_8abf5_10 (jj_le rfl) (jj_le rfl)

set_option maxHeartbeats 4000000 in
set_option maxRecDepth 100000 in
theorem ct_J0_isLatin1_aae02_12 {l : Launch} (hl : l.stackTraces = false) (D : va_G) (cA : Nat → ClassId) (ak : (Nat → Nat) × (Nat → Nat)) : jj_M l D cA ak yJ0_isLatin1_aae02 (.code yJ0_isLatin1_aae02 cJ0_isLatin1_aae02 1 (some .boolean)) 0 0 0 0 [] [.ref (ak.1 11)] (fun (w : va_W) (r : Option Value) => (w = [] ∧ r = some (.int 1))) jj_noX := by
  refine jj_start hl (by decide) jw_1aa7753999 (jj_le rfl) ?_
  intro p e s m args below meth c A hargs hA C hex hmn
  refine jj_gcs C jw_478bb18c33 dJ0_isLatin1_aae02_0 ?_
  refine jj_if_eqF (tgt := 17) C dJ0_isLatin1_aae02_3 (by decide) (by decide) ?_
  refine jj_aload_n C dJ0_isLatin1_aae02_6 rfl ?_
  refine jj_scod (k := 11) C (by decide) jw_7816d6e515 dJ0_isLatin1_aae02_7 ?_
  refine jj_if_neF (tgt := 17) C dJ0_isLatin1_aae02_10 (by decide) (by decide) ?_
  refine jj_iconst (v := 1) C dJ0_isLatin1_aae02_13 (by decide) ?_
  refine jj_goto (tgt := 18) C dJ0_isLatin1_aae02_14 (by decide) ?_
  exact jj_zret C rfl ⟨rfl, rfl⟩ dJ0_isLatin1_aae02_18 (jj_le rfl) (jj_le rfl)

set_option maxHeartbeats 4000000 in
set_option maxRecDepth 100000 in
theorem ct_J3_checkIndex_8e157_49 {l : Launch} (hl : l.stackTraces = false) (D : va_G) (cA : Nat → ClassId) (ak : (Nat → Nat) × (Nat → Nat)) (h0 : Nat) : jj_M l D cA ak yJ3_checkIndex_8e157 (.code yJ3_checkIndex_8e157 cJ3_checkIndex_8e157 3 (some .int)) 0 0 0 0 [] [.int 0, .int 11, .ref h0] (fun (w : va_W) (r : Option Value) => (w = [] ∧ r = some (.int 0))) jj_noX := by
  refine jj_start hl (by decide) jw_da9869a695 (jj_le rfl) ?_
  intro p e s m args below meth c A hargs hA C hex hmn
  refine jj_iload_n C dJ3_checkIndex_8e157_0 rfl ?_
  refine jj_if_ltF (tgt := 9) C dJ3_checkIndex_8e157_1 (by decide) (by decide) ?_
  refine jj_iload_n C dJ3_checkIndex_8e157_4 rfl ?_
  refine jj_iload_n C dJ3_checkIndex_8e157_5 rfl ?_
  refine jj_icmp_ltT (tgt := 16) C dJ3_checkIndex_8e157_6 (by decide) (by decide) ?_
  refine jj_iload_n C dJ3_checkIndex_8e157_16 rfl ?_
  exact jj_iret C ⟨rfl, rfl⟩ dJ3_checkIndex_8e157_17 (jj_le rfl) (jj_le rfl)

set_option maxHeartbeats 4000000 in
set_option maxRecDepth 100000 in
theorem ct_J3_checkIndex_8e157_50 {l : Launch} (hl : l.stackTraces = false) (D : va_G) (cA : Nat → ClassId) (ak : (Nat → Nat) × (Nat → Nat)) : jj_M l D cA ak yJ3_checkIndex_8e157 (.code yJ3_checkIndex_8e157 cJ3_checkIndex_8e157 3 (some .int)) 0 0 0 0 [] [.int 0, .int 11, .null] (fun (w : va_W) (r : Option Value) => (w = [] ∧ r = some (.int 0))) jj_noX := by
  refine jj_start hl (by decide) jw_da9869a695 (jj_le rfl) ?_
  intro p e s m args below meth c A hargs hA C hex hmn
  refine jj_iload_n C dJ3_checkIndex_8e157_0 rfl ?_
  refine jj_if_ltF (tgt := 9) C dJ3_checkIndex_8e157_1 (by decide) (by decide) ?_
  refine jj_iload_n C dJ3_checkIndex_8e157_4 rfl ?_
  refine jj_iload_n C dJ3_checkIndex_8e157_5 rfl ?_
  refine jj_icmp_ltT (tgt := 16) C dJ3_checkIndex_8e157_6 (by decide) (by decide) ?_
  refine jj_iload_n C dJ3_checkIndex_8e157_16 rfl ?_
  exact jj_iret C ⟨rfl, rfl⟩ dJ3_checkIndex_8e157_17 (jj_le rfl) (jj_le rfl)

set_option maxHeartbeats 4000000 in
set_option maxRecDepth 100000 in
theorem ct_J0_checkIndex_df160_25 {l : Launch} (hl : l.stackTraces = false) (D : va_G) (cA : Nat → ClassId) (ak : (Nat → Nat) × (Nat → Nat)) : jj_M l D cA ak yJ0_checkIndex_df160 (.code yJ0_checkIndex_df160 cJ0_checkIndex_df160 2 none) 1 22 0 0 [] [.int 0, .int 11] (fun (w : va_W) (r : Option Value) => (w = [] ∧ r = none)) jj_noX := by
  refine jj_start hl (by decide) jw_73f64df4e3 (jj_le rfl) ?_
  intro p e s m args below meth c A hargs hA C hex hmn
  refine jj_iload_n C dJ0_checkIndex_df160_0 rfl ?_
  refine jj_iload_n C dJ0_checkIndex_df160_1 rfl ?_
  refine jj_gfm C jw_040150fc39 dJ0_checkIndex_df160_2 (fun t_1 => ?_) ?_
  · refine jq_callS (rest := []) C (ct_J3_checkIndex_8e157_49 hl D cA ak t_1) [] [] rfl rfl (by decide) (by decide) (by decide) jw_a7a8b385a1 jw_8d35bed6b0 jw_2c7dffdd00 jw_da9869a695 jn_J3_checkIndex_8e157 rfl (jj_le rfl) (jj_le rfl) (jj_le rfl) (jj_le rfl) (jj_le rfl) dJ0_checkIndex_df160_5 rfl (fun _ _ hX => hX.elim) (fun w1 r O_3 => ?_)
    obtain ⟨rfl, rfl⟩ := O_3
    refine jj_apd rfl ?_
    refine jj_pop C dJ0_checkIndex_df160_8 rfl ?_
    exact jj_vret C ⟨rfl, rfl⟩ dJ0_checkIndex_df160_9 (jj_le rfl) (jj_le rfl)
  · refine jq_callS (rest := []) C (ct_J3_checkIndex_8e157_50 hl D cA ak) [] [] rfl rfl (by decide) (by decide) (by decide) jw_a7a8b385a1 jw_8d35bed6b0 jw_2c7dffdd00 jw_da9869a695 jn_J3_checkIndex_8e157 rfl (jj_le rfl) (jj_le rfl) (jj_le rfl) (jj_le rfl) (jj_le rfl) dJ0_checkIndex_df160_5 rfl (fun _ _ hX => hX.elim) (fun w1 r O_5 => ?_)
    obtain ⟨rfl, rfl⟩ := O_5
    refine jj_apd rfl ?_
    refine jj_pop C dJ0_checkIndex_df160_8 rfl ?_
    exact jj_vret C ⟨rfl, rfl⟩ dJ0_checkIndex_df160_9 (jj_le rfl) (jj_le rfl)

set_option maxHeartbeats 4000000 in
set_option maxRecDepth 100000 in
theorem ct_J1_charAt_3b067_65 {l : Launch} (hl : l.stackTraces = false) (D : va_G) (cA : Nat → ClassId) (ak : (Nat → Nat) × (Nat → Nat)) : jj_M l D cA ak yJ1_charAt_3b067 (.code yJ1_charAt_3b067 cJ1_charAt_3b067 2 (some .char)) 2 43 0 0 [] [.ref (ak.2 11), .int 0] (fun (w : va_W) (r : Option Value) => (w = [] ∧ r = some (.int 99))) jj_noX := by
  refine jj_start hl (by decide) jw_6996a9eac3 (jj_le rfl) ?_
  intro p e s m args below meth c A hargs hA C hex hmn
  refine jj_iload_n C dJ1_charAt_3b067_0 rfl ?_
  refine jj_aload_n C dJ1_charAt_3b067_1 rfl ?_
  refine jj_slen (k := 11) (v := 11) C (by decide) (by decide) dJ1_charAt_3b067_2 ?_
  refine jq_callS (rest := []) C (ct_J0_checkIndex_df160_25 hl D cA ak) [] [] rfl rfl (by decide) (by decide) (by decide) jw_763fabfbf2 jw_9aa540e9dd jw_4ea6285965 jw_73f64df4e3 jn_J0_checkIndex_df160 rfl (jj_le rfl) (jj_le rfl) (jj_le rfl) (jj_le rfl) (jj_le rfl) dJ1_charAt_3b067_3 rfl (fun _ _ hX => hX.elim) (fun w1 r O_2 => ?_)
  obtain ⟨rfl, rfl⟩ := O_2
  refine jj_apd rfl ?_
  refine jj_aload_n C dJ1_charAt_3b067_6 rfl ?_
  refine jj_iload_n C dJ1_charAt_3b067_7 rfl ?_
  refine jj_sbyt (k := 11) (v := 99) C (by decide) (vp_in_iff.mpr (by decide)) (by decide) dJ1_charAt_3b067_8 ?_
  refine jj_sipush (v := 255) C dJ1_charAt_3b067_9 (by decide) ?_
  refine jj_iand (v := 99) C dJ1_charAt_3b067_12 (by decide) ?_
  refine jj_i2c (v := 99) C dJ1_charAt_3b067_13 (by decide) ?_
  exact jj_zret C rfl ⟨rfl, rfl⟩ dJ1_charAt_3b067_14 (jj_le rfl) (jj_le rfl)

set_option maxHeartbeats 4000000 in
set_option maxRecDepth 100000 in
theorem ct_J0_charAt_5068e_65 {l : Launch} (hl : l.stackTraces = false) (D : va_G) (cA : Nat → ClassId) (ak : (Nat → Nat) × (Nat → Nat)) : jj_M l D cA ak yJ0_charAt_5068e (.code yJ0_charAt_5068e cJ0_charAt_5068e 2 (some .char)) 3 64 0 0 [] [.ref (ak.1 11), .int 0] (fun (w : va_W) (r : Option Value) => (w = [] ∧ r = some (.int 99))) jj_noX := by
  refine jj_start hl (by decide) jw_391c0f56bd (jj_le rfl) ?_
  intro p e s m args below meth c A hargs hA C hex hmn
  refine jj_aload_n C dJ0_charAt_5068e_0 rfl ?_
  refine jq_callVs (rest := []) C (ct_J0_isLatin1_aae02_12 hl D cA ak) [] [] rfl rfl (by decide) (by decide) (by decide) 11 (by decide) rfl jw_5ca960aa2e jw_b7ba7c03ae jw_c4fe6f1e08 jw_4ea6285965 jw_1aa7753999 jn_J0_isLatin1_aae02 rfl (jj_le rfl) (jj_le rfl) (jj_le rfl) (jj_le rfl) (jj_le rfl) dJ0_charAt_5068e_1 rfl (fun _ _ hX => hX.elim) (fun w1 r O_2 => ?_)
  obtain ⟨rfl, rfl⟩ := O_2
  refine jj_apd rfl ?_
  refine jj_if_eqF (tgt := 16) C dJ0_charAt_5068e_4 (by decide) (by decide) ?_
  refine jj_aload_n C dJ0_charAt_5068e_7 rfl ?_
  refine jj_sval (k := 11) C (by decide) jw_90a506b1c3 dJ0_charAt_5068e_8 ?_
  refine jj_iload_n C dJ0_charAt_5068e_11 rfl ?_
  refine jq_callS (rest := []) C (ct_J1_charAt_3b067_65 hl D cA ak) [] [] rfl rfl (by decide) (by decide) (by decide) jw_7e2463d496 jw_530d7ac64c jw_2a3a2ce6ce jw_6996a9eac3 jn_J1_charAt_3b067 rfl (jj_le rfl) (jj_le rfl) (jj_le rfl) (jj_le rfl) (jj_le rfl) dJ0_charAt_5068e_12 rfl (fun _ _ hX => hX.elim) (fun w1 r O_4 => ?_)
  obtain ⟨rfl, rfl⟩ := O_4
  refine jj_apd rfl ?_
  exact jj_zret C rfl ⟨rfl, rfl⟩ dJ0_charAt_5068e_15 (jj_le rfl) (jj_le rfl)

set_option maxHeartbeats 4000000 in
set_option maxRecDepth 100000 in
theorem ct_J3_checkIndex_8e157_51 {l : Launch} (hl : l.stackTraces = false) (D : va_G) (cA : Nat → ClassId) (ak : (Nat → Nat) × (Nat → Nat)) (h0 : Nat) : jj_M l D cA ak yJ3_checkIndex_8e157 (.code yJ3_checkIndex_8e157 cJ3_checkIndex_8e157 3 (some .int)) 0 0 0 0 [] [.int 1, .int 11, .ref h0] (fun (w : va_W) (r : Option Value) => (w = [] ∧ r = some (.int 1))) jj_noX := by
  refine jj_start hl (by decide) jw_da9869a695 (jj_le rfl) ?_
  intro p e s m args below meth c A hargs hA C hex hmn
  refine jj_iload_n C dJ3_checkIndex_8e157_0 rfl ?_
  refine jj_if_ltF (tgt := 9) C dJ3_checkIndex_8e157_1 (by decide) (by decide) ?_
  refine jj_iload_n C dJ3_checkIndex_8e157_4 rfl ?_
  refine jj_iload_n C dJ3_checkIndex_8e157_5 rfl ?_
  refine jj_icmp_ltT (tgt := 16) C dJ3_checkIndex_8e157_6 (by decide) (by decide) ?_
  refine jj_iload_n C dJ3_checkIndex_8e157_16 rfl ?_
  exact jj_iret C ⟨rfl, rfl⟩ dJ3_checkIndex_8e157_17 (jj_le rfl) (jj_le rfl)

set_option maxHeartbeats 4000000 in
set_option maxRecDepth 100000 in
theorem ct_J3_checkIndex_8e157_52 {l : Launch} (hl : l.stackTraces = false) (D : va_G) (cA : Nat → ClassId) (ak : (Nat → Nat) × (Nat → Nat)) : jj_M l D cA ak yJ3_checkIndex_8e157 (.code yJ3_checkIndex_8e157 cJ3_checkIndex_8e157 3 (some .int)) 0 0 0 0 [] [.int 1, .int 11, .null] (fun (w : va_W) (r : Option Value) => (w = [] ∧ r = some (.int 1))) jj_noX := by
  refine jj_start hl (by decide) jw_da9869a695 (jj_le rfl) ?_
  intro p e s m args below meth c A hargs hA C hex hmn
  refine jj_iload_n C dJ3_checkIndex_8e157_0 rfl ?_
  refine jj_if_ltF (tgt := 9) C dJ3_checkIndex_8e157_1 (by decide) (by decide) ?_
  refine jj_iload_n C dJ3_checkIndex_8e157_4 rfl ?_
  refine jj_iload_n C dJ3_checkIndex_8e157_5 rfl ?_
  refine jj_icmp_ltT (tgt := 16) C dJ3_checkIndex_8e157_6 (by decide) (by decide) ?_
  refine jj_iload_n C dJ3_checkIndex_8e157_16 rfl ?_
  exact jj_iret C ⟨rfl, rfl⟩ dJ3_checkIndex_8e157_17 (jj_le rfl) (jj_le rfl)

set_option maxHeartbeats 4000000 in
set_option maxRecDepth 100000 in
theorem ct_J0_checkIndex_df160_26 {l : Launch} (hl : l.stackTraces = false) (D : va_G) (cA : Nat → ClassId) (ak : (Nat → Nat) × (Nat → Nat)) : jj_M l D cA ak yJ0_checkIndex_df160 (.code yJ0_checkIndex_df160 cJ0_checkIndex_df160 2 none) 1 22 0 0 [] [.int 1, .int 11] (fun (w : va_W) (r : Option Value) => (w = [] ∧ r = none)) jj_noX := by
  refine jj_start hl (by decide) jw_73f64df4e3 (jj_le rfl) ?_
  intro p e s m args below meth c A hargs hA C hex hmn
  refine jj_iload_n C dJ0_checkIndex_df160_0 rfl ?_
  refine jj_iload_n C dJ0_checkIndex_df160_1 rfl ?_
  refine jj_gfm C jw_040150fc39 dJ0_checkIndex_df160_2 (fun t_1 => ?_) ?_
  · refine jq_callS (rest := []) C (ct_J3_checkIndex_8e157_51 hl D cA ak t_1) [] [] rfl rfl (by decide) (by decide) (by decide) jw_a7a8b385a1 jw_8d35bed6b0 jw_2c7dffdd00 jw_da9869a695 jn_J3_checkIndex_8e157 rfl (jj_le rfl) (jj_le rfl) (jj_le rfl) (jj_le rfl) (jj_le rfl) dJ0_checkIndex_df160_5 rfl (fun _ _ hX => hX.elim) (fun w1 r O_3 => ?_)
    obtain ⟨rfl, rfl⟩ := O_3
    refine jj_apd rfl ?_
    refine jj_pop C dJ0_checkIndex_df160_8 rfl ?_
    exact jj_vret C ⟨rfl, rfl⟩ dJ0_checkIndex_df160_9 (jj_le rfl) (jj_le rfl)
  · refine jq_callS (rest := []) C (ct_J3_checkIndex_8e157_52 hl D cA ak) [] [] rfl rfl (by decide) (by decide) (by decide) jw_a7a8b385a1 jw_8d35bed6b0 jw_2c7dffdd00 jw_da9869a695 jn_J3_checkIndex_8e157 rfl (jj_le rfl) (jj_le rfl) (jj_le rfl) (jj_le rfl) (jj_le rfl) dJ0_checkIndex_df160_5 rfl (fun _ _ hX => hX.elim) (fun w1 r O_5 => ?_)
    obtain ⟨rfl, rfl⟩ := O_5
    refine jj_apd rfl ?_
    refine jj_pop C dJ0_checkIndex_df160_8 rfl ?_
    exact jj_vret C ⟨rfl, rfl⟩ dJ0_checkIndex_df160_9 (jj_le rfl) (jj_le rfl)

